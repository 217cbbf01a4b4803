theorem dX0_init_0 : decode cX0_init 0 = .ok (.aload_n 0, 1) := by decide +kernel
theorem dX0_init_1 : decode cX0_init 1 = .ok (.invokespecial 3, 3) := by decide +kernel
theorem dX0_init_4 : decode cX0_init 4 = .ok (.aload_n 0, 1) := by decide +kernel
theorem dX0_init_5 : decode cX0_init 5 = .ok (.bipush 36, 2) := by decide +kernel
theorem dX0_init_7 : decode cX0_init 7 = .ok (.newarray .int, 2) := by decide +kernel
theorem dX0_init_9 : decode cX0_init 9 = .ok (.putfield 9, 3) := by decide +kernel
theorem dX0_init_12 : decode cX0_init 12 = .ok (.return_, 1) := by decide +kernel
theorem dX0_clear_0 : decode cX0_clear 0 = .ok (.aload_n 0, 1) := by decide +kernel
theorem dX0_clear_1 : decode cX0_clear 1 = .ok (.iconst 0, 1) := by decide +kernel
theorem dX0_clear_2 : decode cX0_clear 2 = .ok (.putfield 15, 3) := by decide +kernel
theorem dX0_clear_5 : decode cX0_clear 5 = .ok (.aload_n 0, 1) := by decide +kernel
theorem dX0_clear_6 : decode cX0_clear 6 = .ok (.iconst 0, 1) := by decide +kernel
theorem dX0_clear_7 : decode cX0_clear 7 = .ok (.putfield 19, 3) := by decide +kernel
theorem dX0_clear_10 : decode cX0_clear 10 = .ok (.return_, 1) := by decide +kernel
theorem dX0_offer_0 : decode cX0_offer 0 = .ok (.iconst 0, 1) := by decide +kernel
theorem dX0_offer_1 : decode cX0_offer 1 = .ok (.istore_n 2, 1) := by decide +kernel
theorem dX0_offer_2 : decode cX0_offer 2 = .ok (.iload_n 2, 1) := by decide +kernel
theorem dX0_offer_3 : decode cX0_offer 3 = .ok (.aload_n 0, 1) := by decide +kernel
theorem dX0_offer_4 : decode cX0_offer 4 = .ok (.getfield 15, 3) := by decide +kernel
theorem dX0_offer_7 : decode cX0_offer 7 = .ok (.if_icmp .ge 23, 3) := by decide +kernel
theorem dX0_offer_10 : decode cX0_offer 10 = .ok (.iload_n 1, 1) := by decide +kernel
theorem dX0_offer_11 : decode cX0_offer 11 = .ok (.aload_n 0, 1) := by decide +kernel
theorem dX0_offer_12 : decode cX0_offer 12 = .ok (.getfield 9, 3) := by decide +kernel
theorem dX0_offer_15 : decode cX0_offer 15 = .ok (.iload_n 2, 1) := by decide +kernel
theorem dX0_offer_16 : decode cX0_offer 16 = .ok (.iaload, 1) := by decide +kernel
theorem dX0_offer_17 : decode cX0_offer 17 = .ok (.iconst (-1), 1) := by decide +kernel
theorem dX0_offer_18 : decode cX0_offer 18 = .ok (.ixor, 1) := by decide +kernel
theorem dX0_offer_19 : decode cX0_offer 19 = .ok (.iand, 1) := by decide +kernel
theorem dX0_offer_20 : decode cX0_offer 20 = .ok (.ifCond .ne 4, 3) := by decide +kernel
theorem dX0_offer_23 : decode cX0_offer 23 = .ok (.return_, 1) := by decide +kernel
theorem dX0_offer_24 : decode cX0_offer 24 = .ok (.iinc 2 1, 3) := by decide +kernel
theorem dX0_offer_27 : decode cX0_offer 27 = .ok (.goto (-25), 3) := by decide +kernel
theorem dX0_offer_30 : decode cX0_offer 30 = .ok (.iconst 0, 1) := by decide +kernel
theorem dX0_offer_31 : decode cX0_offer 31 = .ok (.istore_n 2, 1) := by decide +kernel
theorem dX0_offer_32 : decode cX0_offer 32 = .ok (.iconst 0, 1) := by decide +kernel
theorem dX0_offer_33 : decode cX0_offer 33 = .ok (.istore_n 3, 1) := by decide +kernel
theorem dX0_offer_34 : decode cX0_offer 34 = .ok (.iload_n 3, 1) := by decide +kernel
theorem dX0_offer_35 : decode cX0_offer 35 = .ok (.aload_n 0, 1) := by decide +kernel
theorem dX0_offer_36 : decode cX0_offer 36 = .ok (.getfield 15, 3) := by decide +kernel
theorem dX0_offer_39 : decode cX0_offer 39 = .ok (.if_icmp .ge 37, 3) := by decide +kernel
theorem dX0_offer_42 : decode cX0_offer 42 = .ok (.aload_n 0, 1) := by decide +kernel
theorem dX0_offer_43 : decode cX0_offer 43 = .ok (.getfield 9, 3) := by decide +kernel
theorem dX0_offer_46 : decode cX0_offer 46 = .ok (.iload_n 3, 1) := by decide +kernel
theorem dX0_offer_47 : decode cX0_offer 47 = .ok (.iaload, 1) := by decide +kernel
theorem dX0_offer_48 : decode cX0_offer 48 = .ok (.iload_n 1, 1) := by decide +kernel
theorem dX0_offer_49 : decode cX0_offer 49 = .ok (.iconst (-1), 1) := by decide +kernel
theorem dX0_offer_50 : decode cX0_offer 50 = .ok (.ixor, 1) := by decide +kernel
theorem dX0_offer_51 : decode cX0_offer 51 = .ok (.iand, 1) := by decide +kernel
theorem dX0_offer_52 : decode cX0_offer 52 = .ok (.ifCond .eq 18, 3) := by decide +kernel
theorem dX0_offer_55 : decode cX0_offer 55 = .ok (.aload_n 0, 1) := by decide +kernel
theorem dX0_offer_56 : decode cX0_offer 56 = .ok (.getfield 9, 3) := by decide +kernel
theorem dX0_offer_59 : decode cX0_offer 59 = .ok (.iload_n 2, 1) := by decide +kernel
theorem dX0_offer_60 : decode cX0_offer 60 = .ok (.aload_n 0, 1) := by decide +kernel
theorem dX0_offer_61 : decode cX0_offer 61 = .ok (.getfield 9, 3) := by decide +kernel
theorem dX0_offer_64 : decode cX0_offer 64 = .ok (.iload_n 3, 1) := by decide +kernel
theorem dX0_offer_65 : decode cX0_offer 65 = .ok (.iaload, 1) := by decide +kernel
theorem dX0_offer_66 : decode cX0_offer 66 = .ok (.iastore, 1) := by decide +kernel
theorem dX0_offer_67 : decode cX0_offer 67 = .ok (.iinc 2 1, 3) := by decide +kernel
theorem dX0_offer_70 : decode cX0_offer 70 = .ok (.iinc 3 1, 3) := by decide +kernel
theorem dX0_offer_73 : decode cX0_offer 73 = .ok (.goto (-39), 3) := by decide +kernel
theorem dX0_offer_76 : decode cX0_offer 76 = .ok (.iload_n 2, 1) := by decide +kernel
theorem dX0_offer_77 : decode cX0_offer 77 = .ok (.bipush 36, 2) := by decide +kernel
theorem dX0_offer_79 : decode cX0_offer 79 = .ok (.if_icmp .ge 27, 3) := by decide +kernel
theorem dX0_offer_82 : decode cX0_offer 82 = .ok (.aload_n 0, 1) := by decide +kernel
theorem dX0_offer_83 : decode cX0_offer 83 = .ok (.getfield 9, 3) := by decide +kernel
theorem dX0_offer_86 : decode cX0_offer 86 = .ok (.iload_n 2, 1) := by decide +kernel
theorem dX0_offer_87 : decode cX0_offer 87 = .ok (.iload_n 1, 1) := by decide +kernel
theorem dX0_offer_88 : decode cX0_offer 88 = .ok (.iastore, 1) := by decide +kernel
theorem dX0_offer_89 : decode cX0_offer 89 = .ok (.aload_n 0, 1) := by decide +kernel
theorem dX0_offer_90 : decode cX0_offer 90 = .ok (.iload_n 2, 1) := by decide +kernel
theorem dX0_offer_91 : decode cX0_offer 91 = .ok (.iconst 1, 1) := by decide +kernel
theorem dX0_offer_92 : decode cX0_offer 92 = .ok (.iadd, 1) := by decide +kernel
theorem dX0_offer_93 : decode cX0_offer 93 = .ok (.putfield 15, 3) := by decide +kernel
theorem dX0_offer_96 : decode cX0_offer 96 = .ok (.aload_n 0, 1) := by decide +kernel
theorem dX0_offer_97 : decode cX0_offer 97 = .ok (.dup, 1) := by decide +kernel
theorem dX0_offer_98 : decode cX0_offer 98 = .ok (.getfield 19, 3) := by decide +kernel
theorem dX0_offer_101 : decode cX0_offer 101 = .ok (.iload_n 1, 1) := by decide +kernel
theorem dX0_offer_102 : decode cX0_offer 102 = .ok (.ior, 1) := by decide +kernel
theorem dX0_offer_103 : decode cX0_offer 103 = .ok (.putfield 19, 3) := by decide +kernel
theorem dX0_offer_106 : decode cX0_offer 106 = .ok (.return_, 1) := by decide +kernel
theorem dX0_least_0 : decode cX0_least 0 = .ok (.iconst 0, 1) := by decide +kernel
theorem dX0_least_1 : decode cX0_least 1 = .ok (.istore_n 1, 1) := by decide +kernel
theorem dX0_least_2 : decode cX0_least 2 = .ok (.iload_n 1, 1) := by decide +kernel
theorem dX0_least_3 : decode cX0_least 3 = .ok (.bipush 14, 2) := by decide +kernel
theorem dX0_least_5 : decode cX0_least 5 = .ok (.if_icmp .ge 30, 3) := by decide +kernel
theorem dX0_least_8 : decode cX0_least 8 = .ok (.aload_n 0, 1) := by decide +kernel
theorem dX0_least_9 : decode cX0_least 9 = .ok (.getfield 9, 3) := by decide +kernel
theorem dX0_least_12 : decode cX0_least 12 = .ok (.aload_n 0, 1) := by decide +kernel
theorem dX0_least_13 : decode cX0_least 13 = .ok (.getfield 15, 3) := by decide +kernel
theorem dX0_least_16 : decode cX0_least 16 = .ok (.aload_n 0, 1) := by decide +kernel
theorem dX0_least_17 : decode cX0_least 17 = .ok (.getfield 19, 3) := by decide +kernel
theorem dX0_least_20 : decode cX0_least 20 = .ok (.iload_n 1, 1) := by decide +kernel
theorem dX0_least_21 : decode cX0_least 21 = .ok (.invokestatic 22, 3) := by decide +kernel
theorem dX0_least_24 : decode cX0_least 24 = .ok (.ifCond .eq 5, 3) := by decide +kernel
theorem dX0_least_27 : decode cX0_least 27 = .ok (.iload_n 1, 1) := by decide +kernel
theorem dX0_least_28 : decode cX0_least 28 = .ok (.ireturn, 1) := by decide +kernel
theorem dX0_least_29 : decode cX0_least 29 = .ok (.iinc 1 1, 3) := by decide +kernel
theorem dX0_least_32 : decode cX0_least 32 = .ok (.goto (-30), 3) := by decide +kernel
theorem dX0_least_35 : decode cX0_least 35 = .ok (.bipush 14, 2) := by decide +kernel
theorem dX0_least_37 : decode cX0_least 37 = .ok (.ireturn, 1) := by decide +kernel
theorem dX0_suffice_0 : decode cX0_suffice 0 = .ok (.iload_n 2, 1) := by decide +kernel
theorem dX0_suffice_1 : decode cX0_suffice 1 = .ok (.ifCond .ne 5, 3) := by decide +kernel
theorem dX0_suffice_4 : decode cX0_suffice 4 = .ok (.iconst 1, 1) := by decide +kernel
theorem dX0_suffice_5 : decode cX0_suffice 5 = .ok (.ireturn, 1) := by decide +kernel
theorem dX0_suffice_6 : decode cX0_suffice 6 = .ok (.iload_n 3, 1) := by decide +kernel
theorem dX0_suffice_7 : decode cX0_suffice 7 = .ok (.aload_n 0, 1) := by decide +kernel
theorem dX0_suffice_8 : decode cX0_suffice 8 = .ok (.iload_n 1, 1) := by decide +kernel
theorem dX0_suffice_9 : decode cX0_suffice 9 = .ok (.iload_n 2, 1) := by decide +kernel
theorem dX0_suffice_10 : decode cX0_suffice 10 = .ok (.invokestatic 26, 3) := by decide +kernel
theorem dX0_suffice_13 : decode cX0_suffice 13 = .ok (.imul, 1) := by decide +kernel
theorem dX0_suffice_14 : decode cX0_suffice 14 = .ok (.iload_n 2, 1) := by decide +kernel
theorem dX0_suffice_15 : decode cX0_suffice 15 = .ok (.invokestatic 30, 3) := by decide +kernel
theorem dX0_suffice_18 : decode cX0_suffice 18 = .ok (.if_icmp .ge 5, 3) := by decide +kernel
theorem dX0_suffice_21 : decode cX0_suffice 21 = .ok (.iconst 0, 1) := by decide +kernel
theorem dX0_suffice_22 : decode cX0_suffice 22 = .ok (.ireturn, 1) := by decide +kernel
theorem dX0_suffice_23 : decode cX0_suffice 23 = .ok (.aload_n 0, 1) := by decide +kernel
theorem dX0_suffice_24 : decode cX0_suffice 24 = .ok (.iload_n 1, 1) := by decide +kernel
theorem dX0_suffice_25 : decode cX0_suffice 25 = .ok (.iload_n 2, 1) := by decide +kernel
theorem dX0_suffice_26 : decode cX0_suffice 26 = .ok (.invokestatic 36, 3) := by decide +kernel
theorem dX0_suffice_29 : decode cX0_suffice 29 = .ok (.istore 4, 2) := by decide +kernel
theorem dX0_suffice_31 : decode cX0_suffice 31 = .ok (.iconst 0, 1) := by decide +kernel
theorem dX0_suffice_32 : decode cX0_suffice 32 = .ok (.istore 5, 2) := by decide +kernel
theorem dX0_suffice_34 : decode cX0_suffice 34 = .ok (.iload 5, 2) := by decide +kernel
theorem dX0_suffice_36 : decode cX0_suffice 36 = .ok (.iload_n 1, 1) := by decide +kernel
theorem dX0_suffice_37 : decode cX0_suffice 37 = .ok (.if_icmp .ge 40, 3) := by decide +kernel
theorem dX0_suffice_40 : decode cX0_suffice 40 = .ok (.aload_n 0, 1) := by decide +kernel
theorem dX0_suffice_41 : decode cX0_suffice 41 = .ok (.iload 5, 2) := by decide +kernel
theorem dX0_suffice_43 : decode cX0_suffice 43 = .ok (.iaload, 1) := by decide +kernel
theorem dX0_suffice_44 : decode cX0_suffice 44 = .ok (.iload 4, 2) := by decide +kernel
theorem dX0_suffice_46 : decode cX0_suffice 46 = .ok (.iand, 1) := by decide +kernel
theorem dX0_suffice_47 : decode cX0_suffice 47 = .ok (.ifCond .eq 24, 3) := by decide +kernel
theorem dX0_suffice_50 : decode cX0_suffice 50 = .ok (.aload_n 0, 1) := by decide +kernel
theorem dX0_suffice_51 : decode cX0_suffice 51 = .ok (.iload_n 1, 1) := by decide +kernel
theorem dX0_suffice_52 : decode cX0_suffice 52 = .ok (.iload_n 2, 1) := by decide +kernel
theorem dX0_suffice_53 : decode cX0_suffice 53 = .ok (.aload_n 0, 1) := by decide +kernel
theorem dX0_suffice_54 : decode cX0_suffice 54 = .ok (.iload 5, 2) := by decide +kernel
theorem dX0_suffice_56 : decode cX0_suffice 56 = .ok (.iaload, 1) := by decide +kernel
theorem dX0_suffice_57 : decode cX0_suffice 57 = .ok (.iconst (-1), 1) := by decide +kernel
theorem dX0_suffice_58 : decode cX0_suffice 58 = .ok (.ixor, 1) := by decide +kernel
theorem dX0_suffice_59 : decode cX0_suffice 59 = .ok (.iand, 1) := by decide +kernel
theorem dX0_suffice_60 : decode cX0_suffice 60 = .ok (.iload_n 3, 1) := by decide +kernel
theorem dX0_suffice_61 : decode cX0_suffice 61 = .ok (.iconst 1, 1) := by decide +kernel
theorem dX0_suffice_62 : decode cX0_suffice 62 = .ok (.isub, 1) := by decide +kernel
theorem dX0_suffice_63 : decode cX0_suffice 63 = .ok (.invokestatic 22, 3) := by decide +kernel
theorem dX0_suffice_66 : decode cX0_suffice 66 = .ok (.ifCond .eq 5, 3) := by decide +kernel
theorem dX0_suffice_69 : decode cX0_suffice 69 = .ok (.iconst 1, 1) := by decide +kernel
theorem dX0_suffice_70 : decode cX0_suffice 70 = .ok (.ireturn, 1) := by decide +kernel
theorem dX0_suffice_71 : decode cX0_suffice 71 = .ok (.iinc 5 1, 3) := by decide +kernel
theorem dX0_suffice_74 : decode cX0_suffice 74 = .ok (.goto (-40), 3) := by decide +kernel
theorem dX0_suffice_77 : decode cX0_suffice 77 = .ok (.iconst 0, 1) := by decide +kernel
theorem dX0_suffice_78 : decode cX0_suffice 78 = .ok (.ireturn, 1) := by decide +kernel
theorem dX0_widest_0 : decode cX0_widest 0 = .ok (.iconst 0, 1) := by decide +kernel
theorem dX0_widest_1 : decode cX0_widest 1 = .ok (.istore_n 3, 1) := by decide +kernel
theorem dX0_widest_2 : decode cX0_widest 2 = .ok (.iconst 0, 1) := by decide +kernel
theorem dX0_widest_3 : decode cX0_widest 3 = .ok (.istore 4, 2) := by decide +kernel
theorem dX0_widest_5 : decode cX0_widest 5 = .ok (.iload 4, 2) := by decide +kernel
theorem dX0_widest_7 : decode cX0_widest 7 = .ok (.iload_n 1, 1) := by decide +kernel
theorem dX0_widest_8 : decode cX0_widest 8 = .ok (.if_icmp .ge 23, 3) := by decide +kernel
theorem dX0_widest_11 : decode cX0_widest 11 = .ok (.iload_n 3, 1) := by decide +kernel
theorem dX0_widest_12 : decode cX0_widest 12 = .ok (.aload_n 0, 1) := by decide +kernel
theorem dX0_widest_13 : decode cX0_widest 13 = .ok (.iload 4, 2) := by decide +kernel
theorem dX0_widest_15 : decode cX0_widest 15 = .ok (.iaload, 1) := by decide +kernel
theorem dX0_widest_16 : decode cX0_widest 16 = .ok (.iload_n 2, 1) := by decide +kernel
theorem dX0_widest_17 : decode cX0_widest 17 = .ok (.iand, 1) := by decide +kernel
theorem dX0_widest_18 : decode cX0_widest 18 = .ok (.invokestatic 30, 3) := by decide +kernel
theorem dX0_widest_21 : decode cX0_widest 21 = .ok (.invokestatic 39, 3) := by decide +kernel
theorem dX0_widest_24 : decode cX0_widest 24 = .ok (.istore_n 3, 1) := by decide +kernel
theorem dX0_widest_25 : decode cX0_widest 25 = .ok (.iinc 4 1, 3) := by decide +kernel
theorem dX0_widest_28 : decode cX0_widest 28 = .ok (.goto (-23), 3) := by decide +kernel
theorem dX0_widest_31 : decode cX0_widest 31 = .ok (.iload_n 3, 1) := by decide +kernel
theorem dX0_widest_32 : decode cX0_widest 32 = .ok (.ireturn, 1) := by decide +kernel
theorem dX0_rarest_0 : decode cX0_rarest 0 = .ok (.iconst 0, 1) := by decide +kernel
theorem dX0_rarest_1 : decode cX0_rarest 1 = .ok (.istore_n 3, 1) := by decide +kernel
theorem dX0_rarest_2 : decode cX0_rarest 2 = .ok (.bipush 37, 2) := by decide +kernel
theorem dX0_rarest_4 : decode cX0_rarest 4 = .ok (.istore 4, 2) := by decide +kernel
theorem dX0_rarest_6 : decode cX0_rarest 6 = .ok (.iconst 0, 1) := by decide +kernel
theorem dX0_rarest_7 : decode cX0_rarest 7 = .ok (.istore 5, 2) := by decide +kernel
theorem dX0_rarest_9 : decode cX0_rarest 9 = .ok (.iload 5, 2) := by decide +kernel
theorem dX0_rarest_11 : decode cX0_rarest 11 = .ok (.bipush 14, 2) := by decide +kernel
theorem dX0_rarest_13 : decode cX0_rarest 13 = .ok (.if_icmp .ge 50, 3) := by decide +kernel
theorem dX0_rarest_16 : decode cX0_rarest 16 = .ok (.iload_n 2, 1) := by decide +kernel
theorem dX0_rarest_17 : decode cX0_rarest 17 = .ok (.iload 5, 2) := by decide +kernel
theorem dX0_rarest_19 : decode cX0_rarest 19 = .ok (.ishr, 1) := by decide +kernel
theorem dX0_rarest_20 : decode cX0_rarest 20 = .ok (.iconst 1, 1) := by decide +kernel
theorem dX0_rarest_21 : decode cX0_rarest 21 = .ok (.iand, 1) := by decide +kernel
theorem dX0_rarest_22 : decode cX0_rarest 22 = .ok (.ifCond .ne 8, 3) := by decide +kernel
theorem dX0_rarest_25 : decode cX0_rarest 25 = .ok (.iload 4, 2) := by decide +kernel
theorem dX0_rarest_27 : decode cX0_rarest 27 = .ok (.goto 12, 3) := by decide +kernel
theorem dX0_rarest_30 : decode cX0_rarest 30 = .ok (.aload_n 0, 1) := by decide +kernel
theorem dX0_rarest_31 : decode cX0_rarest 31 = .ok (.iload_n 1, 1) := by decide +kernel
theorem dX0_rarest_32 : decode cX0_rarest 32 = .ok (.iconst 1, 1) := by decide +kernel
theorem dX0_rarest_33 : decode cX0_rarest 33 = .ok (.iload 5, 2) := by decide +kernel
theorem dX0_rarest_35 : decode cX0_rarest 35 = .ok (.ishl, 1) := by decide +kernel
theorem dX0_rarest_36 : decode cX0_rarest 36 = .ok (.invokestatic 45, 3) := by decide +kernel
theorem dX0_rarest_39 : decode cX0_rarest 39 = .ok (.istore 6, 2) := by decide +kernel
theorem dX0_rarest_41 : decode cX0_rarest 41 = .ok (.iload 6, 2) := by decide +kernel
theorem dX0_rarest_43 : decode cX0_rarest 43 = .ok (.iload 4, 2) := by decide +kernel
theorem dX0_rarest_45 : decode cX0_rarest 45 = .ok (.if_icmp .ge 12, 3) := by decide +kernel
theorem dX0_rarest_48 : decode cX0_rarest 48 = .ok (.iload 6, 2) := by decide +kernel
theorem dX0_rarest_50 : decode cX0_rarest 50 = .ok (.istore 4, 2) := by decide +kernel
theorem dX0_rarest_52 : decode cX0_rarest 52 = .ok (.iconst 1, 1) := by decide +kernel
theorem dX0_rarest_53 : decode cX0_rarest 53 = .ok (.iload 5, 2) := by decide +kernel
theorem dX0_rarest_55 : decode cX0_rarest 55 = .ok (.ishl, 1) := by decide +kernel
theorem dX0_rarest_56 : decode cX0_rarest 56 = .ok (.istore_n 3, 1) := by decide +kernel
theorem dX0_rarest_57 : decode cX0_rarest 57 = .ok (.iinc 5 1, 3) := by decide +kernel
theorem dX0_rarest_60 : decode cX0_rarest 60 = .ok (.goto (-51), 3) := by decide +kernel
theorem dX0_rarest_63 : decode cX0_rarest 63 = .ok (.iload_n 3, 1) := by decide +kernel
theorem dX0_rarest_64 : decode cX0_rarest 64 = .ok (.ireturn, 1) := by decide +kernel
theorem dX0_holdersOf_0 : decode cX0_holdersOf 0 = .ok (.iconst 0, 1) := by decide +kernel
theorem dX0_holdersOf_1 : decode cX0_holdersOf 1 = .ok (.istore_n 3, 1) := by decide +kernel
theorem dX0_holdersOf_2 : decode cX0_holdersOf 2 = .ok (.iconst 0, 1) := by decide +kernel
theorem dX0_holdersOf_3 : decode cX0_holdersOf 3 = .ok (.istore 4, 2) := by decide +kernel
theorem dX0_holdersOf_5 : decode cX0_holdersOf 5 = .ok (.iload 4, 2) := by decide +kernel
theorem dX0_holdersOf_7 : decode cX0_holdersOf 7 = .ok (.iload_n 1, 1) := by decide +kernel
theorem dX0_holdersOf_8 : decode cX0_holdersOf 8 = .ok (.if_icmp .ge 21, 3) := by decide +kernel
theorem dX0_holdersOf_11 : decode cX0_holdersOf 11 = .ok (.aload_n 0, 1) := by decide +kernel
theorem dX0_holdersOf_12 : decode cX0_holdersOf 12 = .ok (.iload 4, 2) := by decide +kernel
theorem dX0_holdersOf_14 : decode cX0_holdersOf 14 = .ok (.iaload, 1) := by decide +kernel
theorem dX0_holdersOf_15 : decode cX0_holdersOf 15 = .ok (.iload_n 2, 1) := by decide +kernel
theorem dX0_holdersOf_16 : decode cX0_holdersOf 16 = .ok (.iand, 1) := by decide +kernel
theorem dX0_holdersOf_17 : decode cX0_holdersOf 17 = .ok (.ifCond .eq 6, 3) := by decide +kernel
theorem dX0_holdersOf_20 : decode cX0_holdersOf 20 = .ok (.iinc 3 1, 3) := by decide +kernel
theorem dX0_holdersOf_23 : decode cX0_holdersOf 23 = .ok (.iinc 4 1, 3) := by decide +kernel
theorem dX0_holdersOf_26 : decode cX0_holdersOf 26 = .ok (.goto (-21), 3) := by decide +kernel
theorem dX0_holdersOf_29 : decode cX0_holdersOf 29 = .ok (.iload_n 3, 1) := by decide +kernel
theorem dX0_holdersOf_30 : decode cX0_holdersOf 30 = .ok (.ireturn, 1) := by decide +kernel
theorem dX1_init_0 : decode cX1_init 0 = .ok (.aload_n 0, 1) := by decide +kernel
theorem dX1_init_1 : decode cX1_init 1 = .ok (.invokespecial 3, 3) := by decide +kernel
theorem dX1_init_4 : decode cX1_init 4 = .ok (.aload_n 0, 1) := by decide +kernel
theorem dX1_init_5 : decode cX1_init 5 = .ok (.bipush 15, 2) := by decide +kernel
theorem dX1_init_7 : decode cX1_init 7 = .ok (.bipush 36, 2) := by decide +kernel
theorem dX1_init_9 : decode cX1_init 9 = .ok (.multianewarray 9 2, 4) := by decide +kernel
theorem dX1_init_13 : decode cX1_init 13 = .ok (.putfield 11, 3) := by decide +kernel
theorem dX1_init_16 : decode cX1_init 16 = .ok (.aload_n 0, 1) := by decide +kernel
theorem dX1_init_17 : decode cX1_init 17 = .ok (.bipush 15, 2) := by decide +kernel
theorem dX1_init_19 : decode cX1_init 19 = .ok (.bipush 36, 2) := by decide +kernel
theorem dX1_init_21 : decode cX1_init 21 = .ok (.multianewarray 9 2, 4) := by decide +kernel
theorem dX1_init_25 : decode cX1_init 25 = .ok (.putfield 16, 3) := by decide +kernel
theorem dX1_init_28 : decode cX1_init 28 = .ok (.aload_n 0, 1) := by decide +kernel
theorem dX1_init_29 : decode cX1_init 29 = .ok (.bipush 15, 2) := by decide +kernel
theorem dX1_init_31 : decode cX1_init 31 = .ok (.bipush 36, 2) := by decide +kernel
theorem dX1_init_33 : decode cX1_init 33 = .ok (.multianewarray 9 2, 4) := by decide +kernel
theorem dX1_init_37 : decode cX1_init 37 = .ok (.putfield 19, 3) := by decide +kernel
theorem dX1_init_40 : decode cX1_init 40 = .ok (.return_, 1) := by decide +kernel
theorem dX1_hear_0 : decode cX1_hear 0 = .ok (.iconst 0, 1) := by decide +kernel
theorem dX1_hear_1 : decode cX1_hear 1 = .ok (.istore 4, 2) := by decide +kernel
theorem dX1_hear_3 : decode cX1_hear 3 = .ok (.iload 4, 2) := by decide +kernel
theorem dX1_hear_5 : decode cX1_hear 5 = .ok (.iconst 4, 1) := by decide +kernel
theorem dX1_hear_6 : decode cX1_hear 6 = .ok (.if_icmp .ge 90, 3) := by decide +kernel
theorem dX1_hear_9 : decode cX1_hear 9 = .ok (.iconst 0, 1) := by decide +kernel
theorem dX1_hear_10 : decode cX1_hear 10 = .ok (.istore 5, 2) := by decide +kernel
theorem dX1_hear_12 : decode cX1_hear 12 = .ok (.iload 5, 2) := by decide +kernel
theorem dX1_hear_14 : decode cX1_hear 14 = .ok (.iload 4, 2) := by decide +kernel
theorem dX1_hear_16 : decode cX1_hear 16 = .ok (.invokestatic 22, 3) := by decide +kernel
theorem dX1_hear_19 : decode cX1_hear 19 = .ok (.if_icmp .ge 71, 3) := by decide +kernel
theorem dX1_hear_22 : decode cX1_hear 22 = .ok (.iload 4, 2) := by decide +kernel
theorem dX1_hear_24 : decode cX1_hear 24 = .ok (.iload 5, 2) := by decide +kernel
theorem dX1_hear_26 : decode cX1_hear 26 = .ok (.invokestatic 26, 3) := by decide +kernel
theorem dX1_hear_29 : decode cX1_hear 29 = .ok (.istore 6, 2) := by decide +kernel
theorem dX1_hear_31 : decode cX1_hear 31 = .ok (.iload_n 3, 1) := by decide +kernel
theorem dX1_hear_32 : decode cX1_hear 32 = .ok (.ifCond .eq 29, 3) := by decide +kernel
theorem dX1_hear_35 : decode cX1_hear 35 = .ok (.aload_n 0, 1) := by decide +kernel
theorem dX1_hear_36 : decode cX1_hear 36 = .ok (.iload_n 1, 1) := by decide +kernel
theorem dX1_hear_37 : decode cX1_hear 37 = .ok (.iload 6, 2) := by decide +kernel
theorem dX1_hear_39 : decode cX1_hear 39 = .ok (.aload_n 2, 1) := by decide +kernel
theorem dX1_hear_40 : decode cX1_hear 40 = .ok (.iload 4, 2) := by decide +kernel
theorem dX1_hear_42 : decode cX1_hear 42 = .ok (.iload 5, 2) := by decide +kernel
theorem dX1_hear_44 : decode cX1_hear 44 = .ok (.invokevirtual 30, 3) := by decide +kernel
theorem dX1_hear_47 : decode cX1_hear 47 = .ok (.aload_n 2, 1) := by decide +kernel
theorem dX1_hear_48 : decode cX1_hear 48 = .ok (.iload 4, 2) := by decide +kernel
theorem dX1_hear_50 : decode cX1_hear 50 = .ok (.iload 5, 2) := by decide +kernel
theorem dX1_hear_52 : decode cX1_hear 52 = .ok (.invokevirtual 35, 3) := by decide +kernel
theorem dX1_hear_55 : decode cX1_hear 55 = .ok (.invokevirtual 38, 3) := by decide +kernel
theorem dX1_hear_58 : decode cX1_hear 58 = .ok (.goto 26, 3) := by decide +kernel
theorem dX1_hear_61 : decode cX1_hear 61 = .ok (.aload_n 0, 1) := by decide +kernel
theorem dX1_hear_62 : decode cX1_hear 62 = .ok (.iload_n 1, 1) := by decide +kernel
theorem dX1_hear_63 : decode cX1_hear 63 = .ok (.iload 6, 2) := by decide +kernel
theorem dX1_hear_65 : decode cX1_hear 65 = .ok (.aload_n 2, 1) := by decide +kernel
theorem dX1_hear_66 : decode cX1_hear 66 = .ok (.iload 4, 2) := by decide +kernel
theorem dX1_hear_68 : decode cX1_hear 68 = .ok (.iload 5, 2) := by decide +kernel
theorem dX1_hear_70 : decode cX1_hear 70 = .ok (.invokevirtual 30, 3) := by decide +kernel
theorem dX1_hear_73 : decode cX1_hear 73 = .ok (.aload_n 2, 1) := by decide +kernel
theorem dX1_hear_74 : decode cX1_hear 74 = .ok (.iload 4, 2) := by decide +kernel
theorem dX1_hear_76 : decode cX1_hear 76 = .ok (.iload 5, 2) := by decide +kernel
theorem dX1_hear_78 : decode cX1_hear 78 = .ok (.invokevirtual 35, 3) := by decide +kernel
theorem dX1_hear_81 : decode cX1_hear 81 = .ok (.invokevirtual 42, 3) := by decide +kernel
theorem dX1_hear_84 : decode cX1_hear 84 = .ok (.iinc 5 1, 3) := by decide +kernel
theorem dX1_hear_87 : decode cX1_hear 87 = .ok (.goto (-75), 3) := by decide +kernel
theorem dX1_hear_90 : decode cX1_hear 90 = .ok (.iinc 4 1, 3) := by decide +kernel
theorem dX1_hear_93 : decode cX1_hear 93 = .ok (.goto (-90), 3) := by decide +kernel
theorem dX1_hear_96 : decode cX1_hear 96 = .ok (.return_, 1) := by decide +kernel
theorem dX1_begin_0 : decode cX1_begin 0 = .ok (.aload_n 0, 1) := by decide +kernel
theorem dX1_begin_1 : decode cX1_begin 1 = .ok (.getfield 11, 3) := by decide +kernel
theorem dX1_begin_4 : decode cX1_begin 4 = .ok (.iload_n 1, 1) := by decide +kernel
theorem dX1_begin_5 : decode cX1_begin 5 = .ok (.aaload, 1) := by decide +kernel
theorem dX1_begin_6 : decode cX1_begin 6 = .ok (.iload_n 2, 1) := by decide +kernel
theorem dX1_begin_7 : decode cX1_begin 7 = .ok (.iload_n 3, 1) := by decide +kernel
theorem dX1_begin_8 : decode cX1_begin 8 = .ok (.iastore, 1) := by decide +kernel
theorem dX1_begin_9 : decode cX1_begin 9 = .ok (.aload_n 0, 1) := by decide +kernel
theorem dX1_begin_10 : decode cX1_begin 10 = .ok (.getfield 16, 3) := by decide +kernel
theorem dX1_begin_13 : decode cX1_begin 13 = .ok (.iload_n 1, 1) := by decide +kernel
theorem dX1_begin_14 : decode cX1_begin 14 = .ok (.aaload, 1) := by decide +kernel
theorem dX1_begin_15 : decode cX1_begin 15 = .ok (.iload_n 2, 1) := by decide +kernel
theorem dX1_begin_16 : decode cX1_begin 16 = .ok (.iload 4, 2) := by decide +kernel
theorem dX1_begin_18 : decode cX1_begin 18 = .ok (.invokestatic 45, 3) := by decide +kernel
theorem dX1_begin_21 : decode cX1_begin 21 = .ok (.iastore, 1) := by decide +kernel
theorem dX1_begin_22 : decode cX1_begin 22 = .ok (.aload_n 0, 1) := by decide +kernel
theorem dX1_begin_23 : decode cX1_begin 23 = .ok (.getfield 19, 3) := by decide +kernel
theorem dX1_begin_26 : decode cX1_begin 26 = .ok (.iload_n 1, 1) := by decide +kernel
theorem dX1_begin_27 : decode cX1_begin 27 = .ok (.aaload, 1) := by decide +kernel
theorem dX1_begin_28 : decode cX1_begin 28 = .ok (.iload_n 2, 1) := by decide +kernel
theorem dX1_begin_29 : decode cX1_begin 29 = .ok (.iload 4, 2) := by decide +kernel
theorem dX1_begin_31 : decode cX1_begin 31 = .ok (.iastore, 1) := by decide +kernel
theorem dX1_begin_32 : decode cX1_begin 32 = .ok (.return_, 1) := by decide +kernel
theorem dX1_join_0 : decode cX1_join 0 = .ok (.aload_n 0, 1) := by decide +kernel
theorem dX1_join_1 : decode cX1_join 1 = .ok (.getfield 11, 3) := by decide +kernel
theorem dX1_join_4 : decode cX1_join 4 = .ok (.iload_n 1, 1) := by decide +kernel
theorem dX1_join_5 : decode cX1_join 5 = .ok (.aaload, 1) := by decide +kernel
theorem dX1_join_6 : decode cX1_join 6 = .ok (.iload_n 2, 1) := by decide +kernel
theorem dX1_join_7 : decode cX1_join 7 = .ok (.iaload, 1) := by decide +kernel
theorem dX1_join_8 : decode cX1_join 8 = .ok (.iload_n 3, 1) := by decide +kernel
theorem dX1_join_9 : decode cX1_join 9 = .ok (.if_icmp .eq 13, 3) := by decide +kernel
theorem dX1_join_12 : decode cX1_join 12 = .ok (.aload_n 0, 1) := by decide +kernel
theorem dX1_join_13 : decode cX1_join 13 = .ok (.getfield 11, 3) := by decide +kernel
theorem dX1_join_16 : decode cX1_join 16 = .ok (.iload_n 1, 1) := by decide +kernel
theorem dX1_join_17 : decode cX1_join 17 = .ok (.aaload, 1) := by decide +kernel
theorem dX1_join_18 : decode cX1_join 18 = .ok (.iload_n 2, 1) := by decide +kernel
theorem dX1_join_19 : decode cX1_join 19 = .ok (.bipush (-3), 2) := by decide +kernel
theorem dX1_join_21 : decode cX1_join 21 = .ok (.iastore, 1) := by decide +kernel
theorem dX1_join_22 : decode cX1_join 22 = .ok (.aload_n 0, 1) := by decide +kernel
theorem dX1_join_23 : decode cX1_join 23 = .ok (.getfield 16, 3) := by decide +kernel
theorem dX1_join_26 : decode cX1_join 26 = .ok (.iload_n 1, 1) := by decide +kernel
theorem dX1_join_27 : decode cX1_join 27 = .ok (.aaload, 1) := by decide +kernel
theorem dX1_join_28 : decode cX1_join 28 = .ok (.iload_n 2, 1) := by decide +kernel
theorem dX1_join_29 : decode cX1_join 29 = .ok (.aload_n 0, 1) := by decide +kernel
theorem dX1_join_30 : decode cX1_join 30 = .ok (.getfield 16, 3) := by decide +kernel
theorem dX1_join_33 : decode cX1_join 33 = .ok (.iload_n 1, 1) := by decide +kernel
theorem dX1_join_34 : decode cX1_join 34 = .ok (.aaload, 1) := by decide +kernel
theorem dX1_join_35 : decode cX1_join 35 = .ok (.iload_n 2, 1) := by decide +kernel
theorem dX1_join_36 : decode cX1_join 36 = .ok (.iaload, 1) := by decide +kernel
theorem dX1_join_37 : decode cX1_join 37 = .ok (.iload 4, 2) := by decide +kernel
theorem dX1_join_39 : decode cX1_join 39 = .ok (.invokestatic 45, 3) := by decide +kernel
theorem dX1_join_42 : decode cX1_join 42 = .ok (.invokestatic 50, 3) := by decide +kernel
theorem dX1_join_45 : decode cX1_join 45 = .ok (.iastore, 1) := by decide +kernel
theorem dX1_join_46 : decode cX1_join 46 = .ok (.aload_n 0, 1) := by decide +kernel
theorem dX1_join_47 : decode cX1_join 47 = .ok (.getfield 19, 3) := by decide +kernel
theorem dX1_join_50 : decode cX1_join 50 = .ok (.iload_n 1, 1) := by decide +kernel
theorem dX1_join_51 : decode cX1_join 51 = .ok (.aaload, 1) := by decide +kernel
theorem dX1_join_52 : decode cX1_join 52 = .ok (.iload_n 2, 1) := by decide +kernel
theorem dX1_join_53 : decode cX1_join 53 = .ok (.dup2, 1) := by decide +kernel
theorem dX1_join_54 : decode cX1_join 54 = .ok (.iaload, 1) := by decide +kernel
theorem dX1_join_55 : decode cX1_join 55 = .ok (.iload 4, 2) := by decide +kernel
theorem dX1_join_57 : decode cX1_join 57 = .ok (.iand, 1) := by decide +kernel
theorem dX1_join_58 : decode cX1_join 58 = .ok (.iastore, 1) := by decide +kernel
theorem dX1_join_59 : decode cX1_join 59 = .ok (.return_, 1) := by decide +kernel
theorem dX1_close_0 : decode cX1_close 0 = .ok (.iconst 0, 1) := by decide +kernel
theorem dX1_close_1 : decode cX1_close 1 = .ok (.istore_n 2, 1) := by decide +kernel
theorem dX1_close_2 : decode cX1_close 2 = .ok (.iload_n 2, 1) := by decide +kernel
theorem dX1_close_3 : decode cX1_close 3 = .ok (.bipush 36, 2) := by decide +kernel
theorem dX1_close_5 : decode cX1_close 5 = .ok (.if_icmp .ge 29, 3) := by decide +kernel
theorem dX1_close_8 : decode cX1_close 8 = .ok (.aload_n 0, 1) := by decide +kernel
theorem dX1_close_9 : decode cX1_close 9 = .ok (.getfield 11, 3) := by decide +kernel
theorem dX1_close_12 : decode cX1_close 12 = .ok (.iload_n 1, 1) := by decide +kernel
theorem dX1_close_13 : decode cX1_close 13 = .ok (.aaload, 1) := by decide +kernel
theorem dX1_close_14 : decode cX1_close 14 = .ok (.iload_n 2, 1) := by decide +kernel
theorem dX1_close_15 : decode cX1_close 15 = .ok (.iaload, 1) := by decide +kernel
theorem dX1_close_16 : decode cX1_close 16 = .ok (.ifCond .ge 12, 3) := by decide +kernel
theorem dX1_close_19 : decode cX1_close 19 = .ok (.aload_n 0, 1) := by decide +kernel
theorem dX1_close_20 : decode cX1_close 20 = .ok (.getfield 19, 3) := by decide +kernel
theorem dX1_close_23 : decode cX1_close 23 = .ok (.iload_n 1, 1) := by decide +kernel
theorem dX1_close_24 : decode cX1_close 24 = .ok (.aaload, 1) := by decide +kernel
theorem dX1_close_25 : decode cX1_close 25 = .ok (.iload_n 2, 1) := by decide +kernel
theorem dX1_close_26 : decode cX1_close 26 = .ok (.iconst 0, 1) := by decide +kernel
theorem dX1_close_27 : decode cX1_close 27 = .ok (.iastore, 1) := by decide +kernel
theorem dX1_close_28 : decode cX1_close 28 = .ok (.iinc 2 1, 3) := by decide +kernel
theorem dX1_close_31 : decode cX1_close 31 = .ok (.goto (-29), 3) := by decide +kernel
theorem dX1_close_34 : decode cX1_close 34 = .ok (.return_, 1) := by decide +kernel
theorem dX1_answered_0 : decode cX1_answered 0 = .ok (.iconst 0, 1) := by decide +kernel
theorem dX1_answered_1 : decode cX1_answered 1 = .ok (.istore_n 2, 1) := by decide +kernel
theorem dX1_answered_2 : decode cX1_answered 2 = .ok (.iconst 0, 1) := by decide +kernel
theorem dX1_answered_3 : decode cX1_answered 3 = .ok (.istore_n 3, 1) := by decide +kernel
theorem dX1_answered_4 : decode cX1_answered 4 = .ok (.iload_n 3, 1) := by decide +kernel
theorem dX1_answered_5 : decode cX1_answered 5 = .ok (.bipush 36, 2) := by decide +kernel
theorem dX1_answered_7 : decode cX1_answered 7 = .ok (.if_icmp .ge 23, 3) := by decide +kernel
theorem dX1_answered_10 : decode cX1_answered 10 = .ok (.aload_n 0, 1) := by decide +kernel
theorem dX1_answered_11 : decode cX1_answered 11 = .ok (.getfield 11, 3) := by decide +kernel
theorem dX1_answered_14 : decode cX1_answered 14 = .ok (.iload_n 1, 1) := by decide +kernel
theorem dX1_answered_15 : decode cX1_answered 15 = .ok (.aaload, 1) := by decide +kernel
theorem dX1_answered_16 : decode cX1_answered 16 = .ok (.iload_n 3, 1) := by decide +kernel
theorem dX1_answered_17 : decode cX1_answered 17 = .ok (.iaload, 1) := by decide +kernel
theorem dX1_answered_18 : decode cX1_answered 18 = .ok (.ifCond .lt 6, 3) := by decide +kernel
theorem dX1_answered_21 : decode cX1_answered 21 = .ok (.iinc 2 1, 3) := by decide +kernel
theorem dX1_answered_24 : decode cX1_answered 24 = .ok (.iinc 3 1, 3) := by decide +kernel
theorem dX1_answered_27 : decode cX1_answered 27 = .ok (.goto (-23), 3) := by decide +kernel
theorem dX1_answered_30 : decode cX1_answered 30 = .ok (.iload_n 2, 1) := by decide +kernel
theorem dX1_answered_31 : decode cX1_answered 31 = .ok (.ireturn, 1) := by decide +kernel
theorem dX1_doubted_0 : decode cX1_doubted 0 = .ok (.iconst 0, 1) := by decide +kernel
theorem dX1_doubted_1 : decode cX1_doubted 1 = .ok (.istore_n 2, 1) := by decide +kernel
theorem dX1_doubted_2 : decode cX1_doubted 2 = .ok (.iconst 0, 1) := by decide +kernel
theorem dX1_doubted_3 : decode cX1_doubted 3 = .ok (.istore_n 3, 1) := by decide +kernel
theorem dX1_doubted_4 : decode cX1_doubted 4 = .ok (.iload_n 3, 1) := by decide +kernel
theorem dX1_doubted_5 : decode cX1_doubted 5 = .ok (.bipush 36, 2) := by decide +kernel
theorem dX1_doubted_7 : decode cX1_doubted 7 = .ok (.if_icmp .ge 25, 3) := by decide +kernel
theorem dX1_doubted_10 : decode cX1_doubted 10 = .ok (.aload_n 0, 1) := by decide +kernel
theorem dX1_doubted_11 : decode cX1_doubted 11 = .ok (.getfield 11, 3) := by decide +kernel
theorem dX1_doubted_14 : decode cX1_doubted 14 = .ok (.iload_n 1, 1) := by decide +kernel
theorem dX1_doubted_15 : decode cX1_doubted 15 = .ok (.aaload, 1) := by decide +kernel
theorem dX1_doubted_16 : decode cX1_doubted 16 = .ok (.iload_n 3, 1) := by decide +kernel
theorem dX1_doubted_17 : decode cX1_doubted 17 = .ok (.iaload, 1) := by decide +kernel
theorem dX1_doubted_18 : decode cX1_doubted 18 = .ok (.bipush (-3), 2) := by decide +kernel
theorem dX1_doubted_20 : decode cX1_doubted 20 = .ok (.if_icmp .ne 6, 3) := by decide +kernel
theorem dX1_doubted_23 : decode cX1_doubted 23 = .ok (.iinc 2 1, 3) := by decide +kernel
theorem dX1_doubted_26 : decode cX1_doubted 26 = .ok (.iinc 3 1, 3) := by decide +kernel
theorem dX1_doubted_29 : decode cX1_doubted 29 = .ok (.goto (-25), 3) := by decide +kernel
theorem dX1_doubted_32 : decode cX1_doubted 32 = .ok (.iload_n 2, 1) := by decide +kernel
theorem dX1_doubted_33 : decode cX1_doubted 33 = .ok (.ireturn, 1) := by decide +kernel
theorem dX2_init_0 : decode cX2_init 0 = .ok (.aload_n 0, 1) := by decide +kernel
theorem dX2_init_1 : decode cX2_init 1 = .ok (.invokespecial 3, 3) := by decide +kernel
theorem dX2_init_4 : decode cX2_init 4 = .ok (.aload_n 0, 1) := by decide +kernel
theorem dX2_init_5 : decode cX2_init 5 = .ok (.bipush 70, 2) := by decide +kernel
theorem dX2_init_7 : decode cX2_init 7 = .ok (.newarray .int, 2) := by decide +kernel
theorem dX2_init_9 : decode cX2_init 9 = .ok (.putfield 9, 3) := by decide +kernel
theorem dX2_init_12 : decode cX2_init 12 = .ok (.aload_n 0, 1) := by decide +kernel
theorem dX2_init_13 : decode cX2_init 13 = .ok (.bipush 28, 2) := by decide +kernel
theorem dX2_init_15 : decode cX2_init 15 = .ok (.newarray .int, 2) := by decide +kernel
theorem dX2_init_17 : decode cX2_init 17 = .ok (.putfield 15, 3) := by decide +kernel
theorem dX2_init_20 : decode cX2_init 20 = .ok (.return_, 1) := by decide +kernel
theorem dX2_fits_0 : decode cX2_fits 0 = .ok (.aload_n 0, 1) := by decide +kernel
theorem dX2_fits_1 : decode cX2_fits 1 = .ok (.getfield 18, 3) := by decide +kernel
theorem dX2_fits_4 : decode cX2_fits 4 = .ok (.bipush 14, 2) := by decide +kernel
theorem dX2_fits_6 : decode cX2_fits 6 = .ok (.if_icmp .lt 5, 3) := by decide +kernel
theorem dX2_fits_9 : decode cX2_fits 9 = .ok (.iconst 0, 1) := by decide +kernel
theorem dX2_fits_10 : decode cX2_fits 10 = .ok (.ireturn, 1) := by decide +kernel
theorem dX2_fits_11 : decode cX2_fits 11 = .ok (.aload_n 0, 1) := by decide +kernel
theorem dX2_fits_12 : decode cX2_fits 12 = .ok (.getfield 22, 3) := by decide +kernel
theorem dX2_fits_15 : decode cX2_fits 15 = .ok (.tableswitch 109 0 3 #[29, 34, 52, 77], 29) := by decide +kernel
theorem dX2_fits_44 : decode cX2_fits 44 = .ok (.iload_n 1, 1) := by decide +kernel
theorem dX2_fits_45 : decode cX2_fits 45 = .ok (.invokestatic 25, 3) := by decide +kernel
theorem dX2_fits_48 : decode cX2_fits 48 = .ok (.ireturn, 1) := by decide +kernel
theorem dX2_fits_49 : decode cX2_fits 49 = .ok (.iload_n 1, 1) := by decide +kernel
theorem dX2_fits_50 : decode cX2_fits 50 = .ok (.bipush 30, 2) := by decide +kernel
theorem dX2_fits_52 : decode cX2_fits 52 = .ok (.if_icmp .lt 13, 3) := by decide +kernel
theorem dX2_fits_55 : decode cX2_fits 55 = .ok (.iload_n 1, 1) := by decide +kernel
theorem dX2_fits_56 : decode cX2_fits 56 = .ok (.bipush 33, 2) := by decide +kernel
theorem dX2_fits_58 : decode cX2_fits 58 = .ok (.if_icmp .gt 7, 3) := by decide +kernel
theorem dX2_fits_61 : decode cX2_fits 61 = .ok (.iconst 1, 1) := by decide +kernel
theorem dX2_fits_62 : decode cX2_fits 62 = .ok (.goto 4, 3) := by decide +kernel
theorem dX2_fits_65 : decode cX2_fits 65 = .ok (.iconst 0, 1) := by decide +kernel
theorem dX2_fits_66 : decode cX2_fits 66 = .ok (.ireturn, 1) := by decide +kernel
theorem dX2_fits_67 : decode cX2_fits 67 = .ok (.aload_n 0, 1) := by decide +kernel
theorem dX2_fits_68 : decode cX2_fits 68 = .ok (.aload_n 0, 1) := by decide +kernel
theorem dX2_fits_69 : decode cX2_fits 69 = .ok (.getfield 18, 3) := by decide +kernel
theorem dX2_fits_72 : decode cX2_fits 72 = .ok (.invokevirtual 29, 3) := by decide +kernel
theorem dX2_fits_75 : decode cX2_fits 75 = .ok (.bipush 30, 2) := by decide +kernel
theorem dX2_fits_77 : decode cX2_fits 77 = .ok (.if_icmp .ne 10, 3) := by decide +kernel
theorem dX2_fits_80 : decode cX2_fits 80 = .ok (.iload_n 1, 1) := by decide +kernel
theorem dX2_fits_81 : decode cX2_fits 81 = .ok (.invokestatic 33, 3) := by decide +kernel
theorem dX2_fits_84 : decode cX2_fits 84 = .ok (.goto 7, 3) := by decide +kernel
theorem dX2_fits_87 : decode cX2_fits 87 = .ok (.iload_n 1, 1) := by decide +kernel
theorem dX2_fits_88 : decode cX2_fits 88 = .ok (.invokestatic 36, 3) := by decide +kernel
theorem dX2_fits_91 : decode cX2_fits 91 = .ok (.ireturn, 1) := by decide +kernel
theorem dX2_fits_92 : decode cX2_fits 92 = .ok (.aload_n 0, 1) := by decide +kernel
theorem dX2_fits_93 : decode cX2_fits 93 = .ok (.aload_n 0, 1) := by decide +kernel
theorem dX2_fits_94 : decode cX2_fits 94 = .ok (.getfield 18, 3) := by decide +kernel
theorem dX2_fits_97 : decode cX2_fits 97 = .ok (.invokevirtual 29, 3) := by decide +kernel
theorem dX2_fits_100 : decode cX2_fits 100 = .ok (.bipush 33, 2) := by decide +kernel
theorem dX2_fits_102 : decode cX2_fits 102 = .ok (.if_icmp .ne 10, 3) := by decide +kernel
theorem dX2_fits_105 : decode cX2_fits 105 = .ok (.iload_n 1, 1) := by decide +kernel
theorem dX2_fits_106 : decode cX2_fits 106 = .ok (.invokestatic 25, 3) := by decide +kernel
theorem dX2_fits_109 : decode cX2_fits 109 = .ok (.goto 14, 3) := by decide +kernel
theorem dX2_fits_112 : decode cX2_fits 112 = .ok (.iload_n 1, 1) := by decide +kernel
theorem dX2_fits_113 : decode cX2_fits 113 = .ok (.bipush 50, 2) := by decide +kernel
theorem dX2_fits_115 : decode cX2_fits 115 = .ok (.if_icmp .ne 7, 3) := by decide +kernel
theorem dX2_fits_118 : decode cX2_fits 118 = .ok (.iconst 1, 1) := by decide +kernel
theorem dX2_fits_119 : decode cX2_fits 119 = .ok (.goto 4, 3) := by decide +kernel
theorem dX2_fits_122 : decode cX2_fits 122 = .ok (.iconst 0, 1) := by decide +kernel
theorem dX2_fits_123 : decode cX2_fits 123 = .ok (.ireturn, 1) := by decide +kernel
theorem dX2_fits_124 : decode cX2_fits 124 = .ok (.iload_n 1, 1) := by decide +kernel
theorem dX2_fits_125 : decode cX2_fits 125 = .ok (.bipush 50, 2) := by decide +kernel
theorem dX2_fits_127 : decode cX2_fits 127 = .ok (.if_icmp .ne 7, 3) := by decide +kernel
theorem dX2_fits_130 : decode cX2_fits 130 = .ok (.iconst 1, 1) := by decide +kernel
theorem dX2_fits_131 : decode cX2_fits 131 = .ok (.goto 4, 3) := by decide +kernel
theorem dX2_fits_134 : decode cX2_fits 134 = .ok (.iconst 0, 1) := by decide +kernel
theorem dX2_fits_135 : decode cX2_fits 135 = .ok (.ireturn, 1) := by decide +kernel
theorem dX2_add_0 : decode cX2_add 0 = .ok (.aload_n 0, 1) := by decide +kernel
theorem dX2_add_1 : decode cX2_add 1 = .ok (.getfield 18, 3) := by decide +kernel
theorem dX2_add_4 : decode cX2_add 4 = .ok (.bipush 14, 2) := by decide +kernel
theorem dX2_add_6 : decode cX2_add 6 = .ok (.if_icmp .ge 38, 3) := by decide +kernel
theorem dX2_add_9 : decode cX2_add 9 = .ok (.aload_n 0, 1) := by decide +kernel
theorem dX2_add_10 : decode cX2_add 10 = .ok (.getfield 22, 3) := by decide +kernel
theorem dX2_add_13 : decode cX2_add 13 = .ok (.iconst 5, 1) := by decide +kernel
theorem dX2_add_14 : decode cX2_add 14 = .ok (.if_icmp .ge 30, 3) := by decide +kernel
theorem dX2_add_17 : decode cX2_add 17 = .ok (.aload_n 0, 1) := by decide +kernel
theorem dX2_add_18 : decode cX2_add 18 = .ok (.getfield 9, 3) := by decide +kernel
theorem dX2_add_21 : decode cX2_add 21 = .ok (.aload_n 0, 1) := by decide +kernel
theorem dX2_add_22 : decode cX2_add 22 = .ok (.getfield 18, 3) := by decide +kernel
theorem dX2_add_25 : decode cX2_add 25 = .ok (.iconst 5, 1) := by decide +kernel
theorem dX2_add_26 : decode cX2_add 26 = .ok (.imul, 1) := by decide +kernel
theorem dX2_add_27 : decode cX2_add 27 = .ok (.aload_n 0, 1) := by decide +kernel
theorem dX2_add_28 : decode cX2_add 28 = .ok (.getfield 22, 3) := by decide +kernel
theorem dX2_add_31 : decode cX2_add 31 = .ok (.iadd, 1) := by decide +kernel
theorem dX2_add_32 : decode cX2_add 32 = .ok (.iload_n 1, 1) := by decide +kernel
theorem dX2_add_33 : decode cX2_add 33 = .ok (.iastore, 1) := by decide +kernel
theorem dX2_add_34 : decode cX2_add 34 = .ok (.aload_n 0, 1) := by decide +kernel
theorem dX2_add_35 : decode cX2_add 35 = .ok (.dup, 1) := by decide +kernel
theorem dX2_add_36 : decode cX2_add 36 = .ok (.getfield 22, 3) := by decide +kernel
theorem dX2_add_39 : decode cX2_add 39 = .ok (.iconst 1, 1) := by decide +kernel
theorem dX2_add_40 : decode cX2_add 40 = .ok (.iadd, 1) := by decide +kernel
theorem dX2_add_41 : decode cX2_add 41 = .ok (.putfield 22, 3) := by decide +kernel
theorem dX2_add_44 : decode cX2_add 44 = .ok (.return_, 1) := by decide +kernel
theorem dX2_forgetBegun_0 : decode cX2_forgetBegun 0 = .ok (.aload_n 0, 1) := by decide +kernel
theorem dX2_forgetBegun_1 : decode cX2_forgetBegun 1 = .ok (.iconst 0, 1) := by decide +kernel
theorem dX2_forgetBegun_2 : decode cX2_forgetBegun 2 = .ok (.putfield 22, 3) := by decide +kernel
theorem dX2_forgetBegun_5 : decode cX2_forgetBegun 5 = .ok (.return_, 1) := by decide +kernel
theorem dX2_closeBegun_0 : decode cX2_closeBegun 0 = .ok (.aload_n 0, 1) := by decide +kernel
theorem dX2_closeBegun_1 : decode cX2_closeBegun 1 = .ok (.iconst 0, 1) := by decide +kernel
theorem dX2_closeBegun_2 : decode cX2_closeBegun 2 = .ok (.putfield 22, 3) := by decide +kernel
theorem dX2_closeBegun_5 : decode cX2_closeBegun 5 = .ok (.aload_n 0, 1) := by decide +kernel
theorem dX2_closeBegun_6 : decode cX2_closeBegun 6 = .ok (.dup, 1) := by decide +kernel
theorem dX2_closeBegun_7 : decode cX2_closeBegun 7 = .ok (.getfield 18, 3) := by decide +kernel
theorem dX2_closeBegun_10 : decode cX2_closeBegun 10 = .ok (.iconst 1, 1) := by decide +kernel
theorem dX2_closeBegun_11 : decode cX2_closeBegun 11 = .ok (.iadd, 1) := by decide +kernel
theorem dX2_closeBegun_12 : decode cX2_closeBegun 12 = .ok (.putfield 18, 3) := by decide +kernel
theorem dX2_closeBegun_15 : decode cX2_closeBegun 15 = .ok (.return_, 1) := by decide +kernel
theorem dX2_forgetLatest_0 : decode cX2_forgetLatest 0 = .ok (.aload_n 0, 1) := by decide +kernel
theorem dX2_forgetLatest_1 : decode cX2_forgetLatest 1 = .ok (.getfield 22, 3) := by decide +kernel
theorem dX2_forgetLatest_4 : decode cX2_forgetLatest 4 = .ok (.ifCond .le 10, 3) := by decide +kernel
theorem dX2_forgetLatest_7 : decode cX2_forgetLatest 7 = .ok (.aload_n 0, 1) := by decide +kernel
theorem dX2_forgetLatest_8 : decode cX2_forgetLatest 8 = .ok (.iconst 0, 1) := by decide +kernel
theorem dX2_forgetLatest_9 : decode cX2_forgetLatest 9 = .ok (.putfield 22, 3) := by decide +kernel
theorem dX2_forgetLatest_12 : decode cX2_forgetLatest 12 = .ok (.iconst 1, 1) := by decide +kernel
theorem dX2_forgetLatest_13 : decode cX2_forgetLatest 13 = .ok (.ireturn, 1) := by decide +kernel
theorem dX2_forgetLatest_14 : decode cX2_forgetLatest 14 = .ok (.aload_n 0, 1) := by decide +kernel
theorem dX2_forgetLatest_15 : decode cX2_forgetLatest 15 = .ok (.getfield 18, 3) := by decide +kernel
theorem dX2_forgetLatest_18 : decode cX2_forgetLatest 18 = .ok (.ifCond .ne 5, 3) := by decide +kernel
theorem dX2_forgetLatest_21 : decode cX2_forgetLatest 21 = .ok (.iconst 0, 1) := by decide +kernel
theorem dX2_forgetLatest_22 : decode cX2_forgetLatest 22 = .ok (.ireturn, 1) := by decide +kernel
theorem dX2_forgetLatest_23 : decode cX2_forgetLatest 23 = .ok (.aload_n 0, 1) := by decide +kernel
theorem dX2_forgetLatest_24 : decode cX2_forgetLatest 24 = .ok (.dup, 1) := by decide +kernel
theorem dX2_forgetLatest_25 : decode cX2_forgetLatest 25 = .ok (.getfield 18, 3) := by decide +kernel
theorem dX2_forgetLatest_28 : decode cX2_forgetLatest 28 = .ok (.iconst 1, 1) := by decide +kernel
theorem dX2_forgetLatest_29 : decode cX2_forgetLatest 29 = .ok (.isub, 1) := by decide +kernel
theorem dX2_forgetLatest_30 : decode cX2_forgetLatest 30 = .ok (.putfield 18, 3) := by decide +kernel
theorem dX2_forgetLatest_33 : decode cX2_forgetLatest 33 = .ok (.iconst 1, 1) := by decide +kernel
theorem dX2_forgetLatest_34 : decode cX2_forgetLatest 34 = .ok (.ireturn, 1) := by decide +kernel
theorem dX2_signAt_0 : decode cX2_signAt 0 = .ok (.iload_n 1, 1) := by decide +kernel
theorem dX2_signAt_1 : decode cX2_signAt 1 = .ok (.ifCond .lt 17, 3) := by decide +kernel
theorem dX2_signAt_4 : decode cX2_signAt 4 = .ok (.iload_n 1, 1) := by decide +kernel
theorem dX2_signAt_5 : decode cX2_signAt 5 = .ok (.aload_n 0, 1) := by decide +kernel
theorem dX2_signAt_6 : decode cX2_signAt 6 = .ok (.getfield 18, 3) := by decide +kernel
theorem dX2_signAt_9 : decode cX2_signAt 9 = .ok (.if_icmp .gt 9, 3) := by decide +kernel
theorem dX2_signAt_12 : decode cX2_signAt 12 = .ok (.iload_n 1, 1) := by decide +kernel
theorem dX2_signAt_13 : decode cX2_signAt 13 = .ok (.bipush 14, 2) := by decide +kernel
theorem dX2_signAt_15 : decode cX2_signAt 15 = .ok (.if_icmp .lt 5, 3) := by decide +kernel
theorem dX2_signAt_18 : decode cX2_signAt 18 = .ok (.iconst (-1), 1) := by decide +kernel
theorem dX2_signAt_19 : decode cX2_signAt 19 = .ok (.ireturn, 1) := by decide +kernel
theorem dX2_signAt_20 : decode cX2_signAt 20 = .ok (.iload_n 1, 1) := by decide +kernel
theorem dX2_signAt_21 : decode cX2_signAt 21 = .ok (.aload_n 0, 1) := by decide +kernel
theorem dX2_signAt_22 : decode cX2_signAt 22 = .ok (.getfield 18, 3) := by decide +kernel
theorem dX2_signAt_25 : decode cX2_signAt 25 = .ok (.if_icmp .ne 10, 3) := by decide +kernel
theorem dX2_signAt_28 : decode cX2_signAt 28 = .ok (.aload_n 0, 1) := by decide +kernel
theorem dX2_signAt_29 : decode cX2_signAt 29 = .ok (.getfield 22, 3) := by decide +kernel
theorem dX2_signAt_32 : decode cX2_signAt 32 = .ok (.goto 8, 3) := by decide +kernel
theorem dX2_signAt_35 : decode cX2_signAt 35 = .ok (.aload_n 0, 1) := by decide +kernel
theorem dX2_signAt_36 : decode cX2_signAt 36 = .ok (.iload_n 1, 1) := by decide +kernel
theorem dX2_signAt_37 : decode cX2_signAt 37 = .ok (.invokevirtual 39, 3) := by decide +kernel
theorem dX2_signAt_40 : decode cX2_signAt 40 = .ok (.istore_n 3, 1) := by decide +kernel
theorem dX2_signAt_41 : decode cX2_signAt 41 = .ok (.iload_n 2, 1) := by decide +kernel
theorem dX2_signAt_42 : decode cX2_signAt 42 = .ok (.ifCond .lt 8, 3) := by decide +kernel
theorem dX2_signAt_45 : decode cX2_signAt 45 = .ok (.iload_n 2, 1) := by decide +kernel
theorem dX2_signAt_46 : decode cX2_signAt 46 = .ok (.iload_n 3, 1) := by decide +kernel
theorem dX2_signAt_47 : decode cX2_signAt 47 = .ok (.if_icmp .lt 7, 3) := by decide +kernel
theorem dX2_signAt_50 : decode cX2_signAt 50 = .ok (.iconst (-1), 1) := by decide +kernel
theorem dX2_signAt_51 : decode cX2_signAt 51 = .ok (.goto 13, 3) := by decide +kernel
theorem dX2_signAt_54 : decode cX2_signAt 54 = .ok (.aload_n 0, 1) := by decide +kernel
theorem dX2_signAt_55 : decode cX2_signAt 55 = .ok (.getfield 9, 3) := by decide +kernel
theorem dX2_signAt_58 : decode cX2_signAt 58 = .ok (.iload_n 1, 1) := by decide +kernel
theorem dX2_signAt_59 : decode cX2_signAt 59 = .ok (.iconst 5, 1) := by decide +kernel
theorem dX2_signAt_60 : decode cX2_signAt 60 = .ok (.imul, 1) := by decide +kernel
theorem dX2_signAt_61 : decode cX2_signAt 61 = .ok (.iload_n 2, 1) := by decide +kernel
theorem dX2_signAt_62 : decode cX2_signAt 62 = .ok (.iadd, 1) := by decide +kernel
theorem dX2_signAt_63 : decode cX2_signAt 63 = .ok (.iaload, 1) := by decide +kernel
theorem dX2_signAt_64 : decode cX2_signAt 64 = .ok (.ireturn, 1) := by decide +kernel
theorem dX2_wholeLength_0 : decode cX2_wholeLength 0 = .ok (.aload_n 0, 1) := by decide +kernel
theorem dX2_wholeLength_1 : decode cX2_wholeLength 1 = .ok (.iload_n 1, 1) := by decide +kernel
theorem dX2_wholeLength_2 : decode cX2_wholeLength 2 = .ok (.invokevirtual 29, 3) := by decide +kernel
theorem dX2_wholeLength_5 : decode cX2_wholeLength 5 = .ok (.bipush 33, 2) := by decide +kernel
theorem dX2_wholeLength_7 : decode cX2_wholeLength 7 = .ok (.if_icmp .ne 7, 3) := by decide +kernel
theorem dX2_wholeLength_10 : decode cX2_wholeLength 10 = .ok (.iconst 5, 1) := by decide +kernel
theorem dX2_wholeLength_11 : decode cX2_wholeLength 11 = .ok (.goto 4, 3) := by decide +kernel
theorem dX2_wholeLength_14 : decode cX2_wholeLength 14 = .ok (.iconst 4, 1) := by decide +kernel
theorem dX2_wholeLength_15 : decode cX2_wholeLength 15 = .ok (.ireturn, 1) := by decide +kernel
theorem dX2_verb_0 : decode cX2_verb 0 = .ok (.aload_n 0, 1) := by decide +kernel
theorem dX2_verb_1 : decode cX2_verb 1 = .ok (.getfield 9, 3) := by decide +kernel
theorem dX2_verb_4 : decode cX2_verb 4 = .ok (.iload_n 1, 1) := by decide +kernel
theorem dX2_verb_5 : decode cX2_verb 5 = .ok (.iconst 5, 1) := by decide +kernel
theorem dX2_verb_6 : decode cX2_verb 6 = .ok (.imul, 1) := by decide +kernel
theorem dX2_verb_7 : decode cX2_verb 7 = .ok (.iconst 1, 1) := by decide +kernel
theorem dX2_verb_8 : decode cX2_verb 8 = .ok (.iadd, 1) := by decide +kernel
theorem dX2_verb_9 : decode cX2_verb 9 = .ok (.iaload, 1) := by decide +kernel
theorem dX2_verb_10 : decode cX2_verb 10 = .ok (.ireturn, 1) := by decide +kernel
theorem dX2_object_0 : decode cX2_object 0 = .ok (.aload_n 0, 1) := by decide +kernel
theorem dX2_object_1 : decode cX2_object 1 = .ok (.getfield 9, 3) := by decide +kernel
theorem dX2_object_4 : decode cX2_object 4 = .ok (.iload_n 1, 1) := by decide +kernel
theorem dX2_object_5 : decode cX2_object 5 = .ok (.iconst 5, 1) := by decide +kernel
theorem dX2_object_6 : decode cX2_object 6 = .ok (.imul, 1) := by decide +kernel
theorem dX2_object_7 : decode cX2_object 7 = .ok (.iconst 2, 1) := by decide +kernel
theorem dX2_object_8 : decode cX2_object 8 = .ok (.iadd, 1) := by decide +kernel
theorem dX2_object_9 : decode cX2_object 9 = .ok (.iaload, 1) := by decide +kernel
theorem dX2_object_10 : decode cX2_object 10 = .ok (.ireturn, 1) := by decide +kernel
theorem dX2_cast_0 : decode cX2_cast 0 = .ok (.aload_n 0, 1) := by decide +kernel
theorem dX2_cast_1 : decode cX2_cast 1 = .ok (.getfield 18, 3) := by decide +kernel
theorem dX2_cast_4 : decode cX2_cast 4 = .ok (.iconst 5, 1) := by decide +kernel
theorem dX2_cast_5 : decode cX2_cast 5 = .ok (.imul, 1) := by decide +kernel
theorem dX2_cast_6 : decode cX2_cast 6 = .ok (.istore_n 1, 1) := by decide +kernel
theorem dX2_cast_7 : decode cX2_cast 7 = .ok (.aload_n 0, 1) := by decide +kernel
theorem dX2_cast_8 : decode cX2_cast 8 = .ok (.aload_n 0, 1) := by decide +kernel
theorem dX2_cast_9 : decode cX2_cast 9 = .ok (.getfield 18, 3) := by decide +kernel
theorem dX2_cast_12 : decode cX2_cast 12 = .ok (.invokevirtual 29, 3) := by decide +kernel
theorem dX2_cast_15 : decode cX2_cast 15 = .ok (.bipush 33, 2) := by decide +kernel
theorem dX2_cast_17 : decode cX2_cast 17 = .ok (.if_icmp .ne 7, 3) := by decide +kernel
theorem dX2_cast_20 : decode cX2_cast 20 = .ok (.iconst 1, 1) := by decide +kernel
theorem dX2_cast_21 : decode cX2_cast 21 = .ok (.goto 4, 3) := by decide +kernel
theorem dX2_cast_24 : decode cX2_cast 24 = .ok (.iconst 0, 1) := by decide +kernel
theorem dX2_cast_25 : decode cX2_cast 25 = .ok (.istore_n 2, 1) := by decide +kernel
theorem dX2_cast_26 : decode cX2_cast 26 = .ok (.aload_n 0, 1) := by decide +kernel
theorem dX2_cast_27 : decode cX2_cast 27 = .ok (.getfield 15, 3) := by decide +kernel
theorem dX2_cast_30 : decode cX2_cast 30 = .ok (.iconst 2, 1) := by decide +kernel
theorem dX2_cast_31 : decode cX2_cast 31 = .ok (.aload_n 0, 1) := by decide +kernel
theorem dX2_cast_32 : decode cX2_cast 32 = .ok (.getfield 18, 3) := by decide +kernel
theorem dX2_cast_35 : decode cX2_cast 35 = .ok (.imul, 1) := by decide +kernel
theorem dX2_cast_36 : decode cX2_cast 36 = .ok (.iconst 0, 1) := by decide +kernel
theorem dX2_cast_37 : decode cX2_cast 37 = .ok (.iadd, 1) := by decide +kernel
theorem dX2_cast_38 : decode cX2_cast 38 = .ok (.aload_n 0, 1) := by decide +kernel
theorem dX2_cast_39 : decode cX2_cast 39 = .ok (.aload_n 0, 1) := by decide +kernel
theorem dX2_cast_40 : decode cX2_cast 40 = .ok (.getfield 9, 3) := by decide +kernel
theorem dX2_cast_43 : decode cX2_cast 43 = .ok (.iload_n 1, 1) := by decide +kernel
theorem dX2_cast_44 : decode cX2_cast 44 = .ok (.iaload, 1) := by decide +kernel
theorem dX2_cast_45 : decode cX2_cast 45 = .ok (.invokevirtual 42, 3) := by decide +kernel
theorem dX2_cast_48 : decode cX2_cast 48 = .ok (.iastore, 1) := by decide +kernel
theorem dX2_cast_49 : decode cX2_cast 49 = .ok (.aload_n 0, 1) := by decide +kernel
theorem dX2_cast_50 : decode cX2_cast 50 = .ok (.getfield 15, 3) := by decide +kernel
theorem dX2_cast_53 : decode cX2_cast 53 = .ok (.iconst 2, 1) := by decide +kernel
theorem dX2_cast_54 : decode cX2_cast 54 = .ok (.aload_n 0, 1) := by decide +kernel
theorem dX2_cast_55 : decode cX2_cast 55 = .ok (.getfield 18, 3) := by decide +kernel
theorem dX2_cast_58 : decode cX2_cast 58 = .ok (.imul, 1) := by decide +kernel
theorem dX2_cast_59 : decode cX2_cast 59 = .ok (.iconst 1, 1) := by decide +kernel
theorem dX2_cast_60 : decode cX2_cast 60 = .ok (.iadd, 1) := by decide +kernel
theorem dX2_cast_61 : decode cX2_cast 61 = .ok (.iload_n 2, 1) := by decide +kernel
theorem dX2_cast_62 : decode cX2_cast 62 = .ok (.ifCond .eq 18, 3) := by decide +kernel
theorem dX2_cast_65 : decode cX2_cast 65 = .ok (.aload_n 0, 1) := by decide +kernel
theorem dX2_cast_66 : decode cX2_cast 66 = .ok (.aload_n 0, 1) := by decide +kernel
theorem dX2_cast_67 : decode cX2_cast 67 = .ok (.getfield 9, 3) := by decide +kernel
theorem dX2_cast_70 : decode cX2_cast 70 = .ok (.iload_n 1, 1) := by decide +kernel
theorem dX2_cast_71 : decode cX2_cast 71 = .ok (.iconst 3, 1) := by decide +kernel
theorem dX2_cast_72 : decode cX2_cast 72 = .ok (.iadd, 1) := by decide +kernel
theorem dX2_cast_73 : decode cX2_cast 73 = .ok (.iaload, 1) := by decide +kernel
theorem dX2_cast_74 : decode cX2_cast 74 = .ok (.invokevirtual 42, 3) := by decide +kernel
theorem dX2_cast_77 : decode cX2_cast 77 = .ok (.goto 4, 3) := by decide +kernel
theorem dX2_cast_80 : decode cX2_cast 80 = .ok (.iconst 0, 1) := by decide +kernel
theorem dX2_cast_81 : decode cX2_cast 81 = .ok (.iastore, 1) := by decide +kernel
theorem dX2_cast_82 : decode cX2_cast 82 = .ok (.return_, 1) := by decide +kernel
theorem dX2_candidates_0 : decode cX2_candidates 0 = .ok (.iload_n 1, 1) := by decide +kernel
theorem dX2_candidates_1 : decode cX2_candidates 1 = .ok (.invokestatic 45, 3) := by decide +kernel
theorem dX2_candidates_4 : decode cX2_candidates 4 = .ok (.ifCond .eq 7, 3) := by decide +kernel
theorem dX2_candidates_7 : decode cX2_candidates 7 = .ok (.iconst 1, 1) := by decide +kernel
theorem dX2_candidates_8 : decode cX2_candidates 8 = .ok (.iload_n 1, 1) := by decide +kernel
theorem dX2_candidates_9 : decode cX2_candidates 9 = .ok (.ishl, 1) := by decide +kernel
theorem dX2_candidates_10 : decode cX2_candidates 10 = .ok (.ireturn, 1) := by decide +kernel
theorem dX2_candidates_11 : decode cX2_candidates 11 = .ok (.iload_n 1, 1) := by decide +kernel
theorem dX2_candidates_12 : decode cX2_candidates 12 = .ok (.bipush 40, 2) := by decide +kernel
theorem dX2_candidates_14 : decode cX2_candidates 14 = .ok (.if_icmp .ne 8, 3) := by decide +kernel
theorem dX2_candidates_17 : decode cX2_candidates 17 = .ok (.bipush 85, 2) := by decide +kernel
theorem dX2_candidates_19 : decode cX2_candidates 19 = .ok (.goto 6, 3) := by decide +kernel
theorem dX2_candidates_22 : decode cX2_candidates 22 = .ok (.sipush 170, 3) := by decide +kernel
theorem dX2_candidates_25 : decode cX2_candidates 25 = .ok (.istore_n 2, 1) := by decide +kernel
theorem dX2_candidates_26 : decode cX2_candidates 26 = .ok (.aload_n 0, 1) := by decide +kernel
theorem dX2_candidates_27 : decode cX2_candidates 27 = .ok (.getfield 18, 3) := by decide +kernel
theorem dX2_candidates_30 : decode cX2_candidates 30 = .ok (.iconst 1, 1) := by decide +kernel
theorem dX2_candidates_31 : decode cX2_candidates 31 = .ok (.isub, 1) := by decide +kernel
theorem dX2_candidates_32 : decode cX2_candidates 32 = .ok (.istore_n 3, 1) := by decide +kernel
theorem dX2_candidates_33 : decode cX2_candidates 33 = .ok (.iload_n 3, 1) := by decide +kernel
theorem dX2_candidates_34 : decode cX2_candidates 34 = .ok (.ifCond .lt 27, 3) := by decide +kernel
theorem dX2_candidates_37 : decode cX2_candidates 37 = .ok (.aload_n 0, 1) := by decide +kernel
theorem dX2_candidates_38 : decode cX2_candidates 38 = .ok (.iload_n 3, 1) := by decide +kernel
theorem dX2_candidates_39 : decode cX2_candidates 39 = .ok (.invokevirtual 48, 3) := by decide +kernel
theorem dX2_candidates_42 : decode cX2_candidates 42 = .ok (.iload_n 2, 1) := by decide +kernel
theorem dX2_candidates_43 : decode cX2_candidates 43 = .ok (.iand, 1) := by decide +kernel
theorem dX2_candidates_44 : decode cX2_candidates 44 = .ok (.ifCond .eq 11, 3) := by decide +kernel
theorem dX2_candidates_47 : decode cX2_candidates 47 = .ok (.aload_n 0, 1) := by decide +kernel
theorem dX2_candidates_48 : decode cX2_candidates 48 = .ok (.iload_n 3, 1) := by decide +kernel
theorem dX2_candidates_49 : decode cX2_candidates 49 = .ok (.invokevirtual 48, 3) := by decide +kernel
theorem dX2_candidates_52 : decode cX2_candidates 52 = .ok (.iload_n 2, 1) := by decide +kernel
theorem dX2_candidates_53 : decode cX2_candidates 53 = .ok (.iand, 1) := by decide +kernel
theorem dX2_candidates_54 : decode cX2_candidates 54 = .ok (.ireturn, 1) := by decide +kernel
theorem dX2_candidates_55 : decode cX2_candidates 55 = .ok (.iinc 3 (-1), 3) := by decide +kernel
theorem dX2_candidates_58 : decode cX2_candidates 58 = .ok (.goto (-25), 3) := by decide +kernel
theorem dX2_candidates_61 : decode cX2_candidates 61 = .ok (.iconst 0, 1) := by decide +kernel
theorem dX2_candidates_62 : decode cX2_candidates 62 = .ok (.ireturn, 1) := by decide +kernel
theorem dX2_named_0 : decode cX2_named 0 = .ok (.iload_n 1, 1) := by decide +kernel
theorem dX2_named_1 : decode cX2_named 1 = .ok (.iconst 5, 1) := by decide +kernel
theorem dX2_named_2 : decode cX2_named 2 = .ok (.imul, 1) := by decide +kernel
theorem dX2_named_3 : decode cX2_named 3 = .ok (.istore_n 2, 1) := by decide +kernel
theorem dX2_named_4 : decode cX2_named 4 = .ok (.aload_n 0, 1) := by decide +kernel
theorem dX2_named_5 : decode cX2_named 5 = .ok (.getfield 9, 3) := by decide +kernel
theorem dX2_named_8 : decode cX2_named 8 = .ok (.iload_n 2, 1) := by decide +kernel
theorem dX2_named_9 : decode cX2_named 9 = .ok (.iaload, 1) := by decide +kernel
theorem dX2_named_10 : decode cX2_named 10 = .ok (.invokestatic 51, 3) := by decide +kernel
theorem dX2_named_13 : decode cX2_named 13 = .ok (.istore_n 3, 1) := by decide +kernel
theorem dX2_named_14 : decode cX2_named 14 = .ok (.aload_n 0, 1) := by decide +kernel
theorem dX2_named_15 : decode cX2_named 15 = .ok (.iload_n 1, 1) := by decide +kernel
theorem dX2_named_16 : decode cX2_named 16 = .ok (.invokevirtual 29, 3) := by decide +kernel
theorem dX2_named_19 : decode cX2_named 19 = .ok (.bipush 33, 2) := by decide +kernel
theorem dX2_named_21 : decode cX2_named 21 = .ok (.if_icmp .ne 19, 3) := by decide +kernel
theorem dX2_named_24 : decode cX2_named 24 = .ok (.iload_n 3, 1) := by decide +kernel
theorem dX2_named_25 : decode cX2_named 25 = .ok (.aload_n 0, 1) := by decide +kernel
theorem dX2_named_26 : decode cX2_named 26 = .ok (.getfield 9, 3) := by decide +kernel
theorem dX2_named_29 : decode cX2_named 29 = .ok (.iload_n 2, 1) := by decide +kernel
theorem dX2_named_30 : decode cX2_named 30 = .ok (.iconst 3, 1) := by decide +kernel
theorem dX2_named_31 : decode cX2_named 31 = .ok (.iadd, 1) := by decide +kernel
theorem dX2_named_32 : decode cX2_named 32 = .ok (.iaload, 1) := by decide +kernel
theorem dX2_named_33 : decode cX2_named 33 = .ok (.invokestatic 51, 3) := by decide +kernel
theorem dX2_named_36 : decode cX2_named 36 = .ok (.ior, 1) := by decide +kernel
theorem dX2_named_37 : decode cX2_named 37 = .ok (.goto 4, 3) := by decide +kernel
theorem dX2_named_40 : decode cX2_named 40 = .ok (.iload_n 3, 1) := by decide +kernel
theorem dX2_named_41 : decode cX2_named 41 = .ok (.ireturn, 1) := by decide +kernel
theorem dX2_personBit_0 : decode cX2_personBit 0 = .ok (.iload_n 0, 1) := by decide +kernel
theorem dX2_personBit_1 : decode cX2_personBit 1 = .ok (.invokestatic 45, 3) := by decide +kernel
theorem dX2_personBit_4 : decode cX2_personBit 4 = .ok (.ifCond .eq 9, 3) := by decide +kernel
theorem dX2_personBit_7 : decode cX2_personBit 7 = .ok (.iconst 1, 1) := by decide +kernel
theorem dX2_personBit_8 : decode cX2_personBit 8 = .ok (.iload_n 0, 1) := by decide +kernel
theorem dX2_personBit_9 : decode cX2_personBit 9 = .ok (.ishl, 1) := by decide +kernel
theorem dX2_personBit_10 : decode cX2_personBit 10 = .ok (.goto 4, 3) := by decide +kernel
theorem dX2_personBit_13 : decode cX2_personBit 13 = .ok (.iconst 0, 1) := by decide +kernel
theorem dX2_personBit_14 : decode cX2_personBit 14 = .ok (.ireturn, 1) := by decide +kernel
theorem dX2_allNamed_0 : decode cX2_allNamed 0 = .ok (.iconst 0, 1) := by decide +kernel
theorem dX2_allNamed_1 : decode cX2_allNamed 1 = .ok (.istore_n 1, 1) := by decide +kernel
theorem dX2_allNamed_2 : decode cX2_allNamed 2 = .ok (.iconst 0, 1) := by decide +kernel
theorem dX2_allNamed_3 : decode cX2_allNamed 3 = .ok (.istore_n 2, 1) := by decide +kernel
theorem dX2_allNamed_4 : decode cX2_allNamed 4 = .ok (.iload_n 2, 1) := by decide +kernel
theorem dX2_allNamed_5 : decode cX2_allNamed 5 = .ok (.aload_n 0, 1) := by decide +kernel
theorem dX2_allNamed_6 : decode cX2_allNamed 6 = .ok (.getfield 18, 3) := by decide +kernel
theorem dX2_allNamed_9 : decode cX2_allNamed 9 = .ok (.if_icmp .ge 17, 3) := by decide +kernel
theorem dX2_allNamed_12 : decode cX2_allNamed 12 = .ok (.iload_n 1, 1) := by decide +kernel
theorem dX2_allNamed_13 : decode cX2_allNamed 13 = .ok (.aload_n 0, 1) := by decide +kernel
theorem dX2_allNamed_14 : decode cX2_allNamed 14 = .ok (.iload_n 2, 1) := by decide +kernel
theorem dX2_allNamed_15 : decode cX2_allNamed 15 = .ok (.invokevirtual 48, 3) := by decide +kernel
theorem dX2_allNamed_18 : decode cX2_allNamed 18 = .ok (.ior, 1) := by decide +kernel
theorem dX2_allNamed_19 : decode cX2_allNamed 19 = .ok (.istore_n 1, 1) := by decide +kernel
theorem dX2_allNamed_20 : decode cX2_allNamed 20 = .ok (.iinc 2 1, 3) := by decide +kernel
theorem dX2_allNamed_23 : decode cX2_allNamed 23 = .ok (.goto (-19), 3) := by decide +kernel
theorem dX2_allNamed_26 : decode cX2_allNamed 26 = .ok (.iload_n 1, 1) := by decide +kernel
theorem dX2_allNamed_27 : decode cX2_allNamed 27 = .ok (.ireturn, 1) := by decide +kernel
theorem dX2_allPlaces_0 : decode cX2_allPlaces 0 = .ok (.iconst 0, 1) := by decide +kernel
theorem dX2_allPlaces_1 : decode cX2_allPlaces 1 = .ok (.istore_n 1, 1) := by decide +kernel
theorem dX2_allPlaces_2 : decode cX2_allPlaces 2 = .ok (.iconst 0, 1) := by decide +kernel
theorem dX2_allPlaces_3 : decode cX2_allPlaces 3 = .ok (.istore_n 2, 1) := by decide +kernel
theorem dX2_allPlaces_4 : decode cX2_allPlaces 4 = .ok (.iload_n 2, 1) := by decide +kernel
theorem dX2_allPlaces_5 : decode cX2_allPlaces 5 = .ok (.aload_n 0, 1) := by decide +kernel
theorem dX2_allPlaces_6 : decode cX2_allPlaces 6 = .ok (.getfield 18, 3) := by decide +kernel
theorem dX2_allPlaces_9 : decode cX2_allPlaces 9 = .ok (.if_icmp .ge 32, 3) := by decide +kernel
theorem dX2_allPlaces_12 : decode cX2_allPlaces 12 = .ok (.aload_n 0, 1) := by decide +kernel
theorem dX2_allPlaces_13 : decode cX2_allPlaces 13 = .ok (.iload_n 2, 1) := by decide +kernel
theorem dX2_allPlaces_14 : decode cX2_allPlaces 14 = .ok (.invokevirtual 29, 3) := by decide +kernel
theorem dX2_allPlaces_17 : decode cX2_allPlaces 17 = .ok (.bipush 30, 2) := by decide +kernel
theorem dX2_allPlaces_19 : decode cX2_allPlaces 19 = .ok (.if_icmp .ne 16, 3) := by decide +kernel
theorem dX2_allPlaces_22 : decode cX2_allPlaces 22 = .ok (.iload_n 1, 1) := by decide +kernel
theorem dX2_allPlaces_23 : decode cX2_allPlaces 23 = .ok (.iconst 1, 1) := by decide +kernel
theorem dX2_allPlaces_24 : decode cX2_allPlaces 24 = .ok (.aload_n 0, 1) := by decide +kernel
theorem dX2_allPlaces_25 : decode cX2_allPlaces 25 = .ok (.iload_n 2, 1) := by decide +kernel
theorem dX2_allPlaces_26 : decode cX2_allPlaces 26 = .ok (.invokevirtual 54, 3) := by decide +kernel
theorem dX2_allPlaces_29 : decode cX2_allPlaces 29 = .ok (.bipush 20, 2) := by decide +kernel
theorem dX2_allPlaces_31 : decode cX2_allPlaces 31 = .ok (.isub, 1) := by decide +kernel
theorem dX2_allPlaces_32 : decode cX2_allPlaces 32 = .ok (.ishl, 1) := by decide +kernel
theorem dX2_allPlaces_33 : decode cX2_allPlaces 33 = .ok (.ior, 1) := by decide +kernel
theorem dX2_allPlaces_34 : decode cX2_allPlaces 34 = .ok (.istore_n 1, 1) := by decide +kernel
theorem dX2_allPlaces_35 : decode cX2_allPlaces 35 = .ok (.iinc 2 1, 3) := by decide +kernel
theorem dX2_allPlaces_38 : decode cX2_allPlaces 38 = .ok (.goto (-34), 3) := by decide +kernel
theorem dX2_allPlaces_41 : decode cX2_allPlaces 41 = .ok (.iload_n 1, 1) := by decide +kernel
theorem dX2_allPlaces_42 : decode cX2_allPlaces 42 = .ok (.ireturn, 1) := by decide +kernel
theorem dX2_mayMean_0 : decode cX2_mayMean 0 = .ok (.aload_n 0, 1) := by decide +kernel
theorem dX2_mayMean_1 : decode cX2_mayMean 1 = .ok (.getfield 15, 3) := by decide +kernel
theorem dX2_mayMean_4 : decode cX2_mayMean 4 = .ok (.iconst 2, 1) := by decide +kernel
theorem dX2_mayMean_5 : decode cX2_mayMean 5 = .ok (.iload_n 1, 1) := by decide +kernel
theorem dX2_mayMean_6 : decode cX2_mayMean 6 = .ok (.imul, 1) := by decide +kernel
theorem dX2_mayMean_7 : decode cX2_mayMean 7 = .ok (.iload_n 2, 1) := by decide +kernel
theorem dX2_mayMean_8 : decode cX2_mayMean 8 = .ok (.iadd, 1) := by decide +kernel
theorem dX2_mayMean_9 : decode cX2_mayMean 9 = .ok (.iaload, 1) := by decide +kernel
theorem dX2_mayMean_10 : decode cX2_mayMean 10 = .ok (.ireturn, 1) := by decide +kernel
theorem dX2_person_0 : decode cX2_person 0 = .ok (.aload_n 0, 1) := by decide +kernel
theorem dX2_person_1 : decode cX2_person 1 = .ok (.iload_n 1, 1) := by decide +kernel
theorem dX2_person_2 : decode cX2_person 2 = .ok (.iload_n 2, 1) := by decide +kernel
theorem dX2_person_3 : decode cX2_person 3 = .ok (.invokevirtual 57, 3) := by decide +kernel
theorem dX2_person_6 : decode cX2_person 6 = .ok (.istore 4, 2) := by decide +kernel
theorem dX2_person_8 : decode cX2_person 8 = .ok (.iload_n 3, 1) := by decide +kernel
theorem dX2_person_9 : decode cX2_person 9 = .ok (.iconst 2, 1) := by decide +kernel
theorem dX2_person_10 : decode cX2_person 10 = .ok (.iload_n 1, 1) := by decide +kernel
theorem dX2_person_11 : decode cX2_person 11 = .ok (.imul, 1) := by decide +kernel
theorem dX2_person_12 : decode cX2_person 12 = .ok (.iload_n 2, 1) := by decide +kernel
theorem dX2_person_13 : decode cX2_person 13 = .ok (.iadd, 1) := by decide +kernel
theorem dX2_person_14 : decode cX2_person 14 = .ok (.ishr, 1) := by decide +kernel
theorem dX2_person_15 : decode cX2_person 15 = .ok (.iconst 1, 1) := by decide +kernel
theorem dX2_person_16 : decode cX2_person 16 = .ok (.iand, 1) := by decide +kernel
theorem dX2_person_17 : decode cX2_person 17 = .ok (.ifCond .eq 12, 3) := by decide +kernel
theorem dX2_person_20 : decode cX2_person 20 = .ok (.iload 4, 2) := by decide +kernel
theorem dX2_person_22 : decode cX2_person 22 = .ok (.iload 4, 2) := by decide +kernel
theorem dX2_person_24 : decode cX2_person 24 = .ok (.iconst 1, 1) := by decide +kernel
theorem dX2_person_25 : decode cX2_person 25 = .ok (.isub, 1) := by decide +kernel
theorem dX2_person_26 : decode cX2_person 26 = .ok (.iand, 1) := by decide +kernel
theorem dX2_person_27 : decode cX2_person 27 = .ok (.istore 4, 2) := by decide +kernel
theorem dX2_person_29 : decode cX2_person 29 = .ok (.iload 4, 2) := by decide +kernel
theorem dX2_person_31 : decode cX2_person 31 = .ok (.ifCond .ne 7, 3) := by decide +kernel
theorem dX2_person_34 : decode cX2_person 34 = .ok (.iconst (-1), 1) := by decide +kernel
theorem dX2_person_35 : decode cX2_person 35 = .ok (.goto 14, 3) := by decide +kernel
theorem dX2_person_38 : decode cX2_person 38 = .ok (.iload 4, 2) := by decide +kernel
theorem dX2_person_40 : decode cX2_person 40 = .ok (.iload 4, 2) := by decide +kernel
theorem dX2_person_42 : decode cX2_person 42 = .ok (.ineg, 1) := by decide +kernel
theorem dX2_person_43 : decode cX2_person 43 = .ok (.iand, 1) := by decide +kernel
theorem dX2_person_44 : decode cX2_person 44 = .ok (.iconst 1, 1) := by decide +kernel
theorem dX2_person_45 : decode cX2_person 45 = .ok (.isub, 1) := by decide +kernel
theorem dX2_person_46 : decode cX2_person 46 = .ok (.invokestatic 61, 3) := by decide +kernel
theorem dX2_person_49 : decode cX2_person 49 = .ok (.ireturn, 1) := by decide +kernel
theorem dX3_init_0 : decode cX3_init 0 = .ok (.aload_n 0, 1) := by decide +kernel
theorem dX3_init_1 : decode cX3_init 1 = .ok (.invokespecial 3, 3) := by decide +kernel
theorem dX3_init_4 : decode cX3_init 4 = .ok (.aload_n 0, 1) := by decide +kernel
theorem dX3_init_5 : decode cX3_init 5 = .ok (.bipush 15, 2) := by decide +kernel
theorem dX3_init_7 : decode cX3_init 7 = .ok (.bipush 64, 2) := by decide +kernel
theorem dX3_init_9 : decode cX3_init 9 = .ok (.multianewarray 9 2, 4) := by decide +kernel
theorem dX3_init_13 : decode cX3_init 13 = .ok (.putfield 11, 3) := by decide +kernel
theorem dX3_init_16 : decode cX3_init 16 = .ok (.aload_n 0, 1) := by decide +kernel
theorem dX3_init_17 : decode cX3_init 17 = .ok (.bipush 15, 2) := by decide +kernel
theorem dX3_init_19 : decode cX3_init 19 = .ok (.newarray .int, 2) := by decide +kernel
theorem dX3_init_21 : decode cX3_init 21 = .ok (.putfield 16, 3) := by decide +kernel
theorem dX3_init_24 : decode cX3_init 24 = .ok (.aload_n 0, 1) := by decide +kernel
theorem dX3_init_25 : decode cX3_init 25 = .ok (.getfield 16, 3) := by decide +kernel
theorem dX3_init_28 : decode cX3_init 28 = .ok (.iconst 0, 1) := by decide +kernel
theorem dX3_init_29 : decode cX3_init 29 = .ok (.iconst 1, 1) := by decide +kernel
theorem dX3_init_30 : decode cX3_init 30 = .ok (.iastore, 1) := by decide +kernel
theorem dX3_init_31 : decode cX3_init 31 = .ok (.return_, 1) := by decide +kernel
theorem dX3_size_0 : decode cX3_size 0 = .ok (.aload_n 0, 1) := by decide +kernel
theorem dX3_size_1 : decode cX3_size 1 = .ok (.getfield 16, 3) := by decide +kernel
theorem dX3_size_4 : decode cX3_size 4 = .ok (.iload_n 1, 1) := by decide +kernel
theorem dX3_size_5 : decode cX3_size 5 = .ok (.iaload, 1) := by decide +kernel
theorem dX3_size_6 : decode cX3_size 6 = .ok (.ireturn, 1) := by decide +kernel
theorem dX3_choices_0 : decode cX3_choices 0 = .ok (.aload_n 0, 1) := by decide +kernel
theorem dX3_choices_1 : decode cX3_choices 1 = .ok (.getfield 11, 3) := by decide +kernel
theorem dX3_choices_4 : decode cX3_choices 4 = .ok (.iload_n 1, 1) := by decide +kernel
theorem dX3_choices_5 : decode cX3_choices 5 = .ok (.aaload, 1) := by decide +kernel
theorem dX3_choices_6 : decode cX3_choices 6 = .ok (.iload_n 2, 1) := by decide +kernel
theorem dX3_choices_7 : decode cX3_choices 7 = .ok (.iaload, 1) := by decide +kernel
theorem dX3_choices_8 : decode cX3_choices 8 = .ok (.ireturn, 1) := by decide +kernel
theorem dX3_clear_0 : decode cX3_clear 0 = .ok (.aload_n 0, 1) := by decide +kernel
theorem dX3_clear_1 : decode cX3_clear 1 = .ok (.getfield 16, 3) := by decide +kernel
theorem dX3_clear_4 : decode cX3_clear 4 = .ok (.iload_n 1, 1) := by decide +kernel
theorem dX3_clear_5 : decode cX3_clear 5 = .ok (.iconst 0, 1) := by decide +kernel
theorem dX3_clear_6 : decode cX3_clear 6 = .ok (.iastore, 1) := by decide +kernel
theorem dX3_clear_7 : decode cX3_clear 7 = .ok (.return_, 1) := by decide +kernel
theorem dX3_add_0 : decode cX3_add 0 = .ok (.aload_n 0, 1) := by decide +kernel
theorem dX3_add_1 : decode cX3_add 1 = .ok (.getfield 16, 3) := by decide +kernel
theorem dX3_add_4 : decode cX3_add 4 = .ok (.iload_n 1, 1) := by decide +kernel
theorem dX3_add_5 : decode cX3_add 5 = .ok (.iaload, 1) := by decide +kernel
theorem dX3_add_6 : decode cX3_add 6 = .ok (.bipush 64, 2) := by decide +kernel
theorem dX3_add_8 : decode cX3_add 8 = .ok (.if_icmp .lt 5, 3) := by decide +kernel
theorem dX3_add_11 : decode cX3_add 11 = .ok (.iconst 0, 1) := by decide +kernel
theorem dX3_add_12 : decode cX3_add 12 = .ok (.ireturn, 1) := by decide +kernel
theorem dX3_add_13 : decode cX3_add 13 = .ok (.aload_n 0, 1) := by decide +kernel
theorem dX3_add_14 : decode cX3_add 14 = .ok (.getfield 11, 3) := by decide +kernel
theorem dX3_add_17 : decode cX3_add 17 = .ok (.iload_n 1, 1) := by decide +kernel
theorem dX3_add_18 : decode cX3_add 18 = .ok (.aaload, 1) := by decide +kernel
theorem dX3_add_19 : decode cX3_add 19 = .ok (.aload_n 0, 1) := by decide +kernel
theorem dX3_add_20 : decode cX3_add 20 = .ok (.getfield 16, 3) := by decide +kernel
theorem dX3_add_23 : decode cX3_add 23 = .ok (.iload_n 1, 1) := by decide +kernel
theorem dX3_add_24 : decode cX3_add 24 = .ok (.iaload, 1) := by decide +kernel
theorem dX3_add_25 : decode cX3_add 25 = .ok (.iload_n 2, 1) := by decide +kernel
theorem dX3_add_26 : decode cX3_add 26 = .ok (.iastore, 1) := by decide +kernel
theorem dX3_add_27 : decode cX3_add 27 = .ok (.aload_n 0, 1) := by decide +kernel
theorem dX3_add_28 : decode cX3_add 28 = .ok (.getfield 16, 3) := by decide +kernel
theorem dX3_add_31 : decode cX3_add 31 = .ok (.iload_n 1, 1) := by decide +kernel
theorem dX3_add_32 : decode cX3_add 32 = .ok (.dup2, 1) := by decide +kernel
theorem dX3_add_33 : decode cX3_add 33 = .ok (.iaload, 1) := by decide +kernel
theorem dX3_add_34 : decode cX3_add 34 = .ok (.iconst 1, 1) := by decide +kernel
theorem dX3_add_35 : decode cX3_add 35 = .ok (.iadd, 1) := by decide +kernel
theorem dX3_add_36 : decode cX3_add 36 = .ok (.iastore, 1) := by decide +kernel
theorem dX3_add_37 : decode cX3_add 37 = .ok (.iconst 1, 1) := by decide +kernel
theorem dX3_add_38 : decode cX3_add 38 = .ok (.ireturn, 1) := by decide +kernel
theorem dX4_init_0 : decode cX4_init 0 = .ok (.aload_n 0, 1) := by decide +kernel
theorem dX4_init_1 : decode cX4_init 1 = .ok (.invokespecial 3, 3) := by decide +kernel
theorem dX4_init_4 : decode cX4_init 4 = .ok (.aload_n 0, 1) := by decide +kernel
theorem dX4_init_5 : decode cX4_init 5 = .ok (.bipush 8, 2) := by decide +kernel
theorem dX4_init_7 : decode cX4_init 7 = .ok (.newarray .int, 2) := by decide +kernel
theorem dX4_init_9 : decode cX4_init 9 = .ok (.putfield 9, 3) := by decide +kernel
theorem dX4_init_12 : decode cX4_init 12 = .ok (.aload_n 0, 1) := by decide +kernel
theorem dX4_init_13 : decode cX4_init 13 = .ok (.bipush 8, 2) := by decide +kernel
theorem dX4_init_15 : decode cX4_init 15 = .ok (.newarray .int, 2) := by decide +kernel
theorem dX4_init_17 : decode cX4_init 17 = .ok (.putfield 15, 3) := by decide +kernel
theorem dX4_init_20 : decode cX4_init 20 = .ok (.aload_n 0, 1) := by decide +kernel
theorem dX4_init_21 : decode cX4_init 21 = .ok (.bipush 10, 2) := by decide +kernel
theorem dX4_init_23 : decode cX4_init 23 = .ok (.newarray .int, 2) := by decide +kernel
theorem dX4_init_25 : decode cX4_init 25 = .ok (.putfield 18, 3) := by decide +kernel
theorem dX4_init_28 : decode cX4_init 28 = .ok (.aload_n 0, 1) := by decide +kernel
theorem dX4_init_29 : decode cX4_init 29 = .ok (.bipush 10, 2) := by decide +kernel
theorem dX4_init_31 : decode cX4_init 31 = .ok (.newarray .int, 2) := by decide +kernel
theorem dX4_init_33 : decode cX4_init 33 = .ok (.putfield 21, 3) := by decide +kernel
theorem dX4_init_36 : decode cX4_init 36 = .ok (.aload_n 0, 1) := by decide +kernel
theorem dX4_init_37 : decode cX4_init 37 = .ok (.bipush 10, 2) := by decide +kernel
theorem dX4_init_39 : decode cX4_init 39 = .ok (.newarray .int, 2) := by decide +kernel
theorem dX4_init_41 : decode cX4_init 41 = .ok (.putfield 24, 3) := by decide +kernel
theorem dX4_init_44 : decode cX4_init 44 = .ok (.aload_n 0, 1) := by decide +kernel
theorem dX4_init_45 : decode cX4_init 45 = .ok (.bipush 10, 2) := by decide +kernel
theorem dX4_init_47 : decode cX4_init 47 = .ok (.newarray .int, 2) := by decide +kernel
theorem dX4_init_49 : decode cX4_init 49 = .ok (.putfield 27, 3) := by decide +kernel
theorem dX4_init_52 : decode cX4_init 52 = .ok (.return_, 1) := by decide +kernel
theorem dX4_goThrough_0 : decode cX4_goThrough 0 = .ok (.aload_n 0, 1) := by decide +kernel
theorem dX4_goThrough_1 : decode cX4_goThrough 1 = .ok (.invokevirtual 30, 3) := by decide +kernel
theorem dX4_goThrough_4 : decode cX4_goThrough 4 = .ok (.iconst 0, 1) := by decide +kernel
theorem dX4_goThrough_5 : decode cX4_goThrough 5 = .ok (.istore 4, 2) := by decide +kernel
theorem dX4_goThrough_7 : decode cX4_goThrough 7 = .ok (.iload 4, 2) := by decide +kernel
theorem dX4_goThrough_9 : decode cX4_goThrough 9 = .ok (.iload_n 2, 1) := by decide +kernel
theorem dX4_goThrough_10 : decode cX4_goThrough 10 = .ok (.if_icmp .ge 17, 3) := by decide +kernel
theorem dX4_goThrough_13 : decode cX4_goThrough 13 = .ok (.aload_n 0, 1) := by decide +kernel
theorem dX4_goThrough_14 : decode cX4_goThrough 14 = .ok (.aload_n 1, 1) := by decide +kernel
theorem dX4_goThrough_15 : decode cX4_goThrough 15 = .ok (.iload 4, 2) := by decide +kernel
theorem dX4_goThrough_17 : decode cX4_goThrough 17 = .ok (.iload_n 3, 1) := by decide +kernel
theorem dX4_goThrough_18 : decode cX4_goThrough 18 = .ok (.invokevirtual 33, 3) := by decide +kernel
theorem dX4_goThrough_21 : decode cX4_goThrough 21 = .ok (.iinc 4 1, 3) := by decide +kernel
theorem dX4_goThrough_24 : decode cX4_goThrough 24 = .ok (.goto (-17), 3) := by decide +kernel
theorem dX4_goThrough_27 : decode cX4_goThrough 27 = .ok (.return_, 1) := by decide +kernel
theorem dX4_forgetAll_0 : decode cX4_forgetAll 0 = .ok (.iconst 0, 1) := by decide +kernel
theorem dX4_forgetAll_1 : decode cX4_forgetAll 1 = .ok (.istore_n 1, 1) := by decide +kernel
theorem dX4_forgetAll_2 : decode cX4_forgetAll 2 = .ok (.iload_n 1, 1) := by decide +kernel
theorem dX4_forgetAll_3 : decode cX4_forgetAll 3 = .ok (.bipush 8, 2) := by decide +kernel
theorem dX4_forgetAll_5 : decode cX4_forgetAll 5 = .ok (.if_icmp .ge 24, 3) := by decide +kernel
theorem dX4_forgetAll_8 : decode cX4_forgetAll 8 = .ok (.aload_n 0, 1) := by decide +kernel
theorem dX4_forgetAll_9 : decode cX4_forgetAll 9 = .ok (.getfield 9, 3) := by decide +kernel
theorem dX4_forgetAll_12 : decode cX4_forgetAll 12 = .ok (.iload_n 1, 1) := by decide +kernel
theorem dX4_forgetAll_13 : decode cX4_forgetAll 13 = .ok (.bipush (-2), 2) := by decide +kernel
theorem dX4_forgetAll_15 : decode cX4_forgetAll 15 = .ok (.iastore, 1) := by decide +kernel
theorem dX4_forgetAll_16 : decode cX4_forgetAll 16 = .ok (.aload_n 0, 1) := by decide +kernel
theorem dX4_forgetAll_17 : decode cX4_forgetAll 17 = .ok (.getfield 15, 3) := by decide +kernel
theorem dX4_forgetAll_20 : decode cX4_forgetAll 20 = .ok (.iload_n 1, 1) := by decide +kernel
theorem dX4_forgetAll_21 : decode cX4_forgetAll 21 = .ok (.iconst 0, 1) := by decide +kernel
theorem dX4_forgetAll_22 : decode cX4_forgetAll 22 = .ok (.iastore, 1) := by decide +kernel
theorem dX4_forgetAll_23 : decode cX4_forgetAll 23 = .ok (.iinc 1 1, 3) := by decide +kernel
theorem dX4_forgetAll_26 : decode cX4_forgetAll 26 = .ok (.goto (-24), 3) := by decide +kernel
theorem dX4_forgetAll_29 : decode cX4_forgetAll 29 = .ok (.iconst 0, 1) := by decide +kernel
theorem dX4_forgetAll_30 : decode cX4_forgetAll 30 = .ok (.istore_n 1, 1) := by decide +kernel
theorem dX4_forgetAll_31 : decode cX4_forgetAll 31 = .ok (.iload_n 1, 1) := by decide +kernel
theorem dX4_forgetAll_32 : decode cX4_forgetAll 32 = .ok (.bipush 10, 2) := by decide +kernel
theorem dX4_forgetAll_34 : decode cX4_forgetAll 34 = .ok (.if_icmp .ge 39, 3) := by decide +kernel
theorem dX4_forgetAll_37 : decode cX4_forgetAll 37 = .ok (.aload_n 0, 1) := by decide +kernel
theorem dX4_forgetAll_38 : decode cX4_forgetAll 38 = .ok (.getfield 18, 3) := by decide +kernel
theorem dX4_forgetAll_41 : decode cX4_forgetAll 41 = .ok (.iload_n 1, 1) := by decide +kernel
theorem dX4_forgetAll_42 : decode cX4_forgetAll 42 = .ok (.bipush (-2), 2) := by decide +kernel
theorem dX4_forgetAll_44 : decode cX4_forgetAll 44 = .ok (.iastore, 1) := by decide +kernel
theorem dX4_forgetAll_45 : decode cX4_forgetAll 45 = .ok (.aload_n 0, 1) := by decide +kernel
theorem dX4_forgetAll_46 : decode cX4_forgetAll 46 = .ok (.getfield 21, 3) := by decide +kernel
theorem dX4_forgetAll_49 : decode cX4_forgetAll 49 = .ok (.iload_n 1, 1) := by decide +kernel
theorem dX4_forgetAll_50 : decode cX4_forgetAll 50 = .ok (.iconst 0, 1) := by decide +kernel
theorem dX4_forgetAll_51 : decode cX4_forgetAll 51 = .ok (.iastore, 1) := by decide +kernel
theorem dX4_forgetAll_52 : decode cX4_forgetAll 52 = .ok (.aload_n 0, 1) := by decide +kernel
theorem dX4_forgetAll_53 : decode cX4_forgetAll 53 = .ok (.getfield 24, 3) := by decide +kernel
theorem dX4_forgetAll_56 : decode cX4_forgetAll 56 = .ok (.iload_n 1, 1) := by decide +kernel
theorem dX4_forgetAll_57 : decode cX4_forgetAll 57 = .ok (.bipush (-2), 2) := by decide +kernel
theorem dX4_forgetAll_59 : decode cX4_forgetAll 59 = .ok (.iastore, 1) := by decide +kernel
theorem dX4_forgetAll_60 : decode cX4_forgetAll 60 = .ok (.aload_n 0, 1) := by decide +kernel
theorem dX4_forgetAll_61 : decode cX4_forgetAll 61 = .ok (.getfield 27, 3) := by decide +kernel
theorem dX4_forgetAll_64 : decode cX4_forgetAll 64 = .ok (.iload_n 1, 1) := by decide +kernel
theorem dX4_forgetAll_65 : decode cX4_forgetAll 65 = .ok (.iconst 0, 1) := by decide +kernel
theorem dX4_forgetAll_66 : decode cX4_forgetAll 66 = .ok (.iastore, 1) := by decide +kernel
theorem dX4_forgetAll_67 : decode cX4_forgetAll 67 = .ok (.iinc 1 1, 3) := by decide +kernel
theorem dX4_forgetAll_70 : decode cX4_forgetAll 70 = .ok (.goto (-39), 3) := by decide +kernel
theorem dX4_forgetAll_73 : decode cX4_forgetAll 73 = .ok (.return_, 1) := by decide +kernel
theorem dX4_allows_0 : decode cX4_allows 0 = .ok (.aload_n 1, 1) := by decide +kernel
theorem dX4_allows_1 : decode cX4_allows 1 = .ok (.iload_n 2, 1) := by decide +kernel
theorem dX4_allows_2 : decode cX4_allows 2 = .ok (.iconst 0, 1) := by decide +kernel
theorem dX4_allows_3 : decode cX4_allows 3 = .ok (.iload_n 3, 1) := by decide +kernel
theorem dX4_allows_4 : decode cX4_allows 4 = .ok (.invokevirtual 37, 3) := by decide +kernel
theorem dX4_allows_7 : decode cX4_allows 7 = .ok (.istore 4, 2) := by decide +kernel
theorem dX4_allows_9 : decode cX4_allows 9 = .ok (.iload 4, 2) := by decide +kernel
theorem dX4_allows_11 : decode cX4_allows 11 = .ok (.iconst (-1), 1) := by decide +kernel
theorem dX4_allows_12 : decode cX4_allows 12 = .ok (.if_icmp .ne 5, 3) := by decide +kernel
theorem dX4_allows_15 : decode cX4_allows 15 = .ok (.iconst 0, 1) := by decide +kernel
theorem dX4_allows_16 : decode cX4_allows 16 = .ok (.ireturn, 1) := by decide +kernel
theorem dX4_allows_17 : decode cX4_allows 17 = .ok (.aload_n 1, 1) := by decide +kernel
theorem dX4_allows_18 : decode cX4_allows 18 = .ok (.iload_n 2, 1) := by decide +kernel
theorem dX4_allows_19 : decode cX4_allows 19 = .ok (.invokevirtual 43, 3) := by decide +kernel
theorem dX4_allows_22 : decode cX4_allows 22 = .ok (.bipush 10, 2) := by decide +kernel
theorem dX4_allows_24 : decode cX4_allows 24 = .ok (.isub, 1) := by decide +kernel
theorem dX4_allows_25 : decode cX4_allows 25 = .ok (.istore 5, 2) := by decide +kernel
theorem dX4_allows_27 : decode cX4_allows 27 = .ok (.aload_n 1, 1) := by decide +kernel
theorem dX4_allows_28 : decode cX4_allows 28 = .ok (.iload_n 2, 1) := by decide +kernel
theorem dX4_allows_29 : decode cX4_allows 29 = .ok (.invokevirtual 47, 3) := by decide +kernel
theorem dX4_allows_32 : decode cX4_allows 32 = .ok (.tableswitch 62 31 33 #[28, 37, 46], 28) := by decide +kernel
theorem dX4_allows_60 : decode cX4_allows 60 = .ok (.aload_n 0, 1) := by decide +kernel
theorem dX4_allows_61 : decode cX4_allows 61 = .ok (.iload 4, 2) := by decide +kernel
theorem dX4_allows_63 : decode cX4_allows 63 = .ok (.iload 5, 2) := by decide +kernel
theorem dX4_allows_65 : decode cX4_allows 65 = .ok (.invokevirtual 50, 3) := by decide +kernel
theorem dX4_allows_68 : decode cX4_allows 68 = .ok (.ireturn, 1) := by decide +kernel
theorem dX4_allows_69 : decode cX4_allows 69 = .ok (.aload_n 0, 1) := by decide +kernel
theorem dX4_allows_70 : decode cX4_allows 70 = .ok (.iload 4, 2) := by decide +kernel
theorem dX4_allows_72 : decode cX4_allows 72 = .ok (.iload 5, 2) := by decide +kernel
theorem dX4_allows_74 : decode cX4_allows 74 = .ok (.invokevirtual 54, 3) := by decide +kernel
theorem dX4_allows_77 : decode cX4_allows 77 = .ok (.ireturn, 1) := by decide +kernel
theorem dX4_allows_78 : decode cX4_allows 78 = .ok (.aload_n 0, 1) := by decide +kernel
theorem dX4_allows_79 : decode cX4_allows 79 = .ok (.iload 4, 2) := by decide +kernel
theorem dX4_allows_81 : decode cX4_allows 81 = .ok (.iload 5, 2) := by decide +kernel
theorem dX4_allows_83 : decode cX4_allows 83 = .ok (.aload_n 1, 1) := by decide +kernel
theorem dX4_allows_84 : decode cX4_allows 84 = .ok (.iload_n 2, 1) := by decide +kernel
theorem dX4_allows_85 : decode cX4_allows 85 = .ok (.iconst 1, 1) := by decide +kernel
theorem dX4_allows_86 : decode cX4_allows 86 = .ok (.iload_n 3, 1) := by decide +kernel
theorem dX4_allows_87 : decode cX4_allows 87 = .ok (.invokevirtual 37, 3) := by decide +kernel
theorem dX4_allows_90 : decode cX4_allows 90 = .ok (.invokevirtual 57, 3) := by decide +kernel
theorem dX4_allows_93 : decode cX4_allows 93 = .ok (.ireturn, 1) := by decide +kernel
theorem dX4_allows_94 : decode cX4_allows 94 = .ok (.iconst 1, 1) := by decide +kernel
theorem dX4_allows_95 : decode cX4_allows 95 = .ok (.ireturn, 1) := by decide +kernel
theorem dX4_allowsTaking_0 : decode cX4_allowsTaking 0 = .ok (.aload_n 0, 1) := by decide +kernel
theorem dX4_allowsTaking_1 : decode cX4_allowsTaking 1 = .ok (.getfield 18, 3) := by decide +kernel
theorem dX4_allowsTaking_4 : decode cX4_allowsTaking 4 = .ok (.iload_n 2, 1) := by decide +kernel
theorem dX4_allowsTaking_5 : decode cX4_allowsTaking 5 = .ok (.iaload, 1) := by decide +kernel
theorem dX4_allowsTaking_6 : decode cX4_allowsTaking 6 = .ok (.bipush 9, 2) := by decide +kernel
theorem dX4_allowsTaking_8 : decode cX4_allowsTaking 8 = .ok (.if_icmp .ne 19, 3) := by decide +kernel
theorem dX4_allowsTaking_11 : decode cX4_allowsTaking 11 = .ok (.aload_n 0, 1) := by decide +kernel
theorem dX4_allowsTaking_12 : decode cX4_allowsTaking 12 = .ok (.getfield 24, 3) := by decide +kernel
theorem dX4_allowsTaking_15 : decode cX4_allowsTaking 15 = .ok (.iload_n 2, 1) := by decide +kernel
theorem dX4_allowsTaking_16 : decode cX4_allowsTaking 16 = .ok (.iaload, 1) := by decide +kernel
theorem dX4_allowsTaking_17 : decode cX4_allowsTaking 17 = .ok (.aload_n 0, 1) := by decide +kernel
theorem dX4_allowsTaking_18 : decode cX4_allowsTaking 18 = .ok (.getfield 9, 3) := by decide +kernel
theorem dX4_allowsTaking_21 : decode cX4_allowsTaking 21 = .ok (.iload_n 1, 1) := by decide +kernel
theorem dX4_allowsTaking_22 : decode cX4_allowsTaking 22 = .ok (.iaload, 1) := by decide +kernel
theorem dX4_allowsTaking_23 : decode cX4_allowsTaking 23 = .ok (.invokestatic 61, 3) := by decide +kernel
theorem dX4_allowsTaking_26 : decode cX4_allowsTaking 26 = .ok (.ireturn, 1) := by decide +kernel
theorem dX4_allowsTaking_27 : decode cX4_allowsTaking 27 = .ok (.aload_n 0, 1) := by decide +kernel
theorem dX4_allowsTaking_28 : decode cX4_allowsTaking 28 = .ok (.iload_n 1, 1) := by decide +kernel
theorem dX4_allowsTaking_29 : decode cX4_allowsTaking 29 = .ok (.iload_n 2, 1) := by decide +kernel
theorem dX4_allowsTaking_30 : decode cX4_allowsTaking 30 = .ok (.invokevirtual 54, 3) := by decide +kernel
theorem dX4_allowsTaking_33 : decode cX4_allowsTaking 33 = .ok (.ireturn, 1) := by decide +kernel
theorem dX4_allowsGiving_0 : decode cX4_allowsGiving 0 = .ok (.iload_n 3, 1) := by decide +kernel
theorem dX4_allowsGiving_1 : decode cX4_allowsGiving 1 = .ok (.iconst (-1), 1) := by decide +kernel
theorem dX4_allowsGiving_2 : decode cX4_allowsGiving 2 = .ok (.if_icmp .eq 8, 3) := by decide +kernel
theorem dX4_allowsGiving_5 : decode cX4_allowsGiving 5 = .ok (.iload_n 3, 1) := by decide +kernel
theorem dX4_allowsGiving_6 : decode cX4_allowsGiving 6 = .ok (.iload_n 1, 1) := by decide +kernel
theorem dX4_allowsGiving_7 : decode cX4_allowsGiving 7 = .ok (.if_icmp .ne 5, 3) := by decide +kernel
theorem dX4_allowsGiving_10 : decode cX4_allowsGiving 10 = .ok (.iconst 0, 1) := by decide +kernel
theorem dX4_allowsGiving_11 : decode cX4_allowsGiving 11 = .ok (.ireturn, 1) := by decide +kernel
theorem dX4_allowsGiving_12 : decode cX4_allowsGiving 12 = .ok (.aload_n 0, 1) := by decide +kernel
theorem dX4_allowsGiving_13 : decode cX4_allowsGiving 13 = .ok (.iload_n 1, 1) := by decide +kernel
theorem dX4_allowsGiving_14 : decode cX4_allowsGiving 14 = .ok (.iload_n 2, 1) := by decide +kernel
theorem dX4_allowsGiving_15 : decode cX4_allowsGiving 15 = .ok (.invokevirtual 54, 3) := by decide +kernel
theorem dX4_allowsGiving_18 : decode cX4_allowsGiving 18 = .ok (.ifCond .eq 25, 3) := by decide +kernel
theorem dX4_allowsGiving_21 : decode cX4_allowsGiving 21 = .ok (.aload_n 0, 1) := by decide +kernel
theorem dX4_allowsGiving_22 : decode cX4_allowsGiving 22 = .ok (.getfield 9, 3) := by decide +kernel
theorem dX4_allowsGiving_25 : decode cX4_allowsGiving 25 = .ok (.iload_n 1, 1) := by decide +kernel
theorem dX4_allowsGiving_26 : decode cX4_allowsGiving 26 = .ok (.iaload, 1) := by decide +kernel
theorem dX4_allowsGiving_27 : decode cX4_allowsGiving 27 = .ok (.aload_n 0, 1) := by decide +kernel
theorem dX4_allowsGiving_28 : decode cX4_allowsGiving 28 = .ok (.getfield 9, 3) := by decide +kernel
theorem dX4_allowsGiving_31 : decode cX4_allowsGiving 31 = .ok (.iload_n 3, 1) := by decide +kernel
theorem dX4_allowsGiving_32 : decode cX4_allowsGiving 32 = .ok (.iaload, 1) := by decide +kernel
theorem dX4_allowsGiving_33 : decode cX4_allowsGiving 33 = .ok (.invokestatic 61, 3) := by decide +kernel
theorem dX4_allowsGiving_36 : decode cX4_allowsGiving 36 = .ok (.ifCond .eq 7, 3) := by decide +kernel
theorem dX4_allowsGiving_39 : decode cX4_allowsGiving 39 = .ok (.iconst 1, 1) := by decide +kernel
theorem dX4_allowsGiving_40 : decode cX4_allowsGiving 40 = .ok (.goto 4, 3) := by decide +kernel
theorem dX4_allowsGiving_43 : decode cX4_allowsGiving 43 = .ok (.iconst 0, 1) := by decide +kernel
theorem dX4_allowsGiving_44 : decode cX4_allowsGiving 44 = .ok (.ireturn, 1) := by decide +kernel
theorem dX4_mayHave_0 : decode cX4_mayHave 0 = .ok (.aload_n 0, 1) := by decide +kernel
theorem dX4_mayHave_1 : decode cX4_mayHave 1 = .ok (.getfield 18, 3) := by decide +kernel
theorem dX4_mayHave_4 : decode cX4_mayHave 4 = .ok (.iload_n 2, 1) := by decide +kernel
theorem dX4_mayHave_5 : decode cX4_mayHave 5 = .ok (.iaload, 1) := by decide +kernel
theorem dX4_mayHave_6 : decode cX4_mayHave 6 = .ok (.bipush (-2), 2) := by decide +kernel
theorem dX4_mayHave_8 : decode cX4_mayHave 8 = .ok (.if_icmp .eq 13, 3) := by decide +kernel
theorem dX4_mayHave_11 : decode cX4_mayHave 11 = .ok (.aload_n 0, 1) := by decide +kernel
theorem dX4_mayHave_12 : decode cX4_mayHave 12 = .ok (.getfield 18, 3) := by decide +kernel
theorem dX4_mayHave_15 : decode cX4_mayHave 15 = .ok (.iload_n 2, 1) := by decide +kernel
theorem dX4_mayHave_16 : decode cX4_mayHave 16 = .ok (.iaload, 1) := by decide +kernel
theorem dX4_mayHave_17 : decode cX4_mayHave 17 = .ok (.iload_n 1, 1) := by decide +kernel
theorem dX4_mayHave_18 : decode cX4_mayHave 18 = .ok (.if_icmp .ne 7, 3) := by decide +kernel
theorem dX4_mayHave_21 : decode cX4_mayHave 21 = .ok (.iconst 1, 1) := by decide +kernel
theorem dX4_mayHave_22 : decode cX4_mayHave 22 = .ok (.goto 4, 3) := by decide +kernel
theorem dX4_mayHave_25 : decode cX4_mayHave 25 = .ok (.iconst 0, 1) := by decide +kernel
theorem dX4_mayHave_26 : decode cX4_mayHave 26 = .ok (.ireturn, 1) := by decide +kernel
theorem dX4_mayBeOnePlace_0 : decode cX4_mayBeOnePlace 0 = .ok (.iload_n 0, 1) := by decide +kernel
theorem dX4_mayBeOnePlace_1 : decode cX4_mayBeOnePlace 1 = .ok (.bipush (-2), 2) := by decide +kernel
theorem dX4_mayBeOnePlace_3 : decode cX4_mayBeOnePlace 3 = .ok (.if_icmp .eq 14, 3) := by decide +kernel
theorem dX4_mayBeOnePlace_6 : decode cX4_mayBeOnePlace 6 = .ok (.iload_n 1, 1) := by decide +kernel
theorem dX4_mayBeOnePlace_7 : decode cX4_mayBeOnePlace 7 = .ok (.bipush (-2), 2) := by decide +kernel
theorem dX4_mayBeOnePlace_9 : decode cX4_mayBeOnePlace 9 = .ok (.if_icmp .eq 8, 3) := by decide +kernel
theorem dX4_mayBeOnePlace_12 : decode cX4_mayBeOnePlace 12 = .ok (.iload_n 0, 1) := by decide +kernel
theorem dX4_mayBeOnePlace_13 : decode cX4_mayBeOnePlace 13 = .ok (.iload_n 1, 1) := by decide +kernel
theorem dX4_mayBeOnePlace_14 : decode cX4_mayBeOnePlace 14 = .ok (.if_icmp .ne 7, 3) := by decide +kernel
theorem dX4_mayBeOnePlace_17 : decode cX4_mayBeOnePlace 17 = .ok (.iconst 1, 1) := by decide +kernel
theorem dX4_mayBeOnePlace_18 : decode cX4_mayBeOnePlace 18 = .ok (.goto 4, 3) := by decide +kernel
theorem dX4_mayBeOnePlace_21 : decode cX4_mayBeOnePlace 21 = .ok (.iconst 0, 1) := by decide +kernel
theorem dX4_mayBeOnePlace_22 : decode cX4_mayBeOnePlace 22 = .ok (.ireturn, 1) := by decide +kernel
theorem dX4_tell_0 : decode cX4_tell 0 = .ok (.aload_n 1, 1) := by decide +kernel
theorem dX4_tell_1 : decode cX4_tell 1 = .ok (.iload_n 2, 1) := by decide +kernel
theorem dX4_tell_2 : decode cX4_tell 2 = .ok (.iconst 0, 1) := by decide +kernel
theorem dX4_tell_3 : decode cX4_tell 3 = .ok (.iload_n 3, 1) := by decide +kernel
theorem dX4_tell_4 : decode cX4_tell 4 = .ok (.invokevirtual 37, 3) := by decide +kernel
theorem dX4_tell_7 : decode cX4_tell 7 = .ok (.istore 4, 2) := by decide +kernel
theorem dX4_tell_9 : decode cX4_tell 9 = .ok (.iload 4, 2) := by decide +kernel
theorem dX4_tell_11 : decode cX4_tell 11 = .ok (.iconst (-1), 1) := by decide +kernel
theorem dX4_tell_12 : decode cX4_tell 12 = .ok (.if_icmp .ne 4, 3) := by decide +kernel
theorem dX4_tell_15 : decode cX4_tell 15 = .ok (.return_, 1) := by decide +kernel
theorem dX4_tell_16 : decode cX4_tell 16 = .ok (.iconst 1, 1) := by decide +kernel
theorem dX4_tell_17 : decode cX4_tell 17 = .ok (.iload_n 2, 1) := by decide +kernel
theorem dX4_tell_18 : decode cX4_tell 18 = .ok (.ishl, 1) := by decide +kernel
theorem dX4_tell_19 : decode cX4_tell 19 = .ok (.istore 5, 2) := by decide +kernel
theorem dX4_tell_21 : decode cX4_tell 21 = .ok (.aload_n 1, 1) := by decide +kernel
theorem dX4_tell_22 : decode cX4_tell 22 = .ok (.iload_n 2, 1) := by decide +kernel
theorem dX4_tell_23 : decode cX4_tell 23 = .ok (.invokevirtual 43, 3) := by decide +kernel
theorem dX4_tell_26 : decode cX4_tell 26 = .ok (.bipush 10, 2) := by decide +kernel
theorem dX4_tell_28 : decode cX4_tell 28 = .ok (.isub, 1) := by decide +kernel
theorem dX4_tell_29 : decode cX4_tell 29 = .ok (.istore 6, 2) := by decide +kernel
theorem dX4_tell_31 : decode cX4_tell 31 = .ok (.aload_n 1, 1) := by decide +kernel
theorem dX4_tell_32 : decode cX4_tell 32 = .ok (.iload_n 2, 1) := by decide +kernel
theorem dX4_tell_33 : decode cX4_tell 33 = .ok (.invokevirtual 47, 3) := by decide +kernel
theorem dX4_tell_36 : decode cX4_tell 36 = .ok (.tableswitch 74 31 33 #[28, 41, 54], 28) := by decide +kernel
theorem dX4_tell_64 : decode cX4_tell 64 = .ok (.aload_n 0, 1) := by decide +kernel
theorem dX4_tell_65 : decode cX4_tell 65 = .ok (.iload 4, 2) := by decide +kernel
theorem dX4_tell_67 : decode cX4_tell 67 = .ok (.iload 6, 2) := by decide +kernel
theorem dX4_tell_69 : decode cX4_tell 69 = .ok (.iload 5, 2) := by decide +kernel
theorem dX4_tell_71 : decode cX4_tell 71 = .ok (.invokevirtual 64, 3) := by decide +kernel
theorem dX4_tell_74 : decode cX4_tell 74 = .ok (.goto 57, 3) := by decide +kernel
theorem dX4_tell_77 : decode cX4_tell 77 = .ok (.aload_n 0, 1) := by decide +kernel
theorem dX4_tell_78 : decode cX4_tell 78 = .ok (.iload 4, 2) := by decide +kernel
theorem dX4_tell_80 : decode cX4_tell 80 = .ok (.iload 6, 2) := by decide +kernel
theorem dX4_tell_82 : decode cX4_tell 82 = .ok (.iload 5, 2) := by decide +kernel
theorem dX4_tell_84 : decode cX4_tell 84 = .ok (.invokevirtual 68, 3) := by decide +kernel
theorem dX4_tell_87 : decode cX4_tell 87 = .ok (.goto 44, 3) := by decide +kernel
theorem dX4_tell_90 : decode cX4_tell 90 = .ok (.aload_n 0, 1) := by decide +kernel
theorem dX4_tell_91 : decode cX4_tell 91 = .ok (.iload 4, 2) := by decide +kernel
theorem dX4_tell_93 : decode cX4_tell 93 = .ok (.iload 6, 2) := by decide +kernel
theorem dX4_tell_95 : decode cX4_tell 95 = .ok (.aload_n 1, 1) := by decide +kernel
theorem dX4_tell_96 : decode cX4_tell 96 = .ok (.iload_n 2, 1) := by decide +kernel
theorem dX4_tell_97 : decode cX4_tell 97 = .ok (.iconst 1, 1) := by decide +kernel
theorem dX4_tell_98 : decode cX4_tell 98 = .ok (.iload_n 3, 1) := by decide +kernel
theorem dX4_tell_99 : decode cX4_tell 99 = .ok (.invokevirtual 37, 3) := by decide +kernel
theorem dX4_tell_102 : decode cX4_tell 102 = .ok (.iload 5, 2) := by decide +kernel
theorem dX4_tell_104 : decode cX4_tell 104 = .ok (.invokevirtual 71, 3) := by decide +kernel
theorem dX4_tell_107 : decode cX4_tell 107 = .ok (.goto 24, 3) := by decide +kernel
theorem dX4_tell_110 : decode cX4_tell 110 = .ok (.aload_n 0, 1) := by decide +kernel
theorem dX4_tell_111 : decode cX4_tell 111 = .ok (.getfield 9, 3) := by decide +kernel
theorem dX4_tell_114 : decode cX4_tell 114 = .ok (.iload 4, 2) := by decide +kernel
theorem dX4_tell_116 : decode cX4_tell 116 = .ok (.aload_n 1, 1) := by decide +kernel
theorem dX4_tell_117 : decode cX4_tell 117 = .ok (.iload_n 2, 1) := by decide +kernel
theorem dX4_tell_118 : decode cX4_tell 118 = .ok (.invokevirtual 43, 3) := by decide +kernel
theorem dX4_tell_121 : decode cX4_tell 121 = .ok (.iastore, 1) := by decide +kernel
theorem dX4_tell_122 : decode cX4_tell 122 = .ok (.aload_n 0, 1) := by decide +kernel
theorem dX4_tell_123 : decode cX4_tell 123 = .ok (.getfield 15, 3) := by decide +kernel
theorem dX4_tell_126 : decode cX4_tell 126 = .ok (.iload 4, 2) := by decide +kernel
theorem dX4_tell_128 : decode cX4_tell 128 = .ok (.iload 5, 2) := by decide +kernel
theorem dX4_tell_130 : decode cX4_tell 130 = .ok (.iastore, 1) := by decide +kernel
theorem dX4_tell_131 : decode cX4_tell 131 = .ok (.return_, 1) := by decide +kernel
theorem dX4_tellTaking_0 : decode cX4_tellTaking 0 = .ok (.aload_n 0, 1) := by decide +kernel
theorem dX4_tellTaking_1 : decode cX4_tellTaking 1 = .ok (.getfield 18, 3) := by decide +kernel
theorem dX4_tellTaking_4 : decode cX4_tellTaking 4 = .ok (.iload_n 2, 1) := by decide +kernel
theorem dX4_tellTaking_5 : decode cX4_tellTaking 5 = .ok (.iaload, 1) := by decide +kernel
theorem dX4_tellTaking_6 : decode cX4_tellTaking 6 = .ok (.iload_n 1, 1) := by decide +kernel
theorem dX4_tellTaking_7 : decode cX4_tellTaking 7 = .ok (.if_icmp .ne 4, 3) := by decide +kernel
theorem dX4_tellTaking_10 : decode cX4_tellTaking 10 = .ok (.return_, 1) := by decide +kernel
theorem dX4_tellTaking_11 : decode cX4_tellTaking 11 = .ok (.aload_n 0, 1) := by decide +kernel
theorem dX4_tellTaking_12 : decode cX4_tellTaking 12 = .ok (.getfield 18, 3) := by decide +kernel
theorem dX4_tellTaking_15 : decode cX4_tellTaking 15 = .ok (.iload_n 2, 1) := by decide +kernel
theorem dX4_tellTaking_16 : decode cX4_tellTaking 16 = .ok (.iaload, 1) := by decide +kernel
theorem dX4_tellTaking_17 : decode cX4_tellTaking 17 = .ok (.bipush 9, 2) := by decide +kernel
theorem dX4_tellTaking_19 : decode cX4_tellTaking 19 = .ok (.if_icmp .ne 22, 3) := by decide +kernel
theorem dX4_tellTaking_22 : decode cX4_tellTaking 22 = .ok (.aload_n 0, 1) := by decide +kernel
theorem dX4_tellTaking_23 : decode cX4_tellTaking 23 = .ok (.iload_n 1, 1) := by decide +kernel
theorem dX4_tellTaking_24 : decode cX4_tellTaking 24 = .ok (.aload_n 0, 1) := by decide +kernel
theorem dX4_tellTaking_25 : decode cX4_tellTaking 25 = .ok (.getfield 24, 3) := by decide +kernel
theorem dX4_tellTaking_28 : decode cX4_tellTaking 28 = .ok (.iload_n 2, 1) := by decide +kernel
theorem dX4_tellTaking_29 : decode cX4_tellTaking 29 = .ok (.iaload, 1) := by decide +kernel
theorem dX4_tellTaking_30 : decode cX4_tellTaking 30 = .ok (.aload_n 0, 1) := by decide +kernel
theorem dX4_tellTaking_31 : decode cX4_tellTaking 31 = .ok (.getfield 27, 3) := by decide +kernel
theorem dX4_tellTaking_34 : decode cX4_tellTaking 34 = .ok (.iload_n 2, 1) := by decide +kernel
theorem dX4_tellTaking_35 : decode cX4_tellTaking 35 = .ok (.iaload, 1) := by decide +kernel
theorem dX4_tellTaking_36 : decode cX4_tellTaking 36 = .ok (.iload_n 3, 1) := by decide +kernel
theorem dX4_tellTaking_37 : decode cX4_tellTaking 37 = .ok (.ior, 1) := by decide +kernel
theorem dX4_tellTaking_38 : decode cX4_tellTaking 38 = .ok (.invokevirtual 75, 3) := by decide +kernel
theorem dX4_tellTaking_41 : decode cX4_tellTaking 41 = .ok (.aload_n 0, 1) := by decide +kernel
theorem dX4_tellTaking_42 : decode cX4_tellTaking 42 = .ok (.iload_n 1, 1) := by decide +kernel
theorem dX4_tellTaking_43 : decode cX4_tellTaking 43 = .ok (.iload_n 2, 1) := by decide +kernel
theorem dX4_tellTaking_44 : decode cX4_tellTaking 44 = .ok (.iload_n 3, 1) := by decide +kernel
theorem dX4_tellTaking_45 : decode cX4_tellTaking 45 = .ok (.invokevirtual 78, 3) := by decide +kernel
theorem dX4_tellTaking_48 : decode cX4_tellTaking 48 = .ok (.return_, 1) := by decide +kernel
theorem dX4_tellDropping_0 : decode cX4_tellDropping 0 = .ok (.aload_n 0, 1) := by decide +kernel
theorem dX4_tellDropping_1 : decode cX4_tellDropping 1 = .ok (.getfield 18, 3) := by decide +kernel
theorem dX4_tellDropping_4 : decode cX4_tellDropping 4 = .ok (.iload_n 2, 1) := by decide +kernel
theorem dX4_tellDropping_5 : decode cX4_tellDropping 5 = .ok (.bipush 9, 2) := by decide +kernel
theorem dX4_tellDropping_7 : decode cX4_tellDropping 7 = .ok (.iastore, 1) := by decide +kernel
theorem dX4_tellDropping_8 : decode cX4_tellDropping 8 = .ok (.aload_n 0, 1) := by decide +kernel
theorem dX4_tellDropping_9 : decode cX4_tellDropping 9 = .ok (.getfield 21, 3) := by decide +kernel
theorem dX4_tellDropping_12 : decode cX4_tellDropping 12 = .ok (.iload_n 2, 1) := by decide +kernel
theorem dX4_tellDropping_13 : decode cX4_tellDropping 13 = .ok (.iload_n 3, 1) := by decide +kernel
theorem dX4_tellDropping_14 : decode cX4_tellDropping 14 = .ok (.iastore, 1) := by decide +kernel
theorem dX4_tellDropping_15 : decode cX4_tellDropping 15 = .ok (.aload_n 0, 1) := by decide +kernel
theorem dX4_tellDropping_16 : decode cX4_tellDropping 16 = .ok (.getfield 24, 3) := by decide +kernel
theorem dX4_tellDropping_19 : decode cX4_tellDropping 19 = .ok (.iload_n 2, 1) := by decide +kernel
theorem dX4_tellDropping_20 : decode cX4_tellDropping 20 = .ok (.aload_n 0, 1) := by decide +kernel
theorem dX4_tellDropping_21 : decode cX4_tellDropping 21 = .ok (.getfield 9, 3) := by decide +kernel
theorem dX4_tellDropping_24 : decode cX4_tellDropping 24 = .ok (.iload_n 1, 1) := by decide +kernel
theorem dX4_tellDropping_25 : decode cX4_tellDropping 25 = .ok (.iaload, 1) := by decide +kernel
theorem dX4_tellDropping_26 : decode cX4_tellDropping 26 = .ok (.iastore, 1) := by decide +kernel
theorem dX4_tellDropping_27 : decode cX4_tellDropping 27 = .ok (.aload_n 0, 1) := by decide +kernel
theorem dX4_tellDropping_28 : decode cX4_tellDropping 28 = .ok (.getfield 27, 3) := by decide +kernel
theorem dX4_tellDropping_31 : decode cX4_tellDropping 31 = .ok (.iload_n 2, 1) := by decide +kernel
theorem dX4_tellDropping_32 : decode cX4_tellDropping 32 = .ok (.iload_n 3, 1) := by decide +kernel
theorem dX4_tellDropping_33 : decode cX4_tellDropping 33 = .ok (.aload_n 0, 1) := by decide +kernel
theorem dX4_tellDropping_34 : decode cX4_tellDropping 34 = .ok (.getfield 15, 3) := by decide +kernel
theorem dX4_tellDropping_37 : decode cX4_tellDropping 37 = .ok (.iload_n 1, 1) := by decide +kernel
theorem dX4_tellDropping_38 : decode cX4_tellDropping 38 = .ok (.iaload, 1) := by decide +kernel
theorem dX4_tellDropping_39 : decode cX4_tellDropping 39 = .ok (.ior, 1) := by decide +kernel
theorem dX4_tellDropping_40 : decode cX4_tellDropping 40 = .ok (.iastore, 1) := by decide +kernel
theorem dX4_tellDropping_41 : decode cX4_tellDropping 41 = .ok (.return_, 1) := by decide +kernel
theorem dX4_tellGiving_0 : decode cX4_tellGiving 0 = .ok (.iload_n 3, 1) := by decide +kernel
theorem dX4_tellGiving_1 : decode cX4_tellGiving 1 = .ok (.iconst (-1), 1) := by decide +kernel
theorem dX4_tellGiving_2 : decode cX4_tellGiving 2 = .ok (.if_icmp .ne 4, 3) := by decide +kernel
theorem dX4_tellGiving_5 : decode cX4_tellGiving 5 = .ok (.return_, 1) := by decide +kernel
theorem dX4_tellGiving_6 : decode cX4_tellGiving 6 = .ok (.aload_n 0, 1) := by decide +kernel
theorem dX4_tellGiving_7 : decode cX4_tellGiving 7 = .ok (.iload_n 1, 1) := by decide +kernel
theorem dX4_tellGiving_8 : decode cX4_tellGiving 8 = .ok (.aload_n 0, 1) := by decide +kernel
theorem dX4_tellGiving_9 : decode cX4_tellGiving 9 = .ok (.getfield 9, 3) := by decide +kernel
theorem dX4_tellGiving_12 : decode cX4_tellGiving 12 = .ok (.iload_n 3, 1) := by decide +kernel
theorem dX4_tellGiving_13 : decode cX4_tellGiving 13 = .ok (.iaload, 1) := by decide +kernel
theorem dX4_tellGiving_14 : decode cX4_tellGiving 14 = .ok (.aload_n 0, 1) := by decide +kernel
theorem dX4_tellGiving_15 : decode cX4_tellGiving 15 = .ok (.getfield 15, 3) := by decide +kernel
theorem dX4_tellGiving_18 : decode cX4_tellGiving 18 = .ok (.iload_n 3, 1) := by decide +kernel
theorem dX4_tellGiving_19 : decode cX4_tellGiving 19 = .ok (.iaload, 1) := by decide +kernel
theorem dX4_tellGiving_20 : decode cX4_tellGiving 20 = .ok (.iload 4, 2) := by decide +kernel
theorem dX4_tellGiving_22 : decode cX4_tellGiving 22 = .ok (.ior, 1) := by decide +kernel
theorem dX4_tellGiving_23 : decode cX4_tellGiving 23 = .ok (.invokevirtual 75, 3) := by decide +kernel
theorem dX4_tellGiving_26 : decode cX4_tellGiving 26 = .ok (.aload_n 0, 1) := by decide +kernel
theorem dX4_tellGiving_27 : decode cX4_tellGiving 27 = .ok (.iload_n 3, 1) := by decide +kernel
theorem dX4_tellGiving_28 : decode cX4_tellGiving 28 = .ok (.aload_n 0, 1) := by decide +kernel
theorem dX4_tellGiving_29 : decode cX4_tellGiving 29 = .ok (.getfield 9, 3) := by decide +kernel
theorem dX4_tellGiving_32 : decode cX4_tellGiving 32 = .ok (.iload_n 1, 1) := by decide +kernel
theorem dX4_tellGiving_33 : decode cX4_tellGiving 33 = .ok (.iaload, 1) := by decide +kernel
theorem dX4_tellGiving_34 : decode cX4_tellGiving 34 = .ok (.aload_n 0, 1) := by decide +kernel
theorem dX4_tellGiving_35 : decode cX4_tellGiving 35 = .ok (.getfield 15, 3) := by decide +kernel
theorem dX4_tellGiving_38 : decode cX4_tellGiving 38 = .ok (.iload_n 1, 1) := by decide +kernel
theorem dX4_tellGiving_39 : decode cX4_tellGiving 39 = .ok (.iaload, 1) := by decide +kernel
theorem dX4_tellGiving_40 : decode cX4_tellGiving 40 = .ok (.iload 4, 2) := by decide +kernel
theorem dX4_tellGiving_42 : decode cX4_tellGiving 42 = .ok (.ior, 1) := by decide +kernel
theorem dX4_tellGiving_43 : decode cX4_tellGiving 43 = .ok (.invokevirtual 75, 3) := by decide +kernel
theorem dX4_tellGiving_46 : decode cX4_tellGiving 46 = .ok (.aload_n 0, 1) := by decide +kernel
theorem dX4_tellGiving_47 : decode cX4_tellGiving 47 = .ok (.iload_n 3, 1) := by decide +kernel
theorem dX4_tellGiving_48 : decode cX4_tellGiving 48 = .ok (.iload_n 2, 1) := by decide +kernel
theorem dX4_tellGiving_49 : decode cX4_tellGiving 49 = .ok (.iload 4, 2) := by decide +kernel
theorem dX4_tellGiving_51 : decode cX4_tellGiving 51 = .ok (.invokevirtual 78, 3) := by decide +kernel
theorem dX4_tellGiving_54 : decode cX4_tellGiving 54 = .ok (.return_, 1) := by decide +kernel
theorem dX4_inferPlace_0 : decode cX4_inferPlace 0 = .ok (.aload_n 0, 1) := by decide +kernel
theorem dX4_inferPlace_1 : decode cX4_inferPlace 1 = .ok (.getfield 9, 3) := by decide +kernel
theorem dX4_inferPlace_4 : decode cX4_inferPlace 4 = .ok (.iload_n 1, 1) := by decide +kernel
theorem dX4_inferPlace_5 : decode cX4_inferPlace 5 = .ok (.iaload, 1) := by decide +kernel
theorem dX4_inferPlace_6 : decode cX4_inferPlace 6 = .ok (.bipush (-2), 2) := by decide +kernel
theorem dX4_inferPlace_8 : decode cX4_inferPlace 8 = .ok (.if_icmp .ne 23, 3) := by decide +kernel
theorem dX4_inferPlace_11 : decode cX4_inferPlace 11 = .ok (.iload_n 2, 1) := by decide +kernel
theorem dX4_inferPlace_12 : decode cX4_inferPlace 12 = .ok (.bipush (-2), 2) := by decide +kernel
theorem dX4_inferPlace_14 : decode cX4_inferPlace 14 = .ok (.if_icmp .eq 17, 3) := by decide +kernel
theorem dX4_inferPlace_17 : decode cX4_inferPlace 17 = .ok (.aload_n 0, 1) := by decide +kernel
theorem dX4_inferPlace_18 : decode cX4_inferPlace 18 = .ok (.getfield 9, 3) := by decide +kernel
theorem dX4_inferPlace_21 : decode cX4_inferPlace 21 = .ok (.iload_n 1, 1) := by decide +kernel
theorem dX4_inferPlace_22 : decode cX4_inferPlace 22 = .ok (.iload_n 2, 1) := by decide +kernel
theorem dX4_inferPlace_23 : decode cX4_inferPlace 23 = .ok (.iastore, 1) := by decide +kernel
theorem dX4_inferPlace_24 : decode cX4_inferPlace 24 = .ok (.aload_n 0, 1) := by decide +kernel
theorem dX4_inferPlace_25 : decode cX4_inferPlace 25 = .ok (.getfield 15, 3) := by decide +kernel
theorem dX4_inferPlace_28 : decode cX4_inferPlace 28 = .ok (.iload_n 1, 1) := by decide +kernel
theorem dX4_inferPlace_29 : decode cX4_inferPlace 29 = .ok (.iload_n 3, 1) := by decide +kernel
theorem dX4_inferPlace_30 : decode cX4_inferPlace 30 = .ok (.iastore, 1) := by decide +kernel
theorem dX4_inferPlace_31 : decode cX4_inferPlace 31 = .ok (.return_, 1) := by decide +kernel
theorem dX4_handTo_0 : decode cX4_handTo 0 = .ok (.aload_n 0, 1) := by decide +kernel
theorem dX4_handTo_1 : decode cX4_handTo 1 = .ok (.getfield 18, 3) := by decide +kernel
theorem dX4_handTo_4 : decode cX4_handTo 4 = .ok (.iload_n 2, 1) := by decide +kernel
theorem dX4_handTo_5 : decode cX4_handTo 5 = .ok (.iload_n 1, 1) := by decide +kernel
theorem dX4_handTo_6 : decode cX4_handTo 6 = .ok (.iastore, 1) := by decide +kernel
theorem dX4_handTo_7 : decode cX4_handTo 7 = .ok (.aload_n 0, 1) := by decide +kernel
theorem dX4_handTo_8 : decode cX4_handTo 8 = .ok (.getfield 21, 3) := by decide +kernel
theorem dX4_handTo_11 : decode cX4_handTo 11 = .ok (.iload_n 2, 1) := by decide +kernel
theorem dX4_handTo_12 : decode cX4_handTo 12 = .ok (.iload_n 3, 1) := by decide +kernel
theorem dX4_handTo_13 : decode cX4_handTo 13 = .ok (.iastore, 1) := by decide +kernel
theorem dX4_handTo_14 : decode cX4_handTo 14 = .ok (.return_, 1) := by decide +kernel
theorem dX4_value_0 : decode cX4_value 0 = .ok (.iload_n 1, 1) := by decide +kernel
theorem dX4_value_1 : decode cX4_value 1 = .ok (.tableswitch 47 0 2 #[27, 34, 40], 27) := by decide +kernel
theorem dX4_value_28 : decode cX4_value 28 = .ok (.aload_n 0, 1) := by decide +kernel
theorem dX4_value_29 : decode cX4_value 29 = .ok (.getfield 9, 3) := by decide +kernel
theorem dX4_value_32 : decode cX4_value 32 = .ok (.iload_n 2, 1) := by decide +kernel
theorem dX4_value_33 : decode cX4_value 33 = .ok (.iaload, 1) := by decide +kernel
theorem dX4_value_34 : decode cX4_value 34 = .ok (.ireturn, 1) := by decide +kernel
theorem dX4_value_35 : decode cX4_value 35 = .ok (.aload_n 0, 1) := by decide +kernel
theorem dX4_value_36 : decode cX4_value 36 = .ok (.iload_n 2, 1) := by decide +kernel
theorem dX4_value_37 : decode cX4_value 37 = .ok (.invokevirtual 81, 3) := by decide +kernel
theorem dX4_value_40 : decode cX4_value 40 = .ok (.ireturn, 1) := by decide +kernel
theorem dX4_value_41 : decode cX4_value 41 = .ok (.aload_n 0, 1) := by decide +kernel
theorem dX4_value_42 : decode cX4_value 42 = .ok (.getfield 18, 3) := by decide +kernel
theorem dX4_value_45 : decode cX4_value 45 = .ok (.iload_n 2, 1) := by decide +kernel
theorem dX4_value_46 : decode cX4_value 46 = .ok (.iaload, 1) := by decide +kernel
theorem dX4_value_47 : decode cX4_value 47 = .ok (.ireturn, 1) := by decide +kernel
theorem dX4_value_48 : decode cX4_value 48 = .ok (.aload_n 0, 1) := by decide +kernel
theorem dX4_value_49 : decode cX4_value 49 = .ok (.iload_n 2, 1) := by decide +kernel
theorem dX4_value_50 : decode cX4_value 50 = .ok (.invokevirtual 84, 3) := by decide +kernel
theorem dX4_value_53 : decode cX4_value 53 = .ok (.ireturn, 1) := by decide +kernel
theorem dX4_thingPlace_0 : decode cX4_thingPlace 0 = .ok (.aload_n 0, 1) := by decide +kernel
theorem dX4_thingPlace_1 : decode cX4_thingPlace 1 = .ok (.getfield 18, 3) := by decide +kernel
theorem dX4_thingPlace_4 : decode cX4_thingPlace 4 = .ok (.iload_n 1, 1) := by decide +kernel
theorem dX4_thingPlace_5 : decode cX4_thingPlace 5 = .ok (.iaload, 1) := by decide +kernel
theorem dX4_thingPlace_6 : decode cX4_thingPlace 6 = .ok (.istore_n 2, 1) := by decide +kernel
theorem dX4_thingPlace_7 : decode cX4_thingPlace 7 = .ok (.iload_n 2, 1) := by decide +kernel
theorem dX4_thingPlace_8 : decode cX4_thingPlace 8 = .ok (.bipush 9, 2) := by decide +kernel
theorem dX4_thingPlace_10 : decode cX4_thingPlace 10 = .ok (.if_icmp .ne 10, 3) := by decide +kernel
theorem dX4_thingPlace_13 : decode cX4_thingPlace 13 = .ok (.aload_n 0, 1) := by decide +kernel
theorem dX4_thingPlace_14 : decode cX4_thingPlace 14 = .ok (.getfield 24, 3) := by decide +kernel
theorem dX4_thingPlace_17 : decode cX4_thingPlace 17 = .ok (.iload_n 1, 1) := by decide +kernel
theorem dX4_thingPlace_18 : decode cX4_thingPlace 18 = .ok (.iaload, 1) := by decide +kernel
theorem dX4_thingPlace_19 : decode cX4_thingPlace 19 = .ok (.ireturn, 1) := by decide +kernel
theorem dX4_thingPlace_20 : decode cX4_thingPlace 20 = .ok (.iload_n 2, 1) := by decide +kernel
theorem dX4_thingPlace_21 : decode cX4_thingPlace 21 = .ok (.invokestatic 87, 3) := by decide +kernel
theorem dX4_thingPlace_24 : decode cX4_thingPlace 24 = .ok (.ifCond .eq 12, 3) := by decide +kernel
theorem dX4_thingPlace_27 : decode cX4_thingPlace 27 = .ok (.aload_n 0, 1) := by decide +kernel
theorem dX4_thingPlace_28 : decode cX4_thingPlace 28 = .ok (.getfield 9, 3) := by decide +kernel
theorem dX4_thingPlace_31 : decode cX4_thingPlace 31 = .ok (.iload_n 2, 1) := by decide +kernel
theorem dX4_thingPlace_32 : decode cX4_thingPlace 32 = .ok (.iaload, 1) := by decide +kernel
theorem dX4_thingPlace_33 : decode cX4_thingPlace 33 = .ok (.goto 5, 3) := by decide +kernel
theorem dX4_thingPlace_36 : decode cX4_thingPlace 36 = .ok (.bipush (-2), 2) := by decide +kernel
theorem dX4_thingPlace_38 : decode cX4_thingPlace 38 = .ok (.ireturn, 1) := by decide +kernel
theorem dX4_hadThings_0 : decode cX4_hadThings 0 = .ok (.iconst 0, 1) := by decide +kernel
theorem dX4_hadThings_1 : decode cX4_hadThings 1 = .ok (.istore_n 2, 1) := by decide +kernel
theorem dX4_hadThings_2 : decode cX4_hadThings 2 = .ok (.iconst 0, 1) := by decide +kernel
theorem dX4_hadThings_3 : decode cX4_hadThings 3 = .ok (.istore_n 3, 1) := by decide +kernel
theorem dX4_hadThings_4 : decode cX4_hadThings 4 = .ok (.iload_n 3, 1) := by decide +kernel
theorem dX4_hadThings_5 : decode cX4_hadThings 5 = .ok (.bipush 10, 2) := by decide +kernel
theorem dX4_hadThings_7 : decode cX4_hadThings 7 = .ok (.if_icmp .ge 22, 3) := by decide +kernel
theorem dX4_hadThings_10 : decode cX4_hadThings 10 = .ok (.aload_n 0, 1) := by decide +kernel
theorem dX4_hadThings_11 : decode cX4_hadThings 11 = .ok (.getfield 18, 3) := by decide +kernel
theorem dX4_hadThings_14 : decode cX4_hadThings 14 = .ok (.iload_n 3, 1) := by decide +kernel
theorem dX4_hadThings_15 : decode cX4_hadThings 15 = .ok (.iaload, 1) := by decide +kernel
theorem dX4_hadThings_16 : decode cX4_hadThings 16 = .ok (.iload_n 1, 1) := by decide +kernel
theorem dX4_hadThings_17 : decode cX4_hadThings 17 = .ok (.if_icmp .ne 6, 3) := by decide +kernel
theorem dX4_hadThings_20 : decode cX4_hadThings 20 = .ok (.iinc 2 1, 3) := by decide +kernel
theorem dX4_hadThings_23 : decode cX4_hadThings 23 = .ok (.iinc 3 1, 3) := by decide +kernel
theorem dX4_hadThings_26 : decode cX4_hadThings 26 = .ok (.goto (-22), 3) := by decide +kernel
theorem dX4_hadThings_29 : decode cX4_hadThings 29 = .ok (.iload_n 2, 1) := by decide +kernel
theorem dX4_hadThings_30 : decode cX4_hadThings 30 = .ok (.ireturn, 1) := by decide +kernel
theorem dX4_basis_0 : decode cX4_basis 0 = .ok (.iload_n 1, 1) := by decide +kernel
theorem dX4_basis_1 : decode cX4_basis 1 = .ok (.tableswitch 47 0 2 #[27, 34, 40], 27) := by decide +kernel
theorem dX4_basis_28 : decode cX4_basis 28 = .ok (.aload_n 0, 1) := by decide +kernel
theorem dX4_basis_29 : decode cX4_basis 29 = .ok (.getfield 15, 3) := by decide +kernel
theorem dX4_basis_32 : decode cX4_basis 32 = .ok (.iload_n 2, 1) := by decide +kernel
theorem dX4_basis_33 : decode cX4_basis 33 = .ok (.iaload, 1) := by decide +kernel
theorem dX4_basis_34 : decode cX4_basis 34 = .ok (.ireturn, 1) := by decide +kernel
theorem dX4_basis_35 : decode cX4_basis 35 = .ok (.aload_n 0, 1) := by decide +kernel
theorem dX4_basis_36 : decode cX4_basis 36 = .ok (.iload_n 2, 1) := by decide +kernel
theorem dX4_basis_37 : decode cX4_basis 37 = .ok (.invokevirtual 91, 3) := by decide +kernel
theorem dX4_basis_40 : decode cX4_basis 40 = .ok (.ireturn, 1) := by decide +kernel
theorem dX4_basis_41 : decode cX4_basis 41 = .ok (.aload_n 0, 1) := by decide +kernel
theorem dX4_basis_42 : decode cX4_basis 42 = .ok (.getfield 21, 3) := by decide +kernel
theorem dX4_basis_45 : decode cX4_basis 45 = .ok (.iload_n 2, 1) := by decide +kernel
theorem dX4_basis_46 : decode cX4_basis 46 = .ok (.iaload, 1) := by decide +kernel
theorem dX4_basis_47 : decode cX4_basis 47 = .ok (.ireturn, 1) := by decide +kernel
theorem dX4_basis_48 : decode cX4_basis 48 = .ok (.aload_n 0, 1) := by decide +kernel
theorem dX4_basis_49 : decode cX4_basis 49 = .ok (.iload_n 2, 1) := by decide +kernel
theorem dX4_basis_50 : decode cX4_basis 50 = .ok (.invokevirtual 94, 3) := by decide +kernel
theorem dX4_basis_53 : decode cX4_basis 53 = .ok (.ireturn, 1) := by decide +kernel
theorem dX4_thingPlaceBasis_0 : decode cX4_thingPlaceBasis 0 = .ok (.aload_n 0, 1) := by decide +kernel
theorem dX4_thingPlaceBasis_1 : decode cX4_thingPlaceBasis 1 = .ok (.getfield 18, 3) := by decide +kernel
theorem dX4_thingPlaceBasis_4 : decode cX4_thingPlaceBasis 4 = .ok (.iload_n 1, 1) := by decide +kernel
theorem dX4_thingPlaceBasis_5 : decode cX4_thingPlaceBasis 5 = .ok (.iaload, 1) := by decide +kernel
theorem dX4_thingPlaceBasis_6 : decode cX4_thingPlaceBasis 6 = .ok (.istore_n 2, 1) := by decide +kernel
theorem dX4_thingPlaceBasis_7 : decode cX4_thingPlaceBasis 7 = .ok (.iload_n 2, 1) := by decide +kernel
theorem dX4_thingPlaceBasis_8 : decode cX4_thingPlaceBasis 8 = .ok (.bipush 9, 2) := by decide +kernel
theorem dX4_thingPlaceBasis_10 : decode cX4_thingPlaceBasis 10 = .ok (.if_icmp .ne 25, 3) := by decide +kernel
theorem dX4_thingPlaceBasis_13 : decode cX4_thingPlaceBasis 13 = .ok (.aload_n 0, 1) := by decide +kernel
theorem dX4_thingPlaceBasis_14 : decode cX4_thingPlaceBasis 14 = .ok (.getfield 24, 3) := by decide +kernel
theorem dX4_thingPlaceBasis_17 : decode cX4_thingPlaceBasis 17 = .ok (.iload_n 1, 1) := by decide +kernel
theorem dX4_thingPlaceBasis_18 : decode cX4_thingPlaceBasis 18 = .ok (.iaload, 1) := by decide +kernel
theorem dX4_thingPlaceBasis_19 : decode cX4_thingPlaceBasis 19 = .ok (.bipush (-2), 2) := by decide +kernel
theorem dX4_thingPlaceBasis_21 : decode cX4_thingPlaceBasis 21 = .ok (.if_icmp .ne 7, 3) := by decide +kernel
theorem dX4_thingPlaceBasis_24 : decode cX4_thingPlaceBasis 24 = .ok (.iconst 0, 1) := by decide +kernel
theorem dX4_thingPlaceBasis_25 : decode cX4_thingPlaceBasis 25 = .ok (.goto 9, 3) := by decide +kernel
theorem dX4_thingPlaceBasis_28 : decode cX4_thingPlaceBasis 28 = .ok (.aload_n 0, 1) := by decide +kernel
theorem dX4_thingPlaceBasis_29 : decode cX4_thingPlaceBasis 29 = .ok (.getfield 27, 3) := by decide +kernel
theorem dX4_thingPlaceBasis_32 : decode cX4_thingPlaceBasis 32 = .ok (.iload_n 1, 1) := by decide +kernel
theorem dX4_thingPlaceBasis_33 : decode cX4_thingPlaceBasis 33 = .ok (.iaload, 1) := by decide +kernel
theorem dX4_thingPlaceBasis_34 : decode cX4_thingPlaceBasis 34 = .ok (.ireturn, 1) := by decide +kernel
theorem dX4_thingPlaceBasis_35 : decode cX4_thingPlaceBasis 35 = .ok (.iload_n 2, 1) := by decide +kernel
theorem dX4_thingPlaceBasis_36 : decode cX4_thingPlaceBasis 36 = .ok (.invokestatic 87, 3) := by decide +kernel
theorem dX4_thingPlaceBasis_39 : decode cX4_thingPlaceBasis 39 = .ok (.ifCond .eq 18, 3) := by decide +kernel
theorem dX4_thingPlaceBasis_42 : decode cX4_thingPlaceBasis 42 = .ok (.aload_n 0, 1) := by decide +kernel
theorem dX4_thingPlaceBasis_43 : decode cX4_thingPlaceBasis 43 = .ok (.getfield 9, 3) := by decide +kernel
theorem dX4_thingPlaceBasis_46 : decode cX4_thingPlaceBasis 46 = .ok (.iload_n 2, 1) := by decide +kernel
theorem dX4_thingPlaceBasis_47 : decode cX4_thingPlaceBasis 47 = .ok (.iaload, 1) := by decide +kernel
theorem dX4_thingPlaceBasis_48 : decode cX4_thingPlaceBasis 48 = .ok (.bipush (-2), 2) := by decide +kernel
theorem dX4_thingPlaceBasis_50 : decode cX4_thingPlaceBasis 50 = .ok (.if_icmp .eq 7, 3) := by decide +kernel
theorem dX4_thingPlaceBasis_53 : decode cX4_thingPlaceBasis 53 = .ok (.iconst 1, 1) := by decide +kernel
theorem dX4_thingPlaceBasis_54 : decode cX4_thingPlaceBasis 54 = .ok (.goto 4, 3) := by decide +kernel
theorem dX4_thingPlaceBasis_57 : decode cX4_thingPlaceBasis 57 = .ok (.iconst 0, 1) := by decide +kernel
theorem dX4_thingPlaceBasis_58 : decode cX4_thingPlaceBasis 58 = .ok (.istore_n 3, 1) := by decide +kernel
theorem dX4_thingPlaceBasis_59 : decode cX4_thingPlaceBasis 59 = .ok (.iload_n 3, 1) := by decide +kernel
theorem dX4_thingPlaceBasis_60 : decode cX4_thingPlaceBasis 60 = .ok (.ifCond .eq 19, 3) := by decide +kernel
theorem dX4_thingPlaceBasis_63 : decode cX4_thingPlaceBasis 63 = .ok (.aload_n 0, 1) := by decide +kernel
theorem dX4_thingPlaceBasis_64 : decode cX4_thingPlaceBasis 64 = .ok (.getfield 21, 3) := by decide +kernel
theorem dX4_thingPlaceBasis_67 : decode cX4_thingPlaceBasis 67 = .ok (.iload_n 1, 1) := by decide +kernel
theorem dX4_thingPlaceBasis_68 : decode cX4_thingPlaceBasis 68 = .ok (.iaload, 1) := by decide +kernel
theorem dX4_thingPlaceBasis_69 : decode cX4_thingPlaceBasis 69 = .ok (.aload_n 0, 1) := by decide +kernel
theorem dX4_thingPlaceBasis_70 : decode cX4_thingPlaceBasis 70 = .ok (.getfield 15, 3) := by decide +kernel
theorem dX4_thingPlaceBasis_73 : decode cX4_thingPlaceBasis 73 = .ok (.iload_n 2, 1) := by decide +kernel
theorem dX4_thingPlaceBasis_74 : decode cX4_thingPlaceBasis 74 = .ok (.iaload, 1) := by decide +kernel
theorem dX4_thingPlaceBasis_75 : decode cX4_thingPlaceBasis 75 = .ok (.ior, 1) := by decide +kernel
theorem dX4_thingPlaceBasis_76 : decode cX4_thingPlaceBasis 76 = .ok (.goto 4, 3) := by decide +kernel
theorem dX4_thingPlaceBasis_79 : decode cX4_thingPlaceBasis 79 = .ok (.iconst 0, 1) := by decide +kernel
theorem dX4_thingPlaceBasis_80 : decode cX4_thingPlaceBasis 80 = .ok (.ireturn, 1) := by decide +kernel
theorem dX4_hadThingsBasis_0 : decode cX4_hadThingsBasis 0 = .ok (.iconst 0, 1) := by decide +kernel
theorem dX4_hadThingsBasis_1 : decode cX4_hadThingsBasis 1 = .ok (.istore_n 2, 1) := by decide +kernel
theorem dX4_hadThingsBasis_2 : decode cX4_hadThingsBasis 2 = .ok (.iconst 0, 1) := by decide +kernel
theorem dX4_hadThingsBasis_3 : decode cX4_hadThingsBasis 3 = .ok (.istore_n 3, 1) := by decide +kernel
theorem dX4_hadThingsBasis_4 : decode cX4_hadThingsBasis 4 = .ok (.iload_n 3, 1) := by decide +kernel
theorem dX4_hadThingsBasis_5 : decode cX4_hadThingsBasis 5 = .ok (.bipush 10, 2) := by decide +kernel
theorem dX4_hadThingsBasis_7 : decode cX4_hadThingsBasis 7 = .ok (.if_icmp .ge 28, 3) := by decide +kernel
theorem dX4_hadThingsBasis_10 : decode cX4_hadThingsBasis 10 = .ok (.aload_n 0, 1) := by decide +kernel
theorem dX4_hadThingsBasis_11 : decode cX4_hadThingsBasis 11 = .ok (.getfield 18, 3) := by decide +kernel
theorem dX4_hadThingsBasis_14 : decode cX4_hadThingsBasis 14 = .ok (.iload_n 3, 1) := by decide +kernel
theorem dX4_hadThingsBasis_15 : decode cX4_hadThingsBasis 15 = .ok (.iaload, 1) := by decide +kernel
theorem dX4_hadThingsBasis_16 : decode cX4_hadThingsBasis 16 = .ok (.iload_n 1, 1) := by decide +kernel
theorem dX4_hadThingsBasis_17 : decode cX4_hadThingsBasis 17 = .ok (.if_icmp .ne 12, 3) := by decide +kernel
theorem dX4_hadThingsBasis_20 : decode cX4_hadThingsBasis 20 = .ok (.iload_n 2, 1) := by decide +kernel
theorem dX4_hadThingsBasis_21 : decode cX4_hadThingsBasis 21 = .ok (.aload_n 0, 1) := by decide +kernel
theorem dX4_hadThingsBasis_22 : decode cX4_hadThingsBasis 22 = .ok (.getfield 21, 3) := by decide +kernel
theorem dX4_hadThingsBasis_25 : decode cX4_hadThingsBasis 25 = .ok (.iload_n 3, 1) := by decide +kernel
theorem dX4_hadThingsBasis_26 : decode cX4_hadThingsBasis 26 = .ok (.iaload, 1) := by decide +kernel
theorem dX4_hadThingsBasis_27 : decode cX4_hadThingsBasis 27 = .ok (.ior, 1) := by decide +kernel
theorem dX4_hadThingsBasis_28 : decode cX4_hadThingsBasis 28 = .ok (.istore_n 2, 1) := by decide +kernel
theorem dX4_hadThingsBasis_29 : decode cX4_hadThingsBasis 29 = .ok (.iinc 3 1, 3) := by decide +kernel
theorem dX4_hadThingsBasis_32 : decode cX4_hadThingsBasis 32 = .ok (.goto (-28), 3) := by decide +kernel
theorem dX4_hadThingsBasis_35 : decode cX4_hadThingsBasis 35 = .ok (.iload_n 2, 1) := by decide +kernel
theorem dX4_hadThingsBasis_36 : decode cX4_hadThingsBasis 36 = .ok (.ireturn, 1) := by decide +kernel
theorem dX5_init_0 : decode cX5_init 0 = .ok (.aload_n 0, 1) := by decide +kernel
theorem dX5_init_1 : decode cX5_init 1 = .ok (.invokespecial 3, 3) := by decide +kernel
theorem dX5_init_4 : decode cX5_init 4 = .ok (.aload_n 0, 1) := by decide +kernel
theorem dX5_init_5 : decode cX5_init 5 = .ok (.new 9, 3) := by decide +kernel
theorem dX5_init_8 : decode cX5_init 8 = .ok (.dup, 1) := by decide +kernel
theorem dX5_init_9 : decode cX5_init 9 = .ok (.invokespecial 11, 3) := by decide +kernel
theorem dX5_init_12 : decode cX5_init 12 = .ok (.putfield 12, 3) := by decide +kernel
theorem dX5_init_15 : decode cX5_init 15 = .ok (.aload_n 0, 1) := by decide +kernel
theorem dX5_init_16 : decode cX5_init 16 = .ok (.new 16, 3) := by decide +kernel
theorem dX5_init_19 : decode cX5_init 19 = .ok (.dup, 1) := by decide +kernel
theorem dX5_init_20 : decode cX5_init 20 = .ok (.invokespecial 18, 3) := by decide +kernel
theorem dX5_init_23 : decode cX5_init 23 = .ok (.putfield 19, 3) := by decide +kernel
theorem dX5_init_26 : decode cX5_init 26 = .ok (.aload_n 0, 1) := by decide +kernel
theorem dX5_init_27 : decode cX5_init 27 = .ok (.new 23, 3) := by decide +kernel
theorem dX5_init_30 : decode cX5_init 30 = .ok (.dup, 1) := by decide +kernel
theorem dX5_init_31 : decode cX5_init 31 = .ok (.invokespecial 25, 3) := by decide +kernel
theorem dX5_init_34 : decode cX5_init 34 = .ok (.putfield 26, 3) := by decide +kernel
theorem dX5_init_37 : decode cX5_init 37 = .ok (.aload_n 0, 1) := by decide +kernel
theorem dX5_init_38 : decode cX5_init 38 = .ok (.new 30, 3) := by decide +kernel
theorem dX5_init_41 : decode cX5_init 41 = .ok (.dup, 1) := by decide +kernel
theorem dX5_init_42 : decode cX5_init 42 = .ok (.invokespecial 32, 3) := by decide +kernel
theorem dX5_init_45 : decode cX5_init 45 = .ok (.putfield 33, 3) := by decide +kernel
theorem dX5_init_48 : decode cX5_init 48 = .ok (.aload_n 0, 1) := by decide +kernel
theorem dX5_init_49 : decode cX5_init 49 = .ok (.new 37, 3) := by decide +kernel
theorem dX5_init_52 : decode cX5_init 52 = .ok (.dup, 1) := by decide +kernel
theorem dX5_init_53 : decode cX5_init 53 = .ok (.invokespecial 39, 3) := by decide +kernel
theorem dX5_init_56 : decode cX5_init 56 = .ok (.putfield 40, 3) := by decide +kernel
theorem dX5_init_59 : decode cX5_init 59 = .ok (.aload_n 0, 1) := by decide +kernel
theorem dX5_init_60 : decode cX5_init 60 = .ok (.iconst 0, 1) := by decide +kernel
theorem dX5_init_61 : decode cX5_init 61 = .ok (.invokevirtual 44, 3) := by decide +kernel
theorem dX5_init_64 : decode cX5_init 64 = .ok (.return_, 1) := by decide +kernel
theorem dX5_sign_0 : decode cX5_sign 0 = .ok (.aload_n 0, 1) := by decide +kernel
theorem dX5_sign_1 : decode cX5_sign 1 = .ok (.getfield 12, 3) := by decide +kernel
theorem dX5_sign_4 : decode cX5_sign 4 = .ok (.iload_n 1, 1) := by decide +kernel
theorem dX5_sign_5 : decode cX5_sign 5 = .ok (.invokevirtual 48, 3) := by decide +kernel
theorem dX5_sign_8 : decode cX5_sign 8 = .ok (.ifCond .ne 5, 3) := by decide +kernel
theorem dX5_sign_11 : decode cX5_sign 11 = .ok (.iconst 0, 1) := by decide +kernel
theorem dX5_sign_12 : decode cX5_sign 12 = .ok (.ireturn, 1) := by decide +kernel
theorem dX5_sign_13 : decode cX5_sign 13 = .ok (.aload_n 0, 1) := by decide +kernel
theorem dX5_sign_14 : decode cX5_sign 14 = .ok (.getfield 12, 3) := by decide +kernel
theorem dX5_sign_17 : decode cX5_sign 17 = .ok (.iload_n 1, 1) := by decide +kernel
theorem dX5_sign_18 : decode cX5_sign 18 = .ok (.invokevirtual 52, 3) := by decide +kernel
theorem dX5_sign_21 : decode cX5_sign 21 = .ok (.iload_n 1, 1) := by decide +kernel
theorem dX5_sign_22 : decode cX5_sign 22 = .ok (.bipush 50, 2) := by decide +kernel
theorem dX5_sign_24 : decode cX5_sign 24 = .ok (.if_icmp .ne 10, 3) := by decide +kernel
theorem dX5_sign_27 : decode cX5_sign 27 = .ok (.aload_n 0, 1) := by decide +kernel
theorem dX5_sign_28 : decode cX5_sign 28 = .ok (.invokevirtual 55, 3) := by decide +kernel
theorem dX5_sign_31 : decode cX5_sign 31 = .ok (.ifCond .eq 7, 3) := by decide +kernel
theorem dX5_sign_34 : decode cX5_sign 34 = .ok (.iconst 1, 1) := by decide +kernel
theorem dX5_sign_35 : decode cX5_sign 35 = .ok (.goto 4, 3) := by decide +kernel
theorem dX5_sign_38 : decode cX5_sign 38 = .ok (.iconst 0, 1) := by decide +kernel
theorem dX5_sign_39 : decode cX5_sign 39 = .ok (.ireturn, 1) := by decide +kernel
theorem dX5_back_0 : decode cX5_back 0 = .ok (.aload_n 0, 1) := by decide +kernel
theorem dX5_back_1 : decode cX5_back 1 = .ok (.getfield 12, 3) := by decide +kernel
theorem dX5_back_4 : decode cX5_back 4 = .ok (.invokevirtual 59, 3) := by decide +kernel
theorem dX5_back_7 : decode cX5_back 7 = .ok (.ireturn, 1) := by decide +kernel
theorem dX5_told_0 : decode cX5_told 0 = .ok (.aload_n 0, 1) := by decide +kernel
theorem dX5_told_1 : decode cX5_told 1 = .ok (.getfield 12, 3) := by decide +kernel
theorem dX5_told_4 : decode cX5_told 4 = .ok (.iload_n 1, 1) := by decide +kernel
theorem dX5_told_5 : decode cX5_told 5 = .ok (.iload_n 2, 1) := by decide +kernel
theorem dX5_told_6 : decode cX5_told 6 = .ok (.invokevirtual 62, 3) := by decide +kernel
theorem dX5_told_9 : decode cX5_told 9 = .ok (.ireturn, 1) := by decide +kernel
theorem dX5_readings_0 : decode cX5_readings 0 = .ok (.aload_n 0, 1) := by decide +kernel
theorem dX5_readings_1 : decode cX5_readings 1 = .ok (.iload_n 1, 1) := by decide +kernel
theorem dX5_readings_2 : decode cX5_readings 2 = .ok (.invokevirtual 66, 3) := by decide +kernel
theorem dX5_readings_5 : decode cX5_readings 5 = .ok (.ifCond .eq 14, 3) := by decide +kernel
theorem dX5_readings_8 : decode cX5_readings 8 = .ok (.aload_n 0, 1) := by decide +kernel
theorem dX5_readings_9 : decode cX5_readings 9 = .ok (.getfield 19, 3) := by decide +kernel
theorem dX5_readings_12 : decode cX5_readings 12 = .ok (.iload_n 1, 1) := by decide +kernel
theorem dX5_readings_13 : decode cX5_readings 13 = .ok (.invokevirtual 69, 3) := by decide +kernel
theorem dX5_readings_16 : decode cX5_readings 16 = .ok (.goto 4, 3) := by decide +kernel
theorem dX5_readings_19 : decode cX5_readings 19 = .ok (.iconst (-1), 1) := by decide +kernel
theorem dX5_readings_20 : decode cX5_readings 20 = .ok (.ireturn, 1) := by decide +kernel
theorem dX5_means_0 : decode cX5_means 0 = .ok (.iload_n 1, 1) := by decide +kernel
theorem dX5_means_1 : decode cX5_means 1 = .ok (.ifCond .lt 22, 3) := by decide +kernel
theorem dX5_means_4 : decode cX5_means 4 = .ok (.iload_n 1, 1) := by decide +kernel
theorem dX5_means_5 : decode cX5_means 5 = .ok (.aload_n 0, 1) := by decide +kernel
theorem dX5_means_6 : decode cX5_means 6 = .ok (.getfield 12, 3) := by decide +kernel
theorem dX5_means_9 : decode cX5_means 9 = .ok (.getfield 73, 3) := by decide +kernel
theorem dX5_means_12 : decode cX5_means 12 = .ok (.if_icmp .ge 11, 3) := by decide +kernel
theorem dX5_means_15 : decode cX5_means 15 = .ok (.aload_n 0, 1) := by decide +kernel
theorem dX5_means_16 : decode cX5_means 16 = .ok (.iload_n 3, 1) := by decide +kernel
theorem dX5_means_17 : decode cX5_means 17 = .ok (.invokevirtual 77, 3) := by decide +kernel
theorem dX5_means_20 : decode cX5_means 20 = .ok (.ifCond .ne 5, 3) := by decide +kernel
theorem dX5_means_23 : decode cX5_means 23 = .ok (.iconst (-1), 1) := by decide +kernel
theorem dX5_means_24 : decode cX5_means 24 = .ok (.ireturn, 1) := by decide +kernel
theorem dX5_means_25 : decode cX5_means 25 = .ok (.iload_n 2, 1) := by decide +kernel
theorem dX5_means_26 : decode cX5_means 26 = .ok (.ifCond .eq 10, 3) := by decide +kernel
theorem dX5_means_29 : decode cX5_means 29 = .ok (.iload_n 2, 1) := by decide +kernel
theorem dX5_means_30 : decode cX5_means 30 = .ok (.iconst 1, 1) := by decide +kernel
theorem dX5_means_31 : decode cX5_means 31 = .ok (.if_icmp .eq 5, 3) := by decide +kernel
theorem dX5_means_34 : decode cX5_means 34 = .ok (.iconst (-1), 1) := by decide +kernel
theorem dX5_means_35 : decode cX5_means 35 = .ok (.ireturn, 1) := by decide +kernel
theorem dX5_means_36 : decode cX5_means 36 = .ok (.aload_n 0, 1) := by decide +kernel
theorem dX5_means_37 : decode cX5_means 37 = .ok (.getfield 12, 3) := by decide +kernel
theorem dX5_means_40 : decode cX5_means 40 = .ok (.iload_n 1, 1) := by decide +kernel
theorem dX5_means_41 : decode cX5_means 41 = .ok (.iload_n 2, 1) := by decide +kernel
theorem dX5_means_42 : decode cX5_means 42 = .ok (.aload_n 0, 1) := by decide +kernel
theorem dX5_means_43 : decode cX5_means 43 = .ok (.getfield 19, 3) := by decide +kernel
theorem dX5_means_46 : decode cX5_means 46 = .ok (.aload_n 0, 1) := by decide +kernel
theorem dX5_means_47 : decode cX5_means 47 = .ok (.getfield 12, 3) := by decide +kernel
theorem dX5_means_50 : decode cX5_means 50 = .ok (.getfield 73, 3) := by decide +kernel
theorem dX5_means_53 : decode cX5_means 53 = .ok (.iload_n 3, 1) := by decide +kernel
theorem dX5_means_54 : decode cX5_means 54 = .ok (.invokevirtual 80, 3) := by decide +kernel
theorem dX5_means_57 : decode cX5_means 57 = .ok (.invokevirtual 83, 3) := by decide +kernel
theorem dX5_means_60 : decode cX5_means 60 = .ok (.ireturn, 1) := by decide +kernel
theorem dX5_answer_0 : decode cX5_answer 0 = .ok (.iload_n 1, 1) := by decide +kernel
theorem dX5_answer_1 : decode cX5_answer 1 = .ok (.iload_n 2, 1) := by decide +kernel
theorem dX5_answer_2 : decode cX5_answer 2 = .ok (.invokestatic 87, 3) := by decide +kernel
theorem dX5_answer_5 : decode cX5_answer 5 = .ok (.istore 4, 2) := by decide +kernel
theorem dX5_answer_7 : decode cX5_answer 7 = .ok (.iload 4, 2) := by decide +kernel
theorem dX5_answer_9 : decode cX5_answer 9 = .ok (.iconst (-1), 1) := by decide +kernel
theorem dX5_answer_10 : decode cX5_answer 10 = .ok (.if_icmp .eq 11, 3) := by decide +kernel
theorem dX5_answer_13 : decode cX5_answer 13 = .ok (.aload_n 0, 1) := by decide +kernel
theorem dX5_answer_14 : decode cX5_answer 14 = .ok (.iload_n 3, 1) := by decide +kernel
theorem dX5_answer_15 : decode cX5_answer 15 = .ok (.invokevirtual 66, 3) := by decide +kernel
theorem dX5_answer_18 : decode cX5_answer 18 = .ok (.ifCond .ne 7, 3) := by decide +kernel
theorem dX5_answer_21 : decode cX5_answer 21 = .ok (.iconst (-1), 1) := by decide +kernel
theorem dX5_answer_22 : decode cX5_answer 22 = .ok (.goto 15, 3) := by decide +kernel
theorem dX5_answer_25 : decode cX5_answer 25 = .ok (.aload_n 0, 1) := by decide +kernel
theorem dX5_answer_26 : decode cX5_answer 26 = .ok (.getfield 33, 3) := by decide +kernel
theorem dX5_answer_29 : decode cX5_answer 29 = .ok (.getfield 90, 3) := by decide +kernel
theorem dX5_answer_32 : decode cX5_answer 32 = .ok (.iload_n 3, 1) := by decide +kernel
theorem dX5_answer_33 : decode cX5_answer 33 = .ok (.aaload, 1) := by decide +kernel
theorem dX5_answer_34 : decode cX5_answer 34 = .ok (.iload 4, 2) := by decide +kernel
theorem dX5_answer_36 : decode cX5_answer 36 = .ok (.iaload, 1) := by decide +kernel
theorem dX5_answer_37 : decode cX5_answer 37 = .ok (.ireturn, 1) := by decide +kernel
theorem dX5_level_0 : decode cX5_level 0 = .ok (.iload_n 1, 1) := by decide +kernel
theorem dX5_level_1 : decode cX5_level 1 = .ok (.iload_n 2, 1) := by decide +kernel
theorem dX5_level_2 : decode cX5_level 2 = .ok (.invokestatic 87, 3) := by decide +kernel
theorem dX5_level_5 : decode cX5_level 5 = .ok (.istore 4, 2) := by decide +kernel
theorem dX5_level_7 : decode cX5_level 7 = .ok (.iload 4, 2) := by decide +kernel
theorem dX5_level_9 : decode cX5_level 9 = .ok (.iconst (-1), 1) := by decide +kernel
theorem dX5_level_10 : decode cX5_level 10 = .ok (.if_icmp .eq 11, 3) := by decide +kernel
theorem dX5_level_13 : decode cX5_level 13 = .ok (.aload_n 0, 1) := by decide +kernel
theorem dX5_level_14 : decode cX5_level 14 = .ok (.iload_n 3, 1) := by decide +kernel
theorem dX5_level_15 : decode cX5_level 15 = .ok (.invokevirtual 66, 3) := by decide +kernel
theorem dX5_level_18 : decode cX5_level 18 = .ok (.ifCond .ne 7, 3) := by decide +kernel
theorem dX5_level_21 : decode cX5_level 21 = .ok (.iconst (-1), 1) := by decide +kernel
theorem dX5_level_22 : decode cX5_level 22 = .ok (.goto 15, 3) := by decide +kernel
theorem dX5_level_25 : decode cX5_level 25 = .ok (.aload_n 0, 1) := by decide +kernel
theorem dX5_level_26 : decode cX5_level 26 = .ok (.getfield 33, 3) := by decide +kernel
theorem dX5_level_29 : decode cX5_level 29 = .ok (.getfield 94, 3) := by decide +kernel
theorem dX5_level_32 : decode cX5_level 32 = .ok (.iload_n 3, 1) := by decide +kernel
theorem dX5_level_33 : decode cX5_level 33 = .ok (.aaload, 1) := by decide +kernel
theorem dX5_level_34 : decode cX5_level 34 = .ok (.iload 4, 2) := by decide +kernel
theorem dX5_level_36 : decode cX5_level 36 = .ok (.iaload, 1) := by decide +kernel
theorem dX5_level_37 : decode cX5_level 37 = .ok (.ireturn, 1) := by decide +kernel
theorem dX5_grounds_0 : decode cX5_grounds 0 = .ok (.iload_n 1, 1) := by decide +kernel
theorem dX5_grounds_1 : decode cX5_grounds 1 = .ok (.iload_n 2, 1) := by decide +kernel
theorem dX5_grounds_2 : decode cX5_grounds 2 = .ok (.invokestatic 87, 3) := by decide +kernel
theorem dX5_grounds_5 : decode cX5_grounds 5 = .ok (.iconst (-1), 1) := by decide +kernel
theorem dX5_grounds_6 : decode cX5_grounds 6 = .ok (.if_icmp .eq 11, 3) := by decide +kernel
theorem dX5_grounds_9 : decode cX5_grounds 9 = .ok (.aload_n 0, 1) := by decide +kernel
theorem dX5_grounds_10 : decode cX5_grounds 10 = .ok (.iload_n 3, 1) := by decide +kernel
theorem dX5_grounds_11 : decode cX5_grounds 11 = .ok (.invokevirtual 77, 3) := by decide +kernel
theorem dX5_grounds_14 : decode cX5_grounds 14 = .ok (.ifCond .ne 5, 3) := by decide +kernel
theorem dX5_grounds_17 : decode cX5_grounds 17 = .ok (.iconst (-1), 1) := by decide +kernel
theorem dX5_grounds_18 : decode cX5_grounds 18 = .ok (.ireturn, 1) := by decide +kernel
theorem dX5_grounds_19 : decode cX5_grounds 19 = .ok (.aload_n 0, 1) := by decide +kernel
theorem dX5_grounds_20 : decode cX5_grounds 20 = .ok (.getfield 26, 3) := by decide +kernel
theorem dX5_grounds_23 : decode cX5_grounds 23 = .ok (.aload_n 0, 1) := by decide +kernel
theorem dX5_grounds_24 : decode cX5_grounds 24 = .ok (.getfield 12, 3) := by decide +kernel
theorem dX5_grounds_27 : decode cX5_grounds 27 = .ok (.aload_n 0, 1) := by decide +kernel
theorem dX5_grounds_28 : decode cX5_grounds 28 = .ok (.getfield 12, 3) := by decide +kernel
theorem dX5_grounds_31 : decode cX5_grounds 31 = .ok (.getfield 73, 3) := by decide +kernel
theorem dX5_grounds_34 : decode cX5_grounds 34 = .ok (.aload_n 0, 1) := by decide +kernel
theorem dX5_grounds_35 : decode cX5_grounds 35 = .ok (.getfield 19, 3) := by decide +kernel
theorem dX5_grounds_38 : decode cX5_grounds 38 = .ok (.aload_n 0, 1) := by decide +kernel
theorem dX5_grounds_39 : decode cX5_grounds 39 = .ok (.getfield 12, 3) := by decide +kernel
theorem dX5_grounds_42 : decode cX5_grounds 42 = .ok (.getfield 73, 3) := by decide +kernel
theorem dX5_grounds_45 : decode cX5_grounds 45 = .ok (.iload_n 3, 1) := by decide +kernel
theorem dX5_grounds_46 : decode cX5_grounds 46 = .ok (.invokevirtual 80, 3) := by decide +kernel
theorem dX5_grounds_49 : decode cX5_grounds 49 = .ok (.invokevirtual 97, 3) := by decide +kernel
theorem dX5_grounds_52 : decode cX5_grounds 52 = .ok (.aload_n 0, 1) := by decide +kernel
theorem dX5_grounds_53 : decode cX5_grounds 53 = .ok (.getfield 26, 3) := by decide +kernel
theorem dX5_grounds_56 : decode cX5_grounds 56 = .ok (.iload_n 1, 1) := by decide +kernel
theorem dX5_grounds_57 : decode cX5_grounds 57 = .ok (.iload_n 2, 1) := by decide +kernel
theorem dX5_grounds_58 : decode cX5_grounds 58 = .ok (.invokevirtual 101, 3) := by decide +kernel
theorem dX5_grounds_61 : decode cX5_grounds 61 = .ok (.ireturn, 1) := by decide +kernel
theorem dX5_judge_0 : decode cX5_judge 0 = .ok (.iload_n 1, 1) := by decide +kernel
theorem dX5_judge_1 : decode cX5_judge 1 = .ok (.iload_n 2, 1) := by decide +kernel
theorem dX5_judge_2 : decode cX5_judge 2 = .ok (.invokestatic 87, 3) := by decide +kernel
theorem dX5_judge_5 : decode cX5_judge 5 = .ok (.istore 4, 2) := by decide +kernel
theorem dX5_judge_7 : decode cX5_judge 7 = .ok (.iload 4, 2) := by decide +kernel
theorem dX5_judge_9 : decode cX5_judge 9 = .ok (.iconst (-1), 1) := by decide +kernel
theorem dX5_judge_10 : decode cX5_judge 10 = .ok (.if_icmp .eq 12, 3) := by decide +kernel
theorem dX5_judge_13 : decode cX5_judge 13 = .ok (.aload_n 0, 1) := by decide +kernel
theorem dX5_judge_14 : decode cX5_judge 14 = .ok (.iload 4, 2) := by decide +kernel
theorem dX5_judge_16 : decode cX5_judge 16 = .ok (.invokevirtual 104, 3) := by decide +kernel
theorem dX5_judge_19 : decode cX5_judge 19 = .ok (.ifCond .ge 5, 3) := by decide +kernel
theorem dX5_judge_22 : decode cX5_judge 22 = .ok (.iconst (-1), 1) := by decide +kernel
theorem dX5_judge_23 : decode cX5_judge 23 = .ok (.ireturn, 1) := by decide +kernel
theorem dX5_judge_24 : decode cX5_judge 24 = .ok (.iload_n 3, 1) := by decide +kernel
theorem dX5_judge_25 : decode cX5_judge 25 = .ok (.aload_n 0, 1) := by decide +kernel
theorem dX5_judge_26 : decode cX5_judge 26 = .ok (.iload 4, 2) := by decide +kernel
theorem dX5_judge_28 : decode cX5_judge 28 = .ok (.invokevirtual 104, 3) := by decide +kernel
theorem dX5_judge_31 : decode cX5_judge 31 = .ok (.if_icmp .ne 5, 3) := by decide +kernel
theorem dX5_judge_34 : decode cX5_judge 34 = .ok (.iconst 0, 1) := by decide +kernel
theorem dX5_judge_35 : decode cX5_judge 35 = .ok (.ireturn, 1) := by decide +kernel
theorem dX5_judge_36 : decode cX5_judge 36 = .ok (.iload_n 1, 1) := by decide +kernel
theorem dX5_judge_37 : decode cX5_judge 37 = .ok (.iload_n 3, 1) := by decide +kernel
theorem dX5_judge_38 : decode cX5_judge 38 = .ok (.invokestatic 107, 3) := by decide +kernel
theorem dX5_judge_41 : decode cX5_judge 41 = .ok (.ifCond .ne 5, 3) := by decide +kernel
theorem dX5_judge_44 : decode cX5_judge 44 = .ok (.iconst 1, 1) := by decide +kernel
theorem dX5_judge_45 : decode cX5_judge 45 = .ok (.ireturn, 1) := by decide +kernel
theorem dX5_judge_46 : decode cX5_judge 46 = .ok (.aload_n 0, 1) := by decide +kernel
theorem dX5_judge_47 : decode cX5_judge 47 = .ok (.iload 4, 2) := by decide +kernel
theorem dX5_judge_49 : decode cX5_judge 49 = .ok (.iload_n 3, 1) := by decide +kernel
theorem dX5_judge_50 : decode cX5_judge 50 = .ok (.invokevirtual 111, 3) := by decide +kernel
theorem dX5_judge_53 : decode cX5_judge 53 = .ok (.ifCond .eq 7, 3) := by decide +kernel
theorem dX5_judge_56 : decode cX5_judge 56 = .ok (.iconst 2, 1) := by decide +kernel
theorem dX5_judge_57 : decode cX5_judge 57 = .ok (.goto 4, 3) := by decide +kernel
theorem dX5_judge_60 : decode cX5_judge 60 = .ok (.iconst 3, 1) := by decide +kernel
theorem dX5_judge_61 : decode cX5_judge 61 = .ok (.ireturn, 1) := by decide +kernel
theorem dX5_asks_0 : decode cX5_asks 0 = .ok (.iload_n 1, 1) := by decide +kernel
theorem dX5_asks_1 : decode cX5_asks 1 = .ok (.iload_n 2, 1) := by decide +kernel
theorem dX5_asks_2 : decode cX5_asks 2 = .ok (.invokestatic 87, 3) := by decide +kernel
theorem dX5_asks_5 : decode cX5_asks 5 = .ok (.istore_n 3, 1) := by decide +kernel
theorem dX5_asks_6 : decode cX5_asks 6 = .ok (.iload_n 3, 1) := by decide +kernel
theorem dX5_asks_7 : decode cX5_asks 7 = .ok (.iconst (-1), 1) := by decide +kernel
theorem dX5_asks_8 : decode cX5_asks 8 = .ok (.if_icmp .ne 7, 3) := by decide +kernel
theorem dX5_asks_11 : decode cX5_asks 11 = .ok (.iconst (-1), 1) := by decide +kernel
theorem dX5_asks_12 : decode cX5_asks 12 = .ok (.goto 20, 3) := by decide +kernel
theorem dX5_asks_15 : decode cX5_asks 15 = .ok (.aload_n 0, 1) := by decide +kernel
theorem dX5_asks_16 : decode cX5_asks 16 = .ok (.getfield 33, 3) := by decide +kernel
theorem dX5_asks_19 : decode cX5_asks 19 = .ok (.getfield 114, 3) := by decide +kernel
theorem dX5_asks_22 : decode cX5_asks 22 = .ok (.aload_n 0, 1) := by decide +kernel
theorem dX5_asks_23 : decode cX5_asks 23 = .ok (.getfield 12, 3) := by decide +kernel
theorem dX5_asks_26 : decode cX5_asks 26 = .ok (.getfield 73, 3) := by decide +kernel
theorem dX5_asks_29 : decode cX5_asks 29 = .ok (.aaload, 1) := by decide +kernel
theorem dX5_asks_30 : decode cX5_asks 30 = .ok (.iload_n 3, 1) := by decide +kernel
theorem dX5_asks_31 : decode cX5_asks 31 = .ok (.iaload, 1) := by decide +kernel
theorem dX5_asks_32 : decode cX5_asks 32 = .ok (.ireturn, 1) := by decide +kernel
theorem dX5_fewest_0 : decode cX5_fewest 0 = .ok (.aload_n 0, 1) := by decide +kernel
theorem dX5_fewest_1 : decode cX5_fewest 1 = .ok (.getfield 40, 3) := by decide +kernel
theorem dX5_fewest_4 : decode cX5_fewest 4 = .ok (.invokevirtual 117, 3) := by decide +kernel
theorem dX5_fewest_7 : decode cX5_fewest 7 = .ok (.iconst 0, 1) := by decide +kernel
theorem dX5_fewest_8 : decode cX5_fewest 8 = .ok (.istore_n 1, 1) := by decide +kernel
theorem dX5_fewest_9 : decode cX5_fewest 9 = .ok (.iload_n 1, 1) := by decide +kernel
theorem dX5_fewest_10 : decode cX5_fewest 10 = .ok (.bipush 36, 2) := by decide +kernel
theorem dX5_fewest_12 : decode cX5_fewest 12 = .ok (.if_icmp .ge 33, 3) := by decide +kernel
theorem dX5_fewest_15 : decode cX5_fewest 15 = .ok (.aload_n 0, 1) := by decide +kernel
theorem dX5_fewest_16 : decode cX5_fewest 16 = .ok (.getfield 40, 3) := by decide +kernel
theorem dX5_fewest_19 : decode cX5_fewest 19 = .ok (.aload_n 0, 1) := by decide +kernel
theorem dX5_fewest_20 : decode cX5_fewest 20 = .ok (.getfield 33, 3) := by decide +kernel
theorem dX5_fewest_23 : decode cX5_fewest 23 = .ok (.getfield 114, 3) := by decide +kernel
theorem dX5_fewest_26 : decode cX5_fewest 26 = .ok (.aload_n 0, 1) := by decide +kernel
theorem dX5_fewest_27 : decode cX5_fewest 27 = .ok (.getfield 12, 3) := by decide +kernel
theorem dX5_fewest_30 : decode cX5_fewest 30 = .ok (.getfield 73, 3) := by decide +kernel
theorem dX5_fewest_33 : decode cX5_fewest 33 = .ok (.aaload, 1) := by decide +kernel
theorem dX5_fewest_34 : decode cX5_fewest 34 = .ok (.iload_n 1, 1) := by decide +kernel
theorem dX5_fewest_35 : decode cX5_fewest 35 = .ok (.iaload, 1) := by decide +kernel
theorem dX5_fewest_36 : decode cX5_fewest 36 = .ok (.invokevirtual 120, 3) := by decide +kernel
theorem dX5_fewest_39 : decode cX5_fewest 39 = .ok (.iinc 1 1, 3) := by decide +kernel
theorem dX5_fewest_42 : decode cX5_fewest 42 = .ok (.goto (-33), 3) := by decide +kernel
theorem dX5_fewest_45 : decode cX5_fewest 45 = .ok (.aload_n 0, 1) := by decide +kernel
theorem dX5_fewest_46 : decode cX5_fewest 46 = .ok (.getfield 40, 3) := by decide +kernel
theorem dX5_fewest_49 : decode cX5_fewest 49 = .ok (.invokevirtual 123, 3) := by decide +kernel
theorem dX5_fewest_52 : decode cX5_fewest 52 = .ok (.ireturn, 1) := by decide +kernel
theorem dX5_wrong_0 : decode cX5_wrong 0 = .ok (.iload_n 1, 1) := by decide +kernel
theorem dX5_wrong_1 : decode cX5_wrong 1 = .ok (.iload_n 2, 1) := by decide +kernel
theorem dX5_wrong_2 : decode cX5_wrong 2 = .ok (.invokestatic 87, 3) := by decide +kernel
theorem dX5_wrong_5 : decode cX5_wrong 5 = .ok (.istore 4, 2) := by decide +kernel
theorem dX5_wrong_7 : decode cX5_wrong 7 = .ok (.iload 4, 2) := by decide +kernel
theorem dX5_wrong_9 : decode cX5_wrong 9 = .ok (.iconst (-1), 1) := by decide +kernel
theorem dX5_wrong_10 : decode cX5_wrong 10 = .ok (.if_icmp .eq 17, 3) := by decide +kernel
theorem dX5_wrong_13 : decode cX5_wrong 13 = .ok (.iload_n 1, 1) := by decide +kernel
theorem dX5_wrong_14 : decode cX5_wrong 14 = .ok (.iconst 3, 1) := by decide +kernel
theorem dX5_wrong_15 : decode cX5_wrong 15 = .ok (.if_icmp .eq 12, 3) := by decide +kernel
theorem dX5_wrong_18 : decode cX5_wrong 18 = .ok (.aload_n 0, 1) := by decide +kernel
theorem dX5_wrong_19 : decode cX5_wrong 19 = .ok (.iload 4, 2) := by decide +kernel
theorem dX5_wrong_21 : decode cX5_wrong 21 = .ok (.invokevirtual 104, 3) := by decide +kernel
theorem dX5_wrong_24 : decode cX5_wrong 24 = .ok (.ifCond .ge 5, 3) := by decide +kernel
theorem dX5_wrong_27 : decode cX5_wrong 27 = .ok (.iconst (-1), 1) := by decide +kernel
theorem dX5_wrong_28 : decode cX5_wrong 28 = .ok (.ireturn, 1) := by decide +kernel
theorem dX5_wrong_29 : decode cX5_wrong 29 = .ok (.iload_n 1, 1) := by decide +kernel
theorem dX5_wrong_30 : decode cX5_wrong 30 = .ok (.iconst 2, 1) := by decide +kernel
theorem dX5_wrong_31 : decode cX5_wrong 31 = .ok (.if_icmp .ne 22, 3) := by decide +kernel
theorem dX5_wrong_34 : decode cX5_wrong 34 = .ok (.aload_n 0, 1) := by decide +kernel
theorem dX5_wrong_35 : decode cX5_wrong 35 = .ok (.iload 4, 2) := by decide +kernel
theorem dX5_wrong_37 : decode cX5_wrong 37 = .ok (.invokevirtual 104, 3) := by decide +kernel
theorem dX5_wrong_40 : decode cX5_wrong 40 = .ok (.aload_n 0, 1) := by decide +kernel
theorem dX5_wrong_41 : decode cX5_wrong 41 = .ok (.getfield 12, 3) := by decide +kernel
theorem dX5_wrong_44 : decode cX5_wrong 44 = .ok (.invokevirtual 127, 3) := by decide +kernel
theorem dX5_wrong_47 : decode cX5_wrong 47 = .ok (.iconst 0, 1) := by decide +kernel
theorem dX5_wrong_48 : decode cX5_wrong 48 = .ok (.iload_n 3, 1) := by decide +kernel
theorem dX5_wrong_49 : decode cX5_wrong 49 = .ok (.invokestatic 130, 3) := by decide +kernel
theorem dX5_wrong_52 : decode cX5_wrong 52 = .ok (.ireturn, 1) := by decide +kernel
theorem dX5_wrong_53 : decode cX5_wrong 53 = .ok (.aload_n 0, 1) := by decide +kernel
theorem dX5_wrong_54 : decode cX5_wrong 54 = .ok (.iload 4, 2) := by decide +kernel
theorem dX5_wrong_56 : decode cX5_wrong 56 = .ok (.invokevirtual 104, 3) := by decide +kernel
theorem dX5_wrong_59 : decode cX5_wrong 59 = .ok (.aload_n 0, 1) := by decide +kernel
theorem dX5_wrong_60 : decode cX5_wrong 60 = .ok (.getfield 12, 3) := by decide +kernel
theorem dX5_wrong_63 : decode cX5_wrong 63 = .ok (.invokevirtual 134, 3) := by decide +kernel
theorem dX5_wrong_66 : decode cX5_wrong 66 = .ok (.bipush 20, 2) := by decide +kernel
theorem dX5_wrong_68 : decode cX5_wrong 68 = .ok (.iload_n 3, 1) := by decide +kernel
theorem dX5_wrong_69 : decode cX5_wrong 69 = .ok (.invokestatic 130, 3) := by decide +kernel
theorem dX5_wrong_72 : decode cX5_wrong 72 = .ok (.ireturn, 1) := by decide +kernel
theorem dX5_count_0 : decode cX5_count 0 = .ok (.iload_n 1, 1) := by decide +kernel
theorem dX5_count_1 : decode cX5_count 1 = .ok (.tableswitch 96 0 4 #[35, 43, 51, 66, 81], 35) := by decide +kernel
theorem dX5_count_36 : decode cX5_count 36 = .ok (.aload_n 0, 1) := by decide +kernel
theorem dX5_count_37 : decode cX5_count 37 = .ok (.getfield 12, 3) := by decide +kernel
theorem dX5_count_40 : decode cX5_count 40 = .ok (.getfield 73, 3) := by decide +kernel
theorem dX5_count_43 : decode cX5_count 43 = .ok (.ireturn, 1) := by decide +kernel
theorem dX5_count_44 : decode cX5_count 44 = .ok (.aload_n 0, 1) := by decide +kernel
theorem dX5_count_45 : decode cX5_count 45 = .ok (.getfield 12, 3) := by decide +kernel
theorem dX5_count_48 : decode cX5_count 48 = .ok (.getfield 137, 3) := by decide +kernel
theorem dX5_count_51 : decode cX5_count 51 = .ok (.ireturn, 1) := by decide +kernel
theorem dX5_count_52 : decode cX5_count 52 = .ok (.aload_n 0, 1) := by decide +kernel
theorem dX5_count_53 : decode cX5_count 53 = .ok (.getfield 19, 3) := by decide +kernel
theorem dX5_count_56 : decode cX5_count 56 = .ok (.aload_n 0, 1) := by decide +kernel
theorem dX5_count_57 : decode cX5_count 57 = .ok (.getfield 12, 3) := by decide +kernel
theorem dX5_count_60 : decode cX5_count 60 = .ok (.getfield 73, 3) := by decide +kernel
theorem dX5_count_63 : decode cX5_count 63 = .ok (.invokevirtual 69, 3) := by decide +kernel
theorem dX5_count_66 : decode cX5_count 66 = .ok (.ireturn, 1) := by decide +kernel
theorem dX5_count_67 : decode cX5_count 67 = .ok (.aload_n 0, 1) := by decide +kernel
theorem dX5_count_68 : decode cX5_count 68 = .ok (.getfield 33, 3) := by decide +kernel
theorem dX5_count_71 : decode cX5_count 71 = .ok (.aload_n 0, 1) := by decide +kernel
theorem dX5_count_72 : decode cX5_count 72 = .ok (.getfield 12, 3) := by decide +kernel
theorem dX5_count_75 : decode cX5_count 75 = .ok (.getfield 73, 3) := by decide +kernel
theorem dX5_count_78 : decode cX5_count 78 = .ok (.invokevirtual 140, 3) := by decide +kernel
theorem dX5_count_81 : decode cX5_count 81 = .ok (.ireturn, 1) := by decide +kernel
theorem dX5_count_82 : decode cX5_count 82 = .ok (.aload_n 0, 1) := by decide +kernel
theorem dX5_count_83 : decode cX5_count 83 = .ok (.getfield 33, 3) := by decide +kernel
theorem dX5_count_86 : decode cX5_count 86 = .ok (.aload_n 0, 1) := by decide +kernel
theorem dX5_count_87 : decode cX5_count 87 = .ok (.getfield 12, 3) := by decide +kernel
theorem dX5_count_90 : decode cX5_count 90 = .ok (.getfield 73, 3) := by decide +kernel
theorem dX5_count_93 : decode cX5_count 93 = .ok (.invokevirtual 143, 3) := by decide +kernel
theorem dX5_count_96 : decode cX5_count 96 = .ok (.ireturn, 1) := by decide +kernel
theorem dX5_count_97 : decode cX5_count 97 = .ok (.iconst (-1), 1) := by decide +kernel
theorem dX5_count_98 : decode cX5_count 98 = .ok (.ireturn, 1) := by decide +kernel
theorem dX5_hasPrefix_0 : decode cX5_hasPrefix 0 = .ok (.iload_n 1, 1) := by decide +kernel
theorem dX5_hasPrefix_1 : decode cX5_hasPrefix 1 = .ok (.ifCond .lt 18, 3) := by decide +kernel
theorem dX5_hasPrefix_4 : decode cX5_hasPrefix 4 = .ok (.iload_n 1, 1) := by decide +kernel
theorem dX5_hasPrefix_5 : decode cX5_hasPrefix 5 = .ok (.aload_n 0, 1) := by decide +kernel
theorem dX5_hasPrefix_6 : decode cX5_hasPrefix 6 = .ok (.getfield 12, 3) := by decide +kernel
theorem dX5_hasPrefix_9 : decode cX5_hasPrefix 9 = .ok (.getfield 73, 3) := by decide +kernel
theorem dX5_hasPrefix_12 : decode cX5_hasPrefix 12 = .ok (.if_icmp .gt 7, 3) := by decide +kernel
theorem dX5_hasPrefix_15 : decode cX5_hasPrefix 15 = .ok (.iconst 1, 1) := by decide +kernel
theorem dX5_hasPrefix_16 : decode cX5_hasPrefix 16 = .ok (.goto 4, 3) := by decide +kernel
theorem dX5_hasPrefix_19 : decode cX5_hasPrefix 19 = .ok (.iconst 0, 1) := by decide +kernel
theorem dX5_hasPrefix_20 : decode cX5_hasPrefix 20 = .ok (.ireturn, 1) := by decide +kernel
theorem dX5_hasReading_0 : decode cX5_hasReading 0 = .ok (.iload_n 1, 1) := by decide +kernel
theorem dX5_hasReading_1 : decode cX5_hasReading 1 = .ok (.ifCond .lt 25, 3) := by decide +kernel
theorem dX5_hasReading_4 : decode cX5_hasReading 4 = .ok (.iload_n 1, 1) := by decide +kernel
theorem dX5_hasReading_5 : decode cX5_hasReading 5 = .ok (.aload_n 0, 1) := by decide +kernel
theorem dX5_hasReading_6 : decode cX5_hasReading 6 = .ok (.getfield 19, 3) := by decide +kernel
theorem dX5_hasReading_9 : decode cX5_hasReading 9 = .ok (.aload_n 0, 1) := by decide +kernel
theorem dX5_hasReading_10 : decode cX5_hasReading 10 = .ok (.getfield 12, 3) := by decide +kernel
theorem dX5_hasReading_13 : decode cX5_hasReading 13 = .ok (.getfield 73, 3) := by decide +kernel
theorem dX5_hasReading_16 : decode cX5_hasReading 16 = .ok (.invokevirtual 69, 3) := by decide +kernel
theorem dX5_hasReading_19 : decode cX5_hasReading 19 = .ok (.if_icmp .ge 7, 3) := by decide +kernel
theorem dX5_hasReading_22 : decode cX5_hasReading 22 = .ok (.iconst 1, 1) := by decide +kernel
theorem dX5_hasReading_23 : decode cX5_hasReading 23 = .ok (.goto 4, 3) := by decide +kernel
theorem dX5_hasReading_26 : decode cX5_hasReading 26 = .ok (.iconst 0, 1) := by decide +kernel
theorem dX5_hasReading_27 : decode cX5_hasReading 27 = .ok (.ireturn, 1) := by decide +kernel
theorem dX5_rightAnswer_0 : decode cX5_rightAnswer 0 = .ok (.aload_n 0, 1) := by decide +kernel
theorem dX5_rightAnswer_1 : decode cX5_rightAnswer 1 = .ok (.getfield 33, 3) := by decide +kernel
theorem dX5_rightAnswer_4 : decode cX5_rightAnswer 4 = .ok (.getfield 90, 3) := by decide +kernel
theorem dX5_rightAnswer_7 : decode cX5_rightAnswer 7 = .ok (.aload_n 0, 1) := by decide +kernel
theorem dX5_rightAnswer_8 : decode cX5_rightAnswer 8 = .ok (.getfield 12, 3) := by decide +kernel
theorem dX5_rightAnswer_11 : decode cX5_rightAnswer 11 = .ok (.getfield 73, 3) := by decide +kernel
theorem dX5_rightAnswer_14 : decode cX5_rightAnswer 14 = .ok (.aaload, 1) := by decide +kernel
theorem dX5_rightAnswer_15 : decode cX5_rightAnswer 15 = .ok (.iload_n 1, 1) := by decide +kernel
theorem dX5_rightAnswer_16 : decode cX5_rightAnswer 16 = .ok (.iaload, 1) := by decide +kernel
theorem dX5_rightAnswer_17 : decode cX5_rightAnswer 17 = .ok (.ireturn, 1) := by decide +kernel
theorem dX5_wasAnswer_0 : decode cX5_wasAnswer 0 = .ok (.iconst 0, 1) := by decide +kernel
theorem dX5_wasAnswer_1 : decode cX5_wasAnswer 1 = .ok (.istore_n 3, 1) := by decide +kernel
theorem dX5_wasAnswer_2 : decode cX5_wasAnswer 2 = .ok (.iload_n 3, 1) := by decide +kernel
theorem dX5_wasAnswer_3 : decode cX5_wasAnswer 3 = .ok (.aload_n 0, 1) := by decide +kernel
theorem dX5_wasAnswer_4 : decode cX5_wasAnswer 4 = .ok (.getfield 12, 3) := by decide +kernel
theorem dX5_wasAnswer_7 : decode cX5_wasAnswer 7 = .ok (.getfield 73, 3) := by decide +kernel
theorem dX5_wasAnswer_10 : decode cX5_wasAnswer 10 = .ok (.if_icmp .ge 26, 3) := by decide +kernel
theorem dX5_wasAnswer_13 : decode cX5_wasAnswer 13 = .ok (.aload_n 0, 1) := by decide +kernel
theorem dX5_wasAnswer_14 : decode cX5_wasAnswer 14 = .ok (.getfield 33, 3) := by decide +kernel
theorem dX5_wasAnswer_17 : decode cX5_wasAnswer 17 = .ok (.getfield 90, 3) := by decide +kernel
theorem dX5_wasAnswer_20 : decode cX5_wasAnswer 20 = .ok (.iload_n 3, 1) := by decide +kernel
theorem dX5_wasAnswer_21 : decode cX5_wasAnswer 21 = .ok (.aaload, 1) := by decide +kernel
theorem dX5_wasAnswer_22 : decode cX5_wasAnswer 22 = .ok (.iload_n 1, 1) := by decide +kernel
theorem dX5_wasAnswer_23 : decode cX5_wasAnswer 23 = .ok (.iaload, 1) := by decide +kernel
theorem dX5_wasAnswer_24 : decode cX5_wasAnswer 24 = .ok (.iload_n 2, 1) := by decide +kernel
theorem dX5_wasAnswer_25 : decode cX5_wasAnswer 25 = .ok (.if_icmp .ne 5, 3) := by decide +kernel
theorem dX5_wasAnswer_28 : decode cX5_wasAnswer 28 = .ok (.iconst 1, 1) := by decide +kernel
theorem dX5_wasAnswer_29 : decode cX5_wasAnswer 29 = .ok (.ireturn, 1) := by decide +kernel
theorem dX5_wasAnswer_30 : decode cX5_wasAnswer 30 = .ok (.iinc 3 1, 3) := by decide +kernel
theorem dX5_wasAnswer_33 : decode cX5_wasAnswer 33 = .ok (.goto (-31), 3) := by decide +kernel
theorem dX5_wasAnswer_36 : decode cX5_wasAnswer 36 = .ok (.iconst 0, 1) := by decide +kernel
theorem dX5_wasAnswer_37 : decode cX5_wasAnswer 37 = .ok (.ireturn, 1) := by decide +kernel
theorem dX5_finishSentence_0 : decode cX5_finishSentence 0 = .ok (.aload_n 0, 1) := by decide +kernel
theorem dX5_finishSentence_1 : decode cX5_finishSentence 1 = .ok (.getfield 12, 3) := by decide +kernel
theorem dX5_finishSentence_4 : decode cX5_finishSentence 4 = .ok (.invokevirtual 146, 3) := by decide +kernel
theorem dX5_finishSentence_7 : decode cX5_finishSentence 7 = .ok (.aload_n 0, 1) := by decide +kernel
theorem dX5_finishSentence_8 : decode cX5_finishSentence 8 = .ok (.aload_n 0, 1) := by decide +kernel
theorem dX5_finishSentence_9 : decode cX5_finishSentence 9 = .ok (.getfield 12, 3) := by decide +kernel
theorem dX5_finishSentence_12 : decode cX5_finishSentence 12 = .ok (.getfield 73, 3) := by decide +kernel
theorem dX5_finishSentence_15 : decode cX5_finishSentence 15 = .ok (.invokevirtual 149, 3) := by decide +kernel
theorem dX5_finishSentence_18 : decode cX5_finishSentence 18 = .ok (.ifCond .ne 12, 3) := by decide +kernel
theorem dX5_finishSentence_21 : decode cX5_finishSentence 21 = .ok (.aload_n 0, 1) := by decide +kernel
theorem dX5_finishSentence_22 : decode cX5_finishSentence 22 = .ok (.getfield 12, 3) := by decide +kernel
theorem dX5_finishSentence_25 : decode cX5_finishSentence 25 = .ok (.invokevirtual 152, 3) := by decide +kernel
theorem dX5_finishSentence_28 : decode cX5_finishSentence 28 = .ok (.iconst 0, 1) := by decide +kernel
theorem dX5_finishSentence_29 : decode cX5_finishSentence 29 = .ok (.ireturn, 1) := by decide +kernel
theorem dX5_finishSentence_30 : decode cX5_finishSentence 30 = .ok (.aload_n 0, 1) := by decide +kernel
theorem dX5_finishSentence_31 : decode cX5_finishSentence 31 = .ok (.getfield 12, 3) := by decide +kernel
theorem dX5_finishSentence_34 : decode cX5_finishSentence 34 = .ok (.invokevirtual 155, 3) := by decide +kernel
theorem dX5_finishSentence_37 : decode cX5_finishSentence 37 = .ok (.aload_n 0, 1) := by decide +kernel
theorem dX5_finishSentence_38 : decode cX5_finishSentence 38 = .ok (.aload_n 0, 1) := by decide +kernel
theorem dX5_finishSentence_39 : decode cX5_finishSentence 39 = .ok (.getfield 12, 3) := by decide +kernel
theorem dX5_finishSentence_42 : decode cX5_finishSentence 42 = .ok (.getfield 73, 3) := by decide +kernel
theorem dX5_finishSentence_45 : decode cX5_finishSentence 45 = .ok (.invokevirtual 44, 3) := by decide +kernel
theorem dX5_finishSentence_48 : decode cX5_finishSentence 48 = .ok (.iconst 1, 1) := by decide +kernel
theorem dX5_finishSentence_49 : decode cX5_finishSentence 49 = .ok (.ireturn, 1) := by decide +kernel
theorem dX5_extendWays_0 : decode cX5_extendWays 0 = .ok (.aload_n 0, 1) := by decide +kernel
theorem dX5_extendWays_1 : decode cX5_extendWays 1 = .ok (.getfield 19, 3) := by decide +kernel
theorem dX5_extendWays_4 : decode cX5_extendWays 4 = .ok (.iload_n 1, 1) := by decide +kernel
theorem dX5_extendWays_5 : decode cX5_extendWays 5 = .ok (.iconst 1, 1) := by decide +kernel
theorem dX5_extendWays_6 : decode cX5_extendWays 6 = .ok (.iadd, 1) := by decide +kernel
theorem dX5_extendWays_7 : decode cX5_extendWays 7 = .ok (.invokevirtual 158, 3) := by decide +kernel
theorem dX5_extendWays_10 : decode cX5_extendWays 10 = .ok (.iconst 0, 1) := by decide +kernel
theorem dX5_extendWays_11 : decode cX5_extendWays 11 = .ok (.istore_n 2, 1) := by decide +kernel
theorem dX5_extendWays_12 : decode cX5_extendWays 12 = .ok (.iload_n 2, 1) := by decide +kernel
theorem dX5_extendWays_13 : decode cX5_extendWays 13 = .ok (.aload_n 0, 1) := by decide +kernel
theorem dX5_extendWays_14 : decode cX5_extendWays 14 = .ok (.getfield 19, 3) := by decide +kernel
theorem dX5_extendWays_17 : decode cX5_extendWays 17 = .ok (.iload_n 1, 1) := by decide +kernel
theorem dX5_extendWays_18 : decode cX5_extendWays 18 = .ok (.invokevirtual 69, 3) := by decide +kernel
theorem dX5_extendWays_21 : decode cX5_extendWays 21 = .ok (.if_icmp .ge 43, 3) := by decide +kernel
theorem dX5_extendWays_24 : decode cX5_extendWays 24 = .ok (.aload_n 0, 1) := by decide +kernel
theorem dX5_extendWays_25 : decode cX5_extendWays 25 = .ok (.getfield 19, 3) := by decide +kernel
theorem dX5_extendWays_28 : decode cX5_extendWays 28 = .ok (.iload_n 1, 1) := by decide +kernel
theorem dX5_extendWays_29 : decode cX5_extendWays 29 = .ok (.iload_n 2, 1) := by decide +kernel
theorem dX5_extendWays_30 : decode cX5_extendWays 30 = .ok (.invokevirtual 80, 3) := by decide +kernel
theorem dX5_extendWays_33 : decode cX5_extendWays 33 = .ok (.istore_n 3, 1) := by decide +kernel
theorem dX5_extendWays_34 : decode cX5_extendWays 34 = .ok (.aload_n 0, 1) := by decide +kernel
theorem dX5_extendWays_35 : decode cX5_extendWays 35 = .ok (.getfield 26, 3) := by decide +kernel
theorem dX5_extendWays_38 : decode cX5_extendWays 38 = .ok (.aload_n 0, 1) := by decide +kernel
theorem dX5_extendWays_39 : decode cX5_extendWays 39 = .ok (.getfield 12, 3) := by decide +kernel
theorem dX5_extendWays_42 : decode cX5_extendWays 42 = .ok (.iload_n 1, 1) := by decide +kernel
theorem dX5_extendWays_43 : decode cX5_extendWays 43 = .ok (.iload_n 3, 1) := by decide +kernel
theorem dX5_extendWays_44 : decode cX5_extendWays 44 = .ok (.invokevirtual 97, 3) := by decide +kernel
theorem dX5_extendWays_47 : decode cX5_extendWays 47 = .ok (.aload_n 0, 1) := by decide +kernel
theorem dX5_extendWays_48 : decode cX5_extendWays 48 = .ok (.iload_n 1, 1) := by decide +kernel
theorem dX5_extendWays_49 : decode cX5_extendWays 49 = .ok (.iload_n 3, 1) := by decide +kernel
theorem dX5_extendWays_50 : decode cX5_extendWays 50 = .ok (.invokevirtual 160, 3) := by decide +kernel
theorem dX5_extendWays_53 : decode cX5_extendWays 53 = .ok (.ifCond .ne 5, 3) := by decide +kernel
theorem dX5_extendWays_56 : decode cX5_extendWays 56 = .ok (.iconst 0, 1) := by decide +kernel
theorem dX5_extendWays_57 : decode cX5_extendWays 57 = .ok (.ireturn, 1) := by decide +kernel
theorem dX5_extendWays_58 : decode cX5_extendWays 58 = .ok (.iinc 2 1, 3) := by decide +kernel
theorem dX5_extendWays_61 : decode cX5_extendWays 61 = .ok (.goto (-49), 3) := by decide +kernel
theorem dX5_extendWays_64 : decode cX5_extendWays 64 = .ok (.aload_n 0, 1) := by decide +kernel
theorem dX5_extendWays_65 : decode cX5_extendWays 65 = .ok (.getfield 19, 3) := by decide +kernel
theorem dX5_extendWays_68 : decode cX5_extendWays 68 = .ok (.iload_n 1, 1) := by decide +kernel
theorem dX5_extendWays_69 : decode cX5_extendWays 69 = .ok (.iconst 1, 1) := by decide +kernel
theorem dX5_extendWays_70 : decode cX5_extendWays 70 = .ok (.iadd, 1) := by decide +kernel
theorem dX5_extendWays_71 : decode cX5_extendWays 71 = .ok (.invokevirtual 69, 3) := by decide +kernel
theorem dX5_extendWays_74 : decode cX5_extendWays 74 = .ok (.ifCond .le 7, 3) := by decide +kernel
theorem dX5_extendWays_77 : decode cX5_extendWays 77 = .ok (.iconst 1, 1) := by decide +kernel
theorem dX5_extendWays_78 : decode cX5_extendWays 78 = .ok (.goto 4, 3) := by decide +kernel
theorem dX5_extendWays_81 : decode cX5_extendWays 81 = .ok (.iconst 0, 1) := by decide +kernel
theorem dX5_extendWays_82 : decode cX5_extendWays 82 = .ok (.ireturn, 1) := by decide +kernel
theorem dX5_extendWay_0 : decode cX5_extendWay 0 = .ok (.aload_n 0, 1) := by decide +kernel
theorem dX5_extendWay_1 : decode cX5_extendWay 1 = .ok (.getfield 12, 3) := by decide +kernel
theorem dX5_extendWay_4 : decode cX5_extendWay 4 = .ok (.iload_n 1, 1) := by decide +kernel
theorem dX5_extendWay_5 : decode cX5_extendWay 5 = .ok (.iconst 0, 1) := by decide +kernel
theorem dX5_extendWay_6 : decode cX5_extendWay 6 = .ok (.invokevirtual 163, 3) := by decide +kernel
theorem dX5_extendWay_9 : decode cX5_extendWay 9 = .ok (.invokestatic 166, 3) := by decide +kernel
theorem dX5_extendWay_12 : decode cX5_extendWay 12 = .ok (.istore_n 3, 1) := by decide +kernel
theorem dX5_extendWay_13 : decode cX5_extendWay 13 = .ok (.aload_n 0, 1) := by decide +kernel
theorem dX5_extendWay_14 : decode cX5_extendWay 14 = .ok (.getfield 12, 3) := by decide +kernel
theorem dX5_extendWay_17 : decode cX5_extendWay 17 = .ok (.iload_n 1, 1) := by decide +kernel
theorem dX5_extendWay_18 : decode cX5_extendWay 18 = .ok (.invokevirtual 171, 3) := by decide +kernel
theorem dX5_extendWay_21 : decode cX5_extendWay 21 = .ok (.bipush 33, 2) := by decide +kernel
theorem dX5_extendWay_23 : decode cX5_extendWay 23 = .ok (.if_icmp .ne 18, 3) := by decide +kernel
theorem dX5_extendWay_26 : decode cX5_extendWay 26 = .ok (.aload_n 0, 1) := by decide +kernel
theorem dX5_extendWay_27 : decode cX5_extendWay 27 = .ok (.getfield 12, 3) := by decide +kernel
theorem dX5_extendWay_30 : decode cX5_extendWay 30 = .ok (.iload_n 1, 1) := by decide +kernel
theorem dX5_extendWay_31 : decode cX5_extendWay 31 = .ok (.iconst 1, 1) := by decide +kernel
theorem dX5_extendWay_32 : decode cX5_extendWay 32 = .ok (.invokevirtual 163, 3) := by decide +kernel
theorem dX5_extendWay_35 : decode cX5_extendWay 35 = .ok (.invokestatic 166, 3) := by decide +kernel
theorem dX5_extendWay_38 : decode cX5_extendWay 38 = .ok (.goto 4, 3) := by decide +kernel
theorem dX5_extendWay_41 : decode cX5_extendWay 41 = .ok (.iconst 1, 1) := by decide +kernel
theorem dX5_extendWay_42 : decode cX5_extendWay 42 = .ok (.istore 4, 2) := by decide +kernel
theorem dX5_extendWay_44 : decode cX5_extendWay 44 = .ok (.iconst 0, 1) := by decide +kernel
theorem dX5_extendWay_45 : decode cX5_extendWay 45 = .ok (.istore 5, 2) := by decide +kernel
theorem dX5_extendWay_47 : decode cX5_extendWay 47 = .ok (.iload 5, 2) := by decide +kernel
theorem dX5_extendWay_49 : decode cX5_extendWay 49 = .ok (.iload_n 3, 1) := by decide +kernel
theorem dX5_extendWay_50 : decode cX5_extendWay 50 = .ok (.if_icmp .ge 78, 3) := by decide +kernel
theorem dX5_extendWay_53 : decode cX5_extendWay 53 = .ok (.iconst 0, 1) := by decide +kernel
theorem dX5_extendWay_54 : decode cX5_extendWay 54 = .ok (.istore 6, 2) := by decide +kernel
theorem dX5_extendWay_56 : decode cX5_extendWay 56 = .ok (.iload 6, 2) := by decide +kernel
theorem dX5_extendWay_58 : decode cX5_extendWay 58 = .ok (.iload 4, 2) := by decide +kernel
theorem dX5_extendWay_60 : decode cX5_extendWay 60 = .ok (.if_icmp .ge 62, 3) := by decide +kernel
theorem dX5_extendWay_63 : decode cX5_extendWay 63 = .ok (.iload_n 2, 1) := by decide +kernel
theorem dX5_extendWay_64 : decode cX5_extendWay 64 = .ok (.iload_n 1, 1) := by decide +kernel
theorem dX5_extendWay_65 : decode cX5_extendWay 65 = .ok (.iconst 0, 1) := by decide +kernel
theorem dX5_extendWay_66 : decode cX5_extendWay 66 = .ok (.iload 5, 2) := by decide +kernel
theorem dX5_extendWay_68 : decode cX5_extendWay 68 = .ok (.invokestatic 174, 3) := by decide +kernel
theorem dX5_extendWay_71 : decode cX5_extendWay 71 = .ok (.ior, 1) := by decide +kernel
theorem dX5_extendWay_72 : decode cX5_extendWay 72 = .ok (.iload_n 1, 1) := by decide +kernel
theorem dX5_extendWay_73 : decode cX5_extendWay 73 = .ok (.iconst 1, 1) := by decide +kernel
theorem dX5_extendWay_74 : decode cX5_extendWay 74 = .ok (.iload 6, 2) := by decide +kernel
theorem dX5_extendWay_76 : decode cX5_extendWay 76 = .ok (.invokestatic 174, 3) := by decide +kernel
theorem dX5_extendWay_79 : decode cX5_extendWay 79 = .ok (.ior, 1) := by decide +kernel
theorem dX5_extendWay_80 : decode cX5_extendWay 80 = .ok (.istore 7, 2) := by decide +kernel
theorem dX5_extendWay_82 : decode cX5_extendWay 82 = .ok (.aload_n 0, 1) := by decide +kernel
theorem dX5_extendWay_83 : decode cX5_extendWay 83 = .ok (.getfield 26, 3) := by decide +kernel
theorem dX5_extendWay_86 : decode cX5_extendWay 86 = .ok (.aload_n 0, 1) := by decide +kernel
theorem dX5_extendWay_87 : decode cX5_extendWay 87 = .ok (.getfield 12, 3) := by decide +kernel
theorem dX5_extendWay_90 : decode cX5_extendWay 90 = .ok (.iload_n 1, 1) := by decide +kernel
theorem dX5_extendWay_91 : decode cX5_extendWay 91 = .ok (.iload 7, 2) := by decide +kernel
theorem dX5_extendWay_93 : decode cX5_extendWay 93 = .ok (.invokevirtual 177, 3) := by decide +kernel
theorem dX5_extendWay_96 : decode cX5_extendWay 96 = .ok (.ifCond .eq 20, 3) := by decide +kernel
theorem dX5_extendWay_99 : decode cX5_extendWay 99 = .ok (.aload_n 0, 1) := by decide +kernel
theorem dX5_extendWay_100 : decode cX5_extendWay 100 = .ok (.getfield 19, 3) := by decide +kernel
theorem dX5_extendWay_103 : decode cX5_extendWay 103 = .ok (.iload_n 1, 1) := by decide +kernel
theorem dX5_extendWay_104 : decode cX5_extendWay 104 = .ok (.iconst 1, 1) := by decide +kernel
theorem dX5_extendWay_105 : decode cX5_extendWay 105 = .ok (.iadd, 1) := by decide +kernel
theorem dX5_extendWay_106 : decode cX5_extendWay 106 = .ok (.iload 7, 2) := by decide +kernel
theorem dX5_extendWay_108 : decode cX5_extendWay 108 = .ok (.invokevirtual 181, 3) := by decide +kernel
theorem dX5_extendWay_111 : decode cX5_extendWay 111 = .ok (.ifCond .ne 5, 3) := by decide +kernel
theorem dX5_extendWay_114 : decode cX5_extendWay 114 = .ok (.iconst 0, 1) := by decide +kernel
theorem dX5_extendWay_115 : decode cX5_extendWay 115 = .ok (.ireturn, 1) := by decide +kernel
theorem dX5_extendWay_116 : decode cX5_extendWay 116 = .ok (.iinc 6 1, 3) := by decide +kernel
theorem dX5_extendWay_119 : decode cX5_extendWay 119 = .ok (.goto (-63), 3) := by decide +kernel
theorem dX5_extendWay_122 : decode cX5_extendWay 122 = .ok (.iinc 5 1, 3) := by decide +kernel
theorem dX5_extendWay_125 : decode cX5_extendWay 125 = .ok (.goto (-78), 3) := by decide +kernel
theorem dX5_extendWay_128 : decode cX5_extendWay 128 = .ok (.iconst 1, 1) := by decide +kernel
theorem dX5_extendWay_129 : decode cX5_extendWay 129 = .ok (.ireturn, 1) := by decide +kernel
theorem dX5_findAnswers_0 : decode cX5_findAnswers 0 = .ok (.iconst 0, 1) := by decide +kernel
theorem dX5_findAnswers_1 : decode cX5_findAnswers 1 = .ok (.istore_n 2, 1) := by decide +kernel
theorem dX5_findAnswers_2 : decode cX5_findAnswers 2 = .ok (.iload_n 2, 1) := by decide +kernel
theorem dX5_findAnswers_3 : decode cX5_findAnswers 3 = .ok (.aload_n 0, 1) := by decide +kernel
theorem dX5_findAnswers_4 : decode cX5_findAnswers 4 = .ok (.getfield 19, 3) := by decide +kernel
theorem dX5_findAnswers_7 : decode cX5_findAnswers 7 = .ok (.iload_n 1, 1) := by decide +kernel
theorem dX5_findAnswers_8 : decode cX5_findAnswers 8 = .ok (.invokevirtual 69, 3) := by decide +kernel
theorem dX5_findAnswers_11 : decode cX5_findAnswers 11 = .ok (.if_icmp .ge 51, 3) := by decide +kernel
theorem dX5_findAnswers_14 : decode cX5_findAnswers 14 = .ok (.aload_n 0, 1) := by decide +kernel
theorem dX5_findAnswers_15 : decode cX5_findAnswers 15 = .ok (.getfield 26, 3) := by decide +kernel
theorem dX5_findAnswers_18 : decode cX5_findAnswers 18 = .ok (.aload_n 0, 1) := by decide +kernel
theorem dX5_findAnswers_19 : decode cX5_findAnswers 19 = .ok (.getfield 12, 3) := by decide +kernel
theorem dX5_findAnswers_22 : decode cX5_findAnswers 22 = .ok (.iload_n 1, 1) := by decide +kernel
theorem dX5_findAnswers_23 : decode cX5_findAnswers 23 = .ok (.aload_n 0, 1) := by decide +kernel
theorem dX5_findAnswers_24 : decode cX5_findAnswers 24 = .ok (.getfield 19, 3) := by decide +kernel
theorem dX5_findAnswers_27 : decode cX5_findAnswers 27 = .ok (.iload_n 1, 1) := by decide +kernel
theorem dX5_findAnswers_28 : decode cX5_findAnswers 28 = .ok (.iload_n 2, 1) := by decide +kernel
theorem dX5_findAnswers_29 : decode cX5_findAnswers 29 = .ok (.invokevirtual 80, 3) := by decide +kernel
theorem dX5_findAnswers_32 : decode cX5_findAnswers 32 = .ok (.invokevirtual 97, 3) := by decide +kernel
theorem dX5_findAnswers_35 : decode cX5_findAnswers 35 = .ok (.aload_n 0, 1) := by decide +kernel
theorem dX5_findAnswers_36 : decode cX5_findAnswers 36 = .ok (.getfield 33, 3) := by decide +kernel
theorem dX5_findAnswers_39 : decode cX5_findAnswers 39 = .ok (.iload_n 1, 1) := by decide +kernel
theorem dX5_findAnswers_40 : decode cX5_findAnswers 40 = .ok (.aload_n 0, 1) := by decide +kernel
theorem dX5_findAnswers_41 : decode cX5_findAnswers 41 = .ok (.getfield 26, 3) := by decide +kernel
theorem dX5_findAnswers_44 : decode cX5_findAnswers 44 = .ok (.iload_n 2, 1) := by decide +kernel
theorem dX5_findAnswers_45 : decode cX5_findAnswers 45 = .ok (.ifCond .ne 7, 3) := by decide +kernel
theorem dX5_findAnswers_48 : decode cX5_findAnswers 48 = .ok (.iconst 1, 1) := by decide +kernel
theorem dX5_findAnswers_49 : decode cX5_findAnswers 49 = .ok (.goto 4, 3) := by decide +kernel
theorem dX5_findAnswers_52 : decode cX5_findAnswers 52 = .ok (.iconst 0, 1) := by decide +kernel
theorem dX5_findAnswers_53 : decode cX5_findAnswers 53 = .ok (.invokevirtual 183, 3) := by decide +kernel
theorem dX5_findAnswers_56 : decode cX5_findAnswers 56 = .ok (.iinc 2 1, 3) := by decide +kernel
theorem dX5_findAnswers_59 : decode cX5_findAnswers 59 = .ok (.goto (-57), 3) := by decide +kernel
theorem dX5_findAnswers_62 : decode cX5_findAnswers 62 = .ok (.aload_n 0, 1) := by decide +kernel
theorem dX5_findAnswers_63 : decode cX5_findAnswers 63 = .ok (.getfield 33, 3) := by decide +kernel
theorem dX5_findAnswers_66 : decode cX5_findAnswers 66 = .ok (.iload_n 1, 1) := by decide +kernel
theorem dX5_findAnswers_67 : decode cX5_findAnswers 67 = .ok (.invokevirtual 187, 3) := by decide +kernel
theorem dX5_findAnswers_70 : decode cX5_findAnswers 70 = .ok (.return_, 1) := by decide +kernel
theorem dX5_choiceBut_0 : decode cX5_choiceBut 0 = .ok (.iload_n 3, 1) := by decide +kernel
theorem dX5_choiceBut_1 : decode cX5_choiceBut 1 = .ok (.istore 4, 2) := by decide +kernel
theorem dX5_choiceBut_3 : decode cX5_choiceBut 3 = .ok (.iconst 0, 1) := by decide +kernel
theorem dX5_choiceBut_4 : decode cX5_choiceBut 4 = .ok (.istore 5, 2) := by decide +kernel
theorem dX5_choiceBut_6 : decode cX5_choiceBut 6 = .ok (.iload 5, 2) := by decide +kernel
theorem dX5_choiceBut_8 : decode cX5_choiceBut 8 = .ok (.bipush 8, 2) := by decide +kernel
theorem dX5_choiceBut_10 : decode cX5_choiceBut 10 = .ok (.if_icmp .ge 39, 3) := by decide +kernel
theorem dX5_choiceBut_13 : decode cX5_choiceBut 13 = .ok (.iload_n 1, 1) := by decide +kernel
theorem dX5_choiceBut_14 : decode cX5_choiceBut 14 = .ok (.iload 5, 2) := by decide +kernel
theorem dX5_choiceBut_16 : decode cX5_choiceBut 16 = .ok (.ishr, 1) := by decide +kernel
theorem dX5_choiceBut_17 : decode cX5_choiceBut 17 = .ok (.iconst 1, 1) := by decide +kernel
theorem dX5_choiceBut_18 : decode cX5_choiceBut 18 = .ok (.iand, 1) := by decide +kernel
theorem dX5_choiceBut_19 : decode cX5_choiceBut 19 = .ok (.ifCond .eq 24, 3) := by decide +kernel
theorem dX5_choiceBut_22 : decode cX5_choiceBut 22 = .ok (.iload_n 2, 1) := by decide +kernel
theorem dX5_choiceBut_23 : decode cX5_choiceBut 23 = .ok (.iload 5, 2) := by decide +kernel
theorem dX5_choiceBut_25 : decode cX5_choiceBut 25 = .ok (.iadd, 1) := by decide +kernel
theorem dX5_choiceBut_26 : decode cX5_choiceBut 26 = .ok (.iload_n 0, 1) := by decide +kernel
theorem dX5_choiceBut_27 : decode cX5_choiceBut 27 = .ok (.if_icmp .eq 16, 3) := by decide +kernel
theorem dX5_choiceBut_30 : decode cX5_choiceBut 30 = .ok (.iload 4, 2) := by decide +kernel
theorem dX5_choiceBut_32 : decode cX5_choiceBut 32 = .ok (.ifCond .ne 8, 3) := by decide +kernel
theorem dX5_choiceBut_35 : decode cX5_choiceBut 35 = .ok (.iload_n 2, 1) := by decide +kernel
theorem dX5_choiceBut_36 : decode cX5_choiceBut 36 = .ok (.iload 5, 2) := by decide +kernel
theorem dX5_choiceBut_38 : decode cX5_choiceBut 38 = .ok (.iadd, 1) := by decide +kernel
theorem dX5_choiceBut_39 : decode cX5_choiceBut 39 = .ok (.ireturn, 1) := by decide +kernel
theorem dX5_choiceBut_40 : decode cX5_choiceBut 40 = .ok (.iinc 4 (-1), 3) := by decide +kernel
theorem dX5_choiceBut_43 : decode cX5_choiceBut 43 = .ok (.iinc 5 1, 3) := by decide +kernel
theorem dX5_choiceBut_46 : decode cX5_choiceBut 46 = .ok (.goto (-40), 3) := by decide +kernel
theorem dX5_choiceBut_49 : decode cX5_choiceBut 49 = .ok (.iconst (-1), 1) := by decide +kernel
theorem dX5_choiceBut_50 : decode cX5_choiceBut 50 = .ok (.ireturn, 1) := by decide +kernel
theorem dX5_choiceBit_0 : decode cX5_choiceBit 0 = .ok (.iload_n 2, 1) := by decide +kernel
theorem dX5_choiceBit_1 : decode cX5_choiceBit 1 = .ok (.iconst 2, 1) := by decide +kernel
theorem dX5_choiceBit_2 : decode cX5_choiceBit 2 = .ok (.iload_n 0, 1) := by decide +kernel
theorem dX5_choiceBit_3 : decode cX5_choiceBit 3 = .ok (.imul, 1) := by decide +kernel
theorem dX5_choiceBit_4 : decode cX5_choiceBit 4 = .ok (.iload_n 1, 1) := by decide +kernel
theorem dX5_choiceBit_5 : decode cX5_choiceBit 5 = .ok (.iadd, 1) := by decide +kernel
theorem dX5_choiceBit_6 : decode cX5_choiceBit 6 = .ok (.ishl, 1) := by decide +kernel
theorem dX5_choiceBit_7 : decode cX5_choiceBit 7 = .ok (.ireturn, 1) := by decide +kernel
theorem dX5_aboutCount_0 : decode cX5_aboutCount 0 = .ok (.iload_n 0, 1) := by decide +kernel
theorem dX5_aboutCount_1 : decode cX5_aboutCount 1 = .ok (.iconst 1, 1) := by decide +kernel
theorem dX5_aboutCount_2 : decode cX5_aboutCount 2 = .ok (.if_icmp .eq 8, 3) := by decide +kernel
theorem dX5_aboutCount_5 : decode cX5_aboutCount 5 = .ok (.iload_n 0, 1) := by decide +kernel
theorem dX5_aboutCount_6 : decode cX5_aboutCount 6 = .ok (.iconst 2, 1) := by decide +kernel
theorem dX5_aboutCount_7 : decode cX5_aboutCount 7 = .ok (.if_icmp .ne 8, 3) := by decide +kernel
theorem dX5_aboutCount_10 : decode cX5_aboutCount 10 = .ok (.bipush 10, 2) := by decide +kernel
theorem dX5_aboutCount_12 : decode cX5_aboutCount 12 = .ok (.goto 5, 3) := by decide +kernel
theorem dX5_aboutCount_15 : decode cX5_aboutCount 15 = .ok (.bipush 8, 2) := by decide +kernel
theorem dX5_aboutCount_17 : decode cX5_aboutCount 17 = .ok (.ireturn, 1) := by decide +kernel
theorem dX5_questionNumber_0 : decode cX5_questionNumber 0 = .ok (.iload_n 0, 1) := by decide +kernel
theorem dX5_questionNumber_1 : decode cX5_questionNumber 1 = .ok (.ifCond .lt 20, 3) := by decide +kernel
theorem dX5_questionNumber_4 : decode cX5_questionNumber 4 = .ok (.iload_n 0, 1) := by decide +kernel
theorem dX5_questionNumber_5 : decode cX5_questionNumber 5 = .ok (.iconst 4, 1) := by decide +kernel
theorem dX5_questionNumber_6 : decode cX5_questionNumber 6 = .ok (.if_icmp .ge 15, 3) := by decide +kernel
theorem dX5_questionNumber_9 : decode cX5_questionNumber 9 = .ok (.iload_n 1, 1) := by decide +kernel
theorem dX5_questionNumber_10 : decode cX5_questionNumber 10 = .ok (.ifCond .lt 11, 3) := by decide +kernel
theorem dX5_questionNumber_13 : decode cX5_questionNumber 13 = .ok (.iload_n 1, 1) := by decide +kernel
theorem dX5_questionNumber_14 : decode cX5_questionNumber 14 = .ok (.iload_n 0, 1) := by decide +kernel
theorem dX5_questionNumber_15 : decode cX5_questionNumber 15 = .ok (.invokestatic 190, 3) := by decide +kernel
theorem dX5_questionNumber_18 : decode cX5_questionNumber 18 = .ok (.if_icmp .lt 5, 3) := by decide +kernel
theorem dX5_questionNumber_21 : decode cX5_questionNumber 21 = .ok (.iconst (-1), 1) := by decide +kernel
theorem dX5_questionNumber_22 : decode cX5_questionNumber 22 = .ok (.ireturn, 1) := by decide +kernel
theorem dX5_questionNumber_23 : decode cX5_questionNumber 23 = .ok (.iload_n 0, 1) := by decide +kernel
theorem dX5_questionNumber_24 : decode cX5_questionNumber 24 = .ok (.tableswitch 40 0 2 #[28, 30, 35], 28) := by decide +kernel
theorem dX5_questionNumber_52 : decode cX5_questionNumber 52 = .ok (.iload_n 1, 1) := by decide +kernel
theorem dX5_questionNumber_53 : decode cX5_questionNumber 53 = .ok (.ireturn, 1) := by decide +kernel
theorem dX5_questionNumber_54 : decode cX5_questionNumber 54 = .ok (.bipush 8, 2) := by decide +kernel
theorem dX5_questionNumber_56 : decode cX5_questionNumber 56 = .ok (.iload_n 1, 1) := by decide +kernel
theorem dX5_questionNumber_57 : decode cX5_questionNumber 57 = .ok (.iadd, 1) := by decide +kernel
theorem dX5_questionNumber_58 : decode cX5_questionNumber 58 = .ok (.ireturn, 1) := by decide +kernel
theorem dX5_questionNumber_59 : decode cX5_questionNumber 59 = .ok (.bipush 18, 2) := by decide +kernel
theorem dX5_questionNumber_61 : decode cX5_questionNumber 61 = .ok (.iload_n 1, 1) := by decide +kernel
theorem dX5_questionNumber_62 : decode cX5_questionNumber 62 = .ok (.iadd, 1) := by decide +kernel
theorem dX5_questionNumber_63 : decode cX5_questionNumber 63 = .ok (.ireturn, 1) := by decide +kernel
theorem dX5_questionNumber_64 : decode cX5_questionNumber 64 = .ok (.bipush 28, 2) := by decide +kernel
theorem dX5_questionNumber_66 : decode cX5_questionNumber 66 = .ok (.iload_n 1, 1) := by decide +kernel
theorem dX5_questionNumber_67 : decode cX5_questionNumber 67 = .ok (.iadd, 1) := by decide +kernel
theorem dX5_questionNumber_68 : decode cX5_questionNumber 68 = .ok (.ireturn, 1) := by decide +kernel
theorem dX5_isOfKind_0 : decode cX5_isOfKind 0 = .ok (.iload_n 0, 1) := by decide +kernel
theorem dX5_isOfKind_1 : decode cX5_isOfKind 1 = .ok (.lookupswitch 62 #[(2, 27), (3, 46)], 27) := by decide +kernel
theorem dX5_isOfKind_28 : decode cX5_isOfKind 28 = .ok (.iload_n 1, 1) := by decide +kernel
theorem dX5_isOfKind_29 : decode cX5_isOfKind 29 = .ok (.invokestatic 193, 3) := by decide +kernel
theorem dX5_isOfKind_32 : decode cX5_isOfKind 32 = .ok (.ifCond .ne 9, 3) := by decide +kernel
theorem dX5_isOfKind_35 : decode cX5_isOfKind 35 = .ok (.iload_n 1, 1) := by decide +kernel
theorem dX5_isOfKind_36 : decode cX5_isOfKind 36 = .ok (.bipush 9, 2) := by decide +kernel
theorem dX5_isOfKind_38 : decode cX5_isOfKind 38 = .ok (.if_icmp .ne 7, 3) := by decide +kernel
theorem dX5_isOfKind_41 : decode cX5_isOfKind 41 = .ok (.iconst 1, 1) := by decide +kernel
theorem dX5_isOfKind_42 : decode cX5_isOfKind 42 = .ok (.goto 4, 3) := by decide +kernel
theorem dX5_isOfKind_45 : decode cX5_isOfKind 45 = .ok (.iconst 0, 1) := by decide +kernel
theorem dX5_isOfKind_46 : decode cX5_isOfKind 46 = .ok (.ireturn, 1) := by decide +kernel
theorem dX5_isOfKind_47 : decode cX5_isOfKind 47 = .ok (.iload_n 1, 1) := by decide +kernel
theorem dX5_isOfKind_48 : decode cX5_isOfKind 48 = .ok (.ifCond .lt 13, 3) := by decide +kernel
theorem dX5_isOfKind_51 : decode cX5_isOfKind 51 = .ok (.iload_n 1, 1) := by decide +kernel
theorem dX5_isOfKind_52 : decode cX5_isOfKind 52 = .ok (.bipush 10, 2) := by decide +kernel
theorem dX5_isOfKind_54 : decode cX5_isOfKind 54 = .ok (.if_icmp .gt 7, 3) := by decide +kernel
theorem dX5_isOfKind_57 : decode cX5_isOfKind 57 = .ok (.iconst 1, 1) := by decide +kernel
theorem dX5_isOfKind_58 : decode cX5_isOfKind 58 = .ok (.goto 4, 3) := by decide +kernel
theorem dX5_isOfKind_61 : decode cX5_isOfKind 61 = .ok (.iconst 0, 1) := by decide +kernel
theorem dX5_isOfKind_62 : decode cX5_isOfKind 62 = .ok (.ireturn, 1) := by decide +kernel
theorem dX5_isOfKind_63 : decode cX5_isOfKind 63 = .ok (.iload_n 1, 1) := by decide +kernel
theorem dX5_isOfKind_64 : decode cX5_isOfKind 64 = .ok (.invokestatic 196, 3) := by decide +kernel
theorem dX5_isOfKind_67 : decode cX5_isOfKind 67 = .ok (.ireturn, 1) := by decide +kernel
theorem dX5_isPerson_0 : decode cX5_isPerson 0 = .ok (.iload_n 0, 1) := by decide +kernel
theorem dX5_isPerson_1 : decode cX5_isPerson 1 = .ok (.ifCond .lt 13, 3) := by decide +kernel
theorem dX5_isPerson_4 : decode cX5_isPerson 4 = .ok (.iload_n 0, 1) := by decide +kernel
theorem dX5_isPerson_5 : decode cX5_isPerson 5 = .ok (.bipush 8, 2) := by decide +kernel
theorem dX5_isPerson_7 : decode cX5_isPerson 7 = .ok (.if_icmp .ge 7, 3) := by decide +kernel
theorem dX5_isPerson_10 : decode cX5_isPerson 10 = .ok (.iconst 1, 1) := by decide +kernel
theorem dX5_isPerson_11 : decode cX5_isPerson 11 = .ok (.goto 4, 3) := by decide +kernel
theorem dX5_isPerson_14 : decode cX5_isPerson 14 = .ok (.iconst 0, 1) := by decide +kernel
theorem dX5_isPerson_15 : decode cX5_isPerson 15 = .ok (.ireturn, 1) := by decide +kernel
theorem dX5_isThing_0 : decode cX5_isThing 0 = .ok (.iload_n 0, 1) := by decide +kernel
theorem dX5_isThing_1 : decode cX5_isThing 1 = .ok (.bipush 10, 2) := by decide +kernel
theorem dX5_isThing_3 : decode cX5_isThing 3 = .ok (.if_icmp .lt 13, 3) := by decide +kernel
theorem dX5_isThing_6 : decode cX5_isThing 6 = .ok (.iload_n 0, 1) := by decide +kernel
theorem dX5_isThing_7 : decode cX5_isThing 7 = .ok (.bipush 20, 2) := by decide +kernel
theorem dX5_isThing_9 : decode cX5_isThing 9 = .ok (.if_icmp .ge 7, 3) := by decide +kernel
theorem dX5_isThing_12 : decode cX5_isThing 12 = .ok (.iconst 1, 1) := by decide +kernel
theorem dX5_isThing_13 : decode cX5_isThing 13 = .ok (.goto 4, 3) := by decide +kernel
theorem dX5_isThing_16 : decode cX5_isThing 16 = .ok (.iconst 0, 1) := by decide +kernel
theorem dX5_isThing_17 : decode cX5_isThing 17 = .ok (.ireturn, 1) := by decide +kernel
theorem dX5_isPlace_0 : decode cX5_isPlace 0 = .ok (.iload_n 0, 1) := by decide +kernel
theorem dX5_isPlace_1 : decode cX5_isPlace 1 = .ok (.bipush 20, 2) := by decide +kernel
theorem dX5_isPlace_3 : decode cX5_isPlace 3 = .ok (.if_icmp .lt 13, 3) := by decide +kernel
theorem dX5_isPlace_6 : decode cX5_isPlace 6 = .ok (.iload_n 0, 1) := by decide +kernel
theorem dX5_isPlace_7 : decode cX5_isPlace 7 = .ok (.bipush 28, 2) := by decide +kernel
theorem dX5_isPlace_9 : decode cX5_isPlace 9 = .ok (.if_icmp .ge 7, 3) := by decide +kernel
theorem dX5_isPlace_12 : decode cX5_isPlace 12 = .ok (.iconst 1, 1) := by decide +kernel
theorem dX5_isPlace_13 : decode cX5_isPlace 13 = .ok (.goto 4, 3) := by decide +kernel
theorem dX5_isPlace_16 : decode cX5_isPlace 16 = .ok (.iconst 0, 1) := by decide +kernel
theorem dX5_isPlace_17 : decode cX5_isPlace 17 = .ok (.ireturn, 1) := by decide +kernel
theorem dX5_isWho_0 : decode cX5_isWho 0 = .ok (.iload_n 0, 1) := by decide +kernel
theorem dX5_isWho_1 : decode cX5_isWho 1 = .ok (.invokestatic 193, 3) := by decide +kernel
theorem dX5_isWho_4 : decode cX5_isWho 4 = .ok (.ifCond .ne 15, 3) := by decide +kernel
theorem dX5_isWho_7 : decode cX5_isWho 7 = .ok (.iload_n 0, 1) := by decide +kernel
theorem dX5_isWho_8 : decode cX5_isWho 8 = .ok (.bipush 40, 2) := by decide +kernel
theorem dX5_isWho_10 : decode cX5_isWho 10 = .ok (.if_icmp .eq 9, 3) := by decide +kernel
theorem dX5_isWho_13 : decode cX5_isWho 13 = .ok (.iload_n 0, 1) := by decide +kernel
theorem dX5_isWho_14 : decode cX5_isWho 14 = .ok (.bipush 41, 2) := by decide +kernel
theorem dX5_isWho_16 : decode cX5_isWho 16 = .ok (.if_icmp .ne 7, 3) := by decide +kernel
theorem dX5_isWho_19 : decode cX5_isWho 19 = .ok (.iconst 1, 1) := by decide +kernel
theorem dX5_isWho_20 : decode cX5_isWho 20 = .ok (.goto 4, 3) := by decide +kernel
theorem dX5_isWho_23 : decode cX5_isWho 23 = .ok (.iconst 0, 1) := by decide +kernel
theorem dX5_isWho_24 : decode cX5_isWho 24 = .ok (.ireturn, 1) := by decide +kernel
theorem dJ6_bitCount_0f7a4_0 : decode cJ6_bitCount_0f7a4 0 = .ok (.iload_n 0, 1) := by decide +kernel
theorem dJ6_bitCount_0f7a4_1 : decode cJ6_bitCount_0f7a4 1 = .ok (.iload_n 0, 1) := by decide +kernel
theorem dJ6_bitCount_0f7a4_2 : decode cJ6_bitCount_0f7a4 2 = .ok (.iconst 1, 1) := by decide +kernel
theorem dJ6_bitCount_0f7a4_3 : decode cJ6_bitCount_0f7a4 3 = .ok (.iushr, 1) := by decide +kernel
theorem dJ6_bitCount_0f7a4_4 : decode cJ6_bitCount_0f7a4 4 = .ok (.ldc_w 265, 3) := by decide +kernel
theorem dJ6_bitCount_0f7a4_7 : decode cJ6_bitCount_0f7a4 7 = .ok (.iand, 1) := by decide +kernel
theorem dJ6_bitCount_0f7a4_8 : decode cJ6_bitCount_0f7a4 8 = .ok (.isub, 1) := by decide +kernel
theorem dJ6_bitCount_0f7a4_9 : decode cJ6_bitCount_0f7a4 9 = .ok (.istore_n 0, 1) := by decide +kernel
theorem dJ6_bitCount_0f7a4_10 : decode cJ6_bitCount_0f7a4 10 = .ok (.iload_n 0, 1) := by decide +kernel
theorem dJ6_bitCount_0f7a4_11 : decode cJ6_bitCount_0f7a4 11 = .ok (.ldc_w 266, 3) := by decide +kernel
theorem dJ6_bitCount_0f7a4_14 : decode cJ6_bitCount_0f7a4 14 = .ok (.iand, 1) := by decide +kernel
theorem dJ6_bitCount_0f7a4_15 : decode cJ6_bitCount_0f7a4 15 = .ok (.iload_n 0, 1) := by decide +kernel
theorem dJ6_bitCount_0f7a4_16 : decode cJ6_bitCount_0f7a4 16 = .ok (.iconst 2, 1) := by decide +kernel
theorem dJ6_bitCount_0f7a4_17 : decode cJ6_bitCount_0f7a4 17 = .ok (.iushr, 1) := by decide +kernel
theorem dJ6_bitCount_0f7a4_18 : decode cJ6_bitCount_0f7a4 18 = .ok (.ldc_w 266, 3) := by decide +kernel
theorem dJ6_bitCount_0f7a4_21 : decode cJ6_bitCount_0f7a4 21 = .ok (.iand, 1) := by decide +kernel
theorem dJ6_bitCount_0f7a4_22 : decode cJ6_bitCount_0f7a4 22 = .ok (.iadd, 1) := by decide +kernel
theorem dJ6_bitCount_0f7a4_23 : decode cJ6_bitCount_0f7a4 23 = .ok (.istore_n 0, 1) := by decide +kernel
theorem dJ6_bitCount_0f7a4_24 : decode cJ6_bitCount_0f7a4 24 = .ok (.iload_n 0, 1) := by decide +kernel
theorem dJ6_bitCount_0f7a4_25 : decode cJ6_bitCount_0f7a4 25 = .ok (.iload_n 0, 1) := by decide +kernel
theorem dJ6_bitCount_0f7a4_26 : decode cJ6_bitCount_0f7a4 26 = .ok (.iconst 4, 1) := by decide +kernel
theorem dJ6_bitCount_0f7a4_27 : decode cJ6_bitCount_0f7a4 27 = .ok (.iushr, 1) := by decide +kernel
theorem dJ6_bitCount_0f7a4_28 : decode cJ6_bitCount_0f7a4 28 = .ok (.iadd, 1) := by decide +kernel
theorem dJ6_bitCount_0f7a4_29 : decode cJ6_bitCount_0f7a4 29 = .ok (.ldc_w 267, 3) := by decide +kernel
theorem dJ6_bitCount_0f7a4_32 : decode cJ6_bitCount_0f7a4 32 = .ok (.iand, 1) := by decide +kernel
theorem dJ6_bitCount_0f7a4_33 : decode cJ6_bitCount_0f7a4 33 = .ok (.istore_n 0, 1) := by decide +kernel
theorem dJ6_bitCount_0f7a4_34 : decode cJ6_bitCount_0f7a4 34 = .ok (.iload_n 0, 1) := by decide +kernel
theorem dJ6_bitCount_0f7a4_35 : decode cJ6_bitCount_0f7a4 35 = .ok (.iload_n 0, 1) := by decide +kernel
theorem dJ6_bitCount_0f7a4_36 : decode cJ6_bitCount_0f7a4 36 = .ok (.bipush 8, 2) := by decide +kernel
theorem dJ6_bitCount_0f7a4_38 : decode cJ6_bitCount_0f7a4 38 = .ok (.iushr, 1) := by decide +kernel
theorem dJ6_bitCount_0f7a4_39 : decode cJ6_bitCount_0f7a4 39 = .ok (.iadd, 1) := by decide +kernel
theorem dJ6_bitCount_0f7a4_40 : decode cJ6_bitCount_0f7a4 40 = .ok (.istore_n 0, 1) := by decide +kernel
theorem dJ6_bitCount_0f7a4_41 : decode cJ6_bitCount_0f7a4 41 = .ok (.iload_n 0, 1) := by decide +kernel
theorem dJ6_bitCount_0f7a4_42 : decode cJ6_bitCount_0f7a4 42 = .ok (.iload_n 0, 1) := by decide +kernel
theorem dJ6_bitCount_0f7a4_43 : decode cJ6_bitCount_0f7a4 43 = .ok (.bipush 16, 2) := by decide +kernel
theorem dJ6_bitCount_0f7a4_45 : decode cJ6_bitCount_0f7a4 45 = .ok (.iushr, 1) := by decide +kernel
theorem dJ6_bitCount_0f7a4_46 : decode cJ6_bitCount_0f7a4 46 = .ok (.iadd, 1) := by decide +kernel
theorem dJ6_bitCount_0f7a4_47 : decode cJ6_bitCount_0f7a4 47 = .ok (.istore_n 0, 1) := by decide +kernel
theorem dJ6_bitCount_0f7a4_48 : decode cJ6_bitCount_0f7a4 48 = .ok (.iload_n 0, 1) := by decide +kernel
theorem dJ6_bitCount_0f7a4_49 : decode cJ6_bitCount_0f7a4 49 = .ok (.bipush 63, 2) := by decide +kernel
theorem dJ6_bitCount_0f7a4_51 : decode cJ6_bitCount_0f7a4 51 = .ok (.iand, 1) := by decide +kernel
theorem dJ6_bitCount_0f7a4_52 : decode cJ6_bitCount_0f7a4 52 = .ok (.ireturn, 1) := by decide +kernel
theorem dJ9_max_7cf53_0 : decode cJ9_max_7cf53 0 = .ok (.iload_n 0, 1) := by decide +kernel
theorem dJ9_max_7cf53_1 : decode cJ9_max_7cf53 1 = .ok (.iload_n 1, 1) := by decide +kernel
theorem dJ9_max_7cf53_2 : decode cJ9_max_7cf53 2 = .ok (.if_icmp .lt 7, 3) := by decide +kernel
theorem dJ9_max_7cf53_5 : decode cJ9_max_7cf53 5 = .ok (.iload_n 0, 1) := by decide +kernel
theorem dJ9_max_7cf53_6 : decode cJ9_max_7cf53 6 = .ok (.goto 4, 3) := by decide +kernel
theorem dJ9_max_7cf53_9 : decode cJ9_max_7cf53 9 = .ok (.iload_n 1, 1) := by decide +kernel
theorem dJ9_max_7cf53_10 : decode cJ9_max_7cf53 10 = .ok (.ireturn, 1) := by decide +kernel
