theorem dX6_init_0 : decode cX6_init 0 = .ok (.aload_n 0, 1) := by decide +kernel
theorem dX6_init_1 : decode cX6_init 1 = .ok (.invokespecial 3, 3) := by decide +kernel
theorem dX6_init_4 : decode cX6_init 4 = .ok (.aload_n 0, 1) := by decide +kernel
theorem dX6_init_5 : decode cX6_init 5 = .ok (.bipush 75, 2) := by decide +kernel
theorem dX6_init_7 : decode cX6_init 7 = .ok (.newarray .int, 2) := by decide +kernel
theorem dX6_init_9 : decode cX6_init 9 = .ok (.putfield 9, 3) := by decide +kernel
theorem dX6_init_12 : decode cX6_init 12 = .ok (.aload_n 0, 1) := by decide +kernel
theorem dX6_init_13 : decode cX6_init 13 = .ok (.bipush 15, 2) := by decide +kernel
theorem dX6_init_15 : decode cX6_init 15 = .ok (.newarray .int, 2) := by decide +kernel
theorem dX6_init_17 : decode cX6_init 17 = .ok (.putfield 13, 3) := by decide +kernel
theorem dX6_init_20 : decode cX6_init 20 = .ok (.aload_n 0, 1) := by decide +kernel
theorem dX6_init_21 : decode cX6_init 21 = .ok (.sipush 26624, 3) := by decide +kernel
theorem dX6_init_24 : decode cX6_init 24 = .ok (.newarray .int, 2) := by decide +kernel
theorem dX6_init_26 : decode cX6_init 26 = .ok (.putfield 16, 3) := by decide +kernel
theorem dX6_init_29 : decode cX6_init 29 = .ok (.aload_n 0, 1) := by decide +kernel
theorem dX6_init_30 : decode cX6_init 30 = .ok (.sipush 26624, 3) := by decide +kernel
theorem dX6_init_33 : decode cX6_init 33 = .ok (.newarray .int, 2) := by decide +kernel
theorem dX6_init_35 : decode cX6_init 35 = .ok (.putfield 19, 3) := by decide +kernel
theorem dX6_init_38 : decode cX6_init 38 = .ok (.aload_n 0, 1) := by decide +kernel
theorem dX6_init_39 : decode cX6_init 39 = .ok (.bipush 36, 2) := by decide +kernel
theorem dX6_init_41 : decode cX6_init 41 = .ok (.newarray .int, 2) := by decide +kernel
theorem dX6_init_43 : decode cX6_init 43 = .ok (.putfield 22, 3) := by decide +kernel
theorem dX6_init_46 : decode cX6_init 46 = .ok (.aload_n 0, 1) := by decide +kernel
theorem dX6_init_47 : decode cX6_init 47 = .ok (.bipush 15, 2) := by decide +kernel
theorem dX6_init_49 : decode cX6_init 49 = .ok (.newarray .int, 2) := by decide +kernel
theorem dX6_init_51 : decode cX6_init 51 = .ok (.putfield 25, 3) := by decide +kernel
theorem dX6_init_54 : decode cX6_init 54 = .ok (.aload_n 0, 1) := by decide +kernel
theorem dX6_init_55 : decode cX6_init 55 = .ok (.bipush 15, 2) := by decide +kernel
theorem dX6_init_57 : decode cX6_init 57 = .ok (.newarray .int, 2) := by decide +kernel
theorem dX6_init_59 : decode cX6_init 59 = .ok (.putfield 28, 3) := by decide +kernel
theorem dX6_init_62 : decode cX6_init 62 = .ok (.return_, 1) := by decide +kernel
theorem dX6_in_0 : decode cX6_in 0 = .ok (.iload_n 0, 1) := by decide +kernel
theorem dX6_in_1 : decode cX6_in 1 = .ok (.iload_n 1, 1) := by decide +kernel
theorem dX6_in_2 : decode cX6_in 2 = .ok (.if_icmp .lt 12, 3) := by decide +kernel
theorem dX6_in_5 : decode cX6_in 5 = .ok (.iload_n 0, 1) := by decide +kernel
theorem dX6_in_6 : decode cX6_in 6 = .ok (.iload_n 2, 1) := by decide +kernel
theorem dX6_in_7 : decode cX6_in 7 = .ok (.if_icmp .gt 7, 3) := by decide +kernel
theorem dX6_in_10 : decode cX6_in 10 = .ok (.iconst 1, 1) := by decide +kernel
theorem dX6_in_11 : decode cX6_in 11 = .ok (.goto 4, 3) := by decide +kernel
theorem dX6_in_14 : decode cX6_in 14 = .ok (.iconst 0, 1) := by decide +kernel
theorem dX6_in_15 : decode cX6_in 15 = .ok (.ireturn, 1) := by decide +kernel
theorem dX6_signAt_0 : decode cX6_signAt 0 = .ok (.aload_n 0, 1) := by decide +kernel
theorem dX6_signAt_1 : decode cX6_signAt 1 = .ok (.getfield 9, 3) := by decide +kernel
theorem dX6_signAt_4 : decode cX6_signAt 4 = .ok (.iconst 5, 1) := by decide +kernel
theorem dX6_signAt_5 : decode cX6_signAt 5 = .ok (.iload_n 1, 1) := by decide +kernel
theorem dX6_signAt_6 : decode cX6_signAt 6 = .ok (.imul, 1) := by decide +kernel
theorem dX6_signAt_7 : decode cX6_signAt 7 = .ok (.iload_n 2, 1) := by decide +kernel
theorem dX6_signAt_8 : decode cX6_signAt 8 = .ok (.iadd, 1) := by decide +kernel
theorem dX6_signAt_9 : decode cX6_signAt 9 = .ok (.iaload, 1) := by decide +kernel
theorem dX6_signAt_10 : decode cX6_signAt 10 = .ok (.ireturn, 1) := by decide +kernel
theorem dX6_isWho_0 : decode cX6_isWho 0 = .ok (.iload_n 0, 1) := by decide +kernel
theorem dX6_isWho_1 : decode cX6_isWho 1 = .ok (.iconst 0, 1) := by decide +kernel
theorem dX6_isWho_2 : decode cX6_isWho 2 = .ok (.bipush 7, 2) := by decide +kernel
theorem dX6_isWho_4 : decode cX6_isWho 4 = .ok (.invokestatic 31, 3) := by decide +kernel
theorem dX6_isWho_7 : decode cX6_isWho 7 = .ok (.ifCond .ne 15, 3) := by decide +kernel
theorem dX6_isWho_10 : decode cX6_isWho 10 = .ok (.iload_n 0, 1) := by decide +kernel
theorem dX6_isWho_11 : decode cX6_isWho 11 = .ok (.bipush 40, 2) := by decide +kernel
theorem dX6_isWho_13 : decode cX6_isWho 13 = .ok (.if_icmp .eq 9, 3) := by decide +kernel
theorem dX6_isWho_16 : decode cX6_isWho 16 = .ok (.iload_n 0, 1) := by decide +kernel
theorem dX6_isWho_17 : decode cX6_isWho 17 = .ok (.bipush 41, 2) := by decide +kernel
theorem dX6_isWho_19 : decode cX6_isWho 19 = .ok (.if_icmp .ne 7, 3) := by decide +kernel
theorem dX6_isWho_22 : decode cX6_isWho 22 = .ok (.iconst 1, 1) := by decide +kernel
theorem dX6_isWho_23 : decode cX6_isWho 23 = .ok (.goto 4, 3) := by decide +kernel
theorem dX6_isWho_26 : decode cX6_isWho 26 = .ok (.iconst 0, 1) := by decide +kernel
theorem dX6_isWho_27 : decode cX6_isWho 27 = .ok (.ireturn, 1) := by decide +kernel
theorem dX6_canStand_0 : decode cX6_canStand 0 = .ok (.aload_n 0, 1) := by decide +kernel
theorem dX6_canStand_1 : decode cX6_canStand 1 = .ok (.getfield 13, 3) := by decide +kernel
theorem dX6_canStand_4 : decode cX6_canStand 4 = .ok (.aload_n 0, 1) := by decide +kernel
theorem dX6_canStand_5 : decode cX6_canStand 5 = .ok (.getfield 35, 3) := by decide +kernel
theorem dX6_canStand_8 : decode cX6_canStand 8 = .ok (.iaload, 1) := by decide +kernel
theorem dX6_canStand_9 : decode cX6_canStand 9 = .ok (.istore_n 2, 1) := by decide +kernel
theorem dX6_canStand_10 : decode cX6_canStand 10 = .ok (.iload_n 2, 1) := by decide +kernel
theorem dX6_canStand_11 : decode cX6_canStand 11 = .ok (.iconst 1, 1) := by decide +kernel
theorem dX6_canStand_12 : decode cX6_canStand 12 = .ok (.if_icmp .le 15, 3) := by decide +kernel
theorem dX6_canStand_15 : decode cX6_canStand 15 = .ok (.aload_n 0, 1) := by decide +kernel
theorem dX6_canStand_16 : decode cX6_canStand 16 = .ok (.aload_n 0, 1) := by decide +kernel
theorem dX6_canStand_17 : decode cX6_canStand 17 = .ok (.getfield 35, 3) := by decide +kernel
theorem dX6_canStand_20 : decode cX6_canStand 20 = .ok (.iconst 1, 1) := by decide +kernel
theorem dX6_canStand_21 : decode cX6_canStand 21 = .ok (.invokevirtual 39, 3) := by decide +kernel
theorem dX6_canStand_24 : decode cX6_canStand 24 = .ok (.goto 4, 3) := by decide +kernel
theorem dX6_canStand_27 : decode cX6_canStand 27 = .ok (.iconst 0, 1) := by decide +kernel
theorem dX6_canStand_28 : decode cX6_canStand 28 = .ok (.istore_n 3, 1) := by decide +kernel
theorem dX6_canStand_29 : decode cX6_canStand 29 = .ok (.iload_n 2, 1) := by decide +kernel
theorem dX6_canStand_30 : decode cX6_canStand 30 = .ok (.tableswitch 95 0 3 #[30, 35, 44, 70], 30) := by decide +kernel
theorem dX6_canStand_60 : decode cX6_canStand 60 = .ok (.iload_n 1, 1) := by decide +kernel
theorem dX6_canStand_61 : decode cX6_canStand 61 = .ok (.invokestatic 43, 3) := by decide +kernel
theorem dX6_canStand_64 : decode cX6_canStand 64 = .ok (.ireturn, 1) := by decide +kernel
theorem dX6_canStand_65 : decode cX6_canStand 65 = .ok (.iload_n 1, 1) := by decide +kernel
theorem dX6_canStand_66 : decode cX6_canStand 66 = .ok (.bipush 30, 2) := by decide +kernel
theorem dX6_canStand_68 : decode cX6_canStand 68 = .ok (.bipush 33, 2) := by decide +kernel
theorem dX6_canStand_70 : decode cX6_canStand 70 = .ok (.invokestatic 31, 3) := by decide +kernel
theorem dX6_canStand_73 : decode cX6_canStand 73 = .ok (.ireturn, 1) := by decide +kernel
theorem dX6_canStand_74 : decode cX6_canStand 74 = .ok (.iload_n 3, 1) := by decide +kernel
theorem dX6_canStand_75 : decode cX6_canStand 75 = .ok (.bipush 30, 2) := by decide +kernel
theorem dX6_canStand_77 : decode cX6_canStand 77 = .ok (.if_icmp .ne 14, 3) := by decide +kernel
theorem dX6_canStand_80 : decode cX6_canStand 80 = .ok (.iload_n 1, 1) := by decide +kernel
theorem dX6_canStand_81 : decode cX6_canStand 81 = .ok (.bipush 20, 2) := by decide +kernel
theorem dX6_canStand_83 : decode cX6_canStand 83 = .ok (.bipush 27, 2) := by decide +kernel
theorem dX6_canStand_85 : decode cX6_canStand 85 = .ok (.invokestatic 31, 3) := by decide +kernel
theorem dX6_canStand_88 : decode cX6_canStand 88 = .ok (.goto 11, 3) := by decide +kernel
theorem dX6_canStand_91 : decode cX6_canStand 91 = .ok (.iload_n 1, 1) := by decide +kernel
theorem dX6_canStand_92 : decode cX6_canStand 92 = .ok (.bipush 10, 2) := by decide +kernel
theorem dX6_canStand_94 : decode cX6_canStand 94 = .ok (.bipush 19, 2) := by decide +kernel
theorem dX6_canStand_96 : decode cX6_canStand 96 = .ok (.invokestatic 31, 3) := by decide +kernel
theorem dX6_canStand_99 : decode cX6_canStand 99 = .ok (.ireturn, 1) := by decide +kernel
theorem dX6_canStand_100 : decode cX6_canStand 100 = .ok (.iload_n 3, 1) := by decide +kernel
theorem dX6_canStand_101 : decode cX6_canStand 101 = .ok (.bipush 33, 2) := by decide +kernel
theorem dX6_canStand_103 : decode cX6_canStand 103 = .ok (.if_icmp .ne 10, 3) := by decide +kernel
theorem dX6_canStand_106 : decode cX6_canStand 106 = .ok (.iload_n 1, 1) := by decide +kernel
theorem dX6_canStand_107 : decode cX6_canStand 107 = .ok (.invokestatic 43, 3) := by decide +kernel
theorem dX6_canStand_110 : decode cX6_canStand 110 = .ok (.goto 14, 3) := by decide +kernel
theorem dX6_canStand_113 : decode cX6_canStand 113 = .ok (.iload_n 1, 1) := by decide +kernel
theorem dX6_canStand_114 : decode cX6_canStand 114 = .ok (.bipush 50, 2) := by decide +kernel
theorem dX6_canStand_116 : decode cX6_canStand 116 = .ok (.if_icmp .ne 7, 3) := by decide +kernel
theorem dX6_canStand_119 : decode cX6_canStand 119 = .ok (.iconst 1, 1) := by decide +kernel
theorem dX6_canStand_120 : decode cX6_canStand 120 = .ok (.goto 4, 3) := by decide +kernel
theorem dX6_canStand_123 : decode cX6_canStand 123 = .ok (.iconst 0, 1) := by decide +kernel
theorem dX6_canStand_124 : decode cX6_canStand 124 = .ok (.ireturn, 1) := by decide +kernel
theorem dX6_canStand_125 : decode cX6_canStand 125 = .ok (.iload_n 1, 1) := by decide +kernel
theorem dX6_canStand_126 : decode cX6_canStand 126 = .ok (.bipush 50, 2) := by decide +kernel
theorem dX6_canStand_128 : decode cX6_canStand 128 = .ok (.if_icmp .ne 7, 3) := by decide +kernel
theorem dX6_canStand_131 : decode cX6_canStand 131 = .ok (.iconst 1, 1) := by decide +kernel
theorem dX6_canStand_132 : decode cX6_canStand 132 = .ok (.goto 4, 3) := by decide +kernel
theorem dX6_canStand_135 : decode cX6_canStand 135 = .ok (.iconst 0, 1) := by decide +kernel
theorem dX6_canStand_136 : decode cX6_canStand 136 = .ok (.ireturn, 1) := by decide +kernel
theorem dX6_sign_0 : decode cX6_sign 0 = .ok (.aload_n 0, 1) := by decide +kernel
theorem dX6_sign_1 : decode cX6_sign 1 = .ok (.getfield 35, 3) := by decide +kernel
theorem dX6_sign_4 : decode cX6_sign 4 = .ok (.bipush 14, 2) := by decide +kernel
theorem dX6_sign_6 : decode cX6_sign 6 = .ok (.if_icmp .eq 11, 3) := by decide +kernel
theorem dX6_sign_9 : decode cX6_sign 9 = .ok (.aload_n 0, 1) := by decide +kernel
theorem dX6_sign_10 : decode cX6_sign 10 = .ok (.iload_n 1, 1) := by decide +kernel
theorem dX6_sign_11 : decode cX6_sign 11 = .ok (.invokevirtual 47, 3) := by decide +kernel
theorem dX6_sign_14 : decode cX6_sign 14 = .ok (.ifCond .ne 5, 3) := by decide +kernel
theorem dX6_sign_17 : decode cX6_sign 17 = .ok (.iconst 0, 1) := by decide +kernel
theorem dX6_sign_18 : decode cX6_sign 18 = .ok (.ireturn, 1) := by decide +kernel
theorem dX6_sign_19 : decode cX6_sign 19 = .ok (.aload_n 0, 1) := by decide +kernel
theorem dX6_sign_20 : decode cX6_sign 20 = .ok (.getfield 9, 3) := by decide +kernel
theorem dX6_sign_23 : decode cX6_sign 23 = .ok (.iconst 5, 1) := by decide +kernel
theorem dX6_sign_24 : decode cX6_sign 24 = .ok (.aload_n 0, 1) := by decide +kernel
theorem dX6_sign_25 : decode cX6_sign 25 = .ok (.getfield 35, 3) := by decide +kernel
theorem dX6_sign_28 : decode cX6_sign 28 = .ok (.imul, 1) := by decide +kernel
theorem dX6_sign_29 : decode cX6_sign 29 = .ok (.aload_n 0, 1) := by decide +kernel
theorem dX6_sign_30 : decode cX6_sign 30 = .ok (.getfield 13, 3) := by decide +kernel
theorem dX6_sign_33 : decode cX6_sign 33 = .ok (.aload_n 0, 1) := by decide +kernel
theorem dX6_sign_34 : decode cX6_sign 34 = .ok (.getfield 35, 3) := by decide +kernel
theorem dX6_sign_37 : decode cX6_sign 37 = .ok (.iaload, 1) := by decide +kernel
theorem dX6_sign_38 : decode cX6_sign 38 = .ok (.iadd, 1) := by decide +kernel
theorem dX6_sign_39 : decode cX6_sign 39 = .ok (.iload_n 1, 1) := by decide +kernel
theorem dX6_sign_40 : decode cX6_sign 40 = .ok (.iastore, 1) := by decide +kernel
theorem dX6_sign_41 : decode cX6_sign 41 = .ok (.aload_n 0, 1) := by decide +kernel
theorem dX6_sign_42 : decode cX6_sign 42 = .ok (.getfield 13, 3) := by decide +kernel
theorem dX6_sign_45 : decode cX6_sign 45 = .ok (.aload_n 0, 1) := by decide +kernel
theorem dX6_sign_46 : decode cX6_sign 46 = .ok (.getfield 35, 3) := by decide +kernel
theorem dX6_sign_49 : decode cX6_sign 49 = .ok (.dup2, 1) := by decide +kernel
theorem dX6_sign_50 : decode cX6_sign 50 = .ok (.iaload, 1) := by decide +kernel
theorem dX6_sign_51 : decode cX6_sign 51 = .ok (.iconst 1, 1) := by decide +kernel
theorem dX6_sign_52 : decode cX6_sign 52 = .ok (.iadd, 1) := by decide +kernel
theorem dX6_sign_53 : decode cX6_sign 53 = .ok (.iastore, 1) := by decide +kernel
theorem dX6_sign_54 : decode cX6_sign 54 = .ok (.iload_n 1, 1) := by decide +kernel
theorem dX6_sign_55 : decode cX6_sign 55 = .ok (.bipush 50, 2) := by decide +kernel
theorem dX6_sign_57 : decode cX6_sign 57 = .ok (.if_icmp .eq 5, 3) := by decide +kernel
theorem dX6_sign_60 : decode cX6_sign 60 = .ok (.iconst 1, 1) := by decide +kernel
theorem dX6_sign_61 : decode cX6_sign 61 = .ok (.ireturn, 1) := by decide +kernel
theorem dX6_sign_62 : decode cX6_sign 62 = .ok (.aload_n 0, 1) := by decide +kernel
theorem dX6_sign_63 : decode cX6_sign 63 = .ok (.dup, 1) := by decide +kernel
theorem dX6_sign_64 : decode cX6_sign 64 = .ok (.getfield 35, 3) := by decide +kernel
theorem dX6_sign_67 : decode cX6_sign 67 = .ok (.iconst 1, 1) := by decide +kernel
theorem dX6_sign_68 : decode cX6_sign 68 = .ok (.iadd, 1) := by decide +kernel
theorem dX6_sign_69 : decode cX6_sign 69 = .ok (.putfield 35, 3) := by decide +kernel
theorem dX6_sign_72 : decode cX6_sign 72 = .ok (.aload_n 0, 1) := by decide +kernel
theorem dX6_sign_73 : decode cX6_sign 73 = .ok (.aload_n 0, 1) := by decide +kernel
theorem dX6_sign_74 : decode cX6_sign 74 = .ok (.getfield 35, 3) := by decide +kernel
theorem dX6_sign_77 : decode cX6_sign 77 = .ok (.invokevirtual 50, 3) := by decide +kernel
theorem dX6_sign_80 : decode cX6_sign 80 = .ok (.aload_n 0, 1) := by decide +kernel
theorem dX6_sign_81 : decode cX6_sign 81 = .ok (.getfield 54, 3) := by decide +kernel
theorem dX6_sign_84 : decode cX6_sign 84 = .ok (.iconst 1, 1) := by decide +kernel
theorem dX6_sign_85 : decode cX6_sign 85 = .ok (.bipush 64, 2) := by decide +kernel
theorem dX6_sign_87 : decode cX6_sign 87 = .ok (.invokestatic 31, 3) := by decide +kernel
theorem dX6_sign_90 : decode cX6_sign 90 = .ok (.ifCond .eq 24, 3) := by decide +kernel
theorem dX6_sign_93 : decode cX6_sign 93 = .ok (.aload_n 0, 1) := by decide +kernel
theorem dX6_sign_94 : decode cX6_sign 94 = .ok (.getfield 35, 3) := by decide +kernel
theorem dX6_sign_97 : decode cX6_sign 97 = .ok (.bipush 14, 2) := by decide +kernel
theorem dX6_sign_99 : decode cX6_sign 99 = .ok (.if_icmp .ge 13, 3) := by decide +kernel
theorem dX6_sign_102 : decode cX6_sign 102 = .ok (.aload_n 0, 1) := by decide +kernel
theorem dX6_sign_103 : decode cX6_sign 103 = .ok (.getfield 13, 3) := by decide +kernel
theorem dX6_sign_106 : decode cX6_sign 106 = .ok (.aload_n 0, 1) := by decide +kernel
theorem dX6_sign_107 : decode cX6_sign 107 = .ok (.getfield 35, 3) := by decide +kernel
theorem dX6_sign_110 : decode cX6_sign 110 = .ok (.iconst 0, 1) := by decide +kernel
theorem dX6_sign_111 : decode cX6_sign 111 = .ok (.iastore, 1) := by decide +kernel
theorem dX6_sign_112 : decode cX6_sign 112 = .ok (.iconst 1, 1) := by decide +kernel
theorem dX6_sign_113 : decode cX6_sign 113 = .ok (.ireturn, 1) := by decide +kernel
theorem dX6_sign_114 : decode cX6_sign 114 = .ok (.aload_n 0, 1) := by decide +kernel
theorem dX6_sign_115 : decode cX6_sign 115 = .ok (.dup, 1) := by decide +kernel
theorem dX6_sign_116 : decode cX6_sign 116 = .ok (.getfield 35, 3) := by decide +kernel
theorem dX6_sign_119 : decode cX6_sign 119 = .ok (.iconst 1, 1) := by decide +kernel
theorem dX6_sign_120 : decode cX6_sign 120 = .ok (.isub, 1) := by decide +kernel
theorem dX6_sign_121 : decode cX6_sign 121 = .ok (.putfield 35, 3) := by decide +kernel
theorem dX6_sign_124 : decode cX6_sign 124 = .ok (.aload_n 0, 1) := by decide +kernel
theorem dX6_sign_125 : decode cX6_sign 125 = .ok (.getfield 13, 3) := by decide +kernel
theorem dX6_sign_128 : decode cX6_sign 128 = .ok (.aload_n 0, 1) := by decide +kernel
theorem dX6_sign_129 : decode cX6_sign 129 = .ok (.getfield 35, 3) := by decide +kernel
theorem dX6_sign_132 : decode cX6_sign 132 = .ok (.iconst 0, 1) := by decide +kernel
theorem dX6_sign_133 : decode cX6_sign 133 = .ok (.iastore, 1) := by decide +kernel
theorem dX6_sign_134 : decode cX6_sign 134 = .ok (.iconst 0, 1) := by decide +kernel
theorem dX6_sign_135 : decode cX6_sign 135 = .ok (.ireturn, 1) := by decide +kernel
theorem dX6_back_0 : decode cX6_back 0 = .ok (.aload_n 0, 1) := by decide +kernel
theorem dX6_back_1 : decode cX6_back 1 = .ok (.getfield 35, 3) := by decide +kernel
theorem dX6_back_4 : decode cX6_back 4 = .ok (.bipush 14, 2) := by decide +kernel
theorem dX6_back_6 : decode cX6_back 6 = .ok (.if_icmp .ge 27, 3) := by decide +kernel
theorem dX6_back_9 : decode cX6_back 9 = .ok (.aload_n 0, 1) := by decide +kernel
theorem dX6_back_10 : decode cX6_back 10 = .ok (.getfield 13, 3) := by decide +kernel
theorem dX6_back_13 : decode cX6_back 13 = .ok (.aload_n 0, 1) := by decide +kernel
theorem dX6_back_14 : decode cX6_back 14 = .ok (.getfield 35, 3) := by decide +kernel
theorem dX6_back_17 : decode cX6_back 17 = .ok (.iaload, 1) := by decide +kernel
theorem dX6_back_18 : decode cX6_back 18 = .ok (.ifCond .le 15, 3) := by decide +kernel
theorem dX6_back_21 : decode cX6_back 21 = .ok (.aload_n 0, 1) := by decide +kernel
theorem dX6_back_22 : decode cX6_back 22 = .ok (.getfield 13, 3) := by decide +kernel
theorem dX6_back_25 : decode cX6_back 25 = .ok (.aload_n 0, 1) := by decide +kernel
theorem dX6_back_26 : decode cX6_back 26 = .ok (.getfield 35, 3) := by decide +kernel
theorem dX6_back_29 : decode cX6_back 29 = .ok (.iconst 0, 1) := by decide +kernel
theorem dX6_back_30 : decode cX6_back 30 = .ok (.iastore, 1) := by decide +kernel
theorem dX6_back_31 : decode cX6_back 31 = .ok (.iconst 1, 1) := by decide +kernel
theorem dX6_back_32 : decode cX6_back 32 = .ok (.ireturn, 1) := by decide +kernel
theorem dX6_back_33 : decode cX6_back 33 = .ok (.aload_n 0, 1) := by decide +kernel
theorem dX6_back_34 : decode cX6_back 34 = .ok (.getfield 35, 3) := by decide +kernel
theorem dX6_back_37 : decode cX6_back 37 = .ok (.ifCond .ne 5, 3) := by decide +kernel
theorem dX6_back_40 : decode cX6_back 40 = .ok (.iconst 0, 1) := by decide +kernel
theorem dX6_back_41 : decode cX6_back 41 = .ok (.ireturn, 1) := by decide +kernel
theorem dX6_back_42 : decode cX6_back 42 = .ok (.aload_n 0, 1) := by decide +kernel
theorem dX6_back_43 : decode cX6_back 43 = .ok (.dup, 1) := by decide +kernel
theorem dX6_back_44 : decode cX6_back 44 = .ok (.getfield 35, 3) := by decide +kernel
theorem dX6_back_47 : decode cX6_back 47 = .ok (.iconst 1, 1) := by decide +kernel
theorem dX6_back_48 : decode cX6_back 48 = .ok (.isub, 1) := by decide +kernel
theorem dX6_back_49 : decode cX6_back 49 = .ok (.putfield 35, 3) := by decide +kernel
theorem dX6_back_52 : decode cX6_back 52 = .ok (.aload_n 0, 1) := by decide +kernel
theorem dX6_back_53 : decode cX6_back 53 = .ok (.getfield 13, 3) := by decide +kernel
theorem dX6_back_56 : decode cX6_back 56 = .ok (.aload_n 0, 1) := by decide +kernel
theorem dX6_back_57 : decode cX6_back 57 = .ok (.getfield 35, 3) := by decide +kernel
theorem dX6_back_60 : decode cX6_back 60 = .ok (.iconst 0, 1) := by decide +kernel
theorem dX6_back_61 : decode cX6_back 61 = .ok (.iastore, 1) := by decide +kernel
theorem dX6_back_62 : decode cX6_back 62 = .ok (.iconst 1, 1) := by decide +kernel
theorem dX6_back_63 : decode cX6_back 63 = .ok (.ireturn, 1) := by decide +kernel
theorem dX6_told_0 : decode cX6_told 0 = .ok (.iload_n 1, 1) := by decide +kernel
theorem dX6_told_1 : decode cX6_told 1 = .ok (.iconst 0, 1) := by decide +kernel
theorem dX6_told_2 : decode cX6_told 2 = .ok (.aload_n 0, 1) := by decide +kernel
theorem dX6_told_3 : decode cX6_told 3 = .ok (.getfield 35, 3) := by decide +kernel
theorem dX6_told_6 : decode cX6_told 6 = .ok (.bipush 14, 2) := by decide +kernel
theorem dX6_told_8 : decode cX6_told 8 = .ok (.if_icmp .ge 10, 3) := by decide +kernel
theorem dX6_told_11 : decode cX6_told 11 = .ok (.aload_n 0, 1) := by decide +kernel
theorem dX6_told_12 : decode cX6_told 12 = .ok (.getfield 35, 3) := by decide +kernel
theorem dX6_told_15 : decode cX6_told 15 = .ok (.goto 5, 3) := by decide +kernel
theorem dX6_told_18 : decode cX6_told 18 = .ok (.bipush 13, 2) := by decide +kernel
theorem dX6_told_20 : decode cX6_told 20 = .ok (.invokestatic 31, 3) := by decide +kernel
theorem dX6_told_23 : decode cX6_told 23 = .ok (.ifCond .eq 28, 3) := by decide +kernel
theorem dX6_told_26 : decode cX6_told 26 = .ok (.iload_n 2, 1) := by decide +kernel
theorem dX6_told_27 : decode cX6_told 27 = .ok (.iconst 0, 1) := by decide +kernel
theorem dX6_told_28 : decode cX6_told 28 = .ok (.aload_n 0, 1) := by decide +kernel
theorem dX6_told_29 : decode cX6_told 29 = .ok (.getfield 13, 3) := by decide +kernel
theorem dX6_told_32 : decode cX6_told 32 = .ok (.iload_n 1, 1) := by decide +kernel
theorem dX6_told_33 : decode cX6_told 33 = .ok (.iaload, 1) := by decide +kernel
theorem dX6_told_34 : decode cX6_told 34 = .ok (.iconst 1, 1) := by decide +kernel
theorem dX6_told_35 : decode cX6_told 35 = .ok (.isub, 1) := by decide +kernel
theorem dX6_told_36 : decode cX6_told 36 = .ok (.invokestatic 31, 3) := by decide +kernel
theorem dX6_told_39 : decode cX6_told 39 = .ok (.ifCond .eq 12, 3) := by decide +kernel
theorem dX6_told_42 : decode cX6_told 42 = .ok (.aload_n 0, 1) := by decide +kernel
theorem dX6_told_43 : decode cX6_told 43 = .ok (.iload_n 1, 1) := by decide +kernel
theorem dX6_told_44 : decode cX6_told 44 = .ok (.iload_n 2, 1) := by decide +kernel
theorem dX6_told_45 : decode cX6_told 45 = .ok (.invokevirtual 39, 3) := by decide +kernel
theorem dX6_told_48 : decode cX6_told 48 = .ok (.goto 4, 3) := by decide +kernel
theorem dX6_told_51 : decode cX6_told 51 = .ok (.iconst (-1), 1) := by decide +kernel
theorem dX6_told_52 : decode cX6_told 52 = .ok (.ireturn, 1) := by decide +kernel
theorem dX6_names_0 : decode cX6_names 0 = .ok (.aload_n 0, 1) := by decide +kernel
theorem dX6_names_1 : decode cX6_names 1 = .ok (.iload_n 1, 1) := by decide +kernel
theorem dX6_names_2 : decode cX6_names 2 = .ok (.iconst 0, 1) := by decide +kernel
theorem dX6_names_3 : decode cX6_names 3 = .ok (.invokevirtual 39, 3) := by decide +kernel
theorem dX6_names_6 : decode cX6_names 6 = .ok (.iload_n 2, 1) := by decide +kernel
theorem dX6_names_7 : decode cX6_names 7 = .ok (.if_icmp .eq 24, 3) := by decide +kernel
theorem dX6_names_10 : decode cX6_names 10 = .ok (.aload_n 0, 1) := by decide +kernel
theorem dX6_names_11 : decode cX6_names 11 = .ok (.iload_n 1, 1) := by decide +kernel
theorem dX6_names_12 : decode cX6_names 12 = .ok (.iconst 1, 1) := by decide +kernel
theorem dX6_names_13 : decode cX6_names 13 = .ok (.invokevirtual 39, 3) := by decide +kernel
theorem dX6_names_16 : decode cX6_names 16 = .ok (.bipush 33, 2) := by decide +kernel
theorem dX6_names_18 : decode cX6_names 18 = .ok (.if_icmp .ne 17, 3) := by decide +kernel
theorem dX6_names_21 : decode cX6_names 21 = .ok (.aload_n 0, 1) := by decide +kernel
theorem dX6_names_22 : decode cX6_names 22 = .ok (.iload_n 1, 1) := by decide +kernel
theorem dX6_names_23 : decode cX6_names 23 = .ok (.iconst 3, 1) := by decide +kernel
theorem dX6_names_24 : decode cX6_names 24 = .ok (.invokevirtual 39, 3) := by decide +kernel
theorem dX6_names_27 : decode cX6_names 27 = .ok (.iload_n 2, 1) := by decide +kernel
theorem dX6_names_28 : decode cX6_names 28 = .ok (.if_icmp .ne 7, 3) := by decide +kernel
theorem dX6_names_31 : decode cX6_names 31 = .ok (.iconst 1, 1) := by decide +kernel
theorem dX6_names_32 : decode cX6_names 32 = .ok (.goto 4, 3) := by decide +kernel
theorem dX6_names_35 : decode cX6_names 35 = .ok (.iconst 0, 1) := by decide +kernel
theorem dX6_names_36 : decode cX6_names 36 = .ok (.ireturn, 1) := by decide +kernel
theorem dX6_mayMean_0 : decode cX6_mayMean 0 = .ok (.iload_n 1, 1) := by decide +kernel
theorem dX6_mayMean_1 : decode cX6_mayMean 1 = .ok (.bipush 8, 2) := by decide +kernel
theorem dX6_mayMean_3 : decode cX6_mayMean 3 = .ok (.if_icmp .ge 14, 3) := by decide +kernel
theorem dX6_mayMean_6 : decode cX6_mayMean 6 = .ok (.iload_n 1, 1) := by decide +kernel
theorem dX6_mayMean_7 : decode cX6_mayMean 7 = .ok (.iload_n 3, 1) := by decide +kernel
theorem dX6_mayMean_8 : decode cX6_mayMean 8 = .ok (.if_icmp .ne 7, 3) := by decide +kernel
theorem dX6_mayMean_11 : decode cX6_mayMean 11 = .ok (.iconst 1, 1) := by decide +kernel
theorem dX6_mayMean_12 : decode cX6_mayMean 12 = .ok (.goto 4, 3) := by decide +kernel
theorem dX6_mayMean_15 : decode cX6_mayMean 15 = .ok (.iconst 0, 1) := by decide +kernel
theorem dX6_mayMean_16 : decode cX6_mayMean 16 = .ok (.ireturn, 1) := by decide +kernel
theorem dX6_mayMean_17 : decode cX6_mayMean 17 = .ok (.iload_n 3, 1) := by decide +kernel
theorem dX6_mayMean_18 : decode cX6_mayMean 18 = .ok (.iconst 2, 1) := by decide +kernel
theorem dX6_mayMean_19 : decode cX6_mayMean 19 = .ok (.irem, 1) := by decide +kernel
theorem dX6_mayMean_20 : decode cX6_mayMean 20 = .ok (.iload_n 1, 1) := by decide +kernel
theorem dX6_mayMean_21 : decode cX6_mayMean 21 = .ok (.bipush 40, 2) := by decide +kernel
theorem dX6_mayMean_23 : decode cX6_mayMean 23 = .ok (.isub, 1) := by decide +kernel
theorem dX6_mayMean_24 : decode cX6_mayMean 24 = .ok (.if_icmp .eq 5, 3) := by decide +kernel
theorem dX6_mayMean_27 : decode cX6_mayMean 27 = .ok (.iconst 0, 1) := by decide +kernel
theorem dX6_mayMean_28 : decode cX6_mayMean 28 = .ok (.ireturn, 1) := by decide +kernel
theorem dX6_mayMean_29 : decode cX6_mayMean 29 = .ok (.iload_n 2, 1) := by decide +kernel
theorem dX6_mayMean_30 : decode cX6_mayMean 30 = .ok (.iconst 1, 1) := by decide +kernel
theorem dX6_mayMean_31 : decode cX6_mayMean 31 = .ok (.isub, 1) := by decide +kernel
theorem dX6_mayMean_32 : decode cX6_mayMean 32 = .ok (.istore 4, 2) := by decide +kernel
theorem dX6_mayMean_34 : decode cX6_mayMean 34 = .ok (.iload 4, 2) := by decide +kernel
theorem dX6_mayMean_36 : decode cX6_mayMean 36 = .ok (.ifCond .lt 67, 3) := by decide +kernel
theorem dX6_mayMean_39 : decode cX6_mayMean 39 = .ok (.iconst 0, 1) := by decide +kernel
theorem dX6_mayMean_40 : decode cX6_mayMean 40 = .ok (.istore 5, 2) := by decide +kernel
theorem dX6_mayMean_42 : decode cX6_mayMean 42 = .ok (.iload_n 1, 1) := by decide +kernel
theorem dX6_mayMean_43 : decode cX6_mayMean 43 = .ok (.bipush 40, 2) := by decide +kernel
theorem dX6_mayMean_45 : decode cX6_mayMean 45 = .ok (.isub, 1) := by decide +kernel
theorem dX6_mayMean_46 : decode cX6_mayMean 46 = .ok (.istore 6, 2) := by decide +kernel
theorem dX6_mayMean_48 : decode cX6_mayMean 48 = .ok (.iload 6, 2) := by decide +kernel
theorem dX6_mayMean_50 : decode cX6_mayMean 50 = .ok (.bipush 8, 2) := by decide +kernel
theorem dX6_mayMean_52 : decode cX6_mayMean 52 = .ok (.if_icmp .ge 32, 3) := by decide +kernel
theorem dX6_mayMean_55 : decode cX6_mayMean 55 = .ok (.iload 5, 2) := by decide +kernel
theorem dX6_mayMean_57 : decode cX6_mayMean 57 = .ok (.ifCond .ne 14, 3) := by decide +kernel
theorem dX6_mayMean_60 : decode cX6_mayMean 60 = .ok (.aload_n 0, 1) := by decide +kernel
theorem dX6_mayMean_61 : decode cX6_mayMean 61 = .ok (.iload 4, 2) := by decide +kernel
theorem dX6_mayMean_63 : decode cX6_mayMean 63 = .ok (.iload 6, 2) := by decide +kernel
theorem dX6_mayMean_65 : decode cX6_mayMean 65 = .ok (.invokevirtual 57, 3) := by decide +kernel
theorem dX6_mayMean_68 : decode cX6_mayMean 68 = .ok (.ifCond .eq 7, 3) := by decide +kernel
theorem dX6_mayMean_71 : decode cX6_mayMean 71 = .ok (.iconst 1, 1) := by decide +kernel
theorem dX6_mayMean_72 : decode cX6_mayMean 72 = .ok (.goto 4, 3) := by decide +kernel
theorem dX6_mayMean_75 : decode cX6_mayMean 75 = .ok (.iconst 0, 1) := by decide +kernel
theorem dX6_mayMean_76 : decode cX6_mayMean 76 = .ok (.istore 5, 2) := by decide +kernel
theorem dX6_mayMean_78 : decode cX6_mayMean 78 = .ok (.iinc 6 2, 3) := by decide +kernel
theorem dX6_mayMean_81 : decode cX6_mayMean 81 = .ok (.goto (-33), 3) := by decide +kernel
theorem dX6_mayMean_84 : decode cX6_mayMean 84 = .ok (.iload 5, 2) := by decide +kernel
theorem dX6_mayMean_86 : decode cX6_mayMean 86 = .ok (.ifCond .eq 11, 3) := by decide +kernel
theorem dX6_mayMean_89 : decode cX6_mayMean 89 = .ok (.aload_n 0, 1) := by decide +kernel
theorem dX6_mayMean_90 : decode cX6_mayMean 90 = .ok (.iload 4, 2) := by decide +kernel
theorem dX6_mayMean_92 : decode cX6_mayMean 92 = .ok (.iload_n 3, 1) := by decide +kernel
theorem dX6_mayMean_93 : decode cX6_mayMean 93 = .ok (.invokevirtual 57, 3) := by decide +kernel
theorem dX6_mayMean_96 : decode cX6_mayMean 96 = .ok (.ireturn, 1) := by decide +kernel
theorem dX6_mayMean_97 : decode cX6_mayMean 97 = .ok (.iinc 4 (-1), 3) := by decide +kernel
theorem dX6_mayMean_100 : decode cX6_mayMean 100 = .ok (.goto (-66), 3) := by decide +kernel
theorem dX6_mayMean_103 : decode cX6_mayMean 103 = .ok (.iconst 0, 1) := by decide +kernel
theorem dX6_mayMean_104 : decode cX6_mayMean 104 = .ok (.ireturn, 1) := by decide +kernel
theorem dX6_reads_0 : decode cX6_reads 0 = .ok (.iconst 0, 1) := by decide +kernel
theorem dX6_reads_1 : decode cX6_reads 1 = .ok (.istore_n 2, 1) := by decide +kernel
theorem dX6_reads_2 : decode cX6_reads 2 = .ok (.iload_n 2, 1) := by decide +kernel
theorem dX6_reads_3 : decode cX6_reads 3 = .ok (.bipush 104, 2) := by decide +kernel
theorem dX6_reads_5 : decode cX6_reads 5 = .ok (.if_icmp .ge 62, 3) := by decide +kernel
theorem dX6_reads_8 : decode cX6_reads 8 = .ok (.aload_n 0, 1) := by decide +kernel
theorem dX6_reads_9 : decode cX6_reads 9 = .ok (.getfield 16, 3) := by decide +kernel
theorem dX6_reads_12 : decode cX6_reads 12 = .ok (.iload_n 2, 1) := by decide +kernel
theorem dX6_reads_13 : decode cX6_reads 13 = .ok (.iload_n 2, 1) := by decide +kernel
theorem dX6_reads_14 : decode cX6_reads 14 = .ok (.bipush 8, 2) := by decide +kernel
theorem dX6_reads_16 : decode cX6_reads 16 = .ok (.if_icmp .lt 39, 3) := by decide +kernel
theorem dX6_reads_19 : decode cX6_reads 19 = .ok (.iload_n 2, 1) := by decide +kernel
theorem dX6_reads_20 : decode cX6_reads 20 = .ok (.bipush 16, 2) := by decide +kernel
theorem dX6_reads_22 : decode cX6_reads 22 = .ok (.if_icmp .lt 9, 3) := by decide +kernel
theorem dX6_reads_25 : decode cX6_reads 25 = .ok (.iload_n 2, 1) := by decide +kernel
theorem dX6_reads_26 : decode cX6_reads 26 = .ok (.bipush 26, 2) := by decide +kernel
theorem dX6_reads_28 : decode cX6_reads 28 = .ok (.if_icmp .lt 27, 3) := by decide +kernel
theorem dX6_reads_31 : decode cX6_reads 31 = .ok (.iload_n 2, 1) := by decide +kernel
theorem dX6_reads_32 : decode cX6_reads 32 = .ok (.bipush 46, 2) := by decide +kernel
theorem dX6_reads_34 : decode cX6_reads 34 = .ok (.if_icmp .lt 9, 3) := by decide +kernel
theorem dX6_reads_37 : decode cX6_reads 37 = .ok (.iload_n 2, 1) := by decide +kernel
theorem dX6_reads_38 : decode cX6_reads 38 = .ok (.bipush 56, 2) := by decide +kernel
theorem dX6_reads_40 : decode cX6_reads 40 = .ok (.if_icmp .lt 15, 3) := by decide +kernel
theorem dX6_reads_43 : decode cX6_reads 43 = .ok (.iload_n 2, 1) := by decide +kernel
theorem dX6_reads_44 : decode cX6_reads 44 = .ok (.bipush 66, 2) := by decide +kernel
theorem dX6_reads_46 : decode cX6_reads 46 = .ok (.if_icmp .lt 13, 3) := by decide +kernel
theorem dX6_reads_49 : decode cX6_reads 49 = .ok (.iload_n 2, 1) := by decide +kernel
theorem dX6_reads_50 : decode cX6_reads 50 = .ok (.bipush 94, 2) := by decide +kernel
theorem dX6_reads_52 : decode cX6_reads 52 = .ok (.if_icmp .ge 7, 3) := by decide +kernel
theorem dX6_reads_55 : decode cX6_reads 55 = .ok (.iconst (-1), 1) := by decide +kernel
theorem dX6_reads_56 : decode cX6_reads 56 = .ok (.goto 4, 3) := by decide +kernel
theorem dX6_reads_59 : decode cX6_reads 59 = .ok (.iconst 0, 1) := by decide +kernel
theorem dX6_reads_60 : decode cX6_reads 60 = .ok (.iastore, 1) := by decide +kernel
theorem dX6_reads_61 : decode cX6_reads 61 = .ok (.iinc 2 1, 3) := by decide +kernel
theorem dX6_reads_64 : decode cX6_reads 64 = .ok (.goto (-62), 3) := by decide +kernel
theorem dX6_reads_67 : decode cX6_reads 67 = .ok (.aload_n 0, 1) := by decide +kernel
theorem dX6_reads_68 : decode cX6_reads 68 = .ok (.iconst 1, 1) := by decide +kernel
theorem dX6_reads_69 : decode cX6_reads 69 = .ok (.putfield 54, 3) := by decide +kernel
theorem dX6_reads_72 : decode cX6_reads 72 = .ok (.iconst 0, 1) := by decide +kernel
theorem dX6_reads_73 : decode cX6_reads 73 = .ok (.istore_n 2, 1) := by decide +kernel
theorem dX6_reads_74 : decode cX6_reads 74 = .ok (.iload_n 2, 1) := by decide +kernel
theorem dX6_reads_75 : decode cX6_reads 75 = .ok (.iload_n 1, 1) := by decide +kernel
theorem dX6_reads_76 : decode cX6_reads 76 = .ok (.if_icmp .ge 23, 3) := by decide +kernel
theorem dX6_reads_79 : decode cX6_reads 79 = .ok (.aload_n 0, 1) := by decide +kernel
theorem dX6_reads_80 : decode cX6_reads 80 = .ok (.getfield 54, 3) := by decide +kernel
theorem dX6_reads_83 : decode cX6_reads 83 = .ok (.bipush 64, 2) := by decide +kernel
theorem dX6_reads_85 : decode cX6_reads 85 = .ok (.if_icmp .gt 14, 3) := by decide +kernel
theorem dX6_reads_88 : decode cX6_reads 88 = .ok (.aload_n 0, 1) := by decide +kernel
theorem dX6_reads_89 : decode cX6_reads 89 = .ok (.iload_n 2, 1) := by decide +kernel
theorem dX6_reads_90 : decode cX6_reads 90 = .ok (.invokevirtual 61, 3) := by decide +kernel
theorem dX6_reads_93 : decode cX6_reads 93 = .ok (.iinc 2 1, 3) := by decide +kernel
theorem dX6_reads_96 : decode cX6_reads 96 = .ok (.goto (-22), 3) := by decide +kernel
theorem dX6_reads_99 : decode cX6_reads 99 = .ok (.return_, 1) := by decide +kernel
theorem dX6_goes_0 : decode cX6_goes 0 = .ok (.aload_n 0, 1) := by decide +kernel
theorem dX6_goes_1 : decode cX6_goes 1 = .ok (.getfield 54, 3) := by decide +kernel
theorem dX6_goes_4 : decode cX6_goes 4 = .ok (.istore_n 2, 1) := by decide +kernel
theorem dX6_goes_5 : decode cX6_goes 5 = .ok (.aload_n 0, 1) := by decide +kernel
theorem dX6_goes_6 : decode cX6_goes 6 = .ok (.iconst 0, 1) := by decide +kernel
theorem dX6_goes_7 : decode cX6_goes 7 = .ok (.putfield 54, 3) := by decide +kernel
theorem dX6_goes_10 : decode cX6_goes 10 = .ok (.iconst 0, 1) := by decide +kernel
theorem dX6_goes_11 : decode cX6_goes 11 = .ok (.istore_n 3, 1) := by decide +kernel
theorem dX6_goes_12 : decode cX6_goes 12 = .ok (.iload_n 3, 1) := by decide +kernel
theorem dX6_goes_13 : decode cX6_goes 13 = .ok (.iload_n 2, 1) := by decide +kernel
theorem dX6_goes_14 : decode cX6_goes 14 = .ok (.if_icmp .ge 109, 3) := by decide +kernel
theorem dX6_goes_17 : decode cX6_goes 17 = .ok (.iconst 0, 1) := by decide +kernel
theorem dX6_goes_18 : decode cX6_goes 18 = .ok (.istore 4, 2) := by decide +kernel
theorem dX6_goes_20 : decode cX6_goes 20 = .ok (.iload 4, 2) := by decide +kernel
theorem dX6_goes_22 : decode cX6_goes 22 = .ok (.bipush 8, 2) := by decide +kernel
theorem dX6_goes_24 : decode cX6_goes 24 = .ok (.if_icmp .ge 93, 3) := by decide +kernel
theorem dX6_goes_27 : decode cX6_goes 27 = .ok (.aload_n 0, 1) := by decide +kernel
theorem dX6_goes_28 : decode cX6_goes 28 = .ok (.aload_n 0, 1) := by decide +kernel
theorem dX6_goes_29 : decode cX6_goes 29 = .ok (.iload_n 1, 1) := by decide +kernel
theorem dX6_goes_30 : decode cX6_goes 30 = .ok (.iconst 0, 1) := by decide +kernel
theorem dX6_goes_31 : decode cX6_goes 31 = .ok (.invokevirtual 39, 3) := by decide +kernel
theorem dX6_goes_34 : decode cX6_goes 34 = .ok (.iload_n 1, 1) := by decide +kernel
theorem dX6_goes_35 : decode cX6_goes 35 = .ok (.iload 4, 2) := by decide +kernel
theorem dX6_goes_37 : decode cX6_goes 37 = .ok (.invokevirtual 64, 3) := by decide +kernel
theorem dX6_goes_40 : decode cX6_goes 40 = .ok (.ifCond .ne 6, 3) := by decide +kernel
theorem dX6_goes_43 : decode cX6_goes 43 = .ok (.goto 68, 3) := by decide +kernel
theorem dX6_goes_46 : decode cX6_goes 46 = .ok (.aload_n 0, 1) := by decide +kernel
theorem dX6_goes_47 : decode cX6_goes 47 = .ok (.iload_n 1, 1) := by decide +kernel
theorem dX6_goes_48 : decode cX6_goes 48 = .ok (.iconst 1, 1) := by decide +kernel
theorem dX6_goes_49 : decode cX6_goes 49 = .ok (.invokevirtual 39, 3) := by decide +kernel
theorem dX6_goes_52 : decode cX6_goes 52 = .ok (.bipush 33, 2) := by decide +kernel
theorem dX6_goes_54 : decode cX6_goes 54 = .ok (.if_icmp .eq 15, 3) := by decide +kernel
theorem dX6_goes_57 : decode cX6_goes 57 = .ok (.aload_n 0, 1) := by decide +kernel
theorem dX6_goes_58 : decode cX6_goes 58 = .ok (.iload_n 3, 1) := by decide +kernel
theorem dX6_goes_59 : decode cX6_goes 59 = .ok (.iload_n 1, 1) := by decide +kernel
theorem dX6_goes_60 : decode cX6_goes 60 = .ok (.iload 4, 2) := by decide +kernel
theorem dX6_goes_62 : decode cX6_goes 62 = .ok (.iconst (-1), 1) := by decide +kernel
theorem dX6_goes_63 : decode cX6_goes 63 = .ok (.invokevirtual 67, 3) := by decide +kernel
theorem dX6_goes_66 : decode cX6_goes 66 = .ok (.goto 45, 3) := by decide +kernel
theorem dX6_goes_69 : decode cX6_goes 69 = .ok (.iconst 0, 1) := by decide +kernel
theorem dX6_goes_70 : decode cX6_goes 70 = .ok (.istore 5, 2) := by decide +kernel
theorem dX6_goes_72 : decode cX6_goes 72 = .ok (.iload 5, 2) := by decide +kernel
theorem dX6_goes_74 : decode cX6_goes 74 = .ok (.bipush 8, 2) := by decide +kernel
theorem dX6_goes_76 : decode cX6_goes 76 = .ok (.if_icmp .ge 35, 3) := by decide +kernel
theorem dX6_goes_79 : decode cX6_goes 79 = .ok (.aload_n 0, 1) := by decide +kernel
theorem dX6_goes_80 : decode cX6_goes 80 = .ok (.aload_n 0, 1) := by decide +kernel
theorem dX6_goes_81 : decode cX6_goes 81 = .ok (.iload_n 1, 1) := by decide +kernel
theorem dX6_goes_82 : decode cX6_goes 82 = .ok (.iconst 3, 1) := by decide +kernel
theorem dX6_goes_83 : decode cX6_goes 83 = .ok (.invokevirtual 39, 3) := by decide +kernel
theorem dX6_goes_86 : decode cX6_goes 86 = .ok (.iload_n 1, 1) := by decide +kernel
theorem dX6_goes_87 : decode cX6_goes 87 = .ok (.iload 5, 2) := by decide +kernel
theorem dX6_goes_89 : decode cX6_goes 89 = .ok (.invokevirtual 64, 3) := by decide +kernel
theorem dX6_goes_92 : decode cX6_goes 92 = .ok (.ifCond .eq 13, 3) := by decide +kernel
theorem dX6_goes_95 : decode cX6_goes 95 = .ok (.aload_n 0, 1) := by decide +kernel
theorem dX6_goes_96 : decode cX6_goes 96 = .ok (.iload_n 3, 1) := by decide +kernel
theorem dX6_goes_97 : decode cX6_goes 97 = .ok (.iload_n 1, 1) := by decide +kernel
theorem dX6_goes_98 : decode cX6_goes 98 = .ok (.iload 4, 2) := by decide +kernel
theorem dX6_goes_100 : decode cX6_goes 100 = .ok (.iload 5, 2) := by decide +kernel
theorem dX6_goes_102 : decode cX6_goes 102 = .ok (.invokevirtual 67, 3) := by decide +kernel
theorem dX6_goes_105 : decode cX6_goes 105 = .ok (.iinc 5 1, 3) := by decide +kernel
theorem dX6_goes_108 : decode cX6_goes 108 = .ok (.goto (-36), 3) := by decide +kernel
theorem dX6_goes_111 : decode cX6_goes 111 = .ok (.iinc 4 1, 3) := by decide +kernel
theorem dX6_goes_114 : decode cX6_goes 114 = .ok (.goto (-94), 3) := by decide +kernel
theorem dX6_goes_117 : decode cX6_goes 117 = .ok (.iinc 3 1, 3) := by decide +kernel
theorem dX6_goes_120 : decode cX6_goes 120 = .ok (.goto (-108), 3) := by decide +kernel
theorem dX6_goes_123 : decode cX6_goes 123 = .ok (.iconst 0, 1) := by decide +kernel
theorem dX6_goes_124 : decode cX6_goes 124 = .ok (.istore_n 3, 1) := by decide +kernel
theorem dX6_goes_125 : decode cX6_goes 125 = .ok (.iload_n 3, 1) := by decide +kernel
theorem dX6_goes_126 : decode cX6_goes 126 = .ok (.aload_n 0, 1) := by decide +kernel
theorem dX6_goes_127 : decode cX6_goes 127 = .ok (.getfield 54, 3) := by decide +kernel
theorem dX6_goes_130 : decode cX6_goes 130 = .ok (.bipush 104, 2) := by decide +kernel
theorem dX6_goes_132 : decode cX6_goes 132 = .ok (.imul, 1) := by decide +kernel
theorem dX6_goes_133 : decode cX6_goes 133 = .ok (.if_icmp .ge 21, 3) := by decide +kernel
theorem dX6_goes_136 : decode cX6_goes 136 = .ok (.aload_n 0, 1) := by decide +kernel
theorem dX6_goes_137 : decode cX6_goes 137 = .ok (.getfield 16, 3) := by decide +kernel
theorem dX6_goes_140 : decode cX6_goes 140 = .ok (.iload_n 3, 1) := by decide +kernel
theorem dX6_goes_141 : decode cX6_goes 141 = .ok (.aload_n 0, 1) := by decide +kernel
theorem dX6_goes_142 : decode cX6_goes 142 = .ok (.getfield 19, 3) := by decide +kernel
theorem dX6_goes_145 : decode cX6_goes 145 = .ok (.iload_n 3, 1) := by decide +kernel
theorem dX6_goes_146 : decode cX6_goes 146 = .ok (.iaload, 1) := by decide +kernel
theorem dX6_goes_147 : decode cX6_goes 147 = .ok (.iastore, 1) := by decide +kernel
theorem dX6_goes_148 : decode cX6_goes 148 = .ok (.iinc 3 1, 3) := by decide +kernel
theorem dX6_goes_151 : decode cX6_goes 151 = .ok (.goto (-26), 3) := by decide +kernel
theorem dX6_goes_154 : decode cX6_goes 154 = .ok (.return_, 1) := by decide +kernel
theorem dX6_tries_0 : decode cX6_tries 0 = .ok (.bipush 104, 2) := by decide +kernel
theorem dX6_tries_2 : decode cX6_tries 2 = .ok (.aload_n 0, 1) := by decide +kernel
theorem dX6_tries_3 : decode cX6_tries 3 = .ok (.getfield 54, 3) := by decide +kernel
theorem dX6_tries_6 : decode cX6_tries 6 = .ok (.imul, 1) := by decide +kernel
theorem dX6_tries_7 : decode cX6_tries 7 = .ok (.istore 5, 2) := by decide +kernel
theorem dX6_tries_9 : decode cX6_tries 9 = .ok (.iconst 0, 1) := by decide +kernel
theorem dX6_tries_10 : decode cX6_tries 10 = .ok (.istore 6, 2) := by decide +kernel
theorem dX6_tries_12 : decode cX6_tries 12 = .ok (.iload 6, 2) := by decide +kernel
theorem dX6_tries_14 : decode cX6_tries 14 = .ok (.bipush 104, 2) := by decide +kernel
theorem dX6_tries_16 : decode cX6_tries 16 = .ok (.if_icmp .ge 31, 3) := by decide +kernel
theorem dX6_tries_19 : decode cX6_tries 19 = .ok (.aload_n 0, 1) := by decide +kernel
theorem dX6_tries_20 : decode cX6_tries 20 = .ok (.getfield 19, 3) := by decide +kernel
theorem dX6_tries_23 : decode cX6_tries 23 = .ok (.iload 5, 2) := by decide +kernel
theorem dX6_tries_25 : decode cX6_tries 25 = .ok (.iload 6, 2) := by decide +kernel
theorem dX6_tries_27 : decode cX6_tries 27 = .ok (.iadd, 1) := by decide +kernel
theorem dX6_tries_28 : decode cX6_tries 28 = .ok (.aload_n 0, 1) := by decide +kernel
theorem dX6_tries_29 : decode cX6_tries 29 = .ok (.getfield 16, 3) := by decide +kernel
theorem dX6_tries_32 : decode cX6_tries 32 = .ok (.bipush 104, 2) := by decide +kernel
theorem dX6_tries_34 : decode cX6_tries 34 = .ok (.iload_n 1, 1) := by decide +kernel
theorem dX6_tries_35 : decode cX6_tries 35 = .ok (.imul, 1) := by decide +kernel
theorem dX6_tries_36 : decode cX6_tries 36 = .ok (.iload 6, 2) := by decide +kernel
theorem dX6_tries_38 : decode cX6_tries 38 = .ok (.iadd, 1) := by decide +kernel
theorem dX6_tries_39 : decode cX6_tries 39 = .ok (.iaload, 1) := by decide +kernel
theorem dX6_tries_40 : decode cX6_tries 40 = .ok (.iastore, 1) := by decide +kernel
theorem dX6_tries_41 : decode cX6_tries 41 = .ok (.iinc 6 1, 3) := by decide +kernel
theorem dX6_tries_44 : decode cX6_tries 44 = .ok (.goto (-32), 3) := by decide +kernel
theorem dX6_tries_47 : decode cX6_tries 47 = .ok (.aload_n 0, 1) := by decide +kernel
theorem dX6_tries_48 : decode cX6_tries 48 = .ok (.getfield 19, 3) := by decide +kernel
theorem dX6_tries_51 : decode cX6_tries 51 = .ok (.iload 5, 2) := by decide +kernel
theorem dX6_tries_53 : decode cX6_tries 53 = .ok (.bipush 66, 2) := by decide +kernel
theorem dX6_tries_55 : decode cX6_tries 55 = .ok (.iadd, 1) := by decide +kernel
theorem dX6_tries_56 : decode cX6_tries 56 = .ok (.iconst 2, 1) := by decide +kernel
theorem dX6_tries_57 : decode cX6_tries 57 = .ok (.iload_n 2, 1) := by decide +kernel
theorem dX6_tries_58 : decode cX6_tries 58 = .ok (.imul, 1) := by decide +kernel
theorem dX6_tries_59 : decode cX6_tries 59 = .ok (.iadd, 1) := by decide +kernel
theorem dX6_tries_60 : decode cX6_tries 60 = .ok (.iload_n 3, 1) := by decide +kernel
theorem dX6_tries_61 : decode cX6_tries 61 = .ok (.iastore, 1) := by decide +kernel
theorem dX6_tries_62 : decode cX6_tries 62 = .ok (.aload_n 0, 1) := by decide +kernel
theorem dX6_tries_63 : decode cX6_tries 63 = .ok (.getfield 19, 3) := by decide +kernel
theorem dX6_tries_66 : decode cX6_tries 66 = .ok (.iload 5, 2) := by decide +kernel
theorem dX6_tries_68 : decode cX6_tries 68 = .ok (.bipush 66, 2) := by decide +kernel
theorem dX6_tries_70 : decode cX6_tries 70 = .ok (.iadd, 1) := by decide +kernel
theorem dX6_tries_71 : decode cX6_tries 71 = .ok (.iconst 2, 1) := by decide +kernel
theorem dX6_tries_72 : decode cX6_tries 72 = .ok (.iload_n 2, 1) := by decide +kernel
theorem dX6_tries_73 : decode cX6_tries 73 = .ok (.imul, 1) := by decide +kernel
theorem dX6_tries_74 : decode cX6_tries 74 = .ok (.iadd, 1) := by decide +kernel
theorem dX6_tries_75 : decode cX6_tries 75 = .ok (.iconst 1, 1) := by decide +kernel
theorem dX6_tries_76 : decode cX6_tries 76 = .ok (.iadd, 1) := by decide +kernel
theorem dX6_tries_77 : decode cX6_tries 77 = .ok (.iload 4, 2) := by decide +kernel
theorem dX6_tries_79 : decode cX6_tries 79 = .ok (.iastore, 1) := by decide +kernel
theorem dX6_tries_80 : decode cX6_tries 80 = .ok (.aload_n 0, 1) := by decide +kernel
theorem dX6_tries_81 : decode cX6_tries 81 = .ok (.iload_n 2, 1) := by decide +kernel
theorem dX6_tries_82 : decode cX6_tries 82 = .ok (.iconst 2, 1) := by decide +kernel
theorem dX6_tries_83 : decode cX6_tries 83 = .ok (.invokevirtual 39, 3) := by decide +kernel
theorem dX6_tries_86 : decode cX6_tries 86 = .ok (.istore 6, 2) := by decide +kernel
theorem dX6_tries_88 : decode cX6_tries 88 = .ok (.aload_n 0, 1) := by decide +kernel
theorem dX6_tries_89 : decode cX6_tries 89 = .ok (.iload_n 2, 1) := by decide +kernel
theorem dX6_tries_90 : decode cX6_tries 90 = .ok (.iconst 1, 1) := by decide +kernel
theorem dX6_tries_91 : decode cX6_tries 91 = .ok (.invokevirtual 39, 3) := by decide +kernel
theorem dX6_tries_94 : decode cX6_tries 94 = .ok (.istore 7, 2) := by decide +kernel
theorem dX6_tries_96 : decode cX6_tries 96 = .ok (.iload 7, 2) := by decide +kernel
theorem dX6_tries_98 : decode cX6_tries 98 = .ok (.bipush 30, 2) := by decide +kernel
theorem dX6_tries_100 : decode cX6_tries 100 = .ok (.if_icmp .ne 16, 3) := by decide +kernel
theorem dX6_tries_103 : decode cX6_tries 103 = .ok (.aload_n 0, 1) := by decide +kernel
theorem dX6_tries_104 : decode cX6_tries 104 = .ok (.iload 5, 2) := by decide +kernel
theorem dX6_tries_106 : decode cX6_tries 106 = .ok (.iload_n 2, 1) := by decide +kernel
theorem dX6_tries_107 : decode cX6_tries 107 = .ok (.iload_n 3, 1) := by decide +kernel
theorem dX6_tries_108 : decode cX6_tries 108 = .ok (.iload 6, 2) := by decide +kernel
theorem dX6_tries_110 : decode cX6_tries 110 = .ok (.invokevirtual 71, 3) := by decide +kernel
theorem dX6_tries_113 : decode cX6_tries 113 = .ok (.goto 64, 3) := by decide +kernel
theorem dX6_tries_116 : decode cX6_tries 116 = .ok (.iload 7, 2) := by decide +kernel
theorem dX6_tries_118 : decode cX6_tries 118 = .ok (.bipush 31, 2) := by decide +kernel
theorem dX6_tries_120 : decode cX6_tries 120 = .ok (.if_icmp .ne 19, 3) := by decide +kernel
theorem dX6_tries_123 : decode cX6_tries 123 = .ok (.aload_n 0, 1) := by decide +kernel
theorem dX6_tries_124 : decode cX6_tries 124 = .ok (.iload 5, 2) := by decide +kernel
theorem dX6_tries_126 : decode cX6_tries 126 = .ok (.iload_n 2, 1) := by decide +kernel
theorem dX6_tries_127 : decode cX6_tries 127 = .ok (.iload_n 3, 1) := by decide +kernel
theorem dX6_tries_128 : decode cX6_tries 128 = .ok (.iload 6, 2) := by decide +kernel
theorem dX6_tries_130 : decode cX6_tries 130 = .ok (.bipush 10, 2) := by decide +kernel
theorem dX6_tries_132 : decode cX6_tries 132 = .ok (.isub, 1) := by decide +kernel
theorem dX6_tries_133 : decode cX6_tries 133 = .ok (.invokevirtual 75, 3) := by decide +kernel
theorem dX6_tries_136 : decode cX6_tries 136 = .ok (.goto 41, 3) := by decide +kernel
theorem dX6_tries_139 : decode cX6_tries 139 = .ok (.iload 7, 2) := by decide +kernel
theorem dX6_tries_141 : decode cX6_tries 141 = .ok (.bipush 32, 2) := by decide +kernel
theorem dX6_tries_143 : decode cX6_tries 143 = .ok (.if_icmp .ne 19, 3) := by decide +kernel
theorem dX6_tries_146 : decode cX6_tries 146 = .ok (.aload_n 0, 1) := by decide +kernel
theorem dX6_tries_147 : decode cX6_tries 147 = .ok (.iload 5, 2) := by decide +kernel
theorem dX6_tries_149 : decode cX6_tries 149 = .ok (.iload_n 2, 1) := by decide +kernel
theorem dX6_tries_150 : decode cX6_tries 150 = .ok (.iload_n 3, 1) := by decide +kernel
theorem dX6_tries_151 : decode cX6_tries 151 = .ok (.iload 6, 2) := by decide +kernel
theorem dX6_tries_153 : decode cX6_tries 153 = .ok (.bipush 10, 2) := by decide +kernel
theorem dX6_tries_155 : decode cX6_tries 155 = .ok (.isub, 1) := by decide +kernel
theorem dX6_tries_156 : decode cX6_tries 156 = .ok (.invokevirtual 78, 3) := by decide +kernel
theorem dX6_tries_159 : decode cX6_tries 159 = .ok (.goto 18, 3) := by decide +kernel
theorem dX6_tries_162 : decode cX6_tries 162 = .ok (.aload_n 0, 1) := by decide +kernel
theorem dX6_tries_163 : decode cX6_tries 163 = .ok (.iload 5, 2) := by decide +kernel
theorem dX6_tries_165 : decode cX6_tries 165 = .ok (.iload_n 2, 1) := by decide +kernel
theorem dX6_tries_166 : decode cX6_tries 166 = .ok (.iload_n 3, 1) := by decide +kernel
theorem dX6_tries_167 : decode cX6_tries 167 = .ok (.iload 6, 2) := by decide +kernel
theorem dX6_tries_169 : decode cX6_tries 169 = .ok (.bipush 10, 2) := by decide +kernel
theorem dX6_tries_171 : decode cX6_tries 171 = .ok (.isub, 1) := by decide +kernel
theorem dX6_tries_172 : decode cX6_tries 172 = .ok (.iload 4, 2) := by decide +kernel
theorem dX6_tries_174 : decode cX6_tries 174 = .ok (.invokevirtual 81, 3) := by decide +kernel
theorem dX6_tries_177 : decode cX6_tries 177 = .ok (.istore 8, 2) := by decide +kernel
theorem dX6_tries_179 : decode cX6_tries 179 = .ok (.iload 8, 2) := by decide +kernel
theorem dX6_tries_181 : decode cX6_tries 181 = .ok (.ifCond .eq 13, 3) := by decide +kernel
theorem dX6_tries_184 : decode cX6_tries 184 = .ok (.aload_n 0, 1) := by decide +kernel
theorem dX6_tries_185 : decode cX6_tries 185 = .ok (.dup, 1) := by decide +kernel
theorem dX6_tries_186 : decode cX6_tries 186 = .ok (.getfield 54, 3) := by decide +kernel
theorem dX6_tries_189 : decode cX6_tries 189 = .ok (.iconst 1, 1) := by decide +kernel
theorem dX6_tries_190 : decode cX6_tries 190 = .ok (.iadd, 1) := by decide +kernel
theorem dX6_tries_191 : decode cX6_tries 191 = .ok (.putfield 54, 3) := by decide +kernel
theorem dX6_tries_194 : decode cX6_tries 194 = .ok (.return_, 1) := by decide +kernel
theorem dX6_walks_0 : decode cX6_walks 0 = .ok (.aload_n 0, 1) := by decide +kernel
theorem dX6_walks_1 : decode cX6_walks 1 = .ok (.getfield 19, 3) := by decide +kernel
theorem dX6_walks_4 : decode cX6_walks 4 = .ok (.iload_n 1, 1) := by decide +kernel
theorem dX6_walks_5 : decode cX6_walks 5 = .ok (.iconst 0, 1) := by decide +kernel
theorem dX6_walks_6 : decode cX6_walks 6 = .ok (.iadd, 1) := by decide +kernel
theorem dX6_walks_7 : decode cX6_walks 7 = .ok (.iload_n 3, 1) := by decide +kernel
theorem dX6_walks_8 : decode cX6_walks 8 = .ok (.iadd, 1) := by decide +kernel
theorem dX6_walks_9 : decode cX6_walks 9 = .ok (.iload 4, 2) := by decide +kernel
theorem dX6_walks_11 : decode cX6_walks 11 = .ok (.iastore, 1) := by decide +kernel
theorem dX6_walks_12 : decode cX6_walks 12 = .ok (.aload_n 0, 1) := by decide +kernel
theorem dX6_walks_13 : decode cX6_walks 13 = .ok (.getfield 19, 3) := by decide +kernel
theorem dX6_walks_16 : decode cX6_walks 16 = .ok (.iload_n 1, 1) := by decide +kernel
theorem dX6_walks_17 : decode cX6_walks 17 = .ok (.bipush 8, 2) := by decide +kernel
theorem dX6_walks_19 : decode cX6_walks 19 = .ok (.iadd, 1) := by decide +kernel
theorem dX6_walks_20 : decode cX6_walks 20 = .ok (.iload_n 3, 1) := by decide +kernel
theorem dX6_walks_21 : decode cX6_walks 21 = .ok (.iadd, 1) := by decide +kernel
theorem dX6_walks_22 : decode cX6_walks 22 = .ok (.iconst 1, 1) := by decide +kernel
theorem dX6_walks_23 : decode cX6_walks 23 = .ok (.iload_n 2, 1) := by decide +kernel
theorem dX6_walks_24 : decode cX6_walks 24 = .ok (.ishl, 1) := by decide +kernel
theorem dX6_walks_25 : decode cX6_walks 25 = .ok (.iastore, 1) := by decide +kernel
theorem dX6_walks_26 : decode cX6_walks 26 = .ok (.iconst 1, 1) := by decide +kernel
theorem dX6_walks_27 : decode cX6_walks 27 = .ok (.ireturn, 1) := by decide +kernel
theorem dX6_isOthers_0 : decode cX6_isOthers 0 = .ok (.aload_n 0, 1) := by decide +kernel
theorem dX6_isOthers_1 : decode cX6_isOthers 1 = .ok (.getfield 19, 3) := by decide +kernel
theorem dX6_isOthers_4 : decode cX6_isOthers 4 = .ok (.iload_n 1, 1) := by decide +kernel
theorem dX6_isOthers_5 : decode cX6_isOthers 5 = .ok (.bipush 16, 2) := by decide +kernel
theorem dX6_isOthers_7 : decode cX6_isOthers 7 = .ok (.iadd, 1) := by decide +kernel
theorem dX6_isOthers_8 : decode cX6_isOthers 8 = .ok (.iload_n 3, 1) := by decide +kernel
theorem dX6_isOthers_9 : decode cX6_isOthers 9 = .ok (.iadd, 1) := by decide +kernel
theorem dX6_isOthers_10 : decode cX6_isOthers 10 = .ok (.iaload, 1) := by decide +kernel
theorem dX6_isOthers_11 : decode cX6_isOthers 11 = .ok (.iconst (-1), 1) := by decide +kernel
theorem dX6_isOthers_12 : decode cX6_isOthers 12 = .ok (.if_icmp .eq 22, 3) := by decide +kernel
theorem dX6_isOthers_15 : decode cX6_isOthers 15 = .ok (.aload_n 0, 1) := by decide +kernel
theorem dX6_isOthers_16 : decode cX6_isOthers 16 = .ok (.getfield 19, 3) := by decide +kernel
theorem dX6_isOthers_19 : decode cX6_isOthers 19 = .ok (.iload_n 1, 1) := by decide +kernel
theorem dX6_isOthers_20 : decode cX6_isOthers 20 = .ok (.bipush 16, 2) := by decide +kernel
theorem dX6_isOthers_22 : decode cX6_isOthers 22 = .ok (.iadd, 1) := by decide +kernel
theorem dX6_isOthers_23 : decode cX6_isOthers 23 = .ok (.iload_n 3, 1) := by decide +kernel
theorem dX6_isOthers_24 : decode cX6_isOthers 24 = .ok (.iadd, 1) := by decide +kernel
theorem dX6_isOthers_25 : decode cX6_isOthers 25 = .ok (.iaload, 1) := by decide +kernel
theorem dX6_isOthers_26 : decode cX6_isOthers 26 = .ok (.iload_n 2, 1) := by decide +kernel
theorem dX6_isOthers_27 : decode cX6_isOthers 27 = .ok (.if_icmp .eq 7, 3) := by decide +kernel
theorem dX6_isOthers_30 : decode cX6_isOthers 30 = .ok (.iconst 1, 1) := by decide +kernel
theorem dX6_isOthers_31 : decode cX6_isOthers 31 = .ok (.goto 4, 3) := by decide +kernel
theorem dX6_isOthers_34 : decode cX6_isOthers 34 = .ok (.iconst 0, 1) := by decide +kernel
theorem dX6_isOthers_35 : decode cX6_isOthers 35 = .ok (.ireturn, 1) := by decide +kernel
theorem dX6_takes_0 : decode cX6_takes 0 = .ok (.aload_n 0, 1) := by decide +kernel
theorem dX6_takes_1 : decode cX6_takes 1 = .ok (.iload_n 1, 1) := by decide +kernel
theorem dX6_takes_2 : decode cX6_takes 2 = .ok (.iload_n 3, 1) := by decide +kernel
theorem dX6_takes_3 : decode cX6_takes 3 = .ok (.iload 4, 2) := by decide +kernel
theorem dX6_takes_5 : decode cX6_takes 5 = .ok (.invokevirtual 85, 3) := by decide +kernel
theorem dX6_takes_8 : decode cX6_takes 8 = .ok (.ifCond .eq 5, 3) := by decide +kernel
theorem dX6_takes_11 : decode cX6_takes 11 = .ok (.iconst 0, 1) := by decide +kernel
theorem dX6_takes_12 : decode cX6_takes 12 = .ok (.ireturn, 1) := by decide +kernel
theorem dX6_takes_13 : decode cX6_takes 13 = .ok (.aload_n 0, 1) := by decide +kernel
theorem dX6_takes_14 : decode cX6_takes 14 = .ok (.getfield 19, 3) := by decide +kernel
theorem dX6_takes_17 : decode cX6_takes 17 = .ok (.iload_n 1, 1) := by decide +kernel
theorem dX6_takes_18 : decode cX6_takes 18 = .ok (.bipush 46, 2) := by decide +kernel
theorem dX6_takes_20 : decode cX6_takes 20 = .ok (.iadd, 1) := by decide +kernel
theorem dX6_takes_21 : decode cX6_takes 21 = .ok (.iload 4, 2) := by decide +kernel
theorem dX6_takes_23 : decode cX6_takes 23 = .ok (.iadd, 1) := by decide +kernel
theorem dX6_takes_24 : decode cX6_takes 24 = .ok (.iaload, 1) := by decide +kernel
theorem dX6_takes_25 : decode cX6_takes 25 = .ok (.istore 5, 2) := by decide +kernel
theorem dX6_takes_27 : decode cX6_takes 27 = .ok (.aload_n 0, 1) := by decide +kernel
theorem dX6_takes_28 : decode cX6_takes 28 = .ok (.getfield 19, 3) := by decide +kernel
theorem dX6_takes_31 : decode cX6_takes 31 = .ok (.iload_n 1, 1) := by decide +kernel
theorem dX6_takes_32 : decode cX6_takes 32 = .ok (.bipush 36, 2) := by decide +kernel
theorem dX6_takes_34 : decode cX6_takes 34 = .ok (.iadd, 1) := by decide +kernel
theorem dX6_takes_35 : decode cX6_takes 35 = .ok (.iload 4, 2) := by decide +kernel
theorem dX6_takes_37 : decode cX6_takes 37 = .ok (.iadd, 1) := by decide +kernel
theorem dX6_takes_38 : decode cX6_takes 38 = .ok (.iaload, 1) := by decide +kernel
theorem dX6_takes_39 : decode cX6_takes 39 = .ok (.iconst 1, 1) := by decide +kernel
theorem dX6_takes_40 : decode cX6_takes 40 = .ok (.if_icmp .ne 82, 3) := by decide +kernel
theorem dX6_takes_43 : decode cX6_takes 43 = .ok (.iload 5, 2) := by decide +kernel
theorem dX6_takes_45 : decode cX6_takes 45 = .ok (.iconst (-1), 1) := by decide +kernel
theorem dX6_takes_46 : decode cX6_takes 46 = .ok (.if_icmp .eq 76, 3) := by decide +kernel
theorem dX6_takes_49 : decode cX6_takes 49 = .ok (.aload_n 0, 1) := by decide +kernel
theorem dX6_takes_50 : decode cX6_takes 50 = .ok (.getfield 19, 3) := by decide +kernel
theorem dX6_takes_53 : decode cX6_takes 53 = .ok (.iload_n 1, 1) := by decide +kernel
theorem dX6_takes_54 : decode cX6_takes 54 = .ok (.iconst 0, 1) := by decide +kernel
theorem dX6_takes_55 : decode cX6_takes 55 = .ok (.iadd, 1) := by decide +kernel
theorem dX6_takes_56 : decode cX6_takes 56 = .ok (.iload_n 3, 1) := by decide +kernel
theorem dX6_takes_57 : decode cX6_takes 57 = .ok (.iadd, 1) := by decide +kernel
theorem dX6_takes_58 : decode cX6_takes 58 = .ok (.iaload, 1) := by decide +kernel
theorem dX6_takes_59 : decode cX6_takes 59 = .ok (.iconst (-1), 1) := by decide +kernel
theorem dX6_takes_60 : decode cX6_takes 60 = .ok (.if_icmp .ne 45, 3) := by decide +kernel
theorem dX6_takes_63 : decode cX6_takes 63 = .ok (.aload_n 0, 1) := by decide +kernel
theorem dX6_takes_64 : decode cX6_takes 64 = .ok (.getfield 19, 3) := by decide +kernel
theorem dX6_takes_67 : decode cX6_takes 67 = .ok (.iload_n 1, 1) := by decide +kernel
theorem dX6_takes_68 : decode cX6_takes 68 = .ok (.iconst 0, 1) := by decide +kernel
theorem dX6_takes_69 : decode cX6_takes 69 = .ok (.iadd, 1) := by decide +kernel
theorem dX6_takes_70 : decode cX6_takes 70 = .ok (.iload_n 3, 1) := by decide +kernel
theorem dX6_takes_71 : decode cX6_takes 71 = .ok (.iadd, 1) := by decide +kernel
theorem dX6_takes_72 : decode cX6_takes 72 = .ok (.iload 5, 2) := by decide +kernel
theorem dX6_takes_74 : decode cX6_takes 74 = .ok (.iastore, 1) := by decide +kernel
theorem dX6_takes_75 : decode cX6_takes 75 = .ok (.aload_n 0, 1) := by decide +kernel
theorem dX6_takes_76 : decode cX6_takes 76 = .ok (.getfield 19, 3) := by decide +kernel
theorem dX6_takes_79 : decode cX6_takes 79 = .ok (.iload_n 1, 1) := by decide +kernel
theorem dX6_takes_80 : decode cX6_takes 80 = .ok (.bipush 8, 2) := by decide +kernel
theorem dX6_takes_82 : decode cX6_takes 82 = .ok (.iadd, 1) := by decide +kernel
theorem dX6_takes_83 : decode cX6_takes 83 = .ok (.iload_n 3, 1) := by decide +kernel
theorem dX6_takes_84 : decode cX6_takes 84 = .ok (.iadd, 1) := by decide +kernel
theorem dX6_takes_85 : decode cX6_takes 85 = .ok (.iconst 1, 1) := by decide +kernel
theorem dX6_takes_86 : decode cX6_takes 86 = .ok (.iload_n 2, 1) := by decide +kernel
theorem dX6_takes_87 : decode cX6_takes 87 = .ok (.ishl, 1) := by decide +kernel
theorem dX6_takes_88 : decode cX6_takes 88 = .ok (.aload_n 0, 1) := by decide +kernel
theorem dX6_takes_89 : decode cX6_takes 89 = .ok (.getfield 19, 3) := by decide +kernel
theorem dX6_takes_92 : decode cX6_takes 92 = .ok (.iload_n 1, 1) := by decide +kernel
theorem dX6_takes_93 : decode cX6_takes 93 = .ok (.bipush 56, 2) := by decide +kernel
theorem dX6_takes_95 : decode cX6_takes 95 = .ok (.iadd, 1) := by decide +kernel
theorem dX6_takes_96 : decode cX6_takes 96 = .ok (.iload 4, 2) := by decide +kernel
theorem dX6_takes_98 : decode cX6_takes 98 = .ok (.iadd, 1) := by decide +kernel
theorem dX6_takes_99 : decode cX6_takes 99 = .ok (.iaload, 1) := by decide +kernel
theorem dX6_takes_100 : decode cX6_takes 100 = .ok (.ior, 1) := by decide +kernel
theorem dX6_takes_101 : decode cX6_takes 101 = .ok (.iastore, 1) := by decide +kernel
theorem dX6_takes_102 : decode cX6_takes 102 = .ok (.goto 20, 3) := by decide +kernel
theorem dX6_takes_105 : decode cX6_takes 105 = .ok (.aload_n 0, 1) := by decide +kernel
theorem dX6_takes_106 : decode cX6_takes 106 = .ok (.getfield 19, 3) := by decide +kernel
theorem dX6_takes_109 : decode cX6_takes 109 = .ok (.iload_n 1, 1) := by decide +kernel
theorem dX6_takes_110 : decode cX6_takes 110 = .ok (.iconst 0, 1) := by decide +kernel
theorem dX6_takes_111 : decode cX6_takes 111 = .ok (.iadd, 1) := by decide +kernel
theorem dX6_takes_112 : decode cX6_takes 112 = .ok (.iload_n 3, 1) := by decide +kernel
theorem dX6_takes_113 : decode cX6_takes 113 = .ok (.iadd, 1) := by decide +kernel
theorem dX6_takes_114 : decode cX6_takes 114 = .ok (.iaload, 1) := by decide +kernel
theorem dX6_takes_115 : decode cX6_takes 115 = .ok (.iload 5, 2) := by decide +kernel
theorem dX6_takes_117 : decode cX6_takes 117 = .ok (.if_icmp .eq 5, 3) := by decide +kernel
theorem dX6_takes_120 : decode cX6_takes 120 = .ok (.iconst 0, 1) := by decide +kernel
theorem dX6_takes_121 : decode cX6_takes 121 = .ok (.ireturn, 1) := by decide +kernel
theorem dX6_takes_122 : decode cX6_takes 122 = .ok (.aload_n 0, 1) := by decide +kernel
theorem dX6_takes_123 : decode cX6_takes 123 = .ok (.getfield 19, 3) := by decide +kernel
theorem dX6_takes_126 : decode cX6_takes 126 = .ok (.iload_n 1, 1) := by decide +kernel
theorem dX6_takes_127 : decode cX6_takes 127 = .ok (.bipush 16, 2) := by decide +kernel
theorem dX6_takes_129 : decode cX6_takes 129 = .ok (.iadd, 1) := by decide +kernel
theorem dX6_takes_130 : decode cX6_takes 130 = .ok (.iload 4, 2) := by decide +kernel
theorem dX6_takes_132 : decode cX6_takes 132 = .ok (.iadd, 1) := by decide +kernel
theorem dX6_takes_133 : decode cX6_takes 133 = .ok (.iaload, 1) := by decide +kernel
theorem dX6_takes_134 : decode cX6_takes 134 = .ok (.iload_n 3, 1) := by decide +kernel
theorem dX6_takes_135 : decode cX6_takes 135 = .ok (.if_icmp .eq 12, 3) := by decide +kernel
theorem dX6_takes_138 : decode cX6_takes 138 = .ok (.aload_n 0, 1) := by decide +kernel
theorem dX6_takes_139 : decode cX6_takes 139 = .ok (.iload_n 1, 1) := by decide +kernel
theorem dX6_takes_140 : decode cX6_takes 140 = .ok (.iload_n 2, 1) := by decide +kernel
theorem dX6_takes_141 : decode cX6_takes 141 = .ok (.iload_n 3, 1) := by decide +kernel
theorem dX6_takes_142 : decode cX6_takes 142 = .ok (.iload 4, 2) := by decide +kernel
theorem dX6_takes_144 : decode cX6_takes 144 = .ok (.invokevirtual 88, 3) := by decide +kernel
theorem dX6_takes_147 : decode cX6_takes 147 = .ok (.iconst 1, 1) := by decide +kernel
theorem dX6_takes_148 : decode cX6_takes 148 = .ok (.ireturn, 1) := by decide +kernel
theorem dX6_has_0 : decode cX6_has 0 = .ok (.aload_n 0, 1) := by decide +kernel
theorem dX6_has_1 : decode cX6_has 1 = .ok (.getfield 19, 3) := by decide +kernel
theorem dX6_has_4 : decode cX6_has 4 = .ok (.iload_n 1, 1) := by decide +kernel
theorem dX6_has_5 : decode cX6_has 5 = .ok (.bipush 16, 2) := by decide +kernel
theorem dX6_has_7 : decode cX6_has 7 = .ok (.iadd, 1) := by decide +kernel
theorem dX6_has_8 : decode cX6_has 8 = .ok (.iload 4, 2) := by decide +kernel
theorem dX6_has_10 : decode cX6_has 10 = .ok (.iadd, 1) := by decide +kernel
theorem dX6_has_11 : decode cX6_has 11 = .ok (.iload_n 3, 1) := by decide +kernel
theorem dX6_has_12 : decode cX6_has 12 = .ok (.iastore, 1) := by decide +kernel
theorem dX6_has_13 : decode cX6_has 13 = .ok (.aload_n 0, 1) := by decide +kernel
theorem dX6_has_14 : decode cX6_has 14 = .ok (.getfield 19, 3) := by decide +kernel
theorem dX6_has_17 : decode cX6_has 17 = .ok (.iload_n 1, 1) := by decide +kernel
theorem dX6_has_18 : decode cX6_has 18 = .ok (.bipush 26, 2) := by decide +kernel
theorem dX6_has_20 : decode cX6_has 20 = .ok (.iadd, 1) := by decide +kernel
theorem dX6_has_21 : decode cX6_has 21 = .ok (.iload 4, 2) := by decide +kernel
theorem dX6_has_23 : decode cX6_has 23 = .ok (.iadd, 1) := by decide +kernel
theorem dX6_has_24 : decode cX6_has 24 = .ok (.iconst 1, 1) := by decide +kernel
theorem dX6_has_25 : decode cX6_has 25 = .ok (.iload_n 2, 1) := by decide +kernel
theorem dX6_has_26 : decode cX6_has 26 = .ok (.ishl, 1) := by decide +kernel
theorem dX6_has_27 : decode cX6_has 27 = .ok (.iastore, 1) := by decide +kernel
theorem dX6_has_28 : decode cX6_has 28 = .ok (.aload_n 0, 1) := by decide +kernel
theorem dX6_has_29 : decode cX6_has 29 = .ok (.getfield 19, 3) := by decide +kernel
theorem dX6_has_32 : decode cX6_has 32 = .ok (.iload_n 1, 1) := by decide +kernel
theorem dX6_has_33 : decode cX6_has 33 = .ok (.bipush 36, 2) := by decide +kernel
theorem dX6_has_35 : decode cX6_has 35 = .ok (.iadd, 1) := by decide +kernel
theorem dX6_has_36 : decode cX6_has 36 = .ok (.iload 4, 2) := by decide +kernel
theorem dX6_has_38 : decode cX6_has 38 = .ok (.iadd, 1) := by decide +kernel
theorem dX6_has_39 : decode cX6_has 39 = .ok (.iconst 0, 1) := by decide +kernel
theorem dX6_has_40 : decode cX6_has 40 = .ok (.iastore, 1) := by decide +kernel
theorem dX6_has_41 : decode cX6_has 41 = .ok (.aload_n 0, 1) := by decide +kernel
theorem dX6_has_42 : decode cX6_has 42 = .ok (.getfield 19, 3) := by decide +kernel
theorem dX6_has_45 : decode cX6_has 45 = .ok (.iload_n 1, 1) := by decide +kernel
theorem dX6_has_46 : decode cX6_has 46 = .ok (.bipush 46, 2) := by decide +kernel
theorem dX6_has_48 : decode cX6_has 48 = .ok (.iadd, 1) := by decide +kernel
theorem dX6_has_49 : decode cX6_has 49 = .ok (.iload 4, 2) := by decide +kernel
theorem dX6_has_51 : decode cX6_has 51 = .ok (.iadd, 1) := by decide +kernel
theorem dX6_has_52 : decode cX6_has 52 = .ok (.iconst (-1), 1) := by decide +kernel
theorem dX6_has_53 : decode cX6_has 53 = .ok (.iastore, 1) := by decide +kernel
theorem dX6_has_54 : decode cX6_has 54 = .ok (.aload_n 0, 1) := by decide +kernel
theorem dX6_has_55 : decode cX6_has 55 = .ok (.getfield 19, 3) := by decide +kernel
theorem dX6_has_58 : decode cX6_has 58 = .ok (.iload_n 1, 1) := by decide +kernel
theorem dX6_has_59 : decode cX6_has 59 = .ok (.bipush 56, 2) := by decide +kernel
theorem dX6_has_61 : decode cX6_has 61 = .ok (.iadd, 1) := by decide +kernel
theorem dX6_has_62 : decode cX6_has 62 = .ok (.iload 4, 2) := by decide +kernel
theorem dX6_has_64 : decode cX6_has 64 = .ok (.iadd, 1) := by decide +kernel
theorem dX6_has_65 : decode cX6_has 65 = .ok (.iconst 0, 1) := by decide +kernel
theorem dX6_has_66 : decode cX6_has 66 = .ok (.iastore, 1) := by decide +kernel
theorem dX6_has_67 : decode cX6_has 67 = .ok (.return_, 1) := by decide +kernel
theorem dX6_drops_0 : decode cX6_drops 0 = .ok (.aload_n 0, 1) := by decide +kernel
theorem dX6_drops_1 : decode cX6_drops 1 = .ok (.iload_n 1, 1) := by decide +kernel
theorem dX6_drops_2 : decode cX6_drops 2 = .ok (.iload_n 3, 1) := by decide +kernel
theorem dX6_drops_3 : decode cX6_drops 3 = .ok (.iload 4, 2) := by decide +kernel
theorem dX6_drops_5 : decode cX6_drops 5 = .ok (.invokevirtual 85, 3) := by decide +kernel
theorem dX6_drops_8 : decode cX6_drops 8 = .ok (.ifCond .ne 19, 3) := by decide +kernel
theorem dX6_drops_11 : decode cX6_drops 11 = .ok (.aload_n 0, 1) := by decide +kernel
theorem dX6_drops_12 : decode cX6_drops 12 = .ok (.getfield 19, 3) := by decide +kernel
theorem dX6_drops_15 : decode cX6_drops 15 = .ok (.iload_n 1, 1) := by decide +kernel
theorem dX6_drops_16 : decode cX6_drops 16 = .ok (.bipush 36, 2) := by decide +kernel
theorem dX6_drops_18 : decode cX6_drops 18 = .ok (.iadd, 1) := by decide +kernel
theorem dX6_drops_19 : decode cX6_drops 19 = .ok (.iload 4, 2) := by decide +kernel
theorem dX6_drops_21 : decode cX6_drops 21 = .ok (.iadd, 1) := by decide +kernel
theorem dX6_drops_22 : decode cX6_drops 22 = .ok (.iaload, 1) := by decide +kernel
theorem dX6_drops_23 : decode cX6_drops 23 = .ok (.iconst 1, 1) := by decide +kernel
theorem dX6_drops_24 : decode cX6_drops 24 = .ok (.if_icmp .ne 5, 3) := by decide +kernel
theorem dX6_drops_27 : decode cX6_drops 27 = .ok (.iconst 0, 1) := by decide +kernel
theorem dX6_drops_28 : decode cX6_drops 28 = .ok (.ireturn, 1) := by decide +kernel
theorem dX6_drops_29 : decode cX6_drops 29 = .ok (.aload_n 0, 1) := by decide +kernel
theorem dX6_drops_30 : decode cX6_drops 30 = .ok (.getfield 19, 3) := by decide +kernel
theorem dX6_drops_33 : decode cX6_drops 33 = .ok (.iload_n 1, 1) := by decide +kernel
theorem dX6_drops_34 : decode cX6_drops 34 = .ok (.bipush 16, 2) := by decide +kernel
theorem dX6_drops_36 : decode cX6_drops 36 = .ok (.iadd, 1) := by decide +kernel
theorem dX6_drops_37 : decode cX6_drops 37 = .ok (.iload 4, 2) := by decide +kernel
theorem dX6_drops_39 : decode cX6_drops 39 = .ok (.iadd, 1) := by decide +kernel
theorem dX6_drops_40 : decode cX6_drops 40 = .ok (.iconst (-1), 1) := by decide +kernel
theorem dX6_drops_41 : decode cX6_drops 41 = .ok (.iastore, 1) := by decide +kernel
theorem dX6_drops_42 : decode cX6_drops 42 = .ok (.aload_n 0, 1) := by decide +kernel
theorem dX6_drops_43 : decode cX6_drops 43 = .ok (.getfield 19, 3) := by decide +kernel
theorem dX6_drops_46 : decode cX6_drops 46 = .ok (.iload_n 1, 1) := by decide +kernel
theorem dX6_drops_47 : decode cX6_drops 47 = .ok (.bipush 26, 2) := by decide +kernel
theorem dX6_drops_49 : decode cX6_drops 49 = .ok (.iadd, 1) := by decide +kernel
theorem dX6_drops_50 : decode cX6_drops 50 = .ok (.iload 4, 2) := by decide +kernel
theorem dX6_drops_52 : decode cX6_drops 52 = .ok (.iadd, 1) := by decide +kernel
theorem dX6_drops_53 : decode cX6_drops 53 = .ok (.iconst 0, 1) := by decide +kernel
theorem dX6_drops_54 : decode cX6_drops 54 = .ok (.iastore, 1) := by decide +kernel
theorem dX6_drops_55 : decode cX6_drops 55 = .ok (.aload_n 0, 1) := by decide +kernel
theorem dX6_drops_56 : decode cX6_drops 56 = .ok (.getfield 19, 3) := by decide +kernel
theorem dX6_drops_59 : decode cX6_drops 59 = .ok (.iload_n 1, 1) := by decide +kernel
theorem dX6_drops_60 : decode cX6_drops 60 = .ok (.bipush 36, 2) := by decide +kernel
theorem dX6_drops_62 : decode cX6_drops 62 = .ok (.iadd, 1) := by decide +kernel
theorem dX6_drops_63 : decode cX6_drops 63 = .ok (.iload 4, 2) := by decide +kernel
theorem dX6_drops_65 : decode cX6_drops 65 = .ok (.iadd, 1) := by decide +kernel
theorem dX6_drops_66 : decode cX6_drops 66 = .ok (.iconst 1, 1) := by decide +kernel
theorem dX6_drops_67 : decode cX6_drops 67 = .ok (.iastore, 1) := by decide +kernel
theorem dX6_drops_68 : decode cX6_drops 68 = .ok (.aload_n 0, 1) := by decide +kernel
theorem dX6_drops_69 : decode cX6_drops 69 = .ok (.getfield 19, 3) := by decide +kernel
theorem dX6_drops_72 : decode cX6_drops 72 = .ok (.iload_n 1, 1) := by decide +kernel
theorem dX6_drops_73 : decode cX6_drops 73 = .ok (.bipush 46, 2) := by decide +kernel
theorem dX6_drops_75 : decode cX6_drops 75 = .ok (.iadd, 1) := by decide +kernel
theorem dX6_drops_76 : decode cX6_drops 76 = .ok (.iload 4, 2) := by decide +kernel
theorem dX6_drops_78 : decode cX6_drops 78 = .ok (.iadd, 1) := by decide +kernel
theorem dX6_drops_79 : decode cX6_drops 79 = .ok (.aload_n 0, 1) := by decide +kernel
theorem dX6_drops_80 : decode cX6_drops 80 = .ok (.getfield 19, 3) := by decide +kernel
theorem dX6_drops_83 : decode cX6_drops 83 = .ok (.iload_n 1, 1) := by decide +kernel
theorem dX6_drops_84 : decode cX6_drops 84 = .ok (.iconst 0, 1) := by decide +kernel
theorem dX6_drops_85 : decode cX6_drops 85 = .ok (.iadd, 1) := by decide +kernel
theorem dX6_drops_86 : decode cX6_drops 86 = .ok (.iload_n 3, 1) := by decide +kernel
theorem dX6_drops_87 : decode cX6_drops 87 = .ok (.iadd, 1) := by decide +kernel
theorem dX6_drops_88 : decode cX6_drops 88 = .ok (.iaload, 1) := by decide +kernel
theorem dX6_drops_89 : decode cX6_drops 89 = .ok (.iastore, 1) := by decide +kernel
theorem dX6_drops_90 : decode cX6_drops 90 = .ok (.aload_n 0, 1) := by decide +kernel
theorem dX6_drops_91 : decode cX6_drops 91 = .ok (.getfield 19, 3) := by decide +kernel
theorem dX6_drops_94 : decode cX6_drops 94 = .ok (.iload_n 1, 1) := by decide +kernel
theorem dX6_drops_95 : decode cX6_drops 95 = .ok (.bipush 94, 2) := by decide +kernel
theorem dX6_drops_97 : decode cX6_drops 97 = .ok (.iadd, 1) := by decide +kernel
theorem dX6_drops_98 : decode cX6_drops 98 = .ok (.iload 4, 2) := by decide +kernel
theorem dX6_drops_100 : decode cX6_drops 100 = .ok (.iadd, 1) := by decide +kernel
theorem dX6_drops_101 : decode cX6_drops 101 = .ok (.iconst 1, 1) := by decide +kernel
theorem dX6_drops_102 : decode cX6_drops 102 = .ok (.iload_n 2, 1) := by decide +kernel
theorem dX6_drops_103 : decode cX6_drops 103 = .ok (.ishl, 1) := by decide +kernel
theorem dX6_drops_104 : decode cX6_drops 104 = .ok (.iastore, 1) := by decide +kernel
theorem dX6_drops_105 : decode cX6_drops 105 = .ok (.aload_n 0, 1) := by decide +kernel
theorem dX6_drops_106 : decode cX6_drops 106 = .ok (.getfield 19, 3) := by decide +kernel
theorem dX6_drops_109 : decode cX6_drops 109 = .ok (.iload_n 1, 1) := by decide +kernel
theorem dX6_drops_110 : decode cX6_drops 110 = .ok (.bipush 56, 2) := by decide +kernel
theorem dX6_drops_112 : decode cX6_drops 112 = .ok (.iadd, 1) := by decide +kernel
theorem dX6_drops_113 : decode cX6_drops 113 = .ok (.iload 4, 2) := by decide +kernel
theorem dX6_drops_115 : decode cX6_drops 115 = .ok (.iadd, 1) := by decide +kernel
theorem dX6_drops_116 : decode cX6_drops 116 = .ok (.iconst 1, 1) := by decide +kernel
theorem dX6_drops_117 : decode cX6_drops 117 = .ok (.iload_n 2, 1) := by decide +kernel
theorem dX6_drops_118 : decode cX6_drops 118 = .ok (.ishl, 1) := by decide +kernel
theorem dX6_drops_119 : decode cX6_drops 119 = .ok (.aload_n 0, 1) := by decide +kernel
theorem dX6_drops_120 : decode cX6_drops 120 = .ok (.getfield 19, 3) := by decide +kernel
theorem dX6_drops_123 : decode cX6_drops 123 = .ok (.iload_n 1, 1) := by decide +kernel
theorem dX6_drops_124 : decode cX6_drops 124 = .ok (.iconst 0, 1) := by decide +kernel
theorem dX6_drops_125 : decode cX6_drops 125 = .ok (.iadd, 1) := by decide +kernel
theorem dX6_drops_126 : decode cX6_drops 126 = .ok (.iload_n 3, 1) := by decide +kernel
theorem dX6_drops_127 : decode cX6_drops 127 = .ok (.iadd, 1) := by decide +kernel
theorem dX6_drops_128 : decode cX6_drops 128 = .ok (.iaload, 1) := by decide +kernel
theorem dX6_drops_129 : decode cX6_drops 129 = .ok (.iconst (-1), 1) := by decide +kernel
theorem dX6_drops_130 : decode cX6_drops 130 = .ok (.if_icmp .ne 7, 3) := by decide +kernel
theorem dX6_drops_133 : decode cX6_drops 133 = .ok (.iconst 0, 1) := by decide +kernel
theorem dX6_drops_134 : decode cX6_drops 134 = .ok (.goto 14, 3) := by decide +kernel
theorem dX6_drops_137 : decode cX6_drops 137 = .ok (.aload_n 0, 1) := by decide +kernel
theorem dX6_drops_138 : decode cX6_drops 138 = .ok (.getfield 19, 3) := by decide +kernel
theorem dX6_drops_141 : decode cX6_drops 141 = .ok (.iload_n 1, 1) := by decide +kernel
theorem dX6_drops_142 : decode cX6_drops 142 = .ok (.bipush 8, 2) := by decide +kernel
theorem dX6_drops_144 : decode cX6_drops 144 = .ok (.iadd, 1) := by decide +kernel
theorem dX6_drops_145 : decode cX6_drops 145 = .ok (.iload_n 3, 1) := by decide +kernel
theorem dX6_drops_146 : decode cX6_drops 146 = .ok (.iadd, 1) := by decide +kernel
theorem dX6_drops_147 : decode cX6_drops 147 = .ok (.iaload, 1) := by decide +kernel
theorem dX6_drops_148 : decode cX6_drops 148 = .ok (.ior, 1) := by decide +kernel
theorem dX6_drops_149 : decode cX6_drops 149 = .ok (.iastore, 1) := by decide +kernel
theorem dX6_drops_150 : decode cX6_drops 150 = .ok (.iconst 1, 1) := by decide +kernel
theorem dX6_drops_151 : decode cX6_drops 151 = .ok (.ireturn, 1) := by decide +kernel
theorem dX6_gives_0 : decode cX6_gives 0 = .ok (.iload_n 3, 1) := by decide +kernel
theorem dX6_gives_1 : decode cX6_gives 1 = .ok (.iload 5, 2) := by decide +kernel
theorem dX6_gives_3 : decode cX6_gives 3 = .ok (.if_icmp .eq 30, 3) := by decide +kernel
theorem dX6_gives_6 : decode cX6_gives 6 = .ok (.aload_n 0, 1) := by decide +kernel
theorem dX6_gives_7 : decode cX6_gives 7 = .ok (.iload_n 1, 1) := by decide +kernel
theorem dX6_gives_8 : decode cX6_gives 8 = .ok (.iload_n 3, 1) := by decide +kernel
theorem dX6_gives_9 : decode cX6_gives 9 = .ok (.iload 4, 2) := by decide +kernel
theorem dX6_gives_11 : decode cX6_gives 11 = .ok (.invokevirtual 85, 3) := by decide +kernel
theorem dX6_gives_14 : decode cX6_gives 14 = .ok (.ifCond .ne 19, 3) := by decide +kernel
theorem dX6_gives_17 : decode cX6_gives 17 = .ok (.aload_n 0, 1) := by decide +kernel
theorem dX6_gives_18 : decode cX6_gives 18 = .ok (.getfield 19, 3) := by decide +kernel
theorem dX6_gives_21 : decode cX6_gives 21 = .ok (.iload_n 1, 1) := by decide +kernel
theorem dX6_gives_22 : decode cX6_gives 22 = .ok (.bipush 36, 2) := by decide +kernel
theorem dX6_gives_24 : decode cX6_gives 24 = .ok (.iadd, 1) := by decide +kernel
theorem dX6_gives_25 : decode cX6_gives 25 = .ok (.iload 4, 2) := by decide +kernel
theorem dX6_gives_27 : decode cX6_gives 27 = .ok (.iadd, 1) := by decide +kernel
theorem dX6_gives_28 : decode cX6_gives 28 = .ok (.iaload, 1) := by decide +kernel
theorem dX6_gives_29 : decode cX6_gives 29 = .ok (.iconst 1, 1) := by decide +kernel
theorem dX6_gives_30 : decode cX6_gives 30 = .ok (.if_icmp .ne 5, 3) := by decide +kernel
theorem dX6_gives_33 : decode cX6_gives 33 = .ok (.iconst 0, 1) := by decide +kernel
theorem dX6_gives_34 : decode cX6_gives 34 = .ok (.ireturn, 1) := by decide +kernel
theorem dX6_gives_35 : decode cX6_gives 35 = .ok (.aload_n 0, 1) := by decide +kernel
theorem dX6_gives_36 : decode cX6_gives 36 = .ok (.getfield 19, 3) := by decide +kernel
theorem dX6_gives_39 : decode cX6_gives 39 = .ok (.iload_n 1, 1) := by decide +kernel
theorem dX6_gives_40 : decode cX6_gives 40 = .ok (.iconst 0, 1) := by decide +kernel
theorem dX6_gives_41 : decode cX6_gives 41 = .ok (.iadd, 1) := by decide +kernel
theorem dX6_gives_42 : decode cX6_gives 42 = .ok (.iload_n 3, 1) := by decide +kernel
theorem dX6_gives_43 : decode cX6_gives 43 = .ok (.iadd, 1) := by decide +kernel
theorem dX6_gives_44 : decode cX6_gives 44 = .ok (.iaload, 1) := by decide +kernel
theorem dX6_gives_45 : decode cX6_gives 45 = .ok (.istore 6, 2) := by decide +kernel
theorem dX6_gives_47 : decode cX6_gives 47 = .ok (.aload_n 0, 1) := by decide +kernel
theorem dX6_gives_48 : decode cX6_gives 48 = .ok (.getfield 19, 3) := by decide +kernel
theorem dX6_gives_51 : decode cX6_gives 51 = .ok (.iload_n 1, 1) := by decide +kernel
theorem dX6_gives_52 : decode cX6_gives 52 = .ok (.iconst 0, 1) := by decide +kernel
theorem dX6_gives_53 : decode cX6_gives 53 = .ok (.iadd, 1) := by decide +kernel
theorem dX6_gives_54 : decode cX6_gives 54 = .ok (.iload 5, 2) := by decide +kernel
theorem dX6_gives_56 : decode cX6_gives 56 = .ok (.iadd, 1) := by decide +kernel
theorem dX6_gives_57 : decode cX6_gives 57 = .ok (.iaload, 1) := by decide +kernel
theorem dX6_gives_58 : decode cX6_gives 58 = .ok (.istore 7, 2) := by decide +kernel
theorem dX6_gives_60 : decode cX6_gives 60 = .ok (.iload 6, 2) := by decide +kernel
theorem dX6_gives_62 : decode cX6_gives 62 = .ok (.iconst (-1), 1) := by decide +kernel
theorem dX6_gives_63 : decode cX6_gives 63 = .ok (.if_icmp .eq 18, 3) := by decide +kernel
theorem dX6_gives_66 : decode cX6_gives 66 = .ok (.iload 7, 2) := by decide +kernel
theorem dX6_gives_68 : decode cX6_gives 68 = .ok (.iconst (-1), 1) := by decide +kernel
theorem dX6_gives_69 : decode cX6_gives 69 = .ok (.if_icmp .eq 12, 3) := by decide +kernel
theorem dX6_gives_72 : decode cX6_gives 72 = .ok (.iload 6, 2) := by decide +kernel
theorem dX6_gives_74 : decode cX6_gives 74 = .ok (.iload 7, 2) := by decide +kernel
theorem dX6_gives_76 : decode cX6_gives 76 = .ok (.if_icmp .eq 5, 3) := by decide +kernel
theorem dX6_gives_79 : decode cX6_gives 79 = .ok (.iconst 0, 1) := by decide +kernel
theorem dX6_gives_80 : decode cX6_gives 80 = .ok (.ireturn, 1) := by decide +kernel
theorem dX6_gives_81 : decode cX6_gives 81 = .ok (.iload 6, 2) := by decide +kernel
theorem dX6_gives_83 : decode cX6_gives 83 = .ok (.iconst (-1), 1) := by decide +kernel
theorem dX6_gives_84 : decode cX6_gives 84 = .ok (.if_icmp .ne 48, 3) := by decide +kernel
theorem dX6_gives_87 : decode cX6_gives 87 = .ok (.iload 7, 2) := by decide +kernel
theorem dX6_gives_89 : decode cX6_gives 89 = .ok (.iconst (-1), 1) := by decide +kernel
theorem dX6_gives_90 : decode cX6_gives 90 = .ok (.if_icmp .eq 42, 3) := by decide +kernel
theorem dX6_gives_93 : decode cX6_gives 93 = .ok (.aload_n 0, 1) := by decide +kernel
theorem dX6_gives_94 : decode cX6_gives 94 = .ok (.getfield 19, 3) := by decide +kernel
theorem dX6_gives_97 : decode cX6_gives 97 = .ok (.iload_n 1, 1) := by decide +kernel
theorem dX6_gives_98 : decode cX6_gives 98 = .ok (.iconst 0, 1) := by decide +kernel
theorem dX6_gives_99 : decode cX6_gives 99 = .ok (.iadd, 1) := by decide +kernel
theorem dX6_gives_100 : decode cX6_gives 100 = .ok (.iload_n 3, 1) := by decide +kernel
theorem dX6_gives_101 : decode cX6_gives 101 = .ok (.iadd, 1) := by decide +kernel
theorem dX6_gives_102 : decode cX6_gives 102 = .ok (.iload 7, 2) := by decide +kernel
theorem dX6_gives_104 : decode cX6_gives 104 = .ok (.iastore, 1) := by decide +kernel
theorem dX6_gives_105 : decode cX6_gives 105 = .ok (.aload_n 0, 1) := by decide +kernel
theorem dX6_gives_106 : decode cX6_gives 106 = .ok (.getfield 19, 3) := by decide +kernel
theorem dX6_gives_109 : decode cX6_gives 109 = .ok (.iload_n 1, 1) := by decide +kernel
theorem dX6_gives_110 : decode cX6_gives 110 = .ok (.bipush 8, 2) := by decide +kernel
theorem dX6_gives_112 : decode cX6_gives 112 = .ok (.iadd, 1) := by decide +kernel
theorem dX6_gives_113 : decode cX6_gives 113 = .ok (.iload_n 3, 1) := by decide +kernel
theorem dX6_gives_114 : decode cX6_gives 114 = .ok (.iadd, 1) := by decide +kernel
theorem dX6_gives_115 : decode cX6_gives 115 = .ok (.iconst 1, 1) := by decide +kernel
theorem dX6_gives_116 : decode cX6_gives 116 = .ok (.iload_n 2, 1) := by decide +kernel
theorem dX6_gives_117 : decode cX6_gives 117 = .ok (.ishl, 1) := by decide +kernel
theorem dX6_gives_118 : decode cX6_gives 118 = .ok (.aload_n 0, 1) := by decide +kernel
theorem dX6_gives_119 : decode cX6_gives 119 = .ok (.getfield 19, 3) := by decide +kernel
theorem dX6_gives_122 : decode cX6_gives 122 = .ok (.iload_n 1, 1) := by decide +kernel
theorem dX6_gives_123 : decode cX6_gives 123 = .ok (.bipush 8, 2) := by decide +kernel
theorem dX6_gives_125 : decode cX6_gives 125 = .ok (.iadd, 1) := by decide +kernel
theorem dX6_gives_126 : decode cX6_gives 126 = .ok (.iload 5, 2) := by decide +kernel
theorem dX6_gives_128 : decode cX6_gives 128 = .ok (.iadd, 1) := by decide +kernel
theorem dX6_gives_129 : decode cX6_gives 129 = .ok (.iaload, 1) := by decide +kernel
theorem dX6_gives_130 : decode cX6_gives 130 = .ok (.ior, 1) := by decide +kernel
theorem dX6_gives_131 : decode cX6_gives 131 = .ok (.iastore, 1) := by decide +kernel
theorem dX6_gives_132 : decode cX6_gives 132 = .ok (.iload 6, 2) := by decide +kernel
theorem dX6_gives_134 : decode cX6_gives 134 = .ok (.iconst (-1), 1) := by decide +kernel
theorem dX6_gives_135 : decode cX6_gives 135 = .ok (.if_icmp .eq 49, 3) := by decide +kernel
theorem dX6_gives_138 : decode cX6_gives 138 = .ok (.iload 7, 2) := by decide +kernel
theorem dX6_gives_140 : decode cX6_gives 140 = .ok (.iconst (-1), 1) := by decide +kernel
theorem dX6_gives_141 : decode cX6_gives 141 = .ok (.if_icmp .ne 43, 3) := by decide +kernel
theorem dX6_gives_144 : decode cX6_gives 144 = .ok (.aload_n 0, 1) := by decide +kernel
theorem dX6_gives_145 : decode cX6_gives 145 = .ok (.getfield 19, 3) := by decide +kernel
theorem dX6_gives_148 : decode cX6_gives 148 = .ok (.iload_n 1, 1) := by decide +kernel
theorem dX6_gives_149 : decode cX6_gives 149 = .ok (.iconst 0, 1) := by decide +kernel
theorem dX6_gives_150 : decode cX6_gives 150 = .ok (.iadd, 1) := by decide +kernel
theorem dX6_gives_151 : decode cX6_gives 151 = .ok (.iload 5, 2) := by decide +kernel
theorem dX6_gives_153 : decode cX6_gives 153 = .ok (.iadd, 1) := by decide +kernel
theorem dX6_gives_154 : decode cX6_gives 154 = .ok (.iload 6, 2) := by decide +kernel
theorem dX6_gives_156 : decode cX6_gives 156 = .ok (.iastore, 1) := by decide +kernel
theorem dX6_gives_157 : decode cX6_gives 157 = .ok (.aload_n 0, 1) := by decide +kernel
theorem dX6_gives_158 : decode cX6_gives 158 = .ok (.getfield 19, 3) := by decide +kernel
theorem dX6_gives_161 : decode cX6_gives 161 = .ok (.iload_n 1, 1) := by decide +kernel
theorem dX6_gives_162 : decode cX6_gives 162 = .ok (.bipush 8, 2) := by decide +kernel
theorem dX6_gives_164 : decode cX6_gives 164 = .ok (.iadd, 1) := by decide +kernel
theorem dX6_gives_165 : decode cX6_gives 165 = .ok (.iload 5, 2) := by decide +kernel
theorem dX6_gives_167 : decode cX6_gives 167 = .ok (.iadd, 1) := by decide +kernel
theorem dX6_gives_168 : decode cX6_gives 168 = .ok (.iconst 1, 1) := by decide +kernel
theorem dX6_gives_169 : decode cX6_gives 169 = .ok (.iload_n 2, 1) := by decide +kernel
theorem dX6_gives_170 : decode cX6_gives 170 = .ok (.ishl, 1) := by decide +kernel
theorem dX6_gives_171 : decode cX6_gives 171 = .ok (.aload_n 0, 1) := by decide +kernel
theorem dX6_gives_172 : decode cX6_gives 172 = .ok (.getfield 19, 3) := by decide +kernel
theorem dX6_gives_175 : decode cX6_gives 175 = .ok (.iload_n 1, 1) := by decide +kernel
theorem dX6_gives_176 : decode cX6_gives 176 = .ok (.bipush 8, 2) := by decide +kernel
theorem dX6_gives_178 : decode cX6_gives 178 = .ok (.iadd, 1) := by decide +kernel
theorem dX6_gives_179 : decode cX6_gives 179 = .ok (.iload_n 3, 1) := by decide +kernel
theorem dX6_gives_180 : decode cX6_gives 180 = .ok (.iadd, 1) := by decide +kernel
theorem dX6_gives_181 : decode cX6_gives 181 = .ok (.iaload, 1) := by decide +kernel
theorem dX6_gives_182 : decode cX6_gives 182 = .ok (.ior, 1) := by decide +kernel
theorem dX6_gives_183 : decode cX6_gives 183 = .ok (.iastore, 1) := by decide +kernel
theorem dX6_gives_184 : decode cX6_gives 184 = .ok (.aload_n 0, 1) := by decide +kernel
theorem dX6_gives_185 : decode cX6_gives 185 = .ok (.iload_n 1, 1) := by decide +kernel
theorem dX6_gives_186 : decode cX6_gives 186 = .ok (.iload_n 2, 1) := by decide +kernel
theorem dX6_gives_187 : decode cX6_gives 187 = .ok (.iload 5, 2) := by decide +kernel
theorem dX6_gives_189 : decode cX6_gives 189 = .ok (.iload 4, 2) := by decide +kernel
theorem dX6_gives_191 : decode cX6_gives 191 = .ok (.invokevirtual 88, 3) := by decide +kernel
theorem dX6_gives_194 : decode cX6_gives 194 = .ok (.iconst 1, 1) := by decide +kernel
theorem dX6_gives_195 : decode cX6_gives 195 = .ok (.ireturn, 1) := by decide +kernel
theorem dX6_readings_0 : decode cX6_readings 0 = .ok (.iload_n 1, 1) := by decide +kernel
theorem dX6_readings_1 : decode cX6_readings 1 = .ok (.iconst 0, 1) := by decide +kernel
theorem dX6_readings_2 : decode cX6_readings 2 = .ok (.aload_n 0, 1) := by decide +kernel
theorem dX6_readings_3 : decode cX6_readings 3 = .ok (.getfield 35, 3) := by decide +kernel
theorem dX6_readings_6 : decode cX6_readings 6 = .ok (.invokestatic 31, 3) := by decide +kernel
theorem dX6_readings_9 : decode cX6_readings 9 = .ok (.ifCond .ne 5, 3) := by decide +kernel
theorem dX6_readings_12 : decode cX6_readings 12 = .ok (.iconst (-1), 1) := by decide +kernel
theorem dX6_readings_13 : decode cX6_readings 13 = .ok (.ireturn, 1) := by decide +kernel
theorem dX6_readings_14 : decode cX6_readings 14 = .ok (.aload_n 0, 1) := by decide +kernel
theorem dX6_readings_15 : decode cX6_readings 15 = .ok (.iload_n 1, 1) := by decide +kernel
theorem dX6_readings_16 : decode cX6_readings 16 = .ok (.invokevirtual 50, 3) := by decide +kernel
theorem dX6_readings_19 : decode cX6_readings 19 = .ok (.aload_n 0, 1) := by decide +kernel
theorem dX6_readings_20 : decode cX6_readings 20 = .ok (.getfield 54, 3) := by decide +kernel
theorem dX6_readings_23 : decode cX6_readings 23 = .ok (.ireturn, 1) := by decide +kernel
theorem dX6_means_0 : decode cX6_means 0 = .ok (.iload_n 1, 1) := by decide +kernel
theorem dX6_means_1 : decode cX6_means 1 = .ok (.iconst 0, 1) := by decide +kernel
theorem dX6_means_2 : decode cX6_means 2 = .ok (.aload_n 0, 1) := by decide +kernel
theorem dX6_means_3 : decode cX6_means 3 = .ok (.getfield 35, 3) := by decide +kernel
theorem dX6_means_6 : decode cX6_means 6 = .ok (.iconst 1, 1) := by decide +kernel
theorem dX6_means_7 : decode cX6_means 7 = .ok (.isub, 1) := by decide +kernel
theorem dX6_means_8 : decode cX6_means 8 = .ok (.invokestatic 31, 3) := by decide +kernel
theorem dX6_means_11 : decode cX6_means 11 = .ok (.ifCond .eq 16, 3) := by decide +kernel
theorem dX6_means_14 : decode cX6_means 14 = .ok (.iload_n 2, 1) := by decide +kernel
theorem dX6_means_15 : decode cX6_means 15 = .ok (.iconst 0, 1) := by decide +kernel
theorem dX6_means_16 : decode cX6_means 16 = .ok (.iconst 1, 1) := by decide +kernel
theorem dX6_means_17 : decode cX6_means 17 = .ok (.invokestatic 31, 3) := by decide +kernel
theorem dX6_means_20 : decode cX6_means 20 = .ok (.ifCond .eq 7, 3) := by decide +kernel
theorem dX6_means_23 : decode cX6_means 23 = .ok (.iload_n 3, 1) := by decide +kernel
theorem dX6_means_24 : decode cX6_means 24 = .ok (.ifCond .ge 5, 3) := by decide +kernel
theorem dX6_means_27 : decode cX6_means 27 = .ok (.iconst (-1), 1) := by decide +kernel
theorem dX6_means_28 : decode cX6_means 28 = .ok (.ireturn, 1) := by decide +kernel
theorem dX6_means_29 : decode cX6_means 29 = .ok (.aload_n 0, 1) := by decide +kernel
theorem dX6_means_30 : decode cX6_means 30 = .ok (.aload_n 0, 1) := by decide +kernel
theorem dX6_means_31 : decode cX6_means 31 = .ok (.getfield 35, 3) := by decide +kernel
theorem dX6_means_34 : decode cX6_means 34 = .ok (.invokevirtual 50, 3) := by decide +kernel
theorem dX6_means_37 : decode cX6_means 37 = .ok (.iload_n 3, 1) := by decide +kernel
theorem dX6_means_38 : decode cX6_means 38 = .ok (.aload_n 0, 1) := by decide +kernel
theorem dX6_means_39 : decode cX6_means 39 = .ok (.getfield 54, 3) := by decide +kernel
theorem dX6_means_42 : decode cX6_means 42 = .ok (.if_icmp .ge 24, 3) := by decide +kernel
theorem dX6_means_45 : decode cX6_means 45 = .ok (.aload_n 0, 1) := by decide +kernel
theorem dX6_means_46 : decode cX6_means 46 = .ok (.getfield 16, 3) := by decide +kernel
theorem dX6_means_49 : decode cX6_means 49 = .ok (.bipush 104, 2) := by decide +kernel
theorem dX6_means_51 : decode cX6_means 51 = .ok (.iload_n 3, 1) := by decide +kernel
theorem dX6_means_52 : decode cX6_means 52 = .ok (.imul, 1) := by decide +kernel
theorem dX6_means_53 : decode cX6_means 53 = .ok (.bipush 66, 2) := by decide +kernel
theorem dX6_means_55 : decode cX6_means 55 = .ok (.iadd, 1) := by decide +kernel
theorem dX6_means_56 : decode cX6_means 56 = .ok (.iconst 2, 1) := by decide +kernel
theorem dX6_means_57 : decode cX6_means 57 = .ok (.iload_n 1, 1) := by decide +kernel
theorem dX6_means_58 : decode cX6_means 58 = .ok (.imul, 1) := by decide +kernel
theorem dX6_means_59 : decode cX6_means 59 = .ok (.iadd, 1) := by decide +kernel
theorem dX6_means_60 : decode cX6_means 60 = .ok (.iload_n 2, 1) := by decide +kernel
theorem dX6_means_61 : decode cX6_means 61 = .ok (.iadd, 1) := by decide +kernel
theorem dX6_means_62 : decode cX6_means 62 = .ok (.iaload, 1) := by decide +kernel
theorem dX6_means_63 : decode cX6_means 63 = .ok (.goto 4, 3) := by decide +kernel
theorem dX6_means_66 : decode cX6_means 66 = .ok (.iconst (-1), 1) := by decide +kernel
theorem dX6_means_67 : decode cX6_means 67 = .ok (.ireturn, 1) := by decide +kernel
theorem dX6_isQuestion_0 : decode cX6_isQuestion 0 = .ok (.iload_n 0, 1) := by decide +kernel
theorem dX6_isQuestion_1 : decode cX6_isQuestion 1 = .ok (.iconst 0, 1) := by decide +kernel
theorem dX6_isQuestion_2 : decode cX6_isQuestion 2 = .ok (.iconst 3, 1) := by decide +kernel
theorem dX6_isQuestion_3 : decode cX6_isQuestion 3 = .ok (.invokestatic 31, 3) := by decide +kernel
theorem dX6_isQuestion_6 : decode cX6_isQuestion 6 = .ok (.ifCond .eq 31, 3) := by decide +kernel
theorem dX6_isQuestion_9 : decode cX6_isQuestion 9 = .ok (.iload_n 1, 1) := by decide +kernel
theorem dX6_isQuestion_10 : decode cX6_isQuestion 10 = .ok (.iconst 0, 1) := by decide +kernel
theorem dX6_isQuestion_11 : decode cX6_isQuestion 11 = .ok (.iload_n 0, 1) := by decide +kernel
theorem dX6_isQuestion_12 : decode cX6_isQuestion 12 = .ok (.ifCond .eq 8, 3) := by decide +kernel
theorem dX6_isQuestion_15 : decode cX6_isQuestion 15 = .ok (.iload_n 0, 1) := by decide +kernel
theorem dX6_isQuestion_16 : decode cX6_isQuestion 16 = .ok (.iconst 3, 1) := by decide +kernel
theorem dX6_isQuestion_17 : decode cX6_isQuestion 17 = .ok (.if_icmp .ne 8, 3) := by decide +kernel
theorem dX6_isQuestion_20 : decode cX6_isQuestion 20 = .ok (.bipush 7, 2) := by decide +kernel
theorem dX6_isQuestion_22 : decode cX6_isQuestion 22 = .ok (.goto 5, 3) := by decide +kernel
theorem dX6_isQuestion_25 : decode cX6_isQuestion 25 = .ok (.bipush 9, 2) := by decide +kernel
theorem dX6_isQuestion_27 : decode cX6_isQuestion 27 = .ok (.invokestatic 31, 3) := by decide +kernel
theorem dX6_isQuestion_30 : decode cX6_isQuestion 30 = .ok (.ifCond .eq 7, 3) := by decide +kernel
theorem dX6_isQuestion_33 : decode cX6_isQuestion 33 = .ok (.iconst 1, 1) := by decide +kernel
theorem dX6_isQuestion_34 : decode cX6_isQuestion 34 = .ok (.goto 4, 3) := by decide +kernel
theorem dX6_isQuestion_37 : decode cX6_isQuestion 37 = .ok (.iconst 0, 1) := by decide +kernel
theorem dX6_isQuestion_38 : decode cX6_isQuestion 38 = .ok (.ireturn, 1) := by decide +kernel
theorem dX6_tells_0 : decode cX6_tells 0 = .ok (.bipush 104, 2) := by decide +kernel
theorem dX6_tells_2 : decode cX6_tells 2 = .ok (.iload_n 3, 1) := by decide +kernel
theorem dX6_tells_3 : decode cX6_tells 3 = .ok (.imul, 1) := by decide +kernel
theorem dX6_tells_4 : decode cX6_tells 4 = .ok (.istore 4, 2) := by decide +kernel
theorem dX6_tells_6 : decode cX6_tells 6 = .ok (.iload_n 1, 1) := by decide +kernel
theorem dX6_tells_7 : decode cX6_tells 7 = .ok (.ifCond .ne 35, 3) := by decide +kernel
theorem dX6_tells_10 : decode cX6_tells 10 = .ok (.aload_n 0, 1) := by decide +kernel
theorem dX6_tells_11 : decode cX6_tells 11 = .ok (.getfield 16, 3) := by decide +kernel
theorem dX6_tells_14 : decode cX6_tells 14 = .ok (.iload 4, 2) := by decide +kernel
theorem dX6_tells_16 : decode cX6_tells 16 = .ok (.iconst 0, 1) := by decide +kernel
theorem dX6_tells_17 : decode cX6_tells 17 = .ok (.iadd, 1) := by decide +kernel
theorem dX6_tells_18 : decode cX6_tells 18 = .ok (.iload_n 2, 1) := by decide +kernel
theorem dX6_tells_19 : decode cX6_tells 19 = .ok (.iadd, 1) := by decide +kernel
theorem dX6_tells_20 : decode cX6_tells 20 = .ok (.iaload, 1) := by decide +kernel
theorem dX6_tells_21 : decode cX6_tells 21 = .ok (.iconst (-1), 1) := by decide +kernel
theorem dX6_tells_22 : decode cX6_tells 22 = .ok (.if_icmp .ne 8, 3) := by decide +kernel
theorem dX6_tells_25 : decode cX6_tells 25 = .ok (.bipush (-2), 2) := by decide +kernel
theorem dX6_tells_27 : decode cX6_tells 27 = .ok (.goto 14, 3) := by decide +kernel
theorem dX6_tells_30 : decode cX6_tells 30 = .ok (.aload_n 0, 1) := by decide +kernel
theorem dX6_tells_31 : decode cX6_tells 31 = .ok (.getfield 16, 3) := by decide +kernel
theorem dX6_tells_34 : decode cX6_tells 34 = .ok (.iload 4, 2) := by decide +kernel
theorem dX6_tells_36 : decode cX6_tells 36 = .ok (.iconst 0, 1) := by decide +kernel
theorem dX6_tells_37 : decode cX6_tells 37 = .ok (.iadd, 1) := by decide +kernel
theorem dX6_tells_38 : decode cX6_tells 38 = .ok (.iload_n 2, 1) := by decide +kernel
theorem dX6_tells_39 : decode cX6_tells 39 = .ok (.iadd, 1) := by decide +kernel
theorem dX6_tells_40 : decode cX6_tells 40 = .ok (.iaload, 1) := by decide +kernel
theorem dX6_tells_41 : decode cX6_tells 41 = .ok (.ireturn, 1) := by decide +kernel
theorem dX6_tells_42 : decode cX6_tells 42 = .ok (.iload_n 1, 1) := by decide +kernel
theorem dX6_tells_43 : decode cX6_tells 43 = .ok (.iconst 3, 1) := by decide +kernel
theorem dX6_tells_44 : decode cX6_tells 44 = .ok (.if_icmp .ne 52, 3) := by decide +kernel
theorem dX6_tells_47 : decode cX6_tells 47 = .ok (.iconst 0, 1) := by decide +kernel
theorem dX6_tells_48 : decode cX6_tells 48 = .ok (.istore 5, 2) := by decide +kernel
theorem dX6_tells_50 : decode cX6_tells 50 = .ok (.iconst 0, 1) := by decide +kernel
theorem dX6_tells_51 : decode cX6_tells 51 = .ok (.istore 6, 2) := by decide +kernel
theorem dX6_tells_53 : decode cX6_tells 53 = .ok (.iload 6, 2) := by decide +kernel
theorem dX6_tells_55 : decode cX6_tells 55 = .ok (.bipush 10, 2) := by decide +kernel
theorem dX6_tells_57 : decode cX6_tells 57 = .ok (.if_icmp .ge 36, 3) := by decide +kernel
theorem dX6_tells_60 : decode cX6_tells 60 = .ok (.iload 5, 2) := by decide +kernel
theorem dX6_tells_62 : decode cX6_tells 62 = .ok (.aload_n 0, 1) := by decide +kernel
theorem dX6_tells_63 : decode cX6_tells 63 = .ok (.getfield 16, 3) := by decide +kernel
theorem dX6_tells_66 : decode cX6_tells 66 = .ok (.iload 4, 2) := by decide +kernel
theorem dX6_tells_68 : decode cX6_tells 68 = .ok (.bipush 16, 2) := by decide +kernel
theorem dX6_tells_70 : decode cX6_tells 70 = .ok (.iadd, 1) := by decide +kernel
theorem dX6_tells_71 : decode cX6_tells 71 = .ok (.iload 6, 2) := by decide +kernel
theorem dX6_tells_73 : decode cX6_tells 73 = .ok (.iadd, 1) := by decide +kernel
theorem dX6_tells_74 : decode cX6_tells 74 = .ok (.iaload, 1) := by decide +kernel
theorem dX6_tells_75 : decode cX6_tells 75 = .ok (.iload_n 2, 1) := by decide +kernel
theorem dX6_tells_76 : decode cX6_tells 76 = .ok (.if_icmp .ne 7, 3) := by decide +kernel
theorem dX6_tells_79 : decode cX6_tells 79 = .ok (.iconst 1, 1) := by decide +kernel
theorem dX6_tells_80 : decode cX6_tells 80 = .ok (.goto 4, 3) := by decide +kernel
theorem dX6_tells_83 : decode cX6_tells 83 = .ok (.iconst 0, 1) := by decide +kernel
theorem dX6_tells_84 : decode cX6_tells 84 = .ok (.iadd, 1) := by decide +kernel
theorem dX6_tells_85 : decode cX6_tells 85 = .ok (.istore 5, 2) := by decide +kernel
theorem dX6_tells_87 : decode cX6_tells 87 = .ok (.iinc 6 1, 3) := by decide +kernel
theorem dX6_tells_90 : decode cX6_tells 90 = .ok (.goto (-37), 3) := by decide +kernel
theorem dX6_tells_93 : decode cX6_tells 93 = .ok (.iload 5, 2) := by decide +kernel
theorem dX6_tells_95 : decode cX6_tells 95 = .ok (.ireturn, 1) := by decide +kernel
theorem dX6_tells_96 : decode cX6_tells 96 = .ok (.aload_n 0, 1) := by decide +kernel
theorem dX6_tells_97 : decode cX6_tells 97 = .ok (.getfield 16, 3) := by decide +kernel
theorem dX6_tells_100 : decode cX6_tells 100 = .ok (.iload 4, 2) := by decide +kernel
theorem dX6_tells_102 : decode cX6_tells 102 = .ok (.bipush 16, 2) := by decide +kernel
theorem dX6_tells_104 : decode cX6_tells 104 = .ok (.iadd, 1) := by decide +kernel
theorem dX6_tells_105 : decode cX6_tells 105 = .ok (.iload_n 2, 1) := by decide +kernel
theorem dX6_tells_106 : decode cX6_tells 106 = .ok (.iadd, 1) := by decide +kernel
theorem dX6_tells_107 : decode cX6_tells 107 = .ok (.iaload, 1) := by decide +kernel
theorem dX6_tells_108 : decode cX6_tells 108 = .ok (.istore 5, 2) := by decide +kernel
theorem dX6_tells_110 : decode cX6_tells 110 = .ok (.aload_n 0, 1) := by decide +kernel
theorem dX6_tells_111 : decode cX6_tells 111 = .ok (.getfield 16, 3) := by decide +kernel
theorem dX6_tells_114 : decode cX6_tells 114 = .ok (.iload 4, 2) := by decide +kernel
theorem dX6_tells_116 : decode cX6_tells 116 = .ok (.bipush 36, 2) := by decide +kernel
theorem dX6_tells_118 : decode cX6_tells 118 = .ok (.iadd, 1) := by decide +kernel
theorem dX6_tells_119 : decode cX6_tells 119 = .ok (.iload_n 2, 1) := by decide +kernel
theorem dX6_tells_120 : decode cX6_tells 120 = .ok (.iadd, 1) := by decide +kernel
theorem dX6_tells_121 : decode cX6_tells 121 = .ok (.iaload, 1) := by decide +kernel
theorem dX6_tells_122 : decode cX6_tells 122 = .ok (.iconst 1, 1) := by decide +kernel
theorem dX6_tells_123 : decode cX6_tells 123 = .ok (.if_icmp .ne 7, 3) := by decide +kernel
theorem dX6_tells_126 : decode cX6_tells 126 = .ok (.iconst 1, 1) := by decide +kernel
theorem dX6_tells_127 : decode cX6_tells 127 = .ok (.goto 4, 3) := by decide +kernel
theorem dX6_tells_130 : decode cX6_tells 130 = .ok (.iconst 0, 1) := by decide +kernel
theorem dX6_tells_131 : decode cX6_tells 131 = .ok (.istore 6, 2) := by decide +kernel
theorem dX6_tells_133 : decode cX6_tells 133 = .ok (.iload_n 1, 1) := by decide +kernel
theorem dX6_tells_134 : decode cX6_tells 134 = .ok (.iconst 2, 1) := by decide +kernel
theorem dX6_tells_135 : decode cX6_tells 135 = .ok (.if_icmp .ne 27, 3) := by decide +kernel
theorem dX6_tells_138 : decode cX6_tells 138 = .ok (.iload 5, 2) := by decide +kernel
theorem dX6_tells_140 : decode cX6_tells 140 = .ok (.iconst (-1), 1) := by decide +kernel
theorem dX6_tells_141 : decode cX6_tells 141 = .ok (.if_icmp .eq 8, 3) := by decide +kernel
theorem dX6_tells_144 : decode cX6_tells 144 = .ok (.iload 5, 2) := by decide +kernel
theorem dX6_tells_146 : decode cX6_tells 146 = .ok (.goto 15, 3) := by decide +kernel
theorem dX6_tells_149 : decode cX6_tells 149 = .ok (.iload 6, 2) := by decide +kernel
theorem dX6_tells_151 : decode cX6_tells 151 = .ok (.ifCond .eq 8, 3) := by decide +kernel
theorem dX6_tells_154 : decode cX6_tells 154 = .ok (.bipush 9, 2) := by decide +kernel
theorem dX6_tells_156 : decode cX6_tells 156 = .ok (.goto 5, 3) := by decide +kernel
theorem dX6_tells_159 : decode cX6_tells 159 = .ok (.bipush (-2), 2) := by decide +kernel
theorem dX6_tells_161 : decode cX6_tells 161 = .ok (.ireturn, 1) := by decide +kernel
theorem dX6_tells_162 : decode cX6_tells 162 = .ok (.iload 5, 2) := by decide +kernel
theorem dX6_tells_164 : decode cX6_tells 164 = .ok (.iconst (-1), 1) := by decide +kernel
theorem dX6_tells_165 : decode cX6_tells 165 = .ok (.if_icmp .eq 18, 3) := by decide +kernel
theorem dX6_tells_168 : decode cX6_tells 168 = .ok (.aload_n 0, 1) := by decide +kernel
theorem dX6_tells_169 : decode cX6_tells 169 = .ok (.getfield 16, 3) := by decide +kernel
theorem dX6_tells_172 : decode cX6_tells 172 = .ok (.iload 4, 2) := by decide +kernel
theorem dX6_tells_174 : decode cX6_tells 174 = .ok (.iconst 0, 1) := by decide +kernel
theorem dX6_tells_175 : decode cX6_tells 175 = .ok (.iadd, 1) := by decide +kernel
theorem dX6_tells_176 : decode cX6_tells 176 = .ok (.iload 5, 2) := by decide +kernel
theorem dX6_tells_178 : decode cX6_tells 178 = .ok (.iadd, 1) := by decide +kernel
theorem dX6_tells_179 : decode cX6_tells 179 = .ok (.iaload, 1) := by decide +kernel
theorem dX6_tells_180 : decode cX6_tells 180 = .ok (.goto 24, 3) := by decide +kernel
theorem dX6_tells_183 : decode cX6_tells 183 = .ok (.iload 6, 2) := by decide +kernel
theorem dX6_tells_185 : decode cX6_tells 185 = .ok (.ifCond .eq 18, 3) := by decide +kernel
theorem dX6_tells_188 : decode cX6_tells 188 = .ok (.aload_n 0, 1) := by decide +kernel
theorem dX6_tells_189 : decode cX6_tells 189 = .ok (.getfield 16, 3) := by decide +kernel
theorem dX6_tells_192 : decode cX6_tells 192 = .ok (.iload 4, 2) := by decide +kernel
theorem dX6_tells_194 : decode cX6_tells 194 = .ok (.bipush 46, 2) := by decide +kernel
theorem dX6_tells_196 : decode cX6_tells 196 = .ok (.iadd, 1) := by decide +kernel
theorem dX6_tells_197 : decode cX6_tells 197 = .ok (.iload_n 2, 1) := by decide +kernel
theorem dX6_tells_198 : decode cX6_tells 198 = .ok (.iadd, 1) := by decide +kernel
theorem dX6_tells_199 : decode cX6_tells 199 = .ok (.iaload, 1) := by decide +kernel
theorem dX6_tells_200 : decode cX6_tells 200 = .ok (.goto 4, 3) := by decide +kernel
theorem dX6_tells_203 : decode cX6_tells 203 = .ok (.iconst (-1), 1) := by decide +kernel
theorem dX6_tells_204 : decode cX6_tells 204 = .ok (.istore 7, 2) := by decide +kernel
theorem dX6_tells_206 : decode cX6_tells 206 = .ok (.iload 7, 2) := by decide +kernel
theorem dX6_tells_208 : decode cX6_tells 208 = .ok (.iconst (-1), 1) := by decide +kernel
theorem dX6_tells_209 : decode cX6_tells 209 = .ok (.if_icmp .ne 8, 3) := by decide +kernel
theorem dX6_tells_212 : decode cX6_tells 212 = .ok (.bipush (-2), 2) := by decide +kernel
theorem dX6_tells_214 : decode cX6_tells 214 = .ok (.goto 5, 3) := by decide +kernel
theorem dX6_tells_217 : decode cX6_tells 217 = .ok (.iload 7, 2) := by decide +kernel
theorem dX6_tells_219 : decode cX6_tells 219 = .ok (.ireturn, 1) := by decide +kernel
theorem dX6_by_0 : decode cX6_by 0 = .ok (.bipush 104, 2) := by decide +kernel
theorem dX6_by_2 : decode cX6_by 2 = .ok (.iload_n 3, 1) := by decide +kernel
theorem dX6_by_3 : decode cX6_by 3 = .ok (.imul, 1) := by decide +kernel
theorem dX6_by_4 : decode cX6_by 4 = .ok (.istore 4, 2) := by decide +kernel
theorem dX6_by_6 : decode cX6_by 6 = .ok (.aload_n 0, 1) := by decide +kernel
theorem dX6_by_7 : decode cX6_by 7 = .ok (.iload_n 1, 1) := by decide +kernel
theorem dX6_by_8 : decode cX6_by 8 = .ok (.iload_n 2, 1) := by decide +kernel
theorem dX6_by_9 : decode cX6_by 9 = .ok (.iload_n 3, 1) := by decide +kernel
theorem dX6_by_10 : decode cX6_by 10 = .ok (.invokevirtual 91, 3) := by decide +kernel
theorem dX6_by_13 : decode cX6_by 13 = .ok (.bipush (-2), 2) := by decide +kernel
theorem dX6_by_15 : decode cX6_by 15 = .ok (.if_icmp .ne 5, 3) := by decide +kernel
theorem dX6_by_18 : decode cX6_by 18 = .ok (.iconst 0, 1) := by decide +kernel
theorem dX6_by_19 : decode cX6_by 19 = .ok (.ireturn, 1) := by decide +kernel
theorem dX6_by_20 : decode cX6_by 20 = .ok (.iload_n 1, 1) := by decide +kernel
theorem dX6_by_21 : decode cX6_by 21 = .ok (.ifCond .ne 16, 3) := by decide +kernel
theorem dX6_by_24 : decode cX6_by 24 = .ok (.aload_n 0, 1) := by decide +kernel
theorem dX6_by_25 : decode cX6_by 25 = .ok (.getfield 16, 3) := by decide +kernel
theorem dX6_by_28 : decode cX6_by 28 = .ok (.iload 4, 2) := by decide +kernel
theorem dX6_by_30 : decode cX6_by 30 = .ok (.bipush 8, 2) := by decide +kernel
theorem dX6_by_32 : decode cX6_by 32 = .ok (.iadd, 1) := by decide +kernel
theorem dX6_by_33 : decode cX6_by 33 = .ok (.iload_n 2, 1) := by decide +kernel
theorem dX6_by_34 : decode cX6_by 34 = .ok (.iadd, 1) := by decide +kernel
theorem dX6_by_35 : decode cX6_by 35 = .ok (.iaload, 1) := by decide +kernel
theorem dX6_by_36 : decode cX6_by 36 = .ok (.ireturn, 1) := by decide +kernel
theorem dX6_by_37 : decode cX6_by 37 = .ok (.iload_n 1, 1) := by decide +kernel
theorem dX6_by_38 : decode cX6_by 38 = .ok (.iconst 3, 1) := by decide +kernel
theorem dX6_by_39 : decode cX6_by 39 = .ok (.if_icmp .ne 64, 3) := by decide +kernel
theorem dX6_by_42 : decode cX6_by 42 = .ok (.iconst 0, 1) := by decide +kernel
theorem dX6_by_43 : decode cX6_by 43 = .ok (.istore 5, 2) := by decide +kernel
theorem dX6_by_45 : decode cX6_by 45 = .ok (.iconst 0, 1) := by decide +kernel
theorem dX6_by_46 : decode cX6_by 46 = .ok (.istore 6, 2) := by decide +kernel
theorem dX6_by_48 : decode cX6_by 48 = .ok (.iload 6, 2) := by decide +kernel
theorem dX6_by_50 : decode cX6_by 50 = .ok (.bipush 10, 2) := by decide +kernel
theorem dX6_by_52 : decode cX6_by 52 = .ok (.if_icmp .ge 48, 3) := by decide +kernel
theorem dX6_by_55 : decode cX6_by 55 = .ok (.iload 5, 2) := by decide +kernel
theorem dX6_by_57 : decode cX6_by 57 = .ok (.aload_n 0, 1) := by decide +kernel
theorem dX6_by_58 : decode cX6_by 58 = .ok (.getfield 16, 3) := by decide +kernel
theorem dX6_by_61 : decode cX6_by 61 = .ok (.iload 4, 2) := by decide +kernel
theorem dX6_by_63 : decode cX6_by 63 = .ok (.bipush 16, 2) := by decide +kernel
theorem dX6_by_65 : decode cX6_by 65 = .ok (.iadd, 1) := by decide +kernel
theorem dX6_by_66 : decode cX6_by 66 = .ok (.iload 6, 2) := by decide +kernel
theorem dX6_by_68 : decode cX6_by 68 = .ok (.iadd, 1) := by decide +kernel
theorem dX6_by_69 : decode cX6_by 69 = .ok (.iaload, 1) := by decide +kernel
theorem dX6_by_70 : decode cX6_by 70 = .ok (.iload_n 2, 1) := by decide +kernel
theorem dX6_by_71 : decode cX6_by 71 = .ok (.if_icmp .ne 19, 3) := by decide +kernel
theorem dX6_by_74 : decode cX6_by 74 = .ok (.aload_n 0, 1) := by decide +kernel
theorem dX6_by_75 : decode cX6_by 75 = .ok (.getfield 16, 3) := by decide +kernel
theorem dX6_by_78 : decode cX6_by 78 = .ok (.iload 4, 2) := by decide +kernel
theorem dX6_by_80 : decode cX6_by 80 = .ok (.bipush 26, 2) := by decide +kernel
theorem dX6_by_82 : decode cX6_by 82 = .ok (.iadd, 1) := by decide +kernel
theorem dX6_by_83 : decode cX6_by 83 = .ok (.iload 6, 2) := by decide +kernel
theorem dX6_by_85 : decode cX6_by 85 = .ok (.iadd, 1) := by decide +kernel
theorem dX6_by_86 : decode cX6_by 86 = .ok (.iaload, 1) := by decide +kernel
theorem dX6_by_87 : decode cX6_by 87 = .ok (.goto 4, 3) := by decide +kernel
theorem dX6_by_90 : decode cX6_by 90 = .ok (.iconst 0, 1) := by decide +kernel
theorem dX6_by_91 : decode cX6_by 91 = .ok (.ior, 1) := by decide +kernel
theorem dX6_by_92 : decode cX6_by 92 = .ok (.istore 5, 2) := by decide +kernel
theorem dX6_by_94 : decode cX6_by 94 = .ok (.iinc 6 1, 3) := by decide +kernel
theorem dX6_by_97 : decode cX6_by 97 = .ok (.goto (-49), 3) := by decide +kernel
theorem dX6_by_100 : decode cX6_by 100 = .ok (.iload 5, 2) := by decide +kernel
theorem dX6_by_102 : decode cX6_by 102 = .ok (.ireturn, 1) := by decide +kernel
theorem dX6_by_103 : decode cX6_by 103 = .ok (.aload_n 0, 1) := by decide +kernel
theorem dX6_by_104 : decode cX6_by 104 = .ok (.getfield 16, 3) := by decide +kernel
theorem dX6_by_107 : decode cX6_by 107 = .ok (.iload 4, 2) := by decide +kernel
theorem dX6_by_109 : decode cX6_by 109 = .ok (.bipush 16, 2) := by decide +kernel
theorem dX6_by_111 : decode cX6_by 111 = .ok (.iadd, 1) := by decide +kernel
theorem dX6_by_112 : decode cX6_by 112 = .ok (.iload_n 2, 1) := by decide +kernel
theorem dX6_by_113 : decode cX6_by 113 = .ok (.iadd, 1) := by decide +kernel
theorem dX6_by_114 : decode cX6_by 114 = .ok (.iaload, 1) := by decide +kernel
theorem dX6_by_115 : decode cX6_by 115 = .ok (.istore 5, 2) := by decide +kernel
theorem dX6_by_117 : decode cX6_by 117 = .ok (.iload 5, 2) := by decide +kernel
theorem dX6_by_119 : decode cX6_by 119 = .ok (.iconst (-1), 1) := by decide +kernel
theorem dX6_by_120 : decode cX6_by 120 = .ok (.if_icmp .ne 26, 3) := by decide +kernel
theorem dX6_by_123 : decode cX6_by 123 = .ok (.aload_n 0, 1) := by decide +kernel
theorem dX6_by_124 : decode cX6_by 124 = .ok (.getfield 16, 3) := by decide +kernel
theorem dX6_by_127 : decode cX6_by 127 = .ok (.iload 4, 2) := by decide +kernel
theorem dX6_by_129 : decode cX6_by 129 = .ok (.iload_n 1, 1) := by decide +kernel
theorem dX6_by_130 : decode cX6_by 130 = .ok (.iconst 2, 1) := by decide +kernel
theorem dX6_by_131 : decode cX6_by 131 = .ok (.if_icmp .ne 8, 3) := by decide +kernel
theorem dX6_by_134 : decode cX6_by 134 = .ok (.bipush 94, 2) := by decide +kernel
theorem dX6_by_136 : decode cX6_by 136 = .ok (.goto 5, 3) := by decide +kernel
theorem dX6_by_139 : decode cX6_by 139 = .ok (.bipush 56, 2) := by decide +kernel
theorem dX6_by_141 : decode cX6_by 141 = .ok (.iadd, 1) := by decide +kernel
theorem dX6_by_142 : decode cX6_by 142 = .ok (.iload_n 2, 1) := by decide +kernel
theorem dX6_by_143 : decode cX6_by 143 = .ok (.iadd, 1) := by decide +kernel
theorem dX6_by_144 : decode cX6_by 144 = .ok (.iaload, 1) := by decide +kernel
theorem dX6_by_145 : decode cX6_by 145 = .ok (.ireturn, 1) := by decide +kernel
theorem dX6_by_146 : decode cX6_by 146 = .ok (.aload_n 0, 1) := by decide +kernel
theorem dX6_by_147 : decode cX6_by 147 = .ok (.getfield 16, 3) := by decide +kernel
theorem dX6_by_150 : decode cX6_by 150 = .ok (.iload 4, 2) := by decide +kernel
theorem dX6_by_152 : decode cX6_by 152 = .ok (.bipush 26, 2) := by decide +kernel
theorem dX6_by_154 : decode cX6_by 154 = .ok (.iadd, 1) := by decide +kernel
theorem dX6_by_155 : decode cX6_by 155 = .ok (.iload_n 2, 1) := by decide +kernel
theorem dX6_by_156 : decode cX6_by 156 = .ok (.iadd, 1) := by decide +kernel
theorem dX6_by_157 : decode cX6_by 157 = .ok (.iaload, 1) := by decide +kernel
theorem dX6_by_158 : decode cX6_by 158 = .ok (.iload_n 1, 1) := by decide +kernel
theorem dX6_by_159 : decode cX6_by 159 = .ok (.iconst 1, 1) := by decide +kernel
theorem dX6_by_160 : decode cX6_by 160 = .ok (.if_icmp .ne 19, 3) := by decide +kernel
theorem dX6_by_163 : decode cX6_by 163 = .ok (.aload_n 0, 1) := by decide +kernel
theorem dX6_by_164 : decode cX6_by 164 = .ok (.getfield 16, 3) := by decide +kernel
theorem dX6_by_167 : decode cX6_by 167 = .ok (.iload 4, 2) := by decide +kernel
theorem dX6_by_169 : decode cX6_by 169 = .ok (.bipush 8, 2) := by decide +kernel
theorem dX6_by_171 : decode cX6_by 171 = .ok (.iadd, 1) := by decide +kernel
theorem dX6_by_172 : decode cX6_by 172 = .ok (.iload 5, 2) := by decide +kernel
theorem dX6_by_174 : decode cX6_by 174 = .ok (.iadd, 1) := by decide +kernel
theorem dX6_by_175 : decode cX6_by 175 = .ok (.iaload, 1) := by decide +kernel
theorem dX6_by_176 : decode cX6_by 176 = .ok (.goto 4, 3) := by decide +kernel
theorem dX6_by_179 : decode cX6_by 179 = .ok (.iconst 0, 1) := by decide +kernel
theorem dX6_by_180 : decode cX6_by 180 = .ok (.ior, 1) := by decide +kernel
theorem dX6_by_181 : decode cX6_by 181 = .ok (.ireturn, 1) := by decide +kernel
theorem dX6_answers_0 : decode cX6_answers 0 = .ok (.aload_n 0, 1) := by decide +kernel
theorem dX6_answers_1 : decode cX6_answers 1 = .ok (.iload_n 1, 1) := by decide +kernel
theorem dX6_answers_2 : decode cX6_answers 2 = .ok (.iload_n 2, 1) := by decide +kernel
theorem dX6_answers_3 : decode cX6_answers 3 = .ok (.iconst 0, 1) := by decide +kernel
theorem dX6_answers_4 : decode cX6_answers 4 = .ok (.invokevirtual 91, 3) := by decide +kernel
theorem dX6_answers_7 : decode cX6_answers 7 = .ok (.istore_n 3, 1) := by decide +kernel
theorem dX6_answers_8 : decode cX6_answers 8 = .ok (.iconst 1, 1) := by decide +kernel
theorem dX6_answers_9 : decode cX6_answers 9 = .ok (.istore 4, 2) := by decide +kernel
theorem dX6_answers_11 : decode cX6_answers 11 = .ok (.iload 4, 2) := by decide +kernel
theorem dX6_answers_13 : decode cX6_answers 13 = .ok (.aload_n 0, 1) := by decide +kernel
theorem dX6_answers_14 : decode cX6_answers 14 = .ok (.getfield 54, 3) := by decide +kernel
theorem dX6_answers_17 : decode cX6_answers 17 = .ok (.if_icmp .ge 24, 3) := by decide +kernel
theorem dX6_answers_20 : decode cX6_answers 20 = .ok (.aload_n 0, 1) := by decide +kernel
theorem dX6_answers_21 : decode cX6_answers 21 = .ok (.iload_n 1, 1) := by decide +kernel
theorem dX6_answers_22 : decode cX6_answers 22 = .ok (.iload_n 2, 1) := by decide +kernel
theorem dX6_answers_23 : decode cX6_answers 23 = .ok (.iload 4, 2) := by decide +kernel
theorem dX6_answers_25 : decode cX6_answers 25 = .ok (.invokevirtual 91, 3) := by decide +kernel
theorem dX6_answers_28 : decode cX6_answers 28 = .ok (.iload_n 3, 1) := by decide +kernel
theorem dX6_answers_29 : decode cX6_answers 29 = .ok (.if_icmp .eq 6, 3) := by decide +kernel
theorem dX6_answers_32 : decode cX6_answers 32 = .ok (.bipush (-3), 2) := by decide +kernel
theorem dX6_answers_34 : decode cX6_answers 34 = .ok (.ireturn, 1) := by decide +kernel
theorem dX6_answers_35 : decode cX6_answers 35 = .ok (.iinc 4 1, 3) := by decide +kernel
theorem dX6_answers_38 : decode cX6_answers 38 = .ok (.goto (-27), 3) := by decide +kernel
theorem dX6_answers_41 : decode cX6_answers 41 = .ok (.iload_n 3, 1) := by decide +kernel
theorem dX6_answers_42 : decode cX6_answers 42 = .ok (.ireturn, 1) := by decide +kernel
theorem dX6_answer_0 : decode cX6_answer 0 = .ok (.iload_n 1, 1) := by decide +kernel
theorem dX6_answer_1 : decode cX6_answer 1 = .ok (.iload_n 2, 1) := by decide +kernel
theorem dX6_answer_2 : decode cX6_answer 2 = .ok (.invokestatic 95, 3) := by decide +kernel
theorem dX6_answer_5 : decode cX6_answer 5 = .ok (.ifCond .eq 15, 3) := by decide +kernel
theorem dX6_answer_8 : decode cX6_answer 8 = .ok (.iload_n 3, 1) := by decide +kernel
theorem dX6_answer_9 : decode cX6_answer 9 = .ok (.iconst 0, 1) := by decide +kernel
theorem dX6_answer_10 : decode cX6_answer 10 = .ok (.aload_n 0, 1) := by decide +kernel
theorem dX6_answer_11 : decode cX6_answer 11 = .ok (.getfield 35, 3) := by decide +kernel
theorem dX6_answer_14 : decode cX6_answer 14 = .ok (.invokestatic 31, 3) := by decide +kernel
theorem dX6_answer_17 : decode cX6_answer 17 = .ok (.ifCond .ne 5, 3) := by decide +kernel
theorem dX6_answer_20 : decode cX6_answer 20 = .ok (.iconst (-1), 1) := by decide +kernel
theorem dX6_answer_21 : decode cX6_answer 21 = .ok (.ireturn, 1) := by decide +kernel
theorem dX6_answer_22 : decode cX6_answer 22 = .ok (.aload_n 0, 1) := by decide +kernel
theorem dX6_answer_23 : decode cX6_answer 23 = .ok (.iload_n 3, 1) := by decide +kernel
theorem dX6_answer_24 : decode cX6_answer 24 = .ok (.invokevirtual 50, 3) := by decide +kernel
theorem dX6_answer_27 : decode cX6_answer 27 = .ok (.aload_n 0, 1) := by decide +kernel
theorem dX6_answer_28 : decode cX6_answer 28 = .ok (.iload_n 1, 1) := by decide +kernel
theorem dX6_answer_29 : decode cX6_answer 29 = .ok (.iload_n 2, 1) := by decide +kernel
theorem dX6_answer_30 : decode cX6_answer 30 = .ok (.invokevirtual 98, 3) := by decide +kernel
theorem dX6_answer_33 : decode cX6_answer 33 = .ok (.ireturn, 1) := by decide +kernel
theorem dX6_bits_0 : decode cX6_bits 0 = .ok (.iconst 0, 1) := by decide +kernel
theorem dX6_bits_1 : decode cX6_bits 1 = .ok (.istore_n 1, 1) := by decide +kernel
theorem dX6_bits_2 : decode cX6_bits 2 = .ok (.iconst 0, 1) := by decide +kernel
theorem dX6_bits_3 : decode cX6_bits 3 = .ok (.istore_n 2, 1) := by decide +kernel
theorem dX6_bits_4 : decode cX6_bits 4 = .ok (.iload_n 2, 1) := by decide +kernel
theorem dX6_bits_5 : decode cX6_bits 5 = .ok (.bipush 14, 2) := by decide +kernel
theorem dX6_bits_7 : decode cX6_bits 7 = .ok (.if_icmp .ge 17, 3) := by decide +kernel
theorem dX6_bits_10 : decode cX6_bits 10 = .ok (.iload_n 1, 1) := by decide +kernel
theorem dX6_bits_11 : decode cX6_bits 11 = .ok (.iload_n 0, 1) := by decide +kernel
theorem dX6_bits_12 : decode cX6_bits 12 = .ok (.iload_n 2, 1) := by decide +kernel
theorem dX6_bits_13 : decode cX6_bits 13 = .ok (.ishr, 1) := by decide +kernel
theorem dX6_bits_14 : decode cX6_bits 14 = .ok (.iconst 1, 1) := by decide +kernel
theorem dX6_bits_15 : decode cX6_bits 15 = .ok (.iand, 1) := by decide +kernel
theorem dX6_bits_16 : decode cX6_bits 16 = .ok (.iadd, 1) := by decide +kernel
theorem dX6_bits_17 : decode cX6_bits 17 = .ok (.istore_n 1, 1) := by decide +kernel
theorem dX6_bits_18 : decode cX6_bits 18 = .ok (.iinc 2 1, 3) := by decide +kernel
theorem dX6_bits_21 : decode cX6_bits 21 = .ok (.goto (-17), 3) := by decide +kernel
theorem dX6_bits_24 : decode cX6_bits 24 = .ok (.iload_n 1, 1) := by decide +kernel
theorem dX6_bits_25 : decode cX6_bits 25 = .ok (.ireturn, 1) := by decide +kernel
theorem dX6_level_0 : decode cX6_level 0 = .ok (.iload_n 1, 1) := by decide +kernel
theorem dX6_level_1 : decode cX6_level 1 = .ok (.iload_n 2, 1) := by decide +kernel
theorem dX6_level_2 : decode cX6_level 2 = .ok (.invokestatic 95, 3) := by decide +kernel
theorem dX6_level_5 : decode cX6_level 5 = .ok (.ifCond .eq 15, 3) := by decide +kernel
theorem dX6_level_8 : decode cX6_level 8 = .ok (.iload_n 3, 1) := by decide +kernel
theorem dX6_level_9 : decode cX6_level 9 = .ok (.iconst 0, 1) := by decide +kernel
theorem dX6_level_10 : decode cX6_level 10 = .ok (.aload_n 0, 1) := by decide +kernel
theorem dX6_level_11 : decode cX6_level 11 = .ok (.getfield 35, 3) := by decide +kernel
theorem dX6_level_14 : decode cX6_level 14 = .ok (.invokestatic 31, 3) := by decide +kernel
theorem dX6_level_17 : decode cX6_level 17 = .ok (.ifCond .ne 5, 3) := by decide +kernel
theorem dX6_level_20 : decode cX6_level 20 = .ok (.iconst (-1), 1) := by decide +kernel
theorem dX6_level_21 : decode cX6_level 21 = .ok (.ireturn, 1) := by decide +kernel
theorem dX6_level_22 : decode cX6_level 22 = .ok (.aload_n 0, 1) := by decide +kernel
theorem dX6_level_23 : decode cX6_level 23 = .ok (.iload_n 3, 1) := by decide +kernel
theorem dX6_level_24 : decode cX6_level 24 = .ok (.invokevirtual 50, 3) := by decide +kernel
theorem dX6_level_27 : decode cX6_level 27 = .ok (.iconst 0, 1) := by decide +kernel
theorem dX6_level_28 : decode cX6_level 28 = .ok (.istore 4, 2) := by decide +kernel
theorem dX6_level_30 : decode cX6_level 30 = .ok (.iconst 0, 1) := by decide +kernel
theorem dX6_level_31 : decode cX6_level 31 = .ok (.istore 5, 2) := by decide +kernel
theorem dX6_level_33 : decode cX6_level 33 = .ok (.iload 5, 2) := by decide +kernel
theorem dX6_level_35 : decode cX6_level 35 = .ok (.aload_n 0, 1) := by decide +kernel
theorem dX6_level_36 : decode cX6_level 36 = .ok (.getfield 54, 3) := by decide +kernel
theorem dX6_level_39 : decode cX6_level 39 = .ok (.if_icmp .ge 33, 3) := by decide +kernel
theorem dX6_level_42 : decode cX6_level 42 = .ok (.aload_n 0, 1) := by decide +kernel
theorem dX6_level_43 : decode cX6_level 43 = .ok (.iload_n 1, 1) := by decide +kernel
theorem dX6_level_44 : decode cX6_level 44 = .ok (.iload_n 2, 1) := by decide +kernel
theorem dX6_level_45 : decode cX6_level 45 = .ok (.iload 5, 2) := by decide +kernel
theorem dX6_level_47 : decode cX6_level 47 = .ok (.invokevirtual 101, 3) := by decide +kernel
theorem dX6_level_50 : decode cX6_level 50 = .ok (.invokestatic 104, 3) := by decide +kernel
theorem dX6_level_53 : decode cX6_level 53 = .ok (.istore 6, 2) := by decide +kernel
theorem dX6_level_55 : decode cX6_level 55 = .ok (.iload 6, 2) := by decide +kernel
theorem dX6_level_57 : decode cX6_level 57 = .ok (.iload 4, 2) := by decide +kernel
theorem dX6_level_59 : decode cX6_level 59 = .ok (.if_icmp .le 7, 3) := by decide +kernel
theorem dX6_level_62 : decode cX6_level 62 = .ok (.iload 6, 2) := by decide +kernel
theorem dX6_level_64 : decode cX6_level 64 = .ok (.istore 4, 2) := by decide +kernel
theorem dX6_level_66 : decode cX6_level 66 = .ok (.iinc 5 1, 3) := by decide +kernel
theorem dX6_level_69 : decode cX6_level 69 = .ok (.goto (-36), 3) := by decide +kernel
theorem dX6_level_72 : decode cX6_level 72 = .ok (.iload 4, 2) := by decide +kernel
theorem dX6_level_74 : decode cX6_level 74 = .ok (.ireturn, 1) := by decide +kernel
theorem dX6_grounds_0 : decode cX6_grounds 0 = .ok (.iload_n 1, 1) := by decide +kernel
theorem dX6_grounds_1 : decode cX6_grounds 1 = .ok (.iload_n 2, 1) := by decide +kernel
theorem dX6_grounds_2 : decode cX6_grounds 2 = .ok (.invokestatic 95, 3) := by decide +kernel
theorem dX6_grounds_5 : decode cX6_grounds 5 = .ok (.ifCond .eq 7, 3) := by decide +kernel
theorem dX6_grounds_8 : decode cX6_grounds 8 = .ok (.iload_n 3, 1) := by decide +kernel
theorem dX6_grounds_9 : decode cX6_grounds 9 = .ok (.ifCond .ge 5, 3) := by decide +kernel
theorem dX6_grounds_12 : decode cX6_grounds 12 = .ok (.iconst (-1), 1) := by decide +kernel
theorem dX6_grounds_13 : decode cX6_grounds 13 = .ok (.ireturn, 1) := by decide +kernel
theorem dX6_grounds_14 : decode cX6_grounds 14 = .ok (.aload_n 0, 1) := by decide +kernel
theorem dX6_grounds_15 : decode cX6_grounds 15 = .ok (.aload_n 0, 1) := by decide +kernel
theorem dX6_grounds_16 : decode cX6_grounds 16 = .ok (.getfield 35, 3) := by decide +kernel
theorem dX6_grounds_19 : decode cX6_grounds 19 = .ok (.invokevirtual 50, 3) := by decide +kernel
theorem dX6_grounds_22 : decode cX6_grounds 22 = .ok (.iload_n 3, 1) := by decide +kernel
theorem dX6_grounds_23 : decode cX6_grounds 23 = .ok (.aload_n 0, 1) := by decide +kernel
theorem dX6_grounds_24 : decode cX6_grounds 24 = .ok (.getfield 54, 3) := by decide +kernel
theorem dX6_grounds_27 : decode cX6_grounds 27 = .ok (.if_icmp .ge 13, 3) := by decide +kernel
theorem dX6_grounds_30 : decode cX6_grounds 30 = .ok (.aload_n 0, 1) := by decide +kernel
theorem dX6_grounds_31 : decode cX6_grounds 31 = .ok (.iload_n 1, 1) := by decide +kernel
theorem dX6_grounds_32 : decode cX6_grounds 32 = .ok (.iload_n 2, 1) := by decide +kernel
theorem dX6_grounds_33 : decode cX6_grounds 33 = .ok (.iload_n 3, 1) := by decide +kernel
theorem dX6_grounds_34 : decode cX6_grounds 34 = .ok (.invokevirtual 101, 3) := by decide +kernel
theorem dX6_grounds_37 : decode cX6_grounds 37 = .ok (.goto 4, 3) := by decide +kernel
theorem dX6_grounds_40 : decode cX6_grounds 40 = .ok (.iconst (-1), 1) := by decide +kernel
theorem dX6_grounds_41 : decode cX6_grounds 41 = .ok (.ireturn, 1) := by decide +kernel
theorem dX6_isOfKind_0 : decode cX6_isOfKind 0 = .ok (.iload_n 0, 1) := by decide +kernel
theorem dX6_isOfKind_1 : decode cX6_isOfKind 1 = .ok (.iconst 3, 1) := by decide +kernel
theorem dX6_isOfKind_2 : decode cX6_isOfKind 2 = .ok (.if_icmp .ne 11, 3) := by decide +kernel
theorem dX6_isOfKind_5 : decode cX6_isOfKind 5 = .ok (.iload_n 1, 1) := by decide +kernel
theorem dX6_isOfKind_6 : decode cX6_isOfKind 6 = .ok (.iconst 0, 1) := by decide +kernel
theorem dX6_isOfKind_7 : decode cX6_isOfKind 7 = .ok (.bipush 10, 2) := by decide +kernel
theorem dX6_isOfKind_9 : decode cX6_isOfKind 9 = .ok (.invokestatic 31, 3) := by decide +kernel
theorem dX6_isOfKind_12 : decode cX6_isOfKind 12 = .ok (.ireturn, 1) := by decide +kernel
theorem dX6_isOfKind_13 : decode cX6_isOfKind 13 = .ok (.iload_n 0, 1) := by decide +kernel
theorem dX6_isOfKind_14 : decode cX6_isOfKind 14 = .ok (.iconst 2, 1) := by decide +kernel
theorem dX6_isOfKind_15 : decode cX6_isOfKind 15 = .ok (.if_icmp .ne 25, 3) := by decide +kernel
theorem dX6_isOfKind_18 : decode cX6_isOfKind 18 = .ok (.iload_n 1, 1) := by decide +kernel
theorem dX6_isOfKind_19 : decode cX6_isOfKind 19 = .ok (.iconst 0, 1) := by decide +kernel
theorem dX6_isOfKind_20 : decode cX6_isOfKind 20 = .ok (.bipush 7, 2) := by decide +kernel
theorem dX6_isOfKind_22 : decode cX6_isOfKind 22 = .ok (.invokestatic 31, 3) := by decide +kernel
theorem dX6_isOfKind_25 : decode cX6_isOfKind 25 = .ok (.ifCond .ne 9, 3) := by decide +kernel
theorem dX6_isOfKind_28 : decode cX6_isOfKind 28 = .ok (.iload_n 1, 1) := by decide +kernel
theorem dX6_isOfKind_29 : decode cX6_isOfKind 29 = .ok (.bipush 9, 2) := by decide +kernel
theorem dX6_isOfKind_31 : decode cX6_isOfKind 31 = .ok (.if_icmp .ne 7, 3) := by decide +kernel
theorem dX6_isOfKind_34 : decode cX6_isOfKind 34 = .ok (.iconst 1, 1) := by decide +kernel
theorem dX6_isOfKind_35 : decode cX6_isOfKind 35 = .ok (.goto 4, 3) := by decide +kernel
theorem dX6_isOfKind_38 : decode cX6_isOfKind 38 = .ok (.iconst 0, 1) := by decide +kernel
theorem dX6_isOfKind_39 : decode cX6_isOfKind 39 = .ok (.ireturn, 1) := by decide +kernel
theorem dX6_isOfKind_40 : decode cX6_isOfKind 40 = .ok (.iload_n 1, 1) := by decide +kernel
theorem dX6_isOfKind_41 : decode cX6_isOfKind 41 = .ok (.bipush 20, 2) := by decide +kernel
theorem dX6_isOfKind_43 : decode cX6_isOfKind 43 = .ok (.bipush 27, 2) := by decide +kernel
theorem dX6_isOfKind_45 : decode cX6_isOfKind 45 = .ok (.invokestatic 31, 3) := by decide +kernel
theorem dX6_isOfKind_48 : decode cX6_isOfKind 48 = .ok (.ireturn, 1) := by decide +kernel
theorem dX6_judge_0 : decode cX6_judge 0 = .ok (.aload_n 0, 1) := by decide +kernel
theorem dX6_judge_1 : decode cX6_judge 1 = .ok (.iload_n 1, 1) := by decide +kernel
theorem dX6_judge_2 : decode cX6_judge 2 = .ok (.iload_n 2, 1) := by decide +kernel
theorem dX6_judge_3 : decode cX6_judge 3 = .ok (.aload_n 0, 1) := by decide +kernel
theorem dX6_judge_4 : decode cX6_judge 4 = .ok (.getfield 35, 3) := by decide +kernel
theorem dX6_judge_7 : decode cX6_judge 7 = .ok (.invokevirtual 108, 3) := by decide +kernel
theorem dX6_judge_10 : decode cX6_judge 10 = .ok (.istore 4, 2) := by decide +kernel
theorem dX6_judge_12 : decode cX6_judge 12 = .ok (.iload 4, 2) := by decide +kernel
theorem dX6_judge_14 : decode cX6_judge 14 = .ok (.ifCond .ge 5, 3) := by decide +kernel
theorem dX6_judge_17 : decode cX6_judge 17 = .ok (.iconst (-1), 1) := by decide +kernel
theorem dX6_judge_18 : decode cX6_judge 18 = .ok (.ireturn, 1) := by decide +kernel
theorem dX6_judge_19 : decode cX6_judge 19 = .ok (.iload 4, 2) := by decide +kernel
theorem dX6_judge_21 : decode cX6_judge 21 = .ok (.iload_n 3, 1) := by decide +kernel
theorem dX6_judge_22 : decode cX6_judge 22 = .ok (.if_icmp .ne 5, 3) := by decide +kernel
theorem dX6_judge_25 : decode cX6_judge 25 = .ok (.iconst 0, 1) := by decide +kernel
theorem dX6_judge_26 : decode cX6_judge 26 = .ok (.ireturn, 1) := by decide +kernel
theorem dX6_judge_27 : decode cX6_judge 27 = .ok (.iload_n 1, 1) := by decide +kernel
theorem dX6_judge_28 : decode cX6_judge 28 = .ok (.iload_n 3, 1) := by decide +kernel
theorem dX6_judge_29 : decode cX6_judge 29 = .ok (.invokestatic 111, 3) := by decide +kernel
theorem dX6_judge_32 : decode cX6_judge 32 = .ok (.ifCond .ne 5, 3) := by decide +kernel
theorem dX6_judge_35 : decode cX6_judge 35 = .ok (.iconst 1, 1) := by decide +kernel
theorem dX6_judge_36 : decode cX6_judge 36 = .ok (.ireturn, 1) := by decide +kernel
theorem dX6_judge_37 : decode cX6_judge 37 = .ok (.iconst 0, 1) := by decide +kernel
theorem dX6_judge_38 : decode cX6_judge 38 = .ok (.istore 5, 2) := by decide +kernel
theorem dX6_judge_40 : decode cX6_judge 40 = .ok (.iload 5, 2) := by decide +kernel
theorem dX6_judge_42 : decode cX6_judge 42 = .ok (.aload_n 0, 1) := by decide +kernel
theorem dX6_judge_43 : decode cX6_judge 43 = .ok (.getfield 35, 3) := by decide +kernel
theorem dX6_judge_46 : decode cX6_judge 46 = .ok (.if_icmp .ge 23, 3) := by decide +kernel
theorem dX6_judge_49 : decode cX6_judge 49 = .ok (.aload_n 0, 1) := by decide +kernel
theorem dX6_judge_50 : decode cX6_judge 50 = .ok (.iload_n 1, 1) := by decide +kernel
theorem dX6_judge_51 : decode cX6_judge 51 = .ok (.iload_n 2, 1) := by decide +kernel
theorem dX6_judge_52 : decode cX6_judge 52 = .ok (.iload 5, 2) := by decide +kernel
theorem dX6_judge_54 : decode cX6_judge 54 = .ok (.invokevirtual 108, 3) := by decide +kernel
theorem dX6_judge_57 : decode cX6_judge 57 = .ok (.iload_n 3, 1) := by decide +kernel
theorem dX6_judge_58 : decode cX6_judge 58 = .ok (.if_icmp .ne 5, 3) := by decide +kernel
theorem dX6_judge_61 : decode cX6_judge 61 = .ok (.iconst 2, 1) := by decide +kernel
theorem dX6_judge_62 : decode cX6_judge 62 = .ok (.ireturn, 1) := by decide +kernel
theorem dX6_judge_63 : decode cX6_judge 63 = .ok (.iinc 5 1, 3) := by decide +kernel
theorem dX6_judge_66 : decode cX6_judge 66 = .ok (.goto (-26), 3) := by decide +kernel
theorem dX6_judge_69 : decode cX6_judge 69 = .ok (.iconst 3, 1) := by decide +kernel
theorem dX6_judge_70 : decode cX6_judge 70 = .ok (.ireturn, 1) := by decide +kernel
theorem dX6_asked_0 : decode cX6_asked 0 = .ok (.aload_n 0, 1) := by decide +kernel
theorem dX6_asked_1 : decode cX6_asked 1 = .ok (.iload_n 1, 1) := by decide +kernel
theorem dX6_asked_2 : decode cX6_asked 2 = .ok (.iload_n 2, 1) := by decide +kernel
theorem dX6_asked_3 : decode cX6_asked 3 = .ok (.invokevirtual 98, 3) := by decide +kernel
theorem dX6_asked_6 : decode cX6_asked 6 = .ok (.ifCond .ge 5, 3) := by decide +kernel
theorem dX6_asked_9 : decode cX6_asked 9 = .ok (.iconst 0, 1) := by decide +kernel
theorem dX6_asked_10 : decode cX6_asked 10 = .ok (.ireturn, 1) := by decide +kernel
theorem dX6_asked_11 : decode cX6_asked 11 = .ok (.aload_n 0, 1) := by decide +kernel
theorem dX6_asked_12 : decode cX6_asked 12 = .ok (.iload_n 1, 1) := by decide +kernel
theorem dX6_asked_13 : decode cX6_asked 13 = .ok (.iload_n 2, 1) := by decide +kernel
theorem dX6_asked_14 : decode cX6_asked 14 = .ok (.iconst 0, 1) := by decide +kernel
theorem dX6_asked_15 : decode cX6_asked 15 = .ok (.invokevirtual 101, 3) := by decide +kernel
theorem dX6_asked_18 : decode cX6_asked 18 = .ok (.istore_n 3, 1) := by decide +kernel
theorem dX6_asked_19 : decode cX6_asked 19 = .ok (.iconst 1, 1) := by decide +kernel
theorem dX6_asked_20 : decode cX6_asked 20 = .ok (.istore 4, 2) := by decide +kernel
theorem dX6_asked_22 : decode cX6_asked 22 = .ok (.iload 4, 2) := by decide +kernel
theorem dX6_asked_24 : decode cX6_asked 24 = .ok (.aload_n 0, 1) := by decide +kernel
theorem dX6_asked_25 : decode cX6_asked 25 = .ok (.getfield 54, 3) := by decide +kernel
theorem dX6_asked_28 : decode cX6_asked 28 = .ok (.if_icmp .ge 20, 3) := by decide +kernel
theorem dX6_asked_31 : decode cX6_asked 31 = .ok (.iload_n 3, 1) := by decide +kernel
theorem dX6_asked_32 : decode cX6_asked 32 = .ok (.aload_n 0, 1) := by decide +kernel
theorem dX6_asked_33 : decode cX6_asked 33 = .ok (.iload_n 1, 1) := by decide +kernel
theorem dX6_asked_34 : decode cX6_asked 34 = .ok (.iload_n 2, 1) := by decide +kernel
theorem dX6_asked_35 : decode cX6_asked 35 = .ok (.iload 4, 2) := by decide +kernel
theorem dX6_asked_37 : decode cX6_asked 37 = .ok (.invokevirtual 101, 3) := by decide +kernel
theorem dX6_asked_40 : decode cX6_asked 40 = .ok (.iand, 1) := by decide +kernel
theorem dX6_asked_41 : decode cX6_asked 41 = .ok (.istore_n 3, 1) := by decide +kernel
theorem dX6_asked_42 : decode cX6_asked 42 = .ok (.iinc 4 1, 3) := by decide +kernel
theorem dX6_asked_45 : decode cX6_asked 45 = .ok (.goto (-23), 3) := by decide +kernel
theorem dX6_asked_48 : decode cX6_asked 48 = .ok (.iload_n 3, 1) := by decide +kernel
theorem dX6_asked_49 : decode cX6_asked 49 = .ok (.ireturn, 1) := by decide +kernel
theorem dX6_asks_0 : decode cX6_asks 0 = .ok (.iload_n 1, 1) := by decide +kernel
theorem dX6_asks_1 : decode cX6_asks 1 = .ok (.iload_n 2, 1) := by decide +kernel
theorem dX6_asks_2 : decode cX6_asks 2 = .ok (.invokestatic 95, 3) := by decide +kernel
theorem dX6_asks_5 : decode cX6_asks 5 = .ok (.ifCond .ne 5, 3) := by decide +kernel
theorem dX6_asks_8 : decode cX6_asks 8 = .ok (.iconst (-1), 1) := by decide +kernel
theorem dX6_asks_9 : decode cX6_asks 9 = .ok (.ireturn, 1) := by decide +kernel
theorem dX6_asks_10 : decode cX6_asks 10 = .ok (.aload_n 0, 1) := by decide +kernel
theorem dX6_asks_11 : decode cX6_asks 11 = .ok (.aload_n 0, 1) := by decide +kernel
theorem dX6_asks_12 : decode cX6_asks 12 = .ok (.getfield 35, 3) := by decide +kernel
theorem dX6_asks_15 : decode cX6_asks 15 = .ok (.invokevirtual 50, 3) := by decide +kernel
theorem dX6_asks_18 : decode cX6_asks 18 = .ok (.aload_n 0, 1) := by decide +kernel
theorem dX6_asks_19 : decode cX6_asks 19 = .ok (.iload_n 1, 1) := by decide +kernel
theorem dX6_asks_20 : decode cX6_asks 20 = .ok (.iload_n 2, 1) := by decide +kernel
theorem dX6_asks_21 : decode cX6_asks 21 = .ok (.invokevirtual 114, 3) := by decide +kernel
theorem dX6_asks_24 : decode cX6_asks 24 = .ok (.ireturn, 1) := by decide +kernel
theorem dX6_gathers_0 : decode cX6_gathers 0 = .ok (.aload_n 0, 1) := by decide +kernel
theorem dX6_gathers_1 : decode cX6_gathers 1 = .ok (.aload_n 0, 1) := by decide +kernel
theorem dX6_gathers_2 : decode cX6_gathers 2 = .ok (.getfield 35, 3) := by decide +kernel
theorem dX6_gathers_5 : decode cX6_gathers 5 = .ok (.invokevirtual 50, 3) := by decide +kernel
theorem dX6_gathers_8 : decode cX6_gathers 8 = .ok (.iconst 0, 1) := by decide +kernel
theorem dX6_gathers_9 : decode cX6_gathers 9 = .ok (.istore_n 1, 1) := by decide +kernel
theorem dX6_gathers_10 : decode cX6_gathers 10 = .ok (.iconst 0, 1) := by decide +kernel
theorem dX6_gathers_11 : decode cX6_gathers 11 = .ok (.istore_n 2, 1) := by decide +kernel
theorem dX6_gathers_12 : decode cX6_gathers 12 = .ok (.iload_n 2, 1) := by decide +kernel
theorem dX6_gathers_13 : decode cX6_gathers 13 = .ok (.iconst 4, 1) := by decide +kernel
theorem dX6_gathers_14 : decode cX6_gathers 14 = .ok (.if_icmp .ge 162, 3) := by decide +kernel
theorem dX6_gathers_17 : decode cX6_gathers 17 = .ok (.iconst 0, 1) := by decide +kernel
theorem dX6_gathers_18 : decode cX6_gathers 18 = .ok (.istore_n 3, 1) := by decide +kernel
theorem dX6_gathers_19 : decode cX6_gathers 19 = .ok (.iload_n 2, 1) := by decide +kernel
theorem dX6_gathers_20 : decode cX6_gathers 20 = .ok (.iload_n 3, 1) := by decide +kernel
theorem dX6_gathers_21 : decode cX6_gathers 21 = .ok (.invokestatic 95, 3) := by decide +kernel
theorem dX6_gathers_24 : decode cX6_gathers 24 = .ok (.ifCond .eq 146, 3) := by decide +kernel
theorem dX6_gathers_27 : decode cX6_gathers 27 = .ok (.aload_n 0, 1) := by decide +kernel
theorem dX6_gathers_28 : decode cX6_gathers 28 = .ok (.iload_n 2, 1) := by decide +kernel
theorem dX6_gathers_29 : decode cX6_gathers 29 = .ok (.iload_n 3, 1) := by decide +kernel
theorem dX6_gathers_30 : decode cX6_gathers 30 = .ok (.invokevirtual 114, 3) := by decide +kernel
theorem dX6_gathers_33 : decode cX6_gathers 33 = .ok (.istore 4, 2) := by decide +kernel
theorem dX6_gathers_35 : decode cX6_gathers 35 = .ok (.iload 4, 2) := by decide +kernel
theorem dX6_gathers_37 : decode cX6_gathers 37 = .ok (.ifCond .eq 7, 3) := by decide +kernel
theorem dX6_gathers_40 : decode cX6_gathers 40 = .ok (.iconst 1, 1) := by decide +kernel
theorem dX6_gathers_41 : decode cX6_gathers 41 = .ok (.goto 4, 3) := by decide +kernel
theorem dX6_gathers_44 : decode cX6_gathers 44 = .ok (.iconst 0, 1) := by decide +kernel
theorem dX6_gathers_45 : decode cX6_gathers 45 = .ok (.istore 5, 2) := by decide +kernel
theorem dX6_gathers_47 : decode cX6_gathers 47 = .ok (.iconst 0, 1) := by decide +kernel
theorem dX6_gathers_48 : decode cX6_gathers 48 = .ok (.istore 6, 2) := by decide +kernel
theorem dX6_gathers_50 : decode cX6_gathers 50 = .ok (.iload 6, 2) := by decide +kernel
theorem dX6_gathers_52 : decode cX6_gathers 52 = .ok (.iload_n 1, 1) := by decide +kernel
theorem dX6_gathers_53 : decode cX6_gathers 53 = .ok (.if_icmp .ge 36, 3) := by decide +kernel
theorem dX6_gathers_56 : decode cX6_gathers 56 = .ok (.iload 5, 2) := by decide +kernel
theorem dX6_gathers_58 : decode cX6_gathers 58 = .ok (.ifCond .eq 22, 3) := by decide +kernel
theorem dX6_gathers_61 : decode cX6_gathers 61 = .ok (.iload 4, 2) := by decide +kernel
theorem dX6_gathers_63 : decode cX6_gathers 63 = .ok (.aload_n 0, 1) := by decide +kernel
theorem dX6_gathers_64 : decode cX6_gathers 64 = .ok (.getfield 22, 3) := by decide +kernel
theorem dX6_gathers_67 : decode cX6_gathers 67 = .ok (.iload 6, 2) := by decide +kernel
theorem dX6_gathers_69 : decode cX6_gathers 69 = .ok (.iaload, 1) := by decide +kernel
theorem dX6_gathers_70 : decode cX6_gathers 70 = .ok (.iconst (-1), 1) := by decide +kernel
theorem dX6_gathers_71 : decode cX6_gathers 71 = .ok (.ixor, 1) := by decide +kernel
theorem dX6_gathers_72 : decode cX6_gathers 72 = .ok (.iand, 1) := by decide +kernel
theorem dX6_gathers_73 : decode cX6_gathers 73 = .ok (.ifCond .eq 7, 3) := by decide +kernel
theorem dX6_gathers_76 : decode cX6_gathers 76 = .ok (.iconst 1, 1) := by decide +kernel
theorem dX6_gathers_77 : decode cX6_gathers 77 = .ok (.goto 4, 3) := by decide +kernel
theorem dX6_gathers_80 : decode cX6_gathers 80 = .ok (.iconst 0, 1) := by decide +kernel
theorem dX6_gathers_81 : decode cX6_gathers 81 = .ok (.istore 5, 2) := by decide +kernel
theorem dX6_gathers_83 : decode cX6_gathers 83 = .ok (.iinc 6 1, 3) := by decide +kernel
theorem dX6_gathers_86 : decode cX6_gathers 86 = .ok (.goto (-36), 3) := by decide +kernel
theorem dX6_gathers_89 : decode cX6_gathers 89 = .ok (.iload 5, 2) := by decide +kernel
theorem dX6_gathers_91 : decode cX6_gathers 91 = .ok (.ifCond .ne 6, 3) := by decide +kernel
theorem dX6_gathers_94 : decode cX6_gathers 94 = .ok (.goto 70, 3) := by decide +kernel
theorem dX6_gathers_97 : decode cX6_gathers 97 = .ok (.iconst 0, 1) := by decide +kernel
theorem dX6_gathers_98 : decode cX6_gathers 98 = .ok (.istore 6, 2) := by decide +kernel
theorem dX6_gathers_100 : decode cX6_gathers 100 = .ok (.iconst 0, 1) := by decide +kernel
theorem dX6_gathers_101 : decode cX6_gathers 101 = .ok (.istore 7, 2) := by decide +kernel
theorem dX6_gathers_103 : decode cX6_gathers 103 = .ok (.iload 7, 2) := by decide +kernel
theorem dX6_gathers_105 : decode cX6_gathers 105 = .ok (.iload_n 1, 1) := by decide +kernel
theorem dX6_gathers_106 : decode cX6_gathers 106 = .ok (.if_icmp .ge 44, 3) := by decide +kernel
theorem dX6_gathers_109 : decode cX6_gathers 109 = .ok (.aload_n 0, 1) := by decide +kernel
theorem dX6_gathers_110 : decode cX6_gathers 110 = .ok (.getfield 22, 3) := by decide +kernel
theorem dX6_gathers_113 : decode cX6_gathers 113 = .ok (.iload 7, 2) := by decide +kernel
theorem dX6_gathers_115 : decode cX6_gathers 115 = .ok (.iaload, 1) := by decide +kernel
theorem dX6_gathers_116 : decode cX6_gathers 116 = .ok (.iload 4, 2) := by decide +kernel
theorem dX6_gathers_118 : decode cX6_gathers 118 = .ok (.iconst (-1), 1) := by decide +kernel
theorem dX6_gathers_119 : decode cX6_gathers 119 = .ok (.ixor, 1) := by decide +kernel
theorem dX6_gathers_120 : decode cX6_gathers 120 = .ok (.iand, 1) := by decide +kernel
theorem dX6_gathers_121 : decode cX6_gathers 121 = .ok (.ifCond .ne 6, 3) := by decide +kernel
theorem dX6_gathers_124 : decode cX6_gathers 124 = .ok (.goto 20, 3) := by decide +kernel
theorem dX6_gathers_127 : decode cX6_gathers 127 = .ok (.aload_n 0, 1) := by decide +kernel
theorem dX6_gathers_128 : decode cX6_gathers 128 = .ok (.getfield 22, 3) := by decide +kernel
theorem dX6_gathers_131 : decode cX6_gathers 131 = .ok (.iload 6, 2) := by decide +kernel
theorem dX6_gathers_133 : decode cX6_gathers 133 = .ok (.aload_n 0, 1) := by decide +kernel
theorem dX6_gathers_134 : decode cX6_gathers 134 = .ok (.getfield 22, 3) := by decide +kernel
theorem dX6_gathers_137 : decode cX6_gathers 137 = .ok (.iload 7, 2) := by decide +kernel
theorem dX6_gathers_139 : decode cX6_gathers 139 = .ok (.iaload, 1) := by decide +kernel
theorem dX6_gathers_140 : decode cX6_gathers 140 = .ok (.iastore, 1) := by decide +kernel
theorem dX6_gathers_141 : decode cX6_gathers 141 = .ok (.iinc 6 1, 3) := by decide +kernel
theorem dX6_gathers_144 : decode cX6_gathers 144 = .ok (.iinc 7 1, 3) := by decide +kernel
theorem dX6_gathers_147 : decode cX6_gathers 147 = .ok (.goto (-44), 3) := by decide +kernel
theorem dX6_gathers_150 : decode cX6_gathers 150 = .ok (.aload_n 0, 1) := by decide +kernel
theorem dX6_gathers_151 : decode cX6_gathers 151 = .ok (.getfield 22, 3) := by decide +kernel
theorem dX6_gathers_154 : decode cX6_gathers 154 = .ok (.iload 6, 2) := by decide +kernel
theorem dX6_gathers_156 : decode cX6_gathers 156 = .ok (.iload 4, 2) := by decide +kernel
theorem dX6_gathers_158 : decode cX6_gathers 158 = .ok (.iastore, 1) := by decide +kernel
theorem dX6_gathers_159 : decode cX6_gathers 159 = .ok (.iload 6, 2) := by decide +kernel
theorem dX6_gathers_161 : decode cX6_gathers 161 = .ok (.iconst 1, 1) := by decide +kernel
theorem dX6_gathers_162 : decode cX6_gathers 162 = .ok (.iadd, 1) := by decide +kernel
theorem dX6_gathers_163 : decode cX6_gathers 163 = .ok (.istore_n 1, 1) := by decide +kernel
theorem dX6_gathers_164 : decode cX6_gathers 164 = .ok (.iinc 3 1, 3) := by decide +kernel
theorem dX6_gathers_167 : decode cX6_gathers 167 = .ok (.goto (-148), 3) := by decide +kernel
theorem dX6_gathers_170 : decode cX6_gathers 170 = .ok (.iinc 2 1, 3) := by decide +kernel
theorem dX6_gathers_173 : decode cX6_gathers 173 = .ok (.goto (-161), 3) := by decide +kernel
theorem dX6_gathers_176 : decode cX6_gathers 176 = .ok (.iload_n 1, 1) := by decide +kernel
theorem dX6_gathers_177 : decode cX6_gathers 177 = .ok (.ireturn, 1) := by decide +kernel
theorem dX6_fewest_0 : decode cX6_fewest 0 = .ok (.aload_n 0, 1) := by decide +kernel
theorem dX6_fewest_1 : decode cX6_fewest 1 = .ok (.invokevirtual 117, 3) := by decide +kernel
theorem dX6_fewest_4 : decode cX6_fewest 4 = .ok (.istore_n 1, 1) := by decide +kernel
theorem dX6_fewest_5 : decode cX6_fewest 5 = .ok (.iconst 0, 1) := by decide +kernel
theorem dX6_fewest_6 : decode cX6_fewest 6 = .ok (.istore_n 2, 1) := by decide +kernel
theorem dX6_fewest_7 : decode cX6_fewest 7 = .ok (.iconst 0, 1) := by decide +kernel
theorem dX6_fewest_8 : decode cX6_fewest 8 = .ok (.istore_n 3, 1) := by decide +kernel
theorem dX6_fewest_9 : decode cX6_fewest 9 = .ok (.iload_n 3, 1) := by decide +kernel
theorem dX6_fewest_10 : decode cX6_fewest 10 = .ok (.iload_n 1, 1) := by decide +kernel
theorem dX6_fewest_11 : decode cX6_fewest 11 = .ok (.if_icmp .ge 18, 3) := by decide +kernel
theorem dX6_fewest_14 : decode cX6_fewest 14 = .ok (.iload_n 2, 1) := by decide +kernel
theorem dX6_fewest_15 : decode cX6_fewest 15 = .ok (.aload_n 0, 1) := by decide +kernel
theorem dX6_fewest_16 : decode cX6_fewest 16 = .ok (.getfield 22, 3) := by decide +kernel
theorem dX6_fewest_19 : decode cX6_fewest 19 = .ok (.iload_n 3, 1) := by decide +kernel
theorem dX6_fewest_20 : decode cX6_fewest 20 = .ok (.iaload, 1) := by decide +kernel
theorem dX6_fewest_21 : decode cX6_fewest 21 = .ok (.ior, 1) := by decide +kernel
theorem dX6_fewest_22 : decode cX6_fewest 22 = .ok (.istore_n 2, 1) := by decide +kernel
theorem dX6_fewest_23 : decode cX6_fewest 23 = .ok (.iinc 3 1, 3) := by decide +kernel
theorem dX6_fewest_26 : decode cX6_fewest 26 = .ok (.goto (-17), 3) := by decide +kernel
theorem dX6_fewest_29 : decode cX6_fewest 29 = .ok (.iload_n 1, 1) := by decide +kernel
theorem dX6_fewest_30 : decode cX6_fewest 30 = .ok (.istore_n 3, 1) := by decide +kernel
theorem dX6_fewest_31 : decode cX6_fewest 31 = .ok (.iconst 0, 1) := by decide +kernel
theorem dX6_fewest_32 : decode cX6_fewest 32 = .ok (.istore 4, 2) := by decide +kernel
theorem dX6_fewest_34 : decode cX6_fewest 34 = .ok (.aload_n 0, 1) := by decide +kernel
theorem dX6_fewest_35 : decode cX6_fewest 35 = .ok (.getfield 28, 3) := by decide +kernel
theorem dX6_fewest_38 : decode cX6_fewest 38 = .ok (.iconst 0, 1) := by decide +kernel
theorem dX6_fewest_39 : decode cX6_fewest 39 = .ok (.iconst 0, 1) := by decide +kernel
theorem dX6_fewest_40 : decode cX6_fewest 40 = .ok (.iastore, 1) := by decide +kernel
theorem dX6_fewest_41 : decode cX6_fewest 41 = .ok (.aload_n 0, 1) := by decide +kernel
theorem dX6_fewest_42 : decode cX6_fewest 42 = .ok (.getfield 25, 3) := by decide +kernel
theorem dX6_fewest_45 : decode cX6_fewest 45 = .ok (.iconst 0, 1) := by decide +kernel
theorem dX6_fewest_46 : decode cX6_fewest 46 = .ok (.iconst (-1), 1) := by decide +kernel
theorem dX6_fewest_47 : decode cX6_fewest 47 = .ok (.iastore, 1) := by decide +kernel
theorem dX6_fewest_48 : decode cX6_fewest 48 = .ok (.iload 4, 2) := by decide +kernel
theorem dX6_fewest_50 : decode cX6_fewest 50 = .ok (.ifCond .lt 183, 3) := by decide +kernel
theorem dX6_fewest_53 : decode cX6_fewest 53 = .ok (.aload_n 0, 1) := by decide +kernel
theorem dX6_fewest_54 : decode cX6_fewest 54 = .ok (.getfield 28, 3) := by decide +kernel
theorem dX6_fewest_57 : decode cX6_fewest 57 = .ok (.iload 4, 2) := by decide +kernel
theorem dX6_fewest_59 : decode cX6_fewest 59 = .ok (.iaload, 1) := by decide +kernel
theorem dX6_fewest_60 : decode cX6_fewest 60 = .ok (.iload_n 2, 1) := by decide +kernel
theorem dX6_fewest_61 : decode cX6_fewest 61 = .ok (.if_icmp .ne 12, 3) := by decide +kernel
theorem dX6_fewest_64 : decode cX6_fewest 64 = .ok (.iload 4, 2) := by decide +kernel
theorem dX6_fewest_66 : decode cX6_fewest 66 = .ok (.iload_n 3, 1) := by decide +kernel
theorem dX6_fewest_67 : decode cX6_fewest 67 = .ok (.if_icmp .ge 6, 3) := by decide +kernel
theorem dX6_fewest_70 : decode cX6_fewest 70 = .ok (.iload 4, 2) := by decide +kernel
theorem dX6_fewest_72 : decode cX6_fewest 72 = .ok (.istore_n 3, 1) := by decide +kernel
theorem dX6_fewest_73 : decode cX6_fewest 73 = .ok (.aload_n 0, 1) := by decide +kernel
theorem dX6_fewest_74 : decode cX6_fewest 74 = .ok (.getfield 28, 3) := by decide +kernel
theorem dX6_fewest_77 : decode cX6_fewest 77 = .ok (.iload 4, 2) := by decide +kernel
theorem dX6_fewest_79 : decode cX6_fewest 79 = .ok (.iaload, 1) := by decide +kernel
theorem dX6_fewest_80 : decode cX6_fewest 80 = .ok (.iload_n 2, 1) := by decide +kernel
theorem dX6_fewest_81 : decode cX6_fewest 81 = .ok (.if_icmp .eq 11, 3) := by decide +kernel
theorem dX6_fewest_84 : decode cX6_fewest 84 = .ok (.iload 4, 2) := by decide +kernel
theorem dX6_fewest_86 : decode cX6_fewest 86 = .ok (.iconst 1, 1) := by decide +kernel
theorem dX6_fewest_87 : decode cX6_fewest 87 = .ok (.iadd, 1) := by decide +kernel
theorem dX6_fewest_88 : decode cX6_fewest 88 = .ok (.iload_n 3, 1) := by decide +kernel
theorem dX6_fewest_89 : decode cX6_fewest 89 = .ok (.if_icmp .lt 9, 3) := by decide +kernel
theorem dX6_fewest_92 : decode cX6_fewest 92 = .ok (.iinc 4 (-1), 3) := by decide +kernel
theorem dX6_fewest_95 : decode cX6_fewest 95 = .ok (.goto (-47), 3) := by decide +kernel
theorem dX6_fewest_98 : decode cX6_fewest 98 = .ok (.iload_n 2, 1) := by decide +kernel
theorem dX6_fewest_99 : decode cX6_fewest 99 = .ok (.aload_n 0, 1) := by decide +kernel
theorem dX6_fewest_100 : decode cX6_fewest 100 = .ok (.getfield 28, 3) := by decide +kernel
theorem dX6_fewest_103 : decode cX6_fewest 103 = .ok (.iload 4, 2) := by decide +kernel
theorem dX6_fewest_105 : decode cX6_fewest 105 = .ok (.iaload, 1) := by decide +kernel
theorem dX6_fewest_106 : decode cX6_fewest 106 = .ok (.iconst (-1), 1) := by decide +kernel
theorem dX6_fewest_107 : decode cX6_fewest 107 = .ok (.ixor, 1) := by decide +kernel
theorem dX6_fewest_108 : decode cX6_fewest 108 = .ok (.iand, 1) := by decide +kernel
theorem dX6_fewest_109 : decode cX6_fewest 109 = .ok (.istore 5, 2) := by decide +kernel
theorem dX6_fewest_111 : decode cX6_fewest 111 = .ok (.iload 5, 2) := by decide +kernel
theorem dX6_fewest_113 : decode cX6_fewest 113 = .ok (.iload 5, 2) := by decide +kernel
theorem dX6_fewest_115 : decode cX6_fewest 115 = .ok (.ineg, 1) := by decide +kernel
theorem dX6_fewest_116 : decode cX6_fewest 116 = .ok (.iand, 1) := by decide +kernel
theorem dX6_fewest_117 : decode cX6_fewest 117 = .ok (.istore 5, 2) := by decide +kernel
theorem dX6_fewest_119 : decode cX6_fewest 119 = .ok (.aload_n 0, 1) := by decide +kernel
theorem dX6_fewest_120 : decode cX6_fewest 120 = .ok (.getfield 25, 3) := by decide +kernel
theorem dX6_fewest_123 : decode cX6_fewest 123 = .ok (.iload 4, 2) := by decide +kernel
theorem dX6_fewest_125 : decode cX6_fewest 125 = .ok (.dup2, 1) := by decide +kernel
theorem dX6_fewest_126 : decode cX6_fewest 126 = .ok (.iaload, 1) := by decide +kernel
theorem dX6_fewest_127 : decode cX6_fewest 127 = .ok (.iconst 1, 1) := by decide +kernel
theorem dX6_fewest_128 : decode cX6_fewest 128 = .ok (.iadd, 1) := by decide +kernel
theorem dX6_fewest_129 : decode cX6_fewest 129 = .ok (.iastore, 1) := by decide +kernel
theorem dX6_fewest_130 : decode cX6_fewest 130 = .ok (.aload_n 0, 1) := by decide +kernel
theorem dX6_fewest_131 : decode cX6_fewest 131 = .ok (.getfield 25, 3) := by decide +kernel
theorem dX6_fewest_134 : decode cX6_fewest 134 = .ok (.iload 4, 2) := by decide +kernel
theorem dX6_fewest_136 : decode cX6_fewest 136 = .ok (.iaload, 1) := by decide +kernel
theorem dX6_fewest_137 : decode cX6_fewest 137 = .ok (.iload_n 1, 1) := by decide +kernel
theorem dX6_fewest_138 : decode cX6_fewest 138 = .ok (.if_icmp .ge 35, 3) := by decide +kernel
theorem dX6_fewest_141 : decode cX6_fewest 141 = .ok (.aload_n 0, 1) := by decide +kernel
theorem dX6_fewest_142 : decode cX6_fewest 142 = .ok (.getfield 22, 3) := by decide +kernel
theorem dX6_fewest_145 : decode cX6_fewest 145 = .ok (.aload_n 0, 1) := by decide +kernel
theorem dX6_fewest_146 : decode cX6_fewest 146 = .ok (.getfield 25, 3) := by decide +kernel
theorem dX6_fewest_149 : decode cX6_fewest 149 = .ok (.iload 4, 2) := by decide +kernel
theorem dX6_fewest_151 : decode cX6_fewest 151 = .ok (.iaload, 1) := by decide +kernel
theorem dX6_fewest_152 : decode cX6_fewest 152 = .ok (.iaload, 1) := by decide +kernel
theorem dX6_fewest_153 : decode cX6_fewest 153 = .ok (.iload 5, 2) := by decide +kernel
theorem dX6_fewest_155 : decode cX6_fewest 155 = .ok (.iand, 1) := by decide +kernel
theorem dX6_fewest_156 : decode cX6_fewest 156 = .ok (.ifCond .ne 17, 3) := by decide +kernel
theorem dX6_fewest_159 : decode cX6_fewest 159 = .ok (.aload_n 0, 1) := by decide +kernel
theorem dX6_fewest_160 : decode cX6_fewest 160 = .ok (.getfield 25, 3) := by decide +kernel
theorem dX6_fewest_163 : decode cX6_fewest 163 = .ok (.iload 4, 2) := by decide +kernel
theorem dX6_fewest_165 : decode cX6_fewest 165 = .ok (.dup2, 1) := by decide +kernel
theorem dX6_fewest_166 : decode cX6_fewest 166 = .ok (.iaload, 1) := by decide +kernel
theorem dX6_fewest_167 : decode cX6_fewest 167 = .ok (.iconst 1, 1) := by decide +kernel
theorem dX6_fewest_168 : decode cX6_fewest 168 = .ok (.iadd, 1) := by decide +kernel
theorem dX6_fewest_169 : decode cX6_fewest 169 = .ok (.iastore, 1) := by decide +kernel
theorem dX6_fewest_170 : decode cX6_fewest 170 = .ok (.goto (-40), 3) := by decide +kernel
theorem dX6_fewest_173 : decode cX6_fewest 173 = .ok (.aload_n 0, 1) := by decide +kernel
theorem dX6_fewest_174 : decode cX6_fewest 174 = .ok (.getfield 25, 3) := by decide +kernel
theorem dX6_fewest_177 : decode cX6_fewest 177 = .ok (.iload 4, 2) := by decide +kernel
theorem dX6_fewest_179 : decode cX6_fewest 179 = .ok (.iaload, 1) := by decide +kernel
theorem dX6_fewest_180 : decode cX6_fewest 180 = .ok (.iload_n 1, 1) := by decide +kernel
theorem dX6_fewest_181 : decode cX6_fewest 181 = .ok (.if_icmp .lt 9, 3) := by decide +kernel
theorem dX6_fewest_184 : decode cX6_fewest 184 = .ok (.iinc 4 (-1), 3) := by decide +kernel
theorem dX6_fewest_187 : decode cX6_fewest 187 = .ok (.goto (-139), 3) := by decide +kernel
theorem dX6_fewest_190 : decode cX6_fewest 190 = .ok (.aload_n 0, 1) := by decide +kernel
theorem dX6_fewest_191 : decode cX6_fewest 191 = .ok (.getfield 28, 3) := by decide +kernel
theorem dX6_fewest_194 : decode cX6_fewest 194 = .ok (.iload 4, 2) := by decide +kernel
theorem dX6_fewest_196 : decode cX6_fewest 196 = .ok (.iconst 1, 1) := by decide +kernel
theorem dX6_fewest_197 : decode cX6_fewest 197 = .ok (.iadd, 1) := by decide +kernel
theorem dX6_fewest_198 : decode cX6_fewest 198 = .ok (.aload_n 0, 1) := by decide +kernel
theorem dX6_fewest_199 : decode cX6_fewest 199 = .ok (.getfield 28, 3) := by decide +kernel
theorem dX6_fewest_202 : decode cX6_fewest 202 = .ok (.iload 4, 2) := by decide +kernel
theorem dX6_fewest_204 : decode cX6_fewest 204 = .ok (.iaload, 1) := by decide +kernel
theorem dX6_fewest_205 : decode cX6_fewest 205 = .ok (.aload_n 0, 1) := by decide +kernel
theorem dX6_fewest_206 : decode cX6_fewest 206 = .ok (.getfield 22, 3) := by decide +kernel
theorem dX6_fewest_209 : decode cX6_fewest 209 = .ok (.aload_n 0, 1) := by decide +kernel
theorem dX6_fewest_210 : decode cX6_fewest 210 = .ok (.getfield 25, 3) := by decide +kernel
theorem dX6_fewest_213 : decode cX6_fewest 213 = .ok (.iload 4, 2) := by decide +kernel
theorem dX6_fewest_215 : decode cX6_fewest 215 = .ok (.iaload, 1) := by decide +kernel
theorem dX6_fewest_216 : decode cX6_fewest 216 = .ok (.iaload, 1) := by decide +kernel
theorem dX6_fewest_217 : decode cX6_fewest 217 = .ok (.ior, 1) := by decide +kernel
theorem dX6_fewest_218 : decode cX6_fewest 218 = .ok (.iastore, 1) := by decide +kernel
theorem dX6_fewest_219 : decode cX6_fewest 219 = .ok (.iinc 4 1, 3) := by decide +kernel
theorem dX6_fewest_222 : decode cX6_fewest 222 = .ok (.aload_n 0, 1) := by decide +kernel
theorem dX6_fewest_223 : decode cX6_fewest 223 = .ok (.getfield 25, 3) := by decide +kernel
theorem dX6_fewest_226 : decode cX6_fewest 226 = .ok (.iload 4, 2) := by decide +kernel
theorem dX6_fewest_228 : decode cX6_fewest 228 = .ok (.iconst (-1), 1) := by decide +kernel
theorem dX6_fewest_229 : decode cX6_fewest 229 = .ok (.iastore, 1) := by decide +kernel
theorem dX6_fewest_230 : decode cX6_fewest 230 = .ok (.goto (-182), 3) := by decide +kernel
theorem dX6_fewest_233 : decode cX6_fewest 233 = .ok (.iload_n 3, 1) := by decide +kernel
theorem dX6_fewest_234 : decode cX6_fewest 234 = .ok (.ireturn, 1) := by decide +kernel
theorem dX6_isNamed_0 : decode cX6_isNamed 0 = .ok (.iconst 0, 1) := by decide +kernel
theorem dX6_isNamed_1 : decode cX6_isNamed 1 = .ok (.istore_n 2, 1) := by decide +kernel
theorem dX6_isNamed_2 : decode cX6_isNamed 2 = .ok (.iload_n 2, 1) := by decide +kernel
theorem dX6_isNamed_3 : decode cX6_isNamed 3 = .ok (.aload_n 0, 1) := by decide +kernel
theorem dX6_isNamed_4 : decode cX6_isNamed 4 = .ok (.getfield 35, 3) := by decide +kernel
theorem dX6_isNamed_7 : decode cX6_isNamed 7 = .ok (.if_icmp .ge 50, 3) := by decide +kernel
theorem dX6_isNamed_10 : decode cX6_isNamed 10 = .ok (.iload_n 1, 1) := by decide +kernel
theorem dX6_isNamed_11 : decode cX6_isNamed 11 = .ok (.bipush 20, 2) := by decide +kernel
theorem dX6_isNamed_13 : decode cX6_isNamed 13 = .ok (.if_icmp .lt 27, 3) := by decide +kernel
theorem dX6_isNamed_16 : decode cX6_isNamed 16 = .ok (.aload_n 0, 1) := by decide +kernel
theorem dX6_isNamed_17 : decode cX6_isNamed 17 = .ok (.iload_n 2, 1) := by decide +kernel
theorem dX6_isNamed_18 : decode cX6_isNamed 18 = .ok (.iconst 1, 1) := by decide +kernel
theorem dX6_isNamed_19 : decode cX6_isNamed 19 = .ok (.invokevirtual 39, 3) := by decide +kernel
theorem dX6_isNamed_22 : decode cX6_isNamed 22 = .ok (.bipush 30, 2) := by decide +kernel
theorem dX6_isNamed_24 : decode cX6_isNamed 24 = .ok (.if_icmp .ne 27, 3) := by decide +kernel
theorem dX6_isNamed_27 : decode cX6_isNamed 27 = .ok (.aload_n 0, 1) := by decide +kernel
theorem dX6_isNamed_28 : decode cX6_isNamed 28 = .ok (.iload_n 2, 1) := by decide +kernel
theorem dX6_isNamed_29 : decode cX6_isNamed 29 = .ok (.iconst 2, 1) := by decide +kernel
theorem dX6_isNamed_30 : decode cX6_isNamed 30 = .ok (.invokevirtual 39, 3) := by decide +kernel
theorem dX6_isNamed_33 : decode cX6_isNamed 33 = .ok (.iload_n 1, 1) := by decide +kernel
theorem dX6_isNamed_34 : decode cX6_isNamed 34 = .ok (.if_icmp .ne 17, 3) := by decide +kernel
theorem dX6_isNamed_37 : decode cX6_isNamed 37 = .ok (.goto 12, 3) := by decide +kernel
theorem dX6_isNamed_40 : decode cX6_isNamed 40 = .ok (.aload_n 0, 1) := by decide +kernel
theorem dX6_isNamed_41 : decode cX6_isNamed 41 = .ok (.iload_n 2, 1) := by decide +kernel
theorem dX6_isNamed_42 : decode cX6_isNamed 42 = .ok (.iload_n 1, 1) := by decide +kernel
theorem dX6_isNamed_43 : decode cX6_isNamed 43 = .ok (.invokevirtual 57, 3) := by decide +kernel
theorem dX6_isNamed_46 : decode cX6_isNamed 46 = .ok (.ifCond .eq 5, 3) := by decide +kernel
theorem dX6_isNamed_49 : decode cX6_isNamed 49 = .ok (.iconst 1, 1) := by decide +kernel
theorem dX6_isNamed_50 : decode cX6_isNamed 50 = .ok (.ireturn, 1) := by decide +kernel
theorem dX6_isNamed_51 : decode cX6_isNamed 51 = .ok (.iinc 2 1, 3) := by decide +kernel
theorem dX6_isNamed_54 : decode cX6_isNamed 54 = .ok (.goto (-52), 3) := by decide +kernel
theorem dX6_isNamed_57 : decode cX6_isNamed 57 = .ok (.iconst 0, 1) := by decide +kernel
theorem dX6_isNamed_58 : decode cX6_isNamed 58 = .ok (.ireturn, 1) := by decide +kernel
theorem dX6_wrong_0 : decode cX6_wrong 0 = .ok (.iload_n 1, 1) := by decide +kernel
theorem dX6_wrong_1 : decode cX6_wrong 1 = .ok (.iconst 3, 1) := by decide +kernel
theorem dX6_wrong_2 : decode cX6_wrong 2 = .ok (.if_icmp .eq 7, 3) := by decide +kernel
theorem dX6_wrong_5 : decode cX6_wrong 5 = .ok (.iload_n 3, 1) := by decide +kernel
theorem dX6_wrong_6 : decode cX6_wrong 6 = .ok (.ifCond .ge 5, 3) := by decide +kernel
theorem dX6_wrong_9 : decode cX6_wrong 9 = .ok (.iconst (-1), 1) := by decide +kernel
theorem dX6_wrong_10 : decode cX6_wrong 10 = .ok (.ireturn, 1) := by decide +kernel
theorem dX6_wrong_11 : decode cX6_wrong 11 = .ok (.aload_n 0, 1) := by decide +kernel
theorem dX6_wrong_12 : decode cX6_wrong 12 = .ok (.iload_n 1, 1) := by decide +kernel
theorem dX6_wrong_13 : decode cX6_wrong 13 = .ok (.iload_n 2, 1) := by decide +kernel
theorem dX6_wrong_14 : decode cX6_wrong 14 = .ok (.aload_n 0, 1) := by decide +kernel
theorem dX6_wrong_15 : decode cX6_wrong 15 = .ok (.getfield 35, 3) := by decide +kernel
theorem dX6_wrong_18 : decode cX6_wrong 18 = .ok (.invokevirtual 108, 3) := by decide +kernel
theorem dX6_wrong_21 : decode cX6_wrong 21 = .ok (.istore 4, 2) := by decide +kernel
theorem dX6_wrong_23 : decode cX6_wrong 23 = .ok (.iload 4, 2) := by decide +kernel
theorem dX6_wrong_25 : decode cX6_wrong 25 = .ok (.ifCond .ge 5, 3) := by decide +kernel
theorem dX6_wrong_28 : decode cX6_wrong 28 = .ok (.iconst (-1), 1) := by decide +kernel
theorem dX6_wrong_29 : decode cX6_wrong 29 = .ok (.ireturn, 1) := by decide +kernel
theorem dX6_wrong_30 : decode cX6_wrong 30 = .ok (.iload_n 3, 1) := by decide +kernel
theorem dX6_wrong_31 : decode cX6_wrong 31 = .ok (.istore 5, 2) := by decide +kernel
theorem dX6_wrong_33 : decode cX6_wrong 33 = .ok (.iload_n 1, 1) := by decide +kernel
theorem dX6_wrong_34 : decode cX6_wrong 34 = .ok (.iconst 2, 1) := by decide +kernel
theorem dX6_wrong_35 : decode cX6_wrong 35 = .ok (.if_icmp .ne 7, 3) := by decide +kernel
theorem dX6_wrong_38 : decode cX6_wrong 38 = .ok (.iconst 0, 1) := by decide +kernel
theorem dX6_wrong_39 : decode cX6_wrong 39 = .ok (.goto 5, 3) := by decide +kernel
theorem dX6_wrong_42 : decode cX6_wrong 42 = .ok (.bipush 20, 2) := by decide +kernel
theorem dX6_wrong_44 : decode cX6_wrong 44 = .ok (.istore 6, 2) := by decide +kernel
theorem dX6_wrong_46 : decode cX6_wrong 46 = .ok (.iload 6, 2) := by decide +kernel
theorem dX6_wrong_48 : decode cX6_wrong 48 = .ok (.istore 7, 2) := by decide +kernel
theorem dX6_wrong_50 : decode cX6_wrong 50 = .ok (.iload 7, 2) := by decide +kernel
theorem dX6_wrong_52 : decode cX6_wrong 52 = .ok (.iload 6, 2) := by decide +kernel
theorem dX6_wrong_54 : decode cX6_wrong 54 = .ok (.bipush 8, 2) := by decide +kernel
theorem dX6_wrong_56 : decode cX6_wrong 56 = .ok (.iadd, 1) := by decide +kernel
theorem dX6_wrong_57 : decode cX6_wrong 57 = .ok (.if_icmp .ge 39, 3) := by decide +kernel
theorem dX6_wrong_60 : decode cX6_wrong 60 = .ok (.iload 7, 2) := by decide +kernel
theorem dX6_wrong_62 : decode cX6_wrong 62 = .ok (.iload 4, 2) := by decide +kernel
theorem dX6_wrong_64 : decode cX6_wrong 64 = .ok (.if_icmp .eq 26, 3) := by decide +kernel
theorem dX6_wrong_67 : decode cX6_wrong 67 = .ok (.aload_n 0, 1) := by decide +kernel
theorem dX6_wrong_68 : decode cX6_wrong 68 = .ok (.iload 7, 2) := by decide +kernel
theorem dX6_wrong_70 : decode cX6_wrong 70 = .ok (.invokevirtual 121, 3) := by decide +kernel
theorem dX6_wrong_73 : decode cX6_wrong 73 = .ok (.ifCond .ne 6, 3) := by decide +kernel
theorem dX6_wrong_76 : decode cX6_wrong 76 = .ok (.goto 14, 3) := by decide +kernel
theorem dX6_wrong_79 : decode cX6_wrong 79 = .ok (.iload 5, 2) := by decide +kernel
theorem dX6_wrong_81 : decode cX6_wrong 81 = .ok (.ifCond .ne 6, 3) := by decide +kernel
theorem dX6_wrong_84 : decode cX6_wrong 84 = .ok (.iload 7, 2) := by decide +kernel
theorem dX6_wrong_86 : decode cX6_wrong 86 = .ok (.ireturn, 1) := by decide +kernel
theorem dX6_wrong_87 : decode cX6_wrong 87 = .ok (.iinc 5 (-1), 3) := by decide +kernel
theorem dX6_wrong_90 : decode cX6_wrong 90 = .ok (.iinc 7 1, 3) := by decide +kernel
theorem dX6_wrong_93 : decode cX6_wrong 93 = .ok (.goto (-43), 3) := by decide +kernel
theorem dX6_wrong_96 : decode cX6_wrong 96 = .ok (.iconst (-1), 1) := by decide +kernel
theorem dX6_wrong_97 : decode cX6_wrong 97 = .ok (.ireturn, 1) := by decide +kernel
theorem dX6_count_0 : decode cX6_count 0 = .ok (.iload_n 1, 1) := by decide +kernel
theorem dX6_count_1 : decode cX6_count 1 = .ok (.iconst 0, 1) := by decide +kernel
theorem dX6_count_2 : decode cX6_count 2 = .ok (.iconst 4, 1) := by decide +kernel
theorem dX6_count_3 : decode cX6_count 3 = .ok (.invokestatic 31, 3) := by decide +kernel
theorem dX6_count_6 : decode cX6_count 6 = .ok (.ifCond .ne 5, 3) := by decide +kernel
theorem dX6_count_9 : decode cX6_count 9 = .ok (.iconst (-1), 1) := by decide +kernel
theorem dX6_count_10 : decode cX6_count 10 = .ok (.ireturn, 1) := by decide +kernel
theorem dX6_count_11 : decode cX6_count 11 = .ok (.iload_n 1, 1) := by decide +kernel
theorem dX6_count_12 : decode cX6_count 12 = .ok (.ifCond .ne 8, 3) := by decide +kernel
theorem dX6_count_15 : decode cX6_count 15 = .ok (.aload_n 0, 1) := by decide +kernel
theorem dX6_count_16 : decode cX6_count 16 = .ok (.getfield 35, 3) := by decide +kernel
theorem dX6_count_19 : decode cX6_count 19 = .ok (.ireturn, 1) := by decide +kernel
theorem dX6_count_20 : decode cX6_count 20 = .ok (.iload_n 1, 1) := by decide +kernel
theorem dX6_count_21 : decode cX6_count 21 = .ok (.iconst 1, 1) := by decide +kernel
theorem dX6_count_22 : decode cX6_count 22 = .ok (.if_icmp .ne 26, 3) := by decide +kernel
theorem dX6_count_25 : decode cX6_count 25 = .ok (.aload_n 0, 1) := by decide +kernel
theorem dX6_count_26 : decode cX6_count 26 = .ok (.getfield 35, 3) := by decide +kernel
theorem dX6_count_29 : decode cX6_count 29 = .ok (.bipush 14, 2) := by decide +kernel
theorem dX6_count_31 : decode cX6_count 31 = .ok (.if_icmp .ge 15, 3) := by decide +kernel
theorem dX6_count_34 : decode cX6_count 34 = .ok (.aload_n 0, 1) := by decide +kernel
theorem dX6_count_35 : decode cX6_count 35 = .ok (.getfield 13, 3) := by decide +kernel
theorem dX6_count_38 : decode cX6_count 38 = .ok (.aload_n 0, 1) := by decide +kernel
theorem dX6_count_39 : decode cX6_count 39 = .ok (.getfield 35, 3) := by decide +kernel
theorem dX6_count_42 : decode cX6_count 42 = .ok (.iaload, 1) := by decide +kernel
theorem dX6_count_43 : decode cX6_count 43 = .ok (.goto 4, 3) := by decide +kernel
theorem dX6_count_46 : decode cX6_count 46 = .ok (.iconst 0, 1) := by decide +kernel
theorem dX6_count_47 : decode cX6_count 47 = .ok (.ireturn, 1) := by decide +kernel
theorem dX6_count_48 : decode cX6_count 48 = .ok (.aload_n 0, 1) := by decide +kernel
theorem dX6_count_49 : decode cX6_count 49 = .ok (.aload_n 0, 1) := by decide +kernel
theorem dX6_count_50 : decode cX6_count 50 = .ok (.getfield 35, 3) := by decide +kernel
theorem dX6_count_53 : decode cX6_count 53 = .ok (.invokevirtual 50, 3) := by decide +kernel
theorem dX6_count_56 : decode cX6_count 56 = .ok (.iload_n 1, 1) := by decide +kernel
theorem dX6_count_57 : decode cX6_count 57 = .ok (.iconst 2, 1) := by decide +kernel
theorem dX6_count_58 : decode cX6_count 58 = .ok (.if_icmp .ne 8, 3) := by decide +kernel
theorem dX6_count_61 : decode cX6_count 61 = .ok (.aload_n 0, 1) := by decide +kernel
theorem dX6_count_62 : decode cX6_count 62 = .ok (.getfield 54, 3) := by decide +kernel
theorem dX6_count_65 : decode cX6_count 65 = .ok (.ireturn, 1) := by decide +kernel
theorem dX6_count_66 : decode cX6_count 66 = .ok (.iconst 0, 1) := by decide +kernel
theorem dX6_count_67 : decode cX6_count 67 = .ok (.istore_n 2, 1) := by decide +kernel
theorem dX6_count_68 : decode cX6_count 68 = .ok (.iconst 0, 1) := by decide +kernel
theorem dX6_count_69 : decode cX6_count 69 = .ok (.istore_n 3, 1) := by decide +kernel
theorem dX6_count_70 : decode cX6_count 70 = .ok (.iload_n 3, 1) := by decide +kernel
theorem dX6_count_71 : decode cX6_count 71 = .ok (.iconst 4, 1) := by decide +kernel
theorem dX6_count_72 : decode cX6_count 72 = .ok (.if_icmp .ge 69, 3) := by decide +kernel
theorem dX6_count_75 : decode cX6_count 75 = .ok (.iconst 0, 1) := by decide +kernel
theorem dX6_count_76 : decode cX6_count 76 = .ok (.istore 4, 2) := by decide +kernel
theorem dX6_count_78 : decode cX6_count 78 = .ok (.iload_n 3, 1) := by decide +kernel
theorem dX6_count_79 : decode cX6_count 79 = .ok (.iload 4, 2) := by decide +kernel
theorem dX6_count_81 : decode cX6_count 81 = .ok (.invokestatic 95, 3) := by decide +kernel
theorem dX6_count_84 : decode cX6_count 84 = .ok (.ifCond .eq 51, 3) := by decide +kernel
theorem dX6_count_87 : decode cX6_count 87 = .ok (.aload_n 0, 1) := by decide +kernel
theorem dX6_count_88 : decode cX6_count 88 = .ok (.iload_n 3, 1) := by decide +kernel
theorem dX6_count_89 : decode cX6_count 89 = .ok (.iload 4, 2) := by decide +kernel
theorem dX6_count_91 : decode cX6_count 91 = .ok (.invokevirtual 98, 3) := by decide +kernel
theorem dX6_count_94 : decode cX6_count 94 = .ok (.istore 5, 2) := by decide +kernel
theorem dX6_count_96 : decode cX6_count 96 = .ok (.iload_n 2, 1) := by decide +kernel
theorem dX6_count_97 : decode cX6_count 97 = .ok (.iload_n 1, 1) := by decide +kernel
theorem dX6_count_98 : decode cX6_count 98 = .ok (.iconst 3, 1) := by decide +kernel
theorem dX6_count_99 : decode cX6_count 99 = .ok (.if_icmp .ne 16, 3) := by decide +kernel
theorem dX6_count_102 : decode cX6_count 102 = .ok (.iload 5, 2) := by decide +kernel
theorem dX6_count_104 : decode cX6_count 104 = .ok (.ifCond .lt 7, 3) := by decide +kernel
theorem dX6_count_107 : decode cX6_count 107 = .ok (.iconst 1, 1) := by decide +kernel
theorem dX6_count_108 : decode cX6_count 108 = .ok (.goto 19, 3) := by decide +kernel
theorem dX6_count_111 : decode cX6_count 111 = .ok (.iconst 0, 1) := by decide +kernel
theorem dX6_count_112 : decode cX6_count 112 = .ok (.goto 15, 3) := by decide +kernel
theorem dX6_count_115 : decode cX6_count 115 = .ok (.iload 5, 2) := by decide +kernel
theorem dX6_count_117 : decode cX6_count 117 = .ok (.bipush (-3), 2) := by decide +kernel
theorem dX6_count_119 : decode cX6_count 119 = .ok (.if_icmp .ne 7, 3) := by decide +kernel
theorem dX6_count_122 : decode cX6_count 122 = .ok (.iconst 1, 1) := by decide +kernel
theorem dX6_count_123 : decode cX6_count 123 = .ok (.goto 4, 3) := by decide +kernel
theorem dX6_count_126 : decode cX6_count 126 = .ok (.iconst 0, 1) := by decide +kernel
theorem dX6_count_127 : decode cX6_count 127 = .ok (.iadd, 1) := by decide +kernel
theorem dX6_count_128 : decode cX6_count 128 = .ok (.istore_n 2, 1) := by decide +kernel
theorem dX6_count_129 : decode cX6_count 129 = .ok (.iinc 4 1, 3) := by decide +kernel
theorem dX6_count_132 : decode cX6_count 132 = .ok (.goto (-54), 3) := by decide +kernel
theorem dX6_count_135 : decode cX6_count 135 = .ok (.iinc 3 1, 3) := by decide +kernel
theorem dX6_count_138 : decode cX6_count 138 = .ok (.goto (-68), 3) := by decide +kernel
theorem dX6_count_141 : decode cX6_count 141 = .ok (.iload_n 2, 1) := by decide +kernel
theorem dX6_count_142 : decode cX6_count 142 = .ok (.ireturn, 1) := by decide +kernel
