theorem dX8_init_0 : decode cX8_init 0 = .ok (.aload_n 0, 1) := by decide +kernel
theorem dX8_init_1 : decode cX8_init 1 = .ok (.invokespecial 1, 3) := by decide +kernel
theorem dX8_init_4 : decode cX8_init 4 = .ok (.aload_n 0, 1) := by decide +kernel
theorem dX8_init_5 : decode cX8_init 5 = .ok (.bipush 79, 2) := by decide +kernel
theorem dX8_init_7 : decode cX8_init 7 = .ok (.newarray .int, 2) := by decide +kernel
theorem dX8_init_9 : decode cX8_init 9 = .ok (.putfield 7, 3) := by decide +kernel
theorem dX8_init_12 : decode cX8_init 12 = .ok (.aload_n 0, 1) := by decide +kernel
theorem dX8_init_13 : decode cX8_init 13 = .ok (.sipush 316, 3) := by decide +kernel
theorem dX8_init_16 : decode cX8_init 16 = .ok (.newarray .int, 2) := by decide +kernel
theorem dX8_init_18 : decode cX8_init 18 = .ok (.putfield 13, 3) := by decide +kernel
theorem dX8_init_21 : decode cX8_init 21 = .ok (.aload_n 0, 1) := by decide +kernel
theorem dX8_init_22 : decode cX8_init 22 = .ok (.bipush 79, 2) := by decide +kernel
theorem dX8_init_24 : decode cX8_init 24 = .ok (.newarray .int, 2) := by decide +kernel
theorem dX8_init_26 : decode cX8_init 26 = .ok (.putfield 16, 3) := by decide +kernel
theorem dX8_init_29 : decode cX8_init 29 = .ok (.aload_n 0, 1) := by decide +kernel
theorem dX8_init_30 : decode cX8_init 30 = .ok (.bipush 79, 2) := by decide +kernel
theorem dX8_init_32 : decode cX8_init 32 = .ok (.newarray .int, 2) := by decide +kernel
theorem dX8_init_34 : decode cX8_init 34 = .ok (.putfield 19, 3) := by decide +kernel
theorem dX8_init_37 : decode cX8_init 37 = .ok (.aload_n 0, 1) := by decide +kernel
theorem dX8_init_38 : decode cX8_init 38 = .ok (.bipush 60, 2) := by decide +kernel
theorem dX8_init_40 : decode cX8_init 40 = .ok (.newarray .char, 2) := by decide +kernel
theorem dX8_init_42 : decode cX8_init 42 = .ok (.putfield 22, 3) := by decide +kernel
theorem dX8_init_45 : decode cX8_init 45 = .ok (.aload_n 0, 1) := by decide +kernel
theorem dX8_init_46 : decode cX8_init 46 = .ok (.bipush 8, 2) := by decide +kernel
theorem dX8_init_48 : decode cX8_init 48 = .ok (.newarray .int, 2) := by decide +kernel
theorem dX8_init_50 : decode cX8_init 50 = .ok (.putfield 26, 3) := by decide +kernel
theorem dX8_init_53 : decode cX8_init 53 = .ok (.aload_n 0, 1) := by decide +kernel
theorem dX8_init_54 : decode cX8_init 54 = .ok (.bipush 8, 2) := by decide +kernel
theorem dX8_init_56 : decode cX8_init 56 = .ok (.newarray .int, 2) := by decide +kernel
theorem dX8_init_58 : decode cX8_init 58 = .ok (.putfield 29, 3) := by decide +kernel
theorem dX8_init_61 : decode cX8_init 61 = .ok (.aload_n 0, 1) := by decide +kernel
theorem dX8_init_62 : decode cX8_init 62 = .ok (.iconst 4, 1) := by decide +kernel
theorem dX8_init_63 : decode cX8_init 63 = .ok (.newarray .int, 2) := by decide +kernel
theorem dX8_init_65 : decode cX8_init 65 = .ok (.putfield 32, 3) := by decide +kernel
theorem dX8_init_68 : decode cX8_init 68 = .ok (.aload_n 0, 1) := by decide +kernel
theorem dX8_init_69 : decode cX8_init 69 = .ok (.iconst 4, 1) := by decide +kernel
theorem dX8_init_70 : decode cX8_init 70 = .ok (.newarray .int, 2) := by decide +kernel
theorem dX8_init_72 : decode cX8_init 72 = .ok (.putfield 35, 3) := by decide +kernel
theorem dX8_init_75 : decode cX8_init 75 = .ok (.aload_n 0, 1) := by decide +kernel
theorem dX8_init_76 : decode cX8_init 76 = .ok (.getfield 7, 3) := by decide +kernel
theorem dX8_init_79 : decode cX8_init 79 = .ok (.iconst 2, 1) := by decide +kernel
theorem dX8_init_80 : decode cX8_init 80 = .ok (.bipush 6, 2) := by decide +kernel
theorem dX8_init_82 : decode cX8_init 82 = .ok (.iastore, 1) := by decide +kernel
theorem dX8_init_83 : decode cX8_init 83 = .ok (.aload_n 0, 1) := by decide +kernel
theorem dX8_init_84 : decode cX8_init 84 = .ok (.getfield 7, 3) := by decide +kernel
theorem dX8_init_87 : decode cX8_init 87 = .ok (.iconst 5, 1) := by decide +kernel
theorem dX8_init_88 : decode cX8_init 88 = .ok (.iconst 4, 1) := by decide +kernel
theorem dX8_init_89 : decode cX8_init 89 = .ok (.iastore, 1) := by decide +kernel
theorem dX8_init_90 : decode cX8_init 90 = .ok (.aload_n 0, 1) := by decide +kernel
theorem dX8_init_91 : decode cX8_init 91 = .ok (.getfield 7, 3) := by decide +kernel
theorem dX8_init_94 : decode cX8_init 94 = .ok (.bipush 6, 2) := by decide +kernel
theorem dX8_init_96 : decode cX8_init 96 = .ok (.iconst 4, 1) := by decide +kernel
theorem dX8_init_97 : decode cX8_init 97 = .ok (.iastore, 1) := by decide +kernel
theorem dX8_init_98 : decode cX8_init 98 = .ok (.return_, 1) := by decide +kernel
theorem dX8_in_0 : decode cX8_in 0 = .ok (.iload_n 0, 1) := by decide +kernel
theorem dX8_in_1 : decode cX8_in 1 = .ok (.iload_n 1, 1) := by decide +kernel
theorem dX8_in_2 : decode cX8_in 2 = .ok (.if_icmp .lt 12, 3) := by decide +kernel
theorem dX8_in_5 : decode cX8_in 5 = .ok (.iload_n 0, 1) := by decide +kernel
theorem dX8_in_6 : decode cX8_in 6 = .ok (.iload_n 2, 1) := by decide +kernel
theorem dX8_in_7 : decode cX8_in 7 = .ok (.if_icmp .gt 7, 3) := by decide +kernel
theorem dX8_in_10 : decode cX8_in 10 = .ok (.iconst 1, 1) := by decide +kernel
theorem dX8_in_11 : decode cX8_in 11 = .ok (.goto 4, 3) := by decide +kernel
theorem dX8_in_14 : decode cX8_in 14 = .ok (.iconst 0, 1) := by decide +kernel
theorem dX8_in_15 : decode cX8_in 15 = .ok (.ireturn, 1) := by decide +kernel
theorem dX8_sh_0 : decode cX8_sh 0 = .ok (.aload_n 0, 1) := by decide +kernel
theorem dX8_sh_1 : decode cX8_sh 1 = .ok (.getfield 7, 3) := by decide +kernel
theorem dX8_sh_4 : decode cX8_sh 4 = .ok (.bipush 7, 2) := by decide +kernel
theorem dX8_sh_6 : decode cX8_sh 6 = .ok (.bipush 7, 2) := by decide +kernel
theorem dX8_sh_8 : decode cX8_sh 8 = .ok (.iload_n 1, 1) := by decide +kernel
theorem dX8_sh_9 : decode cX8_sh 9 = .ok (.imul, 1) := by decide +kernel
theorem dX8_sh_10 : decode cX8_sh 10 = .ok (.iadd, 1) := by decide +kernel
theorem dX8_sh_11 : decode cX8_sh 11 = .ok (.iload_n 2, 1) := by decide +kernel
theorem dX8_sh_12 : decode cX8_sh 12 = .ok (.iadd, 1) := by decide +kernel
theorem dX8_sh_13 : decode cX8_sh 13 = .ok (.iaload, 1) := by decide +kernel
theorem dX8_sh_14 : decode cX8_sh 14 = .ok (.ireturn, 1) := by decide +kernel
theorem dX8_st_0 : decode cX8_st 0 = .ok (.aload_n 0, 1) := by decide +kernel
theorem dX8_st_1 : decode cX8_st 1 = .ok (.getfield 7, 3) := by decide +kernel
theorem dX8_st_4 : decode cX8_st 4 = .ok (.bipush 63, 2) := by decide +kernel
theorem dX8_st_6 : decode cX8_st 6 = .ok (.iconst 4, 1) := by decide +kernel
theorem dX8_st_7 : decode cX8_st 7 = .ok (.iload_n 1, 1) := by decide +kernel
theorem dX8_st_8 : decode cX8_st 8 = .ok (.imul, 1) := by decide +kernel
theorem dX8_st_9 : decode cX8_st 9 = .ok (.iadd, 1) := by decide +kernel
theorem dX8_st_10 : decode cX8_st 10 = .ok (.iload_n 2, 1) := by decide +kernel
theorem dX8_st_11 : decode cX8_st 11 = .ok (.iadd, 1) := by decide +kernel
theorem dX8_st_12 : decode cX8_st 12 = .ok (.iaload, 1) := by decide +kernel
theorem dX8_st_13 : decode cX8_st 13 = .ok (.ireturn, 1) := by decide +kernel
theorem dX8_isShade_0 : decode cX8_isShade 0 = .ok (.iload_n 1, 1) := by decide +kernel
theorem dX8_isShade_1 : decode cX8_isShade 1 = .ok (.iconst 0, 1) := by decide +kernel
theorem dX8_isShade_2 : decode cX8_isShade 2 = .ok (.aload_n 0, 1) := by decide +kernel
theorem dX8_isShade_3 : decode cX8_isShade 3 = .ok (.getfield 7, 3) := by decide +kernel
theorem dX8_isShade_6 : decode cX8_isShade 6 = .ok (.iconst 0, 1) := by decide +kernel
theorem dX8_isShade_7 : decode cX8_isShade 7 = .ok (.iaload, 1) := by decide +kernel
theorem dX8_isShade_8 : decode cX8_isShade 8 = .ok (.iconst 1, 1) := by decide +kernel
theorem dX8_isShade_9 : decode cX8_isShade 9 = .ok (.isub, 1) := by decide +kernel
theorem dX8_isShade_10 : decode cX8_isShade 10 = .ok (.invokestatic 38, 3) := by decide +kernel
theorem dX8_isShade_13 : decode cX8_isShade 13 = .ok (.ireturn, 1) := by decide +kernel
theorem dX8_isString_0 : decode cX8_isString 0 = .ok (.iload_n 1, 1) := by decide +kernel
theorem dX8_isString_1 : decode cX8_isString 1 = .ok (.iconst 0, 1) := by decide +kernel
theorem dX8_isString_2 : decode cX8_isString 2 = .ok (.aload_n 0, 1) := by decide +kernel
theorem dX8_isString_3 : decode cX8_isString 3 = .ok (.getfield 7, 3) := by decide +kernel
theorem dX8_isString_6 : decode cX8_isString 6 = .ok (.iconst 1, 1) := by decide +kernel
theorem dX8_isString_7 : decode cX8_isString 7 = .ok (.iaload, 1) := by decide +kernel
theorem dX8_isString_8 : decode cX8_isString 8 = .ok (.iconst 1, 1) := by decide +kernel
theorem dX8_isString_9 : decode cX8_isString 9 = .ok (.isub, 1) := by decide +kernel
theorem dX8_isString_10 : decode cX8_isString 10 = .ok (.invokestatic 38, 3) := by decide +kernel
theorem dX8_isString_13 : decode cX8_isString 13 = .ok (.ireturn, 1) := by decide +kernel
theorem dX8_areShades_0 : decode cX8_areShades 0 = .ok (.iload_n 1, 1) := by decide +kernel
theorem dX8_areShades_1 : decode cX8_areShades 1 = .ok (.iconst 0, 1) := by decide +kernel
theorem dX8_areShades_2 : decode cX8_areShades 2 = .ok (.iconst 1, 1) := by decide +kernel
theorem dX8_areShades_3 : decode cX8_areShades 3 = .ok (.aload_n 0, 1) := by decide +kernel
theorem dX8_areShades_4 : decode cX8_areShades 4 = .ok (.getfield 7, 3) := by decide +kernel
theorem dX8_areShades_7 : decode cX8_areShades 7 = .ok (.iconst 0, 1) := by decide +kernel
theorem dX8_areShades_8 : decode cX8_areShades 8 = .ok (.iaload, 1) := by decide +kernel
theorem dX8_areShades_9 : decode cX8_areShades 9 = .ok (.ishl, 1) := by decide +kernel
theorem dX8_areShades_10 : decode cX8_areShades 10 = .ok (.iconst 1, 1) := by decide +kernel
theorem dX8_areShades_11 : decode cX8_areShades 11 = .ok (.isub, 1) := by decide +kernel
theorem dX8_areShades_12 : decode cX8_areShades 12 = .ok (.invokestatic 38, 3) := by decide +kernel
theorem dX8_areShades_15 : decode cX8_areShades 15 = .ok (.ireturn, 1) := by decide +kernel
theorem dX8_keeps_0 : decode cX8_keeps 0 = .ok (.iconst 0, 1) := by decide +kernel
theorem dX8_keeps_1 : decode cX8_keeps 1 = .ok (.istore_n 1, 1) := by decide +kernel
theorem dX8_keeps_2 : decode cX8_keeps 2 = .ok (.iload_n 1, 1) := by decide +kernel
theorem dX8_keeps_3 : decode cX8_keeps 3 = .ok (.bipush 79, 2) := by decide +kernel
theorem dX8_keeps_5 : decode cX8_keeps 5 = .ok (.if_icmp .ge 21, 3) := by decide +kernel
theorem dX8_keeps_8 : decode cX8_keeps 8 = .ok (.aload_n 0, 1) := by decide +kernel
theorem dX8_keeps_9 : decode cX8_keeps 9 = .ok (.getfield 16, 3) := by decide +kernel
theorem dX8_keeps_12 : decode cX8_keeps 12 = .ok (.iload_n 1, 1) := by decide +kernel
theorem dX8_keeps_13 : decode cX8_keeps 13 = .ok (.aload_n 0, 1) := by decide +kernel
theorem dX8_keeps_14 : decode cX8_keeps 14 = .ok (.getfield 7, 3) := by decide +kernel
theorem dX8_keeps_17 : decode cX8_keeps 17 = .ok (.iload_n 1, 1) := by decide +kernel
theorem dX8_keeps_18 : decode cX8_keeps 18 = .ok (.iaload, 1) := by decide +kernel
theorem dX8_keeps_19 : decode cX8_keeps 19 = .ok (.iastore, 1) := by decide +kernel
theorem dX8_keeps_20 : decode cX8_keeps 20 = .ok (.iinc 1 1, 3) := by decide +kernel
theorem dX8_keeps_23 : decode cX8_keeps 23 = .ok (.goto (-21), 3) := by decide +kernel
theorem dX8_keeps_26 : decode cX8_keeps 26 = .ok (.return_, 1) := by decide +kernel
theorem dX8_acted_0 : decode cX8_acted 0 = .ok (.iload_n 1, 1) := by decide +kernel
theorem dX8_acted_1 : decode cX8_acted 1 = .ok (.ldc 42, 2) := by decide +kernel
theorem dX8_acted_3 : decode cX8_acted 3 = .ok (.if_icmp .le 95, 3) := by decide +kernel
theorem dX8_acted_6 : decode cX8_acted 6 = .ok (.aload_n 0, 1) := by decide +kernel
theorem dX8_acted_7 : decode cX8_acted 7 = .ok (.getfield 43, 3) := by decide +kernel
theorem dX8_acted_10 : decode cX8_acted 10 = .ok (.iconst 4, 1) := by decide +kernel
theorem dX8_acted_11 : decode cX8_acted 11 = .ok (.if_icmp .ne 43, 3) := by decide +kernel
theorem dX8_acted_14 : decode cX8_acted 14 = .ok (.iconst 0, 1) := by decide +kernel
theorem dX8_acted_15 : decode cX8_acted 15 = .ok (.istore_n 2, 1) := by decide +kernel
theorem dX8_acted_16 : decode cX8_acted 16 = .ok (.iload_n 2, 1) := by decide +kernel
theorem dX8_acted_17 : decode cX8_acted 17 = .ok (.sipush 237, 3) := by decide +kernel
theorem dX8_acted_20 : decode cX8_acted 20 = .ok (.if_icmp .ge 24, 3) := by decide +kernel
theorem dX8_acted_23 : decode cX8_acted 23 = .ok (.aload_n 0, 1) := by decide +kernel
theorem dX8_acted_24 : decode cX8_acted 24 = .ok (.getfield 13, 3) := by decide +kernel
theorem dX8_acted_27 : decode cX8_acted 27 = .ok (.iload_n 2, 1) := by decide +kernel
theorem dX8_acted_28 : decode cX8_acted 28 = .ok (.aload_n 0, 1) := by decide +kernel
theorem dX8_acted_29 : decode cX8_acted 29 = .ok (.getfield 13, 3) := by decide +kernel
theorem dX8_acted_32 : decode cX8_acted 32 = .ok (.iload_n 2, 1) := by decide +kernel
theorem dX8_acted_33 : decode cX8_acted 33 = .ok (.bipush 79, 2) := by decide +kernel
theorem dX8_acted_35 : decode cX8_acted 35 = .ok (.iadd, 1) := by decide +kernel
theorem dX8_acted_36 : decode cX8_acted 36 = .ok (.iaload, 1) := by decide +kernel
theorem dX8_acted_37 : decode cX8_acted 37 = .ok (.iastore, 1) := by decide +kernel
theorem dX8_acted_38 : decode cX8_acted 38 = .ok (.iinc 2 1, 3) := by decide +kernel
theorem dX8_acted_41 : decode cX8_acted 41 = .ok (.goto (-25), 3) := by decide +kernel
theorem dX8_acted_44 : decode cX8_acted 44 = .ok (.aload_n 0, 1) := by decide +kernel
theorem dX8_acted_45 : decode cX8_acted 45 = .ok (.dup, 1) := by decide +kernel
theorem dX8_acted_46 : decode cX8_acted 46 = .ok (.getfield 43, 3) := by decide +kernel
theorem dX8_acted_49 : decode cX8_acted 49 = .ok (.iconst 1, 1) := by decide +kernel
theorem dX8_acted_50 : decode cX8_acted 50 = .ok (.isub, 1) := by decide +kernel
theorem dX8_acted_51 : decode cX8_acted 51 = .ok (.putfield 43, 3) := by decide +kernel
theorem dX8_acted_54 : decode cX8_acted 54 = .ok (.iconst 0, 1) := by decide +kernel
theorem dX8_acted_55 : decode cX8_acted 55 = .ok (.istore_n 2, 1) := by decide +kernel
theorem dX8_acted_56 : decode cX8_acted 56 = .ok (.iload_n 2, 1) := by decide +kernel
theorem dX8_acted_57 : decode cX8_acted 57 = .ok (.bipush 79, 2) := by decide +kernel
theorem dX8_acted_59 : decode cX8_acted 59 = .ok (.if_icmp .ge 29, 3) := by decide +kernel
theorem dX8_acted_62 : decode cX8_acted 62 = .ok (.aload_n 0, 1) := by decide +kernel
theorem dX8_acted_63 : decode cX8_acted 63 = .ok (.getfield 13, 3) := by decide +kernel
theorem dX8_acted_66 : decode cX8_acted 66 = .ok (.bipush 79, 2) := by decide +kernel
theorem dX8_acted_68 : decode cX8_acted 68 = .ok (.aload_n 0, 1) := by decide +kernel
theorem dX8_acted_69 : decode cX8_acted 69 = .ok (.getfield 43, 3) := by decide +kernel
theorem dX8_acted_72 : decode cX8_acted 72 = .ok (.imul, 1) := by decide +kernel
theorem dX8_acted_73 : decode cX8_acted 73 = .ok (.iload_n 2, 1) := by decide +kernel
theorem dX8_acted_74 : decode cX8_acted 74 = .ok (.iadd, 1) := by decide +kernel
theorem dX8_acted_75 : decode cX8_acted 75 = .ok (.aload_n 0, 1) := by decide +kernel
theorem dX8_acted_76 : decode cX8_acted 76 = .ok (.getfield 16, 3) := by decide +kernel
theorem dX8_acted_79 : decode cX8_acted 79 = .ok (.iload_n 2, 1) := by decide +kernel
theorem dX8_acted_80 : decode cX8_acted 80 = .ok (.iaload, 1) := by decide +kernel
theorem dX8_acted_81 : decode cX8_acted 81 = .ok (.iastore, 1) := by decide +kernel
theorem dX8_acted_82 : decode cX8_acted 82 = .ok (.iinc 2 1, 3) := by decide +kernel
theorem dX8_acted_85 : decode cX8_acted 85 = .ok (.goto (-29), 3) := by decide +kernel
theorem dX8_acted_88 : decode cX8_acted 88 = .ok (.aload_n 0, 1) := by decide +kernel
theorem dX8_acted_89 : decode cX8_acted 89 = .ok (.dup, 1) := by decide +kernel
theorem dX8_acted_90 : decode cX8_acted 90 = .ok (.getfield 43, 3) := by decide +kernel
theorem dX8_acted_93 : decode cX8_acted 93 = .ok (.iconst 1, 1) := by decide +kernel
theorem dX8_acted_94 : decode cX8_acted 94 = .ok (.iadd, 1) := by decide +kernel
theorem dX8_acted_95 : decode cX8_acted 95 = .ok (.putfield 43, 3) := by decide +kernel
theorem dX8_acted_98 : decode cX8_acted 98 = .ok (.iload_n 1, 1) := by decide +kernel
theorem dX8_acted_99 : decode cX8_acted 99 = .ok (.ireturn, 1) := by decide +kernel
theorem dX8_puts_0 : decode cX8_puts 0 = .ok (.iconst 0, 1) := by decide +kernel
theorem dX8_puts_1 : decode cX8_puts 1 = .ok (.istore_n 1, 1) := by decide +kernel
theorem dX8_puts_2 : decode cX8_puts 2 = .ok (.iload_n 1, 1) := by decide +kernel
theorem dX8_puts_3 : decode cX8_puts 3 = .ok (.bipush 79, 2) := by decide +kernel
theorem dX8_puts_5 : decode cX8_puts 5 = .ok (.if_icmp .ge 21, 3) := by decide +kernel
theorem dX8_puts_8 : decode cX8_puts 8 = .ok (.aload_n 0, 1) := by decide +kernel
theorem dX8_puts_9 : decode cX8_puts 9 = .ok (.getfield 19, 3) := by decide +kernel
theorem dX8_puts_12 : decode cX8_puts 12 = .ok (.iload_n 1, 1) := by decide +kernel
theorem dX8_puts_13 : decode cX8_puts 13 = .ok (.aload_n 0, 1) := by decide +kernel
theorem dX8_puts_14 : decode cX8_puts 14 = .ok (.getfield 7, 3) := by decide +kernel
theorem dX8_puts_17 : decode cX8_puts 17 = .ok (.iload_n 1, 1) := by decide +kernel
theorem dX8_puts_18 : decode cX8_puts 18 = .ok (.iaload, 1) := by decide +kernel
theorem dX8_puts_19 : decode cX8_puts 19 = .ok (.iastore, 1) := by decide +kernel
theorem dX8_puts_20 : decode cX8_puts 20 = .ok (.iinc 1 1, 3) := by decide +kernel
theorem dX8_puts_23 : decode cX8_puts 23 = .ok (.goto (-21), 3) := by decide +kernel
theorem dX8_puts_26 : decode cX8_puts 26 = .ok (.return_, 1) := by decide +kernel
theorem dX8_restores_0 : decode cX8_restores 0 = .ok (.iconst 0, 1) := by decide +kernel
theorem dX8_restores_1 : decode cX8_restores 1 = .ok (.istore_n 1, 1) := by decide +kernel
theorem dX8_restores_2 : decode cX8_restores 2 = .ok (.iload_n 1, 1) := by decide +kernel
theorem dX8_restores_3 : decode cX8_restores 3 = .ok (.bipush 79, 2) := by decide +kernel
theorem dX8_restores_5 : decode cX8_restores 5 = .ok (.if_icmp .ge 21, 3) := by decide +kernel
theorem dX8_restores_8 : decode cX8_restores 8 = .ok (.aload_n 0, 1) := by decide +kernel
theorem dX8_restores_9 : decode cX8_restores 9 = .ok (.getfield 7, 3) := by decide +kernel
theorem dX8_restores_12 : decode cX8_restores 12 = .ok (.iload_n 1, 1) := by decide +kernel
theorem dX8_restores_13 : decode cX8_restores 13 = .ok (.aload_n 0, 1) := by decide +kernel
theorem dX8_restores_14 : decode cX8_restores 14 = .ok (.getfield 19, 3) := by decide +kernel
theorem dX8_restores_17 : decode cX8_restores 17 = .ok (.iload_n 1, 1) := by decide +kernel
theorem dX8_restores_18 : decode cX8_restores 18 = .ok (.iaload, 1) := by decide +kernel
theorem dX8_restores_19 : decode cX8_restores 19 = .ok (.iastore, 1) := by decide +kernel
theorem dX8_restores_20 : decode cX8_restores 20 = .ok (.iinc 1 1, 3) := by decide +kernel
theorem dX8_restores_23 : decode cX8_restores 23 = .ok (.goto (-21), 3) := by decide +kernel
theorem dX8_restores_26 : decode cX8_restores 26 = .ok (.return_, 1) := by decide +kernel
theorem dX8_shade_0 : decode cX8_shade 0 = .ok (.iload_n 1, 1) := by decide +kernel
theorem dX8_shade_1 : decode cX8_shade 1 = .ok (.iconst 0, 1) := by decide +kernel
theorem dX8_shade_2 : decode cX8_shade 2 = .ok (.bipush 23, 2) := by decide +kernel
theorem dX8_shade_4 : decode cX8_shade 4 = .ok (.invokestatic 38, 3) := by decide +kernel
theorem dX8_shade_7 : decode cX8_shade 7 = .ok (.ifCond .eq 13, 3) := by decide +kernel
theorem dX8_shade_10 : decode cX8_shade 10 = .ok (.iload_n 2, 1) := by decide +kernel
theorem dX8_shade_11 : decode cX8_shade 11 = .ok (.iconst 0, 1) := by decide +kernel
theorem dX8_shade_12 : decode cX8_shade 12 = .ok (.bipush 36, 2) := by decide +kernel
theorem dX8_shade_14 : decode cX8_shade 14 = .ok (.invokestatic 38, 3) := by decide +kernel
theorem dX8_shade_17 : decode cX8_shade 17 = .ok (.ifCond .ne 6, 3) := by decide +kernel
theorem dX8_shade_20 : decode cX8_shade 20 = .ok (.ldc 42, 2) := by decide +kernel
theorem dX8_shade_22 : decode cX8_shade 22 = .ok (.ireturn, 1) := by decide +kernel
theorem dX8_shade_23 : decode cX8_shade 23 = .ok (.aload_n 0, 1) := by decide +kernel
theorem dX8_shade_24 : decode cX8_shade 24 = .ok (.getfield 7, 3) := by decide +kernel
theorem dX8_shade_27 : decode cX8_shade 27 = .ok (.iconst 0, 1) := by decide +kernel
theorem dX8_shade_28 : decode cX8_shade 28 = .ok (.iaload, 1) := by decide +kernel
theorem dX8_shade_29 : decode cX8_shade 29 = .ok (.bipush 8, 2) := by decide +kernel
theorem dX8_shade_31 : decode cX8_shade 31 = .ok (.if_icmp .ne 6, 3) := by decide +kernel
theorem dX8_shade_34 : decode cX8_shade 34 = .ok (.ldc 47, 2) := by decide +kernel
theorem dX8_shade_36 : decode cX8_shade 36 = .ok (.ireturn, 1) := by decide +kernel
theorem dX8_shade_37 : decode cX8_shade 37 = .ok (.aload_n 0, 1) := by decide +kernel
theorem dX8_shade_38 : decode cX8_shade 38 = .ok (.invokevirtual 48, 3) := by decide +kernel
theorem dX8_shade_41 : decode cX8_shade 41 = .ok (.bipush 7, 2) := by decide +kernel
theorem dX8_shade_43 : decode cX8_shade 43 = .ok (.bipush 7, 2) := by decide +kernel
theorem dX8_shade_45 : decode cX8_shade 45 = .ok (.aload_n 0, 1) := by decide +kernel
theorem dX8_shade_46 : decode cX8_shade 46 = .ok (.getfield 7, 3) := by decide +kernel
theorem dX8_shade_49 : decode cX8_shade 49 = .ok (.iconst 0, 1) := by decide +kernel
theorem dX8_shade_50 : decode cX8_shade 50 = .ok (.iaload, 1) := by decide +kernel
theorem dX8_shade_51 : decode cX8_shade 51 = .ok (.imul, 1) := by decide +kernel
theorem dX8_shade_52 : decode cX8_shade 52 = .ok (.iadd, 1) := by decide +kernel
theorem dX8_shade_53 : decode cX8_shade 53 = .ok (.istore_n 3, 1) := by decide +kernel
theorem dX8_shade_54 : decode cX8_shade 54 = .ok (.iconst 0, 1) := by decide +kernel
theorem dX8_shade_55 : decode cX8_shade 55 = .ok (.istore 4, 2) := by decide +kernel
theorem dX8_shade_57 : decode cX8_shade 57 = .ok (.iload 4, 2) := by decide +kernel
theorem dX8_shade_59 : decode cX8_shade 59 = .ok (.bipush 6, 2) := by decide +kernel
theorem dX8_shade_61 : decode cX8_shade 61 = .ok (.if_icmp .ge 19, 3) := by decide +kernel
theorem dX8_shade_64 : decode cX8_shade 64 = .ok (.aload_n 0, 1) := by decide +kernel
theorem dX8_shade_65 : decode cX8_shade 65 = .ok (.getfield 7, 3) := by decide +kernel
theorem dX8_shade_68 : decode cX8_shade 68 = .ok (.iload_n 3, 1) := by decide +kernel
theorem dX8_shade_69 : decode cX8_shade 69 = .ok (.iload 4, 2) := by decide +kernel
theorem dX8_shade_71 : decode cX8_shade 71 = .ok (.iadd, 1) := by decide +kernel
theorem dX8_shade_72 : decode cX8_shade 72 = .ok (.iconst 0, 1) := by decide +kernel
theorem dX8_shade_73 : decode cX8_shade 73 = .ok (.iastore, 1) := by decide +kernel
theorem dX8_shade_74 : decode cX8_shade 74 = .ok (.iinc 4 1, 3) := by decide +kernel
theorem dX8_shade_77 : decode cX8_shade 77 = .ok (.goto (-20), 3) := by decide +kernel
theorem dX8_shade_80 : decode cX8_shade 80 = .ok (.aload_n 0, 1) := by decide +kernel
theorem dX8_shade_81 : decode cX8_shade 81 = .ok (.getfield 7, 3) := by decide +kernel
theorem dX8_shade_84 : decode cX8_shade 84 = .ok (.iload_n 3, 1) := by decide +kernel
theorem dX8_shade_85 : decode cX8_shade 85 = .ok (.iconst 1, 1) := by decide +kernel
theorem dX8_shade_86 : decode cX8_shade 86 = .ok (.iadd, 1) := by decide +kernel
theorem dX8_shade_87 : decode cX8_shade 87 = .ok (.iload_n 1, 1) := by decide +kernel
theorem dX8_shade_88 : decode cX8_shade 88 = .ok (.iastore, 1) := by decide +kernel
theorem dX8_shade_89 : decode cX8_shade 89 = .ok (.aload_n 0, 1) := by decide +kernel
theorem dX8_shade_90 : decode cX8_shade 90 = .ok (.getfield 7, 3) := by decide +kernel
theorem dX8_shade_93 : decode cX8_shade 93 = .ok (.iload_n 3, 1) := by decide +kernel
theorem dX8_shade_94 : decode cX8_shade 94 = .ok (.iconst 2, 1) := by decide +kernel
theorem dX8_shade_95 : decode cX8_shade 95 = .ok (.iadd, 1) := by decide +kernel
theorem dX8_shade_96 : decode cX8_shade 96 = .ok (.iload_n 2, 1) := by decide +kernel
theorem dX8_shade_97 : decode cX8_shade 97 = .ok (.iastore, 1) := by decide +kernel
theorem dX8_shade_98 : decode cX8_shade 98 = .ok (.aload_n 0, 1) := by decide +kernel
theorem dX8_shade_99 : decode cX8_shade 99 = .ok (.getfield 7, 3) := by decide +kernel
theorem dX8_shade_102 : decode cX8_shade 102 = .ok (.iload_n 3, 1) := by decide +kernel
theorem dX8_shade_103 : decode cX8_shade 103 = .ok (.bipush 6, 2) := by decide +kernel
theorem dX8_shade_105 : decode cX8_shade 105 = .ok (.iadd, 1) := by decide +kernel
theorem dX8_shade_106 : decode cX8_shade 106 = .ok (.iconst (-1), 1) := by decide +kernel
theorem dX8_shade_107 : decode cX8_shade 107 = .ok (.iastore, 1) := by decide +kernel
theorem dX8_shade_108 : decode cX8_shade 108 = .ok (.aload_n 0, 1) := by decide +kernel
theorem dX8_shade_109 : decode cX8_shade 109 = .ok (.getfield 7, 3) := by decide +kernel
theorem dX8_shade_112 : decode cX8_shade 112 = .ok (.iconst 0, 1) := by decide +kernel
theorem dX8_shade_113 : decode cX8_shade 113 = .ok (.dup2, 1) := by decide +kernel
theorem dX8_shade_114 : decode cX8_shade 114 = .ok (.iaload, 1) := by decide +kernel
theorem dX8_shade_115 : decode cX8_shade 115 = .ok (.iconst 1, 1) := by decide +kernel
theorem dX8_shade_116 : decode cX8_shade 116 = .ok (.iadd, 1) := by decide +kernel
theorem dX8_shade_117 : decode cX8_shade 117 = .ok (.iastore, 1) := by decide +kernel
theorem dX8_shade_118 : decode cX8_shade 118 = .ok (.aload_n 0, 1) := by decide +kernel
theorem dX8_shade_119 : decode cX8_shade 119 = .ok (.aload_n 0, 1) := by decide +kernel
theorem dX8_shade_120 : decode cX8_shade 120 = .ok (.getfield 7, 3) := by decide +kernel
theorem dX8_shade_123 : decode cX8_shade 123 = .ok (.iconst 0, 1) := by decide +kernel
theorem dX8_shade_124 : decode cX8_shade 124 = .ok (.iaload, 1) := by decide +kernel
theorem dX8_shade_125 : decode cX8_shade 125 = .ok (.iconst 1, 1) := by decide +kernel
theorem dX8_shade_126 : decode cX8_shade 126 = .ok (.isub, 1) := by decide +kernel
theorem dX8_shade_127 : decode cX8_shade 127 = .ok (.invokevirtual 51, 3) := by decide +kernel
theorem dX8_shade_130 : decode cX8_shade 130 = .ok (.ireturn, 1) := by decide +kernel
theorem dX8_string_0 : decode cX8_string 0 = .ok (.aload_n 0, 1) := by decide +kernel
theorem dX8_string_1 : decode cX8_string 1 = .ok (.iload_n 1, 1) := by decide +kernel
theorem dX8_string_2 : decode cX8_string 2 = .ok (.invokevirtual 55, 3) := by decide +kernel
theorem dX8_string_5 : decode cX8_string 5 = .ok (.ifCond .eq 23, 3) := by decide +kernel
theorem dX8_string_8 : decode cX8_string 8 = .ok (.aload_n 0, 1) := by decide +kernel
theorem dX8_string_9 : decode cX8_string 9 = .ok (.iload_n 2, 1) := by decide +kernel
theorem dX8_string_10 : decode cX8_string 10 = .ok (.invokevirtual 55, 3) := by decide +kernel
theorem dX8_string_13 : decode cX8_string 13 = .ok (.ifCond .eq 15, 3) := by decide +kernel
theorem dX8_string_16 : decode cX8_string 16 = .ok (.iload_n 1, 1) := by decide +kernel
theorem dX8_string_17 : decode cX8_string 17 = .ok (.iload_n 2, 1) := by decide +kernel
theorem dX8_string_18 : decode cX8_string 18 = .ok (.iand, 1) := by decide +kernel
theorem dX8_string_19 : decode cX8_string 19 = .ok (.ifCond .ne 9, 3) := by decide +kernel
theorem dX8_string_22 : decode cX8_string 22 = .ok (.iload_n 1, 1) := by decide +kernel
theorem dX8_string_23 : decode cX8_string 23 = .ok (.iload_n 2, 1) := by decide +kernel
theorem dX8_string_24 : decode cX8_string 24 = .ok (.ior, 1) := by decide +kernel
theorem dX8_string_25 : decode cX8_string 25 = .ok (.ifCond .ne 6, 3) := by decide +kernel
theorem dX8_string_28 : decode cX8_string 28 = .ok (.ldc 42, 2) := by decide +kernel
theorem dX8_string_30 : decode cX8_string 30 = .ok (.ireturn, 1) := by decide +kernel
theorem dX8_string_31 : decode cX8_string 31 = .ok (.aload_n 0, 1) := by decide +kernel
theorem dX8_string_32 : decode cX8_string 32 = .ok (.getfield 7, 3) := by decide +kernel
theorem dX8_string_35 : decode cX8_string 35 = .ok (.iconst 1, 1) := by decide +kernel
theorem dX8_string_36 : decode cX8_string 36 = .ok (.iaload, 1) := by decide +kernel
theorem dX8_string_37 : decode cX8_string 37 = .ok (.iconst 4, 1) := by decide +kernel
theorem dX8_string_38 : decode cX8_string 38 = .ok (.if_icmp .ne 6, 3) := by decide +kernel
theorem dX8_string_41 : decode cX8_string 41 = .ok (.ldc 47, 2) := by decide +kernel
theorem dX8_string_43 : decode cX8_string 43 = .ok (.ireturn, 1) := by decide +kernel
theorem dX8_string_44 : decode cX8_string 44 = .ok (.aload_n 0, 1) := by decide +kernel
theorem dX8_string_45 : decode cX8_string 45 = .ok (.invokevirtual 48, 3) := by decide +kernel
theorem dX8_string_48 : decode cX8_string 48 = .ok (.bipush 63, 2) := by decide +kernel
theorem dX8_string_50 : decode cX8_string 50 = .ok (.iconst 4, 1) := by decide +kernel
theorem dX8_string_51 : decode cX8_string 51 = .ok (.aload_n 0, 1) := by decide +kernel
theorem dX8_string_52 : decode cX8_string 52 = .ok (.getfield 7, 3) := by decide +kernel
theorem dX8_string_55 : decode cX8_string 55 = .ok (.iconst 1, 1) := by decide +kernel
theorem dX8_string_56 : decode cX8_string 56 = .ok (.iaload, 1) := by decide +kernel
theorem dX8_string_57 : decode cX8_string 57 = .ok (.imul, 1) := by decide +kernel
theorem dX8_string_58 : decode cX8_string 58 = .ok (.iadd, 1) := by decide +kernel
theorem dX8_string_59 : decode cX8_string 59 = .ok (.istore_n 3, 1) := by decide +kernel
theorem dX8_string_60 : decode cX8_string 60 = .ok (.aload_n 0, 1) := by decide +kernel
theorem dX8_string_61 : decode cX8_string 61 = .ok (.getfield 7, 3) := by decide +kernel
theorem dX8_string_64 : decode cX8_string 64 = .ok (.iload_n 3, 1) := by decide +kernel
theorem dX8_string_65 : decode cX8_string 65 = .ok (.iload_n 1, 1) := by decide +kernel
theorem dX8_string_66 : decode cX8_string 66 = .ok (.iastore, 1) := by decide +kernel
theorem dX8_string_67 : decode cX8_string 67 = .ok (.aload_n 0, 1) := by decide +kernel
theorem dX8_string_68 : decode cX8_string 68 = .ok (.getfield 7, 3) := by decide +kernel
theorem dX8_string_71 : decode cX8_string 71 = .ok (.iload_n 3, 1) := by decide +kernel
theorem dX8_string_72 : decode cX8_string 72 = .ok (.iconst 1, 1) := by decide +kernel
theorem dX8_string_73 : decode cX8_string 73 = .ok (.iadd, 1) := by decide +kernel
theorem dX8_string_74 : decode cX8_string 74 = .ok (.iload_n 2, 1) := by decide +kernel
theorem dX8_string_75 : decode cX8_string 75 = .ok (.iastore, 1) := by decide +kernel
theorem dX8_string_76 : decode cX8_string 76 = .ok (.aload_n 0, 1) := by decide +kernel
theorem dX8_string_77 : decode cX8_string 77 = .ok (.getfield 7, 3) := by decide +kernel
theorem dX8_string_80 : decode cX8_string 80 = .ok (.iload_n 3, 1) := by decide +kernel
theorem dX8_string_81 : decode cX8_string 81 = .ok (.iconst 2, 1) := by decide +kernel
theorem dX8_string_82 : decode cX8_string 82 = .ok (.iadd, 1) := by decide +kernel
theorem dX8_string_83 : decode cX8_string 83 = .ok (.iconst 0, 1) := by decide +kernel
theorem dX8_string_84 : decode cX8_string 84 = .ok (.iastore, 1) := by decide +kernel
theorem dX8_string_85 : decode cX8_string 85 = .ok (.aload_n 0, 1) := by decide +kernel
theorem dX8_string_86 : decode cX8_string 86 = .ok (.getfield 7, 3) := by decide +kernel
theorem dX8_string_89 : decode cX8_string 89 = .ok (.iload_n 3, 1) := by decide +kernel
theorem dX8_string_90 : decode cX8_string 90 = .ok (.iconst 3, 1) := by decide +kernel
theorem dX8_string_91 : decode cX8_string 91 = .ok (.iadd, 1) := by decide +kernel
theorem dX8_string_92 : decode cX8_string 92 = .ok (.iconst 0, 1) := by decide +kernel
theorem dX8_string_93 : decode cX8_string 93 = .ok (.iastore, 1) := by decide +kernel
theorem dX8_string_94 : decode cX8_string 94 = .ok (.aload_n 0, 1) := by decide +kernel
theorem dX8_string_95 : decode cX8_string 95 = .ok (.getfield 7, 3) := by decide +kernel
theorem dX8_string_98 : decode cX8_string 98 = .ok (.iconst 1, 1) := by decide +kernel
theorem dX8_string_99 : decode cX8_string 99 = .ok (.dup2, 1) := by decide +kernel
theorem dX8_string_100 : decode cX8_string 100 = .ok (.iaload, 1) := by decide +kernel
theorem dX8_string_101 : decode cX8_string 101 = .ok (.iconst 1, 1) := by decide +kernel
theorem dX8_string_102 : decode cX8_string 102 = .ok (.iadd, 1) := by decide +kernel
theorem dX8_string_103 : decode cX8_string 103 = .ok (.iastore, 1) := by decide +kernel
theorem dX8_string_104 : decode cX8_string 104 = .ok (.aload_n 0, 1) := by decide +kernel
theorem dX8_string_105 : decode cX8_string 105 = .ok (.aload_n 0, 1) := by decide +kernel
theorem dX8_string_106 : decode cX8_string 106 = .ok (.getfield 7, 3) := by decide +kernel
theorem dX8_string_109 : decode cX8_string 109 = .ok (.iconst 1, 1) := by decide +kernel
theorem dX8_string_110 : decode cX8_string 110 = .ok (.iaload, 1) := by decide +kernel
theorem dX8_string_111 : decode cX8_string 111 = .ok (.iconst 1, 1) := by decide +kernel
theorem dX8_string_112 : decode cX8_string 112 = .ok (.isub, 1) := by decide +kernel
theorem dX8_string_113 : decode cX8_string 113 = .ok (.invokevirtual 51, 3) := by decide +kernel
theorem dX8_string_116 : decode cX8_string 116 = .ok (.ireturn, 1) := by decide +kernel
theorem dX8_endOf_0 : decode cX8_endOf 0 = .ok (.iload_n 1, 1) := by decide +kernel
theorem dX8_endOf_1 : decode cX8_endOf 1 = .ok (.istore_n 2, 1) := by decide +kernel
theorem dX8_endOf_2 : decode cX8_endOf 2 = .ok (.iload_n 2, 1) := by decide +kernel
theorem dX8_endOf_3 : decode cX8_endOf 3 = .ok (.iconst 1, 1) := by decide +kernel
theorem dX8_endOf_4 : decode cX8_endOf 4 = .ok (.iadd, 1) := by decide +kernel
theorem dX8_endOf_5 : decode cX8_endOf 5 = .ok (.aload_n 0, 1) := by decide +kernel
theorem dX8_endOf_6 : decode cX8_endOf 6 = .ok (.getfield 7, 3) := by decide +kernel
theorem dX8_endOf_9 : decode cX8_endOf 9 = .ok (.iconst 0, 1) := by decide +kernel
theorem dX8_endOf_10 : decode cX8_endOf 10 = .ok (.iaload, 1) := by decide +kernel
theorem dX8_endOf_11 : decode cX8_endOf 11 = .ok (.if_icmp .ge 18, 3) := by decide +kernel
theorem dX8_endOf_14 : decode cX8_endOf 14 = .ok (.aload_n 0, 1) := by decide +kernel
theorem dX8_endOf_15 : decode cX8_endOf 15 = .ok (.iload_n 2, 1) := by decide +kernel
theorem dX8_endOf_16 : decode cX8_endOf 16 = .ok (.iconst 3, 1) := by decide +kernel
theorem dX8_endOf_17 : decode cX8_endOf 17 = .ok (.invokevirtual 59, 3) := by decide +kernel
theorem dX8_endOf_20 : decode cX8_endOf 20 = .ok (.ifCond .le 9, 3) := by decide +kernel
theorem dX8_endOf_23 : decode cX8_endOf 23 = .ok (.iinc 2 1, 3) := by decide +kernel
theorem dX8_endOf_26 : decode cX8_endOf 26 = .ok (.goto (-24), 3) := by decide +kernel
theorem dX8_endOf_29 : decode cX8_endOf 29 = .ok (.iload_n 2, 1) := by decide +kernel
theorem dX8_endOf_30 : decode cX8_endOf 30 = .ok (.ireturn, 1) := by decide +kernel
theorem dX8_jams_0 : decode cX8_jams 0 = .ok (.iconst 2, 1) := by decide +kernel
theorem dX8_jams_1 : decode cX8_jams 1 = .ok (.iload_n 2, 1) := by decide +kernel
theorem dX8_jams_2 : decode cX8_jams 2 = .ok (.ishl, 1) := by decide +kernel
theorem dX8_jams_3 : decode cX8_jams 3 = .ok (.iconst 1, 1) := by decide +kernel
theorem dX8_jams_4 : decode cX8_jams 4 = .ok (.iload_n 1, 1) := by decide +kernel
theorem dX8_jams_5 : decode cX8_jams 5 = .ok (.ishl, 1) := by decide +kernel
theorem dX8_jams_6 : decode cX8_jams 6 = .ok (.isub, 1) := by decide +kernel
theorem dX8_jams_7 : decode cX8_jams 7 = .ok (.istore 5, 2) := by decide +kernel
theorem dX8_jams_9 : decode cX8_jams 9 = .ok (.iload_n 3, 1) := by decide +kernel
theorem dX8_jams_10 : decode cX8_jams 10 = .ok (.iload 5, 2) := by decide +kernel
theorem dX8_jams_12 : decode cX8_jams 12 = .ok (.iand, 1) := by decide +kernel
theorem dX8_jams_13 : decode cX8_jams 13 = .ok (.ifCond .eq 7, 3) := by decide +kernel
theorem dX8_jams_16 : decode cX8_jams 16 = .ok (.iconst 1, 1) := by decide +kernel
theorem dX8_jams_17 : decode cX8_jams 17 = .ok (.goto 4, 3) := by decide +kernel
theorem dX8_jams_20 : decode cX8_jams 20 = .ok (.iconst 0, 1) := by decide +kernel
theorem dX8_jams_21 : decode cX8_jams 21 = .ok (.istore 6, 2) := by decide +kernel
theorem dX8_jams_23 : decode cX8_jams 23 = .ok (.iload 4, 2) := by decide +kernel
theorem dX8_jams_25 : decode cX8_jams 25 = .ok (.iload 5, 2) := by decide +kernel
theorem dX8_jams_27 : decode cX8_jams 27 = .ok (.iand, 1) := by decide +kernel
theorem dX8_jams_28 : decode cX8_jams 28 = .ok (.ifCond .eq 7, 3) := by decide +kernel
theorem dX8_jams_31 : decode cX8_jams 31 = .ok (.iconst 1, 1) := by decide +kernel
theorem dX8_jams_32 : decode cX8_jams 32 = .ok (.goto 4, 3) := by decide +kernel
theorem dX8_jams_35 : decode cX8_jams 35 = .ok (.iconst 0, 1) := by decide +kernel
theorem dX8_jams_36 : decode cX8_jams 36 = .ok (.istore 7, 2) := by decide +kernel
theorem dX8_jams_38 : decode cX8_jams 38 = .ok (.iload 6, 2) := by decide +kernel
theorem dX8_jams_40 : decode cX8_jams 40 = .ok (.ifCond .eq 59, 3) := by decide +kernel
theorem dX8_jams_43 : decode cX8_jams 43 = .ok (.iload 7, 2) := by decide +kernel
theorem dX8_jams_45 : decode cX8_jams 45 = .ok (.ifCond .eq 54, 3) := by decide +kernel
theorem dX8_jams_48 : decode cX8_jams 48 = .ok (.iload_n 1, 1) := by decide +kernel
theorem dX8_jams_49 : decode cX8_jams 49 = .ok (.istore 8, 2) := by decide +kernel
theorem dX8_jams_51 : decode cX8_jams 51 = .ok (.iload 8, 2) := by decide +kernel
theorem dX8_jams_53 : decode cX8_jams 53 = .ok (.iload_n 2, 1) := by decide +kernel
theorem dX8_jams_54 : decode cX8_jams 54 = .ok (.if_icmp .ge 43, 3) := by decide +kernel
theorem dX8_jams_57 : decode cX8_jams 57 = .ok (.aload_n 0, 1) := by decide +kernel
theorem dX8_jams_58 : decode cX8_jams 58 = .ok (.getfield 7, 3) := by decide +kernel
theorem dX8_jams_61 : decode cX8_jams 61 = .ok (.bipush 7, 2) := by decide +kernel
theorem dX8_jams_63 : decode cX8_jams 63 = .ok (.bipush 7, 2) := by decide +kernel
theorem dX8_jams_65 : decode cX8_jams 65 = .ok (.iload 8, 2) := by decide +kernel
theorem dX8_jams_67 : decode cX8_jams 67 = .ok (.imul, 1) := by decide +kernel
theorem dX8_jams_68 : decode cX8_jams 68 = .ok (.iadd, 1) := by decide +kernel
theorem dX8_jams_69 : decode cX8_jams 69 = .ok (.iconst 3, 1) := by decide +kernel
theorem dX8_jams_70 : decode cX8_jams 70 = .ok (.iadd, 1) := by decide +kernel
theorem dX8_jams_71 : decode cX8_jams 71 = .ok (.dup2, 1) := by decide +kernel
theorem dX8_jams_72 : decode cX8_jams 72 = .ok (.iaload, 1) := by decide +kernel
theorem dX8_jams_73 : decode cX8_jams 73 = .ok (.aload_n 0, 1) := by decide +kernel
theorem dX8_jams_74 : decode cX8_jams 74 = .ok (.iload 8, 2) := by decide +kernel
theorem dX8_jams_76 : decode cX8_jams 76 = .ok (.iconst 3, 1) := by decide +kernel
theorem dX8_jams_77 : decode cX8_jams 77 = .ok (.invokevirtual 59, 3) := by decide +kernel
theorem dX8_jams_80 : decode cX8_jams 80 = .ok (.iconst 3, 1) := by decide +kernel
theorem dX8_jams_81 : decode cX8_jams 81 = .ok (.if_icmp .ge 7, 3) := by decide +kernel
theorem dX8_jams_84 : decode cX8_jams 84 = .ok (.iconst 1, 1) := by decide +kernel
theorem dX8_jams_85 : decode cX8_jams 85 = .ok (.goto 4, 3) := by decide +kernel
theorem dX8_jams_88 : decode cX8_jams 88 = .ok (.iconst 0, 1) := by decide +kernel
theorem dX8_jams_89 : decode cX8_jams 89 = .ok (.iadd, 1) := by decide +kernel
theorem dX8_jams_90 : decode cX8_jams 90 = .ok (.iastore, 1) := by decide +kernel
theorem dX8_jams_91 : decode cX8_jams 91 = .ok (.iinc 8 1, 3) := by decide +kernel
theorem dX8_jams_94 : decode cX8_jams 94 = .ok (.goto (-43), 3) := by decide +kernel
theorem dX8_jams_97 : decode cX8_jams 97 = .ok (.iconst 1, 1) := by decide +kernel
theorem dX8_jams_98 : decode cX8_jams 98 = .ok (.ireturn, 1) := by decide +kernel
theorem dX8_jams_99 : decode cX8_jams 99 = .ok (.iload 6, 2) := by decide +kernel
theorem dX8_jams_101 : decode cX8_jams 101 = .ok (.ifCond .eq 7, 3) := by decide +kernel
theorem dX8_jams_104 : decode cX8_jams 104 = .ok (.iconst 1, 1) := by decide +kernel
theorem dX8_jams_105 : decode cX8_jams 105 = .ok (.goto 13, 3) := by decide +kernel
theorem dX8_jams_108 : decode cX8_jams 108 = .ok (.iload 7, 2) := by decide +kernel
theorem dX8_jams_110 : decode cX8_jams 110 = .ok (.ifCond .eq 7, 3) := by decide +kernel
theorem dX8_jams_113 : decode cX8_jams 113 = .ok (.iconst (-1), 1) := by decide +kernel
theorem dX8_jams_114 : decode cX8_jams 114 = .ok (.goto 4, 3) := by decide +kernel
theorem dX8_jams_117 : decode cX8_jams 117 = .ok (.iconst 0, 1) := by decide +kernel
theorem dX8_jams_118 : decode cX8_jams 118 = .ok (.istore 8, 2) := by decide +kernel
theorem dX8_jams_120 : decode cX8_jams 120 = .ok (.iload 8, 2) := by decide +kernel
theorem dX8_jams_122 : decode cX8_jams 122 = .ok (.ifCond .eq 7, 3) := by decide +kernel
theorem dX8_jams_125 : decode cX8_jams 125 = .ok (.iconst 1, 1) := by decide +kernel
theorem dX8_jams_126 : decode cX8_jams 126 = .ok (.goto 4, 3) := by decide +kernel
theorem dX8_jams_129 : decode cX8_jams 129 = .ok (.iconst 0, 1) := by decide +kernel
theorem dX8_jams_130 : decode cX8_jams 130 = .ok (.istore 9, 2) := by decide +kernel
theorem dX8_jams_132 : decode cX8_jams 132 = .ok (.iload_n 1, 1) := by decide +kernel
theorem dX8_jams_133 : decode cX8_jams 133 = .ok (.istore 10, 2) := by decide +kernel
theorem dX8_jams_135 : decode cX8_jams 135 = .ok (.iload 10, 2) := by decide +kernel
theorem dX8_jams_137 : decode cX8_jams 137 = .ok (.iload_n 2, 1) := by decide +kernel
theorem dX8_jams_138 : decode cX8_jams 138 = .ok (.if_icmp .gt 40, 3) := by decide +kernel
theorem dX8_jams_141 : decode cX8_jams 141 = .ok (.iload 9, 2) := by decide +kernel
theorem dX8_jams_143 : decode cX8_jams 143 = .ok (.ifCond .eq 26, 3) := by decide +kernel
theorem dX8_jams_146 : decode cX8_jams 146 = .ok (.aload_n 0, 1) := by decide +kernel
theorem dX8_jams_147 : decode cX8_jams 147 = .ok (.iload 10, 2) := by decide +kernel
theorem dX8_jams_149 : decode cX8_jams 149 = .ok (.iconst 0, 1) := by decide +kernel
theorem dX8_jams_150 : decode cX8_jams 150 = .ok (.invokevirtual 59, 3) := by decide +kernel
theorem dX8_jams_153 : decode cX8_jams 153 = .ok (.iload 8, 2) := by decide +kernel
theorem dX8_jams_155 : decode cX8_jams 155 = .ok (.iadd, 1) := by decide +kernel
theorem dX8_jams_156 : decode cX8_jams 156 = .ok (.iconst 0, 1) := by decide +kernel
theorem dX8_jams_157 : decode cX8_jams 157 = .ok (.bipush 9, 2) := by decide +kernel
theorem dX8_jams_159 : decode cX8_jams 159 = .ok (.invokestatic 38, 3) := by decide +kernel
theorem dX8_jams_162 : decode cX8_jams 162 = .ok (.ifCond .eq 7, 3) := by decide +kernel
theorem dX8_jams_165 : decode cX8_jams 165 = .ok (.iconst 1, 1) := by decide +kernel
theorem dX8_jams_166 : decode cX8_jams 166 = .ok (.goto 4, 3) := by decide +kernel
theorem dX8_jams_169 : decode cX8_jams 169 = .ok (.iconst 0, 1) := by decide +kernel
theorem dX8_jams_170 : decode cX8_jams 170 = .ok (.istore 9, 2) := by decide +kernel
theorem dX8_jams_172 : decode cX8_jams 172 = .ok (.iinc 10 1, 3) := by decide +kernel
theorem dX8_jams_175 : decode cX8_jams 175 = .ok (.goto (-40), 3) := by decide +kernel
theorem dX8_jams_178 : decode cX8_jams 178 = .ok (.iload_n 1, 1) := by decide +kernel
theorem dX8_jams_179 : decode cX8_jams 179 = .ok (.istore 10, 2) := by decide +kernel
theorem dX8_jams_181 : decode cX8_jams 181 = .ok (.iload 10, 2) := by decide +kernel
theorem dX8_jams_183 : decode cX8_jams 183 = .ok (.iload_n 2, 1) := by decide +kernel
theorem dX8_jams_184 : decode cX8_jams 184 = .ok (.if_icmp .gt 41, 3) := by decide +kernel
theorem dX8_jams_187 : decode cX8_jams 187 = .ok (.iload 9, 2) := by decide +kernel
theorem dX8_jams_189 : decode cX8_jams 189 = .ok (.ifCond .eq 36, 3) := by decide +kernel
theorem dX8_jams_192 : decode cX8_jams 192 = .ok (.aload_n 0, 1) := by decide +kernel
theorem dX8_jams_193 : decode cX8_jams 193 = .ok (.getfield 7, 3) := by decide +kernel
theorem dX8_jams_196 : decode cX8_jams 196 = .ok (.bipush 7, 2) := by decide +kernel
theorem dX8_jams_198 : decode cX8_jams 198 = .ok (.bipush 7, 2) := by decide +kernel
theorem dX8_jams_200 : decode cX8_jams 200 = .ok (.iload 10, 2) := by decide +kernel
theorem dX8_jams_202 : decode cX8_jams 202 = .ok (.imul, 1) := by decide +kernel
theorem dX8_jams_203 : decode cX8_jams 203 = .ok (.iadd, 1) := by decide +kernel
theorem dX8_jams_204 : decode cX8_jams 204 = .ok (.dup2, 1) := by decide +kernel
theorem dX8_jams_205 : decode cX8_jams 205 = .ok (.iaload, 1) := by decide +kernel
theorem dX8_jams_206 : decode cX8_jams 206 = .ok (.iload 8, 2) := by decide +kernel
theorem dX8_jams_208 : decode cX8_jams 208 = .ok (.iadd, 1) := by decide +kernel
theorem dX8_jams_209 : decode cX8_jams 209 = .ok (.iastore, 1) := by decide +kernel
theorem dX8_jams_210 : decode cX8_jams 210 = .ok (.aload_n 0, 1) := by decide +kernel
theorem dX8_jams_211 : decode cX8_jams 211 = .ok (.getfield 29, 3) := by decide +kernel
theorem dX8_jams_214 : decode cX8_jams 214 = .ok (.iload 10, 2) := by decide +kernel
theorem dX8_jams_216 : decode cX8_jams 216 = .ok (.iload 8, 2) := by decide +kernel
theorem dX8_jams_218 : decode cX8_jams 218 = .ok (.iastore, 1) := by decide +kernel
theorem dX8_jams_219 : decode cX8_jams 219 = .ok (.iinc 10 1, 3) := by decide +kernel
theorem dX8_jams_222 : decode cX8_jams 222 = .ok (.goto (-41), 3) := by decide +kernel
theorem dX8_jams_225 : decode cX8_jams 225 = .ok (.iconst 0, 1) := by decide +kernel
theorem dX8_jams_226 : decode cX8_jams 226 = .ok (.ireturn, 1) := by decide +kernel
theorem dX8_steps_0 : decode cX8_steps 0 = .ok (.aload_n 0, 1) := by decide +kernel
theorem dX8_steps_1 : decode cX8_steps 1 = .ok (.iload_n 1, 1) := by decide +kernel
theorem dX8_steps_2 : decode cX8_steps 2 = .ok (.iload_n 2, 1) := by decide +kernel
theorem dX8_steps_3 : decode cX8_steps 3 = .ok (.ifCond .eq 7, 3) := by decide +kernel
theorem dX8_steps_6 : decode cX8_steps 6 = .ok (.iconst 0, 1) := by decide +kernel
theorem dX8_steps_7 : decode cX8_steps 7 = .ok (.goto 4, 3) := by decide +kernel
theorem dX8_steps_10 : decode cX8_steps 10 = .ok (.iconst 1, 1) := by decide +kernel
theorem dX8_steps_11 : decode cX8_steps 11 = .ok (.invokevirtual 63, 3) := by decide +kernel
theorem dX8_steps_14 : decode cX8_steps 14 = .ok (.istore_n 3, 1) := by decide +kernel
theorem dX8_steps_15 : decode cX8_steps 15 = .ok (.aload_n 0, 1) := by decide +kernel
theorem dX8_steps_16 : decode cX8_steps 16 = .ok (.iload_n 1, 1) := by decide +kernel
theorem dX8_steps_17 : decode cX8_steps 17 = .ok (.iload_n 2, 1) := by decide +kernel
theorem dX8_steps_18 : decode cX8_steps 18 = .ok (.ifCond .eq 7, 3) := by decide +kernel
theorem dX8_steps_21 : decode cX8_steps 21 = .ok (.iconst 1, 1) := by decide +kernel
theorem dX8_steps_22 : decode cX8_steps 22 = .ok (.goto 4, 3) := by decide +kernel
theorem dX8_steps_25 : decode cX8_steps 25 = .ok (.iconst 0, 1) := by decide +kernel
theorem dX8_steps_26 : decode cX8_steps 26 = .ok (.invokevirtual 63, 3) := by decide +kernel
theorem dX8_steps_29 : decode cX8_steps 29 = .ok (.istore 4, 2) := by decide +kernel
theorem dX8_steps_31 : decode cX8_steps 31 = .ok (.iconst 0, 1) := by decide +kernel
theorem dX8_steps_32 : decode cX8_steps 32 = .ok (.istore 5, 2) := by decide +kernel
theorem dX8_steps_34 : decode cX8_steps 34 = .ok (.iload 5, 2) := by decide +kernel
theorem dX8_steps_36 : decode cX8_steps 36 = .ok (.bipush 8, 2) := by decide +kernel
theorem dX8_steps_38 : decode cX8_steps 38 = .ok (.if_icmp .ge 17, 3) := by decide +kernel
theorem dX8_steps_41 : decode cX8_steps 41 = .ok (.aload_n 0, 1) := by decide +kernel
theorem dX8_steps_42 : decode cX8_steps 42 = .ok (.getfield 29, 3) := by decide +kernel
theorem dX8_steps_45 : decode cX8_steps 45 = .ok (.iload 5, 2) := by decide +kernel
theorem dX8_steps_47 : decode cX8_steps 47 = .ok (.iconst 0, 1) := by decide +kernel
theorem dX8_steps_48 : decode cX8_steps 48 = .ok (.iastore, 1) := by decide +kernel
theorem dX8_steps_49 : decode cX8_steps 49 = .ok (.iinc 5 1, 3) := by decide +kernel
theorem dX8_steps_52 : decode cX8_steps 52 = .ok (.goto (-18), 3) := by decide +kernel
theorem dX8_steps_55 : decode cX8_steps 55 = .ok (.iconst 0, 1) := by decide +kernel
theorem dX8_steps_56 : decode cX8_steps 56 = .ok (.istore 5, 2) := by decide +kernel
theorem dX8_steps_58 : decode cX8_steps 58 = .ok (.iload 5, 2) := by decide +kernel
theorem dX8_steps_60 : decode cX8_steps 60 = .ok (.aload_n 0, 1) := by decide +kernel
theorem dX8_steps_61 : decode cX8_steps 61 = .ok (.getfield 7, 3) := by decide +kernel
theorem dX8_steps_64 : decode cX8_steps 64 = .ok (.iconst 0, 1) := by decide +kernel
theorem dX8_steps_65 : decode cX8_steps 65 = .ok (.iaload, 1) := by decide +kernel
theorem dX8_steps_66 : decode cX8_steps 66 = .ok (.if_icmp .ge 55, 3) := by decide +kernel
theorem dX8_steps_69 : decode cX8_steps 69 = .ok (.aload_n 0, 1) := by decide +kernel
theorem dX8_steps_70 : decode cX8_steps 70 = .ok (.getfield 7, 3) := by decide +kernel
theorem dX8_steps_73 : decode cX8_steps 73 = .ok (.bipush 63, 2) := by decide +kernel
theorem dX8_steps_75 : decode cX8_steps 75 = .ok (.iconst 4, 1) := by decide +kernel
theorem dX8_steps_76 : decode cX8_steps 76 = .ok (.iload_n 1, 1) := by decide +kernel
theorem dX8_steps_77 : decode cX8_steps 77 = .ok (.imul, 1) := by decide +kernel
theorem dX8_steps_78 : decode cX8_steps 78 = .ok (.iadd, 1) := by decide +kernel
theorem dX8_steps_79 : decode cX8_steps 79 = .ok (.iconst 3, 1) := by decide +kernel
theorem dX8_steps_80 : decode cX8_steps 80 = .ok (.iadd, 1) := by decide +kernel
theorem dX8_steps_81 : decode cX8_steps 81 = .ok (.dup2, 1) := by decide +kernel
theorem dX8_steps_82 : decode cX8_steps 82 = .ok (.iaload, 1) := by decide +kernel
theorem dX8_steps_83 : decode cX8_steps 83 = .ok (.aload_n 0, 1) := by decide +kernel
theorem dX8_steps_84 : decode cX8_steps 84 = .ok (.iload 5, 2) := by decide +kernel
theorem dX8_steps_86 : decode cX8_steps 86 = .ok (.aload_n 0, 1) := by decide +kernel
theorem dX8_steps_87 : decode cX8_steps 87 = .ok (.iload 5, 2) := by decide +kernel
theorem dX8_steps_89 : decode cX8_steps 89 = .ok (.invokevirtual 66, 3) := by decide +kernel
theorem dX8_steps_92 : decode cX8_steps 92 = .ok (.iload_n 3, 1) := by decide +kernel
theorem dX8_steps_93 : decode cX8_steps 93 = .ok (.iload 4, 2) := by decide +kernel
theorem dX8_steps_95 : decode cX8_steps 95 = .ok (.invokevirtual 69, 3) := by decide +kernel
theorem dX8_steps_98 : decode cX8_steps 98 = .ok (.ifCond .eq 7, 3) := by decide +kernel
theorem dX8_steps_101 : decode cX8_steps 101 = .ok (.iconst 1, 1) := by decide +kernel
theorem dX8_steps_102 : decode cX8_steps 102 = .ok (.goto 4, 3) := by decide +kernel
theorem dX8_steps_105 : decode cX8_steps 105 = .ok (.iconst 0, 1) := by decide +kernel
theorem dX8_steps_106 : decode cX8_steps 106 = .ok (.iadd, 1) := by decide +kernel
theorem dX8_steps_107 : decode cX8_steps 107 = .ok (.iastore, 1) := by decide +kernel
theorem dX8_steps_108 : decode cX8_steps 108 = .ok (.aload_n 0, 1) := by decide +kernel
theorem dX8_steps_109 : decode cX8_steps 109 = .ok (.iload 5, 2) := by decide +kernel
theorem dX8_steps_111 : decode cX8_steps 111 = .ok (.invokevirtual 66, 3) := by decide +kernel
theorem dX8_steps_114 : decode cX8_steps 114 = .ok (.iconst 1, 1) := by decide +kernel
theorem dX8_steps_115 : decode cX8_steps 115 = .ok (.iadd, 1) := by decide +kernel
theorem dX8_steps_116 : decode cX8_steps 116 = .ok (.istore 5, 2) := by decide +kernel
theorem dX8_steps_118 : decode cX8_steps 118 = .ok (.goto (-60), 3) := by decide +kernel
theorem dX8_steps_121 : decode cX8_steps 121 = .ok (.iconst 0, 1) := by decide +kernel
theorem dX8_steps_122 : decode cX8_steps 122 = .ok (.istore 5, 2) := by decide +kernel
theorem dX8_steps_124 : decode cX8_steps 124 = .ok (.iload 5, 2) := by decide +kernel
theorem dX8_steps_126 : decode cX8_steps 126 = .ok (.iconst 1, 1) := by decide +kernel
theorem dX8_steps_127 : decode cX8_steps 127 = .ok (.iadd, 1) := by decide +kernel
theorem dX8_steps_128 : decode cX8_steps 128 = .ok (.aload_n 0, 1) := by decide +kernel
theorem dX8_steps_129 : decode cX8_steps 129 = .ok (.getfield 7, 3) := by decide +kernel
theorem dX8_steps_132 : decode cX8_steps 132 = .ok (.iconst 0, 1) := by decide +kernel
theorem dX8_steps_133 : decode cX8_steps 133 = .ok (.iaload, 1) := by decide +kernel
theorem dX8_steps_134 : decode cX8_steps 134 = .ok (.if_icmp .ge 137, 3) := by decide +kernel
theorem dX8_steps_137 : decode cX8_steps 137 = .ok (.aload_n 0, 1) := by decide +kernel
theorem dX8_steps_138 : decode cX8_steps 138 = .ok (.iload 5, 2) := by decide +kernel
theorem dX8_steps_140 : decode cX8_steps 140 = .ok (.iconst 0, 1) := by decide +kernel
theorem dX8_steps_141 : decode cX8_steps 141 = .ok (.invokevirtual 59, 3) := by decide +kernel
theorem dX8_steps_144 : decode cX8_steps 144 = .ok (.aload_n 0, 1) := by decide +kernel
theorem dX8_steps_145 : decode cX8_steps 145 = .ok (.iload 5, 2) := by decide +kernel
theorem dX8_steps_147 : decode cX8_steps 147 = .ok (.iconst 1, 1) := by decide +kernel
theorem dX8_steps_148 : decode cX8_steps 148 = .ok (.iadd, 1) := by decide +kernel
theorem dX8_steps_149 : decode cX8_steps 149 = .ok (.iconst 0, 1) := by decide +kernel
theorem dX8_steps_150 : decode cX8_steps 150 = .ok (.invokevirtual 59, 3) := by decide +kernel
theorem dX8_steps_153 : decode cX8_steps 153 = .ok (.isub, 1) := by decide +kernel
theorem dX8_steps_154 : decode cX8_steps 154 = .ok (.istore 6, 2) := by decide +kernel
theorem dX8_steps_156 : decode cX8_steps 156 = .ok (.aload_n 0, 1) := by decide +kernel
theorem dX8_steps_157 : decode cX8_steps 157 = .ok (.iload 5, 2) := by decide +kernel
theorem dX8_steps_159 : decode cX8_steps 159 = .ok (.iconst 3, 1) := by decide +kernel
theorem dX8_steps_160 : decode cX8_steps 160 = .ok (.invokevirtual 59, 3) := by decide +kernel
theorem dX8_steps_163 : decode cX8_steps 163 = .ok (.ifCond .ne 49, 3) := by decide +kernel
theorem dX8_steps_166 : decode cX8_steps 166 = .ok (.aload_n 0, 1) := by decide +kernel
theorem dX8_steps_167 : decode cX8_steps 167 = .ok (.getfield 29, 3) := by decide +kernel
theorem dX8_steps_170 : decode cX8_steps 170 = .ok (.iload 5, 2) := by decide +kernel
theorem dX8_steps_172 : decode cX8_steps 172 = .ok (.iaload, 1) := by decide +kernel
theorem dX8_steps_173 : decode cX8_steps 173 = .ok (.aload_n 0, 1) := by decide +kernel
theorem dX8_steps_174 : decode cX8_steps 174 = .ok (.getfield 29, 3) := by decide +kernel
theorem dX8_steps_177 : decode cX8_steps 177 = .ok (.iload 5, 2) := by decide +kernel
theorem dX8_steps_179 : decode cX8_steps 179 = .ok (.iconst 1, 1) := by decide +kernel
theorem dX8_steps_180 : decode cX8_steps 180 = .ok (.iadd, 1) := by decide +kernel
theorem dX8_steps_181 : decode cX8_steps 181 = .ok (.iaload, 1) := by decide +kernel
theorem dX8_steps_182 : decode cX8_steps 182 = .ok (.imul, 1) := by decide +kernel
theorem dX8_steps_183 : decode cX8_steps 183 = .ok (.ifCond .ge 29, 3) := by decide +kernel
theorem dX8_steps_186 : decode cX8_steps 186 = .ok (.iload 6, 2) := by decide +kernel
theorem dX8_steps_188 : decode cX8_steps 188 = .ok (.ifCond .ge 9, 3) := by decide +kernel
theorem dX8_steps_191 : decode cX8_steps 191 = .ok (.iload 6, 2) := by decide +kernel
theorem dX8_steps_193 : decode cX8_steps 193 = .ok (.ineg, 1) := by decide +kernel
theorem dX8_steps_194 : decode cX8_steps 194 = .ok (.goto 5, 3) := by decide +kernel
theorem dX8_steps_197 : decode cX8_steps 197 = .ok (.iload 6, 2) := by decide +kernel
theorem dX8_steps_199 : decode cX8_steps 199 = .ok (.aload_n 0, 1) := by decide +kernel
theorem dX8_steps_200 : decode cX8_steps 200 = .ok (.getfield 7, 3) := by decide +kernel
theorem dX8_steps_203 : decode cX8_steps 203 = .ok (.iconst 5, 1) := by decide +kernel
theorem dX8_steps_204 : decode cX8_steps 204 = .ok (.iaload, 1) := by decide +kernel
theorem dX8_steps_205 : decode cX8_steps 205 = .ok (.if_icmp .lt 7, 3) := by decide +kernel
theorem dX8_steps_208 : decode cX8_steps 208 = .ok (.iconst 1, 1) := by decide +kernel
theorem dX8_steps_209 : decode cX8_steps 209 = .ok (.goto 4, 3) := by decide +kernel
theorem dX8_steps_212 : decode cX8_steps 212 = .ok (.iconst 0, 1) := by decide +kernel
theorem dX8_steps_213 : decode cX8_steps 213 = .ok (.istore 7, 2) := by decide +kernel
theorem dX8_steps_215 : decode cX8_steps 215 = .ok (.aload_n 0, 1) := by decide +kernel
theorem dX8_steps_216 : decode cX8_steps 216 = .ok (.getfield 7, 3) := by decide +kernel
theorem dX8_steps_219 : decode cX8_steps 219 = .ok (.bipush 7, 2) := by decide +kernel
theorem dX8_steps_221 : decode cX8_steps 221 = .ok (.bipush 7, 2) := by decide +kernel
theorem dX8_steps_223 : decode cX8_steps 223 = .ok (.iload 5, 2) := by decide +kernel
theorem dX8_steps_225 : decode cX8_steps 225 = .ok (.imul, 1) := by decide +kernel
theorem dX8_steps_226 : decode cX8_steps 226 = .ok (.iadd, 1) := by decide +kernel
theorem dX8_steps_227 : decode cX8_steps 227 = .ok (.iconst 3, 1) := by decide +kernel
theorem dX8_steps_228 : decode cX8_steps 228 = .ok (.iadd, 1) := by decide +kernel
theorem dX8_steps_229 : decode cX8_steps 229 = .ok (.iload 7, 2) := by decide +kernel
theorem dX8_steps_231 : decode cX8_steps 231 = .ok (.ifCond .eq 7, 3) := by decide +kernel
theorem dX8_steps_234 : decode cX8_steps 234 = .ok (.iconst 1, 1) := by decide +kernel
theorem dX8_steps_235 : decode cX8_steps 235 = .ok (.goto 10, 3) := by decide +kernel
theorem dX8_steps_238 : decode cX8_steps 238 = .ok (.aload_n 0, 1) := by decide +kernel
theorem dX8_steps_239 : decode cX8_steps 239 = .ok (.iload 5, 2) := by decide +kernel
theorem dX8_steps_241 : decode cX8_steps 241 = .ok (.iconst 3, 1) := by decide +kernel
theorem dX8_steps_242 : decode cX8_steps 242 = .ok (.invokevirtual 59, 3) := by decide +kernel
theorem dX8_steps_245 : decode cX8_steps 245 = .ok (.iastore, 1) := by decide +kernel
theorem dX8_steps_246 : decode cX8_steps 246 = .ok (.aload_n 0, 1) := by decide +kernel
theorem dX8_steps_247 : decode cX8_steps 247 = .ok (.getfield 7, 3) := by decide +kernel
theorem dX8_steps_250 : decode cX8_steps 250 = .ok (.iconst 4, 1) := by decide +kernel
theorem dX8_steps_251 : decode cX8_steps 251 = .ok (.dup2, 1) := by decide +kernel
theorem dX8_steps_252 : decode cX8_steps 252 = .ok (.iaload, 1) := by decide +kernel
theorem dX8_steps_253 : decode cX8_steps 253 = .ok (.iload 7, 2) := by decide +kernel
theorem dX8_steps_255 : decode cX8_steps 255 = .ok (.ifCond .eq 7, 3) := by decide +kernel
theorem dX8_steps_258 : decode cX8_steps 258 = .ok (.iconst 1, 1) := by decide +kernel
theorem dX8_steps_259 : decode cX8_steps 259 = .ok (.goto 4, 3) := by decide +kernel
theorem dX8_steps_262 : decode cX8_steps 262 = .ok (.iconst 0, 1) := by decide +kernel
theorem dX8_steps_263 : decode cX8_steps 263 = .ok (.iadd, 1) := by decide +kernel
theorem dX8_steps_264 : decode cX8_steps 264 = .ok (.iastore, 1) := by decide +kernel
theorem dX8_steps_265 : decode cX8_steps 265 = .ok (.iinc 5 1, 3) := by decide +kernel
theorem dX8_steps_268 : decode cX8_steps 268 = .ok (.goto (-144), 3) := by decide +kernel
theorem dX8_steps_271 : decode cX8_steps 271 = .ok (.return_, 1) := by decide +kernel
theorem dX8_pullsOne_0 : decode cX8_pullsOne 0 = .ok (.aload_n 0, 1) := by decide +kernel
theorem dX8_pullsOne_1 : decode cX8_pullsOne 1 = .ok (.iload_n 1, 1) := by decide +kernel
theorem dX8_pullsOne_2 : decode cX8_pullsOne 2 = .ok (.invokevirtual 73, 3) := by decide +kernel
theorem dX8_pullsOne_5 : decode cX8_pullsOne 5 = .ok (.ifCond .eq 18, 3) := by decide +kernel
theorem dX8_pullsOne_8 : decode cX8_pullsOne 8 = .ok (.iload_n 2, 1) := by decide +kernel
theorem dX8_pullsOne_9 : decode cX8_pullsOne 9 = .ok (.bipush (-9), 2) := by decide +kernel
theorem dX8_pullsOne_11 : decode cX8_pullsOne 11 = .ok (.bipush 9, 2) := by decide +kernel
theorem dX8_pullsOne_13 : decode cX8_pullsOne 13 = .ok (.invokestatic 38, 3) := by decide +kernel
theorem dX8_pullsOne_16 : decode cX8_pullsOne 16 = .ok (.ifCond .eq 7, 3) := by decide +kernel
theorem dX8_pullsOne_19 : decode cX8_pullsOne 19 = .ok (.iload_n 2, 1) := by decide +kernel
theorem dX8_pullsOne_20 : decode cX8_pullsOne 20 = .ok (.ifCond .ne 6, 3) := by decide +kernel
theorem dX8_pullsOne_23 : decode cX8_pullsOne 23 = .ok (.ldc 42, 2) := by decide +kernel
theorem dX8_pullsOne_25 : decode cX8_pullsOne 25 = .ok (.ireturn, 1) := by decide +kernel
theorem dX8_pullsOne_26 : decode cX8_pullsOne 26 = .ok (.iconst 0, 1) := by decide +kernel
theorem dX8_pullsOne_27 : decode cX8_pullsOne 27 = .ok (.istore_n 3, 1) := by decide +kernel
theorem dX8_pullsOne_28 : decode cX8_pullsOne 28 = .ok (.iload_n 3, 1) := by decide +kernel
theorem dX8_pullsOne_29 : decode cX8_pullsOne 29 = .ok (.aload_n 0, 1) := by decide +kernel
theorem dX8_pullsOne_30 : decode cX8_pullsOne 30 = .ok (.getfield 7, 3) := by decide +kernel
theorem dX8_pullsOne_33 : decode cX8_pullsOne 33 = .ok (.iconst 0, 1) := by decide +kernel
theorem dX8_pullsOne_34 : decode cX8_pullsOne 34 = .ok (.iaload, 1) := by decide +kernel
theorem dX8_pullsOne_35 : decode cX8_pullsOne 35 = .ok (.if_icmp .ge 21, 3) := by decide +kernel
theorem dX8_pullsOne_38 : decode cX8_pullsOne 38 = .ok (.aload_n 0, 1) := by decide +kernel
theorem dX8_pullsOne_39 : decode cX8_pullsOne 39 = .ok (.getfield 26, 3) := by decide +kernel
theorem dX8_pullsOne_42 : decode cX8_pullsOne 42 = .ok (.iload_n 3, 1) := by decide +kernel
theorem dX8_pullsOne_43 : decode cX8_pullsOne 43 = .ok (.aload_n 0, 1) := by decide +kernel
theorem dX8_pullsOne_44 : decode cX8_pullsOne 44 = .ok (.iload_n 3, 1) := by decide +kernel
theorem dX8_pullsOne_45 : decode cX8_pullsOne 45 = .ok (.iconst 0, 1) := by decide +kernel
theorem dX8_pullsOne_46 : decode cX8_pullsOne 46 = .ok (.invokevirtual 59, 3) := by decide +kernel
theorem dX8_pullsOne_49 : decode cX8_pullsOne 49 = .ok (.iastore, 1) := by decide +kernel
theorem dX8_pullsOne_50 : decode cX8_pullsOne 50 = .ok (.iinc 3 1, 3) := by decide +kernel
theorem dX8_pullsOne_53 : decode cX8_pullsOne 53 = .ok (.goto (-25), 3) := by decide +kernel
theorem dX8_pullsOne_56 : decode cX8_pullsOne 56 = .ok (.iload_n 2, 1) := by decide +kernel
theorem dX8_pullsOne_57 : decode cX8_pullsOne 57 = .ok (.ifCond .ge 8, 3) := by decide +kernel
theorem dX8_pullsOne_60 : decode cX8_pullsOne 60 = .ok (.iload_n 2, 1) := by decide +kernel
theorem dX8_pullsOne_61 : decode cX8_pullsOne 61 = .ok (.ineg, 1) := by decide +kernel
theorem dX8_pullsOne_62 : decode cX8_pullsOne 62 = .ok (.goto 4, 3) := by decide +kernel
theorem dX8_pullsOne_65 : decode cX8_pullsOne 65 = .ok (.iload_n 2, 1) := by decide +kernel
theorem dX8_pullsOne_66 : decode cX8_pullsOne 66 = .ok (.istore_n 3, 1) := by decide +kernel
theorem dX8_pullsOne_67 : decode cX8_pullsOne 67 = .ok (.iconst 0, 1) := by decide +kernel
theorem dX8_pullsOne_68 : decode cX8_pullsOne 68 = .ok (.istore 4, 2) := by decide +kernel
theorem dX8_pullsOne_70 : decode cX8_pullsOne 70 = .ok (.iload 4, 2) := by decide +kernel
theorem dX8_pullsOne_72 : decode cX8_pullsOne 72 = .ok (.iload_n 3, 1) := by decide +kernel
theorem dX8_pullsOne_73 : decode cX8_pullsOne 73 = .ok (.if_icmp .ge 23, 3) := by decide +kernel
theorem dX8_pullsOne_76 : decode cX8_pullsOne 76 = .ok (.aload_n 0, 1) := by decide +kernel
theorem dX8_pullsOne_77 : decode cX8_pullsOne 77 = .ok (.iload_n 1, 1) := by decide +kernel
theorem dX8_pullsOne_78 : decode cX8_pullsOne 78 = .ok (.iload_n 2, 1) := by decide +kernel
theorem dX8_pullsOne_79 : decode cX8_pullsOne 79 = .ok (.ifCond .le 7, 3) := by decide +kernel
theorem dX8_pullsOne_82 : decode cX8_pullsOne 82 = .ok (.iconst 1, 1) := by decide +kernel
theorem dX8_pullsOne_83 : decode cX8_pullsOne 83 = .ok (.goto 4, 3) := by decide +kernel
theorem dX8_pullsOne_86 : decode cX8_pullsOne 86 = .ok (.iconst 0, 1) := by decide +kernel
theorem dX8_pullsOne_87 : decode cX8_pullsOne 87 = .ok (.invokevirtual 76, 3) := by decide +kernel
theorem dX8_pullsOne_90 : decode cX8_pullsOne 90 = .ok (.iinc 4 1, 3) := by decide +kernel
theorem dX8_pullsOne_93 : decode cX8_pullsOne 93 = .ok (.goto (-23), 3) := by decide +kernel
theorem dX8_pullsOne_96 : decode cX8_pullsOne 96 = .ok (.aload_n 0, 1) := by decide +kernel
theorem dX8_pullsOne_97 : decode cX8_pullsOne 97 = .ok (.getfield 7, 3) := by decide +kernel
theorem dX8_pullsOne_100 : decode cX8_pullsOne 100 = .ok (.bipush 63, 2) := by decide +kernel
theorem dX8_pullsOne_102 : decode cX8_pullsOne 102 = .ok (.iconst 4, 1) := by decide +kernel
theorem dX8_pullsOne_103 : decode cX8_pullsOne 103 = .ok (.iload_n 1, 1) := by decide +kernel
theorem dX8_pullsOne_104 : decode cX8_pullsOne 104 = .ok (.imul, 1) := by decide +kernel
theorem dX8_pullsOne_105 : decode cX8_pullsOne 105 = .ok (.iadd, 1) := by decide +kernel
theorem dX8_pullsOne_106 : decode cX8_pullsOne 106 = .ok (.iconst 2, 1) := by decide +kernel
theorem dX8_pullsOne_107 : decode cX8_pullsOne 107 = .ok (.iadd, 1) := by decide +kernel
theorem dX8_pullsOne_108 : decode cX8_pullsOne 108 = .ok (.dup2, 1) := by decide +kernel
theorem dX8_pullsOne_109 : decode cX8_pullsOne 109 = .ok (.iaload, 1) := by decide +kernel
theorem dX8_pullsOne_110 : decode cX8_pullsOne 110 = .ok (.iload_n 2, 1) := by decide +kernel
theorem dX8_pullsOne_111 : decode cX8_pullsOne 111 = .ok (.iadd, 1) := by decide +kernel
theorem dX8_pullsOne_112 : decode cX8_pullsOne 112 = .ok (.iastore, 1) := by decide +kernel
theorem dX8_pullsOne_113 : decode cX8_pullsOne 113 = .ok (.iconst 0, 1) := by decide +kernel
theorem dX8_pullsOne_114 : decode cX8_pullsOne 114 = .ok (.istore 4, 2) := by decide +kernel
theorem dX8_pullsOne_116 : decode cX8_pullsOne 116 = .ok (.iconst 0, 1) := by decide +kernel
theorem dX8_pullsOne_117 : decode cX8_pullsOne 117 = .ok (.istore 5, 2) := by decide +kernel
theorem dX8_pullsOne_119 : decode cX8_pullsOne 119 = .ok (.iload 5, 2) := by decide +kernel
theorem dX8_pullsOne_121 : decode cX8_pullsOne 121 = .ok (.aload_n 0, 1) := by decide +kernel
theorem dX8_pullsOne_122 : decode cX8_pullsOne 122 = .ok (.getfield 7, 3) := by decide +kernel
theorem dX8_pullsOne_125 : decode cX8_pullsOne 125 = .ok (.iconst 0, 1) := by decide +kernel
theorem dX8_pullsOne_126 : decode cX8_pullsOne 126 = .ok (.iaload, 1) := by decide +kernel
theorem dX8_pullsOne_127 : decode cX8_pullsOne 127 = .ok (.if_icmp .ge 39, 3) := by decide +kernel
theorem dX8_pullsOne_130 : decode cX8_pullsOne 130 = .ok (.iload 4, 2) := by decide +kernel
theorem dX8_pullsOne_132 : decode cX8_pullsOne 132 = .ok (.aload_n 0, 1) := by decide +kernel
theorem dX8_pullsOne_133 : decode cX8_pullsOne 133 = .ok (.getfield 26, 3) := by decide +kernel
theorem dX8_pullsOne_136 : decode cX8_pullsOne 136 = .ok (.iload 5, 2) := by decide +kernel
theorem dX8_pullsOne_138 : decode cX8_pullsOne 138 = .ok (.iaload, 1) := by decide +kernel
theorem dX8_pullsOne_139 : decode cX8_pullsOne 139 = .ok (.aload_n 0, 1) := by decide +kernel
theorem dX8_pullsOne_140 : decode cX8_pullsOne 140 = .ok (.iload 5, 2) := by decide +kernel
theorem dX8_pullsOne_142 : decode cX8_pullsOne 142 = .ok (.iconst 0, 1) := by decide +kernel
theorem dX8_pullsOne_143 : decode cX8_pullsOne 143 = .ok (.invokevirtual 59, 3) := by decide +kernel
theorem dX8_pullsOne_146 : decode cX8_pullsOne 146 = .ok (.if_icmp .eq 10, 3) := by decide +kernel
theorem dX8_pullsOne_149 : decode cX8_pullsOne 149 = .ok (.iconst 1, 1) := by decide +kernel
theorem dX8_pullsOne_150 : decode cX8_pullsOne 150 = .ok (.iload 5, 2) := by decide +kernel
theorem dX8_pullsOne_152 : decode cX8_pullsOne 152 = .ok (.ishl, 1) := by decide +kernel
theorem dX8_pullsOne_153 : decode cX8_pullsOne 153 = .ok (.goto 4, 3) := by decide +kernel
theorem dX8_pullsOne_156 : decode cX8_pullsOne 156 = .ok (.iconst 0, 1) := by decide +kernel
theorem dX8_pullsOne_157 : decode cX8_pullsOne 157 = .ok (.ior, 1) := by decide +kernel
theorem dX8_pullsOne_158 : decode cX8_pullsOne 158 = .ok (.istore 4, 2) := by decide +kernel
theorem dX8_pullsOne_160 : decode cX8_pullsOne 160 = .ok (.iinc 5 1, 3) := by decide +kernel
theorem dX8_pullsOne_163 : decode cX8_pullsOne 163 = .ok (.goto (-44), 3) := by decide +kernel
theorem dX8_pullsOne_166 : decode cX8_pullsOne 166 = .ok (.iload 4, 2) := by decide +kernel
theorem dX8_pullsOne_168 : decode cX8_pullsOne 168 = .ok (.ireturn, 1) := by decide +kernel
theorem dX8_pull_0 : decode cX8_pull 0 = .ok (.aload_n 0, 1) := by decide +kernel
theorem dX8_pull_1 : decode cX8_pull 1 = .ok (.invokevirtual 48, 3) := by decide +kernel
theorem dX8_pull_4 : decode cX8_pull 4 = .ok (.aload_n 0, 1) := by decide +kernel
theorem dX8_pull_5 : decode cX8_pull 5 = .ok (.aload_n 0, 1) := by decide +kernel
theorem dX8_pull_6 : decode cX8_pull 6 = .ok (.iload_n 1, 1) := by decide +kernel
theorem dX8_pull_7 : decode cX8_pull 7 = .ok (.iload_n 2, 1) := by decide +kernel
theorem dX8_pull_8 : decode cX8_pull 8 = .ok (.invokevirtual 80, 3) := by decide +kernel
theorem dX8_pull_11 : decode cX8_pull 11 = .ok (.invokevirtual 51, 3) := by decide +kernel
theorem dX8_pull_14 : decode cX8_pull 14 = .ok (.ireturn, 1) := by decide +kernel
theorem dX8_unties_0 : decode cX8_unties 0 = .ok (.iload_n 1, 1) := by decide +kernel
theorem dX8_unties_1 : decode cX8_unties 1 = .ok (.iconst 0, 1) := by decide +kernel
theorem dX8_unties_2 : decode cX8_unties 2 = .ok (.aload_n 0, 1) := by decide +kernel
theorem dX8_unties_3 : decode cX8_unties 3 = .ok (.getfield 7, 3) := by decide +kernel
theorem dX8_unties_6 : decode cX8_unties 6 = .ok (.iconst 0, 1) := by decide +kernel
theorem dX8_unties_7 : decode cX8_unties 7 = .ok (.iaload, 1) := by decide +kernel
theorem dX8_unties_8 : decode cX8_unties 8 = .ok (.iconst 2, 1) := by decide +kernel
theorem dX8_unties_9 : decode cX8_unties 9 = .ok (.isub, 1) := by decide +kernel
theorem dX8_unties_10 : decode cX8_unties 10 = .ok (.invokestatic 38, 3) := by decide +kernel
theorem dX8_unties_13 : decode cX8_unties 13 = .ok (.ifCond .ne 6, 3) := by decide +kernel
theorem dX8_unties_16 : decode cX8_unties 16 = .ok (.ldc 42, 2) := by decide +kernel
theorem dX8_unties_18 : decode cX8_unties 18 = .ok (.ireturn, 1) := by decide +kernel
theorem dX8_unties_19 : decode cX8_unties 19 = .ok (.aload_n 0, 1) := by decide +kernel
theorem dX8_unties_20 : decode cX8_unties 20 = .ok (.iload_n 1, 1) := by decide +kernel
theorem dX8_unties_21 : decode cX8_unties 21 = .ok (.iconst 3, 1) := by decide +kernel
theorem dX8_unties_22 : decode cX8_unties 22 = .ok (.invokevirtual 59, 3) := by decide +kernel
theorem dX8_unties_25 : decode cX8_unties 25 = .ok (.ifCond .eq 26, 3) := by decide +kernel
theorem dX8_unties_28 : decode cX8_unties 28 = .ok (.aload_n 0, 1) := by decide +kernel
theorem dX8_unties_29 : decode cX8_unties 29 = .ok (.iload_n 1, 1) := by decide +kernel
theorem dX8_unties_30 : decode cX8_unties 30 = .ok (.iconst 0, 1) := by decide +kernel
theorem dX8_unties_31 : decode cX8_unties 31 = .ok (.invokevirtual 59, 3) := by decide +kernel
theorem dX8_unties_34 : decode cX8_unties 34 = .ok (.aload_n 0, 1) := by decide +kernel
theorem dX8_unties_35 : decode cX8_unties 35 = .ok (.iload_n 1, 1) := by decide +kernel
theorem dX8_unties_36 : decode cX8_unties 36 = .ok (.iconst 1, 1) := by decide +kernel
theorem dX8_unties_37 : decode cX8_unties 37 = .ok (.iadd, 1) := by decide +kernel
theorem dX8_unties_38 : decode cX8_unties 38 = .ok (.iconst 0, 1) := by decide +kernel
theorem dX8_unties_39 : decode cX8_unties 39 = .ok (.invokevirtual 59, 3) := by decide +kernel
theorem dX8_unties_42 : decode cX8_unties 42 = .ok (.isub, 1) := by decide +kernel
theorem dX8_unties_43 : decode cX8_unties 43 = .ok (.iconst (-1), 1) := by decide +kernel
theorem dX8_unties_44 : decode cX8_unties 44 = .ok (.iconst 1, 1) := by decide +kernel
theorem dX8_unties_45 : decode cX8_unties 45 = .ok (.invokestatic 38, 3) := by decide +kernel
theorem dX8_unties_48 : decode cX8_unties 48 = .ok (.ifCond .ne 6, 3) := by decide +kernel
theorem dX8_unties_51 : decode cX8_unties 51 = .ok (.ldc 83, 2) := by decide +kernel
theorem dX8_unties_53 : decode cX8_unties 53 = .ok (.ireturn, 1) := by decide +kernel
theorem dX8_unties_54 : decode cX8_unties 54 = .ok (.aload_n 0, 1) := by decide +kernel
theorem dX8_unties_55 : decode cX8_unties 55 = .ok (.getfield 7, 3) := by decide +kernel
theorem dX8_unties_58 : decode cX8_unties 58 = .ok (.bipush 7, 2) := by decide +kernel
theorem dX8_unties_60 : decode cX8_unties 60 = .ok (.bipush 7, 2) := by decide +kernel
theorem dX8_unties_62 : decode cX8_unties 62 = .ok (.iload_n 1, 1) := by decide +kernel
theorem dX8_unties_63 : decode cX8_unties 63 = .ok (.imul, 1) := by decide +kernel
theorem dX8_unties_64 : decode cX8_unties 64 = .ok (.iadd, 1) := by decide +kernel
theorem dX8_unties_65 : decode cX8_unties 65 = .ok (.iconst 3, 1) := by decide +kernel
theorem dX8_unties_66 : decode cX8_unties 66 = .ok (.iadd, 1) := by decide +kernel
theorem dX8_unties_67 : decode cX8_unties 67 = .ok (.dup2, 1) := by decide +kernel
theorem dX8_unties_68 : decode cX8_unties 68 = .ok (.iaload, 1) := by decide +kernel
theorem dX8_unties_69 : decode cX8_unties 69 = .ok (.iconst 1, 1) := by decide +kernel
theorem dX8_unties_70 : decode cX8_unties 70 = .ok (.isub, 1) := by decide +kernel
theorem dX8_unties_71 : decode cX8_unties 71 = .ok (.iastore, 1) := by decide +kernel
theorem dX8_unties_72 : decode cX8_unties 72 = .ok (.aload_n 0, 1) := by decide +kernel
theorem dX8_unties_73 : decode cX8_unties 73 = .ok (.iload_n 1, 1) := by decide +kernel
theorem dX8_unties_74 : decode cX8_unties 74 = .ok (.iconst 3, 1) := by decide +kernel
theorem dX8_unties_75 : decode cX8_unties 75 = .ok (.invokevirtual 59, 3) := by decide +kernel
theorem dX8_unties_78 : decode cX8_unties 78 = .ok (.ireturn, 1) := by decide +kernel
theorem dX8_untie_0 : decode cX8_untie 0 = .ok (.aload_n 0, 1) := by decide +kernel
theorem dX8_untie_1 : decode cX8_untie 1 = .ok (.invokevirtual 48, 3) := by decide +kernel
theorem dX8_untie_4 : decode cX8_untie 4 = .ok (.aload_n 0, 1) := by decide +kernel
theorem dX8_untie_5 : decode cX8_untie 5 = .ok (.aload_n 0, 1) := by decide +kernel
theorem dX8_untie_6 : decode cX8_untie 6 = .ok (.iload_n 1, 1) := by decide +kernel
theorem dX8_untie_7 : decode cX8_untie 7 = .ok (.invokevirtual 84, 3) := by decide +kernel
theorem dX8_untie_10 : decode cX8_untie 10 = .ok (.invokevirtual 51, 3) := by decide +kernel
theorem dX8_untie_13 : decode cX8_untie 13 = .ok (.ireturn, 1) := by decide +kernel
theorem dX8_isTold_0 : decode cX8_isTold 0 = .ok (.aload_n 0, 1) := by decide +kernel
theorem dX8_isTold_1 : decode cX8_isTold 1 = .ok (.iload_n 1, 1) := by decide +kernel
theorem dX8_isTold_2 : decode cX8_isTold 2 = .ok (.bipush 6, 2) := by decide +kernel
theorem dX8_isTold_4 : decode cX8_isTold 4 = .ok (.invokevirtual 59, 3) := by decide +kernel
theorem dX8_isTold_7 : decode cX8_isTold 7 = .ok (.ifCond .lt 7, 3) := by decide +kernel
theorem dX8_isTold_10 : decode cX8_isTold 10 = .ok (.iconst 1, 1) := by decide +kernel
theorem dX8_isTold_11 : decode cX8_isTold 11 = .ok (.goto 4, 3) := by decide +kernel
theorem dX8_isTold_14 : decode cX8_isTold 14 = .ok (.iconst 0, 1) := by decide +kernel
theorem dX8_isTold_15 : decode cX8_isTold 15 = .ok (.ireturn, 1) := by decide +kernel
theorem dX8_stands_0 : decode cX8_stands 0 = .ok (.aload_n 0, 1) := by decide +kernel
theorem dX8_stands_1 : decode cX8_stands 1 = .ok (.iload_n 1, 1) := by decide +kernel
theorem dX8_stands_2 : decode cX8_stands 2 = .ok (.bipush 6, 2) := by decide +kernel
theorem dX8_stands_4 : decode cX8_stands 4 = .ok (.invokevirtual 59, 3) := by decide +kernel
theorem dX8_stands_7 : decode cX8_stands 7 = .ok (.aload_n 0, 1) := by decide +kernel
theorem dX8_stands_8 : decode cX8_stands 8 = .ok (.iload_n 1, 1) := by decide +kernel
theorem dX8_stands_9 : decode cX8_stands 9 = .ok (.iconst 0, 1) := by decide +kernel
theorem dX8_stands_10 : decode cX8_stands 10 = .ok (.invokevirtual 59, 3) := by decide +kernel
theorem dX8_stands_13 : decode cX8_stands 13 = .ok (.if_icmp .ne 7, 3) := by decide +kernel
theorem dX8_stands_16 : decode cX8_stands 16 = .ok (.iconst 1, 1) := by decide +kernel
theorem dX8_stands_17 : decode cX8_stands 17 = .ok (.goto 4, 3) := by decide +kernel
theorem dX8_stands_20 : decode cX8_stands 20 = .ok (.iconst 0, 1) := by decide +kernel
theorem dX8_stands_21 : decode cX8_stands 21 = .ok (.ireturn, 1) := by decide +kernel
theorem dX8_isTangled_0 : decode cX8_isTangled 0 = .ok (.aload_n 0, 1) := by decide +kernel
theorem dX8_isTangled_1 : decode cX8_isTangled 1 = .ok (.iload_n 1, 1) := by decide +kernel
theorem dX8_isTangled_2 : decode cX8_isTangled 2 = .ok (.iconst 3, 1) := by decide +kernel
theorem dX8_isTangled_3 : decode cX8_isTangled 3 = .ok (.invokevirtual 59, 3) := by decide +kernel
theorem dX8_isTangled_6 : decode cX8_isTangled 6 = .ok (.ifCond .gt 18, 3) := by decide +kernel
theorem dX8_isTangled_9 : decode cX8_isTangled 9 = .ok (.iload_n 1, 1) := by decide +kernel
theorem dX8_isTangled_10 : decode cX8_isTangled 10 = .ok (.ifCond .le 18, 3) := by decide +kernel
theorem dX8_isTangled_13 : decode cX8_isTangled 13 = .ok (.aload_n 0, 1) := by decide +kernel
theorem dX8_isTangled_14 : decode cX8_isTangled 14 = .ok (.iload_n 1, 1) := by decide +kernel
theorem dX8_isTangled_15 : decode cX8_isTangled 15 = .ok (.iconst 1, 1) := by decide +kernel
theorem dX8_isTangled_16 : decode cX8_isTangled 16 = .ok (.isub, 1) := by decide +kernel
theorem dX8_isTangled_17 : decode cX8_isTangled 17 = .ok (.iconst 3, 1) := by decide +kernel
theorem dX8_isTangled_18 : decode cX8_isTangled 18 = .ok (.invokevirtual 59, 3) := by decide +kernel
theorem dX8_isTangled_21 : decode cX8_isTangled 21 = .ok (.ifCond .le 7, 3) := by decide +kernel
theorem dX8_isTangled_24 : decode cX8_isTangled 24 = .ok (.iconst 1, 1) := by decide +kernel
theorem dX8_isTangled_25 : decode cX8_isTangled 25 = .ok (.goto 4, 3) := by decide +kernel
theorem dX8_isTangled_28 : decode cX8_isTangled 28 = .ok (.iconst 0, 1) := by decide +kernel
theorem dX8_isTangled_29 : decode cX8_isTangled 29 = .ok (.ireturn, 1) := by decide +kernel
theorem dX8_standing_0 : decode cX8_standing 0 = .ok (.iconst 0, 1) := by decide +kernel
theorem dX8_standing_1 : decode cX8_standing 1 = .ok (.istore_n 1, 1) := by decide +kernel
theorem dX8_standing_2 : decode cX8_standing 2 = .ok (.iconst 0, 1) := by decide +kernel
theorem dX8_standing_3 : decode cX8_standing 3 = .ok (.istore_n 2, 1) := by decide +kernel
theorem dX8_standing_4 : decode cX8_standing 4 = .ok (.iload_n 2, 1) := by decide +kernel
theorem dX8_standing_5 : decode cX8_standing 5 = .ok (.aload_n 0, 1) := by decide +kernel
theorem dX8_standing_6 : decode cX8_standing 6 = .ok (.getfield 7, 3) := by decide +kernel
theorem dX8_standing_9 : decode cX8_standing 9 = .ok (.iconst 0, 1) := by decide +kernel
theorem dX8_standing_10 : decode cX8_standing 10 = .ok (.iaload, 1) := by decide +kernel
theorem dX8_standing_11 : decode cX8_standing 11 = .ok (.if_icmp .ge 25, 3) := by decide +kernel
theorem dX8_standing_14 : decode cX8_standing 14 = .ok (.iload_n 1, 1) := by decide +kernel
theorem dX8_standing_15 : decode cX8_standing 15 = .ok (.aload_n 0, 1) := by decide +kernel
theorem dX8_standing_16 : decode cX8_standing 16 = .ok (.iload_n 2, 1) := by decide +kernel
theorem dX8_standing_17 : decode cX8_standing 17 = .ok (.invokevirtual 87, 3) := by decide +kernel
theorem dX8_standing_20 : decode cX8_standing 20 = .ok (.ifCond .eq 7, 3) := by decide +kernel
theorem dX8_standing_23 : decode cX8_standing 23 = .ok (.iconst 1, 1) := by decide +kernel
theorem dX8_standing_24 : decode cX8_standing 24 = .ok (.goto 4, 3) := by decide +kernel
theorem dX8_standing_27 : decode cX8_standing 27 = .ok (.iconst 0, 1) := by decide +kernel
theorem dX8_standing_28 : decode cX8_standing 28 = .ok (.iadd, 1) := by decide +kernel
theorem dX8_standing_29 : decode cX8_standing 29 = .ok (.istore_n 1, 1) := by decide +kernel
theorem dX8_standing_30 : decode cX8_standing 30 = .ok (.iinc 2 1, 3) := by decide +kernel
theorem dX8_standing_33 : decode cX8_standing 33 = .ok (.goto (-29), 3) := by decide +kernel
theorem dX8_standing_36 : decode cX8_standing 36 = .ok (.iload_n 1, 1) := by decide +kernel
theorem dX8_standing_37 : decode cX8_standing 37 = .ok (.ireturn, 1) := by decide +kernel
theorem dX8_tells_0 : decode cX8_tells 0 = .ok (.aload_n 0, 1) := by decide +kernel
theorem dX8_tells_1 : decode cX8_tells 1 = .ok (.iload_n 1, 1) := by decide +kernel
theorem dX8_tells_2 : decode cX8_tells 2 = .ok (.invokevirtual 90, 3) := by decide +kernel
theorem dX8_tells_5 : decode cX8_tells 5 = .ok (.ifCond .eq 13, 3) := by decide +kernel
theorem dX8_tells_8 : decode cX8_tells 8 = .ok (.iload_n 2, 1) := by decide +kernel
theorem dX8_tells_9 : decode cX8_tells 9 = .ok (.iconst 0, 1) := by decide +kernel
theorem dX8_tells_10 : decode cX8_tells 10 = .ok (.bipush 9, 2) := by decide +kernel
theorem dX8_tells_12 : decode cX8_tells 12 = .ok (.invokestatic 38, 3) := by decide +kernel
theorem dX8_tells_15 : decode cX8_tells 15 = .ok (.ifCond .ne 6, 3) := by decide +kernel
theorem dX8_tells_18 : decode cX8_tells 18 = .ok (.ldc 42, 2) := by decide +kernel
theorem dX8_tells_20 : decode cX8_tells 20 = .ok (.ireturn, 1) := by decide +kernel
theorem dX8_tells_21 : decode cX8_tells 21 = .ok (.aload_n 0, 1) := by decide +kernel
theorem dX8_tells_22 : decode cX8_tells 22 = .ok (.getfield 7, 3) := by decide +kernel
theorem dX8_tells_25 : decode cX8_tells 25 = .ok (.bipush 7, 2) := by decide +kernel
theorem dX8_tells_27 : decode cX8_tells 27 = .ok (.bipush 7, 2) := by decide +kernel
theorem dX8_tells_29 : decode cX8_tells 29 = .ok (.iload_n 1, 1) := by decide +kernel
theorem dX8_tells_30 : decode cX8_tells 30 = .ok (.imul, 1) := by decide +kernel
theorem dX8_tells_31 : decode cX8_tells 31 = .ok (.iadd, 1) := by decide +kernel
theorem dX8_tells_32 : decode cX8_tells 32 = .ok (.bipush 6, 2) := by decide +kernel
theorem dX8_tells_34 : decode cX8_tells 34 = .ok (.iadd, 1) := by decide +kernel
theorem dX8_tells_35 : decode cX8_tells 35 = .ok (.iload_n 2, 1) := by decide +kernel
theorem dX8_tells_36 : decode cX8_tells 36 = .ok (.iastore, 1) := by decide +kernel
theorem dX8_tells_37 : decode cX8_tells 37 = .ok (.aload_n 0, 1) := by decide +kernel
theorem dX8_tells_38 : decode cX8_tells 38 = .ok (.invokevirtual 93, 3) := by decide +kernel
theorem dX8_tells_41 : decode cX8_tells 41 = .ok (.ireturn, 1) := by decide +kernel
theorem dX8_tell_0 : decode cX8_tell 0 = .ok (.aload_n 0, 1) := by decide +kernel
theorem dX8_tell_1 : decode cX8_tell 1 = .ok (.invokevirtual 48, 3) := by decide +kernel
theorem dX8_tell_4 : decode cX8_tell 4 = .ok (.aload_n 0, 1) := by decide +kernel
theorem dX8_tell_5 : decode cX8_tell 5 = .ok (.aload_n 0, 1) := by decide +kernel
theorem dX8_tell_6 : decode cX8_tell 6 = .ok (.iload_n 1, 1) := by decide +kernel
theorem dX8_tell_7 : decode cX8_tell 7 = .ok (.iload_n 2, 1) := by decide +kernel
theorem dX8_tell_8 : decode cX8_tell 8 = .ok (.invokevirtual 97, 3) := by decide +kernel
theorem dX8_tell_11 : decode cX8_tell 11 = .ok (.invokevirtual 51, 3) := by decide +kernel
theorem dX8_tell_14 : decode cX8_tell 14 = .ok (.ireturn, 1) := by decide +kernel
theorem dX8_allTold_0 : decode cX8_allTold 0 = .ok (.iconst 0, 1) := by decide +kernel
theorem dX8_allTold_1 : decode cX8_allTold 1 = .ok (.istore_n 1, 1) := by decide +kernel
theorem dX8_allTold_2 : decode cX8_allTold 2 = .ok (.iconst 0, 1) := by decide +kernel
theorem dX8_allTold_3 : decode cX8_allTold 3 = .ok (.istore_n 2, 1) := by decide +kernel
theorem dX8_allTold_4 : decode cX8_allTold 4 = .ok (.iload_n 2, 1) := by decide +kernel
theorem dX8_allTold_5 : decode cX8_allTold 5 = .ok (.aload_n 0, 1) := by decide +kernel
theorem dX8_allTold_6 : decode cX8_allTold 6 = .ok (.getfield 7, 3) := by decide +kernel
theorem dX8_allTold_9 : decode cX8_allTold 9 = .ok (.iconst 0, 1) := by decide +kernel
theorem dX8_allTold_10 : decode cX8_allTold 10 = .ok (.iaload, 1) := by decide +kernel
theorem dX8_allTold_11 : decode cX8_allTold 11 = .ok (.if_icmp .ge 25, 3) := by decide +kernel
theorem dX8_allTold_14 : decode cX8_allTold 14 = .ok (.iload_n 1, 1) := by decide +kernel
theorem dX8_allTold_15 : decode cX8_allTold 15 = .ok (.aload_n 0, 1) := by decide +kernel
theorem dX8_allTold_16 : decode cX8_allTold 16 = .ok (.iload_n 2, 1) := by decide +kernel
theorem dX8_allTold_17 : decode cX8_allTold 17 = .ok (.invokevirtual 100, 3) := by decide +kernel
theorem dX8_allTold_20 : decode cX8_allTold 20 = .ok (.ifCond .eq 7, 3) := by decide +kernel
theorem dX8_allTold_23 : decode cX8_allTold 23 = .ok (.iconst 1, 1) := by decide +kernel
theorem dX8_allTold_24 : decode cX8_allTold 24 = .ok (.goto 4, 3) := by decide +kernel
theorem dX8_allTold_27 : decode cX8_allTold 27 = .ok (.iconst 0, 1) := by decide +kernel
theorem dX8_allTold_28 : decode cX8_allTold 28 = .ok (.iadd, 1) := by decide +kernel
theorem dX8_allTold_29 : decode cX8_allTold 29 = .ok (.istore_n 1, 1) := by decide +kernel
theorem dX8_allTold_30 : decode cX8_allTold 30 = .ok (.iinc 2 1, 3) := by decide +kernel
theorem dX8_allTold_33 : decode cX8_allTold 33 = .ok (.goto (-29), 3) := by decide +kernel
theorem dX8_allTold_36 : decode cX8_allTold 36 = .ok (.iload_n 1, 1) := by decide +kernel
theorem dX8_allTold_37 : decode cX8_allTold 37 = .ok (.ireturn, 1) := by decide +kernel
theorem dX8_untell_0 : decode cX8_untell 0 = .ok (.aload_n 0, 1) := by decide +kernel
theorem dX8_untell_1 : decode cX8_untell 1 = .ok (.invokevirtual 48, 3) := by decide +kernel
theorem dX8_untell_4 : decode cX8_untell 4 = .ok (.aload_n 0, 1) := by decide +kernel
theorem dX8_untell_5 : decode cX8_untell 5 = .ok (.invokevirtual 103, 3) := by decide +kernel
theorem dX8_untell_8 : decode cX8_untell 8 = .ok (.istore_n 1, 1) := by decide +kernel
theorem dX8_untell_9 : decode cX8_untell 9 = .ok (.iconst 0, 1) := by decide +kernel
theorem dX8_untell_10 : decode cX8_untell 10 = .ok (.istore_n 2, 1) := by decide +kernel
theorem dX8_untell_11 : decode cX8_untell 11 = .ok (.iload_n 2, 1) := by decide +kernel
theorem dX8_untell_12 : decode cX8_untell 12 = .ok (.aload_n 0, 1) := by decide +kernel
theorem dX8_untell_13 : decode cX8_untell 13 = .ok (.getfield 7, 3) := by decide +kernel
theorem dX8_untell_16 : decode cX8_untell 16 = .ok (.iconst 0, 1) := by decide +kernel
theorem dX8_untell_17 : decode cX8_untell 17 = .ok (.iaload, 1) := by decide +kernel
theorem dX8_untell_18 : decode cX8_untell 18 = .ok (.if_icmp .ge 25, 3) := by decide +kernel
theorem dX8_untell_21 : decode cX8_untell 21 = .ok (.aload_n 0, 1) := by decide +kernel
theorem dX8_untell_22 : decode cX8_untell 22 = .ok (.getfield 7, 3) := by decide +kernel
theorem dX8_untell_25 : decode cX8_untell 25 = .ok (.bipush 7, 2) := by decide +kernel
theorem dX8_untell_27 : decode cX8_untell 27 = .ok (.bipush 7, 2) := by decide +kernel
theorem dX8_untell_29 : decode cX8_untell 29 = .ok (.iload_n 2, 1) := by decide +kernel
theorem dX8_untell_30 : decode cX8_untell 30 = .ok (.imul, 1) := by decide +kernel
theorem dX8_untell_31 : decode cX8_untell 31 = .ok (.iadd, 1) := by decide +kernel
theorem dX8_untell_32 : decode cX8_untell 32 = .ok (.bipush 6, 2) := by decide +kernel
theorem dX8_untell_34 : decode cX8_untell 34 = .ok (.iadd, 1) := by decide +kernel
theorem dX8_untell_35 : decode cX8_untell 35 = .ok (.iconst (-1), 1) := by decide +kernel
theorem dX8_untell_36 : decode cX8_untell 36 = .ok (.iastore, 1) := by decide +kernel
theorem dX8_untell_37 : decode cX8_untell 37 = .ok (.iinc 2 1, 3) := by decide +kernel
theorem dX8_untell_40 : decode cX8_untell 40 = .ok (.goto (-29), 3) := by decide +kernel
theorem dX8_untell_43 : decode cX8_untell 43 = .ok (.aload_n 0, 1) := by decide +kernel
theorem dX8_untell_44 : decode cX8_untell 44 = .ok (.iload_n 1, 1) := by decide +kernel
theorem dX8_untell_45 : decode cX8_untell 45 = .ok (.invokevirtual 51, 3) := by decide +kernel
theorem dX8_untell_48 : decode cX8_untell 48 = .ok (.ireturn, 1) := by decide +kernel
theorem dX8_light_0 : decode cX8_light 0 = .ok (.aload_n 0, 1) := by decide +kernel
theorem dX8_light_1 : decode cX8_light 1 = .ok (.iload_n 1, 1) := by decide +kernel
theorem dX8_light_2 : decode cX8_light 2 = .ok (.iconst 1, 1) := by decide +kernel
theorem dX8_light_3 : decode cX8_light 3 = .ok (.invokevirtual 59, 3) := by decide +kernel
theorem dX8_light_6 : decode cX8_light 6 = .ok (.iload_n 2, 1) := by decide +kernel
theorem dX8_light_7 : decode cX8_light 7 = .ok (.isub, 1) := by decide +kernel
theorem dX8_light_8 : decode cX8_light 8 = .ok (.istore 4, 2) := by decide +kernel
theorem dX8_light_10 : decode cX8_light 10 = .ok (.iload 4, 2) := by decide +kernel
theorem dX8_light_12 : decode cX8_light 12 = .ok (.ifCond .ge 9, 3) := by decide +kernel
theorem dX8_light_15 : decode cX8_light 15 = .ok (.iload 4, 2) := by decide +kernel
theorem dX8_light_17 : decode cX8_light 17 = .ok (.ineg, 1) := by decide +kernel
theorem dX8_light_18 : decode cX8_light 18 = .ok (.goto 5, 3) := by decide +kernel
theorem dX8_light_21 : decode cX8_light 21 = .ok (.iload 4, 2) := by decide +kernel
theorem dX8_light_23 : decode cX8_light 23 = .ok (.istore 4, 2) := by decide +kernel
theorem dX8_light_25 : decode cX8_light 25 = .ok (.iload 4, 2) := by decide +kernel
theorem dX8_light_27 : decode cX8_light 27 = .ok (.bipush 12, 2) := by decide +kernel
theorem dX8_light_29 : decode cX8_light 29 = .ok (.if_icmp .le 11, 3) := by decide +kernel
theorem dX8_light_32 : decode cX8_light 32 = .ok (.bipush 24, 2) := by decide +kernel
theorem dX8_light_34 : decode cX8_light 34 = .ok (.iload 4, 2) := by decide +kernel
theorem dX8_light_36 : decode cX8_light 36 = .ok (.isub, 1) := by decide +kernel
theorem dX8_light_37 : decode cX8_light 37 = .ok (.goto 5, 3) := by decide +kernel
theorem dX8_light_40 : decode cX8_light 40 = .ok (.iload 4, 2) := by decide +kernel
theorem dX8_light_42 : decode cX8_light 42 = .ok (.istore 4, 2) := by decide +kernel
theorem dX8_light_44 : decode cX8_light 44 = .ok (.iload 4, 2) := by decide +kernel
theorem dX8_light_46 : decode cX8_light 46 = .ok (.iconst 4, 1) := by decide +kernel
theorem dX8_light_47 : decode cX8_light 47 = .ok (.if_icmp .le 7, 3) := by decide +kernel
theorem dX8_light_50 : decode cX8_light 50 = .ok (.iconst 0, 1) := by decide +kernel
theorem dX8_light_51 : decode cX8_light 51 = .ok (.goto 10, 3) := by decide +kernel
theorem dX8_light_54 : decode cX8_light 54 = .ok (.bipush 12, 2) := by decide +kernel
theorem dX8_light_56 : decode cX8_light 56 = .ok (.iconst 3, 1) := by decide +kernel
theorem dX8_light_57 : decode cX8_light 57 = .ok (.iload 4, 2) := by decide +kernel
theorem dX8_light_59 : decode cX8_light 59 = .ok (.imul, 1) := by decide +kernel
theorem dX8_light_60 : decode cX8_light 60 = .ok (.isub, 1) := by decide +kernel
theorem dX8_light_61 : decode cX8_light 61 = .ok (.istore 5, 2) := by decide +kernel
theorem dX8_light_63 : decode cX8_light 63 = .ok (.iload 5, 2) := by decide +kernel
theorem dX8_light_65 : decode cX8_light 65 = .ok (.bipush 9, 2) := by decide +kernel
theorem dX8_light_67 : decode cX8_light 67 = .ok (.iload_n 3, 1) := by decide +kernel
theorem dX8_light_68 : decode cX8_light 68 = .ok (.isub, 1) := by decide +kernel
theorem dX8_light_69 : decode cX8_light 69 = .ok (.imul, 1) := by decide +kernel
theorem dX8_light_70 : decode cX8_light 70 = .ok (.iconst 3, 1) := by decide +kernel
theorem dX8_light_71 : decode cX8_light 71 = .ok (.idiv, 1) := by decide +kernel
theorem dX8_light_72 : decode cX8_light 72 = .ok (.ireturn, 1) := by decide +kernel
theorem dX8_isWell_0 : decode cX8_isWell 0 = .ok (.iload_n 2, 1) := by decide +kernel
theorem dX8_isWell_1 : decode cX8_isWell 1 = .ok (.aload_n 0, 1) := by decide +kernel
theorem dX8_isWell_2 : decode cX8_isWell 2 = .ok (.iload_n 1, 1) := by decide +kernel
theorem dX8_isWell_3 : decode cX8_isWell 3 = .ok (.iconst 2, 1) := by decide +kernel
theorem dX8_isWell_4 : decode cX8_isWell 4 = .ok (.invokevirtual 59, 3) := by decide +kernel
theorem dX8_isWell_7 : decode cX8_isWell 7 = .ok (.isub, 1) := by decide +kernel
theorem dX8_isWell_8 : decode cX8_isWell 8 = .ok (.aload_n 0, 1) := by decide +kernel
theorem dX8_isWell_9 : decode cX8_isWell 9 = .ok (.getfield 7, 3) := by decide +kernel
theorem dX8_isWell_12 : decode cX8_isWell 12 = .ok (.bipush 6, 2) := by decide +kernel
theorem dX8_isWell_14 : decode cX8_isWell 14 = .ok (.iaload, 1) := by decide +kernel
theorem dX8_isWell_15 : decode cX8_isWell 15 = .ok (.ineg, 1) := by decide +kernel
theorem dX8_isWell_16 : decode cX8_isWell 16 = .ok (.aload_n 0, 1) := by decide +kernel
theorem dX8_isWell_17 : decode cX8_isWell 17 = .ok (.getfield 7, 3) := by decide +kernel
theorem dX8_isWell_20 : decode cX8_isWell 20 = .ok (.bipush 6, 2) := by decide +kernel
theorem dX8_isWell_22 : decode cX8_isWell 22 = .ok (.iaload, 1) := by decide +kernel
theorem dX8_isWell_23 : decode cX8_isWell 23 = .ok (.invokestatic 38, 3) := by decide +kernel
theorem dX8_isWell_26 : decode cX8_isWell 26 = .ok (.ireturn, 1) := by decide +kernel
theorem dX8_passes_0 : decode cX8_passes 0 = .ok (.iload_n 1, 1) := by decide +kernel
theorem dX8_passes_1 : decode cX8_passes 1 = .ok (.iconst 1, 1) := by decide +kernel
theorem dX8_passes_2 : decode cX8_passes 2 = .ok (.bipush 24, 2) := by decide +kernel
theorem dX8_passes_4 : decode cX8_passes 4 = .ok (.invokestatic 38, 3) := by decide +kernel
theorem dX8_passes_7 : decode cX8_passes 7 = .ok (.ifCond .ne 6, 3) := by decide +kernel
theorem dX8_passes_10 : decode cX8_passes 10 = .ok (.ldc 42, 2) := by decide +kernel
theorem dX8_passes_12 : decode cX8_passes 12 = .ok (.ireturn, 1) := by decide +kernel
theorem dX8_passes_13 : decode cX8_passes 13 = .ok (.aload_n 0, 1) := by decide +kernel
theorem dX8_passes_14 : decode cX8_passes 14 = .ok (.getfield 7, 3) := by decide +kernel
theorem dX8_passes_17 : decode cX8_passes 17 = .ok (.iconst 3, 1) := by decide +kernel
theorem dX8_passes_18 : decode cX8_passes 18 = .ok (.iaload, 1) := by decide +kernel
theorem dX8_passes_19 : decode cX8_passes 19 = .ok (.iload_n 1, 1) := by decide +kernel
theorem dX8_passes_20 : decode cX8_passes 20 = .ok (.iadd, 1) := by decide +kernel
theorem dX8_passes_21 : decode cX8_passes 21 = .ok (.sipush 20000, 3) := by decide +kernel
theorem dX8_passes_24 : decode cX8_passes 24 = .ok (.if_icmp .le 6, 3) := by decide +kernel
theorem dX8_passes_27 : decode cX8_passes 27 = .ok (.ldc 47, 2) := by decide +kernel
theorem dX8_passes_29 : decode cX8_passes 29 = .ok (.ireturn, 1) := by decide +kernel
theorem dX8_passes_30 : decode cX8_passes 30 = .ok (.iconst 0, 1) := by decide +kernel
theorem dX8_passes_31 : decode cX8_passes 31 = .ok (.istore_n 2, 1) := by decide +kernel
theorem dX8_passes_32 : decode cX8_passes 32 = .ok (.iconst 0, 1) := by decide +kernel
theorem dX8_passes_33 : decode cX8_passes 33 = .ok (.istore_n 3, 1) := by decide +kernel
theorem dX8_passes_34 : decode cX8_passes 34 = .ok (.iload_n 3, 1) := by decide +kernel
theorem dX8_passes_35 : decode cX8_passes 35 = .ok (.iload_n 1, 1) := by decide +kernel
theorem dX8_passes_36 : decode cX8_passes 36 = .ok (.if_icmp .ge 140, 3) := by decide +kernel
theorem dX8_passes_39 : decode cX8_passes 39 = .ok (.iconst 0, 1) := by decide +kernel
theorem dX8_passes_40 : decode cX8_passes 40 = .ok (.istore 4, 2) := by decide +kernel
theorem dX8_passes_42 : decode cX8_passes 42 = .ok (.iload 4, 2) := by decide +kernel
theorem dX8_passes_44 : decode cX8_passes 44 = .ok (.aload_n 0, 1) := by decide +kernel
theorem dX8_passes_45 : decode cX8_passes 45 = .ok (.getfield 7, 3) := by decide +kernel
theorem dX8_passes_48 : decode cX8_passes 48 = .ok (.iconst 0, 1) := by decide +kernel
theorem dX8_passes_49 : decode cX8_passes 49 = .ok (.iaload, 1) := by decide +kernel
theorem dX8_passes_50 : decode cX8_passes 50 = .ok (.if_icmp .ge 93, 3) := by decide +kernel
theorem dX8_passes_53 : decode cX8_passes 53 = .ok (.aload_n 0, 1) := by decide +kernel
theorem dX8_passes_54 : decode cX8_passes 54 = .ok (.iload 4, 2) := by decide +kernel
theorem dX8_passes_56 : decode cX8_passes 56 = .ok (.aload_n 0, 1) := by decide +kernel
theorem dX8_passes_57 : decode cX8_passes 57 = .ok (.getfield 7, 3) := by decide +kernel
theorem dX8_passes_60 : decode cX8_passes 60 = .ok (.iconst 2, 1) := by decide +kernel
theorem dX8_passes_61 : decode cX8_passes 61 = .ok (.iaload, 1) := by decide +kernel
theorem dX8_passes_62 : decode cX8_passes 62 = .ok (.aload_n 0, 1) := by decide +kernel
theorem dX8_passes_63 : decode cX8_passes 63 = .ok (.iload 4, 2) := by decide +kernel
theorem dX8_passes_65 : decode cX8_passes 65 = .ok (.iconst 0, 1) := by decide +kernel
theorem dX8_passes_66 : decode cX8_passes 66 = .ok (.invokevirtual 59, 3) := by decide +kernel
theorem dX8_passes_69 : decode cX8_passes 69 = .ok (.invokevirtual 106, 3) := by decide +kernel
theorem dX8_passes_72 : decode cX8_passes 72 = .ok (.istore 5, 2) := by decide +kernel
theorem dX8_passes_74 : decode cX8_passes 74 = .ok (.aload_n 0, 1) := by decide +kernel
theorem dX8_passes_75 : decode cX8_passes 75 = .ok (.iload 4, 2) := by decide +kernel
theorem dX8_passes_77 : decode cX8_passes 77 = .ok (.iload 5, 2) := by decide +kernel
theorem dX8_passes_79 : decode cX8_passes 79 = .ok (.invokevirtual 110, 3) := by decide +kernel
theorem dX8_passes_82 : decode cX8_passes 82 = .ok (.ifCond .eq 7, 3) := by decide +kernel
theorem dX8_passes_85 : decode cX8_passes 85 = .ok (.iconst 1, 1) := by decide +kernel
theorem dX8_passes_86 : decode cX8_passes 86 = .ok (.goto 4, 3) := by decide +kernel
theorem dX8_passes_89 : decode cX8_passes 89 = .ok (.iconst 0, 1) := by decide +kernel
theorem dX8_passes_90 : decode cX8_passes 90 = .ok (.istore 6, 2) := by decide +kernel
theorem dX8_passes_92 : decode cX8_passes 92 = .ok (.aload_n 0, 1) := by decide +kernel
theorem dX8_passes_93 : decode cX8_passes 93 = .ok (.getfield 7, 3) := by decide +kernel
theorem dX8_passes_96 : decode cX8_passes 96 = .ok (.bipush 7, 2) := by decide +kernel
theorem dX8_passes_98 : decode cX8_passes 98 = .ok (.bipush 7, 2) := by decide +kernel
theorem dX8_passes_100 : decode cX8_passes 100 = .ok (.iload 4, 2) := by decide +kernel
theorem dX8_passes_102 : decode cX8_passes 102 = .ok (.imul, 1) := by decide +kernel
theorem dX8_passes_103 : decode cX8_passes 103 = .ok (.iadd, 1) := by decide +kernel
theorem dX8_passes_104 : decode cX8_passes 104 = .ok (.iconst 4, 1) := by decide +kernel
theorem dX8_passes_105 : decode cX8_passes 105 = .ok (.iadd, 1) := by decide +kernel
theorem dX8_passes_106 : decode cX8_passes 106 = .ok (.dup2, 1) := by decide +kernel
theorem dX8_passes_107 : decode cX8_passes 107 = .ok (.iaload, 1) := by decide +kernel
theorem dX8_passes_108 : decode cX8_passes 108 = .ok (.iload 5, 2) := by decide +kernel
theorem dX8_passes_110 : decode cX8_passes 110 = .ok (.iadd, 1) := by decide +kernel
theorem dX8_passes_111 : decode cX8_passes 111 = .ok (.iastore, 1) := by decide +kernel
theorem dX8_passes_112 : decode cX8_passes 112 = .ok (.aload_n 0, 1) := by decide +kernel
theorem dX8_passes_113 : decode cX8_passes 113 = .ok (.getfield 7, 3) := by decide +kernel
theorem dX8_passes_116 : decode cX8_passes 116 = .ok (.bipush 7, 2) := by decide +kernel
theorem dX8_passes_118 : decode cX8_passes 118 = .ok (.bipush 7, 2) := by decide +kernel
theorem dX8_passes_120 : decode cX8_passes 120 = .ok (.iload 4, 2) := by decide +kernel
theorem dX8_passes_122 : decode cX8_passes 122 = .ok (.imul, 1) := by decide +kernel
theorem dX8_passes_123 : decode cX8_passes 123 = .ok (.iadd, 1) := by decide +kernel
theorem dX8_passes_124 : decode cX8_passes 124 = .ok (.iconst 5, 1) := by decide +kernel
theorem dX8_passes_125 : decode cX8_passes 125 = .ok (.iadd, 1) := by decide +kernel
theorem dX8_passes_126 : decode cX8_passes 126 = .ok (.dup2, 1) := by decide +kernel
theorem dX8_passes_127 : decode cX8_passes 127 = .ok (.iaload, 1) := by decide +kernel
theorem dX8_passes_128 : decode cX8_passes 128 = .ok (.iload 6, 2) := by decide +kernel
theorem dX8_passes_130 : decode cX8_passes 130 = .ok (.iadd, 1) := by decide +kernel
theorem dX8_passes_131 : decode cX8_passes 131 = .ok (.iastore, 1) := by decide +kernel
theorem dX8_passes_132 : decode cX8_passes 132 = .ok (.iload_n 2, 1) := by decide +kernel
theorem dX8_passes_133 : decode cX8_passes 133 = .ok (.iload 6, 2) := by decide +kernel
theorem dX8_passes_135 : decode cX8_passes 135 = .ok (.iadd, 1) := by decide +kernel
theorem dX8_passes_136 : decode cX8_passes 136 = .ok (.istore_n 2, 1) := by decide +kernel
theorem dX8_passes_137 : decode cX8_passes 137 = .ok (.iinc 4 1, 3) := by decide +kernel
theorem dX8_passes_140 : decode cX8_passes 140 = .ok (.goto (-98), 3) := by decide +kernel
theorem dX8_passes_143 : decode cX8_passes 143 = .ok (.aload_n 0, 1) := by decide +kernel
theorem dX8_passes_144 : decode cX8_passes 144 = .ok (.getfield 7, 3) := by decide +kernel
theorem dX8_passes_147 : decode cX8_passes 147 = .ok (.iconst 2, 1) := by decide +kernel
theorem dX8_passes_148 : decode cX8_passes 148 = .ok (.aload_n 0, 1) := by decide +kernel
theorem dX8_passes_149 : decode cX8_passes 149 = .ok (.getfield 7, 3) := by decide +kernel
theorem dX8_passes_152 : decode cX8_passes 152 = .ok (.iconst 2, 1) := by decide +kernel
theorem dX8_passes_153 : decode cX8_passes 153 = .ok (.iaload, 1) := by decide +kernel
theorem dX8_passes_154 : decode cX8_passes 154 = .ok (.iconst 1, 1) := by decide +kernel
theorem dX8_passes_155 : decode cX8_passes 155 = .ok (.iadd, 1) := by decide +kernel
theorem dX8_passes_156 : decode cX8_passes 156 = .ok (.bipush 24, 2) := by decide +kernel
theorem dX8_passes_158 : decode cX8_passes 158 = .ok (.irem, 1) := by decide +kernel
theorem dX8_passes_159 : decode cX8_passes 159 = .ok (.iastore, 1) := by decide +kernel
theorem dX8_passes_160 : decode cX8_passes 160 = .ok (.aload_n 0, 1) := by decide +kernel
theorem dX8_passes_161 : decode cX8_passes 161 = .ok (.getfield 7, 3) := by decide +kernel
theorem dX8_passes_164 : decode cX8_passes 164 = .ok (.iconst 3, 1) := by decide +kernel
theorem dX8_passes_165 : decode cX8_passes 165 = .ok (.dup2, 1) := by decide +kernel
theorem dX8_passes_166 : decode cX8_passes 166 = .ok (.iaload, 1) := by decide +kernel
theorem dX8_passes_167 : decode cX8_passes 167 = .ok (.iconst 1, 1) := by decide +kernel
theorem dX8_passes_168 : decode cX8_passes 168 = .ok (.iadd, 1) := by decide +kernel
theorem dX8_passes_169 : decode cX8_passes 169 = .ok (.iastore, 1) := by decide +kernel
theorem dX8_passes_170 : decode cX8_passes 170 = .ok (.iinc 3 1, 3) := by decide +kernel
theorem dX8_passes_173 : decode cX8_passes 173 = .ok (.goto (-139), 3) := by decide +kernel
theorem dX8_passes_176 : decode cX8_passes 176 = .ok (.iload_n 2, 1) := by decide +kernel
theorem dX8_passes_177 : decode cX8_passes 177 = .ok (.ireturn, 1) := by decide +kernel
theorem dX8_pass_0 : decode cX8_pass 0 = .ok (.aload_n 0, 1) := by decide +kernel
theorem dX8_pass_1 : decode cX8_pass 1 = .ok (.invokevirtual 48, 3) := by decide +kernel
theorem dX8_pass_4 : decode cX8_pass 4 = .ok (.aload_n 0, 1) := by decide +kernel
theorem dX8_pass_5 : decode cX8_pass 5 = .ok (.aload_n 0, 1) := by decide +kernel
theorem dX8_pass_6 : decode cX8_pass 6 = .ok (.iload_n 1, 1) := by decide +kernel
theorem dX8_pass_7 : decode cX8_pass 7 = .ok (.invokevirtual 114, 3) := by decide +kernel
theorem dX8_pass_10 : decode cX8_pass 10 = .ok (.invokevirtual 51, 3) := by decide +kernel
theorem dX8_pass_13 : decode cX8_pass 13 = .ok (.ireturn, 1) := by decide +kernel
theorem dX8_set_0 : decode cX8_set 0 = .ok (.iload_n 1, 1) := by decide +kernel
theorem dX8_set_1 : decode cX8_set 1 = .ok (.iconst 0, 1) := by decide +kernel
theorem dX8_set_2 : decode cX8_set 2 = .ok (.iconst 1, 1) := by decide +kernel
theorem dX8_set_3 : decode cX8_set 3 = .ok (.invokestatic 38, 3) := by decide +kernel
theorem dX8_set_6 : decode cX8_set 6 = .ok (.ifCond .eq 30, 3) := by decide +kernel
theorem dX8_set_9 : decode cX8_set 9 = .ok (.iload_n 2, 1) := by decide +kernel
theorem dX8_set_10 : decode cX8_set 10 = .ok (.iload_n 1, 1) := by decide +kernel
theorem dX8_set_11 : decode cX8_set 11 = .ok (.ifCond .ne 7, 3) := by decide +kernel
theorem dX8_set_14 : decode cX8_set 14 = .ok (.iconst 1, 1) := by decide +kernel
theorem dX8_set_15 : decode cX8_set 15 = .ok (.goto 4, 3) := by decide +kernel
theorem dX8_set_18 : decode cX8_set 18 = .ok (.iconst 0, 1) := by decide +kernel
theorem dX8_set_19 : decode cX8_set 19 = .ok (.iload_n 1, 1) := by decide +kernel
theorem dX8_set_20 : decode cX8_set 20 = .ok (.ifCond .ne 8, 3) := by decide +kernel
theorem dX8_set_23 : decode cX8_set 23 = .ok (.bipush 9, 2) := by decide +kernel
theorem dX8_set_25 : decode cX8_set 25 = .ok (.goto 5, 3) := by decide +kernel
theorem dX8_set_28 : decode cX8_set 28 = .ok (.bipush 36, 2) := by decide +kernel
theorem dX8_set_30 : decode cX8_set 30 = .ok (.invokestatic 38, 3) := by decide +kernel
theorem dX8_set_33 : decode cX8_set 33 = .ok (.ifCond .ne 6, 3) := by decide +kernel
theorem dX8_set_36 : decode cX8_set 36 = .ok (.ldc 42, 2) := by decide +kernel
theorem dX8_set_38 : decode cX8_set 38 = .ok (.ireturn, 1) := by decide +kernel
theorem dX8_set_39 : decode cX8_set 39 = .ok (.aload_n 0, 1) := by decide +kernel
theorem dX8_set_40 : decode cX8_set 40 = .ok (.invokevirtual 48, 3) := by decide +kernel
theorem dX8_set_43 : decode cX8_set 43 = .ok (.aload_n 0, 1) := by decide +kernel
theorem dX8_set_44 : decode cX8_set 44 = .ok (.getfield 7, 3) := by decide +kernel
theorem dX8_set_47 : decode cX8_set 47 = .ok (.iconst 5, 1) := by decide +kernel
theorem dX8_set_48 : decode cX8_set 48 = .ok (.iload_n 1, 1) := by decide +kernel
theorem dX8_set_49 : decode cX8_set 49 = .ok (.iadd, 1) := by decide +kernel
theorem dX8_set_50 : decode cX8_set 50 = .ok (.iaload, 1) := by decide +kernel
theorem dX8_set_51 : decode cX8_set 51 = .ok (.istore_n 3, 1) := by decide +kernel
theorem dX8_set_52 : decode cX8_set 52 = .ok (.aload_n 0, 1) := by decide +kernel
theorem dX8_set_53 : decode cX8_set 53 = .ok (.getfield 7, 3) := by decide +kernel
theorem dX8_set_56 : decode cX8_set 56 = .ok (.iconst 5, 1) := by decide +kernel
theorem dX8_set_57 : decode cX8_set 57 = .ok (.iload_n 1, 1) := by decide +kernel
theorem dX8_set_58 : decode cX8_set 58 = .ok (.iadd, 1) := by decide +kernel
theorem dX8_set_59 : decode cX8_set 59 = .ok (.iload_n 2, 1) := by decide +kernel
theorem dX8_set_60 : decode cX8_set 60 = .ok (.iastore, 1) := by decide +kernel
theorem dX8_set_61 : decode cX8_set 61 = .ok (.aload_n 0, 1) := by decide +kernel
theorem dX8_set_62 : decode cX8_set 62 = .ok (.iload_n 3, 1) := by decide +kernel
theorem dX8_set_63 : decode cX8_set 63 = .ok (.invokevirtual 51, 3) := by decide +kernel
theorem dX8_set_66 : decode cX8_set 66 = .ok (.ireturn, 1) := by decide +kernel
theorem dX8_beginOf_0 : decode cX8_beginOf 0 = .ok (.iload_n 1, 1) := by decide +kernel
theorem dX8_beginOf_1 : decode cX8_beginOf 1 = .ok (.istore_n 2, 1) := by decide +kernel
theorem dX8_beginOf_2 : decode cX8_beginOf 2 = .ok (.iload_n 2, 1) := by decide +kernel
theorem dX8_beginOf_3 : decode cX8_beginOf 3 = .ok (.ifCond .le 20, 3) := by decide +kernel
theorem dX8_beginOf_6 : decode cX8_beginOf 6 = .ok (.aload_n 0, 1) := by decide +kernel
theorem dX8_beginOf_7 : decode cX8_beginOf 7 = .ok (.iload_n 2, 1) := by decide +kernel
theorem dX8_beginOf_8 : decode cX8_beginOf 8 = .ok (.iconst 1, 1) := by decide +kernel
theorem dX8_beginOf_9 : decode cX8_beginOf 9 = .ok (.isub, 1) := by decide +kernel
theorem dX8_beginOf_10 : decode cX8_beginOf 10 = .ok (.iconst 3, 1) := by decide +kernel
theorem dX8_beginOf_11 : decode cX8_beginOf 11 = .ok (.invokevirtual 59, 3) := by decide +kernel
theorem dX8_beginOf_14 : decode cX8_beginOf 14 = .ok (.ifCond .le 9, 3) := by decide +kernel
theorem dX8_beginOf_17 : decode cX8_beginOf 17 = .ok (.iinc 2 (-1), 3) := by decide +kernel
theorem dX8_beginOf_20 : decode cX8_beginOf 20 = .ok (.goto (-18), 3) := by decide +kernel
theorem dX8_beginOf_23 : decode cX8_beginOf 23 = .ok (.iload_n 2, 1) := by decide +kernel
theorem dX8_beginOf_24 : decode cX8_beginOf 24 = .ok (.ireturn, 1) := by decide +kernel
theorem dX8_groupOf_0 : decode cX8_groupOf 0 = .ok (.iconst 2, 1) := by decide +kernel
theorem dX8_groupOf_1 : decode cX8_groupOf 1 = .ok (.aload_n 0, 1) := by decide +kernel
theorem dX8_groupOf_2 : decode cX8_groupOf 2 = .ok (.iload_n 1, 1) := by decide +kernel
theorem dX8_groupOf_3 : decode cX8_groupOf 3 = .ok (.invokevirtual 66, 3) := by decide +kernel
theorem dX8_groupOf_6 : decode cX8_groupOf 6 = .ok (.ishl, 1) := by decide +kernel
theorem dX8_groupOf_7 : decode cX8_groupOf 7 = .ok (.iconst 1, 1) := by decide +kernel
theorem dX8_groupOf_8 : decode cX8_groupOf 8 = .ok (.aload_n 0, 1) := by decide +kernel
theorem dX8_groupOf_9 : decode cX8_groupOf 9 = .ok (.iload_n 1, 1) := by decide +kernel
theorem dX8_groupOf_10 : decode cX8_groupOf 10 = .ok (.invokevirtual 117, 3) := by decide +kernel
theorem dX8_groupOf_13 : decode cX8_groupOf 13 = .ok (.ishl, 1) := by decide +kernel
theorem dX8_groupOf_14 : decode cX8_groupOf 14 = .ok (.isub, 1) := by decide +kernel
theorem dX8_groupOf_15 : decode cX8_groupOf 15 = .ok (.ireturn, 1) := by decide +kernel
theorem dX8_shadeOf_0 : decode cX8_shadeOf 0 = .ok (.aload_n 0, 1) := by decide +kernel
theorem dX8_shadeOf_1 : decode cX8_shadeOf 1 = .ok (.iload_n 1, 1) := by decide +kernel
theorem dX8_shadeOf_2 : decode cX8_shadeOf 2 = .ok (.invokevirtual 90, 3) := by decide +kernel
theorem dX8_shadeOf_5 : decode cX8_shadeOf 5 = .ok (.ifCond .eq 13, 3) := by decide +kernel
theorem dX8_shadeOf_8 : decode cX8_shadeOf 8 = .ok (.iload_n 2, 1) := by decide +kernel
theorem dX8_shadeOf_9 : decode cX8_shadeOf 9 = .ok (.iconst 0, 1) := by decide +kernel
theorem dX8_shadeOf_10 : decode cX8_shadeOf 10 = .ok (.bipush 9, 2) := by decide +kernel
theorem dX8_shadeOf_12 : decode cX8_shadeOf 12 = .ok (.invokestatic 38, 3) := by decide +kernel
theorem dX8_shadeOf_15 : decode cX8_shadeOf 15 = .ok (.ifCond .ne 6, 3) := by decide +kernel
theorem dX8_shadeOf_18 : decode cX8_shadeOf 18 = .ok (.ldc 42, 2) := by decide +kernel
theorem dX8_shadeOf_20 : decode cX8_shadeOf 20 = .ok (.ireturn, 1) := by decide +kernel
theorem dX8_shadeOf_21 : decode cX8_shadeOf 21 = .ok (.iload_n 2, 1) := by decide +kernel
theorem dX8_shadeOf_22 : decode cX8_shadeOf 22 = .ok (.tableswitch 131 4 9 #[38, 44, 62, 62, 71, 92], 38) := by decide +kernel
theorem dX8_shadeOf_60 : decode cX8_shadeOf 60 = .ok (.aload_n 0, 1) := by decide +kernel
theorem dX8_shadeOf_61 : decode cX8_shadeOf 61 = .ok (.iload_n 1, 1) := by decide +kernel
theorem dX8_shadeOf_62 : decode cX8_shadeOf 62 = .ok (.invokevirtual 120, 3) := by decide +kernel
theorem dX8_shadeOf_65 : decode cX8_shadeOf 65 = .ok (.ireturn, 1) := by decide +kernel
theorem dX8_shadeOf_66 : decode cX8_shadeOf 66 = .ok (.aload_n 0, 1) := by decide +kernel
theorem dX8_shadeOf_67 : decode cX8_shadeOf 67 = .ok (.iload_n 1, 1) := by decide +kernel
theorem dX8_shadeOf_68 : decode cX8_shadeOf 68 = .ok (.aload_n 0, 1) := by decide +kernel
theorem dX8_shadeOf_69 : decode cX8_shadeOf 69 = .ok (.getfield 7, 3) := by decide +kernel
theorem dX8_shadeOf_72 : decode cX8_shadeOf 72 = .ok (.iconst 2, 1) := by decide +kernel
theorem dX8_shadeOf_73 : decode cX8_shadeOf 73 = .ok (.iaload, 1) := by decide +kernel
theorem dX8_shadeOf_74 : decode cX8_shadeOf 74 = .ok (.aload_n 0, 1) := by decide +kernel
theorem dX8_shadeOf_75 : decode cX8_shadeOf 75 = .ok (.iload_n 1, 1) := by decide +kernel
theorem dX8_shadeOf_76 : decode cX8_shadeOf 76 = .ok (.iconst 0, 1) := by decide +kernel
theorem dX8_shadeOf_77 : decode cX8_shadeOf 77 = .ok (.invokevirtual 59, 3) := by decide +kernel
theorem dX8_shadeOf_80 : decode cX8_shadeOf 80 = .ok (.invokevirtual 106, 3) := by decide +kernel
theorem dX8_shadeOf_83 : decode cX8_shadeOf 83 = .ok (.ireturn, 1) := by decide +kernel
theorem dX8_shadeOf_84 : decode cX8_shadeOf 84 = .ok (.aload_n 0, 1) := by decide +kernel
theorem dX8_shadeOf_85 : decode cX8_shadeOf 85 = .ok (.iload_n 1, 1) := by decide +kernel
theorem dX8_shadeOf_86 : decode cX8_shadeOf 86 = .ok (.iload_n 2, 1) := by decide +kernel
theorem dX8_shadeOf_87 : decode cX8_shadeOf 87 = .ok (.iconst 2, 1) := by decide +kernel
theorem dX8_shadeOf_88 : decode cX8_shadeOf 88 = .ok (.isub, 1) := by decide +kernel
theorem dX8_shadeOf_89 : decode cX8_shadeOf 89 = .ok (.invokevirtual 59, 3) := by decide +kernel
theorem dX8_shadeOf_92 : decode cX8_shadeOf 92 = .ok (.ireturn, 1) := by decide +kernel
theorem dX8_shadeOf_93 : decode cX8_shadeOf 93 = .ok (.aload_n 0, 1) := by decide +kernel
theorem dX8_shadeOf_94 : decode cX8_shadeOf 94 = .ok (.iload_n 1, 1) := by decide +kernel
theorem dX8_shadeOf_95 : decode cX8_shadeOf 95 = .ok (.invokevirtual 100, 3) := by decide +kernel
theorem dX8_shadeOf_98 : decode cX8_shadeOf 98 = .ok (.ifCond .eq 13, 3) := by decide +kernel
theorem dX8_shadeOf_101 : decode cX8_shadeOf 101 = .ok (.aload_n 0, 1) := by decide +kernel
theorem dX8_shadeOf_102 : decode cX8_shadeOf 102 = .ok (.iload_n 1, 1) := by decide +kernel
theorem dX8_shadeOf_103 : decode cX8_shadeOf 103 = .ok (.bipush 6, 2) := by decide +kernel
theorem dX8_shadeOf_105 : decode cX8_shadeOf 105 = .ok (.invokevirtual 59, 3) := by decide +kernel
theorem dX8_shadeOf_108 : decode cX8_shadeOf 108 = .ok (.goto 5, 3) := by decide +kernel
theorem dX8_shadeOf_111 : decode cX8_shadeOf 111 = .ok (.ldc 123, 2) := by decide +kernel
theorem dX8_shadeOf_113 : decode cX8_shadeOf 113 = .ok (.ireturn, 1) := by decide +kernel
theorem dX8_shadeOf_114 : decode cX8_shadeOf 114 = .ok (.aload_n 0, 1) := by decide +kernel
theorem dX8_shadeOf_115 : decode cX8_shadeOf 115 = .ok (.iload_n 1, 1) := by decide +kernel
theorem dX8_shadeOf_116 : decode cX8_shadeOf 116 = .ok (.invokevirtual 100, 3) := by decide +kernel
theorem dX8_shadeOf_119 : decode cX8_shadeOf 119 = .ok (.ifCond .ne 8, 3) := by decide +kernel
theorem dX8_shadeOf_122 : decode cX8_shadeOf 122 = .ok (.ldc 123, 2) := by decide +kernel
theorem dX8_shadeOf_124 : decode cX8_shadeOf 124 = .ok (.goto 28, 3) := by decide +kernel
theorem dX8_shadeOf_127 : decode cX8_shadeOf 127 = .ok (.aload_n 0, 1) := by decide +kernel
theorem dX8_shadeOf_128 : decode cX8_shadeOf 128 = .ok (.iload_n 1, 1) := by decide +kernel
theorem dX8_shadeOf_129 : decode cX8_shadeOf 129 = .ok (.invokevirtual 87, 3) := by decide +kernel
theorem dX8_shadeOf_132 : decode cX8_shadeOf 132 = .ok (.ifCond .eq 7, 3) := by decide +kernel
theorem dX8_shadeOf_135 : decode cX8_shadeOf 135 = .ok (.iconst 1, 1) := by decide +kernel
theorem dX8_shadeOf_136 : decode cX8_shadeOf 136 = .ok (.goto 16, 3) := by decide +kernel
theorem dX8_shadeOf_139 : decode cX8_shadeOf 139 = .ok (.aload_n 0, 1) := by decide +kernel
theorem dX8_shadeOf_140 : decode cX8_shadeOf 140 = .ok (.iload_n 1, 1) := by decide +kernel
theorem dX8_shadeOf_141 : decode cX8_shadeOf 141 = .ok (.invokevirtual 124, 3) := by decide +kernel
theorem dX8_shadeOf_144 : decode cX8_shadeOf 144 = .ok (.ifCond .eq 7, 3) := by decide +kernel
theorem dX8_shadeOf_147 : decode cX8_shadeOf 147 = .ok (.iconst 2, 1) := by decide +kernel
theorem dX8_shadeOf_148 : decode cX8_shadeOf 148 = .ok (.goto 4, 3) := by decide +kernel
theorem dX8_shadeOf_151 : decode cX8_shadeOf 151 = .ok (.iconst 0, 1) := by decide +kernel
theorem dX8_shadeOf_152 : decode cX8_shadeOf 152 = .ok (.ireturn, 1) := by decide +kernel
theorem dX8_shadeOf_153 : decode cX8_shadeOf 153 = .ok (.aload_n 0, 1) := by decide +kernel
theorem dX8_shadeOf_154 : decode cX8_shadeOf 154 = .ok (.iload_n 1, 1) := by decide +kernel
theorem dX8_shadeOf_155 : decode cX8_shadeOf 155 = .ok (.iload_n 2, 1) := by decide +kernel
theorem dX8_shadeOf_156 : decode cX8_shadeOf 156 = .ok (.invokevirtual 59, 3) := by decide +kernel
theorem dX8_shadeOf_159 : decode cX8_shadeOf 159 = .ok (.ireturn, 1) := by decide +kernel
theorem dX8_stringOf_0 : decode cX8_stringOf 0 = .ok (.aload_n 0, 1) := by decide +kernel
theorem dX8_stringOf_1 : decode cX8_stringOf 1 = .ok (.iload_n 1, 1) := by decide +kernel
theorem dX8_stringOf_2 : decode cX8_stringOf 2 = .ok (.invokevirtual 73, 3) := by decide +kernel
theorem dX8_stringOf_5 : decode cX8_stringOf 5 = .ok (.ifCond .eq 12, 3) := by decide +kernel
theorem dX8_stringOf_8 : decode cX8_stringOf 8 = .ok (.iload_n 2, 1) := by decide +kernel
theorem dX8_stringOf_9 : decode cX8_stringOf 9 = .ok (.iconst 0, 1) := by decide +kernel
theorem dX8_stringOf_10 : decode cX8_stringOf 10 = .ok (.iconst 3, 1) := by decide +kernel
theorem dX8_stringOf_11 : decode cX8_stringOf 11 = .ok (.invokestatic 38, 3) := by decide +kernel
theorem dX8_stringOf_14 : decode cX8_stringOf 14 = .ok (.ifCond .ne 6, 3) := by decide +kernel
theorem dX8_stringOf_17 : decode cX8_stringOf 17 = .ok (.ldc 42, 2) := by decide +kernel
theorem dX8_stringOf_19 : decode cX8_stringOf 19 = .ok (.ireturn, 1) := by decide +kernel
theorem dX8_stringOf_20 : decode cX8_stringOf 20 = .ok (.aload_n 0, 1) := by decide +kernel
theorem dX8_stringOf_21 : decode cX8_stringOf 21 = .ok (.iload_n 1, 1) := by decide +kernel
theorem dX8_stringOf_22 : decode cX8_stringOf 22 = .ok (.iload_n 2, 1) := by decide +kernel
theorem dX8_stringOf_23 : decode cX8_stringOf 23 = .ok (.invokevirtual 63, 3) := by decide +kernel
theorem dX8_stringOf_26 : decode cX8_stringOf 26 = .ok (.iload_n 2, 1) := by decide +kernel
theorem dX8_stringOf_27 : decode cX8_stringOf 27 = .ok (.iconst 2, 1) := by decide +kernel
theorem dX8_stringOf_28 : decode cX8_stringOf 28 = .ok (.if_icmp .ne 8, 3) := by decide +kernel
theorem dX8_stringOf_31 : decode cX8_stringOf 31 = .ok (.ldc 127, 2) := by decide +kernel
theorem dX8_stringOf_33 : decode cX8_stringOf 33 = .ok (.goto 4, 3) := by decide +kernel
theorem dX8_stringOf_36 : decode cX8_stringOf 36 = .ok (.iconst 0, 1) := by decide +kernel
theorem dX8_stringOf_37 : decode cX8_stringOf 37 = .ok (.iadd, 1) := by decide +kernel
theorem dX8_stringOf_38 : decode cX8_stringOf 38 = .ok (.ireturn, 1) := by decide +kernel
theorem dX8_groupAt_0 : decode cX8_groupAt 0 = .ok (.iload_n 1, 1) := by decide +kernel
theorem dX8_groupAt_1 : decode cX8_groupAt 1 = .ok (.ifCond .ge 6, 3) := by decide +kernel
theorem dX8_groupAt_4 : decode cX8_groupAt 4 = .ok (.ldc 42, 2) := by decide +kernel
theorem dX8_groupAt_6 : decode cX8_groupAt 6 = .ok (.ireturn, 1) := by decide +kernel
theorem dX8_groupAt_7 : decode cX8_groupAt 7 = .ok (.iload_n 1, 1) := by decide +kernel
theorem dX8_groupAt_8 : decode cX8_groupAt 8 = .ok (.istore_n 2, 1) := by decide +kernel
theorem dX8_groupAt_9 : decode cX8_groupAt 9 = .ok (.iconst 0, 1) := by decide +kernel
theorem dX8_groupAt_10 : decode cX8_groupAt 10 = .ok (.istore_n 3, 1) := by decide +kernel
theorem dX8_groupAt_11 : decode cX8_groupAt 11 = .ok (.iload_n 3, 1) := by decide +kernel
theorem dX8_groupAt_12 : decode cX8_groupAt 12 = .ok (.aload_n 0, 1) := by decide +kernel
theorem dX8_groupAt_13 : decode cX8_groupAt 13 = .ok (.getfield 7, 3) := by decide +kernel
theorem dX8_groupAt_16 : decode cX8_groupAt 16 = .ok (.iconst 0, 1) := by decide +kernel
theorem dX8_groupAt_17 : decode cX8_groupAt 17 = .ok (.iaload, 1) := by decide +kernel
theorem dX8_groupAt_18 : decode cX8_groupAt 18 = .ok (.if_icmp .ge 27, 3) := by decide +kernel
theorem dX8_groupAt_21 : decode cX8_groupAt 21 = .ok (.iload_n 2, 1) := by decide +kernel
theorem dX8_groupAt_22 : decode cX8_groupAt 22 = .ok (.ifCond .ne 9, 3) := by decide +kernel
theorem dX8_groupAt_25 : decode cX8_groupAt 25 = .ok (.aload_n 0, 1) := by decide +kernel
theorem dX8_groupAt_26 : decode cX8_groupAt 26 = .ok (.iload_n 3, 1) := by decide +kernel
theorem dX8_groupAt_27 : decode cX8_groupAt 27 = .ok (.invokevirtual 120, 3) := by decide +kernel
theorem dX8_groupAt_30 : decode cX8_groupAt 30 = .ok (.ireturn, 1) := by decide +kernel
theorem dX8_groupAt_31 : decode cX8_groupAt 31 = .ok (.iinc 2 (-1), 3) := by decide +kernel
theorem dX8_groupAt_34 : decode cX8_groupAt 34 = .ok (.aload_n 0, 1) := by decide +kernel
theorem dX8_groupAt_35 : decode cX8_groupAt 35 = .ok (.iload_n 3, 1) := by decide +kernel
theorem dX8_groupAt_36 : decode cX8_groupAt 36 = .ok (.invokevirtual 66, 3) := by decide +kernel
theorem dX8_groupAt_39 : decode cX8_groupAt 39 = .ok (.iconst 1, 1) := by decide +kernel
theorem dX8_groupAt_40 : decode cX8_groupAt 40 = .ok (.iadd, 1) := by decide +kernel
theorem dX8_groupAt_41 : decode cX8_groupAt 41 = .ok (.istore_n 3, 1) := by decide +kernel
theorem dX8_groupAt_42 : decode cX8_groupAt 42 = .ok (.goto (-31), 3) := by decide +kernel
theorem dX8_groupAt_45 : decode cX8_groupAt 45 = .ok (.ldc 123, 2) := by decide +kernel
theorem dX8_groupAt_47 : decode cX8_groupAt 47 = .ok (.ireturn, 1) := by decide +kernel
theorem dX8_knots_0 : decode cX8_knots 0 = .ok (.iconst 0, 1) := by decide +kernel
theorem dX8_knots_1 : decode cX8_knots 1 = .ok (.istore_n 1, 1) := by decide +kernel
theorem dX8_knots_2 : decode cX8_knots 2 = .ok (.iconst 0, 1) := by decide +kernel
theorem dX8_knots_3 : decode cX8_knots 3 = .ok (.istore_n 2, 1) := by decide +kernel
theorem dX8_knots_4 : decode cX8_knots 4 = .ok (.iload_n 2, 1) := by decide +kernel
theorem dX8_knots_5 : decode cX8_knots 5 = .ok (.aload_n 0, 1) := by decide +kernel
theorem dX8_knots_6 : decode cX8_knots 6 = .ok (.getfield 7, 3) := by decide +kernel
theorem dX8_knots_9 : decode cX8_knots 9 = .ok (.iconst 0, 1) := by decide +kernel
theorem dX8_knots_10 : decode cX8_knots 10 = .ok (.iaload, 1) := by decide +kernel
theorem dX8_knots_11 : decode cX8_knots 11 = .ok (.if_icmp .ge 26, 3) := by decide +kernel
theorem dX8_knots_14 : decode cX8_knots 14 = .ok (.iload_n 1, 1) := by decide +kernel
theorem dX8_knots_15 : decode cX8_knots 15 = .ok (.aload_n 0, 1) := by decide +kernel
theorem dX8_knots_16 : decode cX8_knots 16 = .ok (.iload_n 2, 1) := by decide +kernel
theorem dX8_knots_17 : decode cX8_knots 17 = .ok (.iconst 3, 1) := by decide +kernel
theorem dX8_knots_18 : decode cX8_knots 18 = .ok (.invokevirtual 59, 3) := by decide +kernel
theorem dX8_knots_21 : decode cX8_knots 21 = .ok (.ifCond .le 7, 3) := by decide +kernel
theorem dX8_knots_24 : decode cX8_knots 24 = .ok (.iconst 1, 1) := by decide +kernel
theorem dX8_knots_25 : decode cX8_knots 25 = .ok (.goto 4, 3) := by decide +kernel
theorem dX8_knots_28 : decode cX8_knots 28 = .ok (.iconst 0, 1) := by decide +kernel
theorem dX8_knots_29 : decode cX8_knots 29 = .ok (.iadd, 1) := by decide +kernel
theorem dX8_knots_30 : decode cX8_knots 30 = .ok (.istore_n 1, 1) := by decide +kernel
theorem dX8_knots_31 : decode cX8_knots 31 = .ok (.iinc 2 1, 3) := by decide +kernel
theorem dX8_knots_34 : decode cX8_knots 34 = .ok (.goto (-30), 3) := by decide +kernel
theorem dX8_knots_37 : decode cX8_knots 37 = .ok (.iload_n 1, 1) := by decide +kernel
theorem dX8_knots_38 : decode cX8_knots 38 = .ok (.ireturn, 1) := by decide +kernel
theorem dX8_would_0 : decode cX8_would 0 = .ok (.aload_n 0, 1) := by decide +kernel
theorem dX8_would_1 : decode cX8_would 1 = .ok (.iload_n 1, 1) := by decide +kernel
theorem dX8_would_2 : decode cX8_would 2 = .ok (.invokevirtual 73, 3) := by decide +kernel
theorem dX8_would_5 : decode cX8_would 5 = .ok (.ifCond .eq 22, 3) := by decide +kernel
theorem dX8_would_8 : decode cX8_would 8 = .ok (.iload_n 2, 1) := by decide +kernel
theorem dX8_would_9 : decode cX8_would 9 = .ok (.bipush (-9), 2) := by decide +kernel
theorem dX8_would_11 : decode cX8_would 11 = .ok (.bipush 9, 2) := by decide +kernel
theorem dX8_would_13 : decode cX8_would 13 = .ok (.invokestatic 38, 3) := by decide +kernel
theorem dX8_would_16 : decode cX8_would 16 = .ok (.ifCond .eq 11, 3) := by decide +kernel
theorem dX8_would_19 : decode cX8_would 19 = .ok (.iload_n 2, 1) := by decide +kernel
theorem dX8_would_20 : decode cX8_would 20 = .ok (.ifCond .eq 7, 3) := by decide +kernel
theorem dX8_would_23 : decode cX8_would 23 = .ok (.iconst 1, 1) := by decide +kernel
theorem dX8_would_24 : decode cX8_would 24 = .ok (.goto 4, 3) := by decide +kernel
theorem dX8_would_27 : decode cX8_would 27 = .ok (.iconst 0, 1) := by decide +kernel
theorem dX8_would_28 : decode cX8_would 28 = .ok (.istore 4, 2) := by decide +kernel
theorem dX8_would_30 : decode cX8_would 30 = .ok (.iload 4, 2) := by decide +kernel
theorem dX8_would_32 : decode cX8_would 32 = .ok (.ifCond .eq 29, 3) := by decide +kernel
theorem dX8_would_35 : decode cX8_would 35 = .ok (.iload_n 3, 1) := by decide +kernel
theorem dX8_would_36 : decode cX8_would 36 = .ok (.iconst 0, 1) := by decide +kernel
theorem dX8_would_37 : decode cX8_would 37 = .ok (.iconst 3, 1) := by decide +kernel
theorem dX8_would_38 : decode cX8_would 38 = .ok (.invokestatic 38, 3) := by decide +kernel
theorem dX8_would_41 : decode cX8_would 41 = .ok (.ifCond .ne 23, 3) := by decide +kernel
theorem dX8_would_44 : decode cX8_would 44 = .ok (.iload_n 3, 1) := by decide +kernel
theorem dX8_would_45 : decode cX8_would 45 = .ok (.bipush 10, 2) := by decide +kernel
theorem dX8_would_47 : decode cX8_would 47 = .ok (.if_icmp .lt 14, 3) := by decide +kernel
theorem dX8_would_50 : decode cX8_would 50 = .ok (.aload_n 0, 1) := by decide +kernel
theorem dX8_would_51 : decode cX8_would 51 = .ok (.iload_n 3, 1) := by decide +kernel
theorem dX8_would_52 : decode cX8_would 52 = .ok (.bipush 10, 2) := by decide +kernel
theorem dX8_would_54 : decode cX8_would 54 = .ok (.isub, 1) := by decide +kernel
theorem dX8_would_55 : decode cX8_would 55 = .ok (.invokevirtual 90, 3) := by decide +kernel
theorem dX8_would_58 : decode cX8_would 58 = .ok (.ifCond .ne 6, 3) := by decide +kernel
theorem dX8_would_61 : decode cX8_would 61 = .ok (.ldc 42, 2) := by decide +kernel
theorem dX8_would_63 : decode cX8_would 63 = .ok (.ireturn, 1) := by decide +kernel
theorem dX8_would_64 : decode cX8_would 64 = .ok (.aload_n 0, 1) := by decide +kernel
theorem dX8_would_65 : decode cX8_would 65 = .ok (.invokevirtual 128, 3) := by decide +kernel
theorem dX8_would_68 : decode cX8_would 68 = .ok (.aload_n 0, 1) := by decide +kernel
theorem dX8_would_69 : decode cX8_would 69 = .ok (.iload_n 1, 1) := by decide +kernel
theorem dX8_would_70 : decode cX8_would 70 = .ok (.iload_n 2, 1) := by decide +kernel
theorem dX8_would_71 : decode cX8_would 71 = .ok (.invokevirtual 80, 3) := by decide +kernel
theorem dX8_would_74 : decode cX8_would 74 = .ok (.istore 5, 2) := by decide +kernel
theorem dX8_would_76 : decode cX8_would 76 = .ok (.aload_n 0, 1) := by decide +kernel
theorem dX8_would_77 : decode cX8_would 77 = .ok (.iload_n 1, 1) := by decide +kernel
theorem dX8_would_78 : decode cX8_would 78 = .ok (.iconst 3, 1) := by decide +kernel
theorem dX8_would_79 : decode cX8_would 79 = .ok (.invokevirtual 63, 3) := by decide +kernel
theorem dX8_would_82 : decode cX8_would 82 = .ok (.aload_n 0, 1) := by decide +kernel
theorem dX8_would_83 : decode cX8_would 83 = .ok (.getfield 19, 3) := by decide +kernel
theorem dX8_would_86 : decode cX8_would 86 = .ok (.bipush 63, 2) := by decide +kernel
theorem dX8_would_88 : decode cX8_would 88 = .ok (.iconst 4, 1) := by decide +kernel
theorem dX8_would_89 : decode cX8_would 89 = .ok (.iload_n 1, 1) := by decide +kernel
theorem dX8_would_90 : decode cX8_would 90 = .ok (.imul, 1) := by decide +kernel
theorem dX8_would_91 : decode cX8_would 91 = .ok (.iadd, 1) := by decide +kernel
theorem dX8_would_92 : decode cX8_would 92 = .ok (.iconst 3, 1) := by decide +kernel
theorem dX8_would_93 : decode cX8_would 93 = .ok (.iadd, 1) := by decide +kernel
theorem dX8_would_94 : decode cX8_would 94 = .ok (.iaload, 1) := by decide +kernel
theorem dX8_would_95 : decode cX8_would 95 = .ok (.isub, 1) := by decide +kernel
theorem dX8_would_96 : decode cX8_would 96 = .ok (.istore 6, 2) := by decide +kernel
theorem dX8_would_98 : decode cX8_would 98 = .ok (.aload_n 0, 1) := by decide +kernel
theorem dX8_would_99 : decode cX8_would 99 = .ok (.invokevirtual 131, 3) := by decide +kernel
theorem dX8_would_102 : decode cX8_would 102 = .ok (.istore 7, 2) := by decide +kernel
theorem dX8_would_104 : decode cX8_would 104 = .ok (.aload_n 0, 1) := by decide +kernel
theorem dX8_would_105 : decode cX8_would 105 = .ok (.invokevirtual 93, 3) := by decide +kernel
theorem dX8_would_108 : decode cX8_would 108 = .ok (.istore 8, 2) := by decide +kernel
theorem dX8_would_110 : decode cX8_would 110 = .ok (.iload_n 3, 1) := by decide +kernel
theorem dX8_would_111 : decode cX8_would 111 = .ok (.bipush 10, 2) := by decide +kernel
theorem dX8_would_113 : decode cX8_would 113 = .ok (.if_icmp .ge 7, 3) := by decide +kernel
theorem dX8_would_116 : decode cX8_would 116 = .ok (.iconst 0, 1) := by decide +kernel
theorem dX8_would_117 : decode cX8_would 117 = .ok (.goto 12, 3) := by decide +kernel
theorem dX8_would_120 : decode cX8_would 120 = .ok (.aload_n 0, 1) := by decide +kernel
theorem dX8_would_121 : decode cX8_would 121 = .ok (.iload_n 3, 1) := by decide +kernel
theorem dX8_would_122 : decode cX8_would 122 = .ok (.bipush 10, 2) := by decide +kernel
theorem dX8_would_124 : decode cX8_would 124 = .ok (.isub, 1) := by decide +kernel
theorem dX8_would_125 : decode cX8_would 125 = .ok (.iconst 0, 1) := by decide +kernel
theorem dX8_would_126 : decode cX8_would 126 = .ok (.invokevirtual 59, 3) := by decide +kernel
theorem dX8_would_129 : decode cX8_would 129 = .ok (.istore 9, 2) := by decide +kernel
theorem dX8_would_131 : decode cX8_would 131 = .ok (.aload_n 0, 1) := by decide +kernel
theorem dX8_would_132 : decode cX8_would 132 = .ok (.invokevirtual 134, 3) := by decide +kernel
theorem dX8_would_135 : decode cX8_would 135 = .ok (.iload_n 3, 1) := by decide +kernel
theorem dX8_would_136 : decode cX8_would 136 = .ok (.ifCond .ne 8, 3) := by decide +kernel
theorem dX8_would_139 : decode cX8_would 139 = .ok (.iload 5, 2) := by decide +kernel
theorem dX8_would_141 : decode cX8_would 141 = .ok (.goto 35, 3) := by decide +kernel
theorem dX8_would_144 : decode cX8_would 144 = .ok (.iload_n 3, 1) := by decide +kernel
theorem dX8_would_145 : decode cX8_would 145 = .ok (.iconst 1, 1) := by decide +kernel
theorem dX8_would_146 : decode cX8_would 146 = .ok (.if_icmp .ne 8, 3) := by decide +kernel
theorem dX8_would_149 : decode cX8_would 149 = .ok (.iload 7, 2) := by decide +kernel
theorem dX8_would_151 : decode cX8_would 151 = .ok (.goto 25, 3) := by decide +kernel
theorem dX8_would_154 : decode cX8_would 154 = .ok (.iload_n 3, 1) := by decide +kernel
theorem dX8_would_155 : decode cX8_would 155 = .ok (.iconst 2, 1) := by decide +kernel
theorem dX8_would_156 : decode cX8_would 156 = .ok (.if_icmp .ne 8, 3) := by decide +kernel
theorem dX8_would_159 : decode cX8_would 159 = .ok (.iload 6, 2) := by decide +kernel
theorem dX8_would_161 : decode cX8_would 161 = .ok (.goto 15, 3) := by decide +kernel
theorem dX8_would_164 : decode cX8_would 164 = .ok (.iload_n 3, 1) := by decide +kernel
theorem dX8_would_165 : decode cX8_would 165 = .ok (.iconst 3, 1) := by decide +kernel
theorem dX8_would_166 : decode cX8_would 166 = .ok (.if_icmp .ne 8, 3) := by decide +kernel
theorem dX8_would_169 : decode cX8_would 169 = .ok (.iload 8, 2) := by decide +kernel
theorem dX8_would_171 : decode cX8_would 171 = .ok (.goto 5, 3) := by decide +kernel
theorem dX8_would_174 : decode cX8_would 174 = .ok (.iload 9, 2) := by decide +kernel
theorem dX8_would_176 : decode cX8_would 176 = .ok (.ireturn, 1) := by decide +kernel
theorem dX8_off_0 : decode cX8_off 0 = .ok (.aload_n 0, 1) := by decide +kernel
theorem dX8_off_1 : decode cX8_off 1 = .ok (.iload_n 1, 1) := by decide +kernel
theorem dX8_off_2 : decode cX8_off 2 = .ok (.iconst 0, 1) := by decide +kernel
theorem dX8_off_3 : decode cX8_off 3 = .ok (.invokevirtual 59, 3) := by decide +kernel
theorem dX8_off_6 : decode cX8_off 6 = .ok (.istore_n 2, 1) := by decide +kernel
theorem dX8_off_7 : decode cX8_off 7 = .ok (.iconst 0, 1) := by decide +kernel
theorem dX8_off_8 : decode cX8_off 8 = .ok (.istore_n 3, 1) := by decide +kernel
theorem dX8_off_9 : decode cX8_off 9 = .ok (.iload_n 3, 1) := by decide +kernel
theorem dX8_off_10 : decode cX8_off 10 = .ok (.aload_n 0, 1) := by decide +kernel
theorem dX8_off_11 : decode cX8_off 11 = .ok (.getfield 7, 3) := by decide +kernel
theorem dX8_off_14 : decode cX8_off 14 = .ok (.iconst 1, 1) := by decide +kernel
theorem dX8_off_15 : decode cX8_off 15 = .ok (.iaload, 1) := by decide +kernel
theorem dX8_off_16 : decode cX8_off 16 = .ok (.if_icmp .ge 47, 3) := by decide +kernel
theorem dX8_off_19 : decode cX8_off 19 = .ok (.iload_n 2, 1) := by decide +kernel
theorem dX8_off_20 : decode cX8_off 20 = .ok (.aload_n 0, 1) := by decide +kernel
theorem dX8_off_21 : decode cX8_off 21 = .ok (.iload_n 3, 1) := by decide +kernel
theorem dX8_off_22 : decode cX8_off 22 = .ok (.iconst 0, 1) := by decide +kernel
theorem dX8_off_23 : decode cX8_off 23 = .ok (.invokevirtual 63, 3) := by decide +kernel
theorem dX8_off_26 : decode cX8_off 26 = .ok (.iload_n 1, 1) := by decide +kernel
theorem dX8_off_27 : decode cX8_off 27 = .ok (.ishr, 1) := by decide +kernel
theorem dX8_off_28 : decode cX8_off 28 = .ok (.iconst 1, 1) := by decide +kernel
theorem dX8_off_29 : decode cX8_off 29 = .ok (.iand, 1) := by decide +kernel
theorem dX8_off_30 : decode cX8_off 30 = .ok (.aload_n 0, 1) := by decide +kernel
theorem dX8_off_31 : decode cX8_off 31 = .ok (.getfield 35, 3) := by decide +kernel
theorem dX8_off_34 : decode cX8_off 34 = .ok (.iload_n 3, 1) := by decide +kernel
theorem dX8_off_35 : decode cX8_off 35 = .ok (.iaload, 1) := by decide +kernel
theorem dX8_off_36 : decode cX8_off 36 = .ok (.imul, 1) := by decide +kernel
theorem dX8_off_37 : decode cX8_off 37 = .ok (.aload_n 0, 1) := by decide +kernel
theorem dX8_off_38 : decode cX8_off 38 = .ok (.iload_n 3, 1) := by decide +kernel
theorem dX8_off_39 : decode cX8_off 39 = .ok (.iconst 1, 1) := by decide +kernel
theorem dX8_off_40 : decode cX8_off 40 = .ok (.invokevirtual 63, 3) := by decide +kernel
theorem dX8_off_43 : decode cX8_off 43 = .ok (.iload_n 1, 1) := by decide +kernel
theorem dX8_off_44 : decode cX8_off 44 = .ok (.ishr, 1) := by decide +kernel
theorem dX8_off_45 : decode cX8_off 45 = .ok (.iconst 1, 1) := by decide +kernel
theorem dX8_off_46 : decode cX8_off 46 = .ok (.iand, 1) := by decide +kernel
theorem dX8_off_47 : decode cX8_off 47 = .ok (.aload_n 0, 1) := by decide +kernel
theorem dX8_off_48 : decode cX8_off 48 = .ok (.getfield 35, 3) := by decide +kernel
theorem dX8_off_51 : decode cX8_off 51 = .ok (.iload_n 3, 1) := by decide +kernel
theorem dX8_off_52 : decode cX8_off 52 = .ok (.iaload, 1) := by decide +kernel
theorem dX8_off_53 : decode cX8_off 53 = .ok (.imul, 1) := by decide +kernel
theorem dX8_off_54 : decode cX8_off 54 = .ok (.isub, 1) := by decide +kernel
theorem dX8_off_55 : decode cX8_off 55 = .ok (.iadd, 1) := by decide +kernel
theorem dX8_off_56 : decode cX8_off 56 = .ok (.istore_n 2, 1) := by decide +kernel
theorem dX8_off_57 : decode cX8_off 57 = .ok (.iinc 3 1, 3) := by decide +kernel
theorem dX8_off_60 : decode cX8_off 60 = .ok (.goto (-51), 3) := by decide +kernel
theorem dX8_off_63 : decode cX8_off 63 = .ok (.iload_n 2, 1) := by decide +kernel
theorem dX8_off_64 : decode cX8_off 64 = .ok (.aload_n 0, 1) := by decide +kernel
theorem dX8_off_65 : decode cX8_off 65 = .ok (.iload_n 1, 1) := by decide +kernel
theorem dX8_off_66 : decode cX8_off 66 = .ok (.bipush 6, 2) := by decide +kernel
theorem dX8_off_68 : decode cX8_off 68 = .ok (.invokevirtual 59, 3) := by decide +kernel
theorem dX8_off_71 : decode cX8_off 71 = .ok (.isub, 1) := by decide +kernel
theorem dX8_off_72 : decode cX8_off 72 = .ok (.ireturn, 1) := by decide +kernel
theorem dX8_isRight_0 : decode cX8_isRight 0 = .ok (.iconst 1, 1) := by decide +kernel
theorem dX8_isRight_1 : decode cX8_isRight 1 = .ok (.istore_n 1, 1) := by decide +kernel
theorem dX8_isRight_2 : decode cX8_isRight 2 = .ok (.iconst 0, 1) := by decide +kernel
theorem dX8_isRight_3 : decode cX8_isRight 3 = .ok (.istore_n 2, 1) := by decide +kernel
theorem dX8_isRight_4 : decode cX8_isRight 4 = .ok (.iload_n 2, 1) := by decide +kernel
theorem dX8_isRight_5 : decode cX8_isRight 5 = .ok (.aload_n 0, 1) := by decide +kernel
theorem dX8_isRight_6 : decode cX8_isRight 6 = .ok (.getfield 7, 3) := by decide +kernel
theorem dX8_isRight_9 : decode cX8_isRight 9 = .ok (.iconst 0, 1) := by decide +kernel
theorem dX8_isRight_10 : decode cX8_isRight 10 = .ok (.iaload, 1) := by decide +kernel
theorem dX8_isRight_11 : decode cX8_isRight 11 = .ok (.if_icmp .ge 35, 3) := by decide +kernel
theorem dX8_isRight_14 : decode cX8_isRight 14 = .ok (.iload_n 1, 1) := by decide +kernel
theorem dX8_isRight_15 : decode cX8_isRight 15 = .ok (.ifCond .eq 23, 3) := by decide +kernel
theorem dX8_isRight_18 : decode cX8_isRight 18 = .ok (.aload_n 0, 1) := by decide +kernel
theorem dX8_isRight_19 : decode cX8_isRight 19 = .ok (.iload_n 2, 1) := by decide +kernel
theorem dX8_isRight_20 : decode cX8_isRight 20 = .ok (.invokevirtual 100, 3) := by decide +kernel
theorem dX8_isRight_23 : decode cX8_isRight 23 = .ok (.ifCond .eq 11, 3) := by decide +kernel
theorem dX8_isRight_26 : decode cX8_isRight 26 = .ok (.aload_n 0, 1) := by decide +kernel
theorem dX8_isRight_27 : decode cX8_isRight 27 = .ok (.iload_n 2, 1) := by decide +kernel
theorem dX8_isRight_28 : decode cX8_isRight 28 = .ok (.invokevirtual 137, 3) := by decide +kernel
theorem dX8_isRight_31 : decode cX8_isRight 31 = .ok (.ifCond .ne 7, 3) := by decide +kernel
theorem dX8_isRight_34 : decode cX8_isRight 34 = .ok (.iconst 1, 1) := by decide +kernel
theorem dX8_isRight_35 : decode cX8_isRight 35 = .ok (.goto 4, 3) := by decide +kernel
theorem dX8_isRight_38 : decode cX8_isRight 38 = .ok (.iconst 0, 1) := by decide +kernel
theorem dX8_isRight_39 : decode cX8_isRight 39 = .ok (.istore_n 1, 1) := by decide +kernel
theorem dX8_isRight_40 : decode cX8_isRight 40 = .ok (.iinc 2 1, 3) := by decide +kernel
theorem dX8_isRight_43 : decode cX8_isRight 43 = .ok (.goto (-39), 3) := by decide +kernel
theorem dX8_isRight_46 : decode cX8_isRight 46 = .ok (.iload_n 1, 1) := by decide +kernel
theorem dX8_isRight_47 : decode cX8_isRight 47 = .ok (.ireturn, 1) := by decide +kernel
theorem dX8_finds_0 : decode cX8_finds 0 = .ok (.iconst 1, 1) := by decide +kernel
theorem dX8_finds_1 : decode cX8_finds 1 = .ok (.istore_n 1, 1) := by decide +kernel
theorem dX8_finds_2 : decode cX8_finds 2 = .ok (.iconst 0, 1) := by decide +kernel
theorem dX8_finds_3 : decode cX8_finds 3 = .ok (.istore_n 2, 1) := by decide +kernel
theorem dX8_finds_4 : decode cX8_finds 4 = .ok (.iload_n 2, 1) := by decide +kernel
theorem dX8_finds_5 : decode cX8_finds 5 = .ok (.aload_n 0, 1) := by decide +kernel
theorem dX8_finds_6 : decode cX8_finds 6 = .ok (.getfield 7, 3) := by decide +kernel
theorem dX8_finds_9 : decode cX8_finds 9 = .ok (.iconst 1, 1) := by decide +kernel
theorem dX8_finds_10 : decode cX8_finds 10 = .ok (.iaload, 1) := by decide +kernel
theorem dX8_finds_11 : decode cX8_finds 11 = .ok (.if_icmp .ge 14, 3) := by decide +kernel
theorem dX8_finds_14 : decode cX8_finds 14 = .ok (.iload_n 1, 1) := by decide +kernel
theorem dX8_finds_15 : decode cX8_finds 15 = .ok (.bipush 19, 2) := by decide +kernel
theorem dX8_finds_17 : decode cX8_finds 17 = .ok (.imul, 1) := by decide +kernel
theorem dX8_finds_18 : decode cX8_finds 18 = .ok (.istore_n 1, 1) := by decide +kernel
theorem dX8_finds_19 : decode cX8_finds 19 = .ok (.iinc 2 1, 3) := by decide +kernel
theorem dX8_finds_22 : decode cX8_finds 22 = .ok (.goto (-18), 3) := by decide +kernel
theorem dX8_finds_25 : decode cX8_finds 25 = .ok (.iconst (-1), 1) := by decide +kernel
theorem dX8_finds_26 : decode cX8_finds 26 = .ok (.istore_n 2, 1) := by decide +kernel
theorem dX8_finds_27 : decode cX8_finds 27 = .ok (.iconst 0, 1) := by decide +kernel
theorem dX8_finds_28 : decode cX8_finds 28 = .ok (.istore_n 3, 1) := by decide +kernel
theorem dX8_finds_29 : decode cX8_finds 29 = .ok (.iload_n 3, 1) := by decide +kernel
theorem dX8_finds_30 : decode cX8_finds 30 = .ok (.iload_n 1, 1) := by decide +kernel
theorem dX8_finds_31 : decode cX8_finds 31 = .ok (.if_icmp .ge 140, 3) := by decide +kernel
theorem dX8_finds_34 : decode cX8_finds 34 = .ok (.iload_n 3, 1) := by decide +kernel
theorem dX8_finds_35 : decode cX8_finds 35 = .ok (.istore 4, 2) := by decide +kernel
theorem dX8_finds_37 : decode cX8_finds 37 = .ok (.iconst 0, 1) := by decide +kernel
theorem dX8_finds_38 : decode cX8_finds 38 = .ok (.istore 5, 2) := by decide +kernel
theorem dX8_finds_40 : decode cX8_finds 40 = .ok (.aload_n 0, 1) := by decide +kernel
theorem dX8_finds_41 : decode cX8_finds 41 = .ok (.getfield 7, 3) := by decide +kernel
theorem dX8_finds_44 : decode cX8_finds 44 = .ok (.iconst 1, 1) := by decide +kernel
theorem dX8_finds_45 : decode cX8_finds 45 = .ok (.iaload, 1) := by decide +kernel
theorem dX8_finds_46 : decode cX8_finds 46 = .ok (.iconst 1, 1) := by decide +kernel
theorem dX8_finds_47 : decode cX8_finds 47 = .ok (.isub, 1) := by decide +kernel
theorem dX8_finds_48 : decode cX8_finds 48 = .ok (.istore 6, 2) := by decide +kernel
theorem dX8_finds_50 : decode cX8_finds 50 = .ok (.iload 6, 2) := by decide +kernel
theorem dX8_finds_52 : decode cX8_finds 52 = .ok (.ifCond .lt 64, 3) := by decide +kernel
theorem dX8_finds_55 : decode cX8_finds 55 = .ok (.aload_n 0, 1) := by decide +kernel
theorem dX8_finds_56 : decode cX8_finds 56 = .ok (.getfield 35, 3) := by decide +kernel
theorem dX8_finds_59 : decode cX8_finds 59 = .ok (.iload 6, 2) := by decide +kernel
theorem dX8_finds_61 : decode cX8_finds 61 = .ok (.iload 4, 2) := by decide +kernel
theorem dX8_finds_63 : decode cX8_finds 63 = .ok (.bipush 19, 2) := by decide +kernel
theorem dX8_finds_65 : decode cX8_finds 65 = .ok (.irem, 1) := by decide +kernel
theorem dX8_finds_66 : decode cX8_finds 66 = .ok (.bipush 9, 2) := by decide +kernel
theorem dX8_finds_68 : decode cX8_finds 68 = .ok (.isub, 1) := by decide +kernel
theorem dX8_finds_69 : decode cX8_finds 69 = .ok (.iastore, 1) := by decide +kernel
theorem dX8_finds_70 : decode cX8_finds 70 = .ok (.iload 4, 2) := by decide +kernel
theorem dX8_finds_72 : decode cX8_finds 72 = .ok (.bipush 19, 2) := by decide +kernel
theorem dX8_finds_74 : decode cX8_finds 74 = .ok (.idiv, 1) := by decide +kernel
theorem dX8_finds_75 : decode cX8_finds 75 = .ok (.istore 4, 2) := by decide +kernel
theorem dX8_finds_77 : decode cX8_finds 77 = .ok (.iload 5, 2) := by decide +kernel
theorem dX8_finds_79 : decode cX8_finds 79 = .ok (.aload_n 0, 1) := by decide +kernel
theorem dX8_finds_80 : decode cX8_finds 80 = .ok (.getfield 35, 3) := by decide +kernel
theorem dX8_finds_83 : decode cX8_finds 83 = .ok (.iload 6, 2) := by decide +kernel
theorem dX8_finds_85 : decode cX8_finds 85 = .ok (.iaload, 1) := by decide +kernel
theorem dX8_finds_86 : decode cX8_finds 86 = .ok (.ifCond .ge 14, 3) := by decide +kernel
theorem dX8_finds_89 : decode cX8_finds 89 = .ok (.aload_n 0, 1) := by decide +kernel
theorem dX8_finds_90 : decode cX8_finds 90 = .ok (.getfield 35, 3) := by decide +kernel
theorem dX8_finds_93 : decode cX8_finds 93 = .ok (.iload 6, 2) := by decide +kernel
theorem dX8_finds_95 : decode cX8_finds 95 = .ok (.iaload, 1) := by decide +kernel
theorem dX8_finds_96 : decode cX8_finds 96 = .ok (.ineg, 1) := by decide +kernel
theorem dX8_finds_97 : decode cX8_finds 97 = .ok (.goto 10, 3) := by decide +kernel
theorem dX8_finds_100 : decode cX8_finds 100 = .ok (.aload_n 0, 1) := by decide +kernel
theorem dX8_finds_101 : decode cX8_finds 101 = .ok (.getfield 35, 3) := by decide +kernel
theorem dX8_finds_104 : decode cX8_finds 104 = .ok (.iload 6, 2) := by decide +kernel
theorem dX8_finds_106 : decode cX8_finds 106 = .ok (.iaload, 1) := by decide +kernel
theorem dX8_finds_107 : decode cX8_finds 107 = .ok (.iadd, 1) := by decide +kernel
theorem dX8_finds_108 : decode cX8_finds 108 = .ok (.istore 5, 2) := by decide +kernel
theorem dX8_finds_110 : decode cX8_finds 110 = .ok (.iinc 6 (-1), 3) := by decide +kernel
theorem dX8_finds_113 : decode cX8_finds 113 = .ok (.goto (-63), 3) := by decide +kernel
theorem dX8_finds_116 : decode cX8_finds 116 = .ok (.iload_n 2, 1) := by decide +kernel
theorem dX8_finds_117 : decode cX8_finds 117 = .ok (.ifCond .lt 9, 3) := by decide +kernel
theorem dX8_finds_120 : decode cX8_finds 120 = .ok (.iload 5, 2) := by decide +kernel
theorem dX8_finds_122 : decode cX8_finds 122 = .ok (.iload_n 2, 1) := by decide +kernel
theorem dX8_finds_123 : decode cX8_finds 123 = .ok (.if_icmp .ge 42, 3) := by decide +kernel
theorem dX8_finds_126 : decode cX8_finds 126 = .ok (.aload_n 0, 1) := by decide +kernel
theorem dX8_finds_127 : decode cX8_finds 127 = .ok (.invokevirtual 140, 3) := by decide +kernel
theorem dX8_finds_130 : decode cX8_finds 130 = .ok (.ifCond .eq 35, 3) := by decide +kernel
theorem dX8_finds_133 : decode cX8_finds 133 = .ok (.iload 5, 2) := by decide +kernel
theorem dX8_finds_135 : decode cX8_finds 135 = .ok (.istore_n 2, 1) := by decide +kernel
theorem dX8_finds_136 : decode cX8_finds 136 = .ok (.iconst 0, 1) := by decide +kernel
theorem dX8_finds_137 : decode cX8_finds 137 = .ok (.istore 6, 2) := by decide +kernel
theorem dX8_finds_139 : decode cX8_finds 139 = .ok (.iload 6, 2) := by decide +kernel
theorem dX8_finds_141 : decode cX8_finds 141 = .ok (.iconst 4, 1) := by decide +kernel
theorem dX8_finds_142 : decode cX8_finds 142 = .ok (.if_icmp .ge 23, 3) := by decide +kernel
theorem dX8_finds_145 : decode cX8_finds 145 = .ok (.aload_n 0, 1) := by decide +kernel
theorem dX8_finds_146 : decode cX8_finds 146 = .ok (.getfield 32, 3) := by decide +kernel
theorem dX8_finds_149 : decode cX8_finds 149 = .ok (.iload 6, 2) := by decide +kernel
theorem dX8_finds_151 : decode cX8_finds 151 = .ok (.aload_n 0, 1) := by decide +kernel
theorem dX8_finds_152 : decode cX8_finds 152 = .ok (.getfield 35, 3) := by decide +kernel
theorem dX8_finds_155 : decode cX8_finds 155 = .ok (.iload 6, 2) := by decide +kernel
theorem dX8_finds_157 : decode cX8_finds 157 = .ok (.iaload, 1) := by decide +kernel
theorem dX8_finds_158 : decode cX8_finds 158 = .ok (.iastore, 1) := by decide +kernel
theorem dX8_finds_159 : decode cX8_finds 159 = .ok (.iinc 6 1, 3) := by decide +kernel
theorem dX8_finds_162 : decode cX8_finds 162 = .ok (.goto (-23), 3) := by decide +kernel
theorem dX8_finds_165 : decode cX8_finds 165 = .ok (.iinc 3 1, 3) := by decide +kernel
theorem dX8_finds_168 : decode cX8_finds 168 = .ok (.goto (-139), 3) := by decide +kernel
theorem dX8_finds_171 : decode cX8_finds 171 = .ok (.iload_n 2, 1) := by decide +kernel
theorem dX8_finds_172 : decode cX8_finds 172 = .ok (.ireturn, 1) := by decide +kernel
theorem dX8_leastPulls_0 : decode cX8_leastPulls 0 = .ok (.iload_n 1, 1) := by decide +kernel
theorem dX8_leastPulls_1 : decode cX8_leastPulls 1 = .ok (.iconst (-1), 1) := by decide +kernel
theorem dX8_leastPulls_2 : decode cX8_leastPulls 2 = .ok (.if_icmp .eq 14, 3) := by decide +kernel
theorem dX8_leastPulls_5 : decode cX8_leastPulls 5 = .ok (.aload_n 0, 1) := by decide +kernel
theorem dX8_leastPulls_6 : decode cX8_leastPulls 6 = .ok (.iload_n 1, 1) := by decide +kernel
theorem dX8_leastPulls_7 : decode cX8_leastPulls 7 = .ok (.invokevirtual 73, 3) := by decide +kernel
theorem dX8_leastPulls_10 : decode cX8_leastPulls 10 = .ok (.ifCond .ne 6, 3) := by decide +kernel
theorem dX8_leastPulls_13 : decode cX8_leastPulls 13 = .ok (.ldc 42, 2) := by decide +kernel
theorem dX8_leastPulls_15 : decode cX8_leastPulls 15 = .ok (.ireturn, 1) := by decide +kernel
theorem dX8_leastPulls_16 : decode cX8_leastPulls 16 = .ok (.aload_n 0, 1) := by decide +kernel
theorem dX8_leastPulls_17 : decode cX8_leastPulls 17 = .ok (.invokevirtual 144, 3) := by decide +kernel
theorem dX8_leastPulls_20 : decode cX8_leastPulls 20 = .ok (.istore_n 2, 1) := by decide +kernel
theorem dX8_leastPulls_21 : decode cX8_leastPulls 21 = .ok (.iload_n 2, 1) := by decide +kernel
theorem dX8_leastPulls_22 : decode cX8_leastPulls 22 = .ok (.ifCond .ge 8, 3) := by decide +kernel
theorem dX8_leastPulls_25 : decode cX8_leastPulls 25 = .ok (.ldc 123, 2) := by decide +kernel
theorem dX8_leastPulls_27 : decode cX8_leastPulls 27 = .ok (.goto 21, 3) := by decide +kernel
theorem dX8_leastPulls_30 : decode cX8_leastPulls 30 = .ok (.iload_n 1, 1) := by decide +kernel
theorem dX8_leastPulls_31 : decode cX8_leastPulls 31 = .ok (.iconst (-1), 1) := by decide +kernel
theorem dX8_leastPulls_32 : decode cX8_leastPulls 32 = .ok (.if_icmp .ne 7, 3) := by decide +kernel
theorem dX8_leastPulls_35 : decode cX8_leastPulls 35 = .ok (.iload_n 2, 1) := by decide +kernel
theorem dX8_leastPulls_36 : decode cX8_leastPulls 36 = .ok (.goto 12, 3) := by decide +kernel
theorem dX8_leastPulls_39 : decode cX8_leastPulls 39 = .ok (.aload_n 0, 1) := by decide +kernel
theorem dX8_leastPulls_40 : decode cX8_leastPulls 40 = .ok (.getfield 32, 3) := by decide +kernel
theorem dX8_leastPulls_43 : decode cX8_leastPulls 43 = .ok (.iload_n 1, 1) := by decide +kernel
theorem dX8_leastPulls_44 : decode cX8_leastPulls 44 = .ok (.iaload, 1) := by decide +kernel
theorem dX8_leastPulls_45 : decode cX8_leastPulls 45 = .ok (.bipush 100, 2) := by decide +kernel
theorem dX8_leastPulls_47 : decode cX8_leastPulls 47 = .ok (.iadd, 1) := by decide +kernel
theorem dX8_leastPulls_48 : decode cX8_leastPulls 48 = .ok (.ireturn, 1) := by decide +kernel
theorem dX8_reallyDo_0 : decode cX8_reallyDo 0 = .ok (.aload_n 0, 1) := by decide +kernel
theorem dX8_reallyDo_1 : decode cX8_reallyDo 1 = .ok (.invokevirtual 144, 3) := by decide +kernel
theorem dX8_reallyDo_4 : decode cX8_reallyDo 4 = .ok (.ifCond .ge 6, 3) := by decide +kernel
theorem dX8_reallyDo_7 : decode cX8_reallyDo 7 = .ok (.ldc 123, 2) := by decide +kernel
theorem dX8_reallyDo_9 : decode cX8_reallyDo 9 = .ok (.ireturn, 1) := by decide +kernel
theorem dX8_reallyDo_10 : decode cX8_reallyDo 10 = .ok (.aload_n 0, 1) := by decide +kernel
theorem dX8_reallyDo_11 : decode cX8_reallyDo 11 = .ok (.invokevirtual 128, 3) := by decide +kernel
theorem dX8_reallyDo_14 : decode cX8_reallyDo 14 = .ok (.iconst 0, 1) := by decide +kernel
theorem dX8_reallyDo_15 : decode cX8_reallyDo 15 = .ok (.istore_n 1, 1) := by decide +kernel
theorem dX8_reallyDo_16 : decode cX8_reallyDo 16 = .ok (.iload_n 1, 1) := by decide +kernel
theorem dX8_reallyDo_17 : decode cX8_reallyDo 17 = .ok (.aload_n 0, 1) := by decide +kernel
theorem dX8_reallyDo_18 : decode cX8_reallyDo 18 = .ok (.getfield 7, 3) := by decide +kernel
theorem dX8_reallyDo_21 : decode cX8_reallyDo 21 = .ok (.iconst 1, 1) := by decide +kernel
theorem dX8_reallyDo_22 : decode cX8_reallyDo 22 = .ok (.iaload, 1) := by decide +kernel
theorem dX8_reallyDo_23 : decode cX8_reallyDo 23 = .ok (.if_icmp .ge 21, 3) := by decide +kernel
theorem dX8_reallyDo_26 : decode cX8_reallyDo 26 = .ok (.aload_n 0, 1) := by decide +kernel
theorem dX8_reallyDo_27 : decode cX8_reallyDo 27 = .ok (.iload_n 1, 1) := by decide +kernel
theorem dX8_reallyDo_28 : decode cX8_reallyDo 28 = .ok (.aload_n 0, 1) := by decide +kernel
theorem dX8_reallyDo_29 : decode cX8_reallyDo 29 = .ok (.getfield 32, 3) := by decide +kernel
theorem dX8_reallyDo_32 : decode cX8_reallyDo 32 = .ok (.iload_n 1, 1) := by decide +kernel
theorem dX8_reallyDo_33 : decode cX8_reallyDo 33 = .ok (.iaload, 1) := by decide +kernel
theorem dX8_reallyDo_34 : decode cX8_reallyDo 34 = .ok (.invokevirtual 80, 3) := by decide +kernel
theorem dX8_reallyDo_37 : decode cX8_reallyDo 37 = .ok (.pop, 1) := by decide +kernel
theorem dX8_reallyDo_38 : decode cX8_reallyDo 38 = .ok (.iinc 1 1, 3) := by decide +kernel
theorem dX8_reallyDo_41 : decode cX8_reallyDo 41 = .ok (.goto (-25), 3) := by decide +kernel
theorem dX8_reallyDo_44 : decode cX8_reallyDo 44 = .ok (.aload_n 0, 1) := by decide +kernel
theorem dX8_reallyDo_45 : decode cX8_reallyDo 45 = .ok (.invokevirtual 93, 3) := by decide +kernel
theorem dX8_reallyDo_48 : decode cX8_reallyDo 48 = .ok (.aload_n 0, 1) := by decide +kernel
theorem dX8_reallyDo_49 : decode cX8_reallyDo 49 = .ok (.invokevirtual 103, 3) := by decide +kernel
theorem dX8_reallyDo_52 : decode cX8_reallyDo 52 = .ok (.if_icmp .ne 7, 3) := by decide +kernel
theorem dX8_reallyDo_55 : decode cX8_reallyDo 55 = .ok (.iconst 1, 1) := by decide +kernel
theorem dX8_reallyDo_56 : decode cX8_reallyDo 56 = .ok (.goto 4, 3) := by decide +kernel
theorem dX8_reallyDo_59 : decode cX8_reallyDo 59 = .ok (.iconst 0, 1) := by decide +kernel
theorem dX8_reallyDo_60 : decode cX8_reallyDo 60 = .ok (.istore_n 1, 1) := by decide +kernel
theorem dX8_reallyDo_61 : decode cX8_reallyDo 61 = .ok (.aload_n 0, 1) := by decide +kernel
theorem dX8_reallyDo_62 : decode cX8_reallyDo 62 = .ok (.invokevirtual 134, 3) := by decide +kernel
theorem dX8_reallyDo_65 : decode cX8_reallyDo 65 = .ok (.iload_n 1, 1) := by decide +kernel
theorem dX8_reallyDo_66 : decode cX8_reallyDo 66 = .ok (.ifCond .eq 7, 3) := by decide +kernel
theorem dX8_reallyDo_69 : decode cX8_reallyDo 69 = .ok (.iconst 1, 1) := by decide +kernel
theorem dX8_reallyDo_70 : decode cX8_reallyDo 70 = .ok (.goto 4, 3) := by decide +kernel
theorem dX8_reallyDo_73 : decode cX8_reallyDo 73 = .ok (.iconst 0, 1) := by decide +kernel
theorem dX8_reallyDo_74 : decode cX8_reallyDo 74 = .ok (.ireturn, 1) := by decide +kernel
theorem dX8_bestHeight_0 : decode cX8_bestHeight 0 = .ok (.aload_n 0, 1) := by decide +kernel
theorem dX8_bestHeight_1 : decode cX8_bestHeight 1 = .ok (.iload_n 1, 1) := by decide +kernel
theorem dX8_bestHeight_2 : decode cX8_bestHeight 2 = .ok (.invokevirtual 90, 3) := by decide +kernel
theorem dX8_bestHeight_5 : decode cX8_bestHeight 5 = .ok (.ifCond .eq 12, 3) := by decide +kernel
theorem dX8_bestHeight_8 : decode cX8_bestHeight 8 = .ok (.iload_n 2, 1) := by decide +kernel
theorem dX8_bestHeight_9 : decode cX8_bestHeight 9 = .ok (.iconst 0, 1) := by decide +kernel
theorem dX8_bestHeight_10 : decode cX8_bestHeight 10 = .ok (.iconst 1, 1) := by decide +kernel
theorem dX8_bestHeight_11 : decode cX8_bestHeight 11 = .ok (.invokestatic 38, 3) := by decide +kernel
theorem dX8_bestHeight_14 : decode cX8_bestHeight 14 = .ok (.ifCond .ne 6, 3) := by decide +kernel
theorem dX8_bestHeight_17 : decode cX8_bestHeight 17 = .ok (.ldc 42, 2) := by decide +kernel
theorem dX8_bestHeight_19 : decode cX8_bestHeight 19 = .ok (.ireturn, 1) := by decide +kernel
theorem dX8_bestHeight_20 : decode cX8_bestHeight 20 = .ok (.iconst 0, 1) := by decide +kernel
theorem dX8_bestHeight_21 : decode cX8_bestHeight 21 = .ok (.istore_n 3, 1) := by decide +kernel
theorem dX8_bestHeight_22 : decode cX8_bestHeight 22 = .ok (.iconst (-1), 1) := by decide +kernel
theorem dX8_bestHeight_23 : decode cX8_bestHeight 23 = .ok (.istore 4, 2) := by decide +kernel
theorem dX8_bestHeight_25 : decode cX8_bestHeight 25 = .ok (.iconst 0, 1) := by decide +kernel
theorem dX8_bestHeight_26 : decode cX8_bestHeight 26 = .ok (.istore 5, 2) := by decide +kernel
theorem dX8_bestHeight_28 : decode cX8_bestHeight 28 = .ok (.iload 5, 2) := by decide +kernel
theorem dX8_bestHeight_30 : decode cX8_bestHeight 30 = .ok (.bipush 10, 2) := by decide +kernel
theorem dX8_bestHeight_32 : decode cX8_bestHeight 32 = .ok (.if_icmp .ge 85, 3) := by decide +kernel
theorem dX8_bestHeight_35 : decode cX8_bestHeight 35 = .ok (.iconst 0, 1) := by decide +kernel
theorem dX8_bestHeight_36 : decode cX8_bestHeight 36 = .ok (.istore 6, 2) := by decide +kernel
theorem dX8_bestHeight_38 : decode cX8_bestHeight 38 = .ok (.iconst 0, 1) := by decide +kernel
theorem dX8_bestHeight_39 : decode cX8_bestHeight 39 = .ok (.istore 7, 2) := by decide +kernel
theorem dX8_bestHeight_41 : decode cX8_bestHeight 41 = .ok (.iload 7, 2) := by decide +kernel
theorem dX8_bestHeight_43 : decode cX8_bestHeight 43 = .ok (.bipush 24, 2) := by decide +kernel
theorem dX8_bestHeight_45 : decode cX8_bestHeight 45 = .ok (.if_icmp .ge 36, 3) := by decide +kernel
theorem dX8_bestHeight_48 : decode cX8_bestHeight 48 = .ok (.iload 6, 2) := by decide +kernel
theorem dX8_bestHeight_50 : decode cX8_bestHeight 50 = .ok (.aload_n 0, 1) := by decide +kernel
theorem dX8_bestHeight_51 : decode cX8_bestHeight 51 = .ok (.iload_n 1, 1) := by decide +kernel
theorem dX8_bestHeight_52 : decode cX8_bestHeight 52 = .ok (.aload_n 0, 1) := by decide +kernel
theorem dX8_bestHeight_53 : decode cX8_bestHeight 53 = .ok (.iload_n 1, 1) := by decide +kernel
theorem dX8_bestHeight_54 : decode cX8_bestHeight 54 = .ok (.iload 7, 2) := by decide +kernel
theorem dX8_bestHeight_56 : decode cX8_bestHeight 56 = .ok (.iload 5, 2) := by decide +kernel
theorem dX8_bestHeight_58 : decode cX8_bestHeight 58 = .ok (.invokevirtual 106, 3) := by decide +kernel
theorem dX8_bestHeight_61 : decode cX8_bestHeight 61 = .ok (.invokevirtual 110, 3) := by decide +kernel
theorem dX8_bestHeight_64 : decode cX8_bestHeight 64 = .ok (.ifCond .eq 7, 3) := by decide +kernel
theorem dX8_bestHeight_67 : decode cX8_bestHeight 67 = .ok (.iconst 1, 1) := by decide +kernel
theorem dX8_bestHeight_68 : decode cX8_bestHeight 68 = .ok (.goto 4, 3) := by decide +kernel
theorem dX8_bestHeight_71 : decode cX8_bestHeight 71 = .ok (.iconst 0, 1) := by decide +kernel
theorem dX8_bestHeight_72 : decode cX8_bestHeight 72 = .ok (.iadd, 1) := by decide +kernel
theorem dX8_bestHeight_73 : decode cX8_bestHeight 73 = .ok (.istore 6, 2) := by decide +kernel
theorem dX8_bestHeight_75 : decode cX8_bestHeight 75 = .ok (.iinc 7 1, 3) := by decide +kernel
theorem dX8_bestHeight_78 : decode cX8_bestHeight 78 = .ok (.goto (-37), 3) := by decide +kernel
theorem dX8_bestHeight_81 : decode cX8_bestHeight 81 = .ok (.iload 6, 2) := by decide +kernel
theorem dX8_bestHeight_83 : decode cX8_bestHeight 83 = .ok (.iload 4, 2) := by decide +kernel
theorem dX8_bestHeight_85 : decode cX8_bestHeight 85 = .ok (.if_icmp .le 8, 3) := by decide +kernel
theorem dX8_bestHeight_88 : decode cX8_bestHeight 88 = .ok (.iload 5, 2) := by decide +kernel
theorem dX8_bestHeight_90 : decode cX8_bestHeight 90 = .ok (.goto 4, 3) := by decide +kernel
theorem dX8_bestHeight_93 : decode cX8_bestHeight 93 = .ok (.iload_n 3, 1) := by decide +kernel
theorem dX8_bestHeight_94 : decode cX8_bestHeight 94 = .ok (.istore_n 3, 1) := by decide +kernel
theorem dX8_bestHeight_95 : decode cX8_bestHeight 95 = .ok (.iload 6, 2) := by decide +kernel
theorem dX8_bestHeight_97 : decode cX8_bestHeight 97 = .ok (.iload 4, 2) := by decide +kernel
theorem dX8_bestHeight_99 : decode cX8_bestHeight 99 = .ok (.if_icmp .le 8, 3) := by decide +kernel
theorem dX8_bestHeight_102 : decode cX8_bestHeight 102 = .ok (.iload 6, 2) := by decide +kernel
theorem dX8_bestHeight_104 : decode cX8_bestHeight 104 = .ok (.goto 5, 3) := by decide +kernel
theorem dX8_bestHeight_107 : decode cX8_bestHeight 107 = .ok (.iload 4, 2) := by decide +kernel
theorem dX8_bestHeight_109 : decode cX8_bestHeight 109 = .ok (.istore 4, 2) := by decide +kernel
theorem dX8_bestHeight_111 : decode cX8_bestHeight 111 = .ok (.iinc 5 1, 3) := by decide +kernel
theorem dX8_bestHeight_114 : decode cX8_bestHeight 114 = .ok (.goto (-86), 3) := by decide +kernel
theorem dX8_bestHeight_117 : decode cX8_bestHeight 117 = .ok (.iload_n 2, 1) := by decide +kernel
theorem dX8_bestHeight_118 : decode cX8_bestHeight 118 = .ok (.ifCond .ne 7, 3) := by decide +kernel
theorem dX8_bestHeight_121 : decode cX8_bestHeight 121 = .ok (.iload_n 3, 1) := by decide +kernel
theorem dX8_bestHeight_122 : decode cX8_bestHeight 122 = .ok (.goto 5, 3) := by decide +kernel
theorem dX8_bestHeight_125 : decode cX8_bestHeight 125 = .ok (.iload 4, 2) := by decide +kernel
theorem dX8_bestHeight_127 : decode cX8_bestHeight 127 = .ok (.ireturn, 1) := by decide +kernel
theorem dX8_groups_0 : decode cX8_groups 0 = .ok (.iconst 0, 1) := by decide +kernel
theorem dX8_groups_1 : decode cX8_groups 1 = .ok (.istore_n 1, 1) := by decide +kernel
theorem dX8_groups_2 : decode cX8_groups 2 = .ok (.iconst 0, 1) := by decide +kernel
theorem dX8_groups_3 : decode cX8_groups 3 = .ok (.istore_n 2, 1) := by decide +kernel
theorem dX8_groups_4 : decode cX8_groups 4 = .ok (.iload_n 2, 1) := by decide +kernel
theorem dX8_groups_5 : decode cX8_groups 5 = .ok (.aload_n 0, 1) := by decide +kernel
theorem dX8_groups_6 : decode cX8_groups 6 = .ok (.getfield 7, 3) := by decide +kernel
theorem dX8_groups_9 : decode cX8_groups 9 = .ok (.iconst 0, 1) := by decide +kernel
theorem dX8_groups_10 : decode cX8_groups 10 = .ok (.iaload, 1) := by decide +kernel
theorem dX8_groups_11 : decode cX8_groups 11 = .ok (.if_icmp .ge 17, 3) := by decide +kernel
theorem dX8_groups_14 : decode cX8_groups 14 = .ok (.iinc 1 1, 3) := by decide +kernel
theorem dX8_groups_17 : decode cX8_groups 17 = .ok (.aload_n 0, 1) := by decide +kernel
theorem dX8_groups_18 : decode cX8_groups 18 = .ok (.iload_n 2, 1) := by decide +kernel
theorem dX8_groups_19 : decode cX8_groups 19 = .ok (.invokevirtual 66, 3) := by decide +kernel
theorem dX8_groups_22 : decode cX8_groups 22 = .ok (.iconst 1, 1) := by decide +kernel
theorem dX8_groups_23 : decode cX8_groups 23 = .ok (.iadd, 1) := by decide +kernel
theorem dX8_groups_24 : decode cX8_groups 24 = .ok (.istore_n 2, 1) := by decide +kernel
theorem dX8_groups_25 : decode cX8_groups 25 = .ok (.goto (-21), 3) := by decide +kernel
theorem dX8_groups_28 : decode cX8_groups 28 = .ok (.iload_n 1, 1) := by decide +kernel
theorem dX8_groups_29 : decode cX8_groups 29 = .ok (.ireturn, 1) := by decide +kernel
theorem dX8_depths_0 : decode cX8_depths 0 = .ok (.iconst 0, 1) := by decide +kernel
theorem dX8_depths_1 : decode cX8_depths 1 = .ok (.istore_n 1, 1) := by decide +kernel
theorem dX8_depths_2 : decode cX8_depths 2 = .ok (.iconst 0, 1) := by decide +kernel
theorem dX8_depths_3 : decode cX8_depths 3 = .ok (.istore_n 2, 1) := by decide +kernel
theorem dX8_depths_4 : decode cX8_depths 4 = .ok (.iload_n 2, 1) := by decide +kernel
theorem dX8_depths_5 : decode cX8_depths 5 = .ok (.aload_n 0, 1) := by decide +kernel
theorem dX8_depths_6 : decode cX8_depths 6 = .ok (.getfield 7, 3) := by decide +kernel
theorem dX8_depths_9 : decode cX8_depths 9 = .ok (.iconst 0, 1) := by decide +kernel
theorem dX8_depths_10 : decode cX8_depths 10 = .ok (.iaload, 1) := by decide +kernel
theorem dX8_depths_11 : decode cX8_depths 11 = .ok (.if_icmp .ge 18, 3) := by decide +kernel
theorem dX8_depths_14 : decode cX8_depths 14 = .ok (.iload_n 1, 1) := by decide +kernel
theorem dX8_depths_15 : decode cX8_depths 15 = .ok (.aload_n 0, 1) := by decide +kernel
theorem dX8_depths_16 : decode cX8_depths 16 = .ok (.iload_n 2, 1) := by decide +kernel
theorem dX8_depths_17 : decode cX8_depths 17 = .ok (.iconst 3, 1) := by decide +kernel
theorem dX8_depths_18 : decode cX8_depths 18 = .ok (.invokevirtual 59, 3) := by decide +kernel
theorem dX8_depths_21 : decode cX8_depths 21 = .ok (.iadd, 1) := by decide +kernel
theorem dX8_depths_22 : decode cX8_depths 22 = .ok (.istore_n 1, 1) := by decide +kernel
theorem dX8_depths_23 : decode cX8_depths 23 = .ok (.iinc 2 1, 3) := by decide +kernel
theorem dX8_depths_26 : decode cX8_depths 26 = .ok (.goto (-22), 3) := by decide +kernel
theorem dX8_depths_29 : decode cX8_depths 29 = .ok (.iload_n 1, 1) := by decide +kernel
theorem dX8_depths_30 : decode cX8_depths 30 = .ok (.ireturn, 1) := by decide +kernel
theorem dX8_tangled_0 : decode cX8_tangled 0 = .ok (.iconst 0, 1) := by decide +kernel
theorem dX8_tangled_1 : decode cX8_tangled 1 = .ok (.istore_n 1, 1) := by decide +kernel
theorem dX8_tangled_2 : decode cX8_tangled 2 = .ok (.iconst 0, 1) := by decide +kernel
theorem dX8_tangled_3 : decode cX8_tangled 3 = .ok (.istore_n 2, 1) := by decide +kernel
theorem dX8_tangled_4 : decode cX8_tangled 4 = .ok (.iload_n 2, 1) := by decide +kernel
theorem dX8_tangled_5 : decode cX8_tangled 5 = .ok (.aload_n 0, 1) := by decide +kernel
theorem dX8_tangled_6 : decode cX8_tangled 6 = .ok (.getfield 7, 3) := by decide +kernel
theorem dX8_tangled_9 : decode cX8_tangled 9 = .ok (.iconst 0, 1) := by decide +kernel
theorem dX8_tangled_10 : decode cX8_tangled 10 = .ok (.iaload, 1) := by decide +kernel
theorem dX8_tangled_11 : decode cX8_tangled 11 = .ok (.if_icmp .ge 41, 3) := by decide +kernel
theorem dX8_tangled_14 : decode cX8_tangled 14 = .ok (.iload_n 1, 1) := by decide +kernel
theorem dX8_tangled_15 : decode cX8_tangled 15 = .ok (.aload_n 0, 1) := by decide +kernel
theorem dX8_tangled_16 : decode cX8_tangled 16 = .ok (.iload_n 2, 1) := by decide +kernel
theorem dX8_tangled_17 : decode cX8_tangled 17 = .ok (.invokevirtual 100, 3) := by decide +kernel
theorem dX8_tangled_20 : decode cX8_tangled 20 = .ok (.ifCond .eq 23, 3) := by decide +kernel
theorem dX8_tangled_23 : decode cX8_tangled 23 = .ok (.aload_n 0, 1) := by decide +kernel
theorem dX8_tangled_24 : decode cX8_tangled 24 = .ok (.iload_n 2, 1) := by decide +kernel
theorem dX8_tangled_25 : decode cX8_tangled 25 = .ok (.invokevirtual 87, 3) := by decide +kernel
theorem dX8_tangled_28 : decode cX8_tangled 28 = .ok (.ifCond .ne 15, 3) := by decide +kernel
theorem dX8_tangled_31 : decode cX8_tangled 31 = .ok (.aload_n 0, 1) := by decide +kernel
theorem dX8_tangled_32 : decode cX8_tangled 32 = .ok (.iload_n 2, 1) := by decide +kernel
theorem dX8_tangled_33 : decode cX8_tangled 33 = .ok (.invokevirtual 124, 3) := by decide +kernel
theorem dX8_tangled_36 : decode cX8_tangled 36 = .ok (.ifCond .eq 7, 3) := by decide +kernel
theorem dX8_tangled_39 : decode cX8_tangled 39 = .ok (.iconst 1, 1) := by decide +kernel
theorem dX8_tangled_40 : decode cX8_tangled 40 = .ok (.goto 4, 3) := by decide +kernel
theorem dX8_tangled_43 : decode cX8_tangled 43 = .ok (.iconst 0, 1) := by decide +kernel
theorem dX8_tangled_44 : decode cX8_tangled 44 = .ok (.iadd, 1) := by decide +kernel
theorem dX8_tangled_45 : decode cX8_tangled 45 = .ok (.istore_n 1, 1) := by decide +kernel
theorem dX8_tangled_46 : decode cX8_tangled 46 = .ok (.iinc 2 1, 3) := by decide +kernel
theorem dX8_tangled_49 : decode cX8_tangled 49 = .ok (.goto (-45), 3) := by decide +kernel
theorem dX8_tangled_52 : decode cX8_tangled 52 = .ok (.iload_n 1, 1) := by decide +kernel
theorem dX8_tangled_53 : decode cX8_tangled 53 = .ok (.ireturn, 1) := by decide +kernel
theorem dX8_count_0 : decode cX8_count 0 = .ok (.iload_n 1, 1) := by decide +kernel
theorem dX8_count_1 : decode cX8_count 1 = .ok (.tableswitch 132 0 12 #[67, 67, 74, 79, 84, 89, 89, 100, 105, 110, 115, 122, 127], 67) := by decide +kernel
theorem dX8_count_68 : decode cX8_count 68 = .ok (.aload_n 0, 1) := by decide +kernel
theorem dX8_count_69 : decode cX8_count 69 = .ok (.getfield 7, 3) := by decide +kernel
theorem dX8_count_72 : decode cX8_count 72 = .ok (.iload_n 1, 1) := by decide +kernel
theorem dX8_count_73 : decode cX8_count 73 = .ok (.iaload, 1) := by decide +kernel
theorem dX8_count_74 : decode cX8_count 74 = .ok (.ireturn, 1) := by decide +kernel
theorem dX8_count_75 : decode cX8_count 75 = .ok (.aload_n 0, 1) := by decide +kernel
theorem dX8_count_76 : decode cX8_count 76 = .ok (.invokevirtual 131, 3) := by decide +kernel
theorem dX8_count_79 : decode cX8_count 79 = .ok (.ireturn, 1) := by decide +kernel
theorem dX8_count_80 : decode cX8_count 80 = .ok (.aload_n 0, 1) := by decide +kernel
theorem dX8_count_81 : decode cX8_count 81 = .ok (.invokevirtual 147, 3) := by decide +kernel
theorem dX8_count_84 : decode cX8_count 84 = .ok (.ireturn, 1) := by decide +kernel
theorem dX8_count_85 : decode cX8_count 85 = .ok (.aload_n 0, 1) := by decide +kernel
theorem dX8_count_86 : decode cX8_count 86 = .ok (.invokevirtual 150, 3) := by decide +kernel
theorem dX8_count_89 : decode cX8_count 89 = .ok (.ireturn, 1) := by decide +kernel
theorem dX8_count_90 : decode cX8_count 90 = .ok (.aload_n 0, 1) := by decide +kernel
theorem dX8_count_91 : decode cX8_count 91 = .ok (.getfield 7, 3) := by decide +kernel
theorem dX8_count_94 : decode cX8_count 94 = .ok (.iconst 2, 1) := by decide +kernel
theorem dX8_count_95 : decode cX8_count 95 = .ok (.iload_n 1, 1) := by decide +kernel
theorem dX8_count_96 : decode cX8_count 96 = .ok (.iadd, 1) := by decide +kernel
theorem dX8_count_97 : decode cX8_count 97 = .ok (.iconst 5, 1) := by decide +kernel
theorem dX8_count_98 : decode cX8_count 98 = .ok (.isub, 1) := by decide +kernel
theorem dX8_count_99 : decode cX8_count 99 = .ok (.iaload, 1) := by decide +kernel
theorem dX8_count_100 : decode cX8_count 100 = .ok (.ireturn, 1) := by decide +kernel
theorem dX8_count_101 : decode cX8_count 101 = .ok (.aload_n 0, 1) := by decide +kernel
theorem dX8_count_102 : decode cX8_count 102 = .ok (.invokevirtual 103, 3) := by decide +kernel
theorem dX8_count_105 : decode cX8_count 105 = .ok (.ireturn, 1) := by decide +kernel
theorem dX8_count_106 : decode cX8_count 106 = .ok (.aload_n 0, 1) := by decide +kernel
theorem dX8_count_107 : decode cX8_count 107 = .ok (.invokevirtual 93, 3) := by decide +kernel
theorem dX8_count_110 : decode cX8_count 110 = .ok (.ireturn, 1) := by decide +kernel
theorem dX8_count_111 : decode cX8_count 111 = .ok (.aload_n 0, 1) := by decide +kernel
theorem dX8_count_112 : decode cX8_count 112 = .ok (.invokevirtual 153, 3) := by decide +kernel
theorem dX8_count_115 : decode cX8_count 115 = .ok (.ireturn, 1) := by decide +kernel
theorem dX8_count_116 : decode cX8_count 116 = .ok (.aload_n 0, 1) := by decide +kernel
theorem dX8_count_117 : decode cX8_count 117 = .ok (.getfield 7, 3) := by decide +kernel
theorem dX8_count_120 : decode cX8_count 120 = .ok (.iconst 4, 1) := by decide +kernel
theorem dX8_count_121 : decode cX8_count 121 = .ok (.iaload, 1) := by decide +kernel
theorem dX8_count_122 : decode cX8_count 122 = .ok (.ireturn, 1) := by decide +kernel
theorem dX8_count_123 : decode cX8_count 123 = .ok (.aload_n 0, 1) := by decide +kernel
theorem dX8_count_124 : decode cX8_count 124 = .ok (.getfield 43, 3) := by decide +kernel
theorem dX8_count_127 : decode cX8_count 127 = .ok (.ireturn, 1) := by decide +kernel
theorem dX8_count_128 : decode cX8_count 128 = .ok (.aload_n 0, 1) := by decide +kernel
theorem dX8_count_129 : decode cX8_count 129 = .ok (.getfield 156, 3) := by decide +kernel
theorem dX8_count_132 : decode cX8_count 132 = .ok (.ireturn, 1) := by decide +kernel
theorem dX8_count_133 : decode cX8_count 133 = .ok (.iload_n 1, 1) := by decide +kernel
theorem dX8_count_134 : decode cX8_count 134 = .ok (.bipush 20, 2) := by decide +kernel
theorem dX8_count_136 : decode cX8_count 136 = .ok (.bipush 21, 2) := by decide +kernel
theorem dX8_count_138 : decode cX8_count 138 = .ok (.invokestatic 38, 3) := by decide +kernel
theorem dX8_count_141 : decode cX8_count 141 = .ok (.ifCond .eq 17, 3) := by decide +kernel
theorem dX8_count_144 : decode cX8_count 144 = .ok (.aload_n 0, 1) := by decide +kernel
theorem dX8_count_145 : decode cX8_count 145 = .ok (.getfield 7, 3) := by decide +kernel
theorem dX8_count_148 : decode cX8_count 148 = .ok (.iconst 5, 1) := by decide +kernel
theorem dX8_count_149 : decode cX8_count 149 = .ok (.iload_n 1, 1) := by decide +kernel
theorem dX8_count_150 : decode cX8_count 150 = .ok (.iadd, 1) := by decide +kernel
theorem dX8_count_151 : decode cX8_count 151 = .ok (.bipush 20, 2) := by decide +kernel
theorem dX8_count_153 : decode cX8_count 153 = .ok (.isub, 1) := by decide +kernel
theorem dX8_count_154 : decode cX8_count 154 = .ok (.iaload, 1) := by decide +kernel
theorem dX8_count_155 : decode cX8_count 155 = .ok (.goto 5, 3) := by decide +kernel
theorem dX8_count_158 : decode cX8_count 158 = .ok (.ldc 42, 2) := by decide +kernel
theorem dX8_count_160 : decode cX8_count 160 = .ok (.ireturn, 1) := by decide +kernel
theorem dX8_undo_0 : decode cX8_undo 0 = .ok (.aload_n 0, 1) := by decide +kernel
theorem dX8_undo_1 : decode cX8_undo 1 = .ok (.getfield 43, 3) := by decide +kernel
theorem dX8_undo_4 : decode cX8_undo 4 = .ok (.ifCond .ne 6, 3) := by decide +kernel
theorem dX8_undo_7 : decode cX8_undo 7 = .ok (.ldc 83, 2) := by decide +kernel
theorem dX8_undo_9 : decode cX8_undo 9 = .ok (.ireturn, 1) := by decide +kernel
theorem dX8_undo_10 : decode cX8_undo 10 = .ok (.aload_n 0, 1) := by decide +kernel
theorem dX8_undo_11 : decode cX8_undo 11 = .ok (.dup, 1) := by decide +kernel
theorem dX8_undo_12 : decode cX8_undo 12 = .ok (.getfield 43, 3) := by decide +kernel
theorem dX8_undo_15 : decode cX8_undo 15 = .ok (.iconst 1, 1) := by decide +kernel
theorem dX8_undo_16 : decode cX8_undo 16 = .ok (.isub, 1) := by decide +kernel
theorem dX8_undo_17 : decode cX8_undo 17 = .ok (.putfield 43, 3) := by decide +kernel
theorem dX8_undo_20 : decode cX8_undo 20 = .ok (.iconst 0, 1) := by decide +kernel
theorem dX8_undo_21 : decode cX8_undo 21 = .ok (.istore_n 1, 1) := by decide +kernel
theorem dX8_undo_22 : decode cX8_undo 22 = .ok (.iload_n 1, 1) := by decide +kernel
theorem dX8_undo_23 : decode cX8_undo 23 = .ok (.bipush 79, 2) := by decide +kernel
theorem dX8_undo_25 : decode cX8_undo 25 = .ok (.if_icmp .ge 29, 3) := by decide +kernel
theorem dX8_undo_28 : decode cX8_undo 28 = .ok (.aload_n 0, 1) := by decide +kernel
theorem dX8_undo_29 : decode cX8_undo 29 = .ok (.getfield 7, 3) := by decide +kernel
theorem dX8_undo_32 : decode cX8_undo 32 = .ok (.iload_n 1, 1) := by decide +kernel
theorem dX8_undo_33 : decode cX8_undo 33 = .ok (.aload_n 0, 1) := by decide +kernel
theorem dX8_undo_34 : decode cX8_undo 34 = .ok (.getfield 13, 3) := by decide +kernel
theorem dX8_undo_37 : decode cX8_undo 37 = .ok (.bipush 79, 2) := by decide +kernel
theorem dX8_undo_39 : decode cX8_undo 39 = .ok (.aload_n 0, 1) := by decide +kernel
theorem dX8_undo_40 : decode cX8_undo 40 = .ok (.getfield 43, 3) := by decide +kernel
theorem dX8_undo_43 : decode cX8_undo 43 = .ok (.imul, 1) := by decide +kernel
theorem dX8_undo_44 : decode cX8_undo 44 = .ok (.iload_n 1, 1) := by decide +kernel
theorem dX8_undo_45 : decode cX8_undo 45 = .ok (.iadd, 1) := by decide +kernel
theorem dX8_undo_46 : decode cX8_undo 46 = .ok (.iaload, 1) := by decide +kernel
theorem dX8_undo_47 : decode cX8_undo 47 = .ok (.iastore, 1) := by decide +kernel
theorem dX8_undo_48 : decode cX8_undo 48 = .ok (.iinc 1 1, 3) := by decide +kernel
theorem dX8_undo_51 : decode cX8_undo 51 = .ok (.goto (-29), 3) := by decide +kernel
theorem dX8_undo_54 : decode cX8_undo 54 = .ok (.aload_n 0, 1) := by decide +kernel
theorem dX8_undo_55 : decode cX8_undo 55 = .ok (.getfield 43, 3) := by decide +kernel
theorem dX8_undo_58 : decode cX8_undo 58 = .ok (.ireturn, 1) := by decide +kernel
theorem dX8_type_0 : decode cX8_type 0 = .ok (.iload_n 1, 1) := by decide +kernel
theorem dX8_type_1 : decode cX8_type 1 = .ok (.bipush 32, 2) := by decide +kernel
theorem dX8_type_3 : decode cX8_type 3 = .ok (.bipush 126, 2) := by decide +kernel
theorem dX8_type_5 : decode cX8_type 5 = .ok (.invokestatic 38, 3) := by decide +kernel
theorem dX8_type_8 : decode cX8_type 8 = .ok (.ifCond .ne 6, 3) := by decide +kernel
theorem dX8_type_11 : decode cX8_type 11 = .ok (.ldc 42, 2) := by decide +kernel
theorem dX8_type_13 : decode cX8_type 13 = .ok (.ireturn, 1) := by decide +kernel
theorem dX8_type_14 : decode cX8_type 14 = .ok (.aload_n 0, 1) := by decide +kernel
theorem dX8_type_15 : decode cX8_type 15 = .ok (.getfield 156, 3) := by decide +kernel
theorem dX8_type_18 : decode cX8_type 18 = .ok (.bipush 60, 2) := by decide +kernel
theorem dX8_type_20 : decode cX8_type 20 = .ok (.if_icmp .ne 6, 3) := by decide +kernel
theorem dX8_type_23 : decode cX8_type 23 = .ok (.ldc 47, 2) := by decide +kernel
theorem dX8_type_25 : decode cX8_type 25 = .ok (.ireturn, 1) := by decide +kernel
theorem dX8_type_26 : decode cX8_type 26 = .ok (.aload_n 0, 1) := by decide +kernel
theorem dX8_type_27 : decode cX8_type 27 = .ok (.getfield 22, 3) := by decide +kernel
theorem dX8_type_30 : decode cX8_type 30 = .ok (.aload_n 0, 1) := by decide +kernel
theorem dX8_type_31 : decode cX8_type 31 = .ok (.getfield 156, 3) := by decide +kernel
theorem dX8_type_34 : decode cX8_type 34 = .ok (.iload_n 1, 1) := by decide +kernel
theorem dX8_type_35 : decode cX8_type 35 = .ok (.i2c, 1) := by decide +kernel
theorem dX8_type_36 : decode cX8_type 36 = .ok (.castore, 1) := by decide +kernel
theorem dX8_type_37 : decode cX8_type 37 = .ok (.aload_n 0, 1) := by decide +kernel
theorem dX8_type_38 : decode cX8_type 38 = .ok (.dup, 1) := by decide +kernel
theorem dX8_type_39 : decode cX8_type 39 = .ok (.getfield 156, 3) := by decide +kernel
theorem dX8_type_42 : decode cX8_type 42 = .ok (.iconst 1, 1) := by decide +kernel
theorem dX8_type_43 : decode cX8_type 43 = .ok (.iadd, 1) := by decide +kernel
theorem dX8_type_44 : decode cX8_type 44 = .ok (.putfield 156, 3) := by decide +kernel
theorem dX8_type_47 : decode cX8_type 47 = .ok (.aload_n 0, 1) := by decide +kernel
theorem dX8_type_48 : decode cX8_type 48 = .ok (.getfield 156, 3) := by decide +kernel
theorem dX8_type_51 : decode cX8_type 51 = .ok (.ireturn, 1) := by decide +kernel
theorem dX8_clearText_0 : decode cX8_clearText 0 = .ok (.aload_n 0, 1) := by decide +kernel
theorem dX8_clearText_1 : decode cX8_clearText 1 = .ok (.getfield 156, 3) := by decide +kernel
theorem dX8_clearText_4 : decode cX8_clearText 4 = .ok (.istore_n 1, 1) := by decide +kernel
theorem dX8_clearText_5 : decode cX8_clearText 5 = .ok (.aload_n 0, 1) := by decide +kernel
theorem dX8_clearText_6 : decode cX8_clearText 6 = .ok (.iconst 0, 1) := by decide +kernel
theorem dX8_clearText_7 : decode cX8_clearText 7 = .ok (.putfield 156, 3) := by decide +kernel
theorem dX8_clearText_10 : decode cX8_clearText 10 = .ok (.iload_n 1, 1) := by decide +kernel
theorem dX8_clearText_11 : decode cX8_clearText 11 = .ok (.ireturn, 1) := by decide +kernel
theorem dX8_sign_0 : decode cX8_sign 0 = .ok (.aload_n 0, 1) := by decide +kernel
theorem dX8_sign_1 : decode cX8_sign 1 = .ok (.getfield 159, 3) := by decide +kernel
theorem dX8_sign_4 : decode cX8_sign 4 = .ok (.aload_n 0, 1) := by decide +kernel
theorem dX8_sign_5 : decode cX8_sign 5 = .ok (.getfield 156, 3) := by decide +kernel
theorem dX8_sign_8 : decode cX8_sign 8 = .ok (.if_icmp .ge 15, 3) := by decide +kernel
theorem dX8_sign_11 : decode cX8_sign 11 = .ok (.aload_n 0, 1) := by decide +kernel
theorem dX8_sign_12 : decode cX8_sign 12 = .ok (.getfield 22, 3) := by decide +kernel
theorem dX8_sign_15 : decode cX8_sign 15 = .ok (.aload_n 0, 1) := by decide +kernel
theorem dX8_sign_16 : decode cX8_sign 16 = .ok (.getfield 159, 3) := by decide +kernel
theorem dX8_sign_19 : decode cX8_sign 19 = .ok (.caload, 1) := by decide +kernel
theorem dX8_sign_20 : decode cX8_sign 20 = .ok (.goto 4, 3) := by decide +kernel
theorem dX8_sign_23 : decode cX8_sign 23 = .ok (.iconst (-1), 1) := by decide +kernel
theorem dX8_sign_24 : decode cX8_sign 24 = .ok (.ireturn, 1) := by decide +kernel
theorem dX8_isWord_0 : decode cX8_isWord 0 = .ok (.aload_n 0, 1) := by decide +kernel
theorem dX8_isWord_1 : decode cX8_isWord 1 = .ok (.getfield 159, 3) := by decide +kernel
theorem dX8_isWord_4 : decode cX8_isWord 4 = .ok (.iload_n 1, 1) := by decide +kernel
theorem dX8_isWord_5 : decode cX8_isWord 5 = .ok (.isub, 1) := by decide +kernel
theorem dX8_isWord_6 : decode cX8_isWord 6 = .ok (.iload 6, 2) := by decide +kernel
theorem dX8_isWord_8 : decode cX8_isWord 8 = .ok (.bipush 32, 2) := by decide +kernel
theorem dX8_isWord_10 : decode cX8_isWord 10 = .ok (.if_icmp .ne 7, 3) := by decide +kernel
theorem dX8_isWord_13 : decode cX8_isWord 13 = .ok (.iconst 4, 1) := by decide +kernel
theorem dX8_isWord_14 : decode cX8_isWord 14 = .ok (.goto 4, 3) := by decide +kernel
theorem dX8_isWord_17 : decode cX8_isWord 17 = .ok (.iconst 5, 1) := by decide +kernel
theorem dX8_isWord_18 : decode cX8_isWord 18 = .ok (.if_icmp .ne 7, 3) := by decide +kernel
theorem dX8_isWord_21 : decode cX8_isWord 21 = .ok (.iconst 1, 1) := by decide +kernel
theorem dX8_isWord_22 : decode cX8_isWord 22 = .ok (.goto 4, 3) := by decide +kernel
theorem dX8_isWord_25 : decode cX8_isWord 25 = .ok (.iconst 0, 1) := by decide +kernel
theorem dX8_isWord_26 : decode cX8_isWord 26 = .ok (.istore 7, 2) := by decide +kernel
theorem dX8_isWord_28 : decode cX8_isWord 28 = .ok (.iload 7, 2) := by decide +kernel
theorem dX8_isWord_30 : decode cX8_isWord 30 = .ok (.ifCond .eq 55, 3) := by decide +kernel
theorem dX8_isWord_33 : decode cX8_isWord 33 = .ok (.aload_n 0, 1) := by decide +kernel
theorem dX8_isWord_34 : decode cX8_isWord 34 = .ok (.getfield 22, 3) := by decide +kernel
theorem dX8_isWord_37 : decode cX8_isWord 37 = .ok (.iload_n 1, 1) := by decide +kernel
theorem dX8_isWord_38 : decode cX8_isWord 38 = .ok (.caload, 1) := by decide +kernel
theorem dX8_isWord_39 : decode cX8_isWord 39 = .ok (.iload_n 2, 1) := by decide +kernel
theorem dX8_isWord_40 : decode cX8_isWord 40 = .ok (.if_icmp .ne 45, 3) := by decide +kernel
theorem dX8_isWord_43 : decode cX8_isWord 43 = .ok (.aload_n 0, 1) := by decide +kernel
theorem dX8_isWord_44 : decode cX8_isWord 44 = .ok (.getfield 22, 3) := by decide +kernel
theorem dX8_isWord_47 : decode cX8_isWord 47 = .ok (.iload_n 1, 1) := by decide +kernel
theorem dX8_isWord_48 : decode cX8_isWord 48 = .ok (.iconst 1, 1) := by decide +kernel
theorem dX8_isWord_49 : decode cX8_isWord 49 = .ok (.iadd, 1) := by decide +kernel
theorem dX8_isWord_50 : decode cX8_isWord 50 = .ok (.caload, 1) := by decide +kernel
theorem dX8_isWord_51 : decode cX8_isWord 51 = .ok (.iload_n 3, 1) := by decide +kernel
theorem dX8_isWord_52 : decode cX8_isWord 52 = .ok (.if_icmp .ne 33, 3) := by decide +kernel
theorem dX8_isWord_55 : decode cX8_isWord 55 = .ok (.aload_n 0, 1) := by decide +kernel
theorem dX8_isWord_56 : decode cX8_isWord 56 = .ok (.getfield 22, 3) := by decide +kernel
theorem dX8_isWord_59 : decode cX8_isWord 59 = .ok (.iload_n 1, 1) := by decide +kernel
theorem dX8_isWord_60 : decode cX8_isWord 60 = .ok (.iconst 2, 1) := by decide +kernel
theorem dX8_isWord_61 : decode cX8_isWord 61 = .ok (.iadd, 1) := by decide +kernel
theorem dX8_isWord_62 : decode cX8_isWord 62 = .ok (.caload, 1) := by decide +kernel
theorem dX8_isWord_63 : decode cX8_isWord 63 = .ok (.iload 4, 2) := by decide +kernel
theorem dX8_isWord_65 : decode cX8_isWord 65 = .ok (.if_icmp .ne 20, 3) := by decide +kernel
theorem dX8_isWord_68 : decode cX8_isWord 68 = .ok (.aload_n 0, 1) := by decide +kernel
theorem dX8_isWord_69 : decode cX8_isWord 69 = .ok (.getfield 22, 3) := by decide +kernel
theorem dX8_isWord_72 : decode cX8_isWord 72 = .ok (.iload_n 1, 1) := by decide +kernel
theorem dX8_isWord_73 : decode cX8_isWord 73 = .ok (.iconst 3, 1) := by decide +kernel
theorem dX8_isWord_74 : decode cX8_isWord 74 = .ok (.iadd, 1) := by decide +kernel
theorem dX8_isWord_75 : decode cX8_isWord 75 = .ok (.caload, 1) := by decide +kernel
theorem dX8_isWord_76 : decode cX8_isWord 76 = .ok (.iload 5, 2) := by decide +kernel
theorem dX8_isWord_78 : decode cX8_isWord 78 = .ok (.if_icmp .ne 7, 3) := by decide +kernel
theorem dX8_isWord_81 : decode cX8_isWord 81 = .ok (.iconst 1, 1) := by decide +kernel
theorem dX8_isWord_82 : decode cX8_isWord 82 = .ok (.goto 4, 3) := by decide +kernel
theorem dX8_isWord_85 : decode cX8_isWord 85 = .ok (.iconst 0, 1) := by decide +kernel
theorem dX8_isWord_86 : decode cX8_isWord 86 = .ok (.istore 7, 2) := by decide +kernel
theorem dX8_isWord_88 : decode cX8_isWord 88 = .ok (.iload 7, 2) := by decide +kernel
theorem dX8_isWord_90 : decode cX8_isWord 90 = .ok (.ifCond .eq 27, 3) := by decide +kernel
theorem dX8_isWord_93 : decode cX8_isWord 93 = .ok (.iload 6, 2) := by decide +kernel
theorem dX8_isWord_95 : decode cX8_isWord 95 = .ok (.bipush 32, 2) := by decide +kernel
theorem dX8_isWord_97 : decode cX8_isWord 97 = .ok (.if_icmp .eq 16, 3) := by decide +kernel
theorem dX8_isWord_100 : decode cX8_isWord 100 = .ok (.aload_n 0, 1) := by decide +kernel
theorem dX8_isWord_101 : decode cX8_isWord 101 = .ok (.getfield 22, 3) := by decide +kernel
theorem dX8_isWord_104 : decode cX8_isWord 104 = .ok (.iload_n 1, 1) := by decide +kernel
theorem dX8_isWord_105 : decode cX8_isWord 105 = .ok (.iconst 4, 1) := by decide +kernel
theorem dX8_isWord_106 : decode cX8_isWord 106 = .ok (.iadd, 1) := by decide +kernel
theorem dX8_isWord_107 : decode cX8_isWord 107 = .ok (.caload, 1) := by decide +kernel
theorem dX8_isWord_108 : decode cX8_isWord 108 = .ok (.iload 6, 2) := by decide +kernel
theorem dX8_isWord_110 : decode cX8_isWord 110 = .ok (.if_icmp .ne 7, 3) := by decide +kernel
theorem dX8_isWord_113 : decode cX8_isWord 113 = .ok (.iconst 1, 1) := by decide +kernel
theorem dX8_isWord_114 : decode cX8_isWord 114 = .ok (.goto 4, 3) := by decide +kernel
theorem dX8_isWord_117 : decode cX8_isWord 117 = .ok (.iconst 0, 1) := by decide +kernel
theorem dX8_isWord_118 : decode cX8_isWord 118 = .ok (.ireturn, 1) := by decide +kernel
theorem dX8_wordFrom_0 : decode cX8_wordFrom 0 = .ok (.aload_n 0, 1) := by decide +kernel
theorem dX8_wordFrom_1 : decode cX8_wordFrom 1 = .ok (.iload_n 1, 1) := by decide +kernel
theorem dX8_wordFrom_2 : decode cX8_wordFrom 2 = .ok (.bipush 112, 2) := by decide +kernel
theorem dX8_wordFrom_4 : decode cX8_wordFrom 4 = .ok (.bipush 117, 2) := by decide +kernel
theorem dX8_wordFrom_6 : decode cX8_wordFrom 6 = .ok (.bipush 108, 2) := by decide +kernel
theorem dX8_wordFrom_8 : decode cX8_wordFrom 8 = .ok (.bipush 108, 2) := by decide +kernel
theorem dX8_wordFrom_10 : decode cX8_wordFrom 10 = .ok (.bipush 32, 2) := by decide +kernel
theorem dX8_wordFrom_12 : decode cX8_wordFrom 12 = .ok (.invokevirtual 162, 3) := by decide +kernel
theorem dX8_wordFrom_15 : decode cX8_wordFrom 15 = .ok (.ifCond .eq 5, 3) := by decide +kernel
theorem dX8_wordFrom_18 : decode cX8_wordFrom 18 = .ok (.iconst 0, 1) := by decide +kernel
theorem dX8_wordFrom_19 : decode cX8_wordFrom 19 = .ok (.ireturn, 1) := by decide +kernel
theorem dX8_wordFrom_20 : decode cX8_wordFrom 20 = .ok (.aload_n 0, 1) := by decide +kernel
theorem dX8_wordFrom_21 : decode cX8_wordFrom 21 = .ok (.iload_n 1, 1) := by decide +kernel
theorem dX8_wordFrom_22 : decode cX8_wordFrom 22 = .ok (.bipush 100, 2) := by decide +kernel
theorem dX8_wordFrom_24 : decode cX8_wordFrom 24 = .ok (.bipush 114, 2) := by decide +kernel
theorem dX8_wordFrom_26 : decode cX8_wordFrom 26 = .ok (.bipush 111, 2) := by decide +kernel
theorem dX8_wordFrom_28 : decode cX8_wordFrom 28 = .ok (.bipush 112, 2) := by decide +kernel
theorem dX8_wordFrom_30 : decode cX8_wordFrom 30 = .ok (.bipush 32, 2) := by decide +kernel
theorem dX8_wordFrom_32 : decode cX8_wordFrom 32 = .ok (.invokevirtual 162, 3) := by decide +kernel
theorem dX8_wordFrom_35 : decode cX8_wordFrom 35 = .ok (.ifCond .eq 5, 3) := by decide +kernel
theorem dX8_wordFrom_38 : decode cX8_wordFrom 38 = .ok (.iconst 1, 1) := by decide +kernel
theorem dX8_wordFrom_39 : decode cX8_wordFrom 39 = .ok (.ireturn, 1) := by decide +kernel
theorem dX8_wordFrom_40 : decode cX8_wordFrom 40 = .ok (.aload_n 0, 1) := by decide +kernel
theorem dX8_wordFrom_41 : decode cX8_wordFrom 41 = .ok (.iload_n 1, 1) := by decide +kernel
theorem dX8_wordFrom_42 : decode cX8_wordFrom 42 = .ok (.bipush 117, 2) := by decide +kernel
theorem dX8_wordFrom_44 : decode cX8_wordFrom 44 = .ok (.bipush 110, 2) := by decide +kernel
theorem dX8_wordFrom_46 : decode cX8_wordFrom 46 = .ok (.bipush 116, 2) := by decide +kernel
theorem dX8_wordFrom_48 : decode cX8_wordFrom 48 = .ok (.bipush 105, 2) := by decide +kernel
theorem dX8_wordFrom_50 : decode cX8_wordFrom 50 = .ok (.bipush 101, 2) := by decide +kernel
theorem dX8_wordFrom_52 : decode cX8_wordFrom 52 = .ok (.invokevirtual 162, 3) := by decide +kernel
theorem dX8_wordFrom_55 : decode cX8_wordFrom 55 = .ok (.ifCond .eq 5, 3) := by decide +kernel
theorem dX8_wordFrom_58 : decode cX8_wordFrom 58 = .ok (.iconst 2, 1) := by decide +kernel
theorem dX8_wordFrom_59 : decode cX8_wordFrom 59 = .ok (.ireturn, 1) := by decide +kernel
theorem dX8_wordFrom_60 : decode cX8_wordFrom 60 = .ok (.aload_n 0, 1) := by decide +kernel
theorem dX8_wordFrom_61 : decode cX8_wordFrom 61 = .ok (.iload_n 1, 1) := by decide +kernel
theorem dX8_wordFrom_62 : decode cX8_wordFrom 62 = .ok (.bipush 116, 2) := by decide +kernel
theorem dX8_wordFrom_64 : decode cX8_wordFrom 64 = .ok (.bipush 101, 2) := by decide +kernel
theorem dX8_wordFrom_66 : decode cX8_wordFrom 66 = .ok (.bipush 108, 2) := by decide +kernel
theorem dX8_wordFrom_68 : decode cX8_wordFrom 68 = .ok (.bipush 108, 2) := by decide +kernel
theorem dX8_wordFrom_70 : decode cX8_wordFrom 70 = .ok (.bipush 32, 2) := by decide +kernel
theorem dX8_wordFrom_72 : decode cX8_wordFrom 72 = .ok (.invokevirtual 162, 3) := by decide +kernel
theorem dX8_wordFrom_75 : decode cX8_wordFrom 75 = .ok (.ifCond .eq 5, 3) := by decide +kernel
theorem dX8_wordFrom_78 : decode cX8_wordFrom 78 = .ok (.iconst 3, 1) := by decide +kernel
theorem dX8_wordFrom_79 : decode cX8_wordFrom 79 = .ok (.ireturn, 1) := by decide +kernel
theorem dX8_wordFrom_80 : decode cX8_wordFrom 80 = .ok (.aload_n 0, 1) := by decide +kernel
theorem dX8_wordFrom_81 : decode cX8_wordFrom 81 = .ok (.iload_n 1, 1) := by decide +kernel
theorem dX8_wordFrom_82 : decode cX8_wordFrom 82 = .ok (.bipush 112, 2) := by decide +kernel
theorem dX8_wordFrom_84 : decode cX8_wordFrom 84 = .ok (.bipush 97, 2) := by decide +kernel
theorem dX8_wordFrom_86 : decode cX8_wordFrom 86 = .ok (.bipush 115, 2) := by decide +kernel
theorem dX8_wordFrom_88 : decode cX8_wordFrom 88 = .ok (.bipush 115, 2) := by decide +kernel
theorem dX8_wordFrom_90 : decode cX8_wordFrom 90 = .ok (.bipush 32, 2) := by decide +kernel
theorem dX8_wordFrom_92 : decode cX8_wordFrom 92 = .ok (.invokevirtual 162, 3) := by decide +kernel
theorem dX8_wordFrom_95 : decode cX8_wordFrom 95 = .ok (.ifCond .eq 7, 3) := by decide +kernel
theorem dX8_wordFrom_98 : decode cX8_wordFrom 98 = .ok (.iconst 4, 1) := by decide +kernel
theorem dX8_wordFrom_99 : decode cX8_wordFrom 99 = .ok (.goto 4, 3) := by decide +kernel
theorem dX8_wordFrom_102 : decode cX8_wordFrom 102 = .ok (.iconst (-1), 1) := by decide +kernel
theorem dX8_wordFrom_103 : decode cX8_wordFrom 103 = .ok (.ireturn, 1) := by decide +kernel
theorem dX8_digit_0 : decode cX8_digit 0 = .ok (.aload_n 0, 1) := by decide +kernel
theorem dX8_digit_1 : decode cX8_digit 1 = .ok (.invokevirtual 166, 3) := by decide +kernel
theorem dX8_digit_4 : decode cX8_digit 4 = .ok (.bipush 32, 2) := by decide +kernel
theorem dX8_digit_6 : decode cX8_digit 6 = .ok (.if_icmp .eq 5, 3) := by decide +kernel
theorem dX8_digit_9 : decode cX8_digit 9 = .ok (.iconst (-1), 1) := by decide +kernel
theorem dX8_digit_10 : decode cX8_digit 10 = .ok (.ireturn, 1) := by decide +kernel
theorem dX8_digit_11 : decode cX8_digit 11 = .ok (.aload_n 0, 1) := by decide +kernel
theorem dX8_digit_12 : decode cX8_digit 12 = .ok (.dup, 1) := by decide +kernel
theorem dX8_digit_13 : decode cX8_digit 13 = .ok (.getfield 159, 3) := by decide +kernel
theorem dX8_digit_16 : decode cX8_digit 16 = .ok (.iconst 1, 1) := by decide +kernel
theorem dX8_digit_17 : decode cX8_digit 17 = .ok (.iadd, 1) := by decide +kernel
theorem dX8_digit_18 : decode cX8_digit 18 = .ok (.putfield 159, 3) := by decide +kernel
theorem dX8_digit_21 : decode cX8_digit 21 = .ok (.aload_n 0, 1) := by decide +kernel
theorem dX8_digit_22 : decode cX8_digit 22 = .ok (.invokevirtual 166, 3) := by decide +kernel
theorem dX8_digit_25 : decode cX8_digit 25 = .ok (.bipush 48, 2) := by decide +kernel
theorem dX8_digit_27 : decode cX8_digit 27 = .ok (.bipush 57, 2) := by decide +kernel
theorem dX8_digit_29 : decode cX8_digit 29 = .ok (.invokestatic 38, 3) := by decide +kernel
theorem dX8_digit_32 : decode cX8_digit 32 = .ok (.ifCond .ne 5, 3) := by decide +kernel
theorem dX8_digit_35 : decode cX8_digit 35 = .ok (.iconst (-1), 1) := by decide +kernel
theorem dX8_digit_36 : decode cX8_digit 36 = .ok (.ireturn, 1) := by decide +kernel
theorem dX8_digit_37 : decode cX8_digit 37 = .ok (.aload_n 0, 1) := by decide +kernel
theorem dX8_digit_38 : decode cX8_digit 38 = .ok (.dup, 1) := by decide +kernel
theorem dX8_digit_39 : decode cX8_digit 39 = .ok (.getfield 159, 3) := by decide +kernel
theorem dX8_digit_42 : decode cX8_digit 42 = .ok (.iconst 1, 1) := by decide +kernel
theorem dX8_digit_43 : decode cX8_digit 43 = .ok (.iadd, 1) := by decide +kernel
theorem dX8_digit_44 : decode cX8_digit 44 = .ok (.putfield 159, 3) := by decide +kernel
theorem dX8_digit_47 : decode cX8_digit 47 = .ok (.aload_n 0, 1) := by decide +kernel
theorem dX8_digit_48 : decode cX8_digit 48 = .ok (.getfield 22, 3) := by decide +kernel
theorem dX8_digit_51 : decode cX8_digit 51 = .ok (.aload_n 0, 1) := by decide +kernel
theorem dX8_digit_52 : decode cX8_digit 52 = .ok (.getfield 159, 3) := by decide +kernel
theorem dX8_digit_55 : decode cX8_digit 55 = .ok (.iconst 1, 1) := by decide +kernel
theorem dX8_digit_56 : decode cX8_digit 56 = .ok (.isub, 1) := by decide +kernel
theorem dX8_digit_57 : decode cX8_digit 57 = .ok (.caload, 1) := by decide +kernel
theorem dX8_digit_58 : decode cX8_digit 58 = .ok (.bipush 48, 2) := by decide +kernel
theorem dX8_digit_60 : decode cX8_digit 60 = .ok (.isub, 1) := by decide +kernel
theorem dX8_digit_61 : decode cX8_digit 61 = .ok (.ireturn, 1) := by decide +kernel
theorem dX8_reads_0 : decode cX8_reads 0 = .ok (.aload_n 0, 1) := by decide +kernel
theorem dX8_reads_1 : decode cX8_reads 1 = .ok (.getfield 159, 3) := by decide +kernel
theorem dX8_reads_4 : decode cX8_reads 4 = .ok (.istore_n 1, 1) := by decide +kernel
theorem dX8_reads_5 : decode cX8_reads 5 = .ok (.aload_n 0, 1) := by decide +kernel
theorem dX8_reads_6 : decode cX8_reads 6 = .ok (.invokevirtual 166, 3) := by decide +kernel
theorem dX8_reads_9 : decode cX8_reads 9 = .ok (.bipush 97, 2) := by decide +kernel
theorem dX8_reads_11 : decode cX8_reads 11 = .ok (.bipush 122, 2) := by decide +kernel
theorem dX8_reads_13 : decode cX8_reads 13 = .ok (.invokestatic 38, 3) := by decide +kernel
theorem dX8_reads_16 : decode cX8_reads 16 = .ok (.ifCond .eq 16, 3) := by decide +kernel
theorem dX8_reads_19 : decode cX8_reads 19 = .ok (.aload_n 0, 1) := by decide +kernel
theorem dX8_reads_20 : decode cX8_reads 20 = .ok (.dup, 1) := by decide +kernel
theorem dX8_reads_21 : decode cX8_reads 21 = .ok (.getfield 159, 3) := by decide +kernel
theorem dX8_reads_24 : decode cX8_reads 24 = .ok (.iconst 1, 1) := by decide +kernel
theorem dX8_reads_25 : decode cX8_reads 25 = .ok (.iadd, 1) := by decide +kernel
theorem dX8_reads_26 : decode cX8_reads 26 = .ok (.putfield 159, 3) := by decide +kernel
theorem dX8_reads_29 : decode cX8_reads 29 = .ok (.goto (-24), 3) := by decide +kernel
theorem dX8_reads_32 : decode cX8_reads 32 = .ok (.aload_n 0, 1) := by decide +kernel
theorem dX8_reads_33 : decode cX8_reads 33 = .ok (.aload_n 0, 1) := by decide +kernel
theorem dX8_reads_34 : decode cX8_reads 34 = .ok (.iload_n 1, 1) := by decide +kernel
theorem dX8_reads_35 : decode cX8_reads 35 = .ok (.invokevirtual 169, 3) := by decide +kernel
theorem dX8_reads_38 : decode cX8_reads 38 = .ok (.putfield 172, 3) := by decide +kernel
theorem dX8_reads_41 : decode cX8_reads 41 = .ok (.aload_n 0, 1) := by decide +kernel
theorem dX8_reads_42 : decode cX8_reads 42 = .ok (.getfield 172, 3) := by decide +kernel
theorem dX8_reads_45 : decode cX8_reads 45 = .ok (.ifCond .ge 5, 3) := by decide +kernel
theorem dX8_reads_48 : decode cX8_reads 48 = .ok (.iconst 0, 1) := by decide +kernel
theorem dX8_reads_49 : decode cX8_reads 49 = .ok (.ireturn, 1) := by decide +kernel
theorem dX8_reads_50 : decode cX8_reads 50 = .ok (.aload_n 0, 1) := by decide +kernel
theorem dX8_reads_51 : decode cX8_reads 51 = .ok (.aload_n 0, 1) := by decide +kernel
theorem dX8_reads_52 : decode cX8_reads 52 = .ok (.invokevirtual 175, 3) := by decide +kernel
theorem dX8_reads_55 : decode cX8_reads 55 = .ok (.putfield 178, 3) := by decide +kernel
theorem dX8_reads_58 : decode cX8_reads 58 = .ok (.aload_n 0, 1) := by decide +kernel
theorem dX8_reads_59 : decode cX8_reads 59 = .ok (.getfield 178, 3) := by decide +kernel
theorem dX8_reads_62 : decode cX8_reads 62 = .ok (.ifCond .ge 10, 3) := by decide +kernel
theorem dX8_reads_65 : decode cX8_reads 65 = .ok (.aload_n 0, 1) := by decide +kernel
theorem dX8_reads_66 : decode cX8_reads 66 = .ok (.getfield 159, 3) := by decide +kernel
theorem dX8_reads_69 : decode cX8_reads 69 = .ok (.iload_n 1, 1) := by decide +kernel
theorem dX8_reads_70 : decode cX8_reads 70 = .ok (.isub, 1) := by decide +kernel
theorem dX8_reads_71 : decode cX8_reads 71 = .ok (.ireturn, 1) := by decide +kernel
theorem dX8_reads_72 : decode cX8_reads 72 = .ok (.aload_n 0, 1) := by decide +kernel
theorem dX8_reads_73 : decode cX8_reads 73 = .ok (.getfield 172, 3) := by decide +kernel
theorem dX8_reads_76 : decode cX8_reads 76 = .ok (.iconst 2, 1) := by decide +kernel
theorem dX8_reads_77 : decode cX8_reads 77 = .ok (.if_icmp .eq 15, 3) := by decide +kernel
theorem dX8_reads_80 : decode cX8_reads 80 = .ok (.aload_n 0, 1) := by decide +kernel
theorem dX8_reads_81 : decode cX8_reads 81 = .ok (.getfield 172, 3) := by decide +kernel
theorem dX8_reads_84 : decode cX8_reads 84 = .ok (.iconst 4, 1) := by decide +kernel
theorem dX8_reads_85 : decode cX8_reads 85 = .ok (.if_icmp .eq 7, 3) := by decide +kernel
theorem dX8_reads_88 : decode cX8_reads 88 = .ok (.iconst 1, 1) := by decide +kernel
theorem dX8_reads_89 : decode cX8_reads 89 = .ok (.goto 4, 3) := by decide +kernel
theorem dX8_reads_92 : decode cX8_reads 92 = .ok (.iconst 0, 1) := by decide +kernel
theorem dX8_reads_93 : decode cX8_reads 93 = .ok (.istore_n 2, 1) := by decide +kernel
theorem dX8_reads_94 : decode cX8_reads 94 = .ok (.aload_n 0, 1) := by decide +kernel
theorem dX8_reads_95 : decode cX8_reads 95 = .ok (.iload_n 2, 1) := by decide +kernel
theorem dX8_reads_96 : decode cX8_reads 96 = .ok (.ifCond .eq 10, 3) := by decide +kernel
theorem dX8_reads_99 : decode cX8_reads 99 = .ok (.aload_n 0, 1) := by decide +kernel
theorem dX8_reads_100 : decode cX8_reads 100 = .ok (.invokevirtual 175, 3) := by decide +kernel
theorem dX8_reads_103 : decode cX8_reads 103 = .ok (.goto 4, 3) := by decide +kernel
theorem dX8_reads_106 : decode cX8_reads 106 = .ok (.iconst 0, 1) := by decide +kernel
theorem dX8_reads_107 : decode cX8_reads 107 = .ok (.putfield 181, 3) := by decide +kernel
theorem dX8_reads_110 : decode cX8_reads 110 = .ok (.aload_n 0, 1) := by decide +kernel
theorem dX8_reads_111 : decode cX8_reads 111 = .ok (.getfield 181, 3) := by decide +kernel
theorem dX8_reads_114 : decode cX8_reads 114 = .ok (.ifCond .lt 12, 3) := by decide +kernel
theorem dX8_reads_117 : decode cX8_reads 117 = .ok (.aload_n 0, 1) := by decide +kernel
theorem dX8_reads_118 : decode cX8_reads 118 = .ok (.invokevirtual 166, 3) := by decide +kernel
theorem dX8_reads_121 : decode cX8_reads 121 = .ok (.bipush 59, 2) := by decide +kernel
theorem dX8_reads_123 : decode cX8_reads 123 = .ok (.if_icmp .eq 10, 3) := by decide +kernel
theorem dX8_reads_126 : decode cX8_reads 126 = .ok (.aload_n 0, 1) := by decide +kernel
theorem dX8_reads_127 : decode cX8_reads 127 = .ok (.getfield 159, 3) := by decide +kernel
theorem dX8_reads_130 : decode cX8_reads 130 = .ok (.iload_n 1, 1) := by decide +kernel
theorem dX8_reads_131 : decode cX8_reads 131 = .ok (.isub, 1) := by decide +kernel
theorem dX8_reads_132 : decode cX8_reads 132 = .ok (.ireturn, 1) := by decide +kernel
theorem dX8_reads_133 : decode cX8_reads 133 = .ok (.aload_n 0, 1) := by decide +kernel
theorem dX8_reads_134 : decode cX8_reads 134 = .ok (.dup, 1) := by decide +kernel
theorem dX8_reads_135 : decode cX8_reads 135 = .ok (.getfield 159, 3) := by decide +kernel
theorem dX8_reads_138 : decode cX8_reads 138 = .ok (.iconst 1, 1) := by decide +kernel
theorem dX8_reads_139 : decode cX8_reads 139 = .ok (.iadd, 1) := by decide +kernel
theorem dX8_reads_140 : decode cX8_reads 140 = .ok (.putfield 159, 3) := by decide +kernel
theorem dX8_reads_143 : decode cX8_reads 143 = .ok (.iconst (-1), 1) := by decide +kernel
theorem dX8_reads_144 : decode cX8_reads 144 = .ok (.ireturn, 1) := by decide +kernel
theorem dX8_does_0 : decode cX8_does 0 = .ok (.aload_n 0, 1) := by decide +kernel
theorem dX8_does_1 : decode cX8_does 1 = .ok (.getfield 172, 3) := by decide +kernel
theorem dX8_does_4 : decode cX8_does 4 = .ok (.tableswitch 81 0 3 #[32, 45, 59, 68], 32) := by decide +kernel
theorem dX8_does_36 : decode cX8_does 36 = .ok (.aload_n 0, 1) := by decide +kernel
theorem dX8_does_37 : decode cX8_does 37 = .ok (.aload_n 0, 1) := by decide +kernel
theorem dX8_does_38 : decode cX8_does 38 = .ok (.getfield 178, 3) := by decide +kernel
theorem dX8_does_41 : decode cX8_does 41 = .ok (.aload_n 0, 1) := by decide +kernel
theorem dX8_does_42 : decode cX8_does 42 = .ok (.getfield 181, 3) := by decide +kernel
theorem dX8_does_45 : decode cX8_does 45 = .ok (.invokevirtual 80, 3) := by decide +kernel
theorem dX8_does_48 : decode cX8_does 48 = .ok (.ireturn, 1) := by decide +kernel
theorem dX8_does_49 : decode cX8_does 49 = .ok (.aload_n 0, 1) := by decide +kernel
theorem dX8_does_50 : decode cX8_does 50 = .ok (.aload_n 0, 1) := by decide +kernel
theorem dX8_does_51 : decode cX8_does 51 = .ok (.getfield 178, 3) := by decide +kernel
theorem dX8_does_54 : decode cX8_does 54 = .ok (.aload_n 0, 1) := by decide +kernel
theorem dX8_does_55 : decode cX8_does 55 = .ok (.getfield 181, 3) := by decide +kernel
theorem dX8_does_58 : decode cX8_does 58 = .ok (.ineg, 1) := by decide +kernel
theorem dX8_does_59 : decode cX8_does 59 = .ok (.invokevirtual 80, 3) := by decide +kernel
theorem dX8_does_62 : decode cX8_does 62 = .ok (.ireturn, 1) := by decide +kernel
theorem dX8_does_63 : decode cX8_does 63 = .ok (.aload_n 0, 1) := by decide +kernel
theorem dX8_does_64 : decode cX8_does 64 = .ok (.aload_n 0, 1) := by decide +kernel
theorem dX8_does_65 : decode cX8_does 65 = .ok (.getfield 178, 3) := by decide +kernel
theorem dX8_does_68 : decode cX8_does 68 = .ok (.invokevirtual 84, 3) := by decide +kernel
theorem dX8_does_71 : decode cX8_does 71 = .ok (.ireturn, 1) := by decide +kernel
theorem dX8_does_72 : decode cX8_does 72 = .ok (.aload_n 0, 1) := by decide +kernel
theorem dX8_does_73 : decode cX8_does 73 = .ok (.aload_n 0, 1) := by decide +kernel
theorem dX8_does_74 : decode cX8_does 74 = .ok (.getfield 178, 3) := by decide +kernel
theorem dX8_does_77 : decode cX8_does 77 = .ok (.aload_n 0, 1) := by decide +kernel
theorem dX8_does_78 : decode cX8_does 78 = .ok (.getfield 181, 3) := by decide +kernel
theorem dX8_does_81 : decode cX8_does 81 = .ok (.invokevirtual 97, 3) := by decide +kernel
theorem dX8_does_84 : decode cX8_does 84 = .ok (.ireturn, 1) := by decide +kernel
theorem dX8_does_85 : decode cX8_does 85 = .ok (.aload_n 0, 1) := by decide +kernel
theorem dX8_does_86 : decode cX8_does 86 = .ok (.aload_n 0, 1) := by decide +kernel
theorem dX8_does_87 : decode cX8_does 87 = .ok (.getfield 178, 3) := by decide +kernel
theorem dX8_does_90 : decode cX8_does 90 = .ok (.invokevirtual 114, 3) := by decide +kernel
theorem dX8_does_93 : decode cX8_does 93 = .ok (.ireturn, 1) := by decide +kernel
theorem dX8_doesNext_0 : decode cX8_doesNext 0 = .ok (.aload_n 0, 1) := by decide +kernel
theorem dX8_doesNext_1 : decode cX8_doesNext 1 = .ok (.aload_n 0, 1) := by decide +kernel
theorem dX8_doesNext_2 : decode cX8_doesNext 2 = .ok (.invokevirtual 184, 3) := by decide +kernel
theorem dX8_doesNext_5 : decode cX8_doesNext 5 = .ok (.putfield 187, 3) := by decide +kernel
theorem dX8_doesNext_8 : decode cX8_doesNext 8 = .ok (.aload_n 0, 1) := by decide +kernel
theorem dX8_doesNext_9 : decode cX8_doesNext 9 = .ok (.getfield 187, 3) := by decide +kernel
theorem dX8_doesNext_12 : decode cX8_doesNext 12 = .ok (.ifCond .lt 5, 3) := by decide +kernel
theorem dX8_doesNext_15 : decode cX8_doesNext 15 = .ok (.iconst 1, 1) := by decide +kernel
theorem dX8_doesNext_16 : decode cX8_doesNext 16 = .ok (.ireturn, 1) := by decide +kernel
theorem dX8_doesNext_17 : decode cX8_doesNext 17 = .ok (.aload_n 0, 1) := by decide +kernel
theorem dX8_doesNext_18 : decode cX8_doesNext 18 = .ok (.ldc 123, 2) := by decide +kernel
theorem dX8_doesNext_20 : decode cX8_doesNext 20 = .ok (.putfield 187, 3) := by decide +kernel
theorem dX8_doesNext_23 : decode cX8_doesNext 23 = .ok (.aload_n 0, 1) := by decide +kernel
theorem dX8_doesNext_24 : decode cX8_doesNext 24 = .ok (.invokevirtual 190, 3) := by decide +kernel
theorem dX8_doesNext_27 : decode cX8_doesNext 27 = .ok (.istore_n 1, 1) := by decide +kernel
theorem dX8_doesNext_28 : decode cX8_doesNext 28 = .ok (.iload_n 1, 1) := by decide +kernel
theorem dX8_doesNext_29 : decode cX8_doesNext 29 = .ok (.ldc 42, 2) := by decide +kernel
theorem dX8_doesNext_31 : decode cX8_doesNext 31 = .ok (.if_icmp .le 7, 3) := by decide +kernel
theorem dX8_doesNext_34 : decode cX8_doesNext 34 = .ok (.iconst 0, 1) := by decide +kernel
theorem dX8_doesNext_35 : decode cX8_doesNext 35 = .ok (.goto 14, 3) := by decide +kernel
theorem dX8_doesNext_38 : decode cX8_doesNext 38 = .ok (.iload_n 1, 1) := by decide +kernel
theorem dX8_doesNext_39 : decode cX8_doesNext 39 = .ok (.ldc 42, 2) := by decide +kernel
theorem dX8_doesNext_41 : decode cX8_doesNext 41 = .ok (.if_icmp .ne 7, 3) := by decide +kernel
theorem dX8_doesNext_44 : decode cX8_doesNext 44 = .ok (.iconst 2, 1) := by decide +kernel
theorem dX8_doesNext_45 : decode cX8_doesNext 45 = .ok (.goto 4, 3) := by decide +kernel
theorem dX8_doesNext_48 : decode cX8_doesNext 48 = .ok (.iconst 3, 1) := by decide +kernel
theorem dX8_doesNext_49 : decode cX8_doesNext 49 = .ok (.ireturn, 1) := by decide +kernel
theorem dX8_faulty_0 : decode cX8_faulty 0 = .ok (.aload_n 0, 1) := by decide +kernel
theorem dX8_faulty_1 : decode cX8_faulty 1 = .ok (.invokevirtual 128, 3) := by decide +kernel
theorem dX8_faulty_4 : decode cX8_faulty 4 = .ok (.ldc 123, 2) := by decide +kernel
theorem dX8_faulty_6 : decode cX8_faulty 6 = .ok (.istore_n 1, 1) := by decide +kernel
theorem dX8_faulty_7 : decode cX8_faulty 7 = .ok (.aload_n 0, 1) := by decide +kernel
theorem dX8_faulty_8 : decode cX8_faulty 8 = .ok (.iconst 0, 1) := by decide +kernel
theorem dX8_faulty_9 : decode cX8_faulty 9 = .ok (.putfield 159, 3) := by decide +kernel
theorem dX8_faulty_12 : decode cX8_faulty 12 = .ok (.aload_n 0, 1) := by decide +kernel
theorem dX8_faulty_13 : decode cX8_faulty 13 = .ok (.getfield 159, 3) := by decide +kernel
theorem dX8_faulty_16 : decode cX8_faulty 16 = .ok (.aload_n 0, 1) := by decide +kernel
theorem dX8_faulty_17 : decode cX8_faulty 17 = .ok (.getfield 156, 3) := by decide +kernel
theorem dX8_faulty_20 : decode cX8_faulty 20 = .ok (.if_icmp .ge 38, 3) := by decide +kernel
theorem dX8_faulty_23 : decode cX8_faulty 23 = .ok (.iload_n 1, 1) := by decide +kernel
theorem dX8_faulty_24 : decode cX8_faulty 24 = .ok (.ldc 123, 2) := by decide +kernel
theorem dX8_faulty_26 : decode cX8_faulty 26 = .ok (.if_icmp .ne 32, 3) := by decide +kernel
theorem dX8_faulty_29 : decode cX8_faulty 29 = .ok (.aload_n 0, 1) := by decide +kernel
theorem dX8_faulty_30 : decode cX8_faulty 30 = .ok (.getfield 159, 3) := by decide +kernel
theorem dX8_faulty_33 : decode cX8_faulty 33 = .ok (.istore_n 2, 1) := by decide +kernel
theorem dX8_faulty_34 : decode cX8_faulty 34 = .ok (.aload_n 0, 1) := by decide +kernel
theorem dX8_faulty_35 : decode cX8_faulty 35 = .ok (.aload_n 0, 1) := by decide +kernel
theorem dX8_faulty_36 : decode cX8_faulty 36 = .ok (.invokevirtual 193, 3) := by decide +kernel
theorem dX8_faulty_39 : decode cX8_faulty 39 = .ok (.putfield 196, 3) := by decide +kernel
theorem dX8_faulty_42 : decode cX8_faulty 42 = .ok (.aload_n 0, 1) := by decide +kernel
theorem dX8_faulty_43 : decode cX8_faulty 43 = .ok (.getfield 196, 3) := by decide +kernel
theorem dX8_faulty_46 : decode cX8_faulty 46 = .ok (.ifCond .le 7, 3) := by decide +kernel
theorem dX8_faulty_49 : decode cX8_faulty 49 = .ok (.iload_n 2, 1) := by decide +kernel
theorem dX8_faulty_50 : decode cX8_faulty 50 = .ok (.goto 4, 3) := by decide +kernel
theorem dX8_faulty_53 : decode cX8_faulty 53 = .ok (.iload_n 1, 1) := by decide +kernel
theorem dX8_faulty_54 : decode cX8_faulty 54 = .ok (.istore_n 1, 1) := by decide +kernel
theorem dX8_faulty_55 : decode cX8_faulty 55 = .ok (.goto (-43), 3) := by decide +kernel
theorem dX8_faulty_58 : decode cX8_faulty 58 = .ok (.aload_n 0, 1) := by decide +kernel
theorem dX8_faulty_59 : decode cX8_faulty 59 = .ok (.invokevirtual 134, 3) := by decide +kernel
theorem dX8_faulty_62 : decode cX8_faulty 62 = .ok (.iload_n 1, 1) := by decide +kernel
theorem dX8_faulty_63 : decode cX8_faulty 63 = .ok (.ireturn, 1) := by decide +kernel
theorem dX8_fault_0 : decode cX8_fault 0 = .ok (.iload_n 1, 1) := by decide +kernel
theorem dX8_fault_1 : decode cX8_fault 1 = .ok (.iconst 0, 1) := by decide +kernel
theorem dX8_fault_2 : decode cX8_fault 2 = .ok (.iconst 2, 1) := by decide +kernel
theorem dX8_fault_3 : decode cX8_fault 3 = .ok (.invokestatic 38, 3) := by decide +kernel
theorem dX8_fault_6 : decode cX8_fault 6 = .ok (.ifCond .ne 6, 3) := by decide +kernel
theorem dX8_fault_9 : decode cX8_fault 9 = .ok (.ldc 42, 2) := by decide +kernel
theorem dX8_fault_11 : decode cX8_fault 11 = .ok (.ireturn, 1) := by decide +kernel
theorem dX8_fault_12 : decode cX8_fault 12 = .ok (.aload_n 0, 1) := by decide +kernel
theorem dX8_fault_13 : decode cX8_fault 13 = .ok (.invokevirtual 199, 3) := by decide +kernel
theorem dX8_fault_16 : decode cX8_fault 16 = .ok (.istore_n 2, 1) := by decide +kernel
theorem dX8_fault_17 : decode cX8_fault 17 = .ok (.iload_n 2, 1) := by decide +kernel
theorem dX8_fault_18 : decode cX8_fault 18 = .ok (.ldc 123, 2) := by decide +kernel
theorem dX8_fault_20 : decode cX8_fault 20 = .ok (.if_icmp .eq 7, 3) := by decide +kernel
theorem dX8_fault_23 : decode cX8_fault 23 = .ok (.iload_n 1, 1) := by decide +kernel
theorem dX8_fault_24 : decode cX8_fault 24 = .ok (.ifCond .ne 7, 3) := by decide +kernel
theorem dX8_fault_27 : decode cX8_fault 27 = .ok (.iload_n 2, 1) := by decide +kernel
theorem dX8_fault_28 : decode cX8_fault 28 = .ok (.goto 19, 3) := by decide +kernel
theorem dX8_fault_31 : decode cX8_fault 31 = .ok (.iload_n 1, 1) := by decide +kernel
theorem dX8_fault_32 : decode cX8_fault 32 = .ok (.iconst 1, 1) := by decide +kernel
theorem dX8_fault_33 : decode cX8_fault 33 = .ok (.if_icmp .ne 10, 3) := by decide +kernel
theorem dX8_fault_36 : decode cX8_fault 36 = .ok (.aload_n 0, 1) := by decide +kernel
theorem dX8_fault_37 : decode cX8_fault 37 = .ok (.getfield 196, 3) := by decide +kernel
theorem dX8_fault_40 : decode cX8_fault 40 = .ok (.goto 7, 3) := by decide +kernel
theorem dX8_fault_43 : decode cX8_fault 43 = .ok (.aload_n 0, 1) := by decide +kernel
theorem dX8_fault_44 : decode cX8_fault 44 = .ok (.getfield 187, 3) := by decide +kernel
theorem dX8_fault_47 : decode cX8_fault 47 = .ok (.ireturn, 1) := by decide +kernel
theorem dX8_play_0 : decode cX8_play 0 = .ok (.aload_n 0, 1) := by decide +kernel
theorem dX8_play_1 : decode cX8_play 1 = .ok (.invokevirtual 199, 3) := by decide +kernel
theorem dX8_play_4 : decode cX8_play 4 = .ok (.ldc 123, 2) := by decide +kernel
theorem dX8_play_6 : decode cX8_play 6 = .ok (.if_icmp .eq 6, 3) := by decide +kernel
theorem dX8_play_9 : decode cX8_play 9 = .ok (.ldc 83, 2) := by decide +kernel
theorem dX8_play_11 : decode cX8_play 11 = .ok (.ireturn, 1) := by decide +kernel
theorem dX8_play_12 : decode cX8_play 12 = .ok (.aload_n 0, 1) := by decide +kernel
theorem dX8_play_13 : decode cX8_play 13 = .ok (.invokevirtual 48, 3) := by decide +kernel
theorem dX8_play_16 : decode cX8_play 16 = .ok (.iconst 0, 1) := by decide +kernel
theorem dX8_play_17 : decode cX8_play 17 = .ok (.istore_n 1, 1) := by decide +kernel
theorem dX8_play_18 : decode cX8_play 18 = .ok (.aload_n 0, 1) := by decide +kernel
theorem dX8_play_19 : decode cX8_play 19 = .ok (.iconst 0, 1) := by decide +kernel
theorem dX8_play_20 : decode cX8_play 20 = .ok (.putfield 159, 3) := by decide +kernel
theorem dX8_play_23 : decode cX8_play 23 = .ok (.aload_n 0, 1) := by decide +kernel
theorem dX8_play_24 : decode cX8_play 24 = .ok (.getfield 159, 3) := by decide +kernel
theorem dX8_play_27 : decode cX8_play 27 = .ok (.aload_n 0, 1) := by decide +kernel
theorem dX8_play_28 : decode cX8_play 28 = .ok (.getfield 156, 3) := by decide +kernel
theorem dX8_play_31 : decode cX8_play 31 = .ok (.if_icmp .ge 21, 3) := by decide +kernel
theorem dX8_play_34 : decode cX8_play 34 = .ok (.iload_n 1, 1) := by decide +kernel
theorem dX8_play_35 : decode cX8_play 35 = .ok (.aload_n 0, 1) := by decide +kernel
theorem dX8_play_36 : decode cX8_play 36 = .ok (.invokevirtual 193, 3) := by decide +kernel
theorem dX8_play_39 : decode cX8_play 39 = .ok (.ifCond .ne 7, 3) := by decide +kernel
theorem dX8_play_42 : decode cX8_play 42 = .ok (.iconst 1, 1) := by decide +kernel
theorem dX8_play_43 : decode cX8_play 43 = .ok (.goto 4, 3) := by decide +kernel
theorem dX8_play_46 : decode cX8_play 46 = .ok (.iconst 0, 1) := by decide +kernel
theorem dX8_play_47 : decode cX8_play 47 = .ok (.iadd, 1) := by decide +kernel
theorem dX8_play_48 : decode cX8_play 48 = .ok (.istore_n 1, 1) := by decide +kernel
theorem dX8_play_49 : decode cX8_play 49 = .ok (.goto (-26), 3) := by decide +kernel
theorem dX8_play_52 : decode cX8_play 52 = .ok (.aload_n 0, 1) := by decide +kernel
theorem dX8_play_53 : decode cX8_play 53 = .ok (.iload_n 1, 1) := by decide +kernel
theorem dX8_play_54 : decode cX8_play 54 = .ok (.invokevirtual 51, 3) := by decide +kernel
theorem dX8_play_57 : decode cX8_play 57 = .ok (.ireturn, 1) := by decide +kernel
theorem dL_law_0 : decode cL_law 0 = .ok (.new 7, 3) := by decide +kernel
theorem dL_law_3 : decode cL_law 3 = .ok (.dup, 1) := by decide +kernel
theorem dL_law_4 : decode cL_law 4 = .ok (.invokespecial 9, 3) := by decide +kernel
theorem dL_law_7 : decode cL_law 7 = .ok (.astore_n 1, 1) := by decide +kernel
theorem dL_law_8 : decode cL_law 8 = .ok (.new 10, 3) := by decide +kernel
theorem dL_law_11 : decode cL_law 11 = .ok (.dup, 1) := by decide +kernel
theorem dL_law_12 : decode cL_law 12 = .ok (.invokespecial 12, 3) := by decide +kernel
theorem dL_law_15 : decode cL_law 15 = .ok (.astore_n 2, 1) := by decide +kernel
theorem dL_law_16 : decode cL_law 16 = .ok (.iconst 0, 1) := by decide +kernel
theorem dL_law_17 : decode cL_law 17 = .ok (.istore_n 3, 1) := by decide +kernel
theorem dL_law_18 : decode cL_law 18 = .ok (.iload_n 3, 1) := by decide +kernel
theorem dL_law_19 : decode cL_law 19 = .ok (.aload_n 0, 1) := by decide +kernel
theorem dL_law_20 : decode cL_law 20 = .ok (.arraylength, 1) := by decide +kernel
theorem dL_law_21 : decode cL_law 21 = .ok (.iconst 4, 1) := by decide +kernel
theorem dL_law_22 : decode cL_law 22 = .ok (.isub, 1) := by decide +kernel
theorem dL_law_23 : decode cL_law 23 = .ok (.if_icmp .gt 648, 3) := by decide +kernel
theorem dL_law_26 : decode cL_law 26 = .ok (.aload_n 0, 1) := by decide +kernel
theorem dL_law_27 : decode cL_law 27 = .ok (.iload_n 3, 1) := by decide +kernel
theorem dL_law_28 : decode cL_law 28 = .ok (.iaload, 1) := by decide +kernel
theorem dL_law_29 : decode cL_law 29 = .ok (.bipush 31, 2) := by decide +kernel
theorem dL_law_31 : decode cL_law 31 = .ok (.iand, 1) := by decide +kernel
theorem dL_law_32 : decode cL_law 32 = .ok (.tableswitch 633 0 20 #[100, 133, 166, 199, 222, 255, 268, 291, 324, 357, 390, 413, 456, 479, 492, 525, 548, 561, 584, 597, 620], 100) := by decide +kernel
theorem dL_law_132 : decode cL_law 132 = .ok (.aload_n 1, 1) := by decide +kernel
theorem dL_law_133 : decode cL_law 133 = .ok (.aload_n 0, 1) := by decide +kernel
theorem dL_law_134 : decode cL_law 134 = .ok (.iload_n 3, 1) := by decide +kernel
theorem dL_law_135 : decode cL_law 135 = .ok (.iconst 1, 1) := by decide +kernel
theorem dL_law_136 : decode cL_law 136 = .ok (.iadd, 1) := by decide +kernel
theorem dL_law_137 : decode cL_law 137 = .ok (.iaload, 1) := by decide +kernel
theorem dL_law_138 : decode cL_law 138 = .ok (.aload_n 0, 1) := by decide +kernel
theorem dL_law_139 : decode cL_law 139 = .ok (.iload_n 3, 1) := by decide +kernel
theorem dL_law_140 : decode cL_law 140 = .ok (.iconst 2, 1) := by decide +kernel
theorem dL_law_141 : decode cL_law 141 = .ok (.iadd, 1) := by decide +kernel
theorem dL_law_142 : decode cL_law 142 = .ok (.iaload, 1) := by decide +kernel
theorem dL_law_143 : decode cL_law 143 = .ok (.invokevirtual 13, 3) := by decide +kernel
theorem dL_law_146 : decode cL_law 146 = .ok (.aload_n 2, 1) := by decide +kernel
theorem dL_law_147 : decode cL_law 147 = .ok (.aload_n 0, 1) := by decide +kernel
theorem dL_law_148 : decode cL_law 148 = .ok (.iload_n 3, 1) := by decide +kernel
theorem dL_law_149 : decode cL_law 149 = .ok (.iconst 1, 1) := by decide +kernel
theorem dL_law_150 : decode cL_law 150 = .ok (.iadd, 1) := by decide +kernel
theorem dL_law_151 : decode cL_law 151 = .ok (.iaload, 1) := by decide +kernel
theorem dL_law_152 : decode cL_law 152 = .ok (.aload_n 0, 1) := by decide +kernel
theorem dL_law_153 : decode cL_law 153 = .ok (.iload_n 3, 1) := by decide +kernel
theorem dL_law_154 : decode cL_law 154 = .ok (.iconst 2, 1) := by decide +kernel
theorem dL_law_155 : decode cL_law 155 = .ok (.iadd, 1) := by decide +kernel
theorem dL_law_156 : decode cL_law 156 = .ok (.iaload, 1) := by decide +kernel
theorem dL_law_157 : decode cL_law 157 = .ok (.invokevirtual 17, 3) := by decide +kernel
theorem dL_law_160 : decode cL_law 160 = .ok (.if_icmp .eq 505, 3) := by decide +kernel
theorem dL_law_163 : decode cL_law 163 = .ok (.iconst 0, 1) := by decide +kernel
theorem dL_law_164 : decode cL_law 164 = .ok (.ireturn, 1) := by decide +kernel
theorem dL_law_165 : decode cL_law 165 = .ok (.aload_n 1, 1) := by decide +kernel
theorem dL_law_166 : decode cL_law 166 = .ok (.aload_n 0, 1) := by decide +kernel
theorem dL_law_167 : decode cL_law 167 = .ok (.iload_n 3, 1) := by decide +kernel
theorem dL_law_168 : decode cL_law 168 = .ok (.iconst 1, 1) := by decide +kernel
theorem dL_law_169 : decode cL_law 169 = .ok (.iadd, 1) := by decide +kernel
theorem dL_law_170 : decode cL_law 170 = .ok (.iaload, 1) := by decide +kernel
theorem dL_law_171 : decode cL_law 171 = .ok (.aload_n 0, 1) := by decide +kernel
theorem dL_law_172 : decode cL_law 172 = .ok (.iload_n 3, 1) := by decide +kernel
theorem dL_law_173 : decode cL_law 173 = .ok (.iconst 2, 1) := by decide +kernel
theorem dL_law_174 : decode cL_law 174 = .ok (.iadd, 1) := by decide +kernel
theorem dL_law_175 : decode cL_law 175 = .ok (.iaload, 1) := by decide +kernel
theorem dL_law_176 : decode cL_law 176 = .ok (.invokevirtual 18, 3) := by decide +kernel
theorem dL_law_179 : decode cL_law 179 = .ok (.aload_n 2, 1) := by decide +kernel
theorem dL_law_180 : decode cL_law 180 = .ok (.aload_n 0, 1) := by decide +kernel
theorem dL_law_181 : decode cL_law 181 = .ok (.iload_n 3, 1) := by decide +kernel
theorem dL_law_182 : decode cL_law 182 = .ok (.iconst 1, 1) := by decide +kernel
theorem dL_law_183 : decode cL_law 183 = .ok (.iadd, 1) := by decide +kernel
theorem dL_law_184 : decode cL_law 184 = .ok (.iaload, 1) := by decide +kernel
theorem dL_law_185 : decode cL_law 185 = .ok (.aload_n 0, 1) := by decide +kernel
theorem dL_law_186 : decode cL_law 186 = .ok (.iload_n 3, 1) := by decide +kernel
theorem dL_law_187 : decode cL_law 187 = .ok (.iconst 2, 1) := by decide +kernel
theorem dL_law_188 : decode cL_law 188 = .ok (.iadd, 1) := by decide +kernel
theorem dL_law_189 : decode cL_law 189 = .ok (.iaload, 1) := by decide +kernel
theorem dL_law_190 : decode cL_law 190 = .ok (.invokevirtual 21, 3) := by decide +kernel
theorem dL_law_193 : decode cL_law 193 = .ok (.if_icmp .eq 472, 3) := by decide +kernel
theorem dL_law_196 : decode cL_law 196 = .ok (.iconst 0, 1) := by decide +kernel
theorem dL_law_197 : decode cL_law 197 = .ok (.ireturn, 1) := by decide +kernel
theorem dL_law_198 : decode cL_law 198 = .ok (.aload_n 1, 1) := by decide +kernel
theorem dL_law_199 : decode cL_law 199 = .ok (.aload_n 0, 1) := by decide +kernel
theorem dL_law_200 : decode cL_law 200 = .ok (.iload_n 3, 1) := by decide +kernel
theorem dL_law_201 : decode cL_law 201 = .ok (.iconst 1, 1) := by decide +kernel
theorem dL_law_202 : decode cL_law 202 = .ok (.iadd, 1) := by decide +kernel
theorem dL_law_203 : decode cL_law 203 = .ok (.iaload, 1) := by decide +kernel
theorem dL_law_204 : decode cL_law 204 = .ok (.aload_n 0, 1) := by decide +kernel
theorem dL_law_205 : decode cL_law 205 = .ok (.iload_n 3, 1) := by decide +kernel
theorem dL_law_206 : decode cL_law 206 = .ok (.iconst 2, 1) := by decide +kernel
theorem dL_law_207 : decode cL_law 207 = .ok (.iadd, 1) := by decide +kernel
theorem dL_law_208 : decode cL_law 208 = .ok (.iaload, 1) := by decide +kernel
theorem dL_law_209 : decode cL_law 209 = .ok (.invokevirtual 22, 3) := by decide +kernel
theorem dL_law_212 : decode cL_law 212 = .ok (.aload_n 2, 1) := by decide +kernel
theorem dL_law_213 : decode cL_law 213 = .ok (.aload_n 0, 1) := by decide +kernel
theorem dL_law_214 : decode cL_law 214 = .ok (.iload_n 3, 1) := by decide +kernel
theorem dL_law_215 : decode cL_law 215 = .ok (.iconst 1, 1) := by decide +kernel
theorem dL_law_216 : decode cL_law 216 = .ok (.iadd, 1) := by decide +kernel
theorem dL_law_217 : decode cL_law 217 = .ok (.iaload, 1) := by decide +kernel
theorem dL_law_218 : decode cL_law 218 = .ok (.aload_n 0, 1) := by decide +kernel
theorem dL_law_219 : decode cL_law 219 = .ok (.iload_n 3, 1) := by decide +kernel
theorem dL_law_220 : decode cL_law 220 = .ok (.iconst 2, 1) := by decide +kernel
theorem dL_law_221 : decode cL_law 221 = .ok (.iadd, 1) := by decide +kernel
theorem dL_law_222 : decode cL_law 222 = .ok (.iaload, 1) := by decide +kernel
theorem dL_law_223 : decode cL_law 223 = .ok (.invokevirtual 25, 3) := by decide +kernel
theorem dL_law_226 : decode cL_law 226 = .ok (.if_icmp .eq 439, 3) := by decide +kernel
theorem dL_law_229 : decode cL_law 229 = .ok (.iconst 0, 1) := by decide +kernel
theorem dL_law_230 : decode cL_law 230 = .ok (.ireturn, 1) := by decide +kernel
theorem dL_law_231 : decode cL_law 231 = .ok (.aload_n 1, 1) := by decide +kernel
theorem dL_law_232 : decode cL_law 232 = .ok (.aload_n 0, 1) := by decide +kernel
theorem dL_law_233 : decode cL_law 233 = .ok (.iload_n 3, 1) := by decide +kernel
theorem dL_law_234 : decode cL_law 234 = .ok (.iconst 1, 1) := by decide +kernel
theorem dL_law_235 : decode cL_law 235 = .ok (.iadd, 1) := by decide +kernel
theorem dL_law_236 : decode cL_law 236 = .ok (.iaload, 1) := by decide +kernel
theorem dL_law_237 : decode cL_law 237 = .ok (.invokevirtual 26, 3) := by decide +kernel
theorem dL_law_240 : decode cL_law 240 = .ok (.aload_n 2, 1) := by decide +kernel
theorem dL_law_241 : decode cL_law 241 = .ok (.aload_n 0, 1) := by decide +kernel
theorem dL_law_242 : decode cL_law 242 = .ok (.iload_n 3, 1) := by decide +kernel
theorem dL_law_243 : decode cL_law 243 = .ok (.iconst 1, 1) := by decide +kernel
theorem dL_law_244 : decode cL_law 244 = .ok (.iadd, 1) := by decide +kernel
theorem dL_law_245 : decode cL_law 245 = .ok (.iaload, 1) := by decide +kernel
theorem dL_law_246 : decode cL_law 246 = .ok (.invokevirtual 30, 3) := by decide +kernel
theorem dL_law_249 : decode cL_law 249 = .ok (.if_icmp .eq 416, 3) := by decide +kernel
theorem dL_law_252 : decode cL_law 252 = .ok (.iconst 0, 1) := by decide +kernel
theorem dL_law_253 : decode cL_law 253 = .ok (.ireturn, 1) := by decide +kernel
theorem dL_law_254 : decode cL_law 254 = .ok (.aload_n 1, 1) := by decide +kernel
theorem dL_law_255 : decode cL_law 255 = .ok (.aload_n 0, 1) := by decide +kernel
theorem dL_law_256 : decode cL_law 256 = .ok (.iload_n 3, 1) := by decide +kernel
theorem dL_law_257 : decode cL_law 257 = .ok (.iconst 1, 1) := by decide +kernel
theorem dL_law_258 : decode cL_law 258 = .ok (.iadd, 1) := by decide +kernel
theorem dL_law_259 : decode cL_law 259 = .ok (.iaload, 1) := by decide +kernel
theorem dL_law_260 : decode cL_law 260 = .ok (.aload_n 0, 1) := by decide +kernel
theorem dL_law_261 : decode cL_law 261 = .ok (.iload_n 3, 1) := by decide +kernel
theorem dL_law_262 : decode cL_law 262 = .ok (.iconst 2, 1) := by decide +kernel
theorem dL_law_263 : decode cL_law 263 = .ok (.iadd, 1) := by decide +kernel
theorem dL_law_264 : decode cL_law 264 = .ok (.iaload, 1) := by decide +kernel
theorem dL_law_265 : decode cL_law 265 = .ok (.invokevirtual 31, 3) := by decide +kernel
theorem dL_law_268 : decode cL_law 268 = .ok (.aload_n 2, 1) := by decide +kernel
theorem dL_law_269 : decode cL_law 269 = .ok (.aload_n 0, 1) := by decide +kernel
theorem dL_law_270 : decode cL_law 270 = .ok (.iload_n 3, 1) := by decide +kernel
theorem dL_law_271 : decode cL_law 271 = .ok (.iconst 1, 1) := by decide +kernel
theorem dL_law_272 : decode cL_law 272 = .ok (.iadd, 1) := by decide +kernel
theorem dL_law_273 : decode cL_law 273 = .ok (.iaload, 1) := by decide +kernel
theorem dL_law_274 : decode cL_law 274 = .ok (.aload_n 0, 1) := by decide +kernel
theorem dL_law_275 : decode cL_law 275 = .ok (.iload_n 3, 1) := by decide +kernel
theorem dL_law_276 : decode cL_law 276 = .ok (.iconst 2, 1) := by decide +kernel
theorem dL_law_277 : decode cL_law 277 = .ok (.iadd, 1) := by decide +kernel
theorem dL_law_278 : decode cL_law 278 = .ok (.iaload, 1) := by decide +kernel
theorem dL_law_279 : decode cL_law 279 = .ok (.invokevirtual 34, 3) := by decide +kernel
theorem dL_law_282 : decode cL_law 282 = .ok (.if_icmp .eq 383, 3) := by decide +kernel
theorem dL_law_285 : decode cL_law 285 = .ok (.iconst 0, 1) := by decide +kernel
theorem dL_law_286 : decode cL_law 286 = .ok (.ireturn, 1) := by decide +kernel
theorem dL_law_287 : decode cL_law 287 = .ok (.aload_n 1, 1) := by decide +kernel
theorem dL_law_288 : decode cL_law 288 = .ok (.invokevirtual 35, 3) := by decide +kernel
theorem dL_law_291 : decode cL_law 291 = .ok (.aload_n 2, 1) := by decide +kernel
theorem dL_law_292 : decode cL_law 292 = .ok (.invokevirtual 39, 3) := by decide +kernel
theorem dL_law_295 : decode cL_law 295 = .ok (.if_icmp .eq 370, 3) := by decide +kernel
theorem dL_law_298 : decode cL_law 298 = .ok (.iconst 0, 1) := by decide +kernel
theorem dL_law_299 : decode cL_law 299 = .ok (.ireturn, 1) := by decide +kernel
theorem dL_law_300 : decode cL_law 300 = .ok (.aload_n 1, 1) := by decide +kernel
theorem dL_law_301 : decode cL_law 301 = .ok (.aload_n 0, 1) := by decide +kernel
theorem dL_law_302 : decode cL_law 302 = .ok (.iload_n 3, 1) := by decide +kernel
theorem dL_law_303 : decode cL_law 303 = .ok (.iconst 1, 1) := by decide +kernel
theorem dL_law_304 : decode cL_law 304 = .ok (.iadd, 1) := by decide +kernel
theorem dL_law_305 : decode cL_law 305 = .ok (.iaload, 1) := by decide +kernel
theorem dL_law_306 : decode cL_law 306 = .ok (.invokevirtual 40, 3) := by decide +kernel
theorem dL_law_309 : decode cL_law 309 = .ok (.aload_n 2, 1) := by decide +kernel
theorem dL_law_310 : decode cL_law 310 = .ok (.aload_n 0, 1) := by decide +kernel
theorem dL_law_311 : decode cL_law 311 = .ok (.iload_n 3, 1) := by decide +kernel
theorem dL_law_312 : decode cL_law 312 = .ok (.iconst 1, 1) := by decide +kernel
theorem dL_law_313 : decode cL_law 313 = .ok (.iadd, 1) := by decide +kernel
theorem dL_law_314 : decode cL_law 314 = .ok (.iaload, 1) := by decide +kernel
theorem dL_law_315 : decode cL_law 315 = .ok (.invokevirtual 43, 3) := by decide +kernel
theorem dL_law_318 : decode cL_law 318 = .ok (.if_icmp .eq 347, 3) := by decide +kernel
theorem dL_law_321 : decode cL_law 321 = .ok (.iconst 0, 1) := by decide +kernel
theorem dL_law_322 : decode cL_law 322 = .ok (.ireturn, 1) := by decide +kernel
theorem dL_law_323 : decode cL_law 323 = .ok (.aload_n 1, 1) := by decide +kernel
theorem dL_law_324 : decode cL_law 324 = .ok (.aload_n 0, 1) := by decide +kernel
theorem dL_law_325 : decode cL_law 325 = .ok (.iload_n 3, 1) := by decide +kernel
theorem dL_law_326 : decode cL_law 326 = .ok (.iconst 1, 1) := by decide +kernel
theorem dL_law_327 : decode cL_law 327 = .ok (.iadd, 1) := by decide +kernel
theorem dL_law_328 : decode cL_law 328 = .ok (.iaload, 1) := by decide +kernel
theorem dL_law_329 : decode cL_law 329 = .ok (.aload_n 0, 1) := by decide +kernel
theorem dL_law_330 : decode cL_law 330 = .ok (.iload_n 3, 1) := by decide +kernel
theorem dL_law_331 : decode cL_law 331 = .ok (.iconst 2, 1) := by decide +kernel
theorem dL_law_332 : decode cL_law 332 = .ok (.iadd, 1) := by decide +kernel
theorem dL_law_333 : decode cL_law 333 = .ok (.iaload, 1) := by decide +kernel
theorem dL_law_334 : decode cL_law 334 = .ok (.invokevirtual 44, 3) := by decide +kernel
theorem dL_law_337 : decode cL_law 337 = .ok (.aload_n 2, 1) := by decide +kernel
theorem dL_law_338 : decode cL_law 338 = .ok (.aload_n 0, 1) := by decide +kernel
theorem dL_law_339 : decode cL_law 339 = .ok (.iload_n 3, 1) := by decide +kernel
theorem dL_law_340 : decode cL_law 340 = .ok (.iconst 1, 1) := by decide +kernel
theorem dL_law_341 : decode cL_law 341 = .ok (.iadd, 1) := by decide +kernel
theorem dL_law_342 : decode cL_law 342 = .ok (.iaload, 1) := by decide +kernel
theorem dL_law_343 : decode cL_law 343 = .ok (.aload_n 0, 1) := by decide +kernel
theorem dL_law_344 : decode cL_law 344 = .ok (.iload_n 3, 1) := by decide +kernel
theorem dL_law_345 : decode cL_law 345 = .ok (.iconst 2, 1) := by decide +kernel
theorem dL_law_346 : decode cL_law 346 = .ok (.iadd, 1) := by decide +kernel
theorem dL_law_347 : decode cL_law 347 = .ok (.iaload, 1) := by decide +kernel
theorem dL_law_348 : decode cL_law 348 = .ok (.invokevirtual 47, 3) := by decide +kernel
theorem dL_law_351 : decode cL_law 351 = .ok (.if_icmp .eq 314, 3) := by decide +kernel
theorem dL_law_354 : decode cL_law 354 = .ok (.iconst 0, 1) := by decide +kernel
theorem dL_law_355 : decode cL_law 355 = .ok (.ireturn, 1) := by decide +kernel
theorem dL_law_356 : decode cL_law 356 = .ok (.aload_n 1, 1) := by decide +kernel
theorem dL_law_357 : decode cL_law 357 = .ok (.aload_n 0, 1) := by decide +kernel
theorem dL_law_358 : decode cL_law 358 = .ok (.iload_n 3, 1) := by decide +kernel
theorem dL_law_359 : decode cL_law 359 = .ok (.iconst 1, 1) := by decide +kernel
theorem dL_law_360 : decode cL_law 360 = .ok (.iadd, 1) := by decide +kernel
theorem dL_law_361 : decode cL_law 361 = .ok (.iaload, 1) := by decide +kernel
theorem dL_law_362 : decode cL_law 362 = .ok (.aload_n 0, 1) := by decide +kernel
theorem dL_law_363 : decode cL_law 363 = .ok (.iload_n 3, 1) := by decide +kernel
theorem dL_law_364 : decode cL_law 364 = .ok (.iconst 2, 1) := by decide +kernel
theorem dL_law_365 : decode cL_law 365 = .ok (.iadd, 1) := by decide +kernel
theorem dL_law_366 : decode cL_law 366 = .ok (.iaload, 1) := by decide +kernel
theorem dL_law_367 : decode cL_law 367 = .ok (.invokevirtual 48, 3) := by decide +kernel
theorem dL_law_370 : decode cL_law 370 = .ok (.aload_n 2, 1) := by decide +kernel
theorem dL_law_371 : decode cL_law 371 = .ok (.aload_n 0, 1) := by decide +kernel
theorem dL_law_372 : decode cL_law 372 = .ok (.iload_n 3, 1) := by decide +kernel
theorem dL_law_373 : decode cL_law 373 = .ok (.iconst 1, 1) := by decide +kernel
theorem dL_law_374 : decode cL_law 374 = .ok (.iadd, 1) := by decide +kernel
theorem dL_law_375 : decode cL_law 375 = .ok (.iaload, 1) := by decide +kernel
theorem dL_law_376 : decode cL_law 376 = .ok (.aload_n 0, 1) := by decide +kernel
theorem dL_law_377 : decode cL_law 377 = .ok (.iload_n 3, 1) := by decide +kernel
theorem dL_law_378 : decode cL_law 378 = .ok (.iconst 2, 1) := by decide +kernel
theorem dL_law_379 : decode cL_law 379 = .ok (.iadd, 1) := by decide +kernel
theorem dL_law_380 : decode cL_law 380 = .ok (.iaload, 1) := by decide +kernel
theorem dL_law_381 : decode cL_law 381 = .ok (.invokevirtual 51, 3) := by decide +kernel
theorem dL_law_384 : decode cL_law 384 = .ok (.if_icmp .eq 281, 3) := by decide +kernel
theorem dL_law_387 : decode cL_law 387 = .ok (.iconst 0, 1) := by decide +kernel
theorem dL_law_388 : decode cL_law 388 = .ok (.ireturn, 1) := by decide +kernel
theorem dL_law_389 : decode cL_law 389 = .ok (.aload_n 1, 1) := by decide +kernel
theorem dL_law_390 : decode cL_law 390 = .ok (.aload_n 0, 1) := by decide +kernel
theorem dL_law_391 : decode cL_law 391 = .ok (.iload_n 3, 1) := by decide +kernel
theorem dL_law_392 : decode cL_law 392 = .ok (.iconst 1, 1) := by decide +kernel
theorem dL_law_393 : decode cL_law 393 = .ok (.iadd, 1) := by decide +kernel
theorem dL_law_394 : decode cL_law 394 = .ok (.iaload, 1) := by decide +kernel
theorem dL_law_395 : decode cL_law 395 = .ok (.aload_n 0, 1) := by decide +kernel
theorem dL_law_396 : decode cL_law 396 = .ok (.iload_n 3, 1) := by decide +kernel
theorem dL_law_397 : decode cL_law 397 = .ok (.iconst 2, 1) := by decide +kernel
theorem dL_law_398 : decode cL_law 398 = .ok (.iadd, 1) := by decide +kernel
theorem dL_law_399 : decode cL_law 399 = .ok (.iaload, 1) := by decide +kernel
theorem dL_law_400 : decode cL_law 400 = .ok (.invokevirtual 52, 3) := by decide +kernel
theorem dL_law_403 : decode cL_law 403 = .ok (.aload_n 2, 1) := by decide +kernel
theorem dL_law_404 : decode cL_law 404 = .ok (.aload_n 0, 1) := by decide +kernel
theorem dL_law_405 : decode cL_law 405 = .ok (.iload_n 3, 1) := by decide +kernel
theorem dL_law_406 : decode cL_law 406 = .ok (.iconst 1, 1) := by decide +kernel
theorem dL_law_407 : decode cL_law 407 = .ok (.iadd, 1) := by decide +kernel
theorem dL_law_408 : decode cL_law 408 = .ok (.iaload, 1) := by decide +kernel
theorem dL_law_409 : decode cL_law 409 = .ok (.aload_n 0, 1) := by decide +kernel
theorem dL_law_410 : decode cL_law 410 = .ok (.iload_n 3, 1) := by decide +kernel
theorem dL_law_411 : decode cL_law 411 = .ok (.iconst 2, 1) := by decide +kernel
theorem dL_law_412 : decode cL_law 412 = .ok (.iadd, 1) := by decide +kernel
theorem dL_law_413 : decode cL_law 413 = .ok (.iaload, 1) := by decide +kernel
theorem dL_law_414 : decode cL_law 414 = .ok (.invokevirtual 55, 3) := by decide +kernel
theorem dL_law_417 : decode cL_law 417 = .ok (.if_icmp .eq 248, 3) := by decide +kernel
theorem dL_law_420 : decode cL_law 420 = .ok (.iconst 0, 1) := by decide +kernel
theorem dL_law_421 : decode cL_law 421 = .ok (.ireturn, 1) := by decide +kernel
theorem dL_law_422 : decode cL_law 422 = .ok (.aload_n 1, 1) := by decide +kernel
theorem dL_law_423 : decode cL_law 423 = .ok (.aload_n 0, 1) := by decide +kernel
theorem dL_law_424 : decode cL_law 424 = .ok (.iload_n 3, 1) := by decide +kernel
theorem dL_law_425 : decode cL_law 425 = .ok (.iconst 1, 1) := by decide +kernel
theorem dL_law_426 : decode cL_law 426 = .ok (.iadd, 1) := by decide +kernel
theorem dL_law_427 : decode cL_law 427 = .ok (.iaload, 1) := by decide +kernel
theorem dL_law_428 : decode cL_law 428 = .ok (.invokevirtual 56, 3) := by decide +kernel
theorem dL_law_431 : decode cL_law 431 = .ok (.aload_n 2, 1) := by decide +kernel
theorem dL_law_432 : decode cL_law 432 = .ok (.aload_n 0, 1) := by decide +kernel
theorem dL_law_433 : decode cL_law 433 = .ok (.iload_n 3, 1) := by decide +kernel
theorem dL_law_434 : decode cL_law 434 = .ok (.iconst 1, 1) := by decide +kernel
theorem dL_law_435 : decode cL_law 435 = .ok (.iadd, 1) := by decide +kernel
theorem dL_law_436 : decode cL_law 436 = .ok (.iaload, 1) := by decide +kernel
theorem dL_law_437 : decode cL_law 437 = .ok (.invokevirtual 59, 3) := by decide +kernel
theorem dL_law_440 : decode cL_law 440 = .ok (.if_icmp .eq 225, 3) := by decide +kernel
theorem dL_law_443 : decode cL_law 443 = .ok (.iconst 0, 1) := by decide +kernel
theorem dL_law_444 : decode cL_law 444 = .ok (.ireturn, 1) := by decide +kernel
theorem dL_law_445 : decode cL_law 445 = .ok (.aload_n 1, 1) := by decide +kernel
theorem dL_law_446 : decode cL_law 446 = .ok (.aload_n 0, 1) := by decide +kernel
theorem dL_law_447 : decode cL_law 447 = .ok (.iload_n 3, 1) := by decide +kernel
theorem dL_law_448 : decode cL_law 448 = .ok (.iconst 1, 1) := by decide +kernel
theorem dL_law_449 : decode cL_law 449 = .ok (.iadd, 1) := by decide +kernel
theorem dL_law_450 : decode cL_law 450 = .ok (.iaload, 1) := by decide +kernel
theorem dL_law_451 : decode cL_law 451 = .ok (.aload_n 0, 1) := by decide +kernel
theorem dL_law_452 : decode cL_law 452 = .ok (.iload_n 3, 1) := by decide +kernel
theorem dL_law_453 : decode cL_law 453 = .ok (.iconst 2, 1) := by decide +kernel
theorem dL_law_454 : decode cL_law 454 = .ok (.iadd, 1) := by decide +kernel
theorem dL_law_455 : decode cL_law 455 = .ok (.iaload, 1) := by decide +kernel
theorem dL_law_456 : decode cL_law 456 = .ok (.aload_n 0, 1) := by decide +kernel
theorem dL_law_457 : decode cL_law 457 = .ok (.iload_n 3, 1) := by decide +kernel
theorem dL_law_458 : decode cL_law 458 = .ok (.iconst 3, 1) := by decide +kernel
theorem dL_law_459 : decode cL_law 459 = .ok (.iadd, 1) := by decide +kernel
theorem dL_law_460 : decode cL_law 460 = .ok (.iaload, 1) := by decide +kernel
theorem dL_law_461 : decode cL_law 461 = .ok (.invokevirtual 60, 3) := by decide +kernel
theorem dL_law_464 : decode cL_law 464 = .ok (.aload_n 2, 1) := by decide +kernel
theorem dL_law_465 : decode cL_law 465 = .ok (.aload_n 0, 1) := by decide +kernel
theorem dL_law_466 : decode cL_law 466 = .ok (.iload_n 3, 1) := by decide +kernel
theorem dL_law_467 : decode cL_law 467 = .ok (.iconst 1, 1) := by decide +kernel
theorem dL_law_468 : decode cL_law 468 = .ok (.iadd, 1) := by decide +kernel
theorem dL_law_469 : decode cL_law 469 = .ok (.iaload, 1) := by decide +kernel
theorem dL_law_470 : decode cL_law 470 = .ok (.aload_n 0, 1) := by decide +kernel
theorem dL_law_471 : decode cL_law 471 = .ok (.iload_n 3, 1) := by decide +kernel
theorem dL_law_472 : decode cL_law 472 = .ok (.iconst 2, 1) := by decide +kernel
theorem dL_law_473 : decode cL_law 473 = .ok (.iadd, 1) := by decide +kernel
theorem dL_law_474 : decode cL_law 474 = .ok (.iaload, 1) := by decide +kernel
theorem dL_law_475 : decode cL_law 475 = .ok (.aload_n 0, 1) := by decide +kernel
theorem dL_law_476 : decode cL_law 476 = .ok (.iload_n 3, 1) := by decide +kernel
theorem dL_law_477 : decode cL_law 477 = .ok (.iconst 3, 1) := by decide +kernel
theorem dL_law_478 : decode cL_law 478 = .ok (.iadd, 1) := by decide +kernel
theorem dL_law_479 : decode cL_law 479 = .ok (.iaload, 1) := by decide +kernel
theorem dL_law_480 : decode cL_law 480 = .ok (.invokevirtual 64, 3) := by decide +kernel
theorem dL_law_483 : decode cL_law 483 = .ok (.if_icmp .eq 182, 3) := by decide +kernel
theorem dL_law_486 : decode cL_law 486 = .ok (.iconst 0, 1) := by decide +kernel
theorem dL_law_487 : decode cL_law 487 = .ok (.ireturn, 1) := by decide +kernel
theorem dL_law_488 : decode cL_law 488 = .ok (.aload_n 1, 1) := by decide +kernel
theorem dL_law_489 : decode cL_law 489 = .ok (.aload_n 0, 1) := by decide +kernel
theorem dL_law_490 : decode cL_law 490 = .ok (.iload_n 3, 1) := by decide +kernel
theorem dL_law_491 : decode cL_law 491 = .ok (.iconst 1, 1) := by decide +kernel
theorem dL_law_492 : decode cL_law 492 = .ok (.iadd, 1) := by decide +kernel
theorem dL_law_493 : decode cL_law 493 = .ok (.iaload, 1) := by decide +kernel
theorem dL_law_494 : decode cL_law 494 = .ok (.invokevirtual 65, 3) := by decide +kernel
theorem dL_law_497 : decode cL_law 497 = .ok (.aload_n 2, 1) := by decide +kernel
theorem dL_law_498 : decode cL_law 498 = .ok (.aload_n 0, 1) := by decide +kernel
theorem dL_law_499 : decode cL_law 499 = .ok (.iload_n 3, 1) := by decide +kernel
theorem dL_law_500 : decode cL_law 500 = .ok (.iconst 1, 1) := by decide +kernel
theorem dL_law_501 : decode cL_law 501 = .ok (.iadd, 1) := by decide +kernel
theorem dL_law_502 : decode cL_law 502 = .ok (.iaload, 1) := by decide +kernel
theorem dL_law_503 : decode cL_law 503 = .ok (.invokevirtual 68, 3) := by decide +kernel
theorem dL_law_506 : decode cL_law 506 = .ok (.if_icmp .eq 159, 3) := by decide +kernel
theorem dL_law_509 : decode cL_law 509 = .ok (.iconst 0, 1) := by decide +kernel
theorem dL_law_510 : decode cL_law 510 = .ok (.ireturn, 1) := by decide +kernel
theorem dL_law_511 : decode cL_law 511 = .ok (.aload_n 1, 1) := by decide +kernel
theorem dL_law_512 : decode cL_law 512 = .ok (.invokevirtual 69, 3) := by decide +kernel
theorem dL_law_515 : decode cL_law 515 = .ok (.aload_n 2, 1) := by decide +kernel
theorem dL_law_516 : decode cL_law 516 = .ok (.invokevirtual 72, 3) := by decide +kernel
theorem dL_law_519 : decode cL_law 519 = .ok (.if_icmp .eq 146, 3) := by decide +kernel
theorem dL_law_522 : decode cL_law 522 = .ok (.iconst 0, 1) := by decide +kernel
theorem dL_law_523 : decode cL_law 523 = .ok (.ireturn, 1) := by decide +kernel
theorem dL_law_524 : decode cL_law 524 = .ok (.aload_n 1, 1) := by decide +kernel
theorem dL_law_525 : decode cL_law 525 = .ok (.aload_n 0, 1) := by decide +kernel
theorem dL_law_526 : decode cL_law 526 = .ok (.iload_n 3, 1) := by decide +kernel
theorem dL_law_527 : decode cL_law 527 = .ok (.iconst 1, 1) := by decide +kernel
theorem dL_law_528 : decode cL_law 528 = .ok (.iadd, 1) := by decide +kernel
theorem dL_law_529 : decode cL_law 529 = .ok (.iaload, 1) := by decide +kernel
theorem dL_law_530 : decode cL_law 530 = .ok (.aload_n 0, 1) := by decide +kernel
theorem dL_law_531 : decode cL_law 531 = .ok (.iload_n 3, 1) := by decide +kernel
theorem dL_law_532 : decode cL_law 532 = .ok (.iconst 2, 1) := by decide +kernel
theorem dL_law_533 : decode cL_law 533 = .ok (.iadd, 1) := by decide +kernel
theorem dL_law_534 : decode cL_law 534 = .ok (.iaload, 1) := by decide +kernel
theorem dL_law_535 : decode cL_law 535 = .ok (.invokevirtual 73, 3) := by decide +kernel
theorem dL_law_538 : decode cL_law 538 = .ok (.aload_n 2, 1) := by decide +kernel
theorem dL_law_539 : decode cL_law 539 = .ok (.aload_n 0, 1) := by decide +kernel
theorem dL_law_540 : decode cL_law 540 = .ok (.iload_n 3, 1) := by decide +kernel
theorem dL_law_541 : decode cL_law 541 = .ok (.iconst 1, 1) := by decide +kernel
theorem dL_law_542 : decode cL_law 542 = .ok (.iadd, 1) := by decide +kernel
theorem dL_law_543 : decode cL_law 543 = .ok (.iaload, 1) := by decide +kernel
theorem dL_law_544 : decode cL_law 544 = .ok (.aload_n 0, 1) := by decide +kernel
theorem dL_law_545 : decode cL_law 545 = .ok (.iload_n 3, 1) := by decide +kernel
theorem dL_law_546 : decode cL_law 546 = .ok (.iconst 2, 1) := by decide +kernel
theorem dL_law_547 : decode cL_law 547 = .ok (.iadd, 1) := by decide +kernel
theorem dL_law_548 : decode cL_law 548 = .ok (.iaload, 1) := by decide +kernel
theorem dL_law_549 : decode cL_law 549 = .ok (.invokevirtual 76, 3) := by decide +kernel
theorem dL_law_552 : decode cL_law 552 = .ok (.if_icmp .eq 113, 3) := by decide +kernel
theorem dL_law_555 : decode cL_law 555 = .ok (.iconst 0, 1) := by decide +kernel
theorem dL_law_556 : decode cL_law 556 = .ok (.ireturn, 1) := by decide +kernel
theorem dL_law_557 : decode cL_law 557 = .ok (.aload_n 1, 1) := by decide +kernel
theorem dL_law_558 : decode cL_law 558 = .ok (.aload_n 0, 1) := by decide +kernel
theorem dL_law_559 : decode cL_law 559 = .ok (.iload_n 3, 1) := by decide +kernel
theorem dL_law_560 : decode cL_law 560 = .ok (.iconst 1, 1) := by decide +kernel
theorem dL_law_561 : decode cL_law 561 = .ok (.iadd, 1) := by decide +kernel
theorem dL_law_562 : decode cL_law 562 = .ok (.iaload, 1) := by decide +kernel
theorem dL_law_563 : decode cL_law 563 = .ok (.invokevirtual 77, 3) := by decide +kernel
theorem dL_law_566 : decode cL_law 566 = .ok (.aload_n 2, 1) := by decide +kernel
theorem dL_law_567 : decode cL_law 567 = .ok (.aload_n 0, 1) := by decide +kernel
theorem dL_law_568 : decode cL_law 568 = .ok (.iload_n 3, 1) := by decide +kernel
theorem dL_law_569 : decode cL_law 569 = .ok (.iconst 1, 1) := by decide +kernel
theorem dL_law_570 : decode cL_law 570 = .ok (.iadd, 1) := by decide +kernel
theorem dL_law_571 : decode cL_law 571 = .ok (.iaload, 1) := by decide +kernel
theorem dL_law_572 : decode cL_law 572 = .ok (.invokevirtual 80, 3) := by decide +kernel
theorem dL_law_575 : decode cL_law 575 = .ok (.if_icmp .eq 90, 3) := by decide +kernel
theorem dL_law_578 : decode cL_law 578 = .ok (.iconst 0, 1) := by decide +kernel
theorem dL_law_579 : decode cL_law 579 = .ok (.ireturn, 1) := by decide +kernel
theorem dL_law_580 : decode cL_law 580 = .ok (.aload_n 1, 1) := by decide +kernel
theorem dL_law_581 : decode cL_law 581 = .ok (.invokevirtual 81, 3) := by decide +kernel
theorem dL_law_584 : decode cL_law 584 = .ok (.aload_n 2, 1) := by decide +kernel
theorem dL_law_585 : decode cL_law 585 = .ok (.invokevirtual 84, 3) := by decide +kernel
theorem dL_law_588 : decode cL_law 588 = .ok (.if_icmp .eq 77, 3) := by decide +kernel
theorem dL_law_591 : decode cL_law 591 = .ok (.iconst 0, 1) := by decide +kernel
theorem dL_law_592 : decode cL_law 592 = .ok (.ireturn, 1) := by decide +kernel
theorem dL_law_593 : decode cL_law 593 = .ok (.aload_n 1, 1) := by decide +kernel
theorem dL_law_594 : decode cL_law 594 = .ok (.aload_n 0, 1) := by decide +kernel
theorem dL_law_595 : decode cL_law 595 = .ok (.iload_n 3, 1) := by decide +kernel
theorem dL_law_596 : decode cL_law 596 = .ok (.iconst 1, 1) := by decide +kernel
theorem dL_law_597 : decode cL_law 597 = .ok (.iadd, 1) := by decide +kernel
theorem dL_law_598 : decode cL_law 598 = .ok (.iaload, 1) := by decide +kernel
theorem dL_law_599 : decode cL_law 599 = .ok (.invokevirtual 85, 3) := by decide +kernel
theorem dL_law_602 : decode cL_law 602 = .ok (.aload_n 2, 1) := by decide +kernel
theorem dL_law_603 : decode cL_law 603 = .ok (.aload_n 0, 1) := by decide +kernel
theorem dL_law_604 : decode cL_law 604 = .ok (.iload_n 3, 1) := by decide +kernel
theorem dL_law_605 : decode cL_law 605 = .ok (.iconst 1, 1) := by decide +kernel
theorem dL_law_606 : decode cL_law 606 = .ok (.iadd, 1) := by decide +kernel
theorem dL_law_607 : decode cL_law 607 = .ok (.iaload, 1) := by decide +kernel
theorem dL_law_608 : decode cL_law 608 = .ok (.invokevirtual 88, 3) := by decide +kernel
theorem dL_law_611 : decode cL_law 611 = .ok (.if_icmp .eq 54, 3) := by decide +kernel
theorem dL_law_614 : decode cL_law 614 = .ok (.iconst 0, 1) := by decide +kernel
theorem dL_law_615 : decode cL_law 615 = .ok (.ireturn, 1) := by decide +kernel
theorem dL_law_616 : decode cL_law 616 = .ok (.aload_n 1, 1) := by decide +kernel
theorem dL_law_617 : decode cL_law 617 = .ok (.invokevirtual 89, 3) := by decide +kernel
theorem dL_law_620 : decode cL_law 620 = .ok (.aload_n 2, 1) := by decide +kernel
theorem dL_law_621 : decode cL_law 621 = .ok (.invokevirtual 92, 3) := by decide +kernel
theorem dL_law_624 : decode cL_law 624 = .ok (.if_icmp .eq 41, 3) := by decide +kernel
theorem dL_law_627 : decode cL_law 627 = .ok (.iconst 0, 1) := by decide +kernel
theorem dL_law_628 : decode cL_law 628 = .ok (.ireturn, 1) := by decide +kernel
theorem dL_law_629 : decode cL_law 629 = .ok (.aload_n 1, 1) := by decide +kernel
theorem dL_law_630 : decode cL_law 630 = .ok (.aload_n 0, 1) := by decide +kernel
theorem dL_law_631 : decode cL_law 631 = .ok (.iload_n 3, 1) := by decide +kernel
theorem dL_law_632 : decode cL_law 632 = .ok (.iconst 1, 1) := by decide +kernel
theorem dL_law_633 : decode cL_law 633 = .ok (.iadd, 1) := by decide +kernel
theorem dL_law_634 : decode cL_law 634 = .ok (.iaload, 1) := by decide +kernel
theorem dL_law_635 : decode cL_law 635 = .ok (.invokevirtual 93, 3) := by decide +kernel
theorem dL_law_638 : decode cL_law 638 = .ok (.aload_n 2, 1) := by decide +kernel
theorem dL_law_639 : decode cL_law 639 = .ok (.aload_n 0, 1) := by decide +kernel
theorem dL_law_640 : decode cL_law 640 = .ok (.iload_n 3, 1) := by decide +kernel
theorem dL_law_641 : decode cL_law 641 = .ok (.iconst 1, 1) := by decide +kernel
theorem dL_law_642 : decode cL_law 642 = .ok (.iadd, 1) := by decide +kernel
theorem dL_law_643 : decode cL_law 643 = .ok (.iaload, 1) := by decide +kernel
theorem dL_law_644 : decode cL_law 644 = .ok (.invokevirtual 96, 3) := by decide +kernel
theorem dL_law_647 : decode cL_law 647 = .ok (.if_icmp .eq 18, 3) := by decide +kernel
theorem dL_law_650 : decode cL_law 650 = .ok (.iconst 0, 1) := by decide +kernel
theorem dL_law_651 : decode cL_law 651 = .ok (.ireturn, 1) := by decide +kernel
theorem dL_law_652 : decode cL_law 652 = .ok (.aload_n 1, 1) := by decide +kernel
theorem dL_law_653 : decode cL_law 653 = .ok (.invokevirtual 97, 3) := by decide +kernel
theorem dL_law_656 : decode cL_law 656 = .ok (.aload_n 2, 1) := by decide +kernel
theorem dL_law_657 : decode cL_law 657 = .ok (.invokevirtual 100, 3) := by decide +kernel
theorem dL_law_660 : decode cL_law 660 = .ok (.if_icmp .eq 5, 3) := by decide +kernel
theorem dL_law_663 : decode cL_law 663 = .ok (.iconst 0, 1) := by decide +kernel
theorem dL_law_664 : decode cL_law 664 = .ok (.ireturn, 1) := by decide +kernel
theorem dL_law_665 : decode cL_law 665 = .ok (.iinc 3 4, 3) := by decide +kernel
theorem dL_law_668 : decode cL_law 668 = .ok (.goto (-650), 3) := by decide +kernel
theorem dL_law_671 : decode cL_law 671 = .ok (.iconst 1, 1) := by decide +kernel
theorem dL_law_672 : decode cL_law 672 = .ok (.ireturn, 1) := by decide +kernel
