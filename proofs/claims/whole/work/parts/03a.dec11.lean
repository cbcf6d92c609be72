theorem dX11_init_0 : decode cX11_init 0 = .ok (.aload_n 0, 1) := by decide +kernel
theorem dX11_init_1 : decode cX11_init 1 = .ok (.invokespecial 1, 3) := by decide +kernel
theorem dX11_init_4 : decode cX11_init 4 = .ok (.aload_n 0, 1) := by decide +kernel
theorem dX11_init_5 : decode cX11_init 5 = .ok (.sipush 3334, 3) := by decide +kernel
theorem dX11_init_8 : decode cX11_init 8 = .ok (.newarray .int, 2) := by decide +kernel
theorem dX11_init_10 : decode cX11_init 10 = .ok (.putfield 9, 3) := by decide +kernel
theorem dX11_init_13 : decode cX11_init 13 = .ok (.aload_n 0, 1) := by decide +kernel
theorem dX11_init_14 : decode cX11_init 14 = .ok (.sipush 3334, 3) := by decide +kernel
theorem dX11_init_17 : decode cX11_init 17 = .ok (.newarray .int, 2) := by decide +kernel
theorem dX11_init_19 : decode cX11_init 19 = .ok (.putfield 13, 3) := by decide +kernel
theorem dX11_init_22 : decode cX11_init 22 = .ok (.aload_n 0, 1) := by decide +kernel
theorem dX11_init_23 : decode cX11_init 23 = .ok (.sipush 3334, 3) := by decide +kernel
theorem dX11_init_26 : decode cX11_init 26 = .ok (.newarray .int, 2) := by decide +kernel
theorem dX11_init_28 : decode cX11_init 28 = .ok (.putfield 16, 3) := by decide +kernel
theorem dX11_init_31 : decode cX11_init 31 = .ok (.aload_n 0, 1) := by decide +kernel
theorem dX11_init_32 : decode cX11_init 32 = .ok (.sipush 26672, 3) := by decide +kernel
theorem dX11_init_35 : decode cX11_init 35 = .ok (.newarray .int, 2) := by decide +kernel
theorem dX11_init_37 : decode cX11_init 37 = .ok (.putfield 19, 3) := by decide +kernel
theorem dX11_init_40 : decode cX11_init 40 = .ok (.aload_n 0, 1) := by decide +kernel
theorem dX11_init_41 : decode cX11_init 41 = .ok (.bipush 80, 2) := by decide +kernel
theorem dX11_init_43 : decode cX11_init 43 = .ok (.newarray .int, 2) := by decide +kernel
theorem dX11_init_45 : decode cX11_init 45 = .ok (.putfield 22, 3) := by decide +kernel
theorem dX11_init_48 : decode cX11_init 48 = .ok (.aload_n 0, 1) := by decide +kernel
theorem dX11_init_49 : decode cX11_init 49 = .ok (.iconst (-1), 1) := by decide +kernel
theorem dX11_init_50 : decode cX11_init 50 = .ok (.putfield 25, 3) := by decide +kernel
theorem dX11_init_53 : decode cX11_init 53 = .ok (.aload_n 0, 1) := by decide +kernel
theorem dX11_init_54 : decode cX11_init 54 = .ok (.sipush 640, 3) := by decide +kernel
theorem dX11_init_57 : decode cX11_init 57 = .ok (.newarray .int, 2) := by decide +kernel
theorem dX11_init_59 : decode cX11_init 59 = .ok (.putfield 29, 3) := by decide +kernel
theorem dX11_init_62 : decode cX11_init 62 = .ok (.aload_n 0, 1) := by decide +kernel
theorem dX11_init_63 : decode cX11_init 63 = .ok (.bipush 80, 2) := by decide +kernel
theorem dX11_init_65 : decode cX11_init 65 = .ok (.newarray .int, 2) := by decide +kernel
theorem dX11_init_67 : decode cX11_init 67 = .ok (.putfield 32, 3) := by decide +kernel
theorem dX11_init_70 : decode cX11_init 70 = .ok (.aload_n 0, 1) := by decide +kernel
theorem dX11_init_71 : decode cX11_init 71 = .ok (.sipush 1024, 3) := by decide +kernel
theorem dX11_init_74 : decode cX11_init 74 = .ok (.newarray .int, 2) := by decide +kernel
theorem dX11_init_76 : decode cX11_init 76 = .ok (.putfield 35, 3) := by decide +kernel
theorem dX11_init_79 : decode cX11_init 79 = .ok (.aload_n 0, 1) := by decide +kernel
theorem dX11_init_80 : decode cX11_init 80 = .ok (.sipush 1024, 3) := by decide +kernel
theorem dX11_init_83 : decode cX11_init 83 = .ok (.newarray .int, 2) := by decide +kernel
theorem dX11_init_85 : decode cX11_init 85 = .ok (.putfield 38, 3) := by decide +kernel
theorem dX11_init_88 : decode cX11_init 88 = .ok (.aload_n 0, 1) := by decide +kernel
theorem dX11_init_89 : decode cX11_init 89 = .ok (.sipush 1024, 3) := by decide +kernel
theorem dX11_init_92 : decode cX11_init 92 = .ok (.newarray .int, 2) := by decide +kernel
theorem dX11_init_94 : decode cX11_init 94 = .ok (.putfield 41, 3) := by decide +kernel
theorem dX11_init_97 : decode cX11_init 97 = .ok (.aload_n 0, 1) := by decide +kernel
theorem dX11_init_98 : decode cX11_init 98 = .ok (.sipush 1024, 3) := by decide +kernel
theorem dX11_init_101 : decode cX11_init 101 = .ok (.newarray .int, 2) := by decide +kernel
theorem dX11_init_103 : decode cX11_init 103 = .ok (.putfield 44, 3) := by decide +kernel
theorem dX11_init_106 : decode cX11_init 106 = .ok (.aload_n 0, 1) := by decide +kernel
theorem dX11_init_107 : decode cX11_init 107 = .ok (.bipush 10, 2) := by decide +kernel
theorem dX11_init_109 : decode cX11_init 109 = .ok (.newarray .int, 2) := by decide +kernel
theorem dX11_init_111 : decode cX11_init 111 = .ok (.putfield 47, 3) := by decide +kernel
theorem dX11_init_114 : decode cX11_init 114 = .ok (.aload_n 0, 1) := by decide +kernel
theorem dX11_init_115 : decode cX11_init 115 = .ok (.sipush 200, 3) := by decide +kernel
theorem dX11_init_118 : decode cX11_init 118 = .ok (.newarray .char, 2) := by decide +kernel
theorem dX11_init_120 : decode cX11_init 120 = .ok (.putfield 50, 3) := by decide +kernel
theorem dX11_init_123 : decode cX11_init 123 = .ok (.aload_n 0, 1) := by decide +kernel
theorem dX11_init_124 : decode cX11_init 124 = .ok (.getfield 9, 3) := by decide +kernel
theorem dX11_init_127 : decode cX11_init 127 = .ok (.iconst 0, 1) := by decide +kernel
theorem dX11_init_128 : decode cX11_init 128 = .ok (.iconst 0, 1) := by decide +kernel
theorem dX11_init_129 : decode cX11_init 129 = .ok (.iastore, 1) := by decide +kernel
theorem dX11_init_130 : decode cX11_init 130 = .ok (.return_, 1) := by decide +kernel
theorem dX11_thrown_0 : decode cX11_thrown 0 = .ok (.aload_n 0, 1) := by decide +kernel
theorem dX11_thrown_1 : decode cX11_thrown 1 = .ok (.getfield 54, 3) := by decide +kernel
theorem dX11_thrown_4 : decode cX11_thrown 4 = .ok (.ireturn, 1) := by decide +kernel
theorem dX11_in_0 : decode cX11_in 0 = .ok (.iload_n 0, 1) := by decide +kernel
theorem dX11_in_1 : decode cX11_in 1 = .ok (.iload_n 1, 1) := by decide +kernel
theorem dX11_in_2 : decode cX11_in 2 = .ok (.if_icmp .lt 12, 3) := by decide +kernel
theorem dX11_in_5 : decode cX11_in 5 = .ok (.iload_n 0, 1) := by decide +kernel
theorem dX11_in_6 : decode cX11_in 6 = .ok (.iload_n 2, 1) := by decide +kernel
theorem dX11_in_7 : decode cX11_in 7 = .ok (.if_icmp .gt 7, 3) := by decide +kernel
theorem dX11_in_10 : decode cX11_in 10 = .ok (.iconst 1, 1) := by decide +kernel
theorem dX11_in_11 : decode cX11_in 11 = .ok (.goto 4, 3) := by decide +kernel
theorem dX11_in_14 : decode cX11_in 14 = .ok (.iconst 0, 1) := by decide +kernel
theorem dX11_in_15 : decode cX11_in 15 = .ok (.ireturn, 1) := by decide +kernel
theorem dX11_refuse_0 : decode cX11_refuse 0 = .ok (.aload_n 0, 1) := by decide +kernel
theorem dX11_refuse_1 : decode cX11_refuse 1 = .ok (.iload_n 1, 1) := by decide +kernel
theorem dX11_refuse_2 : decode cX11_refuse 2 = .ok (.putfield 54, 3) := by decide +kernel
theorem dX11_refuse_5 : decode cX11_refuse 5 = .ok (.iconst 0, 1) := by decide +kernel
theorem dX11_refuse_6 : decode cX11_refuse 6 = .ok (.ireturn, 1) := by decide +kernel
theorem dX11_keepAs_0 : decode cX11_keepAs 0 = .ok (.aload_n 0, 1) := by decide +kernel
theorem dX11_keepAs_1 : decode cX11_keepAs 1 = .ok (.getfield 57, 3) := by decide +kernel
theorem dX11_keepAs_4 : decode cX11_keepAs 4 = .ok (.bipush 8, 2) := by decide +kernel
theorem dX11_keepAs_6 : decode cX11_keepAs 6 = .ok (.if_icmp .ne 44, 3) := by decide +kernel
theorem dX11_keepAs_9 : decode cX11_keepAs 9 = .ok (.iconst 0, 1) := by decide +kernel
theorem dX11_keepAs_10 : decode cX11_keepAs 10 = .ok (.istore_n 2, 1) := by decide +kernel
theorem dX11_keepAs_11 : decode cX11_keepAs 11 = .ok (.iload_n 2, 1) := by decide +kernel
theorem dX11_keepAs_12 : decode cX11_keepAs 12 = .ok (.sipush 23338, 3) := by decide +kernel
theorem dX11_keepAs_15 : decode cX11_keepAs 15 = .ok (.if_icmp .ge 25, 3) := by decide +kernel
theorem dX11_keepAs_18 : decode cX11_keepAs 18 = .ok (.aload_n 0, 1) := by decide +kernel
theorem dX11_keepAs_19 : decode cX11_keepAs 19 = .ok (.getfield 19, 3) := by decide +kernel
theorem dX11_keepAs_22 : decode cX11_keepAs 22 = .ok (.iload_n 2, 1) := by decide +kernel
theorem dX11_keepAs_23 : decode cX11_keepAs 23 = .ok (.aload_n 0, 1) := by decide +kernel
theorem dX11_keepAs_24 : decode cX11_keepAs 24 = .ok (.getfield 19, 3) := by decide +kernel
theorem dX11_keepAs_27 : decode cX11_keepAs 27 = .ok (.iload_n 2, 1) := by decide +kernel
theorem dX11_keepAs_28 : decode cX11_keepAs 28 = .ok (.sipush 3334, 3) := by decide +kernel
theorem dX11_keepAs_31 : decode cX11_keepAs 31 = .ok (.iadd, 1) := by decide +kernel
theorem dX11_keepAs_32 : decode cX11_keepAs 32 = .ok (.iaload, 1) := by decide +kernel
theorem dX11_keepAs_33 : decode cX11_keepAs 33 = .ok (.iastore, 1) := by decide +kernel
theorem dX11_keepAs_34 : decode cX11_keepAs 34 = .ok (.iinc 2 1, 3) := by decide +kernel
theorem dX11_keepAs_37 : decode cX11_keepAs 37 = .ok (.goto (-26), 3) := by decide +kernel
theorem dX11_keepAs_40 : decode cX11_keepAs 40 = .ok (.aload_n 0, 1) := by decide +kernel
theorem dX11_keepAs_41 : decode cX11_keepAs 41 = .ok (.dup, 1) := by decide +kernel
theorem dX11_keepAs_42 : decode cX11_keepAs 42 = .ok (.getfield 57, 3) := by decide +kernel
theorem dX11_keepAs_45 : decode cX11_keepAs 45 = .ok (.iconst 1, 1) := by decide +kernel
theorem dX11_keepAs_46 : decode cX11_keepAs 46 = .ok (.isub, 1) := by decide +kernel
theorem dX11_keepAs_47 : decode cX11_keepAs 47 = .ok (.putfield 57, 3) := by decide +kernel
theorem dX11_keepAs_50 : decode cX11_keepAs 50 = .ok (.iconst 0, 1) := by decide +kernel
theorem dX11_keepAs_51 : decode cX11_keepAs 51 = .ok (.istore_n 2, 1) := by decide +kernel
theorem dX11_keepAs_52 : decode cX11_keepAs 52 = .ok (.iload_n 2, 1) := by decide +kernel
theorem dX11_keepAs_53 : decode cX11_keepAs 53 = .ok (.sipush 3334, 3) := by decide +kernel
theorem dX11_keepAs_56 : decode cX11_keepAs 56 = .ok (.if_icmp .ge 27, 3) := by decide +kernel
theorem dX11_keepAs_59 : decode cX11_keepAs 59 = .ok (.aload_n 0, 1) := by decide +kernel
theorem dX11_keepAs_60 : decode cX11_keepAs 60 = .ok (.getfield 19, 3) := by decide +kernel
theorem dX11_keepAs_63 : decode cX11_keepAs 63 = .ok (.sipush 3334, 3) := by decide +kernel
theorem dX11_keepAs_66 : decode cX11_keepAs 66 = .ok (.aload_n 0, 1) := by decide +kernel
theorem dX11_keepAs_67 : decode cX11_keepAs 67 = .ok (.getfield 57, 3) := by decide +kernel
theorem dX11_keepAs_70 : decode cX11_keepAs 70 = .ok (.imul, 1) := by decide +kernel
theorem dX11_keepAs_71 : decode cX11_keepAs 71 = .ok (.iload_n 2, 1) := by decide +kernel
theorem dX11_keepAs_72 : decode cX11_keepAs 72 = .ok (.iadd, 1) := by decide +kernel
theorem dX11_keepAs_73 : decode cX11_keepAs 73 = .ok (.aload_n 1, 1) := by decide +kernel
theorem dX11_keepAs_74 : decode cX11_keepAs 74 = .ok (.iload_n 2, 1) := by decide +kernel
theorem dX11_keepAs_75 : decode cX11_keepAs 75 = .ok (.iaload, 1) := by decide +kernel
theorem dX11_keepAs_76 : decode cX11_keepAs 76 = .ok (.iastore, 1) := by decide +kernel
theorem dX11_keepAs_77 : decode cX11_keepAs 77 = .ok (.iinc 2 1, 3) := by decide +kernel
theorem dX11_keepAs_80 : decode cX11_keepAs 80 = .ok (.goto (-28), 3) := by decide +kernel
theorem dX11_keepAs_83 : decode cX11_keepAs 83 = .ok (.aload_n 0, 1) := by decide +kernel
theorem dX11_keepAs_84 : decode cX11_keepAs 84 = .ok (.dup, 1) := by decide +kernel
theorem dX11_keepAs_85 : decode cX11_keepAs 85 = .ok (.getfield 57, 3) := by decide +kernel
theorem dX11_keepAs_88 : decode cX11_keepAs 88 = .ok (.iconst 1, 1) := by decide +kernel
theorem dX11_keepAs_89 : decode cX11_keepAs 89 = .ok (.iadd, 1) := by decide +kernel
theorem dX11_keepAs_90 : decode cX11_keepAs 90 = .ok (.putfield 57, 3) := by decide +kernel
theorem dX11_keepAs_93 : decode cX11_keepAs 93 = .ok (.return_, 1) := by decide +kernel
theorem dX11_isVersion_0 : decode cX11_isVersion 0 = .ok (.iload_n 1, 1) := by decide +kernel
theorem dX11_isVersion_1 : decode cX11_isVersion 1 = .ok (.iconst 0, 1) := by decide +kernel
theorem dX11_isVersion_2 : decode cX11_isVersion 2 = .ok (.aload_n 0, 1) := by decide +kernel
theorem dX11_isVersion_3 : decode cX11_isVersion 3 = .ok (.getfield 9, 3) := by decide +kernel
theorem dX11_isVersion_6 : decode cX11_isVersion 6 = .ok (.iconst 0, 1) := by decide +kernel
theorem dX11_isVersion_7 : decode cX11_isVersion 7 = .ok (.iaload, 1) := by decide +kernel
theorem dX11_isVersion_8 : decode cX11_isVersion 8 = .ok (.iconst 1, 1) := by decide +kernel
theorem dX11_isVersion_9 : decode cX11_isVersion 9 = .ok (.isub, 1) := by decide +kernel
theorem dX11_isVersion_10 : decode cX11_isVersion 10 = .ok (.invokestatic 60, 3) := by decide +kernel
theorem dX11_isVersion_13 : decode cX11_isVersion 13 = .ok (.ireturn, 1) := by decide +kernel
theorem dX11_at_0 : decode cX11_at 0 = .ok (.sipush 274, 3) := by decide +kernel
theorem dX11_at_3 : decode cX11_at 3 = .ok (.sipush 510, 3) := by decide +kernel
theorem dX11_at_6 : decode cX11_at 6 = .ok (.iload_n 0, 1) := by decide +kernel
theorem dX11_at_7 : decode cX11_at 7 = .ok (.imul, 1) := by decide +kernel
theorem dX11_at_8 : decode cX11_at 8 = .ok (.iadd, 1) := by decide +kernel
theorem dX11_at_9 : decode cX11_at 9 = .ok (.ireturn, 1) := by decide +kernel
theorem dX11_extra_0 : decode cX11_extra 0 = .ok (.iload_n 0, 1) := by decide +kernel
theorem dX11_extra_1 : decode cX11_extra 1 = .ok (.invokestatic 64, 3) := by decide +kernel
theorem dX11_extra_4 : decode cX11_extra 4 = .ok (.sipush 150, 3) := by decide +kernel
theorem dX11_extra_7 : decode cX11_extra 7 = .ok (.iadd, 1) := by decide +kernel
theorem dX11_extra_8 : decode cX11_extra 8 = .ok (.bipush 36, 2) := by decide +kernel
theorem dX11_extra_10 : decode cX11_extra 10 = .ok (.iload_n 1, 1) := by decide +kernel
theorem dX11_extra_11 : decode cX11_extra 11 = .ok (.imul, 1) := by decide +kernel
theorem dX11_extra_12 : decode cX11_extra 12 = .ok (.iadd, 1) := by decide +kernel
theorem dX11_extra_13 : decode cX11_extra 13 = .ok (.ireturn, 1) := by decide +kernel
theorem dX11_versionOf_0 : decode cX11_versionOf 0 = .ok (.iconst (-1), 1) := by decide +kernel
theorem dX11_versionOf_1 : decode cX11_versionOf 1 = .ok (.istore_n 2, 1) := by decide +kernel
theorem dX11_versionOf_2 : decode cX11_versionOf 2 = .ok (.iconst 0, 1) := by decide +kernel
theorem dX11_versionOf_3 : decode cX11_versionOf 3 = .ok (.istore_n 3, 1) := by decide +kernel
theorem dX11_versionOf_4 : decode cX11_versionOf 4 = .ok (.iload_n 3, 1) := by decide +kernel
theorem dX11_versionOf_5 : decode cX11_versionOf 5 = .ok (.aload_n 0, 1) := by decide +kernel
theorem dX11_versionOf_6 : decode cX11_versionOf 6 = .ok (.getfield 9, 3) := by decide +kernel
theorem dX11_versionOf_9 : decode cX11_versionOf 9 = .ok (.iconst 0, 1) := by decide +kernel
theorem dX11_versionOf_10 : decode cX11_versionOf 10 = .ok (.iaload, 1) := by decide +kernel
theorem dX11_versionOf_11 : decode cX11_versionOf 11 = .ok (.if_icmp .ge 71, 3) := by decide +kernel
theorem dX11_versionOf_14 : decode cX11_versionOf 14 = .ok (.aload_n 0, 1) := by decide +kernel
theorem dX11_versionOf_15 : decode cX11_versionOf 15 = .ok (.getfield 9, 3) := by decide +kernel
theorem dX11_versionOf_18 : decode cX11_versionOf 18 = .ok (.iload_n 3, 1) := by decide +kernel
theorem dX11_versionOf_19 : decode cX11_versionOf 19 = .ok (.invokestatic 64, 3) := by decide +kernel
theorem dX11_versionOf_22 : decode cX11_versionOf 22 = .ok (.iconst 0, 1) := by decide +kernel
theorem dX11_versionOf_23 : decode cX11_versionOf 23 = .ok (.iadd, 1) := by decide +kernel
theorem dX11_versionOf_24 : decode cX11_versionOf 24 = .ok (.iaload, 1) := by decide +kernel
theorem dX11_versionOf_25 : decode cX11_versionOf 25 = .ok (.iload_n 1, 1) := by decide +kernel
theorem dX11_versionOf_26 : decode cX11_versionOf 26 = .ok (.if_icmp .gt 7, 3) := by decide +kernel
theorem dX11_versionOf_29 : decode cX11_versionOf 29 = .ok (.iconst 1, 1) := by decide +kernel
theorem dX11_versionOf_30 : decode cX11_versionOf 30 = .ok (.goto 4, 3) := by decide +kernel
theorem dX11_versionOf_33 : decode cX11_versionOf 33 = .ok (.iconst 0, 1) := by decide +kernel
theorem dX11_versionOf_34 : decode cX11_versionOf 34 = .ok (.istore 4, 2) := by decide +kernel
theorem dX11_versionOf_36 : decode cX11_versionOf 36 = .ok (.iload 4, 2) := by decide +kernel
theorem dX11_versionOf_38 : decode cX11_versionOf 38 = .ok (.ifCond .eq 36, 3) := by decide +kernel
theorem dX11_versionOf_41 : decode cX11_versionOf 41 = .ok (.iload_n 2, 1) := by decide +kernel
theorem dX11_versionOf_42 : decode cX11_versionOf 42 = .ok (.ifCond .lt 28, 3) := by decide +kernel
theorem dX11_versionOf_45 : decode cX11_versionOf 45 = .ok (.aload_n 0, 1) := by decide +kernel
theorem dX11_versionOf_46 : decode cX11_versionOf 46 = .ok (.getfield 9, 3) := by decide +kernel
theorem dX11_versionOf_49 : decode cX11_versionOf 49 = .ok (.iload_n 3, 1) := by decide +kernel
theorem dX11_versionOf_50 : decode cX11_versionOf 50 = .ok (.invokestatic 64, 3) := by decide +kernel
theorem dX11_versionOf_53 : decode cX11_versionOf 53 = .ok (.iconst 0, 1) := by decide +kernel
theorem dX11_versionOf_54 : decode cX11_versionOf 54 = .ok (.iadd, 1) := by decide +kernel
theorem dX11_versionOf_55 : decode cX11_versionOf 55 = .ok (.iaload, 1) := by decide +kernel
theorem dX11_versionOf_56 : decode cX11_versionOf 56 = .ok (.aload_n 0, 1) := by decide +kernel
theorem dX11_versionOf_57 : decode cX11_versionOf 57 = .ok (.getfield 9, 3) := by decide +kernel
theorem dX11_versionOf_60 : decode cX11_versionOf 60 = .ok (.iload_n 2, 1) := by decide +kernel
theorem dX11_versionOf_61 : decode cX11_versionOf 61 = .ok (.invokestatic 64, 3) := by decide +kernel
theorem dX11_versionOf_64 : decode cX11_versionOf 64 = .ok (.iconst 0, 1) := by decide +kernel
theorem dX11_versionOf_65 : decode cX11_versionOf 65 = .ok (.iadd, 1) := by decide +kernel
theorem dX11_versionOf_66 : decode cX11_versionOf 66 = .ok (.iaload, 1) := by decide +kernel
theorem dX11_versionOf_67 : decode cX11_versionOf 67 = .ok (.if_icmp .le 7, 3) := by decide +kernel
theorem dX11_versionOf_70 : decode cX11_versionOf 70 = .ok (.iload_n 3, 1) := by decide +kernel
theorem dX11_versionOf_71 : decode cX11_versionOf 71 = .ok (.goto 4, 3) := by decide +kernel
theorem dX11_versionOf_74 : decode cX11_versionOf 74 = .ok (.iload_n 2, 1) := by decide +kernel
theorem dX11_versionOf_75 : decode cX11_versionOf 75 = .ok (.istore_n 2, 1) := by decide +kernel
theorem dX11_versionOf_76 : decode cX11_versionOf 76 = .ok (.iinc 3 1, 3) := by decide +kernel
theorem dX11_versionOf_79 : decode cX11_versionOf 79 = .ok (.goto (-75), 3) := by decide +kernel
theorem dX11_versionOf_82 : decode cX11_versionOf 82 = .ok (.iload_n 2, 1) := by decide +kernel
theorem dX11_versionOf_83 : decode cX11_versionOf 83 = .ok (.ireturn, 1) := by decide +kernel
theorem dX11_makeVersion_0 : decode cX11_makeVersion 0 = .ok (.aload_n 0, 1) := by decide +kernel
theorem dX11_makeVersion_1 : decode cX11_makeVersion 1 = .ok (.iconst 0, 1) := by decide +kernel
theorem dX11_makeVersion_2 : decode cX11_makeVersion 2 = .ok (.putfield 54, 3) := by decide +kernel
theorem dX11_makeVersion_5 : decode cX11_makeVersion 5 = .ok (.iload_n 1, 1) := by decide +kernel
theorem dX11_makeVersion_6 : decode cX11_makeVersion 6 = .ok (.iconst 0, 1) := by decide +kernel
theorem dX11_makeVersion_7 : decode cX11_makeVersion 7 = .ok (.sipush 999, 3) := by decide +kernel
theorem dX11_makeVersion_10 : decode cX11_makeVersion 10 = .ok (.invokestatic 60, 3) := by decide +kernel
theorem dX11_makeVersion_13 : decode cX11_makeVersion 13 = .ok (.istore_n 3, 1) := by decide +kernel
theorem dX11_makeVersion_14 : decode cX11_makeVersion 14 = .ok (.iconst 0, 1) := by decide +kernel
theorem dX11_makeVersion_15 : decode cX11_makeVersion 15 = .ok (.istore 4, 2) := by decide +kernel
theorem dX11_makeVersion_17 : decode cX11_makeVersion 17 = .ok (.iload 4, 2) := by decide +kernel
theorem dX11_makeVersion_19 : decode cX11_makeVersion 19 = .ok (.aload_n 0, 1) := by decide +kernel
theorem dX11_makeVersion_20 : decode cX11_makeVersion 20 = .ok (.getfield 9, 3) := by decide +kernel
theorem dX11_makeVersion_23 : decode cX11_makeVersion 23 = .ok (.iconst 0, 1) := by decide +kernel
theorem dX11_makeVersion_24 : decode cX11_makeVersion 24 = .ok (.iaload, 1) := by decide +kernel
theorem dX11_makeVersion_25 : decode cX11_makeVersion 25 = .ok (.if_icmp .ge 33, 3) := by decide +kernel
theorem dX11_makeVersion_28 : decode cX11_makeVersion 28 = .ok (.iload_n 3, 1) := by decide +kernel
theorem dX11_makeVersion_29 : decode cX11_makeVersion 29 = .ok (.aload_n 0, 1) := by decide +kernel
theorem dX11_makeVersion_30 : decode cX11_makeVersion 30 = .ok (.getfield 9, 3) := by decide +kernel
theorem dX11_makeVersion_33 : decode cX11_makeVersion 33 = .ok (.iload 4, 2) := by decide +kernel
theorem dX11_makeVersion_35 : decode cX11_makeVersion 35 = .ok (.invokestatic 64, 3) := by decide +kernel
theorem dX11_makeVersion_38 : decode cX11_makeVersion 38 = .ok (.iconst 0, 1) := by decide +kernel
theorem dX11_makeVersion_39 : decode cX11_makeVersion 39 = .ok (.iadd, 1) := by decide +kernel
theorem dX11_makeVersion_40 : decode cX11_makeVersion 40 = .ok (.iaload, 1) := by decide +kernel
theorem dX11_makeVersion_41 : decode cX11_makeVersion 41 = .ok (.iload_n 1, 1) := by decide +kernel
theorem dX11_makeVersion_42 : decode cX11_makeVersion 42 = .ok (.if_icmp .eq 7, 3) := by decide +kernel
theorem dX11_makeVersion_45 : decode cX11_makeVersion 45 = .ok (.iconst 1, 1) := by decide +kernel
theorem dX11_makeVersion_46 : decode cX11_makeVersion 46 = .ok (.goto 4, 3) := by decide +kernel
theorem dX11_makeVersion_49 : decode cX11_makeVersion 49 = .ok (.iconst 0, 1) := by decide +kernel
theorem dX11_makeVersion_50 : decode cX11_makeVersion 50 = .ok (.iand, 1) := by decide +kernel
theorem dX11_makeVersion_51 : decode cX11_makeVersion 51 = .ok (.istore_n 3, 1) := by decide +kernel
theorem dX11_makeVersion_52 : decode cX11_makeVersion 52 = .ok (.iinc 4 1, 3) := by decide +kernel
theorem dX11_makeVersion_55 : decode cX11_makeVersion 55 = .ok (.goto (-38), 3) := by decide +kernel
theorem dX11_makeVersion_58 : decode cX11_makeVersion 58 = .ok (.iload_n 3, 1) := by decide +kernel
theorem dX11_makeVersion_59 : decode cX11_makeVersion 59 = .ok (.ifCond .ne 9, 3) := by decide +kernel
theorem dX11_makeVersion_62 : decode cX11_makeVersion 62 = .ok (.aload_n 0, 1) := by decide +kernel
theorem dX11_makeVersion_63 : decode cX11_makeVersion 63 = .ok (.iconst 1, 1) := by decide +kernel
theorem dX11_makeVersion_64 : decode cX11_makeVersion 64 = .ok (.invokevirtual 68, 3) := by decide +kernel
theorem dX11_makeVersion_67 : decode cX11_makeVersion 67 = .ok (.ireturn, 1) := by decide +kernel
theorem dX11_makeVersion_68 : decode cX11_makeVersion 68 = .ok (.iload_n 2, 1) := by decide +kernel
theorem dX11_makeVersion_69 : decode cX11_makeVersion 69 = .ok (.iconst (-1), 1) := by decide +kernel
theorem dX11_makeVersion_70 : decode cX11_makeVersion 70 = .ok (.if_icmp .eq 17, 3) := by decide +kernel
theorem dX11_makeVersion_73 : decode cX11_makeVersion 73 = .ok (.aload_n 0, 1) := by decide +kernel
theorem dX11_makeVersion_74 : decode cX11_makeVersion 74 = .ok (.iload_n 2, 1) := by decide +kernel
theorem dX11_makeVersion_75 : decode cX11_makeVersion 75 = .ok (.invokevirtual 71, 3) := by decide +kernel
theorem dX11_makeVersion_78 : decode cX11_makeVersion 78 = .ok (.ifCond .ne 9, 3) := by decide +kernel
theorem dX11_makeVersion_81 : decode cX11_makeVersion 81 = .ok (.aload_n 0, 1) := by decide +kernel
theorem dX11_makeVersion_82 : decode cX11_makeVersion 82 = .ok (.iconst 2, 1) := by decide +kernel
theorem dX11_makeVersion_83 : decode cX11_makeVersion 83 = .ok (.invokevirtual 68, 3) := by decide +kernel
theorem dX11_makeVersion_86 : decode cX11_makeVersion 86 = .ok (.ireturn, 1) := by decide +kernel
theorem dX11_makeVersion_87 : decode cX11_makeVersion 87 = .ok (.aload_n 0, 1) := by decide +kernel
theorem dX11_makeVersion_88 : decode cX11_makeVersion 88 = .ok (.getfield 9, 3) := by decide +kernel
theorem dX11_makeVersion_91 : decode cX11_makeVersion 91 = .ok (.iconst 0, 1) := by decide +kernel
theorem dX11_makeVersion_92 : decode cX11_makeVersion 92 = .ok (.iaload, 1) := by decide +kernel
theorem dX11_makeVersion_93 : decode cX11_makeVersion 93 = .ok (.bipush 6, 2) := by decide +kernel
theorem dX11_makeVersion_95 : decode cX11_makeVersion 95 = .ok (.if_icmp .ne 9, 3) := by decide +kernel
theorem dX11_makeVersion_98 : decode cX11_makeVersion 98 = .ok (.aload_n 0, 1) := by decide +kernel
theorem dX11_makeVersion_99 : decode cX11_makeVersion 99 = .ok (.iconst 3, 1) := by decide +kernel
theorem dX11_makeVersion_100 : decode cX11_makeVersion 100 = .ok (.invokevirtual 68, 3) := by decide +kernel
theorem dX11_makeVersion_103 : decode cX11_makeVersion 103 = .ok (.ireturn, 1) := by decide +kernel
theorem dX11_makeVersion_104 : decode cX11_makeVersion 104 = .ok (.aload_n 0, 1) := by decide +kernel
theorem dX11_makeVersion_105 : decode cX11_makeVersion 105 = .ok (.aload_n 0, 1) := by decide +kernel
theorem dX11_makeVersion_106 : decode cX11_makeVersion 106 = .ok (.getfield 9, 3) := by decide +kernel
theorem dX11_makeVersion_109 : decode cX11_makeVersion 109 = .ok (.invokevirtual 75, 3) := by decide +kernel
theorem dX11_makeVersion_112 : decode cX11_makeVersion 112 = .ok (.aload_n 0, 1) := by decide +kernel
theorem dX11_makeVersion_113 : decode cX11_makeVersion 113 = .ok (.getfield 9, 3) := by decide +kernel
theorem dX11_makeVersion_116 : decode cX11_makeVersion 116 = .ok (.iconst 0, 1) := by decide +kernel
theorem dX11_makeVersion_117 : decode cX11_makeVersion 117 = .ok (.iaload, 1) := by decide +kernel
theorem dX11_makeVersion_118 : decode cX11_makeVersion 118 = .ok (.istore 4, 2) := by decide +kernel
theorem dX11_makeVersion_120 : decode cX11_makeVersion 120 = .ok (.iconst 0, 1) := by decide +kernel
theorem dX11_makeVersion_121 : decode cX11_makeVersion 121 = .ok (.istore 5, 2) := by decide +kernel
theorem dX11_makeVersion_123 : decode cX11_makeVersion 123 = .ok (.iload 5, 2) := by decide +kernel
theorem dX11_makeVersion_125 : decode cX11_makeVersion 125 = .ok (.sipush 510, 3) := by decide +kernel
theorem dX11_makeVersion_128 : decode cX11_makeVersion 128 = .ok (.if_icmp .ge 42, 3) := by decide +kernel
theorem dX11_makeVersion_131 : decode cX11_makeVersion 131 = .ok (.aload_n 0, 1) := by decide +kernel
theorem dX11_makeVersion_132 : decode cX11_makeVersion 132 = .ok (.getfield 9, 3) := by decide +kernel
theorem dX11_makeVersion_135 : decode cX11_makeVersion 135 = .ok (.iload 4, 2) := by decide +kernel
theorem dX11_makeVersion_137 : decode cX11_makeVersion 137 = .ok (.invokestatic 64, 3) := by decide +kernel
theorem dX11_makeVersion_140 : decode cX11_makeVersion 140 = .ok (.iload 5, 2) := by decide +kernel
theorem dX11_makeVersion_142 : decode cX11_makeVersion 142 = .ok (.iadd, 1) := by decide +kernel
theorem dX11_makeVersion_143 : decode cX11_makeVersion 143 = .ok (.iload_n 2, 1) := by decide +kernel
theorem dX11_makeVersion_144 : decode cX11_makeVersion 144 = .ok (.ifCond .ge 7, 3) := by decide +kernel
theorem dX11_makeVersion_147 : decode cX11_makeVersion 147 = .ok (.iconst 0, 1) := by decide +kernel
theorem dX11_makeVersion_148 : decode cX11_makeVersion 148 = .ok (.goto 15, 3) := by decide +kernel
theorem dX11_makeVersion_151 : decode cX11_makeVersion 151 = .ok (.aload_n 0, 1) := by decide +kernel
theorem dX11_makeVersion_152 : decode cX11_makeVersion 152 = .ok (.getfield 9, 3) := by decide +kernel
theorem dX11_makeVersion_155 : decode cX11_makeVersion 155 = .ok (.iload_n 2, 1) := by decide +kernel
theorem dX11_makeVersion_156 : decode cX11_makeVersion 156 = .ok (.invokestatic 64, 3) := by decide +kernel
theorem dX11_makeVersion_159 : decode cX11_makeVersion 159 = .ok (.iload 5, 2) := by decide +kernel
theorem dX11_makeVersion_161 : decode cX11_makeVersion 161 = .ok (.iadd, 1) := by decide +kernel
theorem dX11_makeVersion_162 : decode cX11_makeVersion 162 = .ok (.iaload, 1) := by decide +kernel
theorem dX11_makeVersion_163 : decode cX11_makeVersion 163 = .ok (.iastore, 1) := by decide +kernel
theorem dX11_makeVersion_164 : decode cX11_makeVersion 164 = .ok (.iinc 5 1, 3) := by decide +kernel
theorem dX11_makeVersion_167 : decode cX11_makeVersion 167 = .ok (.goto (-44), 3) := by decide +kernel
theorem dX11_makeVersion_170 : decode cX11_makeVersion 170 = .ok (.iload_n 2, 1) := by decide +kernel
theorem dX11_makeVersion_171 : decode cX11_makeVersion 171 = .ok (.ifCond .ge 37, 3) := by decide +kernel
theorem dX11_makeVersion_174 : decode cX11_makeVersion 174 = .ok (.aload_n 0, 1) := by decide +kernel
theorem dX11_makeVersion_175 : decode cX11_makeVersion 175 = .ok (.getfield 9, 3) := by decide +kernel
theorem dX11_makeVersion_178 : decode cX11_makeVersion 178 = .ok (.iload 4, 2) := by decide +kernel
theorem dX11_makeVersion_180 : decode cX11_makeVersion 180 = .ok (.invokestatic 64, 3) := by decide +kernel
theorem dX11_makeVersion_183 : decode cX11_makeVersion 183 = .ok (.sipush 146, 3) := by decide +kernel
theorem dX11_makeVersion_186 : decode cX11_makeVersion 186 = .ok (.iadd, 1) := by decide +kernel
theorem dX11_makeVersion_187 : decode cX11_makeVersion 187 = .ok (.sipush 5000, 3) := by decide +kernel
theorem dX11_makeVersion_190 : decode cX11_makeVersion 190 = .ok (.iastore, 1) := by decide +kernel
theorem dX11_makeVersion_191 : decode cX11_makeVersion 191 = .ok (.aload_n 0, 1) := by decide +kernel
theorem dX11_makeVersion_192 : decode cX11_makeVersion 192 = .ok (.getfield 9, 3) := by decide +kernel
theorem dX11_makeVersion_195 : decode cX11_makeVersion 195 = .ok (.iload 4, 2) := by decide +kernel
theorem dX11_makeVersion_197 : decode cX11_makeVersion 197 = .ok (.invokestatic 64, 3) := by decide +kernel
theorem dX11_makeVersion_200 : decode cX11_makeVersion 200 = .ok (.sipush 149, 3) := by decide +kernel
theorem dX11_makeVersion_203 : decode cX11_makeVersion 203 = .ok (.iadd, 1) := by decide +kernel
theorem dX11_makeVersion_204 : decode cX11_makeVersion 204 = .ok (.sipush 999, 3) := by decide +kernel
theorem dX11_makeVersion_207 : decode cX11_makeVersion 207 = .ok (.iastore, 1) := by decide +kernel
theorem dX11_makeVersion_208 : decode cX11_makeVersion 208 = .ok (.aload_n 0, 1) := by decide +kernel
theorem dX11_makeVersion_209 : decode cX11_makeVersion 209 = .ok (.getfield 9, 3) := by decide +kernel
theorem dX11_makeVersion_212 : decode cX11_makeVersion 212 = .ok (.iload 4, 2) := by decide +kernel
theorem dX11_makeVersion_214 : decode cX11_makeVersion 214 = .ok (.invokestatic 64, 3) := by decide +kernel
theorem dX11_makeVersion_217 : decode cX11_makeVersion 217 = .ok (.iconst 0, 1) := by decide +kernel
theorem dX11_makeVersion_218 : decode cX11_makeVersion 218 = .ok (.iadd, 1) := by decide +kernel
theorem dX11_makeVersion_219 : decode cX11_makeVersion 219 = .ok (.iload_n 1, 1) := by decide +kernel
theorem dX11_makeVersion_220 : decode cX11_makeVersion 220 = .ok (.iastore, 1) := by decide +kernel
theorem dX11_makeVersion_221 : decode cX11_makeVersion 221 = .ok (.aload_n 0, 1) := by decide +kernel
theorem dX11_makeVersion_222 : decode cX11_makeVersion 222 = .ok (.getfield 9, 3) := by decide +kernel
theorem dX11_makeVersion_225 : decode cX11_makeVersion 225 = .ok (.iconst 0, 1) := by decide +kernel
theorem dX11_makeVersion_226 : decode cX11_makeVersion 226 = .ok (.dup2, 1) := by decide +kernel
theorem dX11_makeVersion_227 : decode cX11_makeVersion 227 = .ok (.iaload, 1) := by decide +kernel
theorem dX11_makeVersion_228 : decode cX11_makeVersion 228 = .ok (.iconst 1, 1) := by decide +kernel
theorem dX11_makeVersion_229 : decode cX11_makeVersion 229 = .ok (.iadd, 1) := by decide +kernel
theorem dX11_makeVersion_230 : decode cX11_makeVersion 230 = .ok (.iastore, 1) := by decide +kernel
theorem dX11_makeVersion_231 : decode cX11_makeVersion 231 = .ok (.iload 4, 2) := by decide +kernel
theorem dX11_makeVersion_233 : decode cX11_makeVersion 233 = .ok (.ireturn, 1) := by decide +kernel
theorem dX11_versionOn_0 : decode cX11_versionOn 0 = .ok (.aload_n 0, 1) := by decide +kernel
theorem dX11_versionOn_1 : decode cX11_versionOn 1 = .ok (.iload_n 1, 1) := by decide +kernel
theorem dX11_versionOn_2 : decode cX11_versionOn 2 = .ok (.iconst 0, 1) := by decide +kernel
theorem dX11_versionOn_3 : decode cX11_versionOn 3 = .ok (.sipush 999, 3) := by decide +kernel
theorem dX11_versionOn_6 : decode cX11_versionOn 6 = .ok (.invokestatic 60, 3) := by decide +kernel
theorem dX11_versionOn_9 : decode cX11_versionOn 9 = .ok (.ifCond .ne 7, 3) := by decide +kernel
theorem dX11_versionOn_12 : decode cX11_versionOn 12 = .ok (.iconst 1, 1) := by decide +kernel
theorem dX11_versionOn_13 : decode cX11_versionOn 13 = .ok (.goto 16, 3) := by decide +kernel
theorem dX11_versionOn_16 : decode cX11_versionOn 16 = .ok (.aload_n 0, 1) := by decide +kernel
theorem dX11_versionOn_17 : decode cX11_versionOn 17 = .ok (.iload_n 1, 1) := by decide +kernel
theorem dX11_versionOn_18 : decode cX11_versionOn 18 = .ok (.invokevirtual 79, 3) := by decide +kernel
theorem dX11_versionOn_21 : decode cX11_versionOn 21 = .ok (.ifCond .ge 7, 3) := by decide +kernel
theorem dX11_versionOn_24 : decode cX11_versionOn 24 = .ok (.iconst 2, 1) := by decide +kernel
theorem dX11_versionOn_25 : decode cX11_versionOn 25 = .ok (.goto 4, 3) := by decide +kernel
theorem dX11_versionOn_28 : decode cX11_versionOn 28 = .ok (.iconst 0, 1) := by decide +kernel
theorem dX11_versionOn_29 : decode cX11_versionOn 29 = .ok (.putfield 54, 3) := by decide +kernel
theorem dX11_versionOn_32 : decode cX11_versionOn 32 = .ok (.aload_n 0, 1) := by decide +kernel
theorem dX11_versionOn_33 : decode cX11_versionOn 33 = .ok (.getfield 54, 3) := by decide +kernel
theorem dX11_versionOn_36 : decode cX11_versionOn 36 = .ok (.ifCond .le 7, 3) := by decide +kernel
theorem dX11_versionOn_39 : decode cX11_versionOn 39 = .ok (.iconst 0, 1) := by decide +kernel
theorem dX11_versionOn_40 : decode cX11_versionOn 40 = .ok (.goto 8, 3) := by decide +kernel
theorem dX11_versionOn_43 : decode cX11_versionOn 43 = .ok (.aload_n 0, 1) := by decide +kernel
theorem dX11_versionOn_44 : decode cX11_versionOn 44 = .ok (.iload_n 1, 1) := by decide +kernel
theorem dX11_versionOn_45 : decode cX11_versionOn 45 = .ok (.invokevirtual 79, 3) := by decide +kernel
theorem dX11_versionOn_48 : decode cX11_versionOn 48 = .ok (.ireturn, 1) := by decide +kernel
theorem dX11_allBreaks_0 : decode cX11_allBreaks 0 = .ok (.iconst 0, 1) := by decide +kernel
theorem dX11_allBreaks_1 : decode cX11_allBreaks 1 = .ok (.istore_n 2, 1) := by decide +kernel
theorem dX11_allBreaks_2 : decode cX11_allBreaks 2 = .ok (.iconst 0, 1) := by decide +kernel
theorem dX11_allBreaks_3 : decode cX11_allBreaks 3 = .ok (.istore_n 3, 1) := by decide +kernel
theorem dX11_allBreaks_4 : decode cX11_allBreaks 4 = .ok (.iload_n 3, 1) := by decide +kernel
theorem dX11_allBreaks_5 : decode cX11_allBreaks 5 = .ok (.bipush 9, 2) := by decide +kernel
theorem dX11_allBreaks_7 : decode cX11_allBreaks 7 = .ok (.if_icmp .ge 26, 3) := by decide +kernel
theorem dX11_allBreaks_10 : decode cX11_allBreaks 10 = .ok (.iload_n 2, 1) := by decide +kernel
theorem dX11_allBreaks_11 : decode cX11_allBreaks 11 = .ok (.aload_n 0, 1) := by decide +kernel
theorem dX11_allBreaks_12 : decode cX11_allBreaks 12 = .ok (.getfield 9, 3) := by decide +kernel
theorem dX11_allBreaks_15 : decode cX11_allBreaks 15 = .ok (.iload_n 1, 1) := by decide +kernel
theorem dX11_allBreaks_16 : decode cX11_allBreaks 16 = .ok (.invokestatic 64, 3) := by decide +kernel
theorem dX11_allBreaks_19 : decode cX11_allBreaks 19 = .ok (.bipush 38, 2) := by decide +kernel
theorem dX11_allBreaks_21 : decode cX11_allBreaks 21 = .ok (.iadd, 1) := by decide +kernel
theorem dX11_allBreaks_22 : decode cX11_allBreaks 22 = .ok (.iload_n 3, 1) := by decide +kernel
theorem dX11_allBreaks_23 : decode cX11_allBreaks 23 = .ok (.iadd, 1) := by decide +kernel
theorem dX11_allBreaks_24 : decode cX11_allBreaks 24 = .ok (.iaload, 1) := by decide +kernel
theorem dX11_allBreaks_25 : decode cX11_allBreaks 25 = .ok (.iadd, 1) := by decide +kernel
theorem dX11_allBreaks_26 : decode cX11_allBreaks 26 = .ok (.istore_n 2, 1) := by decide +kernel
theorem dX11_allBreaks_27 : decode cX11_allBreaks 27 = .ok (.iinc 3 1, 3) := by decide +kernel
theorem dX11_allBreaks_30 : decode cX11_allBreaks 30 = .ok (.goto (-26), 3) := by decide +kernel
theorem dX11_allBreaks_33 : decode cX11_allBreaks 33 = .ok (.iload_n 2, 1) := by decide +kernel
theorem dX11_allBreaks_34 : decode cX11_allBreaks 34 = .ok (.ireturn, 1) := by decide +kernel
theorem dX11_extras_0 : decode cX11_extras 0 = .ok (.iconst 0, 1) := by decide +kernel
theorem dX11_extras_1 : decode cX11_extras 1 = .ok (.istore_n 2, 1) := by decide +kernel
theorem dX11_extras_2 : decode cX11_extras 2 = .ok (.iconst 0, 1) := by decide +kernel
theorem dX11_extras_3 : decode cX11_extras 3 = .ok (.istore_n 3, 1) := by decide +kernel
theorem dX11_extras_4 : decode cX11_extras 4 = .ok (.iload_n 3, 1) := by decide +kernel
theorem dX11_extras_5 : decode cX11_extras 5 = .ok (.bipush 10, 2) := by decide +kernel
theorem dX11_extras_7 : decode cX11_extras 7 = .ok (.if_icmp .ge 33, 3) := by decide +kernel
theorem dX11_extras_10 : decode cX11_extras 10 = .ok (.iload_n 2, 1) := by decide +kernel
theorem dX11_extras_11 : decode cX11_extras 11 = .ok (.aload_n 0, 1) := by decide +kernel
theorem dX11_extras_12 : decode cX11_extras 12 = .ok (.getfield 9, 3) := by decide +kernel
theorem dX11_extras_15 : decode cX11_extras 15 = .ok (.iload_n 1, 1) := by decide +kernel
theorem dX11_extras_16 : decode cX11_extras 16 = .ok (.iload_n 3, 1) := by decide +kernel
theorem dX11_extras_17 : decode cX11_extras 17 = .ok (.invokestatic 82, 3) := by decide +kernel
theorem dX11_extras_20 : decode cX11_extras 20 = .ok (.iaload, 1) := by decide +kernel
theorem dX11_extras_21 : decode cX11_extras 21 = .ok (.iconst 1, 1) := by decide +kernel
theorem dX11_extras_22 : decode cX11_extras 22 = .ok (.if_icmp .ne 9, 3) := by decide +kernel
theorem dX11_extras_25 : decode cX11_extras 25 = .ok (.iconst 1, 1) := by decide +kernel
theorem dX11_extras_26 : decode cX11_extras 26 = .ok (.iload_n 3, 1) := by decide +kernel
theorem dX11_extras_27 : decode cX11_extras 27 = .ok (.ishl, 1) := by decide +kernel
theorem dX11_extras_28 : decode cX11_extras 28 = .ok (.goto 4, 3) := by decide +kernel
theorem dX11_extras_31 : decode cX11_extras 31 = .ok (.iconst 0, 1) := by decide +kernel
theorem dX11_extras_32 : decode cX11_extras 32 = .ok (.ior, 1) := by decide +kernel
theorem dX11_extras_33 : decode cX11_extras 33 = .ok (.istore_n 2, 1) := by decide +kernel
theorem dX11_extras_34 : decode cX11_extras 34 = .ok (.iinc 3 1, 3) := by decide +kernel
theorem dX11_extras_37 : decode cX11_extras 37 = .ok (.goto (-33), 3) := by decide +kernel
theorem dX11_extras_40 : decode cX11_extras 40 = .ok (.iload_n 2, 1) := by decide +kernel
theorem dX11_extras_41 : decode cX11_extras 41 = .ok (.ireturn, 1) := by decide +kernel
theorem dX11_version_0 : decode cX11_version 0 = .ok (.aload_n 0, 1) := by decide +kernel
theorem dX11_version_1 : decode cX11_version 1 = .ok (.aload_n 0, 1) := by decide +kernel
theorem dX11_version_2 : decode cX11_version 2 = .ok (.iload_n 1, 1) := by decide +kernel
theorem dX11_version_3 : decode cX11_version 3 = .ok (.invokevirtual 71, 3) := by decide +kernel
theorem dX11_version_6 : decode cX11_version 6 = .ok (.ifCond .ne 7, 3) := by decide +kernel
theorem dX11_version_9 : decode cX11_version 9 = .ok (.iconst 1, 1) := by decide +kernel
theorem dX11_version_10 : decode cX11_version 10 = .ok (.goto 18, 3) := by decide +kernel
theorem dX11_version_13 : decode cX11_version 13 = .ok (.iload_n 2, 1) := by decide +kernel
theorem dX11_version_14 : decode cX11_version 14 = .ok (.iconst 0, 1) := by decide +kernel
theorem dX11_version_15 : decode cX11_version 15 = .ok (.bipush 7, 2) := by decide +kernel
theorem dX11_version_17 : decode cX11_version 17 = .ok (.invokestatic 60, 3) := by decide +kernel
theorem dX11_version_20 : decode cX11_version 20 = .ok (.ifCond .ne 7, 3) := by decide +kernel
theorem dX11_version_23 : decode cX11_version 23 = .ok (.iconst 2, 1) := by decide +kernel
theorem dX11_version_24 : decode cX11_version 24 = .ok (.goto 4, 3) := by decide +kernel
theorem dX11_version_27 : decode cX11_version 27 = .ok (.iconst 0, 1) := by decide +kernel
theorem dX11_version_28 : decode cX11_version 28 = .ok (.putfield 54, 3) := by decide +kernel
theorem dX11_version_31 : decode cX11_version 31 = .ok (.aload_n 0, 1) := by decide +kernel
theorem dX11_version_32 : decode cX11_version 32 = .ok (.getfield 54, 3) := by decide +kernel
theorem dX11_version_35 : decode cX11_version 35 = .ok (.ifCond .le 5, 3) := by decide +kernel
theorem dX11_version_38 : decode cX11_version 38 = .ok (.iconst 0, 1) := by decide +kernel
theorem dX11_version_39 : decode cX11_version 39 = .ok (.ireturn, 1) := by decide +kernel
theorem dX11_version_40 : decode cX11_version 40 = .ok (.iload_n 1, 1) := by decide +kernel
theorem dX11_version_41 : decode cX11_version 41 = .ok (.invokestatic 64, 3) := by decide +kernel
theorem dX11_version_44 : decode cX11_version 44 = .ok (.istore_n 3, 1) := by decide +kernel
theorem dX11_version_45 : decode cX11_version 45 = .ok (.iload_n 2, 1) := by decide +kernel
theorem dX11_version_46 : decode cX11_version 46 = .ok (.tableswitch 76 0 7 #[46, 55, 76, 76, 76, 76, 64, 70], 46) := by decide +kernel
theorem dX11_version_92 : decode cX11_version 92 = .ok (.aload_n 0, 1) := by decide +kernel
theorem dX11_version_93 : decode cX11_version 93 = .ok (.getfield 9, 3) := by decide +kernel
theorem dX11_version_96 : decode cX11_version 96 = .ok (.iload_n 3, 1) := by decide +kernel
theorem dX11_version_97 : decode cX11_version 97 = .ok (.iconst 0, 1) := by decide +kernel
theorem dX11_version_98 : decode cX11_version 98 = .ok (.iadd, 1) := by decide +kernel
theorem dX11_version_99 : decode cX11_version 99 = .ok (.iaload, 1) := by decide +kernel
theorem dX11_version_100 : decode cX11_version 100 = .ok (.ireturn, 1) := by decide +kernel
theorem dX11_version_101 : decode cX11_version 101 = .ok (.aload_n 0, 1) := by decide +kernel
theorem dX11_version_102 : decode cX11_version 102 = .ok (.getfield 9, 3) := by decide +kernel
theorem dX11_version_105 : decode cX11_version 105 = .ok (.iload_n 3, 1) := by decide +kernel
theorem dX11_version_106 : decode cX11_version 106 = .ok (.iconst 1, 1) := by decide +kernel
theorem dX11_version_107 : decode cX11_version 107 = .ok (.iadd, 1) := by decide +kernel
theorem dX11_version_108 : decode cX11_version 108 = .ok (.iaload, 1) := by decide +kernel
theorem dX11_version_109 : decode cX11_version 109 = .ok (.ireturn, 1) := by decide +kernel
theorem dX11_version_110 : decode cX11_version 110 = .ok (.aload_n 0, 1) := by decide +kernel
theorem dX11_version_111 : decode cX11_version 111 = .ok (.iload_n 1, 1) := by decide +kernel
theorem dX11_version_112 : decode cX11_version 112 = .ok (.invokevirtual 86, 3) := by decide +kernel
theorem dX11_version_115 : decode cX11_version 115 = .ok (.ireturn, 1) := by decide +kernel
theorem dX11_version_116 : decode cX11_version 116 = .ok (.aload_n 0, 1) := by decide +kernel
theorem dX11_version_117 : decode cX11_version 117 = .ok (.iload_n 1, 1) := by decide +kernel
theorem dX11_version_118 : decode cX11_version 118 = .ok (.invokevirtual 89, 3) := by decide +kernel
theorem dX11_version_121 : decode cX11_version 121 = .ok (.ireturn, 1) := by decide +kernel
theorem dX11_version_122 : decode cX11_version 122 = .ok (.aload_n 0, 1) := by decide +kernel
theorem dX11_version_123 : decode cX11_version 123 = .ok (.getfield 9, 3) := by decide +kernel
theorem dX11_version_126 : decode cX11_version 126 = .ok (.iload_n 3, 1) := by decide +kernel
theorem dX11_version_127 : decode cX11_version 127 = .ok (.sipush 146, 3) := by decide +kernel
theorem dX11_version_130 : decode cX11_version 130 = .ok (.iadd, 1) := by decide +kernel
theorem dX11_version_131 : decode cX11_version 131 = .ok (.iload_n 2, 1) := by decide +kernel
theorem dX11_version_132 : decode cX11_version 132 = .ok (.iadd, 1) := by decide +kernel
theorem dX11_version_133 : decode cX11_version 133 = .ok (.iconst 2, 1) := by decide +kernel
theorem dX11_version_134 : decode cX11_version 134 = .ok (.isub, 1) := by decide +kernel
theorem dX11_version_135 : decode cX11_version 135 = .ok (.iaload, 1) := by decide +kernel
theorem dX11_version_136 : decode cX11_version 136 = .ok (.ireturn, 1) := by decide +kernel
theorem dX11_zoneIn_0 : decode cX11_zoneIn 0 = .ok (.iconst 0, 1) := by decide +kernel
theorem dX11_zoneIn_1 : decode cX11_zoneIn 1 = .ok (.istore_n 3, 1) := by decide +kernel
theorem dX11_zoneIn_2 : decode cX11_zoneIn 2 = .ok (.iconst 0, 1) := by decide +kernel
theorem dX11_zoneIn_3 : decode cX11_zoneIn 3 = .ok (.istore 4, 2) := by decide +kernel
theorem dX11_zoneIn_5 : decode cX11_zoneIn 5 = .ok (.iload 4, 2) := by decide +kernel
theorem dX11_zoneIn_7 : decode cX11_zoneIn 7 = .ok (.aload_n 0, 1) := by decide +kernel
theorem dX11_zoneIn_8 : decode cX11_zoneIn 8 = .ok (.getfield 9, 3) := by decide +kernel
theorem dX11_zoneIn_11 : decode cX11_zoneIn 11 = .ok (.iload_n 1, 1) := by decide +kernel
theorem dX11_zoneIn_12 : decode cX11_zoneIn 12 = .ok (.invokestatic 64, 3) := by decide +kernel
theorem dX11_zoneIn_15 : decode cX11_zoneIn 15 = .ok (.iconst 1, 1) := by decide +kernel
theorem dX11_zoneIn_16 : decode cX11_zoneIn 16 = .ok (.iadd, 1) := by decide +kernel
theorem dX11_zoneIn_17 : decode cX11_zoneIn 17 = .ok (.iaload, 1) := by decide +kernel
theorem dX11_zoneIn_18 : decode cX11_zoneIn 18 = .ok (.if_icmp .ge 59, 3) := by decide +kernel
theorem dX11_zoneIn_21 : decode cX11_zoneIn 21 = .ok (.iload_n 1, 1) := by decide +kernel
theorem dX11_zoneIn_22 : decode cX11_zoneIn 22 = .ok (.invokestatic 64, 3) := by decide +kernel
theorem dX11_zoneIn_25 : decode cX11_zoneIn 25 = .ok (.iconst 2, 1) := by decide +kernel
theorem dX11_zoneIn_26 : decode cX11_zoneIn 26 = .ok (.iadd, 1) := by decide +kernel
theorem dX11_zoneIn_27 : decode cX11_zoneIn 27 = .ok (.iconst 3, 1) := by decide +kernel
theorem dX11_zoneIn_28 : decode cX11_zoneIn 28 = .ok (.iload 4, 2) := by decide +kernel
theorem dX11_zoneIn_30 : decode cX11_zoneIn 30 = .ok (.imul, 1) := by decide +kernel
theorem dX11_zoneIn_31 : decode cX11_zoneIn 31 = .ok (.iadd, 1) := by decide +kernel
theorem dX11_zoneIn_32 : decode cX11_zoneIn 32 = .ok (.istore 5, 2) := by decide +kernel
theorem dX11_zoneIn_34 : decode cX11_zoneIn 34 = .ok (.iload_n 2, 1) := by decide +kernel
theorem dX11_zoneIn_35 : decode cX11_zoneIn 35 = .ok (.aload_n 0, 1) := by decide +kernel
theorem dX11_zoneIn_36 : decode cX11_zoneIn 36 = .ok (.getfield 9, 3) := by decide +kernel
theorem dX11_zoneIn_39 : decode cX11_zoneIn 39 = .ok (.iload 5, 2) := by decide +kernel
theorem dX11_zoneIn_41 : decode cX11_zoneIn 41 = .ok (.iaload, 1) := by decide +kernel
theorem dX11_zoneIn_42 : decode cX11_zoneIn 42 = .ok (.aload_n 0, 1) := by decide +kernel
theorem dX11_zoneIn_43 : decode cX11_zoneIn 43 = .ok (.getfield 9, 3) := by decide +kernel
theorem dX11_zoneIn_46 : decode cX11_zoneIn 46 = .ok (.iload 5, 2) := by decide +kernel
theorem dX11_zoneIn_48 : decode cX11_zoneIn 48 = .ok (.iconst 1, 1) := by decide +kernel
theorem dX11_zoneIn_49 : decode cX11_zoneIn 49 = .ok (.iadd, 1) := by decide +kernel
theorem dX11_zoneIn_50 : decode cX11_zoneIn 50 = .ok (.iaload, 1) := by decide +kernel
theorem dX11_zoneIn_51 : decode cX11_zoneIn 51 = .ok (.invokestatic 60, 3) := by decide +kernel
theorem dX11_zoneIn_54 : decode cX11_zoneIn 54 = .ok (.ifCond .eq 15, 3) := by decide +kernel
theorem dX11_zoneIn_57 : decode cX11_zoneIn 57 = .ok (.aload_n 0, 1) := by decide +kernel
theorem dX11_zoneIn_58 : decode cX11_zoneIn 58 = .ok (.getfield 9, 3) := by decide +kernel
theorem dX11_zoneIn_61 : decode cX11_zoneIn 61 = .ok (.iload 5, 2) := by decide +kernel
theorem dX11_zoneIn_63 : decode cX11_zoneIn 63 = .ok (.iconst 2, 1) := by decide +kernel
theorem dX11_zoneIn_64 : decode cX11_zoneIn 64 = .ok (.iadd, 1) := by decide +kernel
theorem dX11_zoneIn_65 : decode cX11_zoneIn 65 = .ok (.iaload, 1) := by decide +kernel
theorem dX11_zoneIn_66 : decode cX11_zoneIn 66 = .ok (.goto 4, 3) := by decide +kernel
theorem dX11_zoneIn_69 : decode cX11_zoneIn 69 = .ok (.iload_n 3, 1) := by decide +kernel
theorem dX11_zoneIn_70 : decode cX11_zoneIn 70 = .ok (.istore_n 3, 1) := by decide +kernel
theorem dX11_zoneIn_71 : decode cX11_zoneIn 71 = .ok (.iinc 4 1, 3) := by decide +kernel
theorem dX11_zoneIn_74 : decode cX11_zoneIn 74 = .ok (.goto (-69), 3) := by decide +kernel
theorem dX11_zoneIn_77 : decode cX11_zoneIn 77 = .ok (.iload_n 3, 1) := by decide +kernel
theorem dX11_zoneIn_78 : decode cX11_zoneIn 78 = .ok (.ireturn, 1) := by decide +kernel
theorem dX11_zoneOf_0 : decode cX11_zoneOf 0 = .ok (.aload_n 0, 1) := by decide +kernel
theorem dX11_zoneOf_1 : decode cX11_zoneOf 1 = .ok (.aload_n 0, 1) := by decide +kernel
theorem dX11_zoneOf_2 : decode cX11_zoneOf 2 = .ok (.iload_n 1, 1) := by decide +kernel
theorem dX11_zoneOf_3 : decode cX11_zoneOf 3 = .ok (.invokevirtual 71, 3) := by decide +kernel
theorem dX11_zoneOf_6 : decode cX11_zoneOf 6 = .ok (.ifCond .eq 14, 3) := by decide +kernel
theorem dX11_zoneOf_9 : decode cX11_zoneOf 9 = .ok (.iload_n 2, 1) := by decide +kernel
theorem dX11_zoneOf_10 : decode cX11_zoneOf 10 = .ok (.iconst 0, 1) := by decide +kernel
theorem dX11_zoneOf_11 : decode cX11_zoneOf 11 = .ok (.sipush 999, 3) := by decide +kernel
theorem dX11_zoneOf_14 : decode cX11_zoneOf 14 = .ok (.invokestatic 60, 3) := by decide +kernel
theorem dX11_zoneOf_17 : decode cX11_zoneOf 17 = .ok (.ifCond .ne 7, 3) := by decide +kernel
theorem dX11_zoneOf_20 : decode cX11_zoneOf 20 = .ok (.iconst 1, 1) := by decide +kernel
theorem dX11_zoneOf_21 : decode cX11_zoneOf 21 = .ok (.goto 17, 3) := by decide +kernel
theorem dX11_zoneOf_24 : decode cX11_zoneOf 24 = .ok (.aload_n 0, 1) := by decide +kernel
theorem dX11_zoneOf_25 : decode cX11_zoneOf 25 = .ok (.iload_n 1, 1) := by decide +kernel
theorem dX11_zoneOf_26 : decode cX11_zoneOf 26 = .ok (.iload_n 2, 1) := by decide +kernel
theorem dX11_zoneOf_27 : decode cX11_zoneOf 27 = .ok (.invokevirtual 92, 3) := by decide +kernel
theorem dX11_zoneOf_30 : decode cX11_zoneOf 30 = .ok (.ifCond .ne 7, 3) := by decide +kernel
theorem dX11_zoneOf_33 : decode cX11_zoneOf 33 = .ok (.iconst 2, 1) := by decide +kernel
theorem dX11_zoneOf_34 : decode cX11_zoneOf 34 = .ok (.goto 4, 3) := by decide +kernel
theorem dX11_zoneOf_37 : decode cX11_zoneOf 37 = .ok (.iconst 0, 1) := by decide +kernel
theorem dX11_zoneOf_38 : decode cX11_zoneOf 38 = .ok (.putfield 54, 3) := by decide +kernel
theorem dX11_zoneOf_41 : decode cX11_zoneOf 41 = .ok (.aload_n 0, 1) := by decide +kernel
theorem dX11_zoneOf_42 : decode cX11_zoneOf 42 = .ok (.getfield 54, 3) := by decide +kernel
theorem dX11_zoneOf_45 : decode cX11_zoneOf 45 = .ok (.ifCond .le 7, 3) := by decide +kernel
theorem dX11_zoneOf_48 : decode cX11_zoneOf 48 = .ok (.iconst 0, 1) := by decide +kernel
theorem dX11_zoneOf_49 : decode cX11_zoneOf 49 = .ok (.goto 9, 3) := by decide +kernel
theorem dX11_zoneOf_52 : decode cX11_zoneOf 52 = .ok (.aload_n 0, 1) := by decide +kernel
theorem dX11_zoneOf_53 : decode cX11_zoneOf 53 = .ok (.iload_n 1, 1) := by decide +kernel
theorem dX11_zoneOf_54 : decode cX11_zoneOf 54 = .ok (.iload_n 2, 1) := by decide +kernel
theorem dX11_zoneOf_55 : decode cX11_zoneOf 55 = .ok (.invokevirtual 92, 3) := by decide +kernel
theorem dX11_zoneOf_58 : decode cX11_zoneOf 58 = .ok (.ireturn, 1) := by decide +kernel
theorem dX11_breaks_0 : decode cX11_breaks 0 = .ok (.aload_n 0, 1) := by decide +kernel
theorem dX11_breaks_1 : decode cX11_breaks 1 = .ok (.getfield 9, 3) := by decide +kernel
theorem dX11_breaks_4 : decode cX11_breaks 4 = .ok (.iload_n 1, 1) := by decide +kernel
theorem dX11_breaks_5 : decode cX11_breaks 5 = .ok (.invokestatic 64, 3) := by decide +kernel
theorem dX11_breaks_8 : decode cX11_breaks 8 = .ok (.bipush 38, 2) := by decide +kernel
theorem dX11_breaks_10 : decode cX11_breaks 10 = .ok (.iadd, 1) := by decide +kernel
theorem dX11_breaks_11 : decode cX11_breaks 11 = .ok (.iload_n 2, 1) := by decide +kernel
theorem dX11_breaks_12 : decode cX11_breaks 12 = .ok (.iadd, 1) := by decide +kernel
theorem dX11_breaks_13 : decode cX11_breaks 13 = .ok (.iconst 1, 1) := by decide +kernel
theorem dX11_breaks_14 : decode cX11_breaks 14 = .ok (.isub, 1) := by decide +kernel
theorem dX11_breaks_15 : decode cX11_breaks 15 = .ok (.iaload, 1) := by decide +kernel
theorem dX11_breaks_16 : decode cX11_breaks 16 = .ok (.ireturn, 1) := by decide +kernel
theorem dX11_breakAt_0 : decode cX11_breakAt 0 = .ok (.iload_n 0, 1) := by decide +kernel
theorem dX11_breakAt_1 : decode cX11_breakAt 1 = .ok (.invokestatic 64, 3) := by decide +kernel
theorem dX11_breakAt_4 : decode cX11_breakAt 4 = .ok (.bipush 47, 2) := by decide +kernel
theorem dX11_breakAt_6 : decode cX11_breakAt 6 = .ok (.iadd, 1) := by decide +kernel
theorem dX11_breakAt_7 : decode cX11_breakAt 7 = .ok (.bipush 10, 2) := by decide +kernel
theorem dX11_breakAt_9 : decode cX11_breakAt 9 = .ok (.iload_n 1, 1) := by decide +kernel
theorem dX11_breakAt_10 : decode cX11_breakAt 10 = .ok (.iconst 1, 1) := by decide +kernel
theorem dX11_breakAt_11 : decode cX11_breakAt 11 = .ok (.isub, 1) := by decide +kernel
theorem dX11_breakAt_12 : decode cX11_breakAt 12 = .ok (.imul, 1) := by decide +kernel
theorem dX11_breakAt_13 : decode cX11_breakAt 13 = .ok (.iadd, 1) := by decide +kernel
theorem dX11_breakAt_14 : decode cX11_breakAt 14 = .ok (.iconst 2, 1) := by decide +kernel
theorem dX11_breakAt_15 : decode cX11_breakAt 15 = .ok (.iload_n 2, 1) := by decide +kernel
theorem dX11_breakAt_16 : decode cX11_breakAt 16 = .ok (.imul, 1) := by decide +kernel
theorem dX11_breakAt_17 : decode cX11_breakAt 17 = .ok (.iadd, 1) := by decide +kernel
theorem dX11_breakAt_18 : decode cX11_breakAt 18 = .ok (.ireturn, 1) := by decide +kernel
theorem dX11_minimum_0 : decode cX11_minimum 0 = .ok (.aload_n 0, 1) := by decide +kernel
theorem dX11_minimum_1 : decode cX11_minimum 1 = .ok (.getfield 9, 3) := by decide +kernel
theorem dX11_minimum_4 : decode cX11_minimum 4 = .ok (.iload_n 1, 1) := by decide +kernel
theorem dX11_minimum_5 : decode cX11_minimum 5 = .ok (.invokestatic 64, 3) := by decide +kernel
theorem dX11_minimum_8 : decode cX11_minimum 8 = .ok (.sipush 137, 3) := by decide +kernel
theorem dX11_minimum_11 : decode cX11_minimum 11 = .ok (.iadd, 1) := by decide +kernel
theorem dX11_minimum_12 : decode cX11_minimum 12 = .ok (.iload_n 2, 1) := by decide +kernel
theorem dX11_minimum_13 : decode cX11_minimum 13 = .ok (.iadd, 1) := by decide +kernel
theorem dX11_minimum_14 : decode cX11_minimum 14 = .ok (.iconst 1, 1) := by decide +kernel
theorem dX11_minimum_15 : decode cX11_minimum 15 = .ok (.isub, 1) := by decide +kernel
theorem dX11_minimum_16 : decode cX11_minimum 16 = .ok (.iaload, 1) := by decide +kernel
theorem dX11_minimum_17 : decode cX11_minimum 17 = .ok (.ireturn, 1) := by decide +kernel
theorem dX11_breakOf_0 : decode cX11_breakOf 0 = .ok (.aload_n 0, 1) := by decide +kernel
theorem dX11_breakOf_1 : decode cX11_breakOf 1 = .ok (.aload_n 0, 1) := by decide +kernel
theorem dX11_breakOf_2 : decode cX11_breakOf 2 = .ok (.iload_n 1, 1) := by decide +kernel
theorem dX11_breakOf_3 : decode cX11_breakOf 3 = .ok (.invokevirtual 71, 3) := by decide +kernel
theorem dX11_breakOf_6 : decode cX11_breakOf 6 = .ok (.ifCond .eq 29, 3) := by decide +kernel
theorem dX11_breakOf_9 : decode cX11_breakOf 9 = .ok (.iload_n 2, 1) := by decide +kernel
theorem dX11_breakOf_10 : decode cX11_breakOf 10 = .ok (.iconst 1, 1) := by decide +kernel
theorem dX11_breakOf_11 : decode cX11_breakOf 11 = .ok (.bipush 9, 2) := by decide +kernel
theorem dX11_breakOf_13 : decode cX11_breakOf 13 = .ok (.invokestatic 60, 3) := by decide +kernel
theorem dX11_breakOf_16 : decode cX11_breakOf 16 = .ok (.ifCond .eq 19, 3) := by decide +kernel
theorem dX11_breakOf_19 : decode cX11_breakOf 19 = .ok (.iload_n 3, 1) := by decide +kernel
theorem dX11_breakOf_20 : decode cX11_breakOf 20 = .ok (.iconst (-1), 1) := by decide +kernel
theorem dX11_breakOf_21 : decode cX11_breakOf 21 = .ok (.aload_n 0, 1) := by decide +kernel
theorem dX11_breakOf_22 : decode cX11_breakOf 22 = .ok (.iload_n 1, 1) := by decide +kernel
theorem dX11_breakOf_23 : decode cX11_breakOf 23 = .ok (.iload_n 2, 1) := by decide +kernel
theorem dX11_breakOf_24 : decode cX11_breakOf 24 = .ok (.invokevirtual 95, 3) := by decide +kernel
theorem dX11_breakOf_27 : decode cX11_breakOf 27 = .ok (.iconst 1, 1) := by decide +kernel
theorem dX11_breakOf_28 : decode cX11_breakOf 28 = .ok (.isub, 1) := by decide +kernel
theorem dX11_breakOf_29 : decode cX11_breakOf 29 = .ok (.invokestatic 60, 3) := by decide +kernel
theorem dX11_breakOf_32 : decode cX11_breakOf 32 = .ok (.ifCond .ne 7, 3) := by decide +kernel
theorem dX11_breakOf_35 : decode cX11_breakOf 35 = .ok (.iconst 1, 1) := by decide +kernel
theorem dX11_breakOf_36 : decode cX11_breakOf 36 = .ok (.goto 4, 3) := by decide +kernel
theorem dX11_breakOf_39 : decode cX11_breakOf 39 = .ok (.iconst 0, 1) := by decide +kernel
theorem dX11_breakOf_40 : decode cX11_breakOf 40 = .ok (.putfield 54, 3) := by decide +kernel
theorem dX11_breakOf_43 : decode cX11_breakOf 43 = .ok (.aload_n 0, 1) := by decide +kernel
theorem dX11_breakOf_44 : decode cX11_breakOf 44 = .ok (.getfield 54, 3) := by decide +kernel
theorem dX11_breakOf_47 : decode cX11_breakOf 47 = .ok (.ifCond .le 5, 3) := by decide +kernel
theorem dX11_breakOf_50 : decode cX11_breakOf 50 = .ok (.iconst 0, 1) := by decide +kernel
theorem dX11_breakOf_51 : decode cX11_breakOf 51 = .ok (.ireturn, 1) := by decide +kernel
theorem dX11_breakOf_52 : decode cX11_breakOf 52 = .ok (.iload_n 3, 1) := by decide +kernel
theorem dX11_breakOf_53 : decode cX11_breakOf 53 = .ok (.ifCond .ge 26, 3) := by decide +kernel
theorem dX11_breakOf_56 : decode cX11_breakOf 56 = .ok (.iload 4, 2) := by decide +kernel
theorem dX11_breakOf_58 : decode cX11_breakOf 58 = .ok (.ifCond .eq 12, 3) := by decide +kernel
theorem dX11_breakOf_61 : decode cX11_breakOf 61 = .ok (.aload_n 0, 1) := by decide +kernel
theorem dX11_breakOf_62 : decode cX11_breakOf 62 = .ok (.iload_n 1, 1) := by decide +kernel
theorem dX11_breakOf_63 : decode cX11_breakOf 63 = .ok (.iload_n 2, 1) := by decide +kernel
theorem dX11_breakOf_64 : decode cX11_breakOf 64 = .ok (.invokevirtual 98, 3) := by decide +kernel
theorem dX11_breakOf_67 : decode cX11_breakOf 67 = .ok (.goto 34, 3) := by decide +kernel
theorem dX11_breakOf_70 : decode cX11_breakOf 70 = .ok (.aload_n 0, 1) := by decide +kernel
theorem dX11_breakOf_71 : decode cX11_breakOf 71 = .ok (.iload_n 1, 1) := by decide +kernel
theorem dX11_breakOf_72 : decode cX11_breakOf 72 = .ok (.iload_n 2, 1) := by decide +kernel
theorem dX11_breakOf_73 : decode cX11_breakOf 73 = .ok (.invokevirtual 95, 3) := by decide +kernel
theorem dX11_breakOf_76 : decode cX11_breakOf 76 = .ok (.goto 25, 3) := by decide +kernel
theorem dX11_breakOf_79 : decode cX11_breakOf 79 = .ok (.aload_n 0, 1) := by decide +kernel
theorem dX11_breakOf_80 : decode cX11_breakOf 80 = .ok (.getfield 9, 3) := by decide +kernel
theorem dX11_breakOf_83 : decode cX11_breakOf 83 = .ok (.iload_n 1, 1) := by decide +kernel
theorem dX11_breakOf_84 : decode cX11_breakOf 84 = .ok (.iload_n 2, 1) := by decide +kernel
theorem dX11_breakOf_85 : decode cX11_breakOf 85 = .ok (.iload_n 3, 1) := by decide +kernel
theorem dX11_breakOf_86 : decode cX11_breakOf 86 = .ok (.invokestatic 101, 3) := by decide +kernel
theorem dX11_breakOf_89 : decode cX11_breakOf 89 = .ok (.iload 4, 2) := by decide +kernel
theorem dX11_breakOf_91 : decode cX11_breakOf 91 = .ok (.ifCond .eq 7, 3) := by decide +kernel
theorem dX11_breakOf_94 : decode cX11_breakOf 94 = .ok (.iconst 1, 1) := by decide +kernel
theorem dX11_breakOf_95 : decode cX11_breakOf 95 = .ok (.goto 4, 3) := by decide +kernel
theorem dX11_breakOf_98 : decode cX11_breakOf 98 = .ok (.iconst 0, 1) := by decide +kernel
theorem dX11_breakOf_99 : decode cX11_breakOf 99 = .ok (.iadd, 1) := by decide +kernel
theorem dX11_breakOf_100 : decode cX11_breakOf 100 = .ok (.iaload, 1) := by decide +kernel
theorem dX11_breakOf_101 : decode cX11_breakOf 101 = .ok (.ireturn, 1) := by decide +kernel
theorem dX11_accessorial_0 : decode cX11_accessorial 0 = .ok (.aload_n 0, 1) := by decide +kernel
theorem dX11_accessorial_1 : decode cX11_accessorial 1 = .ok (.aload_n 0, 1) := by decide +kernel
theorem dX11_accessorial_2 : decode cX11_accessorial 2 = .ok (.iload_n 1, 1) := by decide +kernel
theorem dX11_accessorial_3 : decode cX11_accessorial 3 = .ok (.invokevirtual 71, 3) := by decide +kernel
theorem dX11_accessorial_6 : decode cX11_accessorial 6 = .ok (.ifCond .ne 7, 3) := by decide +kernel
theorem dX11_accessorial_9 : decode cX11_accessorial 9 = .ok (.iconst 1, 1) := by decide +kernel
theorem dX11_accessorial_10 : decode cX11_accessorial 10 = .ok (.goto 44, 3) := by decide +kernel
theorem dX11_accessorial_13 : decode cX11_accessorial 13 = .ok (.iload_n 2, 1) := by decide +kernel
theorem dX11_accessorial_14 : decode cX11_accessorial 14 = .ok (.iconst 0, 1) := by decide +kernel
theorem dX11_accessorial_15 : decode cX11_accessorial 15 = .ok (.bipush 9, 2) := by decide +kernel
theorem dX11_accessorial_17 : decode cX11_accessorial 17 = .ok (.invokestatic 60, 3) := by decide +kernel
theorem dX11_accessorial_20 : decode cX11_accessorial 20 = .ok (.ifCond .eq 16, 3) := by decide +kernel
theorem dX11_accessorial_23 : decode cX11_accessorial 23 = .ok (.aload_n 0, 1) := by decide +kernel
theorem dX11_accessorial_24 : decode cX11_accessorial 24 = .ok (.getfield 9, 3) := by decide +kernel
theorem dX11_accessorial_27 : decode cX11_accessorial 27 = .ok (.iload_n 1, 1) := by decide +kernel
theorem dX11_accessorial_28 : decode cX11_accessorial 28 = .ok (.iload_n 2, 1) := by decide +kernel
theorem dX11_accessorial_29 : decode cX11_accessorial 29 = .ok (.invokestatic 82, 3) := by decide +kernel
theorem dX11_accessorial_32 : decode cX11_accessorial 32 = .ok (.iaload, 1) := by decide +kernel
theorem dX11_accessorial_33 : decode cX11_accessorial 33 = .ok (.ifCond .ne 7, 3) := by decide +kernel
theorem dX11_accessorial_36 : decode cX11_accessorial 36 = .ok (.iconst 2, 1) := by decide +kernel
theorem dX11_accessorial_37 : decode cX11_accessorial 37 = .ok (.goto 17, 3) := by decide +kernel
theorem dX11_accessorial_40 : decode cX11_accessorial 40 = .ok (.iload_n 3, 1) := by decide +kernel
theorem dX11_accessorial_41 : decode cX11_accessorial 41 = .ok (.iconst 0, 1) := by decide +kernel
theorem dX11_accessorial_42 : decode cX11_accessorial 42 = .ok (.iconst 4, 1) := by decide +kernel
theorem dX11_accessorial_43 : decode cX11_accessorial 43 = .ok (.invokestatic 60, 3) := by decide +kernel
theorem dX11_accessorial_46 : decode cX11_accessorial 46 = .ok (.ifCond .ne 7, 3) := by decide +kernel
theorem dX11_accessorial_49 : decode cX11_accessorial 49 = .ok (.iconst 3, 1) := by decide +kernel
theorem dX11_accessorial_50 : decode cX11_accessorial 50 = .ok (.goto 4, 3) := by decide +kernel
theorem dX11_accessorial_53 : decode cX11_accessorial 53 = .ok (.iconst 0, 1) := by decide +kernel
theorem dX11_accessorial_54 : decode cX11_accessorial 54 = .ok (.putfield 54, 3) := by decide +kernel
theorem dX11_accessorial_57 : decode cX11_accessorial 57 = .ok (.aload_n 0, 1) := by decide +kernel
theorem dX11_accessorial_58 : decode cX11_accessorial 58 = .ok (.getfield 54, 3) := by decide +kernel
theorem dX11_accessorial_61 : decode cX11_accessorial 61 = .ok (.ifCond .le 7, 3) := by decide +kernel
theorem dX11_accessorial_64 : decode cX11_accessorial 64 = .ok (.iconst 0, 1) := by decide +kernel
theorem dX11_accessorial_65 : decode cX11_accessorial 65 = .ok (.goto 17, 3) := by decide +kernel
theorem dX11_accessorial_68 : decode cX11_accessorial 68 = .ok (.aload_n 0, 1) := by decide +kernel
theorem dX11_accessorial_69 : decode cX11_accessorial 69 = .ok (.getfield 9, 3) := by decide +kernel
theorem dX11_accessorial_72 : decode cX11_accessorial 72 = .ok (.iload_n 1, 1) := by decide +kernel
theorem dX11_accessorial_73 : decode cX11_accessorial 73 = .ok (.iload_n 2, 1) := by decide +kernel
theorem dX11_accessorial_74 : decode cX11_accessorial 74 = .ok (.invokestatic 82, 3) := by decide +kernel
theorem dX11_accessorial_77 : decode cX11_accessorial 77 = .ok (.iconst 1, 1) := by decide +kernel
theorem dX11_accessorial_78 : decode cX11_accessorial 78 = .ok (.iadd, 1) := by decide +kernel
theorem dX11_accessorial_79 : decode cX11_accessorial 79 = .ok (.iload_n 3, 1) := by decide +kernel
theorem dX11_accessorial_80 : decode cX11_accessorial 80 = .ok (.iadd, 1) := by decide +kernel
theorem dX11_accessorial_81 : decode cX11_accessorial 81 = .ok (.iaload, 1) := by decide +kernel
theorem dX11_accessorial_82 : decode cX11_accessorial 82 = .ok (.ireturn, 1) := by decide +kernel
theorem dX11_amountBy_0 : decode cX11_amountBy 0 = .ok (.iload_n 1, 1) := by decide +kernel
theorem dX11_amountBy_1 : decode cX11_amountBy 1 = .ok (.iload_n 2, 1) := by decide +kernel
theorem dX11_amountBy_2 : decode cX11_amountBy 2 = .ok (.iload_n 3, 1) := by decide +kernel
theorem dX11_amountBy_3 : decode cX11_amountBy 3 = .ok (.invokestatic 101, 3) := by decide +kernel
theorem dX11_amountBy_6 : decode cX11_amountBy 6 = .ok (.istore 5, 2) := by decide +kernel
theorem dX11_amountBy_8 : decode cX11_amountBy 8 = .ok (.iload 4, 2) := by decide +kernel
theorem dX11_amountBy_10 : decode cX11_amountBy 10 = .ok (.aload_n 0, 1) := by decide +kernel
theorem dX11_amountBy_11 : decode cX11_amountBy 11 = .ok (.getfield 9, 3) := by decide +kernel
theorem dX11_amountBy_14 : decode cX11_amountBy 14 = .ok (.iload 5, 2) := by decide +kernel
theorem dX11_amountBy_16 : decode cX11_amountBy 16 = .ok (.iaload, 1) := by decide +kernel
theorem dX11_amountBy_17 : decode cX11_amountBy 17 = .ok (.invokestatic 105, 3) := by decide +kernel
theorem dX11_amountBy_20 : decode cX11_amountBy 20 = .ok (.aload_n 0, 1) := by decide +kernel
theorem dX11_amountBy_21 : decode cX11_amountBy 21 = .ok (.getfield 9, 3) := by decide +kernel
theorem dX11_amountBy_24 : decode cX11_amountBy 24 = .ok (.iload 5, 2) := by decide +kernel
theorem dX11_amountBy_26 : decode cX11_amountBy 26 = .ok (.iconst 1, 1) := by decide +kernel
theorem dX11_amountBy_27 : decode cX11_amountBy 27 = .ok (.iadd, 1) := by decide +kernel
theorem dX11_amountBy_28 : decode cX11_amountBy 28 = .ok (.iaload, 1) := by decide +kernel
theorem dX11_amountBy_29 : decode cX11_amountBy 29 = .ok (.imul, 1) := by decide +kernel
theorem dX11_amountBy_30 : decode cX11_amountBy 30 = .ok (.ireturn, 1) := by decide +kernel
theorem dX11_baseOf_0 : decode cX11_baseOf 0 = .ok (.aload_n 0, 1) := by decide +kernel
theorem dX11_baseOf_1 : decode cX11_baseOf 1 = .ok (.iconst 0, 1) := by decide +kernel
theorem dX11_baseOf_2 : decode cX11_baseOf 2 = .ok (.putfield 110, 3) := by decide +kernel
theorem dX11_baseOf_5 : decode cX11_baseOf 5 = .ok (.iconst 1, 1) := by decide +kernel
theorem dX11_baseOf_6 : decode cX11_baseOf 6 = .ok (.istore 4, 2) := by decide +kernel
theorem dX11_baseOf_8 : decode cX11_baseOf 8 = .ok (.iload 4, 2) := by decide +kernel
theorem dX11_baseOf_10 : decode cX11_baseOf 10 = .ok (.aload_n 0, 1) := by decide +kernel
theorem dX11_baseOf_11 : decode cX11_baseOf 11 = .ok (.iload_n 1, 1) := by decide +kernel
theorem dX11_baseOf_12 : decode cX11_baseOf 12 = .ok (.iload_n 2, 1) := by decide +kernel
theorem dX11_baseOf_13 : decode cX11_baseOf 13 = .ok (.invokevirtual 95, 3) := by decide +kernel
theorem dX11_baseOf_16 : decode cX11_baseOf 16 = .ok (.if_icmp .ge 45, 3) := by decide +kernel
theorem dX11_baseOf_19 : decode cX11_baseOf 19 = .ok (.aload_n 0, 1) := by decide +kernel
theorem dX11_baseOf_20 : decode cX11_baseOf 20 = .ok (.aload_n 0, 1) := by decide +kernel
theorem dX11_baseOf_21 : decode cX11_baseOf 21 = .ok (.iload_n 1, 1) := by decide +kernel
theorem dX11_baseOf_22 : decode cX11_baseOf 22 = .ok (.iload_n 2, 1) := by decide +kernel
theorem dX11_baseOf_23 : decode cX11_baseOf 23 = .ok (.iload 4, 2) := by decide +kernel
theorem dX11_baseOf_25 : decode cX11_baseOf 25 = .ok (.iload_n 3, 1) := by decide +kernel
theorem dX11_baseOf_26 : decode cX11_baseOf 26 = .ok (.invokevirtual 113, 3) := by decide +kernel
theorem dX11_baseOf_29 : decode cX11_baseOf 29 = .ok (.aload_n 0, 1) := by decide +kernel
theorem dX11_baseOf_30 : decode cX11_baseOf 30 = .ok (.iload_n 1, 1) := by decide +kernel
theorem dX11_baseOf_31 : decode cX11_baseOf 31 = .ok (.iload_n 2, 1) := by decide +kernel
theorem dX11_baseOf_32 : decode cX11_baseOf 32 = .ok (.aload_n 0, 1) := by decide +kernel
theorem dX11_baseOf_33 : decode cX11_baseOf 33 = .ok (.getfield 110, 3) := by decide +kernel
theorem dX11_baseOf_36 : decode cX11_baseOf 36 = .ok (.iload_n 3, 1) := by decide +kernel
theorem dX11_baseOf_37 : decode cX11_baseOf 37 = .ok (.invokevirtual 113, 3) := by decide +kernel
theorem dX11_baseOf_40 : decode cX11_baseOf 40 = .ok (.if_icmp .ge 8, 3) := by decide +kernel
theorem dX11_baseOf_43 : decode cX11_baseOf 43 = .ok (.iload 4, 2) := by decide +kernel
theorem dX11_baseOf_45 : decode cX11_baseOf 45 = .ok (.goto 7, 3) := by decide +kernel
theorem dX11_baseOf_48 : decode cX11_baseOf 48 = .ok (.aload_n 0, 1) := by decide +kernel
theorem dX11_baseOf_49 : decode cX11_baseOf 49 = .ok (.getfield 110, 3) := by decide +kernel
theorem dX11_baseOf_52 : decode cX11_baseOf 52 = .ok (.putfield 110, 3) := by decide +kernel
theorem dX11_baseOf_55 : decode cX11_baseOf 55 = .ok (.iinc 4 1, 3) := by decide +kernel
theorem dX11_baseOf_58 : decode cX11_baseOf 58 = .ok (.goto (-50), 3) := by decide +kernel
theorem dX11_baseOf_61 : decode cX11_baseOf 61 = .ok (.aload_n 0, 1) := by decide +kernel
theorem dX11_baseOf_62 : decode cX11_baseOf 62 = .ok (.iload_n 1, 1) := by decide +kernel
theorem dX11_baseOf_63 : decode cX11_baseOf 63 = .ok (.iload_n 2, 1) := by decide +kernel
theorem dX11_baseOf_64 : decode cX11_baseOf 64 = .ok (.aload_n 0, 1) := by decide +kernel
theorem dX11_baseOf_65 : decode cX11_baseOf 65 = .ok (.getfield 110, 3) := by decide +kernel
theorem dX11_baseOf_68 : decode cX11_baseOf 68 = .ok (.iload_n 3, 1) := by decide +kernel
theorem dX11_baseOf_69 : decode cX11_baseOf 69 = .ok (.invokevirtual 113, 3) := by decide +kernel
theorem dX11_baseOf_72 : decode cX11_baseOf 72 = .ok (.aload_n 0, 1) := by decide +kernel
theorem dX11_baseOf_73 : decode cX11_baseOf 73 = .ok (.iload_n 1, 1) := by decide +kernel
theorem dX11_baseOf_74 : decode cX11_baseOf 74 = .ok (.iload_n 2, 1) := by decide +kernel
theorem dX11_baseOf_75 : decode cX11_baseOf 75 = .ok (.invokevirtual 98, 3) := by decide +kernel
theorem dX11_baseOf_78 : decode cX11_baseOf 78 = .ok (.invokestatic 105, 3) := by decide +kernel
theorem dX11_baseOf_81 : decode cX11_baseOf 81 = .ok (.ireturn, 1) := by decide +kernel
theorem dX11_base_0 : decode cX11_base 0 = .ok (.aload_n 0, 1) := by decide +kernel
theorem dX11_base_1 : decode cX11_base 1 = .ok (.aload_n 0, 1) := by decide +kernel
theorem dX11_base_2 : decode cX11_base 2 = .ok (.iload_n 1, 1) := by decide +kernel
theorem dX11_base_3 : decode cX11_base 3 = .ok (.invokevirtual 71, 3) := by decide +kernel
theorem dX11_base_6 : decode cX11_base 6 = .ok (.ifCond .eq 13, 3) := by decide +kernel
theorem dX11_base_9 : decode cX11_base 9 = .ok (.iload_n 2, 1) := by decide +kernel
theorem dX11_base_10 : decode cX11_base 10 = .ok (.iconst 1, 1) := by decide +kernel
theorem dX11_base_11 : decode cX11_base 11 = .ok (.bipush 9, 2) := by decide +kernel
theorem dX11_base_13 : decode cX11_base 13 = .ok (.invokestatic 60, 3) := by decide +kernel
theorem dX11_base_16 : decode cX11_base 16 = .ok (.ifCond .ne 7, 3) := by decide +kernel
theorem dX11_base_19 : decode cX11_base 19 = .ok (.iconst 1, 1) := by decide +kernel
theorem dX11_base_20 : decode cX11_base 20 = .ok (.goto 31, 3) := by decide +kernel
theorem dX11_base_23 : decode cX11_base 23 = .ok (.iload_n 3, 1) := by decide +kernel
theorem dX11_base_24 : decode cX11_base 24 = .ok (.iconst 0, 1) := by decide +kernel
theorem dX11_base_25 : decode cX11_base 25 = .ok (.ldc 117, 2) := by decide +kernel
theorem dX11_base_27 : decode cX11_base 27 = .ok (.invokestatic 60, 3) := by decide +kernel
theorem dX11_base_30 : decode cX11_base 30 = .ok (.ifCond .ne 7, 3) := by decide +kernel
theorem dX11_base_33 : decode cX11_base 33 = .ok (.iconst 2, 1) := by decide +kernel
theorem dX11_base_34 : decode cX11_base 34 = .ok (.goto 17, 3) := by decide +kernel
theorem dX11_base_37 : decode cX11_base 37 = .ok (.aload_n 0, 1) := by decide +kernel
theorem dX11_base_38 : decode cX11_base 38 = .ok (.iload_n 1, 1) := by decide +kernel
theorem dX11_base_39 : decode cX11_base 39 = .ok (.iload_n 2, 1) := by decide +kernel
theorem dX11_base_40 : decode cX11_base 40 = .ok (.invokevirtual 95, 3) := by decide +kernel
theorem dX11_base_43 : decode cX11_base 43 = .ok (.ifCond .ne 7, 3) := by decide +kernel
theorem dX11_base_46 : decode cX11_base 46 = .ok (.iconst 3, 1) := by decide +kernel
theorem dX11_base_47 : decode cX11_base 47 = .ok (.goto 4, 3) := by decide +kernel
theorem dX11_base_50 : decode cX11_base 50 = .ok (.iconst 0, 1) := by decide +kernel
theorem dX11_base_51 : decode cX11_base 51 = .ok (.putfield 54, 3) := by decide +kernel
theorem dX11_base_54 : decode cX11_base 54 = .ok (.aload_n 0, 1) := by decide +kernel
theorem dX11_base_55 : decode cX11_base 55 = .ok (.getfield 54, 3) := by decide +kernel
theorem dX11_base_58 : decode cX11_base 58 = .ok (.ifCond .le 7, 3) := by decide +kernel
theorem dX11_base_61 : decode cX11_base 61 = .ok (.iconst 0, 1) := by decide +kernel
theorem dX11_base_62 : decode cX11_base 62 = .ok (.goto 10, 3) := by decide +kernel
theorem dX11_base_65 : decode cX11_base 65 = .ok (.aload_n 0, 1) := by decide +kernel
theorem dX11_base_66 : decode cX11_base 66 = .ok (.iload_n 1, 1) := by decide +kernel
theorem dX11_base_67 : decode cX11_base 67 = .ok (.iload_n 2, 1) := by decide +kernel
theorem dX11_base_68 : decode cX11_base 68 = .ok (.iload_n 3, 1) := by decide +kernel
theorem dX11_base_69 : decode cX11_base 69 = .ok (.invokevirtual 118, 3) := by decide +kernel
theorem dX11_base_72 : decode cX11_base 72 = .ok (.ireturn, 1) := by decide +kernel
theorem dX11_feed_0 : decode cX11_feed 0 = .ok (.aload_n 0, 1) := by decide +kernel
theorem dX11_feed_1 : decode cX11_feed 1 = .ok (.iconst 0, 1) := by decide +kernel
theorem dX11_feed_2 : decode cX11_feed 2 = .ok (.putfield 54, 3) := by decide +kernel
theorem dX11_feed_5 : decode cX11_feed 5 = .ok (.aload_n 0, 1) := by decide +kernel
theorem dX11_feed_6 : decode cX11_feed 6 = .ok (.getfield 121, 3) := by decide +kernel
theorem dX11_feed_9 : decode cX11_feed 9 = .ok (.bipush 80, 2) := by decide +kernel
theorem dX11_feed_11 : decode cX11_feed 11 = .ok (.if_icmp .ne 9, 3) := by decide +kernel
theorem dX11_feed_14 : decode cX11_feed 14 = .ok (.aload_n 0, 1) := by decide +kernel
theorem dX11_feed_15 : decode cX11_feed 15 = .ok (.iconst 1, 1) := by decide +kernel
theorem dX11_feed_16 : decode cX11_feed 16 = .ok (.invokevirtual 68, 3) := by decide +kernel
theorem dX11_feed_19 : decode cX11_feed 19 = .ok (.ireturn, 1) := by decide +kernel
theorem dX11_feed_20 : decode cX11_feed 20 = .ok (.aload_n 0, 1) := by decide +kernel
theorem dX11_feed_21 : decode cX11_feed 21 = .ok (.getfield 22, 3) := by decide +kernel
theorem dX11_feed_24 : decode cX11_feed 24 = .ok (.aload_n 0, 1) := by decide +kernel
theorem dX11_feed_25 : decode cX11_feed 25 = .ok (.getfield 121, 3) := by decide +kernel
theorem dX11_feed_28 : decode cX11_feed 28 = .ok (.iload_n 1, 1) := by decide +kernel
theorem dX11_feed_29 : decode cX11_feed 29 = .ok (.iastore, 1) := by decide +kernel
theorem dX11_feed_30 : decode cX11_feed 30 = .ok (.aload_n 0, 1) := by decide +kernel
theorem dX11_feed_31 : decode cX11_feed 31 = .ok (.dup, 1) := by decide +kernel
theorem dX11_feed_32 : decode cX11_feed 32 = .ok (.getfield 121, 3) := by decide +kernel
theorem dX11_feed_35 : decode cX11_feed 35 = .ok (.iconst 1, 1) := by decide +kernel
theorem dX11_feed_36 : decode cX11_feed 36 = .ok (.iadd, 1) := by decide +kernel
theorem dX11_feed_37 : decode cX11_feed 37 = .ok (.putfield 121, 3) := by decide +kernel
theorem dX11_feed_40 : decode cX11_feed 40 = .ok (.aload_n 0, 1) := by decide +kernel
theorem dX11_feed_41 : decode cX11_feed 41 = .ok (.getfield 121, 3) := by decide +kernel
theorem dX11_feed_44 : decode cX11_feed 44 = .ok (.ireturn, 1) := by decide +kernel
theorem dX11_sign_0 : decode cX11_sign 0 = .ok (.aload_n 0, 1) := by decide +kernel
theorem dX11_sign_1 : decode cX11_sign 1 = .ok (.getfield 124, 3) := by decide +kernel
theorem dX11_sign_4 : decode cX11_sign 4 = .ok (.aload_n 0, 1) := by decide +kernel
theorem dX11_sign_5 : decode cX11_sign 5 = .ok (.getfield 121, 3) := by decide +kernel
theorem dX11_sign_8 : decode cX11_sign 8 = .ok (.if_icmp .ge 15, 3) := by decide +kernel
theorem dX11_sign_11 : decode cX11_sign 11 = .ok (.aload_n 0, 1) := by decide +kernel
theorem dX11_sign_12 : decode cX11_sign 12 = .ok (.getfield 22, 3) := by decide +kernel
theorem dX11_sign_15 : decode cX11_sign 15 = .ok (.aload_n 0, 1) := by decide +kernel
theorem dX11_sign_16 : decode cX11_sign 16 = .ok (.getfield 124, 3) := by decide +kernel
theorem dX11_sign_19 : decode cX11_sign 19 = .ok (.iaload, 1) := by decide +kernel
theorem dX11_sign_20 : decode cX11_sign 20 = .ok (.goto 4, 3) := by decide +kernel
theorem dX11_sign_23 : decode cX11_sign 23 = .ok (.iconst (-1), 1) := by decide +kernel
theorem dX11_sign_24 : decode cX11_sign 24 = .ok (.ireturn, 1) := by decide +kernel
theorem dX11_takes_0 : decode cX11_takes 0 = .ok (.aload_n 0, 1) := by decide +kernel
theorem dX11_takes_1 : decode cX11_takes 1 = .ok (.getfield 127, 3) := by decide +kernel
theorem dX11_takes_4 : decode cX11_takes 4 = .ok (.ifCond .ne 15, 3) := by decide +kernel
theorem dX11_takes_7 : decode cX11_takes 7 = .ok (.aload_n 0, 1) := by decide +kernel
theorem dX11_takes_8 : decode cX11_takes 8 = .ok (.invokevirtual 131, 3) := by decide +kernel
theorem dX11_takes_11 : decode cX11_takes 11 = .ok (.iload_n 1, 1) := by decide +kernel
theorem dX11_takes_12 : decode cX11_takes 12 = .ok (.if_icmp .ne 7, 3) := by decide +kernel
theorem dX11_takes_15 : decode cX11_takes 15 = .ok (.iconst 1, 1) := by decide +kernel
theorem dX11_takes_16 : decode cX11_takes 16 = .ok (.goto 4, 3) := by decide +kernel
theorem dX11_takes_19 : decode cX11_takes 19 = .ok (.iconst 0, 1) := by decide +kernel
theorem dX11_takes_20 : decode cX11_takes 20 = .ok (.istore_n 2, 1) := by decide +kernel
theorem dX11_takes_21 : decode cX11_takes 21 = .ok (.aload_n 0, 1) := by decide +kernel
theorem dX11_takes_22 : decode cX11_takes 22 = .ok (.dup, 1) := by decide +kernel
theorem dX11_takes_23 : decode cX11_takes 23 = .ok (.getfield 124, 3) := by decide +kernel
theorem dX11_takes_26 : decode cX11_takes 26 = .ok (.iload_n 2, 1) := by decide +kernel
theorem dX11_takes_27 : decode cX11_takes 27 = .ok (.ifCond .eq 7, 3) := by decide +kernel
theorem dX11_takes_30 : decode cX11_takes 30 = .ok (.iconst 1, 1) := by decide +kernel
theorem dX11_takes_31 : decode cX11_takes 31 = .ok (.goto 4, 3) := by decide +kernel
theorem dX11_takes_34 : decode cX11_takes 34 = .ok (.iconst 0, 1) := by decide +kernel
theorem dX11_takes_35 : decode cX11_takes 35 = .ok (.iadd, 1) := by decide +kernel
theorem dX11_takes_36 : decode cX11_takes 36 = .ok (.putfield 124, 3) := by decide +kernel
theorem dX11_takes_39 : decode cX11_takes 39 = .ok (.iload_n 2, 1) := by decide +kernel
theorem dX11_takes_40 : decode cX11_takes 40 = .ok (.ireturn, 1) := by decide +kernel
theorem dX11_need_0 : decode cX11_need 0 = .ok (.aload_n 0, 1) := by decide +kernel
theorem dX11_need_1 : decode cX11_need 1 = .ok (.aload_n 0, 1) := by decide +kernel
theorem dX11_need_2 : decode cX11_need 2 = .ok (.iload_n 1, 1) := by decide +kernel
theorem dX11_need_3 : decode cX11_need 3 = .ok (.invokevirtual 135, 3) := by decide +kernel
theorem dX11_need_6 : decode cX11_need 6 = .ok (.ifCond .ne 7, 3) := by decide +kernel
theorem dX11_need_9 : decode cX11_need 9 = .ok (.iconst 1, 1) := by decide +kernel
theorem dX11_need_10 : decode cX11_need 10 = .ok (.goto 4, 3) := by decide +kernel
theorem dX11_need_13 : decode cX11_need 13 = .ok (.iconst 0, 1) := by decide +kernel
theorem dX11_need_14 : decode cX11_need 14 = .ok (.putfield 127, 3) := by decide +kernel
theorem dX11_need_17 : decode cX11_need 17 = .ok (.return_, 1) := by decide +kernel
theorem dX11_digit_0 : decode cX11_digit 0 = .ok (.aload_n 0, 1) := by decide +kernel
theorem dX11_digit_1 : decode cX11_digit 1 = .ok (.getfield 127, 3) := by decide +kernel
theorem dX11_digit_4 : decode cX11_digit 4 = .ok (.ifCond .ne 21, 3) := by decide +kernel
theorem dX11_digit_7 : decode cX11_digit 7 = .ok (.aload_n 0, 1) := by decide +kernel
theorem dX11_digit_8 : decode cX11_digit 8 = .ok (.invokevirtual 131, 3) := by decide +kernel
theorem dX11_digit_11 : decode cX11_digit 11 = .ok (.bipush 48, 2) := by decide +kernel
theorem dX11_digit_13 : decode cX11_digit 13 = .ok (.iload_n 1, 1) := by decide +kernel
theorem dX11_digit_14 : decode cX11_digit 14 = .ok (.iadd, 1) := by decide +kernel
theorem dX11_digit_15 : decode cX11_digit 15 = .ok (.bipush 48, 2) := by decide +kernel
theorem dX11_digit_17 : decode cX11_digit 17 = .ok (.iload_n 2, 1) := by decide +kernel
theorem dX11_digit_18 : decode cX11_digit 18 = .ok (.iadd, 1) := by decide +kernel
theorem dX11_digit_19 : decode cX11_digit 19 = .ok (.invokestatic 60, 3) := by decide +kernel
theorem dX11_digit_22 : decode cX11_digit 22 = .ok (.ifCond .ne 10, 3) := by decide +kernel
theorem dX11_digit_25 : decode cX11_digit 25 = .ok (.aload_n 0, 1) := by decide +kernel
theorem dX11_digit_26 : decode cX11_digit 26 = .ok (.iconst 1, 1) := by decide +kernel
theorem dX11_digit_27 : decode cX11_digit 27 = .ok (.putfield 127, 3) := by decide +kernel
theorem dX11_digit_30 : decode cX11_digit 30 = .ok (.iconst 0, 1) := by decide +kernel
theorem dX11_digit_31 : decode cX11_digit 31 = .ok (.ireturn, 1) := by decide +kernel
theorem dX11_digit_32 : decode cX11_digit 32 = .ok (.aload_n 0, 1) := by decide +kernel
theorem dX11_digit_33 : decode cX11_digit 33 = .ok (.dup, 1) := by decide +kernel
theorem dX11_digit_34 : decode cX11_digit 34 = .ok (.getfield 124, 3) := by decide +kernel
theorem dX11_digit_37 : decode cX11_digit 37 = .ok (.iconst 1, 1) := by decide +kernel
theorem dX11_digit_38 : decode cX11_digit 38 = .ok (.iadd, 1) := by decide +kernel
theorem dX11_digit_39 : decode cX11_digit 39 = .ok (.putfield 124, 3) := by decide +kernel
theorem dX11_digit_42 : decode cX11_digit 42 = .ok (.aload_n 0, 1) := by decide +kernel
theorem dX11_digit_43 : decode cX11_digit 43 = .ok (.getfield 22, 3) := by decide +kernel
theorem dX11_digit_46 : decode cX11_digit 46 = .ok (.aload_n 0, 1) := by decide +kernel
theorem dX11_digit_47 : decode cX11_digit 47 = .ok (.getfield 124, 3) := by decide +kernel
theorem dX11_digit_50 : decode cX11_digit 50 = .ok (.iconst 1, 1) := by decide +kernel
theorem dX11_digit_51 : decode cX11_digit 51 = .ok (.isub, 1) := by decide +kernel
theorem dX11_digit_52 : decode cX11_digit 52 = .ok (.iaload, 1) := by decide +kernel
theorem dX11_digit_53 : decode cX11_digit 53 = .ok (.bipush 48, 2) := by decide +kernel
theorem dX11_digit_55 : decode cX11_digit 55 = .ok (.isub, 1) := by decide +kernel
theorem dX11_digit_56 : decode cX11_digit 56 = .ok (.ireturn, 1) := by decide +kernel
theorem dX11_number_0 : decode cX11_number 0 = .ok (.aload_n 0, 1) := by decide +kernel
theorem dX11_number_1 : decode cX11_number 1 = .ok (.iconst 0, 1) := by decide +kernel
theorem dX11_number_2 : decode cX11_number 2 = .ok (.bipush 9, 2) := by decide +kernel
theorem dX11_number_4 : decode cX11_number 4 = .ok (.invokevirtual 138, 3) := by decide +kernel
theorem dX11_number_7 : decode cX11_number 7 = .ok (.istore_n 1, 1) := by decide +kernel
theorem dX11_number_8 : decode cX11_number 8 = .ok (.iconst 1, 1) := by decide +kernel
theorem dX11_number_9 : decode cX11_number 9 = .ok (.istore_n 2, 1) := by decide +kernel
theorem dX11_number_10 : decode cX11_number 10 = .ok (.iload_n 2, 1) := by decide +kernel
theorem dX11_number_11 : decode cX11_number 11 = .ok (.iconst 4, 1) := by decide +kernel
theorem dX11_number_12 : decode cX11_number 12 = .ok (.if_icmp .ge 43, 3) := by decide +kernel
theorem dX11_number_15 : decode cX11_number 15 = .ok (.aload_n 0, 1) := by decide +kernel
theorem dX11_number_16 : decode cX11_number 16 = .ok (.getfield 127, 3) := by decide +kernel
theorem dX11_number_19 : decode cX11_number 19 = .ok (.ifCond .ne 36, 3) := by decide +kernel
theorem dX11_number_22 : decode cX11_number 22 = .ok (.aload_n 0, 1) := by decide +kernel
theorem dX11_number_23 : decode cX11_number 23 = .ok (.invokevirtual 131, 3) := by decide +kernel
theorem dX11_number_26 : decode cX11_number 26 = .ok (.bipush 48, 2) := by decide +kernel
theorem dX11_number_28 : decode cX11_number 28 = .ok (.bipush 57, 2) := by decide +kernel
theorem dX11_number_30 : decode cX11_number 30 = .ok (.invokestatic 60, 3) := by decide +kernel
theorem dX11_number_33 : decode cX11_number 33 = .ok (.ifCond .eq 22, 3) := by decide +kernel
theorem dX11_number_36 : decode cX11_number 36 = .ok (.bipush 10, 2) := by decide +kernel
theorem dX11_number_38 : decode cX11_number 38 = .ok (.iload_n 1, 1) := by decide +kernel
theorem dX11_number_39 : decode cX11_number 39 = .ok (.imul, 1) := by decide +kernel
theorem dX11_number_40 : decode cX11_number 40 = .ok (.aload_n 0, 1) := by decide +kernel
theorem dX11_number_41 : decode cX11_number 41 = .ok (.iconst 0, 1) := by decide +kernel
theorem dX11_number_42 : decode cX11_number 42 = .ok (.bipush 9, 2) := by decide +kernel
theorem dX11_number_44 : decode cX11_number 44 = .ok (.invokevirtual 138, 3) := by decide +kernel
theorem dX11_number_47 : decode cX11_number 47 = .ok (.iadd, 1) := by decide +kernel
theorem dX11_number_48 : decode cX11_number 48 = .ok (.istore_n 1, 1) := by decide +kernel
theorem dX11_number_49 : decode cX11_number 49 = .ok (.iinc 2 1, 3) := by decide +kernel
theorem dX11_number_52 : decode cX11_number 52 = .ok (.goto (-42), 3) := by decide +kernel
theorem dX11_number_55 : decode cX11_number 55 = .ok (.iload_n 1, 1) := by decide +kernel
theorem dX11_number_56 : decode cX11_number 56 = .ok (.ireturn, 1) := by decide +kernel
theorem dX11_kindOf_0 : decode cX11_kindOf 0 = .ok (.iload_n 0, 1) := by decide +kernel
theorem dX11_kindOf_1 : decode cX11_kindOf 1 = .ok (.bipush 104, 2) := by decide +kernel
theorem dX11_kindOf_3 : decode cX11_kindOf 3 = .ok (.if_icmp .ne 7, 3) := by decide +kernel
theorem dX11_kindOf_6 : decode cX11_kindOf 6 = .ok (.iconst 0, 1) := by decide +kernel
theorem dX11_kindOf_7 : decode cX11_kindOf 7 = .ok (.goto 44, 3) := by decide +kernel
theorem dX11_kindOf_10 : decode cX11_kindOf 10 = .ok (.iload_n 0, 1) := by decide +kernel
theorem dX11_kindOf_11 : decode cX11_kindOf 11 = .ok (.bipush 119, 2) := by decide +kernel
theorem dX11_kindOf_13 : decode cX11_kindOf 13 = .ok (.if_icmp .ne 7, 3) := by decide +kernel
theorem dX11_kindOf_16 : decode cX11_kindOf 16 = .ok (.iconst 1, 1) := by decide +kernel
theorem dX11_kindOf_17 : decode cX11_kindOf 17 = .ok (.goto 34, 3) := by decide +kernel
theorem dX11_kindOf_20 : decode cX11_kindOf 20 = .ok (.iload_n 0, 1) := by decide +kernel
theorem dX11_kindOf_21 : decode cX11_kindOf 21 = .ok (.bipush 110, 2) := by decide +kernel
theorem dX11_kindOf_23 : decode cX11_kindOf 23 = .ok (.if_icmp .ne 7, 3) := by decide +kernel
theorem dX11_kindOf_26 : decode cX11_kindOf 26 = .ok (.iconst 2, 1) := by decide +kernel
theorem dX11_kindOf_27 : decode cX11_kindOf 27 = .ok (.goto 24, 3) := by decide +kernel
theorem dX11_kindOf_30 : decode cX11_kindOf 30 = .ok (.iload_n 0, 1) := by decide +kernel
theorem dX11_kindOf_31 : decode cX11_kindOf 31 = .ok (.bipush 108, 2) := by decide +kernel
theorem dX11_kindOf_33 : decode cX11_kindOf 33 = .ok (.if_icmp .ne 7, 3) := by decide +kernel
theorem dX11_kindOf_36 : decode cX11_kindOf 36 = .ok (.iconst 3, 1) := by decide +kernel
theorem dX11_kindOf_37 : decode cX11_kindOf 37 = .ok (.goto 14, 3) := by decide +kernel
theorem dX11_kindOf_40 : decode cX11_kindOf 40 = .ok (.iload_n 0, 1) := by decide +kernel
theorem dX11_kindOf_41 : decode cX11_kindOf 41 = .ok (.bipush 122, 2) := by decide +kernel
theorem dX11_kindOf_43 : decode cX11_kindOf 43 = .ok (.if_icmp .ne 7, 3) := by decide +kernel
theorem dX11_kindOf_46 : decode cX11_kindOf 46 = .ok (.iconst 4, 1) := by decide +kernel
theorem dX11_kindOf_47 : decode cX11_kindOf 47 = .ok (.goto 4, 3) := by decide +kernel
theorem dX11_kindOf_50 : decode cX11_kindOf 50 = .ok (.iconst (-1), 1) := by decide +kernel
theorem dX11_kindOf_51 : decode cX11_kindOf 51 = .ok (.ireturn, 1) := by decide +kernel
theorem dX11_comparison_0 : decode cX11_comparison 0 = .ok (.iload_n 0, 1) := by decide +kernel
theorem dX11_comparison_1 : decode cX11_comparison 1 = .ok (.bipush 60, 2) := by decide +kernel
theorem dX11_comparison_3 : decode cX11_comparison 3 = .ok (.if_icmp .ne 7, 3) := by decide +kernel
theorem dX11_comparison_6 : decode cX11_comparison 6 = .ok (.iconst 0, 1) := by decide +kernel
theorem dX11_comparison_7 : decode cX11_comparison 7 = .ok (.goto 24, 3) := by decide +kernel
theorem dX11_comparison_10 : decode cX11_comparison 10 = .ok (.iload_n 0, 1) := by decide +kernel
theorem dX11_comparison_11 : decode cX11_comparison 11 = .ok (.bipush 62, 2) := by decide +kernel
theorem dX11_comparison_13 : decode cX11_comparison 13 = .ok (.if_icmp .ne 7, 3) := by decide +kernel
theorem dX11_comparison_16 : decode cX11_comparison 16 = .ok (.iconst 1, 1) := by decide +kernel
theorem dX11_comparison_17 : decode cX11_comparison 17 = .ok (.goto 14, 3) := by decide +kernel
theorem dX11_comparison_20 : decode cX11_comparison 20 = .ok (.iload_n 0, 1) := by decide +kernel
theorem dX11_comparison_21 : decode cX11_comparison 21 = .ok (.bipush 61, 2) := by decide +kernel
theorem dX11_comparison_23 : decode cX11_comparison 23 = .ok (.if_icmp .ne 7, 3) := by decide +kernel
theorem dX11_comparison_26 : decode cX11_comparison 26 = .ok (.iconst 2, 1) := by decide +kernel
theorem dX11_comparison_27 : decode cX11_comparison 27 = .ok (.goto 4, 3) := by decide +kernel
theorem dX11_comparison_30 : decode cX11_comparison 30 = .ok (.iconst (-1), 1) := by decide +kernel
theorem dX11_comparison_31 : decode cX11_comparison 31 = .ok (.ireturn, 1) := by decide +kernel
theorem dX11_readTest_0 : decode cX11_readTest 0 = .ok (.aload_n 0, 1) := by decide +kernel
theorem dX11_readTest_1 : decode cX11_readTest 1 = .ok (.bipush 45, 2) := by decide +kernel
theorem dX11_readTest_3 : decode cX11_readTest 3 = .ok (.invokevirtual 135, 3) := by decide +kernel
theorem dX11_readTest_6 : decode cX11_readTest 6 = .ok (.ifCond .eq 7, 3) := by decide +kernel
theorem dX11_readTest_9 : decode cX11_readTest 9 = .ok (.iconst 1, 1) := by decide +kernel
theorem dX11_readTest_10 : decode cX11_readTest 10 = .ok (.goto 4, 3) := by decide +kernel
theorem dX11_readTest_13 : decode cX11_readTest 13 = .ok (.iconst 0, 1) := by decide +kernel
theorem dX11_readTest_14 : decode cX11_readTest 14 = .ok (.istore_n 2, 1) := by decide +kernel
theorem dX11_readTest_15 : decode cX11_readTest 15 = .ok (.aload_n 0, 1) := by decide +kernel
theorem dX11_readTest_16 : decode cX11_readTest 16 = .ok (.getfield 127, 3) := by decide +kernel
theorem dX11_readTest_19 : decode cX11_readTest 19 = .ok (.ifCond .eq 7, 3) := by decide +kernel
theorem dX11_readTest_22 : decode cX11_readTest 22 = .ok (.iconst (-1), 1) := by decide +kernel
theorem dX11_readTest_23 : decode cX11_readTest 23 = .ok (.goto 10, 3) := by decide +kernel
theorem dX11_readTest_26 : decode cX11_readTest 26 = .ok (.aload_n 0, 1) := by decide +kernel
theorem dX11_readTest_27 : decode cX11_readTest 27 = .ok (.invokevirtual 131, 3) := by decide +kernel
theorem dX11_readTest_30 : decode cX11_readTest 30 = .ok (.invokestatic 141, 3) := by decide +kernel
theorem dX11_readTest_33 : decode cX11_readTest 33 = .ok (.istore_n 3, 1) := by decide +kernel
theorem dX11_readTest_34 : decode cX11_readTest 34 = .ok (.iload_n 3, 1) := by decide +kernel
theorem dX11_readTest_35 : decode cX11_readTest 35 = .ok (.ifCond .ge 9, 3) := by decide +kernel
theorem dX11_readTest_38 : decode cX11_readTest 38 = .ok (.aload_n 0, 1) := by decide +kernel
theorem dX11_readTest_39 : decode cX11_readTest 39 = .ok (.iconst 1, 1) := by decide +kernel
theorem dX11_readTest_40 : decode cX11_readTest 40 = .ok (.putfield 127, 3) := by decide +kernel
theorem dX11_readTest_43 : decode cX11_readTest 43 = .ok (.return_, 1) := by decide +kernel
theorem dX11_readTest_44 : decode cX11_readTest 44 = .ok (.aload_n 0, 1) := by decide +kernel
theorem dX11_readTest_45 : decode cX11_readTest 45 = .ok (.dup, 1) := by decide +kernel
theorem dX11_readTest_46 : decode cX11_readTest 46 = .ok (.getfield 124, 3) := by decide +kernel
theorem dX11_readTest_49 : decode cX11_readTest 49 = .ok (.iconst 1, 1) := by decide +kernel
theorem dX11_readTest_50 : decode cX11_readTest 50 = .ok (.iadd, 1) := by decide +kernel
theorem dX11_readTest_51 : decode cX11_readTest 51 = .ok (.putfield 124, 3) := by decide +kernel
theorem dX11_readTest_54 : decode cX11_readTest 54 = .ok (.iconst 2, 1) := by decide +kernel
theorem dX11_readTest_55 : decode cX11_readTest 55 = .ok (.istore 4, 2) := by decide +kernel
theorem dX11_readTest_57 : decode cX11_readTest 57 = .ok (.iload_n 3, 1) := by decide +kernel
theorem dX11_readTest_58 : decode cX11_readTest 58 = .ok (.ifCond .le 47, 3) := by decide +kernel
theorem dX11_readTest_61 : decode cX11_readTest 61 = .ok (.aload_n 0, 1) := by decide +kernel
theorem dX11_readTest_62 : decode cX11_readTest 62 = .ok (.invokevirtual 131, 3) := by decide +kernel
theorem dX11_readTest_65 : decode cX11_readTest 65 = .ok (.invokestatic 144, 3) := by decide +kernel
theorem dX11_readTest_68 : decode cX11_readTest 68 = .ok (.istore 4, 2) := by decide +kernel
theorem dX11_readTest_70 : decode cX11_readTest 70 = .ok (.aload_n 0, 1) := by decide +kernel
theorem dX11_readTest_71 : decode cX11_readTest 71 = .ok (.iload 4, 2) := by decide +kernel
theorem dX11_readTest_73 : decode cX11_readTest 73 = .ok (.ifCond .ge 7, 3) := by decide +kernel
theorem dX11_readTest_76 : decode cX11_readTest 76 = .ok (.iconst 1, 1) := by decide +kernel
theorem dX11_readTest_77 : decode cX11_readTest 77 = .ok (.goto 4, 3) := by decide +kernel
theorem dX11_readTest_80 : decode cX11_readTest 80 = .ok (.iconst 0, 1) := by decide +kernel
theorem dX11_readTest_81 : decode cX11_readTest 81 = .ok (.putfield 127, 3) := by decide +kernel
theorem dX11_readTest_84 : decode cX11_readTest 84 = .ok (.aload_n 0, 1) := by decide +kernel
theorem dX11_readTest_85 : decode cX11_readTest 85 = .ok (.dup, 1) := by decide +kernel
theorem dX11_readTest_86 : decode cX11_readTest 86 = .ok (.getfield 124, 3) := by decide +kernel
theorem dX11_readTest_89 : decode cX11_readTest 89 = .ok (.aload_n 0, 1) := by decide +kernel
theorem dX11_readTest_90 : decode cX11_readTest 90 = .ok (.getfield 127, 3) := by decide +kernel
theorem dX11_readTest_93 : decode cX11_readTest 93 = .ok (.ifCond .eq 7, 3) := by decide +kernel
theorem dX11_readTest_96 : decode cX11_readTest 96 = .ok (.iconst 0, 1) := by decide +kernel
theorem dX11_readTest_97 : decode cX11_readTest 97 = .ok (.goto 4, 3) := by decide +kernel
theorem dX11_readTest_100 : decode cX11_readTest 100 = .ok (.iconst 1, 1) := by decide +kernel
theorem dX11_readTest_101 : decode cX11_readTest 101 = .ok (.iadd, 1) := by decide +kernel
theorem dX11_readTest_102 : decode cX11_readTest 102 = .ok (.putfield 124, 3) := by decide +kernel
theorem dX11_readTest_105 : decode cX11_readTest 105 = .ok (.iload_n 3, 1) := by decide +kernel
theorem dX11_readTest_106 : decode cX11_readTest 106 = .ok (.ifCond .ne 13, 3) := by decide +kernel
theorem dX11_readTest_109 : decode cX11_readTest 109 = .ok (.aload_n 0, 1) := by decide +kernel
theorem dX11_readTest_110 : decode cX11_readTest 110 = .ok (.iconst 0, 1) := by decide +kernel
theorem dX11_readTest_111 : decode cX11_readTest 111 = .ok (.bipush 7, 2) := by decide +kernel
theorem dX11_readTest_113 : decode cX11_readTest 113 = .ok (.invokevirtual 138, 3) := by decide +kernel
theorem dX11_readTest_116 : decode cX11_readTest 116 = .ok (.goto 7, 3) := by decide +kernel
theorem dX11_readTest_119 : decode cX11_readTest 119 = .ok (.aload_n 0, 1) := by decide +kernel
theorem dX11_readTest_120 : decode cX11_readTest 120 = .ok (.invokevirtual 147, 3) := by decide +kernel
theorem dX11_readTest_123 : decode cX11_readTest 123 = .ok (.istore 5, 2) := by decide +kernel
theorem dX11_readTest_125 : decode cX11_readTest 125 = .ok (.aload_n 0, 1) := by decide +kernel
theorem dX11_readTest_126 : decode cX11_readTest 126 = .ok (.getfield 32, 3) := by decide +kernel
theorem dX11_readTest_129 : decode cX11_readTest 129 = .ok (.aload_n 0, 1) := by decide +kernel
theorem dX11_readTest_130 : decode cX11_readTest 130 = .ok (.getfield 150, 3) := by decide +kernel
theorem dX11_readTest_133 : decode cX11_readTest 133 = .ok (.iload_n 1, 1) := by decide +kernel
theorem dX11_readTest_134 : decode cX11_readTest 134 = .ok (.iconst 2, 1) := by decide +kernel
theorem dX11_readTest_135 : decode cX11_readTest 135 = .ok (.imul, 1) := by decide +kernel
theorem dX11_readTest_136 : decode cX11_readTest 136 = .ok (.iload_n 2, 1) := by decide +kernel
theorem dX11_readTest_137 : decode cX11_readTest 137 = .ok (.iadd, 1) := by decide +kernel
theorem dX11_readTest_138 : decode cX11_readTest 138 = .ok (.iconst 5, 1) := by decide +kernel
theorem dX11_readTest_139 : decode cX11_readTest 139 = .ok (.imul, 1) := by decide +kernel
theorem dX11_readTest_140 : decode cX11_readTest 140 = .ok (.iload_n 3, 1) := by decide +kernel
theorem dX11_readTest_141 : decode cX11_readTest 141 = .ok (.iadd, 1) := by decide +kernel
theorem dX11_readTest_142 : decode cX11_readTest 142 = .ok (.iconst 3, 1) := by decide +kernel
theorem dX11_readTest_143 : decode cX11_readTest 143 = .ok (.imul, 1) := by decide +kernel
theorem dX11_readTest_144 : decode cX11_readTest 144 = .ok (.iconst 0, 1) := by decide +kernel
theorem dX11_readTest_145 : decode cX11_readTest 145 = .ok (.iload 4, 2) := by decide +kernel
theorem dX11_readTest_147 : decode cX11_readTest 147 = .ok (.invokestatic 105, 3) := by decide +kernel
theorem dX11_readTest_150 : decode cX11_readTest 150 = .ok (.iadd, 1) := by decide +kernel
theorem dX11_readTest_151 : decode cX11_readTest 151 = .ok (.sipush 10000, 3) := by decide +kernel
theorem dX11_readTest_154 : decode cX11_readTest 154 = .ok (.imul, 1) := by decide +kernel
theorem dX11_readTest_155 : decode cX11_readTest 155 = .ok (.iload 5, 2) := by decide +kernel
theorem dX11_readTest_157 : decode cX11_readTest 157 = .ok (.iadd, 1) := by decide +kernel
theorem dX11_readTest_158 : decode cX11_readTest 158 = .ok (.iastore, 1) := by decide +kernel
theorem dX11_readTest_159 : decode cX11_readTest 159 = .ok (.aload_n 0, 1) := by decide +kernel
theorem dX11_readTest_160 : decode cX11_readTest 160 = .ok (.dup, 1) := by decide +kernel
theorem dX11_readTest_161 : decode cX11_readTest 161 = .ok (.getfield 150, 3) := by decide +kernel
theorem dX11_readTest_164 : decode cX11_readTest 164 = .ok (.iconst 1, 1) := by decide +kernel
theorem dX11_readTest_165 : decode cX11_readTest 165 = .ok (.iadd, 1) := by decide +kernel
theorem dX11_readTest_166 : decode cX11_readTest 166 = .ok (.putfield 150, 3) := by decide +kernel
theorem dX11_readTest_169 : decode cX11_readTest 169 = .ok (.return_, 1) := by decide +kernel
theorem dX11_readCondition_0 : decode cX11_readCondition 0 = .ok (.iconst 0, 1) := by decide +kernel
theorem dX11_readCondition_1 : decode cX11_readCondition 1 = .ok (.istore_n 1, 1) := by decide +kernel
theorem dX11_readCondition_2 : decode cX11_readCondition 2 = .ok (.aload_n 0, 1) := by decide +kernel
theorem dX11_readCondition_3 : decode cX11_readCondition 3 = .ok (.iload_n 1, 1) := by decide +kernel
theorem dX11_readCondition_4 : decode cX11_readCondition 4 = .ok (.invokevirtual 153, 3) := by decide +kernel
theorem dX11_readCondition_7 : decode cX11_readCondition 7 = .ok (.aload_n 0, 1) := by decide +kernel
theorem dX11_readCondition_8 : decode cX11_readCondition 8 = .ok (.getfield 127, 3) := by decide +kernel
theorem dX11_readCondition_11 : decode cX11_readCondition 11 = .ok (.ifCond .ne 7, 3) := by decide +kernel
theorem dX11_readCondition_14 : decode cX11_readCondition 14 = .ok (.iconst 1, 1) := by decide +kernel
theorem dX11_readCondition_15 : decode cX11_readCondition 15 = .ok (.goto 4, 3) := by decide +kernel
theorem dX11_readCondition_18 : decode cX11_readCondition 18 = .ok (.iconst 0, 1) := by decide +kernel
theorem dX11_readCondition_19 : decode cX11_readCondition 19 = .ok (.istore_n 2, 1) := by decide +kernel
theorem dX11_readCondition_20 : decode cX11_readCondition 20 = .ok (.iload_n 2, 1) := by decide +kernel
theorem dX11_readCondition_21 : decode cX11_readCondition 21 = .ok (.ifCond .eq 83, 3) := by decide +kernel
theorem dX11_readCondition_24 : decode cX11_readCondition 24 = .ok (.aload_n 0, 1) := by decide +kernel
theorem dX11_readCondition_25 : decode cX11_readCondition 25 = .ok (.bipush 38, 2) := by decide +kernel
theorem dX11_readCondition_27 : decode cX11_readCondition 27 = .ok (.invokevirtual 135, 3) := by decide +kernel
theorem dX11_readCondition_30 : decode cX11_readCondition 30 = .ok (.istore_n 3, 1) := by decide +kernel
theorem dX11_readCondition_31 : decode cX11_readCondition 31 = .ok (.iload_n 3, 1) := by decide +kernel
theorem dX11_readCondition_32 : decode cX11_readCondition 32 = .ok (.ifCond .ne 16, 3) := by decide +kernel
theorem dX11_readCondition_35 : decode cX11_readCondition 35 = .ok (.aload_n 0, 1) := by decide +kernel
theorem dX11_readCondition_36 : decode cX11_readCondition 36 = .ok (.bipush 124, 2) := by decide +kernel
theorem dX11_readCondition_38 : decode cX11_readCondition 38 = .ok (.invokevirtual 135, 3) := by decide +kernel
theorem dX11_readCondition_41 : decode cX11_readCondition 41 = .ok (.ifCond .eq 7, 3) := by decide +kernel
theorem dX11_readCondition_44 : decode cX11_readCondition 44 = .ok (.iconst 1, 1) := by decide +kernel
theorem dX11_readCondition_45 : decode cX11_readCondition 45 = .ok (.goto 4, 3) := by decide +kernel
theorem dX11_readCondition_48 : decode cX11_readCondition 48 = .ok (.iconst 0, 1) := by decide +kernel
theorem dX11_readCondition_49 : decode cX11_readCondition 49 = .ok (.istore 4, 2) := by decide +kernel
theorem dX11_readCondition_51 : decode cX11_readCondition 51 = .ok (.iload_n 1, 1) := by decide +kernel
theorem dX11_readCondition_52 : decode cX11_readCondition 52 = .ok (.iload 4, 2) := by decide +kernel
theorem dX11_readCondition_54 : decode cX11_readCondition 54 = .ok (.ifCond .eq 7, 3) := by decide +kernel
theorem dX11_readCondition_57 : decode cX11_readCondition 57 = .ok (.iconst 1, 1) := by decide +kernel
theorem dX11_readCondition_58 : decode cX11_readCondition 58 = .ok (.goto 4, 3) := by decide +kernel
theorem dX11_readCondition_61 : decode cX11_readCondition 61 = .ok (.iconst 0, 1) := by decide +kernel
theorem dX11_readCondition_62 : decode cX11_readCondition 62 = .ok (.iadd, 1) := by decide +kernel
theorem dX11_readCondition_63 : decode cX11_readCondition 63 = .ok (.istore_n 1, 1) := by decide +kernel
theorem dX11_readCondition_64 : decode cX11_readCondition 64 = .ok (.iload_n 3, 1) := by decide +kernel
theorem dX11_readCondition_65 : decode cX11_readCondition 65 = .ok (.ifCond .ne 8, 3) := by decide +kernel
theorem dX11_readCondition_68 : decode cX11_readCondition 68 = .ok (.iload 4, 2) := by decide +kernel
theorem dX11_readCondition_70 : decode cX11_readCondition 70 = .ok (.ifCond .eq 7, 3) := by decide +kernel
theorem dX11_readCondition_73 : decode cX11_readCondition 73 = .ok (.iconst 1, 1) := by decide +kernel
theorem dX11_readCondition_74 : decode cX11_readCondition 74 = .ok (.goto 4, 3) := by decide +kernel
theorem dX11_readCondition_77 : decode cX11_readCondition 77 = .ok (.iconst 0, 1) := by decide +kernel
theorem dX11_readCondition_78 : decode cX11_readCondition 78 = .ok (.istore_n 2, 1) := by decide +kernel
theorem dX11_readCondition_79 : decode cX11_readCondition 79 = .ok (.iload_n 2, 1) := by decide +kernel
theorem dX11_readCondition_80 : decode cX11_readCondition 80 = .ok (.ifCond .eq 21, 3) := by decide +kernel
theorem dX11_readCondition_83 : decode cX11_readCondition 83 = .ok (.aload_n 0, 1) := by decide +kernel
theorem dX11_readCondition_84 : decode cX11_readCondition 84 = .ok (.iload_n 1, 1) := by decide +kernel
theorem dX11_readCondition_85 : decode cX11_readCondition 85 = .ok (.invokevirtual 153, 3) := by decide +kernel
theorem dX11_readCondition_88 : decode cX11_readCondition 88 = .ok (.aload_n 0, 1) := by decide +kernel
theorem dX11_readCondition_89 : decode cX11_readCondition 89 = .ok (.getfield 127, 3) := by decide +kernel
theorem dX11_readCondition_92 : decode cX11_readCondition 92 = .ok (.ifCond .ne 7, 3) := by decide +kernel
theorem dX11_readCondition_95 : decode cX11_readCondition 95 = .ok (.iconst 1, 1) := by decide +kernel
theorem dX11_readCondition_96 : decode cX11_readCondition 96 = .ok (.goto 4, 3) := by decide +kernel
theorem dX11_readCondition_99 : decode cX11_readCondition 99 = .ok (.iconst 0, 1) := by decide +kernel
theorem dX11_readCondition_100 : decode cX11_readCondition 100 = .ok (.istore_n 2, 1) := by decide +kernel
theorem dX11_readCondition_101 : decode cX11_readCondition 101 = .ok (.goto (-81), 3) := by decide +kernel
theorem dX11_readCondition_104 : decode cX11_readCondition 104 = .ok (.iload_n 1, 1) := by decide +kernel
theorem dX11_readCondition_105 : decode cX11_readCondition 105 = .ok (.iconst 1, 1) := by decide +kernel
theorem dX11_readCondition_106 : decode cX11_readCondition 106 = .ok (.iadd, 1) := by decide +kernel
theorem dX11_readCondition_107 : decode cX11_readCondition 107 = .ok (.ireturn, 1) := by decide +kernel
theorem dX11_readExtra_0 : decode cX11_readExtra 0 = .ok (.aload_n 0, 1) := by decide +kernel
theorem dX11_readExtra_1 : decode cX11_readExtra 1 = .ok (.getfield 29, 3) := by decide +kernel
theorem dX11_readExtra_4 : decode cX11_readExtra 4 = .ok (.iload_n 1, 1) := by decide +kernel
theorem dX11_readExtra_5 : decode cX11_readExtra 5 = .ok (.iconst 1, 1) := by decide +kernel
theorem dX11_readExtra_6 : decode cX11_readExtra 6 = .ok (.iadd, 1) := by decide +kernel
theorem dX11_readExtra_7 : decode cX11_readExtra 7 = .ok (.aload_n 0, 1) := by decide +kernel
theorem dX11_readExtra_8 : decode cX11_readExtra 8 = .ok (.iconst 0, 1) := by decide +kernel
theorem dX11_readExtra_9 : decode cX11_readExtra 9 = .ok (.bipush 9, 2) := by decide +kernel
theorem dX11_readExtra_11 : decode cX11_readExtra 11 = .ok (.invokevirtual 138, 3) := by decide +kernel
theorem dX11_readExtra_14 : decode cX11_readExtra 14 = .ok (.iastore, 1) := by decide +kernel
theorem dX11_readExtra_15 : decode cX11_readExtra 15 = .ok (.aload_n 0, 1) := by decide +kernel
theorem dX11_readExtra_16 : decode cX11_readExtra 16 = .ok (.bipush 58, 2) := by decide +kernel
theorem dX11_readExtra_18 : decode cX11_readExtra 18 = .ok (.invokevirtual 157, 3) := by decide +kernel
theorem dX11_readExtra_21 : decode cX11_readExtra 21 = .ok (.aload_n 0, 1) := by decide +kernel
theorem dX11_readExtra_22 : decode cX11_readExtra 22 = .ok (.getfield 29, 3) := by decide +kernel
theorem dX11_readExtra_25 : decode cX11_readExtra 25 = .ok (.iload_n 1, 1) := by decide +kernel
theorem dX11_readExtra_26 : decode cX11_readExtra 26 = .ok (.iconst 2, 1) := by decide +kernel
theorem dX11_readExtra_27 : decode cX11_readExtra 27 = .ok (.iadd, 1) := by decide +kernel
theorem dX11_readExtra_28 : decode cX11_readExtra 28 = .ok (.aload_n 0, 1) := by decide +kernel
theorem dX11_readExtra_29 : decode cX11_readExtra 29 = .ok (.getfield 127, 3) := by decide +kernel
theorem dX11_readExtra_32 : decode cX11_readExtra 32 = .ok (.ifCond .eq 7, 3) := by decide +kernel
theorem dX11_readExtra_35 : decode cX11_readExtra 35 = .ok (.iconst 0, 1) := by decide +kernel
theorem dX11_readExtra_36 : decode cX11_readExtra 36 = .ok (.goto 7, 3) := by decide +kernel
theorem dX11_readExtra_39 : decode cX11_readExtra 39 = .ok (.aload_n 0, 1) := by decide +kernel
theorem dX11_readExtra_40 : decode cX11_readExtra 40 = .ok (.invokevirtual 147, 3) := by decide +kernel
theorem dX11_readExtra_43 : decode cX11_readExtra 43 = .ok (.iastore, 1) := by decide +kernel
theorem dX11_readExtra_44 : decode cX11_readExtra 44 = .ok (.aload_n 0, 1) := by decide +kernel
theorem dX11_readExtra_45 : decode cX11_readExtra 45 = .ok (.getfield 29, 3) := by decide +kernel
theorem dX11_readExtra_48 : decode cX11_readExtra 48 = .ok (.iload_n 1, 1) := by decide +kernel
theorem dX11_readExtra_49 : decode cX11_readExtra 49 = .ok (.iconst 3, 1) := by decide +kernel
theorem dX11_readExtra_50 : decode cX11_readExtra 50 = .ok (.iadd, 1) := by decide +kernel
theorem dX11_readExtra_51 : decode cX11_readExtra 51 = .ok (.aload_n 0, 1) := by decide +kernel
theorem dX11_readExtra_52 : decode cX11_readExtra 52 = .ok (.bipush 37, 2) := by decide +kernel
theorem dX11_readExtra_54 : decode cX11_readExtra 54 = .ok (.invokevirtual 135, 3) := by decide +kernel
theorem dX11_readExtra_57 : decode cX11_readExtra 57 = .ok (.ifCond .eq 7, 3) := by decide +kernel
theorem dX11_readExtra_60 : decode cX11_readExtra 60 = .ok (.iconst 2, 1) := by decide +kernel
theorem dX11_readExtra_61 : decode cX11_readExtra 61 = .ok (.goto 17, 3) := by decide +kernel
theorem dX11_readExtra_64 : decode cX11_readExtra 64 = .ok (.aload_n 0, 1) := by decide +kernel
theorem dX11_readExtra_65 : decode cX11_readExtra 65 = .ok (.bipush 42, 2) := by decide +kernel
theorem dX11_readExtra_67 : decode cX11_readExtra 67 = .ok (.invokevirtual 135, 3) := by decide +kernel
theorem dX11_readExtra_70 : decode cX11_readExtra 70 = .ok (.ifCond .eq 7, 3) := by decide +kernel
theorem dX11_readExtra_73 : decode cX11_readExtra 73 = .ok (.iconst 1, 1) := by decide +kernel
theorem dX11_readExtra_74 : decode cX11_readExtra 74 = .ok (.goto 4, 3) := by decide +kernel
theorem dX11_readExtra_77 : decode cX11_readExtra 77 = .ok (.iconst 0, 1) := by decide +kernel
theorem dX11_readExtra_78 : decode cX11_readExtra 78 = .ok (.iastore, 1) := by decide +kernel
theorem dX11_readExtra_79 : decode cX11_readExtra 79 = .ok (.aload_n 0, 1) := by decide +kernel
theorem dX11_readExtra_80 : decode cX11_readExtra 80 = .ok (.getfield 29, 3) := by decide +kernel
theorem dX11_readExtra_83 : decode cX11_readExtra 83 = .ok (.iload_n 1, 1) := by decide +kernel
theorem dX11_readExtra_84 : decode cX11_readExtra 84 = .ok (.iconst 4, 1) := by decide +kernel
theorem dX11_readExtra_85 : decode cX11_readExtra 85 = .ok (.iadd, 1) := by decide +kernel
theorem dX11_readExtra_86 : decode cX11_readExtra 86 = .ok (.aload_n 0, 1) := by decide +kernel
theorem dX11_readExtra_87 : decode cX11_readExtra 87 = .ok (.getfield 150, 3) := by decide +kernel
theorem dX11_readExtra_90 : decode cX11_readExtra 90 = .ok (.iastore, 1) := by decide +kernel
theorem dX11_readExtra_91 : decode cX11_readExtra 91 = .ok (.aload_n 0, 1) := by decide +kernel
theorem dX11_readExtra_92 : decode cX11_readExtra 92 = .ok (.getfield 29, 3) := by decide +kernel
theorem dX11_readExtra_95 : decode cX11_readExtra 95 = .ok (.iload_n 1, 1) := by decide +kernel
theorem dX11_readExtra_96 : decode cX11_readExtra 96 = .ok (.iconst 5, 1) := by decide +kernel
theorem dX11_readExtra_97 : decode cX11_readExtra 97 = .ok (.iadd, 1) := by decide +kernel
theorem dX11_readExtra_98 : decode cX11_readExtra 98 = .ok (.aload_n 0, 1) := by decide +kernel
theorem dX11_readExtra_99 : decode cX11_readExtra 99 = .ok (.bipush 63, 2) := by decide +kernel
theorem dX11_readExtra_101 : decode cX11_readExtra 101 = .ok (.invokevirtual 135, 3) := by decide +kernel
theorem dX11_readExtra_104 : decode cX11_readExtra 104 = .ok (.ifCond .eq 10, 3) := by decide +kernel
theorem dX11_readExtra_107 : decode cX11_readExtra 107 = .ok (.aload_n 0, 1) := by decide +kernel
theorem dX11_readExtra_108 : decode cX11_readExtra 108 = .ok (.invokevirtual 160, 3) := by decide +kernel
theorem dX11_readExtra_111 : decode cX11_readExtra 111 = .ok (.goto 4, 3) := by decide +kernel
theorem dX11_readExtra_114 : decode cX11_readExtra 114 = .ok (.iconst 0, 1) := by decide +kernel
theorem dX11_readExtra_115 : decode cX11_readExtra 115 = .ok (.iastore, 1) := by decide +kernel
theorem dX11_readExtra_116 : decode cX11_readExtra 116 = .ok (.aload_n 0, 1) := by decide +kernel
theorem dX11_readExtra_117 : decode cX11_readExtra 117 = .ok (.getfield 29, 3) := by decide +kernel
theorem dX11_readExtra_120 : decode cX11_readExtra 120 = .ok (.iload_n 1, 1) := by decide +kernel
theorem dX11_readExtra_121 : decode cX11_readExtra 121 = .ok (.bipush 6, 2) := by decide +kernel
theorem dX11_readExtra_123 : decode cX11_readExtra 123 = .ok (.iadd, 1) := by decide +kernel
theorem dX11_readExtra_124 : decode cX11_readExtra 124 = .ok (.aload_n 0, 1) := by decide +kernel
theorem dX11_readExtra_125 : decode cX11_readExtra 125 = .ok (.getfield 150, 3) := by decide +kernel
theorem dX11_readExtra_128 : decode cX11_readExtra 128 = .ok (.iastore, 1) := by decide +kernel
theorem dX11_readExtra_129 : decode cX11_readExtra 129 = .ok (.aload_n 0, 1) := by decide +kernel
theorem dX11_readExtra_130 : decode cX11_readExtra 130 = .ok (.getfield 29, 3) := by decide +kernel
theorem dX11_readExtra_133 : decode cX11_readExtra 133 = .ok (.iload_n 1, 1) := by decide +kernel
theorem dX11_readExtra_134 : decode cX11_readExtra 134 = .ok (.bipush 7, 2) := by decide +kernel
theorem dX11_readExtra_136 : decode cX11_readExtra 136 = .ok (.iadd, 1) := by decide +kernel
theorem dX11_readExtra_137 : decode cX11_readExtra 137 = .ok (.aload_n 0, 1) := by decide +kernel
theorem dX11_readExtra_138 : decode cX11_readExtra 138 = .ok (.bipush 33, 2) := by decide +kernel
theorem dX11_readExtra_140 : decode cX11_readExtra 140 = .ok (.invokevirtual 135, 3) := by decide +kernel
theorem dX11_readExtra_143 : decode cX11_readExtra 143 = .ok (.ifCond .eq 13, 3) := by decide +kernel
theorem dX11_readExtra_146 : decode cX11_readExtra 146 = .ok (.aload_n 0, 1) := by decide +kernel
theorem dX11_readExtra_147 : decode cX11_readExtra 147 = .ok (.iconst 0, 1) := by decide +kernel
theorem dX11_readExtra_148 : decode cX11_readExtra 148 = .ok (.bipush 9, 2) := by decide +kernel
theorem dX11_readExtra_150 : decode cX11_readExtra 150 = .ok (.invokevirtual 138, 3) := by decide +kernel
theorem dX11_readExtra_153 : decode cX11_readExtra 153 = .ok (.goto 4, 3) := by decide +kernel
theorem dX11_readExtra_156 : decode cX11_readExtra 156 = .ok (.iconst (-1), 1) := by decide +kernel
theorem dX11_readExtra_157 : decode cX11_readExtra 157 = .ok (.iastore, 1) := by decide +kernel
theorem dX11_readExtra_158 : decode cX11_readExtra 158 = .ok (.return_, 1) := by decide +kernel
theorem dX11_readZone_0 : decode cX11_readZone 0 = .ok (.aload_n 0, 1) := by decide +kernel
theorem dX11_readZone_1 : decode cX11_readZone 1 = .ok (.getfield 29, 3) := by decide +kernel
theorem dX11_readZone_4 : decode cX11_readZone 4 = .ok (.iload_n 1, 1) := by decide +kernel
theorem dX11_readZone_5 : decode cX11_readZone 5 = .ok (.iconst 1, 1) := by decide +kernel
theorem dX11_readZone_6 : decode cX11_readZone 6 = .ok (.iadd, 1) := by decide +kernel
theorem dX11_readZone_7 : decode cX11_readZone 7 = .ok (.aload_n 0, 1) := by decide +kernel
theorem dX11_readZone_8 : decode cX11_readZone 8 = .ok (.iconst 1, 1) := by decide +kernel
theorem dX11_readZone_9 : decode cX11_readZone 9 = .ok (.bipush 9, 2) := by decide +kernel
theorem dX11_readZone_11 : decode cX11_readZone 11 = .ok (.invokevirtual 138, 3) := by decide +kernel
theorem dX11_readZone_14 : decode cX11_readZone 14 = .ok (.iastore, 1) := by decide +kernel
theorem dX11_readZone_15 : decode cX11_readZone 15 = .ok (.aload_n 0, 1) := by decide +kernel
theorem dX11_readZone_16 : decode cX11_readZone 16 = .ok (.getfield 127, 3) := by decide +kernel
theorem dX11_readZone_19 : decode cX11_readZone 19 = .ok (.ifCond .ne 9, 3) := by decide +kernel
theorem dX11_readZone_22 : decode cX11_readZone 22 = .ok (.aload_n 0, 1) := by decide +kernel
theorem dX11_readZone_23 : decode cX11_readZone 23 = .ok (.bipush 58, 2) := by decide +kernel
theorem dX11_readZone_25 : decode cX11_readZone 25 = .ok (.invokevirtual 157, 3) := by decide +kernel
theorem dX11_readZone_28 : decode cX11_readZone 28 = .ok (.aload_n 0, 1) := by decide +kernel
theorem dX11_readZone_29 : decode cX11_readZone 29 = .ok (.getfield 29, 3) := by decide +kernel
theorem dX11_readZone_32 : decode cX11_readZone 32 = .ok (.iload_n 1, 1) := by decide +kernel
theorem dX11_readZone_33 : decode cX11_readZone 33 = .ok (.iconst 2, 1) := by decide +kernel
theorem dX11_readZone_34 : decode cX11_readZone 34 = .ok (.iadd, 1) := by decide +kernel
theorem dX11_readZone_35 : decode cX11_readZone 35 = .ok (.aload_n 0, 1) := by decide +kernel
theorem dX11_readZone_36 : decode cX11_readZone 36 = .ok (.getfield 127, 3) := by decide +kernel
theorem dX11_readZone_39 : decode cX11_readZone 39 = .ok (.ifCond .eq 7, 3) := by decide +kernel
theorem dX11_readZone_42 : decode cX11_readZone 42 = .ok (.iconst 0, 1) := by decide +kernel
theorem dX11_readZone_43 : decode cX11_readZone 43 = .ok (.goto 7, 3) := by decide +kernel
theorem dX11_readZone_46 : decode cX11_readZone 46 = .ok (.aload_n 0, 1) := by decide +kernel
theorem dX11_readZone_47 : decode cX11_readZone 47 = .ok (.invokevirtual 147, 3) := by decide +kernel
theorem dX11_readZone_50 : decode cX11_readZone 50 = .ok (.iastore, 1) := by decide +kernel
theorem dX11_readZone_51 : decode cX11_readZone 51 = .ok (.iload_n 2, 1) := by decide +kernel
theorem dX11_readZone_52 : decode cX11_readZone 52 = .ok (.bipush 109, 2) := by decide +kernel
theorem dX11_readZone_54 : decode cX11_readZone 54 = .ok (.if_icmp .eq 50, 3) := by decide +kernel
theorem dX11_readZone_57 : decode cX11_readZone 57 = .ok (.aload_n 0, 1) := by decide +kernel
theorem dX11_readZone_58 : decode cX11_readZone 58 = .ok (.getfield 127, 3) := by decide +kernel
theorem dX11_readZone_61 : decode cX11_readZone 61 = .ok (.ifCond .ne 43, 3) := by decide +kernel
theorem dX11_readZone_64 : decode cX11_readZone 64 = .ok (.aload_n 0, 1) := by decide +kernel
theorem dX11_readZone_65 : decode cX11_readZone 65 = .ok (.iload_n 2, 1) := by decide +kernel
theorem dX11_readZone_66 : decode cX11_readZone 66 = .ok (.bipush 122, 2) := by decide +kernel
theorem dX11_readZone_68 : decode cX11_readZone 68 = .ok (.if_icmp .ne 8, 3) := by decide +kernel
theorem dX11_readZone_71 : decode cX11_readZone 71 = .ok (.bipush 45, 2) := by decide +kernel
theorem dX11_readZone_73 : decode cX11_readZone 73 = .ok (.goto 5, 3) := by decide +kernel
theorem dX11_readZone_76 : decode cX11_readZone 76 = .ok (.bipush 42, 2) := by decide +kernel
theorem dX11_readZone_78 : decode cX11_readZone 78 = .ok (.invokevirtual 157, 3) := by decide +kernel
theorem dX11_readZone_81 : decode cX11_readZone 81 = .ok (.aload_n 0, 1) := by decide +kernel
theorem dX11_readZone_82 : decode cX11_readZone 82 = .ok (.getfield 29, 3) := by decide +kernel
theorem dX11_readZone_85 : decode cX11_readZone 85 = .ok (.iload_n 1, 1) := by decide +kernel
theorem dX11_readZone_86 : decode cX11_readZone 86 = .ok (.iconst 3, 1) := by decide +kernel
theorem dX11_readZone_87 : decode cX11_readZone 87 = .ok (.iadd, 1) := by decide +kernel
theorem dX11_readZone_88 : decode cX11_readZone 88 = .ok (.aload_n 0, 1) := by decide +kernel
theorem dX11_readZone_89 : decode cX11_readZone 89 = .ok (.getfield 127, 3) := by decide +kernel
theorem dX11_readZone_92 : decode cX11_readZone 92 = .ok (.ifCond .eq 7, 3) := by decide +kernel
theorem dX11_readZone_95 : decode cX11_readZone 95 = .ok (.iconst 0, 1) := by decide +kernel
theorem dX11_readZone_96 : decode cX11_readZone 96 = .ok (.goto 7, 3) := by decide +kernel
theorem dX11_readZone_99 : decode cX11_readZone 99 = .ok (.aload_n 0, 1) := by decide +kernel
theorem dX11_readZone_100 : decode cX11_readZone 100 = .ok (.invokevirtual 147, 3) := by decide +kernel
theorem dX11_readZone_103 : decode cX11_readZone 103 = .ok (.iastore, 1) := by decide +kernel
theorem dX11_readZone_104 : decode cX11_readZone 104 = .ok (.return_, 1) := by decide +kernel
theorem dX11_readStatement_0 : decode cX11_readStatement 0 = .ok (.bipush 8, 2) := by decide +kernel
theorem dX11_readStatement_2 : decode cX11_readStatement 2 = .ok (.aload_n 0, 1) := by decide +kernel
theorem dX11_readStatement_3 : decode cX11_readStatement 3 = .ok (.getfield 163, 3) := by decide +kernel
theorem dX11_readStatement_6 : decode cX11_readStatement 6 = .ok (.imul, 1) := by decide +kernel
theorem dX11_readStatement_7 : decode cX11_readStatement 7 = .ok (.istore_n 1, 1) := by decide +kernel
theorem dX11_readStatement_8 : decode cX11_readStatement 8 = .ok (.aload_n 0, 1) := by decide +kernel
theorem dX11_readStatement_9 : decode cX11_readStatement 9 = .ok (.invokevirtual 131, 3) := by decide +kernel
theorem dX11_readStatement_12 : decode cX11_readStatement 12 = .ok (.istore_n 2, 1) := by decide +kernel
theorem dX11_readStatement_13 : decode cX11_readStatement 13 = .ok (.aload_n 0, 1) := by decide +kernel
theorem dX11_readStatement_14 : decode cX11_readStatement 14 = .ok (.getfield 29, 3) := by decide +kernel
theorem dX11_readStatement_17 : decode cX11_readStatement 17 = .ok (.iload_n 1, 1) := by decide +kernel
theorem dX11_readStatement_18 : decode cX11_readStatement 18 = .ok (.iload_n 2, 1) := by decide +kernel
theorem dX11_readStatement_19 : decode cX11_readStatement 19 = .ok (.iastore, 1) := by decide +kernel
theorem dX11_readStatement_20 : decode cX11_readStatement 20 = .ok (.aload_n 0, 1) := by decide +kernel
theorem dX11_readStatement_21 : decode cX11_readStatement 21 = .ok (.dup, 1) := by decide +kernel
theorem dX11_readStatement_22 : decode cX11_readStatement 22 = .ok (.getfield 124, 3) := by decide +kernel
theorem dX11_readStatement_25 : decode cX11_readStatement 25 = .ok (.iconst 1, 1) := by decide +kernel
theorem dX11_readStatement_26 : decode cX11_readStatement 26 = .ok (.iadd, 1) := by decide +kernel
theorem dX11_readStatement_27 : decode cX11_readStatement 27 = .ok (.putfield 124, 3) := by decide +kernel
theorem dX11_readStatement_30 : decode cX11_readStatement 30 = .ok (.iload_n 2, 1) := by decide +kernel
theorem dX11_readStatement_31 : decode cX11_readStatement 31 = .ok (.bipush 122, 2) := by decide +kernel
theorem dX11_readStatement_33 : decode cX11_readStatement 33 = .ok (.if_icmp .eq 15, 3) := by decide +kernel
theorem dX11_readStatement_36 : decode cX11_readStatement 36 = .ok (.iload_n 2, 1) := by decide +kernel
theorem dX11_readStatement_37 : decode cX11_readStatement 37 = .ok (.bipush 98, 2) := by decide +kernel
theorem dX11_readStatement_39 : decode cX11_readStatement 39 = .ok (.if_icmp .eq 9, 3) := by decide +kernel
theorem dX11_readStatement_42 : decode cX11_readStatement 42 = .ok (.iload_n 2, 1) := by decide +kernel
theorem dX11_readStatement_43 : decode cX11_readStatement 43 = .ok (.bipush 109, 2) := by decide +kernel
theorem dX11_readStatement_45 : decode cX11_readStatement 45 = .ok (.if_icmp .ne 12, 3) := by decide +kernel
theorem dX11_readStatement_48 : decode cX11_readStatement 48 = .ok (.aload_n 0, 1) := by decide +kernel
theorem dX11_readStatement_49 : decode cX11_readStatement 49 = .ok (.iload_n 1, 1) := by decide +kernel
theorem dX11_readStatement_50 : decode cX11_readStatement 50 = .ok (.iload_n 2, 1) := by decide +kernel
theorem dX11_readStatement_51 : decode cX11_readStatement 51 = .ok (.invokevirtual 166, 3) := by decide +kernel
theorem dX11_readStatement_54 : decode cX11_readStatement 54 = .ok (.goto 95, 3) := by decide +kernel
theorem dX11_readStatement_57 : decode cX11_readStatement 57 = .ok (.iload_n 2, 1) := by decide +kernel
theorem dX11_readStatement_58 : decode cX11_readStatement 58 = .ok (.bipush 100, 2) := by decide +kernel
theorem dX11_readStatement_60 : decode cX11_readStatement 60 = .ok (.if_icmp .eq 21, 3) := by decide +kernel
theorem dX11_readStatement_63 : decode cX11_readStatement 63 = .ok (.iload_n 2, 1) := by decide +kernel
theorem dX11_readStatement_64 : decode cX11_readStatement 64 = .ok (.bipush 102, 2) := by decide +kernel
theorem dX11_readStatement_66 : decode cX11_readStatement 66 = .ok (.if_icmp .eq 15, 3) := by decide +kernel
theorem dX11_readStatement_69 : decode cX11_readStatement 69 = .ok (.iload_n 2, 1) := by decide +kernel
theorem dX11_readStatement_70 : decode cX11_readStatement 70 = .ok (.bipush 115, 2) := by decide +kernel
theorem dX11_readStatement_72 : decode cX11_readStatement 72 = .ok (.if_icmp .eq 9, 3) := by decide +kernel
theorem dX11_readStatement_75 : decode cX11_readStatement 75 = .ok (.iload_n 2, 1) := by decide +kernel
theorem dX11_readStatement_76 : decode cX11_readStatement 76 = .ok (.bipush 99, 2) := by decide +kernel
theorem dX11_readStatement_78 : decode cX11_readStatement 78 = .ok (.if_icmp .ne 18, 3) := by decide +kernel
theorem dX11_readStatement_81 : decode cX11_readStatement 81 = .ok (.aload_n 0, 1) := by decide +kernel
theorem dX11_readStatement_82 : decode cX11_readStatement 82 = .ok (.getfield 29, 3) := by decide +kernel
theorem dX11_readStatement_85 : decode cX11_readStatement 85 = .ok (.iload_n 1, 1) := by decide +kernel
theorem dX11_readStatement_86 : decode cX11_readStatement 86 = .ok (.iconst 1, 1) := by decide +kernel
theorem dX11_readStatement_87 : decode cX11_readStatement 87 = .ok (.iadd, 1) := by decide +kernel
theorem dX11_readStatement_88 : decode cX11_readStatement 88 = .ok (.aload_n 0, 1) := by decide +kernel
theorem dX11_readStatement_89 : decode cX11_readStatement 89 = .ok (.invokevirtual 147, 3) := by decide +kernel
theorem dX11_readStatement_92 : decode cX11_readStatement 92 = .ok (.iastore, 1) := by decide +kernel
theorem dX11_readStatement_93 : decode cX11_readStatement 93 = .ok (.goto 56, 3) := by decide +kernel
theorem dX11_readStatement_96 : decode cX11_readStatement 96 = .ok (.iload_n 2, 1) := by decide +kernel
theorem dX11_readStatement_97 : decode cX11_readStatement 97 = .ok (.bipush 97, 2) := by decide +kernel
theorem dX11_readStatement_99 : decode cX11_readStatement 99 = .ok (.if_icmp .ne 11, 3) := by decide +kernel
theorem dX11_readStatement_102 : decode cX11_readStatement 102 = .ok (.aload_n 0, 1) := by decide +kernel
theorem dX11_readStatement_103 : decode cX11_readStatement 103 = .ok (.iload_n 1, 1) := by decide +kernel
theorem dX11_readStatement_104 : decode cX11_readStatement 104 = .ok (.invokevirtual 170, 3) := by decide +kernel
theorem dX11_readStatement_107 : decode cX11_readStatement 107 = .ok (.goto 42, 3) := by decide +kernel
theorem dX11_readStatement_110 : decode cX11_readStatement 110 = .ok (.iload_n 2, 1) := by decide +kernel
theorem dX11_readStatement_111 : decode cX11_readStatement 111 = .ok (.bipush 114, 2) := by decide +kernel
theorem dX11_readStatement_113 : decode cX11_readStatement 113 = .ok (.if_icmp .ne 21, 3) := by decide +kernel
theorem dX11_readStatement_116 : decode cX11_readStatement 116 = .ok (.aload_n 0, 1) := by decide +kernel
theorem dX11_readStatement_117 : decode cX11_readStatement 117 = .ok (.getfield 29, 3) := by decide +kernel
theorem dX11_readStatement_120 : decode cX11_readStatement 120 = .ok (.iload_n 1, 1) := by decide +kernel
theorem dX11_readStatement_121 : decode cX11_readStatement 121 = .ok (.iconst 1, 1) := by decide +kernel
theorem dX11_readStatement_122 : decode cX11_readStatement 122 = .ok (.iadd, 1) := by decide +kernel
theorem dX11_readStatement_123 : decode cX11_readStatement 123 = .ok (.aload_n 0, 1) := by decide +kernel
theorem dX11_readStatement_124 : decode cX11_readStatement 124 = .ok (.iconst 0, 1) := by decide +kernel
theorem dX11_readStatement_125 : decode cX11_readStatement 125 = .ok (.bipush 9, 2) := by decide +kernel
theorem dX11_readStatement_127 : decode cX11_readStatement 127 = .ok (.invokevirtual 138, 3) := by decide +kernel
theorem dX11_readStatement_130 : decode cX11_readStatement 130 = .ok (.iastore, 1) := by decide +kernel
theorem dX11_readStatement_131 : decode cX11_readStatement 131 = .ok (.goto 18, 3) := by decide +kernel
theorem dX11_readStatement_134 : decode cX11_readStatement 134 = .ok (.aload_n 0, 1) := by decide +kernel
theorem dX11_readStatement_135 : decode cX11_readStatement 135 = .ok (.iconst 1, 1) := by decide +kernel
theorem dX11_readStatement_136 : decode cX11_readStatement 136 = .ok (.putfield 127, 3) := by decide +kernel
theorem dX11_readStatement_139 : decode cX11_readStatement 139 = .ok (.aload_n 0, 1) := by decide +kernel
theorem dX11_readStatement_140 : decode cX11_readStatement 140 = .ok (.dup, 1) := by decide +kernel
theorem dX11_readStatement_141 : decode cX11_readStatement 141 = .ok (.getfield 124, 3) := by decide +kernel
theorem dX11_readStatement_144 : decode cX11_readStatement 144 = .ok (.iconst 1, 1) := by decide +kernel
theorem dX11_readStatement_145 : decode cX11_readStatement 145 = .ok (.isub, 1) := by decide +kernel
theorem dX11_readStatement_146 : decode cX11_readStatement 146 = .ok (.putfield 124, 3) := by decide +kernel
theorem dX11_readStatement_149 : decode cX11_readStatement 149 = .ok (.aload_n 0, 1) := by decide +kernel
theorem dX11_readStatement_150 : decode cX11_readStatement 150 = .ok (.dup, 1) := by decide +kernel
theorem dX11_readStatement_151 : decode cX11_readStatement 151 = .ok (.getfield 163, 3) := by decide +kernel
theorem dX11_readStatement_154 : decode cX11_readStatement 154 = .ok (.iconst 1, 1) := by decide +kernel
theorem dX11_readStatement_155 : decode cX11_readStatement 155 = .ok (.iadd, 1) := by decide +kernel
theorem dX11_readStatement_156 : decode cX11_readStatement 156 = .ok (.putfield 163, 3) := by decide +kernel
theorem dX11_readStatement_159 : decode cX11_readStatement 159 = .ok (.return_, 1) := by decide +kernel
theorem dX11_puts_0 : decode cX11_puts 0 = .ok (.iload_n 1, 1) := by decide +kernel
theorem dX11_puts_1 : decode cX11_puts 1 = .ok (.invokestatic 64, 3) := by decide +kernel
theorem dX11_puts_4 : decode cX11_puts 4 = .ok (.iconst 1, 1) := by decide +kernel
theorem dX11_puts_5 : decode cX11_puts 5 = .ok (.iadd, 1) := by decide +kernel
theorem dX11_puts_6 : decode cX11_puts 6 = .ok (.istore_n 3, 1) := by decide +kernel
theorem dX11_puts_7 : decode cX11_puts 7 = .ok (.aload_n 0, 1) := by decide +kernel
theorem dX11_puts_8 : decode cX11_puts 8 = .ok (.getfield 29, 3) := by decide +kernel
theorem dX11_puts_11 : decode cX11_puts 11 = .ok (.iload_n 2, 1) := by decide +kernel
theorem dX11_puts_12 : decode cX11_puts 12 = .ok (.iconst 2, 1) := by decide +kernel
theorem dX11_puts_13 : decode cX11_puts 13 = .ok (.iadd, 1) := by decide +kernel
theorem dX11_puts_14 : decode cX11_puts 14 = .ok (.iaload, 1) := by decide +kernel
theorem dX11_puts_15 : decode cX11_puts 15 = .ok (.sipush 999, 3) := by decide +kernel
theorem dX11_puts_18 : decode cX11_puts 18 = .ok (.if_icmp .gt 47, 3) := by decide +kernel
theorem dX11_puts_21 : decode cX11_puts 21 = .ok (.aload_n 0, 1) := by decide +kernel
theorem dX11_puts_22 : decode cX11_puts 22 = .ok (.getfield 29, 3) := by decide +kernel
theorem dX11_puts_25 : decode cX11_puts 25 = .ok (.iload_n 2, 1) := by decide +kernel
theorem dX11_puts_26 : decode cX11_puts 26 = .ok (.iconst 3, 1) := by decide +kernel
theorem dX11_puts_27 : decode cX11_puts 27 = .ok (.iadd, 1) := by decide +kernel
theorem dX11_puts_28 : decode cX11_puts 28 = .ok (.iaload, 1) := by decide +kernel
theorem dX11_puts_29 : decode cX11_puts 29 = .ok (.sipush 999, 3) := by decide +kernel
theorem dX11_puts_32 : decode cX11_puts 32 = .ok (.if_icmp .gt 33, 3) := by decide +kernel
theorem dX11_puts_35 : decode cX11_puts 35 = .ok (.aload_n 0, 1) := by decide +kernel
theorem dX11_puts_36 : decode cX11_puts 36 = .ok (.getfield 29, 3) := by decide +kernel
theorem dX11_puts_39 : decode cX11_puts 39 = .ok (.iload_n 2, 1) := by decide +kernel
theorem dX11_puts_40 : decode cX11_puts 40 = .ok (.iconst 2, 1) := by decide +kernel
theorem dX11_puts_41 : decode cX11_puts 41 = .ok (.iadd, 1) := by decide +kernel
theorem dX11_puts_42 : decode cX11_puts 42 = .ok (.iaload, 1) := by decide +kernel
theorem dX11_puts_43 : decode cX11_puts 43 = .ok (.aload_n 0, 1) := by decide +kernel
theorem dX11_puts_44 : decode cX11_puts 44 = .ok (.getfield 29, 3) := by decide +kernel
theorem dX11_puts_47 : decode cX11_puts 47 = .ok (.iload_n 2, 1) := by decide +kernel
theorem dX11_puts_48 : decode cX11_puts 48 = .ok (.iconst 3, 1) := by decide +kernel
theorem dX11_puts_49 : decode cX11_puts 49 = .ok (.iadd, 1) := by decide +kernel
theorem dX11_puts_50 : decode cX11_puts 50 = .ok (.iaload, 1) := by decide +kernel
theorem dX11_puts_51 : decode cX11_puts 51 = .ok (.if_icmp .gt 14, 3) := by decide +kernel
theorem dX11_puts_54 : decode cX11_puts 54 = .ok (.aload_n 0, 1) := by decide +kernel
theorem dX11_puts_55 : decode cX11_puts 55 = .ok (.getfield 9, 3) := by decide +kernel
theorem dX11_puts_58 : decode cX11_puts 58 = .ok (.iload_n 3, 1) := by decide +kernel
theorem dX11_puts_59 : decode cX11_puts 59 = .ok (.iaload, 1) := by decide +kernel
theorem dX11_puts_60 : decode cX11_puts 60 = .ok (.bipush 12, 2) := by decide +kernel
theorem dX11_puts_62 : decode cX11_puts 62 = .ok (.if_icmp .ne 5, 3) := by decide +kernel
theorem dX11_puts_65 : decode cX11_puts 65 = .ok (.iconst 0, 1) := by decide +kernel
theorem dX11_puts_66 : decode cX11_puts 66 = .ok (.ireturn, 1) := by decide +kernel
theorem dX11_puts_67 : decode cX11_puts 67 = .ok (.iload_n 1, 1) := by decide +kernel
theorem dX11_puts_68 : decode cX11_puts 68 = .ok (.invokestatic 64, 3) := by decide +kernel
theorem dX11_puts_71 : decode cX11_puts 71 = .ok (.iconst 2, 1) := by decide +kernel
theorem dX11_puts_72 : decode cX11_puts 72 = .ok (.iadd, 1) := by decide +kernel
theorem dX11_puts_73 : decode cX11_puts 73 = .ok (.iconst 3, 1) := by decide +kernel
theorem dX11_puts_74 : decode cX11_puts 74 = .ok (.aload_n 0, 1) := by decide +kernel
theorem dX11_puts_75 : decode cX11_puts 75 = .ok (.getfield 9, 3) := by decide +kernel
theorem dX11_puts_78 : decode cX11_puts 78 = .ok (.iload_n 3, 1) := by decide +kernel
theorem dX11_puts_79 : decode cX11_puts 79 = .ok (.iaload, 1) := by decide +kernel
theorem dX11_puts_80 : decode cX11_puts 80 = .ok (.imul, 1) := by decide +kernel
theorem dX11_puts_81 : decode cX11_puts 81 = .ok (.iadd, 1) := by decide +kernel
theorem dX11_puts_82 : decode cX11_puts 82 = .ok (.istore 4, 2) := by decide +kernel
theorem dX11_puts_84 : decode cX11_puts 84 = .ok (.aload_n 0, 1) := by decide +kernel
theorem dX11_puts_85 : decode cX11_puts 85 = .ok (.getfield 9, 3) := by decide +kernel
theorem dX11_puts_88 : decode cX11_puts 88 = .ok (.iload 4, 2) := by decide +kernel
theorem dX11_puts_90 : decode cX11_puts 90 = .ok (.aload_n 0, 1) := by decide +kernel
theorem dX11_puts_91 : decode cX11_puts 91 = .ok (.getfield 29, 3) := by decide +kernel
theorem dX11_puts_94 : decode cX11_puts 94 = .ok (.iload_n 2, 1) := by decide +kernel
theorem dX11_puts_95 : decode cX11_puts 95 = .ok (.iconst 2, 1) := by decide +kernel
theorem dX11_puts_96 : decode cX11_puts 96 = .ok (.iadd, 1) := by decide +kernel
theorem dX11_puts_97 : decode cX11_puts 97 = .ok (.iaload, 1) := by decide +kernel
theorem dX11_puts_98 : decode cX11_puts 98 = .ok (.iastore, 1) := by decide +kernel
theorem dX11_puts_99 : decode cX11_puts 99 = .ok (.aload_n 0, 1) := by decide +kernel
theorem dX11_puts_100 : decode cX11_puts 100 = .ok (.getfield 9, 3) := by decide +kernel
theorem dX11_puts_103 : decode cX11_puts 103 = .ok (.iload 4, 2) := by decide +kernel
theorem dX11_puts_105 : decode cX11_puts 105 = .ok (.iconst 1, 1) := by decide +kernel
theorem dX11_puts_106 : decode cX11_puts 106 = .ok (.iadd, 1) := by decide +kernel
theorem dX11_puts_107 : decode cX11_puts 107 = .ok (.aload_n 0, 1) := by decide +kernel
theorem dX11_puts_108 : decode cX11_puts 108 = .ok (.getfield 29, 3) := by decide +kernel
theorem dX11_puts_111 : decode cX11_puts 111 = .ok (.iload_n 2, 1) := by decide +kernel
theorem dX11_puts_112 : decode cX11_puts 112 = .ok (.iconst 3, 1) := by decide +kernel
theorem dX11_puts_113 : decode cX11_puts 113 = .ok (.iadd, 1) := by decide +kernel
theorem dX11_puts_114 : decode cX11_puts 114 = .ok (.iaload, 1) := by decide +kernel
theorem dX11_puts_115 : decode cX11_puts 115 = .ok (.iastore, 1) := by decide +kernel
theorem dX11_puts_116 : decode cX11_puts 116 = .ok (.aload_n 0, 1) := by decide +kernel
theorem dX11_puts_117 : decode cX11_puts 117 = .ok (.getfield 9, 3) := by decide +kernel
theorem dX11_puts_120 : decode cX11_puts 120 = .ok (.iload 4, 2) := by decide +kernel
theorem dX11_puts_122 : decode cX11_puts 122 = .ok (.iconst 2, 1) := by decide +kernel
theorem dX11_puts_123 : decode cX11_puts 123 = .ok (.iadd, 1) := by decide +kernel
theorem dX11_puts_124 : decode cX11_puts 124 = .ok (.aload_n 0, 1) := by decide +kernel
theorem dX11_puts_125 : decode cX11_puts 125 = .ok (.getfield 29, 3) := by decide +kernel
theorem dX11_puts_128 : decode cX11_puts 128 = .ok (.iload_n 2, 1) := by decide +kernel
theorem dX11_puts_129 : decode cX11_puts 129 = .ok (.iconst 1, 1) := by decide +kernel
theorem dX11_puts_130 : decode cX11_puts 130 = .ok (.iadd, 1) := by decide +kernel
theorem dX11_puts_131 : decode cX11_puts 131 = .ok (.iaload, 1) := by decide +kernel
theorem dX11_puts_132 : decode cX11_puts 132 = .ok (.iastore, 1) := by decide +kernel
theorem dX11_puts_133 : decode cX11_puts 133 = .ok (.aload_n 0, 1) := by decide +kernel
theorem dX11_puts_134 : decode cX11_puts 134 = .ok (.getfield 9, 3) := by decide +kernel
theorem dX11_puts_137 : decode cX11_puts 137 = .ok (.iload_n 3, 1) := by decide +kernel
theorem dX11_puts_138 : decode cX11_puts 138 = .ok (.dup2, 1) := by decide +kernel
theorem dX11_puts_139 : decode cX11_puts 139 = .ok (.iaload, 1) := by decide +kernel
theorem dX11_puts_140 : decode cX11_puts 140 = .ok (.iconst 1, 1) := by decide +kernel
theorem dX11_puts_141 : decode cX11_puts 141 = .ok (.iadd, 1) := by decide +kernel
theorem dX11_puts_142 : decode cX11_puts 142 = .ok (.iastore, 1) := by decide +kernel
theorem dX11_puts_143 : decode cX11_puts 143 = .ok (.iconst 1, 1) := by decide +kernel
theorem dX11_puts_144 : decode cX11_puts 144 = .ok (.ireturn, 1) := by decide +kernel
theorem dX11_setsBreak_0 : decode cX11_setsBreak 0 = .ok (.iload_n 1, 1) := by decide +kernel
theorem dX11_setsBreak_1 : decode cX11_setsBreak 1 = .ok (.invokestatic 64, 3) := by decide +kernel
theorem dX11_setsBreak_4 : decode cX11_setsBreak 4 = .ok (.bipush 38, 2) := by decide +kernel
theorem dX11_setsBreak_6 : decode cX11_setsBreak 6 = .ok (.iadd, 1) := by decide +kernel
theorem dX11_setsBreak_7 : decode cX11_setsBreak 7 = .ok (.iload_n 2, 1) := by decide +kernel
theorem dX11_setsBreak_8 : decode cX11_setsBreak 8 = .ok (.iadd, 1) := by decide +kernel
theorem dX11_setsBreak_9 : decode cX11_setsBreak 9 = .ok (.iconst 1, 1) := by decide +kernel
theorem dX11_setsBreak_10 : decode cX11_setsBreak 10 = .ok (.isub, 1) := by decide +kernel
theorem dX11_setsBreak_11 : decode cX11_setsBreak 11 = .ok (.istore 5, 2) := by decide +kernel
theorem dX11_setsBreak_13 : decode cX11_setsBreak 13 = .ok (.iconst 0, 1) := by decide +kernel
theorem dX11_setsBreak_14 : decode cX11_setsBreak 14 = .ok (.istore 6, 2) := by decide +kernel
theorem dX11_setsBreak_16 : decode cX11_setsBreak 16 = .ok (.iload 6, 2) := by decide +kernel
theorem dX11_setsBreak_18 : decode cX11_setsBreak 18 = .ok (.aload_n 0, 1) := by decide +kernel
theorem dX11_setsBreak_19 : decode cX11_setsBreak 19 = .ok (.getfield 9, 3) := by decide +kernel
theorem dX11_setsBreak_22 : decode cX11_setsBreak 22 = .ok (.iload 5, 2) := by decide +kernel
theorem dX11_setsBreak_24 : decode cX11_setsBreak 24 = .ok (.iaload, 1) := by decide +kernel
theorem dX11_setsBreak_25 : decode cX11_setsBreak 25 = .ok (.if_icmp .ge 25, 3) := by decide +kernel
theorem dX11_setsBreak_28 : decode cX11_setsBreak 28 = .ok (.aload_n 0, 1) := by decide +kernel
theorem dX11_setsBreak_29 : decode cX11_setsBreak 29 = .ok (.getfield 9, 3) := by decide +kernel
theorem dX11_setsBreak_32 : decode cX11_setsBreak 32 = .ok (.iload_n 1, 1) := by decide +kernel
theorem dX11_setsBreak_33 : decode cX11_setsBreak 33 = .ok (.iload_n 2, 1) := by decide +kernel
theorem dX11_setsBreak_34 : decode cX11_setsBreak 34 = .ok (.iload 6, 2) := by decide +kernel
theorem dX11_setsBreak_36 : decode cX11_setsBreak 36 = .ok (.invokestatic 101, 3) := by decide +kernel
theorem dX11_setsBreak_39 : decode cX11_setsBreak 39 = .ok (.iaload, 1) := by decide +kernel
theorem dX11_setsBreak_40 : decode cX11_setsBreak 40 = .ok (.iload_n 3, 1) := by decide +kernel
theorem dX11_setsBreak_41 : decode cX11_setsBreak 41 = .ok (.if_icmp .ge 9, 3) := by decide +kernel
theorem dX11_setsBreak_44 : decode cX11_setsBreak 44 = .ok (.iinc 6 1, 3) := by decide +kernel
theorem dX11_setsBreak_47 : decode cX11_setsBreak 47 = .ok (.goto (-31), 3) := by decide +kernel
theorem dX11_setsBreak_50 : decode cX11_setsBreak 50 = .ok (.iload 6, 2) := by decide +kernel
theorem dX11_setsBreak_52 : decode cX11_setsBreak 52 = .ok (.aload_n 0, 1) := by decide +kernel
theorem dX11_setsBreak_53 : decode cX11_setsBreak 53 = .ok (.getfield 9, 3) := by decide +kernel
theorem dX11_setsBreak_56 : decode cX11_setsBreak 56 = .ok (.iload 5, 2) := by decide +kernel
theorem dX11_setsBreak_58 : decode cX11_setsBreak 58 = .ok (.iaload, 1) := by decide +kernel
theorem dX11_setsBreak_59 : decode cX11_setsBreak 59 = .ok (.if_icmp .ge 23, 3) := by decide +kernel
theorem dX11_setsBreak_62 : decode cX11_setsBreak 62 = .ok (.aload_n 0, 1) := by decide +kernel
theorem dX11_setsBreak_63 : decode cX11_setsBreak 63 = .ok (.getfield 9, 3) := by decide +kernel
theorem dX11_setsBreak_66 : decode cX11_setsBreak 66 = .ok (.iload_n 1, 1) := by decide +kernel
theorem dX11_setsBreak_67 : decode cX11_setsBreak 67 = .ok (.iload_n 2, 1) := by decide +kernel
theorem dX11_setsBreak_68 : decode cX11_setsBreak 68 = .ok (.iload 6, 2) := by decide +kernel
theorem dX11_setsBreak_70 : decode cX11_setsBreak 70 = .ok (.invokestatic 101, 3) := by decide +kernel
theorem dX11_setsBreak_73 : decode cX11_setsBreak 73 = .ok (.iaload, 1) := by decide +kernel
theorem dX11_setsBreak_74 : decode cX11_setsBreak 74 = .ok (.iload_n 3, 1) := by decide +kernel
theorem dX11_setsBreak_75 : decode cX11_setsBreak 75 = .ok (.if_icmp .ne 7, 3) := by decide +kernel
theorem dX11_setsBreak_78 : decode cX11_setsBreak 78 = .ok (.iconst 1, 1) := by decide +kernel
theorem dX11_setsBreak_79 : decode cX11_setsBreak 79 = .ok (.goto 4, 3) := by decide +kernel
theorem dX11_setsBreak_82 : decode cX11_setsBreak 82 = .ok (.iconst 0, 1) := by decide +kernel
theorem dX11_setsBreak_83 : decode cX11_setsBreak 83 = .ok (.istore 7, 2) := by decide +kernel
theorem dX11_setsBreak_85 : decode cX11_setsBreak 85 = .ok (.iload 4, 2) := by decide +kernel
theorem dX11_setsBreak_87 : decode cX11_setsBreak 87 = .ok (.bipush 99, 2) := by decide +kernel
theorem dX11_setsBreak_89 : decode cX11_setsBreak 89 = .ok (.if_icmp .gt 34, 3) := by decide +kernel
theorem dX11_setsBreak_92 : decode cX11_setsBreak 92 = .ok (.iload 4, 2) := by decide +kernel
theorem dX11_setsBreak_94 : decode cX11_setsBreak 94 = .ok (.ifCond .ne 8, 3) := by decide +kernel
theorem dX11_setsBreak_97 : decode cX11_setsBreak 97 = .ok (.iload 7, 2) := by decide +kernel
theorem dX11_setsBreak_99 : decode cX11_setsBreak 99 = .ok (.ifCond .eq 24, 3) := by decide +kernel
theorem dX11_setsBreak_102 : decode cX11_setsBreak 102 = .ok (.iload 4, 2) := by decide +kernel
theorem dX11_setsBreak_104 : decode cX11_setsBreak 104 = .ok (.ifCond .le 21, 3) := by decide +kernel
theorem dX11_setsBreak_107 : decode cX11_setsBreak 107 = .ok (.iload 7, 2) := by decide +kernel
theorem dX11_setsBreak_109 : decode cX11_setsBreak 109 = .ok (.ifCond .ne 16, 3) := by decide +kernel
theorem dX11_setsBreak_112 : decode cX11_setsBreak 112 = .ok (.aload_n 0, 1) := by decide +kernel
theorem dX11_setsBreak_113 : decode cX11_setsBreak 113 = .ok (.getfield 9, 3) := by decide +kernel
theorem dX11_setsBreak_116 : decode cX11_setsBreak 116 = .ok (.iload 5, 2) := by decide +kernel
theorem dX11_setsBreak_118 : decode cX11_setsBreak 118 = .ok (.iaload, 1) := by decide +kernel
theorem dX11_setsBreak_119 : decode cX11_setsBreak 119 = .ok (.iconst 5, 1) := by decide +kernel
theorem dX11_setsBreak_120 : decode cX11_setsBreak 120 = .ok (.if_icmp .ne 5, 3) := by decide +kernel
theorem dX11_setsBreak_123 : decode cX11_setsBreak 123 = .ok (.iconst 0, 1) := by decide +kernel
theorem dX11_setsBreak_124 : decode cX11_setsBreak 124 = .ok (.ireturn, 1) := by decide +kernel
theorem dX11_setsBreak_125 : decode cX11_setsBreak 125 = .ok (.iload 4, 2) := by decide +kernel
theorem dX11_setsBreak_127 : decode cX11_setsBreak 127 = .ok (.ifCond .ne 64, 3) := by decide +kernel
theorem dX11_setsBreak_130 : decode cX11_setsBreak 130 = .ok (.aload_n 0, 1) := by decide +kernel
theorem dX11_setsBreak_131 : decode cX11_setsBreak 131 = .ok (.getfield 9, 3) := by decide +kernel
theorem dX11_setsBreak_134 : decode cX11_setsBreak 134 = .ok (.iload 5, 2) := by decide +kernel
theorem dX11_setsBreak_136 : decode cX11_setsBreak 136 = .ok (.dup2, 1) := by decide +kernel
theorem dX11_setsBreak_137 : decode cX11_setsBreak 137 = .ok (.iaload, 1) := by decide +kernel
theorem dX11_setsBreak_138 : decode cX11_setsBreak 138 = .ok (.iconst 1, 1) := by decide +kernel
theorem dX11_setsBreak_139 : decode cX11_setsBreak 139 = .ok (.isub, 1) := by decide +kernel
theorem dX11_setsBreak_140 : decode cX11_setsBreak 140 = .ok (.iastore, 1) := by decide +kernel
theorem dX11_setsBreak_141 : decode cX11_setsBreak 141 = .ok (.iload_n 1, 1) := by decide +kernel
theorem dX11_setsBreak_142 : decode cX11_setsBreak 142 = .ok (.iload_n 2, 1) := by decide +kernel
theorem dX11_setsBreak_143 : decode cX11_setsBreak 143 = .ok (.iload 6, 2) := by decide +kernel
theorem dX11_setsBreak_145 : decode cX11_setsBreak 145 = .ok (.invokestatic 101, 3) := by decide +kernel
theorem dX11_setsBreak_148 : decode cX11_setsBreak 148 = .ok (.istore 8, 2) := by decide +kernel
theorem dX11_setsBreak_150 : decode cX11_setsBreak 150 = .ok (.iload 8, 2) := by decide +kernel
theorem dX11_setsBreak_152 : decode cX11_setsBreak 152 = .ok (.iload_n 1, 1) := by decide +kernel
theorem dX11_setsBreak_153 : decode cX11_setsBreak 153 = .ok (.iload_n 2, 1) := by decide +kernel
theorem dX11_setsBreak_154 : decode cX11_setsBreak 154 = .ok (.aload_n 0, 1) := by decide +kernel
theorem dX11_setsBreak_155 : decode cX11_setsBreak 155 = .ok (.getfield 9, 3) := by decide +kernel
theorem dX11_setsBreak_158 : decode cX11_setsBreak 158 = .ok (.iload 5, 2) := by decide +kernel
theorem dX11_setsBreak_160 : decode cX11_setsBreak 160 = .ok (.iaload, 1) := by decide +kernel
theorem dX11_setsBreak_161 : decode cX11_setsBreak 161 = .ok (.invokestatic 101, 3) := by decide +kernel
theorem dX11_setsBreak_164 : decode cX11_setsBreak 164 = .ok (.if_icmp .ge 25, 3) := by decide +kernel
theorem dX11_setsBreak_167 : decode cX11_setsBreak 167 = .ok (.aload_n 0, 1) := by decide +kernel
theorem dX11_setsBreak_168 : decode cX11_setsBreak 168 = .ok (.getfield 9, 3) := by decide +kernel
theorem dX11_setsBreak_171 : decode cX11_setsBreak 171 = .ok (.iload 8, 2) := by decide +kernel
theorem dX11_setsBreak_173 : decode cX11_setsBreak 173 = .ok (.aload_n 0, 1) := by decide +kernel
theorem dX11_setsBreak_174 : decode cX11_setsBreak 174 = .ok (.getfield 9, 3) := by decide +kernel
theorem dX11_setsBreak_177 : decode cX11_setsBreak 177 = .ok (.iload 8, 2) := by decide +kernel
theorem dX11_setsBreak_179 : decode cX11_setsBreak 179 = .ok (.iconst 2, 1) := by decide +kernel
theorem dX11_setsBreak_180 : decode cX11_setsBreak 180 = .ok (.iadd, 1) := by decide +kernel
theorem dX11_setsBreak_181 : decode cX11_setsBreak 181 = .ok (.iaload, 1) := by decide +kernel
theorem dX11_setsBreak_182 : decode cX11_setsBreak 182 = .ok (.iastore, 1) := by decide +kernel
theorem dX11_setsBreak_183 : decode cX11_setsBreak 183 = .ok (.iinc 8 1, 3) := by decide +kernel
theorem dX11_setsBreak_186 : decode cX11_setsBreak 186 = .ok (.goto (-36), 3) := by decide +kernel
theorem dX11_setsBreak_189 : decode cX11_setsBreak 189 = .ok (.iconst 1, 1) := by decide +kernel
theorem dX11_setsBreak_190 : decode cX11_setsBreak 190 = .ok (.ireturn, 1) := by decide +kernel
theorem dX11_setsBreak_191 : decode cX11_setsBreak 191 = .ok (.iload_n 1, 1) := by decide +kernel
theorem dX11_setsBreak_192 : decode cX11_setsBreak 192 = .ok (.iload_n 2, 1) := by decide +kernel
theorem dX11_setsBreak_193 : decode cX11_setsBreak 193 = .ok (.aload_n 0, 1) := by decide +kernel
theorem dX11_setsBreak_194 : decode cX11_setsBreak 194 = .ok (.getfield 9, 3) := by decide +kernel
theorem dX11_setsBreak_197 : decode cX11_setsBreak 197 = .ok (.iload 5, 2) := by decide +kernel
theorem dX11_setsBreak_199 : decode cX11_setsBreak 199 = .ok (.iaload, 1) := by decide +kernel
theorem dX11_setsBreak_200 : decode cX11_setsBreak 200 = .ok (.invokestatic 101, 3) := by decide +kernel
theorem dX11_setsBreak_203 : decode cX11_setsBreak 203 = .ok (.iconst 1, 1) := by decide +kernel
theorem dX11_setsBreak_204 : decode cX11_setsBreak 204 = .ok (.isub, 1) := by decide +kernel
theorem dX11_setsBreak_205 : decode cX11_setsBreak 205 = .ok (.istore 8, 2) := by decide +kernel
theorem dX11_setsBreak_207 : decode cX11_setsBreak 207 = .ok (.iload 8, 2) := by decide +kernel
theorem dX11_setsBreak_209 : decode cX11_setsBreak 209 = .ok (.iload_n 1, 1) := by decide +kernel
theorem dX11_setsBreak_210 : decode cX11_setsBreak 210 = .ok (.iload_n 2, 1) := by decide +kernel
theorem dX11_setsBreak_211 : decode cX11_setsBreak 211 = .ok (.iload 6, 2) := by decide +kernel
theorem dX11_setsBreak_213 : decode cX11_setsBreak 213 = .ok (.invokestatic 101, 3) := by decide +kernel
theorem dX11_setsBreak_216 : decode cX11_setsBreak 216 = .ok (.if_icmp .lt 30, 3) := by decide +kernel
theorem dX11_setsBreak_219 : decode cX11_setsBreak 219 = .ok (.iload 7, 2) := by decide +kernel
theorem dX11_setsBreak_221 : decode cX11_setsBreak 221 = .ok (.ifCond .ne 25, 3) := by decide +kernel
theorem dX11_setsBreak_224 : decode cX11_setsBreak 224 = .ok (.aload_n 0, 1) := by decide +kernel
theorem dX11_setsBreak_225 : decode cX11_setsBreak 225 = .ok (.getfield 9, 3) := by decide +kernel
theorem dX11_setsBreak_228 : decode cX11_setsBreak 228 = .ok (.iload 8, 2) := by decide +kernel
theorem dX11_setsBreak_230 : decode cX11_setsBreak 230 = .ok (.iconst 2, 1) := by decide +kernel
theorem dX11_setsBreak_231 : decode cX11_setsBreak 231 = .ok (.iadd, 1) := by decide +kernel
theorem dX11_setsBreak_232 : decode cX11_setsBreak 232 = .ok (.aload_n 0, 1) := by decide +kernel
theorem dX11_setsBreak_233 : decode cX11_setsBreak 233 = .ok (.getfield 9, 3) := by decide +kernel
theorem dX11_setsBreak_236 : decode cX11_setsBreak 236 = .ok (.iload 8, 2) := by decide +kernel
theorem dX11_setsBreak_238 : decode cX11_setsBreak 238 = .ok (.iaload, 1) := by decide +kernel
theorem dX11_setsBreak_239 : decode cX11_setsBreak 239 = .ok (.iastore, 1) := by decide +kernel
theorem dX11_setsBreak_240 : decode cX11_setsBreak 240 = .ok (.iinc 8 (-1), 3) := by decide +kernel
theorem dX11_setsBreak_243 : decode cX11_setsBreak 243 = .ok (.goto (-36), 3) := by decide +kernel
theorem dX11_setsBreak_246 : decode cX11_setsBreak 246 = .ok (.aload_n 0, 1) := by decide +kernel
theorem dX11_setsBreak_247 : decode cX11_setsBreak 247 = .ok (.getfield 9, 3) := by decide +kernel
theorem dX11_setsBreak_250 : decode cX11_setsBreak 250 = .ok (.iload 5, 2) := by decide +kernel
theorem dX11_setsBreak_252 : decode cX11_setsBreak 252 = .ok (.dup2, 1) := by decide +kernel
theorem dX11_setsBreak_253 : decode cX11_setsBreak 253 = .ok (.iaload, 1) := by decide +kernel
theorem dX11_setsBreak_254 : decode cX11_setsBreak 254 = .ok (.iload 7, 2) := by decide +kernel
theorem dX11_setsBreak_256 : decode cX11_setsBreak 256 = .ok (.ifCond .eq 7, 3) := by decide +kernel
theorem dX11_setsBreak_259 : decode cX11_setsBreak 259 = .ok (.iconst 0, 1) := by decide +kernel
theorem dX11_setsBreak_260 : decode cX11_setsBreak 260 = .ok (.goto 4, 3) := by decide +kernel
theorem dX11_setsBreak_263 : decode cX11_setsBreak 263 = .ok (.iconst 1, 1) := by decide +kernel
theorem dX11_setsBreak_264 : decode cX11_setsBreak 264 = .ok (.iadd, 1) := by decide +kernel
theorem dX11_setsBreak_265 : decode cX11_setsBreak 265 = .ok (.iastore, 1) := by decide +kernel
theorem dX11_setsBreak_266 : decode cX11_setsBreak 266 = .ok (.aload_n 0, 1) := by decide +kernel
theorem dX11_setsBreak_267 : decode cX11_setsBreak 267 = .ok (.getfield 9, 3) := by decide +kernel
theorem dX11_setsBreak_270 : decode cX11_setsBreak 270 = .ok (.iload_n 1, 1) := by decide +kernel
theorem dX11_setsBreak_271 : decode cX11_setsBreak 271 = .ok (.iload_n 2, 1) := by decide +kernel
theorem dX11_setsBreak_272 : decode cX11_setsBreak 272 = .ok (.iload 6, 2) := by decide +kernel
theorem dX11_setsBreak_274 : decode cX11_setsBreak 274 = .ok (.invokestatic 101, 3) := by decide +kernel
theorem dX11_setsBreak_277 : decode cX11_setsBreak 277 = .ok (.iload_n 3, 1) := by decide +kernel
theorem dX11_setsBreak_278 : decode cX11_setsBreak 278 = .ok (.iastore, 1) := by decide +kernel
theorem dX11_setsBreak_279 : decode cX11_setsBreak 279 = .ok (.aload_n 0, 1) := by decide +kernel
theorem dX11_setsBreak_280 : decode cX11_setsBreak 280 = .ok (.getfield 9, 3) := by decide +kernel
theorem dX11_setsBreak_283 : decode cX11_setsBreak 283 = .ok (.iload_n 1, 1) := by decide +kernel
theorem dX11_setsBreak_284 : decode cX11_setsBreak 284 = .ok (.iload_n 2, 1) := by decide +kernel
theorem dX11_setsBreak_285 : decode cX11_setsBreak 285 = .ok (.iload 6, 2) := by decide +kernel
theorem dX11_setsBreak_287 : decode cX11_setsBreak 287 = .ok (.invokestatic 101, 3) := by decide +kernel
theorem dX11_setsBreak_290 : decode cX11_setsBreak 290 = .ok (.iconst 1, 1) := by decide +kernel
theorem dX11_setsBreak_291 : decode cX11_setsBreak 291 = .ok (.iadd, 1) := by decide +kernel
theorem dX11_setsBreak_292 : decode cX11_setsBreak 292 = .ok (.iload 4, 2) := by decide +kernel
theorem dX11_setsBreak_294 : decode cX11_setsBreak 294 = .ok (.iastore, 1) := by decide +kernel
theorem dX11_setsBreak_295 : decode cX11_setsBreak 295 = .ok (.iconst 1, 1) := by decide +kernel
theorem dX11_setsBreak_296 : decode cX11_setsBreak 296 = .ok (.ireturn, 1) := by decide +kernel
theorem dX11_sets_0 : decode cX11_sets 0 = .ok (.aload_n 0, 1) := by decide +kernel
theorem dX11_sets_1 : decode cX11_sets 1 = .ok (.getfield 29, 3) := by decide +kernel
theorem dX11_sets_4 : decode cX11_sets 4 = .ok (.iload_n 2, 1) := by decide +kernel
theorem dX11_sets_5 : decode cX11_sets 5 = .ok (.iconst 3, 1) := by decide +kernel
theorem dX11_sets_6 : decode cX11_sets 6 = .ok (.iadd, 1) := by decide +kernel
theorem dX11_sets_7 : decode cX11_sets 7 = .ok (.iaload, 1) := by decide +kernel
theorem dX11_sets_8 : decode cX11_sets 8 = .ok (.istore_n 3, 1) := by decide +kernel
theorem dX11_sets_9 : decode cX11_sets 9 = .ok (.iload_n 3, 1) := by decide +kernel
theorem dX11_sets_10 : decode cX11_sets 10 = .ok (.iconst 1, 1) := by decide +kernel
theorem dX11_sets_11 : decode cX11_sets 11 = .ok (.if_icmp .ne 8, 3) := by decide +kernel
theorem dX11_sets_14 : decode cX11_sets 14 = .ok (.bipush 99, 2) := by decide +kernel
theorem dX11_sets_16 : decode cX11_sets 16 = .ok (.goto 16, 3) := by decide +kernel
theorem dX11_sets_19 : decode cX11_sets 19 = .ok (.iload_n 3, 1) := by decide +kernel
theorem dX11_sets_20 : decode cX11_sets 20 = .ok (.iconst 2, 1) := by decide +kernel
theorem dX11_sets_21 : decode cX11_sets 21 = .ok (.if_icmp .ne 8, 3) := by decide +kernel
theorem dX11_sets_24 : decode cX11_sets 24 = .ok (.bipush 50, 2) := by decide +kernel
theorem dX11_sets_26 : decode cX11_sets 26 = .ok (.goto 6, 3) := by decide +kernel
theorem dX11_sets_29 : decode cX11_sets 29 = .ok (.sipush 9999, 3) := by decide +kernel
theorem dX11_sets_32 : decode cX11_sets 32 = .ok (.istore 4, 2) := by decide +kernel
theorem dX11_sets_34 : decode cX11_sets 34 = .ok (.aload_n 0, 1) := by decide +kernel
theorem dX11_sets_35 : decode cX11_sets 35 = .ok (.getfield 29, 3) := by decide +kernel
theorem dX11_sets_38 : decode cX11_sets 38 = .ok (.iload_n 2, 1) := by decide +kernel
theorem dX11_sets_39 : decode cX11_sets 39 = .ok (.iconst 2, 1) := by decide +kernel
theorem dX11_sets_40 : decode cX11_sets 40 = .ok (.iadd, 1) := by decide +kernel
theorem dX11_sets_41 : decode cX11_sets 41 = .ok (.iaload, 1) := by decide +kernel
theorem dX11_sets_42 : decode cX11_sets 42 = .ok (.iload 4, 2) := by decide +kernel
theorem dX11_sets_44 : decode cX11_sets 44 = .ok (.if_icmp .le 5, 3) := by decide +kernel
theorem dX11_sets_47 : decode cX11_sets 47 = .ok (.iconst 0, 1) := by decide +kernel
theorem dX11_sets_48 : decode cX11_sets 48 = .ok (.ireturn, 1) := by decide +kernel
theorem dX11_sets_49 : decode cX11_sets 49 = .ok (.iload_n 1, 1) := by decide +kernel
theorem dX11_sets_50 : decode cX11_sets 50 = .ok (.aload_n 0, 1) := by decide +kernel
theorem dX11_sets_51 : decode cX11_sets 51 = .ok (.getfield 29, 3) := by decide +kernel
theorem dX11_sets_54 : decode cX11_sets 54 = .ok (.iload_n 2, 1) := by decide +kernel
theorem dX11_sets_55 : decode cX11_sets 55 = .ok (.iconst 1, 1) := by decide +kernel
theorem dX11_sets_56 : decode cX11_sets 56 = .ok (.iadd, 1) := by decide +kernel
theorem dX11_sets_57 : decode cX11_sets 57 = .ok (.iaload, 1) := by decide +kernel
theorem dX11_sets_58 : decode cX11_sets 58 = .ok (.invokestatic 82, 3) := by decide +kernel
theorem dX11_sets_61 : decode cX11_sets 61 = .ok (.istore 5, 2) := by decide +kernel
theorem dX11_sets_63 : decode cX11_sets 63 = .ok (.aload_n 0, 1) := by decide +kernel
theorem dX11_sets_64 : decode cX11_sets 64 = .ok (.getfield 9, 3) := by decide +kernel
theorem dX11_sets_67 : decode cX11_sets 67 = .ok (.iload 5, 2) := by decide +kernel
theorem dX11_sets_69 : decode cX11_sets 69 = .ok (.iconst 1, 1) := by decide +kernel
theorem dX11_sets_70 : decode cX11_sets 70 = .ok (.iastore, 1) := by decide +kernel
theorem dX11_sets_71 : decode cX11_sets 71 = .ok (.aload_n 0, 1) := by decide +kernel
theorem dX11_sets_72 : decode cX11_sets 72 = .ok (.getfield 9, 3) := by decide +kernel
theorem dX11_sets_75 : decode cX11_sets 75 = .ok (.iload 5, 2) := by decide +kernel
theorem dX11_sets_77 : decode cX11_sets 77 = .ok (.iconst 1, 1) := by decide +kernel
theorem dX11_sets_78 : decode cX11_sets 78 = .ok (.iadd, 1) := by decide +kernel
theorem dX11_sets_79 : decode cX11_sets 79 = .ok (.aload_n 0, 1) := by decide +kernel
theorem dX11_sets_80 : decode cX11_sets 80 = .ok (.getfield 29, 3) := by decide +kernel
theorem dX11_sets_83 : decode cX11_sets 83 = .ok (.iload_n 2, 1) := by decide +kernel
theorem dX11_sets_84 : decode cX11_sets 84 = .ok (.iconst 2, 1) := by decide +kernel
theorem dX11_sets_85 : decode cX11_sets 85 = .ok (.iadd, 1) := by decide +kernel
theorem dX11_sets_86 : decode cX11_sets 86 = .ok (.iaload, 1) := by decide +kernel
theorem dX11_sets_87 : decode cX11_sets 87 = .ok (.iastore, 1) := by decide +kernel
theorem dX11_sets_88 : decode cX11_sets 88 = .ok (.aload_n 0, 1) := by decide +kernel
theorem dX11_sets_89 : decode cX11_sets 89 = .ok (.getfield 9, 3) := by decide +kernel
theorem dX11_sets_92 : decode cX11_sets 92 = .ok (.iload 5, 2) := by decide +kernel
theorem dX11_sets_94 : decode cX11_sets 94 = .ok (.iconst 2, 1) := by decide +kernel
theorem dX11_sets_95 : decode cX11_sets 95 = .ok (.iadd, 1) := by decide +kernel
theorem dX11_sets_96 : decode cX11_sets 96 = .ok (.iload_n 3, 1) := by decide +kernel
theorem dX11_sets_97 : decode cX11_sets 97 = .ok (.iastore, 1) := by decide +kernel
theorem dX11_sets_98 : decode cX11_sets 98 = .ok (.aload_n 0, 1) := by decide +kernel
theorem dX11_sets_99 : decode cX11_sets 99 = .ok (.getfield 9, 3) := by decide +kernel
theorem dX11_sets_102 : decode cX11_sets 102 = .ok (.iload 5, 2) := by decide +kernel
theorem dX11_sets_104 : decode cX11_sets 104 = .ok (.iconst 3, 1) := by decide +kernel
theorem dX11_sets_105 : decode cX11_sets 105 = .ok (.iadd, 1) := by decide +kernel
theorem dX11_sets_106 : decode cX11_sets 106 = .ok (.aload_n 0, 1) := by decide +kernel
theorem dX11_sets_107 : decode cX11_sets 107 = .ok (.getfield 29, 3) := by decide +kernel
theorem dX11_sets_110 : decode cX11_sets 110 = .ok (.iload_n 2, 1) := by decide +kernel
theorem dX11_sets_111 : decode cX11_sets 111 = .ok (.iconst 5, 1) := by decide +kernel
theorem dX11_sets_112 : decode cX11_sets 112 = .ok (.iadd, 1) := by decide +kernel
theorem dX11_sets_113 : decode cX11_sets 113 = .ok (.iaload, 1) := by decide +kernel
theorem dX11_sets_114 : decode cX11_sets 114 = .ok (.iastore, 1) := by decide +kernel
theorem dX11_sets_115 : decode cX11_sets 115 = .ok (.aload_n 0, 1) := by decide +kernel
theorem dX11_sets_116 : decode cX11_sets 116 = .ok (.getfield 9, 3) := by decide +kernel
theorem dX11_sets_119 : decode cX11_sets 119 = .ok (.iload 5, 2) := by decide +kernel
theorem dX11_sets_121 : decode cX11_sets 121 = .ok (.iconst 4, 1) := by decide +kernel
theorem dX11_sets_122 : decode cX11_sets 122 = .ok (.iadd, 1) := by decide +kernel
theorem dX11_sets_123 : decode cX11_sets 123 = .ok (.aload_n 0, 1) := by decide +kernel
theorem dX11_sets_124 : decode cX11_sets 124 = .ok (.getfield 29, 3) := by decide +kernel
theorem dX11_sets_127 : decode cX11_sets 127 = .ok (.iload_n 2, 1) := by decide +kernel
theorem dX11_sets_128 : decode cX11_sets 128 = .ok (.bipush 6, 2) := by decide +kernel
theorem dX11_sets_130 : decode cX11_sets 130 = .ok (.iadd, 1) := by decide +kernel
theorem dX11_sets_131 : decode cX11_sets 131 = .ok (.iaload, 1) := by decide +kernel
theorem dX11_sets_132 : decode cX11_sets 132 = .ok (.aload_n 0, 1) := by decide +kernel
theorem dX11_sets_133 : decode cX11_sets 133 = .ok (.getfield 29, 3) := by decide +kernel
theorem dX11_sets_136 : decode cX11_sets 136 = .ok (.iload_n 2, 1) := by decide +kernel
theorem dX11_sets_137 : decode cX11_sets 137 = .ok (.iconst 4, 1) := by decide +kernel
theorem dX11_sets_138 : decode cX11_sets 138 = .ok (.iadd, 1) := by decide +kernel
theorem dX11_sets_139 : decode cX11_sets 139 = .ok (.iaload, 1) := by decide +kernel
theorem dX11_sets_140 : decode cX11_sets 140 = .ok (.isub, 1) := by decide +kernel
theorem dX11_sets_141 : decode cX11_sets 141 = .ok (.iastore, 1) := by decide +kernel
theorem dX11_sets_142 : decode cX11_sets 142 = .ok (.aload_n 0, 1) := by decide +kernel
theorem dX11_sets_143 : decode cX11_sets 143 = .ok (.getfield 9, 3) := by decide +kernel
theorem dX11_sets_146 : decode cX11_sets 146 = .ok (.iload 5, 2) := by decide +kernel
theorem dX11_sets_148 : decode cX11_sets 148 = .ok (.iconst 5, 1) := by decide +kernel
theorem dX11_sets_149 : decode cX11_sets 149 = .ok (.iadd, 1) := by decide +kernel
theorem dX11_sets_150 : decode cX11_sets 150 = .ok (.aload_n 0, 1) := by decide +kernel
theorem dX11_sets_151 : decode cX11_sets 151 = .ok (.getfield 29, 3) := by decide +kernel
theorem dX11_sets_154 : decode cX11_sets 154 = .ok (.iload_n 2, 1) := by decide +kernel
theorem dX11_sets_155 : decode cX11_sets 155 = .ok (.bipush 7, 2) := by decide +kernel
theorem dX11_sets_157 : decode cX11_sets 157 = .ok (.iadd, 1) := by decide +kernel
theorem dX11_sets_158 : decode cX11_sets 158 = .ok (.iaload, 1) := by decide +kernel
theorem dX11_sets_159 : decode cX11_sets 159 = .ok (.iastore, 1) := by decide +kernel
theorem dX11_sets_160 : decode cX11_sets 160 = .ok (.iconst 0, 1) := by decide +kernel
theorem dX11_sets_161 : decode cX11_sets 161 = .ok (.istore 6, 2) := by decide +kernel
theorem dX11_sets_163 : decode cX11_sets 163 = .ok (.iload 6, 2) := by decide +kernel
theorem dX11_sets_165 : decode cX11_sets 165 = .ok (.bipush 30, 2) := by decide +kernel
theorem dX11_sets_167 : decode cX11_sets 167 = .ok (.if_icmp .ge 56, 3) := by decide +kernel
theorem dX11_sets_170 : decode cX11_sets 170 = .ok (.aload_n 0, 1) := by decide +kernel
theorem dX11_sets_171 : decode cX11_sets 171 = .ok (.getfield 9, 3) := by decide +kernel
theorem dX11_sets_174 : decode cX11_sets 174 = .ok (.iload 5, 2) := by decide +kernel
theorem dX11_sets_176 : decode cX11_sets 176 = .ok (.bipush 6, 2) := by decide +kernel
theorem dX11_sets_178 : decode cX11_sets 178 = .ok (.iadd, 1) := by decide +kernel
theorem dX11_sets_179 : decode cX11_sets 179 = .ok (.iload 6, 2) := by decide +kernel
theorem dX11_sets_181 : decode cX11_sets 181 = .ok (.iadd, 1) := by decide +kernel
theorem dX11_sets_182 : decode cX11_sets 182 = .ok (.iload 6, 2) := by decide +kernel
theorem dX11_sets_184 : decode cX11_sets 184 = .ok (.aload_n 0, 1) := by decide +kernel
theorem dX11_sets_185 : decode cX11_sets 185 = .ok (.getfield 9, 3) := by decide +kernel
theorem dX11_sets_188 : decode cX11_sets 188 = .ok (.iload 5, 2) := by decide +kernel
theorem dX11_sets_190 : decode cX11_sets 190 = .ok (.iconst 4, 1) := by decide +kernel
theorem dX11_sets_191 : decode cX11_sets 191 = .ok (.iadd, 1) := by decide +kernel
theorem dX11_sets_192 : decode cX11_sets 192 = .ok (.iaload, 1) := by decide +kernel
theorem dX11_sets_193 : decode cX11_sets 193 = .ok (.if_icmp .ge 22, 3) := by decide +kernel
theorem dX11_sets_196 : decode cX11_sets 196 = .ok (.aload_n 0, 1) := by decide +kernel
theorem dX11_sets_197 : decode cX11_sets 197 = .ok (.getfield 32, 3) := by decide +kernel
theorem dX11_sets_200 : decode cX11_sets 200 = .ok (.aload_n 0, 1) := by decide +kernel
theorem dX11_sets_201 : decode cX11_sets 201 = .ok (.getfield 29, 3) := by decide +kernel
theorem dX11_sets_204 : decode cX11_sets 204 = .ok (.iload_n 2, 1) := by decide +kernel
theorem dX11_sets_205 : decode cX11_sets 205 = .ok (.iconst 4, 1) := by decide +kernel
theorem dX11_sets_206 : decode cX11_sets 206 = .ok (.iadd, 1) := by decide +kernel
theorem dX11_sets_207 : decode cX11_sets 207 = .ok (.iaload, 1) := by decide +kernel
theorem dX11_sets_208 : decode cX11_sets 208 = .ok (.iload 6, 2) := by decide +kernel
theorem dX11_sets_210 : decode cX11_sets 210 = .ok (.iadd, 1) := by decide +kernel
theorem dX11_sets_211 : decode cX11_sets 211 = .ok (.iaload, 1) := by decide +kernel
theorem dX11_sets_212 : decode cX11_sets 212 = .ok (.goto 4, 3) := by decide +kernel
theorem dX11_sets_215 : decode cX11_sets 215 = .ok (.iconst 0, 1) := by decide +kernel
theorem dX11_sets_216 : decode cX11_sets 216 = .ok (.iastore, 1) := by decide +kernel
theorem dX11_sets_217 : decode cX11_sets 217 = .ok (.iinc 6 1, 3) := by decide +kernel
theorem dX11_sets_220 : decode cX11_sets 220 = .ok (.goto (-57), 3) := by decide +kernel
theorem dX11_sets_223 : decode cX11_sets 223 = .ok (.iconst 1, 1) := by decide +kernel
theorem dX11_sets_224 : decode cX11_sets 224 = .ok (.ireturn, 1) := by decide +kernel
theorem dX11_removes_0 : decode cX11_removes 0 = .ok (.aload_n 0, 1) := by decide +kernel
theorem dX11_removes_1 : decode cX11_removes 1 = .ok (.getfield 9, 3) := by decide +kernel
theorem dX11_removes_4 : decode cX11_removes 4 = .ok (.iload_n 1, 1) := by decide +kernel
theorem dX11_removes_5 : decode cX11_removes 5 = .ok (.iload_n 2, 1) := by decide +kernel
theorem dX11_removes_6 : decode cX11_removes 6 = .ok (.invokestatic 82, 3) := by decide +kernel
theorem dX11_removes_9 : decode cX11_removes 9 = .ok (.iaload, 1) := by decide +kernel
theorem dX11_removes_10 : decode cX11_removes 10 = .ok (.iconst 1, 1) := by decide +kernel
theorem dX11_removes_11 : decode cX11_removes 11 = .ok (.if_icmp .ne 7, 3) := by decide +kernel
theorem dX11_removes_14 : decode cX11_removes 14 = .ok (.iconst 1, 1) := by decide +kernel
theorem dX11_removes_15 : decode cX11_removes 15 = .ok (.goto 4, 3) := by decide +kernel
theorem dX11_removes_18 : decode cX11_removes 18 = .ok (.iconst 0, 1) := by decide +kernel
theorem dX11_removes_19 : decode cX11_removes 19 = .ok (.istore_n 3, 1) := by decide +kernel
theorem dX11_removes_20 : decode cX11_removes 20 = .ok (.iconst 0, 1) := by decide +kernel
theorem dX11_removes_21 : decode cX11_removes 21 = .ok (.istore 4, 2) := by decide +kernel
theorem dX11_removes_23 : decode cX11_removes 23 = .ok (.iload 4, 2) := by decide +kernel
theorem dX11_removes_25 : decode cX11_removes 25 = .ok (.bipush 36, 2) := by decide +kernel
theorem dX11_removes_27 : decode cX11_removes 27 = .ok (.if_icmp .ge 23, 3) := by decide +kernel
theorem dX11_removes_30 : decode cX11_removes 30 = .ok (.aload_n 0, 1) := by decide +kernel
theorem dX11_removes_31 : decode cX11_removes 31 = .ok (.getfield 9, 3) := by decide +kernel
theorem dX11_removes_34 : decode cX11_removes 34 = .ok (.iload_n 1, 1) := by decide +kernel
theorem dX11_removes_35 : decode cX11_removes 35 = .ok (.iload_n 2, 1) := by decide +kernel
theorem dX11_removes_36 : decode cX11_removes 36 = .ok (.invokestatic 82, 3) := by decide +kernel
theorem dX11_removes_39 : decode cX11_removes 39 = .ok (.iload 4, 2) := by decide +kernel
theorem dX11_removes_41 : decode cX11_removes 41 = .ok (.iadd, 1) := by decide +kernel
theorem dX11_removes_42 : decode cX11_removes 42 = .ok (.iconst 0, 1) := by decide +kernel
theorem dX11_removes_43 : decode cX11_removes 43 = .ok (.iastore, 1) := by decide +kernel
theorem dX11_removes_44 : decode cX11_removes 44 = .ok (.iinc 4 1, 3) := by decide +kernel
theorem dX11_removes_47 : decode cX11_removes 47 = .ok (.goto (-24), 3) := by decide +kernel
theorem dX11_removes_50 : decode cX11_removes 50 = .ok (.iload_n 3, 1) := by decide +kernel
theorem dX11_removes_51 : decode cX11_removes 51 = .ok (.ireturn, 1) := by decide +kernel
theorem dX11_writes_0 : decode cX11_writes 0 = .ok (.aload_n 0, 1) := by decide +kernel
theorem dX11_writes_1 : decode cX11_writes 1 = .ok (.getfield 9, 3) := by decide +kernel
theorem dX11_writes_4 : decode cX11_writes 4 = .ok (.iload_n 1, 1) := by decide +kernel
theorem dX11_writes_5 : decode cX11_writes 5 = .ok (.iload_n 2, 1) := by decide +kernel
theorem dX11_writes_6 : decode cX11_writes 6 = .ok (.iastore, 1) := by decide +kernel
theorem dX11_writes_7 : decode cX11_writes 7 = .ok (.iload_n 2, 1) := by decide +kernel
theorem dX11_writes_8 : decode cX11_writes 8 = .ok (.iload_n 3, 1) := by decide +kernel
theorem dX11_writes_9 : decode cX11_writes 9 = .ok (.iload 4, 2) := by decide +kernel
theorem dX11_writes_11 : decode cX11_writes 11 = .ok (.invokestatic 60, 3) := by decide +kernel
theorem dX11_writes_14 : decode cX11_writes 14 = .ok (.ireturn, 1) := by decide +kernel
theorem dX11_carries_0 : decode cX11_carries 0 = .ok (.aload_n 0, 1) := by decide +kernel
theorem dX11_carries_1 : decode cX11_carries 1 = .ok (.getfield 29, 3) := by decide +kernel
theorem dX11_carries_4 : decode cX11_carries 4 = .ok (.iload_n 2, 1) := by decide +kernel
theorem dX11_carries_5 : decode cX11_carries 5 = .ok (.iaload, 1) := by decide +kernel
theorem dX11_carries_6 : decode cX11_carries 6 = .ok (.tableswitch 299 97 122 #[292, 125, 267, 191, 299, 218, 299, 299, 299, 299, 299, 299, 155, 299, 299, 299, 299, 299, 242, 299, 299, 299, 299, 299, 299, 118], 118) := by decide +kernel
theorem dX11_carries_124 : decode cX11_carries 124 = .ok (.aload_n 0, 1) := by decide +kernel
theorem dX11_carries_125 : decode cX11_carries 125 = .ok (.iload_n 1, 1) := by decide +kernel
theorem dX11_carries_126 : decode cX11_carries 126 = .ok (.iload_n 2, 1) := by decide +kernel
theorem dX11_carries_127 : decode cX11_carries 127 = .ok (.invokevirtual 173, 3) := by decide +kernel
theorem dX11_carries_130 : decode cX11_carries 130 = .ok (.ireturn, 1) := by decide +kernel
theorem dX11_carries_131 : decode cX11_carries 131 = .ok (.aload_n 0, 1) := by decide +kernel
theorem dX11_carries_132 : decode cX11_carries 132 = .ok (.iload_n 1, 1) := by decide +kernel
theorem dX11_carries_133 : decode cX11_carries 133 = .ok (.aload_n 0, 1) := by decide +kernel
theorem dX11_carries_134 : decode cX11_carries 134 = .ok (.getfield 29, 3) := by decide +kernel
theorem dX11_carries_137 : decode cX11_carries 137 = .ok (.iload_n 2, 1) := by decide +kernel
theorem dX11_carries_138 : decode cX11_carries 138 = .ok (.iconst 1, 1) := by decide +kernel
theorem dX11_carries_139 : decode cX11_carries 139 = .ok (.iadd, 1) := by decide +kernel
theorem dX11_carries_140 : decode cX11_carries 140 = .ok (.iaload, 1) := by decide +kernel
theorem dX11_carries_141 : decode cX11_carries 141 = .ok (.aload_n 0, 1) := by decide +kernel
theorem dX11_carries_142 : decode cX11_carries 142 = .ok (.getfield 29, 3) := by decide +kernel
theorem dX11_carries_145 : decode cX11_carries 145 = .ok (.iload_n 2, 1) := by decide +kernel
theorem dX11_carries_146 : decode cX11_carries 146 = .ok (.iconst 2, 1) := by decide +kernel
theorem dX11_carries_147 : decode cX11_carries 147 = .ok (.iadd, 1) := by decide +kernel
theorem dX11_carries_148 : decode cX11_carries 148 = .ok (.iaload, 1) := by decide +kernel
theorem dX11_carries_149 : decode cX11_carries 149 = .ok (.aload_n 0, 1) := by decide +kernel
theorem dX11_carries_150 : decode cX11_carries 150 = .ok (.getfield 29, 3) := by decide +kernel
theorem dX11_carries_153 : decode cX11_carries 153 = .ok (.iload_n 2, 1) := by decide +kernel
theorem dX11_carries_154 : decode cX11_carries 154 = .ok (.iconst 3, 1) := by decide +kernel
theorem dX11_carries_155 : decode cX11_carries 155 = .ok (.iadd, 1) := by decide +kernel
theorem dX11_carries_156 : decode cX11_carries 156 = .ok (.iaload, 1) := by decide +kernel
theorem dX11_carries_157 : decode cX11_carries 157 = .ok (.invokevirtual 177, 3) := by decide +kernel
theorem dX11_carries_160 : decode cX11_carries 160 = .ok (.ireturn, 1) := by decide +kernel
theorem dX11_carries_161 : decode cX11_carries 161 = .ok (.aload_n 0, 1) := by decide +kernel
theorem dX11_carries_162 : decode cX11_carries 162 = .ok (.iload_n 1, 1) := by decide +kernel
theorem dX11_carries_163 : decode cX11_carries 163 = .ok (.invokestatic 64, 3) := by decide +kernel
theorem dX11_carries_166 : decode cX11_carries 166 = .ok (.sipush 137, 3) := by decide +kernel
theorem dX11_carries_169 : decode cX11_carries 169 = .ok (.iadd, 1) := by decide +kernel
theorem dX11_carries_170 : decode cX11_carries 170 = .ok (.aload_n 0, 1) := by decide +kernel
theorem dX11_carries_171 : decode cX11_carries 171 = .ok (.getfield 29, 3) := by decide +kernel
theorem dX11_carries_174 : decode cX11_carries 174 = .ok (.iload_n 2, 1) := by decide +kernel
theorem dX11_carries_175 : decode cX11_carries 175 = .ok (.iconst 1, 1) := by decide +kernel
theorem dX11_carries_176 : decode cX11_carries 176 = .ok (.iadd, 1) := by decide +kernel
theorem dX11_carries_177 : decode cX11_carries 177 = .ok (.iaload, 1) := by decide +kernel
theorem dX11_carries_178 : decode cX11_carries 178 = .ok (.iadd, 1) := by decide +kernel
theorem dX11_carries_179 : decode cX11_carries 179 = .ok (.iconst 1, 1) := by decide +kernel
theorem dX11_carries_180 : decode cX11_carries 180 = .ok (.isub, 1) := by decide +kernel
theorem dX11_carries_181 : decode cX11_carries 181 = .ok (.aload_n 0, 1) := by decide +kernel
theorem dX11_carries_182 : decode cX11_carries 182 = .ok (.getfield 29, 3) := by decide +kernel
theorem dX11_carries_185 : decode cX11_carries 185 = .ok (.iload_n 2, 1) := by decide +kernel
theorem dX11_carries_186 : decode cX11_carries 186 = .ok (.iconst 2, 1) := by decide +kernel
theorem dX11_carries_187 : decode cX11_carries 187 = .ok (.iadd, 1) := by decide +kernel
theorem dX11_carries_188 : decode cX11_carries 188 = .ok (.iaload, 1) := by decide +kernel
theorem dX11_carries_189 : decode cX11_carries 189 = .ok (.iconst 0, 1) := by decide +kernel
theorem dX11_carries_190 : decode cX11_carries 190 = .ok (.sipush 9999, 3) := by decide +kernel
theorem dX11_carries_193 : decode cX11_carries 193 = .ok (.invokevirtual 181, 3) := by decide +kernel
theorem dX11_carries_196 : decode cX11_carries 196 = .ok (.ireturn, 1) := by decide +kernel
theorem dX11_carries_197 : decode cX11_carries 197 = .ok (.aload_n 0, 1) := by decide +kernel
theorem dX11_carries_198 : decode cX11_carries 198 = .ok (.iload_n 1, 1) := by decide +kernel
theorem dX11_carries_199 : decode cX11_carries 199 = .ok (.invokestatic 64, 3) := by decide +kernel
theorem dX11_carries_202 : decode cX11_carries 202 = .ok (.sipush 146, 3) := by decide +kernel
theorem dX11_carries_205 : decode cX11_carries 205 = .ok (.iadd, 1) := by decide +kernel
theorem dX11_carries_206 : decode cX11_carries 206 = .ok (.aload_n 0, 1) := by decide +kernel
theorem dX11_carries_207 : decode cX11_carries 207 = .ok (.getfield 29, 3) := by decide +kernel
theorem dX11_carries_210 : decode cX11_carries 210 = .ok (.iload_n 2, 1) := by decide +kernel
theorem dX11_carries_211 : decode cX11_carries 211 = .ok (.iconst 1, 1) := by decide +kernel
theorem dX11_carries_212 : decode cX11_carries 212 = .ok (.iadd, 1) := by decide +kernel
theorem dX11_carries_213 : decode cX11_carries 213 = .ok (.iaload, 1) := by decide +kernel
theorem dX11_carries_214 : decode cX11_carries 214 = .ok (.sipush 1000, 3) := by decide +kernel
theorem dX11_carries_217 : decode cX11_carries 217 = .ok (.sipush 9999, 3) := by decide +kernel
theorem dX11_carries_220 : decode cX11_carries 220 = .ok (.invokevirtual 181, 3) := by decide +kernel
theorem dX11_carries_223 : decode cX11_carries 223 = .ok (.ireturn, 1) := by decide +kernel
theorem dX11_carries_224 : decode cX11_carries 224 = .ok (.aload_n 0, 1) := by decide +kernel
theorem dX11_carries_225 : decode cX11_carries 225 = .ok (.iload_n 1, 1) := by decide +kernel
theorem dX11_carries_226 : decode cX11_carries 226 = .ok (.invokestatic 64, 3) := by decide +kernel
theorem dX11_carries_229 : decode cX11_carries 229 = .ok (.sipush 147, 3) := by decide +kernel
theorem dX11_carries_232 : decode cX11_carries 232 = .ok (.iadd, 1) := by decide +kernel
theorem dX11_carries_233 : decode cX11_carries 233 = .ok (.aload_n 0, 1) := by decide +kernel
theorem dX11_carries_234 : decode cX11_carries 234 = .ok (.getfield 29, 3) := by decide +kernel
theorem dX11_carries_237 : decode cX11_carries 237 = .ok (.iload_n 2, 1) := by decide +kernel
theorem dX11_carries_238 : decode cX11_carries 238 = .ok (.iconst 1, 1) := by decide +kernel
theorem dX11_carries_239 : decode cX11_carries 239 = .ok (.iadd, 1) := by decide +kernel
theorem dX11_carries_240 : decode cX11_carries 240 = .ok (.iaload, 1) := by decide +kernel
theorem dX11_carries_241 : decode cX11_carries 241 = .ok (.iconst 0, 1) := by decide +kernel
theorem dX11_carries_242 : decode cX11_carries 242 = .ok (.bipush 99, 2) := by decide +kernel
theorem dX11_carries_244 : decode cX11_carries 244 = .ok (.invokevirtual 181, 3) := by decide +kernel
theorem dX11_carries_247 : decode cX11_carries 247 = .ok (.ireturn, 1) := by decide +kernel
theorem dX11_carries_248 : decode cX11_carries 248 = .ok (.aload_n 0, 1) := by decide +kernel
theorem dX11_carries_249 : decode cX11_carries 249 = .ok (.iload_n 1, 1) := by decide +kernel
theorem dX11_carries_250 : decode cX11_carries 250 = .ok (.invokestatic 64, 3) := by decide +kernel
theorem dX11_carries_253 : decode cX11_carries 253 = .ok (.sipush 148, 3) := by decide +kernel
theorem dX11_carries_256 : decode cX11_carries 256 = .ok (.iadd, 1) := by decide +kernel
theorem dX11_carries_257 : decode cX11_carries 257 = .ok (.aload_n 0, 1) := by decide +kernel
theorem dX11_carries_258 : decode cX11_carries 258 = .ok (.getfield 29, 3) := by decide +kernel
theorem dX11_carries_261 : decode cX11_carries 261 = .ok (.iload_n 2, 1) := by decide +kernel
theorem dX11_carries_262 : decode cX11_carries 262 = .ok (.iconst 1, 1) := by decide +kernel
theorem dX11_carries_263 : decode cX11_carries 263 = .ok (.iadd, 1) := by decide +kernel
theorem dX11_carries_264 : decode cX11_carries 264 = .ok (.iaload, 1) := by decide +kernel
theorem dX11_carries_265 : decode cX11_carries 265 = .ok (.iconst 0, 1) := by decide +kernel
theorem dX11_carries_266 : decode cX11_carries 266 = .ok (.sipush 9999, 3) := by decide +kernel
theorem dX11_carries_269 : decode cX11_carries 269 = .ok (.invokevirtual 181, 3) := by decide +kernel
theorem dX11_carries_272 : decode cX11_carries 272 = .ok (.ireturn, 1) := by decide +kernel
theorem dX11_carries_273 : decode cX11_carries 273 = .ok (.aload_n 0, 1) := by decide +kernel
theorem dX11_carries_274 : decode cX11_carries 274 = .ok (.iload_n 1, 1) := by decide +kernel
theorem dX11_carries_275 : decode cX11_carries 275 = .ok (.invokestatic 64, 3) := by decide +kernel
theorem dX11_carries_278 : decode cX11_carries 278 = .ok (.sipush 149, 3) := by decide +kernel
theorem dX11_carries_281 : decode cX11_carries 281 = .ok (.iadd, 1) := by decide +kernel
theorem dX11_carries_282 : decode cX11_carries 282 = .ok (.aload_n 0, 1) := by decide +kernel
theorem dX11_carries_283 : decode cX11_carries 283 = .ok (.getfield 29, 3) := by decide +kernel
theorem dX11_carries_286 : decode cX11_carries 286 = .ok (.iload_n 2, 1) := by decide +kernel
theorem dX11_carries_287 : decode cX11_carries 287 = .ok (.iconst 1, 1) := by decide +kernel
theorem dX11_carries_288 : decode cX11_carries 288 = .ok (.iadd, 1) := by decide +kernel
theorem dX11_carries_289 : decode cX11_carries 289 = .ok (.iaload, 1) := by decide +kernel
theorem dX11_carries_290 : decode cX11_carries 290 = .ok (.iconst 0, 1) := by decide +kernel
theorem dX11_carries_291 : decode cX11_carries 291 = .ok (.sipush 9999, 3) := by decide +kernel
theorem dX11_carries_294 : decode cX11_carries 294 = .ok (.invokevirtual 181, 3) := by decide +kernel
theorem dX11_carries_297 : decode cX11_carries 297 = .ok (.ireturn, 1) := by decide +kernel
theorem dX11_carries_298 : decode cX11_carries 298 = .ok (.aload_n 0, 1) := by decide +kernel
theorem dX11_carries_299 : decode cX11_carries 299 = .ok (.iload_n 1, 1) := by decide +kernel
theorem dX11_carries_300 : decode cX11_carries 300 = .ok (.iload_n 2, 1) := by decide +kernel
theorem dX11_carries_301 : decode cX11_carries 301 = .ok (.invokevirtual 184, 3) := by decide +kernel
theorem dX11_carries_304 : decode cX11_carries 304 = .ok (.ireturn, 1) := by decide +kernel
theorem dX11_carries_305 : decode cX11_carries 305 = .ok (.aload_n 0, 1) := by decide +kernel
theorem dX11_carries_306 : decode cX11_carries 306 = .ok (.iload_n 1, 1) := by decide +kernel
theorem dX11_carries_307 : decode cX11_carries 307 = .ok (.aload_n 0, 1) := by decide +kernel
theorem dX11_carries_308 : decode cX11_carries 308 = .ok (.getfield 29, 3) := by decide +kernel
theorem dX11_carries_311 : decode cX11_carries 311 = .ok (.iload_n 2, 1) := by decide +kernel
theorem dX11_carries_312 : decode cX11_carries 312 = .ok (.iconst 1, 1) := by decide +kernel
theorem dX11_carries_313 : decode cX11_carries 313 = .ok (.iadd, 1) := by decide +kernel
theorem dX11_carries_314 : decode cX11_carries 314 = .ok (.iaload, 1) := by decide +kernel
theorem dX11_carries_315 : decode cX11_carries 315 = .ok (.invokevirtual 187, 3) := by decide +kernel
theorem dX11_carries_318 : decode cX11_carries 318 = .ok (.ireturn, 1) := by decide +kernel
theorem dX11_amend_0 : decode cX11_amend 0 = .ok (.aload_n 0, 1) := by decide +kernel
theorem dX11_amend_1 : decode cX11_amend 1 = .ok (.iconst 0, 1) := by decide +kernel
theorem dX11_amend_2 : decode cX11_amend 2 = .ok (.putfield 54, 3) := by decide +kernel
theorem dX11_amend_5 : decode cX11_amend 5 = .ok (.aload_n 0, 1) := by decide +kernel
theorem dX11_amend_6 : decode cX11_amend 6 = .ok (.iconst 0, 1) := by decide +kernel
theorem dX11_amend_7 : decode cX11_amend 7 = .ok (.putfield 124, 3) := by decide +kernel
theorem dX11_amend_10 : decode cX11_amend 10 = .ok (.aload_n 0, 1) := by decide +kernel
theorem dX11_amend_11 : decode cX11_amend 11 = .ok (.iconst 0, 1) := by decide +kernel
theorem dX11_amend_12 : decode cX11_amend 12 = .ok (.putfield 127, 3) := by decide +kernel
theorem dX11_amend_15 : decode cX11_amend 15 = .ok (.aload_n 0, 1) := by decide +kernel
theorem dX11_amend_16 : decode cX11_amend 16 = .ok (.iconst 0, 1) := by decide +kernel
theorem dX11_amend_17 : decode cX11_amend 17 = .ok (.putfield 163, 3) := by decide +kernel
theorem dX11_amend_20 : decode cX11_amend 20 = .ok (.aload_n 0, 1) := by decide +kernel
theorem dX11_amend_21 : decode cX11_amend 21 = .ok (.iconst 0, 1) := by decide +kernel
theorem dX11_amend_22 : decode cX11_amend 22 = .ok (.putfield 150, 3) := by decide +kernel
theorem dX11_amend_25 : decode cX11_amend 25 = .ok (.aload_n 0, 1) := by decide +kernel
theorem dX11_amend_26 : decode cX11_amend 26 = .ok (.iload_n 1, 1) := by decide +kernel
theorem dX11_amend_27 : decode cX11_amend 27 = .ok (.invokevirtual 71, 3) := by decide +kernel
theorem dX11_amend_30 : decode cX11_amend 30 = .ok (.istore_n 2, 1) := by decide +kernel
theorem dX11_amend_31 : decode cX11_amend 31 = .ok (.iload_n 2, 1) := by decide +kernel
theorem dX11_amend_32 : decode cX11_amend 32 = .ok (.ifCond .eq 17, 3) := by decide +kernel
theorem dX11_amend_35 : decode cX11_amend 35 = .ok (.aload_n 0, 1) := by decide +kernel
theorem dX11_amend_36 : decode cX11_amend 36 = .ok (.invokevirtual 190, 3) := by decide +kernel
theorem dX11_amend_39 : decode cX11_amend 39 = .ok (.aload_n 0, 1) := by decide +kernel
theorem dX11_amend_40 : decode cX11_amend 40 = .ok (.bipush 59, 2) := by decide +kernel
theorem dX11_amend_42 : decode cX11_amend 42 = .ok (.invokevirtual 135, 3) := by decide +kernel
theorem dX11_amend_45 : decode cX11_amend 45 = .ok (.istore_n 2, 1) := by decide +kernel
theorem dX11_amend_46 : decode cX11_amend 46 = .ok (.goto (-15), 3) := by decide +kernel
theorem dX11_amend_49 : decode cX11_amend 49 = .ok (.aload_n 0, 1) := by decide +kernel
theorem dX11_amend_50 : decode cX11_amend 50 = .ok (.getfield 121, 3) := by decide +kernel
theorem dX11_amend_53 : decode cX11_amend 53 = .ok (.istore_n 3, 1) := by decide +kernel
theorem dX11_amend_54 : decode cX11_amend 54 = .ok (.aload_n 0, 1) := by decide +kernel
theorem dX11_amend_55 : decode cX11_amend 55 = .ok (.iconst 0, 1) := by decide +kernel
theorem dX11_amend_56 : decode cX11_amend 56 = .ok (.putfield 121, 3) := by decide +kernel
theorem dX11_amend_59 : decode cX11_amend 59 = .ok (.aload_n 0, 1) := by decide +kernel
theorem dX11_amend_60 : decode cX11_amend 60 = .ok (.iload_n 1, 1) := by decide +kernel
theorem dX11_amend_61 : decode cX11_amend 61 = .ok (.invokevirtual 71, 3) := by decide +kernel
theorem dX11_amend_64 : decode cX11_amend 64 = .ok (.ifCond .ne 9, 3) := by decide +kernel
theorem dX11_amend_67 : decode cX11_amend 67 = .ok (.aload_n 0, 1) := by decide +kernel
theorem dX11_amend_68 : decode cX11_amend 68 = .ok (.iconst 1, 1) := by decide +kernel
theorem dX11_amend_69 : decode cX11_amend 69 = .ok (.invokevirtual 68, 3) := by decide +kernel
theorem dX11_amend_72 : decode cX11_amend 72 = .ok (.ireturn, 1) := by decide +kernel
theorem dX11_amend_73 : decode cX11_amend 73 = .ok (.aload_n 0, 1) := by decide +kernel
theorem dX11_amend_74 : decode cX11_amend 74 = .ok (.getfield 127, 3) := by decide +kernel
theorem dX11_amend_77 : decode cX11_amend 77 = .ok (.ifCond .ne 11, 3) := by decide +kernel
theorem dX11_amend_80 : decode cX11_amend 80 = .ok (.aload_n 0, 1) := by decide +kernel
theorem dX11_amend_81 : decode cX11_amend 81 = .ok (.getfield 124, 3) := by decide +kernel
theorem dX11_amend_84 : decode cX11_amend 84 = .ok (.iload_n 3, 1) := by decide +kernel
theorem dX11_amend_85 : decode cX11_amend 85 = .ok (.if_icmp .ge 11, 3) := by decide +kernel
theorem dX11_amend_88 : decode cX11_amend 88 = .ok (.bipush (-100), 2) := by decide +kernel
theorem dX11_amend_90 : decode cX11_amend 90 = .ok (.aload_n 0, 1) := by decide +kernel
theorem dX11_amend_91 : decode cX11_amend 91 = .ok (.getfield 124, 3) := by decide +kernel
theorem dX11_amend_94 : decode cX11_amend 94 = .ok (.isub, 1) := by decide +kernel
theorem dX11_amend_95 : decode cX11_amend 95 = .ok (.ireturn, 1) := by decide +kernel
theorem dX11_amend_96 : decode cX11_amend 96 = .ok (.iconst 0, 1) := by decide +kernel
theorem dX11_amend_97 : decode cX11_amend 97 = .ok (.istore 4, 2) := by decide +kernel
theorem dX11_amend_99 : decode cX11_amend 99 = .ok (.iload 4, 2) := by decide +kernel
theorem dX11_amend_101 : decode cX11_amend 101 = .ok (.sipush 3334, 3) := by decide +kernel
theorem dX11_amend_104 : decode cX11_amend 104 = .ok (.if_icmp .ge 23, 3) := by decide +kernel
theorem dX11_amend_107 : decode cX11_amend 107 = .ok (.aload_n 0, 1) := by decide +kernel
theorem dX11_amend_108 : decode cX11_amend 108 = .ok (.getfield 16, 3) := by decide +kernel
theorem dX11_amend_111 : decode cX11_amend 111 = .ok (.iload 4, 2) := by decide +kernel
theorem dX11_amend_113 : decode cX11_amend 113 = .ok (.aload_n 0, 1) := by decide +kernel
theorem dX11_amend_114 : decode cX11_amend 114 = .ok (.getfield 9, 3) := by decide +kernel
theorem dX11_amend_117 : decode cX11_amend 117 = .ok (.iload 4, 2) := by decide +kernel
theorem dX11_amend_119 : decode cX11_amend 119 = .ok (.iaload, 1) := by decide +kernel
theorem dX11_amend_120 : decode cX11_amend 120 = .ok (.iastore, 1) := by decide +kernel
theorem dX11_amend_121 : decode cX11_amend 121 = .ok (.iinc 4 1, 3) := by decide +kernel
theorem dX11_amend_124 : decode cX11_amend 124 = .ok (.goto (-25), 3) := by decide +kernel
theorem dX11_amend_127 : decode cX11_amend 127 = .ok (.iconst 0, 1) := by decide +kernel
theorem dX11_amend_128 : decode cX11_amend 128 = .ok (.istore 4, 2) := by decide +kernel
theorem dX11_amend_130 : decode cX11_amend 130 = .ok (.iload 4, 2) := by decide +kernel
theorem dX11_amend_132 : decode cX11_amend 132 = .ok (.aload_n 0, 1) := by decide +kernel
theorem dX11_amend_133 : decode cX11_amend 133 = .ok (.getfield 163, 3) := by decide +kernel
theorem dX11_amend_136 : decode cX11_amend 136 = .ok (.if_icmp .ge 65, 3) := by decide +kernel
theorem dX11_amend_139 : decode cX11_amend 139 = .ok (.aload_n 0, 1) := by decide +kernel
theorem dX11_amend_140 : decode cX11_amend 140 = .ok (.iload_n 1, 1) := by decide +kernel
theorem dX11_amend_141 : decode cX11_amend 141 = .ok (.bipush 8, 2) := by decide +kernel
theorem dX11_amend_143 : decode cX11_amend 143 = .ok (.iload 4, 2) := by decide +kernel
theorem dX11_amend_145 : decode cX11_amend 145 = .ok (.imul, 1) := by decide +kernel
theorem dX11_amend_146 : decode cX11_amend 146 = .ok (.invokevirtual 193, 3) := by decide +kernel
theorem dX11_amend_149 : decode cX11_amend 149 = .ok (.ifCond .ne 46, 3) := by decide +kernel
theorem dX11_amend_152 : decode cX11_amend 152 = .ok (.aload_n 0, 1) := by decide +kernel
theorem dX11_amend_153 : decode cX11_amend 153 = .ok (.iload 4, 2) := by decide +kernel
theorem dX11_amend_155 : decode cX11_amend 155 = .ok (.putfield 25, 3) := by decide +kernel
theorem dX11_amend_158 : decode cX11_amend 158 = .ok (.iconst 0, 1) := by decide +kernel
theorem dX11_amend_159 : decode cX11_amend 159 = .ok (.istore 5, 2) := by decide +kernel
theorem dX11_amend_161 : decode cX11_amend 161 = .ok (.iload 5, 2) := by decide +kernel
theorem dX11_amend_163 : decode cX11_amend 163 = .ok (.sipush 3334, 3) := by decide +kernel
theorem dX11_amend_166 : decode cX11_amend 166 = .ok (.if_icmp .ge 23, 3) := by decide +kernel
theorem dX11_amend_169 : decode cX11_amend 169 = .ok (.aload_n 0, 1) := by decide +kernel
theorem dX11_amend_170 : decode cX11_amend 170 = .ok (.getfield 9, 3) := by decide +kernel
theorem dX11_amend_173 : decode cX11_amend 173 = .ok (.iload 5, 2) := by decide +kernel
theorem dX11_amend_175 : decode cX11_amend 175 = .ok (.aload_n 0, 1) := by decide +kernel
theorem dX11_amend_176 : decode cX11_amend 176 = .ok (.getfield 16, 3) := by decide +kernel
theorem dX11_amend_179 : decode cX11_amend 179 = .ok (.iload 5, 2) := by decide +kernel
theorem dX11_amend_181 : decode cX11_amend 181 = .ok (.iaload, 1) := by decide +kernel
theorem dX11_amend_182 : decode cX11_amend 182 = .ok (.iastore, 1) := by decide +kernel
theorem dX11_amend_183 : decode cX11_amend 183 = .ok (.iinc 5 1, 3) := by decide +kernel
theorem dX11_amend_186 : decode cX11_amend 186 = .ok (.goto (-25), 3) := by decide +kernel
theorem dX11_amend_189 : decode cX11_amend 189 = .ok (.aload_n 0, 1) := by decide +kernel
theorem dX11_amend_190 : decode cX11_amend 190 = .ok (.iconst 2, 1) := by decide +kernel
theorem dX11_amend_191 : decode cX11_amend 191 = .ok (.invokevirtual 68, 3) := by decide +kernel
theorem dX11_amend_194 : decode cX11_amend 194 = .ok (.ireturn, 1) := by decide +kernel
theorem dX11_amend_195 : decode cX11_amend 195 = .ok (.iinc 4 1, 3) := by decide +kernel
theorem dX11_amend_198 : decode cX11_amend 198 = .ok (.goto (-68), 3) := by decide +kernel
theorem dX11_amend_201 : decode cX11_amend 201 = .ok (.aload_n 0, 1) := by decide +kernel
theorem dX11_amend_202 : decode cX11_amend 202 = .ok (.aload_n 0, 1) := by decide +kernel
theorem dX11_amend_203 : decode cX11_amend 203 = .ok (.getfield 16, 3) := by decide +kernel
theorem dX11_amend_206 : decode cX11_amend 206 = .ok (.invokevirtual 75, 3) := by decide +kernel
theorem dX11_amend_209 : decode cX11_amend 209 = .ok (.aload_n 0, 1) := by decide +kernel
theorem dX11_amend_210 : decode cX11_amend 210 = .ok (.getfield 163, 3) := by decide +kernel
theorem dX11_amend_213 : decode cX11_amend 213 = .ok (.ireturn, 1) := by decide +kernel
theorem dX11_impossible_0 : decode cX11_impossible 0 = .ok (.aload_n 0, 1) := by decide +kernel
theorem dX11_impossible_1 : decode cX11_impossible 1 = .ok (.iconst 0, 1) := by decide +kernel
theorem dX11_impossible_2 : decode cX11_impossible 2 = .ok (.putfield 54, 3) := by decide +kernel
theorem dX11_impossible_5 : decode cX11_impossible 5 = .ok (.aload_n 0, 1) := by decide +kernel
theorem dX11_impossible_6 : decode cX11_impossible 6 = .ok (.getfield 25, 3) := by decide +kernel
theorem dX11_impossible_9 : decode cX11_impossible 9 = .ok (.ifCond .ge 11, 3) := by decide +kernel
theorem dX11_impossible_12 : decode cX11_impossible 12 = .ok (.aload_n 0, 1) := by decide +kernel
theorem dX11_impossible_13 : decode cX11_impossible 13 = .ok (.iconst 1, 1) := by decide +kernel
theorem dX11_impossible_14 : decode cX11_impossible 14 = .ok (.invokevirtual 68, 3) := by decide +kernel
theorem dX11_impossible_17 : decode cX11_impossible 17 = .ok (.goto 7, 3) := by decide +kernel
theorem dX11_impossible_20 : decode cX11_impossible 20 = .ok (.aload_n 0, 1) := by decide +kernel
theorem dX11_impossible_21 : decode cX11_impossible 21 = .ok (.getfield 25, 3) := by decide +kernel
theorem dX11_impossible_24 : decode cX11_impossible 24 = .ok (.ireturn, 1) := by decide +kernel
theorem dX11_isShipment_0 : decode cX11_isShipment 0 = .ok (.iload_n 1, 1) := by decide +kernel
theorem dX11_isShipment_1 : decode cX11_isShipment 1 = .ok (.iconst 0, 1) := by decide +kernel
theorem dX11_isShipment_2 : decode cX11_isShipment 2 = .ok (.aload_n 0, 1) := by decide +kernel
theorem dX11_isShipment_3 : decode cX11_isShipment 3 = .ok (.getfield 9, 3) := by decide +kernel
theorem dX11_isShipment_6 : decode cX11_isShipment 6 = .ok (.iconst 1, 1) := by decide +kernel
theorem dX11_isShipment_7 : decode cX11_isShipment 7 = .ok (.iaload, 1) := by decide +kernel
theorem dX11_isShipment_8 : decode cX11_isShipment 8 = .ok (.iconst 1, 1) := by decide +kernel
theorem dX11_isShipment_9 : decode cX11_isShipment 9 = .ok (.isub, 1) := by decide +kernel
theorem dX11_isShipment_10 : decode cX11_isShipment 10 = .ok (.invokestatic 60, 3) := by decide +kernel
theorem dX11_isShipment_13 : decode cX11_isShipment 13 = .ok (.ireturn, 1) := by decide +kernel
theorem dX11_of_0 : decode cX11_of 0 = .ok (.aload_n 0, 1) := by decide +kernel
theorem dX11_of_1 : decode cX11_of 1 = .ok (.getfield 9, 3) := by decide +kernel
theorem dX11_of_4 : decode cX11_of 4 = .ok (.bipush 14, 2) := by decide +kernel
theorem dX11_of_6 : decode cX11_of 6 = .ok (.bipush 26, 2) := by decide +kernel
theorem dX11_of_8 : decode cX11_of 8 = .ok (.iload_n 1, 1) := by decide +kernel
theorem dX11_of_9 : decode cX11_of 9 = .ok (.imul, 1) := by decide +kernel
theorem dX11_of_10 : decode cX11_of 10 = .ok (.iadd, 1) := by decide +kernel
theorem dX11_of_11 : decode cX11_of 11 = .ok (.iload_n 2, 1) := by decide +kernel
theorem dX11_of_12 : decode cX11_of 12 = .ok (.iadd, 1) := by decide +kernel
theorem dX11_of_13 : decode cX11_of 13 = .ok (.iaload, 1) := by decide +kernel
theorem dX11_of_14 : decode cX11_of 14 = .ok (.ireturn, 1) := by decide +kernel
theorem dX11_ship_0 : decode cX11_ship 0 = .ok (.aload_n 0, 1) := by decide +kernel
theorem dX11_ship_1 : decode cX11_ship 1 = .ok (.iload_n 1, 1) := by decide +kernel
theorem dX11_ship_2 : decode cX11_ship 2 = .ok (.iconst 0, 1) := by decide +kernel
theorem dX11_ship_3 : decode cX11_ship 3 = .ok (.sipush 999, 3) := by decide +kernel
theorem dX11_ship_6 : decode cX11_ship 6 = .ok (.invokestatic 60, 3) := by decide +kernel
theorem dX11_ship_9 : decode cX11_ship 9 = .ok (.ifCond .eq 35, 3) := by decide +kernel
theorem dX11_ship_12 : decode cX11_ship 12 = .ok (.iload_n 2, 1) := by decide +kernel
theorem dX11_ship_13 : decode cX11_ship 13 = .ok (.iconst 0, 1) := by decide +kernel
theorem dX11_ship_14 : decode cX11_ship 14 = .ok (.sipush 999, 3) := by decide +kernel
theorem dX11_ship_17 : decode cX11_ship 17 = .ok (.invokestatic 60, 3) := by decide +kernel
theorem dX11_ship_20 : decode cX11_ship 20 = .ok (.ifCond .eq 24, 3) := by decide +kernel
theorem dX11_ship_23 : decode cX11_ship 23 = .ok (.iload_n 3, 1) := by decide +kernel
theorem dX11_ship_24 : decode cX11_ship 24 = .ok (.iconst 0, 1) := by decide +kernel
theorem dX11_ship_25 : decode cX11_ship 25 = .ok (.sipush 255, 3) := by decide +kernel
theorem dX11_ship_28 : decode cX11_ship 28 = .ok (.invokestatic 60, 3) := by decide +kernel
theorem dX11_ship_31 : decode cX11_ship 31 = .ok (.ifCond .eq 13, 3) := by decide +kernel
theorem dX11_ship_34 : decode cX11_ship 34 = .ok (.iload 4, 2) := by decide +kernel
theorem dX11_ship_36 : decode cX11_ship 36 = .ok (.iconst 0, 1) := by decide +kernel
theorem dX11_ship_37 : decode cX11_ship 37 = .ok (.iconst 3, 1) := by decide +kernel
theorem dX11_ship_38 : decode cX11_ship 38 = .ok (.invokestatic 60, 3) := by decide +kernel
theorem dX11_ship_41 : decode cX11_ship 41 = .ok (.ifCond .ne 7, 3) := by decide +kernel
theorem dX11_ship_44 : decode cX11_ship 44 = .ok (.iconst 1, 1) := by decide +kernel
theorem dX11_ship_45 : decode cX11_ship 45 = .ok (.goto 19, 3) := by decide +kernel
theorem dX11_ship_48 : decode cX11_ship 48 = .ok (.aload_n 0, 1) := by decide +kernel
theorem dX11_ship_49 : decode cX11_ship 49 = .ok (.getfield 9, 3) := by decide +kernel
theorem dX11_ship_52 : decode cX11_ship 52 = .ok (.iconst 1, 1) := by decide +kernel
theorem dX11_ship_53 : decode cX11_ship 53 = .ok (.iaload, 1) := by decide +kernel
theorem dX11_ship_54 : decode cX11_ship 54 = .ok (.bipush 10, 2) := by decide +kernel
theorem dX11_ship_56 : decode cX11_ship 56 = .ok (.if_icmp .ne 7, 3) := by decide +kernel
theorem dX11_ship_59 : decode cX11_ship 59 = .ok (.iconst 2, 1) := by decide +kernel
theorem dX11_ship_60 : decode cX11_ship 60 = .ok (.goto 4, 3) := by decide +kernel
theorem dX11_ship_63 : decode cX11_ship 63 = .ok (.iconst 0, 1) := by decide +kernel
theorem dX11_ship_64 : decode cX11_ship 64 = .ok (.putfield 54, 3) := by decide +kernel
theorem dX11_ship_67 : decode cX11_ship 67 = .ok (.aload_n 0, 1) := by decide +kernel
theorem dX11_ship_68 : decode cX11_ship 68 = .ok (.getfield 54, 3) := by decide +kernel
theorem dX11_ship_71 : decode cX11_ship 71 = .ok (.ifCond .le 5, 3) := by decide +kernel
theorem dX11_ship_74 : decode cX11_ship 74 = .ok (.iconst 0, 1) := by decide +kernel
theorem dX11_ship_75 : decode cX11_ship 75 = .ok (.ireturn, 1) := by decide +kernel
theorem dX11_ship_76 : decode cX11_ship 76 = .ok (.aload_n 0, 1) := by decide +kernel
theorem dX11_ship_77 : decode cX11_ship 77 = .ok (.aload_n 0, 1) := by decide +kernel
theorem dX11_ship_78 : decode cX11_ship 78 = .ok (.getfield 9, 3) := by decide +kernel
theorem dX11_ship_81 : decode cX11_ship 81 = .ok (.invokevirtual 75, 3) := by decide +kernel
theorem dX11_ship_84 : decode cX11_ship 84 = .ok (.bipush 14, 2) := by decide +kernel
theorem dX11_ship_86 : decode cX11_ship 86 = .ok (.bipush 26, 2) := by decide +kernel
theorem dX11_ship_88 : decode cX11_ship 88 = .ok (.aload_n 0, 1) := by decide +kernel
theorem dX11_ship_89 : decode cX11_ship 89 = .ok (.getfield 9, 3) := by decide +kernel
theorem dX11_ship_92 : decode cX11_ship 92 = .ok (.iconst 1, 1) := by decide +kernel
theorem dX11_ship_93 : decode cX11_ship 93 = .ok (.iaload, 1) := by decide +kernel
theorem dX11_ship_94 : decode cX11_ship 94 = .ok (.imul, 1) := by decide +kernel
theorem dX11_ship_95 : decode cX11_ship 95 = .ok (.iadd, 1) := by decide +kernel
theorem dX11_ship_96 : decode cX11_ship 96 = .ok (.istore 5, 2) := by decide +kernel
theorem dX11_ship_98 : decode cX11_ship 98 = .ok (.iconst 0, 1) := by decide +kernel
theorem dX11_ship_99 : decode cX11_ship 99 = .ok (.istore 6, 2) := by decide +kernel
theorem dX11_ship_101 : decode cX11_ship 101 = .ok (.iload 6, 2) := by decide +kernel
theorem dX11_ship_103 : decode cX11_ship 103 = .ok (.bipush 26, 2) := by decide +kernel
theorem dX11_ship_105 : decode cX11_ship 105 = .ok (.if_icmp .ge 20, 3) := by decide +kernel
theorem dX11_ship_108 : decode cX11_ship 108 = .ok (.aload_n 0, 1) := by decide +kernel
theorem dX11_ship_109 : decode cX11_ship 109 = .ok (.getfield 9, 3) := by decide +kernel
theorem dX11_ship_112 : decode cX11_ship 112 = .ok (.iload 5, 2) := by decide +kernel
theorem dX11_ship_114 : decode cX11_ship 114 = .ok (.iload 6, 2) := by decide +kernel
theorem dX11_ship_116 : decode cX11_ship 116 = .ok (.iadd, 1) := by decide +kernel
theorem dX11_ship_117 : decode cX11_ship 117 = .ok (.iconst 0, 1) := by decide +kernel
theorem dX11_ship_118 : decode cX11_ship 118 = .ok (.iastore, 1) := by decide +kernel
theorem dX11_ship_119 : decode cX11_ship 119 = .ok (.iinc 6 1, 3) := by decide +kernel
theorem dX11_ship_122 : decode cX11_ship 122 = .ok (.goto (-21), 3) := by decide +kernel
theorem dX11_ship_125 : decode cX11_ship 125 = .ok (.aload_n 0, 1) := by decide +kernel
theorem dX11_ship_126 : decode cX11_ship 126 = .ok (.getfield 9, 3) := by decide +kernel
theorem dX11_ship_129 : decode cX11_ship 129 = .ok (.iload 5, 2) := by decide +kernel
theorem dX11_ship_131 : decode cX11_ship 131 = .ok (.iconst 0, 1) := by decide +kernel
theorem dX11_ship_132 : decode cX11_ship 132 = .ok (.iadd, 1) := by decide +kernel
theorem dX11_ship_133 : decode cX11_ship 133 = .ok (.iload_n 1, 1) := by decide +kernel
theorem dX11_ship_134 : decode cX11_ship 134 = .ok (.iastore, 1) := by decide +kernel
theorem dX11_ship_135 : decode cX11_ship 135 = .ok (.aload_n 0, 1) := by decide +kernel
theorem dX11_ship_136 : decode cX11_ship 136 = .ok (.getfield 9, 3) := by decide +kernel
theorem dX11_ship_139 : decode cX11_ship 139 = .ok (.iload 5, 2) := by decide +kernel
theorem dX11_ship_141 : decode cX11_ship 141 = .ok (.iconst 1, 1) := by decide +kernel
theorem dX11_ship_142 : decode cX11_ship 142 = .ok (.iadd, 1) := by decide +kernel
theorem dX11_ship_143 : decode cX11_ship 143 = .ok (.iload_n 2, 1) := by decide +kernel
theorem dX11_ship_144 : decode cX11_ship 144 = .ok (.iastore, 1) := by decide +kernel
theorem dX11_ship_145 : decode cX11_ship 145 = .ok (.aload_n 0, 1) := by decide +kernel
theorem dX11_ship_146 : decode cX11_ship 146 = .ok (.getfield 9, 3) := by decide +kernel
theorem dX11_ship_149 : decode cX11_ship 149 = .ok (.iload 5, 2) := by decide +kernel
theorem dX11_ship_151 : decode cX11_ship 151 = .ok (.iconst 2, 1) := by decide +kernel
theorem dX11_ship_152 : decode cX11_ship 152 = .ok (.iadd, 1) := by decide +kernel
theorem dX11_ship_153 : decode cX11_ship 153 = .ok (.iload_n 3, 1) := by decide +kernel
theorem dX11_ship_154 : decode cX11_ship 154 = .ok (.iastore, 1) := by decide +kernel
theorem dX11_ship_155 : decode cX11_ship 155 = .ok (.aload_n 0, 1) := by decide +kernel
theorem dX11_ship_156 : decode cX11_ship 156 = .ok (.getfield 9, 3) := by decide +kernel
theorem dX11_ship_159 : decode cX11_ship 159 = .ok (.iload 5, 2) := by decide +kernel
theorem dX11_ship_161 : decode cX11_ship 161 = .ok (.iconst 3, 1) := by decide +kernel
theorem dX11_ship_162 : decode cX11_ship 162 = .ok (.iadd, 1) := by decide +kernel
theorem dX11_ship_163 : decode cX11_ship 163 = .ok (.iload 4, 2) := by decide +kernel
theorem dX11_ship_165 : decode cX11_ship 165 = .ok (.iastore, 1) := by decide +kernel
theorem dX11_ship_166 : decode cX11_ship 166 = .ok (.aload_n 0, 1) := by decide +kernel
theorem dX11_ship_167 : decode cX11_ship 167 = .ok (.getfield 9, 3) := by decide +kernel
theorem dX11_ship_170 : decode cX11_ship 170 = .ok (.iload 5, 2) := by decide +kernel
theorem dX11_ship_172 : decode cX11_ship 172 = .ok (.iconst 5, 1) := by decide +kernel
theorem dX11_ship_173 : decode cX11_ship 173 = .ok (.iadd, 1) := by decide +kernel
theorem dX11_ship_174 : decode cX11_ship 174 = .ok (.iconst (-1), 1) := by decide +kernel
theorem dX11_ship_175 : decode cX11_ship 175 = .ok (.iastore, 1) := by decide +kernel
theorem dX11_ship_176 : decode cX11_ship 176 = .ok (.aload_n 0, 1) := by decide +kernel
theorem dX11_ship_177 : decode cX11_ship 177 = .ok (.getfield 9, 3) := by decide +kernel
theorem dX11_ship_180 : decode cX11_ship 180 = .ok (.iconst 1, 1) := by decide +kernel
theorem dX11_ship_181 : decode cX11_ship 181 = .ok (.dup2, 1) := by decide +kernel
theorem dX11_ship_182 : decode cX11_ship 182 = .ok (.iaload, 1) := by decide +kernel
theorem dX11_ship_183 : decode cX11_ship 183 = .ok (.iconst 1, 1) := by decide +kernel
theorem dX11_ship_184 : decode cX11_ship 184 = .ok (.iadd, 1) := by decide +kernel
theorem dX11_ship_185 : decode cX11_ship 185 = .ok (.iastore, 1) := by decide +kernel
theorem dX11_ship_186 : decode cX11_ship 186 = .ok (.aload_n 0, 1) := by decide +kernel
theorem dX11_ship_187 : decode cX11_ship 187 = .ok (.getfield 9, 3) := by decide +kernel
theorem dX11_ship_190 : decode cX11_ship 190 = .ok (.iconst 1, 1) := by decide +kernel
theorem dX11_ship_191 : decode cX11_ship 191 = .ok (.iaload, 1) := by decide +kernel
theorem dX11_ship_192 : decode cX11_ship 192 = .ok (.iconst 1, 1) := by decide +kernel
theorem dX11_ship_193 : decode cX11_ship 193 = .ok (.isub, 1) := by decide +kernel
theorem dX11_ship_194 : decode cX11_ship 194 = .ok (.ireturn, 1) := by decide +kernel
theorem dX11_isPosted_0 : decode cX11_isPosted 0 = .ok (.aload_n 0, 1) := by decide +kernel
theorem dX11_isPosted_1 : decode cX11_isPosted 1 = .ok (.iload_n 1, 1) := by decide +kernel
theorem dX11_isPosted_2 : decode cX11_isPosted 2 = .ok (.iconst 5, 1) := by decide +kernel
theorem dX11_isPosted_3 : decode cX11_isPosted 3 = .ok (.invokevirtual 196, 3) := by decide +kernel
theorem dX11_isPosted_6 : decode cX11_isPosted 6 = .ok (.ifCond .lt 7, 3) := by decide +kernel
theorem dX11_isPosted_9 : decode cX11_isPosted 9 = .ok (.iconst 1, 1) := by decide +kernel
theorem dX11_isPosted_10 : decode cX11_isPosted 10 = .ok (.goto 4, 3) := by decide +kernel
theorem dX11_isPosted_13 : decode cX11_isPosted 13 = .ok (.iconst 0, 1) := by decide +kernel
theorem dX11_isPosted_14 : decode cX11_isPosted 14 = .ok (.ireturn, 1) := by decide +kernel
theorem dX11_isSide_0 : decode cX11_isSide 0 = .ok (.iload_n 0, 1) := by decide +kernel
theorem dX11_isSide_1 : decode cX11_isSide 1 = .ok (.iconst 1, 1) := by decide +kernel
theorem dX11_isSide_2 : decode cX11_isSide 2 = .ok (.sipush 200, 3) := by decide +kernel
theorem dX11_isSide_5 : decode cX11_isSide 5 = .ok (.invokestatic 60, 3) := by decide +kernel
theorem dX11_isSide_8 : decode cX11_isSide 8 = .ok (.ireturn, 1) := by decide +kernel
theorem dX11_pack_0 : decode cX11_pack 0 = .ok (.aload_n 0, 1) := by decide +kernel
theorem dX11_pack_1 : decode cX11_pack 1 = .ok (.aload_n 0, 1) := by decide +kernel
theorem dX11_pack_2 : decode cX11_pack 2 = .ok (.iload_n 1, 1) := by decide +kernel
theorem dX11_pack_3 : decode cX11_pack 3 = .ok (.invokevirtual 199, 3) := by decide +kernel
theorem dX11_pack_6 : decode cX11_pack 6 = .ok (.ifCond .ne 7, 3) := by decide +kernel
theorem dX11_pack_9 : decode cX11_pack 9 = .ok (.iconst 1, 1) := by decide +kernel
theorem dX11_pack_10 : decode cX11_pack 10 = .ok (.goto 64, 3) := by decide +kernel
theorem dX11_pack_13 : decode cX11_pack 13 = .ok (.iload_n 2, 1) := by decide +kernel
theorem dX11_pack_14 : decode cX11_pack 14 = .ok (.invokestatic 202, 3) := by decide +kernel
theorem dX11_pack_17 : decode cX11_pack 17 = .ok (.ifCond .eq 30, 3) := by decide +kernel
theorem dX11_pack_20 : decode cX11_pack 20 = .ok (.iload_n 3, 1) := by decide +kernel
theorem dX11_pack_21 : decode cX11_pack 21 = .ok (.invokestatic 202, 3) := by decide +kernel
theorem dX11_pack_24 : decode cX11_pack 24 = .ok (.ifCond .eq 23, 3) := by decide +kernel
theorem dX11_pack_27 : decode cX11_pack 27 = .ok (.iload 4, 2) := by decide +kernel
theorem dX11_pack_29 : decode cX11_pack 29 = .ok (.invokestatic 202, 3) := by decide +kernel
theorem dX11_pack_32 : decode cX11_pack 32 = .ok (.ifCond .eq 15, 3) := by decide +kernel
theorem dX11_pack_35 : decode cX11_pack 35 = .ok (.iload 5, 2) := by decide +kernel
theorem dX11_pack_37 : decode cX11_pack 37 = .ok (.iconst 1, 1) := by decide +kernel
theorem dX11_pack_38 : decode cX11_pack 38 = .ok (.sipush 999, 3) := by decide +kernel
theorem dX11_pack_41 : decode cX11_pack 41 = .ok (.invokestatic 60, 3) := by decide +kernel
theorem dX11_pack_44 : decode cX11_pack 44 = .ok (.ifCond .ne 7, 3) := by decide +kernel
theorem dX11_pack_47 : decode cX11_pack 47 = .ok (.iconst 2, 1) := by decide +kernel
theorem dX11_pack_48 : decode cX11_pack 48 = .ok (.goto 26, 3) := by decide +kernel
theorem dX11_pack_51 : decode cX11_pack 51 = .ok (.aload_n 0, 1) := by decide +kernel
theorem dX11_pack_52 : decode cX11_pack 52 = .ok (.iload_n 1, 1) := by decide +kernel
theorem dX11_pack_53 : decode cX11_pack 53 = .ok (.invokevirtual 205, 3) := by decide +kernel
theorem dX11_pack_56 : decode cX11_pack 56 = .ok (.ifCond .ne 13, 3) := by decide +kernel
theorem dX11_pack_59 : decode cX11_pack 59 = .ok (.aload_n 0, 1) := by decide +kernel
theorem dX11_pack_60 : decode cX11_pack 60 = .ok (.iload_n 1, 1) := by decide +kernel
theorem dX11_pack_61 : decode cX11_pack 61 = .ok (.iconst 4, 1) := by decide +kernel
theorem dX11_pack_62 : decode cX11_pack 62 = .ok (.invokevirtual 196, 3) := by decide +kernel
theorem dX11_pack_65 : decode cX11_pack 65 = .ok (.iconst 5, 1) := by decide +kernel
theorem dX11_pack_66 : decode cX11_pack 66 = .ok (.if_icmp .ne 7, 3) := by decide +kernel
theorem dX11_pack_69 : decode cX11_pack 69 = .ok (.iconst 3, 1) := by decide +kernel
theorem dX11_pack_70 : decode cX11_pack 70 = .ok (.goto 4, 3) := by decide +kernel
theorem dX11_pack_73 : decode cX11_pack 73 = .ok (.iconst 0, 1) := by decide +kernel
theorem dX11_pack_74 : decode cX11_pack 74 = .ok (.putfield 54, 3) := by decide +kernel
theorem dX11_pack_77 : decode cX11_pack 77 = .ok (.aload_n 0, 1) := by decide +kernel
theorem dX11_pack_78 : decode cX11_pack 78 = .ok (.getfield 54, 3) := by decide +kernel
theorem dX11_pack_81 : decode cX11_pack 81 = .ok (.ifCond .le 5, 3) := by decide +kernel
theorem dX11_pack_84 : decode cX11_pack 84 = .ok (.iconst 0, 1) := by decide +kernel
theorem dX11_pack_85 : decode cX11_pack 85 = .ok (.ireturn, 1) := by decide +kernel
theorem dX11_pack_86 : decode cX11_pack 86 = .ok (.aload_n 0, 1) := by decide +kernel
theorem dX11_pack_87 : decode cX11_pack 87 = .ok (.aload_n 0, 1) := by decide +kernel
theorem dX11_pack_88 : decode cX11_pack 88 = .ok (.getfield 9, 3) := by decide +kernel
theorem dX11_pack_91 : decode cX11_pack 91 = .ok (.invokevirtual 75, 3) := by decide +kernel
theorem dX11_pack_94 : decode cX11_pack 94 = .ok (.bipush 14, 2) := by decide +kernel
theorem dX11_pack_96 : decode cX11_pack 96 = .ok (.bipush 26, 2) := by decide +kernel
theorem dX11_pack_98 : decode cX11_pack 98 = .ok (.iload_n 1, 1) := by decide +kernel
theorem dX11_pack_99 : decode cX11_pack 99 = .ok (.imul, 1) := by decide +kernel
theorem dX11_pack_100 : decode cX11_pack 100 = .ok (.iadd, 1) := by decide +kernel
theorem dX11_pack_101 : decode cX11_pack 101 = .ok (.istore 6, 2) := by decide +kernel
theorem dX11_pack_103 : decode cX11_pack 103 = .ok (.iload 6, 2) := by decide +kernel
theorem dX11_pack_105 : decode cX11_pack 105 = .ok (.bipush 6, 2) := by decide +kernel
theorem dX11_pack_107 : decode cX11_pack 107 = .ok (.iadd, 1) := by decide +kernel
theorem dX11_pack_108 : decode cX11_pack 108 = .ok (.iconst 4, 1) := by decide +kernel
theorem dX11_pack_109 : decode cX11_pack 109 = .ok (.aload_n 0, 1) := by decide +kernel
theorem dX11_pack_110 : decode cX11_pack 110 = .ok (.getfield 9, 3) := by decide +kernel
theorem dX11_pack_113 : decode cX11_pack 113 = .ok (.iload 6, 2) := by decide +kernel
theorem dX11_pack_115 : decode cX11_pack 115 = .ok (.iconst 4, 1) := by decide +kernel
theorem dX11_pack_116 : decode cX11_pack 116 = .ok (.iadd, 1) := by decide +kernel
theorem dX11_pack_117 : decode cX11_pack 117 = .ok (.iaload, 1) := by decide +kernel
theorem dX11_pack_118 : decode cX11_pack 118 = .ok (.imul, 1) := by decide +kernel
theorem dX11_pack_119 : decode cX11_pack 119 = .ok (.iadd, 1) := by decide +kernel
theorem dX11_pack_120 : decode cX11_pack 120 = .ok (.istore 7, 2) := by decide +kernel
theorem dX11_pack_122 : decode cX11_pack 122 = .ok (.aload_n 0, 1) := by decide +kernel
theorem dX11_pack_123 : decode cX11_pack 123 = .ok (.getfield 9, 3) := by decide +kernel
theorem dX11_pack_126 : decode cX11_pack 126 = .ok (.iload 7, 2) := by decide +kernel
theorem dX11_pack_128 : decode cX11_pack 128 = .ok (.iload_n 2, 1) := by decide +kernel
theorem dX11_pack_129 : decode cX11_pack 129 = .ok (.iastore, 1) := by decide +kernel
theorem dX11_pack_130 : decode cX11_pack 130 = .ok (.aload_n 0, 1) := by decide +kernel
theorem dX11_pack_131 : decode cX11_pack 131 = .ok (.getfield 9, 3) := by decide +kernel
theorem dX11_pack_134 : decode cX11_pack 134 = .ok (.iload 7, 2) := by decide +kernel
theorem dX11_pack_136 : decode cX11_pack 136 = .ok (.iconst 1, 1) := by decide +kernel
theorem dX11_pack_137 : decode cX11_pack 137 = .ok (.iadd, 1) := by decide +kernel
theorem dX11_pack_138 : decode cX11_pack 138 = .ok (.iload_n 3, 1) := by decide +kernel
theorem dX11_pack_139 : decode cX11_pack 139 = .ok (.iastore, 1) := by decide +kernel
theorem dX11_pack_140 : decode cX11_pack 140 = .ok (.aload_n 0, 1) := by decide +kernel
theorem dX11_pack_141 : decode cX11_pack 141 = .ok (.getfield 9, 3) := by decide +kernel
theorem dX11_pack_144 : decode cX11_pack 144 = .ok (.iload 7, 2) := by decide +kernel
theorem dX11_pack_146 : decode cX11_pack 146 = .ok (.iconst 2, 1) := by decide +kernel
theorem dX11_pack_147 : decode cX11_pack 147 = .ok (.iadd, 1) := by decide +kernel
theorem dX11_pack_148 : decode cX11_pack 148 = .ok (.iload 4, 2) := by decide +kernel
theorem dX11_pack_150 : decode cX11_pack 150 = .ok (.iastore, 1) := by decide +kernel
theorem dX11_pack_151 : decode cX11_pack 151 = .ok (.aload_n 0, 1) := by decide +kernel
theorem dX11_pack_152 : decode cX11_pack 152 = .ok (.getfield 9, 3) := by decide +kernel
theorem dX11_pack_155 : decode cX11_pack 155 = .ok (.iload 7, 2) := by decide +kernel
theorem dX11_pack_157 : decode cX11_pack 157 = .ok (.iconst 3, 1) := by decide +kernel
theorem dX11_pack_158 : decode cX11_pack 158 = .ok (.iadd, 1) := by decide +kernel
theorem dX11_pack_159 : decode cX11_pack 159 = .ok (.iload 5, 2) := by decide +kernel
theorem dX11_pack_161 : decode cX11_pack 161 = .ok (.iastore, 1) := by decide +kernel
theorem dX11_pack_162 : decode cX11_pack 162 = .ok (.aload_n 0, 1) := by decide +kernel
theorem dX11_pack_163 : decode cX11_pack 163 = .ok (.getfield 9, 3) := by decide +kernel
theorem dX11_pack_166 : decode cX11_pack 166 = .ok (.iload 6, 2) := by decide +kernel
theorem dX11_pack_168 : decode cX11_pack 168 = .ok (.iconst 4, 1) := by decide +kernel
theorem dX11_pack_169 : decode cX11_pack 169 = .ok (.iadd, 1) := by decide +kernel
theorem dX11_pack_170 : decode cX11_pack 170 = .ok (.dup2, 1) := by decide +kernel
theorem dX11_pack_171 : decode cX11_pack 171 = .ok (.iaload, 1) := by decide +kernel
theorem dX11_pack_172 : decode cX11_pack 172 = .ok (.iconst 1, 1) := by decide +kernel
theorem dX11_pack_173 : decode cX11_pack 173 = .ok (.iadd, 1) := by decide +kernel
theorem dX11_pack_174 : decode cX11_pack 174 = .ok (.iastore, 1) := by decide +kernel
theorem dX11_pack_175 : decode cX11_pack 175 = .ok (.aload_n 0, 1) := by decide +kernel
theorem dX11_pack_176 : decode cX11_pack 176 = .ok (.getfield 9, 3) := by decide +kernel
theorem dX11_pack_179 : decode cX11_pack 179 = .ok (.iload 6, 2) := by decide +kernel
theorem dX11_pack_181 : decode cX11_pack 181 = .ok (.iconst 4, 1) := by decide +kernel
theorem dX11_pack_182 : decode cX11_pack 182 = .ok (.iadd, 1) := by decide +kernel
theorem dX11_pack_183 : decode cX11_pack 183 = .ok (.iaload, 1) := by decide +kernel
theorem dX11_pack_184 : decode cX11_pack 184 = .ok (.ireturn, 1) := by decide +kernel
theorem dX11_route_0 : decode cX11_route 0 = .ok (.aload_n 0, 1) := by decide +kernel
theorem dX11_route_1 : decode cX11_route 1 = .ok (.aload_n 0, 1) := by decide +kernel
theorem dX11_route_2 : decode cX11_route 2 = .ok (.iload_n 1, 1) := by decide +kernel
theorem dX11_route_3 : decode cX11_route 3 = .ok (.invokevirtual 199, 3) := by decide +kernel
theorem dX11_route_6 : decode cX11_route 6 = .ok (.ifCond .ne 7, 3) := by decide +kernel
theorem dX11_route_9 : decode cX11_route 9 = .ok (.iconst 1, 1) := by decide +kernel
theorem dX11_route_10 : decode cX11_route 10 = .ok (.goto 42, 3) := by decide +kernel
theorem dX11_route_13 : decode cX11_route 13 = .ok (.iload_n 2, 1) := by decide +kernel
theorem dX11_route_14 : decode cX11_route 14 = .ok (.iconst 0, 1) := by decide +kernel
theorem dX11_route_15 : decode cX11_route 15 = .ok (.sipush 999, 3) := by decide +kernel
theorem dX11_route_18 : decode cX11_route 18 = .ok (.invokestatic 60, 3) := by decide +kernel
theorem dX11_route_21 : decode cX11_route 21 = .ok (.ifCond .eq 14, 3) := by decide +kernel
theorem dX11_route_24 : decode cX11_route 24 = .ok (.iload_n 3, 1) := by decide +kernel
theorem dX11_route_25 : decode cX11_route 25 = .ok (.iconst 0, 1) := by decide +kernel
theorem dX11_route_26 : decode cX11_route 26 = .ok (.sipush 999, 3) := by decide +kernel
theorem dX11_route_29 : decode cX11_route 29 = .ok (.invokestatic 60, 3) := by decide +kernel
theorem dX11_route_32 : decode cX11_route 32 = .ok (.ifCond .ne 7, 3) := by decide +kernel
theorem dX11_route_35 : decode cX11_route 35 = .ok (.iconst 2, 1) := by decide +kernel
theorem dX11_route_36 : decode cX11_route 36 = .ok (.goto 16, 3) := by decide +kernel
theorem dX11_route_39 : decode cX11_route 39 = .ok (.aload_n 0, 1) := by decide +kernel
theorem dX11_route_40 : decode cX11_route 40 = .ok (.iload_n 1, 1) := by decide +kernel
theorem dX11_route_41 : decode cX11_route 41 = .ok (.invokevirtual 205, 3) := by decide +kernel
theorem dX11_route_44 : decode cX11_route 44 = .ok (.ifCond .eq 7, 3) := by decide +kernel
theorem dX11_route_47 : decode cX11_route 47 = .ok (.iconst 3, 1) := by decide +kernel
theorem dX11_route_48 : decode cX11_route 48 = .ok (.goto 4, 3) := by decide +kernel
theorem dX11_route_51 : decode cX11_route 51 = .ok (.iconst 0, 1) := by decide +kernel
theorem dX11_route_52 : decode cX11_route 52 = .ok (.putfield 54, 3) := by decide +kernel
theorem dX11_route_55 : decode cX11_route 55 = .ok (.aload_n 0, 1) := by decide +kernel
theorem dX11_route_56 : decode cX11_route 56 = .ok (.getfield 54, 3) := by decide +kernel
theorem dX11_route_59 : decode cX11_route 59 = .ok (.ifCond .le 5, 3) := by decide +kernel
theorem dX11_route_62 : decode cX11_route 62 = .ok (.iconst 0, 1) := by decide +kernel
theorem dX11_route_63 : decode cX11_route 63 = .ok (.ireturn, 1) := by decide +kernel
theorem dX11_route_64 : decode cX11_route 64 = .ok (.aload_n 0, 1) := by decide +kernel
theorem dX11_route_65 : decode cX11_route 65 = .ok (.aload_n 0, 1) := by decide +kernel
theorem dX11_route_66 : decode cX11_route 66 = .ok (.getfield 9, 3) := by decide +kernel
theorem dX11_route_69 : decode cX11_route 69 = .ok (.invokevirtual 75, 3) := by decide +kernel
theorem dX11_route_72 : decode cX11_route 72 = .ok (.aload_n 0, 1) := by decide +kernel
theorem dX11_route_73 : decode cX11_route 73 = .ok (.iload_n 1, 1) := by decide +kernel
theorem dX11_route_74 : decode cX11_route 74 = .ok (.iconst 0, 1) := by decide +kernel
theorem dX11_route_75 : decode cX11_route 75 = .ok (.invokevirtual 196, 3) := by decide +kernel
theorem dX11_route_78 : decode cX11_route 78 = .ok (.istore 4, 2) := by decide +kernel
theorem dX11_route_80 : decode cX11_route 80 = .ok (.aload_n 0, 1) := by decide +kernel
theorem dX11_route_81 : decode cX11_route 81 = .ok (.getfield 9, 3) := by decide +kernel
theorem dX11_route_84 : decode cX11_route 84 = .ok (.bipush 14, 2) := by decide +kernel
theorem dX11_route_86 : decode cX11_route 86 = .ok (.bipush 26, 2) := by decide +kernel
theorem dX11_route_88 : decode cX11_route 88 = .ok (.iload_n 1, 1) := by decide +kernel
theorem dX11_route_89 : decode cX11_route 89 = .ok (.imul, 1) := by decide +kernel
theorem dX11_route_90 : decode cX11_route 90 = .ok (.iadd, 1) := by decide +kernel
theorem dX11_route_91 : decode cX11_route 91 = .ok (.iconst 0, 1) := by decide +kernel
theorem dX11_route_92 : decode cX11_route 92 = .ok (.iadd, 1) := by decide +kernel
theorem dX11_route_93 : decode cX11_route 93 = .ok (.iload_n 2, 1) := by decide +kernel
theorem dX11_route_94 : decode cX11_route 94 = .ok (.iastore, 1) := by decide +kernel
theorem dX11_route_95 : decode cX11_route 95 = .ok (.aload_n 0, 1) := by decide +kernel
theorem dX11_route_96 : decode cX11_route 96 = .ok (.getfield 9, 3) := by decide +kernel
theorem dX11_route_99 : decode cX11_route 99 = .ok (.bipush 14, 2) := by decide +kernel
theorem dX11_route_101 : decode cX11_route 101 = .ok (.bipush 26, 2) := by decide +kernel
theorem dX11_route_103 : decode cX11_route 103 = .ok (.iload_n 1, 1) := by decide +kernel
theorem dX11_route_104 : decode cX11_route 104 = .ok (.imul, 1) := by decide +kernel
theorem dX11_route_105 : decode cX11_route 105 = .ok (.iadd, 1) := by decide +kernel
theorem dX11_route_106 : decode cX11_route 106 = .ok (.iconst 1, 1) := by decide +kernel
theorem dX11_route_107 : decode cX11_route 107 = .ok (.iadd, 1) := by decide +kernel
theorem dX11_route_108 : decode cX11_route 108 = .ok (.iload_n 3, 1) := by decide +kernel
theorem dX11_route_109 : decode cX11_route 109 = .ok (.iastore, 1) := by decide +kernel
theorem dX11_route_110 : decode cX11_route 110 = .ok (.iload 4, 2) := by decide +kernel
theorem dX11_route_112 : decode cX11_route 112 = .ok (.ireturn, 1) := by decide +kernel
theorem dX11_handle_0 : decode cX11_handle 0 = .ok (.aload_n 0, 1) := by decide +kernel
theorem dX11_handle_1 : decode cX11_handle 1 = .ok (.aload_n 0, 1) := by decide +kernel
theorem dX11_handle_2 : decode cX11_handle 2 = .ok (.iload_n 1, 1) := by decide +kernel
theorem dX11_handle_3 : decode cX11_handle 3 = .ok (.invokevirtual 199, 3) := by decide +kernel
theorem dX11_handle_6 : decode cX11_handle 6 = .ok (.ifCond .ne 7, 3) := by decide +kernel
theorem dX11_handle_9 : decode cX11_handle 9 = .ok (.iconst 1, 1) := by decide +kernel
theorem dX11_handle_10 : decode cX11_handle 10 = .ok (.goto 31, 3) := by decide +kernel
theorem dX11_handle_13 : decode cX11_handle 13 = .ok (.iload_n 2, 1) := by decide +kernel
theorem dX11_handle_14 : decode cX11_handle 14 = .ok (.iconst 0, 1) := by decide +kernel
theorem dX11_handle_15 : decode cX11_handle 15 = .ok (.sipush 255, 3) := by decide +kernel
theorem dX11_handle_18 : decode cX11_handle 18 = .ok (.invokestatic 60, 3) := by decide +kernel
theorem dX11_handle_21 : decode cX11_handle 21 = .ok (.ifCond .ne 7, 3) := by decide +kernel
theorem dX11_handle_24 : decode cX11_handle 24 = .ok (.iconst 2, 1) := by decide +kernel
theorem dX11_handle_25 : decode cX11_handle 25 = .ok (.goto 16, 3) := by decide +kernel
theorem dX11_handle_28 : decode cX11_handle 28 = .ok (.aload_n 0, 1) := by decide +kernel
theorem dX11_handle_29 : decode cX11_handle 29 = .ok (.iload_n 1, 1) := by decide +kernel
theorem dX11_handle_30 : decode cX11_handle 30 = .ok (.invokevirtual 205, 3) := by decide +kernel
theorem dX11_handle_33 : decode cX11_handle 33 = .ok (.ifCond .eq 7, 3) := by decide +kernel
theorem dX11_handle_36 : decode cX11_handle 36 = .ok (.iconst 3, 1) := by decide +kernel
theorem dX11_handle_37 : decode cX11_handle 37 = .ok (.goto 4, 3) := by decide +kernel
theorem dX11_handle_40 : decode cX11_handle 40 = .ok (.iconst 0, 1) := by decide +kernel
theorem dX11_handle_41 : decode cX11_handle 41 = .ok (.putfield 54, 3) := by decide +kernel
theorem dX11_handle_44 : decode cX11_handle 44 = .ok (.aload_n 0, 1) := by decide +kernel
theorem dX11_handle_45 : decode cX11_handle 45 = .ok (.getfield 54, 3) := by decide +kernel
theorem dX11_handle_48 : decode cX11_handle 48 = .ok (.ifCond .le 5, 3) := by decide +kernel
theorem dX11_handle_51 : decode cX11_handle 51 = .ok (.iconst 0, 1) := by decide +kernel
theorem dX11_handle_52 : decode cX11_handle 52 = .ok (.ireturn, 1) := by decide +kernel
theorem dX11_handle_53 : decode cX11_handle 53 = .ok (.aload_n 0, 1) := by decide +kernel
theorem dX11_handle_54 : decode cX11_handle 54 = .ok (.aload_n 0, 1) := by decide +kernel
theorem dX11_handle_55 : decode cX11_handle 55 = .ok (.getfield 9, 3) := by decide +kernel
theorem dX11_handle_58 : decode cX11_handle 58 = .ok (.invokevirtual 75, 3) := by decide +kernel
theorem dX11_handle_61 : decode cX11_handle 61 = .ok (.aload_n 0, 1) := by decide +kernel
theorem dX11_handle_62 : decode cX11_handle 62 = .ok (.iload_n 1, 1) := by decide +kernel
theorem dX11_handle_63 : decode cX11_handle 63 = .ok (.iconst 2, 1) := by decide +kernel
theorem dX11_handle_64 : decode cX11_handle 64 = .ok (.invokevirtual 196, 3) := by decide +kernel
theorem dX11_handle_67 : decode cX11_handle 67 = .ok (.istore_n 3, 1) := by decide +kernel
theorem dX11_handle_68 : decode cX11_handle 68 = .ok (.aload_n 0, 1) := by decide +kernel
theorem dX11_handle_69 : decode cX11_handle 69 = .ok (.getfield 9, 3) := by decide +kernel
theorem dX11_handle_72 : decode cX11_handle 72 = .ok (.bipush 14, 2) := by decide +kernel
theorem dX11_handle_74 : decode cX11_handle 74 = .ok (.bipush 26, 2) := by decide +kernel
theorem dX11_handle_76 : decode cX11_handle 76 = .ok (.iload_n 1, 1) := by decide +kernel
theorem dX11_handle_77 : decode cX11_handle 77 = .ok (.imul, 1) := by decide +kernel
theorem dX11_handle_78 : decode cX11_handle 78 = .ok (.iadd, 1) := by decide +kernel
theorem dX11_handle_79 : decode cX11_handle 79 = .ok (.iconst 2, 1) := by decide +kernel
theorem dX11_handle_80 : decode cX11_handle 80 = .ok (.iadd, 1) := by decide +kernel
theorem dX11_handle_81 : decode cX11_handle 81 = .ok (.iload_n 2, 1) := by decide +kernel
theorem dX11_handle_82 : decode cX11_handle 82 = .ok (.iastore, 1) := by decide +kernel
theorem dX11_handle_83 : decode cX11_handle 83 = .ok (.iload_n 3, 1) := by decide +kernel
theorem dX11_handle_84 : decode cX11_handle 84 = .ok (.ireturn, 1) := by decide +kernel
theorem dX11_side_0 : decode cX11_side 0 = .ok (.aload_n 0, 1) := by decide +kernel
theorem dX11_side_1 : decode cX11_side 1 = .ok (.iload_n 1, 1) := by decide +kernel
theorem dX11_side_2 : decode cX11_side 2 = .ok (.bipush 6, 2) := by decide +kernel
theorem dX11_side_4 : decode cX11_side 4 = .ok (.iconst 4, 1) := by decide +kernel
theorem dX11_side_5 : decode cX11_side 5 = .ok (.iload_n 2, 1) := by decide +kernel
theorem dX11_side_6 : decode cX11_side 6 = .ok (.imul, 1) := by decide +kernel
theorem dX11_side_7 : decode cX11_side 7 = .ok (.iadd, 1) := by decide +kernel
theorem dX11_side_8 : decode cX11_side 8 = .ok (.iload_n 3, 1) := by decide +kernel
theorem dX11_side_9 : decode cX11_side 9 = .ok (.iadd, 1) := by decide +kernel
theorem dX11_side_10 : decode cX11_side 10 = .ok (.invokevirtual 196, 3) := by decide +kernel
theorem dX11_side_13 : decode cX11_side 13 = .ok (.ireturn, 1) := by decide +kernel
theorem dX11_volume_0 : decode cX11_volume 0 = .ok (.aload_n 0, 1) := by decide +kernel
theorem dX11_volume_1 : decode cX11_volume 1 = .ok (.iload_n 1, 1) := by decide +kernel
theorem dX11_volume_2 : decode cX11_volume 2 = .ok (.iload_n 2, 1) := by decide +kernel
theorem dX11_volume_3 : decode cX11_volume 3 = .ok (.iconst 0, 1) := by decide +kernel
theorem dX11_volume_4 : decode cX11_volume 4 = .ok (.invokevirtual 208, 3) := by decide +kernel
theorem dX11_volume_7 : decode cX11_volume 7 = .ok (.aload_n 0, 1) := by decide +kernel
theorem dX11_volume_8 : decode cX11_volume 8 = .ok (.iload_n 1, 1) := by decide +kernel
theorem dX11_volume_9 : decode cX11_volume 9 = .ok (.iload_n 2, 1) := by decide +kernel
theorem dX11_volume_10 : decode cX11_volume 10 = .ok (.iconst 1, 1) := by decide +kernel
theorem dX11_volume_11 : decode cX11_volume 11 = .ok (.invokevirtual 208, 3) := by decide +kernel
theorem dX11_volume_14 : decode cX11_volume 14 = .ok (.imul, 1) := by decide +kernel
theorem dX11_volume_15 : decode cX11_volume 15 = .ok (.aload_n 0, 1) := by decide +kernel
theorem dX11_volume_16 : decode cX11_volume 16 = .ok (.iload_n 1, 1) := by decide +kernel
theorem dX11_volume_17 : decode cX11_volume 17 = .ok (.iload_n 2, 1) := by decide +kernel
theorem dX11_volume_18 : decode cX11_volume 18 = .ok (.iconst 2, 1) := by decide +kernel
theorem dX11_volume_19 : decode cX11_volume 19 = .ok (.invokevirtual 208, 3) := by decide +kernel
theorem dX11_volume_22 : decode cX11_volume 22 = .ok (.imul, 1) := by decide +kernel
theorem dX11_volume_23 : decode cX11_volume 23 = .ok (.ireturn, 1) := by decide +kernel
theorem dX11_real_0 : decode cX11_real 0 = .ok (.iconst 0, 1) := by decide +kernel
theorem dX11_real_1 : decode cX11_real 1 = .ok (.istore_n 2, 1) := by decide +kernel
theorem dX11_real_2 : decode cX11_real 2 = .ok (.iconst 0, 1) := by decide +kernel
theorem dX11_real_3 : decode cX11_real 3 = .ok (.istore_n 3, 1) := by decide +kernel
theorem dX11_real_4 : decode cX11_real 4 = .ok (.iload_n 3, 1) := by decide +kernel
theorem dX11_real_5 : decode cX11_real 5 = .ok (.aload_n 0, 1) := by decide +kernel
theorem dX11_real_6 : decode cX11_real 6 = .ok (.iload_n 1, 1) := by decide +kernel
theorem dX11_real_7 : decode cX11_real 7 = .ok (.iconst 4, 1) := by decide +kernel
theorem dX11_real_8 : decode cX11_real 8 = .ok (.invokevirtual 196, 3) := by decide +kernel
theorem dX11_real_11 : decode cX11_real 11 = .ok (.if_icmp .ge 19, 3) := by decide +kernel
theorem dX11_real_14 : decode cX11_real 14 = .ok (.iload_n 2, 1) := by decide +kernel
theorem dX11_real_15 : decode cX11_real 15 = .ok (.aload_n 0, 1) := by decide +kernel
theorem dX11_real_16 : decode cX11_real 16 = .ok (.iload_n 1, 1) := by decide +kernel
theorem dX11_real_17 : decode cX11_real 17 = .ok (.iload_n 3, 1) := by decide +kernel
theorem dX11_real_18 : decode cX11_real 18 = .ok (.iconst 3, 1) := by decide +kernel
theorem dX11_real_19 : decode cX11_real 19 = .ok (.invokevirtual 208, 3) := by decide +kernel
theorem dX11_real_22 : decode cX11_real 22 = .ok (.iadd, 1) := by decide +kernel
theorem dX11_real_23 : decode cX11_real 23 = .ok (.istore_n 2, 1) := by decide +kernel
theorem dX11_real_24 : decode cX11_real 24 = .ok (.iinc 3 1, 3) := by decide +kernel
theorem dX11_real_27 : decode cX11_real 27 = .ok (.goto (-23), 3) := by decide +kernel
theorem dX11_real_30 : decode cX11_real 30 = .ok (.iload_n 2, 1) := by decide +kernel
theorem dX11_real_31 : decode cX11_real 31 = .ok (.ireturn, 1) := by decide +kernel
theorem dX11_longest_0 : decode cX11_longest 0 = .ok (.iconst 0, 1) := by decide +kernel
theorem dX11_longest_1 : decode cX11_longest 1 = .ok (.istore_n 2, 1) := by decide +kernel
theorem dX11_longest_2 : decode cX11_longest 2 = .ok (.iconst 0, 1) := by decide +kernel
theorem dX11_longest_3 : decode cX11_longest 3 = .ok (.istore_n 3, 1) := by decide +kernel
theorem dX11_longest_4 : decode cX11_longest 4 = .ok (.iload_n 3, 1) := by decide +kernel
theorem dX11_longest_5 : decode cX11_longest 5 = .ok (.aload_n 0, 1) := by decide +kernel
theorem dX11_longest_6 : decode cX11_longest 6 = .ok (.iload_n 1, 1) := by decide +kernel
theorem dX11_longest_7 : decode cX11_longest 7 = .ok (.iconst 4, 1) := by decide +kernel
theorem dX11_longest_8 : decode cX11_longest 8 = .ok (.invokevirtual 196, 3) := by decide +kernel
theorem dX11_longest_11 : decode cX11_longest 11 = .ok (.if_icmp .ge 37, 3) := by decide +kernel
theorem dX11_longest_14 : decode cX11_longest 14 = .ok (.iconst 0, 1) := by decide +kernel
theorem dX11_longest_15 : decode cX11_longest 15 = .ok (.istore 4, 2) := by decide +kernel
theorem dX11_longest_17 : decode cX11_longest 17 = .ok (.iload 4, 2) := by decide +kernel
theorem dX11_longest_19 : decode cX11_longest 19 = .ok (.iconst 3, 1) := by decide +kernel
theorem dX11_longest_20 : decode cX11_longest 20 = .ok (.if_icmp .ge 22, 3) := by decide +kernel
theorem dX11_longest_23 : decode cX11_longest 23 = .ok (.iload_n 2, 1) := by decide +kernel
theorem dX11_longest_24 : decode cX11_longest 24 = .ok (.aload_n 0, 1) := by decide +kernel
theorem dX11_longest_25 : decode cX11_longest 25 = .ok (.iload_n 1, 1) := by decide +kernel
theorem dX11_longest_26 : decode cX11_longest 26 = .ok (.iload_n 3, 1) := by decide +kernel
theorem dX11_longest_27 : decode cX11_longest 27 = .ok (.iload 4, 2) := by decide +kernel
theorem dX11_longest_29 : decode cX11_longest 29 = .ok (.invokevirtual 208, 3) := by decide +kernel
theorem dX11_longest_32 : decode cX11_longest 32 = .ok (.invokestatic 105, 3) := by decide +kernel
theorem dX11_longest_35 : decode cX11_longest 35 = .ok (.istore_n 2, 1) := by decide +kernel
theorem dX11_longest_36 : decode cX11_longest 36 = .ok (.iinc 4 1, 3) := by decide +kernel
theorem dX11_longest_39 : decode cX11_longest 39 = .ok (.goto (-22), 3) := by decide +kernel
theorem dX11_longest_42 : decode cX11_longest 42 = .ok (.iinc 3 1, 3) := by decide +kernel
theorem dX11_longest_45 : decode cX11_longest 45 = .ok (.goto (-41), 3) := by decide +kernel
theorem dX11_longest_48 : decode cX11_longest 48 = .ok (.iload_n 2, 1) := by decide +kernel
theorem dX11_longest_49 : decode cX11_longest 49 = .ok (.ireturn, 1) := by decide +kernel
theorem dX11_dimensional_0 : decode cX11_dimensional 0 = .ok (.iconst 0, 1) := by decide +kernel
theorem dX11_dimensional_1 : decode cX11_dimensional 1 = .ok (.istore_n 3, 1) := by decide +kernel
theorem dX11_dimensional_2 : decode cX11_dimensional 2 = .ok (.iconst 0, 1) := by decide +kernel
theorem dX11_dimensional_3 : decode cX11_dimensional 3 = .ok (.istore 4, 2) := by decide +kernel
theorem dX11_dimensional_5 : decode cX11_dimensional 5 = .ok (.iload 4, 2) := by decide +kernel
theorem dX11_dimensional_7 : decode cX11_dimensional 7 = .ok (.aload_n 0, 1) := by decide +kernel
theorem dX11_dimensional_8 : decode cX11_dimensional 8 = .ok (.iload_n 1, 1) := by decide +kernel
theorem dX11_dimensional_9 : decode cX11_dimensional 9 = .ok (.iconst 4, 1) := by decide +kernel
theorem dX11_dimensional_10 : decode cX11_dimensional 10 = .ok (.invokevirtual 196, 3) := by decide +kernel
theorem dX11_dimensional_13 : decode cX11_dimensional 13 = .ok (.if_icmp .ge 25, 3) := by decide +kernel
theorem dX11_dimensional_16 : decode cX11_dimensional 16 = .ok (.iload_n 3, 1) := by decide +kernel
theorem dX11_dimensional_17 : decode cX11_dimensional 17 = .ok (.aload_n 0, 1) := by decide +kernel
theorem dX11_dimensional_18 : decode cX11_dimensional 18 = .ok (.iload_n 1, 1) := by decide +kernel
theorem dX11_dimensional_19 : decode cX11_dimensional 19 = .ok (.iload 4, 2) := by decide +kernel
theorem dX11_dimensional_21 : decode cX11_dimensional 21 = .ok (.invokevirtual 211, 3) := by decide +kernel
theorem dX11_dimensional_24 : decode cX11_dimensional 24 = .ok (.iload_n 2, 1) := by decide +kernel
theorem dX11_dimensional_25 : decode cX11_dimensional 25 = .ok (.iadd, 1) := by decide +kernel
theorem dX11_dimensional_26 : decode cX11_dimensional 26 = .ok (.iconst 1, 1) := by decide +kernel
theorem dX11_dimensional_27 : decode cX11_dimensional 27 = .ok (.isub, 1) := by decide +kernel
theorem dX11_dimensional_28 : decode cX11_dimensional 28 = .ok (.iload_n 2, 1) := by decide +kernel
theorem dX11_dimensional_29 : decode cX11_dimensional 29 = .ok (.idiv, 1) := by decide +kernel
theorem dX11_dimensional_30 : decode cX11_dimensional 30 = .ok (.iadd, 1) := by decide +kernel
theorem dX11_dimensional_31 : decode cX11_dimensional 31 = .ok (.istore_n 3, 1) := by decide +kernel
theorem dX11_dimensional_32 : decode cX11_dimensional 32 = .ok (.iinc 4 1, 3) := by decide +kernel
theorem dX11_dimensional_35 : decode cX11_dimensional 35 = .ok (.goto (-30), 3) := by decide +kernel
theorem dX11_dimensional_38 : decode cX11_dimensional 38 = .ok (.iload_n 3, 1) := by decide +kernel
theorem dX11_dimensional_39 : decode cX11_dimensional 39 = .ok (.ireturn, 1) := by decide +kernel
theorem dX11_shipment_0 : decode cX11_shipment 0 = .ok (.aload_n 0, 1) := by decide +kernel
theorem dX11_shipment_1 : decode cX11_shipment 1 = .ok (.aload_n 0, 1) := by decide +kernel
theorem dX11_shipment_2 : decode cX11_shipment 2 = .ok (.iload_n 1, 1) := by decide +kernel
theorem dX11_shipment_3 : decode cX11_shipment 3 = .ok (.invokevirtual 199, 3) := by decide +kernel
theorem dX11_shipment_6 : decode cX11_shipment 6 = .ok (.ifCond .ne 7, 3) := by decide +kernel
theorem dX11_shipment_9 : decode cX11_shipment 9 = .ok (.iconst 1, 1) := by decide +kernel
theorem dX11_shipment_10 : decode cX11_shipment 10 = .ok (.goto 18, 3) := by decide +kernel
theorem dX11_shipment_13 : decode cX11_shipment 13 = .ok (.iload_n 2, 1) := by decide +kernel
theorem dX11_shipment_14 : decode cX11_shipment 14 = .ok (.iconst 0, 1) := by decide +kernel
theorem dX11_shipment_15 : decode cX11_shipment 15 = .ok (.bipush 8, 2) := by decide +kernel
theorem dX11_shipment_17 : decode cX11_shipment 17 = .ok (.invokestatic 60, 3) := by decide +kernel
theorem dX11_shipment_20 : decode cX11_shipment 20 = .ok (.ifCond .ne 7, 3) := by decide +kernel
theorem dX11_shipment_23 : decode cX11_shipment 23 = .ok (.iconst 2, 1) := by decide +kernel
theorem dX11_shipment_24 : decode cX11_shipment 24 = .ok (.goto 4, 3) := by decide +kernel
theorem dX11_shipment_27 : decode cX11_shipment 27 = .ok (.iconst 0, 1) := by decide +kernel
theorem dX11_shipment_28 : decode cX11_shipment 28 = .ok (.putfield 54, 3) := by decide +kernel
theorem dX11_shipment_31 : decode cX11_shipment 31 = .ok (.aload_n 0, 1) := by decide +kernel
theorem dX11_shipment_32 : decode cX11_shipment 32 = .ok (.getfield 54, 3) := by decide +kernel
theorem dX11_shipment_35 : decode cX11_shipment 35 = .ok (.ifCond .le 5, 3) := by decide +kernel
theorem dX11_shipment_38 : decode cX11_shipment 38 = .ok (.iconst 0, 1) := by decide +kernel
theorem dX11_shipment_39 : decode cX11_shipment 39 = .ok (.ireturn, 1) := by decide +kernel
theorem dX11_shipment_40 : decode cX11_shipment 40 = .ok (.iload_n 2, 1) := by decide +kernel
theorem dX11_shipment_41 : decode cX11_shipment 41 = .ok (.tableswitch 57 5 8 #[31, 37, 44, 50], 31) := by decide +kernel
theorem dX11_shipment_72 : decode cX11_shipment 72 = .ok (.aload_n 0, 1) := by decide +kernel
theorem dX11_shipment_73 : decode cX11_shipment 73 = .ok (.iload_n 1, 1) := by decide +kernel
theorem dX11_shipment_74 : decode cX11_shipment 74 = .ok (.invokevirtual 214, 3) := by decide +kernel
theorem dX11_shipment_77 : decode cX11_shipment 77 = .ok (.ireturn, 1) := by decide +kernel
theorem dX11_shipment_78 : decode cX11_shipment 78 = .ok (.aload_n 0, 1) := by decide +kernel
theorem dX11_shipment_79 : decode cX11_shipment 79 = .ok (.iload_n 1, 1) := by decide +kernel
theorem dX11_shipment_80 : decode cX11_shipment 80 = .ok (.iconst 1, 1) := by decide +kernel
theorem dX11_shipment_81 : decode cX11_shipment 81 = .ok (.invokevirtual 217, 3) := by decide +kernel
theorem dX11_shipment_84 : decode cX11_shipment 84 = .ok (.ireturn, 1) := by decide +kernel
theorem dX11_shipment_85 : decode cX11_shipment 85 = .ok (.aload_n 0, 1) := by decide +kernel
theorem dX11_shipment_86 : decode cX11_shipment 86 = .ok (.iload_n 1, 1) := by decide +kernel
theorem dX11_shipment_87 : decode cX11_shipment 87 = .ok (.invokevirtual 220, 3) := by decide +kernel
theorem dX11_shipment_90 : decode cX11_shipment 90 = .ok (.ireturn, 1) := by decide +kernel
theorem dX11_shipment_91 : decode cX11_shipment 91 = .ok (.aload_n 0, 1) := by decide +kernel
theorem dX11_shipment_92 : decode cX11_shipment 92 = .ok (.iload_n 1, 1) := by decide +kernel
theorem dX11_shipment_93 : decode cX11_shipment 93 = .ok (.iconst 5, 1) := by decide +kernel
theorem dX11_shipment_94 : decode cX11_shipment 94 = .ok (.invokevirtual 196, 3) := by decide +kernel
theorem dX11_shipment_97 : decode cX11_shipment 97 = .ok (.ireturn, 1) := by decide +kernel
theorem dX11_shipment_98 : decode cX11_shipment 98 = .ok (.aload_n 0, 1) := by decide +kernel
theorem dX11_shipment_99 : decode cX11_shipment 99 = .ok (.iload_n 1, 1) := by decide +kernel
theorem dX11_shipment_100 : decode cX11_shipment 100 = .ok (.iload_n 2, 1) := by decide +kernel
theorem dX11_shipment_101 : decode cX11_shipment 101 = .ok (.invokevirtual 196, 3) := by decide +kernel
theorem dX11_shipment_104 : decode cX11_shipment 104 = .ok (.ireturn, 1) := by decide +kernel
theorem dX11_has_0 : decode cX11_has 0 = .ok (.iload_n 0, 1) := by decide +kernel
theorem dX11_has_1 : decode cX11_has 1 = .ok (.iload_n 1, 1) := by decide +kernel
theorem dX11_has_2 : decode cX11_has 2 = .ok (.ishr, 1) := by decide +kernel
theorem dX11_has_3 : decode cX11_has 3 = .ok (.iconst 1, 1) := by decide +kernel
theorem dX11_has_4 : decode cX11_has 4 = .ok (.iand, 1) := by decide +kernel
theorem dX11_has_5 : decode cX11_has 5 = .ok (.iconst 1, 1) := by decide +kernel
theorem dX11_has_6 : decode cX11_has 6 = .ok (.if_icmp .ne 7, 3) := by decide +kernel
theorem dX11_has_9 : decode cX11_has 9 = .ok (.iconst 1, 1) := by decide +kernel
theorem dX11_has_10 : decode cX11_has 10 = .ok (.goto 4, 3) := by decide +kernel
theorem dX11_has_13 : decode cX11_has 13 = .ok (.iconst 0, 1) := by decide +kernel
theorem dX11_has_14 : decode cX11_has 14 = .ok (.ireturn, 1) := by decide +kernel
theorem dX11_ones_0 : decode cX11_ones 0 = .ok (.iconst 0, 1) := by decide +kernel
theorem dX11_ones_1 : decode cX11_ones 1 = .ok (.istore_n 1, 1) := by decide +kernel
theorem dX11_ones_2 : decode cX11_ones 2 = .ok (.iload_n 0, 1) := by decide +kernel
theorem dX11_ones_3 : decode cX11_ones 3 = .ok (.istore_n 2, 1) := by decide +kernel
theorem dX11_ones_4 : decode cX11_ones 4 = .ok (.iload_n 2, 1) := by decide +kernel
theorem dX11_ones_5 : decode cX11_ones 5 = .ok (.ifCond .eq 15, 3) := by decide +kernel
theorem dX11_ones_8 : decode cX11_ones 8 = .ok (.iinc 1 1, 3) := by decide +kernel
theorem dX11_ones_11 : decode cX11_ones 11 = .ok (.iload_n 2, 1) := by decide +kernel
theorem dX11_ones_12 : decode cX11_ones 12 = .ok (.iload_n 2, 1) := by decide +kernel
theorem dX11_ones_13 : decode cX11_ones 13 = .ok (.iconst 1, 1) := by decide +kernel
theorem dX11_ones_14 : decode cX11_ones 14 = .ok (.isub, 1) := by decide +kernel
theorem dX11_ones_15 : decode cX11_ones 15 = .ok (.iand, 1) := by decide +kernel
theorem dX11_ones_16 : decode cX11_ones 16 = .ok (.istore_n 2, 1) := by decide +kernel
theorem dX11_ones_17 : decode cX11_ones 17 = .ok (.goto (-13), 3) := by decide +kernel
theorem dX11_ones_20 : decode cX11_ones 20 = .ok (.iload_n 1, 1) := by decide +kernel
theorem dX11_ones_21 : decode cX11_ones 21 = .ok (.ireturn, 1) := by decide +kernel
theorem dX11_lowest_0 : decode cX11_lowest 0 = .ok (.iconst 0, 1) := by decide +kernel
theorem dX11_lowest_1 : decode cX11_lowest 1 = .ok (.istore_n 1, 1) := by decide +kernel
theorem dX11_lowest_2 : decode cX11_lowest 2 = .ok (.iload_n 0, 1) := by decide +kernel
theorem dX11_lowest_3 : decode cX11_lowest 3 = .ok (.iload_n 1, 1) := by decide +kernel
theorem dX11_lowest_4 : decode cX11_lowest 4 = .ok (.invokestatic 223, 3) := by decide +kernel
theorem dX11_lowest_7 : decode cX11_lowest 7 = .ok (.ifCond .ne 9, 3) := by decide +kernel
theorem dX11_lowest_10 : decode cX11_lowest 10 = .ok (.iinc 1 1, 3) := by decide +kernel
theorem dX11_lowest_13 : decode cX11_lowest 13 = .ok (.goto (-11), 3) := by decide +kernel
theorem dX11_lowest_16 : decode cX11_lowest 16 = .ok (.iload_n 1, 1) := by decide +kernel
theorem dX11_lowest_17 : decode cX11_lowest 17 = .ok (.ireturn, 1) := by decide +kernel
theorem dX11_isGroup_0 : decode cX11_isGroup 0 = .ok (.iload_n 1, 1) := by decide +kernel
theorem dX11_isGroup_1 : decode cX11_isGroup 1 = .ok (.ifCond .le 19, 3) := by decide +kernel
theorem dX11_isGroup_4 : decode cX11_isGroup 4 = .ok (.iload_n 1, 1) := by decide +kernel
theorem dX11_isGroup_5 : decode cX11_isGroup 5 = .ok (.iconst 1, 1) := by decide +kernel
theorem dX11_isGroup_6 : decode cX11_isGroup 6 = .ok (.aload_n 0, 1) := by decide +kernel
theorem dX11_isGroup_7 : decode cX11_isGroup 7 = .ok (.getfield 9, 3) := by decide +kernel
theorem dX11_isGroup_10 : decode cX11_isGroup 10 = .ok (.iconst 1, 1) := by decide +kernel
theorem dX11_isGroup_11 : decode cX11_isGroup 11 = .ok (.iaload, 1) := by decide +kernel
theorem dX11_isGroup_12 : decode cX11_isGroup 12 = .ok (.ishl, 1) := by decide +kernel
theorem dX11_isGroup_13 : decode cX11_isGroup 13 = .ok (.if_icmp .ge 7, 3) := by decide +kernel
theorem dX11_isGroup_16 : decode cX11_isGroup 16 = .ok (.iconst 1, 1) := by decide +kernel
theorem dX11_isGroup_17 : decode cX11_isGroup 17 = .ok (.goto 4, 3) := by decide +kernel
theorem dX11_isGroup_20 : decode cX11_isGroup 20 = .ok (.iconst 0, 1) := by decide +kernel
theorem dX11_isGroup_21 : decode cX11_isGroup 21 = .ok (.ireturn, 1) := by decide +kernel
theorem dX11_layWeight_0 : decode cX11_layWeight 0 = .ok (.iconst 0, 1) := by decide +kernel
theorem dX11_layWeight_1 : decode cX11_layWeight 1 = .ok (.istore_n 2, 1) := by decide +kernel
theorem dX11_layWeight_2 : decode cX11_layWeight 2 = .ok (.iconst 0, 1) := by decide +kernel
theorem dX11_layWeight_3 : decode cX11_layWeight 3 = .ok (.istore_n 3, 1) := by decide +kernel
theorem dX11_layWeight_4 : decode cX11_layWeight 4 = .ok (.aload_n 0, 1) := by decide +kernel
theorem dX11_layWeight_5 : decode cX11_layWeight 5 = .ok (.iconst 0, 1) := by decide +kernel
theorem dX11_layWeight_6 : decode cX11_layWeight 6 = .ok (.putfield 226, 3) := by decide +kernel
theorem dX11_layWeight_9 : decode cX11_layWeight 9 = .ok (.aload_n 0, 1) := by decide +kernel
theorem dX11_layWeight_10 : decode cX11_layWeight 10 = .ok (.iconst 0, 1) := by decide +kernel
theorem dX11_layWeight_11 : decode cX11_layWeight 11 = .ok (.putfield 229, 3) := by decide +kernel
theorem dX11_layWeight_14 : decode cX11_layWeight 14 = .ok (.aload_n 0, 1) := by decide +kernel
theorem dX11_layWeight_15 : decode cX11_layWeight 15 = .ok (.iconst 0, 1) := by decide +kernel
theorem dX11_layWeight_16 : decode cX11_layWeight 16 = .ok (.putfield 232, 3) := by decide +kernel
theorem dX11_layWeight_19 : decode cX11_layWeight 19 = .ok (.iconst 0, 1) := by decide +kernel
theorem dX11_layWeight_20 : decode cX11_layWeight 20 = .ok (.istore 4, 2) := by decide +kernel
theorem dX11_layWeight_22 : decode cX11_layWeight 22 = .ok (.iload 4, 2) := by decide +kernel
theorem dX11_layWeight_24 : decode cX11_layWeight 24 = .ok (.aload_n 0, 1) := by decide +kernel
theorem dX11_layWeight_25 : decode cX11_layWeight 25 = .ok (.getfield 9, 3) := by decide +kernel
theorem dX11_layWeight_28 : decode cX11_layWeight 28 = .ok (.iconst 1, 1) := by decide +kernel
theorem dX11_layWeight_29 : decode cX11_layWeight 29 = .ok (.iaload, 1) := by decide +kernel
theorem dX11_layWeight_30 : decode cX11_layWeight 30 = .ok (.if_icmp .ge 101, 3) := by decide +kernel
theorem dX11_layWeight_33 : decode cX11_layWeight 33 = .ok (.iload_n 1, 1) := by decide +kernel
theorem dX11_layWeight_34 : decode cX11_layWeight 34 = .ok (.iload 4, 2) := by decide +kernel
theorem dX11_layWeight_36 : decode cX11_layWeight 36 = .ok (.invokestatic 223, 3) := by decide +kernel
theorem dX11_layWeight_39 : decode cX11_layWeight 39 = .ok (.ifCond .eq 86, 3) := by decide +kernel
theorem dX11_layWeight_42 : decode cX11_layWeight 42 = .ok (.iload_n 2, 1) := by decide +kernel
theorem dX11_layWeight_43 : decode cX11_layWeight 43 = .ok (.aload_n 0, 1) := by decide +kernel
theorem dX11_layWeight_44 : decode cX11_layWeight 44 = .ok (.iload 4, 2) := by decide +kernel
theorem dX11_layWeight_46 : decode cX11_layWeight 46 = .ok (.invokevirtual 214, 3) := by decide +kernel
theorem dX11_layWeight_49 : decode cX11_layWeight 49 = .ok (.iadd, 1) := by decide +kernel
theorem dX11_layWeight_50 : decode cX11_layWeight 50 = .ok (.istore_n 2, 1) := by decide +kernel
theorem dX11_layWeight_51 : decode cX11_layWeight 51 = .ok (.iload_n 3, 1) := by decide +kernel
theorem dX11_layWeight_52 : decode cX11_layWeight 52 = .ok (.aload_n 0, 1) := by decide +kernel
theorem dX11_layWeight_53 : decode cX11_layWeight 53 = .ok (.iload 4, 2) := by decide +kernel
theorem dX11_layWeight_55 : decode cX11_layWeight 55 = .ok (.aload_n 0, 1) := by decide +kernel
theorem dX11_layWeight_56 : decode cX11_layWeight 56 = .ok (.getfield 9, 3) := by decide +kernel
theorem dX11_layWeight_59 : decode cX11_layWeight 59 = .ok (.aload_n 0, 1) := by decide +kernel
theorem dX11_layWeight_60 : decode cX11_layWeight 60 = .ok (.getfield 235, 3) := by decide +kernel
theorem dX11_layWeight_63 : decode cX11_layWeight 63 = .ok (.invokestatic 64, 3) := by decide +kernel
theorem dX11_layWeight_66 : decode cX11_layWeight 66 = .ok (.sipush 146, 3) := by decide +kernel
theorem dX11_layWeight_69 : decode cX11_layWeight 69 = .ok (.iadd, 1) := by decide +kernel
theorem dX11_layWeight_70 : decode cX11_layWeight 70 = .ok (.iaload, 1) := by decide +kernel
theorem dX11_layWeight_71 : decode cX11_layWeight 71 = .ok (.invokevirtual 217, 3) := by decide +kernel
theorem dX11_layWeight_74 : decode cX11_layWeight 74 = .ok (.iadd, 1) := by decide +kernel
theorem dX11_layWeight_75 : decode cX11_layWeight 75 = .ok (.istore_n 3, 1) := by decide +kernel
theorem dX11_layWeight_76 : decode cX11_layWeight 76 = .ok (.aload_n 0, 1) := by decide +kernel
theorem dX11_layWeight_77 : decode cX11_layWeight 77 = .ok (.dup, 1) := by decide +kernel
theorem dX11_layWeight_78 : decode cX11_layWeight 78 = .ok (.getfield 226, 3) := by decide +kernel
theorem dX11_layWeight_81 : decode cX11_layWeight 81 = .ok (.aload_n 0, 1) := by decide +kernel
theorem dX11_layWeight_82 : decode cX11_layWeight 82 = .ok (.iload 4, 2) := by decide +kernel
theorem dX11_layWeight_84 : decode cX11_layWeight 84 = .ok (.iconst 4, 1) := by decide +kernel
theorem dX11_layWeight_85 : decode cX11_layWeight 85 = .ok (.invokevirtual 196, 3) := by decide +kernel
theorem dX11_layWeight_88 : decode cX11_layWeight 88 = .ok (.iadd, 1) := by decide +kernel
theorem dX11_layWeight_89 : decode cX11_layWeight 89 = .ok (.putfield 226, 3) := by decide +kernel
theorem dX11_layWeight_92 : decode cX11_layWeight 92 = .ok (.aload_n 0, 1) := by decide +kernel
theorem dX11_layWeight_93 : decode cX11_layWeight 93 = .ok (.aload_n 0, 1) := by decide +kernel
theorem dX11_layWeight_94 : decode cX11_layWeight 94 = .ok (.getfield 229, 3) := by decide +kernel
theorem dX11_layWeight_97 : decode cX11_layWeight 97 = .ok (.aload_n 0, 1) := by decide +kernel
theorem dX11_layWeight_98 : decode cX11_layWeight 98 = .ok (.iload 4, 2) := by decide +kernel
theorem dX11_layWeight_100 : decode cX11_layWeight 100 = .ok (.invokevirtual 220, 3) := by decide +kernel
theorem dX11_layWeight_103 : decode cX11_layWeight 103 = .ok (.invokestatic 105, 3) := by decide +kernel
theorem dX11_layWeight_106 : decode cX11_layWeight 106 = .ok (.putfield 229, 3) := by decide +kernel
theorem dX11_layWeight_109 : decode cX11_layWeight 109 = .ok (.aload_n 0, 1) := by decide +kernel
theorem dX11_layWeight_110 : decode cX11_layWeight 110 = .ok (.dup, 1) := by decide +kernel
theorem dX11_layWeight_111 : decode cX11_layWeight 111 = .ok (.getfield 232, 3) := by decide +kernel
theorem dX11_layWeight_114 : decode cX11_layWeight 114 = .ok (.aload_n 0, 1) := by decide +kernel
theorem dX11_layWeight_115 : decode cX11_layWeight 115 = .ok (.iload 4, 2) := by decide +kernel
theorem dX11_layWeight_117 : decode cX11_layWeight 117 = .ok (.iconst 2, 1) := by decide +kernel
theorem dX11_layWeight_118 : decode cX11_layWeight 118 = .ok (.invokevirtual 196, 3) := by decide +kernel
theorem dX11_layWeight_121 : decode cX11_layWeight 121 = .ok (.ior, 1) := by decide +kernel
theorem dX11_layWeight_122 : decode cX11_layWeight 122 = .ok (.putfield 232, 3) := by decide +kernel
theorem dX11_layWeight_125 : decode cX11_layWeight 125 = .ok (.iinc 4 1, 3) := by decide +kernel
theorem dX11_layWeight_128 : decode cX11_layWeight 128 = .ok (.goto (-106), 3) := by decide +kernel
theorem dX11_layWeight_131 : decode cX11_layWeight 131 = .ok (.aload_n 0, 1) := by decide +kernel
theorem dX11_layWeight_132 : decode cX11_layWeight 132 = .ok (.iload_n 2, 1) := by decide +kernel
theorem dX11_layWeight_133 : decode cX11_layWeight 133 = .ok (.iload_n 3, 1) := by decide +kernel
theorem dX11_layWeight_134 : decode cX11_layWeight 134 = .ok (.invokestatic 105, 3) := by decide +kernel
theorem dX11_layWeight_137 : decode cX11_layWeight 137 = .ok (.putfield 238, 3) := by decide +kernel
theorem dX11_layWeight_140 : decode cX11_layWeight 140 = .ok (.return_, 1) := by decide +kernel
theorem dX11_hasOther_0 : decode cX11_hasOther 0 = .ok (.iconst 0, 1) := by decide +kernel
theorem dX11_hasOther_1 : decode cX11_hasOther 1 = .ok (.istore 4, 2) := by decide +kernel
theorem dX11_hasOther_3 : decode cX11_hasOther 3 = .ok (.iconst 0, 1) := by decide +kernel
theorem dX11_hasOther_4 : decode cX11_hasOther 4 = .ok (.istore 5, 2) := by decide +kernel
theorem dX11_hasOther_6 : decode cX11_hasOther 6 = .ok (.iload 5, 2) := by decide +kernel
theorem dX11_hasOther_8 : decode cX11_hasOther 8 = .ok (.aload_n 0, 1) := by decide +kernel
theorem dX11_hasOther_9 : decode cX11_hasOther 9 = .ok (.getfield 9, 3) := by decide +kernel
theorem dX11_hasOther_12 : decode cX11_hasOther 12 = .ok (.iconst 1, 1) := by decide +kernel
theorem dX11_hasOther_13 : decode cX11_hasOther 13 = .ok (.iaload, 1) := by decide +kernel
theorem dX11_hasOther_14 : decode cX11_hasOther 14 = .ok (.if_icmp .ge 48, 3) := by decide +kernel
theorem dX11_hasOther_17 : decode cX11_hasOther 17 = .ok (.iload 4, 2) := by decide +kernel
theorem dX11_hasOther_19 : decode cX11_hasOther 19 = .ok (.iload 5, 2) := by decide +kernel
theorem dX11_hasOther_21 : decode cX11_hasOther 21 = .ok (.iload_n 2, 1) := by decide +kernel
theorem dX11_hasOther_22 : decode cX11_hasOther 22 = .ok (.if_icmp .eq 30, 3) := by decide +kernel
theorem dX11_hasOther_25 : decode cX11_hasOther 25 = .ok (.iload_n 1, 1) := by decide +kernel
theorem dX11_hasOther_26 : decode cX11_hasOther 26 = .ok (.iload 5, 2) := by decide +kernel
theorem dX11_hasOther_28 : decode cX11_hasOther 28 = .ok (.invokestatic 223, 3) := by decide +kernel
theorem dX11_hasOther_31 : decode cX11_hasOther 31 = .ok (.ifCond .eq 21, 3) := by decide +kernel
theorem dX11_hasOther_34 : decode cX11_hasOther 34 = .ok (.aload_n 0, 1) := by decide +kernel
theorem dX11_hasOther_35 : decode cX11_hasOther 35 = .ok (.iload 5, 2) := by decide +kernel
theorem dX11_hasOther_37 : decode cX11_hasOther 37 = .ok (.iconst 2, 1) := by decide +kernel
theorem dX11_hasOther_38 : decode cX11_hasOther 38 = .ok (.invokevirtual 196, 3) := by decide +kernel
theorem dX11_hasOther_41 : decode cX11_hasOther 41 = .ok (.iload_n 3, 1) := by decide +kernel
theorem dX11_hasOther_42 : decode cX11_hasOther 42 = .ok (.invokestatic 223, 3) := by decide +kernel
theorem dX11_hasOther_45 : decode cX11_hasOther 45 = .ok (.ifCond .eq 7, 3) := by decide +kernel
theorem dX11_hasOther_48 : decode cX11_hasOther 48 = .ok (.iconst 1, 1) := by decide +kernel
theorem dX11_hasOther_49 : decode cX11_hasOther 49 = .ok (.goto 4, 3) := by decide +kernel
theorem dX11_hasOther_52 : decode cX11_hasOther 52 = .ok (.iconst 0, 1) := by decide +kernel
theorem dX11_hasOther_53 : decode cX11_hasOther 53 = .ok (.ior, 1) := by decide +kernel
theorem dX11_hasOther_54 : decode cX11_hasOther 54 = .ok (.istore 4, 2) := by decide +kernel
theorem dX11_hasOther_56 : decode cX11_hasOther 56 = .ok (.iinc 5 1, 3) := by decide +kernel
theorem dX11_hasOther_59 : decode cX11_hasOther 59 = .ok (.goto (-53), 3) := by decide +kernel
theorem dX11_hasOther_62 : decode cX11_hasOther 62 = .ok (.iload 4, 2) := by decide +kernel
theorem dX11_hasOther_64 : decode cX11_hasOther 64 = .ok (.ireturn, 1) := by decide +kernel
theorem dX11_clashes_0 : decode cX11_clashes 0 = .ok (.aload_n 0, 1) := by decide +kernel
theorem dX11_clashes_1 : decode cX11_clashes 1 = .ok (.iload_n 2, 1) := by decide +kernel
theorem dX11_clashes_2 : decode cX11_clashes 2 = .ok (.iconst 2, 1) := by decide +kernel
theorem dX11_clashes_3 : decode cX11_clashes 3 = .ok (.invokevirtual 196, 3) := by decide +kernel
theorem dX11_clashes_6 : decode cX11_clashes 6 = .ok (.istore_n 3, 1) := by decide +kernel
theorem dX11_clashes_7 : decode cX11_clashes 7 = .ok (.iload_n 3, 1) := by decide +kernel
theorem dX11_clashes_8 : decode cX11_clashes 8 = .ok (.iconst 0, 1) := by decide +kernel
theorem dX11_clashes_9 : decode cX11_clashes 9 = .ok (.invokestatic 223, 3) := by decide +kernel
theorem dX11_clashes_12 : decode cX11_clashes 12 = .ok (.ifCond .eq 13, 3) := by decide +kernel
theorem dX11_clashes_15 : decode cX11_clashes 15 = .ok (.aload_n 0, 1) := by decide +kernel
theorem dX11_clashes_16 : decode cX11_clashes 16 = .ok (.iload_n 1, 1) := by decide +kernel
theorem dX11_clashes_17 : decode cX11_clashes 17 = .ok (.iload_n 2, 1) := by decide +kernel
theorem dX11_clashes_18 : decode cX11_clashes 18 = .ok (.iconst 1, 1) := by decide +kernel
theorem dX11_clashes_19 : decode cX11_clashes 19 = .ok (.invokevirtual 241, 3) := by decide +kernel
theorem dX11_clashes_22 : decode cX11_clashes 22 = .ok (.ifCond .ne 21, 3) := by decide +kernel
theorem dX11_clashes_25 : decode cX11_clashes 25 = .ok (.iload_n 3, 1) := by decide +kernel
theorem dX11_clashes_26 : decode cX11_clashes 26 = .ok (.iconst 1, 1) := by decide +kernel
theorem dX11_clashes_27 : decode cX11_clashes 27 = .ok (.invokestatic 223, 3) := by decide +kernel
theorem dX11_clashes_30 : decode cX11_clashes 30 = .ok (.ifCond .eq 17, 3) := by decide +kernel
theorem dX11_clashes_33 : decode cX11_clashes 33 = .ok (.aload_n 0, 1) := by decide +kernel
theorem dX11_clashes_34 : decode cX11_clashes 34 = .ok (.iload_n 1, 1) := by decide +kernel
theorem dX11_clashes_35 : decode cX11_clashes 35 = .ok (.iload_n 2, 1) := by decide +kernel
theorem dX11_clashes_36 : decode cX11_clashes 36 = .ok (.iconst 0, 1) := by decide +kernel
theorem dX11_clashes_37 : decode cX11_clashes 37 = .ok (.invokevirtual 241, 3) := by decide +kernel
theorem dX11_clashes_40 : decode cX11_clashes 40 = .ok (.ifCond .eq 7, 3) := by decide +kernel
theorem dX11_clashes_43 : decode cX11_clashes 43 = .ok (.iconst 1, 1) := by decide +kernel
theorem dX11_clashes_44 : decode cX11_clashes 44 = .ok (.goto 4, 3) := by decide +kernel
theorem dX11_clashes_47 : decode cX11_clashes 47 = .ok (.iconst 0, 1) := by decide +kernel
theorem dX11_clashes_48 : decode cX11_clashes 48 = .ok (.ireturn, 1) := by decide +kernel
theorem dX11_isReason_0 : decode cX11_isReason 0 = .ok (.iload_n 2, 1) := by decide +kernel
theorem dX11_isReason_1 : decode cX11_isReason 1 = .ok (.invokestatic 244, 3) := by decide +kernel
theorem dX11_isReason_4 : decode cX11_isReason 4 = .ok (.istore 4, 2) := by decide +kernel
theorem dX11_isReason_6 : decode cX11_isReason 6 = .ok (.iload_n 1, 1) := by decide +kernel
theorem dX11_isReason_7 : decode cX11_isReason 7 = .ok (.tableswitch 131 1 5 #[33, 48, 131, 70, 93], 33) := by decide +kernel
theorem dX11_isReason_40 : decode cX11_isReason 40 = .ok (.aload_n 0, 1) := by decide +kernel
theorem dX11_isReason_41 : decode cX11_isReason 41 = .ok (.iload_n 3, 1) := by decide +kernel
theorem dX11_isReason_42 : decode cX11_isReason 42 = .ok (.iconst 4, 1) := by decide +kernel
theorem dX11_isReason_43 : decode cX11_isReason 43 = .ok (.invokevirtual 196, 3) := by decide +kernel
theorem dX11_isReason_46 : decode cX11_isReason 46 = .ok (.ifCond .ne 7, 3) := by decide +kernel
theorem dX11_isReason_49 : decode cX11_isReason 49 = .ok (.iconst 1, 1) := by decide +kernel
theorem dX11_isReason_50 : decode cX11_isReason 50 = .ok (.goto 4, 3) := by decide +kernel
theorem dX11_isReason_53 : decode cX11_isReason 53 = .ok (.iconst 0, 1) := by decide +kernel
theorem dX11_isReason_54 : decode cX11_isReason 54 = .ok (.ireturn, 1) := by decide +kernel
theorem dX11_isReason_55 : decode cX11_isReason 55 = .ok (.aload_n 0, 1) := by decide +kernel
theorem dX11_isReason_56 : decode cX11_isReason 56 = .ok (.iload_n 3, 1) := by decide +kernel
theorem dX11_isReason_57 : decode cX11_isReason 57 = .ok (.iconst 1, 1) := by decide +kernel
theorem dX11_isReason_58 : decode cX11_isReason 58 = .ok (.invokevirtual 196, 3) := by decide +kernel
theorem dX11_isReason_61 : decode cX11_isReason 61 = .ok (.aload_n 0, 1) := by decide +kernel
theorem dX11_isReason_62 : decode cX11_isReason 62 = .ok (.iload 4, 2) := by decide +kernel
theorem dX11_isReason_64 : decode cX11_isReason 64 = .ok (.iconst 1, 1) := by decide +kernel
theorem dX11_isReason_65 : decode cX11_isReason 65 = .ok (.invokevirtual 196, 3) := by decide +kernel
theorem dX11_isReason_68 : decode cX11_isReason 68 = .ok (.if_icmp .eq 7, 3) := by decide +kernel
theorem dX11_isReason_71 : decode cX11_isReason 71 = .ok (.iconst 1, 1) := by decide +kernel
theorem dX11_isReason_72 : decode cX11_isReason 72 = .ok (.goto 4, 3) := by decide +kernel
theorem dX11_isReason_75 : decode cX11_isReason 75 = .ok (.iconst 0, 1) := by decide +kernel
theorem dX11_isReason_76 : decode cX11_isReason 76 = .ok (.ireturn, 1) := by decide +kernel
theorem dX11_isReason_77 : decode cX11_isReason 77 = .ok (.aload_n 0, 1) := by decide +kernel
theorem dX11_isReason_78 : decode cX11_isReason 78 = .ok (.aload_n 0, 1) := by decide +kernel
theorem dX11_isReason_79 : decode cX11_isReason 79 = .ok (.getfield 235, 3) := by decide +kernel
theorem dX11_isReason_82 : decode cX11_isReason 82 = .ok (.aload_n 0, 1) := by decide +kernel
theorem dX11_isReason_83 : decode cX11_isReason 83 = .ok (.iload_n 3, 1) := by decide +kernel
theorem dX11_isReason_84 : decode cX11_isReason 84 = .ok (.iconst 0, 1) := by decide +kernel
theorem dX11_isReason_85 : decode cX11_isReason 85 = .ok (.invokevirtual 196, 3) := by decide +kernel
theorem dX11_isReason_88 : decode cX11_isReason 88 = .ok (.invokevirtual 92, 3) := by decide +kernel
theorem dX11_isReason_91 : decode cX11_isReason 91 = .ok (.ifCond .ne 7, 3) := by decide +kernel
theorem dX11_isReason_94 : decode cX11_isReason 94 = .ok (.iconst 1, 1) := by decide +kernel
theorem dX11_isReason_95 : decode cX11_isReason 95 = .ok (.goto 4, 3) := by decide +kernel
theorem dX11_isReason_98 : decode cX11_isReason 98 = .ok (.iconst 0, 1) := by decide +kernel
theorem dX11_isReason_99 : decode cX11_isReason 99 = .ok (.ireturn, 1) := by decide +kernel
theorem dX11_isReason_100 : decode cX11_isReason 100 = .ok (.aload_n 0, 1) := by decide +kernel
theorem dX11_isReason_101 : decode cX11_isReason 101 = .ok (.aload_n 0, 1) := by decide +kernel
theorem dX11_isReason_102 : decode cX11_isReason 102 = .ok (.getfield 235, 3) := by decide +kernel
theorem dX11_isReason_105 : decode cX11_isReason 105 = .ok (.aload_n 0, 1) := by decide +kernel
theorem dX11_isReason_106 : decode cX11_isReason 106 = .ok (.iload_n 3, 1) := by decide +kernel
theorem dX11_isReason_107 : decode cX11_isReason 107 = .ok (.iconst 0, 1) := by decide +kernel
theorem dX11_isReason_108 : decode cX11_isReason 108 = .ok (.invokevirtual 196, 3) := by decide +kernel
theorem dX11_isReason_111 : decode cX11_isReason 111 = .ok (.invokevirtual 92, 3) := by decide +kernel
theorem dX11_isReason_114 : decode cX11_isReason 114 = .ok (.aload_n 0, 1) := by decide +kernel
theorem dX11_isReason_115 : decode cX11_isReason 115 = .ok (.aload_n 0, 1) := by decide +kernel
theorem dX11_isReason_116 : decode cX11_isReason 116 = .ok (.getfield 235, 3) := by decide +kernel
theorem dX11_isReason_119 : decode cX11_isReason 119 = .ok (.aload_n 0, 1) := by decide +kernel
theorem dX11_isReason_120 : decode cX11_isReason 120 = .ok (.iload 4, 2) := by decide +kernel
theorem dX11_isReason_122 : decode cX11_isReason 122 = .ok (.iconst 0, 1) := by decide +kernel
theorem dX11_isReason_123 : decode cX11_isReason 123 = .ok (.invokevirtual 196, 3) := by decide +kernel
theorem dX11_isReason_126 : decode cX11_isReason 126 = .ok (.invokevirtual 92, 3) := by decide +kernel
theorem dX11_isReason_129 : decode cX11_isReason 129 = .ok (.if_icmp .eq 7, 3) := by decide +kernel
theorem dX11_isReason_132 : decode cX11_isReason 132 = .ok (.iconst 1, 1) := by decide +kernel
theorem dX11_isReason_133 : decode cX11_isReason 133 = .ok (.goto 4, 3) := by decide +kernel
theorem dX11_isReason_136 : decode cX11_isReason 136 = .ok (.iconst 0, 1) := by decide +kernel
theorem dX11_isReason_137 : decode cX11_isReason 137 = .ok (.ireturn, 1) := by decide +kernel
theorem dX11_isReason_138 : decode cX11_isReason 138 = .ok (.aload_n 0, 1) := by decide +kernel
theorem dX11_isReason_139 : decode cX11_isReason 139 = .ok (.iload_n 2, 1) := by decide +kernel
theorem dX11_isReason_140 : decode cX11_isReason 140 = .ok (.iload_n 3, 1) := by decide +kernel
theorem dX11_isReason_141 : decode cX11_isReason 141 = .ok (.invokevirtual 247, 3) := by decide +kernel
theorem dX11_isReason_144 : decode cX11_isReason 144 = .ok (.ireturn, 1) := by decide +kernel
theorem dX11_isFirst_0 : decode cX11_isFirst 0 = .ok (.iconst 0, 1) := by decide +kernel
theorem dX11_isFirst_1 : decode cX11_isFirst 1 = .ok (.istore_n 3, 1) := by decide +kernel
theorem dX11_isFirst_2 : decode cX11_isFirst 2 = .ok (.iload_n 3, 1) := by decide +kernel
theorem dX11_isFirst_3 : decode cX11_isFirst 3 = .ok (.aload_n 0, 1) := by decide +kernel
theorem dX11_isFirst_4 : decode cX11_isFirst 4 = .ok (.getfield 9, 3) := by decide +kernel
theorem dX11_isFirst_7 : decode cX11_isFirst 7 = .ok (.iconst 1, 1) := by decide +kernel
theorem dX11_isFirst_8 : decode cX11_isFirst 8 = .ok (.iaload, 1) := by decide +kernel
theorem dX11_isFirst_9 : decode cX11_isFirst 9 = .ok (.if_icmp .ge 34, 3) := by decide +kernel
theorem dX11_isFirst_12 : decode cX11_isFirst 12 = .ok (.iload_n 2, 1) := by decide +kernel
theorem dX11_isFirst_13 : decode cX11_isFirst 13 = .ok (.iload_n 3, 1) := by decide +kernel
theorem dX11_isFirst_14 : decode cX11_isFirst 14 = .ok (.invokestatic 223, 3) := by decide +kernel
theorem dX11_isFirst_17 : decode cX11_isFirst 17 = .ok (.ifCond .eq 20, 3) := by decide +kernel
theorem dX11_isFirst_20 : decode cX11_isFirst 20 = .ok (.aload_n 0, 1) := by decide +kernel
theorem dX11_isFirst_21 : decode cX11_isFirst 21 = .ok (.iload_n 1, 1) := by decide +kernel
theorem dX11_isFirst_22 : decode cX11_isFirst 22 = .ok (.iload_n 2, 1) := by decide +kernel
theorem dX11_isFirst_23 : decode cX11_isFirst 23 = .ok (.iload_n 3, 1) := by decide +kernel
theorem dX11_isFirst_24 : decode cX11_isFirst 24 = .ok (.invokevirtual 250, 3) := by decide +kernel
theorem dX11_isFirst_27 : decode cX11_isFirst 27 = .ok (.ifCond .eq 10, 3) := by decide +kernel
theorem dX11_isFirst_30 : decode cX11_isFirst 30 = .ok (.aload_n 0, 1) := by decide +kernel
theorem dX11_isFirst_31 : decode cX11_isFirst 31 = .ok (.iload_n 3, 1) := by decide +kernel
theorem dX11_isFirst_32 : decode cX11_isFirst 32 = .ok (.putfield 253, 3) := by decide +kernel
theorem dX11_isFirst_35 : decode cX11_isFirst 35 = .ok (.iconst 1, 1) := by decide +kernel
theorem dX11_isFirst_36 : decode cX11_isFirst 36 = .ok (.ireturn, 1) := by decide +kernel
theorem dX11_isFirst_37 : decode cX11_isFirst 37 = .ok (.iinc 3 1, 3) := by decide +kernel
theorem dX11_isFirst_40 : decode cX11_isFirst 40 = .ok (.goto (-38), 3) := by decide +kernel
theorem dX11_isFirst_43 : decode cX11_isFirst 43 = .ok (.iconst 0, 1) := by decide +kernel
theorem dX11_isFirst_44 : decode cX11_isFirst 44 = .ok (.ireturn, 1) := by decide +kernel
theorem dX11_reasonOf_0 : decode cX11_reasonOf 0 = .ok (.iload_n 1, 1) := by decide +kernel
theorem dX11_reasonOf_1 : decode cX11_reasonOf 1 = .ok (.invokestatic 244, 3) := by decide +kernel
theorem dX11_reasonOf_4 : decode cX11_reasonOf 4 = .ok (.istore_n 2, 1) := by decide +kernel
theorem dX11_reasonOf_5 : decode cX11_reasonOf 5 = .ok (.aload_n 0, 1) := by decide +kernel
theorem dX11_reasonOf_6 : decode cX11_reasonOf 6 = .ok (.iconst 1, 1) := by decide +kernel
theorem dX11_reasonOf_7 : decode cX11_reasonOf 7 = .ok (.iload_n 1, 1) := by decide +kernel
theorem dX11_reasonOf_8 : decode cX11_reasonOf 8 = .ok (.invokevirtual 256, 3) := by decide +kernel
theorem dX11_reasonOf_11 : decode cX11_reasonOf 11 = .ok (.ifCond .eq 5, 3) := by decide +kernel
theorem dX11_reasonOf_14 : decode cX11_reasonOf 14 = .ok (.iconst 1, 1) := by decide +kernel
theorem dX11_reasonOf_15 : decode cX11_reasonOf 15 = .ok (.ireturn, 1) := by decide +kernel
theorem dX11_reasonOf_16 : decode cX11_reasonOf 16 = .ok (.aload_n 0, 1) := by decide +kernel
theorem dX11_reasonOf_17 : decode cX11_reasonOf 17 = .ok (.iconst 2, 1) := by decide +kernel
theorem dX11_reasonOf_18 : decode cX11_reasonOf 18 = .ok (.iload_n 1, 1) := by decide +kernel
theorem dX11_reasonOf_19 : decode cX11_reasonOf 19 = .ok (.invokevirtual 256, 3) := by decide +kernel
theorem dX11_reasonOf_22 : decode cX11_reasonOf 22 = .ok (.ifCond .eq 5, 3) := by decide +kernel
theorem dX11_reasonOf_25 : decode cX11_reasonOf 25 = .ok (.iconst 2, 1) := by decide +kernel
theorem dX11_reasonOf_26 : decode cX11_reasonOf 26 = .ok (.ireturn, 1) := by decide +kernel
theorem dX11_reasonOf_27 : decode cX11_reasonOf 27 = .ok (.aload_n 0, 1) := by decide +kernel
theorem dX11_reasonOf_28 : decode cX11_reasonOf 28 = .ok (.aload_n 0, 1) := by decide +kernel
theorem dX11_reasonOf_29 : decode cX11_reasonOf 29 = .ok (.aload_n 0, 1) := by decide +kernel
theorem dX11_reasonOf_30 : decode cX11_reasonOf 30 = .ok (.iload_n 2, 1) := by decide +kernel
theorem dX11_reasonOf_31 : decode cX11_reasonOf 31 = .ok (.iconst 1, 1) := by decide +kernel
theorem dX11_reasonOf_32 : decode cX11_reasonOf 32 = .ok (.invokevirtual 196, 3) := by decide +kernel
theorem dX11_reasonOf_35 : decode cX11_reasonOf 35 = .ok (.invokevirtual 79, 3) := by decide +kernel
theorem dX11_reasonOf_38 : decode cX11_reasonOf 38 = .ok (.putfield 235, 3) := by decide +kernel
theorem dX11_reasonOf_41 : decode cX11_reasonOf 41 = .ok (.aload_n 0, 1) := by decide +kernel
theorem dX11_reasonOf_42 : decode cX11_reasonOf 42 = .ok (.aload_n 0, 1) := by decide +kernel
theorem dX11_reasonOf_43 : decode cX11_reasonOf 43 = .ok (.iload_n 2, 1) := by decide +kernel
theorem dX11_reasonOf_44 : decode cX11_reasonOf 44 = .ok (.iconst 1, 1) := by decide +kernel
theorem dX11_reasonOf_45 : decode cX11_reasonOf 45 = .ok (.invokevirtual 196, 3) := by decide +kernel
theorem dX11_reasonOf_48 : decode cX11_reasonOf 48 = .ok (.putfield 253, 3) := by decide +kernel
theorem dX11_reasonOf_51 : decode cX11_reasonOf 51 = .ok (.aload_n 0, 1) := by decide +kernel
theorem dX11_reasonOf_52 : decode cX11_reasonOf 52 = .ok (.getfield 235, 3) := by decide +kernel
theorem dX11_reasonOf_55 : decode cX11_reasonOf 55 = .ok (.ifCond .ge 5, 3) := by decide +kernel
theorem dX11_reasonOf_58 : decode cX11_reasonOf 58 = .ok (.iconst 3, 1) := by decide +kernel
theorem dX11_reasonOf_59 : decode cX11_reasonOf 59 = .ok (.ireturn, 1) := by decide +kernel
theorem dX11_reasonOf_60 : decode cX11_reasonOf 60 = .ok (.aload_n 0, 1) := by decide +kernel
theorem dX11_reasonOf_61 : decode cX11_reasonOf 61 = .ok (.iconst 4, 1) := by decide +kernel
theorem dX11_reasonOf_62 : decode cX11_reasonOf 62 = .ok (.iload_n 1, 1) := by decide +kernel
theorem dX11_reasonOf_63 : decode cX11_reasonOf 63 = .ok (.invokevirtual 256, 3) := by decide +kernel
theorem dX11_reasonOf_66 : decode cX11_reasonOf 66 = .ok (.ifCond .eq 5, 3) := by decide +kernel
theorem dX11_reasonOf_69 : decode cX11_reasonOf 69 = .ok (.iconst 4, 1) := by decide +kernel
theorem dX11_reasonOf_70 : decode cX11_reasonOf 70 = .ok (.ireturn, 1) := by decide +kernel
theorem dX11_reasonOf_71 : decode cX11_reasonOf 71 = .ok (.aload_n 0, 1) := by decide +kernel
theorem dX11_reasonOf_72 : decode cX11_reasonOf 72 = .ok (.iconst 5, 1) := by decide +kernel
theorem dX11_reasonOf_73 : decode cX11_reasonOf 73 = .ok (.iload_n 1, 1) := by decide +kernel
theorem dX11_reasonOf_74 : decode cX11_reasonOf 74 = .ok (.invokevirtual 256, 3) := by decide +kernel
theorem dX11_reasonOf_77 : decode cX11_reasonOf 77 = .ok (.ifCond .eq 5, 3) := by decide +kernel
theorem dX11_reasonOf_80 : decode cX11_reasonOf 80 = .ok (.iconst 5, 1) := by decide +kernel
theorem dX11_reasonOf_81 : decode cX11_reasonOf 81 = .ok (.ireturn, 1) := by decide +kernel
theorem dX11_reasonOf_82 : decode cX11_reasonOf 82 = .ok (.aload_n 0, 1) := by decide +kernel
theorem dX11_reasonOf_83 : decode cX11_reasonOf 83 = .ok (.aload_n 0, 1) := by decide +kernel
theorem dX11_reasonOf_84 : decode cX11_reasonOf 84 = .ok (.aload_n 0, 1) := by decide +kernel
theorem dX11_reasonOf_85 : decode cX11_reasonOf 85 = .ok (.getfield 235, 3) := by decide +kernel
theorem dX11_reasonOf_88 : decode cX11_reasonOf 88 = .ok (.aload_n 0, 1) := by decide +kernel
theorem dX11_reasonOf_89 : decode cX11_reasonOf 89 = .ok (.iload_n 2, 1) := by decide +kernel
theorem dX11_reasonOf_90 : decode cX11_reasonOf 90 = .ok (.iconst 0, 1) := by decide +kernel
theorem dX11_reasonOf_91 : decode cX11_reasonOf 91 = .ok (.invokevirtual 196, 3) := by decide +kernel
theorem dX11_reasonOf_94 : decode cX11_reasonOf 94 = .ok (.invokevirtual 92, 3) := by decide +kernel
theorem dX11_reasonOf_97 : decode cX11_reasonOf 97 = .ok (.putfield 259, 3) := by decide +kernel
theorem dX11_reasonOf_100 : decode cX11_reasonOf 100 = .ok (.aload_n 0, 1) := by decide +kernel
theorem dX11_reasonOf_101 : decode cX11_reasonOf 101 = .ok (.aload_n 0, 1) := by decide +kernel
theorem dX11_reasonOf_102 : decode cX11_reasonOf 102 = .ok (.getfield 259, 3) := by decide +kernel
theorem dX11_reasonOf_105 : decode cX11_reasonOf 105 = .ok (.putfield 253, 3) := by decide +kernel
theorem dX11_reasonOf_108 : decode cX11_reasonOf 108 = .ok (.aload_n 0, 1) := by decide +kernel
theorem dX11_reasonOf_109 : decode cX11_reasonOf 109 = .ok (.aload_n 0, 1) := by decide +kernel
theorem dX11_reasonOf_110 : decode cX11_reasonOf 110 = .ok (.getfield 235, 3) := by decide +kernel
theorem dX11_reasonOf_113 : decode cX11_reasonOf 113 = .ok (.aload_n 0, 1) := by decide +kernel
theorem dX11_reasonOf_114 : decode cX11_reasonOf 114 = .ok (.getfield 259, 3) := by decide +kernel
theorem dX11_reasonOf_117 : decode cX11_reasonOf 117 = .ok (.invokevirtual 95, 3) := by decide +kernel
theorem dX11_reasonOf_120 : decode cX11_reasonOf 120 = .ok (.ifCond .ne 6, 3) := by decide +kernel
theorem dX11_reasonOf_123 : decode cX11_reasonOf 123 = .ok (.bipush 6, 2) := by decide +kernel
theorem dX11_reasonOf_125 : decode cX11_reasonOf 125 = .ok (.ireturn, 1) := by decide +kernel
theorem dX11_reasonOf_126 : decode cX11_reasonOf 126 = .ok (.aload_n 0, 1) := by decide +kernel
theorem dX11_reasonOf_127 : decode cX11_reasonOf 127 = .ok (.iload_n 1, 1) := by decide +kernel
theorem dX11_reasonOf_128 : decode cX11_reasonOf 128 = .ok (.invokevirtual 262, 3) := by decide +kernel
theorem dX11_reasonOf_131 : decode cX11_reasonOf 131 = .ok (.aload_n 0, 1) := by decide +kernel
theorem dX11_reasonOf_132 : decode cX11_reasonOf 132 = .ok (.aload_n 0, 1) := by decide +kernel
theorem dX11_reasonOf_133 : decode cX11_reasonOf 133 = .ok (.getfield 238, 3) := by decide +kernel
theorem dX11_reasonOf_136 : decode cX11_reasonOf 136 = .ok (.putfield 253, 3) := by decide +kernel
theorem dX11_reasonOf_139 : decode cX11_reasonOf 139 = .ok (.iload_n 1, 1) := by decide +kernel
theorem dX11_reasonOf_140 : decode cX11_reasonOf 140 = .ok (.invokestatic 265, 3) := by decide +kernel
theorem dX11_reasonOf_143 : decode cX11_reasonOf 143 = .ok (.iconst 1, 1) := by decide +kernel
theorem dX11_reasonOf_144 : decode cX11_reasonOf 144 = .ok (.if_icmp .le 29, 3) := by decide +kernel
theorem dX11_reasonOf_147 : decode cX11_reasonOf 147 = .ok (.aload_n 0, 1) := by decide +kernel
theorem dX11_reasonOf_148 : decode cX11_reasonOf 148 = .ok (.getfield 238, 3) := by decide +kernel
theorem dX11_reasonOf_151 : decode cX11_reasonOf 151 = .ok (.aload_n 0, 1) := by decide +kernel
theorem dX11_reasonOf_152 : decode cX11_reasonOf 152 = .ok (.getfield 9, 3) := by decide +kernel
theorem dX11_reasonOf_155 : decode cX11_reasonOf 155 = .ok (.aload_n 0, 1) := by decide +kernel
theorem dX11_reasonOf_156 : decode cX11_reasonOf 156 = .ok (.getfield 235, 3) := by decide +kernel
theorem dX11_reasonOf_159 : decode cX11_reasonOf 159 = .ok (.invokestatic 64, 3) := by decide +kernel
theorem dX11_reasonOf_162 : decode cX11_reasonOf 162 = .ok (.sipush 149, 3) := by decide +kernel
theorem dX11_reasonOf_165 : decode cX11_reasonOf 165 = .ok (.iadd, 1) := by decide +kernel
theorem dX11_reasonOf_166 : decode cX11_reasonOf 166 = .ok (.iaload, 1) := by decide +kernel
theorem dX11_reasonOf_167 : decode cX11_reasonOf 167 = .ok (.if_icmp .le 6, 3) := by decide +kernel
theorem dX11_reasonOf_170 : decode cX11_reasonOf 170 = .ok (.bipush 7, 2) := by decide +kernel
theorem dX11_reasonOf_172 : decode cX11_reasonOf 172 = .ok (.ireturn, 1) := by decide +kernel
theorem dX11_reasonOf_173 : decode cX11_reasonOf 173 = .ok (.aload_n 0, 1) := by decide +kernel
theorem dX11_reasonOf_174 : decode cX11_reasonOf 174 = .ok (.bipush 8, 2) := by decide +kernel
theorem dX11_reasonOf_176 : decode cX11_reasonOf 176 = .ok (.iload_n 1, 1) := by decide +kernel
theorem dX11_reasonOf_177 : decode cX11_reasonOf 177 = .ok (.invokevirtual 256, 3) := by decide +kernel
theorem dX11_reasonOf_180 : decode cX11_reasonOf 180 = .ok (.ifCond .eq 8, 3) := by decide +kernel
theorem dX11_reasonOf_183 : decode cX11_reasonOf 183 = .ok (.bipush 8, 2) := by decide +kernel
theorem dX11_reasonOf_185 : decode cX11_reasonOf 185 = .ok (.goto 4, 3) := by decide +kernel
theorem dX11_reasonOf_188 : decode cX11_reasonOf 188 = .ok (.iconst 0, 1) := by decide +kernel
theorem dX11_reasonOf_189 : decode cX11_reasonOf 189 = .ok (.ireturn, 1) := by decide +kernel
theorem dX11_isTrue_0 : decode cX11_isTrue 0 = .ok (.iload_n 1, 1) := by decide +kernel
theorem dX11_isTrue_1 : decode cX11_isTrue 1 = .ok (.sipush 10000, 3) := by decide +kernel
theorem dX11_isTrue_4 : decode cX11_isTrue 4 = .ok (.irem, 1) := by decide +kernel
theorem dX11_isTrue_5 : decode cX11_isTrue 5 = .ok (.istore_n 2, 1) := by decide +kernel
theorem dX11_isTrue_6 : decode cX11_isTrue 6 = .ok (.iload_n 1, 1) := by decide +kernel
theorem dX11_isTrue_7 : decode cX11_isTrue 7 = .ok (.sipush 10000, 3) := by decide +kernel
theorem dX11_isTrue_10 : decode cX11_isTrue 10 = .ok (.idiv, 1) := by decide +kernel
theorem dX11_isTrue_11 : decode cX11_isTrue 11 = .ok (.iconst 3, 1) := by decide +kernel
theorem dX11_isTrue_12 : decode cX11_isTrue 12 = .ok (.irem, 1) := by decide +kernel
theorem dX11_isTrue_13 : decode cX11_isTrue 13 = .ok (.istore_n 3, 1) := by decide +kernel
theorem dX11_isTrue_14 : decode cX11_isTrue 14 = .ok (.iload_n 1, 1) := by decide +kernel
theorem dX11_isTrue_15 : decode cX11_isTrue 15 = .ok (.sipush 30000, 3) := by decide +kernel
theorem dX11_isTrue_18 : decode cX11_isTrue 18 = .ok (.idiv, 1) := by decide +kernel
theorem dX11_isTrue_19 : decode cX11_isTrue 19 = .ok (.iconst 5, 1) := by decide +kernel
theorem dX11_isTrue_20 : decode cX11_isTrue 20 = .ok (.irem, 1) := by decide +kernel
theorem dX11_isTrue_21 : decode cX11_isTrue 21 = .ok (.istore 4, 2) := by decide +kernel
theorem dX11_isTrue_23 : decode cX11_isTrue 23 = .ok (.iload_n 1, 1) := by decide +kernel
theorem dX11_isTrue_24 : decode cX11_isTrue 24 = .ok (.ldc_w 268, 3) := by decide +kernel
theorem dX11_isTrue_27 : decode cX11_isTrue 27 = .ok (.idiv, 1) := by decide +kernel
theorem dX11_isTrue_28 : decode cX11_isTrue 28 = .ok (.iconst 2, 1) := by decide +kernel
theorem dX11_isTrue_29 : decode cX11_isTrue 29 = .ok (.irem, 1) := by decide +kernel
theorem dX11_isTrue_30 : decode cX11_isTrue 30 = .ok (.iconst 1, 1) := by decide +kernel
theorem dX11_isTrue_31 : decode cX11_isTrue 31 = .ok (.if_icmp .ne 7, 3) := by decide +kernel
theorem dX11_isTrue_34 : decode cX11_isTrue 34 = .ok (.iconst 1, 1) := by decide +kernel
theorem dX11_isTrue_35 : decode cX11_isTrue 35 = .ok (.goto 4, 3) := by decide +kernel
theorem dX11_isTrue_38 : decode cX11_isTrue 38 = .ok (.iconst 0, 1) := by decide +kernel
theorem dX11_isTrue_39 : decode cX11_isTrue 39 = .ok (.istore 5, 2) := by decide +kernel
theorem dX11_isTrue_41 : decode cX11_isTrue 41 = .ok (.iload 4, 2) := by decide +kernel
theorem dX11_isTrue_43 : decode cX11_isTrue 43 = .ok (.iconst 1, 1) := by decide +kernel
theorem dX11_isTrue_44 : decode cX11_isTrue 44 = .ok (.if_icmp .ne 10, 3) := by decide +kernel
theorem dX11_isTrue_47 : decode cX11_isTrue 47 = .ok (.aload_n 0, 1) := by decide +kernel
theorem dX11_isTrue_48 : decode cX11_isTrue 48 = .ok (.getfield 238, 3) := by decide +kernel
theorem dX11_isTrue_51 : decode cX11_isTrue 51 = .ok (.goto 33, 3) := by decide +kernel
theorem dX11_isTrue_54 : decode cX11_isTrue 54 = .ok (.iload 4, 2) := by decide +kernel
theorem dX11_isTrue_56 : decode cX11_isTrue 56 = .ok (.iconst 2, 1) := by decide +kernel
theorem dX11_isTrue_57 : decode cX11_isTrue 57 = .ok (.if_icmp .ne 10, 3) := by decide +kernel
theorem dX11_isTrue_60 : decode cX11_isTrue 60 = .ok (.aload_n 0, 1) := by decide +kernel
theorem dX11_isTrue_61 : decode cX11_isTrue 61 = .ok (.getfield 226, 3) := by decide +kernel
theorem dX11_isTrue_64 : decode cX11_isTrue 64 = .ok (.goto 20, 3) := by decide +kernel
theorem dX11_isTrue_67 : decode cX11_isTrue 67 = .ok (.iload 4, 2) := by decide +kernel
theorem dX11_isTrue_69 : decode cX11_isTrue 69 = .ok (.iconst 3, 1) := by decide +kernel
theorem dX11_isTrue_70 : decode cX11_isTrue 70 = .ok (.if_icmp .ne 10, 3) := by decide +kernel
theorem dX11_isTrue_73 : decode cX11_isTrue 73 = .ok (.aload_n 0, 1) := by decide +kernel
theorem dX11_isTrue_74 : decode cX11_isTrue 74 = .ok (.getfield 229, 3) := by decide +kernel
theorem dX11_isTrue_77 : decode cX11_isTrue 77 = .ok (.goto 7, 3) := by decide +kernel
theorem dX11_isTrue_80 : decode cX11_isTrue 80 = .ok (.aload_n 0, 1) := by decide +kernel
theorem dX11_isTrue_81 : decode cX11_isTrue 81 = .ok (.getfield 259, 3) := by decide +kernel
theorem dX11_isTrue_84 : decode cX11_isTrue 84 = .ok (.istore 6, 2) := by decide +kernel
theorem dX11_isTrue_86 : decode cX11_isTrue 86 = .ok (.iload 4, 2) := by decide +kernel
theorem dX11_isTrue_88 : decode cX11_isTrue 88 = .ok (.ifCond .ne 14, 3) := by decide +kernel
theorem dX11_isTrue_91 : decode cX11_isTrue 91 = .ok (.aload_n 0, 1) := by decide +kernel
theorem dX11_isTrue_92 : decode cX11_isTrue 92 = .ok (.getfield 232, 3) := by decide +kernel
theorem dX11_isTrue_95 : decode cX11_isTrue 95 = .ok (.iload_n 2, 1) := by decide +kernel
theorem dX11_isTrue_96 : decode cX11_isTrue 96 = .ok (.invokestatic 223, 3) := by decide +kernel
theorem dX11_isTrue_99 : decode cX11_isTrue 99 = .ok (.goto 51, 3) := by decide +kernel
theorem dX11_isTrue_102 : decode cX11_isTrue 102 = .ok (.iload_n 3, 1) := by decide +kernel
theorem dX11_isTrue_103 : decode cX11_isTrue 103 = .ok (.ifCond .ne 17, 3) := by decide +kernel
theorem dX11_isTrue_106 : decode cX11_isTrue 106 = .ok (.iload 6, 2) := by decide +kernel
theorem dX11_isTrue_108 : decode cX11_isTrue 108 = .ok (.iload_n 2, 1) := by decide +kernel
theorem dX11_isTrue_109 : decode cX11_isTrue 109 = .ok (.if_icmp .ge 7, 3) := by decide +kernel
theorem dX11_isTrue_112 : decode cX11_isTrue 112 = .ok (.iconst 1, 1) := by decide +kernel
theorem dX11_isTrue_113 : decode cX11_isTrue 113 = .ok (.goto 37, 3) := by decide +kernel
theorem dX11_isTrue_116 : decode cX11_isTrue 116 = .ok (.iconst 0, 1) := by decide +kernel
theorem dX11_isTrue_117 : decode cX11_isTrue 117 = .ok (.goto 33, 3) := by decide +kernel
theorem dX11_isTrue_120 : decode cX11_isTrue 120 = .ok (.iload_n 3, 1) := by decide +kernel
theorem dX11_isTrue_121 : decode cX11_isTrue 121 = .ok (.iconst 1, 1) := by decide +kernel
theorem dX11_isTrue_122 : decode cX11_isTrue 122 = .ok (.if_icmp .ne 17, 3) := by decide +kernel
theorem dX11_isTrue_125 : decode cX11_isTrue 125 = .ok (.iload 6, 2) := by decide +kernel
theorem dX11_isTrue_127 : decode cX11_isTrue 127 = .ok (.iload_n 2, 1) := by decide +kernel
theorem dX11_isTrue_128 : decode cX11_isTrue 128 = .ok (.if_icmp .le 7, 3) := by decide +kernel
theorem dX11_isTrue_131 : decode cX11_isTrue 131 = .ok (.iconst 1, 1) := by decide +kernel
theorem dX11_isTrue_132 : decode cX11_isTrue 132 = .ok (.goto 18, 3) := by decide +kernel
theorem dX11_isTrue_135 : decode cX11_isTrue 135 = .ok (.iconst 0, 1) := by decide +kernel
theorem dX11_isTrue_136 : decode cX11_isTrue 136 = .ok (.goto 14, 3) := by decide +kernel
theorem dX11_isTrue_139 : decode cX11_isTrue 139 = .ok (.iload 6, 2) := by decide +kernel
theorem dX11_isTrue_141 : decode cX11_isTrue 141 = .ok (.iload_n 2, 1) := by decide +kernel
theorem dX11_isTrue_142 : decode cX11_isTrue 142 = .ok (.if_icmp .ne 7, 3) := by decide +kernel
theorem dX11_isTrue_145 : decode cX11_isTrue 145 = .ok (.iconst 1, 1) := by decide +kernel
theorem dX11_isTrue_146 : decode cX11_isTrue 146 = .ok (.goto 4, 3) := by decide +kernel
theorem dX11_isTrue_149 : decode cX11_isTrue 149 = .ok (.iconst 0, 1) := by decide +kernel
theorem dX11_isTrue_150 : decode cX11_isTrue 150 = .ok (.istore 7, 2) := by decide +kernel
theorem dX11_isTrue_152 : decode cX11_isTrue 152 = .ok (.iload 7, 2) := by decide +kernel
theorem dX11_isTrue_154 : decode cX11_isTrue 154 = .ok (.iload 5, 2) := by decide +kernel
theorem dX11_isTrue_156 : decode cX11_isTrue 156 = .ok (.if_icmp .eq 7, 3) := by decide +kernel
theorem dX11_isTrue_159 : decode cX11_isTrue 159 = .ok (.iconst 1, 1) := by decide +kernel
theorem dX11_isTrue_160 : decode cX11_isTrue 160 = .ok (.goto 4, 3) := by decide +kernel
theorem dX11_isTrue_163 : decode cX11_isTrue 163 = .ok (.iconst 0, 1) := by decide +kernel
theorem dX11_isTrue_164 : decode cX11_isTrue 164 = .ok (.ireturn, 1) := by decide +kernel
theorem dX11_holds_0 : decode cX11_holds 0 = .ok (.aload_n 0, 1) := by decide +kernel
theorem dX11_holds_1 : decode cX11_holds 1 = .ok (.getfield 9, 3) := by decide +kernel
theorem dX11_holds_4 : decode cX11_holds 4 = .ok (.iload_n 1, 1) := by decide +kernel
theorem dX11_holds_5 : decode cX11_holds 5 = .ok (.iconst 3, 1) := by decide +kernel
theorem dX11_holds_6 : decode cX11_holds 6 = .ok (.iadd, 1) := by decide +kernel
theorem dX11_holds_7 : decode cX11_holds 7 = .ok (.iaload, 1) := by decide +kernel
theorem dX11_holds_8 : decode cX11_holds 8 = .ok (.ifCond .ne 7, 3) := by decide +kernel
theorem dX11_holds_11 : decode cX11_holds 11 = .ok (.iconst 1, 1) := by decide +kernel
theorem dX11_holds_12 : decode cX11_holds 12 = .ok (.goto 4, 3) := by decide +kernel
theorem dX11_holds_15 : decode cX11_holds 15 = .ok (.iconst 0, 1) := by decide +kernel
theorem dX11_holds_16 : decode cX11_holds 16 = .ok (.istore_n 2, 1) := by decide +kernel
theorem dX11_holds_17 : decode cX11_holds 17 = .ok (.iconst 0, 1) := by decide +kernel
theorem dX11_holds_18 : decode cX11_holds 18 = .ok (.istore_n 3, 1) := by decide +kernel
theorem dX11_holds_19 : decode cX11_holds 19 = .ok (.iload_n 3, 1) := by decide +kernel
theorem dX11_holds_20 : decode cX11_holds 20 = .ok (.aload_n 0, 1) := by decide +kernel
theorem dX11_holds_21 : decode cX11_holds 21 = .ok (.getfield 9, 3) := by decide +kernel
theorem dX11_holds_24 : decode cX11_holds 24 = .ok (.iload_n 1, 1) := by decide +kernel
theorem dX11_holds_25 : decode cX11_holds 25 = .ok (.iconst 3, 1) := by decide +kernel
theorem dX11_holds_26 : decode cX11_holds 26 = .ok (.iadd, 1) := by decide +kernel
theorem dX11_holds_27 : decode cX11_holds 27 = .ok (.iaload, 1) := by decide +kernel
theorem dX11_holds_28 : decode cX11_holds 28 = .ok (.if_icmp .ge 82, 3) := by decide +kernel
theorem dX11_holds_31 : decode cX11_holds 31 = .ok (.iconst 1, 1) := by decide +kernel
theorem dX11_holds_32 : decode cX11_holds 32 = .ok (.istore 4, 2) := by decide +kernel
theorem dX11_holds_34 : decode cX11_holds 34 = .ok (.iconst 0, 1) := by decide +kernel
theorem dX11_holds_35 : decode cX11_holds 35 = .ok (.istore 5, 2) := by decide +kernel
theorem dX11_holds_37 : decode cX11_holds 37 = .ok (.iload 5, 2) := by decide +kernel
theorem dX11_holds_39 : decode cX11_holds 39 = .ok (.aload_n 0, 1) := by decide +kernel
theorem dX11_holds_40 : decode cX11_holds 40 = .ok (.getfield 9, 3) := by decide +kernel
theorem dX11_holds_43 : decode cX11_holds 43 = .ok (.iload_n 1, 1) := by decide +kernel
theorem dX11_holds_44 : decode cX11_holds 44 = .ok (.iconst 4, 1) := by decide +kernel
theorem dX11_holds_45 : decode cX11_holds 45 = .ok (.iadd, 1) := by decide +kernel
theorem dX11_holds_46 : decode cX11_holds 46 = .ok (.iaload, 1) := by decide +kernel
theorem dX11_holds_47 : decode cX11_holds 47 = .ok (.if_icmp .ge 52, 3) := by decide +kernel
theorem dX11_holds_50 : decode cX11_holds 50 = .ok (.aload_n 0, 1) := by decide +kernel
theorem dX11_holds_51 : decode cX11_holds 51 = .ok (.getfield 9, 3) := by decide +kernel
theorem dX11_holds_54 : decode cX11_holds 54 = .ok (.iload_n 1, 1) := by decide +kernel
theorem dX11_holds_55 : decode cX11_holds 55 = .ok (.bipush 6, 2) := by decide +kernel
theorem dX11_holds_57 : decode cX11_holds 57 = .ok (.iadd, 1) := by decide +kernel
theorem dX11_holds_58 : decode cX11_holds 58 = .ok (.iload 5, 2) := by decide +kernel
theorem dX11_holds_60 : decode cX11_holds 60 = .ok (.iadd, 1) := by decide +kernel
theorem dX11_holds_61 : decode cX11_holds 61 = .ok (.iaload, 1) := by decide +kernel
theorem dX11_holds_62 : decode cX11_holds 62 = .ok (.istore 6, 2) := by decide +kernel
theorem dX11_holds_64 : decode cX11_holds 64 = .ok (.iload 4, 2) := by decide +kernel
theorem dX11_holds_66 : decode cX11_holds 66 = .ok (.iload 6, 2) := by decide +kernel
theorem dX11_holds_68 : decode cX11_holds 68 = .ok (.ldc_w 269, 3) := by decide +kernel
theorem dX11_holds_71 : decode cX11_holds 71 = .ok (.idiv, 1) := by decide +kernel
theorem dX11_holds_72 : decode cX11_holds 72 = .ok (.iload_n 3, 1) := by decide +kernel
theorem dX11_holds_73 : decode cX11_holds 73 = .ok (.if_icmp .ne 12, 3) := by decide +kernel
theorem dX11_holds_76 : decode cX11_holds 76 = .ok (.aload_n 0, 1) := by decide +kernel
theorem dX11_holds_77 : decode cX11_holds 77 = .ok (.iload 6, 2) := by decide +kernel
theorem dX11_holds_79 : decode cX11_holds 79 = .ok (.invokevirtual 270, 3) := by decide +kernel
theorem dX11_holds_82 : decode cX11_holds 82 = .ok (.ifCond .eq 7, 3) := by decide +kernel
theorem dX11_holds_85 : decode cX11_holds 85 = .ok (.iconst 1, 1) := by decide +kernel
theorem dX11_holds_86 : decode cX11_holds 86 = .ok (.goto 4, 3) := by decide +kernel
theorem dX11_holds_89 : decode cX11_holds 89 = .ok (.iconst 0, 1) := by decide +kernel
theorem dX11_holds_90 : decode cX11_holds 90 = .ok (.iand, 1) := by decide +kernel
theorem dX11_holds_91 : decode cX11_holds 91 = .ok (.istore 4, 2) := by decide +kernel
theorem dX11_holds_93 : decode cX11_holds 93 = .ok (.iinc 5 1, 3) := by decide +kernel
theorem dX11_holds_96 : decode cX11_holds 96 = .ok (.goto (-59), 3) := by decide +kernel
theorem dX11_holds_99 : decode cX11_holds 99 = .ok (.iload_n 2, 1) := by decide +kernel
theorem dX11_holds_100 : decode cX11_holds 100 = .ok (.iload 4, 2) := by decide +kernel
theorem dX11_holds_102 : decode cX11_holds 102 = .ok (.ior, 1) := by decide +kernel
theorem dX11_holds_103 : decode cX11_holds 103 = .ok (.istore_n 2, 1) := by decide +kernel
theorem dX11_holds_104 : decode cX11_holds 104 = .ok (.iinc 3 1, 3) := by decide +kernel
theorem dX11_holds_107 : decode cX11_holds 107 = .ok (.goto (-88), 3) := by decide +kernel
theorem dX11_holds_110 : decode cX11_holds 110 = .ok (.iload_n 2, 1) := by decide +kernel
theorem dX11_holds_111 : decode cX11_holds 111 = .ok (.ireturn, 1) := by decide +kernel
theorem dX11_percent_0 : decode cX11_percent 0 = .ok (.iload_n 0, 1) := by decide +kernel
theorem dX11_percent_1 : decode cX11_percent 1 = .ok (.i2l, 1) := by decide +kernel
theorem dX11_percent_2 : decode cX11_percent 2 = .ok (.iload_n 1, 1) := by decide +kernel
theorem dX11_percent_3 : decode cX11_percent 3 = .ok (.i2l, 1) := by decide +kernel
theorem dX11_percent_4 : decode cX11_percent 4 = .ok (.lmul, 1) := by decide +kernel
theorem dX11_percent_5 : decode cX11_percent 5 = .ok (.ldc2_w 273, 3) := by decide +kernel
theorem dX11_percent_8 : decode cX11_percent 8 = .ok (.ladd, 1) := by decide +kernel
theorem dX11_percent_9 : decode cX11_percent 9 = .ok (.ldc2_w 275, 3) := by decide +kernel
theorem dX11_percent_12 : decode cX11_percent 12 = .ok (.ldiv, 1) := by decide +kernel
theorem dX11_percent_13 : decode cX11_percent 13 = .ok (.l2i, 1) := by decide +kernel
theorem dX11_percent_14 : decode cX11_percent 14 = .ok (.ireturn, 1) := by decide +kernel
theorem dX11_totalOf_0 : decode cX11_totalOf 0 = .ok (.aload_n 0, 1) := by decide +kernel
theorem dX11_totalOf_1 : decode cX11_totalOf 1 = .ok (.aload_n 0, 1) := by decide +kernel
theorem dX11_totalOf_2 : decode cX11_totalOf 2 = .ok (.aload_n 0, 1) := by decide +kernel
theorem dX11_totalOf_3 : decode cX11_totalOf 3 = .ok (.getfield 235, 3) := by decide +kernel
theorem dX11_totalOf_6 : decode cX11_totalOf 6 = .ok (.aload_n 0, 1) := by decide +kernel
theorem dX11_totalOf_7 : decode cX11_totalOf 7 = .ok (.getfield 259, 3) := by decide +kernel
theorem dX11_totalOf_10 : decode cX11_totalOf 10 = .ok (.aload_n 0, 1) := by decide +kernel
theorem dX11_totalOf_11 : decode cX11_totalOf 11 = .ok (.getfield 238, 3) := by decide +kernel
theorem dX11_totalOf_14 : decode cX11_totalOf 14 = .ok (.invokevirtual 118, 3) := by decide +kernel
theorem dX11_totalOf_17 : decode cX11_totalOf 17 = .ok (.putfield 277, 3) := by decide +kernel
theorem dX11_totalOf_20 : decode cX11_totalOf 20 = .ok (.aload_n 0, 1) := by decide +kernel
theorem dX11_totalOf_21 : decode cX11_totalOf 21 = .ok (.iconst 0, 1) := by decide +kernel
theorem dX11_totalOf_22 : decode cX11_totalOf 22 = .ok (.putfield 280, 3) := by decide +kernel
theorem dX11_totalOf_25 : decode cX11_totalOf 25 = .ok (.aload_n 0, 1) := by decide +kernel
theorem dX11_totalOf_26 : decode cX11_totalOf 26 = .ok (.iconst 0, 1) := by decide +kernel
theorem dX11_totalOf_27 : decode cX11_totalOf 27 = .ok (.putfield 283, 3) := by decide +kernel
theorem dX11_totalOf_30 : decode cX11_totalOf 30 = .ok (.iconst 0, 1) := by decide +kernel
theorem dX11_totalOf_31 : decode cX11_totalOf 31 = .ok (.istore_n 2, 1) := by decide +kernel
theorem dX11_totalOf_32 : decode cX11_totalOf 32 = .ok (.iconst 0, 1) := by decide +kernel
theorem dX11_totalOf_33 : decode cX11_totalOf 33 = .ok (.istore_n 3, 1) := by decide +kernel
theorem dX11_totalOf_34 : decode cX11_totalOf 34 = .ok (.iload_n 3, 1) := by decide +kernel
theorem dX11_totalOf_35 : decode cX11_totalOf 35 = .ok (.bipush 10, 2) := by decide +kernel
theorem dX11_totalOf_37 : decode cX11_totalOf 37 = .ok (.if_icmp .ge 159, 3) := by decide +kernel
theorem dX11_totalOf_40 : decode cX11_totalOf 40 = .ok (.aload_n 0, 1) := by decide +kernel
theorem dX11_totalOf_41 : decode cX11_totalOf 41 = .ok (.getfield 235, 3) := by decide +kernel
theorem dX11_totalOf_44 : decode cX11_totalOf 44 = .ok (.iload_n 3, 1) := by decide +kernel
theorem dX11_totalOf_45 : decode cX11_totalOf 45 = .ok (.invokestatic 82, 3) := by decide +kernel
theorem dX11_totalOf_48 : decode cX11_totalOf 48 = .ok (.istore 4, 2) := by decide +kernel
theorem dX11_totalOf_50 : decode cX11_totalOf 50 = .ok (.aload_n 0, 1) := by decide +kernel
theorem dX11_totalOf_51 : decode cX11_totalOf 51 = .ok (.getfield 9, 3) := by decide +kernel
theorem dX11_totalOf_54 : decode cX11_totalOf 54 = .ok (.iload 4, 2) := by decide +kernel
theorem dX11_totalOf_56 : decode cX11_totalOf 56 = .ok (.iaload, 1) := by decide +kernel
theorem dX11_totalOf_57 : decode cX11_totalOf 57 = .ok (.iconst 1, 1) := by decide +kernel
theorem dX11_totalOf_58 : decode cX11_totalOf 58 = .ok (.if_icmp .ne 132, 3) := by decide +kernel
theorem dX11_totalOf_61 : decode cX11_totalOf 61 = .ok (.iload_n 2, 1) := by decide +kernel
theorem dX11_totalOf_62 : decode cX11_totalOf 62 = .ok (.iload_n 3, 1) := by decide +kernel
theorem dX11_totalOf_63 : decode cX11_totalOf 63 = .ok (.invokestatic 223, 3) := by decide +kernel
theorem dX11_totalOf_66 : decode cX11_totalOf 66 = .ok (.ifCond .ne 124, 3) := by decide +kernel
theorem dX11_totalOf_69 : decode cX11_totalOf 69 = .ok (.aload_n 0, 1) := by decide +kernel
theorem dX11_totalOf_70 : decode cX11_totalOf 70 = .ok (.iload 4, 2) := by decide +kernel
theorem dX11_totalOf_72 : decode cX11_totalOf 72 = .ok (.invokevirtual 286, 3) := by decide +kernel
theorem dX11_totalOf_75 : decode cX11_totalOf 75 = .ok (.ifCond .eq 115, 3) := by decide +kernel
theorem dX11_totalOf_78 : decode cX11_totalOf 78 = .ok (.aload_n 0, 1) := by decide +kernel
theorem dX11_totalOf_79 : decode cX11_totalOf 79 = .ok (.dup, 1) := by decide +kernel
theorem dX11_totalOf_80 : decode cX11_totalOf 80 = .ok (.getfield 283, 3) := by decide +kernel
theorem dX11_totalOf_83 : decode cX11_totalOf 83 = .ok (.iconst 1, 1) := by decide +kernel
theorem dX11_totalOf_84 : decode cX11_totalOf 84 = .ok (.iload_n 3, 1) := by decide +kernel
theorem dX11_totalOf_85 : decode cX11_totalOf 85 = .ok (.ishl, 1) := by decide +kernel
theorem dX11_totalOf_86 : decode cX11_totalOf 86 = .ok (.ior, 1) := by decide +kernel
theorem dX11_totalOf_87 : decode cX11_totalOf 87 = .ok (.putfield 283, 3) := by decide +kernel
theorem dX11_totalOf_90 : decode cX11_totalOf 90 = .ok (.iload_n 2, 1) := by decide +kernel
theorem dX11_totalOf_91 : decode cX11_totalOf 91 = .ok (.aload_n 0, 1) := by decide +kernel
theorem dX11_totalOf_92 : decode cX11_totalOf 92 = .ok (.getfield 9, 3) := by decide +kernel
theorem dX11_totalOf_95 : decode cX11_totalOf 95 = .ok (.iload 4, 2) := by decide +kernel
theorem dX11_totalOf_97 : decode cX11_totalOf 97 = .ok (.iconst 5, 1) := by decide +kernel
theorem dX11_totalOf_98 : decode cX11_totalOf 98 = .ok (.iadd, 1) := by decide +kernel
theorem dX11_totalOf_99 : decode cX11_totalOf 99 = .ok (.iaload, 1) := by decide +kernel
theorem dX11_totalOf_100 : decode cX11_totalOf 100 = .ok (.iload_n 3, 1) := by decide +kernel
theorem dX11_totalOf_101 : decode cX11_totalOf 101 = .ok (.if_icmp .le 17, 3) := by decide +kernel
theorem dX11_totalOf_104 : decode cX11_totalOf 104 = .ok (.iconst 1, 1) := by decide +kernel
theorem dX11_totalOf_105 : decode cX11_totalOf 105 = .ok (.aload_n 0, 1) := by decide +kernel
theorem dX11_totalOf_106 : decode cX11_totalOf 106 = .ok (.getfield 9, 3) := by decide +kernel
theorem dX11_totalOf_109 : decode cX11_totalOf 109 = .ok (.iload 4, 2) := by decide +kernel
theorem dX11_totalOf_111 : decode cX11_totalOf 111 = .ok (.iconst 5, 1) := by decide +kernel
theorem dX11_totalOf_112 : decode cX11_totalOf 112 = .ok (.iadd, 1) := by decide +kernel
theorem dX11_totalOf_113 : decode cX11_totalOf 113 = .ok (.iaload, 1) := by decide +kernel
theorem dX11_totalOf_114 : decode cX11_totalOf 114 = .ok (.ishl, 1) := by decide +kernel
theorem dX11_totalOf_115 : decode cX11_totalOf 115 = .ok (.goto 4, 3) := by decide +kernel
theorem dX11_totalOf_118 : decode cX11_totalOf 118 = .ok (.iconst 0, 1) := by decide +kernel
theorem dX11_totalOf_119 : decode cX11_totalOf 119 = .ok (.ior, 1) := by decide +kernel
theorem dX11_totalOf_120 : decode cX11_totalOf 120 = .ok (.istore_n 2, 1) := by decide +kernel
theorem dX11_totalOf_121 : decode cX11_totalOf 121 = .ok (.aload_n 0, 1) := by decide +kernel
theorem dX11_totalOf_122 : decode cX11_totalOf 122 = .ok (.getfield 9, 3) := by decide +kernel
theorem dX11_totalOf_125 : decode cX11_totalOf 125 = .ok (.iload 4, 2) := by decide +kernel
theorem dX11_totalOf_127 : decode cX11_totalOf 127 = .ok (.iconst 1, 1) := by decide +kernel
theorem dX11_totalOf_128 : decode cX11_totalOf 128 = .ok (.iadd, 1) := by decide +kernel
theorem dX11_totalOf_129 : decode cX11_totalOf 129 = .ok (.iaload, 1) := by decide +kernel
theorem dX11_totalOf_130 : decode cX11_totalOf 130 = .ok (.istore 5, 2) := by decide +kernel
theorem dX11_totalOf_132 : decode cX11_totalOf 132 = .ok (.aload_n 0, 1) := by decide +kernel
theorem dX11_totalOf_133 : decode cX11_totalOf 133 = .ok (.dup, 1) := by decide +kernel
theorem dX11_totalOf_134 : decode cX11_totalOf 134 = .ok (.getfield 280, 3) := by decide +kernel
theorem dX11_totalOf_137 : decode cX11_totalOf 137 = .ok (.aload_n 0, 1) := by decide +kernel
theorem dX11_totalOf_138 : decode cX11_totalOf 138 = .ok (.getfield 9, 3) := by decide +kernel
theorem dX11_totalOf_141 : decode cX11_totalOf 141 = .ok (.iload 4, 2) := by decide +kernel
theorem dX11_totalOf_143 : decode cX11_totalOf 143 = .ok (.iconst 2, 1) := by decide +kernel
theorem dX11_totalOf_144 : decode cX11_totalOf 144 = .ok (.iadd, 1) := by decide +kernel
theorem dX11_totalOf_145 : decode cX11_totalOf 145 = .ok (.iaload, 1) := by decide +kernel
theorem dX11_totalOf_146 : decode cX11_totalOf 146 = .ok (.ifCond .ne 8, 3) := by decide +kernel
theorem dX11_totalOf_149 : decode cX11_totalOf 149 = .ok (.iload 5, 2) := by decide +kernel
theorem dX11_totalOf_151 : decode cX11_totalOf 151 = .ok (.goto 35, 3) := by decide +kernel
theorem dX11_totalOf_154 : decode cX11_totalOf 154 = .ok (.aload_n 0, 1) := by decide +kernel
theorem dX11_totalOf_155 : decode cX11_totalOf 155 = .ok (.getfield 9, 3) := by decide +kernel
theorem dX11_totalOf_158 : decode cX11_totalOf 158 = .ok (.iload 4, 2) := by decide +kernel
theorem dX11_totalOf_160 : decode cX11_totalOf 160 = .ok (.iconst 2, 1) := by decide +kernel
theorem dX11_totalOf_161 : decode cX11_totalOf 161 = .ok (.iadd, 1) := by decide +kernel
theorem dX11_totalOf_162 : decode cX11_totalOf 162 = .ok (.iaload, 1) := by decide +kernel
theorem dX11_totalOf_163 : decode cX11_totalOf 163 = .ok (.iconst 1, 1) := by decide +kernel
theorem dX11_totalOf_164 : decode cX11_totalOf 164 = .ok (.if_icmp .ne 13, 3) := by decide +kernel
theorem dX11_totalOf_167 : decode cX11_totalOf 167 = .ok (.iload 5, 2) := by decide +kernel
theorem dX11_totalOf_169 : decode cX11_totalOf 169 = .ok (.aload_n 0, 1) := by decide +kernel
theorem dX11_totalOf_170 : decode cX11_totalOf 170 = .ok (.getfield 238, 3) := by decide +kernel
theorem dX11_totalOf_173 : decode cX11_totalOf 173 = .ok (.imul, 1) := by decide +kernel
theorem dX11_totalOf_174 : decode cX11_totalOf 174 = .ok (.goto 12, 3) := by decide +kernel
theorem dX11_totalOf_177 : decode cX11_totalOf 177 = .ok (.aload_n 0, 1) := by decide +kernel
theorem dX11_totalOf_178 : decode cX11_totalOf 178 = .ok (.getfield 277, 3) := by decide +kernel
theorem dX11_totalOf_181 : decode cX11_totalOf 181 = .ok (.iload 5, 2) := by decide +kernel
theorem dX11_totalOf_183 : decode cX11_totalOf 183 = .ok (.invokestatic 289, 3) := by decide +kernel
theorem dX11_totalOf_186 : decode cX11_totalOf 186 = .ok (.iadd, 1) := by decide +kernel
theorem dX11_totalOf_187 : decode cX11_totalOf 187 = .ok (.putfield 280, 3) := by decide +kernel
theorem dX11_totalOf_190 : decode cX11_totalOf 190 = .ok (.iinc 3 1, 3) := by decide +kernel
theorem dX11_totalOf_193 : decode cX11_totalOf 193 = .ok (.goto (-159), 3) := by decide +kernel
theorem dX11_totalOf_196 : decode cX11_totalOf 196 = .ok (.aload_n 0, 1) := by decide +kernel
theorem dX11_totalOf_197 : decode cX11_totalOf 197 = .ok (.aload_n 0, 1) := by decide +kernel
theorem dX11_totalOf_198 : decode cX11_totalOf 198 = .ok (.getfield 9, 3) := by decide +kernel
theorem dX11_totalOf_201 : decode cX11_totalOf 201 = .ok (.aload_n 0, 1) := by decide +kernel
theorem dX11_totalOf_202 : decode cX11_totalOf 202 = .ok (.getfield 235, 3) := by decide +kernel
theorem dX11_totalOf_205 : decode cX11_totalOf 205 = .ok (.invokestatic 64, 3) := by decide +kernel
theorem dX11_totalOf_208 : decode cX11_totalOf 208 = .ok (.sipush 148, 3) := by decide +kernel
theorem dX11_totalOf_211 : decode cX11_totalOf 211 = .ok (.iadd, 1) := by decide +kernel
theorem dX11_totalOf_212 : decode cX11_totalOf 212 = .ok (.iaload, 1) := by decide +kernel
theorem dX11_totalOf_213 : decode cX11_totalOf 213 = .ok (.iload_n 1, 1) := by decide +kernel
theorem dX11_totalOf_214 : decode cX11_totalOf 214 = .ok (.invokestatic 265, 3) := by decide +kernel
theorem dX11_totalOf_217 : decode cX11_totalOf 217 = .ok (.iconst 1, 1) := by decide +kernel
theorem dX11_totalOf_218 : decode cX11_totalOf 218 = .ok (.isub, 1) := by decide +kernel
theorem dX11_totalOf_219 : decode cX11_totalOf 219 = .ok (.imul, 1) := by decide +kernel
theorem dX11_totalOf_220 : decode cX11_totalOf 220 = .ok (.putfield 292, 3) := by decide +kernel
theorem dX11_totalOf_223 : decode cX11_totalOf 223 = .ok (.aload_n 0, 1) := by decide +kernel
theorem dX11_totalOf_224 : decode cX11_totalOf 224 = .ok (.aload_n 0, 1) := by decide +kernel
theorem dX11_totalOf_225 : decode cX11_totalOf 225 = .ok (.getfield 277, 3) := by decide +kernel
theorem dX11_totalOf_228 : decode cX11_totalOf 228 = .ok (.aload_n 0, 1) := by decide +kernel
theorem dX11_totalOf_229 : decode cX11_totalOf 229 = .ok (.getfield 280, 3) := by decide +kernel
theorem dX11_totalOf_232 : decode cX11_totalOf 232 = .ok (.iadd, 1) := by decide +kernel
theorem dX11_totalOf_233 : decode cX11_totalOf 233 = .ok (.aload_n 0, 1) := by decide +kernel
theorem dX11_totalOf_234 : decode cX11_totalOf 234 = .ok (.getfield 292, 3) := by decide +kernel
theorem dX11_totalOf_237 : decode cX11_totalOf 237 = .ok (.iadd, 1) := by decide +kernel
theorem dX11_totalOf_238 : decode cX11_totalOf 238 = .ok (.aload_n 0, 1) := by decide +kernel
theorem dX11_totalOf_239 : decode cX11_totalOf 239 = .ok (.getfield 9, 3) := by decide +kernel
theorem dX11_totalOf_242 : decode cX11_totalOf 242 = .ok (.aload_n 0, 1) := by decide +kernel
theorem dX11_totalOf_243 : decode cX11_totalOf 243 = .ok (.getfield 235, 3) := by decide +kernel
theorem dX11_totalOf_246 : decode cX11_totalOf 246 = .ok (.invokestatic 64, 3) := by decide +kernel
theorem dX11_totalOf_249 : decode cX11_totalOf 249 = .ok (.sipush 147, 3) := by decide +kernel
theorem dX11_totalOf_252 : decode cX11_totalOf 252 = .ok (.iadd, 1) := by decide +kernel
theorem dX11_totalOf_253 : decode cX11_totalOf 253 = .ok (.iaload, 1) := by decide +kernel
theorem dX11_totalOf_254 : decode cX11_totalOf 254 = .ok (.invokestatic 289, 3) := by decide +kernel
theorem dX11_totalOf_257 : decode cX11_totalOf 257 = .ok (.putfield 295, 3) := by decide +kernel
theorem dX11_totalOf_260 : decode cX11_totalOf 260 = .ok (.aload_n 0, 1) := by decide +kernel
theorem dX11_totalOf_261 : decode cX11_totalOf 261 = .ok (.getfield 277, 3) := by decide +kernel
theorem dX11_totalOf_264 : decode cX11_totalOf 264 = .ok (.aload_n 0, 1) := by decide +kernel
theorem dX11_totalOf_265 : decode cX11_totalOf 265 = .ok (.getfield 280, 3) := by decide +kernel
theorem dX11_totalOf_268 : decode cX11_totalOf 268 = .ok (.iadd, 1) := by decide +kernel
theorem dX11_totalOf_269 : decode cX11_totalOf 269 = .ok (.aload_n 0, 1) := by decide +kernel
theorem dX11_totalOf_270 : decode cX11_totalOf 270 = .ok (.getfield 292, 3) := by decide +kernel
theorem dX11_totalOf_273 : decode cX11_totalOf 273 = .ok (.iadd, 1) := by decide +kernel
theorem dX11_totalOf_274 : decode cX11_totalOf 274 = .ok (.aload_n 0, 1) := by decide +kernel
theorem dX11_totalOf_275 : decode cX11_totalOf 275 = .ok (.getfield 295, 3) := by decide +kernel
theorem dX11_totalOf_278 : decode cX11_totalOf 278 = .ok (.iadd, 1) := by decide +kernel
theorem dX11_totalOf_279 : decode cX11_totalOf 279 = .ok (.ireturn, 1) := by decide +kernel
theorem dX11_keepsReason_0 : decode cX11_keepsReason 0 = .ok (.aload_n 0, 1) := by decide +kernel
theorem dX11_keepsReason_1 : decode cX11_keepsReason 1 = .ok (.iload_n 1, 1) := by decide +kernel
theorem dX11_keepsReason_2 : decode cX11_keepsReason 2 = .ok (.putfield 298, 3) := by decide +kernel
theorem dX11_keepsReason_5 : decode cX11_keepsReason 5 = .ok (.aload_n 0, 1) := by decide +kernel
theorem dX11_keepsReason_6 : decode cX11_keepsReason 6 = .ok (.aload_n 0, 1) := by decide +kernel
theorem dX11_keepsReason_7 : decode cX11_keepsReason 7 = .ok (.getfield 253, 3) := by decide +kernel
theorem dX11_keepsReason_10 : decode cX11_keepsReason 10 = .ok (.putfield 301, 3) := by decide +kernel
theorem dX11_keepsReason_13 : decode cX11_keepsReason 13 = .ok (.aload_n 0, 1) := by decide +kernel
theorem dX11_keepsReason_14 : decode cX11_keepsReason 14 = .ok (.iload_n 2, 1) := by decide +kernel
theorem dX11_keepsReason_15 : decode cX11_keepsReason 15 = .ok (.invokevirtual 68, 3) := by decide +kernel
theorem dX11_keepsReason_18 : decode cX11_keepsReason 18 = .ok (.ireturn, 1) := by decide +kernel
theorem dX11_rate_0 : decode cX11_rate 0 = .ok (.aload_n 0, 1) := by decide +kernel
theorem dX11_rate_1 : decode cX11_rate 1 = .ok (.iconst 0, 1) := by decide +kernel
theorem dX11_rate_2 : decode cX11_rate 2 = .ok (.putfield 54, 3) := by decide +kernel
theorem dX11_rate_5 : decode cX11_rate 5 = .ok (.aload_n 0, 1) := by decide +kernel
theorem dX11_rate_6 : decode cX11_rate 6 = .ok (.iload_n 1, 1) := by decide +kernel
theorem dX11_rate_7 : decode cX11_rate 7 = .ok (.invokevirtual 304, 3) := by decide +kernel
theorem dX11_rate_10 : decode cX11_rate 10 = .ok (.ifCond .ne 9, 3) := by decide +kernel
theorem dX11_rate_13 : decode cX11_rate 13 = .ok (.aload_n 0, 1) := by decide +kernel
theorem dX11_rate_14 : decode cX11_rate 14 = .ok (.iconst 1, 1) := by decide +kernel
theorem dX11_rate_15 : decode cX11_rate 15 = .ok (.invokevirtual 68, 3) := by decide +kernel
theorem dX11_rate_18 : decode cX11_rate 18 = .ok (.ireturn, 1) := by decide +kernel
theorem dX11_rate_19 : decode cX11_rate 19 = .ok (.aload_n 0, 1) := by decide +kernel
theorem dX11_rate_20 : decode cX11_rate 20 = .ok (.iload_n 1, 1) := by decide +kernel
theorem dX11_rate_21 : decode cX11_rate 21 = .ok (.invokevirtual 307, 3) := by decide +kernel
theorem dX11_rate_24 : decode cX11_rate 24 = .ok (.istore_n 2, 1) := by decide +kernel
theorem dX11_rate_25 : decode cX11_rate 25 = .ok (.iload_n 2, 1) := by decide +kernel
theorem dX11_rate_26 : decode cX11_rate 26 = .ok (.ifCond .le 12, 3) := by decide +kernel
theorem dX11_rate_29 : decode cX11_rate 29 = .ok (.aload_n 0, 1) := by decide +kernel
theorem dX11_rate_30 : decode cX11_rate 30 = .ok (.iload_n 2, 1) := by decide +kernel
theorem dX11_rate_31 : decode cX11_rate 31 = .ok (.iconst 2, 1) := by decide +kernel
theorem dX11_rate_32 : decode cX11_rate 32 = .ok (.invokevirtual 310, 3) := by decide +kernel
theorem dX11_rate_35 : decode cX11_rate 35 = .ok (.goto 8, 3) := by decide +kernel
theorem dX11_rate_38 : decode cX11_rate 38 = .ok (.aload_n 0, 1) := by decide +kernel
theorem dX11_rate_39 : decode cX11_rate 39 = .ok (.iload_n 1, 1) := by decide +kernel
theorem dX11_rate_40 : decode cX11_rate 40 = .ok (.invokevirtual 313, 3) := by decide +kernel
theorem dX11_rate_43 : decode cX11_rate 43 = .ok (.ireturn, 1) := by decide +kernel
theorem dX11_rating_0 : decode cX11_rating 0 = .ok (.aload_n 0, 1) := by decide +kernel
theorem dX11_rating_1 : decode cX11_rating 1 = .ok (.aload_n 0, 1) := by decide +kernel
theorem dX11_rating_2 : decode cX11_rating 2 = .ok (.iload_n 1, 1) := by decide +kernel
theorem dX11_rating_3 : decode cX11_rating 3 = .ok (.invokevirtual 304, 3) := by decide +kernel
theorem dX11_rating_6 : decode cX11_rating 6 = .ok (.ifCond .ne 7, 3) := by decide +kernel
theorem dX11_rating_9 : decode cX11_rating 9 = .ok (.iconst 1, 1) := by decide +kernel
theorem dX11_rating_10 : decode cX11_rating 10 = .ok (.goto 30, 3) := by decide +kernel
theorem dX11_rating_13 : decode cX11_rating 13 = .ok (.iload_n 2, 1) := by decide +kernel
theorem dX11_rating_14 : decode cX11_rating 14 = .ok (.iconst 0, 1) := by decide +kernel
theorem dX11_rating_15 : decode cX11_rating 15 = .ok (.bipush 9, 2) := by decide +kernel
theorem dX11_rating_17 : decode cX11_rating 17 = .ok (.invokestatic 60, 3) := by decide +kernel
theorem dX11_rating_20 : decode cX11_rating 20 = .ok (.ifCond .ne 7, 3) := by decide +kernel
theorem dX11_rating_23 : decode cX11_rating 23 = .ok (.iconst 2, 1) := by decide +kernel
theorem dX11_rating_24 : decode cX11_rating 24 = .ok (.goto 16, 3) := by decide +kernel
theorem dX11_rating_27 : decode cX11_rating 27 = .ok (.aload_n 0, 1) := by decide +kernel
theorem dX11_rating_28 : decode cX11_rating 28 = .ok (.iload_n 1, 1) := by decide +kernel
theorem dX11_rating_29 : decode cX11_rating 29 = .ok (.invokevirtual 307, 3) := by decide +kernel
theorem dX11_rating_32 : decode cX11_rating 32 = .ok (.ifCond .le 7, 3) := by decide +kernel
theorem dX11_rating_35 : decode cX11_rating 35 = .ok (.iconst 3, 1) := by decide +kernel
theorem dX11_rating_36 : decode cX11_rating 36 = .ok (.goto 4, 3) := by decide +kernel
theorem dX11_rating_39 : decode cX11_rating 39 = .ok (.iconst 0, 1) := by decide +kernel
theorem dX11_rating_40 : decode cX11_rating 40 = .ok (.putfield 54, 3) := by decide +kernel
theorem dX11_rating_43 : decode cX11_rating 43 = .ok (.aload_n 0, 1) := by decide +kernel
theorem dX11_rating_44 : decode cX11_rating 44 = .ok (.getfield 54, 3) := by decide +kernel
theorem dX11_rating_47 : decode cX11_rating 47 = .ok (.ifCond .le 5, 3) := by decide +kernel
theorem dX11_rating_50 : decode cX11_rating 50 = .ok (.iconst 0, 1) := by decide +kernel
theorem dX11_rating_51 : decode cX11_rating 51 = .ok (.ireturn, 1) := by decide +kernel
theorem dX11_rating_52 : decode cX11_rating 52 = .ok (.aload_n 0, 1) := by decide +kernel
theorem dX11_rating_53 : decode cX11_rating 53 = .ok (.iload_n 1, 1) := by decide +kernel
theorem dX11_rating_54 : decode cX11_rating 54 = .ok (.invokevirtual 313, 3) := by decide +kernel
theorem dX11_rating_57 : decode cX11_rating 57 = .ok (.pop, 1) := by decide +kernel
theorem dX11_rating_58 : decode cX11_rating 58 = .ok (.aload_n 0, 1) := by decide +kernel
theorem dX11_rating_59 : decode cX11_rating 59 = .ok (.getfield 9, 3) := by decide +kernel
theorem dX11_rating_62 : decode cX11_rating 62 = .ok (.aload_n 0, 1) := by decide +kernel
theorem dX11_rating_63 : decode cX11_rating 63 = .ok (.getfield 235, 3) := by decide +kernel
theorem dX11_rating_66 : decode cX11_rating 66 = .ok (.aload_n 0, 1) := by decide +kernel
theorem dX11_rating_67 : decode cX11_rating 67 = .ok (.getfield 259, 3) := by decide +kernel
theorem dX11_rating_70 : decode cX11_rating 70 = .ok (.aload_n 0, 1) := by decide +kernel
theorem dX11_rating_71 : decode cX11_rating 71 = .ok (.getfield 110, 3) := by decide +kernel
theorem dX11_rating_74 : decode cX11_rating 74 = .ok (.invokestatic 101, 3) := by decide +kernel
theorem dX11_rating_77 : decode cX11_rating 77 = .ok (.iaload, 1) := by decide +kernel
theorem dX11_rating_78 : decode cX11_rating 78 = .ok (.istore_n 3, 1) := by decide +kernel
theorem dX11_rating_79 : decode cX11_rating 79 = .ok (.iload_n 2, 1) := by decide +kernel
theorem dX11_rating_80 : decode cX11_rating 80 = .ok (.tableswitch 98 0 8 #[52, 57, 62, 67, 72, 77, 86, 88, 93], 52) := by decide +kernel
theorem dX11_rating_132 : decode cX11_rating 132 = .ok (.aload_n 0, 1) := by decide +kernel
theorem dX11_rating_133 : decode cX11_rating 133 = .ok (.getfield 277, 3) := by decide +kernel
theorem dX11_rating_136 : decode cX11_rating 136 = .ok (.ireturn, 1) := by decide +kernel
theorem dX11_rating_137 : decode cX11_rating 137 = .ok (.aload_n 0, 1) := by decide +kernel
theorem dX11_rating_138 : decode cX11_rating 138 = .ok (.getfield 280, 3) := by decide +kernel
theorem dX11_rating_141 : decode cX11_rating 141 = .ok (.ireturn, 1) := by decide +kernel
theorem dX11_rating_142 : decode cX11_rating 142 = .ok (.aload_n 0, 1) := by decide +kernel
theorem dX11_rating_143 : decode cX11_rating 143 = .ok (.getfield 292, 3) := by decide +kernel
theorem dX11_rating_146 : decode cX11_rating 146 = .ok (.ireturn, 1) := by decide +kernel
theorem dX11_rating_147 : decode cX11_rating 147 = .ok (.aload_n 0, 1) := by decide +kernel
theorem dX11_rating_148 : decode cX11_rating 148 = .ok (.getfield 295, 3) := by decide +kernel
theorem dX11_rating_151 : decode cX11_rating 151 = .ok (.ireturn, 1) := by decide +kernel
theorem dX11_rating_152 : decode cX11_rating 152 = .ok (.aload_n 0, 1) := by decide +kernel
theorem dX11_rating_153 : decode cX11_rating 153 = .ok (.getfield 238, 3) := by decide +kernel
theorem dX11_rating_156 : decode cX11_rating 156 = .ok (.ireturn, 1) := by decide +kernel
theorem dX11_rating_157 : decode cX11_rating 157 = .ok (.aload_n 0, 1) := by decide +kernel
theorem dX11_rating_158 : decode cX11_rating 158 = .ok (.getfield 238, 3) := by decide +kernel
theorem dX11_rating_161 : decode cX11_rating 161 = .ok (.iload_n 3, 1) := by decide +kernel
theorem dX11_rating_162 : decode cX11_rating 162 = .ok (.invokestatic 105, 3) := by decide +kernel
theorem dX11_rating_165 : decode cX11_rating 165 = .ok (.ireturn, 1) := by decide +kernel
theorem dX11_rating_166 : decode cX11_rating 166 = .ok (.iload_n 3, 1) := by decide +kernel
theorem dX11_rating_167 : decode cX11_rating 167 = .ok (.ireturn, 1) := by decide +kernel
theorem dX11_rating_168 : decode cX11_rating 168 = .ok (.aload_n 0, 1) := by decide +kernel
theorem dX11_rating_169 : decode cX11_rating 169 = .ok (.getfield 283, 3) := by decide +kernel
theorem dX11_rating_172 : decode cX11_rating 172 = .ok (.ireturn, 1) := by decide +kernel
theorem dX11_rating_173 : decode cX11_rating 173 = .ok (.aload_n 0, 1) := by decide +kernel
theorem dX11_rating_174 : decode cX11_rating 174 = .ok (.getfield 259, 3) := by decide +kernel
theorem dX11_rating_177 : decode cX11_rating 177 = .ok (.ireturn, 1) := by decide +kernel
theorem dX11_rating_178 : decode cX11_rating 178 = .ok (.aload_n 0, 1) := by decide +kernel
theorem dX11_rating_179 : decode cX11_rating 179 = .ok (.getfield 235, 3) := by decide +kernel
theorem dX11_rating_182 : decode cX11_rating 182 = .ok (.ireturn, 1) := by decide +kernel
theorem dX11_refuses_0 : decode cX11_refuses 0 = .ok (.aload_n 0, 1) := by decide +kernel
theorem dX11_refuses_1 : decode cX11_refuses 1 = .ok (.iconst 0, 1) := by decide +kernel
theorem dX11_refuses_2 : decode cX11_refuses 2 = .ok (.putfield 54, 3) := by decide +kernel
theorem dX11_refuses_5 : decode cX11_refuses 5 = .ok (.aload_n 0, 1) := by decide +kernel
theorem dX11_refuses_6 : decode cX11_refuses 6 = .ok (.iload_n 1, 1) := by decide +kernel
theorem dX11_refuses_7 : decode cX11_refuses 7 = .ok (.invokevirtual 304, 3) := by decide +kernel
theorem dX11_refuses_10 : decode cX11_refuses 10 = .ok (.ifCond .eq 11, 3) := by decide +kernel
theorem dX11_refuses_13 : decode cX11_refuses 13 = .ok (.aload_n 0, 1) := by decide +kernel
theorem dX11_refuses_14 : decode cX11_refuses 14 = .ok (.iload_n 1, 1) := by decide +kernel
theorem dX11_refuses_15 : decode cX11_refuses 15 = .ok (.invokevirtual 307, 3) := by decide +kernel
theorem dX11_refuses_18 : decode cX11_refuses 18 = .ok (.goto 8, 3) := by decide +kernel
theorem dX11_refuses_21 : decode cX11_refuses 21 = .ok (.aload_n 0, 1) := by decide +kernel
theorem dX11_refuses_22 : decode cX11_refuses 22 = .ok (.iconst 1, 1) := by decide +kernel
theorem dX11_refuses_23 : decode cX11_refuses 23 = .ok (.invokevirtual 68, 3) := by decide +kernel
theorem dX11_refuses_26 : decode cX11_refuses 26 = .ok (.ireturn, 1) := by decide +kernel
theorem dX11_refusal_0 : decode cX11_refusal 0 = .ok (.aload_n 0, 1) := by decide +kernel
theorem dX11_refusal_1 : decode cX11_refusal 1 = .ok (.aload_n 0, 1) := by decide +kernel
theorem dX11_refusal_2 : decode cX11_refusal 2 = .ok (.getfield 298, 3) := by decide +kernel
theorem dX11_refusal_5 : decode cX11_refusal 5 = .ok (.ifCond .ne 7, 3) := by decide +kernel
theorem dX11_refusal_8 : decode cX11_refusal 8 = .ok (.iconst 1, 1) := by decide +kernel
theorem dX11_refusal_9 : decode cX11_refusal 9 = .ok (.goto 4, 3) := by decide +kernel
theorem dX11_refusal_12 : decode cX11_refusal 12 = .ok (.iconst 0, 1) := by decide +kernel
theorem dX11_refusal_13 : decode cX11_refusal 13 = .ok (.putfield 54, 3) := by decide +kernel
theorem dX11_refusal_16 : decode cX11_refusal 16 = .ok (.aload_n 0, 1) := by decide +kernel
theorem dX11_refusal_17 : decode cX11_refusal 17 = .ok (.getfield 54, 3) := by decide +kernel
theorem dX11_refusal_20 : decode cX11_refusal 20 = .ok (.ifCond .le 7, 3) := by decide +kernel
theorem dX11_refusal_23 : decode cX11_refusal 23 = .ok (.iconst 0, 1) := by decide +kernel
theorem dX11_refusal_24 : decode cX11_refusal 24 = .ok (.goto 18, 3) := by decide +kernel
theorem dX11_refusal_27 : decode cX11_refusal 27 = .ok (.iload_n 1, 1) := by decide +kernel
theorem dX11_refusal_28 : decode cX11_refusal 28 = .ok (.ifCond .eq 10, 3) := by decide +kernel
theorem dX11_refusal_31 : decode cX11_refusal 31 = .ok (.aload_n 0, 1) := by decide +kernel
theorem dX11_refusal_32 : decode cX11_refusal 32 = .ok (.getfield 301, 3) := by decide +kernel
theorem dX11_refusal_35 : decode cX11_refusal 35 = .ok (.goto 7, 3) := by decide +kernel
theorem dX11_refusal_38 : decode cX11_refusal 38 = .ok (.aload_n 0, 1) := by decide +kernel
theorem dX11_refusal_39 : decode cX11_refusal 39 = .ok (.getfield 298, 3) := by decide +kernel
theorem dX11_refusal_42 : decode cX11_refusal 42 = .ok (.ireturn, 1) := by decide +kernel
theorem dX11_meanPrice_0 : decode cX11_meanPrice 0 = .ok (.aload_n 0, 1) := by decide +kernel
theorem dX11_meanPrice_1 : decode cX11_meanPrice 1 = .ok (.aload_n 0, 1) := by decide +kernel
theorem dX11_meanPrice_2 : decode cX11_meanPrice 2 = .ok (.iload_n 1, 1) := by decide +kernel
theorem dX11_meanPrice_3 : decode cX11_meanPrice 3 = .ok (.invokevirtual 304, 3) := by decide +kernel
theorem dX11_meanPrice_6 : decode cX11_meanPrice 6 = .ok (.ifCond .ne 7, 3) := by decide +kernel
theorem dX11_meanPrice_9 : decode cX11_meanPrice 9 = .ok (.iconst 1, 1) := by decide +kernel
theorem dX11_meanPrice_10 : decode cX11_meanPrice 10 = .ok (.goto 16, 3) := by decide +kernel
theorem dX11_meanPrice_13 : decode cX11_meanPrice 13 = .ok (.aload_n 0, 1) := by decide +kernel
theorem dX11_meanPrice_14 : decode cX11_meanPrice 14 = .ok (.iload_n 1, 1) := by decide +kernel
theorem dX11_meanPrice_15 : decode cX11_meanPrice 15 = .ok (.invokevirtual 307, 3) := by decide +kernel
theorem dX11_meanPrice_18 : decode cX11_meanPrice 18 = .ok (.ifCond .le 7, 3) := by decide +kernel
theorem dX11_meanPrice_21 : decode cX11_meanPrice 21 = .ok (.iconst 2, 1) := by decide +kernel
theorem dX11_meanPrice_22 : decode cX11_meanPrice 22 = .ok (.goto 4, 3) := by decide +kernel
theorem dX11_meanPrice_25 : decode cX11_meanPrice 25 = .ok (.iconst 0, 1) := by decide +kernel
theorem dX11_meanPrice_26 : decode cX11_meanPrice 26 = .ok (.putfield 54, 3) := by decide +kernel
theorem dX11_meanPrice_29 : decode cX11_meanPrice 29 = .ok (.aload_n 0, 1) := by decide +kernel
theorem dX11_meanPrice_30 : decode cX11_meanPrice 30 = .ok (.getfield 54, 3) := by decide +kernel
theorem dX11_meanPrice_33 : decode cX11_meanPrice 33 = .ok (.ifCond .le 7, 3) := by decide +kernel
theorem dX11_meanPrice_36 : decode cX11_meanPrice 36 = .ok (.dconst 0, 1) := by decide +kernel
theorem dX11_meanPrice_37 : decode cX11_meanPrice 37 = .ok (.goto 15, 3) := by decide +kernel
theorem dX11_meanPrice_40 : decode cX11_meanPrice 40 = .ok (.aload_n 0, 1) := by decide +kernel
theorem dX11_meanPrice_41 : decode cX11_meanPrice 41 = .ok (.iload_n 1, 1) := by decide +kernel
theorem dX11_meanPrice_42 : decode cX11_meanPrice 42 = .ok (.invokevirtual 313, 3) := by decide +kernel
theorem dX11_meanPrice_45 : decode cX11_meanPrice 45 = .ok (.i2d, 1) := by decide +kernel
theorem dX11_meanPrice_46 : decode cX11_meanPrice 46 = .ok (.aload_n 0, 1) := by decide +kernel
theorem dX11_meanPrice_47 : decode cX11_meanPrice 47 = .ok (.getfield 238, 3) := by decide +kernel
theorem dX11_meanPrice_50 : decode cX11_meanPrice 50 = .ok (.i2d, 1) := by decide +kernel
theorem dX11_meanPrice_51 : decode cX11_meanPrice 51 = .ok (.ddiv, 1) := by decide +kernel
theorem dX11_meanPrice_52 : decode cX11_meanPrice 52 = .ok (.dreturn, 1) := by decide +kernel
theorem dX11_lacks_0 : decode cX11_lacks 0 = .ok (.aload_n 0, 1) := by decide +kernel
theorem dX11_lacks_1 : decode cX11_lacks 1 = .ok (.iconst 0, 1) := by decide +kernel
theorem dX11_lacks_2 : decode cX11_lacks 2 = .ok (.putfield 316, 3) := by decide +kernel
theorem dX11_lacks_5 : decode cX11_lacks 5 = .ok (.aload_n 0, 1) := by decide +kernel
theorem dX11_lacks_6 : decode cX11_lacks 6 = .ok (.iload_n 1, 1) := by decide +kernel
theorem dX11_lacks_7 : decode cX11_lacks 7 = .ok (.invokevirtual 304, 3) := by decide +kernel
theorem dX11_lacks_10 : decode cX11_lacks 10 = .ok (.ifCond .ne 5, 3) := by decide +kernel
theorem dX11_lacks_13 : decode cX11_lacks 13 = .ok (.iconst 1, 1) := by decide +kernel
theorem dX11_lacks_14 : decode cX11_lacks 14 = .ok (.ireturn, 1) := by decide +kernel
theorem dX11_lacks_15 : decode cX11_lacks 15 = .ok (.iload_n 1, 1) := by decide +kernel
theorem dX11_lacks_16 : decode cX11_lacks 16 = .ok (.invokestatic 265, 3) := by decide +kernel
theorem dX11_lacks_19 : decode cX11_lacks 19 = .ok (.iload_n 2, 1) := by decide +kernel
theorem dX11_lacks_20 : decode cX11_lacks 20 = .ok (.if_icmp .le 7, 3) := by decide +kernel
theorem dX11_lacks_23 : decode cX11_lacks 23 = .ok (.iconst 2, 1) := by decide +kernel
theorem dX11_lacks_24 : decode cX11_lacks 24 = .ok (.goto 4, 3) := by decide +kernel
theorem dX11_lacks_27 : decode cX11_lacks 27 = .ok (.iconst 0, 1) := by decide +kernel
theorem dX11_lacks_28 : decode cX11_lacks 28 = .ok (.ireturn, 1) := by decide +kernel
theorem dX11_hasRefused_0 : decode cX11_hasRefused 0 = .ok (.iconst 0, 1) := by decide +kernel
theorem dX11_hasRefused_1 : decode cX11_hasRefused 1 = .ok (.istore_n 2, 1) := by decide +kernel
theorem dX11_hasRefused_2 : decode cX11_hasRefused 2 = .ok (.iload_n 2, 1) := by decide +kernel
theorem dX11_hasRefused_3 : decode cX11_hasRefused 3 = .ok (.aload_n 0, 1) := by decide +kernel
theorem dX11_hasRefused_4 : decode cX11_hasRefused 4 = .ok (.getfield 9, 3) := by decide +kernel
theorem dX11_hasRefused_7 : decode cX11_hasRefused 7 = .ok (.iconst 1, 1) := by decide +kernel
theorem dX11_hasRefused_8 : decode cX11_hasRefused 8 = .ok (.iaload, 1) := by decide +kernel
theorem dX11_hasRefused_9 : decode cX11_hasRefused 9 = .ok (.if_icmp .ge 37, 3) := by decide +kernel
theorem dX11_hasRefused_12 : decode cX11_hasRefused 12 = .ok (.iload_n 1, 1) := by decide +kernel
theorem dX11_hasRefused_13 : decode cX11_hasRefused 13 = .ok (.iload_n 2, 1) := by decide +kernel
theorem dX11_hasRefused_14 : decode cX11_hasRefused 14 = .ok (.invokestatic 223, 3) := by decide +kernel
theorem dX11_hasRefused_17 : decode cX11_hasRefused 17 = .ok (.ifCond .eq 23, 3) := by decide +kernel
theorem dX11_hasRefused_20 : decode cX11_hasRefused 20 = .ok (.aload_n 0, 1) := by decide +kernel
theorem dX11_hasRefused_21 : decode cX11_hasRefused 21 = .ok (.aload_n 0, 1) := by decide +kernel
theorem dX11_hasRefused_22 : decode cX11_hasRefused 22 = .ok (.iconst 1, 1) := by decide +kernel
theorem dX11_hasRefused_23 : decode cX11_hasRefused 23 = .ok (.iload_n 2, 1) := by decide +kernel
theorem dX11_hasRefused_24 : decode cX11_hasRefused 24 = .ok (.ishl, 1) := by decide +kernel
theorem dX11_hasRefused_25 : decode cX11_hasRefused 25 = .ok (.invokevirtual 307, 3) := by decide +kernel
theorem dX11_hasRefused_28 : decode cX11_hasRefused 28 = .ok (.putfield 316, 3) := by decide +kernel
theorem dX11_hasRefused_31 : decode cX11_hasRefused 31 = .ok (.aload_n 0, 1) := by decide +kernel
theorem dX11_hasRefused_32 : decode cX11_hasRefused 32 = .ok (.getfield 316, 3) := by decide +kernel
theorem dX11_hasRefused_35 : decode cX11_hasRefused 35 = .ok (.ifCond .le 5, 3) := by decide +kernel
theorem dX11_hasRefused_38 : decode cX11_hasRefused 38 = .ok (.iconst 1, 1) := by decide +kernel
theorem dX11_hasRefused_39 : decode cX11_hasRefused 39 = .ok (.ireturn, 1) := by decide +kernel
theorem dX11_hasRefused_40 : decode cX11_hasRefused 40 = .ok (.iinc 2 1, 3) := by decide +kernel
theorem dX11_hasRefused_43 : decode cX11_hasRefused 43 = .ok (.goto (-41), 3) := by decide +kernel
theorem dX11_hasRefused_46 : decode cX11_hasRefused 46 = .ok (.iconst 0, 1) := by decide +kernel
theorem dX11_hasRefused_47 : decode cX11_hasRefused 47 = .ok (.ireturn, 1) := by decide +kernel
theorem dX11_layTotals_0 : decode cX11_layTotals 0 = .ok (.iload_n 1, 1) := by decide +kernel
theorem dX11_layTotals_1 : decode cX11_layTotals 1 = .ok (.istore_n 2, 1) := by decide +kernel
theorem dX11_layTotals_2 : decode cX11_layTotals 2 = .ok (.iload_n 2, 1) := by decide +kernel
theorem dX11_layTotals_3 : decode cX11_layTotals 3 = .ok (.ifCond .le 35, 3) := by decide +kernel
theorem dX11_layTotals_6 : decode cX11_layTotals 6 = .ok (.aload_n 0, 1) := by decide +kernel
theorem dX11_layTotals_7 : decode cX11_layTotals 7 = .ok (.getfield 35, 3) := by decide +kernel
theorem dX11_layTotals_10 : decode cX11_layTotals 10 = .ok (.iload_n 2, 1) := by decide +kernel
theorem dX11_layTotals_11 : decode cX11_layTotals 11 = .ok (.aload_n 0, 1) := by decide +kernel
theorem dX11_layTotals_12 : decode cX11_layTotals 12 = .ok (.iload_n 2, 1) := by decide +kernel
theorem dX11_layTotals_13 : decode cX11_layTotals 13 = .ok (.invokevirtual 307, 3) := by decide +kernel
theorem dX11_layTotals_16 : decode cX11_layTotals 16 = .ok (.ifCond .le 7, 3) := by decide +kernel
theorem dX11_layTotals_19 : decode cX11_layTotals 19 = .ok (.iconst (-1), 1) := by decide +kernel
theorem dX11_layTotals_20 : decode cX11_layTotals 20 = .ok (.goto 8, 3) := by decide +kernel
theorem dX11_layTotals_23 : decode cX11_layTotals 23 = .ok (.aload_n 0, 1) := by decide +kernel
theorem dX11_layTotals_24 : decode cX11_layTotals 24 = .ok (.iload_n 2, 1) := by decide +kernel
theorem dX11_layTotals_25 : decode cX11_layTotals 25 = .ok (.invokevirtual 313, 3) := by decide +kernel
theorem dX11_layTotals_28 : decode cX11_layTotals 28 = .ok (.iastore, 1) := by decide +kernel
theorem dX11_layTotals_29 : decode cX11_layTotals 29 = .ok (.iload_n 2, 1) := by decide +kernel
theorem dX11_layTotals_30 : decode cX11_layTotals 30 = .ok (.iconst 1, 1) := by decide +kernel
theorem dX11_layTotals_31 : decode cX11_layTotals 31 = .ok (.isub, 1) := by decide +kernel
theorem dX11_layTotals_32 : decode cX11_layTotals 32 = .ok (.iload_n 1, 1) := by decide +kernel
theorem dX11_layTotals_33 : decode cX11_layTotals 33 = .ok (.iand, 1) := by decide +kernel
theorem dX11_layTotals_34 : decode cX11_layTotals 34 = .ok (.istore_n 2, 1) := by decide +kernel
theorem dX11_layTotals_35 : decode cX11_layTotals 35 = .ok (.goto (-33), 3) := by decide +kernel
theorem dX11_layTotals_38 : decode cX11_layTotals 38 = .ok (.return_, 1) := by decide +kernel
theorem dX11_layBest_0 : decode cX11_layBest 0 = .ok (.aload_n 0, 1) := by decide +kernel
theorem dX11_layBest_1 : decode cX11_layBest 1 = .ok (.iload_n 1, 1) := by decide +kernel
theorem dX11_layBest_2 : decode cX11_layBest 2 = .ok (.invokevirtual 319, 3) := by decide +kernel
theorem dX11_layBest_5 : decode cX11_layBest 5 = .ok (.aload_n 0, 1) := by decide +kernel
theorem dX11_layBest_6 : decode cX11_layBest 6 = .ok (.getfield 38, 3) := by decide +kernel
theorem dX11_layBest_9 : decode cX11_layBest 9 = .ok (.iconst 0, 1) := by decide +kernel
theorem dX11_layBest_10 : decode cX11_layBest 10 = .ok (.iconst 0, 1) := by decide +kernel
theorem dX11_layBest_11 : decode cX11_layBest 11 = .ok (.iastore, 1) := by decide +kernel
theorem dX11_layBest_12 : decode cX11_layBest 12 = .ok (.aload_n 0, 1) := by decide +kernel
theorem dX11_layBest_13 : decode cX11_layBest 13 = .ok (.getfield 41, 3) := by decide +kernel
theorem dX11_layBest_16 : decode cX11_layBest 16 = .ok (.iconst 0, 1) := by decide +kernel
theorem dX11_layBest_17 : decode cX11_layBest 17 = .ok (.iconst 0, 1) := by decide +kernel
theorem dX11_layBest_18 : decode cX11_layBest 18 = .ok (.iastore, 1) := by decide +kernel
theorem dX11_layBest_19 : decode cX11_layBest 19 = .ok (.iconst 1, 1) := by decide +kernel
theorem dX11_layBest_20 : decode cX11_layBest 20 = .ok (.istore_n 2, 1) := by decide +kernel
theorem dX11_layBest_21 : decode cX11_layBest 21 = .ok (.iload_n 2, 1) := by decide +kernel
theorem dX11_layBest_22 : decode cX11_layBest 22 = .ok (.iload_n 1, 1) := by decide +kernel
theorem dX11_layBest_23 : decode cX11_layBest 23 = .ok (.if_icmp .gt 22, 3) := by decide +kernel
theorem dX11_layBest_26 : decode cX11_layBest 26 = .ok (.iload_n 2, 1) := by decide +kernel
theorem dX11_layBest_27 : decode cX11_layBest 27 = .ok (.iload_n 1, 1) := by decide +kernel
theorem dX11_layBest_28 : decode cX11_layBest 28 = .ok (.iconst (-1), 1) := by decide +kernel
theorem dX11_layBest_29 : decode cX11_layBest 29 = .ok (.ixor, 1) := by decide +kernel
theorem dX11_layBest_30 : decode cX11_layBest 30 = .ok (.iand, 1) := by decide +kernel
theorem dX11_layBest_31 : decode cX11_layBest 31 = .ok (.ifCond .ne 8, 3) := by decide +kernel
theorem dX11_layBest_34 : decode cX11_layBest 34 = .ok (.aload_n 0, 1) := by decide +kernel
theorem dX11_layBest_35 : decode cX11_layBest 35 = .ok (.iload_n 2, 1) := by decide +kernel
theorem dX11_layBest_36 : decode cX11_layBest 36 = .ok (.invokevirtual 322, 3) := by decide +kernel
theorem dX11_layBest_39 : decode cX11_layBest 39 = .ok (.iinc 2 1, 3) := by decide +kernel
theorem dX11_layBest_42 : decode cX11_layBest 42 = .ok (.goto (-21), 3) := by decide +kernel
theorem dX11_layBest_45 : decode cX11_layBest 45 = .ok (.return_, 1) := by decide +kernel
theorem dX11_layPart_0 : decode cX11_layPart 0 = .ok (.iload_n 1, 1) := by decide +kernel
theorem dX11_layPart_1 : decode cX11_layPart 1 = .ok (.iload_n 1, 1) := by decide +kernel
theorem dX11_layPart_2 : decode cX11_layPart 2 = .ok (.ineg, 1) := by decide +kernel
theorem dX11_layPart_3 : decode cX11_layPart 3 = .ok (.iand, 1) := by decide +kernel
theorem dX11_layPart_4 : decode cX11_layPart 4 = .ok (.istore_n 2, 1) := by decide +kernel
theorem dX11_layPart_5 : decode cX11_layPart 5 = .ok (.aload_n 0, 1) := by decide +kernel
theorem dX11_layPart_6 : decode cX11_layPart 6 = .ok (.getfield 38, 3) := by decide +kernel
theorem dX11_layPart_9 : decode cX11_layPart 9 = .ok (.iload_n 1, 1) := by decide +kernel
theorem dX11_layPart_10 : decode cX11_layPart 10 = .ok (.iconst (-1), 1) := by decide +kernel
theorem dX11_layPart_11 : decode cX11_layPart 11 = .ok (.iastore, 1) := by decide +kernel
theorem dX11_layPart_12 : decode cX11_layPart 12 = .ok (.iconst 1, 1) := by decide +kernel
theorem dX11_layPart_13 : decode cX11_layPart 13 = .ok (.istore_n 3, 1) := by decide +kernel
theorem dX11_layPart_14 : decode cX11_layPart 14 = .ok (.iload_n 3, 1) := by decide +kernel
theorem dX11_layPart_15 : decode cX11_layPart 15 = .ok (.iload_n 1, 1) := by decide +kernel
theorem dX11_layPart_16 : decode cX11_layPart 16 = .ok (.if_icmp .gt 130, 3) := by decide +kernel
theorem dX11_layPart_19 : decode cX11_layPart 19 = .ok (.iload_n 3, 1) := by decide +kernel
theorem dX11_layPart_20 : decode cX11_layPart 20 = .ok (.iload_n 1, 1) := by decide +kernel
theorem dX11_layPart_21 : decode cX11_layPart 21 = .ok (.iconst (-1), 1) := by decide +kernel
theorem dX11_layPart_22 : decode cX11_layPart 22 = .ok (.ixor, 1) := by decide +kernel
theorem dX11_layPart_23 : decode cX11_layPart 23 = .ok (.iand, 1) := by decide +kernel
theorem dX11_layPart_24 : decode cX11_layPart 24 = .ok (.ifCond .ne 116, 3) := by decide +kernel
theorem dX11_layPart_27 : decode cX11_layPart 27 = .ok (.iload_n 3, 1) := by decide +kernel
theorem dX11_layPart_28 : decode cX11_layPart 28 = .ok (.iload_n 2, 1) := by decide +kernel
theorem dX11_layPart_29 : decode cX11_layPart 29 = .ok (.iand, 1) := by decide +kernel
theorem dX11_layPart_30 : decode cX11_layPart 30 = .ok (.ifCond .eq 110, 3) := by decide +kernel
theorem dX11_layPart_33 : decode cX11_layPart 33 = .ok (.aload_n 0, 1) := by decide +kernel
theorem dX11_layPart_34 : decode cX11_layPart 34 = .ok (.getfield 35, 3) := by decide +kernel
theorem dX11_layPart_37 : decode cX11_layPart 37 = .ok (.iload_n 3, 1) := by decide +kernel
theorem dX11_layPart_38 : decode cX11_layPart 38 = .ok (.iaload, 1) := by decide +kernel
theorem dX11_layPart_39 : decode cX11_layPart 39 = .ok (.ifCond .lt 101, 3) := by decide +kernel
theorem dX11_layPart_42 : decode cX11_layPart 42 = .ok (.aload_n 0, 1) := by decide +kernel
theorem dX11_layPart_43 : decode cX11_layPart 43 = .ok (.getfield 35, 3) := by decide +kernel
theorem dX11_layPart_46 : decode cX11_layPart 46 = .ok (.iload_n 3, 1) := by decide +kernel
theorem dX11_layPart_47 : decode cX11_layPart 47 = .ok (.iaload, 1) := by decide +kernel
theorem dX11_layPart_48 : decode cX11_layPart 48 = .ok (.aload_n 0, 1) := by decide +kernel
theorem dX11_layPart_49 : decode cX11_layPart 49 = .ok (.getfield 38, 3) := by decide +kernel
theorem dX11_layPart_52 : decode cX11_layPart 52 = .ok (.iload_n 1, 1) := by decide +kernel
theorem dX11_layPart_53 : decode cX11_layPart 53 = .ok (.iload_n 3, 1) := by decide +kernel
theorem dX11_layPart_54 : decode cX11_layPart 54 = .ok (.iconst (-1), 1) := by decide +kernel
theorem dX11_layPart_55 : decode cX11_layPart 55 = .ok (.ixor, 1) := by decide +kernel
theorem dX11_layPart_56 : decode cX11_layPart 56 = .ok (.iand, 1) := by decide +kernel
theorem dX11_layPart_57 : decode cX11_layPart 57 = .ok (.iaload, 1) := by decide +kernel
theorem dX11_layPart_58 : decode cX11_layPart 58 = .ok (.iadd, 1) := by decide +kernel
theorem dX11_layPart_59 : decode cX11_layPart 59 = .ok (.istore 4, 2) := by decide +kernel
theorem dX11_layPart_61 : decode cX11_layPart 61 = .ok (.iconst 1, 1) := by decide +kernel
theorem dX11_layPart_62 : decode cX11_layPart 62 = .ok (.aload_n 0, 1) := by decide +kernel
theorem dX11_layPart_63 : decode cX11_layPart 63 = .ok (.getfield 41, 3) := by decide +kernel
theorem dX11_layPart_66 : decode cX11_layPart 66 = .ok (.iload_n 1, 1) := by decide +kernel
theorem dX11_layPart_67 : decode cX11_layPart 67 = .ok (.iload_n 3, 1) := by decide +kernel
theorem dX11_layPart_68 : decode cX11_layPart 68 = .ok (.iconst (-1), 1) := by decide +kernel
theorem dX11_layPart_69 : decode cX11_layPart 69 = .ok (.ixor, 1) := by decide +kernel
theorem dX11_layPart_70 : decode cX11_layPart 70 = .ok (.iand, 1) := by decide +kernel
theorem dX11_layPart_71 : decode cX11_layPart 71 = .ok (.iaload, 1) := by decide +kernel
theorem dX11_layPart_72 : decode cX11_layPart 72 = .ok (.iadd, 1) := by decide +kernel
theorem dX11_layPart_73 : decode cX11_layPart 73 = .ok (.istore 5, 2) := by decide +kernel
theorem dX11_layPart_75 : decode cX11_layPart 75 = .ok (.aload_n 0, 1) := by decide +kernel
theorem dX11_layPart_76 : decode cX11_layPart 76 = .ok (.getfield 38, 3) := by decide +kernel
theorem dX11_layPart_79 : decode cX11_layPart 79 = .ok (.iload_n 1, 1) := by decide +kernel
theorem dX11_layPart_80 : decode cX11_layPart 80 = .ok (.iaload, 1) := by decide +kernel
theorem dX11_layPart_81 : decode cX11_layPart 81 = .ok (.ifCond .lt 36, 3) := by decide +kernel
theorem dX11_layPart_84 : decode cX11_layPart 84 = .ok (.iload 4, 2) := by decide +kernel
theorem dX11_layPart_86 : decode cX11_layPart 86 = .ok (.aload_n 0, 1) := by decide +kernel
theorem dX11_layPart_87 : decode cX11_layPart 87 = .ok (.getfield 38, 3) := by decide +kernel
theorem dX11_layPart_90 : decode cX11_layPart 90 = .ok (.iload_n 1, 1) := by decide +kernel
theorem dX11_layPart_91 : decode cX11_layPart 91 = .ok (.iaload, 1) := by decide +kernel
theorem dX11_layPart_92 : decode cX11_layPart 92 = .ok (.if_icmp .lt 25, 3) := by decide +kernel
theorem dX11_layPart_95 : decode cX11_layPart 95 = .ok (.iload 4, 2) := by decide +kernel
theorem dX11_layPart_97 : decode cX11_layPart 97 = .ok (.aload_n 0, 1) := by decide +kernel
theorem dX11_layPart_98 : decode cX11_layPart 98 = .ok (.getfield 38, 3) := by decide +kernel
theorem dX11_layPart_101 : decode cX11_layPart 101 = .ok (.iload_n 1, 1) := by decide +kernel
theorem dX11_layPart_102 : decode cX11_layPart 102 = .ok (.iaload, 1) := by decide +kernel
theorem dX11_layPart_103 : decode cX11_layPart 103 = .ok (.if_icmp .ne 37, 3) := by decide +kernel
theorem dX11_layPart_106 : decode cX11_layPart 106 = .ok (.iload 5, 2) := by decide +kernel
theorem dX11_layPart_108 : decode cX11_layPart 108 = .ok (.aload_n 0, 1) := by decide +kernel
theorem dX11_layPart_109 : decode cX11_layPart 109 = .ok (.getfield 41, 3) := by decide +kernel
theorem dX11_layPart_112 : decode cX11_layPart 112 = .ok (.iload_n 1, 1) := by decide +kernel
theorem dX11_layPart_113 : decode cX11_layPart 113 = .ok (.iaload, 1) := by decide +kernel
theorem dX11_layPart_114 : decode cX11_layPart 114 = .ok (.if_icmp .ge 26, 3) := by decide +kernel
theorem dX11_layPart_117 : decode cX11_layPart 117 = .ok (.aload_n 0, 1) := by decide +kernel
theorem dX11_layPart_118 : decode cX11_layPart 118 = .ok (.getfield 38, 3) := by decide +kernel
theorem dX11_layPart_121 : decode cX11_layPart 121 = .ok (.iload_n 1, 1) := by decide +kernel
theorem dX11_layPart_122 : decode cX11_layPart 122 = .ok (.iload 4, 2) := by decide +kernel
theorem dX11_layPart_124 : decode cX11_layPart 124 = .ok (.iastore, 1) := by decide +kernel
theorem dX11_layPart_125 : decode cX11_layPart 125 = .ok (.aload_n 0, 1) := by decide +kernel
theorem dX11_layPart_126 : decode cX11_layPart 126 = .ok (.getfield 41, 3) := by decide +kernel
theorem dX11_layPart_129 : decode cX11_layPart 129 = .ok (.iload_n 1, 1) := by decide +kernel
theorem dX11_layPart_130 : decode cX11_layPart 130 = .ok (.iload 5, 2) := by decide +kernel
theorem dX11_layPart_132 : decode cX11_layPart 132 = .ok (.iastore, 1) := by decide +kernel
theorem dX11_layPart_133 : decode cX11_layPart 133 = .ok (.aload_n 0, 1) := by decide +kernel
theorem dX11_layPart_134 : decode cX11_layPart 134 = .ok (.getfield 44, 3) := by decide +kernel
theorem dX11_layPart_137 : decode cX11_layPart 137 = .ok (.iload_n 1, 1) := by decide +kernel
theorem dX11_layPart_138 : decode cX11_layPart 138 = .ok (.iload_n 3, 1) := by decide +kernel
theorem dX11_layPart_139 : decode cX11_layPart 139 = .ok (.iastore, 1) := by decide +kernel
theorem dX11_layPart_140 : decode cX11_layPart 140 = .ok (.iinc 3 1, 3) := by decide +kernel
theorem dX11_layPart_143 : decode cX11_layPart 143 = .ok (.goto (-129), 3) := by decide +kernel
theorem dX11_layPart_146 : decode cX11_layPart 146 = .ok (.return_, 1) := by decide +kernel
theorem dX11_consolidate_0 : decode cX11_consolidate 0 = .ok (.aload_n 0, 1) := by decide +kernel
theorem dX11_consolidate_1 : decode cX11_consolidate 1 = .ok (.aload_n 0, 1) := by decide +kernel
theorem dX11_consolidate_2 : decode cX11_consolidate 2 = .ok (.iload_n 1, 1) := by decide +kernel
theorem dX11_consolidate_3 : decode cX11_consolidate 3 = .ok (.bipush 8, 2) := by decide +kernel
theorem dX11_consolidate_5 : decode cX11_consolidate 5 = .ok (.invokevirtual 325, 3) := by decide +kernel
theorem dX11_consolidate_8 : decode cX11_consolidate 8 = .ok (.putfield 54, 3) := by decide +kernel
theorem dX11_consolidate_11 : decode cX11_consolidate 11 = .ok (.aload_n 0, 1) := by decide +kernel
theorem dX11_consolidate_12 : decode cX11_consolidate 12 = .ok (.getfield 54, 3) := by decide +kernel
theorem dX11_consolidate_15 : decode cX11_consolidate 15 = .ok (.ifCond .le 5, 3) := by decide +kernel
theorem dX11_consolidate_18 : decode cX11_consolidate 18 = .ok (.iconst 0, 1) := by decide +kernel
theorem dX11_consolidate_19 : decode cX11_consolidate 19 = .ok (.ireturn, 1) := by decide +kernel
theorem dX11_consolidate_20 : decode cX11_consolidate 20 = .ok (.aload_n 0, 1) := by decide +kernel
theorem dX11_consolidate_21 : decode cX11_consolidate 21 = .ok (.iload_n 1, 1) := by decide +kernel
theorem dX11_consolidate_22 : decode cX11_consolidate 22 = .ok (.invokevirtual 328, 3) := by decide +kernel
theorem dX11_consolidate_25 : decode cX11_consolidate 25 = .ok (.ifCond .eq 13, 3) := by decide +kernel
theorem dX11_consolidate_28 : decode cX11_consolidate 28 = .ok (.aload_n 0, 1) := by decide +kernel
theorem dX11_consolidate_29 : decode cX11_consolidate 29 = .ok (.aload_n 0, 1) := by decide +kernel
theorem dX11_consolidate_30 : decode cX11_consolidate 30 = .ok (.getfield 316, 3) := by decide +kernel
theorem dX11_consolidate_33 : decode cX11_consolidate 33 = .ok (.iconst 3, 1) := by decide +kernel
theorem dX11_consolidate_34 : decode cX11_consolidate 34 = .ok (.invokevirtual 310, 3) := by decide +kernel
theorem dX11_consolidate_37 : decode cX11_consolidate 37 = .ok (.ireturn, 1) := by decide +kernel
theorem dX11_consolidate_38 : decode cX11_consolidate 38 = .ok (.aload_n 0, 1) := by decide +kernel
theorem dX11_consolidate_39 : decode cX11_consolidate 39 = .ok (.iload_n 1, 1) := by decide +kernel
theorem dX11_consolidate_40 : decode cX11_consolidate 40 = .ok (.invokevirtual 331, 3) := by decide +kernel
theorem dX11_consolidate_43 : decode cX11_consolidate 43 = .ok (.aload_n 0, 1) := by decide +kernel
theorem dX11_consolidate_44 : decode cX11_consolidate 44 = .ok (.getfield 38, 3) := by decide +kernel
theorem dX11_consolidate_47 : decode cX11_consolidate 47 = .ok (.iload_n 1, 1) := by decide +kernel
theorem dX11_consolidate_48 : decode cX11_consolidate 48 = .ok (.iaload, 1) := by decide +kernel
theorem dX11_consolidate_49 : decode cX11_consolidate 49 = .ok (.ireturn, 1) := by decide +kernel
theorem dX11_group_0 : decode cX11_group 0 = .ok (.aload_n 0, 1) := by decide +kernel
theorem dX11_group_1 : decode cX11_group 1 = .ok (.aload_n 0, 1) := by decide +kernel
theorem dX11_group_2 : decode cX11_group 2 = .ok (.iload_n 1, 1) := by decide +kernel
theorem dX11_group_3 : decode cX11_group 3 = .ok (.bipush 8, 2) := by decide +kernel
theorem dX11_group_5 : decode cX11_group 5 = .ok (.invokevirtual 325, 3) := by decide +kernel
theorem dX11_group_8 : decode cX11_group 8 = .ok (.putfield 54, 3) := by decide +kernel
theorem dX11_group_11 : decode cX11_group 11 = .ok (.aload_n 0, 1) := by decide +kernel
theorem dX11_group_12 : decode cX11_group 12 = .ok (.getfield 54, 3) := by decide +kernel
theorem dX11_group_15 : decode cX11_group 15 = .ok (.ifCond .ne 16, 3) := by decide +kernel
theorem dX11_group_18 : decode cX11_group 18 = .ok (.aload_n 0, 1) := by decide +kernel
theorem dX11_group_19 : decode cX11_group 19 = .ok (.iload_n 1, 1) := by decide +kernel
theorem dX11_group_20 : decode cX11_group 20 = .ok (.invokevirtual 328, 3) := by decide +kernel
theorem dX11_group_23 : decode cX11_group 23 = .ok (.ifCond .eq 8, 3) := by decide +kernel
theorem dX11_group_26 : decode cX11_group 26 = .ok (.aload_n 0, 1) := by decide +kernel
theorem dX11_group_27 : decode cX11_group 27 = .ok (.iconst 3, 1) := by decide +kernel
theorem dX11_group_28 : decode cX11_group 28 = .ok (.putfield 54, 3) := by decide +kernel
theorem dX11_group_31 : decode cX11_group 31 = .ok (.aload_n 0, 1) := by decide +kernel
theorem dX11_group_32 : decode cX11_group 32 = .ok (.getfield 54, 3) := by decide +kernel
theorem dX11_group_35 : decode cX11_group 35 = .ok (.ifCond .le 5, 3) := by decide +kernel
theorem dX11_group_38 : decode cX11_group 38 = .ok (.iconst 0, 1) := by decide +kernel
theorem dX11_group_39 : decode cX11_group 39 = .ok (.ireturn, 1) := by decide +kernel
theorem dX11_group_40 : decode cX11_group 40 = .ok (.aload_n 0, 1) := by decide +kernel
theorem dX11_group_41 : decode cX11_group 41 = .ok (.iload_n 1, 1) := by decide +kernel
theorem dX11_group_42 : decode cX11_group 42 = .ok (.invokevirtual 331, 3) := by decide +kernel
theorem dX11_group_45 : decode cX11_group 45 = .ok (.iload_n 2, 1) := by decide +kernel
theorem dX11_group_46 : decode cX11_group 46 = .ok (.iconst (-1), 1) := by decide +kernel
theorem dX11_group_47 : decode cX11_group 47 = .ok (.if_icmp .ne 10, 3) := by decide +kernel
theorem dX11_group_50 : decode cX11_group 50 = .ok (.aload_n 0, 1) := by decide +kernel
theorem dX11_group_51 : decode cX11_group 51 = .ok (.getfield 41, 3) := by decide +kernel
theorem dX11_group_54 : decode cX11_group 54 = .ok (.iload_n 1, 1) := by decide +kernel
theorem dX11_group_55 : decode cX11_group 55 = .ok (.iaload, 1) := by decide +kernel
theorem dX11_group_56 : decode cX11_group 56 = .ok (.ireturn, 1) := by decide +kernel
theorem dX11_group_57 : decode cX11_group 57 = .ok (.iload_n 2, 1) := by decide +kernel
theorem dX11_group_58 : decode cX11_group 58 = .ok (.iconst 0, 1) := by decide +kernel
theorem dX11_group_59 : decode cX11_group 59 = .ok (.aload_n 0, 1) := by decide +kernel
theorem dX11_group_60 : decode cX11_group 60 = .ok (.getfield 41, 3) := by decide +kernel
theorem dX11_group_63 : decode cX11_group 63 = .ok (.iload_n 1, 1) := by decide +kernel
theorem dX11_group_64 : decode cX11_group 64 = .ok (.iaload, 1) := by decide +kernel
theorem dX11_group_65 : decode cX11_group 65 = .ok (.iconst 1, 1) := by decide +kernel
theorem dX11_group_66 : decode cX11_group 66 = .ok (.isub, 1) := by decide +kernel
theorem dX11_group_67 : decode cX11_group 67 = .ok (.invokestatic 60, 3) := by decide +kernel
theorem dX11_group_70 : decode cX11_group 70 = .ok (.ifCond .ne 9, 3) := by decide +kernel
theorem dX11_group_73 : decode cX11_group 73 = .ok (.aload_n 0, 1) := by decide +kernel
theorem dX11_group_74 : decode cX11_group 74 = .ok (.iconst 4, 1) := by decide +kernel
theorem dX11_group_75 : decode cX11_group 75 = .ok (.invokevirtual 68, 3) := by decide +kernel
theorem dX11_group_78 : decode cX11_group 78 = .ok (.ireturn, 1) := by decide +kernel
theorem dX11_group_79 : decode cX11_group 79 = .ok (.iload_n 1, 1) := by decide +kernel
theorem dX11_group_80 : decode cX11_group 80 = .ok (.istore_n 3, 1) := by decide +kernel
theorem dX11_group_81 : decode cX11_group 81 = .ok (.iconst 0, 1) := by decide +kernel
theorem dX11_group_82 : decode cX11_group 82 = .ok (.istore 4, 2) := by decide +kernel
theorem dX11_group_84 : decode cX11_group 84 = .ok (.iload 4, 2) := by decide +kernel
theorem dX11_group_86 : decode cX11_group 86 = .ok (.iload_n 2, 1) := by decide +kernel
theorem dX11_group_87 : decode cX11_group 87 = .ok (.if_icmp .ge 20, 3) := by decide +kernel
theorem dX11_group_90 : decode cX11_group 90 = .ok (.iload_n 3, 1) := by decide +kernel
theorem dX11_group_91 : decode cX11_group 91 = .ok (.aload_n 0, 1) := by decide +kernel
theorem dX11_group_92 : decode cX11_group 92 = .ok (.getfield 44, 3) := by decide +kernel
theorem dX11_group_95 : decode cX11_group 95 = .ok (.iload_n 3, 1) := by decide +kernel
theorem dX11_group_96 : decode cX11_group 96 = .ok (.iaload, 1) := by decide +kernel
theorem dX11_group_97 : decode cX11_group 97 = .ok (.iconst (-1), 1) := by decide +kernel
theorem dX11_group_98 : decode cX11_group 98 = .ok (.ixor, 1) := by decide +kernel
theorem dX11_group_99 : decode cX11_group 99 = .ok (.iand, 1) := by decide +kernel
theorem dX11_group_100 : decode cX11_group 100 = .ok (.istore_n 3, 1) := by decide +kernel
theorem dX11_group_101 : decode cX11_group 101 = .ok (.iinc 4 1, 3) := by decide +kernel
theorem dX11_group_104 : decode cX11_group 104 = .ok (.goto (-20), 3) := by decide +kernel
theorem dX11_group_107 : decode cX11_group 107 = .ok (.aload_n 0, 1) := by decide +kernel
theorem dX11_group_108 : decode cX11_group 108 = .ok (.getfield 44, 3) := by decide +kernel
theorem dX11_group_111 : decode cX11_group 111 = .ok (.iload_n 3, 1) := by decide +kernel
theorem dX11_group_112 : decode cX11_group 112 = .ok (.iaload, 1) := by decide +kernel
theorem dX11_group_113 : decode cX11_group 113 = .ok (.ireturn, 1) := by decide +kernel
theorem dX11_searched_0 : decode cX11_searched 0 = .ok (.aload_n 0, 1) := by decide +kernel
theorem dX11_searched_1 : decode cX11_searched 1 = .ok (.aload_n 0, 1) := by decide +kernel
theorem dX11_searched_2 : decode cX11_searched 2 = .ok (.iload_n 1, 1) := by decide +kernel
theorem dX11_searched_3 : decode cX11_searched 3 = .ok (.bipush 6, 2) := by decide +kernel
theorem dX11_searched_5 : decode cX11_searched 5 = .ok (.invokevirtual 325, 3) := by decide +kernel
theorem dX11_searched_8 : decode cX11_searched 8 = .ok (.putfield 54, 3) := by decide +kernel
theorem dX11_searched_11 : decode cX11_searched 11 = .ok (.aload_n 0, 1) := by decide +kernel
theorem dX11_searched_12 : decode cX11_searched 12 = .ok (.getfield 54, 3) := by decide +kernel
theorem dX11_searched_15 : decode cX11_searched 15 = .ok (.ifCond .ne 16, 3) := by decide +kernel
theorem dX11_searched_18 : decode cX11_searched 18 = .ok (.aload_n 0, 1) := by decide +kernel
theorem dX11_searched_19 : decode cX11_searched 19 = .ok (.iload_n 1, 1) := by decide +kernel
theorem dX11_searched_20 : decode cX11_searched 20 = .ok (.invokevirtual 328, 3) := by decide +kernel
theorem dX11_searched_23 : decode cX11_searched 23 = .ok (.ifCond .eq 8, 3) := by decide +kernel
theorem dX11_searched_26 : decode cX11_searched 26 = .ok (.aload_n 0, 1) := by decide +kernel
theorem dX11_searched_27 : decode cX11_searched 27 = .ok (.iconst 3, 1) := by decide +kernel
theorem dX11_searched_28 : decode cX11_searched 28 = .ok (.putfield 54, 3) := by decide +kernel
theorem dX11_searched_31 : decode cX11_searched 31 = .ok (.aload_n 0, 1) := by decide +kernel
theorem dX11_searched_32 : decode cX11_searched 32 = .ok (.getfield 54, 3) := by decide +kernel
theorem dX11_searched_35 : decode cX11_searched 35 = .ok (.ifCond .le 5, 3) := by decide +kernel
theorem dX11_searched_38 : decode cX11_searched 38 = .ok (.iconst 0, 1) := by decide +kernel
theorem dX11_searched_39 : decode cX11_searched 39 = .ok (.ireturn, 1) := by decide +kernel
theorem dX11_searched_40 : decode cX11_searched 40 = .ok (.aload_n 0, 1) := by decide +kernel
theorem dX11_searched_41 : decode cX11_searched 41 = .ok (.iload_n 1, 1) := by decide +kernel
theorem dX11_searched_42 : decode cX11_searched 42 = .ok (.invokevirtual 331, 3) := by decide +kernel
theorem dX11_searched_45 : decode cX11_searched 45 = .ok (.aload_n 0, 1) := by decide +kernel
theorem dX11_searched_46 : decode cX11_searched 46 = .ok (.getfield 38, 3) := by decide +kernel
theorem dX11_searched_49 : decode cX11_searched 49 = .ok (.iload_n 1, 1) := by decide +kernel
theorem dX11_searched_50 : decode cX11_searched 50 = .ok (.iaload, 1) := by decide +kernel
theorem dX11_searched_51 : decode cX11_searched 51 = .ok (.ireturn, 1) := by decide +kernel
theorem dX11_findsPair_0 : decode cX11_findsPair 0 = .ok (.iconst 0, 1) := by decide +kernel
theorem dX11_findsPair_1 : decode cX11_findsPair 1 = .ok (.istore_n 1, 1) := by decide +kernel
theorem dX11_findsPair_2 : decode cX11_findsPair 2 = .ok (.aload_n 0, 1) := by decide +kernel
theorem dX11_findsPair_3 : decode cX11_findsPair 3 = .ok (.iconst (-1), 1) := by decide +kernel
theorem dX11_findsPair_4 : decode cX11_findsPair 4 = .ok (.putfield 334, 3) := by decide +kernel
theorem dX11_findsPair_7 : decode cX11_findsPair 7 = .ok (.iconst 0, 1) := by decide +kernel
theorem dX11_findsPair_8 : decode cX11_findsPair 8 = .ok (.istore_n 2, 1) := by decide +kernel
theorem dX11_findsPair_9 : decode cX11_findsPair 9 = .ok (.iload_n 2, 1) := by decide +kernel
theorem dX11_findsPair_10 : decode cX11_findsPair 10 = .ok (.aload_n 0, 1) := by decide +kernel
theorem dX11_findsPair_11 : decode cX11_findsPair 11 = .ok (.getfield 337, 3) := by decide +kernel
theorem dX11_findsPair_14 : decode cX11_findsPair 14 = .ok (.if_icmp .ge 196, 3) := by decide +kernel
theorem dX11_findsPair_17 : decode cX11_findsPair 17 = .ok (.iconst 0, 1) := by decide +kernel
theorem dX11_findsPair_18 : decode cX11_findsPair 18 = .ok (.istore_n 3, 1) := by decide +kernel
theorem dX11_findsPair_19 : decode cX11_findsPair 19 = .ok (.iload_n 3, 1) := by decide +kernel
theorem dX11_findsPair_20 : decode cX11_findsPair 20 = .ok (.aload_n 0, 1) := by decide +kernel
theorem dX11_findsPair_21 : decode cX11_findsPair 21 = .ok (.getfield 337, 3) := by decide +kernel
theorem dX11_findsPair_24 : decode cX11_findsPair 24 = .ok (.if_icmp .ge 180, 3) := by decide +kernel
theorem dX11_findsPair_27 : decode cX11_findsPair 27 = .ok (.aload_n 0, 1) := by decide +kernel
theorem dX11_findsPair_28 : decode cX11_findsPair 28 = .ok (.getfield 47, 3) := by decide +kernel
theorem dX11_findsPair_31 : decode cX11_findsPair 31 = .ok (.iload_n 2, 1) := by decide +kernel
theorem dX11_findsPair_32 : decode cX11_findsPair 32 = .ok (.iaload, 1) := by decide +kernel
theorem dX11_findsPair_33 : decode cX11_findsPair 33 = .ok (.aload_n 0, 1) := by decide +kernel
theorem dX11_findsPair_34 : decode cX11_findsPair 34 = .ok (.getfield 47, 3) := by decide +kernel
theorem dX11_findsPair_37 : decode cX11_findsPair 37 = .ok (.iload_n 3, 1) := by decide +kernel
theorem dX11_findsPair_38 : decode cX11_findsPair 38 = .ok (.iaload, 1) := by decide +kernel
theorem dX11_findsPair_39 : decode cX11_findsPair 39 = .ok (.ior, 1) := by decide +kernel
theorem dX11_findsPair_40 : decode cX11_findsPair 40 = .ok (.istore 4, 2) := by decide +kernel
theorem dX11_findsPair_42 : decode cX11_findsPair 42 = .ok (.aload_n 0, 1) := by decide +kernel
theorem dX11_findsPair_43 : decode cX11_findsPair 43 = .ok (.getfield 47, 3) := by decide +kernel
theorem dX11_findsPair_46 : decode cX11_findsPair 46 = .ok (.iload_n 2, 1) := by decide +kernel
theorem dX11_findsPair_47 : decode cX11_findsPair 47 = .ok (.iaload, 1) := by decide +kernel
theorem dX11_findsPair_48 : decode cX11_findsPair 48 = .ok (.aload_n 0, 1) := by decide +kernel
theorem dX11_findsPair_49 : decode cX11_findsPair 49 = .ok (.getfield 47, 3) := by decide +kernel
theorem dX11_findsPair_52 : decode cX11_findsPair 52 = .ok (.iload_n 3, 1) := by decide +kernel
theorem dX11_findsPair_53 : decode cX11_findsPair 53 = .ok (.iaload, 1) := by decide +kernel
theorem dX11_findsPair_54 : decode cX11_findsPair 54 = .ok (.if_icmp .ge 144, 3) := by decide +kernel
theorem dX11_findsPair_57 : decode cX11_findsPair 57 = .ok (.aload_n 0, 1) := by decide +kernel
theorem dX11_findsPair_58 : decode cX11_findsPair 58 = .ok (.getfield 35, 3) := by decide +kernel
theorem dX11_findsPair_61 : decode cX11_findsPair 61 = .ok (.iload 4, 2) := by decide +kernel
theorem dX11_findsPair_63 : decode cX11_findsPair 63 = .ok (.iaload, 1) := by decide +kernel
theorem dX11_findsPair_64 : decode cX11_findsPair 64 = .ok (.ifCond .lt 134, 3) := by decide +kernel
theorem dX11_findsPair_67 : decode cX11_findsPair 67 = .ok (.aload_n 0, 1) := by decide +kernel
theorem dX11_findsPair_68 : decode cX11_findsPair 68 = .ok (.getfield 35, 3) := by decide +kernel
theorem dX11_findsPair_71 : decode cX11_findsPair 71 = .ok (.aload_n 0, 1) := by decide +kernel
theorem dX11_findsPair_72 : decode cX11_findsPair 72 = .ok (.getfield 47, 3) := by decide +kernel
theorem dX11_findsPair_75 : decode cX11_findsPair 75 = .ok (.iload_n 2, 1) := by decide +kernel
theorem dX11_findsPair_76 : decode cX11_findsPair 76 = .ok (.iaload, 1) := by decide +kernel
theorem dX11_findsPair_77 : decode cX11_findsPair 77 = .ok (.iaload, 1) := by decide +kernel
theorem dX11_findsPair_78 : decode cX11_findsPair 78 = .ok (.aload_n 0, 1) := by decide +kernel
theorem dX11_findsPair_79 : decode cX11_findsPair 79 = .ok (.getfield 35, 3) := by decide +kernel
theorem dX11_findsPair_82 : decode cX11_findsPair 82 = .ok (.aload_n 0, 1) := by decide +kernel
theorem dX11_findsPair_83 : decode cX11_findsPair 83 = .ok (.getfield 47, 3) := by decide +kernel
theorem dX11_findsPair_86 : decode cX11_findsPair 86 = .ok (.iload_n 3, 1) := by decide +kernel
theorem dX11_findsPair_87 : decode cX11_findsPair 87 = .ok (.iaload, 1) := by decide +kernel
theorem dX11_findsPair_88 : decode cX11_findsPair 88 = .ok (.iaload, 1) := by decide +kernel
theorem dX11_findsPair_89 : decode cX11_findsPair 89 = .ok (.iadd, 1) := by decide +kernel
theorem dX11_findsPair_90 : decode cX11_findsPair 90 = .ok (.aload_n 0, 1) := by decide +kernel
theorem dX11_findsPair_91 : decode cX11_findsPair 91 = .ok (.getfield 35, 3) := by decide +kernel
theorem dX11_findsPair_94 : decode cX11_findsPair 94 = .ok (.iload 4, 2) := by decide +kernel
theorem dX11_findsPair_96 : decode cX11_findsPair 96 = .ok (.iaload, 1) := by decide +kernel
theorem dX11_findsPair_97 : decode cX11_findsPair 97 = .ok (.isub, 1) := by decide +kernel
theorem dX11_findsPair_98 : decode cX11_findsPair 98 = .ok (.istore 5, 2) := by decide +kernel
theorem dX11_findsPair_100 : decode cX11_findsPair 100 = .ok (.aload_n 0, 1) := by decide +kernel
theorem dX11_findsPair_101 : decode cX11_findsPair 101 = .ok (.getfield 334, 3) := by decide +kernel
theorem dX11_findsPair_104 : decode cX11_findsPair 104 = .ok (.ifCond .lt 67, 3) := by decide +kernel
theorem dX11_findsPair_107 : decode cX11_findsPair 107 = .ok (.iload 5, 2) := by decide +kernel
theorem dX11_findsPair_109 : decode cX11_findsPair 109 = .ok (.iload_n 1, 1) := by decide +kernel
theorem dX11_findsPair_110 : decode cX11_findsPair 110 = .ok (.if_icmp .ne 61, 3) := by decide +kernel
theorem dX11_findsPair_113 : decode cX11_findsPair 113 = .ok (.aload_n 0, 1) := by decide +kernel
theorem dX11_findsPair_114 : decode cX11_findsPair 114 = .ok (.getfield 47, 3) := by decide +kernel
theorem dX11_findsPair_117 : decode cX11_findsPair 117 = .ok (.iload_n 2, 1) := by decide +kernel
theorem dX11_findsPair_118 : decode cX11_findsPair 118 = .ok (.iaload, 1) := by decide +kernel
theorem dX11_findsPair_119 : decode cX11_findsPair 119 = .ok (.aload_n 0, 1) := by decide +kernel
theorem dX11_findsPair_120 : decode cX11_findsPair 120 = .ok (.getfield 47, 3) := by decide +kernel
theorem dX11_findsPair_123 : decode cX11_findsPair 123 = .ok (.aload_n 0, 1) := by decide +kernel
theorem dX11_findsPair_124 : decode cX11_findsPair 124 = .ok (.getfield 334, 3) := by decide +kernel
theorem dX11_findsPair_127 : decode cX11_findsPair 127 = .ok (.iaload, 1) := by decide +kernel
theorem dX11_findsPair_128 : decode cX11_findsPair 128 = .ok (.if_icmp .lt 39, 3) := by decide +kernel
theorem dX11_findsPair_131 : decode cX11_findsPair 131 = .ok (.aload_n 0, 1) := by decide +kernel
theorem dX11_findsPair_132 : decode cX11_findsPair 132 = .ok (.getfield 47, 3) := by decide +kernel
theorem dX11_findsPair_135 : decode cX11_findsPair 135 = .ok (.iload_n 2, 1) := by decide +kernel
theorem dX11_findsPair_136 : decode cX11_findsPair 136 = .ok (.iaload, 1) := by decide +kernel
theorem dX11_findsPair_137 : decode cX11_findsPair 137 = .ok (.aload_n 0, 1) := by decide +kernel
theorem dX11_findsPair_138 : decode cX11_findsPair 138 = .ok (.getfield 47, 3) := by decide +kernel
theorem dX11_findsPair_141 : decode cX11_findsPair 141 = .ok (.aload_n 0, 1) := by decide +kernel
theorem dX11_findsPair_142 : decode cX11_findsPair 142 = .ok (.getfield 334, 3) := by decide +kernel
theorem dX11_findsPair_145 : decode cX11_findsPair 145 = .ok (.iaload, 1) := by decide +kernel
theorem dX11_findsPair_146 : decode cX11_findsPair 146 = .ok (.if_icmp .ne 25, 3) := by decide +kernel
theorem dX11_findsPair_149 : decode cX11_findsPair 149 = .ok (.aload_n 0, 1) := by decide +kernel
theorem dX11_findsPair_150 : decode cX11_findsPair 150 = .ok (.getfield 47, 3) := by decide +kernel
theorem dX11_findsPair_153 : decode cX11_findsPair 153 = .ok (.iload_n 3, 1) := by decide +kernel
theorem dX11_findsPair_154 : decode cX11_findsPair 154 = .ok (.iaload, 1) := by decide +kernel
theorem dX11_findsPair_155 : decode cX11_findsPair 155 = .ok (.aload_n 0, 1) := by decide +kernel
theorem dX11_findsPair_156 : decode cX11_findsPair 156 = .ok (.getfield 47, 3) := by decide +kernel
theorem dX11_findsPair_159 : decode cX11_findsPair 159 = .ok (.aload_n 0, 1) := by decide +kernel
theorem dX11_findsPair_160 : decode cX11_findsPair 160 = .ok (.getfield 340, 3) := by decide +kernel
theorem dX11_findsPair_163 : decode cX11_findsPair 163 = .ok (.iaload, 1) := by decide +kernel
theorem dX11_findsPair_164 : decode cX11_findsPair 164 = .ok (.if_icmp .ge 7, 3) := by decide +kernel
theorem dX11_findsPair_167 : decode cX11_findsPair 167 = .ok (.iconst 1, 1) := by decide +kernel
theorem dX11_findsPair_168 : decode cX11_findsPair 168 = .ok (.goto 4, 3) := by decide +kernel
theorem dX11_findsPair_171 : decode cX11_findsPair 171 = .ok (.iconst 0, 1) := by decide +kernel
theorem dX11_findsPair_172 : decode cX11_findsPair 172 = .ok (.istore 6, 2) := by decide +kernel
theorem dX11_findsPair_174 : decode cX11_findsPair 174 = .ok (.iload 5, 2) := by decide +kernel
theorem dX11_findsPair_176 : decode cX11_findsPair 176 = .ok (.iload_n 1, 1) := by decide +kernel
theorem dX11_findsPair_177 : decode cX11_findsPair 177 = .ok (.if_icmp .gt 8, 3) := by decide +kernel
theorem dX11_findsPair_180 : decode cX11_findsPair 180 = .ok (.iload 6, 2) := by decide +kernel
theorem dX11_findsPair_182 : decode cX11_findsPair 182 = .ok (.ifCond .eq 16, 3) := by decide +kernel
theorem dX11_findsPair_185 : decode cX11_findsPair 185 = .ok (.iload 5, 2) := by decide +kernel
theorem dX11_findsPair_187 : decode cX11_findsPair 187 = .ok (.istore_n 1, 1) := by decide +kernel
theorem dX11_findsPair_188 : decode cX11_findsPair 188 = .ok (.aload_n 0, 1) := by decide +kernel
theorem dX11_findsPair_189 : decode cX11_findsPair 189 = .ok (.iload_n 2, 1) := by decide +kernel
theorem dX11_findsPair_190 : decode cX11_findsPair 190 = .ok (.putfield 334, 3) := by decide +kernel
theorem dX11_findsPair_193 : decode cX11_findsPair 193 = .ok (.aload_n 0, 1) := by decide +kernel
theorem dX11_findsPair_194 : decode cX11_findsPair 194 = .ok (.iload_n 3, 1) := by decide +kernel
theorem dX11_findsPair_195 : decode cX11_findsPair 195 = .ok (.putfield 340, 3) := by decide +kernel
theorem dX11_findsPair_198 : decode cX11_findsPair 198 = .ok (.iinc 3 1, 3) := by decide +kernel
theorem dX11_findsPair_201 : decode cX11_findsPair 201 = .ok (.goto (-182), 3) := by decide +kernel
theorem dX11_findsPair_204 : decode cX11_findsPair 204 = .ok (.iinc 2 1, 3) := by decide +kernel
theorem dX11_findsPair_207 : decode cX11_findsPair 207 = .ok (.goto (-198), 3) := by decide +kernel
theorem dX11_findsPair_210 : decode cX11_findsPair 210 = .ok (.aload_n 0, 1) := by decide +kernel
theorem dX11_findsPair_211 : decode cX11_findsPair 211 = .ok (.getfield 334, 3) := by decide +kernel
theorem dX11_findsPair_214 : decode cX11_findsPair 214 = .ok (.ifCond .lt 7, 3) := by decide +kernel
theorem dX11_findsPair_217 : decode cX11_findsPair 217 = .ok (.iconst 1, 1) := by decide +kernel
theorem dX11_findsPair_218 : decode cX11_findsPair 218 = .ok (.goto 4, 3) := by decide +kernel
theorem dX11_findsPair_221 : decode cX11_findsPair 221 = .ok (.iconst 0, 1) := by decide +kernel
theorem dX11_findsPair_222 : decode cX11_findsPair 222 = .ok (.ireturn, 1) := by decide +kernel
theorem dX11_layMerged_0 : decode cX11_layMerged 0 = .ok (.aload_n 0, 1) := by decide +kernel
theorem dX11_layMerged_1 : decode cX11_layMerged 1 = .ok (.iload_n 1, 1) := by decide +kernel
theorem dX11_layMerged_2 : decode cX11_layMerged 2 = .ok (.invokevirtual 319, 3) := by decide +kernel
theorem dX11_layMerged_5 : decode cX11_layMerged 5 = .ok (.aload_n 0, 1) := by decide +kernel
theorem dX11_layMerged_6 : decode cX11_layMerged 6 = .ok (.iconst 0, 1) := by decide +kernel
theorem dX11_layMerged_7 : decode cX11_layMerged 7 = .ok (.putfield 337, 3) := by decide +kernel
theorem dX11_layMerged_10 : decode cX11_layMerged 10 = .ok (.iconst 0, 1) := by decide +kernel
theorem dX11_layMerged_11 : decode cX11_layMerged 11 = .ok (.istore_n 2, 1) := by decide +kernel
theorem dX11_layMerged_12 : decode cX11_layMerged 12 = .ok (.iload_n 2, 1) := by decide +kernel
theorem dX11_layMerged_13 : decode cX11_layMerged 13 = .ok (.aload_n 0, 1) := by decide +kernel
theorem dX11_layMerged_14 : decode cX11_layMerged 14 = .ok (.getfield 9, 3) := by decide +kernel
theorem dX11_layMerged_17 : decode cX11_layMerged 17 = .ok (.iconst 1, 1) := by decide +kernel
theorem dX11_layMerged_18 : decode cX11_layMerged 18 = .ok (.iaload, 1) := by decide +kernel
theorem dX11_layMerged_19 : decode cX11_layMerged 19 = .ok (.if_icmp .ge 39, 3) := by decide +kernel
theorem dX11_layMerged_22 : decode cX11_layMerged 22 = .ok (.iload_n 1, 1) := by decide +kernel
theorem dX11_layMerged_23 : decode cX11_layMerged 23 = .ok (.iload_n 2, 1) := by decide +kernel
theorem dX11_layMerged_24 : decode cX11_layMerged 24 = .ok (.invokestatic 223, 3) := by decide +kernel
theorem dX11_layMerged_27 : decode cX11_layMerged 27 = .ok (.ifCond .eq 25, 3) := by decide +kernel
theorem dX11_layMerged_30 : decode cX11_layMerged 30 = .ok (.aload_n 0, 1) := by decide +kernel
theorem dX11_layMerged_31 : decode cX11_layMerged 31 = .ok (.getfield 47, 3) := by decide +kernel
theorem dX11_layMerged_34 : decode cX11_layMerged 34 = .ok (.aload_n 0, 1) := by decide +kernel
theorem dX11_layMerged_35 : decode cX11_layMerged 35 = .ok (.getfield 337, 3) := by decide +kernel
theorem dX11_layMerged_38 : decode cX11_layMerged 38 = .ok (.iconst 1, 1) := by decide +kernel
theorem dX11_layMerged_39 : decode cX11_layMerged 39 = .ok (.iload_n 2, 1) := by decide +kernel
theorem dX11_layMerged_40 : decode cX11_layMerged 40 = .ok (.ishl, 1) := by decide +kernel
theorem dX11_layMerged_41 : decode cX11_layMerged 41 = .ok (.iastore, 1) := by decide +kernel
theorem dX11_layMerged_42 : decode cX11_layMerged 42 = .ok (.aload_n 0, 1) := by decide +kernel
theorem dX11_layMerged_43 : decode cX11_layMerged 43 = .ok (.dup, 1) := by decide +kernel
theorem dX11_layMerged_44 : decode cX11_layMerged 44 = .ok (.getfield 337, 3) := by decide +kernel
theorem dX11_layMerged_47 : decode cX11_layMerged 47 = .ok (.iconst 1, 1) := by decide +kernel
theorem dX11_layMerged_48 : decode cX11_layMerged 48 = .ok (.iadd, 1) := by decide +kernel
theorem dX11_layMerged_49 : decode cX11_layMerged 49 = .ok (.putfield 337, 3) := by decide +kernel
theorem dX11_layMerged_52 : decode cX11_layMerged 52 = .ok (.iinc 2 1, 3) := by decide +kernel
theorem dX11_layMerged_55 : decode cX11_layMerged 55 = .ok (.goto (-43), 3) := by decide +kernel
theorem dX11_layMerged_58 : decode cX11_layMerged 58 = .ok (.aload_n 0, 1) := by decide +kernel
theorem dX11_layMerged_59 : decode cX11_layMerged 59 = .ok (.invokevirtual 343, 3) := by decide +kernel
theorem dX11_layMerged_62 : decode cX11_layMerged 62 = .ok (.ifCond .eq 55, 3) := by decide +kernel
theorem dX11_layMerged_65 : decode cX11_layMerged 65 = .ok (.aload_n 0, 1) := by decide +kernel
theorem dX11_layMerged_66 : decode cX11_layMerged 66 = .ok (.getfield 47, 3) := by decide +kernel
theorem dX11_layMerged_69 : decode cX11_layMerged 69 = .ok (.aload_n 0, 1) := by decide +kernel
theorem dX11_layMerged_70 : decode cX11_layMerged 70 = .ok (.getfield 334, 3) := by decide +kernel
theorem dX11_layMerged_73 : decode cX11_layMerged 73 = .ok (.dup2, 1) := by decide +kernel
theorem dX11_layMerged_74 : decode cX11_layMerged 74 = .ok (.iaload, 1) := by decide +kernel
theorem dX11_layMerged_75 : decode cX11_layMerged 75 = .ok (.aload_n 0, 1) := by decide +kernel
theorem dX11_layMerged_76 : decode cX11_layMerged 76 = .ok (.getfield 47, 3) := by decide +kernel
theorem dX11_layMerged_79 : decode cX11_layMerged 79 = .ok (.aload_n 0, 1) := by decide +kernel
theorem dX11_layMerged_80 : decode cX11_layMerged 80 = .ok (.getfield 340, 3) := by decide +kernel
theorem dX11_layMerged_83 : decode cX11_layMerged 83 = .ok (.iaload, 1) := by decide +kernel
theorem dX11_layMerged_84 : decode cX11_layMerged 84 = .ok (.ior, 1) := by decide +kernel
theorem dX11_layMerged_85 : decode cX11_layMerged 85 = .ok (.iastore, 1) := by decide +kernel
theorem dX11_layMerged_86 : decode cX11_layMerged 86 = .ok (.aload_n 0, 1) := by decide +kernel
theorem dX11_layMerged_87 : decode cX11_layMerged 87 = .ok (.dup, 1) := by decide +kernel
theorem dX11_layMerged_88 : decode cX11_layMerged 88 = .ok (.getfield 337, 3) := by decide +kernel
theorem dX11_layMerged_91 : decode cX11_layMerged 91 = .ok (.iconst 1, 1) := by decide +kernel
theorem dX11_layMerged_92 : decode cX11_layMerged 92 = .ok (.isub, 1) := by decide +kernel
theorem dX11_layMerged_93 : decode cX11_layMerged 93 = .ok (.putfield 337, 3) := by decide +kernel
theorem dX11_layMerged_96 : decode cX11_layMerged 96 = .ok (.aload_n 0, 1) := by decide +kernel
theorem dX11_layMerged_97 : decode cX11_layMerged 97 = .ok (.getfield 47, 3) := by decide +kernel
theorem dX11_layMerged_100 : decode cX11_layMerged 100 = .ok (.aload_n 0, 1) := by decide +kernel
theorem dX11_layMerged_101 : decode cX11_layMerged 101 = .ok (.getfield 340, 3) := by decide +kernel
theorem dX11_layMerged_104 : decode cX11_layMerged 104 = .ok (.aload_n 0, 1) := by decide +kernel
theorem dX11_layMerged_105 : decode cX11_layMerged 105 = .ok (.getfield 47, 3) := by decide +kernel
theorem dX11_layMerged_108 : decode cX11_layMerged 108 = .ok (.aload_n 0, 1) := by decide +kernel
theorem dX11_layMerged_109 : decode cX11_layMerged 109 = .ok (.getfield 337, 3) := by decide +kernel
theorem dX11_layMerged_112 : decode cX11_layMerged 112 = .ok (.iaload, 1) := by decide +kernel
theorem dX11_layMerged_113 : decode cX11_layMerged 113 = .ok (.iastore, 1) := by decide +kernel
theorem dX11_layMerged_114 : decode cX11_layMerged 114 = .ok (.goto (-56), 3) := by decide +kernel
theorem dX11_layMerged_117 : decode cX11_layMerged 117 = .ok (.return_, 1) := by decide +kernel
theorem dX11_merged_0 : decode cX11_merged 0 = .ok (.aload_n 0, 1) := by decide +kernel
theorem dX11_merged_1 : decode cX11_merged 1 = .ok (.aload_n 0, 1) := by decide +kernel
theorem dX11_merged_2 : decode cX11_merged 2 = .ok (.iload_n 1, 1) := by decide +kernel
theorem dX11_merged_3 : decode cX11_merged 3 = .ok (.bipush 8, 2) := by decide +kernel
theorem dX11_merged_5 : decode cX11_merged 5 = .ok (.invokevirtual 325, 3) := by decide +kernel
theorem dX11_merged_8 : decode cX11_merged 8 = .ok (.putfield 54, 3) := by decide +kernel
theorem dX11_merged_11 : decode cX11_merged 11 = .ok (.aload_n 0, 1) := by decide +kernel
theorem dX11_merged_12 : decode cX11_merged 12 = .ok (.getfield 54, 3) := by decide +kernel
theorem dX11_merged_15 : decode cX11_merged 15 = .ok (.ifCond .ne 17, 3) := by decide +kernel
theorem dX11_merged_18 : decode cX11_merged 18 = .ok (.iload_n 2, 1) := by decide +kernel
theorem dX11_merged_19 : decode cX11_merged 19 = .ok (.iconst 0, 1) := by decide +kernel
theorem dX11_merged_20 : decode cX11_merged 20 = .ok (.iconst 2, 1) := by decide +kernel
theorem dX11_merged_21 : decode cX11_merged 21 = .ok (.invokestatic 60, 3) := by decide +kernel
theorem dX11_merged_24 : decode cX11_merged 24 = .ok (.ifCond .ne 8, 3) := by decide +kernel
theorem dX11_merged_27 : decode cX11_merged 27 = .ok (.aload_n 0, 1) := by decide +kernel
theorem dX11_merged_28 : decode cX11_merged 28 = .ok (.iconst 2, 1) := by decide +kernel
theorem dX11_merged_29 : decode cX11_merged 29 = .ok (.putfield 54, 3) := by decide +kernel
theorem dX11_merged_32 : decode cX11_merged 32 = .ok (.aload_n 0, 1) := by decide +kernel
theorem dX11_merged_33 : decode cX11_merged 33 = .ok (.getfield 54, 3) := by decide +kernel
theorem dX11_merged_36 : decode cX11_merged 36 = .ok (.ifCond .ne 16, 3) := by decide +kernel
theorem dX11_merged_39 : decode cX11_merged 39 = .ok (.aload_n 0, 1) := by decide +kernel
theorem dX11_merged_40 : decode cX11_merged 40 = .ok (.iload_n 1, 1) := by decide +kernel
theorem dX11_merged_41 : decode cX11_merged 41 = .ok (.invokevirtual 328, 3) := by decide +kernel
theorem dX11_merged_44 : decode cX11_merged 44 = .ok (.ifCond .eq 8, 3) := by decide +kernel
theorem dX11_merged_47 : decode cX11_merged 47 = .ok (.aload_n 0, 1) := by decide +kernel
theorem dX11_merged_48 : decode cX11_merged 48 = .ok (.iconst 3, 1) := by decide +kernel
theorem dX11_merged_49 : decode cX11_merged 49 = .ok (.putfield 54, 3) := by decide +kernel
theorem dX11_merged_52 : decode cX11_merged 52 = .ok (.aload_n 0, 1) := by decide +kernel
theorem dX11_merged_53 : decode cX11_merged 53 = .ok (.getfield 54, 3) := by decide +kernel
theorem dX11_merged_56 : decode cX11_merged 56 = .ok (.ifCond .le 5, 3) := by decide +kernel
theorem dX11_merged_59 : decode cX11_merged 59 = .ok (.iconst 0, 1) := by decide +kernel
theorem dX11_merged_60 : decode cX11_merged 60 = .ok (.ireturn, 1) := by decide +kernel
theorem dX11_merged_61 : decode cX11_merged 61 = .ok (.aload_n 0, 1) := by decide +kernel
theorem dX11_merged_62 : decode cX11_merged 62 = .ok (.iload_n 1, 1) := by decide +kernel
theorem dX11_merged_63 : decode cX11_merged 63 = .ok (.invokevirtual 347, 3) := by decide +kernel
theorem dX11_merged_66 : decode cX11_merged 66 = .ok (.iconst 0, 1) := by decide +kernel
theorem dX11_merged_67 : decode cX11_merged 67 = .ok (.istore_n 3, 1) := by decide +kernel
theorem dX11_merged_68 : decode cX11_merged 68 = .ok (.iconst 0, 1) := by decide +kernel
theorem dX11_merged_69 : decode cX11_merged 69 = .ok (.istore 4, 2) := by decide +kernel
theorem dX11_merged_71 : decode cX11_merged 71 = .ok (.iconst 0, 1) := by decide +kernel
theorem dX11_merged_72 : decode cX11_merged 72 = .ok (.istore 5, 2) := by decide +kernel
theorem dX11_merged_74 : decode cX11_merged 74 = .ok (.iload 5, 2) := by decide +kernel
theorem dX11_merged_76 : decode cX11_merged 76 = .ok (.aload_n 0, 1) := by decide +kernel
theorem dX11_merged_77 : decode cX11_merged 77 = .ok (.getfield 337, 3) := by decide +kernel
theorem dX11_merged_80 : decode cX11_merged 80 = .ok (.if_icmp .ge 55, 3) := by decide +kernel
theorem dX11_merged_83 : decode cX11_merged 83 = .ok (.iload_n 3, 1) := by decide +kernel
theorem dX11_merged_84 : decode cX11_merged 84 = .ok (.aload_n 0, 1) := by decide +kernel
theorem dX11_merged_85 : decode cX11_merged 85 = .ok (.getfield 35, 3) := by decide +kernel
theorem dX11_merged_88 : decode cX11_merged 88 = .ok (.aload_n 0, 1) := by decide +kernel
theorem dX11_merged_89 : decode cX11_merged 89 = .ok (.getfield 47, 3) := by decide +kernel
theorem dX11_merged_92 : decode cX11_merged 92 = .ok (.iload 5, 2) := by decide +kernel
theorem dX11_merged_94 : decode cX11_merged 94 = .ok (.iaload, 1) := by decide +kernel
theorem dX11_merged_95 : decode cX11_merged 95 = .ok (.iaload, 1) := by decide +kernel
theorem dX11_merged_96 : decode cX11_merged 96 = .ok (.iadd, 1) := by decide +kernel
theorem dX11_merged_97 : decode cX11_merged 97 = .ok (.istore_n 3, 1) := by decide +kernel
theorem dX11_merged_98 : decode cX11_merged 98 = .ok (.aload_n 0, 1) := by decide +kernel
theorem dX11_merged_99 : decode cX11_merged 99 = .ok (.getfield 47, 3) := by decide +kernel
theorem dX11_merged_102 : decode cX11_merged 102 = .ok (.iload 5, 2) := by decide +kernel
theorem dX11_merged_104 : decode cX11_merged 104 = .ok (.iaload, 1) := by decide +kernel
theorem dX11_merged_105 : decode cX11_merged 105 = .ok (.iload_n 1, 1) := by decide +kernel
theorem dX11_merged_106 : decode cX11_merged 106 = .ok (.invokestatic 244, 3) := by decide +kernel
theorem dX11_merged_109 : decode cX11_merged 109 = .ok (.invokestatic 223, 3) := by decide +kernel
theorem dX11_merged_112 : decode cX11_merged 112 = .ok (.ifCond .eq 13, 3) := by decide +kernel
theorem dX11_merged_115 : decode cX11_merged 115 = .ok (.aload_n 0, 1) := by decide +kernel
theorem dX11_merged_116 : decode cX11_merged 116 = .ok (.getfield 47, 3) := by decide +kernel
theorem dX11_merged_119 : decode cX11_merged 119 = .ok (.iload 5, 2) := by decide +kernel
theorem dX11_merged_121 : decode cX11_merged 121 = .ok (.iaload, 1) := by decide +kernel
theorem dX11_merged_122 : decode cX11_merged 122 = .ok (.goto 5, 3) := by decide +kernel
theorem dX11_merged_125 : decode cX11_merged 125 = .ok (.iload 4, 2) := by decide +kernel
theorem dX11_merged_127 : decode cX11_merged 127 = .ok (.istore 4, 2) := by decide +kernel
theorem dX11_merged_129 : decode cX11_merged 129 = .ok (.iinc 5 1, 3) := by decide +kernel
theorem dX11_merged_132 : decode cX11_merged 132 = .ok (.goto (-58), 3) := by decide +kernel
theorem dX11_merged_135 : decode cX11_merged 135 = .ok (.iload_n 2, 1) := by decide +kernel
theorem dX11_merged_136 : decode cX11_merged 136 = .ok (.ifCond .ne 7, 3) := by decide +kernel
theorem dX11_merged_139 : decode cX11_merged 139 = .ok (.iload_n 3, 1) := by decide +kernel
theorem dX11_merged_140 : decode cX11_merged 140 = .ok (.goto 17, 3) := by decide +kernel
theorem dX11_merged_143 : decode cX11_merged 143 = .ok (.iload_n 2, 1) := by decide +kernel
theorem dX11_merged_144 : decode cX11_merged 144 = .ok (.iconst 1, 1) := by decide +kernel
theorem dX11_merged_145 : decode cX11_merged 145 = .ok (.if_icmp .ne 10, 3) := by decide +kernel
theorem dX11_merged_148 : decode cX11_merged 148 = .ok (.aload_n 0, 1) := by decide +kernel
theorem dX11_merged_149 : decode cX11_merged 149 = .ok (.getfield 337, 3) := by decide +kernel
theorem dX11_merged_152 : decode cX11_merged 152 = .ok (.goto 5, 3) := by decide +kernel
theorem dX11_merged_155 : decode cX11_merged 155 = .ok (.iload 4, 2) := by decide +kernel
theorem dX11_merged_157 : decode cX11_merged 157 = .ok (.ireturn, 1) := by decide +kernel
theorem dX11_shares_0 : decode cX11_shares 0 = .ok (.aload_n 0, 1) := by decide +kernel
theorem dX11_shares_1 : decode cX11_shares 1 = .ok (.getfield 35, 3) := by decide +kernel
theorem dX11_shares_4 : decode cX11_shares 4 = .ok (.iload_n 1, 1) := by decide +kernel
theorem dX11_shares_5 : decode cX11_shares 5 = .ok (.iaload, 1) := by decide +kernel
theorem dX11_shares_6 : decode cX11_shares 6 = .ok (.istore_n 2, 1) := by decide +kernel
theorem dX11_shares_7 : decode cX11_shares 7 = .ok (.lconst 0, 1) := by decide +kernel
theorem dX11_shares_8 : decode cX11_shares 8 = .ok (.lstore_n 3, 1) := by decide +kernel
theorem dX11_shares_9 : decode cX11_shares 9 = .ok (.iconst 0, 1) := by decide +kernel
theorem dX11_shares_10 : decode cX11_shares 10 = .ok (.istore 5, 2) := by decide +kernel
theorem dX11_shares_12 : decode cX11_shares 12 = .ok (.iload 5, 2) := by decide +kernel
theorem dX11_shares_14 : decode cX11_shares 14 = .ok (.aload_n 0, 1) := by decide +kernel
theorem dX11_shares_15 : decode cX11_shares 15 = .ok (.getfield 9, 3) := by decide +kernel
theorem dX11_shares_18 : decode cX11_shares 18 = .ok (.iconst 1, 1) := by decide +kernel
theorem dX11_shares_19 : decode cX11_shares 19 = .ok (.iaload, 1) := by decide +kernel
theorem dX11_shares_20 : decode cX11_shares 20 = .ok (.if_icmp .ge 35, 3) := by decide +kernel
theorem dX11_shares_23 : decode cX11_shares 23 = .ok (.iload_n 1, 1) := by decide +kernel
theorem dX11_shares_24 : decode cX11_shares 24 = .ok (.iload 5, 2) := by decide +kernel
theorem dX11_shares_26 : decode cX11_shares 26 = .ok (.invokestatic 223, 3) := by decide +kernel
theorem dX11_shares_29 : decode cX11_shares 29 = .ok (.ifCond .eq 20, 3) := by decide +kernel
theorem dX11_shares_32 : decode cX11_shares 32 = .ok (.aload_n 0, 1) := by decide +kernel
theorem dX11_shares_33 : decode cX11_shares 33 = .ok (.iconst 1, 1) := by decide +kernel
theorem dX11_shares_34 : decode cX11_shares 34 = .ok (.iload 5, 2) := by decide +kernel
theorem dX11_shares_36 : decode cX11_shares 36 = .ok (.ishl, 1) := by decide +kernel
theorem dX11_shares_37 : decode cX11_shares 37 = .ok (.invokevirtual 307, 3) := by decide +kernel
theorem dX11_shares_40 : decode cX11_shares 40 = .ok (.pop, 1) := by decide +kernel
theorem dX11_shares_41 : decode cX11_shares 41 = .ok (.lload_n 3, 1) := by decide +kernel
theorem dX11_shares_42 : decode cX11_shares 42 = .ok (.aload_n 0, 1) := by decide +kernel
theorem dX11_shares_43 : decode cX11_shares 43 = .ok (.getfield 238, 3) := by decide +kernel
theorem dX11_shares_46 : decode cX11_shares 46 = .ok (.i2l, 1) := by decide +kernel
theorem dX11_shares_47 : decode cX11_shares 47 = .ok (.ladd, 1) := by decide +kernel
theorem dX11_shares_48 : decode cX11_shares 48 = .ok (.lstore_n 3, 1) := by decide +kernel
theorem dX11_shares_49 : decode cX11_shares 49 = .ok (.iinc 5 1, 3) := by decide +kernel
theorem dX11_shares_52 : decode cX11_shares 52 = .ok (.goto (-40), 3) := by decide +kernel
theorem dX11_shares_55 : decode cX11_shares 55 = .ok (.iload_n 2, 1) := by decide +kernel
theorem dX11_shares_56 : decode cX11_shares 56 = .ok (.istore 5, 2) := by decide +kernel
theorem dX11_shares_58 : decode cX11_shares 58 = .ok (.iconst 0, 1) := by decide +kernel
theorem dX11_shares_59 : decode cX11_shares 59 = .ok (.istore 6, 2) := by decide +kernel
theorem dX11_shares_61 : decode cX11_shares 61 = .ok (.iload 6, 2) := by decide +kernel
theorem dX11_shares_63 : decode cX11_shares 63 = .ok (.aload_n 0, 1) := by decide +kernel
theorem dX11_shares_64 : decode cX11_shares 64 = .ok (.getfield 9, 3) := by decide +kernel
theorem dX11_shares_67 : decode cX11_shares 67 = .ok (.iconst 1, 1) := by decide +kernel
theorem dX11_shares_68 : decode cX11_shares 68 = .ok (.iaload, 1) := by decide +kernel
theorem dX11_shares_69 : decode cX11_shares 69 = .ok (.if_icmp .ge 64, 3) := by decide +kernel
theorem dX11_shares_72 : decode cX11_shares 72 = .ok (.iload_n 1, 1) := by decide +kernel
theorem dX11_shares_73 : decode cX11_shares 73 = .ok (.iload 6, 2) := by decide +kernel
theorem dX11_shares_75 : decode cX11_shares 75 = .ok (.invokestatic 223, 3) := by decide +kernel
theorem dX11_shares_78 : decode cX11_shares 78 = .ok (.ifCond .eq 49, 3) := by decide +kernel
theorem dX11_shares_81 : decode cX11_shares 81 = .ok (.aload_n 0, 1) := by decide +kernel
theorem dX11_shares_82 : decode cX11_shares 82 = .ok (.iconst 1, 1) := by decide +kernel
theorem dX11_shares_83 : decode cX11_shares 83 = .ok (.iload 6, 2) := by decide +kernel
theorem dX11_shares_85 : decode cX11_shares 85 = .ok (.ishl, 1) := by decide +kernel
theorem dX11_shares_86 : decode cX11_shares 86 = .ok (.invokevirtual 307, 3) := by decide +kernel
theorem dX11_shares_89 : decode cX11_shares 89 = .ok (.pop, 1) := by decide +kernel
theorem dX11_shares_90 : decode cX11_shares 90 = .ok (.iload_n 2, 1) := by decide +kernel
theorem dX11_shares_91 : decode cX11_shares 91 = .ok (.i2l, 1) := by decide +kernel
theorem dX11_shares_92 : decode cX11_shares 92 = .ok (.aload_n 0, 1) := by decide +kernel
theorem dX11_shares_93 : decode cX11_shares 93 = .ok (.getfield 238, 3) := by decide +kernel
theorem dX11_shares_96 : decode cX11_shares 96 = .ok (.i2l, 1) := by decide +kernel
theorem dX11_shares_97 : decode cX11_shares 97 = .ok (.lmul, 1) := by decide +kernel
theorem dX11_shares_98 : decode cX11_shares 98 = .ok (.lload_n 3, 1) := by decide +kernel
theorem dX11_shares_99 : decode cX11_shares 99 = .ok (.ldiv, 1) := by decide +kernel
theorem dX11_shares_100 : decode cX11_shares 100 = .ok (.l2i, 1) := by decide +kernel
theorem dX11_shares_101 : decode cX11_shares 101 = .ok (.istore 7, 2) := by decide +kernel
theorem dX11_shares_103 : decode cX11_shares 103 = .ok (.aload_n 0, 1) := by decide +kernel
theorem dX11_shares_104 : decode cX11_shares 104 = .ok (.getfield 9, 3) := by decide +kernel
theorem dX11_shares_107 : decode cX11_shares 107 = .ok (.bipush 14, 2) := by decide +kernel
theorem dX11_shares_109 : decode cX11_shares 109 = .ok (.bipush 26, 2) := by decide +kernel
theorem dX11_shares_111 : decode cX11_shares 111 = .ok (.iload 6, 2) := by decide +kernel
theorem dX11_shares_113 : decode cX11_shares 113 = .ok (.imul, 1) := by decide +kernel
theorem dX11_shares_114 : decode cX11_shares 114 = .ok (.iadd, 1) := by decide +kernel
theorem dX11_shares_115 : decode cX11_shares 115 = .ok (.iconst 5, 1) := by decide +kernel
theorem dX11_shares_116 : decode cX11_shares 116 = .ok (.iadd, 1) := by decide +kernel
theorem dX11_shares_117 : decode cX11_shares 117 = .ok (.iload 7, 2) := by decide +kernel
theorem dX11_shares_119 : decode cX11_shares 119 = .ok (.iastore, 1) := by decide +kernel
theorem dX11_shares_120 : decode cX11_shares 120 = .ok (.iload 5, 2) := by decide +kernel
theorem dX11_shares_122 : decode cX11_shares 122 = .ok (.iload 7, 2) := by decide +kernel
theorem dX11_shares_124 : decode cX11_shares 124 = .ok (.isub, 1) := by decide +kernel
theorem dX11_shares_125 : decode cX11_shares 125 = .ok (.istore 5, 2) := by decide +kernel
theorem dX11_shares_127 : decode cX11_shares 127 = .ok (.iinc 6 1, 3) := by decide +kernel
theorem dX11_shares_130 : decode cX11_shares 130 = .ok (.goto (-69), 3) := by decide +kernel
theorem dX11_shares_133 : decode cX11_shares 133 = .ok (.iconst 0, 1) := by decide +kernel
theorem dX11_shares_134 : decode cX11_shares 134 = .ok (.istore 6, 2) := by decide +kernel
theorem dX11_shares_136 : decode cX11_shares 136 = .ok (.iload 6, 2) := by decide +kernel
theorem dX11_shares_138 : decode cX11_shares 138 = .ok (.aload_n 0, 1) := by decide +kernel
theorem dX11_shares_139 : decode cX11_shares 139 = .ok (.getfield 9, 3) := by decide +kernel
theorem dX11_shares_142 : decode cX11_shares 142 = .ok (.iconst 1, 1) := by decide +kernel
theorem dX11_shares_143 : decode cX11_shares 143 = .ok (.iaload, 1) := by decide +kernel
theorem dX11_shares_144 : decode cX11_shares 144 = .ok (.if_icmp .ge 45, 3) := by decide +kernel
theorem dX11_shares_147 : decode cX11_shares 147 = .ok (.iload_n 1, 1) := by decide +kernel
theorem dX11_shares_148 : decode cX11_shares 148 = .ok (.iload 6, 2) := by decide +kernel
theorem dX11_shares_150 : decode cX11_shares 150 = .ok (.invokestatic 223, 3) := by decide +kernel
theorem dX11_shares_153 : decode cX11_shares 153 = .ok (.ifCond .eq 30, 3) := by decide +kernel
theorem dX11_shares_156 : decode cX11_shares 156 = .ok (.iload 5, 2) := by decide +kernel
theorem dX11_shares_158 : decode cX11_shares 158 = .ok (.ifCond .le 25, 3) := by decide +kernel
theorem dX11_shares_161 : decode cX11_shares 161 = .ok (.aload_n 0, 1) := by decide +kernel
theorem dX11_shares_162 : decode cX11_shares 162 = .ok (.getfield 9, 3) := by decide +kernel
theorem dX11_shares_165 : decode cX11_shares 165 = .ok (.bipush 14, 2) := by decide +kernel
theorem dX11_shares_167 : decode cX11_shares 167 = .ok (.bipush 26, 2) := by decide +kernel
theorem dX11_shares_169 : decode cX11_shares 169 = .ok (.iload 6, 2) := by decide +kernel
theorem dX11_shares_171 : decode cX11_shares 171 = .ok (.imul, 1) := by decide +kernel
theorem dX11_shares_172 : decode cX11_shares 172 = .ok (.iadd, 1) := by decide +kernel
theorem dX11_shares_173 : decode cX11_shares 173 = .ok (.iconst 5, 1) := by decide +kernel
theorem dX11_shares_174 : decode cX11_shares 174 = .ok (.iadd, 1) := by decide +kernel
theorem dX11_shares_175 : decode cX11_shares 175 = .ok (.dup2, 1) := by decide +kernel
theorem dX11_shares_176 : decode cX11_shares 176 = .ok (.iaload, 1) := by decide +kernel
theorem dX11_shares_177 : decode cX11_shares 177 = .ok (.iconst 1, 1) := by decide +kernel
theorem dX11_shares_178 : decode cX11_shares 178 = .ok (.iadd, 1) := by decide +kernel
theorem dX11_shares_179 : decode cX11_shares 179 = .ok (.iastore, 1) := by decide +kernel
theorem dX11_shares_180 : decode cX11_shares 180 = .ok (.iinc 5 (-1), 3) := by decide +kernel
theorem dX11_shares_183 : decode cX11_shares 183 = .ok (.iinc 6 1, 3) := by decide +kernel
theorem dX11_shares_186 : decode cX11_shares 186 = .ok (.goto (-50), 3) := by decide +kernel
theorem dX11_shares_189 : decode cX11_shares 189 = .ok (.return_, 1) := by decide +kernel
theorem dX11_posted_0 : decode cX11_posted 0 = .ok (.iconst 0, 1) := by decide +kernel
theorem dX11_posted_1 : decode cX11_posted 1 = .ok (.istore_n 1, 1) := by decide +kernel
theorem dX11_posted_2 : decode cX11_posted 2 = .ok (.iconst 0, 1) := by decide +kernel
theorem dX11_posted_3 : decode cX11_posted 3 = .ok (.istore_n 2, 1) := by decide +kernel
theorem dX11_posted_4 : decode cX11_posted 4 = .ok (.iload_n 2, 1) := by decide +kernel
theorem dX11_posted_5 : decode cX11_posted 5 = .ok (.aload_n 0, 1) := by decide +kernel
theorem dX11_posted_6 : decode cX11_posted 6 = .ok (.getfield 9, 3) := by decide +kernel
theorem dX11_posted_9 : decode cX11_posted 9 = .ok (.iconst 1, 1) := by decide +kernel
theorem dX11_posted_10 : decode cX11_posted 10 = .ok (.iaload, 1) := by decide +kernel
theorem dX11_posted_11 : decode cX11_posted 11 = .ok (.if_icmp .ge 27, 3) := by decide +kernel
theorem dX11_posted_14 : decode cX11_posted 14 = .ok (.iload_n 1, 1) := by decide +kernel
theorem dX11_posted_15 : decode cX11_posted 15 = .ok (.aload_n 0, 1) := by decide +kernel
theorem dX11_posted_16 : decode cX11_posted 16 = .ok (.iload_n 2, 1) := by decide +kernel
theorem dX11_posted_17 : decode cX11_posted 17 = .ok (.invokevirtual 205, 3) := by decide +kernel
theorem dX11_posted_20 : decode cX11_posted 20 = .ok (.ifCond .eq 9, 3) := by decide +kernel
theorem dX11_posted_23 : decode cX11_posted 23 = .ok (.iconst 1, 1) := by decide +kernel
theorem dX11_posted_24 : decode cX11_posted 24 = .ok (.iload_n 2, 1) := by decide +kernel
theorem dX11_posted_25 : decode cX11_posted 25 = .ok (.ishl, 1) := by decide +kernel
theorem dX11_posted_26 : decode cX11_posted 26 = .ok (.goto 4, 3) := by decide +kernel
theorem dX11_posted_29 : decode cX11_posted 29 = .ok (.iconst 0, 1) := by decide +kernel
theorem dX11_posted_30 : decode cX11_posted 30 = .ok (.ior, 1) := by decide +kernel
theorem dX11_posted_31 : decode cX11_posted 31 = .ok (.istore_n 1, 1) := by decide +kernel
theorem dX11_posted_32 : decode cX11_posted 32 = .ok (.iinc 2 1, 3) := by decide +kernel
theorem dX11_posted_35 : decode cX11_posted 35 = .ok (.goto (-31), 3) := by decide +kernel
theorem dX11_posted_38 : decode cX11_posted 38 = .ok (.iload_n 1, 1) := by decide +kernel
theorem dX11_posted_39 : decode cX11_posted 39 = .ok (.ireturn, 1) := by decide +kernel
theorem dX11_post_0 : decode cX11_post 0 = .ok (.aload_n 0, 1) := by decide +kernel
theorem dX11_post_1 : decode cX11_post 1 = .ok (.aload_n 0, 1) := by decide +kernel
theorem dX11_post_2 : decode cX11_post 2 = .ok (.iload_n 1, 1) := by decide +kernel
theorem dX11_post_3 : decode cX11_post 3 = .ok (.bipush 8, 2) := by decide +kernel
theorem dX11_post_5 : decode cX11_post 5 = .ok (.invokevirtual 325, 3) := by decide +kernel
theorem dX11_post_8 : decode cX11_post 8 = .ok (.putfield 54, 3) := by decide +kernel
theorem dX11_post_11 : decode cX11_post 11 = .ok (.aload_n 0, 1) := by decide +kernel
theorem dX11_post_12 : decode cX11_post 12 = .ok (.getfield 54, 3) := by decide +kernel
theorem dX11_post_15 : decode cX11_post 15 = .ok (.ifCond .ne 17, 3) := by decide +kernel
theorem dX11_post_18 : decode cX11_post 18 = .ok (.aload_n 0, 1) := by decide +kernel
theorem dX11_post_19 : decode cX11_post 19 = .ok (.invokevirtual 350, 3) := by decide +kernel
theorem dX11_post_22 : decode cX11_post 22 = .ok (.iload_n 1, 1) := by decide +kernel
theorem dX11_post_23 : decode cX11_post 23 = .ok (.iand, 1) := by decide +kernel
theorem dX11_post_24 : decode cX11_post 24 = .ok (.ifCond .eq 8, 3) := by decide +kernel
theorem dX11_post_27 : decode cX11_post 27 = .ok (.aload_n 0, 1) := by decide +kernel
theorem dX11_post_28 : decode cX11_post 28 = .ok (.iconst 3, 1) := by decide +kernel
theorem dX11_post_29 : decode cX11_post 29 = .ok (.putfield 54, 3) := by decide +kernel
theorem dX11_post_32 : decode cX11_post 32 = .ok (.aload_n 0, 1) := by decide +kernel
theorem dX11_post_33 : decode cX11_post 33 = .ok (.getfield 54, 3) := by decide +kernel
theorem dX11_post_36 : decode cX11_post 36 = .ok (.ifCond .le 5, 3) := by decide +kernel
theorem dX11_post_39 : decode cX11_post 39 = .ok (.iconst 0, 1) := by decide +kernel
theorem dX11_post_40 : decode cX11_post 40 = .ok (.ireturn, 1) := by decide +kernel
theorem dX11_post_41 : decode cX11_post 41 = .ok (.aload_n 0, 1) := by decide +kernel
theorem dX11_post_42 : decode cX11_post 42 = .ok (.iload_n 1, 1) := by decide +kernel
theorem dX11_post_43 : decode cX11_post 43 = .ok (.invokevirtual 328, 3) := by decide +kernel
theorem dX11_post_46 : decode cX11_post 46 = .ok (.ifCond .eq 13, 3) := by decide +kernel
theorem dX11_post_49 : decode cX11_post 49 = .ok (.aload_n 0, 1) := by decide +kernel
theorem dX11_post_50 : decode cX11_post 50 = .ok (.aload_n 0, 1) := by decide +kernel
theorem dX11_post_51 : decode cX11_post 51 = .ok (.getfield 316, 3) := by decide +kernel
theorem dX11_post_54 : decode cX11_post 54 = .ok (.iconst 4, 1) := by decide +kernel
theorem dX11_post_55 : decode cX11_post 55 = .ok (.invokevirtual 310, 3) := by decide +kernel
theorem dX11_post_58 : decode cX11_post 58 = .ok (.ireturn, 1) := by decide +kernel
theorem dX11_post_59 : decode cX11_post 59 = .ok (.aload_n 0, 1) := by decide +kernel
theorem dX11_post_60 : decode cX11_post 60 = .ok (.aload_n 0, 1) := by decide +kernel
theorem dX11_post_61 : decode cX11_post 61 = .ok (.getfield 9, 3) := by decide +kernel
theorem dX11_post_64 : decode cX11_post 64 = .ok (.invokevirtual 75, 3) := by decide +kernel
theorem dX11_post_67 : decode cX11_post 67 = .ok (.aload_n 0, 1) := by decide +kernel
theorem dX11_post_68 : decode cX11_post 68 = .ok (.iload_n 1, 1) := by decide +kernel
theorem dX11_post_69 : decode cX11_post 69 = .ok (.invokevirtual 331, 3) := by decide +kernel
theorem dX11_post_72 : decode cX11_post 72 = .ok (.iload_n 1, 1) := by decide +kernel
theorem dX11_post_73 : decode cX11_post 73 = .ok (.istore_n 2, 1) := by decide +kernel
theorem dX11_post_74 : decode cX11_post 74 = .ok (.iload_n 2, 1) := by decide +kernel
theorem dX11_post_75 : decode cX11_post 75 = .ok (.ifCond .eq 37, 3) := by decide +kernel
theorem dX11_post_78 : decode cX11_post 78 = .ok (.aload_n 0, 1) := by decide +kernel
theorem dX11_post_79 : decode cX11_post 79 = .ok (.aload_n 0, 1) := by decide +kernel
theorem dX11_post_80 : decode cX11_post 80 = .ok (.getfield 44, 3) := by decide +kernel
theorem dX11_post_83 : decode cX11_post 83 = .ok (.iload_n 2, 1) := by decide +kernel
theorem dX11_post_84 : decode cX11_post 84 = .ok (.iaload, 1) := by decide +kernel
theorem dX11_post_85 : decode cX11_post 85 = .ok (.invokevirtual 353, 3) := by decide +kernel
theorem dX11_post_88 : decode cX11_post 88 = .ok (.aload_n 0, 1) := by decide +kernel
theorem dX11_post_89 : decode cX11_post 89 = .ok (.getfield 9, 3) := by decide +kernel
theorem dX11_post_92 : decode cX11_post 92 = .ok (.iconst 3, 1) := by decide +kernel
theorem dX11_post_93 : decode cX11_post 93 = .ok (.dup2, 1) := by decide +kernel
theorem dX11_post_94 : decode cX11_post 94 = .ok (.iaload, 1) := by decide +kernel
theorem dX11_post_95 : decode cX11_post 95 = .ok (.iconst 1, 1) := by decide +kernel
theorem dX11_post_96 : decode cX11_post 96 = .ok (.iadd, 1) := by decide +kernel
theorem dX11_post_97 : decode cX11_post 97 = .ok (.iastore, 1) := by decide +kernel
theorem dX11_post_98 : decode cX11_post 98 = .ok (.iload_n 2, 1) := by decide +kernel
theorem dX11_post_99 : decode cX11_post 99 = .ok (.aload_n 0, 1) := by decide +kernel
theorem dX11_post_100 : decode cX11_post 100 = .ok (.getfield 44, 3) := by decide +kernel
theorem dX11_post_103 : decode cX11_post 103 = .ok (.iload_n 2, 1) := by decide +kernel
theorem dX11_post_104 : decode cX11_post 104 = .ok (.iaload, 1) := by decide +kernel
theorem dX11_post_105 : decode cX11_post 105 = .ok (.iconst (-1), 1) := by decide +kernel
theorem dX11_post_106 : decode cX11_post 106 = .ok (.ixor, 1) := by decide +kernel
theorem dX11_post_107 : decode cX11_post 107 = .ok (.iand, 1) := by decide +kernel
theorem dX11_post_108 : decode cX11_post 108 = .ok (.istore_n 2, 1) := by decide +kernel
theorem dX11_post_109 : decode cX11_post 109 = .ok (.goto (-35), 3) := by decide +kernel
theorem dX11_post_112 : decode cX11_post 112 = .ok (.aload_n 0, 1) := by decide +kernel
theorem dX11_post_113 : decode cX11_post 113 = .ok (.getfield 38, 3) := by decide +kernel
theorem dX11_post_116 : decode cX11_post 116 = .ok (.iload_n 1, 1) := by decide +kernel
theorem dX11_post_117 : decode cX11_post 117 = .ok (.iaload, 1) := by decide +kernel
theorem dX11_post_118 : decode cX11_post 118 = .ok (.ireturn, 1) := by decide +kernel
theorem dX11_accountOf_0 : decode cX11_accountOf 0 = .ok (.iconst 0, 1) := by decide +kernel
theorem dX11_accountOf_1 : decode cX11_accountOf 1 = .ok (.istore_n 2, 1) := by decide +kernel
theorem dX11_accountOf_2 : decode cX11_accountOf 2 = .ok (.iconst 0, 1) := by decide +kernel
theorem dX11_accountOf_3 : decode cX11_accountOf 3 = .ok (.istore_n 3, 1) := by decide +kernel
theorem dX11_accountOf_4 : decode cX11_accountOf 4 = .ok (.iload_n 3, 1) := by decide +kernel
theorem dX11_accountOf_5 : decode cX11_accountOf 5 = .ok (.aload_n 0, 1) := by decide +kernel
theorem dX11_accountOf_6 : decode cX11_accountOf 6 = .ok (.getfield 9, 3) := by decide +kernel
theorem dX11_accountOf_9 : decode cX11_accountOf 9 = .ok (.iconst 1, 1) := by decide +kernel
theorem dX11_accountOf_10 : decode cX11_accountOf 10 = .ok (.iaload, 1) := by decide +kernel
theorem dX11_accountOf_11 : decode cX11_accountOf 11 = .ok (.if_icmp .ge 45, 3) := by decide +kernel
theorem dX11_accountOf_14 : decode cX11_accountOf 14 = .ok (.iload_n 2, 1) := by decide +kernel
theorem dX11_accountOf_15 : decode cX11_accountOf 15 = .ok (.aload_n 0, 1) := by decide +kernel
theorem dX11_accountOf_16 : decode cX11_accountOf 16 = .ok (.iload_n 3, 1) := by decide +kernel
theorem dX11_accountOf_17 : decode cX11_accountOf 17 = .ok (.invokevirtual 205, 3) := by decide +kernel
theorem dX11_accountOf_20 : decode cX11_accountOf 20 = .ok (.ifCond .eq 27, 3) := by decide +kernel
theorem dX11_accountOf_23 : decode cX11_accountOf 23 = .ok (.iload_n 1, 1) := by decide +kernel
theorem dX11_accountOf_24 : decode cX11_accountOf 24 = .ok (.iconst 4, 1) := by decide +kernel
theorem dX11_accountOf_25 : decode cX11_accountOf 25 = .ok (.if_icmp .eq 13, 3) := by decide +kernel
theorem dX11_accountOf_28 : decode cX11_accountOf 28 = .ok (.aload_n 0, 1) := by decide +kernel
theorem dX11_accountOf_29 : decode cX11_accountOf 29 = .ok (.iload_n 3, 1) := by decide +kernel
theorem dX11_accountOf_30 : decode cX11_accountOf 30 = .ok (.iconst 3, 1) := by decide +kernel
theorem dX11_accountOf_31 : decode cX11_accountOf 31 = .ok (.invokevirtual 196, 3) := by decide +kernel
theorem dX11_accountOf_34 : decode cX11_accountOf 34 = .ok (.iload_n 1, 1) := by decide +kernel
theorem dX11_accountOf_35 : decode cX11_accountOf 35 = .ok (.if_icmp .ne 12, 3) := by decide +kernel
theorem dX11_accountOf_38 : decode cX11_accountOf 38 = .ok (.aload_n 0, 1) := by decide +kernel
theorem dX11_accountOf_39 : decode cX11_accountOf 39 = .ok (.iload_n 3, 1) := by decide +kernel
theorem dX11_accountOf_40 : decode cX11_accountOf 40 = .ok (.iconst 5, 1) := by decide +kernel
theorem dX11_accountOf_41 : decode cX11_accountOf 41 = .ok (.invokevirtual 196, 3) := by decide +kernel
theorem dX11_accountOf_44 : decode cX11_accountOf 44 = .ok (.goto 4, 3) := by decide +kernel
theorem dX11_accountOf_47 : decode cX11_accountOf 47 = .ok (.iconst 0, 1) := by decide +kernel
theorem dX11_accountOf_48 : decode cX11_accountOf 48 = .ok (.iadd, 1) := by decide +kernel
theorem dX11_accountOf_49 : decode cX11_accountOf 49 = .ok (.istore_n 2, 1) := by decide +kernel
theorem dX11_accountOf_50 : decode cX11_accountOf 50 = .ok (.iinc 3 1, 3) := by decide +kernel
theorem dX11_accountOf_53 : decode cX11_accountOf 53 = .ok (.goto (-49), 3) := by decide +kernel
theorem dX11_accountOf_56 : decode cX11_accountOf 56 = .ok (.iload_n 2, 1) := by decide +kernel
theorem dX11_accountOf_57 : decode cX11_accountOf 57 = .ok (.ireturn, 1) := by decide +kernel
theorem dX11_account_0 : decode cX11_account 0 = .ok (.aload_n 0, 1) := by decide +kernel
theorem dX11_account_1 : decode cX11_account 1 = .ok (.iload_n 1, 1) := by decide +kernel
theorem dX11_account_2 : decode cX11_account 2 = .ok (.iconst 0, 1) := by decide +kernel
theorem dX11_account_3 : decode cX11_account 3 = .ok (.bipush 6, 2) := by decide +kernel
theorem dX11_account_5 : decode cX11_account 5 = .ok (.invokestatic 60, 3) := by decide +kernel
theorem dX11_account_8 : decode cX11_account 8 = .ok (.ifCond .eq 7, 3) := by decide +kernel
theorem dX11_account_11 : decode cX11_account 11 = .ok (.iconst 0, 1) := by decide +kernel
theorem dX11_account_12 : decode cX11_account 12 = .ok (.goto 4, 3) := by decide +kernel
theorem dX11_account_15 : decode cX11_account 15 = .ok (.iconst 1, 1) := by decide +kernel
theorem dX11_account_16 : decode cX11_account 16 = .ok (.putfield 54, 3) := by decide +kernel
theorem dX11_account_19 : decode cX11_account 19 = .ok (.aload_n 0, 1) := by decide +kernel
theorem dX11_account_20 : decode cX11_account 20 = .ok (.getfield 54, 3) := by decide +kernel
theorem dX11_account_23 : decode cX11_account 23 = .ok (.ifCond .le 7, 3) := by decide +kernel
theorem dX11_account_26 : decode cX11_account 26 = .ok (.iconst 0, 1) := by decide +kernel
theorem dX11_account_27 : decode cX11_account 27 = .ok (.goto 34, 3) := by decide +kernel
theorem dX11_account_30 : decode cX11_account 30 = .ok (.iload_n 1, 1) := by decide +kernel
theorem dX11_account_31 : decode cX11_account 31 = .ok (.iconst 5, 1) := by decide +kernel
theorem dX11_account_32 : decode cX11_account 32 = .ok (.if_icmp .ge 11, 3) := by decide +kernel
theorem dX11_account_35 : decode cX11_account 35 = .ok (.aload_n 0, 1) := by decide +kernel
theorem dX11_account_36 : decode cX11_account 36 = .ok (.iload_n 1, 1) := by decide +kernel
theorem dX11_account_37 : decode cX11_account 37 = .ok (.invokevirtual 356, 3) := by decide +kernel
theorem dX11_account_40 : decode cX11_account 40 = .ok (.goto 21, 3) := by decide +kernel
theorem dX11_account_43 : decode cX11_account 43 = .ok (.iload_n 1, 1) := by decide +kernel
theorem dX11_account_44 : decode cX11_account 44 = .ok (.iconst 5, 1) := by decide +kernel
theorem dX11_account_45 : decode cX11_account 45 = .ok (.if_icmp .ne 12, 3) := by decide +kernel
theorem dX11_account_48 : decode cX11_account 48 = .ok (.aload_n 0, 1) := by decide +kernel
theorem dX11_account_49 : decode cX11_account 49 = .ok (.getfield 9, 3) := by decide +kernel
theorem dX11_account_52 : decode cX11_account 52 = .ok (.iconst 3, 1) := by decide +kernel
theorem dX11_account_53 : decode cX11_account 53 = .ok (.iaload, 1) := by decide +kernel
theorem dX11_account_54 : decode cX11_account 54 = .ok (.goto 7, 3) := by decide +kernel
theorem dX11_account_57 : decode cX11_account 57 = .ok (.aload_n 0, 1) := by decide +kernel
theorem dX11_account_58 : decode cX11_account 58 = .ok (.invokevirtual 350, 3) := by decide +kernel
theorem dX11_account_61 : decode cX11_account 61 = .ok (.ireturn, 1) := by decide +kernel
theorem dX11_setRebate_0 : decode cX11_setRebate 0 = .ok (.aload_n 0, 1) := by decide +kernel
theorem dX11_setRebate_1 : decode cX11_setRebate 1 = .ok (.iconst 0, 1) := by decide +kernel
theorem dX11_setRebate_2 : decode cX11_setRebate 2 = .ok (.putfield 54, 3) := by decide +kernel
theorem dX11_setRebate_5 : decode cX11_setRebate 5 = .ok (.iconst 0, 1) := by decide +kernel
theorem dX11_setRebate_6 : decode cX11_setRebate 6 = .ok (.istore_n 3, 1) := by decide +kernel
theorem dX11_setRebate_7 : decode cX11_setRebate 7 = .ok (.iload_n 3, 1) := by decide +kernel
theorem dX11_setRebate_8 : decode cX11_setRebate 8 = .ok (.aload_n 0, 1) := by decide +kernel
theorem dX11_setRebate_9 : decode cX11_setRebate 9 = .ok (.getfield 9, 3) := by decide +kernel
theorem dX11_setRebate_12 : decode cX11_setRebate 12 = .ok (.iconst 2, 1) := by decide +kernel
theorem dX11_setRebate_13 : decode cX11_setRebate 13 = .ok (.iaload, 1) := by decide +kernel
theorem dX11_setRebate_14 : decode cX11_setRebate 14 = .ok (.if_icmp .ge 23, 3) := by decide +kernel
theorem dX11_setRebate_17 : decode cX11_setRebate 17 = .ok (.aload_n 0, 1) := by decide +kernel
theorem dX11_setRebate_18 : decode cX11_setRebate 18 = .ok (.getfield 9, 3) := by decide +kernel
theorem dX11_setRebate_21 : decode cX11_setRebate 21 = .ok (.iconst 4, 1) := by decide +kernel
theorem dX11_setRebate_22 : decode cX11_setRebate 22 = .ok (.iconst 2, 1) := by decide +kernel
theorem dX11_setRebate_23 : decode cX11_setRebate 23 = .ok (.iload_n 3, 1) := by decide +kernel
theorem dX11_setRebate_24 : decode cX11_setRebate 24 = .ok (.imul, 1) := by decide +kernel
theorem dX11_setRebate_25 : decode cX11_setRebate 25 = .ok (.iadd, 1) := by decide +kernel
theorem dX11_setRebate_26 : decode cX11_setRebate 26 = .ok (.iaload, 1) := by decide +kernel
theorem dX11_setRebate_27 : decode cX11_setRebate 27 = .ok (.iload_n 1, 1) := by decide +kernel
theorem dX11_setRebate_28 : decode cX11_setRebate 28 = .ok (.if_icmp .eq 9, 3) := by decide +kernel
theorem dX11_setRebate_31 : decode cX11_setRebate 31 = .ok (.iinc 3 1, 3) := by decide +kernel
theorem dX11_setRebate_34 : decode cX11_setRebate 34 = .ok (.goto (-27), 3) := by decide +kernel
theorem dX11_setRebate_37 : decode cX11_setRebate 37 = .ok (.iload_n 3, 1) := by decide +kernel
theorem dX11_setRebate_38 : decode cX11_setRebate 38 = .ok (.aload_n 0, 1) := by decide +kernel
theorem dX11_setRebate_39 : decode cX11_setRebate 39 = .ok (.getfield 9, 3) := by decide +kernel
theorem dX11_setRebate_42 : decode cX11_setRebate 42 = .ok (.iconst 2, 1) := by decide +kernel
theorem dX11_setRebate_43 : decode cX11_setRebate 43 = .ok (.iaload, 1) := by decide +kernel
theorem dX11_setRebate_44 : decode cX11_setRebate 44 = .ok (.if_icmp .ge 7, 3) := by decide +kernel
theorem dX11_setRebate_47 : decode cX11_setRebate 47 = .ok (.iconst 1, 1) := by decide +kernel
theorem dX11_setRebate_48 : decode cX11_setRebate 48 = .ok (.goto 4, 3) := by decide +kernel
theorem dX11_setRebate_51 : decode cX11_setRebate 51 = .ok (.iconst 0, 1) := by decide +kernel
theorem dX11_setRebate_52 : decode cX11_setRebate 52 = .ok (.istore 4, 2) := by decide +kernel
theorem dX11_setRebate_54 : decode cX11_setRebate 54 = .ok (.iload_n 1, 1) := by decide +kernel
theorem dX11_setRebate_55 : decode cX11_setRebate 55 = .ok (.ifCond .lt 13, 3) := by decide +kernel
theorem dX11_setRebate_58 : decode cX11_setRebate 58 = .ok (.iload_n 2, 1) := by decide +kernel
theorem dX11_setRebate_59 : decode cX11_setRebate 59 = .ok (.iconst 0, 1) := by decide +kernel
theorem dX11_setRebate_60 : decode cX11_setRebate 60 = .ok (.bipush 50, 2) := by decide +kernel
theorem dX11_setRebate_62 : decode cX11_setRebate 62 = .ok (.invokestatic 60, 3) := by decide +kernel
theorem dX11_setRebate_65 : decode cX11_setRebate 65 = .ok (.ifCond .ne 9, 3) := by decide +kernel
theorem dX11_setRebate_68 : decode cX11_setRebate 68 = .ok (.aload_n 0, 1) := by decide +kernel
theorem dX11_setRebate_69 : decode cX11_setRebate 69 = .ok (.iconst 1, 1) := by decide +kernel
theorem dX11_setRebate_70 : decode cX11_setRebate 70 = .ok (.invokevirtual 68, 3) := by decide +kernel
theorem dX11_setRebate_73 : decode cX11_setRebate 73 = .ok (.ireturn, 1) := by decide +kernel
theorem dX11_setRebate_74 : decode cX11_setRebate 74 = .ok (.iload_n 2, 1) := by decide +kernel
theorem dX11_setRebate_75 : decode cX11_setRebate 75 = .ok (.ifCond .ne 14, 3) := by decide +kernel
theorem dX11_setRebate_78 : decode cX11_setRebate 78 = .ok (.iload 4, 2) := by decide +kernel
theorem dX11_setRebate_80 : decode cX11_setRebate 80 = .ok (.ifCond .ne 9, 3) := by decide +kernel
theorem dX11_setRebate_83 : decode cX11_setRebate 83 = .ok (.aload_n 0, 1) := by decide +kernel
theorem dX11_setRebate_84 : decode cX11_setRebate 84 = .ok (.iconst 2, 1) := by decide +kernel
theorem dX11_setRebate_85 : decode cX11_setRebate 85 = .ok (.invokevirtual 68, 3) := by decide +kernel
theorem dX11_setRebate_88 : decode cX11_setRebate 88 = .ok (.ireturn, 1) := by decide +kernel
theorem dX11_setRebate_89 : decode cX11_setRebate 89 = .ok (.iload 4, 2) := by decide +kernel
theorem dX11_setRebate_91 : decode cX11_setRebate 91 = .ok (.ifCond .ne 19, 3) := by decide +kernel
theorem dX11_setRebate_94 : decode cX11_setRebate 94 = .ok (.aload_n 0, 1) := by decide +kernel
theorem dX11_setRebate_95 : decode cX11_setRebate 95 = .ok (.getfield 9, 3) := by decide +kernel
theorem dX11_setRebate_98 : decode cX11_setRebate 98 = .ok (.iconst 2, 1) := by decide +kernel
theorem dX11_setRebate_99 : decode cX11_setRebate 99 = .ok (.iaload, 1) := by decide +kernel
theorem dX11_setRebate_100 : decode cX11_setRebate 100 = .ok (.iconst 5, 1) := by decide +kernel
theorem dX11_setRebate_101 : decode cX11_setRebate 101 = .ok (.if_icmp .ne 9, 3) := by decide +kernel
theorem dX11_setRebate_104 : decode cX11_setRebate 104 = .ok (.aload_n 0, 1) := by decide +kernel
theorem dX11_setRebate_105 : decode cX11_setRebate 105 = .ok (.iconst 3, 1) := by decide +kernel
theorem dX11_setRebate_106 : decode cX11_setRebate 106 = .ok (.invokevirtual 68, 3) := by decide +kernel
theorem dX11_setRebate_109 : decode cX11_setRebate 109 = .ok (.ireturn, 1) := by decide +kernel
theorem dX11_setRebate_110 : decode cX11_setRebate 110 = .ok (.aload_n 0, 1) := by decide +kernel
theorem dX11_setRebate_111 : decode cX11_setRebate 111 = .ok (.aload_n 0, 1) := by decide +kernel
theorem dX11_setRebate_112 : decode cX11_setRebate 112 = .ok (.getfield 9, 3) := by decide +kernel
theorem dX11_setRebate_115 : decode cX11_setRebate 115 = .ok (.invokevirtual 75, 3) := by decide +kernel
theorem dX11_setRebate_118 : decode cX11_setRebate 118 = .ok (.iload_n 2, 1) := by decide +kernel
theorem dX11_setRebate_119 : decode cX11_setRebate 119 = .ok (.ifCond .ne 70, 3) := by decide +kernel
theorem dX11_setRebate_122 : decode cX11_setRebate 122 = .ok (.aload_n 0, 1) := by decide +kernel
theorem dX11_setRebate_123 : decode cX11_setRebate 123 = .ok (.getfield 9, 3) := by decide +kernel
theorem dX11_setRebate_126 : decode cX11_setRebate 126 = .ok (.iconst 2, 1) := by decide +kernel
theorem dX11_setRebate_127 : decode cX11_setRebate 127 = .ok (.dup2, 1) := by decide +kernel
theorem dX11_setRebate_128 : decode cX11_setRebate 128 = .ok (.iaload, 1) := by decide +kernel
theorem dX11_setRebate_129 : decode cX11_setRebate 129 = .ok (.iconst 1, 1) := by decide +kernel
theorem dX11_setRebate_130 : decode cX11_setRebate 130 = .ok (.isub, 1) := by decide +kernel
theorem dX11_setRebate_131 : decode cX11_setRebate 131 = .ok (.iastore, 1) := by decide +kernel
theorem dX11_setRebate_132 : decode cX11_setRebate 132 = .ok (.aload_n 0, 1) := by decide +kernel
theorem dX11_setRebate_133 : decode cX11_setRebate 133 = .ok (.getfield 9, 3) := by decide +kernel
theorem dX11_setRebate_136 : decode cX11_setRebate 136 = .ok (.iconst 4, 1) := by decide +kernel
theorem dX11_setRebate_137 : decode cX11_setRebate 137 = .ok (.iconst 2, 1) := by decide +kernel
theorem dX11_setRebate_138 : decode cX11_setRebate 138 = .ok (.iload_n 3, 1) := by decide +kernel
theorem dX11_setRebate_139 : decode cX11_setRebate 139 = .ok (.imul, 1) := by decide +kernel
theorem dX11_setRebate_140 : decode cX11_setRebate 140 = .ok (.iadd, 1) := by decide +kernel
theorem dX11_setRebate_141 : decode cX11_setRebate 141 = .ok (.aload_n 0, 1) := by decide +kernel
theorem dX11_setRebate_142 : decode cX11_setRebate 142 = .ok (.getfield 9, 3) := by decide +kernel
theorem dX11_setRebate_145 : decode cX11_setRebate 145 = .ok (.iconst 4, 1) := by decide +kernel
theorem dX11_setRebate_146 : decode cX11_setRebate 146 = .ok (.iconst 2, 1) := by decide +kernel
theorem dX11_setRebate_147 : decode cX11_setRebate 147 = .ok (.aload_n 0, 1) := by decide +kernel
theorem dX11_setRebate_148 : decode cX11_setRebate 148 = .ok (.getfield 9, 3) := by decide +kernel
theorem dX11_setRebate_151 : decode cX11_setRebate 151 = .ok (.iconst 2, 1) := by decide +kernel
theorem dX11_setRebate_152 : decode cX11_setRebate 152 = .ok (.iaload, 1) := by decide +kernel
theorem dX11_setRebate_153 : decode cX11_setRebate 153 = .ok (.imul, 1) := by decide +kernel
theorem dX11_setRebate_154 : decode cX11_setRebate 154 = .ok (.iadd, 1) := by decide +kernel
theorem dX11_setRebate_155 : decode cX11_setRebate 155 = .ok (.iaload, 1) := by decide +kernel
theorem dX11_setRebate_156 : decode cX11_setRebate 156 = .ok (.iastore, 1) := by decide +kernel
theorem dX11_setRebate_157 : decode cX11_setRebate 157 = .ok (.aload_n 0, 1) := by decide +kernel
theorem dX11_setRebate_158 : decode cX11_setRebate 158 = .ok (.getfield 9, 3) := by decide +kernel
theorem dX11_setRebate_161 : decode cX11_setRebate 161 = .ok (.iconst 4, 1) := by decide +kernel
theorem dX11_setRebate_162 : decode cX11_setRebate 162 = .ok (.iconst 2, 1) := by decide +kernel
theorem dX11_setRebate_163 : decode cX11_setRebate 163 = .ok (.iload_n 3, 1) := by decide +kernel
theorem dX11_setRebate_164 : decode cX11_setRebate 164 = .ok (.imul, 1) := by decide +kernel
theorem dX11_setRebate_165 : decode cX11_setRebate 165 = .ok (.iadd, 1) := by decide +kernel
theorem dX11_setRebate_166 : decode cX11_setRebate 166 = .ok (.iconst 1, 1) := by decide +kernel
theorem dX11_setRebate_167 : decode cX11_setRebate 167 = .ok (.iadd, 1) := by decide +kernel
theorem dX11_setRebate_168 : decode cX11_setRebate 168 = .ok (.aload_n 0, 1) := by decide +kernel
theorem dX11_setRebate_169 : decode cX11_setRebate 169 = .ok (.getfield 9, 3) := by decide +kernel
theorem dX11_setRebate_172 : decode cX11_setRebate 172 = .ok (.iconst 4, 1) := by decide +kernel
theorem dX11_setRebate_173 : decode cX11_setRebate 173 = .ok (.iconst 2, 1) := by decide +kernel
theorem dX11_setRebate_174 : decode cX11_setRebate 174 = .ok (.aload_n 0, 1) := by decide +kernel
theorem dX11_setRebate_175 : decode cX11_setRebate 175 = .ok (.getfield 9, 3) := by decide +kernel
theorem dX11_setRebate_178 : decode cX11_setRebate 178 = .ok (.iconst 2, 1) := by decide +kernel
theorem dX11_setRebate_179 : decode cX11_setRebate 179 = .ok (.iaload, 1) := by decide +kernel
theorem dX11_setRebate_180 : decode cX11_setRebate 180 = .ok (.imul, 1) := by decide +kernel
theorem dX11_setRebate_181 : decode cX11_setRebate 181 = .ok (.iadd, 1) := by decide +kernel
theorem dX11_setRebate_182 : decode cX11_setRebate 182 = .ok (.iconst 1, 1) := by decide +kernel
theorem dX11_setRebate_183 : decode cX11_setRebate 183 = .ok (.iadd, 1) := by decide +kernel
theorem dX11_setRebate_184 : decode cX11_setRebate 184 = .ok (.iaload, 1) := by decide +kernel
theorem dX11_setRebate_185 : decode cX11_setRebate 185 = .ok (.iastore, 1) := by decide +kernel
theorem dX11_setRebate_186 : decode cX11_setRebate 186 = .ok (.goto 46, 3) := by decide +kernel
theorem dX11_setRebate_189 : decode cX11_setRebate 189 = .ok (.aload_n 0, 1) := by decide +kernel
theorem dX11_setRebate_190 : decode cX11_setRebate 190 = .ok (.getfield 9, 3) := by decide +kernel
theorem dX11_setRebate_193 : decode cX11_setRebate 193 = .ok (.iconst 2, 1) := by decide +kernel
theorem dX11_setRebate_194 : decode cX11_setRebate 194 = .ok (.dup2, 1) := by decide +kernel
theorem dX11_setRebate_195 : decode cX11_setRebate 195 = .ok (.iaload, 1) := by decide +kernel
theorem dX11_setRebate_196 : decode cX11_setRebate 196 = .ok (.iload 4, 2) := by decide +kernel
theorem dX11_setRebate_198 : decode cX11_setRebate 198 = .ok (.ifCond .eq 7, 3) := by decide +kernel
theorem dX11_setRebate_201 : decode cX11_setRebate 201 = .ok (.iconst 0, 1) := by decide +kernel
theorem dX11_setRebate_202 : decode cX11_setRebate 202 = .ok (.goto 4, 3) := by decide +kernel
theorem dX11_setRebate_205 : decode cX11_setRebate 205 = .ok (.iconst 1, 1) := by decide +kernel
theorem dX11_setRebate_206 : decode cX11_setRebate 206 = .ok (.iadd, 1) := by decide +kernel
theorem dX11_setRebate_207 : decode cX11_setRebate 207 = .ok (.iastore, 1) := by decide +kernel
theorem dX11_setRebate_208 : decode cX11_setRebate 208 = .ok (.aload_n 0, 1) := by decide +kernel
theorem dX11_setRebate_209 : decode cX11_setRebate 209 = .ok (.getfield 9, 3) := by decide +kernel
theorem dX11_setRebate_212 : decode cX11_setRebate 212 = .ok (.iconst 4, 1) := by decide +kernel
theorem dX11_setRebate_213 : decode cX11_setRebate 213 = .ok (.iconst 2, 1) := by decide +kernel
theorem dX11_setRebate_214 : decode cX11_setRebate 214 = .ok (.iload_n 3, 1) := by decide +kernel
theorem dX11_setRebate_215 : decode cX11_setRebate 215 = .ok (.imul, 1) := by decide +kernel
theorem dX11_setRebate_216 : decode cX11_setRebate 216 = .ok (.iadd, 1) := by decide +kernel
theorem dX11_setRebate_217 : decode cX11_setRebate 217 = .ok (.iload_n 1, 1) := by decide +kernel
theorem dX11_setRebate_218 : decode cX11_setRebate 218 = .ok (.iastore, 1) := by decide +kernel
theorem dX11_setRebate_219 : decode cX11_setRebate 219 = .ok (.aload_n 0, 1) := by decide +kernel
theorem dX11_setRebate_220 : decode cX11_setRebate 220 = .ok (.getfield 9, 3) := by decide +kernel
theorem dX11_setRebate_223 : decode cX11_setRebate 223 = .ok (.iconst 4, 1) := by decide +kernel
theorem dX11_setRebate_224 : decode cX11_setRebate 224 = .ok (.iconst 2, 1) := by decide +kernel
theorem dX11_setRebate_225 : decode cX11_setRebate 225 = .ok (.iload_n 3, 1) := by decide +kernel
theorem dX11_setRebate_226 : decode cX11_setRebate 226 = .ok (.imul, 1) := by decide +kernel
theorem dX11_setRebate_227 : decode cX11_setRebate 227 = .ok (.iadd, 1) := by decide +kernel
theorem dX11_setRebate_228 : decode cX11_setRebate 228 = .ok (.iconst 1, 1) := by decide +kernel
theorem dX11_setRebate_229 : decode cX11_setRebate 229 = .ok (.iadd, 1) := by decide +kernel
theorem dX11_setRebate_230 : decode cX11_setRebate 230 = .ok (.iload_n 2, 1) := by decide +kernel
theorem dX11_setRebate_231 : decode cX11_setRebate 231 = .ok (.iastore, 1) := by decide +kernel
theorem dX11_setRebate_232 : decode cX11_setRebate 232 = .ok (.aload_n 0, 1) := by decide +kernel
theorem dX11_setRebate_233 : decode cX11_setRebate 233 = .ok (.getfield 9, 3) := by decide +kernel
theorem dX11_setRebate_236 : decode cX11_setRebate 236 = .ok (.iconst 2, 1) := by decide +kernel
theorem dX11_setRebate_237 : decode cX11_setRebate 237 = .ok (.iaload, 1) := by decide +kernel
theorem dX11_setRebate_238 : decode cX11_setRebate 238 = .ok (.ireturn, 1) := by decide +kernel
theorem dX11_rebate_0 : decode cX11_rebate 0 = .ok (.aload_n 0, 1) := by decide +kernel
theorem dX11_rebate_1 : decode cX11_rebate 1 = .ok (.iload_n 1, 1) := by decide +kernel
theorem dX11_rebate_2 : decode cX11_rebate 2 = .ok (.iconst 0, 1) := by decide +kernel
theorem dX11_rebate_3 : decode cX11_rebate 3 = .ok (.iconst 3, 1) := by decide +kernel
theorem dX11_rebate_4 : decode cX11_rebate 4 = .ok (.invokestatic 60, 3) := by decide +kernel
theorem dX11_rebate_7 : decode cX11_rebate 7 = .ok (.ifCond .eq 7, 3) := by decide +kernel
theorem dX11_rebate_10 : decode cX11_rebate 10 = .ok (.iconst 0, 1) := by decide +kernel
theorem dX11_rebate_11 : decode cX11_rebate 11 = .ok (.goto 4, 3) := by decide +kernel
theorem dX11_rebate_14 : decode cX11_rebate 14 = .ok (.iconst 1, 1) := by decide +kernel
theorem dX11_rebate_15 : decode cX11_rebate 15 = .ok (.putfield 54, 3) := by decide +kernel
theorem dX11_rebate_18 : decode cX11_rebate 18 = .ok (.aload_n 0, 1) := by decide +kernel
theorem dX11_rebate_19 : decode cX11_rebate 19 = .ok (.getfield 54, 3) := by decide +kernel
theorem dX11_rebate_22 : decode cX11_rebate 22 = .ok (.ifCond .le 5, 3) := by decide +kernel
theorem dX11_rebate_25 : decode cX11_rebate 25 = .ok (.iconst 0, 1) := by decide +kernel
theorem dX11_rebate_26 : decode cX11_rebate 26 = .ok (.ireturn, 1) := by decide +kernel
theorem dX11_rebate_27 : decode cX11_rebate 27 = .ok (.aload_n 0, 1) := by decide +kernel
theorem dX11_rebate_28 : decode cX11_rebate 28 = .ok (.iload_n 1, 1) := by decide +kernel
theorem dX11_rebate_29 : decode cX11_rebate 29 = .ok (.invokevirtual 356, 3) := by decide +kernel
theorem dX11_rebate_32 : decode cX11_rebate 32 = .ok (.istore_n 2, 1) := by decide +kernel
theorem dX11_rebate_33 : decode cX11_rebate 33 = .ok (.iconst (-1), 1) := by decide +kernel
theorem dX11_rebate_34 : decode cX11_rebate 34 = .ok (.istore_n 3, 1) := by decide +kernel
theorem dX11_rebate_35 : decode cX11_rebate 35 = .ok (.iconst 0, 1) := by decide +kernel
theorem dX11_rebate_36 : decode cX11_rebate 36 = .ok (.istore 4, 2) := by decide +kernel
theorem dX11_rebate_38 : decode cX11_rebate 38 = .ok (.iconst 0, 1) := by decide +kernel
theorem dX11_rebate_39 : decode cX11_rebate 39 = .ok (.istore 5, 2) := by decide +kernel
theorem dX11_rebate_41 : decode cX11_rebate 41 = .ok (.iload 5, 2) := by decide +kernel
theorem dX11_rebate_43 : decode cX11_rebate 43 = .ok (.aload_n 0, 1) := by decide +kernel
theorem dX11_rebate_44 : decode cX11_rebate 44 = .ok (.getfield 9, 3) := by decide +kernel
theorem dX11_rebate_47 : decode cX11_rebate 47 = .ok (.iconst 2, 1) := by decide +kernel
theorem dX11_rebate_48 : decode cX11_rebate 48 = .ok (.iaload, 1) := by decide +kernel
theorem dX11_rebate_49 : decode cX11_rebate 49 = .ok (.if_icmp .ge 52, 3) := by decide +kernel
theorem dX11_rebate_52 : decode cX11_rebate 52 = .ok (.aload_n 0, 1) := by decide +kernel
theorem dX11_rebate_53 : decode cX11_rebate 53 = .ok (.getfield 9, 3) := by decide +kernel
theorem dX11_rebate_56 : decode cX11_rebate 56 = .ok (.iconst 4, 1) := by decide +kernel
theorem dX11_rebate_57 : decode cX11_rebate 57 = .ok (.iconst 2, 1) := by decide +kernel
theorem dX11_rebate_58 : decode cX11_rebate 58 = .ok (.iload 5, 2) := by decide +kernel
theorem dX11_rebate_60 : decode cX11_rebate 60 = .ok (.imul, 1) := by decide +kernel
theorem dX11_rebate_61 : decode cX11_rebate 61 = .ok (.iadd, 1) := by decide +kernel
theorem dX11_rebate_62 : decode cX11_rebate 62 = .ok (.iaload, 1) := by decide +kernel
theorem dX11_rebate_63 : decode cX11_rebate 63 = .ok (.istore 6, 2) := by decide +kernel
theorem dX11_rebate_65 : decode cX11_rebate 65 = .ok (.iload 6, 2) := by decide +kernel
theorem dX11_rebate_67 : decode cX11_rebate 67 = .ok (.iload_n 2, 1) := by decide +kernel
theorem dX11_rebate_68 : decode cX11_rebate 68 = .ok (.if_icmp .gt 27, 3) := by decide +kernel
theorem dX11_rebate_71 : decode cX11_rebate 71 = .ok (.iload 6, 2) := by decide +kernel
theorem dX11_rebate_73 : decode cX11_rebate 73 = .ok (.iload_n 3, 1) := by decide +kernel
theorem dX11_rebate_74 : decode cX11_rebate 74 = .ok (.if_icmp .le 21, 3) := by decide +kernel
theorem dX11_rebate_77 : decode cX11_rebate 77 = .ok (.iload 6, 2) := by decide +kernel
theorem dX11_rebate_79 : decode cX11_rebate 79 = .ok (.istore_n 3, 1) := by decide +kernel
theorem dX11_rebate_80 : decode cX11_rebate 80 = .ok (.aload_n 0, 1) := by decide +kernel
theorem dX11_rebate_81 : decode cX11_rebate 81 = .ok (.getfield 9, 3) := by decide +kernel
theorem dX11_rebate_84 : decode cX11_rebate 84 = .ok (.iconst 4, 1) := by decide +kernel
theorem dX11_rebate_85 : decode cX11_rebate 85 = .ok (.iconst 2, 1) := by decide +kernel
theorem dX11_rebate_86 : decode cX11_rebate 86 = .ok (.iload 5, 2) := by decide +kernel
theorem dX11_rebate_88 : decode cX11_rebate 88 = .ok (.imul, 1) := by decide +kernel
theorem dX11_rebate_89 : decode cX11_rebate 89 = .ok (.iadd, 1) := by decide +kernel
theorem dX11_rebate_90 : decode cX11_rebate 90 = .ok (.iconst 1, 1) := by decide +kernel
theorem dX11_rebate_91 : decode cX11_rebate 91 = .ok (.iadd, 1) := by decide +kernel
theorem dX11_rebate_92 : decode cX11_rebate 92 = .ok (.iaload, 1) := by decide +kernel
theorem dX11_rebate_93 : decode cX11_rebate 93 = .ok (.istore 4, 2) := by decide +kernel
theorem dX11_rebate_95 : decode cX11_rebate 95 = .ok (.iinc 5 1, 3) := by decide +kernel
theorem dX11_rebate_98 : decode cX11_rebate 98 = .ok (.goto (-57), 3) := by decide +kernel
theorem dX11_rebate_101 : decode cX11_rebate 101 = .ok (.iload_n 2, 1) := by decide +kernel
theorem dX11_rebate_102 : decode cX11_rebate 102 = .ok (.iload 4, 2) := by decide +kernel
theorem dX11_rebate_104 : decode cX11_rebate 104 = .ok (.invokestatic 289, 3) := by decide +kernel
theorem dX11_rebate_107 : decode cX11_rebate 107 = .ok (.ireturn, 1) := by decide +kernel
theorem dX11_undo_0 : decode cX11_undo 0 = .ok (.aload_n 0, 1) := by decide +kernel
theorem dX11_undo_1 : decode cX11_undo 1 = .ok (.iconst 0, 1) := by decide +kernel
theorem dX11_undo_2 : decode cX11_undo 2 = .ok (.putfield 54, 3) := by decide +kernel
theorem dX11_undo_5 : decode cX11_undo 5 = .ok (.aload_n 0, 1) := by decide +kernel
theorem dX11_undo_6 : decode cX11_undo 6 = .ok (.getfield 57, 3) := by decide +kernel
theorem dX11_undo_9 : decode cX11_undo 9 = .ok (.ifCond .ne 9, 3) := by decide +kernel
theorem dX11_undo_12 : decode cX11_undo 12 = .ok (.aload_n 0, 1) := by decide +kernel
theorem dX11_undo_13 : decode cX11_undo 13 = .ok (.iconst 1, 1) := by decide +kernel
theorem dX11_undo_14 : decode cX11_undo 14 = .ok (.invokevirtual 68, 3) := by decide +kernel
theorem dX11_undo_17 : decode cX11_undo 17 = .ok (.ireturn, 1) := by decide +kernel
theorem dX11_undo_18 : decode cX11_undo 18 = .ok (.aload_n 0, 1) := by decide +kernel
theorem dX11_undo_19 : decode cX11_undo 19 = .ok (.dup, 1) := by decide +kernel
theorem dX11_undo_20 : decode cX11_undo 20 = .ok (.getfield 57, 3) := by decide +kernel
theorem dX11_undo_23 : decode cX11_undo 23 = .ok (.iconst 1, 1) := by decide +kernel
theorem dX11_undo_24 : decode cX11_undo 24 = .ok (.isub, 1) := by decide +kernel
theorem dX11_undo_25 : decode cX11_undo 25 = .ok (.putfield 57, 3) := by decide +kernel
theorem dX11_undo_28 : decode cX11_undo 28 = .ok (.iconst 0, 1) := by decide +kernel
theorem dX11_undo_29 : decode cX11_undo 29 = .ok (.istore_n 1, 1) := by decide +kernel
theorem dX11_undo_30 : decode cX11_undo 30 = .ok (.iload_n 1, 1) := by decide +kernel
theorem dX11_undo_31 : decode cX11_undo 31 = .ok (.sipush 3334, 3) := by decide +kernel
theorem dX11_undo_34 : decode cX11_undo 34 = .ok (.if_icmp .ge 30, 3) := by decide +kernel
theorem dX11_undo_37 : decode cX11_undo 37 = .ok (.aload_n 0, 1) := by decide +kernel
theorem dX11_undo_38 : decode cX11_undo 38 = .ok (.getfield 9, 3) := by decide +kernel
theorem dX11_undo_41 : decode cX11_undo 41 = .ok (.iload_n 1, 1) := by decide +kernel
theorem dX11_undo_42 : decode cX11_undo 42 = .ok (.aload_n 0, 1) := by decide +kernel
theorem dX11_undo_43 : decode cX11_undo 43 = .ok (.getfield 19, 3) := by decide +kernel
theorem dX11_undo_46 : decode cX11_undo 46 = .ok (.sipush 3334, 3) := by decide +kernel
theorem dX11_undo_49 : decode cX11_undo 49 = .ok (.aload_n 0, 1) := by decide +kernel
theorem dX11_undo_50 : decode cX11_undo 50 = .ok (.getfield 57, 3) := by decide +kernel
theorem dX11_undo_53 : decode cX11_undo 53 = .ok (.imul, 1) := by decide +kernel
theorem dX11_undo_54 : decode cX11_undo 54 = .ok (.iload_n 1, 1) := by decide +kernel
theorem dX11_undo_55 : decode cX11_undo 55 = .ok (.iadd, 1) := by decide +kernel
theorem dX11_undo_56 : decode cX11_undo 56 = .ok (.iaload, 1) := by decide +kernel
theorem dX11_undo_57 : decode cX11_undo 57 = .ok (.iastore, 1) := by decide +kernel
theorem dX11_undo_58 : decode cX11_undo 58 = .ok (.iinc 1 1, 3) := by decide +kernel
theorem dX11_undo_61 : decode cX11_undo 61 = .ok (.goto (-31), 3) := by decide +kernel
theorem dX11_undo_64 : decode cX11_undo 64 = .ok (.aload_n 0, 1) := by decide +kernel
theorem dX11_undo_65 : decode cX11_undo 65 = .ok (.getfield 57, 3) := by decide +kernel
theorem dX11_undo_68 : decode cX11_undo 68 = .ok (.ireturn, 1) := by decide +kernel
theorem dX11_saveSnapshot_0 : decode cX11_saveSnapshot 0 = .ok (.aload_n 0, 1) := by decide +kernel
theorem dX11_saveSnapshot_1 : decode cX11_saveSnapshot 1 = .ok (.iconst 0, 1) := by decide +kernel
theorem dX11_saveSnapshot_2 : decode cX11_saveSnapshot 2 = .ok (.putfield 54, 3) := by decide +kernel
theorem dX11_saveSnapshot_5 : decode cX11_saveSnapshot 5 = .ok (.iconst 0, 1) := by decide +kernel
theorem dX11_saveSnapshot_6 : decode cX11_saveSnapshot 6 = .ok (.istore_n 1, 1) := by decide +kernel
theorem dX11_saveSnapshot_7 : decode cX11_saveSnapshot 7 = .ok (.iload_n 1, 1) := by decide +kernel
theorem dX11_saveSnapshot_8 : decode cX11_saveSnapshot 8 = .ok (.sipush 3334, 3) := by decide +kernel
theorem dX11_saveSnapshot_11 : decode cX11_saveSnapshot 11 = .ok (.if_icmp .ge 21, 3) := by decide +kernel
theorem dX11_saveSnapshot_14 : decode cX11_saveSnapshot 14 = .ok (.aload_n 0, 1) := by decide +kernel
theorem dX11_saveSnapshot_15 : decode cX11_saveSnapshot 15 = .ok (.getfield 13, 3) := by decide +kernel
theorem dX11_saveSnapshot_18 : decode cX11_saveSnapshot 18 = .ok (.iload_n 1, 1) := by decide +kernel
theorem dX11_saveSnapshot_19 : decode cX11_saveSnapshot 19 = .ok (.aload_n 0, 1) := by decide +kernel
theorem dX11_saveSnapshot_20 : decode cX11_saveSnapshot 20 = .ok (.getfield 9, 3) := by decide +kernel
theorem dX11_saveSnapshot_23 : decode cX11_saveSnapshot 23 = .ok (.iload_n 1, 1) := by decide +kernel
theorem dX11_saveSnapshot_24 : decode cX11_saveSnapshot 24 = .ok (.iaload, 1) := by decide +kernel
theorem dX11_saveSnapshot_25 : decode cX11_saveSnapshot 25 = .ok (.iastore, 1) := by decide +kernel
theorem dX11_saveSnapshot_26 : decode cX11_saveSnapshot 26 = .ok (.iinc 1 1, 3) := by decide +kernel
theorem dX11_saveSnapshot_29 : decode cX11_saveSnapshot 29 = .ok (.goto (-22), 3) := by decide +kernel
theorem dX11_saveSnapshot_32 : decode cX11_saveSnapshot 32 = .ok (.aload_n 0, 1) := by decide +kernel
theorem dX11_saveSnapshot_33 : decode cX11_saveSnapshot 33 = .ok (.iconst 1, 1) := by decide +kernel
theorem dX11_saveSnapshot_34 : decode cX11_saveSnapshot 34 = .ok (.putfield 359, 3) := by decide +kernel
theorem dX11_saveSnapshot_37 : decode cX11_saveSnapshot 37 = .ok (.aload_n 0, 1) := by decide +kernel
theorem dX11_saveSnapshot_38 : decode cX11_saveSnapshot 38 = .ok (.getfield 9, 3) := by decide +kernel
theorem dX11_saveSnapshot_41 : decode cX11_saveSnapshot 41 = .ok (.iconst 1, 1) := by decide +kernel
theorem dX11_saveSnapshot_42 : decode cX11_saveSnapshot 42 = .ok (.iaload, 1) := by decide +kernel
theorem dX11_saveSnapshot_43 : decode cX11_saveSnapshot 43 = .ok (.ireturn, 1) := by decide +kernel
theorem dX11_restoreSnapshot_0 : decode cX11_restoreSnapshot 0 = .ok (.aload_n 0, 1) := by decide +kernel
theorem dX11_restoreSnapshot_1 : decode cX11_restoreSnapshot 1 = .ok (.iconst 0, 1) := by decide +kernel
theorem dX11_restoreSnapshot_2 : decode cX11_restoreSnapshot 2 = .ok (.putfield 54, 3) := by decide +kernel
theorem dX11_restoreSnapshot_5 : decode cX11_restoreSnapshot 5 = .ok (.aload_n 0, 1) := by decide +kernel
theorem dX11_restoreSnapshot_6 : decode cX11_restoreSnapshot 6 = .ok (.getfield 359, 3) := by decide +kernel
theorem dX11_restoreSnapshot_9 : decode cX11_restoreSnapshot 9 = .ok (.ifCond .ne 9, 3) := by decide +kernel
theorem dX11_restoreSnapshot_12 : decode cX11_restoreSnapshot 12 = .ok (.aload_n 0, 1) := by decide +kernel
theorem dX11_restoreSnapshot_13 : decode cX11_restoreSnapshot 13 = .ok (.iconst 1, 1) := by decide +kernel
theorem dX11_restoreSnapshot_14 : decode cX11_restoreSnapshot 14 = .ok (.invokevirtual 68, 3) := by decide +kernel
theorem dX11_restoreSnapshot_17 : decode cX11_restoreSnapshot 17 = .ok (.ireturn, 1) := by decide +kernel
theorem dX11_restoreSnapshot_18 : decode cX11_restoreSnapshot 18 = .ok (.iconst 0, 1) := by decide +kernel
theorem dX11_restoreSnapshot_19 : decode cX11_restoreSnapshot 19 = .ok (.istore_n 1, 1) := by decide +kernel
theorem dX11_restoreSnapshot_20 : decode cX11_restoreSnapshot 20 = .ok (.iload_n 1, 1) := by decide +kernel
theorem dX11_restoreSnapshot_21 : decode cX11_restoreSnapshot 21 = .ok (.sipush 3334, 3) := by decide +kernel
theorem dX11_restoreSnapshot_24 : decode cX11_restoreSnapshot 24 = .ok (.if_icmp .ge 21, 3) := by decide +kernel
theorem dX11_restoreSnapshot_27 : decode cX11_restoreSnapshot 27 = .ok (.aload_n 0, 1) := by decide +kernel
theorem dX11_restoreSnapshot_28 : decode cX11_restoreSnapshot 28 = .ok (.getfield 9, 3) := by decide +kernel
theorem dX11_restoreSnapshot_31 : decode cX11_restoreSnapshot 31 = .ok (.iload_n 1, 1) := by decide +kernel
theorem dX11_restoreSnapshot_32 : decode cX11_restoreSnapshot 32 = .ok (.aload_n 0, 1) := by decide +kernel
theorem dX11_restoreSnapshot_33 : decode cX11_restoreSnapshot 33 = .ok (.getfield 13, 3) := by decide +kernel
theorem dX11_restoreSnapshot_36 : decode cX11_restoreSnapshot 36 = .ok (.iload_n 1, 1) := by decide +kernel
theorem dX11_restoreSnapshot_37 : decode cX11_restoreSnapshot 37 = .ok (.iaload, 1) := by decide +kernel
theorem dX11_restoreSnapshot_38 : decode cX11_restoreSnapshot 38 = .ok (.iastore, 1) := by decide +kernel
theorem dX11_restoreSnapshot_39 : decode cX11_restoreSnapshot 39 = .ok (.iinc 1 1, 3) := by decide +kernel
theorem dX11_restoreSnapshot_42 : decode cX11_restoreSnapshot 42 = .ok (.goto (-22), 3) := by decide +kernel
theorem dX11_restoreSnapshot_45 : decode cX11_restoreSnapshot 45 = .ok (.aload_n 0, 1) := by decide +kernel
theorem dX11_restoreSnapshot_46 : decode cX11_restoreSnapshot 46 = .ok (.iconst 0, 1) := by decide +kernel
theorem dX11_restoreSnapshot_47 : decode cX11_restoreSnapshot 47 = .ok (.putfield 57, 3) := by decide +kernel
theorem dX11_restoreSnapshot_50 : decode cX11_restoreSnapshot 50 = .ok (.aload_n 0, 1) := by decide +kernel
theorem dX11_restoreSnapshot_51 : decode cX11_restoreSnapshot 51 = .ok (.getfield 9, 3) := by decide +kernel
theorem dX11_restoreSnapshot_54 : decode cX11_restoreSnapshot 54 = .ok (.iconst 1, 1) := by decide +kernel
theorem dX11_restoreSnapshot_55 : decode cX11_restoreSnapshot 55 = .ok (.iaload, 1) := by decide +kernel
theorem dX11_restoreSnapshot_56 : decode cX11_restoreSnapshot 56 = .ok (.ireturn, 1) := by decide +kernel
theorem dX11_put_0 : decode cX11_put 0 = .ok (.aload_n 0, 1) := by decide +kernel
theorem dX11_put_1 : decode cX11_put 1 = .ok (.getfield 50, 3) := by decide +kernel
theorem dX11_put_4 : decode cX11_put 4 = .ok (.aload_n 0, 1) := by decide +kernel
theorem dX11_put_5 : decode cX11_put 5 = .ok (.getfield 362, 3) := by decide +kernel
theorem dX11_put_8 : decode cX11_put 8 = .ok (.iload_n 1, 1) := by decide +kernel
theorem dX11_put_9 : decode cX11_put 9 = .ok (.castore, 1) := by decide +kernel
theorem dX11_put_10 : decode cX11_put 10 = .ok (.aload_n 0, 1) := by decide +kernel
theorem dX11_put_11 : decode cX11_put 11 = .ok (.dup, 1) := by decide +kernel
theorem dX11_put_12 : decode cX11_put 12 = .ok (.getfield 362, 3) := by decide +kernel
theorem dX11_put_15 : decode cX11_put 15 = .ok (.iconst 1, 1) := by decide +kernel
theorem dX11_put_16 : decode cX11_put 16 = .ok (.iadd, 1) := by decide +kernel
theorem dX11_put_17 : decode cX11_put 17 = .ok (.putfield 362, 3) := by decide +kernel
theorem dX11_put_20 : decode cX11_put 20 = .ok (.return_, 1) := by decide +kernel
theorem dX11_putNumber_0 : decode cX11_putNumber 0 = .ok (.sipush 1000, 3) := by decide +kernel
theorem dX11_putNumber_3 : decode cX11_putNumber 3 = .ok (.istore_n 2, 1) := by decide +kernel
theorem dX11_putNumber_4 : decode cX11_putNumber 4 = .ok (.iload_n 2, 1) := by decide +kernel
theorem dX11_putNumber_5 : decode cX11_putNumber 5 = .ok (.iconst 1, 1) := by decide +kernel
theorem dX11_putNumber_6 : decode cX11_putNumber 6 = .ok (.if_icmp .le 16, 3) := by decide +kernel
theorem dX11_putNumber_9 : decode cX11_putNumber 9 = .ok (.iload_n 1, 1) := by decide +kernel
theorem dX11_putNumber_10 : decode cX11_putNumber 10 = .ok (.iload_n 2, 1) := by decide +kernel
theorem dX11_putNumber_11 : decode cX11_putNumber 11 = .ok (.if_icmp .ge 11, 3) := by decide +kernel
theorem dX11_putNumber_14 : decode cX11_putNumber 14 = .ok (.iload_n 2, 1) := by decide +kernel
theorem dX11_putNumber_15 : decode cX11_putNumber 15 = .ok (.bipush 10, 2) := by decide +kernel
theorem dX11_putNumber_17 : decode cX11_putNumber 17 = .ok (.idiv, 1) := by decide +kernel
theorem dX11_putNumber_18 : decode cX11_putNumber 18 = .ok (.istore_n 2, 1) := by decide +kernel
theorem dX11_putNumber_19 : decode cX11_putNumber 19 = .ok (.goto (-15), 3) := by decide +kernel
theorem dX11_putNumber_22 : decode cX11_putNumber 22 = .ok (.iload_n 2, 1) := by decide +kernel
theorem dX11_putNumber_23 : decode cX11_putNumber 23 = .ok (.ifCond .le 25, 3) := by decide +kernel
theorem dX11_putNumber_26 : decode cX11_putNumber 26 = .ok (.aload_n 0, 1) := by decide +kernel
theorem dX11_putNumber_27 : decode cX11_putNumber 27 = .ok (.bipush 48, 2) := by decide +kernel
theorem dX11_putNumber_29 : decode cX11_putNumber 29 = .ok (.iload_n 1, 1) := by decide +kernel
theorem dX11_putNumber_30 : decode cX11_putNumber 30 = .ok (.iload_n 2, 1) := by decide +kernel
theorem dX11_putNumber_31 : decode cX11_putNumber 31 = .ok (.idiv, 1) := by decide +kernel
theorem dX11_putNumber_32 : decode cX11_putNumber 32 = .ok (.bipush 10, 2) := by decide +kernel
theorem dX11_putNumber_34 : decode cX11_putNumber 34 = .ok (.irem, 1) := by decide +kernel
theorem dX11_putNumber_35 : decode cX11_putNumber 35 = .ok (.iadd, 1) := by decide +kernel
theorem dX11_putNumber_36 : decode cX11_putNumber 36 = .ok (.i2c, 1) := by decide +kernel
theorem dX11_putNumber_37 : decode cX11_putNumber 37 = .ok (.invokevirtual 365, 3) := by decide +kernel
theorem dX11_putNumber_40 : decode cX11_putNumber 40 = .ok (.iload_n 2, 1) := by decide +kernel
theorem dX11_putNumber_41 : decode cX11_putNumber 41 = .ok (.bipush 10, 2) := by decide +kernel
theorem dX11_putNumber_43 : decode cX11_putNumber 43 = .ok (.idiv, 1) := by decide +kernel
theorem dX11_putNumber_44 : decode cX11_putNumber 44 = .ok (.istore_n 2, 1) := by decide +kernel
theorem dX11_putNumber_45 : decode cX11_putNumber 45 = .ok (.goto (-23), 3) := by decide +kernel
theorem dX11_putNumber_48 : decode cX11_putNumber 48 = .ok (.return_, 1) := by decide +kernel
theorem dX11_letterOf_0 : decode cX11_letterOf 0 = .ok (.iload_n 0, 1) := by decide +kernel
theorem dX11_letterOf_1 : decode cX11_letterOf 1 = .ok (.ifCond .ne 8, 3) := by decide +kernel
theorem dX11_letterOf_4 : decode cX11_letterOf 4 = .ok (.bipush 104, 2) := by decide +kernel
theorem dX11_letterOf_6 : decode cX11_letterOf 6 = .ok (.goto 35, 3) := by decide +kernel
theorem dX11_letterOf_9 : decode cX11_letterOf 9 = .ok (.iload_n 0, 1) := by decide +kernel
theorem dX11_letterOf_10 : decode cX11_letterOf 10 = .ok (.iconst 1, 1) := by decide +kernel
theorem dX11_letterOf_11 : decode cX11_letterOf 11 = .ok (.if_icmp .ne 8, 3) := by decide +kernel
theorem dX11_letterOf_14 : decode cX11_letterOf 14 = .ok (.bipush 119, 2) := by decide +kernel
theorem dX11_letterOf_16 : decode cX11_letterOf 16 = .ok (.goto 25, 3) := by decide +kernel
theorem dX11_letterOf_19 : decode cX11_letterOf 19 = .ok (.iload_n 0, 1) := by decide +kernel
theorem dX11_letterOf_20 : decode cX11_letterOf 20 = .ok (.iconst 2, 1) := by decide +kernel
theorem dX11_letterOf_21 : decode cX11_letterOf 21 = .ok (.if_icmp .ne 8, 3) := by decide +kernel
theorem dX11_letterOf_24 : decode cX11_letterOf 24 = .ok (.bipush 110, 2) := by decide +kernel
theorem dX11_letterOf_26 : decode cX11_letterOf 26 = .ok (.goto 15, 3) := by decide +kernel
theorem dX11_letterOf_29 : decode cX11_letterOf 29 = .ok (.iload_n 0, 1) := by decide +kernel
theorem dX11_letterOf_30 : decode cX11_letterOf 30 = .ok (.iconst 3, 1) := by decide +kernel
theorem dX11_letterOf_31 : decode cX11_letterOf 31 = .ok (.if_icmp .ne 8, 3) := by decide +kernel
theorem dX11_letterOf_34 : decode cX11_letterOf 34 = .ok (.bipush 108, 2) := by decide +kernel
theorem dX11_letterOf_36 : decode cX11_letterOf 36 = .ok (.goto 5, 3) := by decide +kernel
theorem dX11_letterOf_39 : decode cX11_letterOf 39 = .ok (.bipush 122, 2) := by decide +kernel
theorem dX11_letterOf_41 : decode cX11_letterOf 41 = .ok (.ireturn, 1) := by decide +kernel
theorem dX11_putTest_0 : decode cX11_putTest 0 = .ok (.iload_n 1, 1) := by decide +kernel
theorem dX11_putTest_1 : decode cX11_putTest 1 = .ok (.sipush 30000, 3) := by decide +kernel
theorem dX11_putTest_4 : decode cX11_putTest 4 = .ok (.idiv, 1) := by decide +kernel
theorem dX11_putTest_5 : decode cX11_putTest 5 = .ok (.iconst 5, 1) := by decide +kernel
theorem dX11_putTest_6 : decode cX11_putTest 6 = .ok (.irem, 1) := by decide +kernel
theorem dX11_putTest_7 : decode cX11_putTest 7 = .ok (.istore_n 2, 1) := by decide +kernel
theorem dX11_putTest_8 : decode cX11_putTest 8 = .ok (.iload_n 1, 1) := by decide +kernel
theorem dX11_putTest_9 : decode cX11_putTest 9 = .ok (.sipush 10000, 3) := by decide +kernel
theorem dX11_putTest_12 : decode cX11_putTest 12 = .ok (.idiv, 1) := by decide +kernel
theorem dX11_putTest_13 : decode cX11_putTest 13 = .ok (.iconst 3, 1) := by decide +kernel
theorem dX11_putTest_14 : decode cX11_putTest 14 = .ok (.irem, 1) := by decide +kernel
theorem dX11_putTest_15 : decode cX11_putTest 15 = .ok (.istore_n 3, 1) := by decide +kernel
theorem dX11_putTest_16 : decode cX11_putTest 16 = .ok (.iload_n 1, 1) := by decide +kernel
theorem dX11_putTest_17 : decode cX11_putTest 17 = .ok (.ldc_w 268, 3) := by decide +kernel
theorem dX11_putTest_20 : decode cX11_putTest 20 = .ok (.idiv, 1) := by decide +kernel
theorem dX11_putTest_21 : decode cX11_putTest 21 = .ok (.iconst 2, 1) := by decide +kernel
theorem dX11_putTest_22 : decode cX11_putTest 22 = .ok (.irem, 1) := by decide +kernel
theorem dX11_putTest_23 : decode cX11_putTest 23 = .ok (.iconst 1, 1) := by decide +kernel
theorem dX11_putTest_24 : decode cX11_putTest 24 = .ok (.if_icmp .ne 9, 3) := by decide +kernel
theorem dX11_putTest_27 : decode cX11_putTest 27 = .ok (.aload_n 0, 1) := by decide +kernel
theorem dX11_putTest_28 : decode cX11_putTest 28 = .ok (.bipush 45, 2) := by decide +kernel
theorem dX11_putTest_30 : decode cX11_putTest 30 = .ok (.invokevirtual 365, 3) := by decide +kernel
theorem dX11_putTest_33 : decode cX11_putTest 33 = .ok (.aload_n 0, 1) := by decide +kernel
theorem dX11_putTest_34 : decode cX11_putTest 34 = .ok (.iload_n 2, 1) := by decide +kernel
theorem dX11_putTest_35 : decode cX11_putTest 35 = .ok (.invokestatic 369, 3) := by decide +kernel
theorem dX11_putTest_38 : decode cX11_putTest 38 = .ok (.invokevirtual 365, 3) := by decide +kernel
theorem dX11_putTest_41 : decode cX11_putTest 41 = .ok (.iload_n 2, 1) := by decide +kernel
theorem dX11_putTest_42 : decode cX11_putTest 42 = .ok (.ifCond .le 28, 3) := by decide +kernel
theorem dX11_putTest_45 : decode cX11_putTest 45 = .ok (.aload_n 0, 1) := by decide +kernel
theorem dX11_putTest_46 : decode cX11_putTest 46 = .ok (.iload_n 3, 1) := by decide +kernel
theorem dX11_putTest_47 : decode cX11_putTest 47 = .ok (.ifCond .ne 8, 3) := by decide +kernel
theorem dX11_putTest_50 : decode cX11_putTest 50 = .ok (.bipush 60, 2) := by decide +kernel
theorem dX11_putTest_52 : decode cX11_putTest 52 = .ok (.goto 15, 3) := by decide +kernel
theorem dX11_putTest_55 : decode cX11_putTest 55 = .ok (.iload_n 3, 1) := by decide +kernel
theorem dX11_putTest_56 : decode cX11_putTest 56 = .ok (.iconst 1, 1) := by decide +kernel
theorem dX11_putTest_57 : decode cX11_putTest 57 = .ok (.if_icmp .ne 8, 3) := by decide +kernel
theorem dX11_putTest_60 : decode cX11_putTest 60 = .ok (.bipush 62, 2) := by decide +kernel
theorem dX11_putTest_62 : decode cX11_putTest 62 = .ok (.goto 5, 3) := by decide +kernel
theorem dX11_putTest_65 : decode cX11_putTest 65 = .ok (.bipush 61, 2) := by decide +kernel
theorem dX11_putTest_67 : decode cX11_putTest 67 = .ok (.invokevirtual 365, 3) := by decide +kernel
theorem dX11_putTest_70 : decode cX11_putTest 70 = .ok (.aload_n 0, 1) := by decide +kernel
theorem dX11_putTest_71 : decode cX11_putTest 71 = .ok (.iload_n 1, 1) := by decide +kernel
theorem dX11_putTest_72 : decode cX11_putTest 72 = .ok (.sipush 10000, 3) := by decide +kernel
theorem dX11_putTest_75 : decode cX11_putTest 75 = .ok (.irem, 1) := by decide +kernel
theorem dX11_putTest_76 : decode cX11_putTest 76 = .ok (.invokevirtual 373, 3) := by decide +kernel
theorem dX11_putTest_79 : decode cX11_putTest 79 = .ok (.return_, 1) := by decide +kernel
theorem dX11_write_0 : decode cX11_write 0 = .ok (.aload_n 0, 1) := by decide +kernel
theorem dX11_write_1 : decode cX11_write 1 = .ok (.aload_n 0, 1) := by decide +kernel
theorem dX11_write_2 : decode cX11_write 2 = .ok (.iload_n 1, 1) := by decide +kernel
theorem dX11_write_3 : decode cX11_write 3 = .ok (.invokevirtual 71, 3) := by decide +kernel
theorem dX11_write_6 : decode cX11_write 6 = .ok (.ifCond .ne 7, 3) := by decide +kernel
theorem dX11_write_9 : decode cX11_write 9 = .ok (.iconst 1, 1) := by decide +kernel
theorem dX11_write_10 : decode cX11_write 10 = .ok (.goto 31, 3) := by decide +kernel
theorem dX11_write_13 : decode cX11_write 13 = .ok (.iload_n 2, 1) := by decide +kernel
theorem dX11_write_14 : decode cX11_write 14 = .ok (.iconst 0, 1) := by decide +kernel
theorem dX11_write_15 : decode cX11_write 15 = .ok (.bipush 9, 2) := by decide +kernel
theorem dX11_write_17 : decode cX11_write 17 = .ok (.invokestatic 60, 3) := by decide +kernel
theorem dX11_write_20 : decode cX11_write 20 = .ok (.ifCond .eq 16, 3) := by decide +kernel
theorem dX11_write_23 : decode cX11_write 23 = .ok (.aload_n 0, 1) := by decide +kernel
theorem dX11_write_24 : decode cX11_write 24 = .ok (.getfield 9, 3) := by decide +kernel
theorem dX11_write_27 : decode cX11_write 27 = .ok (.iload_n 1, 1) := by decide +kernel
theorem dX11_write_28 : decode cX11_write 28 = .ok (.iload_n 2, 1) := by decide +kernel
theorem dX11_write_29 : decode cX11_write 29 = .ok (.invokestatic 82, 3) := by decide +kernel
theorem dX11_write_32 : decode cX11_write 32 = .ok (.iaload, 1) := by decide +kernel
theorem dX11_write_33 : decode cX11_write 33 = .ok (.ifCond .ne 7, 3) := by decide +kernel
theorem dX11_write_36 : decode cX11_write 36 = .ok (.iconst 2, 1) := by decide +kernel
theorem dX11_write_37 : decode cX11_write 37 = .ok (.goto 4, 3) := by decide +kernel
theorem dX11_write_40 : decode cX11_write 40 = .ok (.iconst 0, 1) := by decide +kernel
theorem dX11_write_41 : decode cX11_write 41 = .ok (.putfield 54, 3) := by decide +kernel
theorem dX11_write_44 : decode cX11_write 44 = .ok (.aload_n 0, 1) := by decide +kernel
theorem dX11_write_45 : decode cX11_write 45 = .ok (.getfield 54, 3) := by decide +kernel
theorem dX11_write_48 : decode cX11_write 48 = .ok (.ifCond .le 5, 3) := by decide +kernel
theorem dX11_write_51 : decode cX11_write 51 = .ok (.iconst 0, 1) := by decide +kernel
theorem dX11_write_52 : decode cX11_write 52 = .ok (.ireturn, 1) := by decide +kernel
theorem dX11_write_53 : decode cX11_write 53 = .ok (.iload_n 1, 1) := by decide +kernel
theorem dX11_write_54 : decode cX11_write 54 = .ok (.iload_n 2, 1) := by decide +kernel
theorem dX11_write_55 : decode cX11_write 55 = .ok (.invokestatic 82, 3) := by decide +kernel
theorem dX11_write_58 : decode cX11_write 58 = .ok (.istore_n 3, 1) := by decide +kernel
theorem dX11_write_59 : decode cX11_write 59 = .ok (.aload_n 0, 1) := by decide +kernel
theorem dX11_write_60 : decode cX11_write 60 = .ok (.iconst 0, 1) := by decide +kernel
theorem dX11_write_61 : decode cX11_write 61 = .ok (.putfield 362, 3) := by decide +kernel
theorem dX11_write_64 : decode cX11_write 64 = .ok (.aload_n 0, 1) := by decide +kernel
theorem dX11_write_65 : decode cX11_write 65 = .ok (.bipush 97, 2) := by decide +kernel
theorem dX11_write_67 : decode cX11_write 67 = .ok (.invokevirtual 365, 3) := by decide +kernel
theorem dX11_write_70 : decode cX11_write 70 = .ok (.aload_n 0, 1) := by decide +kernel
theorem dX11_write_71 : decode cX11_write 71 = .ok (.iload_n 2, 1) := by decide +kernel
theorem dX11_write_72 : decode cX11_write 72 = .ok (.invokevirtual 373, 3) := by decide +kernel
theorem dX11_write_75 : decode cX11_write 75 = .ok (.aload_n 0, 1) := by decide +kernel
theorem dX11_write_76 : decode cX11_write 76 = .ok (.bipush 58, 2) := by decide +kernel
theorem dX11_write_78 : decode cX11_write 78 = .ok (.invokevirtual 365, 3) := by decide +kernel
theorem dX11_write_81 : decode cX11_write 81 = .ok (.aload_n 0, 1) := by decide +kernel
theorem dX11_write_82 : decode cX11_write 82 = .ok (.aload_n 0, 1) := by decide +kernel
theorem dX11_write_83 : decode cX11_write 83 = .ok (.getfield 9, 3) := by decide +kernel
theorem dX11_write_86 : decode cX11_write 86 = .ok (.iload_n 3, 1) := by decide +kernel
theorem dX11_write_87 : decode cX11_write 87 = .ok (.iconst 1, 1) := by decide +kernel
theorem dX11_write_88 : decode cX11_write 88 = .ok (.iadd, 1) := by decide +kernel
theorem dX11_write_89 : decode cX11_write 89 = .ok (.iaload, 1) := by decide +kernel
theorem dX11_write_90 : decode cX11_write 90 = .ok (.invokevirtual 373, 3) := by decide +kernel
theorem dX11_write_93 : decode cX11_write 93 = .ok (.aload_n 0, 1) := by decide +kernel
theorem dX11_write_94 : decode cX11_write 94 = .ok (.getfield 9, 3) := by decide +kernel
theorem dX11_write_97 : decode cX11_write 97 = .ok (.iload_n 3, 1) := by decide +kernel
theorem dX11_write_98 : decode cX11_write 98 = .ok (.iconst 2, 1) := by decide +kernel
theorem dX11_write_99 : decode cX11_write 99 = .ok (.iadd, 1) := by decide +kernel
theorem dX11_write_100 : decode cX11_write 100 = .ok (.iaload, 1) := by decide +kernel
theorem dX11_write_101 : decode cX11_write 101 = .ok (.ifCond .le 26, 3) := by decide +kernel
theorem dX11_write_104 : decode cX11_write 104 = .ok (.aload_n 0, 1) := by decide +kernel
theorem dX11_write_105 : decode cX11_write 105 = .ok (.aload_n 0, 1) := by decide +kernel
theorem dX11_write_106 : decode cX11_write 106 = .ok (.getfield 9, 3) := by decide +kernel
theorem dX11_write_109 : decode cX11_write 109 = .ok (.iload_n 3, 1) := by decide +kernel
theorem dX11_write_110 : decode cX11_write 110 = .ok (.iconst 2, 1) := by decide +kernel
theorem dX11_write_111 : decode cX11_write 111 = .ok (.iadd, 1) := by decide +kernel
theorem dX11_write_112 : decode cX11_write 112 = .ok (.iaload, 1) := by decide +kernel
theorem dX11_write_113 : decode cX11_write 113 = .ok (.iconst 1, 1) := by decide +kernel
theorem dX11_write_114 : decode cX11_write 114 = .ok (.if_icmp .ne 8, 3) := by decide +kernel
theorem dX11_write_117 : decode cX11_write 117 = .ok (.bipush 42, 2) := by decide +kernel
theorem dX11_write_119 : decode cX11_write 119 = .ok (.goto 5, 3) := by decide +kernel
theorem dX11_write_122 : decode cX11_write 122 = .ok (.bipush 37, 2) := by decide +kernel
theorem dX11_write_124 : decode cX11_write 124 = .ok (.invokevirtual 365, 3) := by decide +kernel
theorem dX11_write_127 : decode cX11_write 127 = .ok (.iconst 0, 1) := by decide +kernel
theorem dX11_write_128 : decode cX11_write 128 = .ok (.istore 4, 2) := by decide +kernel
theorem dX11_write_130 : decode cX11_write 130 = .ok (.iload 4, 2) := by decide +kernel
theorem dX11_write_132 : decode cX11_write 132 = .ok (.aload_n 0, 1) := by decide +kernel
theorem dX11_write_133 : decode cX11_write 133 = .ok (.getfield 9, 3) := by decide +kernel
theorem dX11_write_136 : decode cX11_write 136 = .ok (.iload_n 3, 1) := by decide +kernel
theorem dX11_write_137 : decode cX11_write 137 = .ok (.iconst 4, 1) := by decide +kernel
theorem dX11_write_138 : decode cX11_write 138 = .ok (.iadd, 1) := by decide +kernel
theorem dX11_write_139 : decode cX11_write 139 = .ok (.iaload, 1) := by decide +kernel
theorem dX11_write_140 : decode cX11_write 140 = .ok (.if_icmp .ge 94, 3) := by decide +kernel
theorem dX11_write_143 : decode cX11_write 143 = .ok (.aload_n 0, 1) := by decide +kernel
theorem dX11_write_144 : decode cX11_write 144 = .ok (.getfield 9, 3) := by decide +kernel
theorem dX11_write_147 : decode cX11_write 147 = .ok (.iload_n 3, 1) := by decide +kernel
theorem dX11_write_148 : decode cX11_write 148 = .ok (.bipush 6, 2) := by decide +kernel
theorem dX11_write_150 : decode cX11_write 150 = .ok (.iadd, 1) := by decide +kernel
theorem dX11_write_151 : decode cX11_write 151 = .ok (.iload 4, 2) := by decide +kernel
theorem dX11_write_153 : decode cX11_write 153 = .ok (.iadd, 1) := by decide +kernel
theorem dX11_write_154 : decode cX11_write 154 = .ok (.iaload, 1) := by decide +kernel
theorem dX11_write_155 : decode cX11_write 155 = .ok (.istore 5, 2) := by decide +kernel
theorem dX11_write_157 : decode cX11_write 157 = .ok (.iload 4, 2) := by decide +kernel
theorem dX11_write_159 : decode cX11_write 159 = .ok (.ifCond .le 34, 3) := by decide +kernel
theorem dX11_write_162 : decode cX11_write 162 = .ok (.aload_n 0, 1) := by decide +kernel
theorem dX11_write_163 : decode cX11_write 163 = .ok (.getfield 9, 3) := by decide +kernel
theorem dX11_write_166 : decode cX11_write 166 = .ok (.iload_n 3, 1) := by decide +kernel
theorem dX11_write_167 : decode cX11_write 167 = .ok (.bipush 6, 2) := by decide +kernel
theorem dX11_write_169 : decode cX11_write 169 = .ok (.iadd, 1) := by decide +kernel
theorem dX11_write_170 : decode cX11_write 170 = .ok (.iload 4, 2) := by decide +kernel
theorem dX11_write_172 : decode cX11_write 172 = .ok (.iadd, 1) := by decide +kernel
theorem dX11_write_173 : decode cX11_write 173 = .ok (.iconst 1, 1) := by decide +kernel
theorem dX11_write_174 : decode cX11_write 174 = .ok (.isub, 1) := by decide +kernel
theorem dX11_write_175 : decode cX11_write 175 = .ok (.iaload, 1) := by decide +kernel
theorem dX11_write_176 : decode cX11_write 176 = .ok (.ldc_w 269, 3) := by decide +kernel
theorem dX11_write_179 : decode cX11_write 179 = .ok (.idiv, 1) := by decide +kernel
theorem dX11_write_180 : decode cX11_write 180 = .ok (.iload 5, 2) := by decide +kernel
theorem dX11_write_182 : decode cX11_write 182 = .ok (.ldc_w 269, 3) := by decide +kernel
theorem dX11_write_185 : decode cX11_write 185 = .ok (.idiv, 1) := by decide +kernel
theorem dX11_write_186 : decode cX11_write 186 = .ok (.if_icmp .ne 7, 3) := by decide +kernel
theorem dX11_write_189 : decode cX11_write 189 = .ok (.iconst 1, 1) := by decide +kernel
theorem dX11_write_190 : decode cX11_write 190 = .ok (.goto 4, 3) := by decide +kernel
theorem dX11_write_193 : decode cX11_write 193 = .ok (.iconst 0, 1) := by decide +kernel
theorem dX11_write_194 : decode cX11_write 194 = .ok (.istore 6, 2) := by decide +kernel
theorem dX11_write_196 : decode cX11_write 196 = .ok (.aload_n 0, 1) := by decide +kernel
theorem dX11_write_197 : decode cX11_write 197 = .ok (.iload 4, 2) := by decide +kernel
theorem dX11_write_199 : decode cX11_write 199 = .ok (.ifCond .ne 8, 3) := by decide +kernel
theorem dX11_write_202 : decode cX11_write 202 = .ok (.bipush 63, 2) := by decide +kernel
theorem dX11_write_204 : decode cX11_write 204 = .ok (.goto 15, 3) := by decide +kernel
theorem dX11_write_207 : decode cX11_write 207 = .ok (.iload 6, 2) := by decide +kernel
theorem dX11_write_209 : decode cX11_write 209 = .ok (.ifCond .eq 8, 3) := by decide +kernel
theorem dX11_write_212 : decode cX11_write 212 = .ok (.bipush 38, 2) := by decide +kernel
theorem dX11_write_214 : decode cX11_write 214 = .ok (.goto 5, 3) := by decide +kernel
theorem dX11_write_217 : decode cX11_write 217 = .ok (.bipush 124, 2) := by decide +kernel
theorem dX11_write_219 : decode cX11_write 219 = .ok (.invokevirtual 365, 3) := by decide +kernel
theorem dX11_write_222 : decode cX11_write 222 = .ok (.aload_n 0, 1) := by decide +kernel
theorem dX11_write_223 : decode cX11_write 223 = .ok (.iload 5, 2) := by decide +kernel
theorem dX11_write_225 : decode cX11_write 225 = .ok (.invokevirtual 376, 3) := by decide +kernel
theorem dX11_write_228 : decode cX11_write 228 = .ok (.iinc 4 1, 3) := by decide +kernel
theorem dX11_write_231 : decode cX11_write 231 = .ok (.goto (-101), 3) := by decide +kernel
theorem dX11_write_234 : decode cX11_write 234 = .ok (.aload_n 0, 1) := by decide +kernel
theorem dX11_write_235 : decode cX11_write 235 = .ok (.getfield 9, 3) := by decide +kernel
theorem dX11_write_238 : decode cX11_write 238 = .ok (.iload_n 3, 1) := by decide +kernel
theorem dX11_write_239 : decode cX11_write 239 = .ok (.iconst 5, 1) := by decide +kernel
theorem dX11_write_240 : decode cX11_write 240 = .ok (.iadd, 1) := by decide +kernel
theorem dX11_write_241 : decode cX11_write 241 = .ok (.iaload, 1) := by decide +kernel
theorem dX11_write_242 : decode cX11_write 242 = .ok (.ifCond .lt 21, 3) := by decide +kernel
theorem dX11_write_245 : decode cX11_write 245 = .ok (.aload_n 0, 1) := by decide +kernel
theorem dX11_write_246 : decode cX11_write 246 = .ok (.bipush 33, 2) := by decide +kernel
theorem dX11_write_248 : decode cX11_write 248 = .ok (.invokevirtual 365, 3) := by decide +kernel
theorem dX11_write_251 : decode cX11_write 251 = .ok (.aload_n 0, 1) := by decide +kernel
theorem dX11_write_252 : decode cX11_write 252 = .ok (.aload_n 0, 1) := by decide +kernel
theorem dX11_write_253 : decode cX11_write 253 = .ok (.getfield 9, 3) := by decide +kernel
theorem dX11_write_256 : decode cX11_write 256 = .ok (.iload_n 3, 1) := by decide +kernel
theorem dX11_write_257 : decode cX11_write 257 = .ok (.iconst 5, 1) := by decide +kernel
theorem dX11_write_258 : decode cX11_write 258 = .ok (.iadd, 1) := by decide +kernel
theorem dX11_write_259 : decode cX11_write 259 = .ok (.iaload, 1) := by decide +kernel
theorem dX11_write_260 : decode cX11_write 260 = .ok (.invokevirtual 373, 3) := by decide +kernel
theorem dX11_write_263 : decode cX11_write 263 = .ok (.aload_n 0, 1) := by decide +kernel
theorem dX11_write_264 : decode cX11_write 264 = .ok (.getfield 362, 3) := by decide +kernel
theorem dX11_write_267 : decode cX11_write 267 = .ok (.ireturn, 1) := by decide +kernel
theorem dX11_paper_0 : decode cX11_paper 0 = .ok (.aload_n 0, 1) := by decide +kernel
theorem dX11_paper_1 : decode cX11_paper 1 = .ok (.iload_n 1, 1) := by decide +kernel
theorem dX11_paper_2 : decode cX11_paper 2 = .ok (.iconst 0, 1) := by decide +kernel
theorem dX11_paper_3 : decode cX11_paper 3 = .ok (.aload_n 0, 1) := by decide +kernel
theorem dX11_paper_4 : decode cX11_paper 4 = .ok (.getfield 362, 3) := by decide +kernel
theorem dX11_paper_7 : decode cX11_paper 7 = .ok (.iconst 1, 1) := by decide +kernel
theorem dX11_paper_8 : decode cX11_paper 8 = .ok (.isub, 1) := by decide +kernel
theorem dX11_paper_9 : decode cX11_paper 9 = .ok (.invokestatic 60, 3) := by decide +kernel
theorem dX11_paper_12 : decode cX11_paper 12 = .ok (.ifCond .eq 7, 3) := by decide +kernel
theorem dX11_paper_15 : decode cX11_paper 15 = .ok (.iconst 0, 1) := by decide +kernel
theorem dX11_paper_16 : decode cX11_paper 16 = .ok (.goto 4, 3) := by decide +kernel
theorem dX11_paper_19 : decode cX11_paper 19 = .ok (.iconst 1, 1) := by decide +kernel
theorem dX11_paper_20 : decode cX11_paper 20 = .ok (.putfield 54, 3) := by decide +kernel
theorem dX11_paper_23 : decode cX11_paper 23 = .ok (.aload_n 0, 1) := by decide +kernel
theorem dX11_paper_24 : decode cX11_paper 24 = .ok (.getfield 54, 3) := by decide +kernel
theorem dX11_paper_27 : decode cX11_paper 27 = .ok (.ifCond .le 8, 3) := by decide +kernel
theorem dX11_paper_30 : decode cX11_paper 30 = .ok (.bipush 97, 2) := by decide +kernel
theorem dX11_paper_32 : decode cX11_paper 32 = .ok (.goto 9, 3) := by decide +kernel
theorem dX11_paper_35 : decode cX11_paper 35 = .ok (.aload_n 0, 1) := by decide +kernel
theorem dX11_paper_36 : decode cX11_paper 36 = .ok (.getfield 50, 3) := by decide +kernel
theorem dX11_paper_39 : decode cX11_paper 39 = .ok (.iload_n 1, 1) := by decide +kernel
theorem dX11_paper_40 : decode cX11_paper 40 = .ok (.caload, 1) := by decide +kernel
theorem dX11_paper_41 : decode cX11_paper 41 = .ok (.ireturn, 1) := by decide +kernel
