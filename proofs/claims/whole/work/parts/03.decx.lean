theorem dX0_init_0 : decode cX0_init 0 = .ok (.aload_n 0, 1) := by decide +kernel
theorem dX0_init_1 : decode cX0_init 1 = .ok (.invokespecial 3, 3) := by decide +kernel
theorem dX0_init_4 : decode cX0_init 4 = .ok (.aload_n 0, 1) := by decide +kernel
theorem dX0_init_5 : decode cX0_init 5 = .ok (.new 9, 3) := by decide +kernel
theorem dX0_init_8 : decode cX0_init 8 = .ok (.dup, 1) := by decide +kernel
theorem dX0_init_9 : decode cX0_init 9 = .ok (.invokespecial 11, 3) := by decide +kernel
theorem dX0_init_12 : decode cX0_init 12 = .ok (.putfield 12, 3) := by decide +kernel
theorem dX0_init_15 : decode cX0_init 15 = .ok (.aload_n 0, 1) := by decide +kernel
theorem dX0_init_16 : decode cX0_init 16 = .ok (.iconst (-1), 1) := by decide +kernel
theorem dX0_init_17 : decode cX0_init 17 = .ok (.putfield 18, 3) := by decide +kernel
theorem dX0_init_20 : decode cX0_init 20 = .ok (.aload_n 0, 1) := by decide +kernel
theorem dX0_init_21 : decode cX0_init 21 = .ok (.bipush 15, 2) := by decide +kernel
theorem dX0_init_23 : decode cX0_init 23 = .ok (.newarray .int, 2) := by decide +kernel
theorem dX0_init_25 : decode cX0_init 25 = .ok (.putfield 22, 3) := by decide +kernel
theorem dX0_init_28 : decode cX0_init 28 = .ok (.aload_n 0, 1) := by decide +kernel
theorem dX0_init_29 : decode cX0_init 29 = .ok (.bipush 15, 2) := by decide +kernel
theorem dX0_init_31 : decode cX0_init 31 = .ok (.newarray .int, 2) := by decide +kernel
theorem dX0_init_33 : decode cX0_init 33 = .ok (.putfield 26, 3) := by decide +kernel
theorem dX0_init_36 : decode cX0_init 36 = .ok (.aload_n 0, 1) := by decide +kernel
theorem dX0_init_37 : decode cX0_init 37 = .ok (.bipush 15, 2) := by decide +kernel
theorem dX0_init_39 : decode cX0_init 39 = .ok (.bipush 16, 2) := by decide +kernel
theorem dX0_init_41 : decode cX0_init 41 = .ok (.multianewarray 29 2, 4) := by decide +kernel
theorem dX0_init_45 : decode cX0_init 45 = .ok (.putfield 31, 3) := by decide +kernel
theorem dX0_init_48 : decode cX0_init 48 = .ok (.aload_n 0, 1) := by decide +kernel
theorem dX0_init_49 : decode cX0_init 49 = .ok (.bipush 15, 2) := by decide +kernel
theorem dX0_init_51 : decode cX0_init 51 = .ok (.bipush 16, 2) := by decide +kernel
theorem dX0_init_53 : decode cX0_init 53 = .ok (.multianewarray 34 2, 4) := by decide +kernel
theorem dX0_init_57 : decode cX0_init 57 = .ok (.putfield 36, 3) := by decide +kernel
theorem dX0_init_60 : decode cX0_init 60 = .ok (.aload_n 0, 1) := by decide +kernel
theorem dX0_init_61 : decode cX0_init 61 = .ok (.bipush 6, 2) := by decide +kernel
theorem dX0_init_63 : decode cX0_init 63 = .ok (.bipush 16, 2) := by decide +kernel
theorem dX0_init_65 : decode cX0_init 65 = .ok (.multianewarray 29 2, 4) := by decide +kernel
theorem dX0_init_69 : decode cX0_init 69 = .ok (.putfield 39, 3) := by decide +kernel
theorem dX0_init_72 : decode cX0_init 72 = .ok (.aload_n 0, 1) := by decide +kernel
theorem dX0_init_73 : decode cX0_init 73 = .ok (.bipush 6, 2) := by decide +kernel
theorem dX0_init_75 : decode cX0_init 75 = .ok (.bipush 16, 2) := by decide +kernel
theorem dX0_init_77 : decode cX0_init 77 = .ok (.multianewarray 29 2, 4) := by decide +kernel
theorem dX0_init_81 : decode cX0_init 81 = .ok (.putfield 42, 3) := by decide +kernel
theorem dX0_init_84 : decode cX0_init 84 = .ok (.aload_n 0, 1) := by decide +kernel
theorem dX0_init_85 : decode cX0_init 85 = .ok (.iconst 4, 1) := by decide +kernel
theorem dX0_init_86 : decode cX0_init 86 = .ok (.bipush 96, 2) := by decide +kernel
theorem dX0_init_88 : decode cX0_init 88 = .ok (.multianewarray 29 2, 4) := by decide +kernel
theorem dX0_init_92 : decode cX0_init 92 = .ok (.putfield 45, 3) := by decide +kernel
theorem dX0_init_95 : decode cX0_init 95 = .ok (.return_, 1) := by decide +kernel
theorem dX0_refresh_0 : decode cX0_refresh 0 = .ok (.aload_n 0, 1) := by decide +kernel
theorem dX0_refresh_1 : decode cX0_refresh 1 = .ok (.getfield 18, 3) := by decide +kernel
theorem dX0_refresh_4 : decode cX0_refresh 4 = .ok (.aload_n 1, 1) := by decide +kernel
theorem dX0_refresh_5 : decode cX0_refresh 5 = .ok (.invokevirtual 48, 3) := by decide +kernel
theorem dX0_refresh_8 : decode cX0_refresh 8 = .ok (.if_icmp .ne 4, 3) := by decide +kernel
theorem dX0_refresh_11 : decode cX0_refresh 11 = .ok (.return_, 1) := by decide +kernel
theorem dX0_refresh_12 : decode cX0_refresh 12 = .ok (.aload_n 0, 1) := by decide +kernel
theorem dX0_refresh_13 : decode cX0_refresh 13 = .ok (.aload_n 1, 1) := by decide +kernel
theorem dX0_refresh_14 : decode cX0_refresh 14 = .ok (.invokevirtual 48, 3) := by decide +kernel
theorem dX0_refresh_17 : decode cX0_refresh 17 = .ok (.putfield 18, 3) := by decide +kernel
theorem dX0_refresh_20 : decode cX0_refresh 20 = .ok (.aload_n 0, 1) := by decide +kernel
theorem dX0_refresh_21 : decode cX0_refresh 21 = .ok (.invokevirtual 53, 3) := by decide +kernel
theorem dX0_refresh_24 : decode cX0_refresh 24 = .ok (.iconst 0, 1) := by decide +kernel
theorem dX0_refresh_25 : decode cX0_refresh 25 = .ok (.istore_n 2, 1) := by decide +kernel
theorem dX0_refresh_26 : decode cX0_refresh 26 = .ok (.iload_n 2, 1) := by decide +kernel
theorem dX0_refresh_27 : decode cX0_refresh 27 = .ok (.aload_n 1, 1) := by decide +kernel
theorem dX0_refresh_28 : decode cX0_refresh 28 = .ok (.invokevirtual 56, 3) := by decide +kernel
theorem dX0_refresh_31 : decode cX0_refresh 31 = .ok (.if_icmp .ge 43, 3) := by decide +kernel
theorem dX0_refresh_34 : decode cX0_refresh 34 = .ok (.iload_n 2, 1) := by decide +kernel
theorem dX0_refresh_35 : decode cX0_refresh 35 = .ok (.iconst 1, 1) := by decide +kernel
theorem dX0_refresh_36 : decode cX0_refresh 36 = .ok (.iadd, 1) := by decide +kernel
theorem dX0_refresh_37 : decode cX0_refresh 37 = .ok (.istore_n 3, 1) := by decide +kernel
theorem dX0_refresh_38 : decode cX0_refresh 38 = .ok (.iload_n 3, 1) := by decide +kernel
theorem dX0_refresh_39 : decode cX0_refresh 39 = .ok (.aload_n 1, 1) := by decide +kernel
theorem dX0_refresh_40 : decode cX0_refresh 40 = .ok (.invokevirtual 56, 3) := by decide +kernel
theorem dX0_refresh_43 : decode cX0_refresh 43 = .ok (.if_icmp .ge 25, 3) := by decide +kernel
theorem dX0_refresh_46 : decode cX0_refresh 46 = .ok (.aload_n 1, 1) := by decide +kernel
theorem dX0_refresh_47 : decode cX0_refresh 47 = .ok (.iload_n 2, 1) := by decide +kernel
theorem dX0_refresh_48 : decode cX0_refresh 48 = .ok (.iload_n 3, 1) := by decide +kernel
theorem dX0_refresh_49 : decode cX0_refresh 49 = .ok (.invokevirtual 59, 3) := by decide +kernel
theorem dX0_refresh_52 : decode cX0_refresh 52 = .ok (.ifCond .eq 10, 3) := by decide +kernel
theorem dX0_refresh_55 : decode cX0_refresh 55 = .ok (.aload_n 0, 1) := by decide +kernel
theorem dX0_refresh_56 : decode cX0_refresh 56 = .ok (.aload_n 1, 1) := by decide +kernel
theorem dX0_refresh_57 : decode cX0_refresh 57 = .ok (.iload_n 2, 1) := by decide +kernel
theorem dX0_refresh_58 : decode cX0_refresh 58 = .ok (.iload_n 3, 1) := by decide +kernel
theorem dX0_refresh_59 : decode cX0_refresh 59 = .ok (.invokevirtual 63, 3) := by decide +kernel
theorem dX0_refresh_62 : decode cX0_refresh 62 = .ok (.iinc 3 1, 3) := by decide +kernel
theorem dX0_refresh_65 : decode cX0_refresh 65 = .ok (.goto (-27), 3) := by decide +kernel
theorem dX0_refresh_68 : decode cX0_refresh 68 = .ok (.iinc 2 1, 3) := by decide +kernel
theorem dX0_refresh_71 : decode cX0_refresh 71 = .ok (.goto (-45), 3) := by decide +kernel
theorem dX0_refresh_74 : decode cX0_refresh 74 = .ok (.aload_n 0, 1) := by decide +kernel
theorem dX0_refresh_75 : decode cX0_refresh 75 = .ok (.getfield 67, 3) := by decide +kernel
theorem dX0_refresh_78 : decode cX0_refresh 78 = .ok (.bipush 96, 2) := by decide +kernel
theorem dX0_refresh_80 : decode cX0_refresh 80 = .ok (.if_icmp .ge 51, 3) := by decide +kernel
theorem dX0_refresh_83 : decode cX0_refresh 83 = .ok (.aload_n 0, 1) := by decide +kernel
theorem dX0_refresh_84 : decode cX0_refresh 84 = .ok (.aload_n 1, 1) := by decide +kernel
theorem dX0_refresh_85 : decode cX0_refresh 85 = .ok (.invokevirtual 70, 3) := by decide +kernel
theorem dX0_refresh_88 : decode cX0_refresh 88 = .ok (.ifCond .eq 43, 3) := by decide +kernel
theorem dX0_refresh_91 : decode cX0_refresh 91 = .ok (.aload_n 0, 1) := by decide +kernel
theorem dX0_refresh_92 : decode cX0_refresh 92 = .ok (.aload_n 1, 1) := by decide +kernel
theorem dX0_refresh_93 : decode cX0_refresh 93 = .ok (.aload_n 0, 1) := by decide +kernel
theorem dX0_refresh_94 : decode cX0_refresh 94 = .ok (.getfield 45, 3) := by decide +kernel
theorem dX0_refresh_97 : decode cX0_refresh 97 = .ok (.iconst 0, 1) := by decide +kernel
theorem dX0_refresh_98 : decode cX0_refresh 98 = .ok (.aaload, 1) := by decide +kernel
theorem dX0_refresh_99 : decode cX0_refresh 99 = .ok (.aload_n 0, 1) := by decide +kernel
theorem dX0_refresh_100 : decode cX0_refresh 100 = .ok (.getfield 67, 3) := by decide +kernel
theorem dX0_refresh_103 : decode cX0_refresh 103 = .ok (.iaload, 1) := by decide +kernel
theorem dX0_refresh_104 : decode cX0_refresh 104 = .ok (.aload_n 0, 1) := by decide +kernel
theorem dX0_refresh_105 : decode cX0_refresh 105 = .ok (.getfield 45, 3) := by decide +kernel
theorem dX0_refresh_108 : decode cX0_refresh 108 = .ok (.iconst 1, 1) := by decide +kernel
theorem dX0_refresh_109 : decode cX0_refresh 109 = .ok (.aaload, 1) := by decide +kernel
theorem dX0_refresh_110 : decode cX0_refresh 110 = .ok (.aload_n 0, 1) := by decide +kernel
theorem dX0_refresh_111 : decode cX0_refresh 111 = .ok (.getfield 67, 3) := by decide +kernel
theorem dX0_refresh_114 : decode cX0_refresh 114 = .ok (.iaload, 1) := by decide +kernel
theorem dX0_refresh_115 : decode cX0_refresh 115 = .ok (.invokevirtual 74, 3) := by decide +kernel
theorem dX0_refresh_118 : decode cX0_refresh 118 = .ok (.aload_n 0, 1) := by decide +kernel
theorem dX0_refresh_119 : decode cX0_refresh 119 = .ok (.dup, 1) := by decide +kernel
theorem dX0_refresh_120 : decode cX0_refresh 120 = .ok (.getfield 67, 3) := by decide +kernel
theorem dX0_refresh_123 : decode cX0_refresh 123 = .ok (.iconst 1, 1) := by decide +kernel
theorem dX0_refresh_124 : decode cX0_refresh 124 = .ok (.iadd, 1) := by decide +kernel
theorem dX0_refresh_125 : decode cX0_refresh 125 = .ok (.putfield 67, 3) := by decide +kernel
theorem dX0_refresh_128 : decode cX0_refresh 128 = .ok (.goto (-54), 3) := by decide +kernel
theorem dX0_refresh_131 : decode cX0_refresh 131 = .ok (.return_, 1) := by decide +kernel
theorem dX0_votesCast_0 : decode cX0_votesCast 0 = .ok (.aload_n 0, 1) := by decide +kernel
theorem dX0_votesCast_1 : decode cX0_votesCast 1 = .ok (.getfield 39, 3) := by decide +kernel
theorem dX0_votesCast_4 : decode cX0_votesCast 4 = .ok (.iload_n 1, 1) := by decide +kernel
theorem dX0_votesCast_5 : decode cX0_votesCast 5 = .ok (.aaload, 1) := by decide +kernel
theorem dX0_votesCast_6 : decode cX0_votesCast 6 = .ok (.iload_n 2, 1) := by decide +kernel
theorem dX0_votesCast_7 : decode cX0_votesCast 7 = .ok (.iaload, 1) := by decide +kernel
theorem dX0_votesCast_8 : decode cX0_votesCast 8 = .ok (.ireturn, 1) := by decide +kernel
theorem dX0_length_0 : decode cX0_length 0 = .ok (.aload_n 0, 1) := by decide +kernel
theorem dX0_length_1 : decode cX0_length 1 = .ok (.getfield 67, 3) := by decide +kernel
theorem dX0_length_4 : decode cX0_length 4 = .ok (.ireturn, 1) := by decide +kernel
theorem dX0_property_0 : decode cX0_property 0 = .ok (.aload_n 0, 1) := by decide +kernel
theorem dX0_property_1 : decode cX0_property 1 = .ok (.getfield 45, 3) := by decide +kernel
theorem dX0_property_4 : decode cX0_property 4 = .ok (.iload_n 2, 1) := by decide +kernel
theorem dX0_property_5 : decode cX0_property 5 = .ok (.aaload, 1) := by decide +kernel
theorem dX0_property_6 : decode cX0_property 6 = .ok (.iload_n 1, 1) := by decide +kernel
theorem dX0_property_7 : decode cX0_property 7 = .ok (.iaload, 1) := by decide +kernel
theorem dX0_property_8 : decode cX0_property 8 = .ok (.ireturn, 1) := by decide +kernel
theorem dX0_clear_0 : decode cX0_clear 0 = .ok (.aload_n 0, 1) := by decide +kernel
theorem dX0_clear_1 : decode cX0_clear 1 = .ok (.iconst 0, 1) := by decide +kernel
theorem dX0_clear_2 : decode cX0_clear 2 = .ok (.putfield 67, 3) := by decide +kernel
theorem dX0_clear_5 : decode cX0_clear 5 = .ok (.aload_n 0, 1) := by decide +kernel
theorem dX0_clear_6 : decode cX0_clear 6 = .ok (.iconst 0, 1) := by decide +kernel
theorem dX0_clear_7 : decode cX0_clear 7 = .ok (.putfield 77, 3) := by decide +kernel
theorem dX0_clear_10 : decode cX0_clear 10 = .ok (.iconst 0, 1) := by decide +kernel
theorem dX0_clear_11 : decode cX0_clear 11 = .ok (.istore_n 1, 1) := by decide +kernel
theorem dX0_clear_12 : decode cX0_clear 12 = .ok (.iload_n 1, 1) := by decide +kernel
theorem dX0_clear_13 : decode cX0_clear 13 = .ok (.bipush 16, 2) := by decide +kernel
theorem dX0_clear_15 : decode cX0_clear 15 = .ok (.if_icmp .ge 64, 3) := by decide +kernel
theorem dX0_clear_18 : decode cX0_clear 18 = .ok (.iconst 0, 1) := by decide +kernel
theorem dX0_clear_19 : decode cX0_clear 19 = .ok (.istore_n 2, 1) := by decide +kernel
theorem dX0_clear_20 : decode cX0_clear 20 = .ok (.iload_n 2, 1) := by decide +kernel
theorem dX0_clear_21 : decode cX0_clear 21 = .ok (.bipush 15, 2) := by decide +kernel
theorem dX0_clear_23 : decode cX0_clear 23 = .ok (.if_icmp .ge 18, 3) := by decide +kernel
theorem dX0_clear_26 : decode cX0_clear 26 = .ok (.aload_n 0, 1) := by decide +kernel
theorem dX0_clear_27 : decode cX0_clear 27 = .ok (.getfield 31, 3) := by decide +kernel
theorem dX0_clear_30 : decode cX0_clear 30 = .ok (.iload_n 2, 1) := by decide +kernel
theorem dX0_clear_31 : decode cX0_clear 31 = .ok (.aaload, 1) := by decide +kernel
theorem dX0_clear_32 : decode cX0_clear 32 = .ok (.iload_n 1, 1) := by decide +kernel
theorem dX0_clear_33 : decode cX0_clear 33 = .ok (.iconst 0, 1) := by decide +kernel
theorem dX0_clear_34 : decode cX0_clear 34 = .ok (.iastore, 1) := by decide +kernel
theorem dX0_clear_35 : decode cX0_clear 35 = .ok (.iinc 2 1, 3) := by decide +kernel
theorem dX0_clear_38 : decode cX0_clear 38 = .ok (.goto (-18), 3) := by decide +kernel
theorem dX0_clear_41 : decode cX0_clear 41 = .ok (.iconst 0, 1) := by decide +kernel
theorem dX0_clear_42 : decode cX0_clear 42 = .ok (.istore_n 2, 1) := by decide +kernel
theorem dX0_clear_43 : decode cX0_clear 43 = .ok (.iload_n 2, 1) := by decide +kernel
theorem dX0_clear_44 : decode cX0_clear 44 = .ok (.bipush 6, 2) := by decide +kernel
theorem dX0_clear_46 : decode cX0_clear 46 = .ok (.if_icmp .ge 27, 3) := by decide +kernel
theorem dX0_clear_49 : decode cX0_clear 49 = .ok (.aload_n 0, 1) := by decide +kernel
theorem dX0_clear_50 : decode cX0_clear 50 = .ok (.getfield 39, 3) := by decide +kernel
theorem dX0_clear_53 : decode cX0_clear 53 = .ok (.iload_n 2, 1) := by decide +kernel
theorem dX0_clear_54 : decode cX0_clear 54 = .ok (.aaload, 1) := by decide +kernel
theorem dX0_clear_55 : decode cX0_clear 55 = .ok (.iload_n 1, 1) := by decide +kernel
theorem dX0_clear_56 : decode cX0_clear 56 = .ok (.iconst 0, 1) := by decide +kernel
theorem dX0_clear_57 : decode cX0_clear 57 = .ok (.iastore, 1) := by decide +kernel
theorem dX0_clear_58 : decode cX0_clear 58 = .ok (.aload_n 0, 1) := by decide +kernel
theorem dX0_clear_59 : decode cX0_clear 59 = .ok (.getfield 42, 3) := by decide +kernel
theorem dX0_clear_62 : decode cX0_clear 62 = .ok (.iload_n 2, 1) := by decide +kernel
theorem dX0_clear_63 : decode cX0_clear 63 = .ok (.aaload, 1) := by decide +kernel
theorem dX0_clear_64 : decode cX0_clear 64 = .ok (.iload_n 1, 1) := by decide +kernel
theorem dX0_clear_65 : decode cX0_clear 65 = .ok (.iconst 0, 1) := by decide +kernel
theorem dX0_clear_66 : decode cX0_clear 66 = .ok (.iastore, 1) := by decide +kernel
theorem dX0_clear_67 : decode cX0_clear 67 = .ok (.iinc 2 1, 3) := by decide +kernel
theorem dX0_clear_70 : decode cX0_clear 70 = .ok (.goto (-27), 3) := by decide +kernel
theorem dX0_clear_73 : decode cX0_clear 73 = .ok (.iinc 1 1, 3) := by decide +kernel
theorem dX0_clear_76 : decode cX0_clear 76 = .ok (.goto (-64), 3) := by decide +kernel
theorem dX0_clear_79 : decode cX0_clear 79 = .ok (.return_, 1) := by decide +kernel
theorem dX0_addPair_0 : decode cX0_addPair 0 = .ok (.aload_n 0, 1) := by decide +kernel
theorem dX0_addPair_1 : decode cX0_addPair 1 = .ok (.getfield 77, 3) := by decide +kernel
theorem dX0_addPair_4 : decode cX0_addPair 4 = .ok (.bipush 15, 2) := by decide +kernel
theorem dX0_addPair_6 : decode cX0_addPair 6 = .ok (.if_icmp .lt 4, 3) := by decide +kernel
theorem dX0_addPair_9 : decode cX0_addPair 9 = .ok (.return_, 1) := by decide +kernel
theorem dX0_addPair_10 : decode cX0_addPair 10 = .ok (.aload_n 0, 1) := by decide +kernel
theorem dX0_addPair_11 : decode cX0_addPair 11 = .ok (.getfield 22, 3) := by decide +kernel
theorem dX0_addPair_14 : decode cX0_addPair 14 = .ok (.aload_n 0, 1) := by decide +kernel
theorem dX0_addPair_15 : decode cX0_addPair 15 = .ok (.getfield 77, 3) := by decide +kernel
theorem dX0_addPair_18 : decode cX0_addPair 18 = .ok (.iload_n 2, 1) := by decide +kernel
theorem dX0_addPair_19 : decode cX0_addPair 19 = .ok (.iastore, 1) := by decide +kernel
theorem dX0_addPair_20 : decode cX0_addPair 20 = .ok (.aload_n 0, 1) := by decide +kernel
theorem dX0_addPair_21 : decode cX0_addPair 21 = .ok (.getfield 26, 3) := by decide +kernel
theorem dX0_addPair_24 : decode cX0_addPair 24 = .ok (.aload_n 0, 1) := by decide +kernel
theorem dX0_addPair_25 : decode cX0_addPair 25 = .ok (.getfield 77, 3) := by decide +kernel
theorem dX0_addPair_28 : decode cX0_addPair 28 = .ok (.iload_n 3, 1) := by decide +kernel
theorem dX0_addPair_29 : decode cX0_addPair 29 = .ok (.iastore, 1) := by decide +kernel
theorem dX0_addPair_30 : decode cX0_addPair 30 = .ok (.aload_n 0, 1) := by decide +kernel
theorem dX0_addPair_31 : decode cX0_addPair 31 = .ok (.getfield 12, 3) := by decide +kernel
theorem dX0_addPair_34 : decode cX0_addPair 34 = .ok (.aload_n 1, 1) := by decide +kernel
theorem dX0_addPair_35 : decode cX0_addPair 35 = .ok (.iload_n 2, 1) := by decide +kernel
theorem dX0_addPair_36 : decode cX0_addPair 36 = .ok (.iload_n 3, 1) := by decide +kernel
theorem dX0_addPair_37 : decode cX0_addPair 37 = .ok (.invokevirtual 80, 3) := by decide +kernel
theorem dX0_addPair_40 : decode cX0_addPair 40 = .ok (.aload_n 0, 1) := by decide +kernel
theorem dX0_addPair_41 : decode cX0_addPair 41 = .ok (.getfield 12, 3) := by decide +kernel
theorem dX0_addPair_44 : decode cX0_addPair 44 = .ok (.aload_n 1, 1) := by decide +kernel
theorem dX0_addPair_45 : decode cX0_addPair 45 = .ok (.iconst 0, 1) := by decide +kernel
theorem dX0_addPair_46 : decode cX0_addPair 46 = .ok (.invokevirtual 83, 3) := by decide +kernel
theorem dX0_addPair_49 : decode cX0_addPair 49 = .ok (.aload_n 1, 1) := by decide +kernel
theorem dX0_addPair_50 : decode cX0_addPair 50 = .ok (.invokevirtual 87, 3) := by decide +kernel
theorem dX0_addPair_53 : decode cX0_addPair 53 = .ok (.invokevirtual 90, 3) := by decide +kernel
theorem dX0_addPair_56 : decode cX0_addPair 56 = .ok (.iconst 0, 1) := by decide +kernel
theorem dX0_addPair_57 : decode cX0_addPair 57 = .ok (.istore 4, 2) := by decide +kernel
theorem dX0_addPair_59 : decode cX0_addPair 59 = .ok (.iload 4, 2) := by decide +kernel
theorem dX0_addPair_61 : decode cX0_addPair 61 = .ok (.aload_n 0, 1) := by decide +kernel
theorem dX0_addPair_62 : decode cX0_addPair 62 = .ok (.getfield 12, 3) := by decide +kernel
theorem dX0_addPair_65 : decode cX0_addPair 65 = .ok (.invokevirtual 94, 3) := by decide +kernel
theorem dX0_addPair_68 : decode cX0_addPair 68 = .ok (.if_icmp .ge 106, 3) := by decide +kernel
theorem dX0_addPair_71 : decode cX0_addPair 71 = .ok (.aload_n 0, 1) := by decide +kernel
theorem dX0_addPair_72 : decode cX0_addPair 72 = .ok (.getfield 12, 3) := by decide +kernel
theorem dX0_addPair_75 : decode cX0_addPair 75 = .ok (.iload 4, 2) := by decide +kernel
theorem dX0_addPair_77 : decode cX0_addPair 77 = .ok (.invokevirtual 97, 3) := by decide +kernel
theorem dX0_addPair_80 : decode cX0_addPair 80 = .ok (.istore 5, 2) := by decide +kernel
theorem dX0_addPair_82 : decode cX0_addPair 82 = .ok (.aload_n 0, 1) := by decide +kernel
theorem dX0_addPair_83 : decode cX0_addPair 83 = .ok (.getfield 31, 3) := by decide +kernel
theorem dX0_addPair_86 : decode cX0_addPair 86 = .ok (.aload_n 0, 1) := by decide +kernel
theorem dX0_addPair_87 : decode cX0_addPair 87 = .ok (.getfield 77, 3) := by decide +kernel
theorem dX0_addPair_90 : decode cX0_addPair 90 = .ok (.aaload, 1) := by decide +kernel
theorem dX0_addPair_91 : decode cX0_addPair 91 = .ok (.iload 5, 2) := by decide +kernel
theorem dX0_addPair_93 : decode cX0_addPair 93 = .ok (.iconst 1, 1) := by decide +kernel
theorem dX0_addPair_94 : decode cX0_addPair 94 = .ok (.iastore, 1) := by decide +kernel
theorem dX0_addPair_95 : decode cX0_addPair 95 = .ok (.aload_n 0, 1) := by decide +kernel
theorem dX0_addPair_96 : decode cX0_addPair 96 = .ok (.getfield 36, 3) := by decide +kernel
theorem dX0_addPair_99 : decode cX0_addPair 99 = .ok (.aload_n 0, 1) := by decide +kernel
theorem dX0_addPair_100 : decode cX0_addPair 100 = .ok (.getfield 77, 3) := by decide +kernel
theorem dX0_addPair_103 : decode cX0_addPair 103 = .ok (.aaload, 1) := by decide +kernel
theorem dX0_addPair_104 : decode cX0_addPair 104 = .ok (.iload 5, 2) := by decide +kernel
theorem dX0_addPair_106 : decode cX0_addPair 106 = .ok (.aload_n 0, 1) := by decide +kernel
theorem dX0_addPair_107 : decode cX0_addPair 107 = .ok (.getfield 12, 3) := by decide +kernel
theorem dX0_addPair_110 : decode cX0_addPair 110 = .ok (.iload 4, 2) := by decide +kernel
theorem dX0_addPair_112 : decode cX0_addPair 112 = .ok (.invokevirtual 100, 3) := by decide +kernel
theorem dX0_addPair_115 : decode cX0_addPair 115 = .ok (.lastore, 1) := by decide +kernel
theorem dX0_addPair_116 : decode cX0_addPair 116 = .ok (.aload_n 0, 1) := by decide +kernel
theorem dX0_addPair_117 : decode cX0_addPair 117 = .ok (.getfield 39, 3) := by decide +kernel
theorem dX0_addPair_120 : decode cX0_addPair 120 = .ok (.iload_n 2, 1) := by decide +kernel
theorem dX0_addPair_121 : decode cX0_addPair 121 = .ok (.aaload, 1) := by decide +kernel
theorem dX0_addPair_122 : decode cX0_addPair 122 = .ok (.iload 5, 2) := by decide +kernel
theorem dX0_addPair_124 : decode cX0_addPair 124 = .ok (.dup2, 1) := by decide +kernel
theorem dX0_addPair_125 : decode cX0_addPair 125 = .ok (.iaload, 1) := by decide +kernel
theorem dX0_addPair_126 : decode cX0_addPair 126 = .ok (.iconst 1, 1) := by decide +kernel
theorem dX0_addPair_127 : decode cX0_addPair 127 = .ok (.iadd, 1) := by decide +kernel
theorem dX0_addPair_128 : decode cX0_addPair 128 = .ok (.iastore, 1) := by decide +kernel
theorem dX0_addPair_129 : decode cX0_addPair 129 = .ok (.aload_n 0, 1) := by decide +kernel
theorem dX0_addPair_130 : decode cX0_addPair 130 = .ok (.getfield 39, 3) := by decide +kernel
theorem dX0_addPair_133 : decode cX0_addPair 133 = .ok (.iload_n 3, 1) := by decide +kernel
theorem dX0_addPair_134 : decode cX0_addPair 134 = .ok (.aaload, 1) := by decide +kernel
theorem dX0_addPair_135 : decode cX0_addPair 135 = .ok (.iload 5, 2) := by decide +kernel
theorem dX0_addPair_137 : decode cX0_addPair 137 = .ok (.dup2, 1) := by decide +kernel
theorem dX0_addPair_138 : decode cX0_addPair 138 = .ok (.iaload, 1) := by decide +kernel
theorem dX0_addPair_139 : decode cX0_addPair 139 = .ok (.iconst 1, 1) := by decide +kernel
theorem dX0_addPair_140 : decode cX0_addPair 140 = .ok (.iadd, 1) := by decide +kernel
theorem dX0_addPair_141 : decode cX0_addPair 141 = .ok (.iastore, 1) := by decide +kernel
theorem dX0_addPair_142 : decode cX0_addPair 142 = .ok (.aload_n 0, 1) := by decide +kernel
theorem dX0_addPair_143 : decode cX0_addPair 143 = .ok (.getfield 42, 3) := by decide +kernel
theorem dX0_addPair_146 : decode cX0_addPair 146 = .ok (.iload_n 2, 1) := by decide +kernel
theorem dX0_addPair_147 : decode cX0_addPair 147 = .ok (.aaload, 1) := by decide +kernel
theorem dX0_addPair_148 : decode cX0_addPair 148 = .ok (.iload 5, 2) := by decide +kernel
theorem dX0_addPair_150 : decode cX0_addPair 150 = .ok (.dup2, 1) := by decide +kernel
theorem dX0_addPair_151 : decode cX0_addPair 151 = .ok (.iaload, 1) := by decide +kernel
theorem dX0_addPair_152 : decode cX0_addPair 152 = .ok (.iconst 1, 1) := by decide +kernel
theorem dX0_addPair_153 : decode cX0_addPair 153 = .ok (.iadd, 1) := by decide +kernel
theorem dX0_addPair_154 : decode cX0_addPair 154 = .ok (.iastore, 1) := by decide +kernel
theorem dX0_addPair_155 : decode cX0_addPair 155 = .ok (.aload_n 0, 1) := by decide +kernel
theorem dX0_addPair_156 : decode cX0_addPair 156 = .ok (.getfield 42, 3) := by decide +kernel
theorem dX0_addPair_159 : decode cX0_addPair 159 = .ok (.iload_n 3, 1) := by decide +kernel
theorem dX0_addPair_160 : decode cX0_addPair 160 = .ok (.aaload, 1) := by decide +kernel
theorem dX0_addPair_161 : decode cX0_addPair 161 = .ok (.iload 5, 2) := by decide +kernel
theorem dX0_addPair_163 : decode cX0_addPair 163 = .ok (.dup2, 1) := by decide +kernel
theorem dX0_addPair_164 : decode cX0_addPair 164 = .ok (.iaload, 1) := by decide +kernel
theorem dX0_addPair_165 : decode cX0_addPair 165 = .ok (.iconst 1, 1) := by decide +kernel
theorem dX0_addPair_166 : decode cX0_addPair 166 = .ok (.iadd, 1) := by decide +kernel
theorem dX0_addPair_167 : decode cX0_addPair 167 = .ok (.iastore, 1) := by decide +kernel
theorem dX0_addPair_168 : decode cX0_addPair 168 = .ok (.iinc 4 1, 3) := by decide +kernel
theorem dX0_addPair_171 : decode cX0_addPair 171 = .ok (.goto (-112), 3) := by decide +kernel
theorem dX0_addPair_174 : decode cX0_addPair 174 = .ok (.aload_n 0, 1) := by decide +kernel
theorem dX0_addPair_175 : decode cX0_addPair 175 = .ok (.dup, 1) := by decide +kernel
theorem dX0_addPair_176 : decode cX0_addPair 176 = .ok (.getfield 77, 3) := by decide +kernel
theorem dX0_addPair_179 : decode cX0_addPair 179 = .ok (.iconst 1, 1) := by decide +kernel
theorem dX0_addPair_180 : decode cX0_addPair 180 = .ok (.iadd, 1) := by decide +kernel
theorem dX0_addPair_181 : decode cX0_addPair 181 = .ok (.putfield 77, 3) := by decide +kernel
theorem dX0_addPair_184 : decode cX0_addPair 184 = .ok (.return_, 1) := by decide +kernel
theorem dX0_findCulprit_0 : decode cX0_findCulprit 0 = .ok (.aload_n 1, 1) := by decide +kernel
theorem dX0_findCulprit_1 : decode cX0_findCulprit 1 = .ok (.iconst 2, 1) := by decide +kernel
theorem dX0_findCulprit_2 : decode cX0_findCulprit 2 = .ok (.invokevirtual 83, 3) := by decide +kernel
theorem dX0_findCulprit_5 : decode cX0_findCulprit 5 = .ok (.iconst 1, 1) := by decide +kernel
theorem dX0_findCulprit_6 : decode cX0_findCulprit 6 = .ok (.isub, 1) := by decide +kernel
theorem dX0_findCulprit_7 : decode cX0_findCulprit 7 = .ok (.istore_n 2, 1) := by decide +kernel
theorem dX0_findCulprit_8 : decode cX0_findCulprit 8 = .ok (.iconst 0, 1) := by decide +kernel
theorem dX0_findCulprit_9 : decode cX0_findCulprit 9 = .ok (.istore_n 3, 1) := by decide +kernel
theorem dX0_findCulprit_10 : decode cX0_findCulprit 10 = .ok (.iconst 0, 1) := by decide +kernel
theorem dX0_findCulprit_11 : decode cX0_findCulprit 11 = .ok (.istore 4, 2) := by decide +kernel
theorem dX0_findCulprit_13 : decode cX0_findCulprit 13 = .ok (.iload 4, 2) := by decide +kernel
theorem dX0_findCulprit_15 : decode cX0_findCulprit 15 = .ok (.aload_n 1, 1) := by decide +kernel
theorem dX0_findCulprit_16 : decode cX0_findCulprit 16 = .ok (.invokevirtual 56, 3) := by decide +kernel
theorem dX0_findCulprit_19 : decode cX0_findCulprit 19 = .ok (.if_icmp .ge 80, 3) := by decide +kernel
theorem dX0_findCulprit_22 : decode cX0_findCulprit 22 = .ok (.iconst 0, 1) := by decide +kernel
theorem dX0_findCulprit_23 : decode cX0_findCulprit 23 = .ok (.istore 5, 2) := by decide +kernel
theorem dX0_findCulprit_25 : decode cX0_findCulprit 25 = .ok (.iload 5, 2) := by decide +kernel
theorem dX0_findCulprit_27 : decode cX0_findCulprit 27 = .ok (.aload_n 1, 1) := by decide +kernel
theorem dX0_findCulprit_28 : decode cX0_findCulprit 28 = .ok (.invokevirtual 104, 3) := by decide +kernel
theorem dX0_findCulprit_31 : decode cX0_findCulprit 31 = .ok (.if_icmp .ge 62, 3) := by decide +kernel
theorem dX0_findCulprit_34 : decode cX0_findCulprit 34 = .ok (.aload_n 0, 1) := by decide +kernel
theorem dX0_findCulprit_35 : decode cX0_findCulprit 35 = .ok (.getfield 42, 3) := by decide +kernel
theorem dX0_findCulprit_38 : decode cX0_findCulprit 38 = .ok (.iload 4, 2) := by decide +kernel
theorem dX0_findCulprit_40 : decode cX0_findCulprit 40 = .ok (.aaload, 1) := by decide +kernel
theorem dX0_findCulprit_41 : decode cX0_findCulprit 41 = .ok (.iload 5, 2) := by decide +kernel
theorem dX0_findCulprit_43 : decode cX0_findCulprit 43 = .ok (.iaload, 1) := by decide +kernel
theorem dX0_findCulprit_44 : decode cX0_findCulprit 44 = .ok (.iload_n 2, 1) := by decide +kernel
theorem dX0_findCulprit_45 : decode cX0_findCulprit 45 = .ok (.if_icmp .le 42, 3) := by decide +kernel
theorem dX0_findCulprit_48 : decode cX0_findCulprit 48 = .ok (.aload_n 0, 1) := by decide +kernel
theorem dX0_findCulprit_49 : decode cX0_findCulprit 49 = .ok (.getfield 42, 3) := by decide +kernel
theorem dX0_findCulprit_52 : decode cX0_findCulprit 52 = .ok (.iload 4, 2) := by decide +kernel
theorem dX0_findCulprit_54 : decode cX0_findCulprit 54 = .ok (.aaload, 1) := by decide +kernel
theorem dX0_findCulprit_55 : decode cX0_findCulprit 55 = .ok (.iload 5, 2) := by decide +kernel
theorem dX0_findCulprit_57 : decode cX0_findCulprit 57 = .ok (.iaload, 1) := by decide +kernel
theorem dX0_findCulprit_58 : decode cX0_findCulprit 58 = .ok (.istore_n 2, 1) := by decide +kernel
theorem dX0_findCulprit_59 : decode cX0_findCulprit 59 = .ok (.iconst 1, 1) := by decide +kernel
theorem dX0_findCulprit_60 : decode cX0_findCulprit 60 = .ok (.istore_n 3, 1) := by decide +kernel
theorem dX0_findCulprit_61 : decode cX0_findCulprit 61 = .ok (.aload_n 0, 1) := by decide +kernel
theorem dX0_findCulprit_62 : decode cX0_findCulprit 62 = .ok (.getfield 45, 3) := by decide +kernel
theorem dX0_findCulprit_65 : decode cX0_findCulprit 65 = .ok (.iconst 0, 1) := by decide +kernel
theorem dX0_findCulprit_66 : decode cX0_findCulprit 66 = .ok (.aaload, 1) := by decide +kernel
theorem dX0_findCulprit_67 : decode cX0_findCulprit 67 = .ok (.aload_n 0, 1) := by decide +kernel
theorem dX0_findCulprit_68 : decode cX0_findCulprit 68 = .ok (.getfield 67, 3) := by decide +kernel
theorem dX0_findCulprit_71 : decode cX0_findCulprit 71 = .ok (.iload 4, 2) := by decide +kernel
theorem dX0_findCulprit_73 : decode cX0_findCulprit 73 = .ok (.iastore, 1) := by decide +kernel
theorem dX0_findCulprit_74 : decode cX0_findCulprit 74 = .ok (.aload_n 0, 1) := by decide +kernel
theorem dX0_findCulprit_75 : decode cX0_findCulprit 75 = .ok (.getfield 45, 3) := by decide +kernel
theorem dX0_findCulprit_78 : decode cX0_findCulprit 78 = .ok (.iconst 1, 1) := by decide +kernel
theorem dX0_findCulprit_79 : decode cX0_findCulprit 79 = .ok (.aaload, 1) := by decide +kernel
theorem dX0_findCulprit_80 : decode cX0_findCulprit 80 = .ok (.aload_n 0, 1) := by decide +kernel
theorem dX0_findCulprit_81 : decode cX0_findCulprit 81 = .ok (.getfield 67, 3) := by decide +kernel
theorem dX0_findCulprit_84 : decode cX0_findCulprit 84 = .ok (.iload 5, 2) := by decide +kernel
theorem dX0_findCulprit_86 : decode cX0_findCulprit 86 = .ok (.iastore, 1) := by decide +kernel
theorem dX0_findCulprit_87 : decode cX0_findCulprit 87 = .ok (.iinc 5 1, 3) := by decide +kernel
theorem dX0_findCulprit_90 : decode cX0_findCulprit 90 = .ok (.goto (-65), 3) := by decide +kernel
theorem dX0_findCulprit_93 : decode cX0_findCulprit 93 = .ok (.iinc 4 1, 3) := by decide +kernel
theorem dX0_findCulprit_96 : decode cX0_findCulprit 96 = .ok (.goto (-83), 3) := by decide +kernel
theorem dX0_findCulprit_99 : decode cX0_findCulprit 99 = .ok (.iload_n 3, 1) := by decide +kernel
theorem dX0_findCulprit_100 : decode cX0_findCulprit 100 = .ok (.ifCond .eq 52, 3) := by decide +kernel
theorem dX0_findCulprit_103 : decode cX0_findCulprit 103 = .ok (.aload_n 0, 1) := by decide +kernel
theorem dX0_findCulprit_104 : decode cX0_findCulprit 104 = .ok (.getfield 45, 3) := by decide +kernel
theorem dX0_findCulprit_107 : decode cX0_findCulprit 107 = .ok (.iconst 2, 1) := by decide +kernel
theorem dX0_findCulprit_108 : decode cX0_findCulprit 108 = .ok (.aaload, 1) := by decide +kernel
theorem dX0_findCulprit_109 : decode cX0_findCulprit 109 = .ok (.aload_n 0, 1) := by decide +kernel
theorem dX0_findCulprit_110 : decode cX0_findCulprit 110 = .ok (.getfield 67, 3) := by decide +kernel
theorem dX0_findCulprit_113 : decode cX0_findCulprit 113 = .ok (.iload_n 2, 1) := by decide +kernel
theorem dX0_findCulprit_114 : decode cX0_findCulprit 114 = .ok (.iastore, 1) := by decide +kernel
theorem dX0_findCulprit_115 : decode cX0_findCulprit 115 = .ok (.aload_n 0, 1) := by decide +kernel
theorem dX0_findCulprit_116 : decode cX0_findCulprit 116 = .ok (.getfield 45, 3) := by decide +kernel
theorem dX0_findCulprit_119 : decode cX0_findCulprit 119 = .ok (.iconst 3, 1) := by decide +kernel
theorem dX0_findCulprit_120 : decode cX0_findCulprit 120 = .ok (.aaload, 1) := by decide +kernel
theorem dX0_findCulprit_121 : decode cX0_findCulprit 121 = .ok (.aload_n 0, 1) := by decide +kernel
theorem dX0_findCulprit_122 : decode cX0_findCulprit 122 = .ok (.getfield 67, 3) := by decide +kernel
theorem dX0_findCulprit_125 : decode cX0_findCulprit 125 = .ok (.aload_n 0, 1) := by decide +kernel
theorem dX0_findCulprit_126 : decode cX0_findCulprit 126 = .ok (.aload_n 0, 1) := by decide +kernel
theorem dX0_findCulprit_127 : decode cX0_findCulprit 127 = .ok (.getfield 45, 3) := by decide +kernel
theorem dX0_findCulprit_130 : decode cX0_findCulprit 130 = .ok (.iconst 0, 1) := by decide +kernel
theorem dX0_findCulprit_131 : decode cX0_findCulprit 131 = .ok (.aaload, 1) := by decide +kernel
theorem dX0_findCulprit_132 : decode cX0_findCulprit 132 = .ok (.aload_n 0, 1) := by decide +kernel
theorem dX0_findCulprit_133 : decode cX0_findCulprit 133 = .ok (.getfield 67, 3) := by decide +kernel
theorem dX0_findCulprit_136 : decode cX0_findCulprit 136 = .ok (.iaload, 1) := by decide +kernel
theorem dX0_findCulprit_137 : decode cX0_findCulprit 137 = .ok (.aload_n 0, 1) := by decide +kernel
theorem dX0_findCulprit_138 : decode cX0_findCulprit 138 = .ok (.getfield 45, 3) := by decide +kernel
theorem dX0_findCulprit_141 : decode cX0_findCulprit 141 = .ok (.iconst 1, 1) := by decide +kernel
theorem dX0_findCulprit_142 : decode cX0_findCulprit 142 = .ok (.aaload, 1) := by decide +kernel
theorem dX0_findCulprit_143 : decode cX0_findCulprit 143 = .ok (.aload_n 0, 1) := by decide +kernel
theorem dX0_findCulprit_144 : decode cX0_findCulprit 144 = .ok (.getfield 67, 3) := by decide +kernel
theorem dX0_findCulprit_147 : decode cX0_findCulprit 147 = .ok (.iaload, 1) := by decide +kernel
theorem dX0_findCulprit_148 : decode cX0_findCulprit 148 = .ok (.invokevirtual 107, 3) := by decide +kernel
theorem dX0_findCulprit_151 : decode cX0_findCulprit 151 = .ok (.iastore, 1) := by decide +kernel
theorem dX0_findCulprit_152 : decode cX0_findCulprit 152 = .ok (.iload_n 3, 1) := by decide +kernel
theorem dX0_findCulprit_153 : decode cX0_findCulprit 153 = .ok (.ireturn, 1) := by decide +kernel
theorem dX0_size_0 : decode cX0_size 0 = .ok (.lconst 0, 1) := by decide +kernel
theorem dX0_size_1 : decode cX0_size 1 = .ok (.lstore_n 3, 1) := by decide +kernel
theorem dX0_size_2 : decode cX0_size 2 = .ok (.iconst 0, 1) := by decide +kernel
theorem dX0_size_3 : decode cX0_size 3 = .ok (.istore 5, 2) := by decide +kernel
theorem dX0_size_5 : decode cX0_size 5 = .ok (.iconst 0, 1) := by decide +kernel
theorem dX0_size_6 : decode cX0_size 6 = .ok (.istore 6, 2) := by decide +kernel
theorem dX0_size_8 : decode cX0_size 8 = .ok (.iload 6, 2) := by decide +kernel
theorem dX0_size_10 : decode cX0_size 10 = .ok (.aload_n 0, 1) := by decide +kernel
theorem dX0_size_11 : decode cX0_size 11 = .ok (.getfield 77, 3) := by decide +kernel
theorem dX0_size_14 : decode cX0_size 14 = .ok (.if_icmp .ge 71, 3) := by decide +kernel
theorem dX0_size_17 : decode cX0_size 17 = .ok (.aload_n 0, 1) := by decide +kernel
theorem dX0_size_18 : decode cX0_size 18 = .ok (.iload 6, 2) := by decide +kernel
theorem dX0_size_20 : decode cX0_size 20 = .ok (.iload_n 1, 1) := by decide +kernel
theorem dX0_size_21 : decode cX0_size 21 = .ok (.invokevirtual 111, 3) := by decide +kernel
theorem dX0_size_24 : decode cX0_size 24 = .ok (.ifCond .eq 55, 3) := by decide +kernel
theorem dX0_size_27 : decode cX0_size 27 = .ok (.aload_n 0, 1) := by decide +kernel
theorem dX0_size_28 : decode cX0_size 28 = .ok (.getfield 31, 3) := by decide +kernel
theorem dX0_size_31 : decode cX0_size 31 = .ok (.iload 6, 2) := by decide +kernel
theorem dX0_size_33 : decode cX0_size 33 = .ok (.aaload, 1) := by decide +kernel
theorem dX0_size_34 : decode cX0_size 34 = .ok (.iload_n 2, 1) := by decide +kernel
theorem dX0_size_35 : decode cX0_size 35 = .ok (.iaload, 1) := by decide +kernel
theorem dX0_size_36 : decode cX0_size 36 = .ok (.iconst 1, 1) := by decide +kernel
theorem dX0_size_37 : decode cX0_size 37 = .ok (.if_icmp .ne 42, 3) := by decide +kernel
theorem dX0_size_40 : decode cX0_size 40 = .ok (.lload_n 3, 1) := by decide +kernel
theorem dX0_size_41 : decode cX0_size 41 = .ok (.aload_n 0, 1) := by decide +kernel
theorem dX0_size_42 : decode cX0_size 42 = .ok (.getfield 22, 3) := by decide +kernel
theorem dX0_size_45 : decode cX0_size 45 = .ok (.iload 6, 2) := by decide +kernel
theorem dX0_size_47 : decode cX0_size 47 = .ok (.iaload, 1) := by decide +kernel
theorem dX0_size_48 : decode cX0_size 48 = .ok (.iload_n 1, 1) := by decide +kernel
theorem dX0_size_49 : decode cX0_size 49 = .ok (.if_icmp .ne 15, 3) := by decide +kernel
theorem dX0_size_52 : decode cX0_size 52 = .ok (.aload_n 0, 1) := by decide +kernel
theorem dX0_size_53 : decode cX0_size 53 = .ok (.getfield 36, 3) := by decide +kernel
theorem dX0_size_56 : decode cX0_size 56 = .ok (.iload 6, 2) := by decide +kernel
theorem dX0_size_58 : decode cX0_size 58 = .ok (.aaload, 1) := by decide +kernel
theorem dX0_size_59 : decode cX0_size 59 = .ok (.iload_n 2, 1) := by decide +kernel
theorem dX0_size_60 : decode cX0_size 60 = .ok (.laload, 1) := by decide +kernel
theorem dX0_size_61 : decode cX0_size 61 = .ok (.goto 13, 3) := by decide +kernel
theorem dX0_size_64 : decode cX0_size 64 = .ok (.aload_n 0, 1) := by decide +kernel
theorem dX0_size_65 : decode cX0_size 65 = .ok (.getfield 36, 3) := by decide +kernel
theorem dX0_size_68 : decode cX0_size 68 = .ok (.iload 6, 2) := by decide +kernel
theorem dX0_size_70 : decode cX0_size 70 = .ok (.aaload, 1) := by decide +kernel
theorem dX0_size_71 : decode cX0_size 71 = .ok (.iload_n 2, 1) := by decide +kernel
theorem dX0_size_72 : decode cX0_size 72 = .ok (.laload, 1) := by decide +kernel
theorem dX0_size_73 : decode cX0_size 73 = .ok (.lneg, 1) := by decide +kernel
theorem dX0_size_74 : decode cX0_size 74 = .ok (.ladd, 1) := by decide +kernel
theorem dX0_size_75 : decode cX0_size 75 = .ok (.lstore_n 3, 1) := by decide +kernel
theorem dX0_size_76 : decode cX0_size 76 = .ok (.iinc 5 1, 3) := by decide +kernel
theorem dX0_size_79 : decode cX0_size 79 = .ok (.iinc 6 1, 3) := by decide +kernel
theorem dX0_size_82 : decode cX0_size 82 = .ok (.goto (-74), 3) := by decide +kernel
theorem dX0_size_85 : decode cX0_size 85 = .ok (.lload_n 3, 1) := by decide +kernel
theorem dX0_size_86 : decode cX0_size 86 = .ok (.iload 5, 2) := by decide +kernel
theorem dX0_size_88 : decode cX0_size 88 = .ok (.invokestatic 114, 3) := by decide +kernel
theorem dX0_size_91 : decode cX0_size 91 = .ok (.ireturn, 1) := by decide +kernel
theorem dX0_isOf_0 : decode cX0_isOf 0 = .ok (.aload_n 0, 1) := by decide +kernel
theorem dX0_isOf_1 : decode cX0_isOf 1 = .ok (.getfield 22, 3) := by decide +kernel
theorem dX0_isOf_4 : decode cX0_isOf 4 = .ok (.iload_n 1, 1) := by decide +kernel
theorem dX0_isOf_5 : decode cX0_isOf 5 = .ok (.iaload, 1) := by decide +kernel
theorem dX0_isOf_6 : decode cX0_isOf 6 = .ok (.iload_n 2, 1) := by decide +kernel
theorem dX0_isOf_7 : decode cX0_isOf 7 = .ok (.if_icmp .eq 13, 3) := by decide +kernel
theorem dX0_isOf_10 : decode cX0_isOf 10 = .ok (.aload_n 0, 1) := by decide +kernel
theorem dX0_isOf_11 : decode cX0_isOf 11 = .ok (.getfield 26, 3) := by decide +kernel
theorem dX0_isOf_14 : decode cX0_isOf 14 = .ok (.iload_n 1, 1) := by decide +kernel
theorem dX0_isOf_15 : decode cX0_isOf 15 = .ok (.iaload, 1) := by decide +kernel
theorem dX0_isOf_16 : decode cX0_isOf 16 = .ok (.iload_n 2, 1) := by decide +kernel
theorem dX0_isOf_17 : decode cX0_isOf 17 = .ok (.if_icmp .ne 7, 3) := by decide +kernel
theorem dX0_isOf_20 : decode cX0_isOf 20 = .ok (.iconst 1, 1) := by decide +kernel
theorem dX0_isOf_21 : decode cX0_isOf 21 = .ok (.goto 4, 3) := by decide +kernel
theorem dX0_isOf_24 : decode cX0_isOf 24 = .ok (.iconst 0, 1) := by decide +kernel
theorem dX0_isOf_25 : decode cX0_isOf 25 = .ok (.ireturn, 1) := by decide +kernel
theorem dX0_strikeVotes_0 : decode cX0_strikeVotes 0 = .ok (.aload_n 1, 1) := by decide +kernel
theorem dX0_strikeVotes_1 : decode cX0_strikeVotes 1 = .ok (.iconst 3, 1) := by decide +kernel
theorem dX0_strikeVotes_2 : decode cX0_strikeVotes 2 = .ok (.invokevirtual 83, 3) := by decide +kernel
theorem dX0_strikeVotes_5 : decode cX0_strikeVotes 5 = .ok (.istore 4, 2) := by decide +kernel
theorem dX0_strikeVotes_7 : decode cX0_strikeVotes 7 = .ok (.iconst 0, 1) := by decide +kernel
theorem dX0_strikeVotes_8 : decode cX0_strikeVotes 8 = .ok (.iload_n 3, 1) := by decide +kernel
theorem dX0_strikeVotes_9 : decode cX0_strikeVotes 9 = .ok (.iload 4, 2) := by decide +kernel
theorem dX0_strikeVotes_11 : decode cX0_strikeVotes 11 = .ok (.isub, 1) := by decide +kernel
theorem dX0_strikeVotes_12 : decode cX0_strikeVotes 12 = .ok (.invokestatic 118, 3) := by decide +kernel
theorem dX0_strikeVotes_15 : decode cX0_strikeVotes 15 = .ok (.istore 5, 2) := by decide +kernel
theorem dX0_strikeVotes_17 : decode cX0_strikeVotes 17 = .ok (.aload_n 1, 1) := by decide +kernel
theorem dX0_strikeVotes_18 : decode cX0_strikeVotes 18 = .ok (.invokevirtual 104, 3) := by decide +kernel
theorem dX0_strikeVotes_21 : decode cX0_strikeVotes 21 = .ok (.iconst 1, 1) := by decide +kernel
theorem dX0_strikeVotes_22 : decode cX0_strikeVotes 22 = .ok (.isub, 1) := by decide +kernel
theorem dX0_strikeVotes_23 : decode cX0_strikeVotes 23 = .ok (.iload_n 3, 1) := by decide +kernel
theorem dX0_strikeVotes_24 : decode cX0_strikeVotes 24 = .ok (.iload 4, 2) := by decide +kernel
theorem dX0_strikeVotes_26 : decode cX0_strikeVotes 26 = .ok (.iadd, 1) := by decide +kernel
theorem dX0_strikeVotes_27 : decode cX0_strikeVotes 27 = .ok (.invokestatic 123, 3) := by decide +kernel
theorem dX0_strikeVotes_30 : decode cX0_strikeVotes 30 = .ok (.istore 6, 2) := by decide +kernel
theorem dX0_strikeVotes_32 : decode cX0_strikeVotes 32 = .ok (.iconst 0, 1) := by decide +kernel
theorem dX0_strikeVotes_33 : decode cX0_strikeVotes 33 = .ok (.istore 7, 2) := by decide +kernel
theorem dX0_strikeVotes_35 : decode cX0_strikeVotes 35 = .ok (.iload 7, 2) := by decide +kernel
theorem dX0_strikeVotes_37 : decode cX0_strikeVotes 37 = .ok (.aload_n 0, 1) := by decide +kernel
theorem dX0_strikeVotes_38 : decode cX0_strikeVotes 38 = .ok (.getfield 77, 3) := by decide +kernel
theorem dX0_strikeVotes_41 : decode cX0_strikeVotes 41 = .ok (.if_icmp .ge 99, 3) := by decide +kernel
theorem dX0_strikeVotes_44 : decode cX0_strikeVotes 44 = .ok (.iload 5, 2) := by decide +kernel
theorem dX0_strikeVotes_46 : decode cX0_strikeVotes 46 = .ok (.istore 8, 2) := by decide +kernel
theorem dX0_strikeVotes_48 : decode cX0_strikeVotes 48 = .ok (.iload 8, 2) := by decide +kernel
theorem dX0_strikeVotes_50 : decode cX0_strikeVotes 50 = .ok (.iload 6, 2) := by decide +kernel
theorem dX0_strikeVotes_52 : decode cX0_strikeVotes 52 = .ok (.if_icmp .gt 82, 3) := by decide +kernel
theorem dX0_strikeVotes_55 : decode cX0_strikeVotes 55 = .ok (.aload_n 0, 1) := by decide +kernel
theorem dX0_strikeVotes_56 : decode cX0_strikeVotes 56 = .ok (.iload 7, 2) := by decide +kernel
theorem dX0_strikeVotes_58 : decode cX0_strikeVotes 58 = .ok (.iload_n 2, 1) := by decide +kernel
theorem dX0_strikeVotes_59 : decode cX0_strikeVotes 59 = .ok (.invokevirtual 111, 3) := by decide +kernel
theorem dX0_strikeVotes_62 : decode cX0_strikeVotes 62 = .ok (.ifCond .eq 66, 3) := by decide +kernel
theorem dX0_strikeVotes_65 : decode cX0_strikeVotes 65 = .ok (.aload_n 0, 1) := by decide +kernel
theorem dX0_strikeVotes_66 : decode cX0_strikeVotes 66 = .ok (.getfield 31, 3) := by decide +kernel
theorem dX0_strikeVotes_69 : decode cX0_strikeVotes 69 = .ok (.iload 7, 2) := by decide +kernel
theorem dX0_strikeVotes_71 : decode cX0_strikeVotes 71 = .ok (.aaload, 1) := by decide +kernel
theorem dX0_strikeVotes_72 : decode cX0_strikeVotes 72 = .ok (.iload 8, 2) := by decide +kernel
theorem dX0_strikeVotes_74 : decode cX0_strikeVotes 74 = .ok (.iaload, 1) := by decide +kernel
theorem dX0_strikeVotes_75 : decode cX0_strikeVotes 75 = .ok (.iconst 1, 1) := by decide +kernel
theorem dX0_strikeVotes_76 : decode cX0_strikeVotes 76 = .ok (.if_icmp .ne 52, 3) := by decide +kernel
theorem dX0_strikeVotes_79 : decode cX0_strikeVotes 79 = .ok (.aload_n 0, 1) := by decide +kernel
theorem dX0_strikeVotes_80 : decode cX0_strikeVotes 80 = .ok (.getfield 31, 3) := by decide +kernel
theorem dX0_strikeVotes_83 : decode cX0_strikeVotes 83 = .ok (.iload 7, 2) := by decide +kernel
theorem dX0_strikeVotes_85 : decode cX0_strikeVotes 85 = .ok (.aaload, 1) := by decide +kernel
theorem dX0_strikeVotes_86 : decode cX0_strikeVotes 86 = .ok (.iload 8, 2) := by decide +kernel
theorem dX0_strikeVotes_88 : decode cX0_strikeVotes 88 = .ok (.iconst 0, 1) := by decide +kernel
theorem dX0_strikeVotes_89 : decode cX0_strikeVotes 89 = .ok (.iastore, 1) := by decide +kernel
theorem dX0_strikeVotes_90 : decode cX0_strikeVotes 90 = .ok (.aload_n 0, 1) := by decide +kernel
theorem dX0_strikeVotes_91 : decode cX0_strikeVotes 91 = .ok (.getfield 42, 3) := by decide +kernel
theorem dX0_strikeVotes_94 : decode cX0_strikeVotes 94 = .ok (.aload_n 0, 1) := by decide +kernel
theorem dX0_strikeVotes_95 : decode cX0_strikeVotes 95 = .ok (.getfield 22, 3) := by decide +kernel
theorem dX0_strikeVotes_98 : decode cX0_strikeVotes 98 = .ok (.iload 7, 2) := by decide +kernel
theorem dX0_strikeVotes_100 : decode cX0_strikeVotes 100 = .ok (.iaload, 1) := by decide +kernel
theorem dX0_strikeVotes_101 : decode cX0_strikeVotes 101 = .ok (.aaload, 1) := by decide +kernel
theorem dX0_strikeVotes_102 : decode cX0_strikeVotes 102 = .ok (.iload 8, 2) := by decide +kernel
theorem dX0_strikeVotes_104 : decode cX0_strikeVotes 104 = .ok (.dup2, 1) := by decide +kernel
theorem dX0_strikeVotes_105 : decode cX0_strikeVotes 105 = .ok (.iaload, 1) := by decide +kernel
theorem dX0_strikeVotes_106 : decode cX0_strikeVotes 106 = .ok (.iconst 1, 1) := by decide +kernel
theorem dX0_strikeVotes_107 : decode cX0_strikeVotes 107 = .ok (.isub, 1) := by decide +kernel
theorem dX0_strikeVotes_108 : decode cX0_strikeVotes 108 = .ok (.iastore, 1) := by decide +kernel
theorem dX0_strikeVotes_109 : decode cX0_strikeVotes 109 = .ok (.aload_n 0, 1) := by decide +kernel
theorem dX0_strikeVotes_110 : decode cX0_strikeVotes 110 = .ok (.getfield 42, 3) := by decide +kernel
theorem dX0_strikeVotes_113 : decode cX0_strikeVotes 113 = .ok (.aload_n 0, 1) := by decide +kernel
theorem dX0_strikeVotes_114 : decode cX0_strikeVotes 114 = .ok (.getfield 26, 3) := by decide +kernel
theorem dX0_strikeVotes_117 : decode cX0_strikeVotes 117 = .ok (.iload 7, 2) := by decide +kernel
theorem dX0_strikeVotes_119 : decode cX0_strikeVotes 119 = .ok (.iaload, 1) := by decide +kernel
theorem dX0_strikeVotes_120 : decode cX0_strikeVotes 120 = .ok (.aaload, 1) := by decide +kernel
theorem dX0_strikeVotes_121 : decode cX0_strikeVotes 121 = .ok (.iload 8, 2) := by decide +kernel
theorem dX0_strikeVotes_123 : decode cX0_strikeVotes 123 = .ok (.dup2, 1) := by decide +kernel
theorem dX0_strikeVotes_124 : decode cX0_strikeVotes 124 = .ok (.iaload, 1) := by decide +kernel
theorem dX0_strikeVotes_125 : decode cX0_strikeVotes 125 = .ok (.iconst 1, 1) := by decide +kernel
theorem dX0_strikeVotes_126 : decode cX0_strikeVotes 126 = .ok (.isub, 1) := by decide +kernel
theorem dX0_strikeVotes_127 : decode cX0_strikeVotes 127 = .ok (.iastore, 1) := by decide +kernel
theorem dX0_strikeVotes_128 : decode cX0_strikeVotes 128 = .ok (.iinc 8 1, 3) := by decide +kernel
theorem dX0_strikeVotes_131 : decode cX0_strikeVotes 131 = .ok (.goto (-83), 3) := by decide +kernel
theorem dX0_strikeVotes_134 : decode cX0_strikeVotes 134 = .ok (.iinc 7 1, 3) := by decide +kernel
theorem dX0_strikeVotes_137 : decode cX0_strikeVotes 137 = .ok (.goto (-102), 3) := by decide +kernel
theorem dX0_strikeVotes_140 : decode cX0_strikeVotes 140 = .ok (.return_, 1) := by decide +kernel
theorem dX1_init_0 : decode cX1_init 0 = .ok (.aload_n 0, 1) := by decide +kernel
theorem dX1_init_1 : decode cX1_init 1 = .ok (.invokespecial 3, 3) := by decide +kernel
theorem dX1_init_4 : decode cX1_init 4 = .ok (.aload_n 0, 1) := by decide +kernel
theorem dX1_init_5 : decode cX1_init 5 = .ok (.iconst 4, 1) := by decide +kernel
theorem dX1_init_6 : decode cX1_init 6 = .ok (.bipush 8, 2) := by decide +kernel
theorem dX1_init_8 : decode cX1_init 8 = .ok (.multianewarray 9 2, 4) := by decide +kernel
theorem dX1_init_12 : decode cX1_init 12 = .ok (.putfield 11, 3) := by decide +kernel
theorem dX1_init_15 : decode cX1_init 15 = .ok (.return_, 1) := by decide +kernel
theorem dX1_clear_0 : decode cX1_clear 0 = .ok (.aload_n 0, 1) := by decide +kernel
theorem dX1_clear_1 : decode cX1_clear 1 = .ok (.iconst 0, 1) := by decide +kernel
theorem dX1_clear_2 : decode cX1_clear 2 = .ok (.putfield 16, 3) := by decide +kernel
theorem dX1_clear_5 : decode cX1_clear 5 = .ok (.return_, 1) := by decide +kernel
theorem dX1_length_0 : decode cX1_length 0 = .ok (.aload_n 0, 1) := by decide +kernel
theorem dX1_length_1 : decode cX1_length 1 = .ok (.getfield 16, 3) := by decide +kernel
theorem dX1_length_4 : decode cX1_length 4 = .ok (.ireturn, 1) := by decide +kernel
theorem dX1_add_0 : decode cX1_add 0 = .ok (.aload_n 0, 1) := by decide +kernel
theorem dX1_add_1 : decode cX1_add 1 = .ok (.aload_n 0, 1) := by decide +kernel
theorem dX1_add_2 : decode cX1_add 2 = .ok (.getfield 16, 3) := by decide +kernel
theorem dX1_add_5 : decode cX1_add 5 = .ok (.invokevirtual 20, 3) := by decide +kernel
theorem dX1_add_8 : decode cX1_add 8 = .ok (.istore 5, 2) := by decide +kernel
theorem dX1_add_10 : decode cX1_add 10 = .ok (.aload_n 0, 1) := by decide +kernel
theorem dX1_add_11 : decode cX1_add 11 = .ok (.getfield 11, 3) := by decide +kernel
theorem dX1_add_14 : decode cX1_add 14 = .ok (.iconst 0, 1) := by decide +kernel
theorem dX1_add_15 : decode cX1_add 15 = .ok (.aaload, 1) := by decide +kernel
theorem dX1_add_16 : decode cX1_add 16 = .ok (.iload 5, 2) := by decide +kernel
theorem dX1_add_18 : decode cX1_add 18 = .ok (.iload_n 1, 1) := by decide +kernel
theorem dX1_add_19 : decode cX1_add 19 = .ok (.iastore, 1) := by decide +kernel
theorem dX1_add_20 : decode cX1_add 20 = .ok (.aload_n 0, 1) := by decide +kernel
theorem dX1_add_21 : decode cX1_add 21 = .ok (.getfield 11, 3) := by decide +kernel
theorem dX1_add_24 : decode cX1_add 24 = .ok (.iconst 1, 1) := by decide +kernel
theorem dX1_add_25 : decode cX1_add 25 = .ok (.aaload, 1) := by decide +kernel
theorem dX1_add_26 : decode cX1_add 26 = .ok (.iload 5, 2) := by decide +kernel
theorem dX1_add_28 : decode cX1_add 28 = .ok (.iload_n 2, 1) := by decide +kernel
theorem dX1_add_29 : decode cX1_add 29 = .ok (.iastore, 1) := by decide +kernel
theorem dX1_add_30 : decode cX1_add 30 = .ok (.aload_n 0, 1) := by decide +kernel
theorem dX1_add_31 : decode cX1_add 31 = .ok (.getfield 11, 3) := by decide +kernel
theorem dX1_add_34 : decode cX1_add 34 = .ok (.iconst 2, 1) := by decide +kernel
theorem dX1_add_35 : decode cX1_add 35 = .ok (.aaload, 1) := by decide +kernel
theorem dX1_add_36 : decode cX1_add 36 = .ok (.iload 5, 2) := by decide +kernel
theorem dX1_add_38 : decode cX1_add 38 = .ok (.iload_n 3, 1) := by decide +kernel
theorem dX1_add_39 : decode cX1_add 39 = .ok (.iastore, 1) := by decide +kernel
theorem dX1_add_40 : decode cX1_add 40 = .ok (.aload_n 0, 1) := by decide +kernel
theorem dX1_add_41 : decode cX1_add 41 = .ok (.getfield 11, 3) := by decide +kernel
theorem dX1_add_44 : decode cX1_add 44 = .ok (.iconst 3, 1) := by decide +kernel
theorem dX1_add_45 : decode cX1_add 45 = .ok (.aaload, 1) := by decide +kernel
theorem dX1_add_46 : decode cX1_add 46 = .ok (.iload 5, 2) := by decide +kernel
theorem dX1_add_48 : decode cX1_add 48 = .ok (.iload 4, 2) := by decide +kernel
theorem dX1_add_50 : decode cX1_add 50 = .ok (.iastore, 1) := by decide +kernel
theorem dX1_add_51 : decode cX1_add 51 = .ok (.aload_n 0, 1) := by decide +kernel
theorem dX1_add_52 : decode cX1_add 52 = .ok (.getfield 16, 3) := by decide +kernel
theorem dX1_add_55 : decode cX1_add 55 = .ok (.bipush 8, 2) := by decide +kernel
theorem dX1_add_57 : decode cX1_add 57 = .ok (.if_icmp .ge 16, 3) := by decide +kernel
theorem dX1_add_60 : decode cX1_add 60 = .ok (.aload_n 0, 1) := by decide +kernel
theorem dX1_add_61 : decode cX1_add 61 = .ok (.dup, 1) := by decide +kernel
theorem dX1_add_62 : decode cX1_add 62 = .ok (.getfield 16, 3) := by decide +kernel
theorem dX1_add_65 : decode cX1_add 65 = .ok (.iconst 1, 1) := by decide +kernel
theorem dX1_add_66 : decode cX1_add 66 = .ok (.iadd, 1) := by decide +kernel
theorem dX1_add_67 : decode cX1_add 67 = .ok (.putfield 16, 3) := by decide +kernel
theorem dX1_add_70 : decode cX1_add 70 = .ok (.goto 12, 3) := by decide +kernel
theorem dX1_add_73 : decode cX1_add 73 = .ok (.aload_n 0, 1) := by decide +kernel
theorem dX1_add_74 : decode cX1_add 74 = .ok (.aload_n 0, 1) := by decide +kernel
theorem dX1_add_75 : decode cX1_add 75 = .ok (.iconst 1, 1) := by decide +kernel
theorem dX1_add_76 : decode cX1_add 76 = .ok (.invokevirtual 20, 3) := by decide +kernel
theorem dX1_add_79 : decode cX1_add 79 = .ok (.putfield 24, 3) := by decide +kernel
theorem dX1_add_82 : decode cX1_add 82 = .ok (.return_, 1) := by decide +kernel
theorem dX1_slot_0 : decode cX1_slot 0 = .ok (.aload_n 0, 1) := by decide +kernel
theorem dX1_slot_1 : decode cX1_slot 1 = .ok (.getfield 24, 3) := by decide +kernel
theorem dX1_slot_4 : decode cX1_slot 4 = .ok (.iload_n 1, 1) := by decide +kernel
theorem dX1_slot_5 : decode cX1_slot 5 = .ok (.iadd, 1) := by decide +kernel
theorem dX1_slot_6 : decode cX1_slot 6 = .ok (.bipush 8, 2) := by decide +kernel
theorem dX1_slot_8 : decode cX1_slot 8 = .ok (.irem, 1) := by decide +kernel
theorem dX1_slot_9 : decode cX1_slot 9 = .ok (.ireturn, 1) := by decide +kernel
theorem dX1_latest_0 : decode cX1_latest 0 = .ok (.aload_n 0, 1) := by decide +kernel
theorem dX1_latest_1 : decode cX1_latest 1 = .ok (.getfield 16, 3) := by decide +kernel
theorem dX1_latest_4 : decode cX1_latest 4 = .ok (.ifCond .ne 7, 3) := by decide +kernel
theorem dX1_latest_7 : decode cX1_latest 7 = .ok (.iconst 0, 1) := by decide +kernel
theorem dX1_latest_8 : decode cX1_latest 8 = .ok (.goto 20, 3) := by decide +kernel
theorem dX1_latest_11 : decode cX1_latest 11 = .ok (.aload_n 0, 1) := by decide +kernel
theorem dX1_latest_12 : decode cX1_latest 12 = .ok (.getfield 11, 3) := by decide +kernel
theorem dX1_latest_15 : decode cX1_latest 15 = .ok (.iload_n 1, 1) := by decide +kernel
theorem dX1_latest_16 : decode cX1_latest 16 = .ok (.aaload, 1) := by decide +kernel
theorem dX1_latest_17 : decode cX1_latest 17 = .ok (.aload_n 0, 1) := by decide +kernel
theorem dX1_latest_18 : decode cX1_latest 18 = .ok (.aload_n 0, 1) := by decide +kernel
theorem dX1_latest_19 : decode cX1_latest 19 = .ok (.getfield 16, 3) := by decide +kernel
theorem dX1_latest_22 : decode cX1_latest 22 = .ok (.iconst 1, 1) := by decide +kernel
theorem dX1_latest_23 : decode cX1_latest 23 = .ok (.isub, 1) := by decide +kernel
theorem dX1_latest_24 : decode cX1_latest 24 = .ok (.invokevirtual 20, 3) := by decide +kernel
theorem dX1_latest_27 : decode cX1_latest 27 = .ok (.iaload, 1) := by decide +kernel
theorem dX1_latest_28 : decode cX1_latest 28 = .ok (.ireturn, 1) := by decide +kernel
theorem dX1_dropLatest_0 : decode cX1_dropLatest 0 = .ok (.aload_n 0, 1) := by decide +kernel
theorem dX1_dropLatest_1 : decode cX1_dropLatest 1 = .ok (.getfield 16, 3) := by decide +kernel
theorem dX1_dropLatest_4 : decode cX1_dropLatest 4 = .ok (.ifCond .le 13, 3) := by decide +kernel
theorem dX1_dropLatest_7 : decode cX1_dropLatest 7 = .ok (.aload_n 0, 1) := by decide +kernel
theorem dX1_dropLatest_8 : decode cX1_dropLatest 8 = .ok (.dup, 1) := by decide +kernel
theorem dX1_dropLatest_9 : decode cX1_dropLatest 9 = .ok (.getfield 16, 3) := by decide +kernel
theorem dX1_dropLatest_12 : decode cX1_dropLatest 12 = .ok (.iconst 1, 1) := by decide +kernel
theorem dX1_dropLatest_13 : decode cX1_dropLatest 13 = .ok (.isub, 1) := by decide +kernel
theorem dX1_dropLatest_14 : decode cX1_dropLatest 14 = .ok (.putfield 16, 3) := by decide +kernel
theorem dX1_dropLatest_17 : decode cX1_dropLatest 17 = .ok (.return_, 1) := by decide +kernel
theorem dX2_init_0 : decode cX2_init 0 = .ok (.aload_n 0, 1) := by decide +kernel
theorem dX2_init_1 : decode cX2_init 1 = .ok (.invokespecial 3, 3) := by decide +kernel
theorem dX2_init_4 : decode cX2_init 4 = .ok (.aload_n 0, 1) := by decide +kernel
theorem dX2_init_5 : decode cX2_init 5 = .ok (.iconst 3, 1) := by decide +kernel
theorem dX2_init_6 : decode cX2_init 6 = .ok (.bipush 10, 2) := by decide +kernel
theorem dX2_init_8 : decode cX2_init 8 = .ok (.multianewarray 9 2, 4) := by decide +kernel
theorem dX2_init_12 : decode cX2_init 12 = .ok (.putfield 11, 3) := by decide +kernel
theorem dX2_init_15 : decode cX2_init 15 = .ok (.return_, 1) := by decide +kernel
theorem dX2_clear_0 : decode cX2_clear 0 = .ok (.aload_n 0, 1) := by decide +kernel
theorem dX2_clear_1 : decode cX2_clear 1 = .ok (.iconst 0, 1) := by decide +kernel
theorem dX2_clear_2 : decode cX2_clear 2 = .ok (.putfield 16, 3) := by decide +kernel
theorem dX2_clear_5 : decode cX2_clear 5 = .ok (.return_, 1) := by decide +kernel
theorem dX2_length_0 : decode cX2_length 0 = .ok (.aload_n 0, 1) := by decide +kernel
theorem dX2_length_1 : decode cX2_length 1 = .ok (.getfield 16, 3) := by decide +kernel
theorem dX2_length_4 : decode cX2_length 4 = .ok (.ireturn, 1) := by decide +kernel
theorem dX2_isFull_0 : decode cX2_isFull 0 = .ok (.aload_n 0, 1) := by decide +kernel
theorem dX2_isFull_1 : decode cX2_isFull 1 = .ok (.getfield 16, 3) := by decide +kernel
theorem dX2_isFull_4 : decode cX2_isFull 4 = .ok (.bipush 10, 2) := by decide +kernel
theorem dX2_isFull_6 : decode cX2_isFull 6 = .ok (.if_icmp .lt 7, 3) := by decide +kernel
theorem dX2_isFull_9 : decode cX2_isFull 9 = .ok (.iconst 1, 1) := by decide +kernel
theorem dX2_isFull_10 : decode cX2_isFull 10 = .ok (.goto 4, 3) := by decide +kernel
theorem dX2_isFull_13 : decode cX2_isFull 13 = .ok (.iconst 0, 1) := by decide +kernel
theorem dX2_isFull_14 : decode cX2_isFull 14 = .ok (.ireturn, 1) := by decide +kernel
theorem dX2_add_0 : decode cX2_add 0 = .ok (.aload_n 0, 1) := by decide +kernel
theorem dX2_add_1 : decode cX2_add 1 = .ok (.invokevirtual 20, 3) := by decide +kernel
theorem dX2_add_4 : decode cX2_add 4 = .ok (.ifCond .eq 4, 3) := by decide +kernel
theorem dX2_add_7 : decode cX2_add 7 = .ok (.return_, 1) := by decide +kernel
theorem dX2_add_8 : decode cX2_add 8 = .ok (.aload_n 0, 1) := by decide +kernel
theorem dX2_add_9 : decode cX2_add 9 = .ok (.getfield 11, 3) := by decide +kernel
theorem dX2_add_12 : decode cX2_add 12 = .ok (.iconst 0, 1) := by decide +kernel
theorem dX2_add_13 : decode cX2_add 13 = .ok (.aaload, 1) := by decide +kernel
theorem dX2_add_14 : decode cX2_add 14 = .ok (.aload_n 0, 1) := by decide +kernel
theorem dX2_add_15 : decode cX2_add 15 = .ok (.getfield 16, 3) := by decide +kernel
theorem dX2_add_18 : decode cX2_add 18 = .ok (.iload_n 1, 1) := by decide +kernel
theorem dX2_add_19 : decode cX2_add 19 = .ok (.iastore, 1) := by decide +kernel
theorem dX2_add_20 : decode cX2_add 20 = .ok (.aload_n 0, 1) := by decide +kernel
theorem dX2_add_21 : decode cX2_add 21 = .ok (.getfield 11, 3) := by decide +kernel
theorem dX2_add_24 : decode cX2_add 24 = .ok (.iconst 1, 1) := by decide +kernel
theorem dX2_add_25 : decode cX2_add 25 = .ok (.aaload, 1) := by decide +kernel
theorem dX2_add_26 : decode cX2_add 26 = .ok (.aload_n 0, 1) := by decide +kernel
theorem dX2_add_27 : decode cX2_add 27 = .ok (.getfield 16, 3) := by decide +kernel
theorem dX2_add_30 : decode cX2_add 30 = .ok (.iload_n 2, 1) := by decide +kernel
theorem dX2_add_31 : decode cX2_add 31 = .ok (.iastore, 1) := by decide +kernel
theorem dX2_add_32 : decode cX2_add 32 = .ok (.aload_n 0, 1) := by decide +kernel
theorem dX2_add_33 : decode cX2_add 33 = .ok (.getfield 11, 3) := by decide +kernel
theorem dX2_add_36 : decode cX2_add 36 = .ok (.iconst 2, 1) := by decide +kernel
theorem dX2_add_37 : decode cX2_add 37 = .ok (.aaload, 1) := by decide +kernel
theorem dX2_add_38 : decode cX2_add 38 = .ok (.aload_n 0, 1) := by decide +kernel
theorem dX2_add_39 : decode cX2_add 39 = .ok (.getfield 16, 3) := by decide +kernel
theorem dX2_add_42 : decode cX2_add 42 = .ok (.iload_n 3, 1) := by decide +kernel
theorem dX2_add_43 : decode cX2_add 43 = .ok (.iastore, 1) := by decide +kernel
theorem dX2_add_44 : decode cX2_add 44 = .ok (.aload_n 0, 1) := by decide +kernel
theorem dX2_add_45 : decode cX2_add 45 = .ok (.dup, 1) := by decide +kernel
theorem dX2_add_46 : decode cX2_add 46 = .ok (.getfield 16, 3) := by decide +kernel
theorem dX2_add_49 : decode cX2_add 49 = .ok (.iconst 1, 1) := by decide +kernel
theorem dX2_add_50 : decode cX2_add 50 = .ok (.iadd, 1) := by decide +kernel
theorem dX2_add_51 : decode cX2_add 51 = .ok (.putfield 16, 3) := by decide +kernel
theorem dX2_add_54 : decode cX2_add 54 = .ok (.return_, 1) := by decide +kernel
theorem dX2_dropLast_0 : decode cX2_dropLast 0 = .ok (.aload_n 0, 1) := by decide +kernel
theorem dX2_dropLast_1 : decode cX2_dropLast 1 = .ok (.getfield 16, 3) := by decide +kernel
theorem dX2_dropLast_4 : decode cX2_dropLast 4 = .ok (.ifCond .le 13, 3) := by decide +kernel
theorem dX2_dropLast_7 : decode cX2_dropLast 7 = .ok (.aload_n 0, 1) := by decide +kernel
theorem dX2_dropLast_8 : decode cX2_dropLast 8 = .ok (.dup, 1) := by decide +kernel
theorem dX2_dropLast_9 : decode cX2_dropLast 9 = .ok (.getfield 16, 3) := by decide +kernel
theorem dX2_dropLast_12 : decode cX2_dropLast 12 = .ok (.iconst 1, 1) := by decide +kernel
theorem dX2_dropLast_13 : decode cX2_dropLast 13 = .ok (.isub, 1) := by decide +kernel
theorem dX2_dropLast_14 : decode cX2_dropLast 14 = .ok (.putfield 16, 3) := by decide +kernel
theorem dX2_dropLast_17 : decode cX2_dropLast 17 = .ok (.return_, 1) := by decide +kernel
theorem dX2_property_0 : decode cX2_property 0 = .ok (.aload_n 0, 1) := by decide +kernel
theorem dX2_property_1 : decode cX2_property 1 = .ok (.getfield 11, 3) := by decide +kernel
theorem dX2_property_4 : decode cX2_property 4 = .ok (.iload_n 2, 1) := by decide +kernel
theorem dX2_property_5 : decode cX2_property 5 = .ok (.aaload, 1) := by decide +kernel
theorem dX2_property_6 : decode cX2_property 6 = .ok (.iload_n 1, 1) := by decide +kernel
theorem dX2_property_7 : decode cX2_property 7 = .ok (.iaload, 1) := by decide +kernel
theorem dX2_property_8 : decode cX2_property 8 = .ok (.ireturn, 1) := by decide +kernel
theorem dX3_init_0 : decode cX3_init 0 = .ok (.aload_n 0, 1) := by decide +kernel
theorem dX3_init_1 : decode cX3_init 1 = .ok (.invokespecial 3, 3) := by decide +kernel
theorem dX3_init_4 : decode cX3_init 4 = .ok (.aload_n 0, 1) := by decide +kernel
theorem dX3_init_5 : decode cX3_init 5 = .ok (.bipush 6, 2) := by decide +kernel
theorem dX3_init_7 : decode cX3_init 7 = .ok (.newarray .int, 2) := by decide +kernel
theorem dX3_init_9 : decode cX3_init 9 = .ok (.putfield 9, 3) := by decide +kernel
theorem dX3_init_12 : decode cX3_init 12 = .ok (.aload_n 0, 1) := by decide +kernel
theorem dX3_init_13 : decode cX3_init 13 = .ok (.bipush 6, 2) := by decide +kernel
theorem dX3_init_15 : decode cX3_init 15 = .ok (.newarray .int, 2) := by decide +kernel
theorem dX3_init_17 : decode cX3_init 17 = .ok (.putfield 15, 3) := by decide +kernel
theorem dX3_init_20 : decode cX3_init 20 = .ok (.aload_n 0, 1) := by decide +kernel
theorem dX3_init_21 : decode cX3_init 21 = .ok (.bipush 6, 2) := by decide +kernel
theorem dX3_init_23 : decode cX3_init 23 = .ok (.bipush 16, 2) := by decide +kernel
theorem dX3_init_25 : decode cX3_init 25 = .ok (.multianewarray 18 2, 4) := by decide +kernel
theorem dX3_init_29 : decode cX3_init 29 = .ok (.putfield 20, 3) := by decide +kernel
theorem dX3_init_32 : decode cX3_init 32 = .ok (.aload_n 0, 1) := by decide +kernel
theorem dX3_init_33 : decode cX3_init 33 = .ok (.iconst 4, 1) := by decide +kernel
theorem dX3_init_34 : decode cX3_init 34 = .ok (.newarray .int, 2) := by decide +kernel
theorem dX3_init_36 : decode cX3_init 36 = .ok (.putfield 23, 3) := by decide +kernel
theorem dX3_init_39 : decode cX3_init 39 = .ok (.return_, 1) := by decide +kernel
theorem dX3_startAfresh_0 : decode cX3_startAfresh 0 = .ok (.aload_n 0, 1) := by decide +kernel
theorem dX3_startAfresh_1 : decode cX3_startAfresh 1 = .ok (.iconst 0, 1) := by decide +kernel
theorem dX3_startAfresh_2 : decode cX3_startAfresh 2 = .ok (.putfield 26, 3) := by decide +kernel
theorem dX3_startAfresh_5 : decode cX3_startAfresh 5 = .ok (.aload_n 0, 1) := by decide +kernel
theorem dX3_startAfresh_6 : decode cX3_startAfresh 6 = .ok (.iconst 0, 1) := by decide +kernel
theorem dX3_startAfresh_7 : decode cX3_startAfresh 7 = .ok (.putfield 30, 3) := by decide +kernel
theorem dX3_startAfresh_10 : decode cX3_startAfresh 10 = .ok (.aload_n 0, 1) := by decide +kernel
theorem dX3_startAfresh_11 : decode cX3_startAfresh 11 = .ok (.bipush 20, 2) := by decide +kernel
theorem dX3_startAfresh_13 : decode cX3_startAfresh 13 = .ok (.putfield 33, 3) := by decide +kernel
theorem dX3_startAfresh_16 : decode cX3_startAfresh 16 = .ok (.iconst 0, 1) := by decide +kernel
theorem dX3_startAfresh_17 : decode cX3_startAfresh 17 = .ok (.istore_n 1, 1) := by decide +kernel
theorem dX3_startAfresh_18 : decode cX3_startAfresh 18 = .ok (.iload_n 1, 1) := by decide +kernel
theorem dX3_startAfresh_19 : decode cX3_startAfresh 19 = .ok (.iconst 4, 1) := by decide +kernel
theorem dX3_startAfresh_20 : decode cX3_startAfresh 20 = .ok (.if_icmp .ge 20, 3) := by decide +kernel
theorem dX3_startAfresh_23 : decode cX3_startAfresh 23 = .ok (.aload_n 0, 1) := by decide +kernel
theorem dX3_startAfresh_24 : decode cX3_startAfresh 24 = .ok (.getfield 23, 3) := by decide +kernel
theorem dX3_startAfresh_27 : decode cX3_startAfresh 27 = .ok (.iload_n 1, 1) := by decide +kernel
theorem dX3_startAfresh_28 : decode cX3_startAfresh 28 = .ok (.getstatic 36, 3) := by decide +kernel
theorem dX3_startAfresh_31 : decode cX3_startAfresh 31 = .ok (.iload_n 1, 1) := by decide +kernel
theorem dX3_startAfresh_32 : decode cX3_startAfresh 32 = .ok (.iaload, 1) := by decide +kernel
theorem dX3_startAfresh_33 : decode cX3_startAfresh 33 = .ok (.iastore, 1) := by decide +kernel
theorem dX3_startAfresh_34 : decode cX3_startAfresh 34 = .ok (.iinc 1 1, 3) := by decide +kernel
theorem dX3_startAfresh_37 : decode cX3_startAfresh 37 = .ok (.goto (-19), 3) := by decide +kernel
theorem dX3_startAfresh_40 : decode cX3_startAfresh 40 = .ok (.aload_n 0, 1) := by decide +kernel
theorem dX3_startAfresh_41 : decode cX3_startAfresh 41 = .ok (.dup, 1) := by decide +kernel
theorem dX3_startAfresh_42 : decode cX3_startAfresh 42 = .ok (.getfield 39, 3) := by decide +kernel
theorem dX3_startAfresh_45 : decode cX3_startAfresh 45 = .ok (.iconst 1, 1) := by decide +kernel
theorem dX3_startAfresh_46 : decode cX3_startAfresh 46 = .ok (.iadd, 1) := by decide +kernel
theorem dX3_startAfresh_47 : decode cX3_startAfresh 47 = .ok (.putfield 39, 3) := by decide +kernel
theorem dX3_startAfresh_50 : decode cX3_startAfresh 50 = .ok (.return_, 1) := by decide +kernel
theorem dX3_copyFrom_0 : decode cX3_copyFrom 0 = .ok (.aload_n 0, 1) := by decide +kernel
theorem dX3_copyFrom_1 : decode cX3_copyFrom 1 = .ok (.aload_n 1, 1) := by decide +kernel
theorem dX3_copyFrom_2 : decode cX3_copyFrom 2 = .ok (.getfield 26, 3) := by decide +kernel
theorem dX3_copyFrom_5 : decode cX3_copyFrom 5 = .ok (.putfield 26, 3) := by decide +kernel
theorem dX3_copyFrom_8 : decode cX3_copyFrom 8 = .ok (.aload_n 0, 1) := by decide +kernel
theorem dX3_copyFrom_9 : decode cX3_copyFrom 9 = .ok (.aload_n 1, 1) := by decide +kernel
theorem dX3_copyFrom_10 : decode cX3_copyFrom 10 = .ok (.getfield 30, 3) := by decide +kernel
theorem dX3_copyFrom_13 : decode cX3_copyFrom 13 = .ok (.putfield 30, 3) := by decide +kernel
theorem dX3_copyFrom_16 : decode cX3_copyFrom 16 = .ok (.aload_n 0, 1) := by decide +kernel
theorem dX3_copyFrom_17 : decode cX3_copyFrom 17 = .ok (.aload_n 1, 1) := by decide +kernel
theorem dX3_copyFrom_18 : decode cX3_copyFrom 18 = .ok (.getfield 33, 3) := by decide +kernel
theorem dX3_copyFrom_21 : decode cX3_copyFrom 21 = .ok (.putfield 33, 3) := by decide +kernel
theorem dX3_copyFrom_24 : decode cX3_copyFrom 24 = .ok (.iconst 0, 1) := by decide +kernel
theorem dX3_copyFrom_25 : decode cX3_copyFrom 25 = .ok (.istore_n 2, 1) := by decide +kernel
theorem dX3_copyFrom_26 : decode cX3_copyFrom 26 = .ok (.iload_n 2, 1) := by decide +kernel
theorem dX3_copyFrom_27 : decode cX3_copyFrom 27 = .ok (.iconst 4, 1) := by decide +kernel
theorem dX3_copyFrom_28 : decode cX3_copyFrom 28 = .ok (.if_icmp .ge 21, 3) := by decide +kernel
theorem dX3_copyFrom_31 : decode cX3_copyFrom 31 = .ok (.aload_n 0, 1) := by decide +kernel
theorem dX3_copyFrom_32 : decode cX3_copyFrom 32 = .ok (.getfield 23, 3) := by decide +kernel
theorem dX3_copyFrom_35 : decode cX3_copyFrom 35 = .ok (.iload_n 2, 1) := by decide +kernel
theorem dX3_copyFrom_36 : decode cX3_copyFrom 36 = .ok (.aload_n 1, 1) := by decide +kernel
theorem dX3_copyFrom_37 : decode cX3_copyFrom 37 = .ok (.getfield 23, 3) := by decide +kernel
theorem dX3_copyFrom_40 : decode cX3_copyFrom 40 = .ok (.iload_n 2, 1) := by decide +kernel
theorem dX3_copyFrom_41 : decode cX3_copyFrom 41 = .ok (.iaload, 1) := by decide +kernel
theorem dX3_copyFrom_42 : decode cX3_copyFrom 42 = .ok (.iastore, 1) := by decide +kernel
theorem dX3_copyFrom_43 : decode cX3_copyFrom 43 = .ok (.iinc 2 1, 3) := by decide +kernel
theorem dX3_copyFrom_46 : decode cX3_copyFrom 46 = .ok (.goto (-20), 3) := by decide +kernel
theorem dX3_copyFrom_49 : decode cX3_copyFrom 49 = .ok (.iconst 0, 1) := by decide +kernel
theorem dX3_copyFrom_50 : decode cX3_copyFrom 50 = .ok (.istore_n 2, 1) := by decide +kernel
theorem dX3_copyFrom_51 : decode cX3_copyFrom 51 = .ok (.iload_n 2, 1) := by decide +kernel
theorem dX3_copyFrom_52 : decode cX3_copyFrom 52 = .ok (.aload_n 0, 1) := by decide +kernel
theorem dX3_copyFrom_53 : decode cX3_copyFrom 53 = .ok (.getfield 30, 3) := by decide +kernel
theorem dX3_copyFrom_56 : decode cX3_copyFrom 56 = .ok (.if_icmp .ge 65, 3) := by decide +kernel
theorem dX3_copyFrom_59 : decode cX3_copyFrom 59 = .ok (.aload_n 0, 1) := by decide +kernel
theorem dX3_copyFrom_60 : decode cX3_copyFrom 60 = .ok (.getfield 9, 3) := by decide +kernel
theorem dX3_copyFrom_63 : decode cX3_copyFrom 63 = .ok (.iload_n 2, 1) := by decide +kernel
theorem dX3_copyFrom_64 : decode cX3_copyFrom 64 = .ok (.aload_n 1, 1) := by decide +kernel
theorem dX3_copyFrom_65 : decode cX3_copyFrom 65 = .ok (.getfield 9, 3) := by decide +kernel
theorem dX3_copyFrom_68 : decode cX3_copyFrom 68 = .ok (.iload_n 2, 1) := by decide +kernel
theorem dX3_copyFrom_69 : decode cX3_copyFrom 69 = .ok (.iaload, 1) := by decide +kernel
theorem dX3_copyFrom_70 : decode cX3_copyFrom 70 = .ok (.iastore, 1) := by decide +kernel
theorem dX3_copyFrom_71 : decode cX3_copyFrom 71 = .ok (.aload_n 0, 1) := by decide +kernel
theorem dX3_copyFrom_72 : decode cX3_copyFrom 72 = .ok (.getfield 15, 3) := by decide +kernel
theorem dX3_copyFrom_75 : decode cX3_copyFrom 75 = .ok (.iload_n 2, 1) := by decide +kernel
theorem dX3_copyFrom_76 : decode cX3_copyFrom 76 = .ok (.aload_n 1, 1) := by decide +kernel
theorem dX3_copyFrom_77 : decode cX3_copyFrom 77 = .ok (.getfield 15, 3) := by decide +kernel
theorem dX3_copyFrom_80 : decode cX3_copyFrom 80 = .ok (.iload_n 2, 1) := by decide +kernel
theorem dX3_copyFrom_81 : decode cX3_copyFrom 81 = .ok (.iaload, 1) := by decide +kernel
theorem dX3_copyFrom_82 : decode cX3_copyFrom 82 = .ok (.iastore, 1) := by decide +kernel
theorem dX3_copyFrom_83 : decode cX3_copyFrom 83 = .ok (.iconst 0, 1) := by decide +kernel
theorem dX3_copyFrom_84 : decode cX3_copyFrom 84 = .ok (.istore_n 3, 1) := by decide +kernel
theorem dX3_copyFrom_85 : decode cX3_copyFrom 85 = .ok (.iload_n 3, 1) := by decide +kernel
theorem dX3_copyFrom_86 : decode cX3_copyFrom 86 = .ok (.aload_n 0, 1) := by decide +kernel
theorem dX3_copyFrom_87 : decode cX3_copyFrom 87 = .ok (.getfield 26, 3) := by decide +kernel
theorem dX3_copyFrom_90 : decode cX3_copyFrom 90 = .ok (.if_icmp .ge 25, 3) := by decide +kernel
theorem dX3_copyFrom_93 : decode cX3_copyFrom 93 = .ok (.aload_n 0, 1) := by decide +kernel
theorem dX3_copyFrom_94 : decode cX3_copyFrom 94 = .ok (.getfield 20, 3) := by decide +kernel
theorem dX3_copyFrom_97 : decode cX3_copyFrom 97 = .ok (.iload_n 2, 1) := by decide +kernel
theorem dX3_copyFrom_98 : decode cX3_copyFrom 98 = .ok (.aaload, 1) := by decide +kernel
theorem dX3_copyFrom_99 : decode cX3_copyFrom 99 = .ok (.iload_n 3, 1) := by decide +kernel
theorem dX3_copyFrom_100 : decode cX3_copyFrom 100 = .ok (.aload_n 1, 1) := by decide +kernel
theorem dX3_copyFrom_101 : decode cX3_copyFrom 101 = .ok (.getfield 20, 3) := by decide +kernel
theorem dX3_copyFrom_104 : decode cX3_copyFrom 104 = .ok (.iload_n 2, 1) := by decide +kernel
theorem dX3_copyFrom_105 : decode cX3_copyFrom 105 = .ok (.aaload, 1) := by decide +kernel
theorem dX3_copyFrom_106 : decode cX3_copyFrom 106 = .ok (.iload_n 3, 1) := by decide +kernel
theorem dX3_copyFrom_107 : decode cX3_copyFrom 107 = .ok (.iaload, 1) := by decide +kernel
theorem dX3_copyFrom_108 : decode cX3_copyFrom 108 = .ok (.iastore, 1) := by decide +kernel
theorem dX3_copyFrom_109 : decode cX3_copyFrom 109 = .ok (.iinc 3 1, 3) := by decide +kernel
theorem dX3_copyFrom_112 : decode cX3_copyFrom 112 = .ok (.goto (-27), 3) := by decide +kernel
theorem dX3_copyFrom_115 : decode cX3_copyFrom 115 = .ok (.iinc 2 1, 3) := by decide +kernel
theorem dX3_copyFrom_118 : decode cX3_copyFrom 118 = .ok (.goto (-67), 3) := by decide +kernel
theorem dX3_copyFrom_121 : decode cX3_copyFrom 121 = .ok (.aload_n 0, 1) := by decide +kernel
theorem dX3_copyFrom_122 : decode cX3_copyFrom 122 = .ok (.dup, 1) := by decide +kernel
theorem dX3_copyFrom_123 : decode cX3_copyFrom 123 = .ok (.getfield 39, 3) := by decide +kernel
theorem dX3_copyFrom_126 : decode cX3_copyFrom 126 = .ok (.iconst 1, 1) := by decide +kernel
theorem dX3_copyFrom_127 : decode cX3_copyFrom 127 = .ok (.iadd, 1) := by decide +kernel
theorem dX3_copyFrom_128 : decode cX3_copyFrom 128 = .ok (.putfield 39, 3) := by decide +kernel
theorem dX3_copyFrom_131 : decode cX3_copyFrom 131 = .ok (.return_, 1) := by decide +kernel
theorem dX3_setYears_0 : decode cX3_setYears 0 = .ok (.aload_n 0, 1) := by decide +kernel
theorem dX3_setYears_1 : decode cX3_setYears 1 = .ok (.iload_n 1, 1) := by decide +kernel
theorem dX3_setYears_2 : decode cX3_setYears 2 = .ok (.putfield 26, 3) := by decide +kernel
theorem dX3_setYears_5 : decode cX3_setYears 5 = .ok (.aload_n 0, 1) := by decide +kernel
theorem dX3_setYears_6 : decode cX3_setYears 6 = .ok (.dup, 1) := by decide +kernel
theorem dX3_setYears_7 : decode cX3_setYears 7 = .ok (.getfield 39, 3) := by decide +kernel
theorem dX3_setYears_10 : decode cX3_setYears 10 = .ok (.iconst 1, 1) := by decide +kernel
theorem dX3_setYears_11 : decode cX3_setYears 11 = .ok (.iadd, 1) := by decide +kernel
theorem dX3_setYears_12 : decode cX3_setYears 12 = .ok (.putfield 39, 3) := by decide +kernel
theorem dX3_setYears_15 : decode cX3_setYears 15 = .ok (.return_, 1) := by decide +kernel
theorem dX3_addStation_0 : decode cX3_addStation 0 = .ok (.aload_n 0, 1) := by decide +kernel
theorem dX3_addStation_1 : decode cX3_addStation 1 = .ok (.getfield 30, 3) := by decide +kernel
theorem dX3_addStation_4 : decode cX3_addStation 4 = .ok (.bipush 6, 2) := by decide +kernel
theorem dX3_addStation_6 : decode cX3_addStation 6 = .ok (.if_icmp .lt 5, 3) := by decide +kernel
theorem dX3_addStation_9 : decode cX3_addStation 9 = .ok (.iconst 0, 1) := by decide +kernel
theorem dX3_addStation_10 : decode cX3_addStation 10 = .ok (.ireturn, 1) := by decide +kernel
theorem dX3_addStation_11 : decode cX3_addStation 11 = .ok (.aload_n 0, 1) := by decide +kernel
theorem dX3_addStation_12 : decode cX3_addStation 12 = .ok (.getfield 9, 3) := by decide +kernel
theorem dX3_addStation_15 : decode cX3_addStation 15 = .ok (.aload_n 0, 1) := by decide +kernel
theorem dX3_addStation_16 : decode cX3_addStation 16 = .ok (.getfield 30, 3) := by decide +kernel
theorem dX3_addStation_19 : decode cX3_addStation 19 = .ok (.iload_n 1, 1) := by decide +kernel
theorem dX3_addStation_20 : decode cX3_addStation 20 = .ok (.iastore, 1) := by decide +kernel
theorem dX3_addStation_21 : decode cX3_addStation 21 = .ok (.aload_n 0, 1) := by decide +kernel
theorem dX3_addStation_22 : decode cX3_addStation 22 = .ok (.getfield 15, 3) := by decide +kernel
theorem dX3_addStation_25 : decode cX3_addStation 25 = .ok (.aload_n 0, 1) := by decide +kernel
theorem dX3_addStation_26 : decode cX3_addStation 26 = .ok (.getfield 30, 3) := by decide +kernel
theorem dX3_addStation_29 : decode cX3_addStation 29 = .ok (.iload_n 2, 1) := by decide +kernel
theorem dX3_addStation_30 : decode cX3_addStation 30 = .ok (.iastore, 1) := by decide +kernel
theorem dX3_addStation_31 : decode cX3_addStation 31 = .ok (.aload_n 0, 1) := by decide +kernel
theorem dX3_addStation_32 : decode cX3_addStation 32 = .ok (.dup, 1) := by decide +kernel
theorem dX3_addStation_33 : decode cX3_addStation 33 = .ok (.getfield 30, 3) := by decide +kernel
theorem dX3_addStation_36 : decode cX3_addStation 36 = .ok (.iconst 1, 1) := by decide +kernel
theorem dX3_addStation_37 : decode cX3_addStation 37 = .ok (.iadd, 1) := by decide +kernel
theorem dX3_addStation_38 : decode cX3_addStation 38 = .ok (.putfield 30, 3) := by decide +kernel
theorem dX3_addStation_41 : decode cX3_addStation 41 = .ok (.aload_n 0, 1) := by decide +kernel
theorem dX3_addStation_42 : decode cX3_addStation 42 = .ok (.dup, 1) := by decide +kernel
theorem dX3_addStation_43 : decode cX3_addStation 43 = .ok (.getfield 39, 3) := by decide +kernel
theorem dX3_addStation_46 : decode cX3_addStation 46 = .ok (.iconst 1, 1) := by decide +kernel
theorem dX3_addStation_47 : decode cX3_addStation 47 = .ok (.iadd, 1) := by decide +kernel
theorem dX3_addStation_48 : decode cX3_addStation 48 = .ok (.putfield 39, 3) := by decide +kernel
theorem dX3_addStation_51 : decode cX3_addStation 51 = .ok (.iconst 1, 1) := by decide +kernel
theorem dX3_addStation_52 : decode cX3_addStation 52 = .ok (.ireturn, 1) := by decide +kernel
theorem dX3_version_0 : decode cX3_version 0 = .ok (.aload_n 0, 1) := by decide +kernel
theorem dX3_version_1 : decode cX3_version 1 = .ok (.getfield 39, 3) := by decide +kernel
theorem dX3_version_4 : decode cX3_version 4 = .ok (.ireturn, 1) := by decide +kernel
theorem dX3_years_0 : decode cX3_years 0 = .ok (.aload_n 0, 1) := by decide +kernel
theorem dX3_years_1 : decode cX3_years 1 = .ok (.getfield 26, 3) := by decide +kernel
theorem dX3_years_4 : decode cX3_years 4 = .ok (.ireturn, 1) := by decide +kernel
theorem dX3_stations_0 : decode cX3_stations 0 = .ok (.aload_n 0, 1) := by decide +kernel
theorem dX3_stations_1 : decode cX3_stations 1 = .ok (.getfield 30, 3) := by decide +kernel
theorem dX3_stations_4 : decode cX3_stations 4 = .ok (.ireturn, 1) := by decide +kernel
theorem dX3_hasStation_0 : decode cX3_hasStation 0 = .ok (.iload_n 1, 1) := by decide +kernel
theorem dX3_hasStation_1 : decode cX3_hasStation 1 = .ok (.ifCond .lt 15, 3) := by decide +kernel
theorem dX3_hasStation_4 : decode cX3_hasStation 4 = .ok (.iload_n 1, 1) := by decide +kernel
theorem dX3_hasStation_5 : decode cX3_hasStation 5 = .ok (.aload_n 0, 1) := by decide +kernel
theorem dX3_hasStation_6 : decode cX3_hasStation 6 = .ok (.getfield 30, 3) := by decide +kernel
theorem dX3_hasStation_9 : decode cX3_hasStation 9 = .ok (.if_icmp .ge 7, 3) := by decide +kernel
theorem dX3_hasStation_12 : decode cX3_hasStation 12 = .ok (.iconst 1, 1) := by decide +kernel
theorem dX3_hasStation_13 : decode cX3_hasStation 13 = .ok (.goto 4, 3) := by decide +kernel
theorem dX3_hasStation_16 : decode cX3_hasStation 16 = .ok (.iconst 0, 1) := by decide +kernel
theorem dX3_hasStation_17 : decode cX3_hasStation 17 = .ok (.ireturn, 1) := by decide +kernel
theorem dX3_knows_0 : decode cX3_knows 0 = .ok (.aload_n 0, 1) := by decide +kernel
theorem dX3_knows_1 : decode cX3_knows 1 = .ok (.iload_n 1, 1) := by decide +kernel
theorem dX3_knows_2 : decode cX3_knows 2 = .ok (.invokevirtual 42, 3) := by decide +kernel
theorem dX3_knows_5 : decode cX3_knows 5 = .ok (.ifCond .eq 19, 3) := by decide +kernel
theorem dX3_knows_8 : decode cX3_knows 8 = .ok (.iload_n 2, 1) := by decide +kernel
theorem dX3_knows_9 : decode cX3_knows 9 = .ok (.ifCond .lt 15, 3) := by decide +kernel
theorem dX3_knows_12 : decode cX3_knows 12 = .ok (.iload_n 2, 1) := by decide +kernel
theorem dX3_knows_13 : decode cX3_knows 13 = .ok (.aload_n 0, 1) := by decide +kernel
theorem dX3_knows_14 : decode cX3_knows 14 = .ok (.getfield 26, 3) := by decide +kernel
theorem dX3_knows_17 : decode cX3_knows 17 = .ok (.if_icmp .ge 7, 3) := by decide +kernel
theorem dX3_knows_20 : decode cX3_knows 20 = .ok (.iconst 1, 1) := by decide +kernel
theorem dX3_knows_21 : decode cX3_knows 21 = .ok (.goto 4, 3) := by decide +kernel
theorem dX3_knows_24 : decode cX3_knows 24 = .ok (.iconst 0, 1) := by decide +kernel
theorem dX3_knows_25 : decode cX3_knows 25 = .ok (.ireturn, 1) := by decide +kernel
theorem dX3_has_0 : decode cX3_has 0 = .ok (.aload_n 0, 1) := by decide +kernel
theorem dX3_has_1 : decode cX3_has 1 = .ok (.getfield 20, 3) := by decide +kernel
theorem dX3_has_4 : decode cX3_has 4 = .ok (.iload_n 1, 1) := by decide +kernel
theorem dX3_has_5 : decode cX3_has 5 = .ok (.aaload, 1) := by decide +kernel
theorem dX3_has_6 : decode cX3_has 6 = .ok (.iload_n 2, 1) := by decide +kernel
theorem dX3_has_7 : decode cX3_has 7 = .ok (.iaload, 1) := by decide +kernel
theorem dX3_has_8 : decode cX3_has 8 = .ok (.ldc 46, 2) := by decide +kernel
theorem dX3_has_10 : decode cX3_has 10 = .ok (.if_icmp .eq 7, 3) := by decide +kernel
theorem dX3_has_13 : decode cX3_has 13 = .ok (.iconst 1, 1) := by decide +kernel
theorem dX3_has_14 : decode cX3_has 14 = .ok (.goto 4, 3) := by decide +kernel
theorem dX3_has_17 : decode cX3_has 17 = .ok (.iconst 0, 1) := by decide +kernel
theorem dX3_has_18 : decode cX3_has 18 = .ok (.ireturn, 1) := by decide +kernel
theorem dX3_at_0 : decode cX3_at 0 = .ok (.aload_n 0, 1) := by decide +kernel
theorem dX3_at_1 : decode cX3_at 1 = .ok (.getfield 20, 3) := by decide +kernel
theorem dX3_at_4 : decode cX3_at 4 = .ok (.iload_n 1, 1) := by decide +kernel
theorem dX3_at_5 : decode cX3_at 5 = .ok (.aaload, 1) := by decide +kernel
theorem dX3_at_6 : decode cX3_at 6 = .ok (.iload_n 2, 1) := by decide +kernel
theorem dX3_at_7 : decode cX3_at 7 = .ok (.iaload, 1) := by decide +kernel
theorem dX3_at_8 : decode cX3_at 8 = .ok (.ireturn, 1) := by decide +kernel
theorem dX3_put_0 : decode cX3_put 0 = .ok (.aload_n 0, 1) := by decide +kernel
theorem dX3_put_1 : decode cX3_put 1 = .ok (.getfield 20, 3) := by decide +kernel
theorem dX3_put_4 : decode cX3_put 4 = .ok (.iload_n 1, 1) := by decide +kernel
theorem dX3_put_5 : decode cX3_put 5 = .ok (.aaload, 1) := by decide +kernel
theorem dX3_put_6 : decode cX3_put 6 = .ok (.iload_n 2, 1) := by decide +kernel
theorem dX3_put_7 : decode cX3_put 7 = .ok (.iload_n 3, 1) := by decide +kernel
theorem dX3_put_8 : decode cX3_put 8 = .ok (.iastore, 1) := by decide +kernel
theorem dX3_put_9 : decode cX3_put 9 = .ok (.aload_n 0, 1) := by decide +kernel
theorem dX3_put_10 : decode cX3_put 10 = .ok (.dup, 1) := by decide +kernel
theorem dX3_put_11 : decode cX3_put 11 = .ok (.getfield 39, 3) := by decide +kernel
theorem dX3_put_14 : decode cX3_put 14 = .ok (.iconst 1, 1) := by decide +kernel
theorem dX3_put_15 : decode cX3_put 15 = .ok (.iadd, 1) := by decide +kernel
theorem dX3_put_16 : decode cX3_put 16 = .ok (.putfield 39, 3) := by decide +kernel
theorem dX3_put_19 : decode cX3_put 19 = .ok (.return_, 1) := by decide +kernel
theorem dX3_breakPenalty_0 : decode cX3_breakPenalty 0 = .ok (.aload_n 0, 1) := by decide +kernel
theorem dX3_breakPenalty_1 : decode cX3_breakPenalty 1 = .ok (.getfield 33, 3) := by decide +kernel
theorem dX3_breakPenalty_4 : decode cX3_breakPenalty 4 = .ok (.ireturn, 1) := by decide +kernel
theorem dX3_setBreakPenalty_0 : decode cX3_setBreakPenalty 0 = .ok (.aload_n 0, 1) := by decide +kernel
theorem dX3_setBreakPenalty_1 : decode cX3_setBreakPenalty 1 = .ok (.iload_n 1, 1) := by decide +kernel
theorem dX3_setBreakPenalty_2 : decode cX3_setBreakPenalty 2 = .ok (.putfield 33, 3) := by decide +kernel
theorem dX3_setBreakPenalty_5 : decode cX3_setBreakPenalty 5 = .ok (.aload_n 0, 1) := by decide +kernel
theorem dX3_setBreakPenalty_6 : decode cX3_setBreakPenalty 6 = .ok (.dup, 1) := by decide +kernel
theorem dX3_setBreakPenalty_7 : decode cX3_setBreakPenalty 7 = .ok (.getfield 39, 3) := by decide +kernel
theorem dX3_setBreakPenalty_10 : decode cX3_setBreakPenalty 10 = .ok (.iconst 1, 1) := by decide +kernel
theorem dX3_setBreakPenalty_11 : decode cX3_setBreakPenalty 11 = .ok (.iadd, 1) := by decide +kernel
theorem dX3_setBreakPenalty_12 : decode cX3_setBreakPenalty 12 = .ok (.putfield 39, 3) := by decide +kernel
theorem dX3_setBreakPenalty_15 : decode cX3_setBreakPenalty 15 = .ok (.return_, 1) := by decide +kernel
theorem dX3_ruleOf_0 : decode cX3_ruleOf 0 = .ok (.aload_n 0, 1) := by decide +kernel
theorem dX3_ruleOf_1 : decode cX3_ruleOf 1 = .ok (.getfield 23, 3) := by decide +kernel
theorem dX3_ruleOf_4 : decode cX3_ruleOf 4 = .ok (.iload_n 1, 1) := by decide +kernel
theorem dX3_ruleOf_5 : decode cX3_ruleOf 5 = .ok (.iaload, 1) := by decide +kernel
theorem dX3_ruleOf_6 : decode cX3_ruleOf 6 = .ok (.ireturn, 1) := by decide +kernel
theorem dX3_setRule_0 : decode cX3_setRule 0 = .ok (.aload_n 0, 1) := by decide +kernel
theorem dX3_setRule_1 : decode cX3_setRule 1 = .ok (.getfield 23, 3) := by decide +kernel
theorem dX3_setRule_4 : decode cX3_setRule 4 = .ok (.iload_n 1, 1) := by decide +kernel
theorem dX3_setRule_5 : decode cX3_setRule 5 = .ok (.iload_n 2, 1) := by decide +kernel
theorem dX3_setRule_6 : decode cX3_setRule 6 = .ok (.iastore, 1) := by decide +kernel
theorem dX3_setRule_7 : decode cX3_setRule 7 = .ok (.aload_n 0, 1) := by decide +kernel
theorem dX3_setRule_8 : decode cX3_setRule 8 = .ok (.dup, 1) := by decide +kernel
theorem dX3_setRule_9 : decode cX3_setRule 9 = .ok (.getfield 39, 3) := by decide +kernel
theorem dX3_setRule_12 : decode cX3_setRule 12 = .ok (.iconst 1, 1) := by decide +kernel
theorem dX3_setRule_13 : decode cX3_setRule 13 = .ok (.iadd, 1) := by decide +kernel
theorem dX3_setRule_14 : decode cX3_setRule 14 = .ok (.putfield 39, 3) := by decide +kernel
theorem dX3_setRule_17 : decode cX3_setRule 17 = .ok (.return_, 1) := by decide +kernel
theorem dX3_canShiftEarlier_0 : decode cX3_canShiftEarlier 0 = .ok (.iconst 0, 1) := by decide +kernel
theorem dX3_canShiftEarlier_1 : decode cX3_canShiftEarlier 1 = .ok (.istore 4, 2) := by decide +kernel
theorem dX3_canShiftEarlier_3 : decode cX3_canShiftEarlier 3 = .ok (.iload 4, 2) := by decide +kernel
theorem dX3_canShiftEarlier_5 : decode cX3_canShiftEarlier 5 = .ok (.iload_n 2, 1) := by decide +kernel
theorem dX3_canShiftEarlier_6 : decode cX3_canShiftEarlier 6 = .ok (.if_icmp .ge 38, 3) := by decide +kernel
theorem dX3_canShiftEarlier_9 : decode cX3_canShiftEarlier 9 = .ok (.aload_n 0, 1) := by decide +kernel
theorem dX3_canShiftEarlier_10 : decode cX3_canShiftEarlier 10 = .ok (.iload_n 1, 1) := by decide +kernel
theorem dX3_canShiftEarlier_11 : decode cX3_canShiftEarlier 11 = .ok (.iload 4, 2) := by decide +kernel
theorem dX3_canShiftEarlier_13 : decode cX3_canShiftEarlier 13 = .ok (.invokevirtual 47, 3) := by decide +kernel
theorem dX3_canShiftEarlier_16 : decode cX3_canShiftEarlier 16 = .ok (.ifCond .eq 22, 3) := by decide +kernel
theorem dX3_canShiftEarlier_19 : decode cX3_canShiftEarlier 19 = .ok (.aload_n 0, 1) := by decide +kernel
theorem dX3_canShiftEarlier_20 : decode cX3_canShiftEarlier 20 = .ok (.getfield 20, 3) := by decide +kernel
theorem dX3_canShiftEarlier_23 : decode cX3_canShiftEarlier 23 = .ok (.iload_n 1, 1) := by decide +kernel
theorem dX3_canShiftEarlier_24 : decode cX3_canShiftEarlier 24 = .ok (.aaload, 1) := by decide +kernel
theorem dX3_canShiftEarlier_25 : decode cX3_canShiftEarlier 25 = .ok (.iload 4, 2) := by decide +kernel
theorem dX3_canShiftEarlier_27 : decode cX3_canShiftEarlier 27 = .ok (.iaload, 1) := by decide +kernel
theorem dX3_canShiftEarlier_28 : decode cX3_canShiftEarlier 28 = .ok (.iload_n 3, 1) := by decide +kernel
theorem dX3_canShiftEarlier_29 : decode cX3_canShiftEarlier 29 = .ok (.iadd, 1) := by decide +kernel
theorem dX3_canShiftEarlier_30 : decode cX3_canShiftEarlier 30 = .ok (.invokestatic 51, 3) := by decide +kernel
theorem dX3_canShiftEarlier_33 : decode cX3_canShiftEarlier 33 = .ok (.ifCond .ne 5, 3) := by decide +kernel
theorem dX3_canShiftEarlier_36 : decode cX3_canShiftEarlier 36 = .ok (.iconst 0, 1) := by decide +kernel
theorem dX3_canShiftEarlier_37 : decode cX3_canShiftEarlier 37 = .ok (.ireturn, 1) := by decide +kernel
theorem dX3_canShiftEarlier_38 : decode cX3_canShiftEarlier 38 = .ok (.iinc 4 1, 3) := by decide +kernel
theorem dX3_canShiftEarlier_41 : decode cX3_canShiftEarlier 41 = .ok (.goto (-38), 3) := by decide +kernel
theorem dX3_canShiftEarlier_44 : decode cX3_canShiftEarlier 44 = .ok (.iconst 1, 1) := by decide +kernel
theorem dX3_canShiftEarlier_45 : decode cX3_canShiftEarlier 45 = .ok (.ireturn, 1) := by decide +kernel
theorem dX3_shiftEarlier_0 : decode cX3_shiftEarlier 0 = .ok (.iconst 0, 1) := by decide +kernel
theorem dX3_shiftEarlier_1 : decode cX3_shiftEarlier 1 = .ok (.istore 4, 2) := by decide +kernel
theorem dX3_shiftEarlier_3 : decode cX3_shiftEarlier 3 = .ok (.iload 4, 2) := by decide +kernel
theorem dX3_shiftEarlier_5 : decode cX3_shiftEarlier 5 = .ok (.iload_n 2, 1) := by decide +kernel
theorem dX3_shiftEarlier_6 : decode cX3_shiftEarlier 6 = .ok (.if_icmp .ge 32, 3) := by decide +kernel
theorem dX3_shiftEarlier_9 : decode cX3_shiftEarlier 9 = .ok (.aload_n 0, 1) := by decide +kernel
theorem dX3_shiftEarlier_10 : decode cX3_shiftEarlier 10 = .ok (.iload_n 1, 1) := by decide +kernel
theorem dX3_shiftEarlier_11 : decode cX3_shiftEarlier 11 = .ok (.iload 4, 2) := by decide +kernel
theorem dX3_shiftEarlier_13 : decode cX3_shiftEarlier 13 = .ok (.invokevirtual 47, 3) := by decide +kernel
theorem dX3_shiftEarlier_16 : decode cX3_shiftEarlier 16 = .ok (.ifCond .eq 16, 3) := by decide +kernel
theorem dX3_shiftEarlier_19 : decode cX3_shiftEarlier 19 = .ok (.aload_n 0, 1) := by decide +kernel
theorem dX3_shiftEarlier_20 : decode cX3_shiftEarlier 20 = .ok (.getfield 20, 3) := by decide +kernel
theorem dX3_shiftEarlier_23 : decode cX3_shiftEarlier 23 = .ok (.iload_n 1, 1) := by decide +kernel
theorem dX3_shiftEarlier_24 : decode cX3_shiftEarlier 24 = .ok (.aaload, 1) := by decide +kernel
theorem dX3_shiftEarlier_25 : decode cX3_shiftEarlier 25 = .ok (.iload 4, 2) := by decide +kernel
theorem dX3_shiftEarlier_27 : decode cX3_shiftEarlier 27 = .ok (.dup2, 1) := by decide +kernel
theorem dX3_shiftEarlier_28 : decode cX3_shiftEarlier 28 = .ok (.iaload, 1) := by decide +kernel
theorem dX3_shiftEarlier_29 : decode cX3_shiftEarlier 29 = .ok (.iload_n 3, 1) := by decide +kernel
theorem dX3_shiftEarlier_30 : decode cX3_shiftEarlier 30 = .ok (.iadd, 1) := by decide +kernel
theorem dX3_shiftEarlier_31 : decode cX3_shiftEarlier 31 = .ok (.iastore, 1) := by decide +kernel
theorem dX3_shiftEarlier_32 : decode cX3_shiftEarlier 32 = .ok (.iinc 4 1, 3) := by decide +kernel
theorem dX3_shiftEarlier_35 : decode cX3_shiftEarlier 35 = .ok (.goto (-32), 3) := by decide +kernel
theorem dX3_shiftEarlier_38 : decode cX3_shiftEarlier 38 = .ok (.aload_n 0, 1) := by decide +kernel
theorem dX3_shiftEarlier_39 : decode cX3_shiftEarlier 39 = .ok (.dup, 1) := by decide +kernel
theorem dX3_shiftEarlier_40 : decode cX3_shiftEarlier 40 = .ok (.getfield 39, 3) := by decide +kernel
theorem dX3_shiftEarlier_43 : decode cX3_shiftEarlier 43 = .ok (.iconst 1, 1) := by decide +kernel
theorem dX3_shiftEarlier_44 : decode cX3_shiftEarlier 44 = .ok (.iadd, 1) := by decide +kernel
theorem dX3_shiftEarlier_45 : decode cX3_shiftEarlier 45 = .ok (.putfield 39, 3) := by decide +kernel
theorem dX3_shiftEarlier_48 : decode cX3_shiftEarlier 48 = .ok (.return_, 1) := by decide +kernel
theorem dX3_rank_0 : decode cX3_rank 0 = .ok (.aload_n 0, 1) := by decide +kernel
theorem dX3_rank_1 : decode cX3_rank 1 = .ok (.iload_n 1, 1) := by decide +kernel
theorem dX3_rank_2 : decode cX3_rank 2 = .ok (.iload_n 2, 1) := by decide +kernel
theorem dX3_rank_3 : decode cX3_rank 3 = .ok (.invokevirtual 54, 3) := by decide +kernel
theorem dX3_rank_6 : decode cX3_rank 6 = .ok (.istore_n 3, 1) := by decide +kernel
theorem dX3_rank_7 : decode cX3_rank 7 = .ok (.iconst 0, 1) := by decide +kernel
theorem dX3_rank_8 : decode cX3_rank 8 = .ok (.istore 4, 2) := by decide +kernel
theorem dX3_rank_10 : decode cX3_rank 10 = .ok (.iconst 0, 1) := by decide +kernel
theorem dX3_rank_11 : decode cX3_rank 11 = .ok (.istore 5, 2) := by decide +kernel
theorem dX3_rank_13 : decode cX3_rank 13 = .ok (.iload 5, 2) := by decide +kernel
theorem dX3_rank_15 : decode cX3_rank 15 = .ok (.aload_n 0, 1) := by decide +kernel
theorem dX3_rank_16 : decode cX3_rank 16 = .ok (.getfield 30, 3) := by decide +kernel
theorem dX3_rank_19 : decode cX3_rank 19 = .ok (.if_icmp .ge 45, 3) := by decide +kernel
theorem dX3_rank_22 : decode cX3_rank 22 = .ok (.aload_n 0, 1) := by decide +kernel
theorem dX3_rank_23 : decode cX3_rank 23 = .ok (.iload_n 1, 1) := by decide +kernel
theorem dX3_rank_24 : decode cX3_rank 24 = .ok (.iload 5, 2) := by decide +kernel
theorem dX3_rank_26 : decode cX3_rank 26 = .ok (.invokevirtual 54, 3) := by decide +kernel
theorem dX3_rank_29 : decode cX3_rank 29 = .ok (.istore 6, 2) := by decide +kernel
theorem dX3_rank_31 : decode cX3_rank 31 = .ok (.iload 5, 2) := by decide +kernel
theorem dX3_rank_33 : decode cX3_rank 33 = .ok (.iload_n 1, 1) := by decide +kernel
theorem dX3_rank_34 : decode cX3_rank 34 = .ok (.if_icmp .eq 24, 3) := by decide +kernel
theorem dX3_rank_37 : decode cX3_rank 37 = .ok (.iload 6, 2) := by decide +kernel
theorem dX3_rank_39 : decode cX3_rank 39 = .ok (.iload_n 3, 1) := by decide +kernel
theorem dX3_rank_40 : decode cX3_rank 40 = .ok (.if_icmp .lt 15, 3) := by decide +kernel
theorem dX3_rank_43 : decode cX3_rank 43 = .ok (.iload 6, 2) := by decide +kernel
theorem dX3_rank_45 : decode cX3_rank 45 = .ok (.iload_n 3, 1) := by decide +kernel
theorem dX3_rank_46 : decode cX3_rank 46 = .ok (.if_icmp .ne 12, 3) := by decide +kernel
theorem dX3_rank_49 : decode cX3_rank 49 = .ok (.iload 5, 2) := by decide +kernel
theorem dX3_rank_51 : decode cX3_rank 51 = .ok (.iload_n 2, 1) := by decide +kernel
theorem dX3_rank_52 : decode cX3_rank 52 = .ok (.if_icmp .ge 6, 3) := by decide +kernel
theorem dX3_rank_55 : decode cX3_rank 55 = .ok (.iinc 4 1, 3) := by decide +kernel
theorem dX3_rank_58 : decode cX3_rank 58 = .ok (.iinc 5 1, 3) := by decide +kernel
theorem dX3_rank_61 : decode cX3_rank 61 = .ok (.goto (-48), 3) := by decide +kernel
theorem dX3_rank_64 : decode cX3_rank 64 = .ok (.iload 4, 2) := by decide +kernel
theorem dX3_rank_66 : decode cX3_rank 66 = .ok (.ireturn, 1) := by decide +kernel
theorem dX3_squaredDistance_0 : decode cX3_squaredDistance 0 = .ok (.aload_n 0, 1) := by decide +kernel
theorem dX3_squaredDistance_1 : decode cX3_squaredDistance 1 = .ok (.getfield 9, 3) := by decide +kernel
theorem dX3_squaredDistance_4 : decode cX3_squaredDistance 4 = .ok (.iload_n 1, 1) := by decide +kernel
theorem dX3_squaredDistance_5 : decode cX3_squaredDistance 5 = .ok (.iaload, 1) := by decide +kernel
theorem dX3_squaredDistance_6 : decode cX3_squaredDistance 6 = .ok (.aload_n 0, 1) := by decide +kernel
theorem dX3_squaredDistance_7 : decode cX3_squaredDistance 7 = .ok (.getfield 9, 3) := by decide +kernel
theorem dX3_squaredDistance_10 : decode cX3_squaredDistance 10 = .ok (.iload_n 2, 1) := by decide +kernel
theorem dX3_squaredDistance_11 : decode cX3_squaredDistance 11 = .ok (.iaload, 1) := by decide +kernel
theorem dX3_squaredDistance_12 : decode cX3_squaredDistance 12 = .ok (.isub, 1) := by decide +kernel
theorem dX3_squaredDistance_13 : decode cX3_squaredDistance 13 = .ok (.istore_n 3, 1) := by decide +kernel
theorem dX3_squaredDistance_14 : decode cX3_squaredDistance 14 = .ok (.aload_n 0, 1) := by decide +kernel
theorem dX3_squaredDistance_15 : decode cX3_squaredDistance 15 = .ok (.getfield 15, 3) := by decide +kernel
theorem dX3_squaredDistance_18 : decode cX3_squaredDistance 18 = .ok (.iload_n 1, 1) := by decide +kernel
theorem dX3_squaredDistance_19 : decode cX3_squaredDistance 19 = .ok (.iaload, 1) := by decide +kernel
theorem dX3_squaredDistance_20 : decode cX3_squaredDistance 20 = .ok (.aload_n 0, 1) := by decide +kernel
theorem dX3_squaredDistance_21 : decode cX3_squaredDistance 21 = .ok (.getfield 15, 3) := by decide +kernel
theorem dX3_squaredDistance_24 : decode cX3_squaredDistance 24 = .ok (.iload_n 2, 1) := by decide +kernel
theorem dX3_squaredDistance_25 : decode cX3_squaredDistance 25 = .ok (.iaload, 1) := by decide +kernel
theorem dX3_squaredDistance_26 : decode cX3_squaredDistance 26 = .ok (.isub, 1) := by decide +kernel
theorem dX3_squaredDistance_27 : decode cX3_squaredDistance 27 = .ok (.istore 4, 2) := by decide +kernel
theorem dX3_squaredDistance_29 : decode cX3_squaredDistance 29 = .ok (.iload_n 3, 1) := by decide +kernel
theorem dX3_squaredDistance_30 : decode cX3_squaredDistance 30 = .ok (.iload_n 3, 1) := by decide +kernel
theorem dX3_squaredDistance_31 : decode cX3_squaredDistance 31 = .ok (.imul, 1) := by decide +kernel
theorem dX3_squaredDistance_32 : decode cX3_squaredDistance 32 = .ok (.iload 4, 2) := by decide +kernel
theorem dX3_squaredDistance_34 : decode cX3_squaredDistance 34 = .ok (.iload 4, 2) := by decide +kernel
theorem dX3_squaredDistance_36 : decode cX3_squaredDistance 36 = .ok (.imul, 1) := by decide +kernel
theorem dX3_squaredDistance_37 : decode cX3_squaredDistance 37 = .ok (.iadd, 1) := by decide +kernel
theorem dX3_squaredDistance_38 : decode cX3_squaredDistance 38 = .ok (.ireturn, 1) := by decide +kernel
theorem dX3_arePair_0 : decode cX3_arePair 0 = .ok (.aload_n 0, 1) := by decide +kernel
theorem dX3_arePair_1 : decode cX3_arePair 1 = .ok (.iload_n 1, 1) := by decide +kernel
theorem dX3_arePair_2 : decode cX3_arePair 2 = .ok (.iload_n 2, 1) := by decide +kernel
theorem dX3_arePair_3 : decode cX3_arePair 3 = .ok (.invokevirtual 58, 3) := by decide +kernel
theorem dX3_arePair_6 : decode cX3_arePair 6 = .ok (.aload_n 0, 1) := by decide +kernel
theorem dX3_arePair_7 : decode cX3_arePair 7 = .ok (.getfield 23, 3) := by decide +kernel
theorem dX3_arePair_10 : decode cX3_arePair 10 = .ok (.iconst 1, 1) := by decide +kernel
theorem dX3_arePair_11 : decode cX3_arePair 11 = .ok (.iaload, 1) := by decide +kernel
theorem dX3_arePair_12 : decode cX3_arePair 12 = .ok (.if_icmp .lt 18, 3) := by decide +kernel
theorem dX3_arePair_15 : decode cX3_arePair 15 = .ok (.aload_n 0, 1) := by decide +kernel
theorem dX3_arePair_16 : decode cX3_arePair 16 = .ok (.iload_n 2, 1) := by decide +kernel
theorem dX3_arePair_17 : decode cX3_arePair 17 = .ok (.iload_n 1, 1) := by decide +kernel
theorem dX3_arePair_18 : decode cX3_arePair 18 = .ok (.invokevirtual 58, 3) := by decide +kernel
theorem dX3_arePair_21 : decode cX3_arePair 21 = .ok (.aload_n 0, 1) := by decide +kernel
theorem dX3_arePair_22 : decode cX3_arePair 22 = .ok (.getfield 23, 3) := by decide +kernel
theorem dX3_arePair_25 : decode cX3_arePair 25 = .ok (.iconst 1, 1) := by decide +kernel
theorem dX3_arePair_26 : decode cX3_arePair 26 = .ok (.iaload, 1) := by decide +kernel
theorem dX3_arePair_27 : decode cX3_arePair 27 = .ok (.if_icmp .ge 7, 3) := by decide +kernel
theorem dX3_arePair_30 : decode cX3_arePair 30 = .ok (.iconst 1, 1) := by decide +kernel
theorem dX3_arePair_31 : decode cX3_arePair 31 = .ok (.goto 4, 3) := by decide +kernel
theorem dX3_arePair_34 : decode cX3_arePair 34 = .ok (.iconst 0, 1) := by decide +kernel
theorem dX3_arePair_35 : decode cX3_arePair 35 = .ok (.ireturn, 1) := by decide +kernel
theorem dX3_countPairs_0 : decode cX3_countPairs 0 = .ok (.iconst 0, 1) := by decide +kernel
theorem dX3_countPairs_1 : decode cX3_countPairs 1 = .ok (.istore_n 1, 1) := by decide +kernel
theorem dX3_countPairs_2 : decode cX3_countPairs 2 = .ok (.iconst 0, 1) := by decide +kernel
theorem dX3_countPairs_3 : decode cX3_countPairs 3 = .ok (.istore_n 2, 1) := by decide +kernel
theorem dX3_countPairs_4 : decode cX3_countPairs 4 = .ok (.iload_n 2, 1) := by decide +kernel
theorem dX3_countPairs_5 : decode cX3_countPairs 5 = .ok (.aload_n 0, 1) := by decide +kernel
theorem dX3_countPairs_6 : decode cX3_countPairs 6 = .ok (.getfield 30, 3) := by decide +kernel
theorem dX3_countPairs_9 : decode cX3_countPairs 9 = .ok (.if_icmp .ge 39, 3) := by decide +kernel
theorem dX3_countPairs_12 : decode cX3_countPairs 12 = .ok (.iload_n 2, 1) := by decide +kernel
theorem dX3_countPairs_13 : decode cX3_countPairs 13 = .ok (.iconst 1, 1) := by decide +kernel
theorem dX3_countPairs_14 : decode cX3_countPairs 14 = .ok (.iadd, 1) := by decide +kernel
theorem dX3_countPairs_15 : decode cX3_countPairs 15 = .ok (.istore_n 3, 1) := by decide +kernel
theorem dX3_countPairs_16 : decode cX3_countPairs 16 = .ok (.iload_n 3, 1) := by decide +kernel
theorem dX3_countPairs_17 : decode cX3_countPairs 17 = .ok (.aload_n 0, 1) := by decide +kernel
theorem dX3_countPairs_18 : decode cX3_countPairs 18 = .ok (.getfield 30, 3) := by decide +kernel
theorem dX3_countPairs_21 : decode cX3_countPairs 21 = .ok (.if_icmp .ge 21, 3) := by decide +kernel
theorem dX3_countPairs_24 : decode cX3_countPairs 24 = .ok (.aload_n 0, 1) := by decide +kernel
theorem dX3_countPairs_25 : decode cX3_countPairs 25 = .ok (.iload_n 2, 1) := by decide +kernel
theorem dX3_countPairs_26 : decode cX3_countPairs 26 = .ok (.iload_n 3, 1) := by decide +kernel
theorem dX3_countPairs_27 : decode cX3_countPairs 27 = .ok (.invokevirtual 61, 3) := by decide +kernel
theorem dX3_countPairs_30 : decode cX3_countPairs 30 = .ok (.ifCond .eq 6, 3) := by decide +kernel
theorem dX3_countPairs_33 : decode cX3_countPairs 33 = .ok (.iinc 1 1, 3) := by decide +kernel
theorem dX3_countPairs_36 : decode cX3_countPairs 36 = .ok (.iinc 3 1, 3) := by decide +kernel
theorem dX3_countPairs_39 : decode cX3_countPairs 39 = .ok (.goto (-23), 3) := by decide +kernel
theorem dX3_countPairs_42 : decode cX3_countPairs 42 = .ok (.iinc 2 1, 3) := by decide +kernel
theorem dX3_countPairs_45 : decode cX3_countPairs 45 = .ok (.goto (-41), 3) := by decide +kernel
theorem dX3_countPairs_48 : decode cX3_countPairs 48 = .ok (.iload_n 1, 1) := by decide +kernel
theorem dX3_countPairs_49 : decode cX3_countPairs 49 = .ok (.ireturn, 1) := by decide +kernel
theorem dX3_countMissing_0 : decode cX3_countMissing 0 = .ok (.iconst 0, 1) := by decide +kernel
theorem dX3_countMissing_1 : decode cX3_countMissing 1 = .ok (.istore_n 1, 1) := by decide +kernel
theorem dX3_countMissing_2 : decode cX3_countMissing 2 = .ok (.iconst 0, 1) := by decide +kernel
theorem dX3_countMissing_3 : decode cX3_countMissing 3 = .ok (.istore_n 2, 1) := by decide +kernel
theorem dX3_countMissing_4 : decode cX3_countMissing 4 = .ok (.iload_n 2, 1) := by decide +kernel
theorem dX3_countMissing_5 : decode cX3_countMissing 5 = .ok (.aload_n 0, 1) := by decide +kernel
theorem dX3_countMissing_6 : decode cX3_countMissing 6 = .ok (.getfield 30, 3) := by decide +kernel
theorem dX3_countMissing_9 : decode cX3_countMissing 9 = .ok (.if_icmp .ge 37, 3) := by decide +kernel
theorem dX3_countMissing_12 : decode cX3_countMissing 12 = .ok (.iconst 0, 1) := by decide +kernel
theorem dX3_countMissing_13 : decode cX3_countMissing 13 = .ok (.istore_n 3, 1) := by decide +kernel
theorem dX3_countMissing_14 : decode cX3_countMissing 14 = .ok (.iload_n 3, 1) := by decide +kernel
theorem dX3_countMissing_15 : decode cX3_countMissing 15 = .ok (.aload_n 0, 1) := by decide +kernel
theorem dX3_countMissing_16 : decode cX3_countMissing 16 = .ok (.getfield 26, 3) := by decide +kernel
theorem dX3_countMissing_19 : decode cX3_countMissing 19 = .ok (.if_icmp .ge 21, 3) := by decide +kernel
theorem dX3_countMissing_22 : decode cX3_countMissing 22 = .ok (.aload_n 0, 1) := by decide +kernel
theorem dX3_countMissing_23 : decode cX3_countMissing 23 = .ok (.iload_n 2, 1) := by decide +kernel
theorem dX3_countMissing_24 : decode cX3_countMissing 24 = .ok (.iload_n 3, 1) := by decide +kernel
theorem dX3_countMissing_25 : decode cX3_countMissing 25 = .ok (.invokevirtual 47, 3) := by decide +kernel
theorem dX3_countMissing_28 : decode cX3_countMissing 28 = .ok (.ifCond .ne 6, 3) := by decide +kernel
theorem dX3_countMissing_31 : decode cX3_countMissing 31 = .ok (.iinc 1 1, 3) := by decide +kernel
theorem dX3_countMissing_34 : decode cX3_countMissing 34 = .ok (.iinc 3 1, 3) := by decide +kernel
theorem dX3_countMissing_37 : decode cX3_countMissing 37 = .ok (.goto (-23), 3) := by decide +kernel
theorem dX3_countMissing_40 : decode cX3_countMissing 40 = .ok (.iinc 2 1, 3) := by decide +kernel
theorem dX3_countMissing_43 : decode cX3_countMissing 43 = .ok (.goto (-39), 3) := by decide +kernel
theorem dX3_countMissing_46 : decode cX3_countMissing 46 = .ok (.iload_n 1, 1) := by decide +kernel
theorem dX3_countMissing_47 : decode cX3_countMissing 47 = .ok (.ireturn, 1) := by decide +kernel
theorem dX4_init_0 : decode cX4_init 0 = .ok (.aload_n 0, 1) := by decide +kernel
theorem dX4_init_1 : decode cX4_init 1 = .ok (.invokespecial 3, 3) := by decide +kernel
theorem dX4_init_4 : decode cX4_init 4 = .ok (.aload_n 0, 1) := by decide +kernel
theorem dX4_init_5 : decode cX4_init 5 = .ok (.sipush 200, 3) := by decide +kernel
theorem dX4_init_8 : decode cX4_init 8 = .ok (.newarray .char, 2) := by decide +kernel
theorem dX4_init_10 : decode cX4_init 10 = .ok (.putfield 9, 3) := by decide +kernel
theorem dX4_init_13 : decode cX4_init 13 = .ok (.aload_n 0, 1) := by decide +kernel
theorem dX4_init_14 : decode cX4_init 14 = .ok (.new 15, 3) := by decide +kernel
theorem dX4_init_17 : decode cX4_init 17 = .ok (.dup, 1) := by decide +kernel
theorem dX4_init_18 : decode cX4_init 18 = .ok (.invokespecial 17, 3) := by decide +kernel
theorem dX4_init_21 : decode cX4_init 21 = .ok (.putfield 18, 3) := by decide +kernel
theorem dX4_init_24 : decode cX4_init 24 = .ok (.return_, 1) := by decide +kernel
theorem dX4_append_0 : decode cX4_append 0 = .ok (.aload_n 0, 1) := by decide +kernel
theorem dX4_append_1 : decode cX4_append 1 = .ok (.getfield 22, 3) := by decide +kernel
theorem dX4_append_4 : decode cX4_append 4 = .ok (.sipush 200, 3) := by decide +kernel
theorem dX4_append_7 : decode cX4_append 7 = .ok (.if_icmp .lt 5, 3) := by decide +kernel
theorem dX4_append_10 : decode cX4_append 10 = .ok (.iconst 0, 1) := by decide +kernel
theorem dX4_append_11 : decode cX4_append 11 = .ok (.ireturn, 1) := by decide +kernel
theorem dX4_append_12 : decode cX4_append 12 = .ok (.aload_n 0, 1) := by decide +kernel
theorem dX4_append_13 : decode cX4_append 13 = .ok (.getfield 9, 3) := by decide +kernel
theorem dX4_append_16 : decode cX4_append 16 = .ok (.aload_n 0, 1) := by decide +kernel
theorem dX4_append_17 : decode cX4_append 17 = .ok (.getfield 22, 3) := by decide +kernel
theorem dX4_append_20 : decode cX4_append 20 = .ok (.iload_n 1, 1) := by decide +kernel
theorem dX4_append_21 : decode cX4_append 21 = .ok (.castore, 1) := by decide +kernel
theorem dX4_append_22 : decode cX4_append 22 = .ok (.aload_n 0, 1) := by decide +kernel
theorem dX4_append_23 : decode cX4_append 23 = .ok (.dup, 1) := by decide +kernel
theorem dX4_append_24 : decode cX4_append 24 = .ok (.getfield 22, 3) := by decide +kernel
theorem dX4_append_27 : decode cX4_append 27 = .ok (.iconst 1, 1) := by decide +kernel
theorem dX4_append_28 : decode cX4_append 28 = .ok (.iadd, 1) := by decide +kernel
theorem dX4_append_29 : decode cX4_append 29 = .ok (.putfield 22, 3) := by decide +kernel
theorem dX4_append_32 : decode cX4_append 32 = .ok (.iconst 1, 1) := by decide +kernel
theorem dX4_append_33 : decode cX4_append 33 = .ok (.ireturn, 1) := by decide +kernel
theorem dX4_clear_0 : decode cX4_clear 0 = .ok (.aload_n 0, 1) := by decide +kernel
theorem dX4_clear_1 : decode cX4_clear 1 = .ok (.iconst 0, 1) := by decide +kernel
theorem dX4_clear_2 : decode cX4_clear 2 = .ok (.putfield 22, 3) := by decide +kernel
theorem dX4_clear_5 : decode cX4_clear 5 = .ok (.return_, 1) := by decide +kernel
theorem dX4_length_0 : decode cX4_length 0 = .ok (.aload_n 0, 1) := by decide +kernel
theorem dX4_length_1 : decode cX4_length 1 = .ok (.getfield 22, 3) := by decide +kernel
theorem dX4_length_4 : decode cX4_length 4 = .ok (.ireturn, 1) := by decide +kernel
theorem dX4_draft_0 : decode cX4_draft 0 = .ok (.aload_n 0, 1) := by decide +kernel
theorem dX4_draft_1 : decode cX4_draft 1 = .ok (.getfield 18, 3) := by decide +kernel
theorem dX4_draft_4 : decode cX4_draft 4 = .ok (.areturn, 1) := by decide +kernel
theorem dX4_read_0 : decode cX4_read 0 = .ok (.aload_n 0, 1) := by decide +kernel
theorem dX4_read_1 : decode cX4_read 1 = .ok (.getfield 18, 3) := by decide +kernel
theorem dX4_read_4 : decode cX4_read 4 = .ok (.invokevirtual 26, 3) := by decide +kernel
theorem dX4_read_7 : decode cX4_read 7 = .ok (.iconst 0, 1) := by decide +kernel
theorem dX4_read_8 : decode cX4_read 8 = .ok (.istore_n 1, 1) := by decide +kernel
theorem dX4_read_9 : decode cX4_read 9 = .ok (.iload_n 1, 1) := by decide +kernel
theorem dX4_read_10 : decode cX4_read 10 = .ok (.aload_n 0, 1) := by decide +kernel
theorem dX4_read_11 : decode cX4_read 11 = .ok (.getfield 22, 3) := by decide +kernel
theorem dX4_read_14 : decode cX4_read 14 = .ok (.if_icmp .ge 23, 3) := by decide +kernel
theorem dX4_read_17 : decode cX4_read 17 = .ok (.aload_n 0, 1) := by decide +kernel
theorem dX4_read_18 : decode cX4_read 18 = .ok (.iload_n 1, 1) := by decide +kernel
theorem dX4_read_19 : decode cX4_read 19 = .ok (.invokevirtual 29, 3) := by decide +kernel
theorem dX4_read_22 : decode cX4_read 22 = .ok (.istore_n 2, 1) := by decide +kernel
theorem dX4_read_23 : decode cX4_read 23 = .ok (.iload_n 2, 1) := by decide +kernel
theorem dX4_read_24 : decode cX4_read 24 = .ok (.iconst 1, 1) := by decide +kernel
theorem dX4_read_25 : decode cX4_read 25 = .ok (.if_icmp .ge 5, 3) := by decide +kernel
theorem dX4_read_28 : decode cX4_read 28 = .ok (.iload_n 1, 1) := by decide +kernel
theorem dX4_read_29 : decode cX4_read 29 = .ok (.ireturn, 1) := by decide +kernel
theorem dX4_read_30 : decode cX4_read 30 = .ok (.iload_n 1, 1) := by decide +kernel
theorem dX4_read_31 : decode cX4_read 31 = .ok (.iload_n 2, 1) := by decide +kernel
theorem dX4_read_32 : decode cX4_read 32 = .ok (.iadd, 1) := by decide +kernel
theorem dX4_read_33 : decode cX4_read 33 = .ok (.istore_n 1, 1) := by decide +kernel
theorem dX4_read_34 : decode cX4_read 34 = .ok (.goto (-25), 3) := by decide +kernel
theorem dX4_read_37 : decode cX4_read 37 = .ok (.bipush (-4), 2) := by decide +kernel
theorem dX4_read_39 : decode cX4_read 39 = .ok (.ireturn, 1) := by decide +kernel
theorem dX4_readItem_0 : decode cX4_readItem 0 = .ok (.aload_n 0, 1) := by decide +kernel
theorem dX4_readItem_1 : decode cX4_readItem 1 = .ok (.getfield 9, 3) := by decide +kernel
theorem dX4_readItem_4 : decode cX4_readItem 4 = .ok (.iload_n 1, 1) := by decide +kernel
theorem dX4_readItem_5 : decode cX4_readItem 5 = .ok (.caload, 1) := by decide +kernel
theorem dX4_readItem_6 : decode cX4_readItem 6 = .ok (.istore_n 2, 1) := by decide +kernel
theorem dX4_readItem_7 : decode cX4_readItem 7 = .ok (.iload_n 2, 1) := by decide +kernel
theorem dX4_readItem_8 : decode cX4_readItem 8 = .ok (.bipush 121, 2) := by decide +kernel
theorem dX4_readItem_10 : decode cX4_readItem 10 = .ok (.if_icmp .ne 9, 3) := by decide +kernel
theorem dX4_readItem_13 : decode cX4_readItem 13 = .ok (.aload_n 0, 1) := by decide +kernel
theorem dX4_readItem_14 : decode cX4_readItem 14 = .ok (.iload_n 1, 1) := by decide +kernel
theorem dX4_readItem_15 : decode cX4_readItem 15 = .ok (.invokevirtual 33, 3) := by decide +kernel
theorem dX4_readItem_18 : decode cX4_readItem 18 = .ok (.ireturn, 1) := by decide +kernel
theorem dX4_readItem_19 : decode cX4_readItem 19 = .ok (.aload_n 0, 1) := by decide +kernel
theorem dX4_readItem_20 : decode cX4_readItem 20 = .ok (.getfield 18, 3) := by decide +kernel
theorem dX4_readItem_23 : decode cX4_readItem 23 = .ok (.invokevirtual 36, 3) := by decide +kernel
theorem dX4_readItem_26 : decode cX4_readItem 26 = .ok (.ifCond .ne 5, 3) := by decide +kernel
theorem dX4_readItem_29 : decode cX4_readItem 29 = .ok (.iconst 0, 1) := by decide +kernel
theorem dX4_readItem_30 : decode cX4_readItem 30 = .ok (.ireturn, 1) := by decide +kernel
theorem dX4_readItem_31 : decode cX4_readItem 31 = .ok (.iload_n 2, 1) := by decide +kernel
theorem dX4_readItem_32 : decode cX4_readItem 32 = .ok (.bipush 115, 2) := by decide +kernel
theorem dX4_readItem_34 : decode cX4_readItem 34 = .ok (.if_icmp .ne 9, 3) := by decide +kernel
theorem dX4_readItem_37 : decode cX4_readItem 37 = .ok (.aload_n 0, 1) := by decide +kernel
theorem dX4_readItem_38 : decode cX4_readItem 38 = .ok (.iload_n 1, 1) := by decide +kernel
theorem dX4_readItem_39 : decode cX4_readItem 39 = .ok (.invokevirtual 40, 3) := by decide +kernel
theorem dX4_readItem_42 : decode cX4_readItem 42 = .ok (.ireturn, 1) := by decide +kernel
theorem dX4_readItem_43 : decode cX4_readItem 43 = .ok (.iload_n 2, 1) := by decide +kernel
theorem dX4_readItem_44 : decode cX4_readItem 44 = .ok (.bipush 112, 2) := by decide +kernel
theorem dX4_readItem_46 : decode cX4_readItem 46 = .ok (.if_icmp .ne 9, 3) := by decide +kernel
theorem dX4_readItem_49 : decode cX4_readItem 49 = .ok (.aload_n 0, 1) := by decide +kernel
theorem dX4_readItem_50 : decode cX4_readItem 50 = .ok (.iload_n 1, 1) := by decide +kernel
theorem dX4_readItem_51 : decode cX4_readItem 51 = .ok (.invokevirtual 43, 3) := by decide +kernel
theorem dX4_readItem_54 : decode cX4_readItem 54 = .ok (.ireturn, 1) := by decide +kernel
theorem dX4_readItem_55 : decode cX4_readItem 55 = .ok (.iload_n 2, 1) := by decide +kernel
theorem dX4_readItem_56 : decode cX4_readItem 56 = .ok (.bipush 108, 2) := by decide +kernel
theorem dX4_readItem_58 : decode cX4_readItem 58 = .ok (.if_icmp .ne 11, 3) := by decide +kernel
theorem dX4_readItem_61 : decode cX4_readItem 61 = .ok (.aload_n 0, 1) := by decide +kernel
theorem dX4_readItem_62 : decode cX4_readItem 62 = .ok (.iload_n 1, 1) := by decide +kernel
theorem dX4_readItem_63 : decode cX4_readItem 63 = .ok (.invokevirtual 46, 3) := by decide +kernel
theorem dX4_readItem_66 : decode cX4_readItem 66 = .ok (.goto 4, 3) := by decide +kernel
theorem dX4_readItem_69 : decode cX4_readItem 69 = .ok (.iconst 0, 1) := by decide +kernel
theorem dX4_readItem_70 : decode cX4_readItem 70 = .ok (.ireturn, 1) := by decide +kernel
theorem dX4_readYears_0 : decode cX4_readYears 0 = .ok (.aload_n 0, 1) := by decide +kernel
theorem dX4_readYears_1 : decode cX4_readYears 1 = .ok (.iload_n 1, 1) := by decide +kernel
theorem dX4_readYears_2 : decode cX4_readYears 2 = .ok (.iconst 1, 1) := by decide +kernel
theorem dX4_readYears_3 : decode cX4_readYears 3 = .ok (.iadd, 1) := by decide +kernel
theorem dX4_readYears_4 : decode cX4_readYears 4 = .ok (.invokevirtual 49, 3) := by decide +kernel
theorem dX4_readYears_7 : decode cX4_readYears 7 = .ok (.istore_n 2, 1) := by decide +kernel
theorem dX4_readYears_8 : decode cX4_readYears 8 = .ok (.iload_n 1, 1) := by decide +kernel
theorem dX4_readYears_9 : decode cX4_readYears 9 = .ok (.ifCond .ne 24, 3) := by decide +kernel
theorem dX4_readYears_12 : decode cX4_readYears 12 = .ok (.iload_n 2, 1) := by decide +kernel
theorem dX4_readYears_13 : decode cX4_readYears 13 = .ok (.iconst 4, 1) := by decide +kernel
theorem dX4_readYears_14 : decode cX4_readYears 14 = .ok (.if_icmp .lt 19, 3) := by decide +kernel
theorem dX4_readYears_17 : decode cX4_readYears 17 = .ok (.iload_n 2, 1) := by decide +kernel
theorem dX4_readYears_18 : decode cX4_readYears 18 = .ok (.bipush 16, 2) := by decide +kernel
theorem dX4_readYears_20 : decode cX4_readYears 20 = .ok (.if_icmp .gt 13, 3) := by decide +kernel
theorem dX4_readYears_23 : decode cX4_readYears 23 = .ok (.aload_n 0, 1) := by decide +kernel
theorem dX4_readYears_24 : decode cX4_readYears 24 = .ok (.iload_n 1, 1) := by decide +kernel
theorem dX4_readYears_25 : decode cX4_readYears 25 = .ok (.iconst 2, 1) := by decide +kernel
theorem dX4_readYears_26 : decode cX4_readYears 26 = .ok (.iadd, 1) := by decide +kernel
theorem dX4_readYears_27 : decode cX4_readYears 27 = .ok (.invokevirtual 52, 3) := by decide +kernel
theorem dX4_readYears_30 : decode cX4_readYears 30 = .ok (.ifCond .ne 5, 3) := by decide +kernel
theorem dX4_readYears_33 : decode cX4_readYears 33 = .ok (.iconst 0, 1) := by decide +kernel
theorem dX4_readYears_34 : decode cX4_readYears 34 = .ok (.ireturn, 1) := by decide +kernel
theorem dX4_readYears_35 : decode cX4_readYears 35 = .ok (.aload_n 0, 1) := by decide +kernel
theorem dX4_readYears_36 : decode cX4_readYears 36 = .ok (.getfield 18, 3) := by decide +kernel
theorem dX4_readYears_39 : decode cX4_readYears 39 = .ok (.iload_n 2, 1) := by decide +kernel
theorem dX4_readYears_40 : decode cX4_readYears 40 = .ok (.invokevirtual 56, 3) := by decide +kernel
theorem dX4_readYears_43 : decode cX4_readYears 43 = .ok (.iconst 3, 1) := by decide +kernel
theorem dX4_readYears_44 : decode cX4_readYears 44 = .ok (.ireturn, 1) := by decide +kernel
theorem dX4_readStation_0 : decode cX4_readStation 0 = .ok (.iload_n 1, 1) := by decide +kernel
theorem dX4_readStation_1 : decode cX4_readStation 1 = .ok (.iconst 3, 1) := by decide +kernel
theorem dX4_readStation_2 : decode cX4_readStation 2 = .ok (.iadd, 1) := by decide +kernel
theorem dX4_readStation_3 : decode cX4_readStation 3 = .ok (.istore_n 2, 1) := by decide +kernel
theorem dX4_readStation_4 : decode cX4_readStation 4 = .ok (.iload_n 2, 1) := by decide +kernel
theorem dX4_readStation_5 : decode cX4_readStation 5 = .ok (.aload_n 0, 1) := by decide +kernel
theorem dX4_readStation_6 : decode cX4_readStation 6 = .ok (.getfield 18, 3) := by decide +kernel
theorem dX4_readStation_9 : decode cX4_readStation 9 = .ok (.invokevirtual 36, 3) := by decide +kernel
theorem dX4_readStation_12 : decode cX4_readStation 12 = .ok (.iadd, 1) := by decide +kernel
theorem dX4_readStation_13 : decode cX4_readStation 13 = .ok (.istore_n 3, 1) := by decide +kernel
theorem dX4_readStation_14 : decode cX4_readStation 14 = .ok (.aload_n 0, 1) := by decide +kernel
theorem dX4_readStation_15 : decode cX4_readStation 15 = .ok (.iload_n 1, 1) := by decide +kernel
theorem dX4_readStation_16 : decode cX4_readStation 16 = .ok (.iconst 1, 1) := by decide +kernel
theorem dX4_readStation_17 : decode cX4_readStation 17 = .ok (.iadd, 1) := by decide +kernel
theorem dX4_readStation_18 : decode cX4_readStation 18 = .ok (.invokevirtual 49, 3) := by decide +kernel
theorem dX4_readStation_21 : decode cX4_readStation 21 = .ok (.istore 4, 2) := by decide +kernel
theorem dX4_readStation_23 : decode cX4_readStation 23 = .ok (.aload_n 0, 1) := by decide +kernel
theorem dX4_readStation_24 : decode cX4_readStation 24 = .ok (.iload_n 1, 1) := by decide +kernel
theorem dX4_readStation_25 : decode cX4_readStation 25 = .ok (.iconst 2, 1) := by decide +kernel
theorem dX4_readStation_26 : decode cX4_readStation 26 = .ok (.iadd, 1) := by decide +kernel
theorem dX4_readStation_27 : decode cX4_readStation 27 = .ok (.invokevirtual 49, 3) := by decide +kernel
theorem dX4_readStation_30 : decode cX4_readStation 30 = .ok (.istore 5, 2) := by decide +kernel
theorem dX4_readStation_32 : decode cX4_readStation 32 = .ok (.iload 4, 2) := by decide +kernel
theorem dX4_readStation_34 : decode cX4_readStation 34 = .ok (.ifCond .lt 16, 3) := by decide +kernel
theorem dX4_readStation_37 : decode cX4_readStation 37 = .ok (.iload 5, 2) := by decide +kernel
theorem dX4_readStation_39 : decode cX4_readStation 39 = .ok (.ifCond .lt 11, 3) := by decide +kernel
theorem dX4_readStation_42 : decode cX4_readStation 42 = .ok (.aload_n 0, 1) := by decide +kernel
theorem dX4_readStation_43 : decode cX4_readStation 43 = .ok (.iload_n 3, 1) := by decide +kernel
theorem dX4_readStation_44 : decode cX4_readStation 44 = .ok (.invokevirtual 52, 3) := by decide +kernel
theorem dX4_readStation_47 : decode cX4_readStation 47 = .ok (.ifCond .ne 5, 3) := by decide +kernel
theorem dX4_readStation_50 : decode cX4_readStation 50 = .ok (.iconst 0, 1) := by decide +kernel
theorem dX4_readStation_51 : decode cX4_readStation 51 = .ok (.ireturn, 1) := by decide +kernel
theorem dX4_readStation_52 : decode cX4_readStation 52 = .ok (.iload_n 2, 1) := by decide +kernel
theorem dX4_readStation_53 : decode cX4_readStation 53 = .ok (.istore 6, 2) := by decide +kernel
theorem dX4_readStation_55 : decode cX4_readStation 55 = .ok (.iload 6, 2) := by decide +kernel
theorem dX4_readStation_57 : decode cX4_readStation 57 = .ok (.iload_n 3, 1) := by decide +kernel
theorem dX4_readStation_58 : decode cX4_readStation 58 = .ok (.if_icmp .ge 32, 3) := by decide +kernel
theorem dX4_readStation_61 : decode cX4_readStation 61 = .ok (.aload_n 0, 1) := by decide +kernel
theorem dX4_readStation_62 : decode cX4_readStation 62 = .ok (.iload 6, 2) := by decide +kernel
theorem dX4_readStation_64 : decode cX4_readStation 64 = .ok (.invokevirtual 49, 3) := by decide +kernel
theorem dX4_readStation_67 : decode cX4_readStation 67 = .ok (.ifCond .ge 17, 3) := by decide +kernel
theorem dX4_readStation_70 : decode cX4_readStation 70 = .ok (.aload_n 0, 1) := by decide +kernel
theorem dX4_readStation_71 : decode cX4_readStation 71 = .ok (.getfield 9, 3) := by decide +kernel
theorem dX4_readStation_74 : decode cX4_readStation 74 = .ok (.iload 6, 2) := by decide +kernel
theorem dX4_readStation_76 : decode cX4_readStation 76 = .ok (.caload, 1) := by decide +kernel
theorem dX4_readStation_77 : decode cX4_readStation 77 = .ok (.bipush 46, 2) := by decide +kernel
theorem dX4_readStation_79 : decode cX4_readStation 79 = .ok (.if_icmp .eq 5, 3) := by decide +kernel
theorem dX4_readStation_82 : decode cX4_readStation 82 = .ok (.iconst 0, 1) := by decide +kernel
theorem dX4_readStation_83 : decode cX4_readStation 83 = .ok (.ireturn, 1) := by decide +kernel
theorem dX4_readStation_84 : decode cX4_readStation 84 = .ok (.iinc 6 1, 3) := by decide +kernel
theorem dX4_readStation_87 : decode cX4_readStation 87 = .ok (.goto (-32), 3) := by decide +kernel
theorem dX4_readStation_90 : decode cX4_readStation 90 = .ok (.aload_n 0, 1) := by decide +kernel
theorem dX4_readStation_91 : decode cX4_readStation 91 = .ok (.getfield 18, 3) := by decide +kernel
theorem dX4_readStation_94 : decode cX4_readStation 94 = .ok (.iload 4, 2) := by decide +kernel
theorem dX4_readStation_96 : decode cX4_readStation 96 = .ok (.iload 5, 2) := by decide +kernel
theorem dX4_readStation_98 : decode cX4_readStation 98 = .ok (.invokevirtual 60, 3) := by decide +kernel
theorem dX4_readStation_101 : decode cX4_readStation 101 = .ok (.ifCond .ne 5, 3) := by decide +kernel
theorem dX4_readStation_104 : decode cX4_readStation 104 = .ok (.iconst 0, 1) := by decide +kernel
theorem dX4_readStation_105 : decode cX4_readStation 105 = .ok (.ireturn, 1) := by decide +kernel
theorem dX4_readStation_106 : decode cX4_readStation 106 = .ok (.iload_n 2, 1) := by decide +kernel
theorem dX4_readStation_107 : decode cX4_readStation 107 = .ok (.istore 6, 2) := by decide +kernel
theorem dX4_readStation_109 : decode cX4_readStation 109 = .ok (.iload 6, 2) := by decide +kernel
theorem dX4_readStation_111 : decode cX4_readStation 111 = .ok (.iload_n 3, 1) := by decide +kernel
theorem dX4_readStation_112 : decode cX4_readStation 112 = .ok (.if_icmp .ge 52, 3) := by decide +kernel
theorem dX4_readStation_115 : decode cX4_readStation 115 = .ok (.aload_n 0, 1) := by decide +kernel
theorem dX4_readStation_116 : decode cX4_readStation 116 = .ok (.getfield 18, 3) := by decide +kernel
theorem dX4_readStation_119 : decode cX4_readStation 119 = .ok (.aload_n 0, 1) := by decide +kernel
theorem dX4_readStation_120 : decode cX4_readStation 120 = .ok (.getfield 18, 3) := by decide +kernel
theorem dX4_readStation_123 : decode cX4_readStation 123 = .ok (.invokevirtual 64, 3) := by decide +kernel
theorem dX4_readStation_126 : decode cX4_readStation 126 = .ok (.iconst 1, 1) := by decide +kernel
theorem dX4_readStation_127 : decode cX4_readStation 127 = .ok (.isub, 1) := by decide +kernel
theorem dX4_readStation_128 : decode cX4_readStation 128 = .ok (.iload 6, 2) := by decide +kernel
theorem dX4_readStation_130 : decode cX4_readStation 130 = .ok (.iload_n 2, 1) := by decide +kernel
theorem dX4_readStation_131 : decode cX4_readStation 131 = .ok (.isub, 1) := by decide +kernel
theorem dX4_readStation_132 : decode cX4_readStation 132 = .ok (.aload_n 0, 1) := by decide +kernel
theorem dX4_readStation_133 : decode cX4_readStation 133 = .ok (.getfield 9, 3) := by decide +kernel
theorem dX4_readStation_136 : decode cX4_readStation 136 = .ok (.iload 6, 2) := by decide +kernel
theorem dX4_readStation_138 : decode cX4_readStation 138 = .ok (.caload, 1) := by decide +kernel
theorem dX4_readStation_139 : decode cX4_readStation 139 = .ok (.bipush 46, 2) := by decide +kernel
theorem dX4_readStation_141 : decode cX4_readStation 141 = .ok (.if_icmp .ne 8, 3) := by decide +kernel
theorem dX4_readStation_144 : decode cX4_readStation 144 = .ok (.ldc 67, 2) := by decide +kernel
theorem dX4_readStation_146 : decode cX4_readStation 146 = .ok (.goto 9, 3) := by decide +kernel
theorem dX4_readStation_149 : decode cX4_readStation 149 = .ok (.aload_n 0, 1) := by decide +kernel
theorem dX4_readStation_150 : decode cX4_readStation 150 = .ok (.iload 6, 2) := by decide +kernel
theorem dX4_readStation_152 : decode cX4_readStation 152 = .ok (.invokevirtual 49, 3) := by decide +kernel
theorem dX4_readStation_155 : decode cX4_readStation 155 = .ok (.invokevirtual 68, 3) := by decide +kernel
theorem dX4_readStation_158 : decode cX4_readStation 158 = .ok (.iinc 6 1, 3) := by decide +kernel
theorem dX4_readStation_161 : decode cX4_readStation 161 = .ok (.goto (-52), 3) := by decide +kernel
theorem dX4_readStation_164 : decode cX4_readStation 164 = .ok (.iload_n 3, 1) := by decide +kernel
theorem dX4_readStation_165 : decode cX4_readStation 165 = .ok (.iconst 1, 1) := by decide +kernel
theorem dX4_readStation_166 : decode cX4_readStation 166 = .ok (.iadd, 1) := by decide +kernel
theorem dX4_readStation_167 : decode cX4_readStation 167 = .ok (.iload_n 1, 1) := by decide +kernel
theorem dX4_readStation_168 : decode cX4_readStation 168 = .ok (.isub, 1) := by decide +kernel
theorem dX4_readStation_169 : decode cX4_readStation 169 = .ok (.ireturn, 1) := by decide +kernel
theorem dX4_readPenalty_0 : decode cX4_readPenalty 0 = .ok (.aload_n 0, 1) := by decide +kernel
theorem dX4_readPenalty_1 : decode cX4_readPenalty 1 = .ok (.iload_n 1, 1) := by decide +kernel
theorem dX4_readPenalty_2 : decode cX4_readPenalty 2 = .ok (.iconst 1, 1) := by decide +kernel
theorem dX4_readPenalty_3 : decode cX4_readPenalty 3 = .ok (.iadd, 1) := by decide +kernel
theorem dX4_readPenalty_4 : decode cX4_readPenalty 4 = .ok (.invokevirtual 49, 3) := by decide +kernel
theorem dX4_readPenalty_7 : decode cX4_readPenalty 7 = .ok (.istore_n 2, 1) := by decide +kernel
theorem dX4_readPenalty_8 : decode cX4_readPenalty 8 = .ok (.aload_n 0, 1) := by decide +kernel
theorem dX4_readPenalty_9 : decode cX4_readPenalty 9 = .ok (.iload_n 1, 1) := by decide +kernel
theorem dX4_readPenalty_10 : decode cX4_readPenalty 10 = .ok (.iconst 2, 1) := by decide +kernel
theorem dX4_readPenalty_11 : decode cX4_readPenalty 11 = .ok (.iadd, 1) := by decide +kernel
theorem dX4_readPenalty_12 : decode cX4_readPenalty 12 = .ok (.invokevirtual 49, 3) := by decide +kernel
theorem dX4_readPenalty_15 : decode cX4_readPenalty 15 = .ok (.istore_n 3, 1) := by decide +kernel
theorem dX4_readPenalty_16 : decode cX4_readPenalty 16 = .ok (.iload_n 2, 1) := by decide +kernel
theorem dX4_readPenalty_17 : decode cX4_readPenalty 17 = .ok (.ifCond .lt 29, 3) := by decide +kernel
theorem dX4_readPenalty_20 : decode cX4_readPenalty 20 = .ok (.iload_n 2, 1) := by decide +kernel
theorem dX4_readPenalty_21 : decode cX4_readPenalty 21 = .ok (.bipush 9, 2) := by decide +kernel
theorem dX4_readPenalty_23 : decode cX4_readPenalty 23 = .ok (.if_icmp .gt 23, 3) := by decide +kernel
theorem dX4_readPenalty_26 : decode cX4_readPenalty 26 = .ok (.iload_n 3, 1) := by decide +kernel
theorem dX4_readPenalty_27 : decode cX4_readPenalty 27 = .ok (.ifCond .lt 19, 3) := by decide +kernel
theorem dX4_readPenalty_30 : decode cX4_readPenalty 30 = .ok (.iload_n 3, 1) := by decide +kernel
theorem dX4_readPenalty_31 : decode cX4_readPenalty 31 = .ok (.bipush 9, 2) := by decide +kernel
theorem dX4_readPenalty_33 : decode cX4_readPenalty 33 = .ok (.if_icmp .gt 13, 3) := by decide +kernel
theorem dX4_readPenalty_36 : decode cX4_readPenalty 36 = .ok (.aload_n 0, 1) := by decide +kernel
theorem dX4_readPenalty_37 : decode cX4_readPenalty 37 = .ok (.iload_n 1, 1) := by decide +kernel
theorem dX4_readPenalty_38 : decode cX4_readPenalty 38 = .ok (.iconst 3, 1) := by decide +kernel
theorem dX4_readPenalty_39 : decode cX4_readPenalty 39 = .ok (.iadd, 1) := by decide +kernel
theorem dX4_readPenalty_40 : decode cX4_readPenalty 40 = .ok (.invokevirtual 52, 3) := by decide +kernel
theorem dX4_readPenalty_43 : decode cX4_readPenalty 43 = .ok (.ifCond .ne 5, 3) := by decide +kernel
theorem dX4_readPenalty_46 : decode cX4_readPenalty 46 = .ok (.iconst 0, 1) := by decide +kernel
theorem dX4_readPenalty_47 : decode cX4_readPenalty 47 = .ok (.ireturn, 1) := by decide +kernel
theorem dX4_readPenalty_48 : decode cX4_readPenalty 48 = .ok (.aload_n 0, 1) := by decide +kernel
theorem dX4_readPenalty_49 : decode cX4_readPenalty 49 = .ok (.getfield 18, 3) := by decide +kernel
theorem dX4_readPenalty_52 : decode cX4_readPenalty 52 = .ok (.bipush 10, 2) := by decide +kernel
theorem dX4_readPenalty_54 : decode cX4_readPenalty 54 = .ok (.iload_n 2, 1) := by decide +kernel
theorem dX4_readPenalty_55 : decode cX4_readPenalty 55 = .ok (.imul, 1) := by decide +kernel
theorem dX4_readPenalty_56 : decode cX4_readPenalty 56 = .ok (.iload_n 3, 1) := by decide +kernel
theorem dX4_readPenalty_57 : decode cX4_readPenalty 57 = .ok (.iadd, 1) := by decide +kernel
theorem dX4_readPenalty_58 : decode cX4_readPenalty 58 = .ok (.invokevirtual 72, 3) := by decide +kernel
theorem dX4_readPenalty_61 : decode cX4_readPenalty 61 = .ok (.iconst 4, 1) := by decide +kernel
theorem dX4_readPenalty_62 : decode cX4_readPenalty 62 = .ok (.ireturn, 1) := by decide +kernel
theorem dX4_readRules_0 : decode cX4_readRules 0 = .ok (.iload_n 1, 1) := by decide +kernel
theorem dX4_readRules_1 : decode cX4_readRules 1 = .ok (.iconst 1, 1) := by decide +kernel
theorem dX4_readRules_2 : decode cX4_readRules 2 = .ok (.iadd, 1) := by decide +kernel
theorem dX4_readRules_3 : decode cX4_readRules 3 = .ok (.iconst 4, 1) := by decide +kernel
theorem dX4_readRules_4 : decode cX4_readRules 4 = .ok (.iadd, 1) := by decide +kernel
theorem dX4_readRules_5 : decode cX4_readRules 5 = .ok (.istore_n 2, 1) := by decide +kernel
theorem dX4_readRules_6 : decode cX4_readRules 6 = .ok (.aload_n 0, 1) := by decide +kernel
theorem dX4_readRules_7 : decode cX4_readRules 7 = .ok (.iload_n 2, 1) := by decide +kernel
theorem dX4_readRules_8 : decode cX4_readRules 8 = .ok (.invokevirtual 52, 3) := by decide +kernel
theorem dX4_readRules_11 : decode cX4_readRules 11 = .ok (.ifCond .ne 5, 3) := by decide +kernel
theorem dX4_readRules_14 : decode cX4_readRules 14 = .ok (.iconst 0, 1) := by decide +kernel
theorem dX4_readRules_15 : decode cX4_readRules 15 = .ok (.ireturn, 1) := by decide +kernel
theorem dX4_readRules_16 : decode cX4_readRules 16 = .ok (.iconst 0, 1) := by decide +kernel
theorem dX4_readRules_17 : decode cX4_readRules 17 = .ok (.istore_n 3, 1) := by decide +kernel
theorem dX4_readRules_18 : decode cX4_readRules 18 = .ok (.iload_n 3, 1) := by decide +kernel
theorem dX4_readRules_19 : decode cX4_readRules 19 = .ok (.iconst 4, 1) := by decide +kernel
theorem dX4_readRules_20 : decode cX4_readRules 20 = .ok (.if_icmp .ge 27, 3) := by decide +kernel
theorem dX4_readRules_23 : decode cX4_readRules 23 = .ok (.iload_n 3, 1) := by decide +kernel
theorem dX4_readRules_24 : decode cX4_readRules 24 = .ok (.aload_n 0, 1) := by decide +kernel
theorem dX4_readRules_25 : decode cX4_readRules 25 = .ok (.iload_n 1, 1) := by decide +kernel
theorem dX4_readRules_26 : decode cX4_readRules 26 = .ok (.iconst 1, 1) := by decide +kernel
theorem dX4_readRules_27 : decode cX4_readRules 27 = .ok (.iadd, 1) := by decide +kernel
theorem dX4_readRules_28 : decode cX4_readRules 28 = .ok (.iload_n 3, 1) := by decide +kernel
theorem dX4_readRules_29 : decode cX4_readRules 29 = .ok (.iadd, 1) := by decide +kernel
theorem dX4_readRules_30 : decode cX4_readRules 30 = .ok (.invokevirtual 49, 3) := by decide +kernel
theorem dX4_readRules_33 : decode cX4_readRules 33 = .ok (.invokestatic 75, 3) := by decide +kernel
theorem dX4_readRules_36 : decode cX4_readRules 36 = .ok (.ifCond .ne 5, 3) := by decide +kernel
theorem dX4_readRules_39 : decode cX4_readRules 39 = .ok (.iconst 0, 1) := by decide +kernel
theorem dX4_readRules_40 : decode cX4_readRules 40 = .ok (.ireturn, 1) := by decide +kernel
theorem dX4_readRules_41 : decode cX4_readRules 41 = .ok (.iinc 3 1, 3) := by decide +kernel
theorem dX4_readRules_44 : decode cX4_readRules 44 = .ok (.goto (-26), 3) := by decide +kernel
theorem dX4_readRules_47 : decode cX4_readRules 47 = .ok (.iconst 0, 1) := by decide +kernel
theorem dX4_readRules_48 : decode cX4_readRules 48 = .ok (.istore_n 3, 1) := by decide +kernel
theorem dX4_readRules_49 : decode cX4_readRules 49 = .ok (.iload_n 3, 1) := by decide +kernel
theorem dX4_readRules_50 : decode cX4_readRules 50 = .ok (.iconst 4, 1) := by decide +kernel
theorem dX4_readRules_51 : decode cX4_readRules 51 = .ok (.if_icmp .ge 26, 3) := by decide +kernel
theorem dX4_readRules_54 : decode cX4_readRules 54 = .ok (.aload_n 0, 1) := by decide +kernel
theorem dX4_readRules_55 : decode cX4_readRules 55 = .ok (.getfield 18, 3) := by decide +kernel
theorem dX4_readRules_58 : decode cX4_readRules 58 = .ok (.iload_n 3, 1) := by decide +kernel
theorem dX4_readRules_59 : decode cX4_readRules 59 = .ok (.aload_n 0, 1) := by decide +kernel
theorem dX4_readRules_60 : decode cX4_readRules 60 = .ok (.iload_n 1, 1) := by decide +kernel
theorem dX4_readRules_61 : decode cX4_readRules 61 = .ok (.iconst 1, 1) := by decide +kernel
theorem dX4_readRules_62 : decode cX4_readRules 62 = .ok (.iadd, 1) := by decide +kernel
theorem dX4_readRules_63 : decode cX4_readRules 63 = .ok (.iload_n 3, 1) := by decide +kernel
theorem dX4_readRules_64 : decode cX4_readRules 64 = .ok (.iadd, 1) := by decide +kernel
theorem dX4_readRules_65 : decode cX4_readRules 65 = .ok (.invokevirtual 49, 3) := by decide +kernel
theorem dX4_readRules_68 : decode cX4_readRules 68 = .ok (.invokevirtual 78, 3) := by decide +kernel
theorem dX4_readRules_71 : decode cX4_readRules 71 = .ok (.iinc 3 1, 3) := by decide +kernel
theorem dX4_readRules_74 : decode cX4_readRules 74 = .ok (.goto (-25), 3) := by decide +kernel
theorem dX4_readRules_77 : decode cX4_readRules 77 = .ok (.iload_n 2, 1) := by decide +kernel
theorem dX4_readRules_78 : decode cX4_readRules 78 = .ok (.iconst 1, 1) := by decide +kernel
theorem dX4_readRules_79 : decode cX4_readRules 79 = .ok (.iadd, 1) := by decide +kernel
theorem dX4_readRules_80 : decode cX4_readRules 80 = .ok (.iload_n 1, 1) := by decide +kernel
theorem dX4_readRules_81 : decode cX4_readRules 81 = .ok (.isub, 1) := by decide +kernel
theorem dX4_readRules_82 : decode cX4_readRules 82 = .ok (.ireturn, 1) := by decide +kernel
theorem dX4_endsAt_0 : decode cX4_endsAt 0 = .ok (.iload_n 1, 1) := by decide +kernel
theorem dX4_endsAt_1 : decode cX4_endsAt 1 = .ok (.aload_n 0, 1) := by decide +kernel
theorem dX4_endsAt_2 : decode cX4_endsAt 2 = .ok (.getfield 22, 3) := by decide +kernel
theorem dX4_endsAt_5 : decode cX4_endsAt 5 = .ok (.if_icmp .ge 18, 3) := by decide +kernel
theorem dX4_endsAt_8 : decode cX4_endsAt 8 = .ok (.aload_n 0, 1) := by decide +kernel
theorem dX4_endsAt_9 : decode cX4_endsAt 9 = .ok (.getfield 9, 3) := by decide +kernel
theorem dX4_endsAt_12 : decode cX4_endsAt 12 = .ok (.iload_n 1, 1) := by decide +kernel
theorem dX4_endsAt_13 : decode cX4_endsAt 13 = .ok (.caload, 1) := by decide +kernel
theorem dX4_endsAt_14 : decode cX4_endsAt 14 = .ok (.bipush 59, 2) := by decide +kernel
theorem dX4_endsAt_16 : decode cX4_endsAt 16 = .ok (.if_icmp .ne 7, 3) := by decide +kernel
theorem dX4_endsAt_19 : decode cX4_endsAt 19 = .ok (.iconst 1, 1) := by decide +kernel
theorem dX4_endsAt_20 : decode cX4_endsAt 20 = .ok (.goto 4, 3) := by decide +kernel
theorem dX4_endsAt_23 : decode cX4_endsAt 23 = .ok (.iconst 0, 1) := by decide +kernel
theorem dX4_endsAt_24 : decode cX4_endsAt 24 = .ok (.ireturn, 1) := by decide +kernel
theorem dX4_signAt_0 : decode cX4_signAt 0 = .ok (.iload_n 1, 1) := by decide +kernel
theorem dX4_signAt_1 : decode cX4_signAt 1 = .ok (.aload_n 0, 1) := by decide +kernel
theorem dX4_signAt_2 : decode cX4_signAt 2 = .ok (.getfield 22, 3) := by decide +kernel
theorem dX4_signAt_5 : decode cX4_signAt 5 = .ok (.if_icmp .lt 5, 3) := by decide +kernel
theorem dX4_signAt_8 : decode cX4_signAt 8 = .ok (.iconst (-1), 1) := by decide +kernel
theorem dX4_signAt_9 : decode cX4_signAt 9 = .ok (.ireturn, 1) := by decide +kernel
theorem dX4_signAt_10 : decode cX4_signAt 10 = .ok (.aload_n 0, 1) := by decide +kernel
theorem dX4_signAt_11 : decode cX4_signAt 11 = .ok (.getfield 9, 3) := by decide +kernel
theorem dX4_signAt_14 : decode cX4_signAt 14 = .ok (.iload_n 1, 1) := by decide +kernel
theorem dX4_signAt_15 : decode cX4_signAt 15 = .ok (.caload, 1) := by decide +kernel
theorem dX4_signAt_16 : decode cX4_signAt 16 = .ok (.istore_n 2, 1) := by decide +kernel
theorem dX4_signAt_17 : decode cX4_signAt 17 = .ok (.iload_n 2, 1) := by decide +kernel
theorem dX4_signAt_18 : decode cX4_signAt 18 = .ok (.bipush 48, 2) := by decide +kernel
theorem dX4_signAt_20 : decode cX4_signAt 20 = .ok (.if_icmp .lt 14, 3) := by decide +kernel
theorem dX4_signAt_23 : decode cX4_signAt 23 = .ok (.iload_n 2, 1) := by decide +kernel
theorem dX4_signAt_24 : decode cX4_signAt 24 = .ok (.bipush 57, 2) := by decide +kernel
theorem dX4_signAt_26 : decode cX4_signAt 26 = .ok (.if_icmp .gt 8, 3) := by decide +kernel
theorem dX4_signAt_29 : decode cX4_signAt 29 = .ok (.iload_n 2, 1) := by decide +kernel
theorem dX4_signAt_30 : decode cX4_signAt 30 = .ok (.bipush 48, 2) := by decide +kernel
theorem dX4_signAt_32 : decode cX4_signAt 32 = .ok (.isub, 1) := by decide +kernel
theorem dX4_signAt_33 : decode cX4_signAt 33 = .ok (.ireturn, 1) := by decide +kernel
theorem dX4_signAt_34 : decode cX4_signAt 34 = .ok (.iload_n 2, 1) := by decide +kernel
theorem dX4_signAt_35 : decode cX4_signAt 35 = .ok (.bipush 97, 2) := by decide +kernel
theorem dX4_signAt_37 : decode cX4_signAt 37 = .ok (.if_icmp .lt 19, 3) := by decide +kernel
theorem dX4_signAt_40 : decode cX4_signAt 40 = .ok (.iload_n 2, 1) := by decide +kernel
theorem dX4_signAt_41 : decode cX4_signAt 41 = .ok (.bipush 115, 2) := by decide +kernel
theorem dX4_signAt_43 : decode cX4_signAt 43 = .ok (.if_icmp .gt 13, 3) := by decide +kernel
theorem dX4_signAt_46 : decode cX4_signAt 46 = .ok (.iload_n 2, 1) := by decide +kernel
theorem dX4_signAt_47 : decode cX4_signAt 47 = .ok (.bipush 97, 2) := by decide +kernel
theorem dX4_signAt_49 : decode cX4_signAt 49 = .ok (.isub, 1) := by decide +kernel
theorem dX4_signAt_50 : decode cX4_signAt 50 = .ok (.bipush 10, 2) := by decide +kernel
theorem dX4_signAt_52 : decode cX4_signAt 52 = .ok (.iadd, 1) := by decide +kernel
theorem dX4_signAt_53 : decode cX4_signAt 53 = .ok (.goto 4, 3) := by decide +kernel
theorem dX4_signAt_56 : decode cX4_signAt 56 = .ok (.iconst (-1), 1) := by decide +kernel
theorem dX4_signAt_57 : decode cX4_signAt 57 = .ok (.ireturn, 1) := by decide +kernel
theorem dX5_init_0 : decode cX5_init 0 = .ok (.aload_n 0, 1) := by decide +kernel
theorem dX5_init_1 : decode cX5_init 1 = .ok (.invokespecial 3, 3) := by decide +kernel
theorem dX5_init_4 : decode cX5_init 4 = .ok (.aload_n 0, 1) := by decide +kernel
theorem dX5_init_5 : decode cX5_init 5 = .ok (.new 9, 3) := by decide +kernel
theorem dX5_init_8 : decode cX5_init 8 = .ok (.dup, 1) := by decide +kernel
theorem dX5_init_9 : decode cX5_init 9 = .ok (.invokespecial 11, 3) := by decide +kernel
theorem dX5_init_12 : decode cX5_init 12 = .ok (.putfield 12, 3) := by decide +kernel
theorem dX5_init_15 : decode cX5_init 15 = .ok (.aload_n 0, 1) := by decide +kernel
theorem dX5_init_16 : decode cX5_init 16 = .ok (.bipush 17, 2) := by decide +kernel
theorem dX5_init_18 : decode cX5_init 18 = .ok (.newarray .long, 2) := by decide +kernel
theorem dX5_init_20 : decode cX5_init 20 = .ok (.putfield 18, 3) := by decide +kernel
theorem dX5_init_23 : decode cX5_init 23 = .ok (.aload_n 0, 1) := by decide +kernel
theorem dX5_init_24 : decode cX5_init 24 = .ok (.bipush 17, 2) := by decide +kernel
theorem dX5_init_26 : decode cX5_init 26 = .ok (.newarray .int, 2) := by decide +kernel
theorem dX5_init_28 : decode cX5_init 28 = .ok (.putfield 22, 3) := by decide +kernel
theorem dX5_init_31 : decode cX5_init 31 = .ok (.aload_n 0, 1) := by decide +kernel
theorem dX5_init_32 : decode cX5_init 32 = .ok (.bipush 17, 2) := by decide +kernel
theorem dX5_init_34 : decode cX5_init 34 = .ok (.newarray .int, 2) := by decide +kernel
theorem dX5_init_36 : decode cX5_init 36 = .ok (.putfield 26, 3) := by decide +kernel
theorem dX5_init_39 : decode cX5_init 39 = .ok (.aload_n 0, 1) := by decide +kernel
theorem dX5_init_40 : decode cX5_init 40 = .ok (.bipush 17, 2) := by decide +kernel
theorem dX5_init_42 : decode cX5_init 42 = .ok (.newarray .long, 2) := by decide +kernel
theorem dX5_init_44 : decode cX5_init 44 = .ok (.putfield 29, 3) := by decide +kernel
theorem dX5_init_47 : decode cX5_init 47 = .ok (.aload_n 0, 1) := by decide +kernel
theorem dX5_init_48 : decode cX5_init 48 = .ok (.bipush 18, 2) := by decide +kernel
theorem dX5_init_50 : decode cX5_init 50 = .ok (.newarray .int, 2) := by decide +kernel
theorem dX5_init_52 : decode cX5_init 52 = .ok (.putfield 32, 3) := by decide +kernel
theorem dX5_init_55 : decode cX5_init 55 = .ok (.return_, 1) := by decide +kernel
theorem dX5_compare_0 : decode cX5_compare 0 = .ok (.aload_n 0, 1) := by decide +kernel
theorem dX5_compare_1 : decode cX5_compare 1 = .ok (.getfield 12, 3) := by decide +kernel
theorem dX5_compare_4 : decode cX5_compare 4 = .ok (.aload_n 1, 1) := by decide +kernel
theorem dX5_compare_5 : decode cX5_compare 5 = .ok (.iload_n 2, 1) := by decide +kernel
theorem dX5_compare_6 : decode cX5_compare 6 = .ok (.iload_n 3, 1) := by decide +kernel
theorem dX5_compare_7 : decode cX5_compare 7 = .ok (.invokevirtual 35, 3) := by decide +kernel
theorem dX5_compare_10 : decode cX5_compare 10 = .ok (.return_, 1) := by decide +kernel
theorem dX5_fit_0 : decode cX5_fit 0 = .ok (.aload_n 0, 1) := by decide +kernel
theorem dX5_fit_1 : decode cX5_fit 1 = .ok (.getfield 12, 3) := by decide +kernel
theorem dX5_fit_4 : decode cX5_fit 4 = .ok (.invokevirtual 39, 3) := by decide +kernel
theorem dX5_fit_7 : decode cX5_fit 7 = .ok (.istore_n 3, 1) := by decide +kernel
theorem dX5_fit_8 : decode cX5_fit 8 = .ok (.ldc2_w 43, 3) := by decide +kernel
theorem dX5_fit_11 : decode cX5_fit 11 = .ok (.iload_n 2, 1) := by decide +kernel
theorem dX5_fit_12 : decode cX5_fit 12 = .ok (.i2l, 1) := by decide +kernel
theorem dX5_fit_13 : decode cX5_fit 13 = .ok (.lmul, 1) := by decide +kernel
theorem dX5_fit_14 : decode cX5_fit 14 = .ok (.lstore 4, 2) := by decide +kernel
theorem dX5_fit_16 : decode cX5_fit 16 = .ok (.aload_n 0, 1) := by decide +kernel
theorem dX5_fit_17 : decode cX5_fit 17 = .ok (.getfield 18, 3) := by decide +kernel
theorem dX5_fit_20 : decode cX5_fit 20 = .ok (.iconst 0, 1) := by decide +kernel
theorem dX5_fit_21 : decode cX5_fit 21 = .ok (.lconst 0, 1) := by decide +kernel
theorem dX5_fit_22 : decode cX5_fit 22 = .ok (.lastore, 1) := by decide +kernel
theorem dX5_fit_23 : decode cX5_fit 23 = .ok (.aload_n 0, 1) := by decide +kernel
theorem dX5_fit_24 : decode cX5_fit 24 = .ok (.getfield 22, 3) := by decide +kernel
theorem dX5_fit_27 : decode cX5_fit 27 = .ok (.iconst 0, 1) := by decide +kernel
theorem dX5_fit_28 : decode cX5_fit 28 = .ok (.iconst 0, 1) := by decide +kernel
theorem dX5_fit_29 : decode cX5_fit 29 = .ok (.iastore, 1) := by decide +kernel
theorem dX5_fit_30 : decode cX5_fit 30 = .ok (.aload_n 0, 1) := by decide +kernel
theorem dX5_fit_31 : decode cX5_fit 31 = .ok (.getfield 26, 3) := by decide +kernel
theorem dX5_fit_34 : decode cX5_fit 34 = .ok (.iconst 0, 1) := by decide +kernel
theorem dX5_fit_35 : decode cX5_fit 35 = .ok (.iload_n 3, 1) := by decide +kernel
theorem dX5_fit_36 : decode cX5_fit 36 = .ok (.iastore, 1) := by decide +kernel
theorem dX5_fit_37 : decode cX5_fit 37 = .ok (.iload_n 3, 1) := by decide +kernel
theorem dX5_fit_38 : decode cX5_fit 38 = .ok (.iconst 1, 1) := by decide +kernel
theorem dX5_fit_39 : decode cX5_fit 39 = .ok (.isub, 1) := by decide +kernel
theorem dX5_fit_40 : decode cX5_fit 40 = .ok (.istore 6, 2) := by decide +kernel
theorem dX5_fit_42 : decode cX5_fit 42 = .ok (.iload 6, 2) := by decide +kernel
theorem dX5_fit_44 : decode cX5_fit 44 = .ok (.ifCond .lt 18, 3) := by decide +kernel
theorem dX5_fit_47 : decode cX5_fit 47 = .ok (.aload_n 0, 1) := by decide +kernel
theorem dX5_fit_48 : decode cX5_fit 48 = .ok (.iload 6, 2) := by decide +kernel
theorem dX5_fit_50 : decode cX5_fit 50 = .ok (.iload_n 1, 1) := by decide +kernel
theorem dX5_fit_51 : decode cX5_fit 51 = .ok (.lload 4, 2) := by decide +kernel
theorem dX5_fit_53 : decode cX5_fit 53 = .ok (.invokevirtual 45, 3) := by decide +kernel
theorem dX5_fit_56 : decode cX5_fit 56 = .ok (.iinc 6 (-1), 3) := by decide +kernel
theorem dX5_fit_59 : decode cX5_fit 59 = .ok (.goto (-17), 3) := by decide +kernel
theorem dX5_fit_62 : decode cX5_fit 62 = .ok (.aload_n 0, 1) := by decide +kernel
theorem dX5_fit_63 : decode cX5_fit 63 = .ok (.invokevirtual 49, 3) := by decide +kernel
theorem dX5_fit_66 : decode cX5_fit 66 = .ok (.return_, 1) := by decide +kernel
theorem dX5_fitFrom_0 : decode cX5_fitFrom 0 = .ok (.aload_n 0, 1) := by decide +kernel
theorem dX5_fitFrom_1 : decode cX5_fitFrom 1 = .ok (.getfield 12, 3) := by decide +kernel
theorem dX5_fitFrom_4 : decode cX5_fitFrom 4 = .ok (.invokevirtual 39, 3) := by decide +kernel
theorem dX5_fitFrom_7 : decode cX5_fitFrom 7 = .ok (.istore 5, 2) := by decide +kernel
theorem dX5_fitFrom_9 : decode cX5_fitFrom 9 = .ok (.aload_n 0, 1) := by decide +kernel
theorem dX5_fitFrom_10 : decode cX5_fitFrom 10 = .ok (.getfield 18, 3) := by decide +kernel
theorem dX5_fitFrom_13 : decode cX5_fitFrom 13 = .ok (.iload_n 1, 1) := by decide +kernel
theorem dX5_fitFrom_14 : decode cX5_fitFrom 14 = .ok (.aload_n 0, 1) := by decide +kernel
theorem dX5_fitFrom_15 : decode cX5_fitFrom 15 = .ok (.getfield 12, 3) := by decide +kernel
theorem dX5_fitFrom_18 : decode cX5_fitFrom 18 = .ok (.iload_n 1, 1) := by decide +kernel
theorem dX5_fitFrom_19 : decode cX5_fitFrom 19 = .ok (.iload 5, 2) := by decide +kernel
theorem dX5_fitFrom_21 : decode cX5_fitFrom 21 = .ok (.invokevirtual 52, 3) := by decide +kernel
theorem dX5_fitFrom_24 : decode cX5_fitFrom 24 = .ok (.lastore, 1) := by decide +kernel
theorem dX5_fitFrom_25 : decode cX5_fitFrom 25 = .ok (.aload_n 0, 1) := by decide +kernel
theorem dX5_fitFrom_26 : decode cX5_fitFrom 26 = .ok (.getfield 22, 3) := by decide +kernel
theorem dX5_fitFrom_29 : decode cX5_fitFrom 29 = .ok (.iload_n 1, 1) := by decide +kernel
theorem dX5_fitFrom_30 : decode cX5_fitFrom 30 = .ok (.iconst 0, 1) := by decide +kernel
theorem dX5_fitFrom_31 : decode cX5_fitFrom 31 = .ok (.iastore, 1) := by decide +kernel
theorem dX5_fitFrom_32 : decode cX5_fitFrom 32 = .ok (.aload_n 0, 1) := by decide +kernel
theorem dX5_fitFrom_33 : decode cX5_fitFrom 33 = .ok (.getfield 26, 3) := by decide +kernel
theorem dX5_fitFrom_36 : decode cX5_fitFrom 36 = .ok (.iload_n 1, 1) := by decide +kernel
theorem dX5_fitFrom_37 : decode cX5_fitFrom 37 = .ok (.iload 5, 2) := by decide +kernel
theorem dX5_fitFrom_39 : decode cX5_fitFrom 39 = .ok (.iastore, 1) := by decide +kernel
theorem dX5_fitFrom_40 : decode cX5_fitFrom 40 = .ok (.iload_n 1, 1) := by decide +kernel
theorem dX5_fitFrom_41 : decode cX5_fitFrom 41 = .ok (.iload_n 2, 1) := by decide +kernel
theorem dX5_fitFrom_42 : decode cX5_fitFrom 42 = .ok (.iadd, 1) := by decide +kernel
theorem dX5_fitFrom_43 : decode cX5_fitFrom 43 = .ok (.istore 6, 2) := by decide +kernel
theorem dX5_fitFrom_45 : decode cX5_fitFrom 45 = .ok (.iload 6, 2) := by decide +kernel
theorem dX5_fitFrom_47 : decode cX5_fitFrom 47 = .ok (.iload 5, 2) := by decide +kernel
theorem dX5_fitFrom_49 : decode cX5_fitFrom 49 = .ok (.iload_n 2, 1) := by decide +kernel
theorem dX5_fitFrom_50 : decode cX5_fitFrom 50 = .ok (.isub, 1) := by decide +kernel
theorem dX5_fitFrom_51 : decode cX5_fitFrom 51 = .ok (.if_icmp .gt 101, 3) := by decide +kernel
theorem dX5_fitFrom_54 : decode cX5_fitFrom 54 = .ok (.aload_n 0, 1) := by decide +kernel
theorem dX5_fitFrom_55 : decode cX5_fitFrom 55 = .ok (.getfield 12, 3) := by decide +kernel
theorem dX5_fitFrom_58 : decode cX5_fitFrom 58 = .ok (.iload_n 1, 1) := by decide +kernel
theorem dX5_fitFrom_59 : decode cX5_fitFrom 59 = .ok (.iload 6, 2) := by decide +kernel
theorem dX5_fitFrom_61 : decode cX5_fitFrom 61 = .ok (.invokevirtual 52, 3) := by decide +kernel
theorem dX5_fitFrom_64 : decode cX5_fitFrom 64 = .ok (.lload_n 3, 1) := by decide +kernel
theorem dX5_fitFrom_65 : decode cX5_fitFrom 65 = .ok (.ladd, 1) := by decide +kernel
theorem dX5_fitFrom_66 : decode cX5_fitFrom 66 = .ok (.aload_n 0, 1) := by decide +kernel
theorem dX5_fitFrom_67 : decode cX5_fitFrom 67 = .ok (.getfield 18, 3) := by decide +kernel
theorem dX5_fitFrom_70 : decode cX5_fitFrom 70 = .ok (.iload 6, 2) := by decide +kernel
theorem dX5_fitFrom_72 : decode cX5_fitFrom 72 = .ok (.laload, 1) := by decide +kernel
theorem dX5_fitFrom_73 : decode cX5_fitFrom 73 = .ok (.ladd, 1) := by decide +kernel
theorem dX5_fitFrom_74 : decode cX5_fitFrom 74 = .ok (.lstore 7, 2) := by decide +kernel
theorem dX5_fitFrom_76 : decode cX5_fitFrom 76 = .ok (.aload_n 0, 1) := by decide +kernel
theorem dX5_fitFrom_77 : decode cX5_fitFrom 77 = .ok (.getfield 22, 3) := by decide +kernel
theorem dX5_fitFrom_80 : decode cX5_fitFrom 80 = .ok (.iload 6, 2) := by decide +kernel
theorem dX5_fitFrom_82 : decode cX5_fitFrom 82 = .ok (.iaload, 1) := by decide +kernel
theorem dX5_fitFrom_83 : decode cX5_fitFrom 83 = .ok (.iconst 1, 1) := by decide +kernel
theorem dX5_fitFrom_84 : decode cX5_fitFrom 84 = .ok (.iadd, 1) := by decide +kernel
theorem dX5_fitFrom_85 : decode cX5_fitFrom 85 = .ok (.istore 9, 2) := by decide +kernel
theorem dX5_fitFrom_87 : decode cX5_fitFrom 87 = .ok (.lload 7, 2) := by decide +kernel
theorem dX5_fitFrom_89 : decode cX5_fitFrom 89 = .ok (.aload_n 0, 1) := by decide +kernel
theorem dX5_fitFrom_90 : decode cX5_fitFrom 90 = .ok (.getfield 18, 3) := by decide +kernel
theorem dX5_fitFrom_93 : decode cX5_fitFrom 93 = .ok (.iload_n 1, 1) := by decide +kernel
theorem dX5_fitFrom_94 : decode cX5_fitFrom 94 = .ok (.laload, 1) := by decide +kernel
theorem dX5_fitFrom_95 : decode cX5_fitFrom 95 = .ok (.lcmp, 1) := by decide +kernel
theorem dX5_fitFrom_96 : decode cX5_fitFrom 96 = .ok (.ifCond .lt 26, 3) := by decide +kernel
theorem dX5_fitFrom_99 : decode cX5_fitFrom 99 = .ok (.lload 7, 2) := by decide +kernel
theorem dX5_fitFrom_101 : decode cX5_fitFrom 101 = .ok (.aload_n 0, 1) := by decide +kernel
theorem dX5_fitFrom_102 : decode cX5_fitFrom 102 = .ok (.getfield 18, 3) := by decide +kernel
theorem dX5_fitFrom_105 : decode cX5_fitFrom 105 = .ok (.iload_n 1, 1) := by decide +kernel
theorem dX5_fitFrom_106 : decode cX5_fitFrom 106 = .ok (.laload, 1) := by decide +kernel
theorem dX5_fitFrom_107 : decode cX5_fitFrom 107 = .ok (.lcmp, 1) := by decide +kernel
theorem dX5_fitFrom_108 : decode cX5_fitFrom 108 = .ok (.ifCond .ne 38, 3) := by decide +kernel
theorem dX5_fitFrom_111 : decode cX5_fitFrom 111 = .ok (.iload 9, 2) := by decide +kernel
theorem dX5_fitFrom_113 : decode cX5_fitFrom 113 = .ok (.aload_n 0, 1) := by decide +kernel
theorem dX5_fitFrom_114 : decode cX5_fitFrom 114 = .ok (.getfield 22, 3) := by decide +kernel
theorem dX5_fitFrom_117 : decode cX5_fitFrom 117 = .ok (.iload_n 1, 1) := by decide +kernel
theorem dX5_fitFrom_118 : decode cX5_fitFrom 118 = .ok (.iaload, 1) := by decide +kernel
theorem dX5_fitFrom_119 : decode cX5_fitFrom 119 = .ok (.if_icmp .ge 27, 3) := by decide +kernel
theorem dX5_fitFrom_122 : decode cX5_fitFrom 122 = .ok (.aload_n 0, 1) := by decide +kernel
theorem dX5_fitFrom_123 : decode cX5_fitFrom 123 = .ok (.getfield 18, 3) := by decide +kernel
theorem dX5_fitFrom_126 : decode cX5_fitFrom 126 = .ok (.iload_n 1, 1) := by decide +kernel
theorem dX5_fitFrom_127 : decode cX5_fitFrom 127 = .ok (.lload 7, 2) := by decide +kernel
theorem dX5_fitFrom_129 : decode cX5_fitFrom 129 = .ok (.lastore, 1) := by decide +kernel
theorem dX5_fitFrom_130 : decode cX5_fitFrom 130 = .ok (.aload_n 0, 1) := by decide +kernel
theorem dX5_fitFrom_131 : decode cX5_fitFrom 131 = .ok (.getfield 22, 3) := by decide +kernel
theorem dX5_fitFrom_134 : decode cX5_fitFrom 134 = .ok (.iload_n 1, 1) := by decide +kernel
theorem dX5_fitFrom_135 : decode cX5_fitFrom 135 = .ok (.iload 9, 2) := by decide +kernel
theorem dX5_fitFrom_137 : decode cX5_fitFrom 137 = .ok (.iastore, 1) := by decide +kernel
theorem dX5_fitFrom_138 : decode cX5_fitFrom 138 = .ok (.aload_n 0, 1) := by decide +kernel
theorem dX5_fitFrom_139 : decode cX5_fitFrom 139 = .ok (.getfield 26, 3) := by decide +kernel
theorem dX5_fitFrom_142 : decode cX5_fitFrom 142 = .ok (.iload_n 1, 1) := by decide +kernel
theorem dX5_fitFrom_143 : decode cX5_fitFrom 143 = .ok (.iload 6, 2) := by decide +kernel
theorem dX5_fitFrom_145 : decode cX5_fitFrom 145 = .ok (.iastore, 1) := by decide +kernel
theorem dX5_fitFrom_146 : decode cX5_fitFrom 146 = .ok (.iinc 6 1, 3) := by decide +kernel
theorem dX5_fitFrom_149 : decode cX5_fitFrom 149 = .ok (.goto (-104), 3) := by decide +kernel
theorem dX5_fitFrom_152 : decode cX5_fitFrom 152 = .ok (.return_, 1) := by decide +kernel
theorem dX5_keepStarts_0 : decode cX5_keepStarts 0 = .ok (.aload_n 0, 1) := by decide +kernel
theorem dX5_keepStarts_1 : decode cX5_keepStarts 1 = .ok (.getfield 32, 3) := by decide +kernel
theorem dX5_keepStarts_4 : decode cX5_keepStarts 4 = .ok (.iconst 0, 1) := by decide +kernel
theorem dX5_keepStarts_5 : decode cX5_keepStarts 5 = .ok (.iconst 0, 1) := by decide +kernel
theorem dX5_keepStarts_6 : decode cX5_keepStarts 6 = .ok (.iastore, 1) := by decide +kernel
theorem dX5_keepStarts_7 : decode cX5_keepStarts 7 = .ok (.iconst 0, 1) := by decide +kernel
theorem dX5_keepStarts_8 : decode cX5_keepStarts 8 = .ok (.istore_n 1, 1) := by decide +kernel
theorem dX5_keepStarts_9 : decode cX5_keepStarts 9 = .ok (.iload_n 1, 1) := by decide +kernel
theorem dX5_keepStarts_10 : decode cX5_keepStarts 10 = .ok (.aload_n 0, 1) := by decide +kernel
theorem dX5_keepStarts_11 : decode cX5_keepStarts 11 = .ok (.getfield 22, 3) := by decide +kernel
theorem dX5_keepStarts_14 : decode cX5_keepStarts 14 = .ok (.iconst 0, 1) := by decide +kernel
theorem dX5_keepStarts_15 : decode cX5_keepStarts 15 = .ok (.iaload, 1) := by decide +kernel
theorem dX5_keepStarts_16 : decode cX5_keepStarts 16 = .ok (.if_icmp .gt 28, 3) := by decide +kernel
theorem dX5_keepStarts_19 : decode cX5_keepStarts 19 = .ok (.aload_n 0, 1) := by decide +kernel
theorem dX5_keepStarts_20 : decode cX5_keepStarts 20 = .ok (.getfield 32, 3) := by decide +kernel
theorem dX5_keepStarts_23 : decode cX5_keepStarts 23 = .ok (.iload_n 1, 1) := by decide +kernel
theorem dX5_keepStarts_24 : decode cX5_keepStarts 24 = .ok (.iconst 1, 1) := by decide +kernel
theorem dX5_keepStarts_25 : decode cX5_keepStarts 25 = .ok (.iadd, 1) := by decide +kernel
theorem dX5_keepStarts_26 : decode cX5_keepStarts 26 = .ok (.aload_n 0, 1) := by decide +kernel
theorem dX5_keepStarts_27 : decode cX5_keepStarts 27 = .ok (.getfield 26, 3) := by decide +kernel
theorem dX5_keepStarts_30 : decode cX5_keepStarts 30 = .ok (.aload_n 0, 1) := by decide +kernel
theorem dX5_keepStarts_31 : decode cX5_keepStarts 31 = .ok (.getfield 32, 3) := by decide +kernel
theorem dX5_keepStarts_34 : decode cX5_keepStarts 34 = .ok (.iload_n 1, 1) := by decide +kernel
theorem dX5_keepStarts_35 : decode cX5_keepStarts 35 = .ok (.iaload, 1) := by decide +kernel
theorem dX5_keepStarts_36 : decode cX5_keepStarts 36 = .ok (.iaload, 1) := by decide +kernel
theorem dX5_keepStarts_37 : decode cX5_keepStarts 37 = .ok (.iastore, 1) := by decide +kernel
theorem dX5_keepStarts_38 : decode cX5_keepStarts 38 = .ok (.iinc 1 1, 3) := by decide +kernel
theorem dX5_keepStarts_41 : decode cX5_keepStarts 41 = .ok (.goto (-32), 3) := by decide +kernel
theorem dX5_keepStarts_44 : decode cX5_keepStarts 44 = .ok (.return_, 1) := by decide +kernel
theorem dX5_breakCount_0 : decode cX5_breakCount 0 = .ok (.aload_n 0, 1) := by decide +kernel
theorem dX5_breakCount_1 : decode cX5_breakCount 1 = .ok (.getfield 22, 3) := by decide +kernel
theorem dX5_breakCount_4 : decode cX5_breakCount 4 = .ok (.iconst 0, 1) := by decide +kernel
theorem dX5_breakCount_5 : decode cX5_breakCount 5 = .ok (.iaload, 1) := by decide +kernel
theorem dX5_breakCount_6 : decode cX5_breakCount 6 = .ok (.ireturn, 1) := by decide +kernel
theorem dX5_breakYear_0 : decode cX5_breakYear 0 = .ok (.aload_n 0, 1) := by decide +kernel
theorem dX5_breakYear_1 : decode cX5_breakYear 1 = .ok (.getfield 12, 3) := by decide +kernel
theorem dX5_breakYear_4 : decode cX5_breakYear 4 = .ok (.aload_n 0, 1) := by decide +kernel
theorem dX5_breakYear_5 : decode cX5_breakYear 5 = .ok (.getfield 32, 3) := by decide +kernel
theorem dX5_breakYear_8 : decode cX5_breakYear 8 = .ok (.iload_n 1, 1) := by decide +kernel
theorem dX5_breakYear_9 : decode cX5_breakYear 9 = .ok (.iconst 1, 1) := by decide +kernel
theorem dX5_breakYear_10 : decode cX5_breakYear 10 = .ok (.iadd, 1) := by decide +kernel
theorem dX5_breakYear_11 : decode cX5_breakYear 11 = .ok (.iaload, 1) := by decide +kernel
theorem dX5_breakYear_12 : decode cX5_breakYear 12 = .ok (.invokevirtual 56, 3) := by decide +kernel
theorem dX5_breakYear_15 : decode cX5_breakYear 15 = .ok (.ireturn, 1) := by decide +kernel
theorem dX5_scaledShift_0 : decode cX5_scaledShift 0 = .ok (.aload_n 0, 1) := by decide +kernel
theorem dX5_scaledShift_1 : decode cX5_scaledShift 1 = .ok (.getfield 12, 3) := by decide +kernel
theorem dX5_scaledShift_4 : decode cX5_scaledShift 4 = .ok (.aload_n 0, 1) := by decide +kernel
theorem dX5_scaledShift_5 : decode cX5_scaledShift 5 = .ok (.getfield 32, 3) := by decide +kernel
theorem dX5_scaledShift_8 : decode cX5_scaledShift 8 = .ok (.iload_n 1, 1) := by decide +kernel
theorem dX5_scaledShift_9 : decode cX5_scaledShift 9 = .ok (.iconst 1, 1) := by decide +kernel
theorem dX5_scaledShift_10 : decode cX5_scaledShift 10 = .ok (.iadd, 1) := by decide +kernel
theorem dX5_scaledShift_11 : decode cX5_scaledShift 11 = .ok (.iaload, 1) := by decide +kernel
theorem dX5_scaledShift_12 : decode cX5_scaledShift 12 = .ok (.aload_n 0, 1) := by decide +kernel
theorem dX5_scaledShift_13 : decode cX5_scaledShift 13 = .ok (.getfield 32, 3) := by decide +kernel
theorem dX5_scaledShift_16 : decode cX5_scaledShift 16 = .ok (.iload_n 1, 1) := by decide +kernel
theorem dX5_scaledShift_17 : decode cX5_scaledShift 17 = .ok (.iconst 2, 1) := by decide +kernel
theorem dX5_scaledShift_18 : decode cX5_scaledShift 18 = .ok (.iadd, 1) := by decide +kernel
theorem dX5_scaledShift_19 : decode cX5_scaledShift 19 = .ok (.iaload, 1) := by decide +kernel
theorem dX5_scaledShift_20 : decode cX5_scaledShift 20 = .ok (.invokevirtual 60, 3) := by decide +kernel
theorem dX5_scaledShift_23 : decode cX5_scaledShift 23 = .ok (.aload_n 0, 1) := by decide +kernel
theorem dX5_scaledShift_24 : decode cX5_scaledShift 24 = .ok (.getfield 12, 3) := by decide +kernel
theorem dX5_scaledShift_27 : decode cX5_scaledShift 27 = .ok (.aload_n 0, 1) := by decide +kernel
theorem dX5_scaledShift_28 : decode cX5_scaledShift 28 = .ok (.getfield 32, 3) := by decide +kernel
theorem dX5_scaledShift_31 : decode cX5_scaledShift 31 = .ok (.iload_n 1, 1) := by decide +kernel
theorem dX5_scaledShift_32 : decode cX5_scaledShift 32 = .ok (.iaload, 1) := by decide +kernel
theorem dX5_scaledShift_33 : decode cX5_scaledShift 33 = .ok (.aload_n 0, 1) := by decide +kernel
theorem dX5_scaledShift_34 : decode cX5_scaledShift 34 = .ok (.getfield 32, 3) := by decide +kernel
theorem dX5_scaledShift_37 : decode cX5_scaledShift 37 = .ok (.iload_n 1, 1) := by decide +kernel
theorem dX5_scaledShift_38 : decode cX5_scaledShift 38 = .ok (.iconst 1, 1) := by decide +kernel
theorem dX5_scaledShift_39 : decode cX5_scaledShift 39 = .ok (.iadd, 1) := by decide +kernel
theorem dX5_scaledShift_40 : decode cX5_scaledShift 40 = .ok (.iaload, 1) := by decide +kernel
theorem dX5_scaledShift_41 : decode cX5_scaledShift 41 = .ok (.invokevirtual 60, 3) := by decide +kernel
theorem dX5_scaledShift_44 : decode cX5_scaledShift 44 = .ok (.lsub, 1) := by decide +kernel
theorem dX5_scaledShift_45 : decode cX5_scaledShift 45 = .ok (.lreturn, 1) := by decide +kernel
theorem dX5_scaledCost_0 : decode cX5_scaledCost 0 = .ok (.aload_n 0, 1) := by decide +kernel
theorem dX5_scaledCost_1 : decode cX5_scaledCost 1 = .ok (.getfield 18, 3) := by decide +kernel
theorem dX5_scaledCost_4 : decode cX5_scaledCost 4 = .ok (.iconst 0, 1) := by decide +kernel
theorem dX5_scaledCost_5 : decode cX5_scaledCost 5 = .ok (.laload, 1) := by decide +kernel
theorem dX5_scaledCost_6 : decode cX5_scaledCost 6 = .ok (.lreturn, 1) := by decide +kernel
theorem dX5_scaledSpreads_0 : decode cX5_scaledSpreads 0 = .ok (.aload_n 0, 1) := by decide +kernel
theorem dX5_scaledSpreads_1 : decode cX5_scaledSpreads 1 = .ok (.getfield 12, 3) := by decide +kernel
theorem dX5_scaledSpreads_4 : decode cX5_scaledSpreads 4 = .ok (.invokevirtual 39, 3) := by decide +kernel
theorem dX5_scaledSpreads_7 : decode cX5_scaledSpreads 7 = .ok (.istore_n 3, 1) := by decide +kernel
theorem dX5_scaledSpreads_8 : decode cX5_scaledSpreads 8 = .ok (.iload_n 2, 1) := by decide +kernel
theorem dX5_scaledSpreads_9 : decode cX5_scaledSpreads 9 = .ok (.ifCond .le 21, 3) := by decide +kernel
theorem dX5_scaledSpreads_12 : decode cX5_scaledSpreads 12 = .ok (.iload_n 2, 1) := by decide +kernel
theorem dX5_scaledSpreads_13 : decode cX5_scaledSpreads 13 = .ok (.iload_n 3, 1) := by decide +kernel
theorem dX5_scaledSpreads_14 : decode cX5_scaledSpreads 14 = .ok (.if_icmp .ge 12, 3) := by decide +kernel
theorem dX5_scaledSpreads_17 : decode cX5_scaledSpreads 17 = .ok (.iload_n 2, 1) := by decide +kernel
theorem dX5_scaledSpreads_18 : decode cX5_scaledSpreads 18 = .ok (.iconst 1, 1) := by decide +kernel
theorem dX5_scaledSpreads_19 : decode cX5_scaledSpreads 19 = .ok (.iadd, 1) := by decide +kernel
theorem dX5_scaledSpreads_20 : decode cX5_scaledSpreads 20 = .ok (.iload_n 1, 1) := by decide +kernel
theorem dX5_scaledSpreads_21 : decode cX5_scaledSpreads 21 = .ok (.imul, 1) := by decide +kernel
theorem dX5_scaledSpreads_22 : decode cX5_scaledSpreads 22 = .ok (.iload_n 3, 1) := by decide +kernel
theorem dX5_scaledSpreads_23 : decode cX5_scaledSpreads 23 = .ok (.if_icmp .le 7, 3) := by decide +kernel
theorem dX5_scaledSpreads_26 : decode cX5_scaledSpreads 26 = .ok (.ldc2_w 63, 3) := by decide +kernel
theorem dX5_scaledSpreads_29 : decode cX5_scaledSpreads 29 = .ok (.lreturn, 1) := by decide +kernel
theorem dX5_scaledSpreads_30 : decode cX5_scaledSpreads 30 = .ok (.iconst 0, 1) := by decide +kernel
theorem dX5_scaledSpreads_31 : decode cX5_scaledSpreads 31 = .ok (.istore 4, 2) := by decide +kernel
theorem dX5_scaledSpreads_33 : decode cX5_scaledSpreads 33 = .ok (.iload 4, 2) := by decide +kernel
theorem dX5_scaledSpreads_35 : decode cX5_scaledSpreads 35 = .ok (.iload_n 3, 1) := by decide +kernel
theorem dX5_scaledSpreads_36 : decode cX5_scaledSpreads 36 = .ok (.if_icmp .gt 26, 3) := by decide +kernel
theorem dX5_scaledSpreads_39 : decode cX5_scaledSpreads 39 = .ok (.aload_n 0, 1) := by decide +kernel
theorem dX5_scaledSpreads_40 : decode cX5_scaledSpreads 40 = .ok (.getfield 29, 3) := by decide +kernel
theorem dX5_scaledSpreads_43 : decode cX5_scaledSpreads 43 = .ok (.iload 4, 2) := by decide +kernel
theorem dX5_scaledSpreads_45 : decode cX5_scaledSpreads 45 = .ok (.aload_n 0, 1) := by decide +kernel
theorem dX5_scaledSpreads_46 : decode cX5_scaledSpreads 46 = .ok (.getfield 12, 3) := by decide +kernel
theorem dX5_scaledSpreads_49 : decode cX5_scaledSpreads 49 = .ok (.iload 4, 2) := by decide +kernel
theorem dX5_scaledSpreads_51 : decode cX5_scaledSpreads 51 = .ok (.iload_n 3, 1) := by decide +kernel
theorem dX5_scaledSpreads_52 : decode cX5_scaledSpreads 52 = .ok (.invokevirtual 52, 3) := by decide +kernel
theorem dX5_scaledSpreads_55 : decode cX5_scaledSpreads 55 = .ok (.lastore, 1) := by decide +kernel
theorem dX5_scaledSpreads_56 : decode cX5_scaledSpreads 56 = .ok (.iinc 4 1, 3) := by decide +kernel
theorem dX5_scaledSpreads_59 : decode cX5_scaledSpreads 59 = .ok (.goto (-26), 3) := by decide +kernel
theorem dX5_scaledSpreads_62 : decode cX5_scaledSpreads 62 = .ok (.iconst 2, 1) := by decide +kernel
theorem dX5_scaledSpreads_63 : decode cX5_scaledSpreads 63 = .ok (.istore 4, 2) := by decide +kernel
theorem dX5_scaledSpreads_65 : decode cX5_scaledSpreads 65 = .ok (.iload 4, 2) := by decide +kernel
theorem dX5_scaledSpreads_67 : decode cX5_scaledSpreads 67 = .ok (.iload_n 2, 1) := by decide +kernel
theorem dX5_scaledSpreads_68 : decode cX5_scaledSpreads 68 = .ok (.iconst 1, 1) := by decide +kernel
theorem dX5_scaledSpreads_69 : decode cX5_scaledSpreads 69 = .ok (.iadd, 1) := by decide +kernel
theorem dX5_scaledSpreads_70 : decode cX5_scaledSpreads 70 = .ok (.if_icmp .gt 16, 3) := by decide +kernel
theorem dX5_scaledSpreads_73 : decode cX5_scaledSpreads 73 = .ok (.aload_n 0, 1) := by decide +kernel
theorem dX5_scaledSpreads_74 : decode cX5_scaledSpreads 74 = .ok (.iload 4, 2) := by decide +kernel
theorem dX5_scaledSpreads_76 : decode cX5_scaledSpreads 76 = .ok (.iload_n 1, 1) := by decide +kernel
theorem dX5_scaledSpreads_77 : decode cX5_scaledSpreads 77 = .ok (.invokevirtual 65, 3) := by decide +kernel
theorem dX5_scaledSpreads_80 : decode cX5_scaledSpreads 80 = .ok (.iinc 4 1, 3) := by decide +kernel
theorem dX5_scaledSpreads_83 : decode cX5_scaledSpreads 83 = .ok (.goto (-18), 3) := by decide +kernel
theorem dX5_scaledSpreads_86 : decode cX5_scaledSpreads 86 = .ok (.aload_n 0, 1) := by decide +kernel
theorem dX5_scaledSpreads_87 : decode cX5_scaledSpreads 87 = .ok (.getfield 29, 3) := by decide +kernel
theorem dX5_scaledSpreads_90 : decode cX5_scaledSpreads 90 = .ok (.iconst 0, 1) := by decide +kernel
theorem dX5_scaledSpreads_91 : decode cX5_scaledSpreads 91 = .ok (.laload, 1) := by decide +kernel
theorem dX5_scaledSpreads_92 : decode cX5_scaledSpreads 92 = .ok (.lreturn, 1) := by decide +kernel
theorem dX5_addRun_0 : decode cX5_addRun 0 = .ok (.aload_n 0, 1) := by decide +kernel
theorem dX5_addRun_1 : decode cX5_addRun 1 = .ok (.getfield 12, 3) := by decide +kernel
theorem dX5_addRun_4 : decode cX5_addRun 4 = .ok (.invokevirtual 39, 3) := by decide +kernel
theorem dX5_addRun_7 : decode cX5_addRun 7 = .ok (.iload_n 1, 1) := by decide +kernel
theorem dX5_addRun_8 : decode cX5_addRun 8 = .ok (.iconst 1, 1) := by decide +kernel
theorem dX5_addRun_9 : decode cX5_addRun 9 = .ok (.isub, 1) := by decide +kernel
theorem dX5_addRun_10 : decode cX5_addRun 10 = .ok (.iload_n 2, 1) := by decide +kernel
theorem dX5_addRun_11 : decode cX5_addRun 11 = .ok (.imul, 1) := by decide +kernel
theorem dX5_addRun_12 : decode cX5_addRun 12 = .ok (.isub, 1) := by decide +kernel
theorem dX5_addRun_13 : decode cX5_addRun 13 = .ok (.istore_n 3, 1) := by decide +kernel
theorem dX5_addRun_14 : decode cX5_addRun 14 = .ok (.iconst 0, 1) := by decide +kernel
theorem dX5_addRun_15 : decode cX5_addRun 15 = .ok (.istore 4, 2) := by decide +kernel
theorem dX5_addRun_17 : decode cX5_addRun 17 = .ok (.iload 4, 2) := by decide +kernel
theorem dX5_addRun_19 : decode cX5_addRun 19 = .ok (.iload_n 2, 1) := by decide +kernel
theorem dX5_addRun_20 : decode cX5_addRun 20 = .ok (.iadd, 1) := by decide +kernel
theorem dX5_addRun_21 : decode cX5_addRun 21 = .ok (.iload_n 3, 1) := by decide +kernel
theorem dX5_addRun_22 : decode cX5_addRun 22 = .ok (.if_icmp .gt 89, 3) := by decide +kernel
theorem dX5_addRun_25 : decode cX5_addRun 25 = .ok (.aload_n 0, 1) := by decide +kernel
theorem dX5_addRun_26 : decode cX5_addRun 26 = .ok (.getfield 12, 3) := by decide +kernel
theorem dX5_addRun_29 : decode cX5_addRun 29 = .ok (.iload 4, 2) := by decide +kernel
theorem dX5_addRun_31 : decode cX5_addRun 31 = .ok (.iload 4, 2) := by decide +kernel
theorem dX5_addRun_33 : decode cX5_addRun 33 = .ok (.iload_n 2, 1) := by decide +kernel
theorem dX5_addRun_34 : decode cX5_addRun 34 = .ok (.iadd, 1) := by decide +kernel
theorem dX5_addRun_35 : decode cX5_addRun 35 = .ok (.invokevirtual 52, 3) := by decide +kernel
theorem dX5_addRun_38 : decode cX5_addRun 38 = .ok (.aload_n 0, 1) := by decide +kernel
theorem dX5_addRun_39 : decode cX5_addRun 39 = .ok (.getfield 29, 3) := by decide +kernel
theorem dX5_addRun_42 : decode cX5_addRun 42 = .ok (.iload 4, 2) := by decide +kernel
theorem dX5_addRun_44 : decode cX5_addRun 44 = .ok (.iload_n 2, 1) := by decide +kernel
theorem dX5_addRun_45 : decode cX5_addRun 45 = .ok (.iadd, 1) := by decide +kernel
theorem dX5_addRun_46 : decode cX5_addRun 46 = .ok (.laload, 1) := by decide +kernel
theorem dX5_addRun_47 : decode cX5_addRun 47 = .ok (.ladd, 1) := by decide +kernel
theorem dX5_addRun_48 : decode cX5_addRun 48 = .ok (.lstore 5, 2) := by decide +kernel
theorem dX5_addRun_50 : decode cX5_addRun 50 = .ok (.iload 4, 2) := by decide +kernel
theorem dX5_addRun_52 : decode cX5_addRun 52 = .ok (.iload_n 2, 1) := by decide +kernel
theorem dX5_addRun_53 : decode cX5_addRun 53 = .ok (.iadd, 1) := by decide +kernel
theorem dX5_addRun_54 : decode cX5_addRun 54 = .ok (.iconst 1, 1) := by decide +kernel
theorem dX5_addRun_55 : decode cX5_addRun 55 = .ok (.iadd, 1) := by decide +kernel
theorem dX5_addRun_56 : decode cX5_addRun 56 = .ok (.istore 7, 2) := by decide +kernel
theorem dX5_addRun_58 : decode cX5_addRun 58 = .ok (.iload 7, 2) := by decide +kernel
theorem dX5_addRun_60 : decode cX5_addRun 60 = .ok (.iload_n 3, 1) := by decide +kernel
theorem dX5_addRun_61 : decode cX5_addRun 61 = .ok (.if_icmp .gt 35, 3) := by decide +kernel
theorem dX5_addRun_64 : decode cX5_addRun 64 = .ok (.lload 5, 2) := by decide +kernel
theorem dX5_addRun_66 : decode cX5_addRun 66 = .ok (.aload_n 0, 1) := by decide +kernel
theorem dX5_addRun_67 : decode cX5_addRun 67 = .ok (.getfield 12, 3) := by decide +kernel
theorem dX5_addRun_70 : decode cX5_addRun 70 = .ok (.iload 4, 2) := by decide +kernel
theorem dX5_addRun_72 : decode cX5_addRun 72 = .ok (.iload 7, 2) := by decide +kernel
theorem dX5_addRun_74 : decode cX5_addRun 74 = .ok (.invokevirtual 52, 3) := by decide +kernel
theorem dX5_addRun_77 : decode cX5_addRun 77 = .ok (.aload_n 0, 1) := by decide +kernel
theorem dX5_addRun_78 : decode cX5_addRun 78 = .ok (.getfield 29, 3) := by decide +kernel
theorem dX5_addRun_81 : decode cX5_addRun 81 = .ok (.iload 7, 2) := by decide +kernel
theorem dX5_addRun_83 : decode cX5_addRun 83 = .ok (.laload, 1) := by decide +kernel
theorem dX5_addRun_84 : decode cX5_addRun 84 = .ok (.ladd, 1) := by decide +kernel
theorem dX5_addRun_85 : decode cX5_addRun 85 = .ok (.invokestatic 69, 3) := by decide +kernel
theorem dX5_addRun_88 : decode cX5_addRun 88 = .ok (.lstore 5, 2) := by decide +kernel
theorem dX5_addRun_90 : decode cX5_addRun 90 = .ok (.iinc 7 1, 3) := by decide +kernel
theorem dX5_addRun_93 : decode cX5_addRun 93 = .ok (.goto (-35), 3) := by decide +kernel
theorem dX5_addRun_96 : decode cX5_addRun 96 = .ok (.aload_n 0, 1) := by decide +kernel
theorem dX5_addRun_97 : decode cX5_addRun 97 = .ok (.getfield 29, 3) := by decide +kernel
theorem dX5_addRun_100 : decode cX5_addRun 100 = .ok (.iload 4, 2) := by decide +kernel
theorem dX5_addRun_102 : decode cX5_addRun 102 = .ok (.lload 5, 2) := by decide +kernel
theorem dX5_addRun_104 : decode cX5_addRun 104 = .ok (.lastore, 1) := by decide +kernel
theorem dX5_addRun_105 : decode cX5_addRun 105 = .ok (.iinc 4 1, 3) := by decide +kernel
theorem dX5_addRun_108 : decode cX5_addRun 108 = .ok (.goto (-91), 3) := by decide +kernel
theorem dX5_addRun_111 : decode cX5_addRun 111 = .ok (.return_, 1) := by decide +kernel
theorem dX6_init_0 : decode cX6_init 0 = .ok (.aload_n 0, 1) := by decide +kernel
theorem dX6_init_1 : decode cX6_init 1 = .ok (.invokespecial 3, 3) := by decide +kernel
theorem dX6_init_4 : decode cX6_init 4 = .ok (.aload_n 0, 1) := by decide +kernel
theorem dX6_init_5 : decode cX6_init 5 = .ok (.bipush 16, 2) := by decide +kernel
theorem dX6_init_7 : decode cX6_init 7 = .ok (.newarray .int, 2) := by decide +kernel
theorem dX6_init_9 : decode cX6_init 9 = .ok (.putfield 9, 3) := by decide +kernel
theorem dX6_init_12 : decode cX6_init 12 = .ok (.aload_n 0, 1) := by decide +kernel
theorem dX6_init_13 : decode cX6_init 13 = .ok (.bipush 16, 2) := by decide +kernel
theorem dX6_init_15 : decode cX6_init 15 = .ok (.newarray .int, 2) := by decide +kernel
theorem dX6_init_17 : decode cX6_init 17 = .ok (.putfield 15, 3) := by decide +kernel
theorem dX6_init_20 : decode cX6_init 20 = .ok (.aload_n 0, 1) := by decide +kernel
theorem dX6_init_21 : decode cX6_init 21 = .ok (.bipush 17, 2) := by decide +kernel
theorem dX6_init_23 : decode cX6_init 23 = .ok (.newarray .long, 2) := by decide +kernel
theorem dX6_init_25 : decode cX6_init 25 = .ok (.putfield 18, 3) := by decide +kernel
theorem dX6_init_28 : decode cX6_init 28 = .ok (.aload_n 0, 1) := by decide +kernel
theorem dX6_init_29 : decode cX6_init 29 = .ok (.bipush 17, 2) := by decide +kernel
theorem dX6_init_31 : decode cX6_init 31 = .ok (.newarray .long, 2) := by decide +kernel
theorem dX6_init_33 : decode cX6_init 33 = .ok (.putfield 22, 3) := by decide +kernel
theorem dX6_init_36 : decode cX6_init 36 = .ok (.return_, 1) := by decide +kernel
theorem dX6_compare_0 : decode cX6_compare 0 = .ok (.aload_n 0, 1) := by decide +kernel
theorem dX6_compare_1 : decode cX6_compare 1 = .ok (.iconst 0, 1) := by decide +kernel
theorem dX6_compare_2 : decode cX6_compare 2 = .ok (.putfield 25, 3) := by decide +kernel
theorem dX6_compare_5 : decode cX6_compare 5 = .ok (.iconst 0, 1) := by decide +kernel
theorem dX6_compare_6 : decode cX6_compare 6 = .ok (.istore 4, 2) := by decide +kernel
theorem dX6_compare_8 : decode cX6_compare 8 = .ok (.iload 4, 2) := by decide +kernel
theorem dX6_compare_10 : decode cX6_compare 10 = .ok (.aload_n 1, 1) := by decide +kernel
theorem dX6_compare_11 : decode cX6_compare 11 = .ok (.invokevirtual 29, 3) := by decide +kernel
theorem dX6_compare_14 : decode cX6_compare 14 = .ok (.if_icmp .ge 50, 3) := by decide +kernel
theorem dX6_compare_17 : decode cX6_compare 17 = .ok (.aload_n 1, 1) := by decide +kernel
theorem dX6_compare_18 : decode cX6_compare 18 = .ok (.iload_n 2, 1) := by decide +kernel
theorem dX6_compare_19 : decode cX6_compare 19 = .ok (.iload 4, 2) := by decide +kernel
theorem dX6_compare_21 : decode cX6_compare 21 = .ok (.invokevirtual 34, 3) := by decide +kernel
theorem dX6_compare_24 : decode cX6_compare 24 = .ok (.ifCond .eq 34, 3) := by decide +kernel
theorem dX6_compare_27 : decode cX6_compare 27 = .ok (.aload_n 1, 1) := by decide +kernel
theorem dX6_compare_28 : decode cX6_compare 28 = .ok (.iload_n 3, 1) := by decide +kernel
theorem dX6_compare_29 : decode cX6_compare 29 = .ok (.iload 4, 2) := by decide +kernel
theorem dX6_compare_31 : decode cX6_compare 31 = .ok (.invokevirtual 34, 3) := by decide +kernel
theorem dX6_compare_34 : decode cX6_compare 34 = .ok (.ifCond .eq 24, 3) := by decide +kernel
theorem dX6_compare_37 : decode cX6_compare 37 = .ok (.aload_n 0, 1) := by decide +kernel
theorem dX6_compare_38 : decode cX6_compare 38 = .ok (.iload 4, 2) := by decide +kernel
theorem dX6_compare_40 : decode cX6_compare 40 = .ok (.aload_n 1, 1) := by decide +kernel
theorem dX6_compare_41 : decode cX6_compare 41 = .ok (.iload_n 2, 1) := by decide +kernel
theorem dX6_compare_42 : decode cX6_compare 42 = .ok (.iload 4, 2) := by decide +kernel
theorem dX6_compare_44 : decode cX6_compare 44 = .ok (.invokevirtual 38, 3) := by decide +kernel
theorem dX6_compare_47 : decode cX6_compare 47 = .ok (.aload_n 1, 1) := by decide +kernel
theorem dX6_compare_48 : decode cX6_compare 48 = .ok (.iload_n 3, 1) := by decide +kernel
theorem dX6_compare_49 : decode cX6_compare 49 = .ok (.iload 4, 2) := by decide +kernel
theorem dX6_compare_51 : decode cX6_compare 51 = .ok (.invokevirtual 38, 3) := by decide +kernel
theorem dX6_compare_54 : decode cX6_compare 54 = .ok (.isub, 1) := by decide +kernel
theorem dX6_compare_55 : decode cX6_compare 55 = .ok (.invokevirtual 42, 3) := by decide +kernel
theorem dX6_compare_58 : decode cX6_compare 58 = .ok (.iinc 4 1, 3) := by decide +kernel
theorem dX6_compare_61 : decode cX6_compare 61 = .ok (.goto (-53), 3) := by decide +kernel
theorem dX6_compare_64 : decode cX6_compare 64 = .ok (.return_, 1) := by decide +kernel
theorem dX6_add_0 : decode cX6_add 0 = .ok (.aload_n 0, 1) := by decide +kernel
theorem dX6_add_1 : decode cX6_add 1 = .ok (.getfield 25, 3) := by decide +kernel
theorem dX6_add_4 : decode cX6_add 4 = .ok (.bipush 16, 2) := by decide +kernel
theorem dX6_add_6 : decode cX6_add 6 = .ok (.if_icmp .lt 4, 3) := by decide +kernel
theorem dX6_add_9 : decode cX6_add 9 = .ok (.return_, 1) := by decide +kernel
theorem dX6_add_10 : decode cX6_add 10 = .ok (.aload_n 0, 1) := by decide +kernel
theorem dX6_add_11 : decode cX6_add 11 = .ok (.getfield 9, 3) := by decide +kernel
theorem dX6_add_14 : decode cX6_add 14 = .ok (.aload_n 0, 1) := by decide +kernel
theorem dX6_add_15 : decode cX6_add 15 = .ok (.getfield 25, 3) := by decide +kernel
theorem dX6_add_18 : decode cX6_add 18 = .ok (.iload_n 2, 1) := by decide +kernel
theorem dX6_add_19 : decode cX6_add 19 = .ok (.iastore, 1) := by decide +kernel
theorem dX6_add_20 : decode cX6_add 20 = .ok (.aload_n 0, 1) := by decide +kernel
theorem dX6_add_21 : decode cX6_add 21 = .ok (.getfield 15, 3) := by decide +kernel
theorem dX6_add_24 : decode cX6_add 24 = .ok (.aload_n 0, 1) := by decide +kernel
theorem dX6_add_25 : decode cX6_add 25 = .ok (.getfield 25, 3) := by decide +kernel
theorem dX6_add_28 : decode cX6_add 28 = .ok (.iload_n 1, 1) := by decide +kernel
theorem dX6_add_29 : decode cX6_add 29 = .ok (.iastore, 1) := by decide +kernel
theorem dX6_add_30 : decode cX6_add 30 = .ok (.aload_n 0, 1) := by decide +kernel
theorem dX6_add_31 : decode cX6_add 31 = .ok (.getfield 18, 3) := by decide +kernel
theorem dX6_add_34 : decode cX6_add 34 = .ok (.aload_n 0, 1) := by decide +kernel
theorem dX6_add_35 : decode cX6_add 35 = .ok (.getfield 25, 3) := by decide +kernel
theorem dX6_add_38 : decode cX6_add 38 = .ok (.iconst 1, 1) := by decide +kernel
theorem dX6_add_39 : decode cX6_add 39 = .ok (.iadd, 1) := by decide +kernel
theorem dX6_add_40 : decode cX6_add 40 = .ok (.aload_n 0, 1) := by decide +kernel
theorem dX6_add_41 : decode cX6_add 41 = .ok (.getfield 18, 3) := by decide +kernel
theorem dX6_add_44 : decode cX6_add 44 = .ok (.aload_n 0, 1) := by decide +kernel
theorem dX6_add_45 : decode cX6_add 45 = .ok (.getfield 25, 3) := by decide +kernel
theorem dX6_add_48 : decode cX6_add 48 = .ok (.laload, 1) := by decide +kernel
theorem dX6_add_49 : decode cX6_add 49 = .ok (.iload_n 2, 1) := by decide +kernel
theorem dX6_add_50 : decode cX6_add 50 = .ok (.i2l, 1) := by decide +kernel
theorem dX6_add_51 : decode cX6_add 51 = .ok (.ladd, 1) := by decide +kernel
theorem dX6_add_52 : decode cX6_add 52 = .ok (.lastore, 1) := by decide +kernel
theorem dX6_add_53 : decode cX6_add 53 = .ok (.aload_n 0, 1) := by decide +kernel
theorem dX6_add_54 : decode cX6_add 54 = .ok (.getfield 22, 3) := by decide +kernel
theorem dX6_add_57 : decode cX6_add 57 = .ok (.aload_n 0, 1) := by decide +kernel
theorem dX6_add_58 : decode cX6_add 58 = .ok (.getfield 25, 3) := by decide +kernel
theorem dX6_add_61 : decode cX6_add 61 = .ok (.iconst 1, 1) := by decide +kernel
theorem dX6_add_62 : decode cX6_add 62 = .ok (.iadd, 1) := by decide +kernel
theorem dX6_add_63 : decode cX6_add 63 = .ok (.aload_n 0, 1) := by decide +kernel
theorem dX6_add_64 : decode cX6_add 64 = .ok (.getfield 22, 3) := by decide +kernel
theorem dX6_add_67 : decode cX6_add 67 = .ok (.aload_n 0, 1) := by decide +kernel
theorem dX6_add_68 : decode cX6_add 68 = .ok (.getfield 25, 3) := by decide +kernel
theorem dX6_add_71 : decode cX6_add 71 = .ok (.laload, 1) := by decide +kernel
theorem dX6_add_72 : decode cX6_add 72 = .ok (.iload_n 2, 1) := by decide +kernel
theorem dX6_add_73 : decode cX6_add 73 = .ok (.i2l, 1) := by decide +kernel
theorem dX6_add_74 : decode cX6_add 74 = .ok (.iload_n 2, 1) := by decide +kernel
theorem dX6_add_75 : decode cX6_add 75 = .ok (.i2l, 1) := by decide +kernel
theorem dX6_add_76 : decode cX6_add 76 = .ok (.lmul, 1) := by decide +kernel
theorem dX6_add_77 : decode cX6_add 77 = .ok (.ladd, 1) := by decide +kernel
theorem dX6_add_78 : decode cX6_add 78 = .ok (.lastore, 1) := by decide +kernel
theorem dX6_add_79 : decode cX6_add 79 = .ok (.aload_n 0, 1) := by decide +kernel
theorem dX6_add_80 : decode cX6_add 80 = .ok (.dup, 1) := by decide +kernel
theorem dX6_add_81 : decode cX6_add 81 = .ok (.getfield 25, 3) := by decide +kernel
theorem dX6_add_84 : decode cX6_add 84 = .ok (.iconst 1, 1) := by decide +kernel
theorem dX6_add_85 : decode cX6_add 85 = .ok (.iadd, 1) := by decide +kernel
theorem dX6_add_86 : decode cX6_add 86 = .ok (.putfield 25, 3) := by decide +kernel
theorem dX6_add_89 : decode cX6_add 89 = .ok (.return_, 1) := by decide +kernel
theorem dX6_length_0 : decode cX6_length 0 = .ok (.aload_n 0, 1) := by decide +kernel
theorem dX6_length_1 : decode cX6_length 1 = .ok (.getfield 25, 3) := by decide +kernel
theorem dX6_length_4 : decode cX6_length 4 = .ok (.ireturn, 1) := by decide +kernel
theorem dX6_entryAt_0 : decode cX6_entryAt 0 = .ok (.aload_n 0, 1) := by decide +kernel
theorem dX6_entryAt_1 : decode cX6_entryAt 1 = .ok (.getfield 9, 3) := by decide +kernel
theorem dX6_entryAt_4 : decode cX6_entryAt 4 = .ok (.iload_n 1, 1) := by decide +kernel
theorem dX6_entryAt_5 : decode cX6_entryAt 5 = .ok (.iaload, 1) := by decide +kernel
theorem dX6_entryAt_6 : decode cX6_entryAt 6 = .ok (.ireturn, 1) := by decide +kernel
theorem dX6_yearAt_0 : decode cX6_yearAt 0 = .ok (.aload_n 0, 1) := by decide +kernel
theorem dX6_yearAt_1 : decode cX6_yearAt 1 = .ok (.getfield 15, 3) := by decide +kernel
theorem dX6_yearAt_4 : decode cX6_yearAt 4 = .ok (.iload_n 1, 1) := by decide +kernel
theorem dX6_yearAt_5 : decode cX6_yearAt 5 = .ok (.iaload, 1) := by decide +kernel
theorem dX6_yearAt_6 : decode cX6_yearAt 6 = .ok (.ireturn, 1) := by decide +kernel
theorem dX6_scaledMean_0 : decode cX6_scaledMean 0 = .ok (.iload_n 2, 1) := by decide +kernel
theorem dX6_scaledMean_1 : decode cX6_scaledMean 1 = .ok (.iload_n 1, 1) := by decide +kernel
theorem dX6_scaledMean_2 : decode cX6_scaledMean 2 = .ok (.if_icmp .gt 7, 3) := by decide +kernel
theorem dX6_scaledMean_5 : decode cX6_scaledMean 5 = .ok (.lconst 0, 1) := by decide +kernel
theorem dX6_scaledMean_6 : decode cX6_scaledMean 6 = .ok (.goto 24, 3) := by decide +kernel
theorem dX6_scaledMean_9 : decode cX6_scaledMean 9 = .ok (.aload_n 0, 1) := by decide +kernel
theorem dX6_scaledMean_10 : decode cX6_scaledMean 10 = .ok (.getfield 18, 3) := by decide +kernel
theorem dX6_scaledMean_13 : decode cX6_scaledMean 13 = .ok (.iload_n 2, 1) := by decide +kernel
theorem dX6_scaledMean_14 : decode cX6_scaledMean 14 = .ok (.laload, 1) := by decide +kernel
theorem dX6_scaledMean_15 : decode cX6_scaledMean 15 = .ok (.aload_n 0, 1) := by decide +kernel
theorem dX6_scaledMean_16 : decode cX6_scaledMean 16 = .ok (.getfield 18, 3) := by decide +kernel
theorem dX6_scaledMean_19 : decode cX6_scaledMean 19 = .ok (.iload_n 1, 1) := by decide +kernel
theorem dX6_scaledMean_20 : decode cX6_scaledMean 20 = .ok (.laload, 1) := by decide +kernel
theorem dX6_scaledMean_21 : decode cX6_scaledMean 21 = .ok (.lsub, 1) := by decide +kernel
theorem dX6_scaledMean_22 : decode cX6_scaledMean 22 = .ok (.ldc 46, 2) := by decide +kernel
theorem dX6_scaledMean_24 : decode cX6_scaledMean 24 = .ok (.iload_n 2, 1) := by decide +kernel
theorem dX6_scaledMean_25 : decode cX6_scaledMean 25 = .ok (.iload_n 1, 1) := by decide +kernel
theorem dX6_scaledMean_26 : decode cX6_scaledMean 26 = .ok (.isub, 1) := by decide +kernel
theorem dX6_scaledMean_27 : decode cX6_scaledMean 27 = .ok (.idiv, 1) := by decide +kernel
theorem dX6_scaledMean_28 : decode cX6_scaledMean 28 = .ok (.i2l, 1) := by decide +kernel
theorem dX6_scaledMean_29 : decode cX6_scaledMean 29 = .ok (.lmul, 1) := by decide +kernel
theorem dX6_scaledMean_30 : decode cX6_scaledMean 30 = .ok (.lreturn, 1) := by decide +kernel
theorem dX6_scaledSpread_0 : decode cX6_scaledSpread 0 = .ok (.iload_n 2, 1) := by decide +kernel
theorem dX6_scaledSpread_1 : decode cX6_scaledSpread 1 = .ok (.iload_n 1, 1) := by decide +kernel
theorem dX6_scaledSpread_2 : decode cX6_scaledSpread 2 = .ok (.if_icmp .gt 5, 3) := by decide +kernel
theorem dX6_scaledSpread_5 : decode cX6_scaledSpread 5 = .ok (.lconst 0, 1) := by decide +kernel
theorem dX6_scaledSpread_6 : decode cX6_scaledSpread 6 = .ok (.lreturn, 1) := by decide +kernel
theorem dX6_scaledSpread_7 : decode cX6_scaledSpread 7 = .ok (.iload_n 2, 1) := by decide +kernel
theorem dX6_scaledSpread_8 : decode cX6_scaledSpread 8 = .ok (.iload_n 1, 1) := by decide +kernel
theorem dX6_scaledSpread_9 : decode cX6_scaledSpread 9 = .ok (.isub, 1) := by decide +kernel
theorem dX6_scaledSpread_10 : decode cX6_scaledSpread 10 = .ok (.istore_n 3, 1) := by decide +kernel
theorem dX6_scaledSpread_11 : decode cX6_scaledSpread 11 = .ok (.aload_n 0, 1) := by decide +kernel
theorem dX6_scaledSpread_12 : decode cX6_scaledSpread 12 = .ok (.getfield 18, 3) := by decide +kernel
theorem dX6_scaledSpread_15 : decode cX6_scaledSpread 15 = .ok (.iload_n 2, 1) := by decide +kernel
theorem dX6_scaledSpread_16 : decode cX6_scaledSpread 16 = .ok (.laload, 1) := by decide +kernel
theorem dX6_scaledSpread_17 : decode cX6_scaledSpread 17 = .ok (.aload_n 0, 1) := by decide +kernel
theorem dX6_scaledSpread_18 : decode cX6_scaledSpread 18 = .ok (.getfield 18, 3) := by decide +kernel
theorem dX6_scaledSpread_21 : decode cX6_scaledSpread 21 = .ok (.iload_n 1, 1) := by decide +kernel
theorem dX6_scaledSpread_22 : decode cX6_scaledSpread 22 = .ok (.laload, 1) := by decide +kernel
theorem dX6_scaledSpread_23 : decode cX6_scaledSpread 23 = .ok (.lsub, 1) := by decide +kernel
theorem dX6_scaledSpread_24 : decode cX6_scaledSpread 24 = .ok (.lstore 4, 2) := by decide +kernel
theorem dX6_scaledSpread_26 : decode cX6_scaledSpread 26 = .ok (.iload_n 3, 1) := by decide +kernel
theorem dX6_scaledSpread_27 : decode cX6_scaledSpread 27 = .ok (.i2l, 1) := by decide +kernel
theorem dX6_scaledSpread_28 : decode cX6_scaledSpread 28 = .ok (.aload_n 0, 1) := by decide +kernel
theorem dX6_scaledSpread_29 : decode cX6_scaledSpread 29 = .ok (.getfield 22, 3) := by decide +kernel
theorem dX6_scaledSpread_32 : decode cX6_scaledSpread 32 = .ok (.iload_n 2, 1) := by decide +kernel
theorem dX6_scaledSpread_33 : decode cX6_scaledSpread 33 = .ok (.laload, 1) := by decide +kernel
theorem dX6_scaledSpread_34 : decode cX6_scaledSpread 34 = .ok (.aload_n 0, 1) := by decide +kernel
theorem dX6_scaledSpread_35 : decode cX6_scaledSpread 35 = .ok (.getfield 22, 3) := by decide +kernel
theorem dX6_scaledSpread_38 : decode cX6_scaledSpread 38 = .ok (.iload_n 1, 1) := by decide +kernel
theorem dX6_scaledSpread_39 : decode cX6_scaledSpread 39 = .ok (.laload, 1) := by decide +kernel
theorem dX6_scaledSpread_40 : decode cX6_scaledSpread 40 = .ok (.lsub, 1) := by decide +kernel
theorem dX6_scaledSpread_41 : decode cX6_scaledSpread 41 = .ok (.lmul, 1) := by decide +kernel
theorem dX6_scaledSpread_42 : decode cX6_scaledSpread 42 = .ok (.lload 4, 2) := by decide +kernel
theorem dX6_scaledSpread_44 : decode cX6_scaledSpread 44 = .ok (.lload 4, 2) := by decide +kernel
theorem dX6_scaledSpread_46 : decode cX6_scaledSpread 46 = .ok (.lmul, 1) := by decide +kernel
theorem dX6_scaledSpread_47 : decode cX6_scaledSpread 47 = .ok (.lsub, 1) := by decide +kernel
theorem dX6_scaledSpread_48 : decode cX6_scaledSpread 48 = .ok (.ldc 46, 2) := by decide +kernel
theorem dX6_scaledSpread_50 : decode cX6_scaledSpread 50 = .ok (.iload_n 3, 1) := by decide +kernel
theorem dX6_scaledSpread_51 : decode cX6_scaledSpread 51 = .ok (.idiv, 1) := by decide +kernel
theorem dX6_scaledSpread_52 : decode cX6_scaledSpread 52 = .ok (.i2l, 1) := by decide +kernel
theorem dX6_scaledSpread_53 : decode cX6_scaledSpread 53 = .ok (.lmul, 1) := by decide +kernel
theorem dX6_scaledSpread_54 : decode cX6_scaledSpread 54 = .ok (.lreturn, 1) := by decide +kernel
theorem dX7_init_0 : decode cX7_init 0 = .ok (.aload_n 0, 1) := by decide +kernel
theorem dX7_init_1 : decode cX7_init 1 = .ok (.invokespecial 3, 3) := by decide +kernel
theorem dX7_init_4 : decode cX7_init 4 = .ok (.aload_n 0, 1) := by decide +kernel
theorem dX7_init_5 : decode cX7_init 5 = .ok (.new 9, 3) := by decide +kernel
theorem dX7_init_8 : decode cX7_init 8 = .ok (.dup, 1) := by decide +kernel
theorem dX7_init_9 : decode cX7_init 9 = .ok (.invokespecial 11, 3) := by decide +kernel
theorem dX7_init_12 : decode cX7_init 12 = .ok (.putfield 12, 3) := by decide +kernel
theorem dX7_init_15 : decode cX7_init 15 = .ok (.aload_n 0, 1) := by decide +kernel
theorem dX7_init_16 : decode cX7_init 16 = .ok (.new 16, 3) := by decide +kernel
theorem dX7_init_19 : decode cX7_init 19 = .ok (.dup, 1) := by decide +kernel
theorem dX7_init_20 : decode cX7_init 20 = .ok (.invokespecial 18, 3) := by decide +kernel
theorem dX7_init_23 : decode cX7_init 23 = .ok (.putfield 19, 3) := by decide +kernel
theorem dX7_init_26 : decode cX7_init 26 = .ok (.aload_n 0, 1) := by decide +kernel
theorem dX7_init_27 : decode cX7_init 27 = .ok (.new 23, 3) := by decide +kernel
theorem dX7_init_30 : decode cX7_init 30 = .ok (.dup, 1) := by decide +kernel
theorem dX7_init_31 : decode cX7_init 31 = .ok (.invokespecial 25, 3) := by decide +kernel
theorem dX7_init_34 : decode cX7_init 34 = .ok (.putfield 26, 3) := by decide +kernel
theorem dX7_init_37 : decode cX7_init 37 = .ok (.aload_n 0, 1) := by decide +kernel
theorem dX7_init_38 : decode cX7_init 38 = .ok (.new 30, 3) := by decide +kernel
theorem dX7_init_41 : decode cX7_init 41 = .ok (.dup, 1) := by decide +kernel
theorem dX7_init_42 : decode cX7_init 42 = .ok (.invokespecial 32, 3) := by decide +kernel
theorem dX7_init_45 : decode cX7_init 45 = .ok (.putfield 33, 3) := by decide +kernel
theorem dX7_init_48 : decode cX7_init 48 = .ok (.aload_n 0, 1) := by decide +kernel
theorem dX7_init_49 : decode cX7_init 49 = .ok (.new 37, 3) := by decide +kernel
theorem dX7_init_52 : decode cX7_init 52 = .ok (.dup, 1) := by decide +kernel
theorem dX7_init_53 : decode cX7_init 53 = .ok (.invokespecial 39, 3) := by decide +kernel
theorem dX7_init_56 : decode cX7_init 56 = .ok (.putfield 40, 3) := by decide +kernel
theorem dX7_init_59 : decode cX7_init 59 = .ok (.aload_n 0, 1) := by decide +kernel
theorem dX7_init_60 : decode cX7_init 60 = .ok (.new 44, 3) := by decide +kernel
theorem dX7_init_63 : decode cX7_init 63 = .ok (.dup, 1) := by decide +kernel
theorem dX7_init_64 : decode cX7_init 64 = .ok (.invokespecial 46, 3) := by decide +kernel
theorem dX7_init_67 : decode cX7_init 67 = .ok (.putfield 47, 3) := by decide +kernel
theorem dX7_init_70 : decode cX7_init 70 = .ok (.aload_n 0, 1) := by decide +kernel
theorem dX7_init_71 : decode cX7_init 71 = .ok (.new 51, 3) := by decide +kernel
theorem dX7_init_74 : decode cX7_init 74 = .ok (.dup, 1) := by decide +kernel
theorem dX7_init_75 : decode cX7_init 75 = .ok (.invokespecial 53, 3) := by decide +kernel
theorem dX7_init_78 : decode cX7_init 78 = .ok (.putfield 54, 3) := by decide +kernel
theorem dX7_init_81 : decode cX7_init 81 = .ok (.iconst 0, 1) := by decide +kernel
theorem dX7_init_82 : decode cX7_init 82 = .ok (.istore_n 1, 1) := by decide +kernel
theorem dX7_init_83 : decode cX7_init 83 = .ok (.iload_n 1, 1) := by decide +kernel
theorem dX7_init_84 : decode cX7_init 84 = .ok (.ldc 58, 2) := by decide +kernel
theorem dX7_init_86 : decode cX7_init 86 = .ok (.invokevirtual 60, 3) := by decide +kernel
theorem dX7_init_89 : decode cX7_init 89 = .ok (.if_icmp .ge 23, 3) := by decide +kernel
theorem dX7_init_92 : decode cX7_init 92 = .ok (.aload_n 0, 1) := by decide +kernel
theorem dX7_init_93 : decode cX7_init 93 = .ok (.getfield 12, 3) := by decide +kernel
theorem dX7_init_96 : decode cX7_init 96 = .ok (.ldc 58, 2) := by decide +kernel
theorem dX7_init_98 : decode cX7_init 98 = .ok (.iload_n 1, 1) := by decide +kernel
theorem dX7_init_99 : decode cX7_init 99 = .ok (.invokevirtual 66, 3) := by decide +kernel
theorem dX7_init_102 : decode cX7_init 102 = .ok (.invokevirtual 70, 3) := by decide +kernel
theorem dX7_init_105 : decode cX7_init 105 = .ok (.pop, 1) := by decide +kernel
theorem dX7_init_106 : decode cX7_init 106 = .ok (.iinc 1 1, 3) := by decide +kernel
theorem dX7_init_109 : decode cX7_init 109 = .ok (.goto (-26), 3) := by decide +kernel
theorem dX7_init_112 : decode cX7_init 112 = .ok (.aload_n 0, 1) := by decide +kernel
theorem dX7_init_113 : decode cX7_init 113 = .ok (.invokevirtual 74, 3) := by decide +kernel
theorem dX7_init_116 : decode cX7_init 116 = .ok (.pop, 1) := by decide +kernel
theorem dX7_init_117 : decode cX7_init 117 = .ok (.aload_n 0, 1) := by decide +kernel
theorem dX7_init_118 : decode cX7_init 118 = .ok (.getfield 12, 3) := by decide +kernel
theorem dX7_init_121 : decode cX7_init 121 = .ok (.invokevirtual 77, 3) := by decide +kernel
theorem dX7_init_124 : decode cX7_init 124 = .ok (.return_, 1) := by decide +kernel
theorem dX7_write_0 : decode cX7_write 0 = .ok (.iload_n 1, 1) := by decide +kernel
theorem dX7_write_1 : decode cX7_write 1 = .ok (.bipush 32, 2) := by decide +kernel
theorem dX7_write_3 : decode cX7_write 3 = .ok (.if_icmp .lt 9, 3) := by decide +kernel
theorem dX7_write_6 : decode cX7_write 6 = .ok (.iload_n 1, 1) := by decide +kernel
theorem dX7_write_7 : decode cX7_write 7 = .ok (.bipush 126, 2) := by decide +kernel
theorem dX7_write_9 : decode cX7_write 9 = .ok (.if_icmp .le 5, 3) := by decide +kernel
theorem dX7_write_12 : decode cX7_write 12 = .ok (.iconst (-1), 1) := by decide +kernel
theorem dX7_write_13 : decode cX7_write 13 = .ok (.ireturn, 1) := by decide +kernel
theorem dX7_write_14 : decode cX7_write 14 = .ok (.aload_n 0, 1) := by decide +kernel
theorem dX7_write_15 : decode cX7_write 15 = .ok (.getfield 12, 3) := by decide +kernel
theorem dX7_write_18 : decode cX7_write 18 = .ok (.iload_n 1, 1) := by decide +kernel
theorem dX7_write_19 : decode cX7_write 19 = .ok (.i2c, 1) := by decide +kernel
theorem dX7_write_20 : decode cX7_write 20 = .ok (.invokevirtual 70, 3) := by decide +kernel
theorem dX7_write_23 : decode cX7_write 23 = .ok (.ifCond .eq 13, 3) := by decide +kernel
theorem dX7_write_26 : decode cX7_write 26 = .ok (.aload_n 0, 1) := by decide +kernel
theorem dX7_write_27 : decode cX7_write 27 = .ok (.getfield 12, 3) := by decide +kernel
theorem dX7_write_30 : decode cX7_write 30 = .ok (.invokevirtual 80, 3) := by decide +kernel
theorem dX7_write_33 : decode cX7_write 33 = .ok (.goto 5, 3) := by decide +kernel
theorem dX7_write_36 : decode cX7_write 36 = .ok (.bipush (-3), 2) := by decide +kernel
theorem dX7_write_38 : decode cX7_write 38 = .ok (.ireturn, 1) := by decide +kernel
theorem dX7_wipe_0 : decode cX7_wipe 0 = .ok (.aload_n 0, 1) := by decide +kernel
theorem dX7_wipe_1 : decode cX7_wipe 1 = .ok (.getfield 12, 3) := by decide +kernel
theorem dX7_wipe_4 : decode cX7_wipe 4 = .ok (.invokevirtual 80, 3) := by decide +kernel
theorem dX7_wipe_7 : decode cX7_wipe 7 = .ok (.istore_n 1, 1) := by decide +kernel
theorem dX7_wipe_8 : decode cX7_wipe 8 = .ok (.aload_n 0, 1) := by decide +kernel
theorem dX7_wipe_9 : decode cX7_wipe 9 = .ok (.getfield 12, 3) := by decide +kernel
theorem dX7_wipe_12 : decode cX7_wipe 12 = .ok (.invokevirtual 77, 3) := by decide +kernel
theorem dX7_wipe_15 : decode cX7_wipe 15 = .ok (.iload_n 1, 1) := by decide +kernel
theorem dX7_wipe_16 : decode cX7_wipe 16 = .ok (.ireturn, 1) := by decide +kernel
theorem dX7_fault_0 : decode cX7_fault 0 = .ok (.aload_n 0, 1) := by decide +kernel
theorem dX7_fault_1 : decode cX7_fault 1 = .ok (.getfield 12, 3) := by decide +kernel
theorem dX7_fault_4 : decode cX7_fault 4 = .ok (.invokevirtual 81, 3) := by decide +kernel
theorem dX7_fault_7 : decode cX7_fault 7 = .ok (.ireturn, 1) := by decide +kernel
theorem dX7_lay_0 : decode cX7_lay 0 = .ok (.aload_n 0, 1) := by decide +kernel
theorem dX7_lay_1 : decode cX7_lay 1 = .ok (.invokevirtual 74, 3) := by decide +kernel
theorem dX7_lay_4 : decode cX7_lay 4 = .ok (.ireturn, 1) := by decide +kernel
theorem dX7_layScript_0 : decode cX7_layScript 0 = .ok (.aload_n 0, 1) := by decide +kernel
theorem dX7_layScript_1 : decode cX7_layScript 1 = .ok (.getfield 12, 3) := by decide +kernel
theorem dX7_layScript_4 : decode cX7_layScript 4 = .ok (.invokevirtual 81, 3) := by decide +kernel
theorem dX7_layScript_7 : decode cX7_layScript 7 = .ok (.bipush (-4), 2) := by decide +kernel
theorem dX7_layScript_9 : decode cX7_layScript 9 = .ok (.if_icmp .ne 17, 3) := by decide +kernel
theorem dX7_layScript_12 : decode cX7_layScript 12 = .ok (.aload_n 0, 1) := by decide +kernel
theorem dX7_layScript_13 : decode cX7_layScript 13 = .ok (.getfield 12, 3) := by decide +kernel
theorem dX7_layScript_16 : decode cX7_layScript 16 = .ok (.invokevirtual 84, 3) := by decide +kernel
theorem dX7_layScript_19 : decode cX7_layScript 19 = .ok (.invokevirtual 88, 3) := by decide +kernel
theorem dX7_layScript_22 : decode cX7_layScript 22 = .ok (.iconst 2, 1) := by decide +kernel
theorem dX7_layScript_23 : decode cX7_layScript 23 = .ok (.if_icmp .ge 6, 3) := by decide +kernel
theorem dX7_layScript_26 : decode cX7_layScript 26 = .ok (.bipush (-2), 2) := by decide +kernel
theorem dX7_layScript_28 : decode cX7_layScript 28 = .ok (.ireturn, 1) := by decide +kernel
theorem dX7_layScript_29 : decode cX7_layScript 29 = .ok (.aload_n 0, 1) := by decide +kernel
theorem dX7_layScript_30 : decode cX7_layScript 30 = .ok (.getfield 19, 3) := by decide +kernel
theorem dX7_layScript_33 : decode cX7_layScript 33 = .ok (.aload_n 0, 1) := by decide +kernel
theorem dX7_layScript_34 : decode cX7_layScript 34 = .ok (.getfield 12, 3) := by decide +kernel
theorem dX7_layScript_37 : decode cX7_layScript 37 = .ok (.invokevirtual 84, 3) := by decide +kernel
theorem dX7_layScript_40 : decode cX7_layScript 40 = .ok (.invokevirtual 91, 3) := by decide +kernel
theorem dX7_layScript_43 : decode cX7_layScript 43 = .ok (.aload_n 0, 1) := by decide +kernel
theorem dX7_layScript_44 : decode cX7_layScript 44 = .ok (.getfield 54, 3) := by decide +kernel
theorem dX7_layScript_47 : decode cX7_layScript 47 = .ok (.invokevirtual 95, 3) := by decide +kernel
theorem dX7_layScript_50 : decode cX7_layScript 50 = .ok (.aload_n 0, 1) := by decide +kernel
theorem dX7_layScript_51 : decode cX7_layScript 51 = .ok (.getfield 47, 3) := by decide +kernel
theorem dX7_layScript_54 : decode cX7_layScript 54 = .ok (.invokevirtual 96, 3) := by decide +kernel
theorem dX7_layScript_57 : decode cX7_layScript 57 = .ok (.aload_n 0, 1) := by decide +kernel
theorem dX7_layScript_58 : decode cX7_layScript 58 = .ok (.getfield 19, 3) := by decide +kernel
theorem dX7_layScript_61 : decode cX7_layScript 61 = .ok (.invokevirtual 88, 3) := by decide +kernel
theorem dX7_layScript_64 : decode cX7_layScript 64 = .ok (.ireturn, 1) := by decide +kernel
theorem dX7_value_0 : decode cX7_value 0 = .ok (.aload_n 0, 1) := by decide +kernel
theorem dX7_value_1 : decode cX7_value 1 = .ok (.getfield 19, 3) := by decide +kernel
theorem dX7_value_4 : decode cX7_value 4 = .ok (.iload_n 1, 1) := by decide +kernel
theorem dX7_value_5 : decode cX7_value 5 = .ok (.iload_n 2, 1) := by decide +kernel
theorem dX7_value_6 : decode cX7_value 6 = .ok (.invokevirtual 97, 3) := by decide +kernel
theorem dX7_value_9 : decode cX7_value 9 = .ok (.ifCond .eq 18, 3) := by decide +kernel
theorem dX7_value_12 : decode cX7_value 12 = .ok (.aload_n 0, 1) := by decide +kernel
theorem dX7_value_13 : decode cX7_value 13 = .ok (.getfield 19, 3) := by decide +kernel
theorem dX7_value_16 : decode cX7_value 16 = .ok (.iload_n 1, 1) := by decide +kernel
theorem dX7_value_17 : decode cX7_value 17 = .ok (.iload_n 2, 1) := by decide +kernel
theorem dX7_value_18 : decode cX7_value 18 = .ok (.invokevirtual 101, 3) := by decide +kernel
theorem dX7_value_21 : decode cX7_value 21 = .ok (.invokestatic 105, 3) := by decide +kernel
theorem dX7_value_24 : decode cX7_value 24 = .ok (.goto 4, 3) := by decide +kernel
theorem dX7_value_27 : decode cX7_value 27 = .ok (.iconst (-1), 1) := by decide +kernel
theorem dX7_value_28 : decode cX7_value 28 = .ok (.ireturn, 1) := by decide +kernel
theorem dX7_shown_0 : decode cX7_shown 0 = .ok (.iload_n 0, 1) := by decide +kernel
theorem dX7_shown_1 : decode cX7_shown 1 = .ok (.ldc 109, 2) := by decide +kernel
theorem dX7_shown_3 : decode cX7_shown 3 = .ok (.if_icmp .ne 8, 3) := by decide +kernel
theorem dX7_shown_6 : decode cX7_shown 6 = .ok (.bipush (-4), 2) := by decide +kernel
theorem dX7_shown_8 : decode cX7_shown 8 = .ok (.goto 7, 3) := by decide +kernel
theorem dX7_shown_11 : decode cX7_shown 11 = .ok (.iload_n 0, 1) := by decide +kernel
theorem dX7_shown_12 : decode cX7_shown 12 = .ok (.ldc 110, 2) := by decide +kernel
theorem dX7_shown_14 : decode cX7_shown 14 = .ok (.iadd, 1) := by decide +kernel
theorem dX7_shown_15 : decode cX7_shown 15 = .ok (.ireturn, 1) := by decide +kernel
theorem dX7_isValue_0 : decode cX7_isValue 0 = .ok (.iload_n 0, 1) := by decide +kernel
theorem dX7_isValue_1 : decode cX7_isValue 1 = .ok (.sipush (-9999), 3) := by decide +kernel
theorem dX7_isValue_4 : decode cX7_isValue 4 = .ok (.if_icmp .lt 14, 3) := by decide +kernel
theorem dX7_isValue_7 : decode cX7_isValue 7 = .ok (.iload_n 0, 1) := by decide +kernel
theorem dX7_isValue_8 : decode cX7_isValue 8 = .ok (.sipush 9999, 3) := by decide +kernel
theorem dX7_isValue_11 : decode cX7_isValue 11 = .ok (.if_icmp .gt 7, 3) := by decide +kernel
theorem dX7_isValue_14 : decode cX7_isValue 14 = .ok (.iconst 1, 1) := by decide +kernel
theorem dX7_isValue_15 : decode cX7_isValue 15 = .ok (.goto 4, 3) := by decide +kernel
theorem dX7_isValue_18 : decode cX7_isValue 18 = .ok (.iconst 0, 1) := by decide +kernel
theorem dX7_isValue_19 : decode cX7_isValue 19 = .ok (.ireturn, 1) := by decide +kernel
theorem dX7_set_0 : decode cX7_set 0 = .ok (.aload_n 0, 1) := by decide +kernel
theorem dX7_set_1 : decode cX7_set 1 = .ok (.getfield 19, 3) := by decide +kernel
theorem dX7_set_4 : decode cX7_set 4 = .ok (.iload_n 1, 1) := by decide +kernel
theorem dX7_set_5 : decode cX7_set 5 = .ok (.iload_n 2, 1) := by decide +kernel
theorem dX7_set_6 : decode cX7_set 6 = .ok (.invokevirtual 97, 3) := by decide +kernel
theorem dX7_set_9 : decode cX7_set 9 = .ok (.ifCond .eq 10, 3) := by decide +kernel
theorem dX7_set_12 : decode cX7_set 12 = .ok (.iload_n 3, 1) := by decide +kernel
theorem dX7_set_13 : decode cX7_set 13 = .ok (.invokestatic 111, 3) := by decide +kernel
theorem dX7_set_16 : decode cX7_set 16 = .ok (.ifCond .ne 5, 3) := by decide +kernel
theorem dX7_set_19 : decode cX7_set 19 = .ok (.iconst (-1), 1) := by decide +kernel
theorem dX7_set_20 : decode cX7_set 20 = .ok (.ireturn, 1) := by decide +kernel
theorem dX7_set_21 : decode cX7_set 21 = .ok (.aload_n 0, 1) := by decide +kernel
theorem dX7_set_22 : decode cX7_set 22 = .ok (.getfield 19, 3) := by decide +kernel
theorem dX7_set_25 : decode cX7_set 25 = .ok (.iload_n 1, 1) := by decide +kernel
theorem dX7_set_26 : decode cX7_set 26 = .ok (.iload_n 2, 1) := by decide +kernel
theorem dX7_set_27 : decode cX7_set 27 = .ok (.invokevirtual 101, 3) := by decide +kernel
theorem dX7_set_30 : decode cX7_set 30 = .ok (.istore 4, 2) := by decide +kernel
theorem dX7_set_32 : decode cX7_set 32 = .ok (.aload_n 0, 1) := by decide +kernel
theorem dX7_set_33 : decode cX7_set 33 = .ok (.iload_n 1, 1) := by decide +kernel
theorem dX7_set_34 : decode cX7_set 34 = .ok (.iload_n 2, 1) := by decide +kernel
theorem dX7_set_35 : decode cX7_set 35 = .ok (.iload_n 3, 1) := by decide +kernel
theorem dX7_set_36 : decode cX7_set 36 = .ok (.invokevirtual 115, 3) := by decide +kernel
theorem dX7_set_39 : decode cX7_set 39 = .ok (.ifCond .eq 11, 3) := by decide +kernel
theorem dX7_set_42 : decode cX7_set 42 = .ok (.iload 4, 2) := by decide +kernel
theorem dX7_set_44 : decode cX7_set 44 = .ok (.invokestatic 105, 3) := by decide +kernel
theorem dX7_set_47 : decode cX7_set 47 = .ok (.goto 5, 3) := by decide +kernel
theorem dX7_set_50 : decode cX7_set 50 = .ok (.bipush (-2), 2) := by decide +kernel
theorem dX7_set_52 : decode cX7_set 52 = .ok (.ireturn, 1) := by decide +kernel
theorem dX7_lose_0 : decode cX7_lose 0 = .ok (.aload_n 0, 1) := by decide +kernel
theorem dX7_lose_1 : decode cX7_lose 1 = .ok (.getfield 19, 3) := by decide +kernel
theorem dX7_lose_4 : decode cX7_lose 4 = .ok (.iload_n 1, 1) := by decide +kernel
theorem dX7_lose_5 : decode cX7_lose 5 = .ok (.iload_n 2, 1) := by decide +kernel
theorem dX7_lose_6 : decode cX7_lose 6 = .ok (.invokevirtual 97, 3) := by decide +kernel
theorem dX7_lose_9 : decode cX7_lose 9 = .ok (.ifCond .ne 5, 3) := by decide +kernel
theorem dX7_lose_12 : decode cX7_lose 12 = .ok (.iconst (-1), 1) := by decide +kernel
theorem dX7_lose_13 : decode cX7_lose 13 = .ok (.ireturn, 1) := by decide +kernel
theorem dX7_lose_14 : decode cX7_lose 14 = .ok (.aload_n 0, 1) := by decide +kernel
theorem dX7_lose_15 : decode cX7_lose 15 = .ok (.getfield 19, 3) := by decide +kernel
theorem dX7_lose_18 : decode cX7_lose 18 = .ok (.iload_n 1, 1) := by decide +kernel
theorem dX7_lose_19 : decode cX7_lose 19 = .ok (.iload_n 2, 1) := by decide +kernel
theorem dX7_lose_20 : decode cX7_lose 20 = .ok (.invokevirtual 101, 3) := by decide +kernel
theorem dX7_lose_23 : decode cX7_lose 23 = .ok (.istore_n 3, 1) := by decide +kernel
theorem dX7_lose_24 : decode cX7_lose 24 = .ok (.aload_n 0, 1) := by decide +kernel
theorem dX7_lose_25 : decode cX7_lose 25 = .ok (.iload_n 1, 1) := by decide +kernel
theorem dX7_lose_26 : decode cX7_lose 26 = .ok (.iload_n 2, 1) := by decide +kernel
theorem dX7_lose_27 : decode cX7_lose 27 = .ok (.ldc 109, 2) := by decide +kernel
theorem dX7_lose_29 : decode cX7_lose 29 = .ok (.invokevirtual 115, 3) := by decide +kernel
theorem dX7_lose_32 : decode cX7_lose 32 = .ok (.ifCond .eq 10, 3) := by decide +kernel
theorem dX7_lose_35 : decode cX7_lose 35 = .ok (.iload_n 3, 1) := by decide +kernel
theorem dX7_lose_36 : decode cX7_lose 36 = .ok (.invokestatic 105, 3) := by decide +kernel
theorem dX7_lose_39 : decode cX7_lose 39 = .ok (.goto 5, 3) := by decide +kernel
theorem dX7_lose_42 : decode cX7_lose 42 = .ok (.bipush (-2), 2) := by decide +kernel
theorem dX7_lose_44 : decode cX7_lose 44 = .ok (.ireturn, 1) := by decide +kernel
theorem dX7_changeValue_0 : decode cX7_changeValue 0 = .ok (.aload_n 0, 1) := by decide +kernel
theorem dX7_changeValue_1 : decode cX7_changeValue 1 = .ok (.getfield 19, 3) := by decide +kernel
theorem dX7_changeValue_4 : decode cX7_changeValue 4 = .ok (.iload_n 1, 1) := by decide +kernel
theorem dX7_changeValue_5 : decode cX7_changeValue 5 = .ok (.iload_n 2, 1) := by decide +kernel
theorem dX7_changeValue_6 : decode cX7_changeValue 6 = .ok (.invokevirtual 101, 3) := by decide +kernel
theorem dX7_changeValue_9 : decode cX7_changeValue 9 = .ok (.istore 4, 2) := by decide +kernel
theorem dX7_changeValue_11 : decode cX7_changeValue 11 = .ok (.iload 4, 2) := by decide +kernel
theorem dX7_changeValue_13 : decode cX7_changeValue 13 = .ok (.iload_n 3, 1) := by decide +kernel
theorem dX7_changeValue_14 : decode cX7_changeValue 14 = .ok (.if_icmp .ne 5, 3) := by decide +kernel
theorem dX7_changeValue_17 : decode cX7_changeValue 17 = .ok (.iconst 0, 1) := by decide +kernel
theorem dX7_changeValue_18 : decode cX7_changeValue 18 = .ok (.ireturn, 1) := by decide +kernel
theorem dX7_changeValue_19 : decode cX7_changeValue 19 = .ok (.aload_n 0, 1) := by decide +kernel
theorem dX7_changeValue_20 : decode cX7_changeValue 20 = .ok (.getfield 47, 3) := by decide +kernel
theorem dX7_changeValue_23 : decode cX7_changeValue 23 = .ok (.iconst 0, 1) := by decide +kernel
theorem dX7_changeValue_24 : decode cX7_changeValue 24 = .ok (.iload_n 1, 1) := by decide +kernel
theorem dX7_changeValue_25 : decode cX7_changeValue 25 = .ok (.iload_n 2, 1) := by decide +kernel
theorem dX7_changeValue_26 : decode cX7_changeValue 26 = .ok (.iload 4, 2) := by decide +kernel
theorem dX7_changeValue_28 : decode cX7_changeValue 28 = .ok (.invokevirtual 119, 3) := by decide +kernel
theorem dX7_changeValue_31 : decode cX7_changeValue 31 = .ok (.aload_n 0, 1) := by decide +kernel
theorem dX7_changeValue_32 : decode cX7_changeValue 32 = .ok (.getfield 19, 3) := by decide +kernel
theorem dX7_changeValue_35 : decode cX7_changeValue 35 = .ok (.iload_n 1, 1) := by decide +kernel
theorem dX7_changeValue_36 : decode cX7_changeValue 36 = .ok (.iload_n 2, 1) := by decide +kernel
theorem dX7_changeValue_37 : decode cX7_changeValue 37 = .ok (.iload_n 3, 1) := by decide +kernel
theorem dX7_changeValue_38 : decode cX7_changeValue 38 = .ok (.invokevirtual 123, 3) := by decide +kernel
theorem dX7_changeValue_41 : decode cX7_changeValue 41 = .ok (.iconst 1, 1) := by decide +kernel
theorem dX7_changeValue_42 : decode cX7_changeValue 42 = .ok (.ireturn, 1) := by decide +kernel
theorem dX7_penalty_0 : decode cX7_penalty 0 = .ok (.iload_n 1, 1) := by decide +kernel
theorem dX7_penalty_1 : decode cX7_penalty 1 = .ok (.invokestatic 127, 3) := by decide +kernel
theorem dX7_penalty_4 : decode cX7_penalty 4 = .ok (.ifCond .ne 5, 3) := by decide +kernel
theorem dX7_penalty_7 : decode cX7_penalty 7 = .ok (.iconst (-1), 1) := by decide +kernel
theorem dX7_penalty_8 : decode cX7_penalty 8 = .ok (.ireturn, 1) := by decide +kernel
theorem dX7_penalty_9 : decode cX7_penalty 9 = .ok (.aload_n 0, 1) := by decide +kernel
theorem dX7_penalty_10 : decode cX7_penalty 10 = .ok (.getfield 19, 3) := by decide +kernel
theorem dX7_penalty_13 : decode cX7_penalty 13 = .ok (.invokevirtual 130, 3) := by decide +kernel
theorem dX7_penalty_16 : decode cX7_penalty 16 = .ok (.istore_n 2, 1) := by decide +kernel
theorem dX7_penalty_17 : decode cX7_penalty 17 = .ok (.iload_n 2, 1) := by decide +kernel
theorem dX7_penalty_18 : decode cX7_penalty 18 = .ok (.iload_n 1, 1) := by decide +kernel
theorem dX7_penalty_19 : decode cX7_penalty 19 = .ok (.if_icmp .ne 6, 3) := by decide +kernel
theorem dX7_penalty_22 : decode cX7_penalty 22 = .ok (.bipush (-2), 2) := by decide +kernel
theorem dX7_penalty_24 : decode cX7_penalty 24 = .ok (.ireturn, 1) := by decide +kernel
theorem dX7_penalty_25 : decode cX7_penalty 25 = .ok (.aload_n 0, 1) := by decide +kernel
theorem dX7_penalty_26 : decode cX7_penalty 26 = .ok (.getfield 47, 3) := by decide +kernel
theorem dX7_penalty_29 : decode cX7_penalty 29 = .ok (.iconst 1, 1) := by decide +kernel
theorem dX7_penalty_30 : decode cX7_penalty 30 = .ok (.iconst 0, 1) := by decide +kernel
theorem dX7_penalty_31 : decode cX7_penalty 31 = .ok (.iconst 0, 1) := by decide +kernel
theorem dX7_penalty_32 : decode cX7_penalty 32 = .ok (.iload_n 2, 1) := by decide +kernel
theorem dX7_penalty_33 : decode cX7_penalty 33 = .ok (.invokevirtual 119, 3) := by decide +kernel
theorem dX7_penalty_36 : decode cX7_penalty 36 = .ok (.aload_n 0, 1) := by decide +kernel
theorem dX7_penalty_37 : decode cX7_penalty 37 = .ok (.getfield 19, 3) := by decide +kernel
theorem dX7_penalty_40 : decode cX7_penalty 40 = .ok (.iload_n 1, 1) := by decide +kernel
theorem dX7_penalty_41 : decode cX7_penalty 41 = .ok (.invokevirtual 133, 3) := by decide +kernel
theorem dX7_penalty_44 : decode cX7_penalty 44 = .ok (.iload_n 2, 1) := by decide +kernel
theorem dX7_penalty_45 : decode cX7_penalty 45 = .ok (.ireturn, 1) := by decide +kernel
theorem dX7_isPenalty_0 : decode cX7_isPenalty 0 = .ok (.iload_n 0, 1) := by decide +kernel
theorem dX7_isPenalty_1 : decode cX7_isPenalty 1 = .ok (.ifCond .lt 13, 3) := by decide +kernel
theorem dX7_isPenalty_4 : decode cX7_isPenalty 4 = .ok (.iload_n 0, 1) := by decide +kernel
theorem dX7_isPenalty_5 : decode cX7_isPenalty 5 = .ok (.ldc 137, 2) := by decide +kernel
theorem dX7_isPenalty_7 : decode cX7_isPenalty 7 = .ok (.if_icmp .gt 7, 3) := by decide +kernel
theorem dX7_isPenalty_10 : decode cX7_isPenalty 10 = .ok (.iconst 1, 1) := by decide +kernel
theorem dX7_isPenalty_11 : decode cX7_isPenalty 11 = .ok (.goto 4, 3) := by decide +kernel
theorem dX7_isPenalty_14 : decode cX7_isPenalty 14 = .ok (.iconst 0, 1) := by decide +kernel
theorem dX7_isPenalty_15 : decode cX7_isPenalty 15 = .ok (.ireturn, 1) := by decide +kernel
theorem dX7_rule_0 : decode cX7_rule 0 = .ok (.iload_n 1, 1) := by decide +kernel
theorem dX7_rule_1 : decode cX7_rule 1 = .ok (.iload_n 2, 1) := by decide +kernel
theorem dX7_rule_2 : decode cX7_rule 2 = .ok (.invokestatic 138, 3) := by decide +kernel
theorem dX7_rule_5 : decode cX7_rule 5 = .ok (.ifCond .ne 5, 3) := by decide +kernel
theorem dX7_rule_8 : decode cX7_rule 8 = .ok (.iconst (-1), 1) := by decide +kernel
theorem dX7_rule_9 : decode cX7_rule 9 = .ok (.ireturn, 1) := by decide +kernel
theorem dX7_rule_10 : decode cX7_rule 10 = .ok (.aload_n 0, 1) := by decide +kernel
theorem dX7_rule_11 : decode cX7_rule 11 = .ok (.getfield 19, 3) := by decide +kernel
theorem dX7_rule_14 : decode cX7_rule 14 = .ok (.iload_n 1, 1) := by decide +kernel
theorem dX7_rule_15 : decode cX7_rule 15 = .ok (.invokevirtual 141, 3) := by decide +kernel
theorem dX7_rule_18 : decode cX7_rule 18 = .ok (.istore_n 3, 1) := by decide +kernel
theorem dX7_rule_19 : decode cX7_rule 19 = .ok (.iload_n 3, 1) := by decide +kernel
theorem dX7_rule_20 : decode cX7_rule 20 = .ok (.iload_n 2, 1) := by decide +kernel
theorem dX7_rule_21 : decode cX7_rule 21 = .ok (.if_icmp .ne 6, 3) := by decide +kernel
theorem dX7_rule_24 : decode cX7_rule 24 = .ok (.bipush (-2), 2) := by decide +kernel
theorem dX7_rule_26 : decode cX7_rule 26 = .ok (.ireturn, 1) := by decide +kernel
theorem dX7_rule_27 : decode cX7_rule 27 = .ok (.aload_n 0, 1) := by decide +kernel
theorem dX7_rule_28 : decode cX7_rule 28 = .ok (.getfield 47, 3) := by decide +kernel
theorem dX7_rule_31 : decode cX7_rule 31 = .ok (.iconst 2, 1) := by decide +kernel
theorem dX7_rule_32 : decode cX7_rule 32 = .ok (.iload_n 1, 1) := by decide +kernel
theorem dX7_rule_33 : decode cX7_rule 33 = .ok (.iconst 0, 1) := by decide +kernel
theorem dX7_rule_34 : decode cX7_rule 34 = .ok (.iload_n 3, 1) := by decide +kernel
theorem dX7_rule_35 : decode cX7_rule 35 = .ok (.invokevirtual 119, 3) := by decide +kernel
theorem dX7_rule_38 : decode cX7_rule 38 = .ok (.aload_n 0, 1) := by decide +kernel
theorem dX7_rule_39 : decode cX7_rule 39 = .ok (.getfield 19, 3) := by decide +kernel
theorem dX7_rule_42 : decode cX7_rule 42 = .ok (.iload_n 1, 1) := by decide +kernel
theorem dX7_rule_43 : decode cX7_rule 43 = .ok (.iload_n 2, 1) := by decide +kernel
theorem dX7_rule_44 : decode cX7_rule 44 = .ok (.invokevirtual 144, 3) := by decide +kernel
theorem dX7_rule_47 : decode cX7_rule 47 = .ok (.iload_n 3, 1) := by decide +kernel
theorem dX7_rule_48 : decode cX7_rule 48 = .ok (.ireturn, 1) := by decide +kernel
theorem dX7_isRule_0 : decode cX7_isRule 0 = .ok (.iload_n 0, 1) := by decide +kernel
theorem dX7_isRule_1 : decode cX7_isRule 1 = .ok (.ifCond .lt 30, 3) := by decide +kernel
theorem dX7_isRule_4 : decode cX7_isRule 4 = .ok (.iload_n 0, 1) := by decide +kernel
theorem dX7_isRule_5 : decode cX7_isRule 5 = .ok (.iconst 4, 1) := by decide +kernel
theorem dX7_isRule_6 : decode cX7_isRule 6 = .ok (.if_icmp .ge 25, 3) := by decide +kernel
theorem dX7_isRule_9 : decode cX7_isRule 9 = .ok (.iload_n 1, 1) := by decide +kernel
theorem dX7_isRule_10 : decode cX7_isRule 10 = .ok (.getstatic 148, 3) := by decide +kernel
theorem dX7_isRule_13 : decode cX7_isRule 13 = .ok (.iload_n 0, 1) := by decide +kernel
theorem dX7_isRule_14 : decode cX7_isRule 14 = .ok (.iaload, 1) := by decide +kernel
theorem dX7_isRule_15 : decode cX7_isRule 15 = .ok (.if_icmp .lt 16, 3) := by decide +kernel
theorem dX7_isRule_18 : decode cX7_isRule 18 = .ok (.iload_n 1, 1) := by decide +kernel
theorem dX7_isRule_19 : decode cX7_isRule 19 = .ok (.getstatic 152, 3) := by decide +kernel
theorem dX7_isRule_22 : decode cX7_isRule 22 = .ok (.iload_n 0, 1) := by decide +kernel
theorem dX7_isRule_23 : decode cX7_isRule 23 = .ok (.iaload, 1) := by decide +kernel
theorem dX7_isRule_24 : decode cX7_isRule 24 = .ok (.if_icmp .gt 7, 3) := by decide +kernel
theorem dX7_isRule_27 : decode cX7_isRule 27 = .ok (.iconst 1, 1) := by decide +kernel
theorem dX7_isRule_28 : decode cX7_isRule 28 = .ok (.goto 4, 3) := by decide +kernel
theorem dX7_isRule_31 : decode cX7_isRule 31 = .ok (.iconst 0, 1) := by decide +kernel
theorem dX7_isRule_32 : decode cX7_isRule 32 = .ok (.ireturn, 1) := by decide +kernel
theorem dX7_undo_0 : decode cX7_undo 0 = .ok (.aload_n 0, 1) := by decide +kernel
theorem dX7_undo_1 : decode cX7_undo 1 = .ok (.getfield 47, 3) := by decide +kernel
theorem dX7_undo_4 : decode cX7_undo 4 = .ok (.invokevirtual 155, 3) := by decide +kernel
theorem dX7_undo_7 : decode cX7_undo 7 = .ok (.ifCond .ne 6, 3) := by decide +kernel
theorem dX7_undo_10 : decode cX7_undo 10 = .ok (.bipush (-2), 2) := by decide +kernel
theorem dX7_undo_12 : decode cX7_undo 12 = .ok (.ireturn, 1) := by decide +kernel
theorem dX7_undo_13 : decode cX7_undo 13 = .ok (.aload_n 0, 1) := by decide +kernel
theorem dX7_undo_14 : decode cX7_undo 14 = .ok (.getfield 47, 3) := by decide +kernel
theorem dX7_undo_17 : decode cX7_undo 17 = .ok (.iconst 1, 1) := by decide +kernel
theorem dX7_undo_18 : decode cX7_undo 18 = .ok (.invokevirtual 156, 3) := by decide +kernel
theorem dX7_undo_21 : decode cX7_undo 21 = .ok (.istore_n 1, 1) := by decide +kernel
theorem dX7_undo_22 : decode cX7_undo 22 = .ok (.aload_n 0, 1) := by decide +kernel
theorem dX7_undo_23 : decode cX7_undo 23 = .ok (.getfield 47, 3) := by decide +kernel
theorem dX7_undo_26 : decode cX7_undo 26 = .ok (.iconst 2, 1) := by decide +kernel
theorem dX7_undo_27 : decode cX7_undo 27 = .ok (.invokevirtual 156, 3) := by decide +kernel
theorem dX7_undo_30 : decode cX7_undo 30 = .ok (.istore_n 2, 1) := by decide +kernel
theorem dX7_undo_31 : decode cX7_undo 31 = .ok (.aload_n 0, 1) := by decide +kernel
theorem dX7_undo_32 : decode cX7_undo 32 = .ok (.getfield 47, 3) := by decide +kernel
theorem dX7_undo_35 : decode cX7_undo 35 = .ok (.iconst 3, 1) := by decide +kernel
theorem dX7_undo_36 : decode cX7_undo 36 = .ok (.invokevirtual 156, 3) := by decide +kernel
theorem dX7_undo_39 : decode cX7_undo 39 = .ok (.istore_n 3, 1) := by decide +kernel
theorem dX7_undo_40 : decode cX7_undo 40 = .ok (.aload_n 0, 1) := by decide +kernel
theorem dX7_undo_41 : decode cX7_undo 41 = .ok (.getfield 47, 3) := by decide +kernel
theorem dX7_undo_44 : decode cX7_undo 44 = .ok (.iconst 0, 1) := by decide +kernel
theorem dX7_undo_45 : decode cX7_undo 45 = .ok (.invokevirtual 156, 3) := by decide +kernel
theorem dX7_undo_48 : decode cX7_undo 48 = .ok (.tableswitch 64 0 2 #[28, 41, 52], 28) := by decide +kernel
theorem dX7_undo_76 : decode cX7_undo 76 = .ok (.aload_n 0, 1) := by decide +kernel
theorem dX7_undo_77 : decode cX7_undo 77 = .ok (.getfield 19, 3) := by decide +kernel
theorem dX7_undo_80 : decode cX7_undo 80 = .ok (.iload_n 1, 1) := by decide +kernel
theorem dX7_undo_81 : decode cX7_undo 81 = .ok (.iload_n 2, 1) := by decide +kernel
theorem dX7_undo_82 : decode cX7_undo 82 = .ok (.iload_n 3, 1) := by decide +kernel
theorem dX7_undo_83 : decode cX7_undo 83 = .ok (.invokevirtual 123, 3) := by decide +kernel
theorem dX7_undo_86 : decode cX7_undo 86 = .ok (.goto 44, 3) := by decide +kernel
theorem dX7_undo_89 : decode cX7_undo 89 = .ok (.aload_n 0, 1) := by decide +kernel
theorem dX7_undo_90 : decode cX7_undo 90 = .ok (.getfield 19, 3) := by decide +kernel
theorem dX7_undo_93 : decode cX7_undo 93 = .ok (.iload_n 3, 1) := by decide +kernel
theorem dX7_undo_94 : decode cX7_undo 94 = .ok (.invokevirtual 133, 3) := by decide +kernel
theorem dX7_undo_97 : decode cX7_undo 97 = .ok (.goto 33, 3) := by decide +kernel
theorem dX7_undo_100 : decode cX7_undo 100 = .ok (.aload_n 0, 1) := by decide +kernel
theorem dX7_undo_101 : decode cX7_undo 101 = .ok (.getfield 19, 3) := by decide +kernel
theorem dX7_undo_104 : decode cX7_undo 104 = .ok (.iload_n 1, 1) := by decide +kernel
theorem dX7_undo_105 : decode cX7_undo 105 = .ok (.iload_n 3, 1) := by decide +kernel
theorem dX7_undo_106 : decode cX7_undo 106 = .ok (.invokevirtual 144, 3) := by decide +kernel
theorem dX7_undo_109 : decode cX7_undo 109 = .ok (.goto 21, 3) := by decide +kernel
theorem dX7_undo_112 : decode cX7_undo 112 = .ok (.aload_n 0, 1) := by decide +kernel
theorem dX7_undo_113 : decode cX7_undo 113 = .ok (.getfield 19, 3) := by decide +kernel
theorem dX7_undo_116 : decode cX7_undo 116 = .ok (.iload_n 1, 1) := by decide +kernel
theorem dX7_undo_117 : decode cX7_undo 117 = .ok (.iload_n 2, 1) := by decide +kernel
theorem dX7_undo_118 : decode cX7_undo 118 = .ok (.iload_n 3, 1) := by decide +kernel
theorem dX7_undo_119 : decode cX7_undo 119 = .ok (.ineg, 1) := by decide +kernel
theorem dX7_undo_120 : decode cX7_undo 120 = .ok (.invokevirtual 159, 3) := by decide +kernel
theorem dX7_undo_123 : decode cX7_undo 123 = .ok (.aload_n 0, 1) := by decide +kernel
theorem dX7_undo_124 : decode cX7_undo 124 = .ok (.getfield 54, 3) := by decide +kernel
theorem dX7_undo_127 : decode cX7_undo 127 = .ok (.invokevirtual 162, 3) := by decide +kernel
theorem dX7_undo_130 : decode cX7_undo 130 = .ok (.aload_n 0, 1) := by decide +kernel
theorem dX7_undo_131 : decode cX7_undo 131 = .ok (.getfield 47, 3) := by decide +kernel
theorem dX7_undo_134 : decode cX7_undo 134 = .ok (.invokevirtual 165, 3) := by decide +kernel
theorem dX7_undo_137 : decode cX7_undo 137 = .ok (.aload_n 0, 1) := by decide +kernel
theorem dX7_undo_138 : decode cX7_undo 138 = .ok (.getfield 47, 3) := by decide +kernel
theorem dX7_undo_141 : decode cX7_undo 141 = .ok (.invokevirtual 155, 3) := by decide +kernel
theorem dX7_undo_144 : decode cX7_undo 144 = .ok (.ireturn, 1) := by decide +kernel
theorem dX7_day_0 : decode cX7_day 0 = .ok (.iload_n 1, 1) := by decide +kernel
theorem dX7_day_1 : decode cX7_day 1 = .ok (.ifCond .lt 21, 3) := by decide +kernel
theorem dX7_day_4 : decode cX7_day 4 = .ok (.iload_n 1, 1) := by decide +kernel
theorem dX7_day_5 : decode cX7_day 5 = .ok (.sipush 9999, 3) := by decide +kernel
theorem dX7_day_8 : decode cX7_day 8 = .ok (.if_icmp .gt 14, 3) := by decide +kernel
theorem dX7_day_11 : decode cX7_day 11 = .ok (.iload_n 2, 1) := by decide +kernel
theorem dX7_day_12 : decode cX7_day 12 = .ok (.iconst 1, 1) := by decide +kernel
theorem dX7_day_13 : decode cX7_day 13 = .ok (.if_icmp .lt 9, 3) := by decide +kernel
theorem dX7_day_16 : decode cX7_day 16 = .ok (.iload_n 2, 1) := by decide +kernel
theorem dX7_day_17 : decode cX7_day 17 = .ok (.bipush 20, 2) := by decide +kernel
theorem dX7_day_19 : decode cX7_day 19 = .ok (.if_icmp .le 5, 3) := by decide +kernel
theorem dX7_day_22 : decode cX7_day 22 = .ok (.iconst (-1), 1) := by decide +kernel
theorem dX7_day_23 : decode cX7_day 23 = .ok (.ireturn, 1) := by decide +kernel
theorem dX7_day_24 : decode cX7_day 24 = .ok (.iconst 0, 1) := by decide +kernel
theorem dX7_day_25 : decode cX7_day 25 = .ok (.istore_n 3, 1) := by decide +kernel
theorem dX7_day_26 : decode cX7_day 26 = .ok (.iconst 0, 1) := by decide +kernel
theorem dX7_day_27 : decode cX7_day 27 = .ok (.istore 4, 2) := by decide +kernel
theorem dX7_day_29 : decode cX7_day 29 = .ok (.iload 4, 2) := by decide +kernel
theorem dX7_day_31 : decode cX7_day 31 = .ok (.iload_n 2, 1) := by decide +kernel
theorem dX7_day_32 : decode cX7_day 32 = .ok (.if_icmp .ge 109, 3) := by decide +kernel
theorem dX7_day_35 : decode cX7_day 35 = .ok (.ldc2_w 168, 3) := by decide +kernel
theorem dX7_day_38 : decode cX7_day 38 = .ok (.iload_n 1, 1) := by decide +kernel
theorem dX7_day_39 : decode cX7_day 39 = .ok (.i2l, 1) := by decide +kernel
theorem dX7_day_40 : decode cX7_day 40 = .ok (.lmul, 1) := by decide +kernel
theorem dX7_day_41 : decode cX7_day 41 = .ok (.ldc2_w 170, 3) := by decide +kernel
theorem dX7_day_44 : decode cX7_day 44 = .ok (.iload 4, 2) := by decide +kernel
theorem dX7_day_46 : decode cX7_day 46 = .ok (.i2l, 1) := by decide +kernel
theorem dX7_day_47 : decode cX7_day 47 = .ok (.lmul, 1) := by decide +kernel
theorem dX7_day_48 : decode cX7_day 48 = .ok (.ladd, 1) := by decide +kernel
theorem dX7_day_49 : decode cX7_day 49 = .ok (.lconst 1, 1) := by decide +kernel
theorem dX7_day_50 : decode cX7_day 50 = .ok (.ladd, 1) := by decide +kernel
theorem dX7_day_51 : decode cX7_day 51 = .ok (.lstore 5, 2) := by decide +kernel
theorem dX7_day_53 : decode cX7_day 53 = .ok (.lload 5, 2) := by decide +kernel
theorem dX7_day_55 : decode cX7_day 55 = .ok (.lload 5, 2) := by decide +kernel
theorem dX7_day_57 : decode cX7_day 57 = .ok (.lmul, 1) := by decide +kernel
theorem dX7_day_58 : decode cX7_day 58 = .ok (.ldc2_w 172, 3) := by decide +kernel
theorem dX7_day_61 : decode cX7_day 61 = .ok (.lrem, 1) := by decide +kernel
theorem dX7_day_62 : decode cX7_day 62 = .ok (.l2i, 1) := by decide +kernel
theorem dX7_day_63 : decode cX7_day 63 = .ok (.istore 7, 2) := by decide +kernel
theorem dX7_day_65 : decode cX7_day 65 = .ok (.iload 7, 2) := by decide +kernel
theorem dX7_day_67 : decode cX7_day 67 = .ok (.sipush 128, 3) := by decide +kernel
theorem dX7_day_70 : decode cX7_day 70 = .ok (.idiv, 1) := by decide +kernel
theorem dX7_day_71 : decode cX7_day 71 = .ok (.bipush 30, 2) := by decide +kernel
theorem dX7_day_73 : decode cX7_day 73 = .ok (.irem, 1) := by decide +kernel
theorem dX7_day_74 : decode cX7_day 74 = .ok (.istore 8, 2) := by decide +kernel
theorem dX7_day_76 : decode cX7_day 76 = .ok (.iload 7, 2) := by decide +kernel
theorem dX7_day_78 : decode cX7_day 78 = .ok (.aload_n 0, 1) := by decide +kernel
theorem dX7_day_79 : decode cX7_day 79 = .ok (.getfield 19, 3) := by decide +kernel
theorem dX7_day_82 : decode cX7_day 82 = .ok (.invokevirtual 88, 3) := by decide +kernel
theorem dX7_day_85 : decode cX7_day 85 = .ok (.invokestatic 174, 3) := by decide +kernel
theorem dX7_day_88 : decode cX7_day 88 = .ok (.istore 9, 2) := by decide +kernel
theorem dX7_day_90 : decode cX7_day 90 = .ok (.iload 7, 2) := by decide +kernel
theorem dX7_day_92 : decode cX7_day 92 = .ok (.bipush 8, 2) := by decide +kernel
theorem dX7_day_94 : decode cX7_day 94 = .ok (.idiv, 1) := by decide +kernel
theorem dX7_day_95 : decode cX7_day 95 = .ok (.aload_n 0, 1) := by decide +kernel
theorem dX7_day_96 : decode cX7_day 96 = .ok (.getfield 19, 3) := by decide +kernel
theorem dX7_day_99 : decode cX7_day 99 = .ok (.invokevirtual 177, 3) := by decide +kernel
theorem dX7_day_102 : decode cX7_day 102 = .ok (.invokestatic 174, 3) := by decide +kernel
theorem dX7_day_105 : decode cX7_day 105 = .ok (.istore 10, 2) := by decide +kernel
theorem dX7_day_107 : decode cX7_day 107 = .ok (.aload_n 0, 1) := by decide +kernel
theorem dX7_day_108 : decode cX7_day 108 = .ok (.iload 9, 2) := by decide +kernel
theorem dX7_day_110 : decode cX7_day 110 = .ok (.iload 10, 2) := by decide +kernel
theorem dX7_day_112 : decode cX7_day 112 = .ok (.iload 8, 2) := by decide +kernel
theorem dX7_day_114 : decode cX7_day 114 = .ok (.bipush 29, 2) := by decide +kernel
theorem dX7_day_116 : decode cX7_day 116 = .ok (.if_icmp .ne 8, 3) := by decide +kernel
theorem dX7_day_119 : decode cX7_day 119 = .ok (.ldc 109, 2) := by decide +kernel
theorem dX7_day_121 : decode cX7_day 121 = .ok (.goto 5, 3) := by decide +kernel
theorem dX7_day_124 : decode cX7_day 124 = .ok (.iload 8, 2) := by decide +kernel
theorem dX7_day_126 : decode cX7_day 126 = .ok (.invokevirtual 115, 3) := by decide +kernel
theorem dX7_day_129 : decode cX7_day 129 = .ok (.ifCond .eq 6, 3) := by decide +kernel
theorem dX7_day_132 : decode cX7_day 132 = .ok (.iinc 3 1, 3) := by decide +kernel
theorem dX7_day_135 : decode cX7_day 135 = .ok (.iinc 4 1, 3) := by decide +kernel
theorem dX7_day_138 : decode cX7_day 138 = .ok (.goto (-109), 3) := by decide +kernel
theorem dX7_day_141 : decode cX7_day 141 = .ok (.iload_n 3, 1) := by decide +kernel
theorem dX7_day_142 : decode cX7_day 142 = .ok (.ireturn, 1) := by decide +kernel
theorem dX7_remainder_0 : decode cX7_remainder 0 = .ok (.iload_n 1, 1) := by decide +kernel
theorem dX7_remainder_1 : decode cX7_remainder 1 = .ok (.iconst 1, 1) := by decide +kernel
theorem dX7_remainder_2 : decode cX7_remainder 2 = .ok (.if_icmp .ge 7, 3) := by decide +kernel
theorem dX7_remainder_5 : decode cX7_remainder 5 = .ok (.iconst 0, 1) := by decide +kernel
theorem dX7_remainder_6 : decode cX7_remainder 6 = .ok (.goto 6, 3) := by decide +kernel
theorem dX7_remainder_9 : decode cX7_remainder 9 = .ok (.iload_n 0, 1) := by decide +kernel
theorem dX7_remainder_10 : decode cX7_remainder 10 = .ok (.iload_n 1, 1) := by decide +kernel
theorem dX7_remainder_11 : decode cX7_remainder 11 = .ok (.irem, 1) := by decide +kernel
theorem dX7_remainder_12 : decode cX7_remainder 12 = .ok (.ireturn, 1) := by decide +kernel
theorem dX7_nearest_0 : decode cX7_nearest 0 = .ok (.aload_n 0, 1) := by decide +kernel
theorem dX7_nearest_1 : decode cX7_nearest 1 = .ok (.getfield 19, 3) := by decide +kernel
theorem dX7_nearest_4 : decode cX7_nearest 4 = .ok (.iload_n 1, 1) := by decide +kernel
theorem dX7_nearest_5 : decode cX7_nearest 5 = .ok (.invokevirtual 180, 3) := by decide +kernel
theorem dX7_nearest_8 : decode cX7_nearest 8 = .ok (.ifCond .eq 7, 3) := by decide +kernel
theorem dX7_nearest_11 : decode cX7_nearest 11 = .ok (.iload_n 2, 1) := by decide +kernel
theorem dX7_nearest_12 : decode cX7_nearest 12 = .ok (.ifCond .ge 5, 3) := by decide +kernel
theorem dX7_nearest_15 : decode cX7_nearest 15 = .ok (.iconst (-1), 1) := by decide +kernel
theorem dX7_nearest_16 : decode cX7_nearest 16 = .ok (.ireturn, 1) := by decide +kernel
theorem dX7_nearest_17 : decode cX7_nearest 17 = .ok (.iconst 0, 1) := by decide +kernel
theorem dX7_nearest_18 : decode cX7_nearest 18 = .ok (.istore_n 3, 1) := by decide +kernel
theorem dX7_nearest_19 : decode cX7_nearest 19 = .ok (.iload_n 3, 1) := by decide +kernel
theorem dX7_nearest_20 : decode cX7_nearest 20 = .ok (.aload_n 0, 1) := by decide +kernel
theorem dX7_nearest_21 : decode cX7_nearest 21 = .ok (.getfield 19, 3) := by decide +kernel
theorem dX7_nearest_24 : decode cX7_nearest 24 = .ok (.invokevirtual 88, 3) := by decide +kernel
theorem dX7_nearest_27 : decode cX7_nearest 27 = .ok (.if_icmp .ge 29, 3) := by decide +kernel
theorem dX7_nearest_30 : decode cX7_nearest 30 = .ok (.iload_n 3, 1) := by decide +kernel
theorem dX7_nearest_31 : decode cX7_nearest 31 = .ok (.iload_n 1, 1) := by decide +kernel
theorem dX7_nearest_32 : decode cX7_nearest 32 = .ok (.if_icmp .eq 18, 3) := by decide +kernel
theorem dX7_nearest_35 : decode cX7_nearest 35 = .ok (.aload_n 0, 1) := by decide +kernel
theorem dX7_nearest_36 : decode cX7_nearest 36 = .ok (.getfield 19, 3) := by decide +kernel
theorem dX7_nearest_39 : decode cX7_nearest 39 = .ok (.iload_n 1, 1) := by decide +kernel
theorem dX7_nearest_40 : decode cX7_nearest 40 = .ok (.iload_n 3, 1) := by decide +kernel
theorem dX7_nearest_41 : decode cX7_nearest 41 = .ok (.invokevirtual 183, 3) := by decide +kernel
theorem dX7_nearest_44 : decode cX7_nearest 44 = .ok (.iload_n 2, 1) := by decide +kernel
theorem dX7_nearest_45 : decode cX7_nearest 45 = .ok (.if_icmp .ne 5, 3) := by decide +kernel
theorem dX7_nearest_48 : decode cX7_nearest 48 = .ok (.iload_n 3, 1) := by decide +kernel
theorem dX7_nearest_49 : decode cX7_nearest 49 = .ok (.ireturn, 1) := by decide +kernel
theorem dX7_nearest_50 : decode cX7_nearest 50 = .ok (.iinc 3 1, 3) := by decide +kernel
theorem dX7_nearest_53 : decode cX7_nearest 53 = .ok (.goto (-34), 3) := by decide +kernel
theorem dX7_nearest_56 : decode cX7_nearest 56 = .ok (.bipush (-4), 2) := by decide +kernel
theorem dX7_nearest_58 : decode cX7_nearest 58 = .ok (.ireturn, 1) := by decide +kernel
theorem dX7_pair_0 : decode cX7_pair 0 = .ok (.aload_n 0, 1) := by decide +kernel
theorem dX7_pair_1 : decode cX7_pair 1 = .ok (.iload_n 1, 1) := by decide +kernel
theorem dX7_pair_2 : decode cX7_pair 2 = .ok (.iload_n 2, 1) := by decide +kernel
theorem dX7_pair_3 : decode cX7_pair 3 = .ok (.invokevirtual 186, 3) := by decide +kernel
theorem dX7_pair_6 : decode cX7_pair 6 = .ok (.ifCond .ne 5, 3) := by decide +kernel
theorem dX7_pair_9 : decode cX7_pair 9 = .ok (.iconst (-1), 1) := by decide +kernel
theorem dX7_pair_10 : decode cX7_pair 10 = .ok (.ireturn, 1) := by decide +kernel
theorem dX7_pair_11 : decode cX7_pair 11 = .ok (.aload_n 0, 1) := by decide +kernel
theorem dX7_pair_12 : decode cX7_pair 12 = .ok (.getfield 19, 3) := by decide +kernel
theorem dX7_pair_15 : decode cX7_pair 15 = .ok (.iload_n 1, 1) := by decide +kernel
theorem dX7_pair_16 : decode cX7_pair 16 = .ok (.iload_n 2, 1) := by decide +kernel
theorem dX7_pair_17 : decode cX7_pair 17 = .ok (.invokevirtual 189, 3) := by decide +kernel
theorem dX7_pair_20 : decode cX7_pair 20 = .ok (.ifCond .eq 7, 3) := by decide +kernel
theorem dX7_pair_23 : decode cX7_pair 23 = .ok (.iconst 1, 1) := by decide +kernel
theorem dX7_pair_24 : decode cX7_pair 24 = .ok (.goto 4, 3) := by decide +kernel
theorem dX7_pair_27 : decode cX7_pair 27 = .ok (.iconst 0, 1) := by decide +kernel
theorem dX7_pair_28 : decode cX7_pair 28 = .ok (.ireturn, 1) := by decide +kernel
theorem dX7_areTwoStations_0 : decode cX7_areTwoStations 0 = .ok (.aload_n 0, 1) := by decide +kernel
theorem dX7_areTwoStations_1 : decode cX7_areTwoStations 1 = .ok (.getfield 19, 3) := by decide +kernel
theorem dX7_areTwoStations_4 : decode cX7_areTwoStations 4 = .ok (.iload_n 1, 1) := by decide +kernel
theorem dX7_areTwoStations_5 : decode cX7_areTwoStations 5 = .ok (.invokevirtual 180, 3) := by decide +kernel
theorem dX7_areTwoStations_8 : decode cX7_areTwoStations 8 = .ok (.ifCond .eq 23, 3) := by decide +kernel
theorem dX7_areTwoStations_11 : decode cX7_areTwoStations 11 = .ok (.aload_n 0, 1) := by decide +kernel
theorem dX7_areTwoStations_12 : decode cX7_areTwoStations 12 = .ok (.getfield 19, 3) := by decide +kernel
theorem dX7_areTwoStations_15 : decode cX7_areTwoStations 15 = .ok (.iload_n 2, 1) := by decide +kernel
theorem dX7_areTwoStations_16 : decode cX7_areTwoStations 16 = .ok (.invokevirtual 180, 3) := by decide +kernel
theorem dX7_areTwoStations_19 : decode cX7_areTwoStations 19 = .ok (.ifCond .eq 12, 3) := by decide +kernel
theorem dX7_areTwoStations_22 : decode cX7_areTwoStations 22 = .ok (.iload_n 1, 1) := by decide +kernel
theorem dX7_areTwoStations_23 : decode cX7_areTwoStations 23 = .ok (.iload_n 2, 1) := by decide +kernel
theorem dX7_areTwoStations_24 : decode cX7_areTwoStations 24 = .ok (.if_icmp .eq 7, 3) := by decide +kernel
theorem dX7_areTwoStations_27 : decode cX7_areTwoStations 27 = .ok (.iconst 1, 1) := by decide +kernel
theorem dX7_areTwoStations_28 : decode cX7_areTwoStations 28 = .ok (.goto 4, 3) := by decide +kernel
theorem dX7_areTwoStations_31 : decode cX7_areTwoStations 31 = .ok (.iconst 0, 1) := by decide +kernel
theorem dX7_areTwoStations_32 : decode cX7_areTwoStations 32 = .ok (.ireturn, 1) := by decide +kernel
theorem dX7_entry_0 : decode cX7_entry 0 = .ok (.aload_n 0, 1) := by decide +kernel
theorem dX7_entry_1 : decode cX7_entry 1 = .ok (.iload_n 1, 1) := by decide +kernel
theorem dX7_entry_2 : decode cX7_entry 2 = .ok (.iload_n 2, 1) := by decide +kernel
theorem dX7_entry_3 : decode cX7_entry 3 = .ok (.invokevirtual 186, 3) := by decide +kernel
theorem dX7_entry_6 : decode cX7_entry 6 = .ok (.ifCond .eq 8, 3) := by decide +kernel
theorem dX7_entry_9 : decode cX7_entry 9 = .ok (.iload_n 3, 1) := by decide +kernel
theorem dX7_entry_10 : decode cX7_entry 10 = .ok (.iconst (-1), 1) := by decide +kernel
theorem dX7_entry_11 : decode cX7_entry 11 = .ok (.if_icmp .ge 5, 3) := by decide +kernel
theorem dX7_entry_14 : decode cX7_entry 14 = .ok (.iconst (-1), 1) := by decide +kernel
theorem dX7_entry_15 : decode cX7_entry 15 = .ok (.ireturn, 1) := by decide +kernel
theorem dX7_entry_16 : decode cX7_entry 16 = .ok (.aload_n 0, 1) := by decide +kernel
theorem dX7_entry_17 : decode cX7_entry 17 = .ok (.getfield 26, 3) := by decide +kernel
theorem dX7_entry_20 : decode cX7_entry 20 = .ok (.aload_n 0, 1) := by decide +kernel
theorem dX7_entry_21 : decode cX7_entry 21 = .ok (.getfield 19, 3) := by decide +kernel
theorem dX7_entry_24 : decode cX7_entry 24 = .ok (.iload_n 1, 1) := by decide +kernel
theorem dX7_entry_25 : decode cX7_entry 25 = .ok (.iload_n 2, 1) := by decide +kernel
theorem dX7_entry_26 : decode cX7_entry 26 = .ok (.invokevirtual 192, 3) := by decide +kernel
theorem dX7_entry_29 : decode cX7_entry 29 = .ok (.iload_n 3, 1) := by decide +kernel
theorem dX7_entry_30 : decode cX7_entry 30 = .ok (.iconst (-1), 1) := by decide +kernel
theorem dX7_entry_31 : decode cX7_entry 31 = .ok (.if_icmp .ne 11, 3) := by decide +kernel
theorem dX7_entry_34 : decode cX7_entry 34 = .ok (.aload_n 0, 1) := by decide +kernel
theorem dX7_entry_35 : decode cX7_entry 35 = .ok (.getfield 26, 3) := by decide +kernel
theorem dX7_entry_38 : decode cX7_entry 38 = .ok (.invokevirtual 196, 3) := by decide +kernel
theorem dX7_entry_41 : decode cX7_entry 41 = .ok (.ireturn, 1) := by decide +kernel
theorem dX7_entry_42 : decode cX7_entry 42 = .ok (.iload_n 3, 1) := by decide +kernel
theorem dX7_entry_43 : decode cX7_entry 43 = .ok (.aload_n 0, 1) := by decide +kernel
theorem dX7_entry_44 : decode cX7_entry 44 = .ok (.getfield 26, 3) := by decide +kernel
theorem dX7_entry_47 : decode cX7_entry 47 = .ok (.invokevirtual 196, 3) := by decide +kernel
theorem dX7_entry_50 : decode cX7_entry 50 = .ok (.if_icmp .ge 17, 3) := by decide +kernel
theorem dX7_entry_53 : decode cX7_entry 53 = .ok (.aload_n 0, 1) := by decide +kernel
theorem dX7_entry_54 : decode cX7_entry 54 = .ok (.getfield 26, 3) := by decide +kernel
theorem dX7_entry_57 : decode cX7_entry 57 = .ok (.iload_n 3, 1) := by decide +kernel
theorem dX7_entry_58 : decode cX7_entry 58 = .ok (.invokevirtual 197, 3) := by decide +kernel
theorem dX7_entry_61 : decode cX7_entry 61 = .ok (.ldc 110, 2) := by decide +kernel
theorem dX7_entry_63 : decode cX7_entry 63 = .ok (.iadd, 1) := by decide +kernel
theorem dX7_entry_64 : decode cX7_entry 64 = .ok (.goto 5, 3) := by decide +kernel
theorem dX7_entry_67 : decode cX7_entry 67 = .ok (.bipush (-4), 2) := by decide +kernel
theorem dX7_entry_69 : decode cX7_entry 69 = .ok (.ireturn, 1) := by decide +kernel
theorem dX7_year_0 : decode cX7_year 0 = .ok (.aload_n 0, 1) := by decide +kernel
theorem dX7_year_1 : decode cX7_year 1 = .ok (.iload_n 1, 1) := by decide +kernel
theorem dX7_year_2 : decode cX7_year 2 = .ok (.iload_n 2, 1) := by decide +kernel
theorem dX7_year_3 : decode cX7_year 3 = .ok (.invokevirtual 186, 3) := by decide +kernel
theorem dX7_year_6 : decode cX7_year 6 = .ok (.ifCond .eq 7, 3) := by decide +kernel
theorem dX7_year_9 : decode cX7_year 9 = .ok (.iload_n 3, 1) := by decide +kernel
theorem dX7_year_10 : decode cX7_year 10 = .ok (.ifCond .ge 5, 3) := by decide +kernel
theorem dX7_year_13 : decode cX7_year 13 = .ok (.iconst (-1), 1) := by decide +kernel
theorem dX7_year_14 : decode cX7_year 14 = .ok (.ireturn, 1) := by decide +kernel
theorem dX7_year_15 : decode cX7_year 15 = .ok (.aload_n 0, 1) := by decide +kernel
theorem dX7_year_16 : decode cX7_year 16 = .ok (.getfield 26, 3) := by decide +kernel
theorem dX7_year_19 : decode cX7_year 19 = .ok (.aload_n 0, 1) := by decide +kernel
theorem dX7_year_20 : decode cX7_year 20 = .ok (.getfield 19, 3) := by decide +kernel
theorem dX7_year_23 : decode cX7_year 23 = .ok (.iload_n 1, 1) := by decide +kernel
theorem dX7_year_24 : decode cX7_year 24 = .ok (.iload_n 2, 1) := by decide +kernel
theorem dX7_year_25 : decode cX7_year 25 = .ok (.invokevirtual 192, 3) := by decide +kernel
theorem dX7_year_28 : decode cX7_year 28 = .ok (.iload_n 3, 1) := by decide +kernel
theorem dX7_year_29 : decode cX7_year 29 = .ok (.aload_n 0, 1) := by decide +kernel
theorem dX7_year_30 : decode cX7_year 30 = .ok (.getfield 26, 3) := by decide +kernel
theorem dX7_year_33 : decode cX7_year 33 = .ok (.invokevirtual 196, 3) := by decide +kernel
theorem dX7_year_36 : decode cX7_year 36 = .ok (.if_icmp .ge 14, 3) := by decide +kernel
theorem dX7_year_39 : decode cX7_year 39 = .ok (.aload_n 0, 1) := by decide +kernel
theorem dX7_year_40 : decode cX7_year 40 = .ok (.getfield 26, 3) := by decide +kernel
theorem dX7_year_43 : decode cX7_year 43 = .ok (.iload_n 3, 1) := by decide +kernel
theorem dX7_year_44 : decode cX7_year 44 = .ok (.invokevirtual 200, 3) := by decide +kernel
theorem dX7_year_47 : decode cX7_year 47 = .ok (.goto 5, 3) := by decide +kernel
theorem dX7_year_50 : decode cX7_year 50 = .ok (.bipush (-4), 2) := by decide +kernel
theorem dX7_year_52 : decode cX7_year 52 = .ok (.ireturn, 1) := by decide +kernel
theorem dX7_spread_0 : decode cX7_spread 0 = .ok (.aload_n 0, 1) := by decide +kernel
theorem dX7_spread_1 : decode cX7_spread 1 = .ok (.iload_n 1, 1) := by decide +kernel
theorem dX7_spread_2 : decode cX7_spread 2 = .ok (.iload_n 2, 1) := by decide +kernel
theorem dX7_spread_3 : decode cX7_spread 3 = .ok (.invokevirtual 186, 3) := by decide +kernel
theorem dX7_spread_6 : decode cX7_spread 6 = .ok (.ifCond .ne 7, 3) := by decide +kernel
theorem dX7_spread_9 : decode cX7_spread 9 = .ok (.ldc2_w 203, 3) := by decide +kernel
theorem dX7_spread_12 : decode cX7_spread 12 = .ok (.lreturn, 1) := by decide +kernel
theorem dX7_spread_13 : decode cX7_spread 13 = .ok (.aload_n 0, 1) := by decide +kernel
theorem dX7_spread_14 : decode cX7_spread 14 = .ok (.getfield 26, 3) := by decide +kernel
theorem dX7_spread_17 : decode cX7_spread 17 = .ok (.aload_n 0, 1) := by decide +kernel
theorem dX7_spread_18 : decode cX7_spread 18 = .ok (.getfield 19, 3) := by decide +kernel
theorem dX7_spread_21 : decode cX7_spread 21 = .ok (.iload_n 1, 1) := by decide +kernel
theorem dX7_spread_22 : decode cX7_spread 22 = .ok (.iload_n 2, 1) := by decide +kernel
theorem dX7_spread_23 : decode cX7_spread 23 = .ok (.invokevirtual 192, 3) := by decide +kernel
theorem dX7_spread_26 : decode cX7_spread 26 = .ok (.iload_n 3, 1) := by decide +kernel
theorem dX7_spread_27 : decode cX7_spread 27 = .ok (.ifCond .lt 21, 3) := by decide +kernel
theorem dX7_spread_30 : decode cX7_spread 30 = .ok (.iload 4, 2) := by decide +kernel
theorem dX7_spread_32 : decode cX7_spread 32 = .ok (.iload_n 3, 1) := by decide +kernel
theorem dX7_spread_33 : decode cX7_spread 33 = .ok (.if_icmp .lt 15, 3) := by decide +kernel
theorem dX7_spread_36 : decode cX7_spread 36 = .ok (.iload 4, 2) := by decide +kernel
theorem dX7_spread_38 : decode cX7_spread 38 = .ok (.aload_n 0, 1) := by decide +kernel
theorem dX7_spread_39 : decode cX7_spread 39 = .ok (.getfield 26, 3) := by decide +kernel
theorem dX7_spread_42 : decode cX7_spread 42 = .ok (.invokevirtual 196, 3) := by decide +kernel
theorem dX7_spread_45 : decode cX7_spread 45 = .ok (.if_icmp .lt 7, 3) := by decide +kernel
theorem dX7_spread_48 : decode cX7_spread 48 = .ok (.ldc2_w 203, 3) := by decide +kernel
theorem dX7_spread_51 : decode cX7_spread 51 = .ok (.lreturn, 1) := by decide +kernel
theorem dX7_spread_52 : decode cX7_spread 52 = .ok (.aload_n 0, 1) := by decide +kernel
theorem dX7_spread_53 : decode cX7_spread 53 = .ok (.getfield 26, 3) := by decide +kernel
theorem dX7_spread_56 : decode cX7_spread 56 = .ok (.iload_n 3, 1) := by decide +kernel
theorem dX7_spread_57 : decode cX7_spread 57 = .ok (.iload 4, 2) := by decide +kernel
theorem dX7_spread_59 : decode cX7_spread 59 = .ok (.iconst 1, 1) := by decide +kernel
theorem dX7_spread_60 : decode cX7_spread 60 = .ok (.iadd, 1) := by decide +kernel
theorem dX7_spread_61 : decode cX7_spread 61 = .ok (.invokevirtual 205, 3) := by decide +kernel
theorem dX7_spread_64 : decode cX7_spread 64 = .ok (.lreturn, 1) := by decide +kernel
theorem dX7_split_0 : decode cX7_split 0 = .ok (.aload_n 0, 1) := by decide +kernel
theorem dX7_split_1 : decode cX7_split 1 = .ok (.iload_n 1, 1) := by decide +kernel
theorem dX7_split_2 : decode cX7_split 2 = .ok (.iload_n 2, 1) := by decide +kernel
theorem dX7_split_3 : decode cX7_split 3 = .ok (.invokevirtual 186, 3) := by decide +kernel
theorem dX7_split_6 : decode cX7_split 6 = .ok (.ifCond .eq 8, 3) := by decide +kernel
theorem dX7_split_9 : decode cX7_split 9 = .ok (.iload_n 3, 1) := by decide +kernel
theorem dX7_split_10 : decode cX7_split 10 = .ok (.iconst (-1), 1) := by decide +kernel
theorem dX7_split_11 : decode cX7_split 11 = .ok (.if_icmp .ge 5, 3) := by decide +kernel
theorem dX7_split_14 : decode cX7_split 14 = .ok (.iconst (-1), 1) := by decide +kernel
theorem dX7_split_15 : decode cX7_split 15 = .ok (.ireturn, 1) := by decide +kernel
theorem dX7_split_16 : decode cX7_split 16 = .ok (.aload_n 0, 1) := by decide +kernel
theorem dX7_split_17 : decode cX7_split 17 = .ok (.iload_n 1, 1) := by decide +kernel
theorem dX7_split_18 : decode cX7_split 18 = .ok (.iload_n 2, 1) := by decide +kernel
theorem dX7_split_19 : decode cX7_split 19 = .ok (.aload_n 0, 1) := by decide +kernel
theorem dX7_split_20 : decode cX7_split 20 = .ok (.getfield 19, 3) := by decide +kernel
theorem dX7_split_23 : decode cX7_split 23 = .ok (.invokevirtual 130, 3) := by decide +kernel
theorem dX7_split_26 : decode cX7_split 26 = .ok (.invokevirtual 209, 3) := by decide +kernel
theorem dX7_split_29 : decode cX7_split 29 = .ok (.iload_n 3, 1) := by decide +kernel
theorem dX7_split_30 : decode cX7_split 30 = .ok (.iconst (-1), 1) := by decide +kernel
theorem dX7_split_31 : decode cX7_split 31 = .ok (.if_icmp .ne 11, 3) := by decide +kernel
theorem dX7_split_34 : decode cX7_split 34 = .ok (.aload_n 0, 1) := by decide +kernel
theorem dX7_split_35 : decode cX7_split 35 = .ok (.getfield 33, 3) := by decide +kernel
theorem dX7_split_38 : decode cX7_split 38 = .ok (.invokevirtual 212, 3) := by decide +kernel
theorem dX7_split_41 : decode cX7_split 41 = .ok (.ireturn, 1) := by decide +kernel
theorem dX7_split_42 : decode cX7_split 42 = .ok (.iload_n 3, 1) := by decide +kernel
theorem dX7_split_43 : decode cX7_split 43 = .ok (.aload_n 0, 1) := by decide +kernel
theorem dX7_split_44 : decode cX7_split 44 = .ok (.getfield 33, 3) := by decide +kernel
theorem dX7_split_47 : decode cX7_split 47 = .ok (.invokevirtual 212, 3) := by decide +kernel
theorem dX7_split_50 : decode cX7_split 50 = .ok (.if_icmp .ge 14, 3) := by decide +kernel
theorem dX7_split_53 : decode cX7_split 53 = .ok (.aload_n 0, 1) := by decide +kernel
theorem dX7_split_54 : decode cX7_split 54 = .ok (.getfield 33, 3) := by decide +kernel
theorem dX7_split_57 : decode cX7_split 57 = .ok (.iload_n 3, 1) := by decide +kernel
theorem dX7_split_58 : decode cX7_split 58 = .ok (.invokevirtual 215, 3) := by decide +kernel
theorem dX7_split_61 : decode cX7_split 61 = .ok (.goto 5, 3) := by decide +kernel
theorem dX7_split_64 : decode cX7_split 64 = .ok (.bipush (-4), 2) := by decide +kernel
theorem dX7_split_66 : decode cX7_split 66 = .ok (.ireturn, 1) := by decide +kernel
theorem dX7_segment_0 : decode cX7_segment 0 = .ok (.aload_n 0, 1) := by decide +kernel
theorem dX7_segment_1 : decode cX7_segment 1 = .ok (.getfield 33, 3) := by decide +kernel
theorem dX7_segment_4 : decode cX7_segment 4 = .ok (.aload_n 0, 1) := by decide +kernel
theorem dX7_segment_5 : decode cX7_segment 5 = .ok (.getfield 19, 3) := by decide +kernel
theorem dX7_segment_8 : decode cX7_segment 8 = .ok (.iload_n 1, 1) := by decide +kernel
theorem dX7_segment_9 : decode cX7_segment 9 = .ok (.iload_n 2, 1) := by decide +kernel
theorem dX7_segment_10 : decode cX7_segment 10 = .ok (.invokevirtual 218, 3) := by decide +kernel
theorem dX7_segment_13 : decode cX7_segment 13 = .ok (.aload_n 0, 1) := by decide +kernel
theorem dX7_segment_14 : decode cX7_segment 14 = .ok (.getfield 33, 3) := by decide +kernel
theorem dX7_segment_17 : decode cX7_segment 17 = .ok (.aload_n 0, 1) := by decide +kernel
theorem dX7_segment_18 : decode cX7_segment 18 = .ok (.getfield 19, 3) := by decide +kernel
theorem dX7_segment_21 : decode cX7_segment 21 = .ok (.iconst 0, 1) := by decide +kernel
theorem dX7_segment_22 : decode cX7_segment 22 = .ok (.invokevirtual 141, 3) := by decide +kernel
theorem dX7_segment_25 : decode cX7_segment 25 = .ok (.iload_n 3, 1) := by decide +kernel
theorem dX7_segment_26 : decode cX7_segment 26 = .ok (.invokevirtual 219, 3) := by decide +kernel
theorem dX7_segment_29 : decode cX7_segment 29 = .ok (.return_, 1) := by decide +kernel
theorem dX7_cost_0 : decode cX7_cost 0 = .ok (.aload_n 0, 1) := by decide +kernel
theorem dX7_cost_1 : decode cX7_cost 1 = .ok (.iload_n 1, 1) := by decide +kernel
theorem dX7_cost_2 : decode cX7_cost 2 = .ok (.iload_n 2, 1) := by decide +kernel
theorem dX7_cost_3 : decode cX7_cost 3 = .ok (.invokevirtual 186, 3) := by decide +kernel
theorem dX7_cost_6 : decode cX7_cost 6 = .ok (.ifCond .ne 7, 3) := by decide +kernel
theorem dX7_cost_9 : decode cX7_cost 9 = .ok (.ldc2_w 203, 3) := by decide +kernel
theorem dX7_cost_12 : decode cX7_cost 12 = .ok (.lreturn, 1) := by decide +kernel
theorem dX7_cost_13 : decode cX7_cost 13 = .ok (.aload_n 0, 1) := by decide +kernel
theorem dX7_cost_14 : decode cX7_cost 14 = .ok (.iload_n 1, 1) := by decide +kernel
theorem dX7_cost_15 : decode cX7_cost 15 = .ok (.iload_n 2, 1) := by decide +kernel
theorem dX7_cost_16 : decode cX7_cost 16 = .ok (.aload_n 0, 1) := by decide +kernel
theorem dX7_cost_17 : decode cX7_cost 17 = .ok (.getfield 19, 3) := by decide +kernel
theorem dX7_cost_20 : decode cX7_cost 20 = .ok (.invokevirtual 130, 3) := by decide +kernel
theorem dX7_cost_23 : decode cX7_cost 23 = .ok (.invokevirtual 209, 3) := by decide +kernel
theorem dX7_cost_26 : decode cX7_cost 26 = .ok (.aload_n 0, 1) := by decide +kernel
theorem dX7_cost_27 : decode cX7_cost 27 = .ok (.getfield 33, 3) := by decide +kernel
theorem dX7_cost_30 : decode cX7_cost 30 = .ok (.invokevirtual 222, 3) := by decide +kernel
theorem dX7_cost_33 : decode cX7_cost 33 = .ok (.lreturn, 1) := by decide +kernel
theorem dX7_spreads_0 : decode cX7_spreads 0 = .ok (.aload_n 0, 1) := by decide +kernel
theorem dX7_spreads_1 : decode cX7_spreads 1 = .ok (.iload_n 1, 1) := by decide +kernel
theorem dX7_spreads_2 : decode cX7_spreads 2 = .ok (.iload_n 2, 1) := by decide +kernel
theorem dX7_spreads_3 : decode cX7_spreads 3 = .ok (.invokevirtual 186, 3) := by decide +kernel
theorem dX7_spreads_6 : decode cX7_spreads 6 = .ok (.ifCond .eq 7, 3) := by decide +kernel
theorem dX7_spreads_9 : decode cX7_spreads 9 = .ok (.iload_n 3, 1) := by decide +kernel
theorem dX7_spreads_10 : decode cX7_spreads 10 = .ok (.ifCond .ge 7, 3) := by decide +kernel
theorem dX7_spreads_13 : decode cX7_spreads 13 = .ok (.ldc2_w 203, 3) := by decide +kernel
theorem dX7_spreads_16 : decode cX7_spreads 16 = .ok (.lreturn, 1) := by decide +kernel
theorem dX7_spreads_17 : decode cX7_spreads 17 = .ok (.aload_n 0, 1) := by decide +kernel
theorem dX7_spreads_18 : decode cX7_spreads 18 = .ok (.getfield 33, 3) := by decide +kernel
theorem dX7_spreads_21 : decode cX7_spreads 21 = .ok (.aload_n 0, 1) := by decide +kernel
theorem dX7_spreads_22 : decode cX7_spreads 22 = .ok (.getfield 19, 3) := by decide +kernel
theorem dX7_spreads_25 : decode cX7_spreads 25 = .ok (.iload_n 1, 1) := by decide +kernel
theorem dX7_spreads_26 : decode cX7_spreads 26 = .ok (.iload_n 2, 1) := by decide +kernel
theorem dX7_spreads_27 : decode cX7_spreads 27 = .ok (.invokevirtual 218, 3) := by decide +kernel
theorem dX7_spreads_30 : decode cX7_spreads 30 = .ok (.aload_n 0, 1) := by decide +kernel
theorem dX7_spreads_31 : decode cX7_spreads 31 = .ok (.getfield 33, 3) := by decide +kernel
theorem dX7_spreads_34 : decode cX7_spreads 34 = .ok (.aload_n 0, 1) := by decide +kernel
theorem dX7_spreads_35 : decode cX7_spreads 35 = .ok (.getfield 19, 3) := by decide +kernel
theorem dX7_spreads_38 : decode cX7_spreads 38 = .ok (.iconst 0, 1) := by decide +kernel
theorem dX7_spreads_39 : decode cX7_spreads 39 = .ok (.invokevirtual 141, 3) := by decide +kernel
theorem dX7_spreads_42 : decode cX7_spreads 42 = .ok (.iload_n 3, 1) := by decide +kernel
theorem dX7_spreads_43 : decode cX7_spreads 43 = .ok (.invokevirtual 226, 3) := by decide +kernel
theorem dX7_spreads_46 : decode cX7_spreads 46 = .ok (.lreturn, 1) := by decide +kernel
theorem dX7_breaks_0 : decode cX7_breaks 0 = .ok (.aload_n 0, 1) := by decide +kernel
theorem dX7_breaks_1 : decode cX7_breaks 1 = .ok (.iload_n 1, 1) := by decide +kernel
theorem dX7_breaks_2 : decode cX7_breaks 2 = .ok (.iload_n 2, 1) := by decide +kernel
theorem dX7_breaks_3 : decode cX7_breaks 3 = .ok (.invokevirtual 186, 3) := by decide +kernel
theorem dX7_breaks_6 : decode cX7_breaks 6 = .ok (.ifCond .eq 10, 3) := by decide +kernel
theorem dX7_breaks_9 : decode cX7_breaks 9 = .ok (.iload_n 3, 1) := by decide +kernel
theorem dX7_breaks_10 : decode cX7_breaks 10 = .ok (.invokestatic 127, 3) := by decide +kernel
theorem dX7_breaks_13 : decode cX7_breaks 13 = .ok (.ifCond .ne 5, 3) := by decide +kernel
theorem dX7_breaks_16 : decode cX7_breaks 16 = .ok (.iconst (-1), 1) := by decide +kernel
theorem dX7_breaks_17 : decode cX7_breaks 17 = .ok (.ireturn, 1) := by decide +kernel
theorem dX7_breaks_18 : decode cX7_breaks 18 = .ok (.aload_n 0, 1) := by decide +kernel
theorem dX7_breaks_19 : decode cX7_breaks 19 = .ok (.iload_n 1, 1) := by decide +kernel
theorem dX7_breaks_20 : decode cX7_breaks 20 = .ok (.iload_n 2, 1) := by decide +kernel
theorem dX7_breaks_21 : decode cX7_breaks 21 = .ok (.iload_n 3, 1) := by decide +kernel
theorem dX7_breaks_22 : decode cX7_breaks 22 = .ok (.invokevirtual 209, 3) := by decide +kernel
theorem dX7_breaks_25 : decode cX7_breaks 25 = .ok (.aload_n 0, 1) := by decide +kernel
theorem dX7_breaks_26 : decode cX7_breaks 26 = .ok (.getfield 33, 3) := by decide +kernel
theorem dX7_breaks_29 : decode cX7_breaks 29 = .ok (.invokevirtual 212, 3) := by decide +kernel
theorem dX7_breaks_32 : decode cX7_breaks 32 = .ok (.ireturn, 1) := by decide +kernel
theorem dX7_least_0 : decode cX7_least 0 = .ok (.aload_n 0, 1) := by decide +kernel
theorem dX7_least_1 : decode cX7_least 1 = .ok (.iload_n 1, 1) := by decide +kernel
theorem dX7_least_2 : decode cX7_least 2 = .ok (.iload_n 2, 1) := by decide +kernel
theorem dX7_least_3 : decode cX7_least 3 = .ok (.invokevirtual 186, 3) := by decide +kernel
theorem dX7_least_6 : decode cX7_least 6 = .ok (.ifCond .eq 7, 3) := by decide +kernel
theorem dX7_least_9 : decode cX7_least 9 = .ok (.iload_n 3, 1) := by decide +kernel
theorem dX7_least_10 : decode cX7_least 10 = .ok (.ifCond .ge 5, 3) := by decide +kernel
theorem dX7_least_13 : decode cX7_least 13 = .ok (.iconst (-1), 1) := by decide +kernel
theorem dX7_least_14 : decode cX7_least 14 = .ok (.ireturn, 1) := by decide +kernel
theorem dX7_least_15 : decode cX7_least 15 = .ok (.aload_n 0, 1) := by decide +kernel
theorem dX7_least_16 : decode cX7_least 16 = .ok (.getfield 33, 3) := by decide +kernel
theorem dX7_least_19 : decode cX7_least 19 = .ok (.aload_n 0, 1) := by decide +kernel
theorem dX7_least_20 : decode cX7_least 20 = .ok (.getfield 19, 3) := by decide +kernel
theorem dX7_least_23 : decode cX7_least 23 = .ok (.iload_n 1, 1) := by decide +kernel
theorem dX7_least_24 : decode cX7_least 24 = .ok (.iload_n 2, 1) := by decide +kernel
theorem dX7_least_25 : decode cX7_least 25 = .ok (.invokevirtual 218, 3) := by decide +kernel
theorem dX7_least_28 : decode cX7_least 28 = .ok (.iconst (-1), 1) := by decide +kernel
theorem dX7_least_29 : decode cX7_least 29 = .ok (.istore 4, 2) := by decide +kernel
theorem dX7_least_31 : decode cX7_least 31 = .ok (.ldc 229, 2) := by decide +kernel
theorem dX7_least_33 : decode cX7_least 33 = .ok (.istore 5, 2) := by decide +kernel
theorem dX7_least_35 : decode cX7_least 35 = .ok (.iload 5, 2) := by decide +kernel
theorem dX7_least_37 : decode cX7_least 37 = .ok (.ifCond .le 63, 3) := by decide +kernel
theorem dX7_least_40 : decode cX7_least 40 = .ok (.iload 4, 2) := by decide +kernel
theorem dX7_least_42 : decode cX7_least 42 = .ok (.iload 5, 2) := by decide +kernel
theorem dX7_least_44 : decode cX7_least 44 = .ok (.iadd, 1) := by decide +kernel
theorem dX7_least_45 : decode cX7_least 45 = .ok (.istore 6, 2) := by decide +kernel
theorem dX7_least_47 : decode cX7_least 47 = .ok (.iload 6, 2) := by decide +kernel
theorem dX7_least_49 : decode cX7_least 49 = .ok (.ldc 137, 2) := by decide +kernel
theorem dX7_least_51 : decode cX7_least 51 = .ok (.if_icmp .gt 40, 3) := by decide +kernel
theorem dX7_least_54 : decode cX7_least 54 = .ok (.aload_n 0, 1) := by decide +kernel
theorem dX7_least_55 : decode cX7_least 55 = .ok (.getfield 33, 3) := by decide +kernel
theorem dX7_least_58 : decode cX7_least 58 = .ok (.aload_n 0, 1) := by decide +kernel
theorem dX7_least_59 : decode cX7_least 59 = .ok (.getfield 19, 3) := by decide +kernel
theorem dX7_least_62 : decode cX7_least 62 = .ok (.iconst 0, 1) := by decide +kernel
theorem dX7_least_63 : decode cX7_least 63 = .ok (.invokevirtual 141, 3) := by decide +kernel
theorem dX7_least_66 : decode cX7_least 66 = .ok (.iload 6, 2) := by decide +kernel
theorem dX7_least_68 : decode cX7_least 68 = .ok (.invokevirtual 219, 3) := by decide +kernel
theorem dX7_least_71 : decode cX7_least 71 = .ok (.aload_n 0, 1) := by decide +kernel
theorem dX7_least_72 : decode cX7_least 72 = .ok (.getfield 33, 3) := by decide +kernel
theorem dX7_least_75 : decode cX7_least 75 = .ok (.invokevirtual 212, 3) := by decide +kernel
theorem dX7_least_78 : decode cX7_least 78 = .ok (.iload_n 3, 1) := by decide +kernel
theorem dX7_least_79 : decode cX7_least 79 = .ok (.if_icmp .le 8, 3) := by decide +kernel
theorem dX7_least_82 : decode cX7_least 82 = .ok (.iload 6, 2) := by decide +kernel
theorem dX7_least_84 : decode cX7_least 84 = .ok (.goto 5, 3) := by decide +kernel
theorem dX7_least_87 : decode cX7_least 87 = .ok (.iload 4, 2) := by decide +kernel
theorem dX7_least_89 : decode cX7_least 89 = .ok (.istore 4, 2) := by decide +kernel
theorem dX7_least_91 : decode cX7_least 91 = .ok (.iload 5, 2) := by decide +kernel
theorem dX7_least_93 : decode cX7_least 93 = .ok (.iconst 2, 1) := by decide +kernel
theorem dX7_least_94 : decode cX7_least 94 = .ok (.idiv, 1) := by decide +kernel
theorem dX7_least_95 : decode cX7_least 95 = .ok (.istore 5, 2) := by decide +kernel
theorem dX7_least_97 : decode cX7_least 97 = .ok (.goto (-62), 3) := by decide +kernel
theorem dX7_least_100 : decode cX7_least 100 = .ok (.iload 4, 2) := by decide +kernel
theorem dX7_least_102 : decode cX7_least 102 = .ok (.ldc 137, 2) := by decide +kernel
theorem dX7_least_104 : decode cX7_least 104 = .ok (.if_icmp .ge 10, 3) := by decide +kernel
theorem dX7_least_107 : decode cX7_least 107 = .ok (.iload 4, 2) := by decide +kernel
theorem dX7_least_109 : decode cX7_least 109 = .ok (.iconst 1, 1) := by decide +kernel
theorem dX7_least_110 : decode cX7_least 110 = .ok (.iadd, 1) := by decide +kernel
theorem dX7_least_111 : decode cX7_least 111 = .ok (.goto 5, 3) := by decide +kernel
theorem dX7_least_114 : decode cX7_least 114 = .ok (.bipush (-4), 2) := by decide +kernel
theorem dX7_least_116 : decode cX7_least 116 = .ok (.ireturn, 1) := by decide +kernel
theorem dX7_votes_0 : decode cX7_votes 0 = .ok (.aload_n 0, 1) := by decide +kernel
theorem dX7_votes_1 : decode cX7_votes 1 = .ok (.getfield 19, 3) := by decide +kernel
theorem dX7_votes_4 : decode cX7_votes 4 = .ok (.iload_n 1, 1) := by decide +kernel
theorem dX7_votes_5 : decode cX7_votes 5 = .ok (.iload_n 2, 1) := by decide +kernel
theorem dX7_votes_6 : decode cX7_votes 6 = .ok (.invokevirtual 97, 3) := by decide +kernel
theorem dX7_votes_9 : decode cX7_votes 9 = .ok (.ifCond .ne 5, 3) := by decide +kernel
theorem dX7_votes_12 : decode cX7_votes 12 = .ok (.iconst (-1), 1) := by decide +kernel
theorem dX7_votes_13 : decode cX7_votes 13 = .ok (.ireturn, 1) := by decide +kernel
theorem dX7_votes_14 : decode cX7_votes 14 = .ok (.aload_n 0, 1) := by decide +kernel
theorem dX7_votes_15 : decode cX7_votes 15 = .ok (.getfield 40, 3) := by decide +kernel
theorem dX7_votes_18 : decode cX7_votes 18 = .ok (.aload_n 0, 1) := by decide +kernel
theorem dX7_votes_19 : decode cX7_votes 19 = .ok (.getfield 19, 3) := by decide +kernel
theorem dX7_votes_22 : decode cX7_votes 22 = .ok (.invokevirtual 230, 3) := by decide +kernel
theorem dX7_votes_25 : decode cX7_votes 25 = .ok (.aload_n 0, 1) := by decide +kernel
theorem dX7_votes_26 : decode cX7_votes 26 = .ok (.getfield 40, 3) := by decide +kernel
theorem dX7_votes_29 : decode cX7_votes 29 = .ok (.iload_n 1, 1) := by decide +kernel
theorem dX7_votes_30 : decode cX7_votes 30 = .ok (.iload_n 2, 1) := by decide +kernel
theorem dX7_votes_31 : decode cX7_votes 31 = .ok (.invokevirtual 233, 3) := by decide +kernel
theorem dX7_votes_34 : decode cX7_votes 34 = .ok (.ireturn, 1) := by decide +kernel
theorem dX7_culprit_0 : decode cX7_culprit 0 = .ok (.iload_n 1, 1) := by decide +kernel
theorem dX7_culprit_1 : decode cX7_culprit 1 = .ok (.iconst (-1), 1) := by decide +kernel
theorem dX7_culprit_2 : decode cX7_culprit 2 = .ok (.if_icmp .lt 12, 3) := by decide +kernel
theorem dX7_culprit_5 : decode cX7_culprit 5 = .ok (.iload_n 2, 1) := by decide +kernel
theorem dX7_culprit_6 : decode cX7_culprit 6 = .ok (.ifCond .lt 8, 3) := by decide +kernel
theorem dX7_culprit_9 : decode cX7_culprit 9 = .ok (.iload_n 2, 1) := by decide +kernel
theorem dX7_culprit_10 : decode cX7_culprit 10 = .ok (.iconst 4, 1) := by decide +kernel
theorem dX7_culprit_11 : decode cX7_culprit 11 = .ok (.if_icmp .lt 5, 3) := by decide +kernel
theorem dX7_culprit_14 : decode cX7_culprit 14 = .ok (.iconst (-1), 1) := by decide +kernel
theorem dX7_culprit_15 : decode cX7_culprit 15 = .ok (.ireturn, 1) := by decide +kernel
theorem dX7_culprit_16 : decode cX7_culprit 16 = .ok (.aload_n 0, 1) := by decide +kernel
theorem dX7_culprit_17 : decode cX7_culprit 17 = .ok (.getfield 40, 3) := by decide +kernel
theorem dX7_culprit_20 : decode cX7_culprit 20 = .ok (.aload_n 0, 1) := by decide +kernel
theorem dX7_culprit_21 : decode cX7_culprit 21 = .ok (.getfield 19, 3) := by decide +kernel
theorem dX7_culprit_24 : decode cX7_culprit 24 = .ok (.invokevirtual 230, 3) := by decide +kernel
theorem dX7_culprit_27 : decode cX7_culprit 27 = .ok (.iload_n 1, 1) := by decide +kernel
theorem dX7_culprit_28 : decode cX7_culprit 28 = .ok (.iconst (-1), 1) := by decide +kernel
theorem dX7_culprit_29 : decode cX7_culprit 29 = .ok (.if_icmp .ne 11, 3) := by decide +kernel
theorem dX7_culprit_32 : decode cX7_culprit 32 = .ok (.aload_n 0, 1) := by decide +kernel
theorem dX7_culprit_33 : decode cX7_culprit 33 = .ok (.getfield 40, 3) := by decide +kernel
theorem dX7_culprit_36 : decode cX7_culprit 36 = .ok (.invokevirtual 236, 3) := by decide +kernel
theorem dX7_culprit_39 : decode cX7_culprit 39 = .ok (.ireturn, 1) := by decide +kernel
theorem dX7_culprit_40 : decode cX7_culprit 40 = .ok (.iload_n 1, 1) := by decide +kernel
theorem dX7_culprit_41 : decode cX7_culprit 41 = .ok (.aload_n 0, 1) := by decide +kernel
theorem dX7_culprit_42 : decode cX7_culprit 42 = .ok (.getfield 40, 3) := by decide +kernel
theorem dX7_culprit_45 : decode cX7_culprit 45 = .ok (.invokevirtual 236, 3) := by decide +kernel
theorem dX7_culprit_48 : decode cX7_culprit 48 = .ok (.if_icmp .lt 6, 3) := by decide +kernel
theorem dX7_culprit_51 : decode cX7_culprit 51 = .ok (.bipush (-4), 2) := by decide +kernel
theorem dX7_culprit_53 : decode cX7_culprit 53 = .ok (.ireturn, 1) := by decide +kernel
theorem dX7_culprit_54 : decode cX7_culprit 54 = .ok (.iload_n 2, 1) := by decide +kernel
theorem dX7_culprit_55 : decode cX7_culprit 55 = .ok (.iconst 3, 1) := by decide +kernel
theorem dX7_culprit_56 : decode cX7_culprit 56 = .ok (.if_icmp .ne 18, 3) := by decide +kernel
theorem dX7_culprit_59 : decode cX7_culprit 59 = .ok (.aload_n 0, 1) := by decide +kernel
theorem dX7_culprit_60 : decode cX7_culprit 60 = .ok (.getfield 40, 3) := by decide +kernel
theorem dX7_culprit_63 : decode cX7_culprit 63 = .ok (.iload_n 1, 1) := by decide +kernel
theorem dX7_culprit_64 : decode cX7_culprit 64 = .ok (.iload_n 2, 1) := by decide +kernel
theorem dX7_culprit_65 : decode cX7_culprit 65 = .ok (.invokevirtual 237, 3) := by decide +kernel
theorem dX7_culprit_68 : decode cX7_culprit 68 = .ok (.ldc 110, 2) := by decide +kernel
theorem dX7_culprit_70 : decode cX7_culprit 70 = .ok (.iadd, 1) := by decide +kernel
theorem dX7_culprit_71 : decode cX7_culprit 71 = .ok (.goto 12, 3) := by decide +kernel
theorem dX7_culprit_74 : decode cX7_culprit 74 = .ok (.aload_n 0, 1) := by decide +kernel
theorem dX7_culprit_75 : decode cX7_culprit 75 = .ok (.getfield 40, 3) := by decide +kernel
theorem dX7_culprit_78 : decode cX7_culprit 78 = .ok (.iload_n 1, 1) := by decide +kernel
theorem dX7_culprit_79 : decode cX7_culprit 79 = .ok (.iload_n 2, 1) := by decide +kernel
theorem dX7_culprit_80 : decode cX7_culprit 80 = .ok (.invokevirtual 237, 3) := by decide +kernel
theorem dX7_culprit_83 : decode cX7_culprit 83 = .ok (.ireturn, 1) := by decide +kernel
theorem dX7_mend_0 : decode cX7_mend 0 = .ok (.iload_n 1, 1) := by decide +kernel
theorem dX7_mend_1 : decode cX7_mend 1 = .ok (.ifCond .ge 7, 3) := by decide +kernel
theorem dX7_mend_4 : decode cX7_mend 4 = .ok (.iconst (-1), 1) := by decide +kernel
theorem dX7_mend_5 : decode cX7_mend 5 = .ok (.goto 8, 3) := by decide +kernel
theorem dX7_mend_8 : decode cX7_mend 8 = .ok (.aload_n 0, 1) := by decide +kernel
theorem dX7_mend_9 : decode cX7_mend 9 = .ok (.iload_n 1, 1) := by decide +kernel
theorem dX7_mend_10 : decode cX7_mend 10 = .ok (.invokevirtual 240, 3) := by decide +kernel
theorem dX7_mend_13 : decode cX7_mend 13 = .ok (.ireturn, 1) := by decide +kernel
theorem dX7_mendCulprit_0 : decode cX7_mendCulprit 0 = .ok (.aload_n 0, 1) := by decide +kernel
theorem dX7_mendCulprit_1 : decode cX7_mendCulprit 1 = .ok (.getfield 40, 3) := by decide +kernel
theorem dX7_mendCulprit_4 : decode cX7_mendCulprit 4 = .ok (.aload_n 0, 1) := by decide +kernel
theorem dX7_mendCulprit_5 : decode cX7_mendCulprit 5 = .ok (.getfield 19, 3) := by decide +kernel
theorem dX7_mendCulprit_8 : decode cX7_mendCulprit 8 = .ok (.invokevirtual 230, 3) := by decide +kernel
theorem dX7_mendCulprit_11 : decode cX7_mendCulprit 11 = .ok (.iload_n 1, 1) := by decide +kernel
theorem dX7_mendCulprit_12 : decode cX7_mendCulprit 12 = .ok (.aload_n 0, 1) := by decide +kernel
theorem dX7_mendCulprit_13 : decode cX7_mendCulprit 13 = .ok (.getfield 40, 3) := by decide +kernel
theorem dX7_mendCulprit_16 : decode cX7_mendCulprit 16 = .ok (.invokevirtual 236, 3) := by decide +kernel
theorem dX7_mendCulprit_19 : decode cX7_mendCulprit 19 = .ok (.if_icmp .lt 6, 3) := by decide +kernel
theorem dX7_mendCulprit_22 : decode cX7_mendCulprit 22 = .ok (.bipush (-4), 2) := by decide +kernel
theorem dX7_mendCulprit_24 : decode cX7_mendCulprit 24 = .ok (.ireturn, 1) := by decide +kernel
theorem dX7_mendCulprit_25 : decode cX7_mendCulprit 25 = .ok (.aload_n 0, 1) := by decide +kernel
theorem dX7_mendCulprit_26 : decode cX7_mendCulprit 26 = .ok (.getfield 54, 3) := by decide +kernel
theorem dX7_mendCulprit_29 : decode cX7_mendCulprit 29 = .ok (.invokevirtual 243, 3) := by decide +kernel
theorem dX7_mendCulprit_32 : decode cX7_mendCulprit 32 = .ok (.ifCond .eq 6, 3) := by decide +kernel
theorem dX7_mendCulprit_35 : decode cX7_mendCulprit 35 = .ok (.bipush (-3), 2) := by decide +kernel
theorem dX7_mendCulprit_37 : decode cX7_mendCulprit 37 = .ok (.ireturn, 1) := by decide +kernel
theorem dX7_mendCulprit_38 : decode cX7_mendCulprit 38 = .ok (.aload_n 0, 1) := by decide +kernel
theorem dX7_mendCulprit_39 : decode cX7_mendCulprit 39 = .ok (.getfield 40, 3) := by decide +kernel
theorem dX7_mendCulprit_42 : decode cX7_mendCulprit 42 = .ok (.iload_n 1, 1) := by decide +kernel
theorem dX7_mendCulprit_43 : decode cX7_mendCulprit 43 = .ok (.iconst 0, 1) := by decide +kernel
theorem dX7_mendCulprit_44 : decode cX7_mendCulprit 44 = .ok (.invokevirtual 237, 3) := by decide +kernel
theorem dX7_mendCulprit_47 : decode cX7_mendCulprit 47 = .ok (.istore_n 2, 1) := by decide +kernel
theorem dX7_mendCulprit_48 : decode cX7_mendCulprit 48 = .ok (.aload_n 0, 1) := by decide +kernel
theorem dX7_mendCulprit_49 : decode cX7_mendCulprit 49 = .ok (.getfield 40, 3) := by decide +kernel
theorem dX7_mendCulprit_52 : decode cX7_mendCulprit 52 = .ok (.iload_n 1, 1) := by decide +kernel
theorem dX7_mendCulprit_53 : decode cX7_mendCulprit 53 = .ok (.iconst 1, 1) := by decide +kernel
theorem dX7_mendCulprit_54 : decode cX7_mendCulprit 54 = .ok (.invokevirtual 237, 3) := by decide +kernel
theorem dX7_mendCulprit_57 : decode cX7_mendCulprit 57 = .ok (.istore_n 3, 1) := by decide +kernel
theorem dX7_mendCulprit_58 : decode cX7_mendCulprit 58 = .ok (.aload_n 0, 1) := by decide +kernel
theorem dX7_mendCulprit_59 : decode cX7_mendCulprit 59 = .ok (.getfield 40, 3) := by decide +kernel
theorem dX7_mendCulprit_62 : decode cX7_mendCulprit 62 = .ok (.iload_n 1, 1) := by decide +kernel
theorem dX7_mendCulprit_63 : decode cX7_mendCulprit 63 = .ok (.iconst 3, 1) := by decide +kernel
theorem dX7_mendCulprit_64 : decode cX7_mendCulprit 64 = .ok (.invokevirtual 237, 3) := by decide +kernel
theorem dX7_mendCulprit_67 : decode cX7_mendCulprit 67 = .ok (.istore 4, 2) := by decide +kernel
theorem dX7_mendCulprit_69 : decode cX7_mendCulprit 69 = .ok (.iload 4, 2) := by decide +kernel
theorem dX7_mendCulprit_71 : decode cX7_mendCulprit 71 = .ok (.ifCond .eq 17, 3) := by decide +kernel
theorem dX7_mendCulprit_74 : decode cX7_mendCulprit 74 = .ok (.aload_n 0, 1) := by decide +kernel
theorem dX7_mendCulprit_75 : decode cX7_mendCulprit 75 = .ok (.getfield 19, 3) := by decide +kernel
theorem dX7_mendCulprit_78 : decode cX7_mendCulprit 78 = .ok (.iload_n 2, 1) := by decide +kernel
theorem dX7_mendCulprit_79 : decode cX7_mendCulprit 79 = .ok (.iload_n 3, 1) := by decide +kernel
theorem dX7_mendCulprit_80 : decode cX7_mendCulprit 80 = .ok (.iload 4, 2) := by decide +kernel
theorem dX7_mendCulprit_82 : decode cX7_mendCulprit 82 = .ok (.invokevirtual 247, 3) := by decide +kernel
theorem dX7_mendCulprit_85 : decode cX7_mendCulprit 85 = .ok (.ifCond .ne 6, 3) := by decide +kernel
theorem dX7_mendCulprit_88 : decode cX7_mendCulprit 88 = .ok (.bipush (-2), 2) := by decide +kernel
theorem dX7_mendCulprit_90 : decode cX7_mendCulprit 90 = .ok (.ireturn, 1) := by decide +kernel
theorem dX7_mendCulprit_91 : decode cX7_mendCulprit 91 = .ok (.aload_n 0, 1) := by decide +kernel
theorem dX7_mendCulprit_92 : decode cX7_mendCulprit 92 = .ok (.getfield 47, 3) := by decide +kernel
theorem dX7_mendCulprit_95 : decode cX7_mendCulprit 95 = .ok (.iconst 3, 1) := by decide +kernel
theorem dX7_mendCulprit_96 : decode cX7_mendCulprit 96 = .ok (.iload_n 2, 1) := by decide +kernel
theorem dX7_mendCulprit_97 : decode cX7_mendCulprit 97 = .ok (.iload_n 3, 1) := by decide +kernel
theorem dX7_mendCulprit_98 : decode cX7_mendCulprit 98 = .ok (.iload 4, 2) := by decide +kernel
theorem dX7_mendCulprit_100 : decode cX7_mendCulprit 100 = .ok (.invokevirtual 119, 3) := by decide +kernel
theorem dX7_mendCulprit_103 : decode cX7_mendCulprit 103 = .ok (.aload_n 0, 1) := by decide +kernel
theorem dX7_mendCulprit_104 : decode cX7_mendCulprit 104 = .ok (.getfield 19, 3) := by decide +kernel
theorem dX7_mendCulprit_107 : decode cX7_mendCulprit 107 = .ok (.iload_n 2, 1) := by decide +kernel
theorem dX7_mendCulprit_108 : decode cX7_mendCulprit 108 = .ok (.iload_n 3, 1) := by decide +kernel
theorem dX7_mendCulprit_109 : decode cX7_mendCulprit 109 = .ok (.iload 4, 2) := by decide +kernel
theorem dX7_mendCulprit_111 : decode cX7_mendCulprit 111 = .ok (.invokevirtual 159, 3) := by decide +kernel
theorem dX7_mendCulprit_114 : decode cX7_mendCulprit 114 = .ok (.aload_n 0, 1) := by decide +kernel
theorem dX7_mendCulprit_115 : decode cX7_mendCulprit 115 = .ok (.getfield 54, 3) := by decide +kernel
theorem dX7_mendCulprit_118 : decode cX7_mendCulprit 118 = .ok (.iload_n 2, 1) := by decide +kernel
theorem dX7_mendCulprit_119 : decode cX7_mendCulprit 119 = .ok (.iload_n 3, 1) := by decide +kernel
theorem dX7_mendCulprit_120 : decode cX7_mendCulprit 120 = .ok (.iload 4, 2) := by decide +kernel
theorem dX7_mendCulprit_122 : decode cX7_mendCulprit 122 = .ok (.invokevirtual 250, 3) := by decide +kernel
theorem dX7_mendCulprit_125 : decode cX7_mendCulprit 125 = .ok (.aload_n 0, 1) := by decide +kernel
theorem dX7_mendCulprit_126 : decode cX7_mendCulprit 126 = .ok (.getfield 54, 3) := by decide +kernel
theorem dX7_mendCulprit_129 : decode cX7_mendCulprit 129 = .ok (.invokevirtual 252, 3) := by decide +kernel
theorem dX7_mendCulprit_132 : decode cX7_mendCulprit 132 = .ok (.ireturn, 1) := by decide +kernel
theorem dX7_mends_0 : decode cX7_mends 0 = .ok (.iconst 0, 1) := by decide +kernel
theorem dX7_mends_1 : decode cX7_mends 1 = .ok (.istore_n 1, 1) := by decide +kernel
theorem dX7_mends_2 : decode cX7_mends 2 = .ok (.iload_n 1, 1) := by decide +kernel
theorem dX7_mends_3 : decode cX7_mends 3 = .ok (.bipush 12, 2) := by decide +kernel
theorem dX7_mends_5 : decode cX7_mends 5 = .ok (.if_icmp .ge 17, 3) := by decide +kernel
theorem dX7_mends_8 : decode cX7_mends 8 = .ok (.aload_n 0, 1) := by decide +kernel
theorem dX7_mends_9 : decode cX7_mends 9 = .ok (.iconst 0, 1) := by decide +kernel
theorem dX7_mends_10 : decode cX7_mends 10 = .ok (.invokevirtual 240, 3) := by decide +kernel
theorem dX7_mends_13 : decode cX7_mends 13 = .ok (.ifCond .le 9, 3) := by decide +kernel
theorem dX7_mends_16 : decode cX7_mends 16 = .ok (.iinc 1 1, 3) := by decide +kernel
theorem dX7_mends_19 : decode cX7_mends 19 = .ok (.goto (-17), 3) := by decide +kernel
theorem dX7_mends_22 : decode cX7_mends 22 = .ok (.iload_n 1, 1) := by decide +kernel
theorem dX7_mends_23 : decode cX7_mends 23 = .ok (.ireturn, 1) := by decide +kernel
theorem dX7_ledger_0 : decode cX7_ledger 0 = .ok (.iload_n 1, 1) := by decide +kernel
theorem dX7_ledger_1 : decode cX7_ledger 1 = .ok (.iconst (-1), 1) := by decide +kernel
theorem dX7_ledger_2 : decode cX7_ledger 2 = .ok (.if_icmp .lt 12, 3) := by decide +kernel
theorem dX7_ledger_5 : decode cX7_ledger 5 = .ok (.iload_n 2, 1) := by decide +kernel
theorem dX7_ledger_6 : decode cX7_ledger 6 = .ok (.ifCond .lt 8, 3) := by decide +kernel
theorem dX7_ledger_9 : decode cX7_ledger 9 = .ok (.iload_n 2, 1) := by decide +kernel
theorem dX7_ledger_10 : decode cX7_ledger 10 = .ok (.iconst 3, 1) := by decide +kernel
theorem dX7_ledger_11 : decode cX7_ledger 11 = .ok (.if_icmp .lt 5, 3) := by decide +kernel
theorem dX7_ledger_14 : decode cX7_ledger 14 = .ok (.iconst (-1), 1) := by decide +kernel
theorem dX7_ledger_15 : decode cX7_ledger 15 = .ok (.ireturn, 1) := by decide +kernel
theorem dX7_ledger_16 : decode cX7_ledger 16 = .ok (.iload_n 1, 1) := by decide +kernel
theorem dX7_ledger_17 : decode cX7_ledger 17 = .ok (.iconst (-1), 1) := by decide +kernel
theorem dX7_ledger_18 : decode cX7_ledger 18 = .ok (.if_icmp .ne 11, 3) := by decide +kernel
theorem dX7_ledger_21 : decode cX7_ledger 21 = .ok (.aload_n 0, 1) := by decide +kernel
theorem dX7_ledger_22 : decode cX7_ledger 22 = .ok (.getfield 54, 3) := by decide +kernel
theorem dX7_ledger_25 : decode cX7_ledger 25 = .ok (.invokevirtual 252, 3) := by decide +kernel
theorem dX7_ledger_28 : decode cX7_ledger 28 = .ok (.ireturn, 1) := by decide +kernel
theorem dX7_ledger_29 : decode cX7_ledger 29 = .ok (.iload_n 1, 1) := by decide +kernel
theorem dX7_ledger_30 : decode cX7_ledger 30 = .ok (.aload_n 0, 1) := by decide +kernel
theorem dX7_ledger_31 : decode cX7_ledger 31 = .ok (.getfield 54, 3) := by decide +kernel
theorem dX7_ledger_34 : decode cX7_ledger 34 = .ok (.invokevirtual 252, 3) := by decide +kernel
theorem dX7_ledger_37 : decode cX7_ledger 37 = .ok (.if_icmp .lt 6, 3) := by decide +kernel
theorem dX7_ledger_40 : decode cX7_ledger 40 = .ok (.bipush (-4), 2) := by decide +kernel
theorem dX7_ledger_42 : decode cX7_ledger 42 = .ok (.ireturn, 1) := by decide +kernel
theorem dX7_ledger_43 : decode cX7_ledger 43 = .ok (.iload_n 2, 1) := by decide +kernel
theorem dX7_ledger_44 : decode cX7_ledger 44 = .ok (.iconst 2, 1) := by decide +kernel
theorem dX7_ledger_45 : decode cX7_ledger 45 = .ok (.if_icmp .ne 18, 3) := by decide +kernel
theorem dX7_ledger_48 : decode cX7_ledger 48 = .ok (.aload_n 0, 1) := by decide +kernel
theorem dX7_ledger_49 : decode cX7_ledger 49 = .ok (.getfield 54, 3) := by decide +kernel
theorem dX7_ledger_52 : decode cX7_ledger 52 = .ok (.iload_n 1, 1) := by decide +kernel
theorem dX7_ledger_53 : decode cX7_ledger 53 = .ok (.iload_n 2, 1) := by decide +kernel
theorem dX7_ledger_54 : decode cX7_ledger 54 = .ok (.invokevirtual 253, 3) := by decide +kernel
theorem dX7_ledger_57 : decode cX7_ledger 57 = .ok (.ldc 110, 2) := by decide +kernel
theorem dX7_ledger_59 : decode cX7_ledger 59 = .ok (.iadd, 1) := by decide +kernel
theorem dX7_ledger_60 : decode cX7_ledger 60 = .ok (.goto 12, 3) := by decide +kernel
theorem dX7_ledger_63 : decode cX7_ledger 63 = .ok (.aload_n 0, 1) := by decide +kernel
theorem dX7_ledger_64 : decode cX7_ledger 64 = .ok (.getfield 54, 3) := by decide +kernel
theorem dX7_ledger_67 : decode cX7_ledger 67 = .ok (.iload_n 1, 1) := by decide +kernel
theorem dX7_ledger_68 : decode cX7_ledger 68 = .ok (.iload_n 2, 1) := by decide +kernel
theorem dX7_ledger_69 : decode cX7_ledger 69 = .ok (.invokevirtual 253, 3) := by decide +kernel
theorem dX7_ledger_72 : decode cX7_ledger 72 = .ok (.ireturn, 1) := by decide +kernel
theorem dX7_made_0 : decode cX7_made 0 = .ok (.aload_n 0, 1) := by decide +kernel
theorem dX7_made_1 : decode cX7_made 1 = .ok (.iload_n 1, 1) := by decide +kernel
theorem dX7_made_2 : decode cX7_made 2 = .ok (.iload_n 2, 1) := by decide +kernel
theorem dX7_made_3 : decode cX7_made 3 = .ok (.invokevirtual 254, 3) := by decide +kernel
theorem dX7_made_6 : decode cX7_made 6 = .ok (.ireturn, 1) := by decide +kernel
theorem dX7_make_0 : decode cX7_make 0 = .ok (.aload_n 0, 1) := by decide +kernel
theorem dX7_make_1 : decode cX7_make 1 = .ok (.iload_n 1, 1) := by decide +kernel
theorem dX7_make_2 : decode cX7_make 2 = .ok (.iload_n 2, 1) := by decide +kernel
theorem dX7_make_3 : decode cX7_make 3 = .ok (.invokevirtual 254, 3) := by decide +kernel
theorem dX7_make_6 : decode cX7_make 6 = .ok (.istore_n 3, 1) := by decide +kernel
theorem dX7_make_7 : decode cX7_make 7 = .ok (.iload_n 3, 1) := by decide +kernel
theorem dX7_make_8 : decode cX7_make 8 = .ok (.ifCond .ge 5, 3) := by decide +kernel
theorem dX7_make_11 : decode cX7_make 11 = .ok (.iload_n 3, 1) := by decide +kernel
theorem dX7_make_12 : decode cX7_make 12 = .ok (.ireturn, 1) := by decide +kernel
theorem dX7_make_13 : decode cX7_make 13 = .ok (.iload_n 3, 1) := by decide +kernel
theorem dX7_make_14 : decode cX7_make 14 = .ok (.ldc 110, 2) := by decide +kernel
theorem dX7_make_16 : decode cX7_make 16 = .ok (.isub, 1) := by decide +kernel
theorem dX7_make_17 : decode cX7_make 17 = .ok (.invokestatic 111, 3) := by decide +kernel
theorem dX7_make_20 : decode cX7_make 20 = .ok (.ifCond .ne 6, 3) := by decide +kernel
theorem dX7_make_23 : decode cX7_make 23 = .ok (.bipush (-3), 2) := by decide +kernel
theorem dX7_make_25 : decode cX7_make 25 = .ok (.ireturn, 1) := by decide +kernel
theorem dX7_make_26 : decode cX7_make 26 = .ok (.aload_n 0, 1) := by decide +kernel
theorem dX7_make_27 : decode cX7_make 27 = .ok (.iload_n 1, 1) := by decide +kernel
theorem dX7_make_28 : decode cX7_make 28 = .ok (.iload_n 2, 1) := by decide +kernel
theorem dX7_make_29 : decode cX7_make 29 = .ok (.iload_n 3, 1) := by decide +kernel
theorem dX7_make_30 : decode cX7_make 30 = .ok (.ldc 110, 2) := by decide +kernel
theorem dX7_make_32 : decode cX7_make 32 = .ok (.isub, 1) := by decide +kernel
theorem dX7_make_33 : decode cX7_make 33 = .ok (.invokevirtual 115, 3) := by decide +kernel
theorem dX7_make_36 : decode cX7_make 36 = .ok (.pop, 1) := by decide +kernel
theorem dX7_make_37 : decode cX7_make 37 = .ok (.iload_n 3, 1) := by decide +kernel
theorem dX7_make_38 : decode cX7_make 38 = .ok (.ireturn, 1) := by decide +kernel
theorem dX7_estimate_0 : decode cX7_estimate 0 = .ok (.aload_n 0, 1) := by decide +kernel
theorem dX7_estimate_1 : decode cX7_estimate 1 = .ok (.getfield 19, 3) := by decide +kernel
theorem dX7_estimate_4 : decode cX7_estimate 4 = .ok (.iload_n 1, 1) := by decide +kernel
theorem dX7_estimate_5 : decode cX7_estimate 5 = .ok (.iload_n 2, 1) := by decide +kernel
theorem dX7_estimate_6 : decode cX7_estimate 6 = .ok (.invokevirtual 97, 3) := by decide +kernel
theorem dX7_estimate_9 : decode cX7_estimate 9 = .ok (.ifCond .ne 5, 3) := by decide +kernel
theorem dX7_estimate_12 : decode cX7_estimate 12 = .ok (.iconst (-1), 1) := by decide +kernel
theorem dX7_estimate_13 : decode cX7_estimate 13 = .ok (.ireturn, 1) := by decide +kernel
theorem dX7_estimate_14 : decode cX7_estimate 14 = .ok (.aload_n 0, 1) := by decide +kernel
theorem dX7_estimate_15 : decode cX7_estimate 15 = .ok (.getfield 19, 3) := by decide +kernel
theorem dX7_estimate_18 : decode cX7_estimate 18 = .ok (.iload_n 1, 1) := by decide +kernel
theorem dX7_estimate_19 : decode cX7_estimate 19 = .ok (.iload_n 2, 1) := by decide +kernel
theorem dX7_estimate_20 : decode cX7_estimate 20 = .ok (.invokevirtual 257, 3) := by decide +kernel
theorem dX7_estimate_23 : decode cX7_estimate 23 = .ok (.ifCond .eq 6, 3) := by decide +kernel
theorem dX7_estimate_26 : decode cX7_estimate 26 = .ok (.bipush (-2), 2) := by decide +kernel
theorem dX7_estimate_28 : decode cX7_estimate 28 = .ok (.ireturn, 1) := by decide +kernel
theorem dX7_estimate_29 : decode cX7_estimate 29 = .ok (.lconst 0, 1) := by decide +kernel
theorem dX7_estimate_30 : decode cX7_estimate 30 = .ok (.lstore_n 3, 1) := by decide +kernel
theorem dX7_estimate_31 : decode cX7_estimate 31 = .ok (.iconst 0, 1) := by decide +kernel
theorem dX7_estimate_32 : decode cX7_estimate 32 = .ok (.istore 5, 2) := by decide +kernel
theorem dX7_estimate_34 : decode cX7_estimate 34 = .ok (.iconst 0, 1) := by decide +kernel
theorem dX7_estimate_35 : decode cX7_estimate 35 = .ok (.istore 6, 2) := by decide +kernel
theorem dX7_estimate_37 : decode cX7_estimate 37 = .ok (.iload 6, 2) := by decide +kernel
theorem dX7_estimate_39 : decode cX7_estimate 39 = .ok (.aload_n 0, 1) := by decide +kernel
theorem dX7_estimate_40 : decode cX7_estimate 40 = .ok (.getfield 19, 3) := by decide +kernel
theorem dX7_estimate_43 : decode cX7_estimate 43 = .ok (.invokevirtual 88, 3) := by decide +kernel
theorem dX7_estimate_46 : decode cX7_estimate 46 = .ok (.if_icmp .ge 102, 3) := by decide +kernel
theorem dX7_estimate_49 : decode cX7_estimate 49 = .ok (.iload 6, 2) := by decide +kernel
theorem dX7_estimate_51 : decode cX7_estimate 51 = .ok (.iload_n 1, 1) := by decide +kernel
theorem dX7_estimate_52 : decode cX7_estimate 52 = .ok (.if_icmp .eq 90, 3) := by decide +kernel
theorem dX7_estimate_55 : decode cX7_estimate 55 = .ok (.aload_n 0, 1) := by decide +kernel
theorem dX7_estimate_56 : decode cX7_estimate 56 = .ok (.getfield 19, 3) := by decide +kernel
theorem dX7_estimate_59 : decode cX7_estimate 59 = .ok (.iload 6, 2) := by decide +kernel
theorem dX7_estimate_61 : decode cX7_estimate 61 = .ok (.iload_n 2, 1) := by decide +kernel
theorem dX7_estimate_62 : decode cX7_estimate 62 = .ok (.invokevirtual 257, 3) := by decide +kernel
theorem dX7_estimate_65 : decode cX7_estimate 65 = .ok (.ifCond .eq 77, 3) := by decide +kernel
theorem dX7_estimate_68 : decode cX7_estimate 68 = .ok (.aload_n 0, 1) := by decide +kernel
theorem dX7_estimate_69 : decode cX7_estimate 69 = .ok (.getfield 19, 3) := by decide +kernel
theorem dX7_estimate_72 : decode cX7_estimate 72 = .ok (.iload_n 1, 1) := by decide +kernel
theorem dX7_estimate_73 : decode cX7_estimate 73 = .ok (.iload 6, 2) := by decide +kernel
theorem dX7_estimate_75 : decode cX7_estimate 75 = .ok (.invokevirtual 189, 3) := by decide +kernel
theorem dX7_estimate_78 : decode cX7_estimate 78 = .ok (.ifCond .eq 64, 3) := by decide +kernel
theorem dX7_estimate_81 : decode cX7_estimate 81 = .ok (.aload_n 0, 1) := by decide +kernel
theorem dX7_estimate_82 : decode cX7_estimate 82 = .ok (.getfield 26, 3) := by decide +kernel
theorem dX7_estimate_85 : decode cX7_estimate 85 = .ok (.aload_n 0, 1) := by decide +kernel
theorem dX7_estimate_86 : decode cX7_estimate 86 = .ok (.getfield 19, 3) := by decide +kernel
theorem dX7_estimate_89 : decode cX7_estimate 89 = .ok (.iload_n 1, 1) := by decide +kernel
theorem dX7_estimate_90 : decode cX7_estimate 90 = .ok (.iload 6, 2) := by decide +kernel
theorem dX7_estimate_92 : decode cX7_estimate 92 = .ok (.invokevirtual 192, 3) := by decide +kernel
theorem dX7_estimate_95 : decode cX7_estimate 95 = .ok (.aload_n 0, 1) := by decide +kernel
theorem dX7_estimate_96 : decode cX7_estimate 96 = .ok (.getfield 26, 3) := by decide +kernel
theorem dX7_estimate_99 : decode cX7_estimate 99 = .ok (.invokevirtual 196, 3) := by decide +kernel
theorem dX7_estimate_102 : decode cX7_estimate 102 = .ok (.ifCond .le 40, 3) := by decide +kernel
theorem dX7_estimate_105 : decode cX7_estimate 105 = .ok (.lload_n 3, 1) := by decide +kernel
theorem dX7_estimate_106 : decode cX7_estimate 106 = .ok (.ldc2_w 260, 3) := by decide +kernel
theorem dX7_estimate_109 : decode cX7_estimate 109 = .ok (.aload_n 0, 1) := by decide +kernel
theorem dX7_estimate_110 : decode cX7_estimate 110 = .ok (.getfield 19, 3) := by decide +kernel
theorem dX7_estimate_113 : decode cX7_estimate 113 = .ok (.iload 6, 2) := by decide +kernel
theorem dX7_estimate_115 : decode cX7_estimate 115 = .ok (.iload_n 2, 1) := by decide +kernel
theorem dX7_estimate_116 : decode cX7_estimate 116 = .ok (.invokevirtual 101, 3) := by decide +kernel
theorem dX7_estimate_119 : decode cX7_estimate 119 = .ok (.i2l, 1) := by decide +kernel
theorem dX7_estimate_120 : decode cX7_estimate 120 = .ok (.lmul, 1) := by decide +kernel
theorem dX7_estimate_121 : decode cX7_estimate 121 = .ok (.aload_n 0, 1) := by decide +kernel
theorem dX7_estimate_122 : decode cX7_estimate 122 = .ok (.getfield 26, 3) := by decide +kernel
theorem dX7_estimate_125 : decode cX7_estimate 125 = .ok (.iconst 0, 1) := by decide +kernel
theorem dX7_estimate_126 : decode cX7_estimate 126 = .ok (.aload_n 0, 1) := by decide +kernel
theorem dX7_estimate_127 : decode cX7_estimate 127 = .ok (.getfield 26, 3) := by decide +kernel
theorem dX7_estimate_130 : decode cX7_estimate 130 = .ok (.invokevirtual 196, 3) := by decide +kernel
theorem dX7_estimate_133 : decode cX7_estimate 133 = .ok (.invokevirtual 262, 3) := by decide +kernel
theorem dX7_estimate_136 : decode cX7_estimate 136 = .ok (.ladd, 1) := by decide +kernel
theorem dX7_estimate_137 : decode cX7_estimate 137 = .ok (.ladd, 1) := by decide +kernel
theorem dX7_estimate_138 : decode cX7_estimate 138 = .ok (.lstore_n 3, 1) := by decide +kernel
theorem dX7_estimate_139 : decode cX7_estimate 139 = .ok (.iinc 5 1, 3) := by decide +kernel
theorem dX7_estimate_142 : decode cX7_estimate 142 = .ok (.iinc 6 1, 3) := by decide +kernel
theorem dX7_estimate_145 : decode cX7_estimate 145 = .ok (.goto (-108), 3) := by decide +kernel
theorem dX7_estimate_148 : decode cX7_estimate 148 = .ok (.iload 5, 2) := by decide +kernel
theorem dX7_estimate_150 : decode cX7_estimate 150 = .ok (.ifCond .ne 8, 3) := by decide +kernel
theorem dX7_estimate_153 : decode cX7_estimate 153 = .ok (.bipush (-4), 2) := by decide +kernel
theorem dX7_estimate_155 : decode cX7_estimate 155 = .ok (.goto 12, 3) := by decide +kernel
theorem dX7_estimate_158 : decode cX7_estimate 158 = .ok (.lload_n 3, 1) := by decide +kernel
theorem dX7_estimate_159 : decode cX7_estimate 159 = .ok (.iload 5, 2) := by decide +kernel
theorem dX7_estimate_161 : decode cX7_estimate 161 = .ok (.invokestatic 265, 3) := by decide +kernel
theorem dX7_estimate_164 : decode cX7_estimate 164 = .ok (.ldc 110, 2) := by decide +kernel
theorem dX7_estimate_166 : decode cX7_estimate 166 = .ok (.iadd, 1) := by decide +kernel
theorem dX7_estimate_167 : decode cX7_estimate 167 = .ok (.ireturn, 1) := by decide +kernel
theorem dX7_roundedMean_0 : decode cX7_roundedMean 0 = .ok (.iload_n 2, 1) := by decide +kernel
theorem dX7_roundedMean_1 : decode cX7_roundedMean 1 = .ok (.iconst 1, 1) := by decide +kernel
theorem dX7_roundedMean_2 : decode cX7_roundedMean 2 = .ok (.if_icmp .ge 5, 3) := by decide +kernel
theorem dX7_roundedMean_5 : decode cX7_roundedMean 5 = .ok (.iconst 0, 1) := by decide +kernel
theorem dX7_roundedMean_6 : decode cX7_roundedMean 6 = .ok (.ireturn, 1) := by decide +kernel
theorem dX7_roundedMean_7 : decode cX7_roundedMean 7 = .ok (.ldc2_w 260, 3) := by decide +kernel
theorem dX7_roundedMean_10 : decode cX7_roundedMean 10 = .ok (.iload_n 2, 1) := by decide +kernel
theorem dX7_roundedMean_11 : decode cX7_roundedMean 11 = .ok (.i2l, 1) := by decide +kernel
theorem dX7_roundedMean_12 : decode cX7_roundedMean 12 = .ok (.lmul, 1) := by decide +kernel
theorem dX7_roundedMean_13 : decode cX7_roundedMean 13 = .ok (.lstore_n 3, 1) := by decide +kernel
theorem dX7_roundedMean_14 : decode cX7_roundedMean 14 = .ok (.ldc2_w 269, 3) := by decide +kernel
theorem dX7_roundedMean_17 : decode cX7_roundedMean 17 = .ok (.lload_n 0, 1) := by decide +kernel
theorem dX7_roundedMean_18 : decode cX7_roundedMean 18 = .ok (.lmul, 1) := by decide +kernel
theorem dX7_roundedMean_19 : decode cX7_roundedMean 19 = .ok (.lload_n 3, 1) := by decide +kernel
theorem dX7_roundedMean_20 : decode cX7_roundedMean 20 = .ok (.ladd, 1) := by decide +kernel
theorem dX7_roundedMean_21 : decode cX7_roundedMean 21 = .ok (.ldc2_w 269, 3) := by decide +kernel
theorem dX7_roundedMean_24 : decode cX7_roundedMean 24 = .ok (.lload_n 3, 1) := by decide +kernel
theorem dX7_roundedMean_25 : decode cX7_roundedMean 25 = .ok (.lmul, 1) := by decide +kernel
theorem dX7_roundedMean_26 : decode cX7_roundedMean 26 = .ok (.invokestatic 271, 3) := by decide +kernel
theorem dX7_roundedMean_29 : decode cX7_roundedMean 29 = .ok (.l2i, 1) := by decide +kernel
theorem dX7_roundedMean_30 : decode cX7_roundedMean 30 = .ok (.ireturn, 1) := by decide +kernel
theorem dX7_rise_0 : decode cX7_rise 0 = .ok (.aload_n 0, 1) := by decide +kernel
theorem dX7_rise_1 : decode cX7_rise 1 = .ok (.getfield 19, 3) := by decide +kernel
theorem dX7_rise_4 : decode cX7_rise 4 = .ok (.iload_n 1, 1) := by decide +kernel
theorem dX7_rise_5 : decode cX7_rise 5 = .ok (.invokevirtual 180, 3) := by decide +kernel
theorem dX7_rise_8 : decode cX7_rise 8 = .ok (.ifCond .ne 5, 3) := by decide +kernel
theorem dX7_rise_11 : decode cX7_rise 11 = .ok (.iconst (-1), 1) := by decide +kernel
theorem dX7_rise_12 : decode cX7_rise 12 = .ok (.ireturn, 1) := by decide +kernel
theorem dX7_rise_13 : decode cX7_rise 13 = .ok (.iconst 0, 1) := by decide +kernel
theorem dX7_rise_14 : decode cX7_rise 14 = .ok (.istore_n 2, 1) := by decide +kernel
theorem dX7_rise_15 : decode cX7_rise 15 = .ok (.iconst 1, 1) := by decide +kernel
theorem dX7_rise_16 : decode cX7_rise 16 = .ok (.istore_n 3, 1) := by decide +kernel
theorem dX7_rise_17 : decode cX7_rise 17 = .ok (.iload_n 3, 1) := by decide +kernel
theorem dX7_rise_18 : decode cX7_rise 18 = .ok (.aload_n 0, 1) := by decide +kernel
theorem dX7_rise_19 : decode cX7_rise 19 = .ok (.getfield 19, 3) := by decide +kernel
theorem dX7_rise_22 : decode cX7_rise 22 = .ok (.invokevirtual 177, 3) := by decide +kernel
theorem dX7_rise_25 : decode cX7_rise 25 = .ok (.if_icmp .ge 74, 3) := by decide +kernel
theorem dX7_rise_28 : decode cX7_rise 28 = .ok (.iconst 0, 1) := by decide +kernel
theorem dX7_rise_29 : decode cX7_rise 29 = .ok (.istore 4, 2) := by decide +kernel
theorem dX7_rise_31 : decode cX7_rise 31 = .ok (.iload 4, 2) := by decide +kernel
theorem dX7_rise_33 : decode cX7_rise 33 = .ok (.iload_n 3, 1) := by decide +kernel
theorem dX7_rise_34 : decode cX7_rise 34 = .ok (.if_icmp .ge 59, 3) := by decide +kernel
theorem dX7_rise_37 : decode cX7_rise 37 = .ok (.aload_n 0, 1) := by decide +kernel
theorem dX7_rise_38 : decode cX7_rise 38 = .ok (.getfield 19, 3) := by decide +kernel
theorem dX7_rise_41 : decode cX7_rise 41 = .ok (.iload_n 1, 1) := by decide +kernel
theorem dX7_rise_42 : decode cX7_rise 42 = .ok (.iload 4, 2) := by decide +kernel
theorem dX7_rise_44 : decode cX7_rise 44 = .ok (.invokevirtual 257, 3) := by decide +kernel
theorem dX7_rise_47 : decode cX7_rise 47 = .ok (.ifCond .eq 40, 3) := by decide +kernel
theorem dX7_rise_50 : decode cX7_rise 50 = .ok (.aload_n 0, 1) := by decide +kernel
theorem dX7_rise_51 : decode cX7_rise 51 = .ok (.getfield 19, 3) := by decide +kernel
theorem dX7_rise_54 : decode cX7_rise 54 = .ok (.iload_n 1, 1) := by decide +kernel
theorem dX7_rise_55 : decode cX7_rise 55 = .ok (.iload_n 3, 1) := by decide +kernel
theorem dX7_rise_56 : decode cX7_rise 56 = .ok (.invokevirtual 257, 3) := by decide +kernel
theorem dX7_rise_59 : decode cX7_rise 59 = .ok (.ifCond .eq 28, 3) := by decide +kernel
theorem dX7_rise_62 : decode cX7_rise 62 = .ok (.iload_n 2, 1) := by decide +kernel
theorem dX7_rise_63 : decode cX7_rise 63 = .ok (.aload_n 0, 1) := by decide +kernel
theorem dX7_rise_64 : decode cX7_rise 64 = .ok (.getfield 19, 3) := by decide +kernel
theorem dX7_rise_67 : decode cX7_rise 67 = .ok (.iload_n 1, 1) := by decide +kernel
theorem dX7_rise_68 : decode cX7_rise 68 = .ok (.iload 4, 2) := by decide +kernel
theorem dX7_rise_70 : decode cX7_rise 70 = .ok (.invokevirtual 101, 3) := by decide +kernel
theorem dX7_rise_73 : decode cX7_rise 73 = .ok (.aload_n 0, 1) := by decide +kernel
theorem dX7_rise_74 : decode cX7_rise 74 = .ok (.getfield 19, 3) := by decide +kernel
theorem dX7_rise_77 : decode cX7_rise 77 = .ok (.iload_n 1, 1) := by decide +kernel
theorem dX7_rise_78 : decode cX7_rise 78 = .ok (.iload_n 3, 1) := by decide +kernel
theorem dX7_rise_79 : decode cX7_rise 79 = .ok (.invokevirtual 101, 3) := by decide +kernel
theorem dX7_rise_82 : decode cX7_rise 82 = .ok (.invokestatic 277, 3) := by decide +kernel
theorem dX7_rise_85 : decode cX7_rise 85 = .ok (.iadd, 1) := by decide +kernel
theorem dX7_rise_86 : decode cX7_rise 86 = .ok (.istore_n 2, 1) := by decide +kernel
theorem dX7_rise_87 : decode cX7_rise 87 = .ok (.iinc 4 1, 3) := by decide +kernel
theorem dX7_rise_90 : decode cX7_rise 90 = .ok (.goto (-59), 3) := by decide +kernel
theorem dX7_rise_93 : decode cX7_rise 93 = .ok (.iinc 3 1, 3) := by decide +kernel
theorem dX7_rise_96 : decode cX7_rise 96 = .ok (.goto (-79), 3) := by decide +kernel
theorem dX7_rise_99 : decode cX7_rise 99 = .ok (.iload_n 2, 1) := by decide +kernel
theorem dX7_rise_100 : decode cX7_rise 100 = .ok (.ldc 110, 2) := by decide +kernel
theorem dX7_rise_102 : decode cX7_rise 102 = .ok (.iadd, 1) := by decide +kernel
theorem dX7_rise_103 : decode cX7_rise 103 = .ok (.ireturn, 1) := by decide +kernel
theorem dX7_direction_0 : decode cX7_direction 0 = .ok (.iload_n 0, 1) := by decide +kernel
theorem dX7_direction_1 : decode cX7_direction 1 = .ok (.iload_n 1, 1) := by decide +kernel
theorem dX7_direction_2 : decode cX7_direction 2 = .ok (.if_icmp .ne 5, 3) := by decide +kernel
theorem dX7_direction_5 : decode cX7_direction 5 = .ok (.iconst 0, 1) := by decide +kernel
theorem dX7_direction_6 : decode cX7_direction 6 = .ok (.ireturn, 1) := by decide +kernel
theorem dX7_direction_7 : decode cX7_direction 7 = .ok (.iload_n 0, 1) := by decide +kernel
theorem dX7_direction_8 : decode cX7_direction 8 = .ok (.iload_n 1, 1) := by decide +kernel
theorem dX7_direction_9 : decode cX7_direction 9 = .ok (.if_icmp .ge 7, 3) := by decide +kernel
theorem dX7_direction_12 : decode cX7_direction 12 = .ok (.iconst 1, 1) := by decide +kernel
theorem dX7_direction_13 : decode cX7_direction 13 = .ok (.goto 4, 3) := by decide +kernel
theorem dX7_direction_16 : decode cX7_direction 16 = .ok (.iconst (-1), 1) := by decide +kernel
theorem dX7_direction_17 : decode cX7_direction 17 = .ok (.ireturn, 1) := by decide +kernel
theorem dX7_count_0 : decode cX7_count 0 = .ok (.iload_n 1, 1) := by decide +kernel
theorem dX7_count_1 : decode cX7_count 1 = .ok (.tableswitch 151 0 10 #[59, 67, 75, 83, 92, 101, 110, 119, 127, 135, 143], 59) := by decide +kernel
theorem dX7_count_60 : decode cX7_count 60 = .ok (.aload_n 0, 1) := by decide +kernel
theorem dX7_count_61 : decode cX7_count 61 = .ok (.getfield 19, 3) := by decide +kernel
theorem dX7_count_64 : decode cX7_count 64 = .ok (.invokevirtual 88, 3) := by decide +kernel
theorem dX7_count_67 : decode cX7_count 67 = .ok (.ireturn, 1) := by decide +kernel
theorem dX7_count_68 : decode cX7_count 68 = .ok (.aload_n 0, 1) := by decide +kernel
theorem dX7_count_69 : decode cX7_count 69 = .ok (.getfield 19, 3) := by decide +kernel
theorem dX7_count_72 : decode cX7_count 72 = .ok (.invokevirtual 177, 3) := by decide +kernel
theorem dX7_count_75 : decode cX7_count 75 = .ok (.ireturn, 1) := by decide +kernel
theorem dX7_count_76 : decode cX7_count 76 = .ok (.aload_n 0, 1) := by decide +kernel
theorem dX7_count_77 : decode cX7_count 77 = .ok (.getfield 19, 3) := by decide +kernel
theorem dX7_count_80 : decode cX7_count 80 = .ok (.invokevirtual 130, 3) := by decide +kernel
theorem dX7_count_83 : decode cX7_count 83 = .ok (.ireturn, 1) := by decide +kernel
theorem dX7_count_84 : decode cX7_count 84 = .ok (.aload_n 0, 1) := by decide +kernel
theorem dX7_count_85 : decode cX7_count 85 = .ok (.getfield 19, 3) := by decide +kernel
theorem dX7_count_88 : decode cX7_count 88 = .ok (.iconst 0, 1) := by decide +kernel
theorem dX7_count_89 : decode cX7_count 89 = .ok (.invokevirtual 141, 3) := by decide +kernel
theorem dX7_count_92 : decode cX7_count 92 = .ok (.ireturn, 1) := by decide +kernel
theorem dX7_count_93 : decode cX7_count 93 = .ok (.aload_n 0, 1) := by decide +kernel
theorem dX7_count_94 : decode cX7_count 94 = .ok (.getfield 19, 3) := by decide +kernel
theorem dX7_count_97 : decode cX7_count 97 = .ok (.iconst 1, 1) := by decide +kernel
theorem dX7_count_98 : decode cX7_count 98 = .ok (.invokevirtual 141, 3) := by decide +kernel
theorem dX7_count_101 : decode cX7_count 101 = .ok (.ireturn, 1) := by decide +kernel
theorem dX7_count_102 : decode cX7_count 102 = .ok (.aload_n 0, 1) := by decide +kernel
theorem dX7_count_103 : decode cX7_count 103 = .ok (.getfield 19, 3) := by decide +kernel
theorem dX7_count_106 : decode cX7_count 106 = .ok (.iconst 2, 1) := by decide +kernel
theorem dX7_count_107 : decode cX7_count 107 = .ok (.invokevirtual 141, 3) := by decide +kernel
theorem dX7_count_110 : decode cX7_count 110 = .ok (.ireturn, 1) := by decide +kernel
theorem dX7_count_111 : decode cX7_count 111 = .ok (.aload_n 0, 1) := by decide +kernel
theorem dX7_count_112 : decode cX7_count 112 = .ok (.getfield 19, 3) := by decide +kernel
theorem dX7_count_115 : decode cX7_count 115 = .ok (.iconst 3, 1) := by decide +kernel
theorem dX7_count_116 : decode cX7_count 116 = .ok (.invokevirtual 141, 3) := by decide +kernel
theorem dX7_count_119 : decode cX7_count 119 = .ok (.ireturn, 1) := by decide +kernel
theorem dX7_count_120 : decode cX7_count 120 = .ok (.aload_n 0, 1) := by decide +kernel
theorem dX7_count_121 : decode cX7_count 121 = .ok (.getfield 19, 3) := by decide +kernel
theorem dX7_count_124 : decode cX7_count 124 = .ok (.invokevirtual 280, 3) := by decide +kernel
theorem dX7_count_127 : decode cX7_count 127 = .ok (.ireturn, 1) := by decide +kernel
theorem dX7_count_128 : decode cX7_count 128 = .ok (.aload_n 0, 1) := by decide +kernel
theorem dX7_count_129 : decode cX7_count 129 = .ok (.getfield 19, 3) := by decide +kernel
theorem dX7_count_132 : decode cX7_count 132 = .ok (.invokevirtual 283, 3) := by decide +kernel
theorem dX7_count_135 : decode cX7_count 135 = .ok (.ireturn, 1) := by decide +kernel
theorem dX7_count_136 : decode cX7_count 136 = .ok (.aload_n 0, 1) := by decide +kernel
theorem dX7_count_137 : decode cX7_count 137 = .ok (.getfield 47, 3) := by decide +kernel
theorem dX7_count_140 : decode cX7_count 140 = .ok (.invokevirtual 155, 3) := by decide +kernel
theorem dX7_count_143 : decode cX7_count 143 = .ok (.ireturn, 1) := by decide +kernel
theorem dX7_count_144 : decode cX7_count 144 = .ok (.aload_n 0, 1) := by decide +kernel
theorem dX7_count_145 : decode cX7_count 145 = .ok (.getfield 12, 3) := by decide +kernel
theorem dX7_count_148 : decode cX7_count 148 = .ok (.invokevirtual 80, 3) := by decide +kernel
theorem dX7_count_151 : decode cX7_count 151 = .ok (.ireturn, 1) := by decide +kernel
theorem dX7_count_152 : decode cX7_count 152 = .ok (.iconst (-1), 1) := by decide +kernel
theorem dX7_count_153 : decode cX7_count 153 = .ok (.ireturn, 1) := by decide +kernel
theorem dJ9_floorDiv_f86c9_0 : decode cJ9_floorDiv_f86c9 0 = .ok (.lload_n 0, 1) := by decide +kernel
theorem dJ9_floorDiv_f86c9_1 : decode cJ9_floorDiv_f86c9 1 = .ok (.lload_n 2, 1) := by decide +kernel
theorem dJ9_floorDiv_f86c9_2 : decode cJ9_floorDiv_f86c9 2 = .ok (.ldiv, 1) := by decide +kernel
theorem dJ9_floorDiv_f86c9_3 : decode cJ9_floorDiv_f86c9 3 = .ok (.lstore 4, 2) := by decide +kernel
theorem dJ9_floorDiv_f86c9_5 : decode cJ9_floorDiv_f86c9 5 = .ok (.lload_n 0, 1) := by decide +kernel
theorem dJ9_floorDiv_f86c9_6 : decode cJ9_floorDiv_f86c9 6 = .ok (.lload_n 2, 1) := by decide +kernel
theorem dJ9_floorDiv_f86c9_7 : decode cJ9_floorDiv_f86c9 7 = .ok (.lxor, 1) := by decide +kernel
theorem dJ9_floorDiv_f86c9_8 : decode cJ9_floorDiv_f86c9 8 = .ok (.lconst 0, 1) := by decide +kernel
theorem dJ9_floorDiv_f86c9_9 : decode cJ9_floorDiv_f86c9 9 = .ok (.lcmp, 1) := by decide +kernel
theorem dJ9_floorDiv_f86c9_10 : decode cJ9_floorDiv_f86c9 10 = .ok (.ifCond .ge 17, 3) := by decide +kernel
theorem dJ9_floorDiv_f86c9_13 : decode cJ9_floorDiv_f86c9 13 = .ok (.lload 4, 2) := by decide +kernel
theorem dJ9_floorDiv_f86c9_15 : decode cJ9_floorDiv_f86c9 15 = .ok (.lload_n 2, 1) := by decide +kernel
theorem dJ9_floorDiv_f86c9_16 : decode cJ9_floorDiv_f86c9 16 = .ok (.lmul, 1) := by decide +kernel
theorem dJ9_floorDiv_f86c9_17 : decode cJ9_floorDiv_f86c9 17 = .ok (.lload_n 0, 1) := by decide +kernel
theorem dJ9_floorDiv_f86c9_18 : decode cJ9_floorDiv_f86c9 18 = .ok (.lcmp, 1) := by decide +kernel
theorem dJ9_floorDiv_f86c9_19 : decode cJ9_floorDiv_f86c9 19 = .ok (.ifCond .eq 8, 3) := by decide +kernel
theorem dJ9_floorDiv_f86c9_22 : decode cJ9_floorDiv_f86c9 22 = .ok (.lload 4, 2) := by decide +kernel
theorem dJ9_floorDiv_f86c9_24 : decode cJ9_floorDiv_f86c9 24 = .ok (.lconst 1, 1) := by decide +kernel
theorem dJ9_floorDiv_f86c9_25 : decode cJ9_floorDiv_f86c9 25 = .ok (.lsub, 1) := by decide +kernel
theorem dJ9_floorDiv_f86c9_26 : decode cJ9_floorDiv_f86c9 26 = .ok (.lreturn, 1) := by decide +kernel
theorem dJ9_floorDiv_f86c9_27 : decode cJ9_floorDiv_f86c9 27 = .ok (.lload 4, 2) := by decide +kernel
theorem dJ9_floorDiv_f86c9_29 : decode cJ9_floorDiv_f86c9 29 = .ok (.lreturn, 1) := by decide +kernel
theorem dJ9_max_7cf53_0 : decode cJ9_max_7cf53 0 = .ok (.iload_n 0, 1) := by decide +kernel
theorem dJ9_max_7cf53_1 : decode cJ9_max_7cf53 1 = .ok (.iload_n 1, 1) := by decide +kernel
theorem dJ9_max_7cf53_2 : decode cJ9_max_7cf53 2 = .ok (.if_icmp .lt 7, 3) := by decide +kernel
theorem dJ9_max_7cf53_5 : decode cJ9_max_7cf53 5 = .ok (.iload_n 0, 1) := by decide +kernel
theorem dJ9_max_7cf53_6 : decode cJ9_max_7cf53 6 = .ok (.goto 4, 3) := by decide +kernel
theorem dJ9_max_7cf53_9 : decode cJ9_max_7cf53 9 = .ok (.iload_n 1, 1) := by decide +kernel
theorem dJ9_max_7cf53_10 : decode cJ9_max_7cf53 10 = .ok (.ireturn, 1) := by decide +kernel
theorem dJ9_min_7cf53_0 : decode cJ9_min_7cf53 0 = .ok (.iload_n 0, 1) := by decide +kernel
theorem dJ9_min_7cf53_1 : decode cJ9_min_7cf53 1 = .ok (.iload_n 1, 1) := by decide +kernel
theorem dJ9_min_7cf53_2 : decode cJ9_min_7cf53 2 = .ok (.if_icmp .gt 7, 3) := by decide +kernel
theorem dJ9_min_7cf53_5 : decode cJ9_min_7cf53 5 = .ok (.iload_n 0, 1) := by decide +kernel
theorem dJ9_min_7cf53_6 : decode cJ9_min_7cf53 6 = .ok (.goto 4, 3) := by decide +kernel
theorem dJ9_min_7cf53_9 : decode cJ9_min_7cf53 9 = .ok (.iload_n 1, 1) := by decide +kernel
theorem dJ9_min_7cf53_10 : decode cJ9_min_7cf53 10 = .ok (.ireturn, 1) := by decide +kernel
theorem dJ9_min_f86c9_0 : decode cJ9_min_f86c9 0 = .ok (.lload_n 0, 1) := by decide +kernel
theorem dJ9_min_f86c9_1 : decode cJ9_min_f86c9 1 = .ok (.lload_n 2, 1) := by decide +kernel
theorem dJ9_min_f86c9_2 : decode cJ9_min_f86c9 2 = .ok (.lcmp, 1) := by decide +kernel
theorem dJ9_min_f86c9_3 : decode cJ9_min_f86c9 3 = .ok (.ifCond .gt 7, 3) := by decide +kernel
theorem dJ9_min_f86c9_6 : decode cJ9_min_f86c9 6 = .ok (.lload_n 0, 1) := by decide +kernel
theorem dJ9_min_f86c9_7 : decode cJ9_min_f86c9 7 = .ok (.goto 4, 3) := by decide +kernel
theorem dJ9_min_f86c9_10 : decode cJ9_min_f86c9 10 = .ok (.lload_n 2, 1) := by decide +kernel
theorem dJ9_min_f86c9_11 : decode cJ9_min_f86c9 11 = .ok (.lreturn, 1) := by decide +kernel
theorem dJ0_length_8abf5_0 : decode cJ0_length_8abf5 0 = .ok (.aload_n 0, 1) := by decide +kernel
theorem dJ0_length_8abf5_1 : decode cJ0_length_8abf5 1 = .ok (.getfield 9, 3) := by decide +kernel
theorem dJ0_length_8abf5_4 : decode cJ0_length_8abf5 4 = .ok (.arraylength, 1) := by decide +kernel
theorem dJ0_length_8abf5_5 : decode cJ0_length_8abf5 5 = .ok (.aload_n 0, 1) := by decide +kernel
theorem dJ0_length_8abf5_6 : decode cJ0_length_8abf5 6 = .ok (.invokevirtual 335, 3) := by decide +kernel
theorem dJ0_length_8abf5_9 : decode cJ0_length_8abf5 9 = .ok (.ishr, 1) := by decide +kernel
theorem dJ0_length_8abf5_10 : decode cJ0_length_8abf5 10 = .ok (.ireturn, 1) := by decide +kernel
theorem dJ0_charAt_5068e_0 : decode cJ0_charAt_5068e 0 = .ok (.aload_n 0, 1) := by decide +kernel
theorem dJ0_charAt_5068e_1 : decode cJ0_charAt_5068e 1 = .ok (.invokevirtual 492, 3) := by decide +kernel
theorem dJ0_charAt_5068e_4 : decode cJ0_charAt_5068e 4 = .ok (.ifCond .eq 12, 3) := by decide +kernel
theorem dJ0_charAt_5068e_7 : decode cJ0_charAt_5068e 7 = .ok (.aload_n 0, 1) := by decide +kernel
theorem dJ0_charAt_5068e_8 : decode cJ0_charAt_5068e 8 = .ok (.getfield 9, 3) := by decide +kernel
theorem dJ0_charAt_5068e_11 : decode cJ0_charAt_5068e 11 = .ok (.iload_n 1, 1) := by decide +kernel
theorem dJ0_charAt_5068e_12 : decode cJ0_charAt_5068e 12 = .ok (.invokestatic 495, 3) := by decide +kernel
theorem dJ0_charAt_5068e_15 : decode cJ0_charAt_5068e 15 = .ok (.ireturn, 1) := by decide +kernel
theorem dJ0_charAt_5068e_16 : decode cJ0_charAt_5068e 16 = .ok (.aload_n 0, 1) := by decide +kernel
theorem dJ0_charAt_5068e_17 : decode cJ0_charAt_5068e 17 = .ok (.getfield 9, 3) := by decide +kernel
theorem dJ0_charAt_5068e_20 : decode cJ0_charAt_5068e 20 = .ok (.iload_n 1, 1) := by decide +kernel
theorem dJ0_charAt_5068e_21 : decode cJ0_charAt_5068e 21 = .ok (.invokestatic 498, 3) := by decide +kernel
theorem dJ0_charAt_5068e_24 : decode cJ0_charAt_5068e 24 = .ok (.ireturn, 1) := by decide +kernel
theorem dJ0_coder_7d493_0 : decode cJ0_coder_7d493 0 = .ok (.getstatic 38, 3) := by decide +kernel
theorem dJ0_coder_7d493_3 : decode cJ0_coder_7d493 3 = .ok (.ifCond .eq 10, 3) := by decide +kernel
theorem dJ0_coder_7d493_6 : decode cJ0_coder_7d493 6 = .ok (.aload_n 0, 1) := by decide +kernel
theorem dJ0_coder_7d493_7 : decode cJ0_coder_7d493 7 = .ok (.getfield 15, 3) := by decide +kernel
theorem dJ0_coder_7d493_10 : decode cJ0_coder_7d493 10 = .ok (.goto 4, 3) := by decide +kernel
theorem dJ0_coder_7d493_13 : decode cJ0_coder_7d493 13 = .ok (.iconst 1, 1) := by decide +kernel
theorem dJ0_coder_7d493_14 : decode cJ0_coder_7d493 14 = .ok (.ireturn, 1) := by decide +kernel
theorem dJ0_isLatin1_aae02_0 : decode cJ0_isLatin1_aae02 0 = .ok (.getstatic 38, 3) := by decide +kernel
theorem dJ0_isLatin1_aae02_3 : decode cJ0_isLatin1_aae02 3 = .ok (.ifCond .eq 14, 3) := by decide +kernel
theorem dJ0_isLatin1_aae02_6 : decode cJ0_isLatin1_aae02 6 = .ok (.aload_n 0, 1) := by decide +kernel
theorem dJ0_isLatin1_aae02_7 : decode cJ0_isLatin1_aae02 7 = .ok (.getfield 15, 3) := by decide +kernel
theorem dJ0_isLatin1_aae02_10 : decode cJ0_isLatin1_aae02 10 = .ok (.ifCond .ne 7, 3) := by decide +kernel
theorem dJ0_isLatin1_aae02_13 : decode cJ0_isLatin1_aae02 13 = .ok (.iconst 1, 1) := by decide +kernel
theorem dJ0_isLatin1_aae02_14 : decode cJ0_isLatin1_aae02 14 = .ok (.goto 4, 3) := by decide +kernel
theorem dJ0_isLatin1_aae02_17 : decode cJ0_isLatin1_aae02 17 = .ok (.iconst 0, 1) := by decide +kernel
theorem dJ0_isLatin1_aae02_18 : decode cJ0_isLatin1_aae02 18 = .ok (.ireturn, 1) := by decide +kernel
theorem dJ0_checkIndex_df160_0 : decode cJ0_checkIndex_df160 0 = .ok (.iload_n 0, 1) := by decide +kernel
theorem dJ0_checkIndex_df160_1 : decode cJ0_checkIndex_df160 1 = .ok (.iload_n 1, 1) := by decide +kernel
theorem dJ0_checkIndex_df160_2 : decode cJ0_checkIndex_df160 2 = .ok (.getstatic 1053, 3) := by decide +kernel
theorem dJ0_checkIndex_df160_5 : decode cJ0_checkIndex_df160 5 = .ok (.invokestatic 1059, 3) := by decide +kernel
theorem dJ0_checkIndex_df160_8 : decode cJ0_checkIndex_df160 8 = .ok (.pop, 1) := by decide +kernel
theorem dJ0_checkIndex_df160_9 : decode cJ0_checkIndex_df160 9 = .ok (.return_, 1) := by decide +kernel
theorem dJ1_charAt_3b067_0 : decode cJ1_charAt_3b067 0 = .ok (.iload_n 1, 1) := by decide +kernel
theorem dJ1_charAt_3b067_1 : decode cJ1_charAt_3b067 1 = .ok (.aload_n 0, 1) := by decide +kernel
theorem dJ1_charAt_3b067_2 : decode cJ1_charAt_3b067 2 = .ok (.arraylength, 1) := by decide +kernel
theorem dJ1_charAt_3b067_3 : decode cJ1_charAt_3b067 3 = .ok (.invokestatic 9, 3) := by decide +kernel
theorem dJ1_charAt_3b067_6 : decode cJ1_charAt_3b067 6 = .ok (.aload_n 0, 1) := by decide +kernel
theorem dJ1_charAt_3b067_7 : decode cJ1_charAt_3b067 7 = .ok (.iload_n 1, 1) := by decide +kernel
theorem dJ1_charAt_3b067_8 : decode cJ1_charAt_3b067 8 = .ok (.baload, 1) := by decide +kernel
theorem dJ1_charAt_3b067_9 : decode cJ1_charAt_3b067 9 = .ok (.sipush 255, 3) := by decide +kernel
theorem dJ1_charAt_3b067_12 : decode cJ1_charAt_3b067 12 = .ok (.iand, 1) := by decide +kernel
theorem dJ1_charAt_3b067_13 : decode cJ1_charAt_3b067 13 = .ok (.i2c, 1) := by decide +kernel
theorem dJ1_charAt_3b067_14 : decode cJ1_charAt_3b067 14 = .ok (.ireturn, 1) := by decide +kernel
theorem dJ2_getChar_3b067_0 : decode cJ2_getChar_3b067 0 = .ok (.getstatic 44, 3) := by decide +kernel
theorem dJ2_getChar_3b067_3 : decode cJ2_getChar_3b067 3 = .ok (.ifCond .ne 25, 3) := by decide +kernel
theorem dJ2_getChar_3b067_6 : decode cJ2_getChar_3b067 6 = .ok (.iload_n 1, 1) := by decide +kernel
theorem dJ2_getChar_3b067_7 : decode cJ2_getChar_3b067 7 = .ok (.ifCond .lt 11, 3) := by decide +kernel
theorem dJ2_getChar_3b067_10 : decode cJ2_getChar_3b067 10 = .ok (.iload_n 1, 1) := by decide +kernel
theorem dJ2_getChar_3b067_11 : decode cJ2_getChar_3b067 11 = .ok (.aload_n 0, 1) := by decide +kernel
theorem dJ2_getChar_3b067_12 : decode cJ2_getChar_3b067 12 = .ok (.invokestatic 48, 3) := by decide +kernel
theorem dJ2_getChar_3b067_15 : decode cJ2_getChar_3b067 15 = .ok (.if_icmp .lt 13, 3) := by decide +kernel
theorem dJ2_getChar_3b067_18 : decode cJ2_getChar_3b067 18 = .ok (.new 52, 3) := by decide +kernel
theorem dJ2_getChar_3b067_21 : decode cJ2_getChar_3b067 21 = .ok (.dup, 1) := by decide +kernel
theorem dJ2_getChar_3b067_22 : decode cJ2_getChar_3b067 22 = .ok (.ldc 54, 2) := by decide +kernel
theorem dJ2_getChar_3b067_24 : decode cJ2_getChar_3b067 24 = .ok (.invokespecial 56, 3) := by decide +kernel
theorem dJ2_getChar_3b067_27 : decode cJ2_getChar_3b067 27 = .ok (.athrow, 1) := by decide +kernel
theorem dJ2_getChar_3b067_28 : decode cJ2_getChar_3b067 28 = .ok (.iload_n 1, 1) := by decide +kernel
theorem dJ2_getChar_3b067_29 : decode cJ2_getChar_3b067 29 = .ok (.iconst 1, 1) := by decide +kernel
theorem dJ2_getChar_3b067_30 : decode cJ2_getChar_3b067 30 = .ok (.ishl, 1) := by decide +kernel
theorem dJ2_getChar_3b067_31 : decode cJ2_getChar_3b067 31 = .ok (.istore_n 1, 1) := by decide +kernel
theorem dJ2_getChar_3b067_32 : decode cJ2_getChar_3b067 32 = .ok (.aload_n 0, 1) := by decide +kernel
theorem dJ2_getChar_3b067_33 : decode cJ2_getChar_3b067 33 = .ok (.iload_n 1, 1) := by decide +kernel
theorem dJ2_getChar_3b067_34 : decode cJ2_getChar_3b067 34 = .ok (.iinc 1 1, 3) := by decide +kernel
theorem dJ2_getChar_3b067_37 : decode cJ2_getChar_3b067 37 = .ok (.baload, 1) := by decide +kernel
theorem dJ2_getChar_3b067_38 : decode cJ2_getChar_3b067 38 = .ok (.sipush 255, 3) := by decide +kernel
theorem dJ2_getChar_3b067_41 : decode cJ2_getChar_3b067 41 = .ok (.iand, 1) := by decide +kernel
theorem dJ2_getChar_3b067_42 : decode cJ2_getChar_3b067 42 = .ok (.getstatic 59, 3) := by decide +kernel
theorem dJ2_getChar_3b067_45 : decode cJ2_getChar_3b067 45 = .ok (.ishl, 1) := by decide +kernel
theorem dJ2_getChar_3b067_46 : decode cJ2_getChar_3b067 46 = .ok (.aload_n 0, 1) := by decide +kernel
theorem dJ2_getChar_3b067_47 : decode cJ2_getChar_3b067 47 = .ok (.iload_n 1, 1) := by decide +kernel
theorem dJ2_getChar_3b067_48 : decode cJ2_getChar_3b067 48 = .ok (.baload, 1) := by decide +kernel
theorem dJ2_getChar_3b067_49 : decode cJ2_getChar_3b067 49 = .ok (.sipush 255, 3) := by decide +kernel
theorem dJ2_getChar_3b067_52 : decode cJ2_getChar_3b067 52 = .ok (.iand, 1) := by decide +kernel
theorem dJ2_getChar_3b067_53 : decode cJ2_getChar_3b067 53 = .ok (.getstatic 63, 3) := by decide +kernel
theorem dJ2_getChar_3b067_56 : decode cJ2_getChar_3b067 56 = .ok (.ishl, 1) := by decide +kernel
theorem dJ2_getChar_3b067_57 : decode cJ2_getChar_3b067 57 = .ok (.ior, 1) := by decide +kernel
theorem dJ2_getChar_3b067_58 : decode cJ2_getChar_3b067 58 = .ok (.i2c, 1) := by decide +kernel
theorem dJ2_getChar_3b067_59 : decode cJ2_getChar_3b067 59 = .ok (.ireturn, 1) := by decide +kernel
theorem dJ2_length_9d52b_0 : decode cJ2_length_9d52b 0 = .ok (.aload_n 0, 1) := by decide +kernel
theorem dJ2_length_9d52b_1 : decode cJ2_length_9d52b 1 = .ok (.arraylength, 1) := by decide +kernel
theorem dJ2_length_9d52b_2 : decode cJ2_length_9d52b 2 = .ok (.iconst 1, 1) := by decide +kernel
theorem dJ2_length_9d52b_3 : decode cJ2_length_9d52b 3 = .ok (.ishr, 1) := by decide +kernel
theorem dJ2_length_9d52b_4 : decode cJ2_length_9d52b 4 = .ok (.ireturn, 1) := by decide +kernel
theorem dJ2_charAt_3b067_0 : decode cJ2_charAt_3b067 0 = .ok (.iload_n 1, 1) := by decide +kernel
theorem dJ2_charAt_3b067_1 : decode cJ2_charAt_3b067 1 = .ok (.aload_n 0, 1) := by decide +kernel
theorem dJ2_charAt_3b067_2 : decode cJ2_charAt_3b067 2 = .ok (.invokestatic 67, 3) := by decide +kernel
theorem dJ2_charAt_3b067_5 : decode cJ2_charAt_3b067 5 = .ok (.aload_n 0, 1) := by decide +kernel
theorem dJ2_charAt_3b067_6 : decode cJ2_charAt_3b067 6 = .ok (.iload_n 1, 1) := by decide +kernel
theorem dJ2_charAt_3b067_7 : decode cJ2_charAt_3b067 7 = .ok (.invokestatic 71, 3) := by decide +kernel
theorem dJ2_charAt_3b067_10 : decode cJ2_charAt_3b067 10 = .ok (.ireturn, 1) := by decide +kernel
theorem dJ2_checkIndex_2214a_0 : decode cJ2_checkIndex_2214a 0 = .ok (.iload_n 0, 1) := by decide +kernel
theorem dJ2_checkIndex_2214a_1 : decode cJ2_checkIndex_2214a 1 = .ok (.aload_n 1, 1) := by decide +kernel
theorem dJ2_checkIndex_2214a_2 : decode cJ2_checkIndex_2214a 2 = .ok (.invokestatic 48, 3) := by decide +kernel
theorem dJ2_checkIndex_2214a_5 : decode cJ2_checkIndex_2214a 5 = .ok (.invokestatic 414, 3) := by decide +kernel
theorem dJ2_checkIndex_2214a_8 : decode cJ2_checkIndex_2214a 8 = .ok (.return_, 1) := by decide +kernel
theorem dJ3_checkIndex_8e157_0 : decode cJ3_checkIndex_8e157 0 = .ok (.iload_n 0, 1) := by decide +kernel
theorem dJ3_checkIndex_8e157_1 : decode cJ3_checkIndex_8e157 1 = .ok (.ifCond .lt 8, 3) := by decide +kernel
theorem dJ3_checkIndex_8e157_4 : decode cJ3_checkIndex_8e157 4 = .ok (.iload_n 0, 1) := by decide +kernel
theorem dJ3_checkIndex_8e157_5 : decode cJ3_checkIndex_8e157 5 = .ok (.iload_n 1, 1) := by decide +kernel
theorem dJ3_checkIndex_8e157_6 : decode cJ3_checkIndex_8e157 6 = .ok (.if_icmp .lt 10, 3) := by decide +kernel
theorem dJ3_checkIndex_8e157_9 : decode cJ3_checkIndex_8e157 9 = .ok (.aload_n 2, 1) := by decide +kernel
theorem dJ3_checkIndex_8e157_10 : decode cJ3_checkIndex_8e157 10 = .ok (.iload_n 0, 1) := by decide +kernel
theorem dJ3_checkIndex_8e157_11 : decode cJ3_checkIndex_8e157 11 = .ok (.iload_n 1, 1) := by decide +kernel
theorem dJ3_checkIndex_8e157_12 : decode cJ3_checkIndex_8e157 12 = .ok (.invokestatic 95, 3) := by decide +kernel
theorem dJ3_checkIndex_8e157_15 : decode cJ3_checkIndex_8e157 15 = .ok (.athrow, 1) := by decide +kernel
theorem dJ3_checkIndex_8e157_16 : decode cJ3_checkIndex_8e157 16 = .ok (.iload_n 0, 1) := by decide +kernel
theorem dJ3_checkIndex_8e157_17 : decode cJ3_checkIndex_8e157 17 = .ok (.ireturn, 1) := by decide +kernel
