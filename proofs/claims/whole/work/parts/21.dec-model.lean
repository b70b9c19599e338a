theorem dX4_init_0 : decode cX4_init 0 = .ok (.aload_n 0, 1) := by decide +kernel
theorem dX4_init_1 : decode cX4_init 1 = .ok (.invokespecial 1, 3) := by decide +kernel
theorem dX4_init_4 : decode cX4_init 4 = .ok (.aload_n 0, 1) := by decide +kernel
theorem dX4_init_5 : decode cX4_init 5 = .ok (.bipush 8, 2) := by decide +kernel
theorem dX4_init_7 : decode cX4_init 7 = .ok (.newarray .int, 2) := by decide +kernel
theorem dX4_init_9 : decode cX4_init 9 = .ok (.putfield 7, 3) := by decide +kernel
theorem dX4_init_12 : decode cX4_init 12 = .ok (.aload_n 0, 1) := by decide +kernel
theorem dX4_init_13 : decode cX4_init 13 = .ok (.bipush 8, 2) := by decide +kernel
theorem dX4_init_15 : decode cX4_init 15 = .ok (.newarray .int, 2) := by decide +kernel
theorem dX4_init_17 : decode cX4_init 17 = .ok (.putfield 13, 3) := by decide +kernel
theorem dX4_init_20 : decode cX4_init 20 = .ok (.aload_n 0, 1) := by decide +kernel
theorem dX4_init_21 : decode cX4_init 21 = .ok (.bipush 48, 2) := by decide +kernel
theorem dX4_init_23 : decode cX4_init 23 = .ok (.newarray .int, 2) := by decide +kernel
theorem dX4_init_25 : decode cX4_init 25 = .ok (.putfield 16, 3) := by decide +kernel
theorem dX4_init_28 : decode cX4_init 28 = .ok (.aload_n 0, 1) := by decide +kernel
theorem dX4_init_29 : decode cX4_init 29 = .ok (.bipush 48, 2) := by decide +kernel
theorem dX4_init_31 : decode cX4_init 31 = .ok (.newarray .int, 2) := by decide +kernel
theorem dX4_init_33 : decode cX4_init 33 = .ok (.putfield 19, 3) := by decide +kernel
theorem dX4_init_36 : decode cX4_init 36 = .ok (.aload_n 0, 1) := by decide +kernel
theorem dX4_init_37 : decode cX4_init 37 = .ok (.bipush 48, 2) := by decide +kernel
theorem dX4_init_39 : decode cX4_init 39 = .ok (.newarray .int, 2) := by decide +kernel
theorem dX4_init_41 : decode cX4_init 41 = .ok (.putfield 22, 3) := by decide +kernel
theorem dX4_init_44 : decode cX4_init 44 = .ok (.aload_n 0, 1) := by decide +kernel
theorem dX4_init_45 : decode cX4_init 45 = .ok (.bipush 8, 2) := by decide +kernel
theorem dX4_init_47 : decode cX4_init 47 = .ok (.newarray .int, 2) := by decide +kernel
theorem dX4_init_49 : decode cX4_init 49 = .ok (.putfield 25, 3) := by decide +kernel
theorem dX4_init_52 : decode cX4_init 52 = .ok (.aload_n 0, 1) := by decide +kernel
theorem dX4_init_53 : decode cX4_init 53 = .ok (.bipush 32, 2) := by decide +kernel
theorem dX4_init_55 : decode cX4_init 55 = .ok (.newarray .int, 2) := by decide +kernel
theorem dX4_init_57 : decode cX4_init 57 = .ok (.putfield 28, 3) := by decide +kernel
theorem dX4_init_60 : decode cX4_init 60 = .ok (.aload_n 0, 1) := by decide +kernel
theorem dX4_init_61 : decode cX4_init 61 = .ok (.bipush 32, 2) := by decide +kernel
theorem dX4_init_63 : decode cX4_init 63 = .ok (.newarray .int, 2) := by decide +kernel
theorem dX4_init_65 : decode cX4_init 65 = .ok (.putfield 31, 3) := by decide +kernel
theorem dX4_init_68 : decode cX4_init 68 = .ok (.aload_n 0, 1) := by decide +kernel
theorem dX4_init_69 : decode cX4_init 69 = .ok (.bipush 8, 2) := by decide +kernel
theorem dX4_init_71 : decode cX4_init 71 = .ok (.newarray .int, 2) := by decide +kernel
theorem dX4_init_73 : decode cX4_init 73 = .ok (.putfield 34, 3) := by decide +kernel
theorem dX4_init_76 : decode cX4_init 76 = .ok (.aload_n 0, 1) := by decide +kernel
theorem dX4_init_77 : decode cX4_init 77 = .ok (.bipush 8, 2) := by decide +kernel
theorem dX4_init_79 : decode cX4_init 79 = .ok (.newarray .int, 2) := by decide +kernel
theorem dX4_init_81 : decode cX4_init 81 = .ok (.putfield 37, 3) := by decide +kernel
theorem dX4_init_84 : decode cX4_init 84 = .ok (.aload_n 0, 1) := by decide +kernel
theorem dX4_init_85 : decode cX4_init 85 = .ok (.sipush 128, 3) := by decide +kernel
theorem dX4_init_88 : decode cX4_init 88 = .ok (.newarray .int, 2) := by decide +kernel
theorem dX4_init_90 : decode cX4_init 90 = .ok (.putfield 40, 3) := by decide +kernel
theorem dX4_init_93 : decode cX4_init 93 = .ok (.aload_n 0, 1) := by decide +kernel
theorem dX4_init_94 : decode cX4_init 94 = .ok (.bipush 8, 2) := by decide +kernel
theorem dX4_init_96 : decode cX4_init 96 = .ok (.newarray .int, 2) := by decide +kernel
theorem dX4_init_98 : decode cX4_init 98 = .ok (.putfield 43, 3) := by decide +kernel
theorem dX4_init_101 : decode cX4_init 101 = .ok (.return_, 1) := by decide +kernel
theorem dX4_thrown_0 : decode cX4_thrown 0 = .ok (.aload_n 0, 1) := by decide +kernel
theorem dX4_thrown_1 : decode cX4_thrown 1 = .ok (.getfield 46, 3) := by decide +kernel
theorem dX4_thrown_4 : decode cX4_thrown 4 = .ok (.ireturn, 1) := by decide +kernel
theorem dX4_in_0 : decode cX4_in 0 = .ok (.iload_n 0, 1) := by decide +kernel
theorem dX4_in_1 : decode cX4_in 1 = .ok (.iload_n 1, 1) := by decide +kernel
theorem dX4_in_2 : decode cX4_in 2 = .ok (.if_icmp .lt 12, 3) := by decide +kernel
theorem dX4_in_5 : decode cX4_in 5 = .ok (.iload_n 0, 1) := by decide +kernel
theorem dX4_in_6 : decode cX4_in 6 = .ok (.iload_n 2, 1) := by decide +kernel
theorem dX4_in_7 : decode cX4_in 7 = .ok (.if_icmp .gt 7, 3) := by decide +kernel
theorem dX4_in_10 : decode cX4_in 10 = .ok (.iconst 1, 1) := by decide +kernel
theorem dX4_in_11 : decode cX4_in 11 = .ok (.goto 4, 3) := by decide +kernel
theorem dX4_in_14 : decode cX4_in 14 = .ok (.iconst 0, 1) := by decide +kernel
theorem dX4_in_15 : decode cX4_in 15 = .ok (.ireturn, 1) := by decide +kernel
theorem dX4_isDevice_0 : decode cX4_isDevice 0 = .ok (.iload_n 1, 1) := by decide +kernel
theorem dX4_isDevice_1 : decode cX4_isDevice 1 = .ok (.iconst 0, 1) := by decide +kernel
theorem dX4_isDevice_2 : decode cX4_isDevice 2 = .ok (.aload_n 0, 1) := by decide +kernel
theorem dX4_isDevice_3 : decode cX4_isDevice 3 = .ok (.getfield 50, 3) := by decide +kernel
theorem dX4_isDevice_6 : decode cX4_isDevice 6 = .ok (.iconst 1, 1) := by decide +kernel
theorem dX4_isDevice_7 : decode cX4_isDevice 7 = .ok (.isub, 1) := by decide +kernel
theorem dX4_isDevice_8 : decode cX4_isDevice 8 = .ok (.invokestatic 53, 3) := by decide +kernel
theorem dX4_isDevice_11 : decode cX4_isDevice 11 = .ok (.ireturn, 1) := by decide +kernel
theorem dX4_device_0 : decode cX4_device 0 = .ok (.aload_n 0, 1) := by decide +kernel
theorem dX4_device_1 : decode cX4_device 1 = .ok (.iload_n 1, 1) := by decide +kernel
theorem dX4_device_2 : decode cX4_device 2 = .ok (.iconst (-1), 1) := by decide +kernel
theorem dX4_device_3 : decode cX4_device 3 = .ok (.if_icmp .eq 15, 3) := by decide +kernel
theorem dX4_device_6 : decode cX4_device 6 = .ok (.aload_n 0, 1) := by decide +kernel
theorem dX4_device_7 : decode cX4_device 7 = .ok (.iload_n 1, 1) := by decide +kernel
theorem dX4_device_8 : decode cX4_device 8 = .ok (.invokevirtual 57, 3) := by decide +kernel
theorem dX4_device_11 : decode cX4_device 11 = .ok (.ifCond .ne 7, 3) := by decide +kernel
theorem dX4_device_14 : decode cX4_device 14 = .ok (.iconst 1, 1) := by decide +kernel
theorem dX4_device_15 : decode cX4_device 15 = .ok (.goto 17, 3) := by decide +kernel
theorem dX4_device_18 : decode cX4_device 18 = .ok (.aload_n 0, 1) := by decide +kernel
theorem dX4_device_19 : decode cX4_device 19 = .ok (.getfield 50, 3) := by decide +kernel
theorem dX4_device_22 : decode cX4_device 22 = .ok (.bipush 8, 2) := by decide +kernel
theorem dX4_device_24 : decode cX4_device 24 = .ok (.if_icmp .ne 7, 3) := by decide +kernel
theorem dX4_device_27 : decode cX4_device 27 = .ok (.iconst 2, 1) := by decide +kernel
theorem dX4_device_28 : decode cX4_device 28 = .ok (.goto 4, 3) := by decide +kernel
theorem dX4_device_31 : decode cX4_device 31 = .ok (.iconst 0, 1) := by decide +kernel
theorem dX4_device_32 : decode cX4_device 32 = .ok (.putfield 46, 3) := by decide +kernel
theorem dX4_device_35 : decode cX4_device 35 = .ok (.aload_n 0, 1) := by decide +kernel
theorem dX4_device_36 : decode cX4_device 36 = .ok (.getfield 46, 3) := by decide +kernel
theorem dX4_device_39 : decode cX4_device 39 = .ok (.ifCond .le 5, 3) := by decide +kernel
theorem dX4_device_42 : decode cX4_device 42 = .ok (.iconst 0, 1) := by decide +kernel
theorem dX4_device_43 : decode cX4_device 43 = .ok (.ireturn, 1) := by decide +kernel
theorem dX4_device_44 : decode cX4_device 44 = .ok (.aload_n 0, 1) := by decide +kernel
theorem dX4_device_45 : decode cX4_device 45 = .ok (.getfield 7, 3) := by decide +kernel
theorem dX4_device_48 : decode cX4_device 48 = .ok (.aload_n 0, 1) := by decide +kernel
theorem dX4_device_49 : decode cX4_device 49 = .ok (.getfield 50, 3) := by decide +kernel
theorem dX4_device_52 : decode cX4_device 52 = .ok (.iload_n 1, 1) := by decide +kernel
theorem dX4_device_53 : decode cX4_device 53 = .ok (.iastore, 1) := by decide +kernel
theorem dX4_device_54 : decode cX4_device 54 = .ok (.aload_n 0, 1) := by decide +kernel
theorem dX4_device_55 : decode cX4_device 55 = .ok (.getfield 13, 3) := by decide +kernel
theorem dX4_device_58 : decode cX4_device 58 = .ok (.aload_n 0, 1) := by decide +kernel
theorem dX4_device_59 : decode cX4_device 59 = .ok (.getfield 50, 3) := by decide +kernel
theorem dX4_device_62 : decode cX4_device 62 = .ok (.iconst 0, 1) := by decide +kernel
theorem dX4_device_63 : decode cX4_device 63 = .ok (.iastore, 1) := by decide +kernel
theorem dX4_device_64 : decode cX4_device 64 = .ok (.aload_n 0, 1) := by decide +kernel
theorem dX4_device_65 : decode cX4_device 65 = .ok (.getfield 25, 3) := by decide +kernel
theorem dX4_device_68 : decode cX4_device 68 = .ok (.aload_n 0, 1) := by decide +kernel
theorem dX4_device_69 : decode cX4_device 69 = .ok (.getfield 50, 3) := by decide +kernel
theorem dX4_device_72 : decode cX4_device 72 = .ok (.iconst 1, 1) := by decide +kernel
theorem dX4_device_73 : decode cX4_device 73 = .ok (.iastore, 1) := by decide +kernel
theorem dX4_device_74 : decode cX4_device 74 = .ok (.aload_n 0, 1) := by decide +kernel
theorem dX4_device_75 : decode cX4_device 75 = .ok (.getfield 28, 3) := by decide +kernel
theorem dX4_device_78 : decode cX4_device 78 = .ok (.iconst 4, 1) := by decide +kernel
theorem dX4_device_79 : decode cX4_device 79 = .ok (.aload_n 0, 1) := by decide +kernel
theorem dX4_device_80 : decode cX4_device 80 = .ok (.getfield 50, 3) := by decide +kernel
theorem dX4_device_83 : decode cX4_device 83 = .ok (.imul, 1) := by decide +kernel
theorem dX4_device_84 : decode cX4_device 84 = .ok (.bipush 100, 2) := by decide +kernel
theorem dX4_device_86 : decode cX4_device 86 = .ok (.iastore, 1) := by decide +kernel
theorem dX4_device_87 : decode cX4_device 87 = .ok (.aload_n 0, 1) := by decide +kernel
theorem dX4_device_88 : decode cX4_device 88 = .ok (.getfield 31, 3) := by decide +kernel
theorem dX4_device_91 : decode cX4_device 91 = .ok (.iconst 4, 1) := by decide +kernel
theorem dX4_device_92 : decode cX4_device 92 = .ok (.aload_n 0, 1) := by decide +kernel
theorem dX4_device_93 : decode cX4_device 93 = .ok (.getfield 50, 3) := by decide +kernel
theorem dX4_device_96 : decode cX4_device 96 = .ok (.imul, 1) := by decide +kernel
theorem dX4_device_97 : decode cX4_device 97 = .ok (.iconst 0, 1) := by decide +kernel
theorem dX4_device_98 : decode cX4_device 98 = .ok (.iastore, 1) := by decide +kernel
theorem dX4_device_99 : decode cX4_device 99 = .ok (.aload_n 0, 1) := by decide +kernel
theorem dX4_device_100 : decode cX4_device 100 = .ok (.getfield 34, 3) := by decide +kernel
theorem dX4_device_103 : decode cX4_device 103 = .ok (.aload_n 0, 1) := by decide +kernel
theorem dX4_device_104 : decode cX4_device 104 = .ok (.getfield 50, 3) := by decide +kernel
theorem dX4_device_107 : decode cX4_device 107 = .ok (.iconst 0, 1) := by decide +kernel
theorem dX4_device_108 : decode cX4_device 108 = .ok (.iastore, 1) := by decide +kernel
theorem dX4_device_109 : decode cX4_device 109 = .ok (.aload_n 0, 1) := by decide +kernel
theorem dX4_device_110 : decode cX4_device 110 = .ok (.getfield 37, 3) := by decide +kernel
theorem dX4_device_113 : decode cX4_device 113 = .ok (.aload_n 0, 1) := by decide +kernel
theorem dX4_device_114 : decode cX4_device 114 = .ok (.getfield 50, 3) := by decide +kernel
theorem dX4_device_117 : decode cX4_device 117 = .ok (.bipush 100, 2) := by decide +kernel
theorem dX4_device_119 : decode cX4_device 119 = .ok (.iastore, 1) := by decide +kernel
theorem dX4_device_120 : decode cX4_device 120 = .ok (.aload_n 0, 1) := by decide +kernel
theorem dX4_device_121 : decode cX4_device 121 = .ok (.dup, 1) := by decide +kernel
theorem dX4_device_122 : decode cX4_device 122 = .ok (.getfield 50, 3) := by decide +kernel
theorem dX4_device_125 : decode cX4_device 125 = .ok (.iconst 1, 1) := by decide +kernel
theorem dX4_device_126 : decode cX4_device 126 = .ok (.iadd, 1) := by decide +kernel
theorem dX4_device_127 : decode cX4_device 127 = .ok (.putfield 50, 3) := by decide +kernel
theorem dX4_device_130 : decode cX4_device 130 = .ok (.aload_n 0, 1) := by decide +kernel
theorem dX4_device_131 : decode cX4_device 131 = .ok (.getfield 50, 3) := by decide +kernel
theorem dX4_device_134 : decode cX4_device 134 = .ok (.iconst 1, 1) := by decide +kernel
theorem dX4_device_135 : decode cX4_device 135 = .ok (.isub, 1) := by decide +kernel
theorem dX4_device_136 : decode cX4_device 136 = .ok (.ireturn, 1) := by decide +kernel
theorem dX4_point_0 : decode cX4_point 0 = .ok (.aload_n 0, 1) := by decide +kernel
theorem dX4_point_1 : decode cX4_point 1 = .ok (.iload_n 1, 1) := by decide +kernel
theorem dX4_point_2 : decode cX4_point 2 = .ok (.invokevirtual 57, 3) := by decide +kernel
theorem dX4_point_5 : decode cX4_point 5 = .ok (.ifCond .eq 45, 3) := by decide +kernel
theorem dX4_point_8 : decode cX4_point 8 = .ok (.iload_n 2, 1) := by decide +kernel
theorem dX4_point_9 : decode cX4_point 9 = .ok (.iconst 1, 1) := by decide +kernel
theorem dX4_point_10 : decode cX4_point 10 = .ok (.sipush 5000, 3) := by decide +kernel
theorem dX4_point_13 : decode cX4_point 13 = .ok (.invokestatic 53, 3) := by decide +kernel
theorem dX4_point_16 : decode cX4_point 16 = .ok (.ifCond .eq 34, 3) := by decide +kernel
theorem dX4_point_19 : decode cX4_point 19 = .ok (.iload_n 3, 1) := by decide +kernel
theorem dX4_point_20 : decode cX4_point 20 = .ok (.iconst 0, 1) := by decide +kernel
theorem dX4_point_21 : decode cX4_point 21 = .ok (.ldc 61, 2) := by decide +kernel
theorem dX4_point_23 : decode cX4_point 23 = .ok (.invokestatic 53, 3) := by decide +kernel
theorem dX4_point_26 : decode cX4_point 26 = .ok (.ifCond .eq 24, 3) := by decide +kernel
theorem dX4_point_29 : decode cX4_point 29 = .ok (.iload 4, 2) := by decide +kernel
theorem dX4_point_31 : decode cX4_point 31 = .ok (.iconst 0, 1) := by decide +kernel
theorem dX4_point_32 : decode cX4_point 32 = .ok (.ldc 61, 2) := by decide +kernel
theorem dX4_point_34 : decode cX4_point 34 = .ok (.invokestatic 53, 3) := by decide +kernel
theorem dX4_point_37 : decode cX4_point 37 = .ok (.ifCond .eq 13, 3) := by decide +kernel
theorem dX4_point_40 : decode cX4_point 40 = .ok (.iload_n 3, 1) := by decide +kernel
theorem dX4_point_41 : decode cX4_point 41 = .ok (.iload 4, 2) := by decide +kernel
theorem dX4_point_43 : decode cX4_point 43 = .ok (.if_icmp .gt 7, 3) := by decide +kernel
theorem dX4_point_46 : decode cX4_point 46 = .ok (.iconst 1, 1) := by decide +kernel
theorem dX4_point_47 : decode cX4_point 47 = .ok (.goto 4, 3) := by decide +kernel
theorem dX4_point_50 : decode cX4_point 50 = .ok (.iconst 0, 1) := by decide +kernel
theorem dX4_point_51 : decode cX4_point 51 = .ok (.istore 5, 2) := by decide +kernel
theorem dX4_point_53 : decode cX4_point 53 = .ok (.aload_n 0, 1) := by decide +kernel
theorem dX4_point_54 : decode cX4_point 54 = .ok (.iload 5, 2) := by decide +kernel
theorem dX4_point_56 : decode cX4_point 56 = .ok (.ifCond .ne 7, 3) := by decide +kernel
theorem dX4_point_59 : decode cX4_point 59 = .ok (.iconst 1, 1) := by decide +kernel
theorem dX4_point_60 : decode cX4_point 60 = .ok (.goto 50, 3) := by decide +kernel
theorem dX4_point_63 : decode cX4_point 63 = .ok (.aload_n 0, 1) := by decide +kernel
theorem dX4_point_64 : decode cX4_point 64 = .ok (.getfield 13, 3) := by decide +kernel
theorem dX4_point_67 : decode cX4_point 67 = .ok (.iload_n 1, 1) := by decide +kernel
theorem dX4_point_68 : decode cX4_point 68 = .ok (.iaload, 1) := by decide +kernel
theorem dX4_point_69 : decode cX4_point 69 = .ok (.bipush 6, 2) := by decide +kernel
theorem dX4_point_71 : decode cX4_point 71 = .ok (.if_icmp .eq 34, 3) := by decide +kernel
theorem dX4_point_74 : decode cX4_point 74 = .ok (.aload_n 0, 1) := by decide +kernel
theorem dX4_point_75 : decode cX4_point 75 = .ok (.getfield 13, 3) := by decide +kernel
theorem dX4_point_78 : decode cX4_point 78 = .ok (.iload_n 1, 1) := by decide +kernel
theorem dX4_point_79 : decode cX4_point 79 = .ok (.iaload, 1) := by decide +kernel
theorem dX4_point_80 : decode cX4_point 80 = .ok (.ifCond .le 29, 3) := by decide +kernel
theorem dX4_point_83 : decode cX4_point 83 = .ok (.aload_n 0, 1) := by decide +kernel
theorem dX4_point_84 : decode cX4_point 84 = .ok (.getfield 16, 3) := by decide +kernel
theorem dX4_point_87 : decode cX4_point 87 = .ok (.bipush 6, 2) := by decide +kernel
theorem dX4_point_89 : decode cX4_point 89 = .ok (.iload_n 1, 1) := by decide +kernel
theorem dX4_point_90 : decode cX4_point 90 = .ok (.imul, 1) := by decide +kernel
theorem dX4_point_91 : decode cX4_point 91 = .ok (.aload_n 0, 1) := by decide +kernel
theorem dX4_point_92 : decode cX4_point 92 = .ok (.getfield 13, 3) := by decide +kernel
theorem dX4_point_95 : decode cX4_point 95 = .ok (.iload_n 1, 1) := by decide +kernel
theorem dX4_point_96 : decode cX4_point 96 = .ok (.iaload, 1) := by decide +kernel
theorem dX4_point_97 : decode cX4_point 97 = .ok (.iadd, 1) := by decide +kernel
theorem dX4_point_98 : decode cX4_point 98 = .ok (.iconst 1, 1) := by decide +kernel
theorem dX4_point_99 : decode cX4_point 99 = .ok (.isub, 1) := by decide +kernel
theorem dX4_point_100 : decode cX4_point 100 = .ok (.iaload, 1) := by decide +kernel
theorem dX4_point_101 : decode cX4_point 101 = .ok (.iload_n 2, 1) := by decide +kernel
theorem dX4_point_102 : decode cX4_point 102 = .ok (.if_icmp .lt 7, 3) := by decide +kernel
theorem dX4_point_105 : decode cX4_point 105 = .ok (.iconst 2, 1) := by decide +kernel
theorem dX4_point_106 : decode cX4_point 106 = .ok (.goto 4, 3) := by decide +kernel
theorem dX4_point_109 : decode cX4_point 109 = .ok (.iconst 0, 1) := by decide +kernel
theorem dX4_point_110 : decode cX4_point 110 = .ok (.putfield 46, 3) := by decide +kernel
theorem dX4_point_113 : decode cX4_point 113 = .ok (.aload_n 0, 1) := by decide +kernel
theorem dX4_point_114 : decode cX4_point 114 = .ok (.getfield 46, 3) := by decide +kernel
theorem dX4_point_117 : decode cX4_point 117 = .ok (.ifCond .le 5, 3) := by decide +kernel
theorem dX4_point_120 : decode cX4_point 120 = .ok (.iconst 0, 1) := by decide +kernel
theorem dX4_point_121 : decode cX4_point 121 = .ok (.ireturn, 1) := by decide +kernel
theorem dX4_point_122 : decode cX4_point 122 = .ok (.bipush 6, 2) := by decide +kernel
theorem dX4_point_124 : decode cX4_point 124 = .ok (.iload_n 1, 1) := by decide +kernel
theorem dX4_point_125 : decode cX4_point 125 = .ok (.imul, 1) := by decide +kernel
theorem dX4_point_126 : decode cX4_point 126 = .ok (.aload_n 0, 1) := by decide +kernel
theorem dX4_point_127 : decode cX4_point 127 = .ok (.getfield 13, 3) := by decide +kernel
theorem dX4_point_130 : decode cX4_point 130 = .ok (.iload_n 1, 1) := by decide +kernel
theorem dX4_point_131 : decode cX4_point 131 = .ok (.iaload, 1) := by decide +kernel
theorem dX4_point_132 : decode cX4_point 132 = .ok (.iadd, 1) := by decide +kernel
theorem dX4_point_133 : decode cX4_point 133 = .ok (.istore 6, 2) := by decide +kernel
theorem dX4_point_135 : decode cX4_point 135 = .ok (.aload_n 0, 1) := by decide +kernel
theorem dX4_point_136 : decode cX4_point 136 = .ok (.getfield 16, 3) := by decide +kernel
theorem dX4_point_139 : decode cX4_point 139 = .ok (.iload 6, 2) := by decide +kernel
theorem dX4_point_141 : decode cX4_point 141 = .ok (.iload_n 2, 1) := by decide +kernel
theorem dX4_point_142 : decode cX4_point 142 = .ok (.iastore, 1) := by decide +kernel
theorem dX4_point_143 : decode cX4_point 143 = .ok (.aload_n 0, 1) := by decide +kernel
theorem dX4_point_144 : decode cX4_point 144 = .ok (.getfield 19, 3) := by decide +kernel
theorem dX4_point_147 : decode cX4_point 147 = .ok (.iload 6, 2) := by decide +kernel
theorem dX4_point_149 : decode cX4_point 149 = .ok (.iload_n 3, 1) := by decide +kernel
theorem dX4_point_150 : decode cX4_point 150 = .ok (.iastore, 1) := by decide +kernel
theorem dX4_point_151 : decode cX4_point 151 = .ok (.aload_n 0, 1) := by decide +kernel
theorem dX4_point_152 : decode cX4_point 152 = .ok (.getfield 22, 3) := by decide +kernel
theorem dX4_point_155 : decode cX4_point 155 = .ok (.iload 6, 2) := by decide +kernel
theorem dX4_point_157 : decode cX4_point 157 = .ok (.iload 4, 2) := by decide +kernel
theorem dX4_point_159 : decode cX4_point 159 = .ok (.iastore, 1) := by decide +kernel
theorem dX4_point_160 : decode cX4_point 160 = .ok (.aload_n 0, 1) := by decide +kernel
theorem dX4_point_161 : decode cX4_point 161 = .ok (.getfield 13, 3) := by decide +kernel
theorem dX4_point_164 : decode cX4_point 164 = .ok (.iload_n 1, 1) := by decide +kernel
theorem dX4_point_165 : decode cX4_point 165 = .ok (.dup2, 1) := by decide +kernel
theorem dX4_point_166 : decode cX4_point 166 = .ok (.iaload, 1) := by decide +kernel
theorem dX4_point_167 : decode cX4_point 167 = .ok (.iconst 1, 1) := by decide +kernel
theorem dX4_point_168 : decode cX4_point 168 = .ok (.iadd, 1) := by decide +kernel
theorem dX4_point_169 : decode cX4_point 169 = .ok (.iastore, 1) := by decide +kernel
theorem dX4_point_170 : decode cX4_point 170 = .ok (.aload_n 0, 1) := by decide +kernel
theorem dX4_point_171 : decode cX4_point 171 = .ok (.getfield 13, 3) := by decide +kernel
theorem dX4_point_174 : decode cX4_point 174 = .ok (.iload_n 1, 1) := by decide +kernel
theorem dX4_point_175 : decode cX4_point 175 = .ok (.iaload, 1) := by decide +kernel
theorem dX4_point_176 : decode cX4_point 176 = .ok (.ireturn, 1) := by decide +kernel
theorem dX4_option_0 : decode cX4_option 0 = .ok (.aload_n 0, 1) := by decide +kernel
theorem dX4_option_1 : decode cX4_option 1 = .ok (.aload_n 0, 1) := by decide +kernel
theorem dX4_option_2 : decode cX4_option 2 = .ok (.iload_n 1, 1) := by decide +kernel
theorem dX4_option_3 : decode cX4_option 3 = .ok (.invokevirtual 57, 3) := by decide +kernel
theorem dX4_option_6 : decode cX4_option 6 = .ok (.ifCond .eq 26, 3) := by decide +kernel
theorem dX4_option_9 : decode cX4_option 9 = .ok (.iload_n 2, 1) := by decide +kernel
theorem dX4_option_10 : decode cX4_option 10 = .ok (.bipush 10, 2) := by decide +kernel
theorem dX4_option_12 : decode cX4_option 12 = .ok (.sipush 1000, 3) := by decide +kernel
theorem dX4_option_15 : decode cX4_option 15 = .ok (.invokestatic 53, 3) := by decide +kernel
theorem dX4_option_18 : decode cX4_option 18 = .ok (.ifCond .eq 14, 3) := by decide +kernel
theorem dX4_option_21 : decode cX4_option 21 = .ok (.iload_n 3, 1) := by decide +kernel
theorem dX4_option_22 : decode cX4_option 22 = .ok (.iconst 0, 1) := by decide +kernel
theorem dX4_option_23 : decode cX4_option 23 = .ok (.sipush 10000, 3) := by decide +kernel
theorem dX4_option_26 : decode cX4_option 26 = .ok (.invokestatic 53, 3) := by decide +kernel
theorem dX4_option_29 : decode cX4_option 29 = .ok (.ifCond .ne 7, 3) := by decide +kernel
theorem dX4_option_32 : decode cX4_option 32 = .ok (.iconst 1, 1) := by decide +kernel
theorem dX4_option_33 : decode cX4_option 33 = .ok (.goto 18, 3) := by decide +kernel
theorem dX4_option_36 : decode cX4_option 36 = .ok (.aload_n 0, 1) := by decide +kernel
theorem dX4_option_37 : decode cX4_option 37 = .ok (.getfield 25, 3) := by decide +kernel
theorem dX4_option_40 : decode cX4_option 40 = .ok (.iload_n 1, 1) := by decide +kernel
theorem dX4_option_41 : decode cX4_option 41 = .ok (.iaload, 1) := by decide +kernel
theorem dX4_option_42 : decode cX4_option 42 = .ok (.iconst 4, 1) := by decide +kernel
theorem dX4_option_43 : decode cX4_option 43 = .ok (.if_icmp .ne 7, 3) := by decide +kernel
theorem dX4_option_46 : decode cX4_option 46 = .ok (.iconst 2, 1) := by decide +kernel
theorem dX4_option_47 : decode cX4_option 47 = .ok (.goto 4, 3) := by decide +kernel
theorem dX4_option_50 : decode cX4_option 50 = .ok (.iconst 0, 1) := by decide +kernel
theorem dX4_option_51 : decode cX4_option 51 = .ok (.putfield 46, 3) := by decide +kernel
theorem dX4_option_54 : decode cX4_option 54 = .ok (.aload_n 0, 1) := by decide +kernel
theorem dX4_option_55 : decode cX4_option 55 = .ok (.getfield 46, 3) := by decide +kernel
theorem dX4_option_58 : decode cX4_option 58 = .ok (.ifCond .le 5, 3) := by decide +kernel
theorem dX4_option_61 : decode cX4_option 61 = .ok (.iconst 0, 1) := by decide +kernel
theorem dX4_option_62 : decode cX4_option 62 = .ok (.ireturn, 1) := by decide +kernel
theorem dX4_option_63 : decode cX4_option 63 = .ok (.aload_n 0, 1) := by decide +kernel
theorem dX4_option_64 : decode cX4_option 64 = .ok (.getfield 28, 3) := by decide +kernel
theorem dX4_option_67 : decode cX4_option 67 = .ok (.iconst 4, 1) := by decide +kernel
theorem dX4_option_68 : decode cX4_option 68 = .ok (.iload_n 1, 1) := by decide +kernel
theorem dX4_option_69 : decode cX4_option 69 = .ok (.imul, 1) := by decide +kernel
theorem dX4_option_70 : decode cX4_option 70 = .ok (.aload_n 0, 1) := by decide +kernel
theorem dX4_option_71 : decode cX4_option 71 = .ok (.getfield 25, 3) := by decide +kernel
theorem dX4_option_74 : decode cX4_option 74 = .ok (.iload_n 1, 1) := by decide +kernel
theorem dX4_option_75 : decode cX4_option 75 = .ok (.iaload, 1) := by decide +kernel
theorem dX4_option_76 : decode cX4_option 76 = .ok (.iadd, 1) := by decide +kernel
theorem dX4_option_77 : decode cX4_option 77 = .ok (.iload_n 2, 1) := by decide +kernel
theorem dX4_option_78 : decode cX4_option 78 = .ok (.iastore, 1) := by decide +kernel
theorem dX4_option_79 : decode cX4_option 79 = .ok (.aload_n 0, 1) := by decide +kernel
theorem dX4_option_80 : decode cX4_option 80 = .ok (.getfield 31, 3) := by decide +kernel
theorem dX4_option_83 : decode cX4_option 83 = .ok (.iconst 4, 1) := by decide +kernel
theorem dX4_option_84 : decode cX4_option 84 = .ok (.iload_n 1, 1) := by decide +kernel
theorem dX4_option_85 : decode cX4_option 85 = .ok (.imul, 1) := by decide +kernel
theorem dX4_option_86 : decode cX4_option 86 = .ok (.aload_n 0, 1) := by decide +kernel
theorem dX4_option_87 : decode cX4_option 87 = .ok (.getfield 25, 3) := by decide +kernel
theorem dX4_option_90 : decode cX4_option 90 = .ok (.iload_n 1, 1) := by decide +kernel
theorem dX4_option_91 : decode cX4_option 91 = .ok (.iaload, 1) := by decide +kernel
theorem dX4_option_92 : decode cX4_option 92 = .ok (.iadd, 1) := by decide +kernel
theorem dX4_option_93 : decode cX4_option 93 = .ok (.iload_n 3, 1) := by decide +kernel
theorem dX4_option_94 : decode cX4_option 94 = .ok (.iastore, 1) := by decide +kernel
theorem dX4_option_95 : decode cX4_option 95 = .ok (.aload_n 0, 1) := by decide +kernel
theorem dX4_option_96 : decode cX4_option 96 = .ok (.getfield 25, 3) := by decide +kernel
theorem dX4_option_99 : decode cX4_option 99 = .ok (.iload_n 1, 1) := by decide +kernel
theorem dX4_option_100 : decode cX4_option 100 = .ok (.dup2, 1) := by decide +kernel
theorem dX4_option_101 : decode cX4_option 101 = .ok (.iaload, 1) := by decide +kernel
theorem dX4_option_102 : decode cX4_option 102 = .ok (.iconst 1, 1) := by decide +kernel
theorem dX4_option_103 : decode cX4_option 103 = .ok (.iadd, 1) := by decide +kernel
theorem dX4_option_104 : decode cX4_option 104 = .ok (.iastore, 1) := by decide +kernel
theorem dX4_option_105 : decode cX4_option 105 = .ok (.aload_n 0, 1) := by decide +kernel
theorem dX4_option_106 : decode cX4_option 106 = .ok (.getfield 25, 3) := by decide +kernel
theorem dX4_option_109 : decode cX4_option 109 = .ok (.iload_n 1, 1) := by decide +kernel
theorem dX4_option_110 : decode cX4_option 110 = .ok (.iaload, 1) := by decide +kernel
theorem dX4_option_111 : decode cX4_option 111 = .ok (.iconst 1, 1) := by decide +kernel
theorem dX4_option_112 : decode cX4_option 112 = .ok (.isub, 1) := by decide +kernel
theorem dX4_option_113 : decode cX4_option 113 = .ok (.ireturn, 1) := by decide +kernel
theorem dX4_choose_0 : decode cX4_choose 0 = .ok (.aload_n 0, 1) := by decide +kernel
theorem dX4_choose_1 : decode cX4_choose 1 = .ok (.aload_n 0, 1) := by decide +kernel
theorem dX4_choose_2 : decode cX4_choose 2 = .ok (.iload_n 1, 1) := by decide +kernel
theorem dX4_choose_3 : decode cX4_choose 3 = .ok (.invokevirtual 57, 3) := by decide +kernel
theorem dX4_choose_6 : decode cX4_choose 6 = .ok (.ifCond .eq 23, 3) := by decide +kernel
theorem dX4_choose_9 : decode cX4_choose 9 = .ok (.iload_n 2, 1) := by decide +kernel
theorem dX4_choose_10 : decode cX4_choose 10 = .ok (.iconst 0, 1) := by decide +kernel
theorem dX4_choose_11 : decode cX4_choose 11 = .ok (.aload_n 0, 1) := by decide +kernel
theorem dX4_choose_12 : decode cX4_choose 12 = .ok (.getfield 25, 3) := by decide +kernel
theorem dX4_choose_15 : decode cX4_choose 15 = .ok (.iload_n 1, 1) := by decide +kernel
theorem dX4_choose_16 : decode cX4_choose 16 = .ok (.iaload, 1) := by decide +kernel
theorem dX4_choose_17 : decode cX4_choose 17 = .ok (.iconst 1, 1) := by decide +kernel
theorem dX4_choose_18 : decode cX4_choose 18 = .ok (.isub, 1) := by decide +kernel
theorem dX4_choose_19 : decode cX4_choose 19 = .ok (.invokestatic 53, 3) := by decide +kernel
theorem dX4_choose_22 : decode cX4_choose 22 = .ok (.ifCond .eq 7, 3) := by decide +kernel
theorem dX4_choose_25 : decode cX4_choose 25 = .ok (.iconst 0, 1) := by decide +kernel
theorem dX4_choose_26 : decode cX4_choose 26 = .ok (.goto 4, 3) := by decide +kernel
theorem dX4_choose_29 : decode cX4_choose 29 = .ok (.iconst 1, 1) := by decide +kernel
theorem dX4_choose_30 : decode cX4_choose 30 = .ok (.putfield 46, 3) := by decide +kernel
theorem dX4_choose_33 : decode cX4_choose 33 = .ok (.aload_n 0, 1) := by decide +kernel
theorem dX4_choose_34 : decode cX4_choose 34 = .ok (.getfield 46, 3) := by decide +kernel
theorem dX4_choose_37 : decode cX4_choose 37 = .ok (.ifCond .le 5, 3) := by decide +kernel
theorem dX4_choose_40 : decode cX4_choose 40 = .ok (.iconst 0, 1) := by decide +kernel
theorem dX4_choose_41 : decode cX4_choose 41 = .ok (.ireturn, 1) := by decide +kernel
theorem dX4_choose_42 : decode cX4_choose 42 = .ok (.aload_n 0, 1) := by decide +kernel
theorem dX4_choose_43 : decode cX4_choose 43 = .ok (.getfield 34, 3) := by decide +kernel
theorem dX4_choose_46 : decode cX4_choose 46 = .ok (.iload_n 1, 1) := by decide +kernel
theorem dX4_choose_47 : decode cX4_choose 47 = .ok (.iaload, 1) := by decide +kernel
theorem dX4_choose_48 : decode cX4_choose 48 = .ok (.istore_n 3, 1) := by decide +kernel
theorem dX4_choose_49 : decode cX4_choose 49 = .ok (.aload_n 0, 1) := by decide +kernel
theorem dX4_choose_50 : decode cX4_choose 50 = .ok (.getfield 34, 3) := by decide +kernel
theorem dX4_choose_53 : decode cX4_choose 53 = .ok (.iload_n 1, 1) := by decide +kernel
theorem dX4_choose_54 : decode cX4_choose 54 = .ok (.iload_n 2, 1) := by decide +kernel
theorem dX4_choose_55 : decode cX4_choose 55 = .ok (.iastore, 1) := by decide +kernel
theorem dX4_choose_56 : decode cX4_choose 56 = .ok (.iload_n 3, 1) := by decide +kernel
theorem dX4_choose_57 : decode cX4_choose 57 = .ok (.ireturn, 1) := by decide +kernel
theorem dX4_opensAt_0 : decode cX4_opensAt 0 = .ok (.aload_n 0, 1) := by decide +kernel
theorem dX4_opensAt_1 : decode cX4_opensAt 1 = .ok (.getfield 13, 3) := by decide +kernel
theorem dX4_opensAt_4 : decode cX4_opensAt 4 = .ok (.iload_n 1, 1) := by decide +kernel
theorem dX4_opensAt_5 : decode cX4_opensAt 5 = .ok (.iaload, 1) := by decide +kernel
theorem dX4_opensAt_6 : decode cX4_opensAt 6 = .ok (.ifCond .le 34, 3) := by decide +kernel
theorem dX4_opensAt_9 : decode cX4_opensAt 9 = .ok (.bipush 100, 2) := by decide +kernel
theorem dX4_opensAt_11 : decode cX4_opensAt 11 = .ok (.iload_n 3, 1) := by decide +kernel
theorem dX4_opensAt_12 : decode cX4_opensAt 12 = .ok (.imul, 1) := by decide +kernel
theorem dX4_opensAt_13 : decode cX4_opensAt 13 = .ok (.aload_n 0, 1) := by decide +kernel
theorem dX4_opensAt_14 : decode cX4_opensAt 14 = .ok (.getfield 28, 3) := by decide +kernel
theorem dX4_opensAt_17 : decode cX4_opensAt 17 = .ok (.iconst 4, 1) := by decide +kernel
theorem dX4_opensAt_18 : decode cX4_opensAt 18 = .ok (.iload_n 1, 1) := by decide +kernel
theorem dX4_opensAt_19 : decode cX4_opensAt 19 = .ok (.imul, 1) := by decide +kernel
theorem dX4_opensAt_20 : decode cX4_opensAt 20 = .ok (.iload_n 2, 1) := by decide +kernel
theorem dX4_opensAt_21 : decode cX4_opensAt 21 = .ok (.iadd, 1) := by decide +kernel
theorem dX4_opensAt_22 : decode cX4_opensAt 22 = .ok (.iaload, 1) := by decide +kernel
theorem dX4_opensAt_23 : decode cX4_opensAt 23 = .ok (.aload_n 0, 1) := by decide +kernel
theorem dX4_opensAt_24 : decode cX4_opensAt 24 = .ok (.getfield 16, 3) := by decide +kernel
theorem dX4_opensAt_27 : decode cX4_opensAt 27 = .ok (.bipush 6, 2) := by decide +kernel
theorem dX4_opensAt_29 : decode cX4_opensAt 29 = .ok (.iload_n 1, 1) := by decide +kernel
theorem dX4_opensAt_30 : decode cX4_opensAt 30 = .ok (.imul, 1) := by decide +kernel
theorem dX4_opensAt_31 : decode cX4_opensAt 31 = .ok (.iaload, 1) := by decide +kernel
theorem dX4_opensAt_32 : decode cX4_opensAt 32 = .ok (.imul, 1) := by decide +kernel
theorem dX4_opensAt_33 : decode cX4_opensAt 33 = .ok (.if_icmp .lt 7, 3) := by decide +kernel
theorem dX4_opensAt_36 : decode cX4_opensAt 36 = .ok (.iconst 1, 1) := by decide +kernel
theorem dX4_opensAt_37 : decode cX4_opensAt 37 = .ok (.goto 4, 3) := by decide +kernel
theorem dX4_opensAt_40 : decode cX4_opensAt 40 = .ok (.iconst 0, 1) := by decide +kernel
theorem dX4_opensAt_41 : decode cX4_opensAt 41 = .ok (.ireturn, 1) := by decide +kernel
theorem dX4_reckon_0 : decode cX4_reckon 0 = .ok (.aload_n 0, 1) := by decide +kernel
theorem dX4_reckon_1 : decode cX4_reckon 1 = .ok (.getfield 28, 3) := by decide +kernel
theorem dX4_reckon_4 : decode cX4_reckon 4 = .ok (.iconst 4, 1) := by decide +kernel
theorem dX4_reckon_5 : decode cX4_reckon 5 = .ok (.iload_n 1, 1) := by decide +kernel
theorem dX4_reckon_6 : decode cX4_reckon 6 = .ok (.imul, 1) := by decide +kernel
theorem dX4_reckon_7 : decode cX4_reckon 7 = .ok (.iload_n 2, 1) := by decide +kernel
theorem dX4_reckon_8 : decode cX4_reckon 8 = .ok (.iadd, 1) := by decide +kernel
theorem dX4_reckon_9 : decode cX4_reckon 9 = .ok (.iaload, 1) := by decide +kernel
theorem dX4_reckon_10 : decode cX4_reckon 10 = .ok (.i2l, 1) := by decide +kernel
theorem dX4_reckon_11 : decode cX4_reckon 11 = .ok (.lstore 5, 2) := by decide +kernel
theorem dX4_reckon_13 : decode cX4_reckon 13 = .ok (.ldc2_w 62, 3) := by decide +kernel
theorem dX4_reckon_16 : decode cX4_reckon 16 = .ok (.iload_n 3, 1) := by decide +kernel
theorem dX4_reckon_17 : decode cX4_reckon 17 = .ok (.i2l, 1) := by decide +kernel
theorem dX4_reckon_18 : decode cX4_reckon 18 = .ok (.lmul, 1) := by decide +kernel
theorem dX4_reckon_19 : decode cX4_reckon 19 = .ok (.lstore 7, 2) := by decide +kernel
theorem dX4_reckon_21 : decode cX4_reckon 21 = .ok (.bipush 6, 2) := by decide +kernel
theorem dX4_reckon_23 : decode cX4_reckon 23 = .ok (.iload_n 1, 1) := by decide +kernel
theorem dX4_reckon_24 : decode cX4_reckon 24 = .ok (.imul, 1) := by decide +kernel
theorem dX4_reckon_25 : decode cX4_reckon 25 = .ok (.aload_n 0, 1) := by decide +kernel
theorem dX4_reckon_26 : decode cX4_reckon 26 = .ok (.getfield 13, 3) := by decide +kernel
theorem dX4_reckon_29 : decode cX4_reckon 29 = .ok (.iload_n 1, 1) := by decide +kernel
theorem dX4_reckon_30 : decode cX4_reckon 30 = .ok (.iaload, 1) := by decide +kernel
theorem dX4_reckon_31 : decode cX4_reckon 31 = .ok (.iadd, 1) := by decide +kernel
theorem dX4_reckon_32 : decode cX4_reckon 32 = .ok (.iconst 1, 1) := by decide +kernel
theorem dX4_reckon_33 : decode cX4_reckon 33 = .ok (.isub, 1) := by decide +kernel
theorem dX4_reckon_34 : decode cX4_reckon 34 = .ok (.istore 9, 2) := by decide +kernel
theorem dX4_reckon_36 : decode cX4_reckon 36 = .ok (.lload 7, 2) := by decide +kernel
theorem dX4_reckon_38 : decode cX4_reckon 38 = .ok (.lload 5, 2) := by decide +kernel
theorem dX4_reckon_40 : decode cX4_reckon 40 = .ok (.aload_n 0, 1) := by decide +kernel
theorem dX4_reckon_41 : decode cX4_reckon 41 = .ok (.getfield 16, 3) := by decide +kernel
theorem dX4_reckon_44 : decode cX4_reckon 44 = .ok (.iload 9, 2) := by decide +kernel
theorem dX4_reckon_46 : decode cX4_reckon 46 = .ok (.iaload, 1) := by decide +kernel
theorem dX4_reckon_47 : decode cX4_reckon 47 = .ok (.i2l, 1) := by decide +kernel
theorem dX4_reckon_48 : decode cX4_reckon 48 = .ok (.lmul, 1) := by decide +kernel
theorem dX4_reckon_49 : decode cX4_reckon 49 = .ok (.lcmp, 1) := by decide +kernel
theorem dX4_reckon_50 : decode cX4_reckon 50 = .ok (.ifCond .ge 9, 3) := by decide +kernel
theorem dX4_reckon_53 : decode cX4_reckon 53 = .ok (.iinc 9 (-1), 3) := by decide +kernel
theorem dX4_reckon_56 : decode cX4_reckon 56 = .ok (.goto (-20), 3) := by decide +kernel
theorem dX4_reckon_59 : decode cX4_reckon 59 = .ok (.iload 4, 2) := by decide +kernel
theorem dX4_reckon_61 : decode cX4_reckon 61 = .ok (.ifCond .eq 14, 3) := by decide +kernel
theorem dX4_reckon_64 : decode cX4_reckon 64 = .ok (.aload_n 0, 1) := by decide +kernel
theorem dX4_reckon_65 : decode cX4_reckon 65 = .ok (.getfield 22, 3) := by decide +kernel
theorem dX4_reckon_68 : decode cX4_reckon 68 = .ok (.iload 9, 2) := by decide +kernel
theorem dX4_reckon_70 : decode cX4_reckon 70 = .ok (.iaload, 1) := by decide +kernel
theorem dX4_reckon_71 : decode cX4_reckon 71 = .ok (.i2l, 1) := by decide +kernel
theorem dX4_reckon_72 : decode cX4_reckon 72 = .ok (.goto 11, 3) := by decide +kernel
theorem dX4_reckon_75 : decode cX4_reckon 75 = .ok (.aload_n 0, 1) := by decide +kernel
theorem dX4_reckon_76 : decode cX4_reckon 76 = .ok (.getfield 19, 3) := by decide +kernel
theorem dX4_reckon_79 : decode cX4_reckon 79 = .ok (.iload 9, 2) := by decide +kernel
theorem dX4_reckon_81 : decode cX4_reckon 81 = .ok (.iaload, 1) := by decide +kernel
theorem dX4_reckon_82 : decode cX4_reckon 82 = .ok (.i2l, 1) := by decide +kernel
theorem dX4_reckon_83 : decode cX4_reckon 83 = .ok (.lstore 10, 2) := by decide +kernel
theorem dX4_reckon_85 : decode cX4_reckon 85 = .ok (.aload_n 0, 1) := by decide +kernel
theorem dX4_reckon_86 : decode cX4_reckon 86 = .ok (.lload 10, 2) := by decide +kernel
theorem dX4_reckon_88 : decode cX4_reckon 88 = .ok (.putfield 64, 3) := by decide +kernel
theorem dX4_reckon_91 : decode cX4_reckon 91 = .ok (.aload_n 0, 1) := by decide +kernel
theorem dX4_reckon_92 : decode cX4_reckon 92 = .ok (.lconst 1, 1) := by decide +kernel
theorem dX4_reckon_93 : decode cX4_reckon 93 = .ok (.putfield 68, 3) := by decide +kernel
theorem dX4_reckon_96 : decode cX4_reckon 96 = .ok (.iload 9, 2) := by decide +kernel
theorem dX4_reckon_98 : decode cX4_reckon 98 = .ok (.bipush 6, 2) := by decide +kernel
theorem dX4_reckon_100 : decode cX4_reckon 100 = .ok (.iload_n 1, 1) := by decide +kernel
theorem dX4_reckon_101 : decode cX4_reckon 101 = .ok (.imul, 1) := by decide +kernel
theorem dX4_reckon_102 : decode cX4_reckon 102 = .ok (.aload_n 0, 1) := by decide +kernel
theorem dX4_reckon_103 : decode cX4_reckon 103 = .ok (.getfield 13, 3) := by decide +kernel
theorem dX4_reckon_106 : decode cX4_reckon 106 = .ok (.iload_n 1, 1) := by decide +kernel
theorem dX4_reckon_107 : decode cX4_reckon 107 = .ok (.iaload, 1) := by decide +kernel
theorem dX4_reckon_108 : decode cX4_reckon 108 = .ok (.iadd, 1) := by decide +kernel
theorem dX4_reckon_109 : decode cX4_reckon 109 = .ok (.iconst 1, 1) := by decide +kernel
theorem dX4_reckon_110 : decode cX4_reckon 110 = .ok (.isub, 1) := by decide +kernel
theorem dX4_reckon_111 : decode cX4_reckon 111 = .ok (.if_icmp .ge 90, 3) := by decide +kernel
theorem dX4_reckon_114 : decode cX4_reckon 114 = .ok (.iload 4, 2) := by decide +kernel
theorem dX4_reckon_116 : decode cX4_reckon 116 = .ok (.ifCond .eq 16, 3) := by decide +kernel
theorem dX4_reckon_119 : decode cX4_reckon 119 = .ok (.aload_n 0, 1) := by decide +kernel
theorem dX4_reckon_120 : decode cX4_reckon 120 = .ok (.getfield 22, 3) := by decide +kernel
theorem dX4_reckon_123 : decode cX4_reckon 123 = .ok (.iload 9, 2) := by decide +kernel
theorem dX4_reckon_125 : decode cX4_reckon 125 = .ok (.iconst 1, 1) := by decide +kernel
theorem dX4_reckon_126 : decode cX4_reckon 126 = .ok (.iadd, 1) := by decide +kernel
theorem dX4_reckon_127 : decode cX4_reckon 127 = .ok (.iaload, 1) := by decide +kernel
theorem dX4_reckon_128 : decode cX4_reckon 128 = .ok (.i2l, 1) := by decide +kernel
theorem dX4_reckon_129 : decode cX4_reckon 129 = .ok (.goto 13, 3) := by decide +kernel
theorem dX4_reckon_132 : decode cX4_reckon 132 = .ok (.aload_n 0, 1) := by decide +kernel
theorem dX4_reckon_133 : decode cX4_reckon 133 = .ok (.getfield 19, 3) := by decide +kernel
theorem dX4_reckon_136 : decode cX4_reckon 136 = .ok (.iload 9, 2) := by decide +kernel
theorem dX4_reckon_138 : decode cX4_reckon 138 = .ok (.iconst 1, 1) := by decide +kernel
theorem dX4_reckon_139 : decode cX4_reckon 139 = .ok (.iadd, 1) := by decide +kernel
theorem dX4_reckon_140 : decode cX4_reckon 140 = .ok (.iaload, 1) := by decide +kernel
theorem dX4_reckon_141 : decode cX4_reckon 141 = .ok (.i2l, 1) := by decide +kernel
theorem dX4_reckon_142 : decode cX4_reckon 142 = .ok (.lstore 12, 2) := by decide +kernel
theorem dX4_reckon_144 : decode cX4_reckon 144 = .ok (.aload_n 0, 1) := by decide +kernel
theorem dX4_reckon_145 : decode cX4_reckon 145 = .ok (.lload 5, 2) := by decide +kernel
theorem dX4_reckon_147 : decode cX4_reckon 147 = .ok (.aload_n 0, 1) := by decide +kernel
theorem dX4_reckon_148 : decode cX4_reckon 148 = .ok (.getfield 16, 3) := by decide +kernel
theorem dX4_reckon_151 : decode cX4_reckon 151 = .ok (.iload 9, 2) := by decide +kernel
theorem dX4_reckon_153 : decode cX4_reckon 153 = .ok (.iconst 1, 1) := by decide +kernel
theorem dX4_reckon_154 : decode cX4_reckon 154 = .ok (.iadd, 1) := by decide +kernel
theorem dX4_reckon_155 : decode cX4_reckon 155 = .ok (.iaload, 1) := by decide +kernel
theorem dX4_reckon_156 : decode cX4_reckon 156 = .ok (.aload_n 0, 1) := by decide +kernel
theorem dX4_reckon_157 : decode cX4_reckon 157 = .ok (.getfield 16, 3) := by decide +kernel
theorem dX4_reckon_160 : decode cX4_reckon 160 = .ok (.iload 9, 2) := by decide +kernel
theorem dX4_reckon_162 : decode cX4_reckon 162 = .ok (.iaload, 1) := by decide +kernel
theorem dX4_reckon_163 : decode cX4_reckon 163 = .ok (.isub, 1) := by decide +kernel
theorem dX4_reckon_164 : decode cX4_reckon 164 = .ok (.i2l, 1) := by decide +kernel
theorem dX4_reckon_165 : decode cX4_reckon 165 = .ok (.lmul, 1) := by decide +kernel
theorem dX4_reckon_166 : decode cX4_reckon 166 = .ok (.putfield 68, 3) := by decide +kernel
theorem dX4_reckon_169 : decode cX4_reckon 169 = .ok (.aload_n 0, 1) := by decide +kernel
theorem dX4_reckon_170 : decode cX4_reckon 170 = .ok (.lload 10, 2) := by decide +kernel
theorem dX4_reckon_172 : decode cX4_reckon 172 = .ok (.aload_n 0, 1) := by decide +kernel
theorem dX4_reckon_173 : decode cX4_reckon 173 = .ok (.getfield 68, 3) := by decide +kernel
theorem dX4_reckon_176 : decode cX4_reckon 176 = .ok (.lmul, 1) := by decide +kernel
theorem dX4_reckon_177 : decode cX4_reckon 177 = .ok (.lload 12, 2) := by decide +kernel
theorem dX4_reckon_179 : decode cX4_reckon 179 = .ok (.lload 10, 2) := by decide +kernel
theorem dX4_reckon_181 : decode cX4_reckon 181 = .ok (.lsub, 1) := by decide +kernel
theorem dX4_reckon_182 : decode cX4_reckon 182 = .ok (.lload 7, 2) := by decide +kernel
theorem dX4_reckon_184 : decode cX4_reckon 184 = .ok (.lload 5, 2) := by decide +kernel
theorem dX4_reckon_186 : decode cX4_reckon 186 = .ok (.aload_n 0, 1) := by decide +kernel
theorem dX4_reckon_187 : decode cX4_reckon 187 = .ok (.getfield 16, 3) := by decide +kernel
theorem dX4_reckon_190 : decode cX4_reckon 190 = .ok (.iload 9, 2) := by decide +kernel
theorem dX4_reckon_192 : decode cX4_reckon 192 = .ok (.iaload, 1) := by decide +kernel
theorem dX4_reckon_193 : decode cX4_reckon 193 = .ok (.i2l, 1) := by decide +kernel
theorem dX4_reckon_194 : decode cX4_reckon 194 = .ok (.lmul, 1) := by decide +kernel
theorem dX4_reckon_195 : decode cX4_reckon 195 = .ok (.lsub, 1) := by decide +kernel
theorem dX4_reckon_196 : decode cX4_reckon 196 = .ok (.lmul, 1) := by decide +kernel
theorem dX4_reckon_197 : decode cX4_reckon 197 = .ok (.ladd, 1) := by decide +kernel
theorem dX4_reckon_198 : decode cX4_reckon 198 = .ok (.putfield 64, 3) := by decide +kernel
theorem dX4_reckon_201 : decode cX4_reckon 201 = .ok (.aload_n 0, 1) := by decide +kernel
theorem dX4_reckon_202 : decode cX4_reckon 202 = .ok (.dup, 1) := by decide +kernel
theorem dX4_reckon_203 : decode cX4_reckon 203 = .ok (.getfield 64, 3) := by decide +kernel
theorem dX4_reckon_206 : decode cX4_reckon 206 = .ok (.aload_n 0, 1) := by decide +kernel
theorem dX4_reckon_207 : decode cX4_reckon 207 = .ok (.getfield 68, 3) := by decide +kernel
theorem dX4_reckon_210 : decode cX4_reckon 210 = .ok (.aload_n 0, 1) := by decide +kernel
theorem dX4_reckon_211 : decode cX4_reckon 211 = .ok (.getfield 31, 3) := by decide +kernel
theorem dX4_reckon_214 : decode cX4_reckon 214 = .ok (.iconst 4, 1) := by decide +kernel
theorem dX4_reckon_215 : decode cX4_reckon 215 = .ok (.iload_n 1, 1) := by decide +kernel
theorem dX4_reckon_216 : decode cX4_reckon 216 = .ok (.imul, 1) := by decide +kernel
theorem dX4_reckon_217 : decode cX4_reckon 217 = .ok (.iload_n 2, 1) := by decide +kernel
theorem dX4_reckon_218 : decode cX4_reckon 218 = .ok (.iadd, 1) := by decide +kernel
theorem dX4_reckon_219 : decode cX4_reckon 219 = .ok (.iaload, 1) := by decide +kernel
theorem dX4_reckon_220 : decode cX4_reckon 220 = .ok (.i2l, 1) := by decide +kernel
theorem dX4_reckon_221 : decode cX4_reckon 221 = .ok (.lmul, 1) := by decide +kernel
theorem dX4_reckon_222 : decode cX4_reckon 222 = .ok (.ladd, 1) := by decide +kernel
theorem dX4_reckon_223 : decode cX4_reckon 223 = .ok (.putfield 64, 3) := by decide +kernel
theorem dX4_reckon_226 : decode cX4_reckon 226 = .ok (.return_, 1) := by decide +kernel
theorem dX4_time_0 : decode cX4_time 0 = .ok (.aload_n 0, 1) := by decide +kernel
theorem dX4_time_1 : decode cX4_time 1 = .ok (.aload_n 0, 1) := by decide +kernel
theorem dX4_time_2 : decode cX4_time 2 = .ok (.iload_n 1, 1) := by decide +kernel
theorem dX4_time_3 : decode cX4_time 3 = .ok (.invokevirtual 57, 3) := by decide +kernel
theorem dX4_time_6 : decode cX4_time 6 = .ok (.ifCond .eq 18, 3) := by decide +kernel
theorem dX4_time_9 : decode cX4_time 9 = .ok (.iload_n 2, 1) := by decide +kernel
theorem dX4_time_10 : decode cX4_time 10 = .ok (.iconst 1, 1) := by decide +kernel
theorem dX4_time_11 : decode cX4_time 11 = .ok (.sipush 5000, 3) := by decide +kernel
theorem dX4_time_14 : decode cX4_time 14 = .ok (.invokestatic 53, 3) := by decide +kernel
theorem dX4_time_17 : decode cX4_time 17 = .ok (.ifCond .eq 7, 3) := by decide +kernel
theorem dX4_time_20 : decode cX4_time 20 = .ok (.iconst 0, 1) := by decide +kernel
theorem dX4_time_21 : decode cX4_time 21 = .ok (.goto 4, 3) := by decide +kernel
theorem dX4_time_24 : decode cX4_time 24 = .ok (.iconst 1, 1) := by decide +kernel
theorem dX4_time_25 : decode cX4_time 25 = .ok (.putfield 46, 3) := by decide +kernel
theorem dX4_time_28 : decode cX4_time 28 = .ok (.aload_n 0, 1) := by decide +kernel
theorem dX4_time_29 : decode cX4_time 29 = .ok (.getfield 46, 3) := by decide +kernel
theorem dX4_time_32 : decode cX4_time 32 = .ok (.ifCond .gt 18, 3) := by decide +kernel
theorem dX4_time_35 : decode cX4_time 35 = .ok (.aload_n 0, 1) := by decide +kernel
theorem dX4_time_36 : decode cX4_time 36 = .ok (.iload_n 1, 1) := by decide +kernel
theorem dX4_time_37 : decode cX4_time 37 = .ok (.aload_n 0, 1) := by decide +kernel
theorem dX4_time_38 : decode cX4_time 38 = .ok (.getfield 34, 3) := by decide +kernel
theorem dX4_time_41 : decode cX4_time 41 = .ok (.iload_n 1, 1) := by decide +kernel
theorem dX4_time_42 : decode cX4_time 42 = .ok (.iaload, 1) := by decide +kernel
theorem dX4_time_43 : decode cX4_time 43 = .ok (.iload_n 2, 1) := by decide +kernel
theorem dX4_time_44 : decode cX4_time 44 = .ok (.invokevirtual 71, 3) := by decide +kernel
theorem dX4_time_47 : decode cX4_time 47 = .ok (.ifCond .ne 5, 3) := by decide +kernel
theorem dX4_time_50 : decode cX4_time 50 = .ok (.iconst (-1), 1) := by decide +kernel
theorem dX4_time_51 : decode cX4_time 51 = .ok (.ireturn, 1) := by decide +kernel
theorem dX4_time_52 : decode cX4_time 52 = .ok (.aload_n 0, 1) := by decide +kernel
theorem dX4_time_53 : decode cX4_time 53 = .ok (.iload_n 1, 1) := by decide +kernel
theorem dX4_time_54 : decode cX4_time 54 = .ok (.aload_n 0, 1) := by decide +kernel
theorem dX4_time_55 : decode cX4_time 55 = .ok (.getfield 34, 3) := by decide +kernel
theorem dX4_time_58 : decode cX4_time 58 = .ok (.iload_n 1, 1) := by decide +kernel
theorem dX4_time_59 : decode cX4_time 59 = .ok (.iaload, 1) := by decide +kernel
theorem dX4_time_60 : decode cX4_time 60 = .ok (.iload_n 2, 1) := by decide +kernel
theorem dX4_time_61 : decode cX4_time 61 = .ok (.iload_n 3, 1) := by decide +kernel
theorem dX4_time_62 : decode cX4_time 62 = .ok (.invokevirtual 74, 3) := by decide +kernel
theorem dX4_time_65 : decode cX4_time 65 = .ok (.aload_n 0, 1) := by decide +kernel
theorem dX4_time_66 : decode cX4_time 66 = .ok (.getfield 64, 3) := by decide +kernel
theorem dX4_time_69 : decode cX4_time 69 = .ok (.aload_n 0, 1) := by decide +kernel
theorem dX4_time_70 : decode cX4_time 70 = .ok (.getfield 68, 3) := by decide +kernel
theorem dX4_time_73 : decode cX4_time 73 = .ok (.ldiv, 1) := by decide +kernel
theorem dX4_time_74 : decode cX4_time 74 = .ok (.l2i, 1) := by decide +kernel
theorem dX4_time_75 : decode cX4_time 75 = .ok (.ireturn, 1) := by decide +kernel
theorem dX4_opensFrom_0 : decode cX4_opensFrom 0 = .ok (.aload_n 0, 1) := by decide +kernel
theorem dX4_opensFrom_1 : decode cX4_opensFrom 1 = .ok (.aload_n 0, 1) := by decide +kernel
theorem dX4_opensFrom_2 : decode cX4_opensFrom 2 = .ok (.iload_n 1, 1) := by decide +kernel
theorem dX4_opensFrom_3 : decode cX4_opensFrom 3 = .ok (.invokevirtual 57, 3) := by decide +kernel
theorem dX4_opensFrom_6 : decode cX4_opensFrom 6 = .ok (.ifCond .eq 7, 3) := by decide +kernel
theorem dX4_opensFrom_9 : decode cX4_opensFrom 9 = .ok (.iconst 0, 1) := by decide +kernel
theorem dX4_opensFrom_10 : decode cX4_opensFrom 10 = .ok (.goto 4, 3) := by decide +kernel
theorem dX4_opensFrom_13 : decode cX4_opensFrom 13 = .ok (.iconst 1, 1) := by decide +kernel
theorem dX4_opensFrom_14 : decode cX4_opensFrom 14 = .ok (.putfield 46, 3) := by decide +kernel
theorem dX4_opensFrom_17 : decode cX4_opensFrom 17 = .ok (.iconst 1, 1) := by decide +kernel
theorem dX4_opensFrom_18 : decode cX4_opensFrom 18 = .ok (.istore_n 2, 1) := by decide +kernel
theorem dX4_opensFrom_19 : decode cX4_opensFrom 19 = .ok (.iload_n 2, 1) := by decide +kernel
theorem dX4_opensFrom_20 : decode cX4_opensFrom 20 = .ok (.sipush 5000, 3) := by decide +kernel
theorem dX4_opensFrom_23 : decode cX4_opensFrom 23 = .ok (.if_icmp .gt 33, 3) := by decide +kernel
theorem dX4_opensFrom_26 : decode cX4_opensFrom 26 = .ok (.aload_n 0, 1) := by decide +kernel
theorem dX4_opensFrom_27 : decode cX4_opensFrom 27 = .ok (.getfield 46, 3) := by decide +kernel
theorem dX4_opensFrom_30 : decode cX4_opensFrom 30 = .ok (.ifCond .ne 26, 3) := by decide +kernel
theorem dX4_opensFrom_33 : decode cX4_opensFrom 33 = .ok (.aload_n 0, 1) := by decide +kernel
theorem dX4_opensFrom_34 : decode cX4_opensFrom 34 = .ok (.iload_n 1, 1) := by decide +kernel
theorem dX4_opensFrom_35 : decode cX4_opensFrom 35 = .ok (.aload_n 0, 1) := by decide +kernel
theorem dX4_opensFrom_36 : decode cX4_opensFrom 36 = .ok (.getfield 34, 3) := by decide +kernel
theorem dX4_opensFrom_39 : decode cX4_opensFrom 39 = .ok (.iload_n 1, 1) := by decide +kernel
theorem dX4_opensFrom_40 : decode cX4_opensFrom 40 = .ok (.iaload, 1) := by decide +kernel
theorem dX4_opensFrom_41 : decode cX4_opensFrom 41 = .ok (.iload_n 2, 1) := by decide +kernel
theorem dX4_opensFrom_42 : decode cX4_opensFrom 42 = .ok (.invokevirtual 71, 3) := by decide +kernel
theorem dX4_opensFrom_45 : decode cX4_opensFrom 45 = .ok (.ifCond .eq 5, 3) := by decide +kernel
theorem dX4_opensFrom_48 : decode cX4_opensFrom 48 = .ok (.iload_n 2, 1) := by decide +kernel
theorem dX4_opensFrom_49 : decode cX4_opensFrom 49 = .ok (.ireturn, 1) := by decide +kernel
theorem dX4_opensFrom_50 : decode cX4_opensFrom 50 = .ok (.iinc 2 1, 3) := by decide +kernel
theorem dX4_opensFrom_53 : decode cX4_opensFrom 53 = .ok (.goto (-34), 3) := by decide +kernel
theorem dX4_opensFrom_56 : decode cX4_opensFrom 56 = .ok (.iconst (-1), 1) := by decide +kernel
theorem dX4_opensFrom_57 : decode cX4_opensFrom 57 = .ok (.ireturn, 1) := by decide +kernel
theorem dX4_isGood_0 : decode cX4_isGood 0 = .ok (.aload_n 0, 1) := by decide +kernel
theorem dX4_isGood_1 : decode cX4_isGood 1 = .ok (.iload_n 3, 1) := by decide +kernel
theorem dX4_isGood_2 : decode cX4_isGood 2 = .ok (.iload 4, 2) := by decide +kernel
theorem dX4_isGood_4 : decode cX4_isGood 4 = .ok (.iload 6, 2) := by decide +kernel
theorem dX4_isGood_6 : decode cX4_isGood 6 = .ok (.invokevirtual 71, 3) := by decide +kernel
theorem dX4_isGood_9 : decode cX4_isGood 9 = .ok (.ifCond .ne 5, 3) := by decide +kernel
theorem dX4_isGood_12 : decode cX4_isGood 12 = .ok (.iconst 1, 1) := by decide +kernel
theorem dX4_isGood_13 : decode cX4_isGood 13 = .ok (.ireturn, 1) := by decide +kernel
theorem dX4_isGood_14 : decode cX4_isGood 14 = .ok (.aload_n 0, 1) := by decide +kernel
theorem dX4_isGood_15 : decode cX4_isGood 15 = .ok (.iload_n 1, 1) := by decide +kernel
theorem dX4_isGood_16 : decode cX4_isGood 16 = .ok (.iload_n 2, 1) := by decide +kernel
theorem dX4_isGood_17 : decode cX4_isGood 17 = .ok (.iload 6, 2) := by decide +kernel
theorem dX4_isGood_19 : decode cX4_isGood 19 = .ok (.invokevirtual 71, 3) := by decide +kernel
theorem dX4_isGood_22 : decode cX4_isGood 22 = .ok (.ifCond .ne 5, 3) := by decide +kernel
theorem dX4_isGood_25 : decode cX4_isGood 25 = .ok (.iconst 0, 1) := by decide +kernel
theorem dX4_isGood_26 : decode cX4_isGood 26 = .ok (.ireturn, 1) := by decide +kernel
theorem dX4_isGood_27 : decode cX4_isGood 27 = .ok (.aload_n 0, 1) := by decide +kernel
theorem dX4_isGood_28 : decode cX4_isGood 28 = .ok (.iload_n 1, 1) := by decide +kernel
theorem dX4_isGood_29 : decode cX4_isGood 29 = .ok (.iload_n 2, 1) := by decide +kernel
theorem dX4_isGood_30 : decode cX4_isGood 30 = .ok (.iload 6, 2) := by decide +kernel
theorem dX4_isGood_32 : decode cX4_isGood 32 = .ok (.iconst 1, 1) := by decide +kernel
theorem dX4_isGood_33 : decode cX4_isGood 33 = .ok (.invokevirtual 74, 3) := by decide +kernel
theorem dX4_isGood_36 : decode cX4_isGood 36 = .ok (.aload_n 0, 1) := by decide +kernel
theorem dX4_isGood_37 : decode cX4_isGood 37 = .ok (.getfield 64, 3) := by decide +kernel
theorem dX4_isGood_40 : decode cX4_isGood 40 = .ok (.iload 5, 2) := by decide +kernel
theorem dX4_isGood_42 : decode cX4_isGood 42 = .ok (.i2l, 1) := by decide +kernel
theorem dX4_isGood_43 : decode cX4_isGood 43 = .ok (.aload_n 0, 1) := by decide +kernel
theorem dX4_isGood_44 : decode cX4_isGood 44 = .ok (.getfield 68, 3) := by decide +kernel
theorem dX4_isGood_47 : decode cX4_isGood 47 = .ok (.lmul, 1) := by decide +kernel
theorem dX4_isGood_48 : decode cX4_isGood 48 = .ok (.ladd, 1) := by decide +kernel
theorem dX4_isGood_49 : decode cX4_isGood 49 = .ok (.lstore 7, 2) := by decide +kernel
theorem dX4_isGood_51 : decode cX4_isGood 51 = .ok (.aload_n 0, 1) := by decide +kernel
theorem dX4_isGood_52 : decode cX4_isGood 52 = .ok (.getfield 68, 3) := by decide +kernel
theorem dX4_isGood_55 : decode cX4_isGood 55 = .ok (.lstore 9, 2) := by decide +kernel
theorem dX4_isGood_57 : decode cX4_isGood 57 = .ok (.aload_n 0, 1) := by decide +kernel
theorem dX4_isGood_58 : decode cX4_isGood 58 = .ok (.iload_n 3, 1) := by decide +kernel
theorem dX4_isGood_59 : decode cX4_isGood 59 = .ok (.iload 4, 2) := by decide +kernel
theorem dX4_isGood_61 : decode cX4_isGood 61 = .ok (.iload 6, 2) := by decide +kernel
theorem dX4_isGood_63 : decode cX4_isGood 63 = .ok (.iconst 0, 1) := by decide +kernel
theorem dX4_isGood_64 : decode cX4_isGood 64 = .ok (.invokevirtual 74, 3) := by decide +kernel
theorem dX4_isGood_67 : decode cX4_isGood 67 = .ok (.lload 7, 2) := by decide +kernel
theorem dX4_isGood_69 : decode cX4_isGood 69 = .ok (.aload_n 0, 1) := by decide +kernel
theorem dX4_isGood_70 : decode cX4_isGood 70 = .ok (.getfield 68, 3) := by decide +kernel
theorem dX4_isGood_73 : decode cX4_isGood 73 = .ok (.lmul, 1) := by decide +kernel
theorem dX4_isGood_74 : decode cX4_isGood 74 = .ok (.aload_n 0, 1) := by decide +kernel
theorem dX4_isGood_75 : decode cX4_isGood 75 = .ok (.getfield 64, 3) := by decide +kernel
theorem dX4_isGood_78 : decode cX4_isGood 78 = .ok (.lload 9, 2) := by decide +kernel
theorem dX4_isGood_80 : decode cX4_isGood 80 = .ok (.lmul, 1) := by decide +kernel
theorem dX4_isGood_81 : decode cX4_isGood 81 = .ok (.lcmp, 1) := by decide +kernel
theorem dX4_isGood_82 : decode cX4_isGood 82 = .ok (.ifCond .gt 7, 3) := by decide +kernel
theorem dX4_isGood_85 : decode cX4_isGood 85 = .ok (.iconst 1, 1) := by decide +kernel
theorem dX4_isGood_86 : decode cX4_isGood 86 = .ok (.goto 4, 3) := by decide +kernel
theorem dX4_isGood_89 : decode cX4_isGood 89 = .ok (.iconst 0, 1) := by decide +kernel
theorem dX4_isGood_90 : decode cX4_isGood 90 = .ok (.ireturn, 1) := by decide +kernel
theorem dX4_lookOrder_0 : decode cX4_lookOrder 0 = .ok (.aload_n 0, 1) := by decide +kernel
theorem dX4_lookOrder_1 : decode cX4_lookOrder 1 = .ok (.aload_n 0, 1) := by decide +kernel
theorem dX4_lookOrder_2 : decode cX4_lookOrder 2 = .ok (.iload_n 1, 1) := by decide +kernel
theorem dX4_lookOrder_3 : decode cX4_lookOrder 3 = .ok (.invokevirtual 57, 3) := by decide +kernel
theorem dX4_lookOrder_6 : decode cX4_lookOrder 6 = .ok (.ifCond .eq 31, 3) := by decide +kernel
theorem dX4_lookOrder_9 : decode cX4_lookOrder 9 = .ok (.aload_n 0, 1) := by decide +kernel
theorem dX4_lookOrder_10 : decode cX4_lookOrder 10 = .ok (.iload_n 2, 1) := by decide +kernel
theorem dX4_lookOrder_11 : decode cX4_lookOrder 11 = .ok (.invokevirtual 57, 3) := by decide +kernel
theorem dX4_lookOrder_14 : decode cX4_lookOrder 14 = .ok (.ifCond .eq 23, 3) := by decide +kernel
theorem dX4_lookOrder_17 : decode cX4_lookOrder 17 = .ok (.iload_n 1, 1) := by decide +kernel
theorem dX4_lookOrder_18 : decode cX4_lookOrder 18 = .ok (.iload_n 2, 1) := by decide +kernel
theorem dX4_lookOrder_19 : decode cX4_lookOrder 19 = .ok (.if_icmp .eq 18, 3) := by decide +kernel
theorem dX4_lookOrder_22 : decode cX4_lookOrder 22 = .ok (.iload_n 3, 1) := by decide +kernel
theorem dX4_lookOrder_23 : decode cX4_lookOrder 23 = .ok (.iconst 0, 1) := by decide +kernel
theorem dX4_lookOrder_24 : decode cX4_lookOrder 24 = .ok (.sipush 10000, 3) := by decide +kernel
theorem dX4_lookOrder_27 : decode cX4_lookOrder 27 = .ok (.invokestatic 53, 3) := by decide +kernel
theorem dX4_lookOrder_30 : decode cX4_lookOrder 30 = .ok (.ifCond .eq 7, 3) := by decide +kernel
theorem dX4_lookOrder_33 : decode cX4_lookOrder 33 = .ok (.iconst 0, 1) := by decide +kernel
theorem dX4_lookOrder_34 : decode cX4_lookOrder 34 = .ok (.goto 4, 3) := by decide +kernel
theorem dX4_lookOrder_37 : decode cX4_lookOrder 37 = .ok (.iconst 1, 1) := by decide +kernel
theorem dX4_lookOrder_38 : decode cX4_lookOrder 38 = .ok (.putfield 46, 3) := by decide +kernel
theorem dX4_lookOrder_41 : decode cX4_lookOrder 41 = .ok (.return_, 1) := by decide +kernel
theorem dX4_order_0 : decode cX4_order 0 = .ok (.aload_n 0, 1) := by decide +kernel
theorem dX4_order_1 : decode cX4_order 1 = .ok (.iload_n 1, 1) := by decide +kernel
theorem dX4_order_2 : decode cX4_order 2 = .ok (.iload_n 2, 1) := by decide +kernel
theorem dX4_order_3 : decode cX4_order 3 = .ok (.iload_n 3, 1) := by decide +kernel
theorem dX4_order_4 : decode cX4_order 4 = .ok (.invokevirtual 78, 3) := by decide +kernel
theorem dX4_order_7 : decode cX4_order 7 = .ok (.iconst 1, 1) := by decide +kernel
theorem dX4_order_8 : decode cX4_order 8 = .ok (.istore 4, 2) := by decide +kernel
theorem dX4_order_10 : decode cX4_order 10 = .ok (.iload 4, 2) := by decide +kernel
theorem dX4_order_12 : decode cX4_order 12 = .ok (.sipush 5000, 3) := by decide +kernel
theorem dX4_order_15 : decode cX4_order 15 = .ok (.if_icmp .gt 43, 3) := by decide +kernel
theorem dX4_order_18 : decode cX4_order 18 = .ok (.aload_n 0, 1) := by decide +kernel
theorem dX4_order_19 : decode cX4_order 19 = .ok (.getfield 46, 3) := by decide +kernel
theorem dX4_order_22 : decode cX4_order 22 = .ok (.ifCond .ne 36, 3) := by decide +kernel
theorem dX4_order_25 : decode cX4_order 25 = .ok (.aload_n 0, 1) := by decide +kernel
theorem dX4_order_26 : decode cX4_order 26 = .ok (.iload_n 1, 1) := by decide +kernel
theorem dX4_order_27 : decode cX4_order 27 = .ok (.aload_n 0, 1) := by decide +kernel
theorem dX4_order_28 : decode cX4_order 28 = .ok (.getfield 34, 3) := by decide +kernel
theorem dX4_order_31 : decode cX4_order 31 = .ok (.iload_n 1, 1) := by decide +kernel
theorem dX4_order_32 : decode cX4_order 32 = .ok (.iaload, 1) := by decide +kernel
theorem dX4_order_33 : decode cX4_order 33 = .ok (.iload_n 2, 1) := by decide +kernel
theorem dX4_order_34 : decode cX4_order 34 = .ok (.aload_n 0, 1) := by decide +kernel
theorem dX4_order_35 : decode cX4_order 35 = .ok (.getfield 34, 3) := by decide +kernel
theorem dX4_order_38 : decode cX4_order 38 = .ok (.iload_n 2, 1) := by decide +kernel
theorem dX4_order_39 : decode cX4_order 39 = .ok (.iaload, 1) := by decide +kernel
theorem dX4_order_40 : decode cX4_order 40 = .ok (.iload_n 3, 1) := by decide +kernel
theorem dX4_order_41 : decode cX4_order 41 = .ok (.iload 4, 2) := by decide +kernel
theorem dX4_order_43 : decode cX4_order 43 = .ok (.invokevirtual 82, 3) := by decide +kernel
theorem dX4_order_46 : decode cX4_order 46 = .ok (.ifCond .ne 6, 3) := by decide +kernel
theorem dX4_order_49 : decode cX4_order 49 = .ok (.iload 4, 2) := by decide +kernel
theorem dX4_order_51 : decode cX4_order 51 = .ok (.ireturn, 1) := by decide +kernel
theorem dX4_order_52 : decode cX4_order 52 = .ok (.iinc 4 1, 3) := by decide +kernel
theorem dX4_order_55 : decode cX4_order 55 = .ok (.goto (-45), 3) := by decide +kernel
theorem dX4_order_58 : decode cX4_order 58 = .ok (.iconst (-1), 1) := by decide +kernel
theorem dX4_order_59 : decode cX4_order 59 = .ok (.ireturn, 1) := by decide +kernel
theorem dX4_broken_0 : decode cX4_broken 0 = .ok (.aload_n 0, 1) := by decide +kernel
theorem dX4_broken_1 : decode cX4_broken 1 = .ok (.iload_n 1, 1) := by decide +kernel
theorem dX4_broken_2 : decode cX4_broken 2 = .ok (.iload_n 2, 1) := by decide +kernel
theorem dX4_broken_3 : decode cX4_broken 3 = .ok (.iload_n 3, 1) := by decide +kernel
theorem dX4_broken_4 : decode cX4_broken 4 = .ok (.invokevirtual 78, 3) := by decide +kernel
theorem dX4_broken_7 : decode cX4_broken 7 = .ok (.iconst 0, 1) := by decide +kernel
theorem dX4_broken_8 : decode cX4_broken 8 = .ok (.istore 4, 2) := by decide +kernel
theorem dX4_broken_10 : decode cX4_broken 10 = .ok (.iconst 1, 1) := by decide +kernel
theorem dX4_broken_11 : decode cX4_broken 11 = .ok (.istore 5, 2) := by decide +kernel
theorem dX4_broken_13 : decode cX4_broken 13 = .ok (.iload 5, 2) := by decide +kernel
theorem dX4_broken_15 : decode cX4_broken 15 = .ok (.sipush 5000, 3) := by decide +kernel
theorem dX4_broken_18 : decode cX4_broken 18 = .ok (.if_icmp .gt 50, 3) := by decide +kernel
theorem dX4_broken_21 : decode cX4_broken 21 = .ok (.aload_n 0, 1) := by decide +kernel
theorem dX4_broken_22 : decode cX4_broken 22 = .ok (.getfield 46, 3) := by decide +kernel
theorem dX4_broken_25 : decode cX4_broken 25 = .ok (.ifCond .ne 43, 3) := by decide +kernel
theorem dX4_broken_28 : decode cX4_broken 28 = .ok (.iload 4, 2) := by decide +kernel
theorem dX4_broken_30 : decode cX4_broken 30 = .ok (.aload_n 0, 1) := by decide +kernel
theorem dX4_broken_31 : decode cX4_broken 31 = .ok (.iload_n 1, 1) := by decide +kernel
theorem dX4_broken_32 : decode cX4_broken 32 = .ok (.aload_n 0, 1) := by decide +kernel
theorem dX4_broken_33 : decode cX4_broken 33 = .ok (.getfield 34, 3) := by decide +kernel
theorem dX4_broken_36 : decode cX4_broken 36 = .ok (.iload_n 1, 1) := by decide +kernel
theorem dX4_broken_37 : decode cX4_broken 37 = .ok (.iaload, 1) := by decide +kernel
theorem dX4_broken_38 : decode cX4_broken 38 = .ok (.iload_n 2, 1) := by decide +kernel
theorem dX4_broken_39 : decode cX4_broken 39 = .ok (.aload_n 0, 1) := by decide +kernel
theorem dX4_broken_40 : decode cX4_broken 40 = .ok (.getfield 34, 3) := by decide +kernel
theorem dX4_broken_43 : decode cX4_broken 43 = .ok (.iload_n 2, 1) := by decide +kernel
theorem dX4_broken_44 : decode cX4_broken 44 = .ok (.iaload, 1) := by decide +kernel
theorem dX4_broken_45 : decode cX4_broken 45 = .ok (.iload_n 3, 1) := by decide +kernel
theorem dX4_broken_46 : decode cX4_broken 46 = .ok (.iload 5, 2) := by decide +kernel
theorem dX4_broken_48 : decode cX4_broken 48 = .ok (.invokevirtual 82, 3) := by decide +kernel
theorem dX4_broken_51 : decode cX4_broken 51 = .ok (.ifCond .eq 7, 3) := by decide +kernel
theorem dX4_broken_54 : decode cX4_broken 54 = .ok (.iconst 0, 1) := by decide +kernel
theorem dX4_broken_55 : decode cX4_broken 55 = .ok (.goto 4, 3) := by decide +kernel
theorem dX4_broken_58 : decode cX4_broken 58 = .ok (.iconst 1, 1) := by decide +kernel
theorem dX4_broken_59 : decode cX4_broken 59 = .ok (.iadd, 1) := by decide +kernel
theorem dX4_broken_60 : decode cX4_broken 60 = .ok (.istore 4, 2) := by decide +kernel
theorem dX4_broken_62 : decode cX4_broken 62 = .ok (.iinc 5 1, 3) := by decide +kernel
theorem dX4_broken_65 : decode cX4_broken 65 = .ok (.goto (-52), 3) := by decide +kernel
theorem dX4_broken_68 : decode cX4_broken 68 = .ok (.iload 4, 2) := by decide +kernel
theorem dX4_broken_70 : decode cX4_broken 70 = .ok (.ireturn, 1) := by decide +kernel
theorem dX4_fits_0 : decode cX4_fits 0 = .ok (.aload_n 0, 1) := by decide +kernel
theorem dX4_fits_1 : decode cX4_fits 1 = .ok (.getfield 7, 3) := by decide +kernel
theorem dX4_fits_4 : decode cX4_fits 4 = .ok (.iload_n 1, 1) := by decide +kernel
theorem dX4_fits_5 : decode cX4_fits 5 = .ok (.iaload, 1) := by decide +kernel
theorem dX4_fits_6 : decode cX4_fits 6 = .ok (.iconst (-1), 1) := by decide +kernel
theorem dX4_fits_7 : decode cX4_fits 7 = .ok (.if_icmp .ne 5, 3) := by decide +kernel
theorem dX4_fits_10 : decode cX4_fits 10 = .ok (.iconst 1, 1) := by decide +kernel
theorem dX4_fits_11 : decode cX4_fits 11 = .ok (.ireturn, 1) := by decide +kernel
theorem dX4_fits_12 : decode cX4_fits 12 = .ok (.bipush 16, 2) := by decide +kernel
theorem dX4_fits_14 : decode cX4_fits 14 = .ok (.iload_n 1, 1) := by decide +kernel
theorem dX4_fits_15 : decode cX4_fits 15 = .ok (.imul, 1) := by decide +kernel
theorem dX4_fits_16 : decode cX4_fits 16 = .ok (.iconst 4, 1) := by decide +kernel
theorem dX4_fits_17 : decode cX4_fits 17 = .ok (.aload_n 0, 1) := by decide +kernel
theorem dX4_fits_18 : decode cX4_fits 18 = .ok (.getfield 43, 3) := by decide +kernel
theorem dX4_fits_21 : decode cX4_fits 21 = .ok (.iload_n 1, 1) := by decide +kernel
theorem dX4_fits_22 : decode cX4_fits 22 = .ok (.iaload, 1) := by decide +kernel
theorem dX4_fits_23 : decode cX4_fits 23 = .ok (.imul, 1) := by decide +kernel
theorem dX4_fits_24 : decode cX4_fits 24 = .ok (.iadd, 1) := by decide +kernel
theorem dX4_fits_25 : decode cX4_fits 25 = .ok (.aload_n 0, 1) := by decide +kernel
theorem dX4_fits_26 : decode cX4_fits 26 = .ok (.getfield 43, 3) := by decide +kernel
theorem dX4_fits_29 : decode cX4_fits 29 = .ok (.aload_n 0, 1) := by decide +kernel
theorem dX4_fits_30 : decode cX4_fits 30 = .ok (.getfield 7, 3) := by decide +kernel
theorem dX4_fits_33 : decode cX4_fits 33 = .ok (.iload_n 1, 1) := by decide +kernel
theorem dX4_fits_34 : decode cX4_fits 34 = .ok (.iaload, 1) := by decide +kernel
theorem dX4_fits_35 : decode cX4_fits 35 = .ok (.iaload, 1) := by decide +kernel
theorem dX4_fits_36 : decode cX4_fits 36 = .ok (.iadd, 1) := by decide +kernel
theorem dX4_fits_37 : decode cX4_fits 37 = .ok (.istore_n 3, 1) := by decide +kernel
theorem dX4_fits_38 : decode cX4_fits 38 = .ok (.aload_n 0, 1) := by decide +kernel
theorem dX4_fits_39 : decode cX4_fits 39 = .ok (.getfield 40, 3) := by decide +kernel
theorem dX4_fits_42 : decode cX4_fits 42 = .ok (.iload_n 3, 1) := by decide +kernel
theorem dX4_fits_43 : decode cX4_fits 43 = .ok (.iaload, 1) := by decide +kernel
theorem dX4_fits_44 : decode cX4_fits 44 = .ok (.ifCond .ne 77, 3) := by decide +kernel
theorem dX4_fits_47 : decode cX4_fits 47 = .ok (.iconst 1, 1) := by decide +kernel
theorem dX4_fits_48 : decode cX4_fits 48 = .ok (.istore 4, 2) := by decide +kernel
theorem dX4_fits_50 : decode cX4_fits 50 = .ok (.iconst 1, 1) := by decide +kernel
theorem dX4_fits_51 : decode cX4_fits 51 = .ok (.istore 5, 2) := by decide +kernel
theorem dX4_fits_53 : decode cX4_fits 53 = .ok (.iload 5, 2) := by decide +kernel
theorem dX4_fits_55 : decode cX4_fits 55 = .ok (.sipush 5000, 3) := by decide +kernel
theorem dX4_fits_58 : decode cX4_fits 58 = .ok (.if_icmp .gt 47, 3) := by decide +kernel
theorem dX4_fits_61 : decode cX4_fits 61 = .ok (.iload 4, 2) := by decide +kernel
theorem dX4_fits_63 : decode cX4_fits 63 = .ok (.ifCond .eq 42, 3) := by decide +kernel
theorem dX4_fits_66 : decode cX4_fits 66 = .ok (.aload_n 0, 1) := by decide +kernel
theorem dX4_fits_67 : decode cX4_fits 67 = .ok (.iload_n 1, 1) := by decide +kernel
theorem dX4_fits_68 : decode cX4_fits 68 = .ok (.aload_n 0, 1) := by decide +kernel
theorem dX4_fits_69 : decode cX4_fits 69 = .ok (.getfield 43, 3) := by decide +kernel
theorem dX4_fits_72 : decode cX4_fits 72 = .ok (.iload_n 1, 1) := by decide +kernel
theorem dX4_fits_73 : decode cX4_fits 73 = .ok (.iaload, 1) := by decide +kernel
theorem dX4_fits_74 : decode cX4_fits 74 = .ok (.aload_n 0, 1) := by decide +kernel
theorem dX4_fits_75 : decode cX4_fits 75 = .ok (.getfield 7, 3) := by decide +kernel
theorem dX4_fits_78 : decode cX4_fits 78 = .ok (.iload_n 1, 1) := by decide +kernel
theorem dX4_fits_79 : decode cX4_fits 79 = .ok (.iaload, 1) := by decide +kernel
theorem dX4_fits_80 : decode cX4_fits 80 = .ok (.aload_n 0, 1) := by decide +kernel
theorem dX4_fits_81 : decode cX4_fits 81 = .ok (.getfield 43, 3) := by decide +kernel
theorem dX4_fits_84 : decode cX4_fits 84 = .ok (.aload_n 0, 1) := by decide +kernel
theorem dX4_fits_85 : decode cX4_fits 85 = .ok (.getfield 7, 3) := by decide +kernel
theorem dX4_fits_88 : decode cX4_fits 88 = .ok (.iload_n 1, 1) := by decide +kernel
theorem dX4_fits_89 : decode cX4_fits 89 = .ok (.iaload, 1) := by decide +kernel
theorem dX4_fits_90 : decode cX4_fits 90 = .ok (.iaload, 1) := by decide +kernel
theorem dX4_fits_91 : decode cX4_fits 91 = .ok (.iload_n 2, 1) := by decide +kernel
theorem dX4_fits_92 : decode cX4_fits 92 = .ok (.iload 5, 2) := by decide +kernel
theorem dX4_fits_94 : decode cX4_fits 94 = .ok (.invokevirtual 82, 3) := by decide +kernel
theorem dX4_fits_97 : decode cX4_fits 97 = .ok (.istore 4, 2) := by decide +kernel
theorem dX4_fits_99 : decode cX4_fits 99 = .ok (.iinc 5 1, 3) := by decide +kernel
theorem dX4_fits_102 : decode cX4_fits 102 = .ok (.goto (-49), 3) := by decide +kernel
theorem dX4_fits_105 : decode cX4_fits 105 = .ok (.aload_n 0, 1) := by decide +kernel
theorem dX4_fits_106 : decode cX4_fits 106 = .ok (.getfield 40, 3) := by decide +kernel
theorem dX4_fits_109 : decode cX4_fits 109 = .ok (.iload_n 3, 1) := by decide +kernel
theorem dX4_fits_110 : decode cX4_fits 110 = .ok (.iload 4, 2) := by decide +kernel
theorem dX4_fits_112 : decode cX4_fits 112 = .ok (.ifCond .eq 7, 3) := by decide +kernel
theorem dX4_fits_115 : decode cX4_fits 115 = .ok (.iconst 1, 1) := by decide +kernel
theorem dX4_fits_116 : decode cX4_fits 116 = .ok (.goto 4, 3) := by decide +kernel
theorem dX4_fits_119 : decode cX4_fits 119 = .ok (.iconst 2, 1) := by decide +kernel
theorem dX4_fits_120 : decode cX4_fits 120 = .ok (.iastore, 1) := by decide +kernel
theorem dX4_fits_121 : decode cX4_fits 121 = .ok (.aload_n 0, 1) := by decide +kernel
theorem dX4_fits_122 : decode cX4_fits 122 = .ok (.getfield 40, 3) := by decide +kernel
theorem dX4_fits_125 : decode cX4_fits 125 = .ok (.iload_n 3, 1) := by decide +kernel
theorem dX4_fits_126 : decode cX4_fits 126 = .ok (.iaload, 1) := by decide +kernel
theorem dX4_fits_127 : decode cX4_fits 127 = .ok (.iconst 1, 1) := by decide +kernel
theorem dX4_fits_128 : decode cX4_fits 128 = .ok (.if_icmp .ne 7, 3) := by decide +kernel
theorem dX4_fits_131 : decode cX4_fits 131 = .ok (.iconst 1, 1) := by decide +kernel
theorem dX4_fits_132 : decode cX4_fits 132 = .ok (.goto 4, 3) := by decide +kernel
theorem dX4_fits_135 : decode cX4_fits 135 = .ok (.iconst 0, 1) := by decide +kernel
theorem dX4_fits_136 : decode cX4_fits 136 = .ok (.ireturn, 1) := by decide +kernel
theorem dX4_settle_0 : decode cX4_settle 0 = .ok (.aload_n 0, 1) := by decide +kernel
theorem dX4_settle_1 : decode cX4_settle 1 = .ok (.iload_n 1, 1) := by decide +kernel
theorem dX4_settle_2 : decode cX4_settle 2 = .ok (.iconst 0, 1) := by decide +kernel
theorem dX4_settle_3 : decode cX4_settle 3 = .ok (.sipush 10000, 3) := by decide +kernel
theorem dX4_settle_6 : decode cX4_settle 6 = .ok (.invokestatic 53, 3) := by decide +kernel
theorem dX4_settle_9 : decode cX4_settle 9 = .ok (.ifCond .eq 7, 3) := by decide +kernel
theorem dX4_settle_12 : decode cX4_settle 12 = .ok (.iconst 0, 1) := by decide +kernel
theorem dX4_settle_13 : decode cX4_settle 13 = .ok (.goto 4, 3) := by decide +kernel
theorem dX4_settle_16 : decode cX4_settle 16 = .ok (.iconst 1, 1) := by decide +kernel
theorem dX4_settle_17 : decode cX4_settle 17 = .ok (.putfield 46, 3) := by decide +kernel
theorem dX4_settle_20 : decode cX4_settle 20 = .ok (.aload_n 0, 1) := by decide +kernel
theorem dX4_settle_21 : decode cX4_settle 21 = .ok (.getfield 46, 3) := by decide +kernel
theorem dX4_settle_24 : decode cX4_settle 24 = .ok (.ifCond .le 5, 3) := by decide +kernel
theorem dX4_settle_27 : decode cX4_settle 27 = .ok (.iconst 0, 1) := by decide +kernel
theorem dX4_settle_28 : decode cX4_settle 28 = .ok (.ireturn, 1) := by decide +kernel
theorem dX4_settle_29 : decode cX4_settle 29 = .ok (.iconst 0, 1) := by decide +kernel
theorem dX4_settle_30 : decode cX4_settle 30 = .ok (.istore_n 2, 1) := by decide +kernel
theorem dX4_settle_31 : decode cX4_settle 31 = .ok (.iload_n 2, 1) := by decide +kernel
theorem dX4_settle_32 : decode cX4_settle 32 = .ok (.sipush 128, 3) := by decide +kernel
theorem dX4_settle_35 : decode cX4_settle 35 = .ok (.if_icmp .ge 16, 3) := by decide +kernel
theorem dX4_settle_38 : decode cX4_settle 38 = .ok (.aload_n 0, 1) := by decide +kernel
theorem dX4_settle_39 : decode cX4_settle 39 = .ok (.getfield 40, 3) := by decide +kernel
theorem dX4_settle_42 : decode cX4_settle 42 = .ok (.iload_n 2, 1) := by decide +kernel
theorem dX4_settle_43 : decode cX4_settle 43 = .ok (.iconst 0, 1) := by decide +kernel
theorem dX4_settle_44 : decode cX4_settle 44 = .ok (.iastore, 1) := by decide +kernel
theorem dX4_settle_45 : decode cX4_settle 45 = .ok (.iinc 2 1, 3) := by decide +kernel
theorem dX4_settle_48 : decode cX4_settle 48 = .ok (.goto (-17), 3) := by decide +kernel
theorem dX4_settle_51 : decode cX4_settle 51 = .ok (.iconst 0, 1) := by decide +kernel
theorem dX4_settle_52 : decode cX4_settle 52 = .ok (.istore_n 2, 1) := by decide +kernel
theorem dX4_settle_53 : decode cX4_settle 53 = .ok (.aload_n 0, 1) := by decide +kernel
theorem dX4_settle_54 : decode cX4_settle 54 = .ok (.getfield 43, 3) := by decide +kernel
theorem dX4_settle_57 : decode cX4_settle 57 = .ok (.iconst 0, 1) := by decide +kernel
theorem dX4_settle_58 : decode cX4_settle 58 = .ok (.iconst 0, 1) := by decide +kernel
theorem dX4_settle_59 : decode cX4_settle 59 = .ok (.iastore, 1) := by decide +kernel
theorem dX4_settle_60 : decode cX4_settle 60 = .ok (.iload_n 2, 1) := by decide +kernel
theorem dX4_settle_61 : decode cX4_settle 61 = .ok (.ifCond .lt 89, 3) := by decide +kernel
theorem dX4_settle_64 : decode cX4_settle 64 = .ok (.iload_n 2, 1) := by decide +kernel
theorem dX4_settle_65 : decode cX4_settle 65 = .ok (.aload_n 0, 1) := by decide +kernel
theorem dX4_settle_66 : decode cX4_settle 66 = .ok (.getfield 50, 3) := by decide +kernel
theorem dX4_settle_69 : decode cX4_settle 69 = .ok (.if_icmp .ge 81, 3) := by decide +kernel
theorem dX4_settle_72 : decode cX4_settle 72 = .ok (.aload_n 0, 1) := by decide +kernel
theorem dX4_settle_73 : decode cX4_settle 73 = .ok (.getfield 43, 3) := by decide +kernel
theorem dX4_settle_76 : decode cX4_settle 76 = .ok (.iload_n 2, 1) := by decide +kernel
theorem dX4_settle_77 : decode cX4_settle 77 = .ok (.iaload, 1) := by decide +kernel
theorem dX4_settle_78 : decode cX4_settle 78 = .ok (.aload_n 0, 1) := by decide +kernel
theorem dX4_settle_79 : decode cX4_settle 79 = .ok (.getfield 25, 3) := by decide +kernel
theorem dX4_settle_82 : decode cX4_settle 82 = .ok (.iload_n 2, 1) := by decide +kernel
theorem dX4_settle_83 : decode cX4_settle 83 = .ok (.iaload, 1) := by decide +kernel
theorem dX4_settle_84 : decode cX4_settle 84 = .ok (.if_icmp .ne 23, 3) := by decide +kernel
theorem dX4_settle_87 : decode cX4_settle 87 = .ok (.iinc 2 (-1), 3) := by decide +kernel
theorem dX4_settle_90 : decode cX4_settle 90 = .ok (.iload_n 2, 1) := by decide +kernel
theorem dX4_settle_91 : decode cX4_settle 91 = .ok (.ifCond .lt (-31), 3) := by decide +kernel
theorem dX4_settle_94 : decode cX4_settle 94 = .ok (.aload_n 0, 1) := by decide +kernel
theorem dX4_settle_95 : decode cX4_settle 95 = .ok (.getfield 43, 3) := by decide +kernel
theorem dX4_settle_98 : decode cX4_settle 98 = .ok (.iload_n 2, 1) := by decide +kernel
theorem dX4_settle_99 : decode cX4_settle 99 = .ok (.dup2, 1) := by decide +kernel
theorem dX4_settle_100 : decode cX4_settle 100 = .ok (.iaload, 1) := by decide +kernel
theorem dX4_settle_101 : decode cX4_settle 101 = .ok (.iconst 1, 1) := by decide +kernel
theorem dX4_settle_102 : decode cX4_settle 102 = .ok (.iadd, 1) := by decide +kernel
theorem dX4_settle_103 : decode cX4_settle 103 = .ok (.iastore, 1) := by decide +kernel
theorem dX4_settle_104 : decode cX4_settle 104 = .ok (.goto (-44), 3) := by decide +kernel
theorem dX4_settle_107 : decode cX4_settle 107 = .ok (.aload_n 0, 1) := by decide +kernel
theorem dX4_settle_108 : decode cX4_settle 108 = .ok (.iload_n 2, 1) := by decide +kernel
theorem dX4_settle_109 : decode cX4_settle 109 = .ok (.iload_n 1, 1) := by decide +kernel
theorem dX4_settle_110 : decode cX4_settle 110 = .ok (.invokevirtual 86, 3) := by decide +kernel
theorem dX4_settle_113 : decode cX4_settle 113 = .ok (.ifCond .eq 24, 3) := by decide +kernel
theorem dX4_settle_116 : decode cX4_settle 116 = .ok (.iinc 2 1, 3) := by decide +kernel
theorem dX4_settle_119 : decode cX4_settle 119 = .ok (.iload_n 2, 1) := by decide +kernel
theorem dX4_settle_120 : decode cX4_settle 120 = .ok (.aload_n 0, 1) := by decide +kernel
theorem dX4_settle_121 : decode cX4_settle 121 = .ok (.getfield 50, 3) := by decide +kernel
theorem dX4_settle_124 : decode cX4_settle 124 = .ok (.if_icmp .ge (-64), 3) := by decide +kernel
theorem dX4_settle_127 : decode cX4_settle 127 = .ok (.aload_n 0, 1) := by decide +kernel
theorem dX4_settle_128 : decode cX4_settle 128 = .ok (.getfield 43, 3) := by decide +kernel
theorem dX4_settle_131 : decode cX4_settle 131 = .ok (.iload_n 2, 1) := by decide +kernel
theorem dX4_settle_132 : decode cX4_settle 132 = .ok (.iconst 0, 1) := by decide +kernel
theorem dX4_settle_133 : decode cX4_settle 133 = .ok (.iastore, 1) := by decide +kernel
theorem dX4_settle_134 : decode cX4_settle 134 = .ok (.goto (-74), 3) := by decide +kernel
theorem dX4_settle_137 : decode cX4_settle 137 = .ok (.aload_n 0, 1) := by decide +kernel
theorem dX4_settle_138 : decode cX4_settle 138 = .ok (.getfield 43, 3) := by decide +kernel
theorem dX4_settle_141 : decode cX4_settle 141 = .ok (.iload_n 2, 1) := by decide +kernel
theorem dX4_settle_142 : decode cX4_settle 142 = .ok (.dup2, 1) := by decide +kernel
theorem dX4_settle_143 : decode cX4_settle 143 = .ok (.iaload, 1) := by decide +kernel
theorem dX4_settle_144 : decode cX4_settle 144 = .ok (.iconst 1, 1) := by decide +kernel
theorem dX4_settle_145 : decode cX4_settle 145 = .ok (.iadd, 1) := by decide +kernel
theorem dX4_settle_146 : decode cX4_settle 146 = .ok (.iastore, 1) := by decide +kernel
theorem dX4_settle_147 : decode cX4_settle 147 = .ok (.goto (-87), 3) := by decide +kernel
theorem dX4_settle_150 : decode cX4_settle 150 = .ok (.iconst 0, 1) := by decide +kernel
theorem dX4_settle_151 : decode cX4_settle 151 = .ok (.istore_n 3, 1) := by decide +kernel
theorem dX4_settle_152 : decode cX4_settle 152 = .ok (.iload_n 3, 1) := by decide +kernel
theorem dX4_settle_153 : decode cX4_settle 153 = .ok (.aload_n 0, 1) := by decide +kernel
theorem dX4_settle_154 : decode cX4_settle 154 = .ok (.getfield 50, 3) := by decide +kernel
theorem dX4_settle_157 : decode cX4_settle 157 = .ok (.if_icmp .ge 25, 3) := by decide +kernel
theorem dX4_settle_160 : decode cX4_settle 160 = .ok (.iload_n 2, 1) := by decide +kernel
theorem dX4_settle_161 : decode cX4_settle 161 = .ok (.ifCond .lt 21, 3) := by decide +kernel
theorem dX4_settle_164 : decode cX4_settle 164 = .ok (.aload_n 0, 1) := by decide +kernel
theorem dX4_settle_165 : decode cX4_settle 165 = .ok (.getfield 34, 3) := by decide +kernel
theorem dX4_settle_168 : decode cX4_settle 168 = .ok (.iload_n 3, 1) := by decide +kernel
theorem dX4_settle_169 : decode cX4_settle 169 = .ok (.aload_n 0, 1) := by decide +kernel
theorem dX4_settle_170 : decode cX4_settle 170 = .ok (.getfield 43, 3) := by decide +kernel
theorem dX4_settle_173 : decode cX4_settle 173 = .ok (.iload_n 3, 1) := by decide +kernel
theorem dX4_settle_174 : decode cX4_settle 174 = .ok (.iaload, 1) := by decide +kernel
theorem dX4_settle_175 : decode cX4_settle 175 = .ok (.iastore, 1) := by decide +kernel
theorem dX4_settle_176 : decode cX4_settle 176 = .ok (.iinc 3 1, 3) := by decide +kernel
theorem dX4_settle_179 : decode cX4_settle 179 = .ok (.goto (-27), 3) := by decide +kernel
theorem dX4_settle_182 : decode cX4_settle 182 = .ok (.iload_n 2, 1) := by decide +kernel
theorem dX4_settle_183 : decode cX4_settle 183 = .ok (.ifCond .lt 7, 3) := by decide +kernel
theorem dX4_settle_186 : decode cX4_settle 186 = .ok (.iconst 1, 1) := by decide +kernel
theorem dX4_settle_187 : decode cX4_settle 187 = .ok (.goto 4, 3) := by decide +kernel
theorem dX4_settle_190 : decode cX4_settle 190 = .ok (.iconst 0, 1) := by decide +kernel
theorem dX4_settle_191 : decode cX4_settle 191 = .ok (.ireturn, 1) := by decide +kernel
theorem dX4_chosen_0 : decode cX4_chosen 0 = .ok (.aload_n 0, 1) := by decide +kernel
theorem dX4_chosen_1 : decode cX4_chosen 1 = .ok (.aload_n 0, 1) := by decide +kernel
theorem dX4_chosen_2 : decode cX4_chosen 2 = .ok (.iload_n 1, 1) := by decide +kernel
theorem dX4_chosen_3 : decode cX4_chosen 3 = .ok (.invokevirtual 57, 3) := by decide +kernel
theorem dX4_chosen_6 : decode cX4_chosen 6 = .ok (.ifCond .eq 7, 3) := by decide +kernel
theorem dX4_chosen_9 : decode cX4_chosen 9 = .ok (.iconst 0, 1) := by decide +kernel
theorem dX4_chosen_10 : decode cX4_chosen 10 = .ok (.goto 4, 3) := by decide +kernel
theorem dX4_chosen_13 : decode cX4_chosen 13 = .ok (.iconst 1, 1) := by decide +kernel
theorem dX4_chosen_14 : decode cX4_chosen 14 = .ok (.putfield 46, 3) := by decide +kernel
theorem dX4_chosen_17 : decode cX4_chosen 17 = .ok (.aload_n 0, 1) := by decide +kernel
theorem dX4_chosen_18 : decode cX4_chosen 18 = .ok (.getfield 46, 3) := by decide +kernel
theorem dX4_chosen_21 : decode cX4_chosen 21 = .ok (.ifCond .le 7, 3) := by decide +kernel
theorem dX4_chosen_24 : decode cX4_chosen 24 = .ok (.iconst 0, 1) := by decide +kernel
theorem dX4_chosen_25 : decode cX4_chosen 25 = .ok (.goto 9, 3) := by decide +kernel
theorem dX4_chosen_28 : decode cX4_chosen 28 = .ok (.aload_n 0, 1) := by decide +kernel
theorem dX4_chosen_29 : decode cX4_chosen 29 = .ok (.getfield 34, 3) := by decide +kernel
theorem dX4_chosen_32 : decode cX4_chosen 32 = .ok (.iload_n 1, 1) := by decide +kernel
theorem dX4_chosen_33 : decode cX4_chosen 33 = .ok (.iaload, 1) := by decide +kernel
theorem dX4_chosen_34 : decode cX4_chosen 34 = .ok (.ireturn, 1) := by decide +kernel
theorem dX4_impedance_0 : decode cX4_impedance 0 = .ok (.aload_n 0, 1) := by decide +kernel
theorem dX4_impedance_1 : decode cX4_impedance 1 = .ok (.aload_n 0, 1) := by decide +kernel
theorem dX4_impedance_2 : decode cX4_impedance 2 = .ok (.iload_n 1, 1) := by decide +kernel
theorem dX4_impedance_3 : decode cX4_impedance 3 = .ok (.invokevirtual 57, 3) := by decide +kernel
theorem dX4_impedance_6 : decode cX4_impedance 6 = .ok (.ifCond .eq 18, 3) := by decide +kernel
theorem dX4_impedance_9 : decode cX4_impedance 9 = .ok (.iload_n 2, 1) := by decide +kernel
theorem dX4_impedance_10 : decode cX4_impedance 10 = .ok (.iconst 1, 1) := by decide +kernel
theorem dX4_impedance_11 : decode cX4_impedance 11 = .ok (.sipush 10000, 3) := by decide +kernel
theorem dX4_impedance_14 : decode cX4_impedance 14 = .ok (.invokestatic 53, 3) := by decide +kernel
theorem dX4_impedance_17 : decode cX4_impedance 17 = .ok (.ifCond .eq 7, 3) := by decide +kernel
theorem dX4_impedance_20 : decode cX4_impedance 20 = .ok (.iconst 0, 1) := by decide +kernel
theorem dX4_impedance_21 : decode cX4_impedance 21 = .ok (.goto 4, 3) := by decide +kernel
theorem dX4_impedance_24 : decode cX4_impedance 24 = .ok (.iconst 1, 1) := by decide +kernel
theorem dX4_impedance_25 : decode cX4_impedance 25 = .ok (.putfield 46, 3) := by decide +kernel
theorem dX4_impedance_28 : decode cX4_impedance 28 = .ok (.aload_n 0, 1) := by decide +kernel
theorem dX4_impedance_29 : decode cX4_impedance 29 = .ok (.getfield 46, 3) := by decide +kernel
theorem dX4_impedance_32 : decode cX4_impedance 32 = .ok (.ifCond .le 5, 3) := by decide +kernel
theorem dX4_impedance_35 : decode cX4_impedance 35 = .ok (.iconst 0, 1) := by decide +kernel
theorem dX4_impedance_36 : decode cX4_impedance 36 = .ok (.ireturn, 1) := by decide +kernel
theorem dX4_impedance_37 : decode cX4_impedance 37 = .ok (.aload_n 0, 1) := by decide +kernel
theorem dX4_impedance_38 : decode cX4_impedance 38 = .ok (.getfield 37, 3) := by decide +kernel
theorem dX4_impedance_41 : decode cX4_impedance 41 = .ok (.iload_n 1, 1) := by decide +kernel
theorem dX4_impedance_42 : decode cX4_impedance 42 = .ok (.iaload, 1) := by decide +kernel
theorem dX4_impedance_43 : decode cX4_impedance 43 = .ok (.istore_n 3, 1) := by decide +kernel
theorem dX4_impedance_44 : decode cX4_impedance 44 = .ok (.aload_n 0, 1) := by decide +kernel
theorem dX4_impedance_45 : decode cX4_impedance 45 = .ok (.getfield 37, 3) := by decide +kernel
theorem dX4_impedance_48 : decode cX4_impedance 48 = .ok (.iload_n 1, 1) := by decide +kernel
theorem dX4_impedance_49 : decode cX4_impedance 49 = .ok (.iload_n 2, 1) := by decide +kernel
theorem dX4_impedance_50 : decode cX4_impedance 50 = .ok (.iastore, 1) := by decide +kernel
theorem dX4_impedance_51 : decode cX4_impedance 51 = .ok (.iload_n 3, 1) := by decide +kernel
theorem dX4_impedance_52 : decode cX4_impedance 52 = .ok (.ireturn, 1) := by decide +kernel
theorem dX4_voltage_0 : decode cX4_voltage 0 = .ok (.aload_n 0, 1) := by decide +kernel
theorem dX4_voltage_1 : decode cX4_voltage 1 = .ok (.iload_n 1, 1) := by decide +kernel
theorem dX4_voltage_2 : decode cX4_voltage 2 = .ok (.iconst 0, 1) := by decide +kernel
theorem dX4_voltage_3 : decode cX4_voltage 3 = .ok (.ldc 89, 2) := by decide +kernel
theorem dX4_voltage_5 : decode cX4_voltage 5 = .ok (.invokestatic 53, 3) := by decide +kernel
theorem dX4_voltage_8 : decode cX4_voltage 8 = .ok (.ifCond .eq 7, 3) := by decide +kernel
theorem dX4_voltage_11 : decode cX4_voltage 11 = .ok (.iconst 0, 1) := by decide +kernel
theorem dX4_voltage_12 : decode cX4_voltage 12 = .ok (.goto 4, 3) := by decide +kernel
theorem dX4_voltage_15 : decode cX4_voltage 15 = .ok (.iconst 1, 1) := by decide +kernel
theorem dX4_voltage_16 : decode cX4_voltage 16 = .ok (.putfield 46, 3) := by decide +kernel
theorem dX4_voltage_19 : decode cX4_voltage 19 = .ok (.aload_n 0, 1) := by decide +kernel
theorem dX4_voltage_20 : decode cX4_voltage 20 = .ok (.getfield 46, 3) := by decide +kernel
theorem dX4_voltage_23 : decode cX4_voltage 23 = .ok (.ifCond .le 5, 3) := by decide +kernel
theorem dX4_voltage_26 : decode cX4_voltage 26 = .ok (.iconst 0, 1) := by decide +kernel
theorem dX4_voltage_27 : decode cX4_voltage 27 = .ok (.ireturn, 1) := by decide +kernel
theorem dX4_voltage_28 : decode cX4_voltage 28 = .ok (.aload_n 0, 1) := by decide +kernel
theorem dX4_voltage_29 : decode cX4_voltage 29 = .ok (.getfield 90, 3) := by decide +kernel
theorem dX4_voltage_32 : decode cX4_voltage 32 = .ok (.istore_n 2, 1) := by decide +kernel
theorem dX4_voltage_33 : decode cX4_voltage 33 = .ok (.aload_n 0, 1) := by decide +kernel
theorem dX4_voltage_34 : decode cX4_voltage 34 = .ok (.iload_n 1, 1) := by decide +kernel
theorem dX4_voltage_35 : decode cX4_voltage 35 = .ok (.putfield 90, 3) := by decide +kernel
theorem dX4_voltage_38 : decode cX4_voltage 38 = .ok (.iload_n 2, 1) := by decide +kernel
theorem dX4_voltage_39 : decode cX4_voltage 39 = .ok (.ireturn, 1) := by decide +kernel
theorem dX4_currentAt_0 : decode cX4_currentAt 0 = .ok (.lconst 0, 1) := by decide +kernel
theorem dX4_currentAt_1 : decode cX4_currentAt 1 = .ok (.lstore_n 2, 1) := by decide +kernel
theorem dX4_currentAt_2 : decode cX4_currentAt 2 = .ok (.iload_n 1, 1) := by decide +kernel
theorem dX4_currentAt_3 : decode cX4_currentAt 3 = .ok (.istore 4, 2) := by decide +kernel
theorem dX4_currentAt_5 : decode cX4_currentAt 5 = .ok (.iload 4, 2) := by decide +kernel
theorem dX4_currentAt_7 : decode cX4_currentAt 7 = .ok (.iconst (-1), 1) := by decide +kernel
theorem dX4_currentAt_8 : decode cX4_currentAt 8 = .ok (.if_icmp .eq 26, 3) := by decide +kernel
theorem dX4_currentAt_11 : decode cX4_currentAt 11 = .ok (.lload_n 2, 1) := by decide +kernel
theorem dX4_currentAt_12 : decode cX4_currentAt 12 = .ok (.aload_n 0, 1) := by decide +kernel
theorem dX4_currentAt_13 : decode cX4_currentAt 13 = .ok (.getfield 37, 3) := by decide +kernel
theorem dX4_currentAt_16 : decode cX4_currentAt 16 = .ok (.iload 4, 2) := by decide +kernel
theorem dX4_currentAt_18 : decode cX4_currentAt 18 = .ok (.iaload, 1) := by decide +kernel
theorem dX4_currentAt_19 : decode cX4_currentAt 19 = .ok (.i2l, 1) := by decide +kernel
theorem dX4_currentAt_20 : decode cX4_currentAt 20 = .ok (.ladd, 1) := by decide +kernel
theorem dX4_currentAt_21 : decode cX4_currentAt 21 = .ok (.lstore_n 2, 1) := by decide +kernel
theorem dX4_currentAt_22 : decode cX4_currentAt 22 = .ok (.aload_n 0, 1) := by decide +kernel
theorem dX4_currentAt_23 : decode cX4_currentAt 23 = .ok (.getfield 7, 3) := by decide +kernel
theorem dX4_currentAt_26 : decode cX4_currentAt 26 = .ok (.iload 4, 2) := by decide +kernel
theorem dX4_currentAt_28 : decode cX4_currentAt 28 = .ok (.iaload, 1) := by decide +kernel
theorem dX4_currentAt_29 : decode cX4_currentAt 29 = .ok (.istore 4, 2) := by decide +kernel
theorem dX4_currentAt_31 : decode cX4_currentAt 31 = .ok (.goto (-26), 3) := by decide +kernel
theorem dX4_currentAt_34 : decode cX4_currentAt 34 = .ok (.ldc2_w 93, 3) := by decide +kernel
theorem dX4_currentAt_37 : decode cX4_currentAt 37 = .ok (.aload_n 0, 1) := by decide +kernel
theorem dX4_currentAt_38 : decode cX4_currentAt 38 = .ok (.getfield 90, 3) := by decide +kernel
theorem dX4_currentAt_41 : decode cX4_currentAt 41 = .ok (.i2l, 1) := by decide +kernel
theorem dX4_currentAt_42 : decode cX4_currentAt 42 = .ok (.lmul, 1) := by decide +kernel
theorem dX4_currentAt_43 : decode cX4_currentAt 43 = .ok (.lload_n 2, 1) := by decide +kernel
theorem dX4_currentAt_44 : decode cX4_currentAt 44 = .ok (.ldiv, 1) := by decide +kernel
theorem dX4_currentAt_45 : decode cX4_currentAt 45 = .ok (.lstore 4, 2) := by decide +kernel
theorem dX4_currentAt_47 : decode cX4_currentAt 47 = .ok (.lload 4, 2) := by decide +kernel
theorem dX4_currentAt_49 : decode cX4_currentAt 49 = .ok (.ldc2_w 95, 3) := by decide +kernel
theorem dX4_currentAt_52 : decode cX4_currentAt 52 = .ok (.lcmp, 1) := by decide +kernel
theorem dX4_currentAt_53 : decode cX4_currentAt 53 = .ok (.ifCond .le 9, 3) := by decide +kernel
theorem dX4_currentAt_56 : decode cX4_currentAt 56 = .ok (.sipush 5000, 3) := by decide +kernel
theorem dX4_currentAt_59 : decode cX4_currentAt 59 = .ok (.goto 6, 3) := by decide +kernel
theorem dX4_currentAt_62 : decode cX4_currentAt 62 = .ok (.lload 4, 2) := by decide +kernel
theorem dX4_currentAt_64 : decode cX4_currentAt 64 = .ok (.l2i, 1) := by decide +kernel
theorem dX4_currentAt_65 : decode cX4_currentAt 65 = .ok (.ireturn, 1) := by decide +kernel
theorem dX4_shortAt_0 : decode cX4_shortAt 0 = .ok (.aload_n 0, 1) := by decide +kernel
theorem dX4_shortAt_1 : decode cX4_shortAt 1 = .ok (.aload_n 0, 1) := by decide +kernel
theorem dX4_shortAt_2 : decode cX4_shortAt 2 = .ok (.iload_n 1, 1) := by decide +kernel
theorem dX4_shortAt_3 : decode cX4_shortAt 3 = .ok (.invokevirtual 57, 3) := by decide +kernel
theorem dX4_shortAt_6 : decode cX4_shortAt 6 = .ok (.ifCond .eq 7, 3) := by decide +kernel
theorem dX4_shortAt_9 : decode cX4_shortAt 9 = .ok (.iconst 0, 1) := by decide +kernel
theorem dX4_shortAt_10 : decode cX4_shortAt 10 = .ok (.goto 4, 3) := by decide +kernel
theorem dX4_shortAt_13 : decode cX4_shortAt 13 = .ok (.iconst 1, 1) := by decide +kernel
theorem dX4_shortAt_14 : decode cX4_shortAt 14 = .ok (.putfield 46, 3) := by decide +kernel
theorem dX4_shortAt_17 : decode cX4_shortAt 17 = .ok (.aload_n 0, 1) := by decide +kernel
theorem dX4_shortAt_18 : decode cX4_shortAt 18 = .ok (.getfield 46, 3) := by decide +kernel
theorem dX4_shortAt_21 : decode cX4_shortAt 21 = .ok (.ifCond .le 7, 3) := by decide +kernel
theorem dX4_shortAt_24 : decode cX4_shortAt 24 = .ok (.iconst 0, 1) := by decide +kernel
theorem dX4_shortAt_25 : decode cX4_shortAt 25 = .ok (.goto 8, 3) := by decide +kernel
theorem dX4_shortAt_28 : decode cX4_shortAt 28 = .ok (.aload_n 0, 1) := by decide +kernel
theorem dX4_shortAt_29 : decode cX4_shortAt 29 = .ok (.iload_n 1, 1) := by decide +kernel
theorem dX4_shortAt_30 : decode cX4_shortAt 30 = .ok (.invokevirtual 97, 3) := by decide +kernel
theorem dX4_shortAt_33 : decode cX4_shortAt 33 = .ok (.ireturn, 1) := by decide +kernel
theorem dX4_isFirst_0 : decode cX4_isFirst 0 = .ok (.iconst 1, 1) := by decide +kernel
theorem dX4_isFirst_1 : decode cX4_isFirst 1 = .ok (.istore 4, 2) := by decide +kernel
theorem dX4_isFirst_3 : decode cX4_isFirst 3 = .ok (.iload_n 2, 1) := by decide +kernel
theorem dX4_isFirst_4 : decode cX4_isFirst 4 = .ok (.istore 5, 2) := by decide +kernel
theorem dX4_isFirst_6 : decode cX4_isFirst 6 = .ok (.iload 5, 2) := by decide +kernel
theorem dX4_isFirst_8 : decode cX4_isFirst 8 = .ok (.iconst (-1), 1) := by decide +kernel
theorem dX4_isFirst_9 : decode cX4_isFirst 9 = .ok (.if_icmp .eq 102, 3) := by decide +kernel
theorem dX4_isFirst_12 : decode cX4_isFirst 12 = .ok (.iload 4, 2) := by decide +kernel
theorem dX4_isFirst_14 : decode cX4_isFirst 14 = .ok (.ifCond .eq 97, 3) := by decide +kernel
theorem dX4_isFirst_17 : decode cX4_isFirst 17 = .ok (.aload_n 0, 1) := by decide +kernel
theorem dX4_isFirst_18 : decode cX4_isFirst 18 = .ok (.iload 5, 2) := by decide +kernel
theorem dX4_isFirst_20 : decode cX4_isFirst 20 = .ok (.aload_n 0, 1) := by decide +kernel
theorem dX4_isFirst_21 : decode cX4_isFirst 21 = .ok (.getfield 34, 3) := by decide +kernel
theorem dX4_isFirst_24 : decode cX4_isFirst 24 = .ok (.iload 5, 2) := by decide +kernel
theorem dX4_isFirst_26 : decode cX4_isFirst 26 = .ok (.iaload, 1) := by decide +kernel
theorem dX4_isFirst_27 : decode cX4_isFirst 27 = .ok (.iload_n 3, 1) := by decide +kernel
theorem dX4_isFirst_28 : decode cX4_isFirst 28 = .ok (.invokevirtual 71, 3) := by decide +kernel
theorem dX4_isFirst_31 : decode cX4_isFirst 31 = .ok (.ifCond .eq 68, 3) := by decide +kernel
theorem dX4_isFirst_34 : decode cX4_isFirst 34 = .ok (.aload_n 0, 1) := by decide +kernel
theorem dX4_isFirst_35 : decode cX4_isFirst 35 = .ok (.iload 5, 2) := by decide +kernel
theorem dX4_isFirst_37 : decode cX4_isFirst 37 = .ok (.aload_n 0, 1) := by decide +kernel
theorem dX4_isFirst_38 : decode cX4_isFirst 38 = .ok (.getfield 34, 3) := by decide +kernel
theorem dX4_isFirst_41 : decode cX4_isFirst 41 = .ok (.iload 5, 2) := by decide +kernel
theorem dX4_isFirst_43 : decode cX4_isFirst 43 = .ok (.iaload, 1) := by decide +kernel
theorem dX4_isFirst_44 : decode cX4_isFirst 44 = .ok (.iload_n 3, 1) := by decide +kernel
theorem dX4_isFirst_45 : decode cX4_isFirst 45 = .ok (.iconst 1, 1) := by decide +kernel
theorem dX4_isFirst_46 : decode cX4_isFirst 46 = .ok (.invokevirtual 74, 3) := by decide +kernel
theorem dX4_isFirst_49 : decode cX4_isFirst 49 = .ok (.aload_n 0, 1) := by decide +kernel
theorem dX4_isFirst_50 : decode cX4_isFirst 50 = .ok (.getfield 64, 3) := by decide +kernel
theorem dX4_isFirst_53 : decode cX4_isFirst 53 = .ok (.lstore 6, 2) := by decide +kernel
theorem dX4_isFirst_55 : decode cX4_isFirst 55 = .ok (.aload_n 0, 1) := by decide +kernel
theorem dX4_isFirst_56 : decode cX4_isFirst 56 = .ok (.getfield 68, 3) := by decide +kernel
theorem dX4_isFirst_59 : decode cX4_isFirst 59 = .ok (.lstore 8, 2) := by decide +kernel
theorem dX4_isFirst_61 : decode cX4_isFirst 61 = .ok (.aload_n 0, 1) := by decide +kernel
theorem dX4_isFirst_62 : decode cX4_isFirst 62 = .ok (.iload_n 1, 1) := by decide +kernel
theorem dX4_isFirst_63 : decode cX4_isFirst 63 = .ok (.aload_n 0, 1) := by decide +kernel
theorem dX4_isFirst_64 : decode cX4_isFirst 64 = .ok (.getfield 34, 3) := by decide +kernel
theorem dX4_isFirst_67 : decode cX4_isFirst 67 = .ok (.iload_n 1, 1) := by decide +kernel
theorem dX4_isFirst_68 : decode cX4_isFirst 68 = .ok (.iaload, 1) := by decide +kernel
theorem dX4_isFirst_69 : decode cX4_isFirst 69 = .ok (.iload_n 3, 1) := by decide +kernel
theorem dX4_isFirst_70 : decode cX4_isFirst 70 = .ok (.iconst 0, 1) := by decide +kernel
theorem dX4_isFirst_71 : decode cX4_isFirst 71 = .ok (.invokevirtual 74, 3) := by decide +kernel
theorem dX4_isFirst_74 : decode cX4_isFirst 74 = .ok (.aload_n 0, 1) := by decide +kernel
theorem dX4_isFirst_75 : decode cX4_isFirst 75 = .ok (.getfield 64, 3) := by decide +kernel
theorem dX4_isFirst_78 : decode cX4_isFirst 78 = .ok (.lload 8, 2) := by decide +kernel
theorem dX4_isFirst_80 : decode cX4_isFirst 80 = .ok (.lmul, 1) := by decide +kernel
theorem dX4_isFirst_81 : decode cX4_isFirst 81 = .ok (.lload 6, 2) := by decide +kernel
theorem dX4_isFirst_83 : decode cX4_isFirst 83 = .ok (.aload_n 0, 1) := by decide +kernel
theorem dX4_isFirst_84 : decode cX4_isFirst 84 = .ok (.getfield 68, 3) := by decide +kernel
theorem dX4_isFirst_87 : decode cX4_isFirst 87 = .ok (.lmul, 1) := by decide +kernel
theorem dX4_isFirst_88 : decode cX4_isFirst 88 = .ok (.lcmp, 1) := by decide +kernel
theorem dX4_isFirst_89 : decode cX4_isFirst 89 = .ok (.ifCond .gt 7, 3) := by decide +kernel
theorem dX4_isFirst_92 : decode cX4_isFirst 92 = .ok (.iconst 1, 1) := by decide +kernel
theorem dX4_isFirst_93 : decode cX4_isFirst 93 = .ok (.goto 4, 3) := by decide +kernel
theorem dX4_isFirst_96 : decode cX4_isFirst 96 = .ok (.iconst 0, 1) := by decide +kernel
theorem dX4_isFirst_97 : decode cX4_isFirst 97 = .ok (.istore 4, 2) := by decide +kernel
theorem dX4_isFirst_99 : decode cX4_isFirst 99 = .ok (.aload_n 0, 1) := by decide +kernel
theorem dX4_isFirst_100 : decode cX4_isFirst 100 = .ok (.getfield 7, 3) := by decide +kernel
theorem dX4_isFirst_103 : decode cX4_isFirst 103 = .ok (.iload 5, 2) := by decide +kernel
theorem dX4_isFirst_105 : decode cX4_isFirst 105 = .ok (.iaload, 1) := by decide +kernel
theorem dX4_isFirst_106 : decode cX4_isFirst 106 = .ok (.istore 5, 2) := by decide +kernel
theorem dX4_isFirst_108 : decode cX4_isFirst 108 = .ok (.goto (-102), 3) := by decide +kernel
theorem dX4_isFirst_111 : decode cX4_isFirst 111 = .ok (.iload 4, 2) := by decide +kernel
theorem dX4_isFirst_113 : decode cX4_isFirst 113 = .ok (.ireturn, 1) := by decide +kernel
theorem dX4_opens_0 : decode cX4_opens 0 = .ok (.aload_n 0, 1) := by decide +kernel
theorem dX4_opens_1 : decode cX4_opens 1 = .ok (.aload_n 0, 1) := by decide +kernel
theorem dX4_opens_2 : decode cX4_opens 2 = .ok (.iload_n 1, 1) := by decide +kernel
theorem dX4_opens_3 : decode cX4_opens 3 = .ok (.invokevirtual 57, 3) := by decide +kernel
theorem dX4_opens_6 : decode cX4_opens 6 = .ok (.ifCond .eq 11, 3) := by decide +kernel
theorem dX4_opens_9 : decode cX4_opens 9 = .ok (.iload_n 2, 1) := by decide +kernel
theorem dX4_opens_10 : decode cX4_opens 10 = .ok (.ifCond .lt 7, 3) := by decide +kernel
theorem dX4_opens_13 : decode cX4_opens 13 = .ok (.iconst 0, 1) := by decide +kernel
theorem dX4_opens_14 : decode cX4_opens 14 = .ok (.goto 4, 3) := by decide +kernel
theorem dX4_opens_17 : decode cX4_opens 17 = .ok (.iconst 1, 1) := by decide +kernel
theorem dX4_opens_18 : decode cX4_opens 18 = .ok (.putfield 46, 3) := by decide +kernel
theorem dX4_opens_21 : decode cX4_opens 21 = .ok (.aload_n 0, 1) := by decide +kernel
theorem dX4_opens_22 : decode cX4_opens 22 = .ok (.getfield 46, 3) := by decide +kernel
theorem dX4_opens_25 : decode cX4_opens 25 = .ok (.ifCond .le 5, 3) := by decide +kernel
theorem dX4_opens_28 : decode cX4_opens 28 = .ok (.iconst 0, 1) := by decide +kernel
theorem dX4_opens_29 : decode cX4_opens 29 = .ok (.ireturn, 1) := by decide +kernel
theorem dX4_opens_30 : decode cX4_opens 30 = .ok (.aload_n 0, 1) := by decide +kernel
theorem dX4_opens_31 : decode cX4_opens 31 = .ok (.iload_n 1, 1) := by decide +kernel
theorem dX4_opens_32 : decode cX4_opens 32 = .ok (.invokevirtual 97, 3) := by decide +kernel
theorem dX4_opens_35 : decode cX4_opens 35 = .ok (.istore_n 3, 1) := by decide +kernel
theorem dX4_opens_36 : decode cX4_opens 36 = .ok (.iconst 0, 1) := by decide +kernel
theorem dX4_opens_37 : decode cX4_opens 37 = .ok (.istore 4, 2) := by decide +kernel
theorem dX4_opens_39 : decode cX4_opens 39 = .ok (.iload_n 1, 1) := by decide +kernel
theorem dX4_opens_40 : decode cX4_opens 40 = .ok (.istore 5, 2) := by decide +kernel
theorem dX4_opens_42 : decode cX4_opens 42 = .ok (.iload 5, 2) := by decide +kernel
theorem dX4_opens_44 : decode cX4_opens 44 = .ok (.iconst (-1), 1) := by decide +kernel
theorem dX4_opens_45 : decode cX4_opens 45 = .ok (.if_icmp .eq 55, 3) := by decide +kernel
theorem dX4_opens_48 : decode cX4_opens 48 = .ok (.aload_n 0, 1) := by decide +kernel
theorem dX4_opens_49 : decode cX4_opens 49 = .ok (.iload 5, 2) := by decide +kernel
theorem dX4_opens_51 : decode cX4_opens 51 = .ok (.aload_n 0, 1) := by decide +kernel
theorem dX4_opens_52 : decode cX4_opens 52 = .ok (.getfield 34, 3) := by decide +kernel
theorem dX4_opens_55 : decode cX4_opens 55 = .ok (.iload 5, 2) := by decide +kernel
theorem dX4_opens_57 : decode cX4_opens 57 = .ok (.iaload, 1) := by decide +kernel
theorem dX4_opens_58 : decode cX4_opens 58 = .ok (.iload_n 3, 1) := by decide +kernel
theorem dX4_opens_59 : decode cX4_opens 59 = .ok (.invokevirtual 71, 3) := by decide +kernel
theorem dX4_opens_62 : decode cX4_opens 62 = .ok (.ifCond .eq 26, 3) := by decide +kernel
theorem dX4_opens_65 : decode cX4_opens 65 = .ok (.aload_n 0, 1) := by decide +kernel
theorem dX4_opens_66 : decode cX4_opens 66 = .ok (.iload 5, 2) := by decide +kernel
theorem dX4_opens_68 : decode cX4_opens 68 = .ok (.iload_n 1, 1) := by decide +kernel
theorem dX4_opens_69 : decode cX4_opens 69 = .ok (.iload_n 3, 1) := by decide +kernel
theorem dX4_opens_70 : decode cX4_opens 70 = .ok (.invokevirtual 101, 3) := by decide +kernel
theorem dX4_opens_73 : decode cX4_opens 73 = .ok (.ifCond .eq 15, 3) := by decide +kernel
theorem dX4_opens_76 : decode cX4_opens 76 = .ok (.iload 4, 2) := by decide +kernel
theorem dX4_opens_78 : decode cX4_opens 78 = .ok (.iload_n 2, 1) := by decide +kernel
theorem dX4_opens_79 : decode cX4_opens 79 = .ok (.if_icmp .ne 6, 3) := by decide +kernel
theorem dX4_opens_82 : decode cX4_opens 82 = .ok (.iload 5, 2) := by decide +kernel
theorem dX4_opens_84 : decode cX4_opens 84 = .ok (.ireturn, 1) := by decide +kernel
theorem dX4_opens_85 : decode cX4_opens 85 = .ok (.iinc 4 1, 3) := by decide +kernel
theorem dX4_opens_88 : decode cX4_opens 88 = .ok (.aload_n 0, 1) := by decide +kernel
theorem dX4_opens_89 : decode cX4_opens 89 = .ok (.getfield 7, 3) := by decide +kernel
theorem dX4_opens_92 : decode cX4_opens 92 = .ok (.iload 5, 2) := by decide +kernel
theorem dX4_opens_94 : decode cX4_opens 94 = .ok (.iaload, 1) := by decide +kernel
theorem dX4_opens_95 : decode cX4_opens 95 = .ok (.istore 5, 2) := by decide +kernel
theorem dX4_opens_97 : decode cX4_opens 97 = .ok (.goto (-55), 3) := by decide +kernel
theorem dX4_opens_100 : decode cX4_opens 100 = .ok (.iconst (-1), 1) := by decide +kernel
theorem dX4_opens_101 : decode cX4_opens 101 = .ok (.ireturn, 1) := by decide +kernel
