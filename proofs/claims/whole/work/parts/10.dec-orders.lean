theorem dX3_init_0 : decode cX3_init 0 = .ok (.aload_n 0, 1) := by decide +kernel
theorem dX3_init_1 : decode cX3_init 1 = .ok (.invokespecial 3, 3) := by decide +kernel
theorem dX3_init_4 : decode cX3_init 4 = .ok (.aload_n 0, 1) := by decide +kernel
theorem dX3_init_5 : decode cX3_init 5 = .ok (.bipush 8, 2) := by decide +kernel
theorem dX3_init_7 : decode cX3_init 7 = .ok (.anewarray 9, 3) := by decide +kernel
theorem dX3_init_10 : decode cX3_init 10 = .ok (.putfield 11, 3) := by decide +kernel
theorem dX3_init_13 : decode cX3_init 13 = .ok (.aload_n 0, 1) := by decide +kernel
theorem dX3_init_14 : decode cX3_init 14 = .ok (.iconst 0, 1) := by decide +kernel
theorem dX3_init_15 : decode cX3_init 15 = .ok (.putfield 15, 3) := by decide +kernel
theorem dX3_init_18 : decode cX3_init 18 = .ok (.aload_n 0, 1) := by decide +kernel
theorem dX3_init_19 : decode cX3_init 19 = .ok (.iconst 0, 1) := by decide +kernel
theorem dX3_init_20 : decode cX3_init 20 = .ok (.putfield 19, 3) := by decide +kernel
theorem dX3_init_23 : decode cX3_init 23 = .ok (.iconst 0, 1) := by decide +kernel
theorem dX3_init_24 : decode cX3_init 24 = .ok (.istore_n 1, 1) := by decide +kernel
theorem dX3_init_25 : decode cX3_init 25 = .ok (.iload_n 1, 1) := by decide +kernel
theorem dX3_init_26 : decode cX3_init 26 = .ok (.bipush 8, 2) := by decide +kernel
theorem dX3_init_28 : decode cX3_init 28 = .ok (.if_icmp .ge 23, 3) := by decide +kernel
theorem dX3_init_31 : decode cX3_init 31 = .ok (.aload_n 0, 1) := by decide +kernel
theorem dX3_init_32 : decode cX3_init 32 = .ok (.getfield 11, 3) := by decide +kernel
theorem dX3_init_35 : decode cX3_init 35 = .ok (.iload_n 1, 1) := by decide +kernel
theorem dX3_init_36 : decode cX3_init 36 = .ok (.new 9, 3) := by decide +kernel
theorem dX3_init_39 : decode cX3_init 39 = .ok (.dup, 1) := by decide +kernel
theorem dX3_init_40 : decode cX3_init 40 = .ok (.iload_n 1, 1) := by decide +kernel
theorem dX3_init_41 : decode cX3_init 41 = .ok (.invokespecial 22, 3) := by decide +kernel
theorem dX3_init_44 : decode cX3_init 44 = .ok (.aastore, 1) := by decide +kernel
theorem dX3_init_45 : decode cX3_init 45 = .ok (.iinc 1 1, 3) := by decide +kernel
theorem dX3_init_48 : decode cX3_init 48 = .ok (.goto (-23), 3) := by decide +kernel
theorem dX3_init_51 : decode cX3_init 51 = .ok (.return_, 1) := by decide +kernel
theorem dX3_device_0 : decode cX3_device 0 = .ok (.iload_n 1, 1) := by decide +kernel
theorem dX3_device_1 : decode cX3_device 1 = .ok (.iconst (-1), 1) := by decide +kernel
theorem dX3_device_2 : decode cX3_device 2 = .ok (.if_icmp .ne 7, 3) := by decide +kernel
theorem dX3_device_5 : decode cX3_device 5 = .ok (.aconst_null, 1) := by decide +kernel
theorem dX3_device_6 : decode cX3_device 6 = .ok (.goto 8, 3) := by decide +kernel
theorem dX3_device_9 : decode cX3_device 9 = .ok (.aload_n 0, 1) := by decide +kernel
theorem dX3_device_10 : decode cX3_device 10 = .ok (.iload_n 1, 1) := by decide +kernel
theorem dX3_device_11 : decode cX3_device 11 = .ok (.invokevirtual 25, 3) := by decide +kernel
theorem dX3_device_14 : decode cX3_device 14 = .ok (.astore_n 2, 1) := by decide +kernel
theorem dX3_device_15 : decode cX3_device 15 = .ok (.aload_n 0, 1) := by decide +kernel
theorem dX3_device_16 : decode cX3_device 16 = .ok (.getfield 15, 3) := by decide +kernel
theorem dX3_device_19 : decode cX3_device 19 = .ok (.bipush 8, 2) := by decide +kernel
theorem dX3_device_21 : decode cX3_device 21 = .ok (.if_icmp .lt 13, 3) := by decide +kernel
theorem dX3_device_24 : decode cX3_device 24 = .ok (.new 29, 3) := by decide +kernel
theorem dX3_device_27 : decode cX3_device 27 = .ok (.dup, 1) := by decide +kernel
theorem dX3_device_28 : decode cX3_device 28 = .ok (.ldc 31, 2) := by decide +kernel
theorem dX3_device_30 : decode cX3_device 30 = .ok (.invokespecial 33, 3) := by decide +kernel
theorem dX3_device_33 : decode cX3_device 33 = .ok (.athrow, 1) := by decide +kernel
theorem dX3_device_34 : decode cX3_device 34 = .ok (.aload_n 0, 1) := by decide +kernel
theorem dX3_device_35 : decode cX3_device 35 = .ok (.getfield 11, 3) := by decide +kernel
theorem dX3_device_38 : decode cX3_device 38 = .ok (.aload_n 0, 1) := by decide +kernel
theorem dX3_device_39 : decode cX3_device 39 = .ok (.getfield 15, 3) := by decide +kernel
theorem dX3_device_42 : decode cX3_device 42 = .ok (.aaload, 1) := by decide +kernel
theorem dX3_device_43 : decode cX3_device 43 = .ok (.astore_n 3, 1) := by decide +kernel
theorem dX3_device_44 : decode cX3_device 44 = .ok (.aload_n 3, 1) := by decide +kernel
theorem dX3_device_45 : decode cX3_device 45 = .ok (.aload_n 2, 1) := by decide +kernel
theorem dX3_device_46 : decode cX3_device 46 = .ok (.putfield 36, 3) := by decide +kernel
theorem dX3_device_49 : decode cX3_device 49 = .ok (.aload_n 0, 1) := by decide +kernel
theorem dX3_device_50 : decode cX3_device 50 = .ok (.dup, 1) := by decide +kernel
theorem dX3_device_51 : decode cX3_device 51 = .ok (.getfield 15, 3) := by decide +kernel
theorem dX3_device_54 : decode cX3_device 54 = .ok (.iconst 1, 1) := by decide +kernel
theorem dX3_device_55 : decode cX3_device 55 = .ok (.iadd, 1) := by decide +kernel
theorem dX3_device_56 : decode cX3_device 56 = .ok (.putfield 15, 3) := by decide +kernel
theorem dX3_device_59 : decode cX3_device 59 = .ok (.aload_n 3, 1) := by decide +kernel
theorem dX3_device_60 : decode cX3_device 60 = .ok (.getfield 40, 3) := by decide +kernel
theorem dX3_device_63 : decode cX3_device 63 = .ok (.ireturn, 1) := by decide +kernel
theorem dX3_point_0 : decode cX3_point 0 = .ok (.aload_n 0, 1) := by decide +kernel
theorem dX3_point_1 : decode cX3_point 1 = .ok (.iload_n 1, 1) := by decide +kernel
theorem dX3_point_2 : decode cX3_point 2 = .ok (.invokevirtual 25, 3) := by decide +kernel
theorem dX3_point_5 : decode cX3_point 5 = .ok (.getfield 43, 3) := by decide +kernel
theorem dX3_point_8 : decode cX3_point 8 = .ok (.astore 5, 2) := by decide +kernel
theorem dX3_point_10 : decode cX3_point 10 = .ok (.iload_n 2, 1) := by decide +kernel
theorem dX3_point_11 : decode cX3_point 11 = .ok (.iconst 1, 1) := by decide +kernel
theorem dX3_point_12 : decode cX3_point 12 = .ok (.sipush 5000, 3) := by decide +kernel
theorem dX3_point_15 : decode cX3_point 15 = .ok (.invokestatic 47, 3) := by decide +kernel
theorem dX3_point_18 : decode cX3_point 18 = .ok (.iload 4, 2) := by decide +kernel
theorem dX3_point_20 : decode cX3_point 20 = .ok (.iconst 0, 1) := by decide +kernel
theorem dX3_point_21 : decode cX3_point 21 = .ok (.ldc 51, 2) := by decide +kernel
theorem dX3_point_23 : decode cX3_point 23 = .ok (.invokestatic 47, 3) := by decide +kernel
theorem dX3_point_26 : decode cX3_point 26 = .ok (.iload_n 3, 1) := by decide +kernel
theorem dX3_point_27 : decode cX3_point 27 = .ok (.iconst 0, 1) := by decide +kernel
theorem dX3_point_28 : decode cX3_point 28 = .ok (.iload 4, 2) := by decide +kernel
theorem dX3_point_30 : decode cX3_point 30 = .ok (.invokestatic 47, 3) := by decide +kernel
theorem dX3_point_33 : decode cX3_point 33 = .ok (.aload 5, 2) := by decide +kernel
theorem dX3_point_35 : decode cX3_point 35 = .ok (.getfield 52, 3) := by decide +kernel
theorem dX3_point_38 : decode cX3_point 38 = .ok (.bipush 6, 2) := by decide +kernel
theorem dX3_point_40 : decode cX3_point 40 = .ok (.if_icmp .lt 13, 3) := by decide +kernel
theorem dX3_point_43 : decode cX3_point 43 = .ok (.new 29, 3) := by decide +kernel
theorem dX3_point_46 : decode cX3_point 46 = .ok (.dup, 1) := by decide +kernel
theorem dX3_point_47 : decode cX3_point 47 = .ok (.ldc 57, 2) := by decide +kernel
theorem dX3_point_49 : decode cX3_point 49 = .ok (.invokespecial 33, 3) := by decide +kernel
theorem dX3_point_52 : decode cX3_point 52 = .ok (.athrow, 1) := by decide +kernel
theorem dX3_point_53 : decode cX3_point 53 = .ok (.aload 5, 2) := by decide +kernel
theorem dX3_point_55 : decode cX3_point 55 = .ok (.getfield 52, 3) := by decide +kernel
theorem dX3_point_58 : decode cX3_point 58 = .ok (.ifCond .le 30, 3) := by decide +kernel
theorem dX3_point_61 : decode cX3_point 61 = .ok (.aload 5, 2) := by decide +kernel
theorem dX3_point_63 : decode cX3_point 63 = .ok (.getfield 59, 3) := by decide +kernel
theorem dX3_point_66 : decode cX3_point 66 = .ok (.aload 5, 2) := by decide +kernel
theorem dX3_point_68 : decode cX3_point 68 = .ok (.getfield 52, 3) := by decide +kernel
theorem dX3_point_71 : decode cX3_point 71 = .ok (.iconst 1, 1) := by decide +kernel
theorem dX3_point_72 : decode cX3_point 72 = .ok (.isub, 1) := by decide +kernel
theorem dX3_point_73 : decode cX3_point 73 = .ok (.iaload, 1) := by decide +kernel
theorem dX3_point_74 : decode cX3_point 74 = .ok (.iload_n 2, 1) := by decide +kernel
theorem dX3_point_75 : decode cX3_point 75 = .ok (.if_icmp .lt 13, 3) := by decide +kernel
theorem dX3_point_78 : decode cX3_point 78 = .ok (.new 29, 3) := by decide +kernel
theorem dX3_point_81 : decode cX3_point 81 = .ok (.dup, 1) := by decide +kernel
theorem dX3_point_82 : decode cX3_point 82 = .ok (.ldc 63, 2) := by decide +kernel
theorem dX3_point_84 : decode cX3_point 84 = .ok (.invokespecial 33, 3) := by decide +kernel
theorem dX3_point_87 : decode cX3_point 87 = .ok (.athrow, 1) := by decide +kernel
theorem dX3_point_88 : decode cX3_point 88 = .ok (.aload 5, 2) := by decide +kernel
theorem dX3_point_90 : decode cX3_point 90 = .ok (.iload_n 2, 1) := by decide +kernel
theorem dX3_point_91 : decode cX3_point 91 = .ok (.iload_n 3, 1) := by decide +kernel
theorem dX3_point_92 : decode cX3_point 92 = .ok (.iload 4, 2) := by decide +kernel
theorem dX3_point_94 : decode cX3_point 94 = .ok (.invokevirtual 65, 3) := by decide +kernel
theorem dX3_point_97 : decode cX3_point 97 = .ok (.aload 5, 2) := by decide +kernel
theorem dX3_point_99 : decode cX3_point 99 = .ok (.getfield 52, 3) := by decide +kernel
theorem dX3_point_102 : decode cX3_point 102 = .ok (.ireturn, 1) := by decide +kernel
theorem dX3_option_0 : decode cX3_option 0 = .ok (.aload_n 0, 1) := by decide +kernel
theorem dX3_option_1 : decode cX3_option 1 = .ok (.iload_n 1, 1) := by decide +kernel
theorem dX3_option_2 : decode cX3_option 2 = .ok (.invokevirtual 25, 3) := by decide +kernel
theorem dX3_option_5 : decode cX3_option 5 = .ok (.astore 4, 2) := by decide +kernel
theorem dX3_option_7 : decode cX3_option 7 = .ok (.iload_n 2, 1) := by decide +kernel
theorem dX3_option_8 : decode cX3_option 8 = .ok (.bipush 10, 2) := by decide +kernel
theorem dX3_option_10 : decode cX3_option 10 = .ok (.sipush 1000, 3) := by decide +kernel
theorem dX3_option_13 : decode cX3_option 13 = .ok (.invokestatic 47, 3) := by decide +kernel
theorem dX3_option_16 : decode cX3_option 16 = .ok (.iload_n 3, 1) := by decide +kernel
theorem dX3_option_17 : decode cX3_option 17 = .ok (.iconst 0, 1) := by decide +kernel
theorem dX3_option_18 : decode cX3_option 18 = .ok (.sipush 10000, 3) := by decide +kernel
theorem dX3_option_21 : decode cX3_option 21 = .ok (.invokestatic 47, 3) := by decide +kernel
theorem dX3_option_24 : decode cX3_option 24 = .ok (.aload 4, 2) := by decide +kernel
theorem dX3_option_26 : decode cX3_option 26 = .ok (.getfield 68, 3) := by decide +kernel
theorem dX3_option_29 : decode cX3_option 29 = .ok (.iconst 4, 1) := by decide +kernel
theorem dX3_option_30 : decode cX3_option 30 = .ok (.if_icmp .lt 13, 3) := by decide +kernel
theorem dX3_option_33 : decode cX3_option 33 = .ok (.new 29, 3) := by decide +kernel
theorem dX3_option_36 : decode cX3_option 36 = .ok (.dup, 1) := by decide +kernel
theorem dX3_option_37 : decode cX3_option 37 = .ok (.ldc 71, 2) := by decide +kernel
theorem dX3_option_39 : decode cX3_option 39 = .ok (.invokespecial 33, 3) := by decide +kernel
theorem dX3_option_42 : decode cX3_option 42 = .ok (.athrow, 1) := by decide +kernel
theorem dX3_option_43 : decode cX3_option 43 = .ok (.aload 4, 2) := by decide +kernel
theorem dX3_option_45 : decode cX3_option 45 = .ok (.getfield 68, 3) := by decide +kernel
theorem dX3_option_48 : decode cX3_option 48 = .ok (.istore 5, 2) := by decide +kernel
theorem dX3_option_50 : decode cX3_option 50 = .ok (.aload 4, 2) := by decide +kernel
theorem dX3_option_52 : decode cX3_option 52 = .ok (.getfield 73, 3) := by decide +kernel
theorem dX3_option_55 : decode cX3_option 55 = .ok (.iload 5, 2) := by decide +kernel
theorem dX3_option_57 : decode cX3_option 57 = .ok (.aaload, 1) := by decide +kernel
theorem dX3_option_58 : decode cX3_option 58 = .ok (.iload_n 2, 1) := by decide +kernel
theorem dX3_option_59 : decode cX3_option 59 = .ok (.putfield 77, 3) := by decide +kernel
theorem dX3_option_62 : decode cX3_option 62 = .ok (.aload 4, 2) := by decide +kernel
theorem dX3_option_64 : decode cX3_option 64 = .ok (.getfield 73, 3) := by decide +kernel
theorem dX3_option_67 : decode cX3_option 67 = .ok (.iload 5, 2) := by decide +kernel
theorem dX3_option_69 : decode cX3_option 69 = .ok (.aaload, 1) := by decide +kernel
theorem dX3_option_70 : decode cX3_option 70 = .ok (.iload_n 3, 1) := by decide +kernel
theorem dX3_option_71 : decode cX3_option 71 = .ok (.putfield 82, 3) := by decide +kernel
theorem dX3_option_74 : decode cX3_option 74 = .ok (.aload 4, 2) := by decide +kernel
theorem dX3_option_76 : decode cX3_option 76 = .ok (.dup, 1) := by decide +kernel
theorem dX3_option_77 : decode cX3_option 77 = .ok (.getfield 68, 3) := by decide +kernel
theorem dX3_option_80 : decode cX3_option 80 = .ok (.iconst 1, 1) := by decide +kernel
theorem dX3_option_81 : decode cX3_option 81 = .ok (.iadd, 1) := by decide +kernel
theorem dX3_option_82 : decode cX3_option 82 = .ok (.putfield 68, 3) := by decide +kernel
theorem dX3_option_85 : decode cX3_option 85 = .ok (.iload 5, 2) := by decide +kernel
theorem dX3_option_87 : decode cX3_option 87 = .ok (.ireturn, 1) := by decide +kernel
theorem dX3_choose_0 : decode cX3_choose 0 = .ok (.aload_n 0, 1) := by decide +kernel
theorem dX3_choose_1 : decode cX3_choose 1 = .ok (.iload_n 1, 1) := by decide +kernel
theorem dX3_choose_2 : decode cX3_choose 2 = .ok (.invokevirtual 25, 3) := by decide +kernel
theorem dX3_choose_5 : decode cX3_choose 5 = .ok (.astore_n 3, 1) := by decide +kernel
theorem dX3_choose_6 : decode cX3_choose 6 = .ok (.iload_n 2, 1) := by decide +kernel
theorem dX3_choose_7 : decode cX3_choose 7 = .ok (.iconst 0, 1) := by decide +kernel
theorem dX3_choose_8 : decode cX3_choose 8 = .ok (.aload_n 3, 1) := by decide +kernel
theorem dX3_choose_9 : decode cX3_choose 9 = .ok (.getfield 68, 3) := by decide +kernel
theorem dX3_choose_12 : decode cX3_choose 12 = .ok (.iconst 1, 1) := by decide +kernel
theorem dX3_choose_13 : decode cX3_choose 13 = .ok (.isub, 1) := by decide +kernel
theorem dX3_choose_14 : decode cX3_choose 14 = .ok (.invokestatic 47, 3) := by decide +kernel
theorem dX3_choose_17 : decode cX3_choose 17 = .ok (.aload_n 3, 1) := by decide +kernel
theorem dX3_choose_18 : decode cX3_choose 18 = .ok (.getfield 85, 3) := by decide +kernel
theorem dX3_choose_21 : decode cX3_choose 21 = .ok (.istore 4, 2) := by decide +kernel
theorem dX3_choose_23 : decode cX3_choose 23 = .ok (.aload_n 3, 1) := by decide +kernel
theorem dX3_choose_24 : decode cX3_choose 24 = .ok (.iload_n 2, 1) := by decide +kernel
theorem dX3_choose_25 : decode cX3_choose 25 = .ok (.putfield 85, 3) := by decide +kernel
theorem dX3_choose_28 : decode cX3_choose 28 = .ok (.iload 4, 2) := by decide +kernel
theorem dX3_choose_30 : decode cX3_choose 30 = .ok (.ireturn, 1) := by decide +kernel
theorem dX3_time_0 : decode cX3_time 0 = .ok (.aload_n 0, 1) := by decide +kernel
theorem dX3_time_1 : decode cX3_time 1 = .ok (.iload_n 1, 1) := by decide +kernel
theorem dX3_time_2 : decode cX3_time 2 = .ok (.invokevirtual 25, 3) := by decide +kernel
theorem dX3_time_5 : decode cX3_time 5 = .ok (.invokevirtual 88, 3) := by decide +kernel
theorem dX3_time_8 : decode cX3_time 8 = .ok (.astore 4, 2) := by decide +kernel
theorem dX3_time_10 : decode cX3_time 10 = .ok (.iload_n 2, 1) := by decide +kernel
theorem dX3_time_11 : decode cX3_time 11 = .ok (.iconst 1, 1) := by decide +kernel
theorem dX3_time_12 : decode cX3_time 12 = .ok (.sipush 5000, 3) := by decide +kernel
theorem dX3_time_15 : decode cX3_time 15 = .ok (.invokestatic 47, 3) := by decide +kernel
theorem dX3_time_18 : decode cX3_time 18 = .ok (.aload 4, 2) := by decide +kernel
theorem dX3_time_20 : decode cX3_time 20 = .ok (.iload_n 2, 1) := by decide +kernel
theorem dX3_time_21 : decode cX3_time 21 = .ok (.invokevirtual 92, 3) := by decide +kernel
theorem dX3_time_24 : decode cX3_time 24 = .ok (.istore 5, 2) := by decide +kernel
theorem dX3_time_26 : decode cX3_time 26 = .ok (.iload 5, 2) := by decide +kernel
theorem dX3_time_28 : decode cX3_time 28 = .ok (.iconst (-1), 1) := by decide +kernel
theorem dX3_time_29 : decode cX3_time 29 = .ok (.if_icmp .ne 7, 3) := by decide +kernel
theorem dX3_time_32 : decode cX3_time 32 = .ok (.iconst (-1), 1) := by decide +kernel
theorem dX3_time_33 : decode cX3_time 33 = .ok (.goto 12, 3) := by decide +kernel
theorem dX3_time_36 : decode cX3_time 36 = .ok (.aload 4, 2) := by decide +kernel
theorem dX3_time_38 : decode cX3_time 38 = .ok (.iload 5, 2) := by decide +kernel
theorem dX3_time_40 : decode cX3_time 40 = .ok (.iload_n 2, 1) := by decide +kernel
theorem dX3_time_41 : decode cX3_time 41 = .ok (.iload_n 3, 1) := by decide +kernel
theorem dX3_time_42 : decode cX3_time 42 = .ok (.invokevirtual 96, 3) := by decide +kernel
theorem dX3_time_45 : decode cX3_time 45 = .ok (.ireturn, 1) := by decide +kernel
theorem dX3_opensFrom_0 : decode cX3_opensFrom 0 = .ok (.aload_n 0, 1) := by decide +kernel
theorem dX3_opensFrom_1 : decode cX3_opensFrom 1 = .ok (.iload_n 1, 1) := by decide +kernel
theorem dX3_opensFrom_2 : decode cX3_opensFrom 2 = .ok (.invokevirtual 25, 3) := by decide +kernel
theorem dX3_opensFrom_5 : decode cX3_opensFrom 5 = .ok (.invokevirtual 88, 3) := by decide +kernel
theorem dX3_opensFrom_8 : decode cX3_opensFrom 8 = .ok (.iconst 0, 1) := by decide +kernel
theorem dX3_opensFrom_9 : decode cX3_opensFrom 9 = .ok (.invokevirtual 100, 3) := by decide +kernel
theorem dX3_opensFrom_12 : decode cX3_opensFrom 12 = .ok (.istore_n 2, 1) := by decide +kernel
theorem dX3_opensFrom_13 : decode cX3_opensFrom 13 = .ok (.iload_n 2, 1) := by decide +kernel
theorem dX3_opensFrom_14 : decode cX3_opensFrom 14 = .ok (.sipush 5000, 3) := by decide +kernel
theorem dX3_opensFrom_17 : decode cX3_opensFrom 17 = .ok (.if_icmp .le 7, 3) := by decide +kernel
theorem dX3_opensFrom_20 : decode cX3_opensFrom 20 = .ok (.iconst (-1), 1) := by decide +kernel
theorem dX3_opensFrom_21 : decode cX3_opensFrom 21 = .ok (.goto 4, 3) := by decide +kernel
theorem dX3_opensFrom_24 : decode cX3_opensFrom 24 = .ok (.iload_n 2, 1) := by decide +kernel
theorem dX3_opensFrom_25 : decode cX3_opensFrom 25 = .ok (.ireturn, 1) := by decide +kernel
theorem dX3_order_0 : decode cX3_order 0 = .ok (.iload_n 1, 1) := by decide +kernel
theorem dX3_order_1 : decode cX3_order 1 = .ok (.iload_n 2, 1) := by decide +kernel
theorem dX3_order_2 : decode cX3_order 2 = .ok (.iload_n 3, 1) := by decide +kernel
theorem dX3_order_3 : decode cX3_order 3 = .ok (.invokestatic 103, 3) := by decide +kernel
theorem dX3_order_6 : decode cX3_order 6 = .ok (.aload_n 0, 1) := by decide +kernel
theorem dX3_order_7 : decode cX3_order 7 = .ok (.iload_n 1, 1) := by decide +kernel
theorem dX3_order_8 : decode cX3_order 8 = .ok (.invokevirtual 25, 3) := by decide +kernel
theorem dX3_order_11 : decode cX3_order 11 = .ok (.invokevirtual 88, 3) := by decide +kernel
theorem dX3_order_14 : decode cX3_order 14 = .ok (.aload_n 0, 1) := by decide +kernel
theorem dX3_order_15 : decode cX3_order 15 = .ok (.iload_n 2, 1) := by decide +kernel
theorem dX3_order_16 : decode cX3_order 16 = .ok (.invokevirtual 25, 3) := by decide +kernel
theorem dX3_order_19 : decode cX3_order 19 = .ok (.invokevirtual 88, 3) := by decide +kernel
theorem dX3_order_22 : decode cX3_order 22 = .ok (.iload_n 3, 1) := by decide +kernel
theorem dX3_order_23 : decode cX3_order 23 = .ok (.invokestatic 106, 3) := by decide +kernel
theorem dX3_order_26 : decode cX3_order 26 = .ok (.ireturn, 1) := by decide +kernel
theorem dX3_broken_0 : decode cX3_broken 0 = .ok (.iload_n 1, 1) := by decide +kernel
theorem dX3_broken_1 : decode cX3_broken 1 = .ok (.iload_n 2, 1) := by decide +kernel
theorem dX3_broken_2 : decode cX3_broken 2 = .ok (.iload_n 3, 1) := by decide +kernel
theorem dX3_broken_3 : decode cX3_broken 3 = .ok (.invokestatic 103, 3) := by decide +kernel
theorem dX3_broken_6 : decode cX3_broken 6 = .ok (.aload_n 0, 1) := by decide +kernel
theorem dX3_broken_7 : decode cX3_broken 7 = .ok (.iload_n 1, 1) := by decide +kernel
theorem dX3_broken_8 : decode cX3_broken 8 = .ok (.invokevirtual 25, 3) := by decide +kernel
theorem dX3_broken_11 : decode cX3_broken 11 = .ok (.invokevirtual 88, 3) := by decide +kernel
theorem dX3_broken_14 : decode cX3_broken 14 = .ok (.aload_n 0, 1) := by decide +kernel
theorem dX3_broken_15 : decode cX3_broken 15 = .ok (.iload_n 2, 1) := by decide +kernel
theorem dX3_broken_16 : decode cX3_broken 16 = .ok (.invokevirtual 25, 3) := by decide +kernel
theorem dX3_broken_19 : decode cX3_broken 19 = .ok (.invokevirtual 88, 3) := by decide +kernel
theorem dX3_broken_22 : decode cX3_broken 22 = .ok (.iload_n 3, 1) := by decide +kernel
theorem dX3_broken_23 : decode cX3_broken 23 = .ok (.invokestatic 110, 3) := by decide +kernel
theorem dX3_broken_26 : decode cX3_broken 26 = .ok (.ireturn, 1) := by decide +kernel
theorem dX3_settle_0 : decode cX3_settle 0 = .ok (.iload_n 1, 1) := by decide +kernel
theorem dX3_settle_1 : decode cX3_settle 1 = .ok (.iconst 0, 1) := by decide +kernel
theorem dX3_settle_2 : decode cX3_settle 2 = .ok (.sipush 10000, 3) := by decide +kernel
theorem dX3_settle_5 : decode cX3_settle 5 = .ok (.invokestatic 47, 3) := by decide +kernel
theorem dX3_settle_8 : decode cX3_settle 8 = .ok (.iconst 0, 1) := by decide +kernel
theorem dX3_settle_9 : decode cX3_settle 9 = .ok (.istore_n 2, 1) := by decide +kernel
theorem dX3_settle_10 : decode cX3_settle 10 = .ok (.iload_n 2, 1) := by decide +kernel
theorem dX3_settle_11 : decode cX3_settle 11 = .ok (.aload_n 0, 1) := by decide +kernel
theorem dX3_settle_12 : decode cX3_settle 12 = .ok (.getfield 15, 3) := by decide +kernel
theorem dX3_settle_15 : decode cX3_settle 15 = .ok (.if_icmp .ge 18, 3) := by decide +kernel
theorem dX3_settle_18 : decode cX3_settle 18 = .ok (.aload_n 0, 1) := by decide +kernel
theorem dX3_settle_19 : decode cX3_settle 19 = .ok (.getfield 11, 3) := by decide +kernel
theorem dX3_settle_22 : decode cX3_settle 22 = .ok (.iload_n 2, 1) := by decide +kernel
theorem dX3_settle_23 : decode cX3_settle 23 = .ok (.aaload, 1) := by decide +kernel
theorem dX3_settle_24 : decode cX3_settle 24 = .ok (.invokevirtual 113, 3) := by decide +kernel
theorem dX3_settle_27 : decode cX3_settle 27 = .ok (.iinc 2 1, 3) := by decide +kernel
theorem dX3_settle_30 : decode cX3_settle 30 = .ok (.goto (-20), 3) := by decide +kernel
theorem dX3_settle_33 : decode cX3_settle 33 = .ok (.aload_n 0, 1) := by decide +kernel
theorem dX3_settle_34 : decode cX3_settle 34 = .ok (.getfield 15, 3) := by decide +kernel
theorem dX3_settle_37 : decode cX3_settle 37 = .ok (.iconst 1, 1) := by decide +kernel
theorem dX3_settle_38 : decode cX3_settle 38 = .ok (.isub, 1) := by decide +kernel
theorem dX3_settle_39 : decode cX3_settle 39 = .ok (.istore_n 2, 1) := by decide +kernel
theorem dX3_settle_40 : decode cX3_settle 40 = .ok (.iload_n 2, 1) := by decide +kernel
theorem dX3_settle_41 : decode cX3_settle 41 = .ok (.ifCond .lt 24, 3) := by decide +kernel
theorem dX3_settle_44 : decode cX3_settle 44 = .ok (.aload_n 0, 1) := by decide +kernel
theorem dX3_settle_45 : decode cX3_settle 45 = .ok (.getfield 11, 3) := by decide +kernel
theorem dX3_settle_48 : decode cX3_settle 48 = .ok (.iload_n 2, 1) := by decide +kernel
theorem dX3_settle_49 : decode cX3_settle 49 = .ok (.aaload, 1) := by decide +kernel
theorem dX3_settle_50 : decode cX3_settle 50 = .ok (.iload_n 1, 1) := by decide +kernel
theorem dX3_settle_51 : decode cX3_settle 51 = .ok (.invokestatic 116, 3) := by decide +kernel
theorem dX3_settle_54 : decode cX3_settle 54 = .ok (.ifCond .ne 5, 3) := by decide +kernel
theorem dX3_settle_57 : decode cX3_settle 57 = .ok (.iconst 0, 1) := by decide +kernel
theorem dX3_settle_58 : decode cX3_settle 58 = .ok (.ireturn, 1) := by decide +kernel
theorem dX3_settle_59 : decode cX3_settle 59 = .ok (.iinc 2 (-1), 3) := by decide +kernel
theorem dX3_settle_62 : decode cX3_settle 62 = .ok (.goto (-22), 3) := by decide +kernel
theorem dX3_settle_65 : decode cX3_settle 65 = .ok (.iconst 0, 1) := by decide +kernel
theorem dX3_settle_66 : decode cX3_settle 66 = .ok (.istore_n 2, 1) := by decide +kernel
theorem dX3_settle_67 : decode cX3_settle 67 = .ok (.iload_n 2, 1) := by decide +kernel
theorem dX3_settle_68 : decode cX3_settle 68 = .ok (.aload_n 0, 1) := by decide +kernel
theorem dX3_settle_69 : decode cX3_settle 69 = .ok (.getfield 15, 3) := by decide +kernel
theorem dX3_settle_72 : decode cX3_settle 72 = .ok (.if_icmp .ge 50, 3) := by decide +kernel
theorem dX3_settle_75 : decode cX3_settle 75 = .ok (.aload_n 0, 1) := by decide +kernel
theorem dX3_settle_76 : decode cX3_settle 76 = .ok (.getfield 11, 3) := by decide +kernel
theorem dX3_settle_79 : decode cX3_settle 79 = .ok (.iload_n 2, 1) := by decide +kernel
theorem dX3_settle_80 : decode cX3_settle 80 = .ok (.aaload, 1) := by decide +kernel
theorem dX3_settle_81 : decode cX3_settle 81 = .ok (.getfield 36, 3) := by decide +kernel
theorem dX3_settle_84 : decode cX3_settle 84 = .ok (.astore_n 3, 1) := by decide +kernel
theorem dX3_settle_85 : decode cX3_settle 85 = .ok (.aload_n 0, 1) := by decide +kernel
theorem dX3_settle_86 : decode cX3_settle 86 = .ok (.getfield 11, 3) := by decide +kernel
theorem dX3_settle_89 : decode cX3_settle 89 = .ok (.iload_n 2, 1) := by decide +kernel
theorem dX3_settle_90 : decode cX3_settle 90 = .ok (.aaload, 1) := by decide +kernel
theorem dX3_settle_91 : decode cX3_settle 91 = .ok (.aload_n 0, 1) := by decide +kernel
theorem dX3_settle_92 : decode cX3_settle 92 = .ok (.getfield 11, 3) := by decide +kernel
theorem dX3_settle_95 : decode cX3_settle 95 = .ok (.iload_n 2, 1) := by decide +kernel
theorem dX3_settle_96 : decode cX3_settle 96 = .ok (.aaload, 1) := by decide +kernel
theorem dX3_settle_97 : decode cX3_settle 97 = .ok (.getfield 120, 3) := by decide +kernel
theorem dX3_settle_100 : decode cX3_settle 100 = .ok (.aload_n 3, 1) := by decide +kernel
theorem dX3_settle_101 : decode cX3_settle 101 = .ok (.ifnonnull 7, 3) := by decide +kernel
theorem dX3_settle_104 : decode cX3_settle 104 = .ok (.iconst 0, 1) := by decide +kernel
theorem dX3_settle_105 : decode cX3_settle 105 = .ok (.goto 7, 3) := by decide +kernel
theorem dX3_settle_108 : decode cX3_settle 108 = .ok (.aload_n 3, 1) := by decide +kernel
theorem dX3_settle_109 : decode cX3_settle 109 = .ok (.getfield 85, 3) := by decide +kernel
theorem dX3_settle_112 : decode cX3_settle 112 = .ok (.iaload, 1) := by decide +kernel
theorem dX3_settle_113 : decode cX3_settle 113 = .ok (.putfield 85, 3) := by decide +kernel
theorem dX3_settle_116 : decode cX3_settle 116 = .ok (.iinc 2 1, 3) := by decide +kernel
theorem dX3_settle_119 : decode cX3_settle 119 = .ok (.goto (-52), 3) := by decide +kernel
theorem dX3_settle_122 : decode cX3_settle 122 = .ok (.iconst 1, 1) := by decide +kernel
theorem dX3_settle_123 : decode cX3_settle 123 = .ok (.ireturn, 1) := by decide +kernel
theorem dX3_chosen_0 : decode cX3_chosen 0 = .ok (.aload_n 0, 1) := by decide +kernel
theorem dX3_chosen_1 : decode cX3_chosen 1 = .ok (.iload_n 1, 1) := by decide +kernel
theorem dX3_chosen_2 : decode cX3_chosen 2 = .ok (.invokevirtual 25, 3) := by decide +kernel
theorem dX3_chosen_5 : decode cX3_chosen 5 = .ok (.getfield 85, 3) := by decide +kernel
theorem dX3_chosen_8 : decode cX3_chosen 8 = .ok (.ireturn, 1) := by decide +kernel
theorem dX3_impedance_0 : decode cX3_impedance 0 = .ok (.aload_n 0, 1) := by decide +kernel
theorem dX3_impedance_1 : decode cX3_impedance 1 = .ok (.iload_n 1, 1) := by decide +kernel
theorem dX3_impedance_2 : decode cX3_impedance 2 = .ok (.invokevirtual 25, 3) := by decide +kernel
theorem dX3_impedance_5 : decode cX3_impedance 5 = .ok (.astore_n 3, 1) := by decide +kernel
theorem dX3_impedance_6 : decode cX3_impedance 6 = .ok (.iload_n 2, 1) := by decide +kernel
theorem dX3_impedance_7 : decode cX3_impedance 7 = .ok (.iconst 1, 1) := by decide +kernel
theorem dX3_impedance_8 : decode cX3_impedance 8 = .ok (.sipush 10000, 3) := by decide +kernel
theorem dX3_impedance_11 : decode cX3_impedance 11 = .ok (.invokestatic 47, 3) := by decide +kernel
theorem dX3_impedance_14 : decode cX3_impedance 14 = .ok (.aload_n 3, 1) := by decide +kernel
theorem dX3_impedance_15 : decode cX3_impedance 15 = .ok (.getfield 123, 3) := by decide +kernel
theorem dX3_impedance_18 : decode cX3_impedance 18 = .ok (.istore 4, 2) := by decide +kernel
theorem dX3_impedance_20 : decode cX3_impedance 20 = .ok (.aload_n 3, 1) := by decide +kernel
theorem dX3_impedance_21 : decode cX3_impedance 21 = .ok (.iload_n 2, 1) := by decide +kernel
theorem dX3_impedance_22 : decode cX3_impedance 22 = .ok (.putfield 123, 3) := by decide +kernel
theorem dX3_impedance_25 : decode cX3_impedance 25 = .ok (.iload 4, 2) := by decide +kernel
theorem dX3_impedance_27 : decode cX3_impedance 27 = .ok (.ireturn, 1) := by decide +kernel
theorem dX3_voltage_0 : decode cX3_voltage 0 = .ok (.iload_n 1, 1) := by decide +kernel
theorem dX3_voltage_1 : decode cX3_voltage 1 = .ok (.iconst 0, 1) := by decide +kernel
theorem dX3_voltage_2 : decode cX3_voltage 2 = .ok (.ldc 126, 2) := by decide +kernel
theorem dX3_voltage_4 : decode cX3_voltage 4 = .ok (.invokestatic 47, 3) := by decide +kernel
theorem dX3_voltage_7 : decode cX3_voltage 7 = .ok (.aload_n 0, 1) := by decide +kernel
theorem dX3_voltage_8 : decode cX3_voltage 8 = .ok (.getfield 19, 3) := by decide +kernel
theorem dX3_voltage_11 : decode cX3_voltage 11 = .ok (.istore_n 2, 1) := by decide +kernel
theorem dX3_voltage_12 : decode cX3_voltage 12 = .ok (.aload_n 0, 1) := by decide +kernel
theorem dX3_voltage_13 : decode cX3_voltage 13 = .ok (.iload_n 1, 1) := by decide +kernel
theorem dX3_voltage_14 : decode cX3_voltage 14 = .ok (.putfield 19, 3) := by decide +kernel
theorem dX3_voltage_17 : decode cX3_voltage 17 = .ok (.iload_n 2, 1) := by decide +kernel
theorem dX3_voltage_18 : decode cX3_voltage 18 = .ok (.ireturn, 1) := by decide +kernel
theorem dX3_shortAt_0 : decode cX3_shortAt 0 = .ok (.aload_n 0, 1) := by decide +kernel
theorem dX3_shortAt_1 : decode cX3_shortAt 1 = .ok (.aload_n 0, 1) := by decide +kernel
theorem dX3_shortAt_2 : decode cX3_shortAt 2 = .ok (.iload_n 1, 1) := by decide +kernel
theorem dX3_shortAt_3 : decode cX3_shortAt 3 = .ok (.invokevirtual 25, 3) := by decide +kernel
theorem dX3_shortAt_6 : decode cX3_shortAt 6 = .ok (.invokevirtual 127, 3) := by decide +kernel
theorem dX3_shortAt_9 : decode cX3_shortAt 9 = .ok (.ireturn, 1) := by decide +kernel
theorem dX3_opens_0 : decode cX3_opens 0 = .ok (.aload_n 0, 1) := by decide +kernel
theorem dX3_opens_1 : decode cX3_opens 1 = .ok (.iload_n 1, 1) := by decide +kernel
theorem dX3_opens_2 : decode cX3_opens 2 = .ok (.invokevirtual 25, 3) := by decide +kernel
theorem dX3_opens_5 : decode cX3_opens 5 = .ok (.astore_n 3, 1) := by decide +kernel
theorem dX3_opens_6 : decode cX3_opens 6 = .ok (.iload_n 2, 1) := by decide +kernel
theorem dX3_opens_7 : decode cX3_opens 7 = .ok (.iconst 0, 1) := by decide +kernel
theorem dX3_opens_8 : decode cX3_opens 8 = .ok (.ldc 133, 2) := by decide +kernel
theorem dX3_opens_10 : decode cX3_opens 10 = .ok (.invokestatic 47, 3) := by decide +kernel
theorem dX3_opens_13 : decode cX3_opens 13 = .ok (.aload_n 0, 1) := by decide +kernel
theorem dX3_opens_14 : decode cX3_opens 14 = .ok (.aload_n 3, 1) := by decide +kernel
theorem dX3_opens_15 : decode cX3_opens 15 = .ok (.invokevirtual 127, 3) := by decide +kernel
theorem dX3_opens_18 : decode cX3_opens 18 = .ok (.istore 4, 2) := by decide +kernel
theorem dX3_opens_20 : decode cX3_opens 20 = .ok (.aload_n 3, 1) := by decide +kernel
theorem dX3_opens_21 : decode cX3_opens 21 = .ok (.iload 4, 2) := by decide +kernel
theorem dX3_opens_23 : decode cX3_opens 23 = .ok (.invokestatic 134, 3) := by decide +kernel
theorem dX3_opens_26 : decode cX3_opens 26 = .ok (.astore 5, 2) := by decide +kernel
theorem dX3_opens_28 : decode cX3_opens 28 = .ok (.aload 5, 2) := by decide +kernel
theorem dX3_opens_30 : decode cX3_opens 30 = .ok (.iload 4, 2) := by decide +kernel
theorem dX3_opens_32 : decode cX3_opens 32 = .ok (.invokevirtual 92, 3) := by decide +kernel
theorem dX3_opens_35 : decode cX3_opens 35 = .ok (.iconst (-1), 1) := by decide +kernel
theorem dX3_opens_36 : decode cX3_opens 36 = .ok (.if_icmp .ne 5, 3) := by decide +kernel
theorem dX3_opens_39 : decode cX3_opens 39 = .ok (.iconst (-1), 1) := by decide +kernel
theorem dX3_opens_40 : decode cX3_opens 40 = .ok (.ireturn, 1) := by decide +kernel
theorem dX3_opens_41 : decode cX3_opens 41 = .ok (.iload_n 2, 1) := by decide +kernel
theorem dX3_opens_42 : decode cX3_opens 42 = .ok (.istore 6, 2) := by decide +kernel
theorem dX3_opens_44 : decode cX3_opens 44 = .ok (.aload_n 3, 1) := by decide +kernel
theorem dX3_opens_45 : decode cX3_opens 45 = .ok (.astore 7, 2) := by decide +kernel
theorem dX3_opens_47 : decode cX3_opens 47 = .ok (.aload 7, 2) := by decide +kernel
theorem dX3_opens_49 : decode cX3_opens 49 = .ok (.ifnull 45, 3) := by decide +kernel
theorem dX3_opens_52 : decode cX3_opens 52 = .ok (.aload 7, 2) := by decide +kernel
theorem dX3_opens_54 : decode cX3_opens 54 = .ok (.invokevirtual 88, 3) := by decide +kernel
theorem dX3_opens_57 : decode cX3_opens 57 = .ok (.iconst 0, 1) := by decide +kernel
theorem dX3_opens_58 : decode cX3_opens 58 = .ok (.iconst 0, 1) := by decide +kernel
theorem dX3_opens_59 : decode cX3_opens 59 = .ok (.aload 5, 2) := by decide +kernel
theorem dX3_opens_61 : decode cX3_opens 61 = .ok (.iconst 1, 1) := by decide +kernel
theorem dX3_opens_62 : decode cX3_opens 62 = .ok (.iload 4, 2) := by decide +kernel
theorem dX3_opens_64 : decode cX3_opens 64 = .ok (.invokevirtual 138, 3) := by decide +kernel
theorem dX3_opens_67 : decode cX3_opens 67 = .ok (.ifCond .eq 17, 3) := by decide +kernel
theorem dX3_opens_70 : decode cX3_opens 70 = .ok (.iload 6, 2) := by decide +kernel
theorem dX3_opens_72 : decode cX3_opens 72 = .ok (.ifCond .ne 9, 3) := by decide +kernel
theorem dX3_opens_75 : decode cX3_opens 75 = .ok (.aload 7, 2) := by decide +kernel
theorem dX3_opens_77 : decode cX3_opens 77 = .ok (.getfield 40, 3) := by decide +kernel
theorem dX3_opens_80 : decode cX3_opens 80 = .ok (.ireturn, 1) := by decide +kernel
theorem dX3_opens_81 : decode cX3_opens 81 = .ok (.iinc 6 (-1), 3) := by decide +kernel
theorem dX3_opens_84 : decode cX3_opens 84 = .ok (.aload 7, 2) := by decide +kernel
theorem dX3_opens_86 : decode cX3_opens 86 = .ok (.getfield 36, 3) := by decide +kernel
theorem dX3_opens_89 : decode cX3_opens 89 = .ok (.astore 7, 2) := by decide +kernel
theorem dX3_opens_91 : decode cX3_opens 91 = .ok (.goto (-44), 3) := by decide +kernel
theorem dX3_opens_94 : decode cX3_opens 94 = .ok (.iconst (-1), 1) := by decide +kernel
theorem dX3_opens_95 : decode cX3_opens 95 = .ok (.ireturn, 1) := by decide +kernel
theorem dX3_known_0 : decode cX3_known 0 = .ok (.iload_n 1, 1) := by decide +kernel
theorem dX3_known_1 : decode cX3_known 1 = .ok (.ifCond .lt 11, 3) := by decide +kernel
theorem dX3_known_4 : decode cX3_known 4 = .ok (.iload_n 1, 1) := by decide +kernel
theorem dX3_known_5 : decode cX3_known 5 = .ok (.aload_n 0, 1) := by decide +kernel
theorem dX3_known_6 : decode cX3_known 6 = .ok (.getfield 15, 3) := by decide +kernel
theorem dX3_known_9 : decode cX3_known 9 = .ok (.if_icmp .lt 13, 3) := by decide +kernel
theorem dX3_known_12 : decode cX3_known 12 = .ok (.new 142, 3) := by decide +kernel
theorem dX3_known_15 : decode cX3_known 15 = .ok (.dup, 1) := by decide +kernel
theorem dX3_known_16 : decode cX3_known 16 = .ok (.ldc 144, 2) := by decide +kernel
theorem dX3_known_18 : decode cX3_known 18 = .ok (.invokespecial 146, 3) := by decide +kernel
theorem dX3_known_21 : decode cX3_known 21 = .ok (.athrow, 1) := by decide +kernel
theorem dX3_known_22 : decode cX3_known 22 = .ok (.aload_n 0, 1) := by decide +kernel
theorem dX3_known_23 : decode cX3_known 23 = .ok (.getfield 11, 3) := by decide +kernel
theorem dX3_known_26 : decode cX3_known 26 = .ok (.iload_n 1, 1) := by decide +kernel
theorem dX3_known_27 : decode cX3_known 27 = .ok (.aaload, 1) := by decide +kernel
theorem dX3_known_28 : decode cX3_known 28 = .ok (.areturn, 1) := by decide +kernel
theorem dX3_demandWithin_0 : decode cX3_demandWithin 0 = .ok (.iload_n 0, 1) := by decide +kernel
theorem dX3_demandWithin_1 : decode cX3_demandWithin 1 = .ok (.iload_n 1, 1) := by decide +kernel
theorem dX3_demandWithin_2 : decode cX3_demandWithin 2 = .ok (.if_icmp .lt 8, 3) := by decide +kernel
theorem dX3_demandWithin_5 : decode cX3_demandWithin 5 = .ok (.iload_n 0, 1) := by decide +kernel
theorem dX3_demandWithin_6 : decode cX3_demandWithin 6 = .ok (.iload_n 2, 1) := by decide +kernel
theorem dX3_demandWithin_7 : decode cX3_demandWithin 7 = .ok (.if_icmp .le 13, 3) := by decide +kernel
theorem dX3_demandWithin_10 : decode cX3_demandWithin 10 = .ok (.new 142, 3) := by decide +kernel
theorem dX3_demandWithin_13 : decode cX3_demandWithin 13 = .ok (.dup, 1) := by decide +kernel
theorem dX3_demandWithin_14 : decode cX3_demandWithin 14 = .ok (.ldc 147, 2) := by decide +kernel
theorem dX3_demandWithin_16 : decode cX3_demandWithin 16 = .ok (.invokespecial 146, 3) := by decide +kernel
theorem dX3_demandWithin_19 : decode cX3_demandWithin 19 = .ok (.athrow, 1) := by decide +kernel
theorem dX3_demandWithin_20 : decode cX3_demandWithin 20 = .ok (.return_, 1) := by decide +kernel
theorem dX3_demandPair_0 : decode cX3_demandPair 0 = .ok (.iload_n 0, 1) := by decide +kernel
theorem dX3_demandPair_1 : decode cX3_demandPair 1 = .ok (.iload_n 1, 1) := by decide +kernel
theorem dX3_demandPair_2 : decode cX3_demandPair 2 = .ok (.if_icmp .ne 13, 3) := by decide +kernel
theorem dX3_demandPair_5 : decode cX3_demandPair 5 = .ok (.new 142, 3) := by decide +kernel
theorem dX3_demandPair_8 : decode cX3_demandPair 8 = .ok (.dup, 1) := by decide +kernel
theorem dX3_demandPair_9 : decode cX3_demandPair 9 = .ok (.ldc 149, 2) := by decide +kernel
theorem dX3_demandPair_11 : decode cX3_demandPair 11 = .ok (.invokespecial 146, 3) := by decide +kernel
theorem dX3_demandPair_14 : decode cX3_demandPair 14 = .ok (.athrow, 1) := by decide +kernel
theorem dX3_demandPair_15 : decode cX3_demandPair 15 = .ok (.iload_n 2, 1) := by decide +kernel
theorem dX3_demandPair_16 : decode cX3_demandPair 16 = .ok (.iconst 0, 1) := by decide +kernel
theorem dX3_demandPair_17 : decode cX3_demandPair 17 = .ok (.sipush 10000, 3) := by decide +kernel
theorem dX3_demandPair_20 : decode cX3_demandPair 20 = .ok (.invokestatic 47, 3) := by decide +kernel
theorem dX3_demandPair_23 : decode cX3_demandPair 23 = .ok (.return_, 1) := by decide +kernel
theorem dX3_firstBroken_0 : decode cX3_firstBroken 0 = .ok (.aload_n 0, 1) := by decide +kernel
theorem dX3_firstBroken_1 : decode cX3_firstBroken 1 = .ok (.aload_n 1, 1) := by decide +kernel
theorem dX3_firstBroken_2 : decode cX3_firstBroken 2 = .ok (.iload_n 2, 1) := by decide +kernel
theorem dX3_firstBroken_3 : decode cX3_firstBroken 3 = .ok (.invokestatic 151, 3) := by decide +kernel
theorem dX3_firstBroken_6 : decode cX3_firstBroken 6 = .ok (.istore_n 3, 1) := by decide +kernel
theorem dX3_firstBroken_7 : decode cX3_firstBroken 7 = .ok (.iload_n 3, 1) := by decide +kernel
theorem dX3_firstBroken_8 : decode cX3_firstBroken 8 = .ok (.iconst (-1), 1) := by decide +kernel
theorem dX3_firstBroken_9 : decode cX3_firstBroken 9 = .ok (.if_icmp .eq 13, 3) := by decide +kernel
theorem dX3_firstBroken_12 : decode cX3_firstBroken 12 = .ok (.aload_n 0, 1) := by decide +kernel
theorem dX3_firstBroken_13 : decode cX3_firstBroken 13 = .ok (.aload_n 1, 1) := by decide +kernel
theorem dX3_firstBroken_14 : decode cX3_firstBroken 14 = .ok (.iload_n 2, 1) := by decide +kernel
theorem dX3_firstBroken_15 : decode cX3_firstBroken 15 = .ok (.iload_n 3, 1) := by decide +kernel
theorem dX3_firstBroken_16 : decode cX3_firstBroken 16 = .ok (.invokestatic 154, 3) := by decide +kernel
theorem dX3_firstBroken_19 : decode cX3_firstBroken 19 = .ok (.ifCond .eq 5, 3) := by decide +kernel
theorem dX3_firstBroken_22 : decode cX3_firstBroken 22 = .ok (.iload_n 3, 1) := by decide +kernel
theorem dX3_firstBroken_23 : decode cX3_firstBroken 23 = .ok (.ireturn, 1) := by decide +kernel
theorem dX3_firstBroken_24 : decode cX3_firstBroken 24 = .ok (.aload_n 0, 1) := by decide +kernel
theorem dX3_firstBroken_25 : decode cX3_firstBroken 25 = .ok (.aload_n 1, 1) := by decide +kernel
theorem dX3_firstBroken_26 : decode cX3_firstBroken 26 = .ok (.iload_n 2, 1) := by decide +kernel
theorem dX3_firstBroken_27 : decode cX3_firstBroken 27 = .ok (.iload_n 3, 1) := by decide +kernel
theorem dX3_firstBroken_28 : decode cX3_firstBroken 28 = .ok (.aload_n 0, 1) := by decide +kernel
theorem dX3_firstBroken_29 : decode cX3_firstBroken 29 = .ok (.aload_n 1, 1) := by decide +kernel
theorem dX3_firstBroken_30 : decode cX3_firstBroken 30 = .ok (.iload_n 3, 1) := by decide +kernel
theorem dX3_firstBroken_31 : decode cX3_firstBroken 31 = .ok (.invokestatic 158, 3) := by decide +kernel
theorem dX3_firstBroken_34 : decode cX3_firstBroken 34 = .ok (.invokestatic 161, 3) := by decide +kernel
theorem dX3_firstBroken_37 : decode cX3_firstBroken 37 = .ok (.ireturn, 1) := by decide +kernel
theorem dX3_firstBrokenStretch_0 : decode cX3_firstBrokenStretch 0 = .ok (.iconst 1, 1) := by decide +kernel
theorem dX3_firstBrokenStretch_1 : decode cX3_firstBrokenStretch 1 = .ok (.istore_n 3, 1) := by decide +kernel
theorem dX3_firstBrokenStretch_2 : decode cX3_firstBrokenStretch 2 = .ok (.iconst 0, 1) := by decide +kernel
theorem dX3_firstBrokenStretch_3 : decode cX3_firstBrokenStretch 3 = .ok (.istore 4, 2) := by decide +kernel
theorem dX3_firstBrokenStretch_5 : decode cX3_firstBrokenStretch 5 = .ok (.iload 4, 2) := by decide +kernel
theorem dX3_firstBrokenStretch_7 : decode cX3_firstBrokenStretch 7 = .ok (.bipush 13, 2) := by decide +kernel
theorem dX3_firstBrokenStretch_9 : decode cX3_firstBrokenStretch 9 = .ok (.if_icmp .ge 52, 3) := by decide +kernel
theorem dX3_firstBrokenStretch_12 : decode cX3_firstBrokenStretch 12 = .ok (.iload_n 3, 1) := by decide +kernel
theorem dX3_firstBrokenStretch_13 : decode cX3_firstBrokenStretch 13 = .ok (.sipush 5000, 3) := by decide +kernel
theorem dX3_firstBrokenStretch_16 : decode cX3_firstBrokenStretch 16 = .ok (.if_icmp .gt 45, 3) := by decide +kernel
theorem dX3_firstBrokenStretch_19 : decode cX3_firstBrokenStretch 19 = .ok (.aload_n 0, 1) := by decide +kernel
theorem dX3_firstBrokenStretch_20 : decode cX3_firstBrokenStretch 20 = .ok (.aload_n 1, 1) := by decide +kernel
theorem dX3_firstBrokenStretch_21 : decode cX3_firstBrokenStretch 21 = .ok (.iload_n 3, 1) := by decide +kernel
theorem dX3_firstBrokenStretch_22 : decode cX3_firstBrokenStretch 22 = .ok (.invokestatic 158, 3) := by decide +kernel
theorem dX3_firstBrokenStretch_25 : decode cX3_firstBrokenStretch 25 = .ok (.istore 5, 2) := by decide +kernel
theorem dX3_firstBrokenStretch_27 : decode cX3_firstBrokenStretch 27 = .ok (.aload_n 0, 1) := by decide +kernel
theorem dX3_firstBrokenStretch_28 : decode cX3_firstBrokenStretch 28 = .ok (.aload_n 1, 1) := by decide +kernel
theorem dX3_firstBrokenStretch_29 : decode cX3_firstBrokenStretch 29 = .ok (.iload_n 2, 1) := by decide +kernel
theorem dX3_firstBrokenStretch_30 : decode cX3_firstBrokenStretch 30 = .ok (.iload_n 3, 1) := by decide +kernel
theorem dX3_firstBrokenStretch_31 : decode cX3_firstBrokenStretch 31 = .ok (.invokestatic 154, 3) := by decide +kernel
theorem dX3_firstBrokenStretch_34 : decode cX3_firstBrokenStretch 34 = .ok (.ifCond .ne 14, 3) := by decide +kernel
theorem dX3_firstBrokenStretch_37 : decode cX3_firstBrokenStretch 37 = .ok (.aload_n 0, 1) := by decide +kernel
theorem dX3_firstBrokenStretch_38 : decode cX3_firstBrokenStretch 38 = .ok (.aload_n 1, 1) := by decide +kernel
theorem dX3_firstBrokenStretch_39 : decode cX3_firstBrokenStretch 39 = .ok (.iload_n 2, 1) := by decide +kernel
theorem dX3_firstBrokenStretch_40 : decode cX3_firstBrokenStretch 40 = .ok (.iload 5, 2) := by decide +kernel
theorem dX3_firstBrokenStretch_42 : decode cX3_firstBrokenStretch 42 = .ok (.invokestatic 154, 3) := by decide +kernel
theorem dX3_firstBrokenStretch_45 : decode cX3_firstBrokenStretch 45 = .ok (.ifCond .eq 5, 3) := by decide +kernel
theorem dX3_firstBrokenStretch_48 : decode cX3_firstBrokenStretch 48 = .ok (.iload_n 3, 1) := by decide +kernel
theorem dX3_firstBrokenStretch_49 : decode cX3_firstBrokenStretch 49 = .ok (.ireturn, 1) := by decide +kernel
theorem dX3_firstBrokenStretch_50 : decode cX3_firstBrokenStretch 50 = .ok (.iload 5, 2) := by decide +kernel
theorem dX3_firstBrokenStretch_52 : decode cX3_firstBrokenStretch 52 = .ok (.iconst 1, 1) := by decide +kernel
theorem dX3_firstBrokenStretch_53 : decode cX3_firstBrokenStretch 53 = .ok (.iadd, 1) := by decide +kernel
theorem dX3_firstBrokenStretch_54 : decode cX3_firstBrokenStretch 54 = .ok (.istore_n 3, 1) := by decide +kernel
theorem dX3_firstBrokenStretch_55 : decode cX3_firstBrokenStretch 55 = .ok (.iinc 4 1, 3) := by decide +kernel
theorem dX3_firstBrokenStretch_58 : decode cX3_firstBrokenStretch 58 = .ok (.goto (-53), 3) := by decide +kernel
theorem dX3_firstBrokenStretch_61 : decode cX3_firstBrokenStretch 61 = .ok (.iconst (-1), 1) := by decide +kernel
theorem dX3_firstBrokenStretch_62 : decode cX3_firstBrokenStretch 62 = .ok (.ireturn, 1) := by decide +kernel
theorem dX3_countBroken_0 : decode cX3_countBroken 0 = .ok (.iconst 0, 1) := by decide +kernel
theorem dX3_countBroken_1 : decode cX3_countBroken 1 = .ok (.istore_n 3, 1) := by decide +kernel
theorem dX3_countBroken_2 : decode cX3_countBroken 2 = .ok (.iconst 1, 1) := by decide +kernel
theorem dX3_countBroken_3 : decode cX3_countBroken 3 = .ok (.istore 4, 2) := by decide +kernel
theorem dX3_countBroken_5 : decode cX3_countBroken 5 = .ok (.iconst 0, 1) := by decide +kernel
theorem dX3_countBroken_6 : decode cX3_countBroken 6 = .ok (.istore 5, 2) := by decide +kernel
theorem dX3_countBroken_8 : decode cX3_countBroken 8 = .ok (.iload 5, 2) := by decide +kernel
theorem dX3_countBroken_10 : decode cX3_countBroken 10 = .ok (.bipush 13, 2) := by decide +kernel
theorem dX3_countBroken_12 : decode cX3_countBroken 12 = .ok (.if_icmp .ge 45, 3) := by decide +kernel
theorem dX3_countBroken_15 : decode cX3_countBroken 15 = .ok (.iload 4, 2) := by decide +kernel
theorem dX3_countBroken_17 : decode cX3_countBroken 17 = .ok (.sipush 5000, 3) := by decide +kernel
theorem dX3_countBroken_20 : decode cX3_countBroken 20 = .ok (.if_icmp .gt 37, 3) := by decide +kernel
theorem dX3_countBroken_23 : decode cX3_countBroken 23 = .ok (.aload_n 0, 1) := by decide +kernel
theorem dX3_countBroken_24 : decode cX3_countBroken 24 = .ok (.aload_n 1, 1) := by decide +kernel
theorem dX3_countBroken_25 : decode cX3_countBroken 25 = .ok (.iload 4, 2) := by decide +kernel
theorem dX3_countBroken_27 : decode cX3_countBroken 27 = .ok (.invokestatic 158, 3) := by decide +kernel
theorem dX3_countBroken_30 : decode cX3_countBroken 30 = .ok (.istore 6, 2) := by decide +kernel
theorem dX3_countBroken_32 : decode cX3_countBroken 32 = .ok (.iload_n 3, 1) := by decide +kernel
theorem dX3_countBroken_33 : decode cX3_countBroken 33 = .ok (.aload_n 0, 1) := by decide +kernel
theorem dX3_countBroken_34 : decode cX3_countBroken 34 = .ok (.aload_n 1, 1) := by decide +kernel
theorem dX3_countBroken_35 : decode cX3_countBroken 35 = .ok (.iload_n 2, 1) := by decide +kernel
theorem dX3_countBroken_36 : decode cX3_countBroken 36 = .ok (.iload 4, 2) := by decide +kernel
theorem dX3_countBroken_38 : decode cX3_countBroken 38 = .ok (.iload 6, 2) := by decide +kernel
theorem dX3_countBroken_40 : decode cX3_countBroken 40 = .ok (.invokestatic 165, 3) := by decide +kernel
theorem dX3_countBroken_43 : decode cX3_countBroken 43 = .ok (.iadd, 1) := by decide +kernel
theorem dX3_countBroken_44 : decode cX3_countBroken 44 = .ok (.istore_n 3, 1) := by decide +kernel
theorem dX3_countBroken_45 : decode cX3_countBroken 45 = .ok (.iload 6, 2) := by decide +kernel
theorem dX3_countBroken_47 : decode cX3_countBroken 47 = .ok (.iconst 1, 1) := by decide +kernel
theorem dX3_countBroken_48 : decode cX3_countBroken 48 = .ok (.iadd, 1) := by decide +kernel
theorem dX3_countBroken_49 : decode cX3_countBroken 49 = .ok (.istore 4, 2) := by decide +kernel
theorem dX3_countBroken_51 : decode cX3_countBroken 51 = .ok (.iinc 5 1, 3) := by decide +kernel
theorem dX3_countBroken_54 : decode cX3_countBroken 54 = .ok (.goto (-46), 3) := by decide +kernel
theorem dX3_countBroken_57 : decode cX3_countBroken 57 = .ok (.iload_n 3, 1) := by decide +kernel
theorem dX3_countBroken_58 : decode cX3_countBroken 58 = .ok (.ireturn, 1) := by decide +kernel
theorem dX3_countBrokenIn_0 : decode cX3_countBrokenIn 0 = .ok (.aload_n 0, 1) := by decide +kernel
theorem dX3_countBrokenIn_1 : decode cX3_countBrokenIn 1 = .ok (.aload_n 1, 1) := by decide +kernel
theorem dX3_countBrokenIn_2 : decode cX3_countBrokenIn 2 = .ok (.iload_n 2, 1) := by decide +kernel
theorem dX3_countBrokenIn_3 : decode cX3_countBrokenIn 3 = .ok (.iload_n 3, 1) := by decide +kernel
theorem dX3_countBrokenIn_4 : decode cX3_countBrokenIn 4 = .ok (.invokestatic 154, 3) := by decide +kernel
theorem dX3_countBrokenIn_7 : decode cX3_countBrokenIn 7 = .ok (.istore 5, 2) := by decide +kernel
theorem dX3_countBrokenIn_9 : decode cX3_countBrokenIn 9 = .ok (.aload_n 0, 1) := by decide +kernel
theorem dX3_countBrokenIn_10 : decode cX3_countBrokenIn 10 = .ok (.aload_n 1, 1) := by decide +kernel
theorem dX3_countBrokenIn_11 : decode cX3_countBrokenIn 11 = .ok (.iload_n 2, 1) := by decide +kernel
theorem dX3_countBrokenIn_12 : decode cX3_countBrokenIn 12 = .ok (.iload 4, 2) := by decide +kernel
theorem dX3_countBrokenIn_14 : decode cX3_countBrokenIn 14 = .ok (.invokestatic 154, 3) := by decide +kernel
theorem dX3_countBrokenIn_17 : decode cX3_countBrokenIn 17 = .ok (.istore 6, 2) := by decide +kernel
theorem dX3_countBrokenIn_19 : decode cX3_countBrokenIn 19 = .ok (.iload 5, 2) := by decide +kernel
theorem dX3_countBrokenIn_21 : decode cX3_countBrokenIn 21 = .ok (.iload 6, 2) := by decide +kernel
theorem dX3_countBrokenIn_23 : decode cX3_countBrokenIn 23 = .ok (.if_icmp .ne 19, 3) := by decide +kernel
theorem dX3_countBrokenIn_26 : decode cX3_countBrokenIn 26 = .ok (.iload 5, 2) := by decide +kernel
theorem dX3_countBrokenIn_28 : decode cX3_countBrokenIn 28 = .ok (.ifCond .eq 12, 3) := by decide +kernel
theorem dX3_countBrokenIn_31 : decode cX3_countBrokenIn 31 = .ok (.iload 4, 2) := by decide +kernel
theorem dX3_countBrokenIn_33 : decode cX3_countBrokenIn 33 = .ok (.iload_n 3, 1) := by decide +kernel
theorem dX3_countBrokenIn_34 : decode cX3_countBrokenIn 34 = .ok (.isub, 1) := by decide +kernel
theorem dX3_countBrokenIn_35 : decode cX3_countBrokenIn 35 = .ok (.iconst 1, 1) := by decide +kernel
theorem dX3_countBrokenIn_36 : decode cX3_countBrokenIn 36 = .ok (.iadd, 1) := by decide +kernel
theorem dX3_countBrokenIn_37 : decode cX3_countBrokenIn 37 = .ok (.goto 4, 3) := by decide +kernel
theorem dX3_countBrokenIn_40 : decode cX3_countBrokenIn 40 = .ok (.iconst 0, 1) := by decide +kernel
theorem dX3_countBrokenIn_41 : decode cX3_countBrokenIn 41 = .ok (.ireturn, 1) := by decide +kernel
theorem dX3_countBrokenIn_42 : decode cX3_countBrokenIn 42 = .ok (.aload_n 0, 1) := by decide +kernel
theorem dX3_countBrokenIn_43 : decode cX3_countBrokenIn 43 = .ok (.aload_n 1, 1) := by decide +kernel
theorem dX3_countBrokenIn_44 : decode cX3_countBrokenIn 44 = .ok (.iload_n 2, 1) := by decide +kernel
theorem dX3_countBrokenIn_45 : decode cX3_countBrokenIn 45 = .ok (.iload_n 3, 1) := by decide +kernel
theorem dX3_countBrokenIn_46 : decode cX3_countBrokenIn 46 = .ok (.iload 4, 2) := by decide +kernel
theorem dX3_countBrokenIn_48 : decode cX3_countBrokenIn 48 = .ok (.invokestatic 161, 3) := by decide +kernel
theorem dX3_countBrokenIn_51 : decode cX3_countBrokenIn 51 = .ok (.istore 7, 2) := by decide +kernel
theorem dX3_countBrokenIn_53 : decode cX3_countBrokenIn 53 = .ok (.iload 5, 2) := by decide +kernel
theorem dX3_countBrokenIn_55 : decode cX3_countBrokenIn 55 = .ok (.ifCond .eq 10, 3) := by decide +kernel
theorem dX3_countBrokenIn_58 : decode cX3_countBrokenIn 58 = .ok (.iload 7, 2) := by decide +kernel
theorem dX3_countBrokenIn_60 : decode cX3_countBrokenIn 60 = .ok (.iload_n 3, 1) := by decide +kernel
theorem dX3_countBrokenIn_61 : decode cX3_countBrokenIn 61 = .ok (.isub, 1) := by decide +kernel
theorem dX3_countBrokenIn_62 : decode cX3_countBrokenIn 62 = .ok (.goto 10, 3) := by decide +kernel
theorem dX3_countBrokenIn_65 : decode cX3_countBrokenIn 65 = .ok (.iload 4, 2) := by decide +kernel
theorem dX3_countBrokenIn_67 : decode cX3_countBrokenIn 67 = .ok (.iload 7, 2) := by decide +kernel
theorem dX3_countBrokenIn_69 : decode cX3_countBrokenIn 69 = .ok (.isub, 1) := by decide +kernel
theorem dX3_countBrokenIn_70 : decode cX3_countBrokenIn 70 = .ok (.iconst 1, 1) := by decide +kernel
theorem dX3_countBrokenIn_71 : decode cX3_countBrokenIn 71 = .ok (.iadd, 1) := by decide +kernel
theorem dX3_countBrokenIn_72 : decode cX3_countBrokenIn 72 = .ok (.ireturn, 1) := by decide +kernel
theorem dX3_stretchEnd_0 : decode cX3_stretchEnd 0 = .ok (.aload_n 0, 1) := by decide +kernel
theorem dX3_stretchEnd_1 : decode cX3_stretchEnd 1 = .ok (.iload_n 2, 1) := by decide +kernel
theorem dX3_stretchEnd_2 : decode cX3_stretchEnd 2 = .ok (.invokevirtual 100, 3) := by decide +kernel
theorem dX3_stretchEnd_5 : decode cX3_stretchEnd 5 = .ok (.aload_n 1, 1) := by decide +kernel
theorem dX3_stretchEnd_6 : decode cX3_stretchEnd 6 = .ok (.iload_n 2, 1) := by decide +kernel
theorem dX3_stretchEnd_7 : decode cX3_stretchEnd 7 = .ok (.invokevirtual 100, 3) := by decide +kernel
theorem dX3_stretchEnd_10 : decode cX3_stretchEnd 10 = .ok (.invokestatic 168, 3) := by decide +kernel
theorem dX3_stretchEnd_13 : decode cX3_stretchEnd 13 = .ok (.iconst 1, 1) := by decide +kernel
theorem dX3_stretchEnd_14 : decode cX3_stretchEnd 14 = .ok (.isub, 1) := by decide +kernel
theorem dX3_stretchEnd_15 : decode cX3_stretchEnd 15 = .ok (.ireturn, 1) := by decide +kernel
theorem dX3_turnIn_0 : decode cX3_turnIn 0 = .ok (.aload_n 0, 1) := by decide +kernel
theorem dX3_turnIn_1 : decode cX3_turnIn 1 = .ok (.aload_n 1, 1) := by decide +kernel
theorem dX3_turnIn_2 : decode cX3_turnIn 2 = .ok (.iload_n 2, 1) := by decide +kernel
theorem dX3_turnIn_3 : decode cX3_turnIn 3 = .ok (.iload 4, 2) := by decide +kernel
theorem dX3_turnIn_5 : decode cX3_turnIn 5 = .ok (.invokestatic 154, 3) := by decide +kernel
theorem dX3_turnIn_8 : decode cX3_turnIn 8 = .ok (.istore 5, 2) := by decide +kernel
theorem dX3_turnIn_10 : decode cX3_turnIn 10 = .ok (.iload_n 3, 1) := by decide +kernel
theorem dX3_turnIn_11 : decode cX3_turnIn 11 = .ok (.istore 6, 2) := by decide +kernel
theorem dX3_turnIn_13 : decode cX3_turnIn 13 = .ok (.iload 4, 2) := by decide +kernel
theorem dX3_turnIn_15 : decode cX3_turnIn 15 = .ok (.istore 7, 2) := by decide +kernel
theorem dX3_turnIn_17 : decode cX3_turnIn 17 = .ok (.iconst 0, 1) := by decide +kernel
theorem dX3_turnIn_18 : decode cX3_turnIn 18 = .ok (.istore 8, 2) := by decide +kernel
theorem dX3_turnIn_20 : decode cX3_turnIn 20 = .ok (.iload 8, 2) := by decide +kernel
theorem dX3_turnIn_22 : decode cX3_turnIn 22 = .ok (.bipush 13, 2) := by decide +kernel
theorem dX3_turnIn_24 : decode cX3_turnIn 24 = .ok (.if_icmp .ge 51, 3) := by decide +kernel
theorem dX3_turnIn_27 : decode cX3_turnIn 27 = .ok (.iload 7, 2) := by decide +kernel
theorem dX3_turnIn_29 : decode cX3_turnIn 29 = .ok (.iload 6, 2) := by decide +kernel
theorem dX3_turnIn_31 : decode cX3_turnIn 31 = .ok (.isub, 1) := by decide +kernel
theorem dX3_turnIn_32 : decode cX3_turnIn 32 = .ok (.iconst 1, 1) := by decide +kernel
theorem dX3_turnIn_33 : decode cX3_turnIn 33 = .ok (.if_icmp .le 42, 3) := by decide +kernel
theorem dX3_turnIn_36 : decode cX3_turnIn 36 = .ok (.iload 6, 2) := by decide +kernel
theorem dX3_turnIn_38 : decode cX3_turnIn 38 = .ok (.iload 7, 2) := by decide +kernel
theorem dX3_turnIn_40 : decode cX3_turnIn 40 = .ok (.iadd, 1) := by decide +kernel
theorem dX3_turnIn_41 : decode cX3_turnIn 41 = .ok (.iconst 2, 1) := by decide +kernel
theorem dX3_turnIn_42 : decode cX3_turnIn 42 = .ok (.idiv, 1) := by decide +kernel
theorem dX3_turnIn_43 : decode cX3_turnIn 43 = .ok (.istore 9, 2) := by decide +kernel
theorem dX3_turnIn_45 : decode cX3_turnIn 45 = .ok (.aload_n 0, 1) := by decide +kernel
theorem dX3_turnIn_46 : decode cX3_turnIn 46 = .ok (.aload_n 1, 1) := by decide +kernel
theorem dX3_turnIn_47 : decode cX3_turnIn 47 = .ok (.iload_n 2, 1) := by decide +kernel
theorem dX3_turnIn_48 : decode cX3_turnIn 48 = .ok (.iload 9, 2) := by decide +kernel
theorem dX3_turnIn_50 : decode cX3_turnIn 50 = .ok (.invokestatic 154, 3) := by decide +kernel
theorem dX3_turnIn_53 : decode cX3_turnIn 53 = .ok (.iload 5, 2) := by decide +kernel
theorem dX3_turnIn_55 : decode cX3_turnIn 55 = .ok (.if_icmp .ne 10, 3) := by decide +kernel
theorem dX3_turnIn_58 : decode cX3_turnIn 58 = .ok (.iload 9, 2) := by decide +kernel
theorem dX3_turnIn_60 : decode cX3_turnIn 60 = .ok (.istore 7, 2) := by decide +kernel
theorem dX3_turnIn_62 : decode cX3_turnIn 62 = .ok (.goto 7, 3) := by decide +kernel
theorem dX3_turnIn_65 : decode cX3_turnIn 65 = .ok (.iload 9, 2) := by decide +kernel
theorem dX3_turnIn_67 : decode cX3_turnIn 67 = .ok (.istore 6, 2) := by decide +kernel
theorem dX3_turnIn_69 : decode cX3_turnIn 69 = .ok (.iinc 8 1, 3) := by decide +kernel
theorem dX3_turnIn_72 : decode cX3_turnIn 72 = .ok (.goto (-52), 3) := by decide +kernel
theorem dX3_turnIn_75 : decode cX3_turnIn 75 = .ok (.iload 7, 2) := by decide +kernel
theorem dX3_turnIn_77 : decode cX3_turnIn 77 = .ok (.ireturn, 1) := by decide +kernel
theorem dX3_isBrokenAt_0 : decode cX3_isBrokenAt 0 = .ok (.aload_n 0, 1) := by decide +kernel
theorem dX3_isBrokenAt_1 : decode cX3_isBrokenAt 1 = .ok (.iconst 1, 1) := by decide +kernel
theorem dX3_isBrokenAt_2 : decode cX3_isBrokenAt 2 = .ok (.iload_n 2, 1) := by decide +kernel
theorem dX3_isBrokenAt_3 : decode cX3_isBrokenAt 3 = .ok (.aload_n 1, 1) := by decide +kernel
theorem dX3_isBrokenAt_4 : decode cX3_isBrokenAt 4 = .ok (.iconst 0, 1) := by decide +kernel
theorem dX3_isBrokenAt_5 : decode cX3_isBrokenAt 5 = .ok (.iload_n 3, 1) := by decide +kernel
theorem dX3_isBrokenAt_6 : decode cX3_isBrokenAt 6 = .ok (.invokevirtual 138, 3) := by decide +kernel
theorem dX3_isBrokenAt_9 : decode cX3_isBrokenAt 9 = .ok (.ifCond .ne 7, 3) := by decide +kernel
theorem dX3_isBrokenAt_12 : decode cX3_isBrokenAt 12 = .ok (.iconst 1, 1) := by decide +kernel
theorem dX3_isBrokenAt_13 : decode cX3_isBrokenAt 13 = .ok (.goto 4, 3) := by decide +kernel
theorem dX3_isBrokenAt_16 : decode cX3_isBrokenAt 16 = .ok (.iconst 0, 1) := by decide +kernel
theorem dX3_isBrokenAt_17 : decode cX3_isBrokenAt 17 = .ok (.ireturn, 1) := by decide +kernel
theorem dX3_tryOptions_0 : decode cX3_tryOptions 0 = .ok (.aload_n 0, 1) := by decide +kernel
theorem dX3_tryOptions_1 : decode cX3_tryOptions 1 = .ok (.getfield 36, 3) := by decide +kernel
theorem dX3_tryOptions_4 : decode cX3_tryOptions 4 = .ok (.astore_n 2, 1) := by decide +kernel
theorem dX3_tryOptions_5 : decode cX3_tryOptions 5 = .ok (.aload_n 2, 1) := by decide +kernel
theorem dX3_tryOptions_6 : decode cX3_tryOptions 6 = .ok (.ifnonnull 31, 3) := by decide +kernel
theorem dX3_tryOptions_9 : decode cX3_tryOptions 9 = .ok (.aload_n 0, 1) := by decide +kernel
theorem dX3_tryOptions_10 : decode cX3_tryOptions 10 = .ok (.getfield 120, 3) := by decide +kernel
theorem dX3_tryOptions_13 : decode cX3_tryOptions 13 = .ok (.iconst 0, 1) := by decide +kernel
theorem dX3_tryOptions_14 : decode cX3_tryOptions 14 = .ok (.aload_n 0, 1) := by decide +kernel
theorem dX3_tryOptions_15 : decode cX3_tryOptions 15 = .ok (.aconst_null, 1) := by decide +kernel
theorem dX3_tryOptions_16 : decode cX3_tryOptions 16 = .ok (.iload_n 1, 1) := by decide +kernel
theorem dX3_tryOptions_17 : decode cX3_tryOptions 17 = .ok (.invokestatic 174, 3) := by decide +kernel
theorem dX3_tryOptions_20 : decode cX3_tryOptions 20 = .ok (.iastore, 1) := by decide +kernel
theorem dX3_tryOptions_21 : decode cX3_tryOptions 21 = .ok (.aload_n 0, 1) := by decide +kernel
theorem dX3_tryOptions_22 : decode cX3_tryOptions 22 = .ok (.getfield 120, 3) := by decide +kernel
theorem dX3_tryOptions_25 : decode cX3_tryOptions 25 = .ok (.iconst 0, 1) := by decide +kernel
theorem dX3_tryOptions_26 : decode cX3_tryOptions 26 = .ok (.iaload, 1) := by decide +kernel
theorem dX3_tryOptions_27 : decode cX3_tryOptions 27 = .ok (.iconst (-1), 1) := by decide +kernel
theorem dX3_tryOptions_28 : decode cX3_tryOptions 28 = .ok (.if_icmp .eq 7, 3) := by decide +kernel
theorem dX3_tryOptions_31 : decode cX3_tryOptions 31 = .ok (.iconst 1, 1) := by decide +kernel
theorem dX3_tryOptions_32 : decode cX3_tryOptions 32 = .ok (.goto 4, 3) := by decide +kernel
theorem dX3_tryOptions_35 : decode cX3_tryOptions 35 = .ok (.iconst 0, 1) := by decide +kernel
theorem dX3_tryOptions_36 : decode cX3_tryOptions 36 = .ok (.ireturn, 1) := by decide +kernel
theorem dX3_tryOptions_37 : decode cX3_tryOptions 37 = .ok (.iconst 0, 1) := by decide +kernel
theorem dX3_tryOptions_38 : decode cX3_tryOptions 38 = .ok (.istore_n 3, 1) := by decide +kernel
theorem dX3_tryOptions_39 : decode cX3_tryOptions 39 = .ok (.iload_n 3, 1) := by decide +kernel
theorem dX3_tryOptions_40 : decode cX3_tryOptions 40 = .ok (.aload_n 2, 1) := by decide +kernel
theorem dX3_tryOptions_41 : decode cX3_tryOptions 41 = .ok (.getfield 68, 3) := by decide +kernel
theorem dX3_tryOptions_44 : decode cX3_tryOptions 44 = .ok (.if_icmp .ge 43, 3) := by decide +kernel
theorem dX3_tryOptions_47 : decode cX3_tryOptions 47 = .ok (.aload_n 0, 1) := by decide +kernel
theorem dX3_tryOptions_48 : decode cX3_tryOptions 48 = .ok (.getfield 120, 3) := by decide +kernel
theorem dX3_tryOptions_51 : decode cX3_tryOptions 51 = .ok (.iload_n 3, 1) := by decide +kernel
theorem dX3_tryOptions_52 : decode cX3_tryOptions 52 = .ok (.aload_n 0, 1) := by decide +kernel
theorem dX3_tryOptions_53 : decode cX3_tryOptions 53 = .ok (.aload_n 2, 1) := by decide +kernel
theorem dX3_tryOptions_54 : decode cX3_tryOptions 54 = .ok (.getfield 73, 3) := by decide +kernel
theorem dX3_tryOptions_57 : decode cX3_tryOptions 57 = .ok (.iload_n 3, 1) := by decide +kernel
theorem dX3_tryOptions_58 : decode cX3_tryOptions 58 = .ok (.aaload, 1) := by decide +kernel
theorem dX3_tryOptions_59 : decode cX3_tryOptions 59 = .ok (.iload_n 1, 1) := by decide +kernel
theorem dX3_tryOptions_60 : decode cX3_tryOptions 60 = .ok (.invokestatic 174, 3) := by decide +kernel
theorem dX3_tryOptions_63 : decode cX3_tryOptions 63 = .ok (.iastore, 1) := by decide +kernel
theorem dX3_tryOptions_64 : decode cX3_tryOptions 64 = .ok (.aload_n 0, 1) := by decide +kernel
theorem dX3_tryOptions_65 : decode cX3_tryOptions 65 = .ok (.getfield 120, 3) := by decide +kernel
theorem dX3_tryOptions_68 : decode cX3_tryOptions 68 = .ok (.iload_n 3, 1) := by decide +kernel
theorem dX3_tryOptions_69 : decode cX3_tryOptions 69 = .ok (.iaload, 1) := by decide +kernel
theorem dX3_tryOptions_70 : decode cX3_tryOptions 70 = .ok (.iconst (-1), 1) := by decide +kernel
theorem dX3_tryOptions_71 : decode cX3_tryOptions 71 = .ok (.if_icmp .ne 10, 3) := by decide +kernel
theorem dX3_tryOptions_74 : decode cX3_tryOptions 74 = .ok (.aload_n 2, 1) := by decide +kernel
theorem dX3_tryOptions_75 : decode cX3_tryOptions 75 = .ok (.getfield 178, 3) := by decide +kernel
theorem dX3_tryOptions_78 : decode cX3_tryOptions 78 = .ok (.iload_n 3, 1) := by decide +kernel
theorem dX3_tryOptions_79 : decode cX3_tryOptions 79 = .ok (.iconst 1, 1) := by decide +kernel
theorem dX3_tryOptions_80 : decode cX3_tryOptions 80 = .ok (.bastore, 1) := by decide +kernel
theorem dX3_tryOptions_81 : decode cX3_tryOptions 81 = .ok (.iinc 3 1, 3) := by decide +kernel
theorem dX3_tryOptions_84 : decode cX3_tryOptions 84 = .ok (.goto (-45), 3) := by decide +kernel
theorem dX3_tryOptions_87 : decode cX3_tryOptions 87 = .ok (.iconst 1, 1) := by decide +kernel
theorem dX3_tryOptions_88 : decode cX3_tryOptions 88 = .ok (.ireturn, 1) := by decide +kernel
theorem dX3_firstFitting_0 : decode cX3_firstFitting 0 = .ok (.iconst 0, 1) := by decide +kernel
theorem dX3_firstFitting_1 : decode cX3_firstFitting 1 = .ok (.istore_n 3, 1) := by decide +kernel
theorem dX3_firstFitting_2 : decode cX3_firstFitting 2 = .ok (.iload_n 3, 1) := by decide +kernel
theorem dX3_firstFitting_3 : decode cX3_firstFitting 3 = .ok (.aload_n 0, 1) := by decide +kernel
theorem dX3_firstFitting_4 : decode cX3_firstFitting 4 = .ok (.getfield 68, 3) := by decide +kernel
theorem dX3_firstFitting_7 : decode cX3_firstFitting 7 = .ok (.if_icmp .ge 42, 3) := by decide +kernel
theorem dX3_firstFitting_10 : decode cX3_firstFitting 10 = .ok (.aload_n 0, 1) := by decide +kernel
theorem dX3_firstFitting_11 : decode cX3_firstFitting 11 = .ok (.getfield 178, 3) := by decide +kernel
theorem dX3_firstFitting_14 : decode cX3_firstFitting 14 = .ok (.iload_n 3, 1) := by decide +kernel
theorem dX3_firstFitting_15 : decode cX3_firstFitting 15 = .ok (.baload, 1) := by decide +kernel
theorem dX3_firstFitting_16 : decode cX3_firstFitting 16 = .ok (.ifCond .eq 6, 3) := by decide +kernel
theorem dX3_firstFitting_19 : decode cX3_firstFitting 19 = .ok (.goto 24, 3) := by decide +kernel
theorem dX3_firstFitting_22 : decode cX3_firstFitting 22 = .ok (.aload_n 1, 1) := by decide +kernel
theorem dX3_firstFitting_23 : decode cX3_firstFitting 23 = .ok (.ifnull 18, 3) := by decide +kernel
theorem dX3_firstFitting_26 : decode cX3_firstFitting 26 = .ok (.aload_n 0, 1) := by decide +kernel
theorem dX3_firstFitting_27 : decode cX3_firstFitting 27 = .ok (.getfield 73, 3) := by decide +kernel
theorem dX3_firstFitting_30 : decode cX3_firstFitting 30 = .ok (.iload_n 3, 1) := by decide +kernel
theorem dX3_firstFitting_31 : decode cX3_firstFitting 31 = .ok (.aaload, 1) := by decide +kernel
theorem dX3_firstFitting_32 : decode cX3_firstFitting 32 = .ok (.aload_n 1, 1) := by decide +kernel
theorem dX3_firstFitting_33 : decode cX3_firstFitting 33 = .ok (.iload_n 2, 1) := by decide +kernel
theorem dX3_firstFitting_34 : decode cX3_firstFitting 34 = .ok (.invokestatic 151, 3) := by decide +kernel
theorem dX3_firstFitting_37 : decode cX3_firstFitting 37 = .ok (.iconst (-1), 1) := by decide +kernel
theorem dX3_firstFitting_38 : decode cX3_firstFitting 38 = .ok (.if_icmp .ne 5, 3) := by decide +kernel
theorem dX3_firstFitting_41 : decode cX3_firstFitting 41 = .ok (.iload_n 3, 1) := by decide +kernel
theorem dX3_firstFitting_42 : decode cX3_firstFitting 42 = .ok (.ireturn, 1) := by decide +kernel
theorem dX3_firstFitting_43 : decode cX3_firstFitting 43 = .ok (.iinc 3 1, 3) := by decide +kernel
theorem dX3_firstFitting_46 : decode cX3_firstFitting 46 = .ok (.goto (-44), 3) := by decide +kernel
theorem dX3_firstFitting_49 : decode cX3_firstFitting 49 = .ok (.iconst (-1), 1) := by decide +kernel
theorem dX3_firstFitting_50 : decode cX3_firstFitting 50 = .ok (.ireturn, 1) := by decide +kernel
theorem dX3_shortCurrent_0 : decode cX3_shortCurrent 0 = .ok (.lconst 0, 1) := by decide +kernel
theorem dX3_shortCurrent_1 : decode cX3_shortCurrent 1 = .ok (.lstore_n 2, 1) := by decide +kernel
theorem dX3_shortCurrent_2 : decode cX3_shortCurrent 2 = .ok (.aload_n 1, 1) := by decide +kernel
theorem dX3_shortCurrent_3 : decode cX3_shortCurrent 3 = .ok (.astore 4, 2) := by decide +kernel
theorem dX3_shortCurrent_5 : decode cX3_shortCurrent 5 = .ok (.aload 4, 2) := by decide +kernel
theorem dX3_shortCurrent_7 : decode cX3_shortCurrent 7 = .ok (.ifnull 22, 3) := by decide +kernel
theorem dX3_shortCurrent_10 : decode cX3_shortCurrent 10 = .ok (.lload_n 2, 1) := by decide +kernel
theorem dX3_shortCurrent_11 : decode cX3_shortCurrent 11 = .ok (.aload 4, 2) := by decide +kernel
theorem dX3_shortCurrent_13 : decode cX3_shortCurrent 13 = .ok (.getfield 123, 3) := by decide +kernel
theorem dX3_shortCurrent_16 : decode cX3_shortCurrent 16 = .ok (.i2l, 1) := by decide +kernel
theorem dX3_shortCurrent_17 : decode cX3_shortCurrent 17 = .ok (.ladd, 1) := by decide +kernel
theorem dX3_shortCurrent_18 : decode cX3_shortCurrent 18 = .ok (.lstore_n 2, 1) := by decide +kernel
theorem dX3_shortCurrent_19 : decode cX3_shortCurrent 19 = .ok (.aload 4, 2) := by decide +kernel
theorem dX3_shortCurrent_21 : decode cX3_shortCurrent 21 = .ok (.getfield 36, 3) := by decide +kernel
theorem dX3_shortCurrent_24 : decode cX3_shortCurrent 24 = .ok (.astore 4, 2) := by decide +kernel
theorem dX3_shortCurrent_26 : decode cX3_shortCurrent 26 = .ok (.goto (-21), 3) := by decide +kernel
theorem dX3_shortCurrent_29 : decode cX3_shortCurrent 29 = .ok (.lload_n 2, 1) := by decide +kernel
theorem dX3_shortCurrent_30 : decode cX3_shortCurrent 30 = .ok (.lconst 1, 1) := by decide +kernel
theorem dX3_shortCurrent_31 : decode cX3_shortCurrent 31 = .ok (.lcmp, 1) := by decide +kernel
theorem dX3_shortCurrent_32 : decode cX3_shortCurrent 32 = .ok (.ifCond .ge 5, 3) := by decide +kernel
theorem dX3_shortCurrent_35 : decode cX3_shortCurrent 35 = .ok (.iconst 0, 1) := by decide +kernel
theorem dX3_shortCurrent_36 : decode cX3_shortCurrent 36 = .ok (.ireturn, 1) := by decide +kernel
theorem dX3_shortCurrent_37 : decode cX3_shortCurrent 37 = .ok (.ldc2_w 182, 3) := by decide +kernel
theorem dX3_shortCurrent_40 : decode cX3_shortCurrent 40 = .ok (.ldc2_w 184, 3) := by decide +kernel
theorem dX3_shortCurrent_43 : decode cX3_shortCurrent 43 = .ok (.aload_n 0, 1) := by decide +kernel
theorem dX3_shortCurrent_44 : decode cX3_shortCurrent 44 = .ok (.getfield 19, 3) := by decide +kernel
theorem dX3_shortCurrent_47 : decode cX3_shortCurrent 47 = .ok (.i2l, 1) := by decide +kernel
theorem dX3_shortCurrent_48 : decode cX3_shortCurrent 48 = .ok (.lmul, 1) := by decide +kernel
theorem dX3_shortCurrent_49 : decode cX3_shortCurrent 49 = .ok (.lload_n 2, 1) := by decide +kernel
theorem dX3_shortCurrent_50 : decode cX3_shortCurrent 50 = .ok (.ldiv, 1) := by decide +kernel
theorem dX3_shortCurrent_51 : decode cX3_shortCurrent 51 = .ok (.invokestatic 186, 3) := by decide +kernel
theorem dX3_shortCurrent_54 : decode cX3_shortCurrent 54 = .ok (.l2i, 1) := by decide +kernel
theorem dX3_shortCurrent_55 : decode cX3_shortCurrent 55 = .ok (.ireturn, 1) := by decide +kernel
theorem dX3_quickestOnWay_0 : decode cX3_quickestOnWay 0 = .ok (.aload_n 0, 1) := by decide +kernel
theorem dX3_quickestOnWay_1 : decode cX3_quickestOnWay 1 = .ok (.invokevirtual 88, 3) := by decide +kernel
theorem dX3_quickestOnWay_4 : decode cX3_quickestOnWay 4 = .ok (.astore_n 2, 1) := by decide +kernel
theorem dX3_quickestOnWay_5 : decode cX3_quickestOnWay 5 = .ok (.aload_n 0, 1) := by decide +kernel
theorem dX3_quickestOnWay_6 : decode cX3_quickestOnWay 6 = .ok (.getfield 36, 3) := by decide +kernel
theorem dX3_quickestOnWay_9 : decode cX3_quickestOnWay 9 = .ok (.astore_n 3, 1) := by decide +kernel
theorem dX3_quickestOnWay_10 : decode cX3_quickestOnWay 10 = .ok (.aload_n 3, 1) := by decide +kernel
theorem dX3_quickestOnWay_11 : decode cX3_quickestOnWay 11 = .ok (.ifnull 31, 3) := by decide +kernel
theorem dX3_quickestOnWay_14 : decode cX3_quickestOnWay 14 = .ok (.aload_n 3, 1) := by decide +kernel
theorem dX3_quickestOnWay_15 : decode cX3_quickestOnWay 15 = .ok (.invokevirtual 88, 3) := by decide +kernel
theorem dX3_quickestOnWay_18 : decode cX3_quickestOnWay 18 = .ok (.iconst 1, 1) := by decide +kernel
theorem dX3_quickestOnWay_19 : decode cX3_quickestOnWay 19 = .ok (.iconst 0, 1) := by decide +kernel
theorem dX3_quickestOnWay_20 : decode cX3_quickestOnWay 20 = .ok (.aload_n 2, 1) := by decide +kernel
theorem dX3_quickestOnWay_21 : decode cX3_quickestOnWay 21 = .ok (.iconst 1, 1) := by decide +kernel
theorem dX3_quickestOnWay_22 : decode cX3_quickestOnWay 22 = .ok (.iload_n 1, 1) := by decide +kernel
theorem dX3_quickestOnWay_23 : decode cX3_quickestOnWay 23 = .ok (.invokevirtual 138, 3) := by decide +kernel
theorem dX3_quickestOnWay_26 : decode cX3_quickestOnWay 26 = .ok (.ifCond .eq 8, 3) := by decide +kernel
theorem dX3_quickestOnWay_29 : decode cX3_quickestOnWay 29 = .ok (.aload_n 3, 1) := by decide +kernel
theorem dX3_quickestOnWay_30 : decode cX3_quickestOnWay 30 = .ok (.invokevirtual 88, 3) := by decide +kernel
theorem dX3_quickestOnWay_33 : decode cX3_quickestOnWay 33 = .ok (.astore_n 2, 1) := by decide +kernel
theorem dX3_quickestOnWay_34 : decode cX3_quickestOnWay 34 = .ok (.aload_n 3, 1) := by decide +kernel
theorem dX3_quickestOnWay_35 : decode cX3_quickestOnWay 35 = .ok (.getfield 36, 3) := by decide +kernel
theorem dX3_quickestOnWay_38 : decode cX3_quickestOnWay 38 = .ok (.astore_n 3, 1) := by decide +kernel
theorem dX3_quickestOnWay_39 : decode cX3_quickestOnWay 39 = .ok (.goto (-29), 3) := by decide +kernel
theorem dX3_quickestOnWay_42 : decode cX3_quickestOnWay 42 = .ok (.aload_n 2, 1) := by decide +kernel
theorem dX3_quickestOnWay_43 : decode cX3_quickestOnWay 43 = .ok (.areturn, 1) := by decide +kernel
