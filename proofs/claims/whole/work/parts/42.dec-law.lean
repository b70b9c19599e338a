theorem dL_device_0 : decode cL_device 0 = .ok (.aload_n 2, 1) := by decide +kernel
theorem dL_device_1 : decode cL_device 1 = .ok (.iconst 0, 1) := by decide +kernel
theorem dL_device_2 : decode cL_device 2 = .ok (.aload_n 0, 1) := by decide +kernel
theorem dL_device_3 : decode cL_device 3 = .ok (.iload_n 1, 1) := by decide +kernel
theorem dL_device_4 : decode cL_device 4 = .ok (.invokevirtual 7, 3) := by decide +kernel
theorem dL_device_7 : decode cL_device 7 = .ok (.i2l, 1) := by decide +kernel
theorem dL_device_8 : decode cL_device 8 = .ok (.lastore, 1) := by decide +kernel
theorem dL_device_9 : decode cL_device 9 = .ok (.goto 9, 3) := by decide +kernel
theorem dL_device_12 : decode cL_device 12 = .ok (.astore_n 3, 1) := by decide +kernel
theorem dL_device_13 : decode cL_device 13 = .ok (.iconst 1, 1) := by decide +kernel
theorem dL_device_14 : decode cL_device 14 = .ok (.ireturn, 1) := by decide +kernel
theorem dL_device_15 : decode cL_device 15 = .ok (.astore_n 3, 1) := by decide +kernel
theorem dL_device_16 : decode cL_device 16 = .ok (.iconst 2, 1) := by decide +kernel
theorem dL_device_17 : decode cL_device 17 = .ok (.ireturn, 1) := by decide +kernel
theorem dL_device_18 : decode cL_device 18 = .ok (.iconst 0, 1) := by decide +kernel
theorem dL_device_19 : decode cL_device 19 = .ok (.ireturn, 1) := by decide +kernel
theorem dL_point_0 : decode cL_point 0 = .ok (.aload 5, 2) := by decide +kernel
theorem dL_point_2 : decode cL_point 2 = .ok (.iconst 0, 1) := by decide +kernel
theorem dL_point_3 : decode cL_point 3 = .ok (.aload_n 0, 1) := by decide +kernel
theorem dL_point_4 : decode cL_point 4 = .ok (.iload_n 1, 1) := by decide +kernel
theorem dL_point_5 : decode cL_point 5 = .ok (.iload_n 2, 1) := by decide +kernel
theorem dL_point_6 : decode cL_point 6 = .ok (.iload_n 3, 1) := by decide +kernel
theorem dL_point_7 : decode cL_point 7 = .ok (.iload 4, 2) := by decide +kernel
theorem dL_point_9 : decode cL_point 9 = .ok (.invokevirtual 17, 3) := by decide +kernel
theorem dL_point_12 : decode cL_point 12 = .ok (.i2l, 1) := by decide +kernel
theorem dL_point_13 : decode cL_point 13 = .ok (.lastore, 1) := by decide +kernel
theorem dL_point_14 : decode cL_point 14 = .ok (.goto 11, 3) := by decide +kernel
theorem dL_point_17 : decode cL_point 17 = .ok (.astore 6, 2) := by decide +kernel
theorem dL_point_19 : decode cL_point 19 = .ok (.iconst 1, 1) := by decide +kernel
theorem dL_point_20 : decode cL_point 20 = .ok (.ireturn, 1) := by decide +kernel
theorem dL_point_21 : decode cL_point 21 = .ok (.astore 6, 2) := by decide +kernel
theorem dL_point_23 : decode cL_point 23 = .ok (.iconst 2, 1) := by decide +kernel
theorem dL_point_24 : decode cL_point 24 = .ok (.ireturn, 1) := by decide +kernel
theorem dL_point_25 : decode cL_point 25 = .ok (.iconst 0, 1) := by decide +kernel
theorem dL_point_26 : decode cL_point 26 = .ok (.ireturn, 1) := by decide +kernel
theorem dL_option_0 : decode cL_option 0 = .ok (.aload 4, 2) := by decide +kernel
theorem dL_option_2 : decode cL_option 2 = .ok (.iconst 0, 1) := by decide +kernel
theorem dL_option_3 : decode cL_option 3 = .ok (.aload_n 0, 1) := by decide +kernel
theorem dL_option_4 : decode cL_option 4 = .ok (.iload_n 1, 1) := by decide +kernel
theorem dL_option_5 : decode cL_option 5 = .ok (.iload_n 2, 1) := by decide +kernel
theorem dL_option_6 : decode cL_option 6 = .ok (.iload_n 3, 1) := by decide +kernel
theorem dL_option_7 : decode cL_option 7 = .ok (.invokevirtual 21, 3) := by decide +kernel
theorem dL_option_10 : decode cL_option 10 = .ok (.i2l, 1) := by decide +kernel
theorem dL_option_11 : decode cL_option 11 = .ok (.lastore, 1) := by decide +kernel
theorem dL_option_12 : decode cL_option 12 = .ok (.goto 11, 3) := by decide +kernel
theorem dL_option_15 : decode cL_option 15 = .ok (.astore 5, 2) := by decide +kernel
theorem dL_option_17 : decode cL_option 17 = .ok (.iconst 1, 1) := by decide +kernel
theorem dL_option_18 : decode cL_option 18 = .ok (.ireturn, 1) := by decide +kernel
theorem dL_option_19 : decode cL_option 19 = .ok (.astore 5, 2) := by decide +kernel
theorem dL_option_21 : decode cL_option 21 = .ok (.iconst 2, 1) := by decide +kernel
theorem dL_option_22 : decode cL_option 22 = .ok (.ireturn, 1) := by decide +kernel
theorem dL_option_23 : decode cL_option 23 = .ok (.iconst 0, 1) := by decide +kernel
theorem dL_option_24 : decode cL_option 24 = .ok (.ireturn, 1) := by decide +kernel
theorem dL_choose_0 : decode cL_choose 0 = .ok (.aload_n 3, 1) := by decide +kernel
theorem dL_choose_1 : decode cL_choose 1 = .ok (.iconst 0, 1) := by decide +kernel
theorem dL_choose_2 : decode cL_choose 2 = .ok (.aload_n 0, 1) := by decide +kernel
theorem dL_choose_3 : decode cL_choose 3 = .ok (.iload_n 1, 1) := by decide +kernel
theorem dL_choose_4 : decode cL_choose 4 = .ok (.iload_n 2, 1) := by decide +kernel
theorem dL_choose_5 : decode cL_choose 5 = .ok (.invokevirtual 25, 3) := by decide +kernel
theorem dL_choose_8 : decode cL_choose 8 = .ok (.i2l, 1) := by decide +kernel
theorem dL_choose_9 : decode cL_choose 9 = .ok (.lastore, 1) := by decide +kernel
theorem dL_choose_10 : decode cL_choose 10 = .ok (.goto 7, 3) := by decide +kernel
theorem dL_choose_13 : decode cL_choose 13 = .ok (.astore 4, 2) := by decide +kernel
theorem dL_choose_15 : decode cL_choose 15 = .ok (.iconst 1, 1) := by decide +kernel
theorem dL_choose_16 : decode cL_choose 16 = .ok (.ireturn, 1) := by decide +kernel
theorem dL_choose_17 : decode cL_choose 17 = .ok (.iconst 0, 1) := by decide +kernel
theorem dL_choose_18 : decode cL_choose 18 = .ok (.ireturn, 1) := by decide +kernel
theorem dL_time_0 : decode cL_time 0 = .ok (.aload 4, 2) := by decide +kernel
theorem dL_time_2 : decode cL_time 2 = .ok (.iconst 0, 1) := by decide +kernel
theorem dL_time_3 : decode cL_time 3 = .ok (.aload_n 0, 1) := by decide +kernel
theorem dL_time_4 : decode cL_time 4 = .ok (.iload_n 1, 1) := by decide +kernel
theorem dL_time_5 : decode cL_time 5 = .ok (.iload_n 2, 1) := by decide +kernel
theorem dL_time_6 : decode cL_time 6 = .ok (.iload_n 3, 1) := by decide +kernel
theorem dL_time_7 : decode cL_time 7 = .ok (.invokevirtual 29, 3) := by decide +kernel
theorem dL_time_10 : decode cL_time 10 = .ok (.i2l, 1) := by decide +kernel
theorem dL_time_11 : decode cL_time 11 = .ok (.lastore, 1) := by decide +kernel
theorem dL_time_12 : decode cL_time 12 = .ok (.goto 7, 3) := by decide +kernel
theorem dL_time_15 : decode cL_time 15 = .ok (.astore 5, 2) := by decide +kernel
theorem dL_time_17 : decode cL_time 17 = .ok (.iconst 1, 1) := by decide +kernel
theorem dL_time_18 : decode cL_time 18 = .ok (.ireturn, 1) := by decide +kernel
theorem dL_time_19 : decode cL_time 19 = .ok (.iconst 0, 1) := by decide +kernel
theorem dL_time_20 : decode cL_time 20 = .ok (.ireturn, 1) := by decide +kernel
theorem dL_opensFrom_0 : decode cL_opensFrom 0 = .ok (.aload_n 2, 1) := by decide +kernel
theorem dL_opensFrom_1 : decode cL_opensFrom 1 = .ok (.iconst 0, 1) := by decide +kernel
theorem dL_opensFrom_2 : decode cL_opensFrom 2 = .ok (.aload_n 0, 1) := by decide +kernel
theorem dL_opensFrom_3 : decode cL_opensFrom 3 = .ok (.iload_n 1, 1) := by decide +kernel
theorem dL_opensFrom_4 : decode cL_opensFrom 4 = .ok (.invokevirtual 33, 3) := by decide +kernel
theorem dL_opensFrom_7 : decode cL_opensFrom 7 = .ok (.i2l, 1) := by decide +kernel
theorem dL_opensFrom_8 : decode cL_opensFrom 8 = .ok (.lastore, 1) := by decide +kernel
theorem dL_opensFrom_9 : decode cL_opensFrom 9 = .ok (.goto 6, 3) := by decide +kernel
theorem dL_opensFrom_12 : decode cL_opensFrom 12 = .ok (.astore_n 3, 1) := by decide +kernel
theorem dL_opensFrom_13 : decode cL_opensFrom 13 = .ok (.iconst 1, 1) := by decide +kernel
theorem dL_opensFrom_14 : decode cL_opensFrom 14 = .ok (.ireturn, 1) := by decide +kernel
theorem dL_opensFrom_15 : decode cL_opensFrom 15 = .ok (.iconst 0, 1) := by decide +kernel
theorem dL_opensFrom_16 : decode cL_opensFrom 16 = .ok (.ireturn, 1) := by decide +kernel
theorem dL_order_0 : decode cL_order 0 = .ok (.aload 4, 2) := by decide +kernel
theorem dL_order_2 : decode cL_order 2 = .ok (.iconst 0, 1) := by decide +kernel
theorem dL_order_3 : decode cL_order 3 = .ok (.aload_n 0, 1) := by decide +kernel
theorem dL_order_4 : decode cL_order 4 = .ok (.iload_n 1, 1) := by decide +kernel
theorem dL_order_5 : decode cL_order 5 = .ok (.iload_n 2, 1) := by decide +kernel
theorem dL_order_6 : decode cL_order 6 = .ok (.iload_n 3, 1) := by decide +kernel
theorem dL_order_7 : decode cL_order 7 = .ok (.invokevirtual 36, 3) := by decide +kernel
theorem dL_order_10 : decode cL_order 10 = .ok (.i2l, 1) := by decide +kernel
theorem dL_order_11 : decode cL_order 11 = .ok (.lastore, 1) := by decide +kernel
theorem dL_order_12 : decode cL_order 12 = .ok (.goto 7, 3) := by decide +kernel
theorem dL_order_15 : decode cL_order 15 = .ok (.astore 5, 2) := by decide +kernel
theorem dL_order_17 : decode cL_order 17 = .ok (.iconst 1, 1) := by decide +kernel
theorem dL_order_18 : decode cL_order 18 = .ok (.ireturn, 1) := by decide +kernel
theorem dL_order_19 : decode cL_order 19 = .ok (.iconst 0, 1) := by decide +kernel
theorem dL_order_20 : decode cL_order 20 = .ok (.ireturn, 1) := by decide +kernel
theorem dL_broken_0 : decode cL_broken 0 = .ok (.aload 4, 2) := by decide +kernel
theorem dL_broken_2 : decode cL_broken 2 = .ok (.iconst 0, 1) := by decide +kernel
theorem dL_broken_3 : decode cL_broken 3 = .ok (.aload_n 0, 1) := by decide +kernel
theorem dL_broken_4 : decode cL_broken 4 = .ok (.iload_n 1, 1) := by decide +kernel
theorem dL_broken_5 : decode cL_broken 5 = .ok (.iload_n 2, 1) := by decide +kernel
theorem dL_broken_6 : decode cL_broken 6 = .ok (.iload_n 3, 1) := by decide +kernel
theorem dL_broken_7 : decode cL_broken 7 = .ok (.invokevirtual 39, 3) := by decide +kernel
theorem dL_broken_10 : decode cL_broken 10 = .ok (.i2l, 1) := by decide +kernel
theorem dL_broken_11 : decode cL_broken 11 = .ok (.lastore, 1) := by decide +kernel
theorem dL_broken_12 : decode cL_broken 12 = .ok (.goto 7, 3) := by decide +kernel
theorem dL_broken_15 : decode cL_broken 15 = .ok (.astore 5, 2) := by decide +kernel
theorem dL_broken_17 : decode cL_broken 17 = .ok (.iconst 1, 1) := by decide +kernel
theorem dL_broken_18 : decode cL_broken 18 = .ok (.ireturn, 1) := by decide +kernel
theorem dL_broken_19 : decode cL_broken 19 = .ok (.iconst 0, 1) := by decide +kernel
theorem dL_broken_20 : decode cL_broken 20 = .ok (.ireturn, 1) := by decide +kernel
theorem dL_settle_0 : decode cL_settle 0 = .ok (.aload_n 2, 1) := by decide +kernel
theorem dL_settle_1 : decode cL_settle 1 = .ok (.iconst 0, 1) := by decide +kernel
theorem dL_settle_2 : decode cL_settle 2 = .ok (.aload_n 0, 1) := by decide +kernel
theorem dL_settle_3 : decode cL_settle 3 = .ok (.iload_n 1, 1) := by decide +kernel
theorem dL_settle_4 : decode cL_settle 4 = .ok (.invokevirtual 42, 3) := by decide +kernel
theorem dL_settle_7 : decode cL_settle 7 = .ok (.ifCond .eq 7, 3) := by decide +kernel
theorem dL_settle_10 : decode cL_settle 10 = .ok (.lconst 1, 1) := by decide +kernel
theorem dL_settle_11 : decode cL_settle 11 = .ok (.goto 4, 3) := by decide +kernel
theorem dL_settle_14 : decode cL_settle 14 = .ok (.lconst 0, 1) := by decide +kernel
theorem dL_settle_15 : decode cL_settle 15 = .ok (.lastore, 1) := by decide +kernel
theorem dL_settle_16 : decode cL_settle 16 = .ok (.goto 6, 3) := by decide +kernel
theorem dL_settle_19 : decode cL_settle 19 = .ok (.astore_n 3, 1) := by decide +kernel
theorem dL_settle_20 : decode cL_settle 20 = .ok (.iconst 1, 1) := by decide +kernel
theorem dL_settle_21 : decode cL_settle 21 = .ok (.ireturn, 1) := by decide +kernel
theorem dL_settle_22 : decode cL_settle 22 = .ok (.iconst 0, 1) := by decide +kernel
theorem dL_settle_23 : decode cL_settle 23 = .ok (.ireturn, 1) := by decide +kernel
theorem dL_chosen_0 : decode cL_chosen 0 = .ok (.aload_n 2, 1) := by decide +kernel
theorem dL_chosen_1 : decode cL_chosen 1 = .ok (.iconst 0, 1) := by decide +kernel
theorem dL_chosen_2 : decode cL_chosen 2 = .ok (.aload_n 0, 1) := by decide +kernel
theorem dL_chosen_3 : decode cL_chosen 3 = .ok (.iload_n 1, 1) := by decide +kernel
theorem dL_chosen_4 : decode cL_chosen 4 = .ok (.invokevirtual 46, 3) := by decide +kernel
theorem dL_chosen_7 : decode cL_chosen 7 = .ok (.i2l, 1) := by decide +kernel
theorem dL_chosen_8 : decode cL_chosen 8 = .ok (.lastore, 1) := by decide +kernel
theorem dL_chosen_9 : decode cL_chosen 9 = .ok (.goto 6, 3) := by decide +kernel
theorem dL_chosen_12 : decode cL_chosen 12 = .ok (.astore_n 3, 1) := by decide +kernel
theorem dL_chosen_13 : decode cL_chosen 13 = .ok (.iconst 1, 1) := by decide +kernel
theorem dL_chosen_14 : decode cL_chosen 14 = .ok (.ireturn, 1) := by decide +kernel
theorem dL_chosen_15 : decode cL_chosen 15 = .ok (.iconst 0, 1) := by decide +kernel
theorem dL_chosen_16 : decode cL_chosen 16 = .ok (.ireturn, 1) := by decide +kernel
theorem dL_impedance_0 : decode cL_impedance 0 = .ok (.aload_n 3, 1) := by decide +kernel
theorem dL_impedance_1 : decode cL_impedance 1 = .ok (.iconst 0, 1) := by decide +kernel
theorem dL_impedance_2 : decode cL_impedance 2 = .ok (.aload_n 0, 1) := by decide +kernel
theorem dL_impedance_3 : decode cL_impedance 3 = .ok (.iload_n 1, 1) := by decide +kernel
theorem dL_impedance_4 : decode cL_impedance 4 = .ok (.iload_n 2, 1) := by decide +kernel
theorem dL_impedance_5 : decode cL_impedance 5 = .ok (.invokevirtual 49, 3) := by decide +kernel
theorem dL_impedance_8 : decode cL_impedance 8 = .ok (.i2l, 1) := by decide +kernel
theorem dL_impedance_9 : decode cL_impedance 9 = .ok (.lastore, 1) := by decide +kernel
theorem dL_impedance_10 : decode cL_impedance 10 = .ok (.goto 7, 3) := by decide +kernel
theorem dL_impedance_13 : decode cL_impedance 13 = .ok (.astore 4, 2) := by decide +kernel
theorem dL_impedance_15 : decode cL_impedance 15 = .ok (.iconst 1, 1) := by decide +kernel
theorem dL_impedance_16 : decode cL_impedance 16 = .ok (.ireturn, 1) := by decide +kernel
theorem dL_impedance_17 : decode cL_impedance 17 = .ok (.iconst 0, 1) := by decide +kernel
theorem dL_impedance_18 : decode cL_impedance 18 = .ok (.ireturn, 1) := by decide +kernel
theorem dL_voltage_0 : decode cL_voltage 0 = .ok (.aload_n 2, 1) := by decide +kernel
theorem dL_voltage_1 : decode cL_voltage 1 = .ok (.iconst 0, 1) := by decide +kernel
theorem dL_voltage_2 : decode cL_voltage 2 = .ok (.aload_n 0, 1) := by decide +kernel
theorem dL_voltage_3 : decode cL_voltage 3 = .ok (.iload_n 1, 1) := by decide +kernel
theorem dL_voltage_4 : decode cL_voltage 4 = .ok (.invokevirtual 52, 3) := by decide +kernel
theorem dL_voltage_7 : decode cL_voltage 7 = .ok (.i2l, 1) := by decide +kernel
theorem dL_voltage_8 : decode cL_voltage 8 = .ok (.lastore, 1) := by decide +kernel
theorem dL_voltage_9 : decode cL_voltage 9 = .ok (.goto 6, 3) := by decide +kernel
theorem dL_voltage_12 : decode cL_voltage 12 = .ok (.astore_n 3, 1) := by decide +kernel
theorem dL_voltage_13 : decode cL_voltage 13 = .ok (.iconst 1, 1) := by decide +kernel
theorem dL_voltage_14 : decode cL_voltage 14 = .ok (.ireturn, 1) := by decide +kernel
theorem dL_voltage_15 : decode cL_voltage 15 = .ok (.iconst 0, 1) := by decide +kernel
theorem dL_voltage_16 : decode cL_voltage 16 = .ok (.ireturn, 1) := by decide +kernel
theorem dL_shortAt_0 : decode cL_shortAt 0 = .ok (.aload_n 2, 1) := by decide +kernel
theorem dL_shortAt_1 : decode cL_shortAt 1 = .ok (.iconst 0, 1) := by decide +kernel
theorem dL_shortAt_2 : decode cL_shortAt 2 = .ok (.aload_n 0, 1) := by decide +kernel
theorem dL_shortAt_3 : decode cL_shortAt 3 = .ok (.iload_n 1, 1) := by decide +kernel
theorem dL_shortAt_4 : decode cL_shortAt 4 = .ok (.invokevirtual 55, 3) := by decide +kernel
theorem dL_shortAt_7 : decode cL_shortAt 7 = .ok (.i2l, 1) := by decide +kernel
theorem dL_shortAt_8 : decode cL_shortAt 8 = .ok (.lastore, 1) := by decide +kernel
theorem dL_shortAt_9 : decode cL_shortAt 9 = .ok (.goto 6, 3) := by decide +kernel
theorem dL_shortAt_12 : decode cL_shortAt 12 = .ok (.astore_n 3, 1) := by decide +kernel
theorem dL_shortAt_13 : decode cL_shortAt 13 = .ok (.iconst 1, 1) := by decide +kernel
theorem dL_shortAt_14 : decode cL_shortAt 14 = .ok (.ireturn, 1) := by decide +kernel
theorem dL_shortAt_15 : decode cL_shortAt 15 = .ok (.iconst 0, 1) := by decide +kernel
theorem dL_shortAt_16 : decode cL_shortAt 16 = .ok (.ireturn, 1) := by decide +kernel
theorem dL_opens_0 : decode cL_opens 0 = .ok (.aload_n 3, 1) := by decide +kernel
theorem dL_opens_1 : decode cL_opens 1 = .ok (.iconst 0, 1) := by decide +kernel
theorem dL_opens_2 : decode cL_opens 2 = .ok (.aload_n 0, 1) := by decide +kernel
theorem dL_opens_3 : decode cL_opens 3 = .ok (.iload_n 1, 1) := by decide +kernel
theorem dL_opens_4 : decode cL_opens 4 = .ok (.iload_n 2, 1) := by decide +kernel
theorem dL_opens_5 : decode cL_opens 5 = .ok (.invokevirtual 58, 3) := by decide +kernel
theorem dL_opens_8 : decode cL_opens 8 = .ok (.i2l, 1) := by decide +kernel
theorem dL_opens_9 : decode cL_opens 9 = .ok (.lastore, 1) := by decide +kernel
theorem dL_opens_10 : decode cL_opens 10 = .ok (.goto 7, 3) := by decide +kernel
theorem dL_opens_13 : decode cL_opens 13 = .ok (.astore 4, 2) := by decide +kernel
theorem dL_opens_15 : decode cL_opens 15 = .ok (.iconst 1, 1) := by decide +kernel
theorem dL_opens_16 : decode cL_opens 16 = .ok (.ireturn, 1) := by decide +kernel
theorem dL_opens_17 : decode cL_opens 17 = .ok (.iconst 0, 1) := by decide +kernel
theorem dL_opens_18 : decode cL_opens 18 = .ok (.ireturn, 1) := by decide +kernel
