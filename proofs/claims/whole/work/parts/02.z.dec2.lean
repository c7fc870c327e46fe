theorem d_MO_init_0 : decode b_MO_init 0 = .ok (.aload_n 0, 1) := by decide +kernel
theorem d_MO_init_1 : decode b_MO_init 1 = .ok (.invokespecial 1, 3) := by decide +kernel
theorem d_MO_init_4 : decode b_MO_init 4 = .ok (.aload_n 0, 1) := by decide +kernel
theorem d_MO_init_5 : decode b_MO_init 5 = .ok (.bipush 30, 2) := by decide +kernel
theorem d_MO_init_7 : decode b_MO_init 7 = .ok (.newarray .int, 2) := by decide +kernel
theorem d_MO_init_9 : decode b_MO_init 9 = .ok (.putfield 7, 3) := by decide +kernel
theorem d_MO_init_12 : decode b_MO_init 12 = .ok (.aload_n 0, 1) := by decide +kernel
theorem d_MO_init_13 : decode b_MO_init 13 = .ok (.bipush 30, 2) := by decide +kernel
theorem d_MO_init_15 : decode b_MO_init 15 = .ok (.newarray .int, 2) := by decide +kernel
theorem d_MO_init_17 : decode b_MO_init 17 = .ok (.putfield 13, 3) := by decide +kernel
theorem d_MO_init_20 : decode b_MO_init 20 = .ok (.aload_n 0, 1) := by decide +kernel
theorem d_MO_init_21 : decode b_MO_init 21 = .ok (.bipush 30, 2) := by decide +kernel
theorem d_MO_init_23 : decode b_MO_init 23 = .ok (.newarray .int, 2) := by decide +kernel
theorem d_MO_init_25 : decode b_MO_init 25 = .ok (.putfield 16, 3) := by decide +kernel
theorem d_MO_init_28 : decode b_MO_init 28 = .ok (.aload_n 0, 1) := by decide +kernel
theorem d_MO_init_29 : decode b_MO_init 29 = .ok (.bipush 16, 2) := by decide +kernel
theorem d_MO_init_31 : decode b_MO_init 31 = .ok (.newarray .int, 2) := by decide +kernel
theorem d_MO_init_33 : decode b_MO_init 33 = .ok (.putfield 19, 3) := by decide +kernel
theorem d_MO_init_36 : decode b_MO_init 36 = .ok (.aload_n 0, 1) := by decide +kernel
theorem d_MO_init_37 : decode b_MO_init 37 = .ok (.bipush 16, 2) := by decide +kernel
theorem d_MO_init_39 : decode b_MO_init 39 = .ok (.newarray .int, 2) := by decide +kernel
theorem d_MO_init_41 : decode b_MO_init 41 = .ok (.putfield 22, 3) := by decide +kernel
theorem d_MO_init_44 : decode b_MO_init 44 = .ok (.aload_n 0, 1) := by decide +kernel
theorem d_MO_init_45 : decode b_MO_init 45 = .ok (.bipush 16, 2) := by decide +kernel
theorem d_MO_init_47 : decode b_MO_init 47 = .ok (.newarray .int, 2) := by decide +kernel
theorem d_MO_init_49 : decode b_MO_init 49 = .ok (.putfield 25, 3) := by decide +kernel
theorem d_MO_init_52 : decode b_MO_init 52 = .ok (.aload_n 0, 1) := by decide +kernel
theorem d_MO_init_53 : decode b_MO_init 53 = .ok (.bipush 16, 2) := by decide +kernel
theorem d_MO_init_55 : decode b_MO_init 55 = .ok (.newarray .int, 2) := by decide +kernel
theorem d_MO_init_57 : decode b_MO_init 57 = .ok (.putfield 28, 3) := by decide +kernel
theorem d_MO_init_60 : decode b_MO_init 60 = .ok (.aload_n 0, 1) := by decide +kernel
theorem d_MO_init_61 : decode b_MO_init 61 = .ok (.bipush 16, 2) := by decide +kernel
theorem d_MO_init_63 : decode b_MO_init 63 = .ok (.newarray .int, 2) := by decide +kernel
theorem d_MO_init_65 : decode b_MO_init 65 = .ok (.putfield 31, 3) := by decide +kernel
theorem d_MO_init_68 : decode b_MO_init 68 = .ok (.aload_n 0, 1) := by decide +kernel
theorem d_MO_init_69 : decode b_MO_init 69 = .ok (.sipush 128, 3) := by decide +kernel
theorem d_MO_init_72 : decode b_MO_init 72 = .ok (.newarray .int, 2) := by decide +kernel
theorem d_MO_init_74 : decode b_MO_init 74 = .ok (.putfield 34, 3) := by decide +kernel
theorem d_MO_init_77 : decode b_MO_init 77 = .ok (.aload_n 0, 1) := by decide +kernel
theorem d_MO_init_78 : decode b_MO_init 78 = .ok (.sipush 128, 3) := by decide +kernel
theorem d_MO_init_81 : decode b_MO_init 81 = .ok (.newarray .boolean, 2) := by decide +kernel
theorem d_MO_init_83 : decode b_MO_init 83 = .ok (.putfield 37, 3) := by decide +kernel
theorem d_MO_init_86 : decode b_MO_init 86 = .ok (.aload_n 0, 1) := by decide +kernel
theorem d_MO_init_87 : decode b_MO_init 87 = .ok (.sipush 480, 3) := by decide +kernel
theorem d_MO_init_90 : decode b_MO_init 90 = .ok (.newarray .int, 2) := by decide +kernel
theorem d_MO_init_92 : decode b_MO_init 92 = .ok (.putfield 41, 3) := by decide +kernel
theorem d_MO_init_95 : decode b_MO_init 95 = .ok (.aload_n 0, 1) := by decide +kernel
theorem d_MO_init_96 : decode b_MO_init 96 = .ok (.sipush 480, 3) := by decide +kernel
theorem d_MO_init_99 : decode b_MO_init 99 = .ok (.newarray .int, 2) := by decide +kernel
theorem d_MO_init_101 : decode b_MO_init 101 = .ok (.putfield 44, 3) := by decide +kernel
theorem d_MO_init_104 : decode b_MO_init 104 = .ok (.aload_n 0, 1) := by decide +kernel
theorem d_MO_init_105 : decode b_MO_init 105 = .ok (.sipush 3840, 3) := by decide +kernel
theorem d_MO_init_108 : decode b_MO_init 108 = .ok (.newarray .int, 2) := by decide +kernel
theorem d_MO_init_110 : decode b_MO_init 110 = .ok (.putfield 47, 3) := by decide +kernel
theorem d_MO_init_113 : decode b_MO_init 113 = .ok (.aload_n 0, 1) := by decide +kernel
theorem d_MO_init_114 : decode b_MO_init 114 = .ok (.sipush 1440, 3) := by decide +kernel
theorem d_MO_init_117 : decode b_MO_init 117 = .ok (.newarray .int, 2) := by decide +kernel
theorem d_MO_init_119 : decode b_MO_init 119 = .ok (.putfield 50, 3) := by decide +kernel
theorem d_MO_init_122 : decode b_MO_init 122 = .ok (.aload_n 0, 1) := by decide +kernel
theorem d_MO_init_123 : decode b_MO_init 123 = .ok (.sipush 300, 3) := by decide +kernel
theorem d_MO_init_126 : decode b_MO_init 126 = .ok (.newarray .int, 2) := by decide +kernel
theorem d_MO_init_128 : decode b_MO_init 128 = .ok (.putfield 53, 3) := by decide +kernel
theorem d_MO_init_131 : decode b_MO_init 131 = .ok (.return_, 1) := by decide +kernel
theorem d_MO_thrown_0 : decode b_MO_thrown 0 = .ok (.aload_n 0, 1) := by decide +kernel
theorem d_MO_thrown_1 : decode b_MO_thrown 1 = .ok (.getfield 56, 3) := by decide +kernel
theorem d_MO_thrown_4 : decode b_MO_thrown 4 = .ok (.ireturn, 1) := by decide +kernel
theorem d_MO_throwing_0 : decode b_MO_throwing 0 = .ok (.aload_n 0, 1) := by decide +kernel
theorem d_MO_throwing_1 : decode b_MO_throwing 1 = .ok (.iload_n 1, 1) := by decide +kernel
theorem d_MO_throwing_2 : decode b_MO_throwing 2 = .ok (.ifCond .eq 7, 3) := by decide +kernel
theorem d_MO_throwing_5 : decode b_MO_throwing 5 = .ok (.iconst 1, 1) := by decide +kernel
theorem d_MO_throwing_6 : decode b_MO_throwing 6 = .ok (.goto 29, 3) := by decide +kernel
theorem d_MO_throwing_9 : decode b_MO_throwing 9 = .ok (.iload_n 2, 1) := by decide +kernel
theorem d_MO_throwing_10 : decode b_MO_throwing 10 = .ok (.ifCond .eq 7, 3) := by decide +kernel
theorem d_MO_throwing_13 : decode b_MO_throwing 13 = .ok (.iconst 2, 1) := by decide +kernel
theorem d_MO_throwing_14 : decode b_MO_throwing 14 = .ok (.goto 21, 3) := by decide +kernel
theorem d_MO_throwing_17 : decode b_MO_throwing 17 = .ok (.iload_n 3, 1) := by decide +kernel
theorem d_MO_throwing_18 : decode b_MO_throwing 18 = .ok (.ifCond .eq 7, 3) := by decide +kernel
theorem d_MO_throwing_21 : decode b_MO_throwing 21 = .ok (.iconst 3, 1) := by decide +kernel
theorem d_MO_throwing_22 : decode b_MO_throwing 22 = .ok (.goto 13, 3) := by decide +kernel
theorem d_MO_throwing_25 : decode b_MO_throwing 25 = .ok (.iload 4, 2) := by decide +kernel
theorem d_MO_throwing_27 : decode b_MO_throwing 27 = .ok (.ifCond .eq 7, 3) := by decide +kernel
theorem d_MO_throwing_30 : decode b_MO_throwing 30 = .ok (.iconst 4, 1) := by decide +kernel
theorem d_MO_throwing_31 : decode b_MO_throwing 31 = .ok (.goto 4, 3) := by decide +kernel
theorem d_MO_throwing_34 : decode b_MO_throwing 34 = .ok (.iconst 0, 1) := by decide +kernel
theorem d_MO_throwing_35 : decode b_MO_throwing 35 = .ok (.putfield 56, 3) := by decide +kernel
theorem d_MO_throwing_38 : decode b_MO_throwing 38 = .ok (.aload_n 0, 1) := by decide +kernel
theorem d_MO_throwing_39 : decode b_MO_throwing 39 = .ok (.getfield 56, 3) := by decide +kernel
theorem d_MO_throwing_42 : decode b_MO_throwing 42 = .ok (.ifCond .le 7, 3) := by decide +kernel
theorem d_MO_throwing_45 : decode b_MO_throwing 45 = .ok (.iconst 1, 1) := by decide +kernel
theorem d_MO_throwing_46 : decode b_MO_throwing 46 = .ok (.goto 4, 3) := by decide +kernel
theorem d_MO_throwing_49 : decode b_MO_throwing 49 = .ok (.iconst 0, 1) := by decide +kernel
theorem d_MO_throwing_50 : decode b_MO_throwing 50 = .ok (.ireturn, 1) := by decide +kernel
theorem d_MO_in_0 : decode b_MO_in 0 = .ok (.iload_n 0, 1) := by decide +kernel
theorem d_MO_in_1 : decode b_MO_in 1 = .ok (.iload_n 1, 1) := by decide +kernel
theorem d_MO_in_2 : decode b_MO_in 2 = .ok (.if_icmp .lt 12, 3) := by decide +kernel
theorem d_MO_in_5 : decode b_MO_in 5 = .ok (.iload_n 0, 1) := by decide +kernel
theorem d_MO_in_6 : decode b_MO_in 6 = .ok (.iload_n 2, 1) := by decide +kernel
theorem d_MO_in_7 : decode b_MO_in 7 = .ok (.if_icmp .gt 7, 3) := by decide +kernel
theorem d_MO_in_10 : decode b_MO_in 10 = .ok (.iconst 1, 1) := by decide +kernel
theorem d_MO_in_11 : decode b_MO_in 11 = .ok (.goto 4, 3) := by decide +kernel
theorem d_MO_in_14 : decode b_MO_in 14 = .ok (.iconst 0, 1) := by decide +kernel
theorem d_MO_in_15 : decode b_MO_in 15 = .ok (.ireturn, 1) := by decide +kernel
theorem d_MO_isVehicle_0 : decode b_MO_isVehicle 0 = .ok (.iload_n 1, 1) := by decide +kernel
theorem d_MO_isVehicle_1 : decode b_MO_isVehicle 1 = .ok (.iconst 0, 1) := by decide +kernel
theorem d_MO_isVehicle_2 : decode b_MO_isVehicle 2 = .ok (.aload_n 0, 1) := by decide +kernel
theorem d_MO_isVehicle_3 : decode b_MO_isVehicle 3 = .ok (.getfield 60, 3) := by decide +kernel
theorem d_MO_isVehicle_6 : decode b_MO_isVehicle 6 = .ok (.iconst 1, 1) := by decide +kernel
theorem d_MO_isVehicle_7 : decode b_MO_isVehicle 7 = .ok (.isub, 1) := by decide +kernel
theorem d_MO_isVehicle_8 : decode b_MO_isVehicle 8 = .ok (.invokestatic 63, 3) := by decide +kernel
theorem d_MO_isVehicle_11 : decode b_MO_isVehicle 11 = .ok (.ireturn, 1) := by decide +kernel
theorem d_MO_isCupboard_0 : decode b_MO_isCupboard 0 = .ok (.iload_n 0, 1) := by decide +kernel
theorem d_MO_isCupboard_1 : decode b_MO_isCupboard 1 = .ok (.iconst 0, 1) := by decide +kernel
theorem d_MO_isCupboard_2 : decode b_MO_isCupboard 2 = .ok (.bipush 7, 2) := by decide +kernel
theorem d_MO_isCupboard_4 : decode b_MO_isCupboard 4 = .ok (.invokestatic 63, 3) := by decide +kernel
theorem d_MO_isCupboard_7 : decode b_MO_isCupboard 7 = .ok (.ireturn, 1) := by decide +kernel
theorem d_MO_isItem_0 : decode b_MO_isItem 0 = .ok (.iload_n 0, 1) := by decide +kernel
theorem d_MO_isItem_1 : decode b_MO_isItem 1 = .ok (.iconst 0, 1) := by decide +kernel
theorem d_MO_isItem_2 : decode b_MO_isItem 2 = .ok (.bipush 29, 2) := by decide +kernel
theorem d_MO_isItem_4 : decode b_MO_isItem 4 = .ok (.invokestatic 63, 3) := by decide +kernel
theorem d_MO_isItem_7 : decode b_MO_isItem 7 = .ok (.ireturn, 1) := by decide +kernel
theorem d_MO_isThing_0 : decode b_MO_isThing 0 = .ok (.aload_n 0, 1) := by decide +kernel
theorem d_MO_isThing_1 : decode b_MO_isThing 1 = .ok (.iload_n 1, 1) := by decide +kernel
theorem d_MO_isThing_2 : decode b_MO_isThing 2 = .ok (.invokevirtual 67, 3) := by decide +kernel
theorem d_MO_isThing_5 : decode b_MO_isThing 5 = .ok (.ifCond .eq 21, 3) := by decide +kernel
theorem d_MO_isThing_8 : decode b_MO_isThing 8 = .ok (.iload_n 2, 1) := by decide +kernel
theorem d_MO_isThing_9 : decode b_MO_isThing 9 = .ok (.invokestatic 71, 3) := by decide +kernel
theorem d_MO_isThing_12 : decode b_MO_isThing 12 = .ok (.ifCond .eq 14, 3) := by decide +kernel
theorem d_MO_isThing_15 : decode b_MO_isThing 15 = .ok (.iload_n 3, 1) := by decide +kernel
theorem d_MO_isThing_16 : decode b_MO_isThing 16 = .ok (.invokestatic 74, 3) := by decide +kernel
theorem d_MO_isThing_19 : decode b_MO_isThing 19 = .ok (.ifCond .eq 7, 3) := by decide +kernel
theorem d_MO_isThing_22 : decode b_MO_isThing 22 = .ok (.iconst 1, 1) := by decide +kernel
theorem d_MO_isThing_23 : decode b_MO_isThing 23 = .ok (.goto 4, 3) := by decide +kernel
theorem d_MO_isThing_26 : decode b_MO_isThing 26 = .ok (.iconst 0, 1) := by decide +kernel
theorem d_MO_isThing_27 : decode b_MO_isThing 27 = .ok (.ireturn, 1) := by decide +kernel
theorem d_MO_isLimit_0 : decode b_MO_isLimit 0 = .ok (.iload_n 0, 1) := by decide +kernel
theorem d_MO_isLimit_1 : decode b_MO_isLimit 1 = .ok (.iconst 0, 1) := by decide +kernel
theorem d_MO_isLimit_2 : decode b_MO_isLimit 2 = .ok (.ldc 77, 2) := by decide +kernel
theorem d_MO_isLimit_4 : decode b_MO_isLimit 4 = .ok (.invokestatic 63, 3) := by decide +kernel
theorem d_MO_isLimit_7 : decode b_MO_isLimit 7 = .ok (.ireturn, 1) := by decide +kernel
theorem d_MO_vehicle_0 : decode b_MO_vehicle 0 = .ok (.iload_n 2, 1) := by decide +kernel
theorem d_MO_vehicle_1 : decode b_MO_vehicle 1 = .ok (.sipush 1000, 3) := by decide +kernel
theorem d_MO_vehicle_4 : decode b_MO_vehicle 4 = .ok (.sipush 8000, 3) := by decide +kernel
theorem d_MO_vehicle_7 : decode b_MO_vehicle 7 = .ok (.invokestatic 63, 3) := by decide +kernel
theorem d_MO_vehicle_10 : decode b_MO_vehicle 10 = .ok (.ifCond .eq 18, 3) := by decide +kernel
theorem d_MO_vehicle_13 : decode b_MO_vehicle 13 = .ok (.iload_n 3, 1) := by decide +kernel
theorem d_MO_vehicle_14 : decode b_MO_vehicle 14 = .ok (.invokestatic 78, 3) := by decide +kernel
theorem d_MO_vehicle_17 : decode b_MO_vehicle 17 = .ok (.ifCond .eq 11, 3) := by decide +kernel
theorem d_MO_vehicle_20 : decode b_MO_vehicle 20 = .ok (.iload 4, 2) := by decide +kernel
theorem d_MO_vehicle_22 : decode b_MO_vehicle 22 = .ok (.invokestatic 78, 3) := by decide +kernel
theorem d_MO_vehicle_25 : decode b_MO_vehicle 25 = .ok (.ifCond .ne 7, 3) := by decide +kernel
theorem d_MO_vehicle_28 : decode b_MO_vehicle 28 = .ok (.iconst 1, 1) := by decide +kernel
theorem d_MO_vehicle_29 : decode b_MO_vehicle 29 = .ok (.goto 4, 3) := by decide +kernel
theorem d_MO_vehicle_32 : decode b_MO_vehicle 32 = .ok (.iconst 0, 1) := by decide +kernel
theorem d_MO_vehicle_33 : decode b_MO_vehicle 33 = .ok (.istore 5, 2) := by decide +kernel
theorem d_MO_vehicle_35 : decode b_MO_vehicle 35 = .ok (.aload_n 0, 1) := by decide +kernel
theorem d_MO_vehicle_36 : decode b_MO_vehicle 36 = .ok (.iload_n 1, 1) := by decide +kernel
theorem d_MO_vehicle_37 : decode b_MO_vehicle 37 = .ok (.iconst 0, 1) := by decide +kernel
theorem d_MO_vehicle_38 : decode b_MO_vehicle 38 = .ok (.iconst 5, 1) := by decide +kernel
theorem d_MO_vehicle_39 : decode b_MO_vehicle 39 = .ok (.invokestatic 63, 3) := by decide +kernel
theorem d_MO_vehicle_42 : decode b_MO_vehicle 42 = .ok (.ifCond .ne 7, 3) := by decide +kernel
theorem d_MO_vehicle_45 : decode b_MO_vehicle 45 = .ok (.iconst 1, 1) := by decide +kernel
theorem d_MO_vehicle_46 : decode b_MO_vehicle 46 = .ok (.goto 4, 3) := by decide +kernel
theorem d_MO_vehicle_49 : decode b_MO_vehicle 49 = .ok (.iconst 0, 1) := by decide +kernel
theorem d_MO_vehicle_50 : decode b_MO_vehicle 50 = .ok (.iload 5, 2) := by decide +kernel
theorem d_MO_vehicle_52 : decode b_MO_vehicle 52 = .ok (.aload_n 0, 1) := by decide +kernel
theorem d_MO_vehicle_53 : decode b_MO_vehicle 53 = .ok (.getfield 60, 3) := by decide +kernel
theorem d_MO_vehicle_56 : decode b_MO_vehicle 56 = .ok (.bipush 16, 2) := by decide +kernel
theorem d_MO_vehicle_58 : decode b_MO_vehicle 58 = .ok (.if_icmp .ne 7, 3) := by decide +kernel
theorem d_MO_vehicle_61 : decode b_MO_vehicle 61 = .ok (.iconst 1, 1) := by decide +kernel
theorem d_MO_vehicle_62 : decode b_MO_vehicle 62 = .ok (.goto 4, 3) := by decide +kernel
theorem d_MO_vehicle_65 : decode b_MO_vehicle 65 = .ok (.iconst 0, 1) := by decide +kernel
theorem d_MO_vehicle_66 : decode b_MO_vehicle 66 = .ok (.iconst 0, 1) := by decide +kernel
theorem d_MO_vehicle_67 : decode b_MO_vehicle 67 = .ok (.invokevirtual 81, 3) := by decide +kernel
theorem d_MO_vehicle_70 : decode b_MO_vehicle 70 = .ok (.ifCond .eq 5, 3) := by decide +kernel
theorem d_MO_vehicle_73 : decode b_MO_vehicle 73 = .ok (.iconst 0, 1) := by decide +kernel
theorem d_MO_vehicle_74 : decode b_MO_vehicle 74 = .ok (.ireturn, 1) := by decide +kernel
theorem d_MO_vehicle_75 : decode b_MO_vehicle 75 = .ok (.aload_n 0, 1) := by decide +kernel
theorem d_MO_vehicle_76 : decode b_MO_vehicle 76 = .ok (.getfield 19, 3) := by decide +kernel
theorem d_MO_vehicle_79 : decode b_MO_vehicle 79 = .ok (.aload_n 0, 1) := by decide +kernel
theorem d_MO_vehicle_80 : decode b_MO_vehicle 80 = .ok (.getfield 60, 3) := by decide +kernel
theorem d_MO_vehicle_83 : decode b_MO_vehicle 83 = .ok (.iload_n 1, 1) := by decide +kernel
theorem d_MO_vehicle_84 : decode b_MO_vehicle 84 = .ok (.iastore, 1) := by decide +kernel
theorem d_MO_vehicle_85 : decode b_MO_vehicle 85 = .ok (.aload_n 0, 1) := by decide +kernel
theorem d_MO_vehicle_86 : decode b_MO_vehicle 86 = .ok (.getfield 22, 3) := by decide +kernel
theorem d_MO_vehicle_89 : decode b_MO_vehicle 89 = .ok (.aload_n 0, 1) := by decide +kernel
theorem d_MO_vehicle_90 : decode b_MO_vehicle 90 = .ok (.getfield 60, 3) := by decide +kernel
theorem d_MO_vehicle_93 : decode b_MO_vehicle 93 = .ok (.iload_n 2, 1) := by decide +kernel
theorem d_MO_vehicle_94 : decode b_MO_vehicle 94 = .ok (.iastore, 1) := by decide +kernel
theorem d_MO_vehicle_95 : decode b_MO_vehicle 95 = .ok (.aload_n 0, 1) := by decide +kernel
theorem d_MO_vehicle_96 : decode b_MO_vehicle 96 = .ok (.getfield 25, 3) := by decide +kernel
theorem d_MO_vehicle_99 : decode b_MO_vehicle 99 = .ok (.aload_n 0, 1) := by decide +kernel
theorem d_MO_vehicle_100 : decode b_MO_vehicle 100 = .ok (.getfield 60, 3) := by decide +kernel
theorem d_MO_vehicle_103 : decode b_MO_vehicle 103 = .ok (.iload_n 3, 1) := by decide +kernel
theorem d_MO_vehicle_104 : decode b_MO_vehicle 104 = .ok (.iastore, 1) := by decide +kernel
theorem d_MO_vehicle_105 : decode b_MO_vehicle 105 = .ok (.aload_n 0, 1) := by decide +kernel
theorem d_MO_vehicle_106 : decode b_MO_vehicle 106 = .ok (.getfield 28, 3) := by decide +kernel
theorem d_MO_vehicle_109 : decode b_MO_vehicle 109 = .ok (.aload_n 0, 1) := by decide +kernel
theorem d_MO_vehicle_110 : decode b_MO_vehicle 110 = .ok (.getfield 60, 3) := by decide +kernel
theorem d_MO_vehicle_113 : decode b_MO_vehicle 113 = .ok (.iload 4, 2) := by decide +kernel
theorem d_MO_vehicle_115 : decode b_MO_vehicle 115 = .ok (.iastore, 1) := by decide +kernel
theorem d_MO_vehicle_116 : decode b_MO_vehicle 116 = .ok (.aload_n 0, 1) := by decide +kernel
theorem d_MO_vehicle_117 : decode b_MO_vehicle 117 = .ok (.getfield 31, 3) := by decide +kernel
theorem d_MO_vehicle_120 : decode b_MO_vehicle 120 = .ok (.aload_n 0, 1) := by decide +kernel
theorem d_MO_vehicle_121 : decode b_MO_vehicle 121 = .ok (.getfield 60, 3) := by decide +kernel
theorem d_MO_vehicle_124 : decode b_MO_vehicle 124 = .ok (.iconst (-1), 1) := by decide +kernel
theorem d_MO_vehicle_125 : decode b_MO_vehicle 125 = .ok (.iastore, 1) := by decide +kernel
theorem d_MO_vehicle_126 : decode b_MO_vehicle 126 = .ok (.iconst 0, 1) := by decide +kernel
theorem d_MO_vehicle_127 : decode b_MO_vehicle 127 = .ok (.istore 6, 2) := by decide +kernel
theorem d_MO_vehicle_129 : decode b_MO_vehicle 129 = .ok (.iload 6, 2) := by decide +kernel
theorem d_MO_vehicle_131 : decode b_MO_vehicle 131 = .ok (.bipush 30, 2) := by decide +kernel
theorem d_MO_vehicle_133 : decode b_MO_vehicle 133 = .ok (.if_icmp .ge 42, 3) := by decide +kernel
theorem d_MO_vehicle_136 : decode b_MO_vehicle 136 = .ok (.aload_n 0, 1) := by decide +kernel
theorem d_MO_vehicle_137 : decode b_MO_vehicle 137 = .ok (.getfield 41, 3) := by decide +kernel
theorem d_MO_vehicle_140 : decode b_MO_vehicle 140 = .ok (.bipush 30, 2) := by decide +kernel
theorem d_MO_vehicle_142 : decode b_MO_vehicle 142 = .ok (.aload_n 0, 1) := by decide +kernel
theorem d_MO_vehicle_143 : decode b_MO_vehicle 143 = .ok (.getfield 60, 3) := by decide +kernel
theorem d_MO_vehicle_146 : decode b_MO_vehicle 146 = .ok (.imul, 1) := by decide +kernel
theorem d_MO_vehicle_147 : decode b_MO_vehicle 147 = .ok (.iload 6, 2) := by decide +kernel
theorem d_MO_vehicle_149 : decode b_MO_vehicle 149 = .ok (.iadd, 1) := by decide +kernel
theorem d_MO_vehicle_150 : decode b_MO_vehicle 150 = .ok (.iconst (-1), 1) := by decide +kernel
theorem d_MO_vehicle_151 : decode b_MO_vehicle 151 = .ok (.iastore, 1) := by decide +kernel
theorem d_MO_vehicle_152 : decode b_MO_vehicle 152 = .ok (.aload_n 0, 1) := by decide +kernel
theorem d_MO_vehicle_153 : decode b_MO_vehicle 153 = .ok (.getfield 44, 3) := by decide +kernel
theorem d_MO_vehicle_156 : decode b_MO_vehicle 156 = .ok (.bipush 30, 2) := by decide +kernel
theorem d_MO_vehicle_158 : decode b_MO_vehicle 158 = .ok (.aload_n 0, 1) := by decide +kernel
theorem d_MO_vehicle_159 : decode b_MO_vehicle 159 = .ok (.getfield 60, 3) := by decide +kernel
theorem d_MO_vehicle_162 : decode b_MO_vehicle 162 = .ok (.imul, 1) := by decide +kernel
theorem d_MO_vehicle_163 : decode b_MO_vehicle 163 = .ok (.iload 6, 2) := by decide +kernel
theorem d_MO_vehicle_165 : decode b_MO_vehicle 165 = .ok (.iadd, 1) := by decide +kernel
theorem d_MO_vehicle_166 : decode b_MO_vehicle 166 = .ok (.bipush 100, 2) := by decide +kernel
theorem d_MO_vehicle_168 : decode b_MO_vehicle 168 = .ok (.iastore, 1) := by decide +kernel
theorem d_MO_vehicle_169 : decode b_MO_vehicle 169 = .ok (.iinc 6 1, 3) := by decide +kernel
theorem d_MO_vehicle_172 : decode b_MO_vehicle 172 = .ok (.goto (-43), 3) := by decide +kernel
theorem d_MO_vehicle_175 : decode b_MO_vehicle 175 = .ok (.aload_n 0, 1) := by decide +kernel
theorem d_MO_vehicle_176 : decode b_MO_vehicle 176 = .ok (.dup, 1) := by decide +kernel
theorem d_MO_vehicle_177 : decode b_MO_vehicle 177 = .ok (.getfield 60, 3) := by decide +kernel
theorem d_MO_vehicle_180 : decode b_MO_vehicle 180 = .ok (.iconst 1, 1) := by decide +kernel
theorem d_MO_vehicle_181 : decode b_MO_vehicle 181 = .ok (.iadd, 1) := by decide +kernel
theorem d_MO_vehicle_182 : decode b_MO_vehicle 182 = .ok (.putfield 60, 3) := by decide +kernel
theorem d_MO_vehicle_185 : decode b_MO_vehicle 185 = .ok (.aload_n 0, 1) := by decide +kernel
theorem d_MO_vehicle_186 : decode b_MO_vehicle 186 = .ok (.getfield 60, 3) := by decide +kernel
theorem d_MO_vehicle_189 : decode b_MO_vehicle 189 = .ok (.iconst 1, 1) := by decide +kernel
theorem d_MO_vehicle_190 : decode b_MO_vehicle 190 = .ok (.isub, 1) := by decide +kernel
theorem d_MO_vehicle_191 : decode b_MO_vehicle 191 = .ok (.ireturn, 1) := by decide +kernel
theorem d_MO_limits_0 : decode b_MO_limits 0 = .ok (.aload_n 0, 1) := by decide +kernel
theorem d_MO_limits_1 : decode b_MO_limits 1 = .ok (.aload_n 0, 1) := by decide +kernel
theorem d_MO_limits_2 : decode b_MO_limits 2 = .ok (.iload_n 1, 1) := by decide +kernel
theorem d_MO_limits_3 : decode b_MO_limits 3 = .ok (.invokevirtual 67, 3) := by decide +kernel
theorem d_MO_limits_6 : decode b_MO_limits 6 = .ok (.ifCond .ne 7, 3) := by decide +kernel
theorem d_MO_limits_9 : decode b_MO_limits 9 = .ok (.iconst 1, 1) := by decide +kernel
theorem d_MO_limits_10 : decode b_MO_limits 10 = .ok (.goto 4, 3) := by decide +kernel
theorem d_MO_limits_13 : decode b_MO_limits 13 = .ok (.iconst 0, 1) := by decide +kernel
theorem d_MO_limits_14 : decode b_MO_limits 14 = .ok (.iload_n 2, 1) := by decide +kernel
theorem d_MO_limits_15 : decode b_MO_limits 15 = .ok (.invokestatic 78, 3) := by decide +kernel
theorem d_MO_limits_18 : decode b_MO_limits 18 = .ok (.ifCond .eq 10, 3) := by decide +kernel
theorem d_MO_limits_21 : decode b_MO_limits 21 = .ok (.iload_n 3, 1) := by decide +kernel
theorem d_MO_limits_22 : decode b_MO_limits 22 = .ok (.invokestatic 78, 3) := by decide +kernel
theorem d_MO_limits_25 : decode b_MO_limits 25 = .ok (.ifCond .ne 7, 3) := by decide +kernel
theorem d_MO_limits_28 : decode b_MO_limits 28 = .ok (.iconst 1, 1) := by decide +kernel
theorem d_MO_limits_29 : decode b_MO_limits 29 = .ok (.goto 4, 3) := by decide +kernel
theorem d_MO_limits_32 : decode b_MO_limits 32 = .ok (.iconst 0, 1) := by decide +kernel
theorem d_MO_limits_33 : decode b_MO_limits 33 = .ok (.iconst 0, 1) := by decide +kernel
theorem d_MO_limits_34 : decode b_MO_limits 34 = .ok (.iconst 0, 1) := by decide +kernel
theorem d_MO_limits_35 : decode b_MO_limits 35 = .ok (.invokevirtual 81, 3) := by decide +kernel
theorem d_MO_limits_38 : decode b_MO_limits 38 = .ok (.ifCond .eq 4, 3) := by decide +kernel
theorem d_MO_limits_41 : decode b_MO_limits 41 = .ok (.return_, 1) := by decide +kernel
theorem d_MO_limits_42 : decode b_MO_limits 42 = .ok (.aload_n 0, 1) := by decide +kernel
theorem d_MO_limits_43 : decode b_MO_limits 43 = .ok (.getfield 25, 3) := by decide +kernel
theorem d_MO_limits_46 : decode b_MO_limits 46 = .ok (.iload_n 1, 1) := by decide +kernel
theorem d_MO_limits_47 : decode b_MO_limits 47 = .ok (.iload_n 2, 1) := by decide +kernel
theorem d_MO_limits_48 : decode b_MO_limits 48 = .ok (.iastore, 1) := by decide +kernel
theorem d_MO_limits_49 : decode b_MO_limits 49 = .ok (.aload_n 0, 1) := by decide +kernel
theorem d_MO_limits_50 : decode b_MO_limits 50 = .ok (.getfield 28, 3) := by decide +kernel
theorem d_MO_limits_53 : decode b_MO_limits 53 = .ok (.iload_n 1, 1) := by decide +kernel
theorem d_MO_limits_54 : decode b_MO_limits 54 = .ok (.iload_n 3, 1) := by decide +kernel
theorem d_MO_limits_55 : decode b_MO_limits 55 = .ok (.iastore, 1) := by decide +kernel
theorem d_MO_limits_56 : decode b_MO_limits 56 = .ok (.return_, 1) := by decide +kernel
theorem d_MO_isEmpty_0 : decode b_MO_isEmpty 0 = .ok (.iconst 1, 1) := by decide +kernel
theorem d_MO_isEmpty_1 : decode b_MO_isEmpty 1 = .ok (.istore_n 3, 1) := by decide +kernel
theorem d_MO_isEmpty_2 : decode b_MO_isEmpty 2 = .ok (.iconst 0, 1) := by decide +kernel
theorem d_MO_isEmpty_3 : decode b_MO_isEmpty 3 = .ok (.istore 4, 2) := by decide +kernel
theorem d_MO_isEmpty_5 : decode b_MO_isEmpty 5 = .ok (.iload 4, 2) := by decide +kernel
theorem d_MO_isEmpty_7 : decode b_MO_isEmpty 7 = .ok (.bipush 30, 2) := by decide +kernel
theorem d_MO_isEmpty_9 : decode b_MO_isEmpty 9 = .ok (.if_icmp .ge 40, 3) := by decide +kernel
theorem d_MO_isEmpty_12 : decode b_MO_isEmpty 12 = .ok (.iload_n 3, 1) := by decide +kernel
theorem d_MO_isEmpty_13 : decode b_MO_isEmpty 13 = .ok (.ifCond .eq 28, 3) := by decide +kernel
theorem d_MO_isEmpty_16 : decode b_MO_isEmpty 16 = .ok (.aload_n 0, 1) := by decide +kernel
theorem d_MO_isEmpty_17 : decode b_MO_isEmpty 17 = .ok (.getfield 47, 3) := by decide +kernel
theorem d_MO_isEmpty_20 : decode b_MO_isEmpty 20 = .ok (.sipush 240, 3) := by decide +kernel
theorem d_MO_isEmpty_23 : decode b_MO_isEmpty 23 = .ok (.iload_n 1, 1) := by decide +kernel
theorem d_MO_isEmpty_24 : decode b_MO_isEmpty 24 = .ok (.imul, 1) := by decide +kernel
theorem d_MO_isEmpty_25 : decode b_MO_isEmpty 25 = .ok (.bipush 30, 2) := by decide +kernel
theorem d_MO_isEmpty_27 : decode b_MO_isEmpty 27 = .ok (.iload_n 2, 1) := by decide +kernel
theorem d_MO_isEmpty_28 : decode b_MO_isEmpty 28 = .ok (.imul, 1) := by decide +kernel
theorem d_MO_isEmpty_29 : decode b_MO_isEmpty 29 = .ok (.iadd, 1) := by decide +kernel
theorem d_MO_isEmpty_30 : decode b_MO_isEmpty 30 = .ok (.iload 4, 2) := by decide +kernel
theorem d_MO_isEmpty_32 : decode b_MO_isEmpty 32 = .ok (.iadd, 1) := by decide +kernel
theorem d_MO_isEmpty_33 : decode b_MO_isEmpty 33 = .ok (.iaload, 1) := by decide +kernel
theorem d_MO_isEmpty_34 : decode b_MO_isEmpty 34 = .ok (.ifCond .ne 7, 3) := by decide +kernel
theorem d_MO_isEmpty_37 : decode b_MO_isEmpty 37 = .ok (.iconst 1, 1) := by decide +kernel
theorem d_MO_isEmpty_38 : decode b_MO_isEmpty 38 = .ok (.goto 4, 3) := by decide +kernel
theorem d_MO_isEmpty_41 : decode b_MO_isEmpty 41 = .ok (.iconst 0, 1) := by decide +kernel
theorem d_MO_isEmpty_42 : decode b_MO_isEmpty 42 = .ok (.istore_n 3, 1) := by decide +kernel
theorem d_MO_isEmpty_43 : decode b_MO_isEmpty 43 = .ok (.iinc 4 1, 3) := by decide +kernel
theorem d_MO_isEmpty_46 : decode b_MO_isEmpty 46 = .ok (.goto (-41), 3) := by decide +kernel
theorem d_MO_isEmpty_49 : decode b_MO_isEmpty 49 = .ok (.iload_n 3, 1) := by decide +kernel
theorem d_MO_isEmpty_50 : decode b_MO_isEmpty 50 = .ok (.ireturn, 1) := by decide +kernel
theorem d_MO_place_0 : decode b_MO_place 0 = .ok (.aload_n 0, 1) := by decide +kernel
theorem d_MO_place_1 : decode b_MO_place 1 = .ok (.iload_n 1, 1) := by decide +kernel
theorem d_MO_place_2 : decode b_MO_place 2 = .ok (.invokevirtual 67, 3) := by decide +kernel
theorem d_MO_place_5 : decode b_MO_place 5 = .ok (.ifCond .eq 10, 3) := by decide +kernel
theorem d_MO_place_8 : decode b_MO_place 8 = .ok (.iload_n 2, 1) := by decide +kernel
theorem d_MO_place_9 : decode b_MO_place 9 = .ok (.invokestatic 71, 3) := by decide +kernel
theorem d_MO_place_12 : decode b_MO_place 12 = .ok (.ifCond .ne 7, 3) := by decide +kernel
theorem d_MO_place_15 : decode b_MO_place 15 = .ok (.iconst 1, 1) := by decide +kernel
theorem d_MO_place_16 : decode b_MO_place 16 = .ok (.goto 4, 3) := by decide +kernel
theorem d_MO_place_19 : decode b_MO_place 19 = .ok (.iconst 0, 1) := by decide +kernel
theorem d_MO_place_20 : decode b_MO_place 20 = .ok (.istore 4, 2) := by decide +kernel
theorem d_MO_place_22 : decode b_MO_place 22 = .ok (.aload_n 0, 1) := by decide +kernel
theorem d_MO_place_23 : decode b_MO_place 23 = .ok (.iload 4, 2) := by decide +kernel
theorem d_MO_place_25 : decode b_MO_place 25 = .ok (.iload_n 3, 1) := by decide +kernel
theorem d_MO_place_26 : decode b_MO_place 26 = .ok (.sipush (-2000), 3) := by decide +kernel
theorem d_MO_place_29 : decode b_MO_place 29 = .ok (.sipush 10000, 3) := by decide +kernel
theorem d_MO_place_32 : decode b_MO_place 32 = .ok (.invokestatic 63, 3) := by decide +kernel
theorem d_MO_place_35 : decode b_MO_place 35 = .ok (.ifCond .ne 7, 3) := by decide +kernel
theorem d_MO_place_38 : decode b_MO_place 38 = .ok (.iconst 1, 1) := by decide +kernel
theorem d_MO_place_39 : decode b_MO_place 39 = .ok (.goto 4, 3) := by decide +kernel
theorem d_MO_place_42 : decode b_MO_place 42 = .ok (.iconst 0, 1) := by decide +kernel
theorem d_MO_place_43 : decode b_MO_place 43 = .ok (.iload 4, 2) := by decide +kernel
theorem d_MO_place_45 : decode b_MO_place 45 = .ok (.ifCond .ne 16, 3) := by decide +kernel
theorem d_MO_place_48 : decode b_MO_place 48 = .ok (.aload_n 0, 1) := by decide +kernel
theorem d_MO_place_49 : decode b_MO_place 49 = .ok (.iload_n 1, 1) := by decide +kernel
theorem d_MO_place_50 : decode b_MO_place 50 = .ok (.iload_n 2, 1) := by decide +kernel
theorem d_MO_place_51 : decode b_MO_place 51 = .ok (.invokevirtual 85, 3) := by decide +kernel
theorem d_MO_place_54 : decode b_MO_place 54 = .ok (.ifCond .ne 7, 3) := by decide +kernel
theorem d_MO_place_57 : decode b_MO_place 57 = .ok (.iconst 1, 1) := by decide +kernel
theorem d_MO_place_58 : decode b_MO_place 58 = .ok (.goto 4, 3) := by decide +kernel
theorem d_MO_place_61 : decode b_MO_place 61 = .ok (.iconst 0, 1) := by decide +kernel
theorem d_MO_place_62 : decode b_MO_place 62 = .ok (.iconst 0, 1) := by decide +kernel
theorem d_MO_place_63 : decode b_MO_place 63 = .ok (.invokevirtual 81, 3) := by decide +kernel
theorem d_MO_place_66 : decode b_MO_place 66 = .ok (.ifCond .eq 4, 3) := by decide +kernel
theorem d_MO_place_69 : decode b_MO_place 69 = .ok (.return_, 1) := by decide +kernel
theorem d_MO_place_70 : decode b_MO_place 70 = .ok (.aload_n 0, 1) := by decide +kernel
theorem d_MO_place_71 : decode b_MO_place 71 = .ok (.getfield 34, 3) := by decide +kernel
theorem d_MO_place_74 : decode b_MO_place 74 = .ok (.bipush 8, 2) := by decide +kernel
theorem d_MO_place_76 : decode b_MO_place 76 = .ok (.iload_n 1, 1) := by decide +kernel
theorem d_MO_place_77 : decode b_MO_place 77 = .ok (.imul, 1) := by decide +kernel
theorem d_MO_place_78 : decode b_MO_place 78 = .ok (.iload_n 2, 1) := by decide +kernel
theorem d_MO_place_79 : decode b_MO_place 79 = .ok (.iadd, 1) := by decide +kernel
theorem d_MO_place_80 : decode b_MO_place 80 = .ok (.iload_n 3, 1) := by decide +kernel
theorem d_MO_place_81 : decode b_MO_place 81 = .ok (.iastore, 1) := by decide +kernel
theorem d_MO_place_82 : decode b_MO_place 82 = .ok (.return_, 1) := by decide +kernel
theorem d_MO_isSomewhere_0 : decode b_MO_isSomewhere 0 = .ok (.aload_n 0, 1) := by decide +kernel
theorem d_MO_isSomewhere_1 : decode b_MO_isSomewhere 1 = .ok (.getfield 16, 3) := by decide +kernel
theorem d_MO_isSomewhere_4 : decode b_MO_isSomewhere 4 = .ok (.iload_n 1, 1) := by decide +kernel
theorem d_MO_isSomewhere_5 : decode b_MO_isSomewhere 5 = .ok (.iaload, 1) := by decide +kernel
theorem d_MO_isSomewhere_6 : decode b_MO_isSomewhere 6 = .ok (.ifCond .le 7, 3) := by decide +kernel
theorem d_MO_isSomewhere_9 : decode b_MO_isSomewhere 9 = .ok (.iconst 1, 1) := by decide +kernel
theorem d_MO_isSomewhere_10 : decode b_MO_isSomewhere 10 = .ok (.goto 4, 3) := by decide +kernel
theorem d_MO_isSomewhere_13 : decode b_MO_isSomewhere 13 = .ok (.iconst 0, 1) := by decide +kernel
theorem d_MO_isSomewhere_14 : decode b_MO_isSomewhere 14 = .ok (.istore_n 2, 1) := by decide +kernel
theorem d_MO_isSomewhere_15 : decode b_MO_isSomewhere 15 = .ok (.iconst 0, 1) := by decide +kernel
theorem d_MO_isSomewhere_16 : decode b_MO_isSomewhere 16 = .ok (.istore_n 3, 1) := by decide +kernel
theorem d_MO_isSomewhere_17 : decode b_MO_isSomewhere 17 = .ok (.iload_n 3, 1) := by decide +kernel
theorem d_MO_isSomewhere_18 : decode b_MO_isSomewhere 18 = .ok (.sipush 128, 3) := by decide +kernel
theorem d_MO_isSomewhere_21 : decode b_MO_isSomewhere 21 = .ok (.if_icmp .ge 33, 3) := by decide +kernel
theorem d_MO_isSomewhere_24 : decode b_MO_isSomewhere 24 = .ok (.iload_n 2, 1) := by decide +kernel
theorem d_MO_isSomewhere_25 : decode b_MO_isSomewhere 25 = .ok (.ifCond .ne 17, 3) := by decide +kernel
theorem d_MO_isSomewhere_28 : decode b_MO_isSomewhere 28 = .ok (.aload_n 0, 1) := by decide +kernel
theorem d_MO_isSomewhere_29 : decode b_MO_isSomewhere 29 = .ok (.getfield 47, 3) := by decide +kernel
theorem d_MO_isSomewhere_32 : decode b_MO_isSomewhere 32 = .ok (.bipush 30, 2) := by decide +kernel
theorem d_MO_isSomewhere_34 : decode b_MO_isSomewhere 34 = .ok (.iload_n 3, 1) := by decide +kernel
theorem d_MO_isSomewhere_35 : decode b_MO_isSomewhere 35 = .ok (.imul, 1) := by decide +kernel
theorem d_MO_isSomewhere_36 : decode b_MO_isSomewhere 36 = .ok (.iload_n 1, 1) := by decide +kernel
theorem d_MO_isSomewhere_37 : decode b_MO_isSomewhere 37 = .ok (.iadd, 1) := by decide +kernel
theorem d_MO_isSomewhere_38 : decode b_MO_isSomewhere 38 = .ok (.iaload, 1) := by decide +kernel
theorem d_MO_isSomewhere_39 : decode b_MO_isSomewhere 39 = .ok (.ifCond .le 7, 3) := by decide +kernel
theorem d_MO_isSomewhere_42 : decode b_MO_isSomewhere 42 = .ok (.iconst 1, 1) := by decide +kernel
theorem d_MO_isSomewhere_43 : decode b_MO_isSomewhere 43 = .ok (.goto 4, 3) := by decide +kernel
theorem d_MO_isSomewhere_46 : decode b_MO_isSomewhere 46 = .ok (.iconst 0, 1) := by decide +kernel
theorem d_MO_isSomewhere_47 : decode b_MO_isSomewhere 47 = .ok (.istore_n 2, 1) := by decide +kernel
theorem d_MO_isSomewhere_48 : decode b_MO_isSomewhere 48 = .ok (.iinc 3 1, 3) := by decide +kernel
theorem d_MO_isSomewhere_51 : decode b_MO_isSomewhere 51 = .ok (.goto (-34), 3) := by decide +kernel
theorem d_MO_isSomewhere_54 : decode b_MO_isSomewhere 54 = .ok (.iload_n 2, 1) := by decide +kernel
theorem d_MO_isSomewhere_55 : decode b_MO_isSomewhere 55 = .ok (.ireturn, 1) := by decide +kernel
theorem d_MO_item_0 : decode b_MO_item 0 = .ok (.iload_n 1, 1) := by decide +kernel
theorem d_MO_item_1 : decode b_MO_item 1 = .ok (.invokestatic 74, 3) := by decide +kernel
theorem d_MO_item_4 : decode b_MO_item 4 = .ok (.ifCond .ne 7, 3) := by decide +kernel
theorem d_MO_item_7 : decode b_MO_item 7 = .ok (.iconst 1, 1) := by decide +kernel
theorem d_MO_item_8 : decode b_MO_item 8 = .ok (.goto 4, 3) := by decide +kernel
theorem d_MO_item_11 : decode b_MO_item 11 = .ok (.iconst 0, 1) := by decide +kernel
theorem d_MO_item_12 : decode b_MO_item 12 = .ok (.istore 4, 2) := by decide +kernel
theorem d_MO_item_14 : decode b_MO_item 14 = .ok (.iload_n 2, 1) := by decide +kernel
theorem d_MO_item_15 : decode b_MO_item 15 = .ok (.iconst 0, 1) := by decide +kernel
theorem d_MO_item_16 : decode b_MO_item 16 = .ok (.ldc 89, 2) := by decide +kernel
theorem d_MO_item_18 : decode b_MO_item 18 = .ok (.invokestatic 63, 3) := by decide +kernel
theorem d_MO_item_21 : decode b_MO_item 21 = .ok (.ifCond .eq 13, 3) := by decide +kernel
theorem d_MO_item_24 : decode b_MO_item 24 = .ok (.iload_n 3, 1) := by decide +kernel
theorem d_MO_item_25 : decode b_MO_item 25 = .ok (.iconst 0, 1) := by decide +kernel
theorem d_MO_item_26 : decode b_MO_item 26 = .ok (.bipush 100, 2) := by decide +kernel
theorem d_MO_item_28 : decode b_MO_item 28 = .ok (.invokestatic 63, 3) := by decide +kernel
theorem d_MO_item_31 : decode b_MO_item 31 = .ok (.ifCond .ne 7, 3) := by decide +kernel
theorem d_MO_item_34 : decode b_MO_item 34 = .ok (.iconst 1, 1) := by decide +kernel
theorem d_MO_item_35 : decode b_MO_item 35 = .ok (.goto 4, 3) := by decide +kernel
theorem d_MO_item_38 : decode b_MO_item 38 = .ok (.iconst 0, 1) := by decide +kernel
theorem d_MO_item_39 : decode b_MO_item 39 = .ok (.istore 5, 2) := by decide +kernel
theorem d_MO_item_41 : decode b_MO_item 41 = .ok (.aload_n 0, 1) := by decide +kernel
theorem d_MO_item_42 : decode b_MO_item 42 = .ok (.iload 4, 2) := by decide +kernel
theorem d_MO_item_44 : decode b_MO_item 44 = .ok (.iload 5, 2) := by decide +kernel
theorem d_MO_item_46 : decode b_MO_item 46 = .ok (.iload 4, 2) := by decide +kernel
theorem d_MO_item_48 : decode b_MO_item 48 = .ok (.ifCond .ne 25, 3) := by decide +kernel
theorem d_MO_item_51 : decode b_MO_item 51 = .ok (.iload_n 2, 1) := by decide +kernel
theorem d_MO_item_52 : decode b_MO_item 52 = .ok (.aload_n 0, 1) := by decide +kernel
theorem d_MO_item_53 : decode b_MO_item 53 = .ok (.getfield 7, 3) := by decide +kernel
theorem d_MO_item_56 : decode b_MO_item 56 = .ok (.iload_n 1, 1) := by decide +kernel
theorem d_MO_item_57 : decode b_MO_item 57 = .ok (.iaload, 1) := by decide +kernel
theorem d_MO_item_58 : decode b_MO_item 58 = .ok (.if_icmp .eq 15, 3) := by decide +kernel
theorem d_MO_item_61 : decode b_MO_item 61 = .ok (.aload_n 0, 1) := by decide +kernel
theorem d_MO_item_62 : decode b_MO_item 62 = .ok (.iload_n 1, 1) := by decide +kernel
theorem d_MO_item_63 : decode b_MO_item 63 = .ok (.invokevirtual 90, 3) := by decide +kernel
theorem d_MO_item_66 : decode b_MO_item 66 = .ok (.ifCond .eq 7, 3) := by decide +kernel
theorem d_MO_item_69 : decode b_MO_item 69 = .ok (.iconst 1, 1) := by decide +kernel
theorem d_MO_item_70 : decode b_MO_item 70 = .ok (.goto 4, 3) := by decide +kernel
theorem d_MO_item_73 : decode b_MO_item 73 = .ok (.iconst 0, 1) := by decide +kernel
theorem d_MO_item_74 : decode b_MO_item 74 = .ok (.iconst 0, 1) := by decide +kernel
theorem d_MO_item_75 : decode b_MO_item 75 = .ok (.invokevirtual 81, 3) := by decide +kernel
theorem d_MO_item_78 : decode b_MO_item 78 = .ok (.ifCond .eq 4, 3) := by decide +kernel
theorem d_MO_item_81 : decode b_MO_item 81 = .ok (.return_, 1) := by decide +kernel
theorem d_MO_item_82 : decode b_MO_item 82 = .ok (.aload_n 0, 1) := by decide +kernel
theorem d_MO_item_83 : decode b_MO_item 83 = .ok (.getfield 7, 3) := by decide +kernel
theorem d_MO_item_86 : decode b_MO_item 86 = .ok (.iload_n 1, 1) := by decide +kernel
theorem d_MO_item_87 : decode b_MO_item 87 = .ok (.iload_n 2, 1) := by decide +kernel
theorem d_MO_item_88 : decode b_MO_item 88 = .ok (.iastore, 1) := by decide +kernel
theorem d_MO_item_89 : decode b_MO_item 89 = .ok (.aload_n 0, 1) := by decide +kernel
theorem d_MO_item_90 : decode b_MO_item 90 = .ok (.getfield 13, 3) := by decide +kernel
theorem d_MO_item_93 : decode b_MO_item 93 = .ok (.iload_n 1, 1) := by decide +kernel
theorem d_MO_item_94 : decode b_MO_item 94 = .ok (.iload_n 3, 1) := by decide +kernel
theorem d_MO_item_95 : decode b_MO_item 95 = .ok (.iastore, 1) := by decide +kernel
theorem d_MO_item_96 : decode b_MO_item 96 = .ok (.return_, 1) := by decide +kernel
theorem d_MO_list_0 : decode b_MO_list 0 = .ok (.aload_n 0, 1) := by decide +kernel
theorem d_MO_list_1 : decode b_MO_list 1 = .ok (.iload_n 1, 1) := by decide +kernel
theorem d_MO_list_2 : decode b_MO_list 2 = .ok (.iconst 0, 1) := by decide +kernel
theorem d_MO_list_3 : decode b_MO_list 3 = .ok (.iconst 5, 1) := by decide +kernel
theorem d_MO_list_4 : decode b_MO_list 4 = .ok (.invokestatic 63, 3) := by decide +kernel
theorem d_MO_list_7 : decode b_MO_list 7 = .ok (.ifCond .eq 17, 3) := by decide +kernel
theorem d_MO_list_10 : decode b_MO_list 10 = .ok (.iload_n 2, 1) := by decide +kernel
theorem d_MO_list_11 : decode b_MO_list 11 = .ok (.invokestatic 71, 3) := by decide +kernel
theorem d_MO_list_14 : decode b_MO_list 14 = .ok (.ifCond .eq 10, 3) := by decide +kernel
theorem d_MO_list_17 : decode b_MO_list 17 = .ok (.iload_n 3, 1) := by decide +kernel
theorem d_MO_list_18 : decode b_MO_list 18 = .ok (.invokestatic 74, 3) := by decide +kernel
theorem d_MO_list_21 : decode b_MO_list 21 = .ok (.ifCond .ne 7, 3) := by decide +kernel
theorem d_MO_list_24 : decode b_MO_list 24 = .ok (.iconst 1, 1) := by decide +kernel
theorem d_MO_list_25 : decode b_MO_list 25 = .ok (.goto 4, 3) := by decide +kernel
theorem d_MO_list_28 : decode b_MO_list 28 = .ok (.iconst 0, 1) := by decide +kernel
theorem d_MO_list_29 : decode b_MO_list 29 = .ok (.iload 4, 2) := by decide +kernel
theorem d_MO_list_31 : decode b_MO_list 31 = .ok (.iconst 0, 1) := by decide +kernel
theorem d_MO_list_32 : decode b_MO_list 32 = .ok (.bipush 99, 2) := by decide +kernel
theorem d_MO_list_34 : decode b_MO_list 34 = .ok (.invokestatic 63, 3) := by decide +kernel
theorem d_MO_list_37 : decode b_MO_list 37 = .ok (.ifCond .ne 7, 3) := by decide +kernel
theorem d_MO_list_40 : decode b_MO_list 40 = .ok (.iconst 1, 1) := by decide +kernel
theorem d_MO_list_41 : decode b_MO_list 41 = .ok (.goto 4, 3) := by decide +kernel
theorem d_MO_list_44 : decode b_MO_list 44 = .ok (.iconst 0, 1) := by decide +kernel
theorem d_MO_list_45 : decode b_MO_list 45 = .ok (.iconst 0, 1) := by decide +kernel
theorem d_MO_list_46 : decode b_MO_list 46 = .ok (.iconst 0, 1) := by decide +kernel
theorem d_MO_list_47 : decode b_MO_list 47 = .ok (.invokevirtual 81, 3) := by decide +kernel
theorem d_MO_list_50 : decode b_MO_list 50 = .ok (.ifCond .eq 4, 3) := by decide +kernel
theorem d_MO_list_53 : decode b_MO_list 53 = .ok (.return_, 1) := by decide +kernel
theorem d_MO_list_54 : decode b_MO_list 54 = .ok (.aload_n 0, 1) := by decide +kernel
theorem d_MO_list_55 : decode b_MO_list 55 = .ok (.getfield 50, 3) := by decide +kernel
theorem d_MO_list_58 : decode b_MO_list 58 = .ok (.sipush 240, 3) := by decide +kernel
theorem d_MO_list_61 : decode b_MO_list 61 = .ok (.iload_n 1, 1) := by decide +kernel
theorem d_MO_list_62 : decode b_MO_list 62 = .ok (.imul, 1) := by decide +kernel
theorem d_MO_list_63 : decode b_MO_list 63 = .ok (.bipush 30, 2) := by decide +kernel
theorem d_MO_list_65 : decode b_MO_list 65 = .ok (.iload_n 2, 1) := by decide +kernel
theorem d_MO_list_66 : decode b_MO_list 66 = .ok (.imul, 1) := by decide +kernel
theorem d_MO_list_67 : decode b_MO_list 67 = .ok (.iadd, 1) := by decide +kernel
theorem d_MO_list_68 : decode b_MO_list 68 = .ok (.iload_n 3, 1) := by decide +kernel
theorem d_MO_list_69 : decode b_MO_list 69 = .ok (.iadd, 1) := by decide +kernel
theorem d_MO_list_70 : decode b_MO_list 70 = .ok (.iload 4, 2) := by decide +kernel
theorem d_MO_list_72 : decode b_MO_list 72 = .ok (.iastore, 1) := by decide +kernel
theorem d_MO_list_73 : decode b_MO_list 73 = .ok (.return_, 1) := by decide +kernel
theorem d_MO_stock_0 : decode b_MO_stock 0 = .ok (.iload_n 1, 1) := by decide +kernel
theorem d_MO_stock_1 : decode b_MO_stock 1 = .ok (.invokestatic 74, 3) := by decide +kernel
theorem d_MO_stock_4 : decode b_MO_stock 4 = .ok (.ifCond .ne 7, 3) := by decide +kernel
theorem d_MO_stock_7 : decode b_MO_stock 7 = .ok (.iconst 1, 1) := by decide +kernel
theorem d_MO_stock_8 : decode b_MO_stock 8 = .ok (.goto 4, 3) := by decide +kernel
theorem d_MO_stock_11 : decode b_MO_stock 11 = .ok (.iconst 0, 1) := by decide +kernel
theorem d_MO_stock_12 : decode b_MO_stock 12 = .ok (.istore_n 3, 1) := by decide +kernel
theorem d_MO_stock_13 : decode b_MO_stock 13 = .ok (.iload_n 2, 1) := by decide +kernel
theorem d_MO_stock_14 : decode b_MO_stock 14 = .ok (.iconst 1, 1) := by decide +kernel
theorem d_MO_stock_15 : decode b_MO_stock 15 = .ok (.bipush 99, 2) := by decide +kernel
theorem d_MO_stock_17 : decode b_MO_stock 17 = .ok (.invokestatic 63, 3) := by decide +kernel
theorem d_MO_stock_20 : decode b_MO_stock 20 = .ok (.ifCond .ne 7, 3) := by decide +kernel
theorem d_MO_stock_23 : decode b_MO_stock 23 = .ok (.iconst 1, 1) := by decide +kernel
theorem d_MO_stock_24 : decode b_MO_stock 24 = .ok (.goto 4, 3) := by decide +kernel
theorem d_MO_stock_27 : decode b_MO_stock 27 = .ok (.iconst 0, 1) := by decide +kernel
theorem d_MO_stock_28 : decode b_MO_stock 28 = .ok (.istore 4, 2) := by decide +kernel
theorem d_MO_stock_30 : decode b_MO_stock 30 = .ok (.aload_n 0, 1) := by decide +kernel
theorem d_MO_stock_31 : decode b_MO_stock 31 = .ok (.iload_n 3, 1) := by decide +kernel
theorem d_MO_stock_32 : decode b_MO_stock 32 = .ok (.iload 4, 2) := by decide +kernel
theorem d_MO_stock_34 : decode b_MO_stock 34 = .ok (.iload_n 3, 1) := by decide +kernel
theorem d_MO_stock_35 : decode b_MO_stock 35 = .ok (.ifCond .ne 26, 3) := by decide +kernel
theorem d_MO_stock_38 : decode b_MO_stock 38 = .ok (.iload 4, 2) := by decide +kernel
theorem d_MO_stock_40 : decode b_MO_stock 40 = .ok (.ifCond .ne 21, 3) := by decide +kernel
theorem d_MO_stock_43 : decode b_MO_stock 43 = .ok (.aload_n 0, 1) := by decide +kernel
theorem d_MO_stock_44 : decode b_MO_stock 44 = .ok (.getfield 16, 3) := by decide +kernel
theorem d_MO_stock_47 : decode b_MO_stock 47 = .ok (.iload_n 1, 1) := by decide +kernel
theorem d_MO_stock_48 : decode b_MO_stock 48 = .ok (.iaload, 1) := by decide +kernel
theorem d_MO_stock_49 : decode b_MO_stock 49 = .ok (.iload_n 2, 1) := by decide +kernel
theorem d_MO_stock_50 : decode b_MO_stock 50 = .ok (.iadd, 1) := by decide +kernel
theorem d_MO_stock_51 : decode b_MO_stock 51 = .ok (.sipush 10000, 3) := by decide +kernel
theorem d_MO_stock_54 : decode b_MO_stock 54 = .ok (.if_icmp .le 7, 3) := by decide +kernel
theorem d_MO_stock_57 : decode b_MO_stock 57 = .ok (.iconst 1, 1) := by decide +kernel
theorem d_MO_stock_58 : decode b_MO_stock 58 = .ok (.goto 4, 3) := by decide +kernel
theorem d_MO_stock_61 : decode b_MO_stock 61 = .ok (.iconst 0, 1) := by decide +kernel
theorem d_MO_stock_62 : decode b_MO_stock 62 = .ok (.iconst 0, 1) := by decide +kernel
theorem d_MO_stock_63 : decode b_MO_stock 63 = .ok (.invokevirtual 81, 3) := by decide +kernel
theorem d_MO_stock_66 : decode b_MO_stock 66 = .ok (.ifCond .eq 5, 3) := by decide +kernel
theorem d_MO_stock_69 : decode b_MO_stock 69 = .ok (.iconst 0, 1) := by decide +kernel
theorem d_MO_stock_70 : decode b_MO_stock 70 = .ok (.ireturn, 1) := by decide +kernel
theorem d_MO_stock_71 : decode b_MO_stock 71 = .ok (.aload_n 0, 1) := by decide +kernel
theorem d_MO_stock_72 : decode b_MO_stock 72 = .ok (.getfield 16, 3) := by decide +kernel
theorem d_MO_stock_75 : decode b_MO_stock 75 = .ok (.iload_n 1, 1) := by decide +kernel
theorem d_MO_stock_76 : decode b_MO_stock 76 = .ok (.dup2, 1) := by decide +kernel
theorem d_MO_stock_77 : decode b_MO_stock 77 = .ok (.iaload, 1) := by decide +kernel
theorem d_MO_stock_78 : decode b_MO_stock 78 = .ok (.iload_n 2, 1) := by decide +kernel
theorem d_MO_stock_79 : decode b_MO_stock 79 = .ok (.iadd, 1) := by decide +kernel
theorem d_MO_stock_80 : decode b_MO_stock 80 = .ok (.iastore, 1) := by decide +kernel
theorem d_MO_stock_81 : decode b_MO_stock 81 = .ok (.aload_n 0, 1) := by decide +kernel
theorem d_MO_stock_82 : decode b_MO_stock 82 = .ok (.getfield 16, 3) := by decide +kernel
theorem d_MO_stock_85 : decode b_MO_stock 85 = .ok (.iload_n 1, 1) := by decide +kernel
theorem d_MO_stock_86 : decode b_MO_stock 86 = .ok (.iaload, 1) := by decide +kernel
theorem d_MO_stock_87 : decode b_MO_stock 87 = .ok (.ireturn, 1) := by decide +kernel
theorem d_MO_sumOf_0 : decode b_MO_sumOf 0 = .ok (.lconst 0, 1) := by decide +kernel
theorem d_MO_sumOf_1 : decode b_MO_sumOf 1 = .ok (.lstore_n 2, 1) := by decide +kernel
theorem d_MO_sumOf_2 : decode b_MO_sumOf 2 = .ok (.iconst 0, 1) := by decide +kernel
theorem d_MO_sumOf_3 : decode b_MO_sumOf 3 = .ok (.istore 4, 2) := by decide +kernel
theorem d_MO_sumOf_5 : decode b_MO_sumOf 5 = .ok (.iload 4, 2) := by decide +kernel
theorem d_MO_sumOf_7 : decode b_MO_sumOf 7 = .ok (.sipush 240, 3) := by decide +kernel
theorem d_MO_sumOf_10 : decode b_MO_sumOf 10 = .ok (.if_icmp .ge 38, 3) := by decide +kernel
theorem d_MO_sumOf_13 : decode b_MO_sumOf 13 = .ok (.lload_n 2, 1) := by decide +kernel
theorem d_MO_sumOf_14 : decode b_MO_sumOf 14 = .ok (.aload_n 0, 1) := by decide +kernel
theorem d_MO_sumOf_15 : decode b_MO_sumOf 15 = .ok (.getfield 7, 3) := by decide +kernel
theorem d_MO_sumOf_18 : decode b_MO_sumOf 18 = .ok (.iload 4, 2) := by decide +kernel
theorem d_MO_sumOf_20 : decode b_MO_sumOf 20 = .ok (.bipush 30, 2) := by decide +kernel
theorem d_MO_sumOf_22 : decode b_MO_sumOf 22 = .ok (.irem, 1) := by decide +kernel
theorem d_MO_sumOf_23 : decode b_MO_sumOf 23 = .ok (.iaload, 1) := by decide +kernel
theorem d_MO_sumOf_24 : decode b_MO_sumOf 24 = .ok (.i2l, 1) := by decide +kernel
theorem d_MO_sumOf_25 : decode b_MO_sumOf 25 = .ok (.aload_n 0, 1) := by decide +kernel
theorem d_MO_sumOf_26 : decode b_MO_sumOf 26 = .ok (.getfield 47, 3) := by decide +kernel
theorem d_MO_sumOf_29 : decode b_MO_sumOf 29 = .ok (.sipush 240, 3) := by decide +kernel
theorem d_MO_sumOf_32 : decode b_MO_sumOf 32 = .ok (.iload_n 1, 1) := by decide +kernel
theorem d_MO_sumOf_33 : decode b_MO_sumOf 33 = .ok (.imul, 1) := by decide +kernel
theorem d_MO_sumOf_34 : decode b_MO_sumOf 34 = .ok (.iload 4, 2) := by decide +kernel
theorem d_MO_sumOf_36 : decode b_MO_sumOf 36 = .ok (.iadd, 1) := by decide +kernel
theorem d_MO_sumOf_37 : decode b_MO_sumOf 37 = .ok (.iaload, 1) := by decide +kernel
theorem d_MO_sumOf_38 : decode b_MO_sumOf 38 = .ok (.i2l, 1) := by decide +kernel
theorem d_MO_sumOf_39 : decode b_MO_sumOf 39 = .ok (.lmul, 1) := by decide +kernel
theorem d_MO_sumOf_40 : decode b_MO_sumOf 40 = .ok (.ladd, 1) := by decide +kernel
theorem d_MO_sumOf_41 : decode b_MO_sumOf 41 = .ok (.lstore_n 2, 1) := by decide +kernel
theorem d_MO_sumOf_42 : decode b_MO_sumOf 42 = .ok (.iinc 4 1, 3) := by decide +kernel
theorem d_MO_sumOf_45 : decode b_MO_sumOf 45 = .ok (.goto (-40), 3) := by decide +kernel
theorem d_MO_sumOf_48 : decode b_MO_sumOf 48 = .ok (.lload_n 2, 1) := by decide +kernel
theorem d_MO_sumOf_49 : decode b_MO_sumOf 49 = .ok (.lreturn, 1) := by decide +kernel
theorem d_MO_momentOf_0 : decode b_MO_momentOf 0 = .ok (.lconst 0, 1) := by decide +kernel
theorem d_MO_momentOf_1 : decode b_MO_momentOf 1 = .ok (.lstore_n 2, 1) := by decide +kernel
theorem d_MO_momentOf_2 : decode b_MO_momentOf 2 = .ok (.iconst 0, 1) := by decide +kernel
theorem d_MO_momentOf_3 : decode b_MO_momentOf 3 = .ok (.istore 4, 2) := by decide +kernel
theorem d_MO_momentOf_5 : decode b_MO_momentOf 5 = .ok (.iload 4, 2) := by decide +kernel
theorem d_MO_momentOf_7 : decode b_MO_momentOf 7 = .ok (.sipush 240, 3) := by decide +kernel
theorem d_MO_momentOf_10 : decode b_MO_momentOf 10 = .ok (.if_icmp .ge 55, 3) := by decide +kernel
theorem d_MO_momentOf_13 : decode b_MO_momentOf 13 = .ok (.lload_n 2, 1) := by decide +kernel
theorem d_MO_momentOf_14 : decode b_MO_momentOf 14 = .ok (.aload_n 0, 1) := by decide +kernel
theorem d_MO_momentOf_15 : decode b_MO_momentOf 15 = .ok (.getfield 7, 3) := by decide +kernel
theorem d_MO_momentOf_18 : decode b_MO_momentOf 18 = .ok (.iload 4, 2) := by decide +kernel
theorem d_MO_momentOf_20 : decode b_MO_momentOf 20 = .ok (.bipush 30, 2) := by decide +kernel
theorem d_MO_momentOf_22 : decode b_MO_momentOf 22 = .ok (.irem, 1) := by decide +kernel
theorem d_MO_momentOf_23 : decode b_MO_momentOf 23 = .ok (.iaload, 1) := by decide +kernel
theorem d_MO_momentOf_24 : decode b_MO_momentOf 24 = .ok (.i2l, 1) := by decide +kernel
theorem d_MO_momentOf_25 : decode b_MO_momentOf 25 = .ok (.aload_n 0, 1) := by decide +kernel
theorem d_MO_momentOf_26 : decode b_MO_momentOf 26 = .ok (.getfield 47, 3) := by decide +kernel
theorem d_MO_momentOf_29 : decode b_MO_momentOf 29 = .ok (.sipush 240, 3) := by decide +kernel
theorem d_MO_momentOf_32 : decode b_MO_momentOf 32 = .ok (.iload_n 1, 1) := by decide +kernel
theorem d_MO_momentOf_33 : decode b_MO_momentOf 33 = .ok (.imul, 1) := by decide +kernel
theorem d_MO_momentOf_34 : decode b_MO_momentOf 34 = .ok (.iload 4, 2) := by decide +kernel
theorem d_MO_momentOf_36 : decode b_MO_momentOf 36 = .ok (.iadd, 1) := by decide +kernel
theorem d_MO_momentOf_37 : decode b_MO_momentOf 37 = .ok (.iaload, 1) := by decide +kernel
theorem d_MO_momentOf_38 : decode b_MO_momentOf 38 = .ok (.i2l, 1) := by decide +kernel
theorem d_MO_momentOf_39 : decode b_MO_momentOf 39 = .ok (.lmul, 1) := by decide +kernel
theorem d_MO_momentOf_40 : decode b_MO_momentOf 40 = .ok (.aload_n 0, 1) := by decide +kernel
theorem d_MO_momentOf_41 : decode b_MO_momentOf 41 = .ok (.getfield 34, 3) := by decide +kernel
theorem d_MO_momentOf_44 : decode b_MO_momentOf 44 = .ok (.bipush 8, 2) := by decide +kernel
theorem d_MO_momentOf_46 : decode b_MO_momentOf 46 = .ok (.iload_n 1, 1) := by decide +kernel
theorem d_MO_momentOf_47 : decode b_MO_momentOf 47 = .ok (.imul, 1) := by decide +kernel
theorem d_MO_momentOf_48 : decode b_MO_momentOf 48 = .ok (.iload 4, 2) := by decide +kernel
theorem d_MO_momentOf_50 : decode b_MO_momentOf 50 = .ok (.bipush 30, 2) := by decide +kernel
theorem d_MO_momentOf_52 : decode b_MO_momentOf 52 = .ok (.idiv, 1) := by decide +kernel
theorem d_MO_momentOf_53 : decode b_MO_momentOf 53 = .ok (.iadd, 1) := by decide +kernel
theorem d_MO_momentOf_54 : decode b_MO_momentOf 54 = .ok (.iaload, 1) := by decide +kernel
theorem d_MO_momentOf_55 : decode b_MO_momentOf 55 = .ok (.i2l, 1) := by decide +kernel
theorem d_MO_momentOf_56 : decode b_MO_momentOf 56 = .ok (.lmul, 1) := by decide +kernel
theorem d_MO_momentOf_57 : decode b_MO_momentOf 57 = .ok (.ladd, 1) := by decide +kernel
theorem d_MO_momentOf_58 : decode b_MO_momentOf 58 = .ok (.lstore_n 2, 1) := by decide +kernel
theorem d_MO_momentOf_59 : decode b_MO_momentOf 59 = .ok (.iinc 4 1, 3) := by decide +kernel
theorem d_MO_momentOf_62 : decode b_MO_momentOf 62 = .ok (.goto (-57), 3) := by decide +kernel
theorem d_MO_momentOf_65 : decode b_MO_momentOf 65 = .ok (.lload_n 2, 1) := by decide +kernel
theorem d_MO_momentOf_66 : decode b_MO_momentOf 66 = .ok (.lreturn, 1) := by decide +kernel
theorem d_MO_bears_0 : decode b_MO_bears 0 = .ok (.iload_n 2, 1) := by decide +kernel
theorem d_MO_bears_1 : decode b_MO_bears 1 = .ok (.ifCond .eq 11, 3) := by decide +kernel
theorem d_MO_bears_4 : decode b_MO_bears 4 = .ok (.aload_n 0, 1) := by decide +kernel
theorem d_MO_bears_5 : decode b_MO_bears 5 = .ok (.iload_n 1, 1) := by decide +kernel
theorem d_MO_bears_6 : decode b_MO_bears 6 = .ok (.invokevirtual 93, 3) := by decide +kernel
theorem d_MO_bears_9 : decode b_MO_bears 9 = .ok (.goto 22, 3) := by decide +kernel
theorem d_MO_bears_12 : decode b_MO_bears 12 = .ok (.aload_n 0, 1) := by decide +kernel
theorem d_MO_bears_13 : decode b_MO_bears 13 = .ok (.iload_n 1, 1) := by decide +kernel
theorem d_MO_bears_14 : decode b_MO_bears 14 = .ok (.invokevirtual 97, 3) := by decide +kernel
theorem d_MO_bears_17 : decode b_MO_bears 17 = .ok (.aload_n 0, 1) := by decide +kernel
theorem d_MO_bears_18 : decode b_MO_bears 18 = .ok (.getfield 22, 3) := by decide +kernel
theorem d_MO_bears_21 : decode b_MO_bears 21 = .ok (.iload_n 1, 1) := by decide +kernel
theorem d_MO_bears_22 : decode b_MO_bears 22 = .ok (.iaload, 1) := by decide +kernel
theorem d_MO_bears_23 : decode b_MO_bears 23 = .ok (.i2l, 1) := by decide +kernel
theorem d_MO_bears_24 : decode b_MO_bears 24 = .ok (.lmul, 1) := by decide +kernel
theorem d_MO_bears_25 : decode b_MO_bears 25 = .ok (.aload_n 0, 1) := by decide +kernel
theorem d_MO_bears_26 : decode b_MO_bears 26 = .ok (.iload_n 1, 1) := by decide +kernel
theorem d_MO_bears_27 : decode b_MO_bears 27 = .ok (.invokevirtual 93, 3) := by decide +kernel
theorem d_MO_bears_30 : decode b_MO_bears 30 = .ok (.lsub, 1) := by decide +kernel
theorem d_MO_bears_31 : decode b_MO_bears 31 = .ok (.lreturn, 1) := by decide +kernel
theorem d_MO_isBeyond_0 : decode b_MO_isBeyond 0 = .ok (.aload_n 0, 1) := by decide +kernel
theorem d_MO_isBeyond_1 : decode b_MO_isBeyond 1 = .ok (.iload_n 1, 1) := by decide +kernel
theorem d_MO_isBeyond_2 : decode b_MO_isBeyond 2 = .ok (.iload_n 2, 1) := by decide +kernel
theorem d_MO_isBeyond_3 : decode b_MO_isBeyond 3 = .ok (.invokevirtual 100, 3) := by decide +kernel
theorem d_MO_isBeyond_6 : decode b_MO_isBeyond 6 = .ok (.iload_n 2, 1) := by decide +kernel
theorem d_MO_isBeyond_7 : decode b_MO_isBeyond 7 = .ok (.ifCond .eq 12, 3) := by decide +kernel
theorem d_MO_isBeyond_10 : decode b_MO_isBeyond 10 = .ok (.aload_n 0, 1) := by decide +kernel
theorem d_MO_isBeyond_11 : decode b_MO_isBeyond 11 = .ok (.getfield 28, 3) := by decide +kernel
theorem d_MO_isBeyond_14 : decode b_MO_isBeyond 14 = .ok (.iload_n 1, 1) := by decide +kernel
theorem d_MO_isBeyond_15 : decode b_MO_isBeyond 15 = .ok (.iaload, 1) := by decide +kernel
theorem d_MO_isBeyond_16 : decode b_MO_isBeyond 16 = .ok (.goto 9, 3) := by decide +kernel
theorem d_MO_isBeyond_19 : decode b_MO_isBeyond 19 = .ok (.aload_n 0, 1) := by decide +kernel
theorem d_MO_isBeyond_20 : decode b_MO_isBeyond 20 = .ok (.getfield 25, 3) := by decide +kernel
theorem d_MO_isBeyond_23 : decode b_MO_isBeyond 23 = .ok (.iload_n 1, 1) := by decide +kernel
theorem d_MO_isBeyond_24 : decode b_MO_isBeyond 24 = .ok (.iaload, 1) := by decide +kernel
theorem d_MO_isBeyond_25 : decode b_MO_isBeyond 25 = .ok (.i2l, 1) := by decide +kernel
theorem d_MO_isBeyond_26 : decode b_MO_isBeyond 26 = .ok (.aload_n 0, 1) := by decide +kernel
theorem d_MO_isBeyond_27 : decode b_MO_isBeyond 27 = .ok (.getfield 22, 3) := by decide +kernel
theorem d_MO_isBeyond_30 : decode b_MO_isBeyond 30 = .ok (.iload_n 1, 1) := by decide +kernel
theorem d_MO_isBeyond_31 : decode b_MO_isBeyond 31 = .ok (.iaload, 1) := by decide +kernel
theorem d_MO_isBeyond_32 : decode b_MO_isBeyond 32 = .ok (.i2l, 1) := by decide +kernel
theorem d_MO_isBeyond_33 : decode b_MO_isBeyond 33 = .ok (.lmul, 1) := by decide +kernel
theorem d_MO_isBeyond_34 : decode b_MO_isBeyond 34 = .ok (.lcmp, 1) := by decide +kernel
theorem d_MO_isBeyond_35 : decode b_MO_isBeyond 35 = .ok (.ifCond .le 7, 3) := by decide +kernel
theorem d_MO_isBeyond_38 : decode b_MO_isBeyond 38 = .ok (.iconst 1, 1) := by decide +kernel
theorem d_MO_isBeyond_39 : decode b_MO_isBeyond 39 = .ok (.goto 4, 3) := by decide +kernel
theorem d_MO_isBeyond_42 : decode b_MO_isBeyond 42 = .ok (.iconst 0, 1) := by decide +kernel
theorem d_MO_isBeyond_43 : decode b_MO_isBeyond 43 = .ok (.ireturn, 1) := by decide +kernel
theorem d_MO_isTooMuch_0 : decode b_MO_isTooMuch 0 = .ok (.aload_n 0, 1) := by decide +kernel
theorem d_MO_isTooMuch_1 : decode b_MO_isTooMuch 1 = .ok (.iload_n 1, 1) := by decide +kernel
theorem d_MO_isTooMuch_2 : decode b_MO_isTooMuch 2 = .ok (.iconst 0, 1) := by decide +kernel
theorem d_MO_isTooMuch_3 : decode b_MO_isTooMuch 3 = .ok (.invokevirtual 100, 3) := by decide +kernel
theorem d_MO_isTooMuch_6 : decode b_MO_isTooMuch 6 = .ok (.lstore 5, 2) := by decide +kernel
theorem d_MO_isTooMuch_8 : decode b_MO_isTooMuch 8 = .ok (.aload_n 0, 1) := by decide +kernel
theorem d_MO_isTooMuch_9 : decode b_MO_isTooMuch 9 = .ok (.iload_n 1, 1) := by decide +kernel
theorem d_MO_isTooMuch_10 : decode b_MO_isTooMuch 10 = .ok (.iconst 1, 1) := by decide +kernel
theorem d_MO_isTooMuch_11 : decode b_MO_isTooMuch 11 = .ok (.invokevirtual 100, 3) := by decide +kernel
theorem d_MO_isTooMuch_14 : decode b_MO_isTooMuch 14 = .ok (.lstore 7, 2) := by decide +kernel
theorem d_MO_isTooMuch_16 : decode b_MO_isTooMuch 16 = .ok (.aload_n 0, 1) := by decide +kernel
theorem d_MO_isTooMuch_17 : decode b_MO_isTooMuch 17 = .ok (.getfield 47, 3) := by decide +kernel
theorem d_MO_isTooMuch_20 : decode b_MO_isTooMuch 20 = .ok (.sipush 240, 3) := by decide +kernel
theorem d_MO_isTooMuch_23 : decode b_MO_isTooMuch 23 = .ok (.iload_n 1, 1) := by decide +kernel
theorem d_MO_isTooMuch_24 : decode b_MO_isTooMuch 24 = .ok (.imul, 1) := by decide +kernel
theorem d_MO_isTooMuch_25 : decode b_MO_isTooMuch 25 = .ok (.bipush 30, 2) := by decide +kernel
theorem d_MO_isTooMuch_27 : decode b_MO_isTooMuch 27 = .ok (.iload_n 2, 1) := by decide +kernel
theorem d_MO_isTooMuch_28 : decode b_MO_isTooMuch 28 = .ok (.imul, 1) := by decide +kernel
theorem d_MO_isTooMuch_29 : decode b_MO_isTooMuch 29 = .ok (.iadd, 1) := by decide +kernel
theorem d_MO_isTooMuch_30 : decode b_MO_isTooMuch 30 = .ok (.iload_n 3, 1) := by decide +kernel
theorem d_MO_isTooMuch_31 : decode b_MO_isTooMuch 31 = .ok (.iadd, 1) := by decide +kernel
theorem d_MO_isTooMuch_32 : decode b_MO_isTooMuch 32 = .ok (.dup2, 1) := by decide +kernel
theorem d_MO_isTooMuch_33 : decode b_MO_isTooMuch 33 = .ok (.iaload, 1) := by decide +kernel
theorem d_MO_isTooMuch_34 : decode b_MO_isTooMuch 34 = .ok (.iload 4, 2) := by decide +kernel
theorem d_MO_isTooMuch_36 : decode b_MO_isTooMuch 36 = .ok (.iadd, 1) := by decide +kernel
theorem d_MO_isTooMuch_37 : decode b_MO_isTooMuch 37 = .ok (.iastore, 1) := by decide +kernel
theorem d_MO_isTooMuch_38 : decode b_MO_isTooMuch 38 = .ok (.aload_n 0, 1) := by decide +kernel
theorem d_MO_isTooMuch_39 : decode b_MO_isTooMuch 39 = .ok (.iload_n 1, 1) := by decide +kernel
theorem d_MO_isTooMuch_40 : decode b_MO_isTooMuch 40 = .ok (.iconst 0, 1) := by decide +kernel
theorem d_MO_isTooMuch_41 : decode b_MO_isTooMuch 41 = .ok (.invokevirtual 104, 3) := by decide +kernel
theorem d_MO_isTooMuch_44 : decode b_MO_isTooMuch 44 = .ok (.ifCond .eq 15, 3) := by decide +kernel
theorem d_MO_isTooMuch_47 : decode b_MO_isTooMuch 47 = .ok (.aload_n 0, 1) := by decide +kernel
theorem d_MO_isTooMuch_48 : decode b_MO_isTooMuch 48 = .ok (.iload_n 1, 1) := by decide +kernel
theorem d_MO_isTooMuch_49 : decode b_MO_isTooMuch 49 = .ok (.iconst 0, 1) := by decide +kernel
theorem d_MO_isTooMuch_50 : decode b_MO_isTooMuch 50 = .ok (.invokevirtual 100, 3) := by decide +kernel
theorem d_MO_isTooMuch_53 : decode b_MO_isTooMuch 53 = .ok (.lload 5, 2) := by decide +kernel
theorem d_MO_isTooMuch_55 : decode b_MO_isTooMuch 55 = .ok (.lcmp, 1) := by decide +kernel
theorem d_MO_isTooMuch_56 : decode b_MO_isTooMuch 56 = .ok (.ifCond .gt 24, 3) := by decide +kernel
theorem d_MO_isTooMuch_59 : decode b_MO_isTooMuch 59 = .ok (.aload_n 0, 1) := by decide +kernel
theorem d_MO_isTooMuch_60 : decode b_MO_isTooMuch 60 = .ok (.iload_n 1, 1) := by decide +kernel
theorem d_MO_isTooMuch_61 : decode b_MO_isTooMuch 61 = .ok (.iconst 1, 1) := by decide +kernel
theorem d_MO_isTooMuch_62 : decode b_MO_isTooMuch 62 = .ok (.invokevirtual 104, 3) := by decide +kernel
theorem d_MO_isTooMuch_65 : decode b_MO_isTooMuch 65 = .ok (.ifCond .eq 19, 3) := by decide +kernel
theorem d_MO_isTooMuch_68 : decode b_MO_isTooMuch 68 = .ok (.aload_n 0, 1) := by decide +kernel
theorem d_MO_isTooMuch_69 : decode b_MO_isTooMuch 69 = .ok (.iload_n 1, 1) := by decide +kernel
theorem d_MO_isTooMuch_70 : decode b_MO_isTooMuch 70 = .ok (.iconst 1, 1) := by decide +kernel
theorem d_MO_isTooMuch_71 : decode b_MO_isTooMuch 71 = .ok (.invokevirtual 100, 3) := by decide +kernel
theorem d_MO_isTooMuch_74 : decode b_MO_isTooMuch 74 = .ok (.lload 7, 2) := by decide +kernel
theorem d_MO_isTooMuch_76 : decode b_MO_isTooMuch 76 = .ok (.lcmp, 1) := by decide +kernel
theorem d_MO_isTooMuch_77 : decode b_MO_isTooMuch 77 = .ok (.ifCond .le 7, 3) := by decide +kernel
theorem d_MO_isTooMuch_80 : decode b_MO_isTooMuch 80 = .ok (.iconst 1, 1) := by decide +kernel
theorem d_MO_isTooMuch_81 : decode b_MO_isTooMuch 81 = .ok (.goto 4, 3) := by decide +kernel
theorem d_MO_isTooMuch_84 : decode b_MO_isTooMuch 84 = .ok (.iconst 0, 1) := by decide +kernel
theorem d_MO_isTooMuch_85 : decode b_MO_isTooMuch 85 = .ok (.istore 9, 2) := by decide +kernel
theorem d_MO_isTooMuch_87 : decode b_MO_isTooMuch 87 = .ok (.aload_n 0, 1) := by decide +kernel
theorem d_MO_isTooMuch_88 : decode b_MO_isTooMuch 88 = .ok (.getfield 47, 3) := by decide +kernel
theorem d_MO_isTooMuch_91 : decode b_MO_isTooMuch 91 = .ok (.sipush 240, 3) := by decide +kernel
theorem d_MO_isTooMuch_94 : decode b_MO_isTooMuch 94 = .ok (.iload_n 1, 1) := by decide +kernel
theorem d_MO_isTooMuch_95 : decode b_MO_isTooMuch 95 = .ok (.imul, 1) := by decide +kernel
theorem d_MO_isTooMuch_96 : decode b_MO_isTooMuch 96 = .ok (.bipush 30, 2) := by decide +kernel
theorem d_MO_isTooMuch_98 : decode b_MO_isTooMuch 98 = .ok (.iload_n 2, 1) := by decide +kernel
theorem d_MO_isTooMuch_99 : decode b_MO_isTooMuch 99 = .ok (.imul, 1) := by decide +kernel
theorem d_MO_isTooMuch_100 : decode b_MO_isTooMuch 100 = .ok (.iadd, 1) := by decide +kernel
theorem d_MO_isTooMuch_101 : decode b_MO_isTooMuch 101 = .ok (.iload_n 3, 1) := by decide +kernel
theorem d_MO_isTooMuch_102 : decode b_MO_isTooMuch 102 = .ok (.iadd, 1) := by decide +kernel
theorem d_MO_isTooMuch_103 : decode b_MO_isTooMuch 103 = .ok (.dup2, 1) := by decide +kernel
theorem d_MO_isTooMuch_104 : decode b_MO_isTooMuch 104 = .ok (.iaload, 1) := by decide +kernel
theorem d_MO_isTooMuch_105 : decode b_MO_isTooMuch 105 = .ok (.iload 4, 2) := by decide +kernel
theorem d_MO_isTooMuch_107 : decode b_MO_isTooMuch 107 = .ok (.isub, 1) := by decide +kernel
theorem d_MO_isTooMuch_108 : decode b_MO_isTooMuch 108 = .ok (.iastore, 1) := by decide +kernel
theorem d_MO_isTooMuch_109 : decode b_MO_isTooMuch 109 = .ok (.iload 9, 2) := by decide +kernel
theorem d_MO_isTooMuch_111 : decode b_MO_isTooMuch 111 = .ok (.ireturn, 1) := by decide +kernel
theorem d_MO_put_0 : decode b_MO_put 0 = .ok (.aload_n 0, 1) := by decide +kernel
theorem d_MO_put_1 : decode b_MO_put 1 = .ok (.iload_n 1, 1) := by decide +kernel
theorem d_MO_put_2 : decode b_MO_put 2 = .ok (.iload_n 2, 1) := by decide +kernel
theorem d_MO_put_3 : decode b_MO_put 3 = .ok (.iload_n 3, 1) := by decide +kernel
theorem d_MO_put_4 : decode b_MO_put 4 = .ok (.invokevirtual 108, 3) := by decide +kernel
theorem d_MO_put_7 : decode b_MO_put 7 = .ok (.ifCond .ne 7, 3) := by decide +kernel
theorem d_MO_put_10 : decode b_MO_put 10 = .ok (.iconst 1, 1) := by decide +kernel
theorem d_MO_put_11 : decode b_MO_put 11 = .ok (.goto 4, 3) := by decide +kernel
theorem d_MO_put_14 : decode b_MO_put 14 = .ok (.iconst 0, 1) := by decide +kernel
theorem d_MO_put_15 : decode b_MO_put 15 = .ok (.istore 5, 2) := by decide +kernel
theorem d_MO_put_17 : decode b_MO_put 17 = .ok (.iload 4, 2) := by decide +kernel
theorem d_MO_put_19 : decode b_MO_put 19 = .ok (.iconst 1, 1) := by decide +kernel
theorem d_MO_put_20 : decode b_MO_put 20 = .ok (.bipush 99, 2) := by decide +kernel
theorem d_MO_put_22 : decode b_MO_put 22 = .ok (.invokestatic 63, 3) := by decide +kernel
theorem d_MO_put_25 : decode b_MO_put 25 = .ok (.ifCond .ne 7, 3) := by decide +kernel
theorem d_MO_put_28 : decode b_MO_put 28 = .ok (.iconst 1, 1) := by decide +kernel
theorem d_MO_put_29 : decode b_MO_put 29 = .ok (.goto 4, 3) := by decide +kernel
theorem d_MO_put_32 : decode b_MO_put 32 = .ok (.iconst 0, 1) := by decide +kernel
theorem d_MO_put_33 : decode b_MO_put 33 = .ok (.istore 6, 2) := by decide +kernel
theorem d_MO_put_35 : decode b_MO_put 35 = .ok (.iload 5, 2) := by decide +kernel
theorem d_MO_put_37 : decode b_MO_put 37 = .ok (.ifCond .ne 24, 3) := by decide +kernel
theorem d_MO_put_40 : decode b_MO_put 40 = .ok (.iload 6, 2) := by decide +kernel
theorem d_MO_put_42 : decode b_MO_put 42 = .ok (.ifCond .ne 19, 3) := by decide +kernel
theorem d_MO_put_45 : decode b_MO_put 45 = .ok (.aload_n 0, 1) := by decide +kernel
theorem d_MO_put_46 : decode b_MO_put 46 = .ok (.iload_n 1, 1) := by decide +kernel
theorem d_MO_put_47 : decode b_MO_put 47 = .ok (.iload_n 2, 1) := by decide +kernel
theorem d_MO_put_48 : decode b_MO_put 48 = .ok (.iload_n 3, 1) := by decide +kernel
theorem d_MO_put_49 : decode b_MO_put 49 = .ok (.iload 4, 2) := by decide +kernel
theorem d_MO_put_51 : decode b_MO_put 51 = .ok (.invokevirtual 111, 3) := by decide +kernel
theorem d_MO_put_54 : decode b_MO_put 54 = .ok (.ifCond .eq 7, 3) := by decide +kernel
theorem d_MO_put_57 : decode b_MO_put 57 = .ok (.iconst 1, 1) := by decide +kernel
theorem d_MO_put_58 : decode b_MO_put 58 = .ok (.goto 4, 3) := by decide +kernel
theorem d_MO_put_61 : decode b_MO_put 61 = .ok (.iconst 0, 1) := by decide +kernel
theorem d_MO_put_62 : decode b_MO_put 62 = .ok (.istore 7, 2) := by decide +kernel
theorem d_MO_put_64 : decode b_MO_put 64 = .ok (.aload_n 0, 1) := by decide +kernel
theorem d_MO_put_65 : decode b_MO_put 65 = .ok (.iload 5, 2) := by decide +kernel
theorem d_MO_put_67 : decode b_MO_put 67 = .ok (.iload 6, 2) := by decide +kernel
theorem d_MO_put_69 : decode b_MO_put 69 = .ok (.iload 7, 2) := by decide +kernel
theorem d_MO_put_71 : decode b_MO_put 71 = .ok (.iload 5, 2) := by decide +kernel
theorem d_MO_put_73 : decode b_MO_put 73 = .ok (.ifCond .ne 37, 3) := by decide +kernel
theorem d_MO_put_76 : decode b_MO_put 76 = .ok (.iload 6, 2) := by decide +kernel
theorem d_MO_put_78 : decode b_MO_put 78 = .ok (.ifCond .ne 32, 3) := by decide +kernel
theorem d_MO_put_81 : decode b_MO_put 81 = .ok (.aload_n 0, 1) := by decide +kernel
theorem d_MO_put_82 : decode b_MO_put 82 = .ok (.getfield 47, 3) := by decide +kernel
theorem d_MO_put_85 : decode b_MO_put 85 = .ok (.sipush 240, 3) := by decide +kernel
theorem d_MO_put_88 : decode b_MO_put 88 = .ok (.iload_n 1, 1) := by decide +kernel
theorem d_MO_put_89 : decode b_MO_put 89 = .ok (.imul, 1) := by decide +kernel
theorem d_MO_put_90 : decode b_MO_put 90 = .ok (.bipush 30, 2) := by decide +kernel
theorem d_MO_put_92 : decode b_MO_put 92 = .ok (.iload_n 2, 1) := by decide +kernel
theorem d_MO_put_93 : decode b_MO_put 93 = .ok (.imul, 1) := by decide +kernel
theorem d_MO_put_94 : decode b_MO_put 94 = .ok (.iadd, 1) := by decide +kernel
theorem d_MO_put_95 : decode b_MO_put 95 = .ok (.iload_n 3, 1) := by decide +kernel
theorem d_MO_put_96 : decode b_MO_put 96 = .ok (.iadd, 1) := by decide +kernel
theorem d_MO_put_97 : decode b_MO_put 97 = .ok (.iaload, 1) := by decide +kernel
theorem d_MO_put_98 : decode b_MO_put 98 = .ok (.iload 4, 2) := by decide +kernel
theorem d_MO_put_100 : decode b_MO_put 100 = .ok (.iadd, 1) := by decide +kernel
theorem d_MO_put_101 : decode b_MO_put 101 = .ok (.bipush 99, 2) := by decide +kernel
theorem d_MO_put_103 : decode b_MO_put 103 = .ok (.if_icmp .le 7, 3) := by decide +kernel
theorem d_MO_put_106 : decode b_MO_put 106 = .ok (.iconst 1, 1) := by decide +kernel
theorem d_MO_put_107 : decode b_MO_put 107 = .ok (.goto 4, 3) := by decide +kernel
theorem d_MO_put_110 : decode b_MO_put 110 = .ok (.iconst 0, 1) := by decide +kernel
theorem d_MO_put_111 : decode b_MO_put 111 = .ok (.invokevirtual 81, 3) := by decide +kernel
theorem d_MO_put_114 : decode b_MO_put 114 = .ok (.ifCond .eq 5, 3) := by decide +kernel
theorem d_MO_put_117 : decode b_MO_put 117 = .ok (.iconst 0, 1) := by decide +kernel
theorem d_MO_put_118 : decode b_MO_put 118 = .ok (.ireturn, 1) := by decide +kernel
theorem d_MO_put_119 : decode b_MO_put 119 = .ok (.aload_n 0, 1) := by decide +kernel
theorem d_MO_put_120 : decode b_MO_put 120 = .ok (.getfield 47, 3) := by decide +kernel
theorem d_MO_put_123 : decode b_MO_put 123 = .ok (.sipush 240, 3) := by decide +kernel
theorem d_MO_put_126 : decode b_MO_put 126 = .ok (.iload_n 1, 1) := by decide +kernel
theorem d_MO_put_127 : decode b_MO_put 127 = .ok (.imul, 1) := by decide +kernel
theorem d_MO_put_128 : decode b_MO_put 128 = .ok (.bipush 30, 2) := by decide +kernel
theorem d_MO_put_130 : decode b_MO_put 130 = .ok (.iload_n 2, 1) := by decide +kernel
theorem d_MO_put_131 : decode b_MO_put 131 = .ok (.imul, 1) := by decide +kernel
theorem d_MO_put_132 : decode b_MO_put 132 = .ok (.iadd, 1) := by decide +kernel
theorem d_MO_put_133 : decode b_MO_put 133 = .ok (.iload_n 3, 1) := by decide +kernel
theorem d_MO_put_134 : decode b_MO_put 134 = .ok (.iadd, 1) := by decide +kernel
theorem d_MO_put_135 : decode b_MO_put 135 = .ok (.dup2, 1) := by decide +kernel
theorem d_MO_put_136 : decode b_MO_put 136 = .ok (.iaload, 1) := by decide +kernel
theorem d_MO_put_137 : decode b_MO_put 137 = .ok (.iload 4, 2) := by decide +kernel
theorem d_MO_put_139 : decode b_MO_put 139 = .ok (.iadd, 1) := by decide +kernel
theorem d_MO_put_140 : decode b_MO_put 140 = .ok (.iastore, 1) := by decide +kernel
theorem d_MO_put_141 : decode b_MO_put 141 = .ok (.aload_n 0, 1) := by decide +kernel
theorem d_MO_put_142 : decode b_MO_put 142 = .ok (.getfield 47, 3) := by decide +kernel
theorem d_MO_put_145 : decode b_MO_put 145 = .ok (.sipush 240, 3) := by decide +kernel
theorem d_MO_put_148 : decode b_MO_put 148 = .ok (.iload_n 1, 1) := by decide +kernel
theorem d_MO_put_149 : decode b_MO_put 149 = .ok (.imul, 1) := by decide +kernel
theorem d_MO_put_150 : decode b_MO_put 150 = .ok (.bipush 30, 2) := by decide +kernel
theorem d_MO_put_152 : decode b_MO_put 152 = .ok (.iload_n 2, 1) := by decide +kernel
theorem d_MO_put_153 : decode b_MO_put 153 = .ok (.imul, 1) := by decide +kernel
theorem d_MO_put_154 : decode b_MO_put 154 = .ok (.iadd, 1) := by decide +kernel
theorem d_MO_put_155 : decode b_MO_put 155 = .ok (.iload_n 3, 1) := by decide +kernel
theorem d_MO_put_156 : decode b_MO_put 156 = .ok (.iadd, 1) := by decide +kernel
theorem d_MO_put_157 : decode b_MO_put 157 = .ok (.iaload, 1) := by decide +kernel
theorem d_MO_put_158 : decode b_MO_put 158 = .ok (.ireturn, 1) := by decide +kernel
theorem d_MO_use_0 : decode b_MO_use 0 = .ok (.aload_n 0, 1) := by decide +kernel
theorem d_MO_use_1 : decode b_MO_use 1 = .ok (.iload_n 1, 1) := by decide +kernel
theorem d_MO_use_2 : decode b_MO_use 2 = .ok (.iload_n 2, 1) := by decide +kernel
theorem d_MO_use_3 : decode b_MO_use 3 = .ok (.iload_n 3, 1) := by decide +kernel
theorem d_MO_use_4 : decode b_MO_use 4 = .ok (.invokevirtual 108, 3) := by decide +kernel
theorem d_MO_use_7 : decode b_MO_use 7 = .ok (.ifCond .ne 7, 3) := by decide +kernel
theorem d_MO_use_10 : decode b_MO_use 10 = .ok (.iconst 1, 1) := by decide +kernel
theorem d_MO_use_11 : decode b_MO_use 11 = .ok (.goto 4, 3) := by decide +kernel
theorem d_MO_use_14 : decode b_MO_use 14 = .ok (.iconst 0, 1) := by decide +kernel
theorem d_MO_use_15 : decode b_MO_use 15 = .ok (.istore 5, 2) := by decide +kernel
theorem d_MO_use_17 : decode b_MO_use 17 = .ok (.aload_n 0, 1) := by decide +kernel
theorem d_MO_use_18 : decode b_MO_use 18 = .ok (.iload 5, 2) := by decide +kernel
theorem d_MO_use_20 : decode b_MO_use 20 = .ok (.iload 4, 2) := by decide +kernel
theorem d_MO_use_22 : decode b_MO_use 22 = .ok (.iconst 1, 1) := by decide +kernel
theorem d_MO_use_23 : decode b_MO_use 23 = .ok (.bipush 99, 2) := by decide +kernel
theorem d_MO_use_25 : decode b_MO_use 25 = .ok (.invokestatic 63, 3) := by decide +kernel
theorem d_MO_use_28 : decode b_MO_use 28 = .ok (.ifCond .ne 7, 3) := by decide +kernel
theorem d_MO_use_31 : decode b_MO_use 31 = .ok (.iconst 1, 1) := by decide +kernel
theorem d_MO_use_32 : decode b_MO_use 32 = .ok (.goto 4, 3) := by decide +kernel
theorem d_MO_use_35 : decode b_MO_use 35 = .ok (.iconst 0, 1) := by decide +kernel
theorem d_MO_use_36 : decode b_MO_use 36 = .ok (.iload 5, 2) := by decide +kernel
theorem d_MO_use_38 : decode b_MO_use 38 = .ok (.ifCond .ne 29, 3) := by decide +kernel
theorem d_MO_use_41 : decode b_MO_use 41 = .ok (.aload_n 0, 1) := by decide +kernel
theorem d_MO_use_42 : decode b_MO_use 42 = .ok (.getfield 47, 3) := by decide +kernel
theorem d_MO_use_45 : decode b_MO_use 45 = .ok (.sipush 240, 3) := by decide +kernel
theorem d_MO_use_48 : decode b_MO_use 48 = .ok (.iload_n 1, 1) := by decide +kernel
theorem d_MO_use_49 : decode b_MO_use 49 = .ok (.imul, 1) := by decide +kernel
theorem d_MO_use_50 : decode b_MO_use 50 = .ok (.bipush 30, 2) := by decide +kernel
theorem d_MO_use_52 : decode b_MO_use 52 = .ok (.iload_n 2, 1) := by decide +kernel
theorem d_MO_use_53 : decode b_MO_use 53 = .ok (.imul, 1) := by decide +kernel
theorem d_MO_use_54 : decode b_MO_use 54 = .ok (.iadd, 1) := by decide +kernel
theorem d_MO_use_55 : decode b_MO_use 55 = .ok (.iload_n 3, 1) := by decide +kernel
theorem d_MO_use_56 : decode b_MO_use 56 = .ok (.iadd, 1) := by decide +kernel
theorem d_MO_use_57 : decode b_MO_use 57 = .ok (.iaload, 1) := by decide +kernel
theorem d_MO_use_58 : decode b_MO_use 58 = .ok (.iload 4, 2) := by decide +kernel
theorem d_MO_use_60 : decode b_MO_use 60 = .ok (.if_icmp .ge 7, 3) := by decide +kernel
theorem d_MO_use_63 : decode b_MO_use 63 = .ok (.iconst 1, 1) := by decide +kernel
theorem d_MO_use_64 : decode b_MO_use 64 = .ok (.goto 4, 3) := by decide +kernel
theorem d_MO_use_67 : decode b_MO_use 67 = .ok (.iconst 0, 1) := by decide +kernel
theorem d_MO_use_68 : decode b_MO_use 68 = .ok (.iconst 0, 1) := by decide +kernel
theorem d_MO_use_69 : decode b_MO_use 69 = .ok (.invokevirtual 81, 3) := by decide +kernel
theorem d_MO_use_72 : decode b_MO_use 72 = .ok (.ifCond .eq 5, 3) := by decide +kernel
theorem d_MO_use_75 : decode b_MO_use 75 = .ok (.iconst 0, 1) := by decide +kernel
theorem d_MO_use_76 : decode b_MO_use 76 = .ok (.ireturn, 1) := by decide +kernel
theorem d_MO_use_77 : decode b_MO_use 77 = .ok (.aload_n 0, 1) := by decide +kernel
theorem d_MO_use_78 : decode b_MO_use 78 = .ok (.getfield 47, 3) := by decide +kernel
theorem d_MO_use_81 : decode b_MO_use 81 = .ok (.sipush 240, 3) := by decide +kernel
theorem d_MO_use_84 : decode b_MO_use 84 = .ok (.iload_n 1, 1) := by decide +kernel
theorem d_MO_use_85 : decode b_MO_use 85 = .ok (.imul, 1) := by decide +kernel
theorem d_MO_use_86 : decode b_MO_use 86 = .ok (.bipush 30, 2) := by decide +kernel
theorem d_MO_use_88 : decode b_MO_use 88 = .ok (.iload_n 2, 1) := by decide +kernel
theorem d_MO_use_89 : decode b_MO_use 89 = .ok (.imul, 1) := by decide +kernel
theorem d_MO_use_90 : decode b_MO_use 90 = .ok (.iadd, 1) := by decide +kernel
theorem d_MO_use_91 : decode b_MO_use 91 = .ok (.iload_n 3, 1) := by decide +kernel
theorem d_MO_use_92 : decode b_MO_use 92 = .ok (.iadd, 1) := by decide +kernel
theorem d_MO_use_93 : decode b_MO_use 93 = .ok (.dup2, 1) := by decide +kernel
theorem d_MO_use_94 : decode b_MO_use 94 = .ok (.iaload, 1) := by decide +kernel
theorem d_MO_use_95 : decode b_MO_use 95 = .ok (.iload 4, 2) := by decide +kernel
theorem d_MO_use_97 : decode b_MO_use 97 = .ok (.isub, 1) := by decide +kernel
theorem d_MO_use_98 : decode b_MO_use 98 = .ok (.iastore, 1) := by decide +kernel
theorem d_MO_use_99 : decode b_MO_use 99 = .ok (.aload_n 0, 1) := by decide +kernel
theorem d_MO_use_100 : decode b_MO_use 100 = .ok (.getfield 47, 3) := by decide +kernel
theorem d_MO_use_103 : decode b_MO_use 103 = .ok (.sipush 240, 3) := by decide +kernel
theorem d_MO_use_106 : decode b_MO_use 106 = .ok (.iload_n 1, 1) := by decide +kernel
theorem d_MO_use_107 : decode b_MO_use 107 = .ok (.imul, 1) := by decide +kernel
theorem d_MO_use_108 : decode b_MO_use 108 = .ok (.bipush 30, 2) := by decide +kernel
theorem d_MO_use_110 : decode b_MO_use 110 = .ok (.iload_n 2, 1) := by decide +kernel
theorem d_MO_use_111 : decode b_MO_use 111 = .ok (.imul, 1) := by decide +kernel
theorem d_MO_use_112 : decode b_MO_use 112 = .ok (.iadd, 1) := by decide +kernel
theorem d_MO_use_113 : decode b_MO_use 113 = .ok (.iload_n 3, 1) := by decide +kernel
theorem d_MO_use_114 : decode b_MO_use 114 = .ok (.iadd, 1) := by decide +kernel
theorem d_MO_use_115 : decode b_MO_use 115 = .ok (.iaload, 1) := by decide +kernel
theorem d_MO_use_116 : decode b_MO_use 116 = .ok (.ireturn, 1) := by decide +kernel
theorem d_MO_missingOf_0 : decode b_MO_missingOf 0 = .ok (.aload_n 0, 1) := by decide +kernel
theorem d_MO_missingOf_1 : decode b_MO_missingOf 1 = .ok (.getfield 50, 3) := by decide +kernel
theorem d_MO_missingOf_4 : decode b_MO_missingOf 4 = .ok (.sipush 240, 3) := by decide +kernel
theorem d_MO_missingOf_7 : decode b_MO_missingOf 7 = .ok (.aload_n 0, 1) := by decide +kernel
theorem d_MO_missingOf_8 : decode b_MO_missingOf 8 = .ok (.getfield 19, 3) := by decide +kernel
theorem d_MO_missingOf_11 : decode b_MO_missingOf 11 = .ok (.iload_n 1, 1) := by decide +kernel
theorem d_MO_missingOf_12 : decode b_MO_missingOf 12 = .ok (.iaload, 1) := by decide +kernel
theorem d_MO_missingOf_13 : decode b_MO_missingOf 13 = .ok (.imul, 1) := by decide +kernel
theorem d_MO_missingOf_14 : decode b_MO_missingOf 14 = .ok (.iload_n 2, 1) := by decide +kernel
theorem d_MO_missingOf_15 : decode b_MO_missingOf 15 = .ok (.iadd, 1) := by decide +kernel
theorem d_MO_missingOf_16 : decode b_MO_missingOf 16 = .ok (.iaload, 1) := by decide +kernel
theorem d_MO_missingOf_17 : decode b_MO_missingOf 17 = .ok (.aload_n 0, 1) := by decide +kernel
theorem d_MO_missingOf_18 : decode b_MO_missingOf 18 = .ok (.getfield 47, 3) := by decide +kernel
theorem d_MO_missingOf_21 : decode b_MO_missingOf 21 = .ok (.sipush 240, 3) := by decide +kernel
theorem d_MO_missingOf_24 : decode b_MO_missingOf 24 = .ok (.iload_n 1, 1) := by decide +kernel
theorem d_MO_missingOf_25 : decode b_MO_missingOf 25 = .ok (.imul, 1) := by decide +kernel
theorem d_MO_missingOf_26 : decode b_MO_missingOf 26 = .ok (.iload_n 2, 1) := by decide +kernel
theorem d_MO_missingOf_27 : decode b_MO_missingOf 27 = .ok (.iadd, 1) := by decide +kernel
theorem d_MO_missingOf_28 : decode b_MO_missingOf 28 = .ok (.iaload, 1) := by decide +kernel
theorem d_MO_missingOf_29 : decode b_MO_missingOf 29 = .ok (.isub, 1) := by decide +kernel
theorem d_MO_missingOf_30 : decode b_MO_missingOf 30 = .ok (.istore_n 3, 1) := by decide +kernel
theorem d_MO_missingOf_31 : decode b_MO_missingOf 31 = .ok (.iload_n 3, 1) := by decide +kernel
theorem d_MO_missingOf_32 : decode b_MO_missingOf 32 = .ok (.ifCond .ge 7, 3) := by decide +kernel
theorem d_MO_missingOf_35 : decode b_MO_missingOf 35 = .ok (.iconst 0, 1) := by decide +kernel
theorem d_MO_missingOf_36 : decode b_MO_missingOf 36 = .ok (.goto 4, 3) := by decide +kernel
theorem d_MO_missingOf_39 : decode b_MO_missingOf 39 = .ok (.iload_n 3, 1) := by decide +kernel
theorem d_MO_missingOf_40 : decode b_MO_missingOf 40 = .ok (.ireturn, 1) := by decide +kernel
theorem d_MO_replace_0 : decode b_MO_replace 0 = .ok (.aload_n 0, 1) := by decide +kernel
theorem d_MO_replace_1 : decode b_MO_replace 1 = .ok (.aload_n 0, 1) := by decide +kernel
theorem d_MO_replace_2 : decode b_MO_replace 2 = .ok (.iload_n 1, 1) := by decide +kernel
theorem d_MO_replace_3 : decode b_MO_replace 3 = .ok (.invokevirtual 67, 3) := by decide +kernel
theorem d_MO_replace_6 : decode b_MO_replace 6 = .ok (.ifCond .ne 7, 3) := by decide +kernel
theorem d_MO_replace_9 : decode b_MO_replace 9 = .ok (.iconst 1, 1) := by decide +kernel
theorem d_MO_replace_10 : decode b_MO_replace 10 = .ok (.goto 4, 3) := by decide +kernel
theorem d_MO_replace_13 : decode b_MO_replace 13 = .ok (.iconst 0, 1) := by decide +kernel
theorem d_MO_replace_14 : decode b_MO_replace 14 = .ok (.iconst 0, 1) := by decide +kernel
theorem d_MO_replace_15 : decode b_MO_replace 15 = .ok (.iconst 0, 1) := by decide +kernel
theorem d_MO_replace_16 : decode b_MO_replace 16 = .ok (.iconst 0, 1) := by decide +kernel
theorem d_MO_replace_17 : decode b_MO_replace 17 = .ok (.invokevirtual 81, 3) := by decide +kernel
theorem d_MO_replace_20 : decode b_MO_replace 20 = .ok (.ifCond .eq 5, 3) := by decide +kernel
theorem d_MO_replace_23 : decode b_MO_replace 23 = .ok (.iconst 0, 1) := by decide +kernel
theorem d_MO_replace_24 : decode b_MO_replace 24 = .ok (.ireturn, 1) := by decide +kernel
theorem d_MO_replace_25 : decode b_MO_replace 25 = .ok (.iconst 0, 1) := by decide +kernel
theorem d_MO_replace_26 : decode b_MO_replace 26 = .ok (.istore_n 2, 1) := by decide +kernel
theorem d_MO_replace_27 : decode b_MO_replace 27 = .ok (.iconst 0, 1) := by decide +kernel
theorem d_MO_replace_28 : decode b_MO_replace 28 = .ok (.istore_n 3, 1) := by decide +kernel
theorem d_MO_replace_29 : decode b_MO_replace 29 = .ok (.iload_n 3, 1) := by decide +kernel
theorem d_MO_replace_30 : decode b_MO_replace 30 = .ok (.sipush 240, 3) := by decide +kernel
theorem d_MO_replace_33 : decode b_MO_replace 33 = .ok (.if_icmp .ge 104, 3) := by decide +kernel
theorem d_MO_replace_36 : decode b_MO_replace 36 = .ok (.aload_n 0, 1) := by decide +kernel
theorem d_MO_replace_37 : decode b_MO_replace 37 = .ok (.iload_n 1, 1) := by decide +kernel
theorem d_MO_replace_38 : decode b_MO_replace 38 = .ok (.iload_n 3, 1) := by decide +kernel
theorem d_MO_replace_39 : decode b_MO_replace 39 = .ok (.invokevirtual 115, 3) := by decide +kernel
theorem d_MO_replace_42 : decode b_MO_replace 42 = .ok (.istore 4, 2) := by decide +kernel
theorem d_MO_replace_44 : decode b_MO_replace 44 = .ok (.iload_n 3, 1) := by decide +kernel
theorem d_MO_replace_45 : decode b_MO_replace 45 = .ok (.bipush 30, 2) := by decide +kernel
theorem d_MO_replace_47 : decode b_MO_replace 47 = .ok (.irem, 1) := by decide +kernel
theorem d_MO_replace_48 : decode b_MO_replace 48 = .ok (.istore 5, 2) := by decide +kernel
theorem d_MO_replace_50 : decode b_MO_replace 50 = .ok (.iload 4, 2) := by decide +kernel
theorem d_MO_replace_52 : decode b_MO_replace 52 = .ok (.aload_n 0, 1) := by decide +kernel
theorem d_MO_replace_53 : decode b_MO_replace 53 = .ok (.getfield 16, 3) := by decide +kernel
theorem d_MO_replace_56 : decode b_MO_replace 56 = .ok (.iload 5, 2) := by decide +kernel
theorem d_MO_replace_58 : decode b_MO_replace 58 = .ok (.iaload, 1) := by decide +kernel
theorem d_MO_replace_59 : decode b_MO_replace 59 = .ok (.if_icmp .ge 8, 3) := by decide +kernel
theorem d_MO_replace_62 : decode b_MO_replace 62 = .ok (.iload 4, 2) := by decide +kernel
theorem d_MO_replace_64 : decode b_MO_replace 64 = .ok (.goto 10, 3) := by decide +kernel
theorem d_MO_replace_67 : decode b_MO_replace 67 = .ok (.aload_n 0, 1) := by decide +kernel
theorem d_MO_replace_68 : decode b_MO_replace 68 = .ok (.getfield 16, 3) := by decide +kernel
theorem d_MO_replace_71 : decode b_MO_replace 71 = .ok (.iload 5, 2) := by decide +kernel
theorem d_MO_replace_73 : decode b_MO_replace 73 = .ok (.iaload, 1) := by decide +kernel
theorem d_MO_replace_74 : decode b_MO_replace 74 = .ok (.istore 4, 2) := by decide +kernel
theorem d_MO_replace_76 : decode b_MO_replace 76 = .ok (.iload 4, 2) := by decide +kernel
theorem d_MO_replace_78 : decode b_MO_replace 78 = .ok (.ifCond .le 53, 3) := by decide +kernel
theorem d_MO_replace_81 : decode b_MO_replace 81 = .ok (.aload_n 0, 1) := by decide +kernel
theorem d_MO_replace_82 : decode b_MO_replace 82 = .ok (.iload_n 1, 1) := by decide +kernel
theorem d_MO_replace_83 : decode b_MO_replace 83 = .ok (.iload_n 3, 1) := by decide +kernel
theorem d_MO_replace_84 : decode b_MO_replace 84 = .ok (.bipush 30, 2) := by decide +kernel
theorem d_MO_replace_86 : decode b_MO_replace 86 = .ok (.idiv, 1) := by decide +kernel
theorem d_MO_replace_87 : decode b_MO_replace 87 = .ok (.iload 5, 2) := by decide +kernel
theorem d_MO_replace_89 : decode b_MO_replace 89 = .ok (.iload 4, 2) := by decide +kernel
theorem d_MO_replace_91 : decode b_MO_replace 91 = .ok (.invokevirtual 111, 3) := by decide +kernel
theorem d_MO_replace_94 : decode b_MO_replace 94 = .ok (.ifCond .ne 37, 3) := by decide +kernel
theorem d_MO_replace_97 : decode b_MO_replace 97 = .ok (.aload_n 0, 1) := by decide +kernel
theorem d_MO_replace_98 : decode b_MO_replace 98 = .ok (.getfield 47, 3) := by decide +kernel
theorem d_MO_replace_101 : decode b_MO_replace 101 = .ok (.sipush 240, 3) := by decide +kernel
theorem d_MO_replace_104 : decode b_MO_replace 104 = .ok (.iload_n 1, 1) := by decide +kernel
theorem d_MO_replace_105 : decode b_MO_replace 105 = .ok (.imul, 1) := by decide +kernel
theorem d_MO_replace_106 : decode b_MO_replace 106 = .ok (.iload_n 3, 1) := by decide +kernel
theorem d_MO_replace_107 : decode b_MO_replace 107 = .ok (.iadd, 1) := by decide +kernel
theorem d_MO_replace_108 : decode b_MO_replace 108 = .ok (.dup2, 1) := by decide +kernel
theorem d_MO_replace_109 : decode b_MO_replace 109 = .ok (.iaload, 1) := by decide +kernel
theorem d_MO_replace_110 : decode b_MO_replace 110 = .ok (.iload 4, 2) := by decide +kernel
theorem d_MO_replace_112 : decode b_MO_replace 112 = .ok (.iadd, 1) := by decide +kernel
theorem d_MO_replace_113 : decode b_MO_replace 113 = .ok (.iastore, 1) := by decide +kernel
theorem d_MO_replace_114 : decode b_MO_replace 114 = .ok (.aload_n 0, 1) := by decide +kernel
theorem d_MO_replace_115 : decode b_MO_replace 115 = .ok (.getfield 16, 3) := by decide +kernel
theorem d_MO_replace_118 : decode b_MO_replace 118 = .ok (.iload 5, 2) := by decide +kernel
theorem d_MO_replace_120 : decode b_MO_replace 120 = .ok (.dup2, 1) := by decide +kernel
theorem d_MO_replace_121 : decode b_MO_replace 121 = .ok (.iaload, 1) := by decide +kernel
theorem d_MO_replace_122 : decode b_MO_replace 122 = .ok (.iload 4, 2) := by decide +kernel
theorem d_MO_replace_124 : decode b_MO_replace 124 = .ok (.isub, 1) := by decide +kernel
theorem d_MO_replace_125 : decode b_MO_replace 125 = .ok (.iastore, 1) := by decide +kernel
theorem d_MO_replace_126 : decode b_MO_replace 126 = .ok (.iload_n 2, 1) := by decide +kernel
theorem d_MO_replace_127 : decode b_MO_replace 127 = .ok (.iload 4, 2) := by decide +kernel
theorem d_MO_replace_129 : decode b_MO_replace 129 = .ok (.iadd, 1) := by decide +kernel
theorem d_MO_replace_130 : decode b_MO_replace 130 = .ok (.istore_n 2, 1) := by decide +kernel
theorem d_MO_replace_131 : decode b_MO_replace 131 = .ok (.iinc 3 1, 3) := by decide +kernel
theorem d_MO_replace_134 : decode b_MO_replace 134 = .ok (.goto (-105), 3) := by decide +kernel
theorem d_MO_replace_137 : decode b_MO_replace 137 = .ok (.iload_n 2, 1) := by decide +kernel
theorem d_MO_replace_138 : decode b_MO_replace 138 = .ok (.ireturn, 1) := by decide +kernel
theorem d_MO_tell_0 : decode b_MO_tell 0 = .ok (.iconst 3, 1) := by decide +kernel
theorem d_MO_tell_1 : decode b_MO_tell 1 = .ok (.aload_n 0, 1) := by decide +kernel
theorem d_MO_tell_2 : decode b_MO_tell 2 = .ok (.getfield 119, 3) := by decide +kernel
theorem d_MO_tell_5 : decode b_MO_tell 5 = .ok (.bipush 100, 2) := by decide +kernel
theorem d_MO_tell_7 : decode b_MO_tell 7 = .ok (.irem, 1) := by decide +kernel
theorem d_MO_tell_8 : decode b_MO_tell 8 = .ok (.imul, 1) := by decide +kernel
theorem d_MO_tell_9 : decode b_MO_tell 9 = .ok (.istore 4, 2) := by decide +kernel
theorem d_MO_tell_11 : decode b_MO_tell 11 = .ok (.aload_n 0, 1) := by decide +kernel
theorem d_MO_tell_12 : decode b_MO_tell 12 = .ok (.getfield 53, 3) := by decide +kernel
theorem d_MO_tell_15 : decode b_MO_tell 15 = .ok (.iload 4, 2) := by decide +kernel
theorem d_MO_tell_17 : decode b_MO_tell 17 = .ok (.iload_n 1, 1) := by decide +kernel
theorem d_MO_tell_18 : decode b_MO_tell 18 = .ok (.iastore, 1) := by decide +kernel
theorem d_MO_tell_19 : decode b_MO_tell 19 = .ok (.aload_n 0, 1) := by decide +kernel
theorem d_MO_tell_20 : decode b_MO_tell 20 = .ok (.getfield 53, 3) := by decide +kernel
theorem d_MO_tell_23 : decode b_MO_tell 23 = .ok (.iload 4, 2) := by decide +kernel
theorem d_MO_tell_25 : decode b_MO_tell 25 = .ok (.iconst 1, 1) := by decide +kernel
theorem d_MO_tell_26 : decode b_MO_tell 26 = .ok (.iadd, 1) := by decide +kernel
theorem d_MO_tell_27 : decode b_MO_tell 27 = .ok (.iload_n 2, 1) := by decide +kernel
theorem d_MO_tell_28 : decode b_MO_tell 28 = .ok (.iastore, 1) := by decide +kernel
theorem d_MO_tell_29 : decode b_MO_tell 29 = .ok (.aload_n 0, 1) := by decide +kernel
theorem d_MO_tell_30 : decode b_MO_tell 30 = .ok (.getfield 53, 3) := by decide +kernel
theorem d_MO_tell_33 : decode b_MO_tell 33 = .ok (.iload 4, 2) := by decide +kernel
theorem d_MO_tell_35 : decode b_MO_tell 35 = .ok (.iconst 2, 1) := by decide +kernel
theorem d_MO_tell_36 : decode b_MO_tell 36 = .ok (.iadd, 1) := by decide +kernel
theorem d_MO_tell_37 : decode b_MO_tell 37 = .ok (.iload_n 3, 1) := by decide +kernel
theorem d_MO_tell_38 : decode b_MO_tell 38 = .ok (.iastore, 1) := by decide +kernel
theorem d_MO_tell_39 : decode b_MO_tell 39 = .ok (.aload_n 0, 1) := by decide +kernel
theorem d_MO_tell_40 : decode b_MO_tell 40 = .ok (.dup, 1) := by decide +kernel
theorem d_MO_tell_41 : decode b_MO_tell 41 = .ok (.getfield 119, 3) := by decide +kernel
theorem d_MO_tell_44 : decode b_MO_tell 44 = .ok (.iconst 1, 1) := by decide +kernel
theorem d_MO_tell_45 : decode b_MO_tell 45 = .ok (.iadd, 1) := by decide +kernel
theorem d_MO_tell_46 : decode b_MO_tell 46 = .ok (.putfield 119, 3) := by decide +kernel
theorem d_MO_tell_49 : decode b_MO_tell 49 = .ok (.return_, 1) := by decide +kernel
theorem d_MO_swap_0 : decode b_MO_swap 0 = .ok (.aload_n 0, 1) := by decide +kernel
theorem d_MO_swap_1 : decode b_MO_swap 1 = .ok (.iload_n 1, 1) := by decide +kernel
theorem d_MO_swap_2 : decode b_MO_swap 2 = .ok (.iload_n 3, 1) := by decide +kernel
theorem d_MO_swap_3 : decode b_MO_swap 3 = .ok (.iload 4, 2) := by decide +kernel
theorem d_MO_swap_5 : decode b_MO_swap 5 = .ok (.invokevirtual 108, 3) := by decide +kernel
theorem d_MO_swap_8 : decode b_MO_swap 8 = .ok (.ifCond .eq 16, 3) := by decide +kernel
theorem d_MO_swap_11 : decode b_MO_swap 11 = .ok (.aload_n 0, 1) := by decide +kernel
theorem d_MO_swap_12 : decode b_MO_swap 12 = .ok (.iload_n 2, 1) := by decide +kernel
theorem d_MO_swap_13 : decode b_MO_swap 13 = .ok (.invokevirtual 67, 3) := by decide +kernel
theorem d_MO_swap_16 : decode b_MO_swap 16 = .ok (.ifCond .eq 8, 3) := by decide +kernel
theorem d_MO_swap_19 : decode b_MO_swap 19 = .ok (.iload_n 2, 1) := by decide +kernel
theorem d_MO_swap_20 : decode b_MO_swap 20 = .ok (.iload_n 1, 1) := by decide +kernel
theorem d_MO_swap_21 : decode b_MO_swap 21 = .ok (.if_icmp .ne 7, 3) := by decide +kernel
theorem d_MO_swap_24 : decode b_MO_swap 24 = .ok (.iconst 1, 1) := by decide +kernel
theorem d_MO_swap_25 : decode b_MO_swap 25 = .ok (.goto 4, 3) := by decide +kernel
theorem d_MO_swap_28 : decode b_MO_swap 28 = .ok (.iconst 0, 1) := by decide +kernel
theorem d_MO_swap_29 : decode b_MO_swap 29 = .ok (.istore 6, 2) := by decide +kernel
theorem d_MO_swap_31 : decode b_MO_swap 31 = .ok (.iload 5, 2) := by decide +kernel
theorem d_MO_swap_33 : decode b_MO_swap 33 = .ok (.iconst 1, 1) := by decide +kernel
theorem d_MO_swap_34 : decode b_MO_swap 34 = .ok (.bipush 99, 2) := by decide +kernel
theorem d_MO_swap_36 : decode b_MO_swap 36 = .ok (.invokestatic 63, 3) := by decide +kernel
theorem d_MO_swap_39 : decode b_MO_swap 39 = .ok (.ifCond .ne 7, 3) := by decide +kernel
theorem d_MO_swap_42 : decode b_MO_swap 42 = .ok (.iconst 1, 1) := by decide +kernel
theorem d_MO_swap_43 : decode b_MO_swap 43 = .ok (.goto 4, 3) := by decide +kernel
theorem d_MO_swap_46 : decode b_MO_swap 46 = .ok (.iconst 0, 1) := by decide +kernel
theorem d_MO_swap_47 : decode b_MO_swap 47 = .ok (.istore 7, 2) := by decide +kernel
theorem d_MO_swap_49 : decode b_MO_swap 49 = .ok (.iload 6, 2) := by decide +kernel
theorem d_MO_swap_51 : decode b_MO_swap 51 = .ok (.ifCond .ne 48, 3) := by decide +kernel
theorem d_MO_swap_54 : decode b_MO_swap 54 = .ok (.iload 7, 2) := by decide +kernel
theorem d_MO_swap_56 : decode b_MO_swap 56 = .ok (.ifCond .ne 43, 3) := by decide +kernel
theorem d_MO_swap_59 : decode b_MO_swap 59 = .ok (.aload_n 0, 1) := by decide +kernel
theorem d_MO_swap_60 : decode b_MO_swap 60 = .ok (.getfield 47, 3) := by decide +kernel
theorem d_MO_swap_63 : decode b_MO_swap 63 = .ok (.sipush 240, 3) := by decide +kernel
theorem d_MO_swap_66 : decode b_MO_swap 66 = .ok (.iload_n 1, 1) := by decide +kernel
theorem d_MO_swap_67 : decode b_MO_swap 67 = .ok (.imul, 1) := by decide +kernel
theorem d_MO_swap_68 : decode b_MO_swap 68 = .ok (.bipush 30, 2) := by decide +kernel
theorem d_MO_swap_70 : decode b_MO_swap 70 = .ok (.iload_n 3, 1) := by decide +kernel
theorem d_MO_swap_71 : decode b_MO_swap 71 = .ok (.imul, 1) := by decide +kernel
theorem d_MO_swap_72 : decode b_MO_swap 72 = .ok (.iadd, 1) := by decide +kernel
theorem d_MO_swap_73 : decode b_MO_swap 73 = .ok (.iload 4, 2) := by decide +kernel
theorem d_MO_swap_75 : decode b_MO_swap 75 = .ok (.iadd, 1) := by decide +kernel
theorem d_MO_swap_76 : decode b_MO_swap 76 = .ok (.iaload, 1) := by decide +kernel
theorem d_MO_swap_77 : decode b_MO_swap 77 = .ok (.iload 5, 2) := by decide +kernel
theorem d_MO_swap_79 : decode b_MO_swap 79 = .ok (.if_icmp .lt 16, 3) := by decide +kernel
theorem d_MO_swap_82 : decode b_MO_swap 82 = .ok (.aload_n 0, 1) := by decide +kernel
theorem d_MO_swap_83 : decode b_MO_swap 83 = .ok (.iload_n 2, 1) := by decide +kernel
theorem d_MO_swap_84 : decode b_MO_swap 84 = .ok (.iload_n 3, 1) := by decide +kernel
theorem d_MO_swap_85 : decode b_MO_swap 85 = .ok (.iload 4, 2) := by decide +kernel
theorem d_MO_swap_87 : decode b_MO_swap 87 = .ok (.iload 5, 2) := by decide +kernel
theorem d_MO_swap_89 : decode b_MO_swap 89 = .ok (.invokevirtual 111, 3) := by decide +kernel
theorem d_MO_swap_92 : decode b_MO_swap 92 = .ok (.ifCond .eq 7, 3) := by decide +kernel
theorem d_MO_swap_95 : decode b_MO_swap 95 = .ok (.iconst 1, 1) := by decide +kernel
theorem d_MO_swap_96 : decode b_MO_swap 96 = .ok (.goto 4, 3) := by decide +kernel
theorem d_MO_swap_99 : decode b_MO_swap 99 = .ok (.iconst 0, 1) := by decide +kernel
theorem d_MO_swap_100 : decode b_MO_swap 100 = .ok (.istore 8, 2) := by decide +kernel
theorem d_MO_swap_102 : decode b_MO_swap 102 = .ok (.aload_n 0, 1) := by decide +kernel
theorem d_MO_swap_103 : decode b_MO_swap 103 = .ok (.iload 6, 2) := by decide +kernel
theorem d_MO_swap_105 : decode b_MO_swap 105 = .ok (.iload 7, 2) := by decide +kernel
theorem d_MO_swap_107 : decode b_MO_swap 107 = .ok (.iload 8, 2) := by decide +kernel
theorem d_MO_swap_109 : decode b_MO_swap 109 = .ok (.iload 6, 2) := by decide +kernel
theorem d_MO_swap_111 : decode b_MO_swap 111 = .ok (.ifCond .ne 38, 3) := by decide +kernel
theorem d_MO_swap_114 : decode b_MO_swap 114 = .ok (.iload 7, 2) := by decide +kernel
theorem d_MO_swap_116 : decode b_MO_swap 116 = .ok (.ifCond .ne 33, 3) := by decide +kernel
theorem d_MO_swap_119 : decode b_MO_swap 119 = .ok (.aload_n 0, 1) := by decide +kernel
theorem d_MO_swap_120 : decode b_MO_swap 120 = .ok (.getfield 47, 3) := by decide +kernel
theorem d_MO_swap_123 : decode b_MO_swap 123 = .ok (.sipush 240, 3) := by decide +kernel
theorem d_MO_swap_126 : decode b_MO_swap 126 = .ok (.iload_n 2, 1) := by decide +kernel
theorem d_MO_swap_127 : decode b_MO_swap 127 = .ok (.imul, 1) := by decide +kernel
theorem d_MO_swap_128 : decode b_MO_swap 128 = .ok (.bipush 30, 2) := by decide +kernel
theorem d_MO_swap_130 : decode b_MO_swap 130 = .ok (.iload_n 3, 1) := by decide +kernel
theorem d_MO_swap_131 : decode b_MO_swap 131 = .ok (.imul, 1) := by decide +kernel
theorem d_MO_swap_132 : decode b_MO_swap 132 = .ok (.iadd, 1) := by decide +kernel
theorem d_MO_swap_133 : decode b_MO_swap 133 = .ok (.iload 4, 2) := by decide +kernel
theorem d_MO_swap_135 : decode b_MO_swap 135 = .ok (.iadd, 1) := by decide +kernel
theorem d_MO_swap_136 : decode b_MO_swap 136 = .ok (.iaload, 1) := by decide +kernel
theorem d_MO_swap_137 : decode b_MO_swap 137 = .ok (.iload 5, 2) := by decide +kernel
theorem d_MO_swap_139 : decode b_MO_swap 139 = .ok (.iadd, 1) := by decide +kernel
theorem d_MO_swap_140 : decode b_MO_swap 140 = .ok (.bipush 99, 2) := by decide +kernel
theorem d_MO_swap_142 : decode b_MO_swap 142 = .ok (.if_icmp .le 7, 3) := by decide +kernel
theorem d_MO_swap_145 : decode b_MO_swap 145 = .ok (.iconst 1, 1) := by decide +kernel
theorem d_MO_swap_146 : decode b_MO_swap 146 = .ok (.goto 4, 3) := by decide +kernel
theorem d_MO_swap_149 : decode b_MO_swap 149 = .ok (.iconst 0, 1) := by decide +kernel
theorem d_MO_swap_150 : decode b_MO_swap 150 = .ok (.invokevirtual 81, 3) := by decide +kernel
theorem d_MO_swap_153 : decode b_MO_swap 153 = .ok (.ifCond .eq 4, 3) := by decide +kernel
theorem d_MO_swap_156 : decode b_MO_swap 156 = .ok (.return_, 1) := by decide +kernel
theorem d_MO_swap_157 : decode b_MO_swap 157 = .ok (.aload_n 0, 1) := by decide +kernel
theorem d_MO_swap_158 : decode b_MO_swap 158 = .ok (.getfield 47, 3) := by decide +kernel
theorem d_MO_swap_161 : decode b_MO_swap 161 = .ok (.sipush 240, 3) := by decide +kernel
theorem d_MO_swap_164 : decode b_MO_swap 164 = .ok (.iload_n 1, 1) := by decide +kernel
theorem d_MO_swap_165 : decode b_MO_swap 165 = .ok (.imul, 1) := by decide +kernel
theorem d_MO_swap_166 : decode b_MO_swap 166 = .ok (.bipush 30, 2) := by decide +kernel
theorem d_MO_swap_168 : decode b_MO_swap 168 = .ok (.iload_n 3, 1) := by decide +kernel
theorem d_MO_swap_169 : decode b_MO_swap 169 = .ok (.imul, 1) := by decide +kernel
theorem d_MO_swap_170 : decode b_MO_swap 170 = .ok (.iadd, 1) := by decide +kernel
theorem d_MO_swap_171 : decode b_MO_swap 171 = .ok (.iload 4, 2) := by decide +kernel
theorem d_MO_swap_173 : decode b_MO_swap 173 = .ok (.iadd, 1) := by decide +kernel
theorem d_MO_swap_174 : decode b_MO_swap 174 = .ok (.dup2, 1) := by decide +kernel
theorem d_MO_swap_175 : decode b_MO_swap 175 = .ok (.iaload, 1) := by decide +kernel
theorem d_MO_swap_176 : decode b_MO_swap 176 = .ok (.iload 5, 2) := by decide +kernel
theorem d_MO_swap_178 : decode b_MO_swap 178 = .ok (.isub, 1) := by decide +kernel
theorem d_MO_swap_179 : decode b_MO_swap 179 = .ok (.iastore, 1) := by decide +kernel
theorem d_MO_swap_180 : decode b_MO_swap 180 = .ok (.aload_n 0, 1) := by decide +kernel
theorem d_MO_swap_181 : decode b_MO_swap 181 = .ok (.getfield 47, 3) := by decide +kernel
theorem d_MO_swap_184 : decode b_MO_swap 184 = .ok (.sipush 240, 3) := by decide +kernel
theorem d_MO_swap_187 : decode b_MO_swap 187 = .ok (.iload_n 2, 1) := by decide +kernel
theorem d_MO_swap_188 : decode b_MO_swap 188 = .ok (.imul, 1) := by decide +kernel
theorem d_MO_swap_189 : decode b_MO_swap 189 = .ok (.bipush 30, 2) := by decide +kernel
theorem d_MO_swap_191 : decode b_MO_swap 191 = .ok (.iload_n 3, 1) := by decide +kernel
theorem d_MO_swap_192 : decode b_MO_swap 192 = .ok (.imul, 1) := by decide +kernel
theorem d_MO_swap_193 : decode b_MO_swap 193 = .ok (.iadd, 1) := by decide +kernel
theorem d_MO_swap_194 : decode b_MO_swap 194 = .ok (.iload 4, 2) := by decide +kernel
theorem d_MO_swap_196 : decode b_MO_swap 196 = .ok (.iadd, 1) := by decide +kernel
theorem d_MO_swap_197 : decode b_MO_swap 197 = .ok (.dup2, 1) := by decide +kernel
theorem d_MO_swap_198 : decode b_MO_swap 198 = .ok (.iaload, 1) := by decide +kernel
theorem d_MO_swap_199 : decode b_MO_swap 199 = .ok (.iload 5, 2) := by decide +kernel
theorem d_MO_swap_201 : decode b_MO_swap 201 = .ok (.iadd, 1) := by decide +kernel
theorem d_MO_swap_202 : decode b_MO_swap 202 = .ok (.iastore, 1) := by decide +kernel
theorem d_MO_swap_203 : decode b_MO_swap 203 = .ok (.aload_n 0, 1) := by decide +kernel
theorem d_MO_swap_204 : decode b_MO_swap 204 = .ok (.iload_n 1, 1) := by decide +kernel
theorem d_MO_swap_205 : decode b_MO_swap 205 = .ok (.iload 4, 2) := by decide +kernel
theorem d_MO_swap_207 : decode b_MO_swap 207 = .ok (.iload 5, 2) := by decide +kernel
theorem d_MO_swap_209 : decode b_MO_swap 209 = .ok (.ineg, 1) := by decide +kernel
theorem d_MO_swap_210 : decode b_MO_swap 210 = .ok (.invokevirtual 122, 3) := by decide +kernel
theorem d_MO_swap_213 : decode b_MO_swap 213 = .ok (.aload_n 0, 1) := by decide +kernel
theorem d_MO_swap_214 : decode b_MO_swap 214 = .ok (.iload_n 2, 1) := by decide +kernel
theorem d_MO_swap_215 : decode b_MO_swap 215 = .ok (.iload 4, 2) := by decide +kernel
theorem d_MO_swap_217 : decode b_MO_swap 217 = .ok (.iload 5, 2) := by decide +kernel
theorem d_MO_swap_219 : decode b_MO_swap 219 = .ok (.invokevirtual 122, 3) := by decide +kernel
theorem d_MO_swap_222 : decode b_MO_swap 222 = .ok (.return_, 1) := by decide +kernel
theorem d_MO_ends_0 : decode b_MO_ends 0 = .ok (.aload_n 0, 1) := by decide +kernel
theorem d_MO_ends_1 : decode b_MO_ends 1 = .ok (.aload_n 0, 1) := by decide +kernel
theorem d_MO_ends_2 : decode b_MO_ends 2 = .ok (.iload_n 1, 1) := by decide +kernel
theorem d_MO_ends_3 : decode b_MO_ends 3 = .ok (.invokevirtual 67, 3) := by decide +kernel
theorem d_MO_ends_6 : decode b_MO_ends 6 = .ok (.ifCond .eq 10, 3) := by decide +kernel
theorem d_MO_ends_9 : decode b_MO_ends 9 = .ok (.iload_n 2, 1) := by decide +kernel
theorem d_MO_ends_10 : decode b_MO_ends 10 = .ok (.invokestatic 74, 3) := by decide +kernel
theorem d_MO_ends_13 : decode b_MO_ends 13 = .ok (.ifCond .ne 7, 3) := by decide +kernel
theorem d_MO_ends_16 : decode b_MO_ends 16 = .ok (.iconst 1, 1) := by decide +kernel
theorem d_MO_ends_17 : decode b_MO_ends 17 = .ok (.goto 4, 3) := by decide +kernel
theorem d_MO_ends_20 : decode b_MO_ends 20 = .ok (.iconst 0, 1) := by decide +kernel
theorem d_MO_ends_21 : decode b_MO_ends 21 = .ok (.iload_n 3, 1) := by decide +kernel
theorem d_MO_ends_22 : decode b_MO_ends 22 = .ok (.iconst (-1), 1) := by decide +kernel
theorem d_MO_ends_23 : decode b_MO_ends 23 = .ok (.sipush 9999, 3) := by decide +kernel
theorem d_MO_ends_26 : decode b_MO_ends 26 = .ok (.invokestatic 63, 3) := by decide +kernel
theorem d_MO_ends_29 : decode b_MO_ends 29 = .ok (.ifCond .ne 7, 3) := by decide +kernel
theorem d_MO_ends_32 : decode b_MO_ends 32 = .ok (.iconst 1, 1) := by decide +kernel
theorem d_MO_ends_33 : decode b_MO_ends 33 = .ok (.goto 4, 3) := by decide +kernel
theorem d_MO_ends_36 : decode b_MO_ends 36 = .ok (.iconst 0, 1) := by decide +kernel
theorem d_MO_ends_37 : decode b_MO_ends 37 = .ok (.iconst 0, 1) := by decide +kernel
theorem d_MO_ends_38 : decode b_MO_ends 38 = .ok (.iconst 0, 1) := by decide +kernel
theorem d_MO_ends_39 : decode b_MO_ends 39 = .ok (.invokevirtual 81, 3) := by decide +kernel
theorem d_MO_ends_42 : decode b_MO_ends 42 = .ok (.ifCond .eq 4, 3) := by decide +kernel
theorem d_MO_ends_45 : decode b_MO_ends 45 = .ok (.return_, 1) := by decide +kernel
theorem d_MO_ends_46 : decode b_MO_ends 46 = .ok (.aload_n 0, 1) := by decide +kernel
theorem d_MO_ends_47 : decode b_MO_ends 47 = .ok (.getfield 41, 3) := by decide +kernel
theorem d_MO_ends_50 : decode b_MO_ends 50 = .ok (.bipush 30, 2) := by decide +kernel
theorem d_MO_ends_52 : decode b_MO_ends 52 = .ok (.iload_n 1, 1) := by decide +kernel
theorem d_MO_ends_53 : decode b_MO_ends 53 = .ok (.imul, 1) := by decide +kernel
theorem d_MO_ends_54 : decode b_MO_ends 54 = .ok (.iload_n 2, 1) := by decide +kernel
theorem d_MO_ends_55 : decode b_MO_ends 55 = .ok (.iadd, 1) := by decide +kernel
theorem d_MO_ends_56 : decode b_MO_ends 56 = .ok (.iload_n 3, 1) := by decide +kernel
theorem d_MO_ends_57 : decode b_MO_ends 57 = .ok (.iastore, 1) := by decide +kernel
theorem d_MO_ends_58 : decode b_MO_ends 58 = .ok (.return_, 1) := by decide +kernel
theorem d_MO_battery_0 : decode b_MO_battery 0 = .ok (.aload_n 0, 1) := by decide +kernel
theorem d_MO_battery_1 : decode b_MO_battery 1 = .ok (.aload_n 0, 1) := by decide +kernel
theorem d_MO_battery_2 : decode b_MO_battery 2 = .ok (.iload_n 1, 1) := by decide +kernel
theorem d_MO_battery_3 : decode b_MO_battery 3 = .ok (.invokevirtual 67, 3) := by decide +kernel
theorem d_MO_battery_6 : decode b_MO_battery 6 = .ok (.ifCond .eq 10, 3) := by decide +kernel
theorem d_MO_battery_9 : decode b_MO_battery 9 = .ok (.iload_n 2, 1) := by decide +kernel
theorem d_MO_battery_10 : decode b_MO_battery 10 = .ok (.invokestatic 74, 3) := by decide +kernel
theorem d_MO_battery_13 : decode b_MO_battery 13 = .ok (.ifCond .ne 7, 3) := by decide +kernel
theorem d_MO_battery_16 : decode b_MO_battery 16 = .ok (.iconst 1, 1) := by decide +kernel
theorem d_MO_battery_17 : decode b_MO_battery 17 = .ok (.goto 4, 3) := by decide +kernel
theorem d_MO_battery_20 : decode b_MO_battery 20 = .ok (.iconst 0, 1) := by decide +kernel
theorem d_MO_battery_21 : decode b_MO_battery 21 = .ok (.iload_n 3, 1) := by decide +kernel
theorem d_MO_battery_22 : decode b_MO_battery 22 = .ok (.iconst 0, 1) := by decide +kernel
theorem d_MO_battery_23 : decode b_MO_battery 23 = .ok (.bipush 100, 2) := by decide +kernel
theorem d_MO_battery_25 : decode b_MO_battery 25 = .ok (.invokestatic 63, 3) := by decide +kernel
theorem d_MO_battery_28 : decode b_MO_battery 28 = .ok (.ifCond .ne 7, 3) := by decide +kernel
theorem d_MO_battery_31 : decode b_MO_battery 31 = .ok (.iconst 1, 1) := by decide +kernel
theorem d_MO_battery_32 : decode b_MO_battery 32 = .ok (.goto 4, 3) := by decide +kernel
theorem d_MO_battery_35 : decode b_MO_battery 35 = .ok (.iconst 0, 1) := by decide +kernel
theorem d_MO_battery_36 : decode b_MO_battery 36 = .ok (.iconst 0, 1) := by decide +kernel
theorem d_MO_battery_37 : decode b_MO_battery 37 = .ok (.iconst 0, 1) := by decide +kernel
theorem d_MO_battery_38 : decode b_MO_battery 38 = .ok (.invokevirtual 81, 3) := by decide +kernel
theorem d_MO_battery_41 : decode b_MO_battery 41 = .ok (.ifCond .eq 4, 3) := by decide +kernel
theorem d_MO_battery_44 : decode b_MO_battery 44 = .ok (.return_, 1) := by decide +kernel
theorem d_MO_battery_45 : decode b_MO_battery 45 = .ok (.aload_n 0, 1) := by decide +kernel
theorem d_MO_battery_46 : decode b_MO_battery 46 = .ok (.getfield 44, 3) := by decide +kernel
theorem d_MO_battery_49 : decode b_MO_battery 49 = .ok (.bipush 30, 2) := by decide +kernel
theorem d_MO_battery_51 : decode b_MO_battery 51 = .ok (.iload_n 1, 1) := by decide +kernel
theorem d_MO_battery_52 : decode b_MO_battery 52 = .ok (.imul, 1) := by decide +kernel
theorem d_MO_battery_53 : decode b_MO_battery 53 = .ok (.iload_n 2, 1) := by decide +kernel
theorem d_MO_battery_54 : decode b_MO_battery 54 = .ok (.iadd, 1) := by decide +kernel
theorem d_MO_battery_55 : decode b_MO_battery 55 = .ok (.iload_n 3, 1) := by decide +kernel
theorem d_MO_battery_56 : decode b_MO_battery 56 = .ok (.iastore, 1) := by decide +kernel
theorem d_MO_battery_57 : decode b_MO_battery 57 = .ok (.return_, 1) := by decide +kernel
theorem d_MO_seal_0 : decode b_MO_seal 0 = .ok (.aload_n 0, 1) := by decide +kernel
theorem d_MO_seal_1 : decode b_MO_seal 1 = .ok (.iload_n 1, 1) := by decide +kernel
theorem d_MO_seal_2 : decode b_MO_seal 2 = .ok (.invokevirtual 67, 3) := by decide +kernel
theorem d_MO_seal_5 : decode b_MO_seal 5 = .ok (.ifCond .eq 10, 3) := by decide +kernel
theorem d_MO_seal_8 : decode b_MO_seal 8 = .ok (.iload_n 2, 1) := by decide +kernel
theorem d_MO_seal_9 : decode b_MO_seal 9 = .ok (.invokestatic 71, 3) := by decide +kernel
theorem d_MO_seal_12 : decode b_MO_seal 12 = .ok (.ifCond .ne 7, 3) := by decide +kernel
theorem d_MO_seal_15 : decode b_MO_seal 15 = .ok (.iconst 1, 1) := by decide +kernel
theorem d_MO_seal_16 : decode b_MO_seal 16 = .ok (.goto 4, 3) := by decide +kernel
theorem d_MO_seal_19 : decode b_MO_seal 19 = .ok (.iconst 0, 1) := by decide +kernel
theorem d_MO_seal_20 : decode b_MO_seal 20 = .ok (.istore 4, 2) := by decide +kernel
theorem d_MO_seal_22 : decode b_MO_seal 22 = .ok (.aload_n 0, 1) := by decide +kernel
theorem d_MO_seal_23 : decode b_MO_seal 23 = .ok (.iload 4, 2) := by decide +kernel
theorem d_MO_seal_25 : decode b_MO_seal 25 = .ok (.iload 4, 2) := by decide +kernel
theorem d_MO_seal_27 : decode b_MO_seal 27 = .ok (.ifCond .ne 22, 3) := by decide +kernel
theorem d_MO_seal_30 : decode b_MO_seal 30 = .ok (.aload_n 0, 1) := by decide +kernel
theorem d_MO_seal_31 : decode b_MO_seal 31 = .ok (.getfield 37, 3) := by decide +kernel
theorem d_MO_seal_34 : decode b_MO_seal 34 = .ok (.bipush 8, 2) := by decide +kernel
theorem d_MO_seal_36 : decode b_MO_seal 36 = .ok (.iload_n 1, 1) := by decide +kernel
theorem d_MO_seal_37 : decode b_MO_seal 37 = .ok (.imul, 1) := by decide +kernel
theorem d_MO_seal_38 : decode b_MO_seal 38 = .ok (.iload_n 2, 1) := by decide +kernel
theorem d_MO_seal_39 : decode b_MO_seal 39 = .ok (.iadd, 1) := by decide +kernel
theorem d_MO_seal_40 : decode b_MO_seal 40 = .ok (.baload, 1) := by decide +kernel
theorem d_MO_seal_41 : decode b_MO_seal 41 = .ok (.iload_n 3, 1) := by decide +kernel
theorem d_MO_seal_42 : decode b_MO_seal 42 = .ok (.if_icmp .eq 7, 3) := by decide +kernel
theorem d_MO_seal_45 : decode b_MO_seal 45 = .ok (.iconst 1, 1) := by decide +kernel
theorem d_MO_seal_46 : decode b_MO_seal 46 = .ok (.goto 4, 3) := by decide +kernel
theorem d_MO_seal_49 : decode b_MO_seal 49 = .ok (.iconst 0, 1) := by decide +kernel
theorem d_MO_seal_50 : decode b_MO_seal 50 = .ok (.iconst 0, 1) := by decide +kernel
theorem d_MO_seal_51 : decode b_MO_seal 51 = .ok (.iconst 0, 1) := by decide +kernel
theorem d_MO_seal_52 : decode b_MO_seal 52 = .ok (.invokevirtual 81, 3) := by decide +kernel
theorem d_MO_seal_55 : decode b_MO_seal 55 = .ok (.ifCond .eq 4, 3) := by decide +kernel
theorem d_MO_seal_58 : decode b_MO_seal 58 = .ok (.return_, 1) := by decide +kernel
theorem d_MO_seal_59 : decode b_MO_seal 59 = .ok (.aload_n 0, 1) := by decide +kernel
theorem d_MO_seal_60 : decode b_MO_seal 60 = .ok (.getfield 37, 3) := by decide +kernel
theorem d_MO_seal_63 : decode b_MO_seal 63 = .ok (.bipush 8, 2) := by decide +kernel
theorem d_MO_seal_65 : decode b_MO_seal 65 = .ok (.iload_n 1, 1) := by decide +kernel
theorem d_MO_seal_66 : decode b_MO_seal 66 = .ok (.imul, 1) := by decide +kernel
theorem d_MO_seal_67 : decode b_MO_seal 67 = .ok (.iload_n 2, 1) := by decide +kernel
theorem d_MO_seal_68 : decode b_MO_seal 68 = .ok (.iadd, 1) := by decide +kernel
theorem d_MO_seal_69 : decode b_MO_seal 69 = .ok (.iload_n 3, 1) := by decide +kernel
theorem d_MO_seal_70 : decode b_MO_seal 70 = .ok (.ifCond .ne 7, 3) := by decide +kernel
theorem d_MO_seal_73 : decode b_MO_seal 73 = .ok (.iconst 1, 1) := by decide +kernel
theorem d_MO_seal_74 : decode b_MO_seal 74 = .ok (.goto 4, 3) := by decide +kernel
theorem d_MO_seal_77 : decode b_MO_seal 77 = .ok (.iconst 0, 1) := by decide +kernel
theorem d_MO_seal_78 : decode b_MO_seal 78 = .ok (.bastore, 1) := by decide +kernel
theorem d_MO_seal_79 : decode b_MO_seal 79 = .ok (.return_, 1) := by decide +kernel
theorem d_MO_check_0 : decode b_MO_check 0 = .ok (.aload_n 0, 1) := by decide +kernel
theorem d_MO_check_1 : decode b_MO_check 1 = .ok (.aload_n 0, 1) := by decide +kernel
theorem d_MO_check_2 : decode b_MO_check 2 = .ok (.iload_n 1, 1) := by decide +kernel
theorem d_MO_check_3 : decode b_MO_check 3 = .ok (.invokevirtual 67, 3) := by decide +kernel
theorem d_MO_check_6 : decode b_MO_check 6 = .ok (.ifCond .ne 7, 3) := by decide +kernel
theorem d_MO_check_9 : decode b_MO_check 9 = .ok (.iconst 1, 1) := by decide +kernel
theorem d_MO_check_10 : decode b_MO_check 10 = .ok (.goto 4, 3) := by decide +kernel
theorem d_MO_check_13 : decode b_MO_check 13 = .ok (.iconst 0, 1) := by decide +kernel
theorem d_MO_check_14 : decode b_MO_check 14 = .ok (.iconst 0, 1) := by decide +kernel
theorem d_MO_check_15 : decode b_MO_check 15 = .ok (.iconst 0, 1) := by decide +kernel
theorem d_MO_check_16 : decode b_MO_check 16 = .ok (.iconst 0, 1) := by decide +kernel
theorem d_MO_check_17 : decode b_MO_check 17 = .ok (.invokevirtual 81, 3) := by decide +kernel
theorem d_MO_check_20 : decode b_MO_check 20 = .ok (.ifCond .eq 4, 3) := by decide +kernel
theorem d_MO_check_23 : decode b_MO_check 23 = .ok (.return_, 1) := by decide +kernel
theorem d_MO_check_24 : decode b_MO_check 24 = .ok (.aload_n 0, 1) := by decide +kernel
theorem d_MO_check_25 : decode b_MO_check 25 = .ok (.getfield 31, 3) := by decide +kernel
theorem d_MO_check_28 : decode b_MO_check 28 = .ok (.iload_n 1, 1) := by decide +kernel
theorem d_MO_check_29 : decode b_MO_check 29 = .ok (.iconst 3, 1) := by decide +kernel
theorem d_MO_check_30 : decode b_MO_check 30 = .ok (.aload_n 0, 1) := by decide +kernel
theorem d_MO_check_31 : decode b_MO_check 31 = .ok (.getfield 126, 3) := by decide +kernel
theorem d_MO_check_34 : decode b_MO_check 34 = .ok (.imul, 1) := by decide +kernel
theorem d_MO_check_35 : decode b_MO_check 35 = .ok (.aload_n 0, 1) := by decide +kernel
theorem d_MO_check_36 : decode b_MO_check 36 = .ok (.getfield 129, 3) := by decide +kernel
theorem d_MO_check_39 : decode b_MO_check 39 = .ok (.iadd, 1) := by decide +kernel
theorem d_MO_check_40 : decode b_MO_check 40 = .ok (.iastore, 1) := by decide +kernel
theorem d_MO_check_41 : decode b_MO_check 41 = .ok (.return_, 1) := by decide +kernel
theorem d_MO_now_0 : decode b_MO_now 0 = .ok (.iload_n 1, 1) := by decide +kernel
theorem d_MO_now_1 : decode b_MO_now 1 = .ok (.iconst 0, 1) := by decide +kernel
theorem d_MO_now_2 : decode b_MO_now 2 = .ok (.sipush 9999, 3) := by decide +kernel
theorem d_MO_now_5 : decode b_MO_now 5 = .ok (.invokestatic 63, 3) := by decide +kernel
theorem d_MO_now_8 : decode b_MO_now 8 = .ok (.ifCond .eq 36, 3) := by decide +kernel
theorem d_MO_now_11 : decode b_MO_now 11 = .ok (.iload_n 2, 1) := by decide +kernel
theorem d_MO_now_12 : decode b_MO_now 12 = .ok (.iconst 0, 1) := by decide +kernel
theorem d_MO_now_13 : decode b_MO_now 13 = .ok (.iconst 2, 1) := by decide +kernel
theorem d_MO_now_14 : decode b_MO_now 14 = .ok (.invokestatic 63, 3) := by decide +kernel
theorem d_MO_now_17 : decode b_MO_now 17 = .ok (.ifCond .eq 27, 3) := by decide +kernel
theorem d_MO_now_20 : decode b_MO_now 20 = .ok (.iload_n 1, 1) := by decide +kernel
theorem d_MO_now_21 : decode b_MO_now 21 = .ok (.aload_n 0, 1) := by decide +kernel
theorem d_MO_now_22 : decode b_MO_now 22 = .ok (.getfield 126, 3) := by decide +kernel
theorem d_MO_now_25 : decode b_MO_now 25 = .ok (.if_icmp .lt 19, 3) := by decide +kernel
theorem d_MO_now_28 : decode b_MO_now 28 = .ok (.iload_n 1, 1) := by decide +kernel
theorem d_MO_now_29 : decode b_MO_now 29 = .ok (.aload_n 0, 1) := by decide +kernel
theorem d_MO_now_30 : decode b_MO_now 30 = .ok (.getfield 126, 3) := by decide +kernel
theorem d_MO_now_33 : decode b_MO_now 33 = .ok (.if_icmp .ne 15, 3) := by decide +kernel
theorem d_MO_now_36 : decode b_MO_now 36 = .ok (.iload_n 2, 1) := by decide +kernel
theorem d_MO_now_37 : decode b_MO_now 37 = .ok (.aload_n 0, 1) := by decide +kernel
theorem d_MO_now_38 : decode b_MO_now 38 = .ok (.getfield 129, 3) := by decide +kernel
theorem d_MO_now_41 : decode b_MO_now 41 = .ok (.if_icmp .ge 7, 3) := by decide +kernel
theorem d_MO_now_44 : decode b_MO_now 44 = .ok (.iconst 1, 1) := by decide +kernel
theorem d_MO_now_45 : decode b_MO_now 45 = .ok (.goto 4, 3) := by decide +kernel
theorem d_MO_now_48 : decode b_MO_now 48 = .ok (.iconst 0, 1) := by decide +kernel
theorem d_MO_now_49 : decode b_MO_now 49 = .ok (.istore_n 3, 1) := by decide +kernel
theorem d_MO_now_50 : decode b_MO_now 50 = .ok (.aload_n 0, 1) := by decide +kernel
theorem d_MO_now_51 : decode b_MO_now 51 = .ok (.iload_n 3, 1) := by decide +kernel
theorem d_MO_now_52 : decode b_MO_now 52 = .ok (.iconst 0, 1) := by decide +kernel
theorem d_MO_now_53 : decode b_MO_now 53 = .ok (.iconst 0, 1) := by decide +kernel
theorem d_MO_now_54 : decode b_MO_now 54 = .ok (.iconst 0, 1) := by decide +kernel
theorem d_MO_now_55 : decode b_MO_now 55 = .ok (.invokevirtual 81, 3) := by decide +kernel
theorem d_MO_now_58 : decode b_MO_now 58 = .ok (.ifCond .eq 4, 3) := by decide +kernel
theorem d_MO_now_61 : decode b_MO_now 61 = .ok (.return_, 1) := by decide +kernel
theorem d_MO_now_62 : decode b_MO_now 62 = .ok (.aload_n 0, 1) := by decide +kernel
theorem d_MO_now_63 : decode b_MO_now 63 = .ok (.iload_n 1, 1) := by decide +kernel
theorem d_MO_now_64 : decode b_MO_now 64 = .ok (.putfield 126, 3) := by decide +kernel
theorem d_MO_now_67 : decode b_MO_now 67 = .ok (.aload_n 0, 1) := by decide +kernel
theorem d_MO_now_68 : decode b_MO_now 68 = .ok (.iload_n 2, 1) := by decide +kernel
theorem d_MO_now_69 : decode b_MO_now 69 = .ok (.putfield 129, 3) := by decide +kernel
theorem d_MO_now_72 : decode b_MO_now 72 = .ok (.return_, 1) := by decide +kernel
theorem d_MO_isNeeded_0 : decode b_MO_isNeeded 0 = .ok (.iconst 0, 1) := by decide +kernel
theorem d_MO_isNeeded_1 : decode b_MO_isNeeded 1 = .ok (.istore_n 3, 1) := by decide +kernel
theorem d_MO_isNeeded_2 : decode b_MO_isNeeded 2 = .ok (.iconst 0, 1) := by decide +kernel
theorem d_MO_isNeeded_3 : decode b_MO_isNeeded 3 = .ok (.istore 4, 2) := by decide +kernel
theorem d_MO_isNeeded_5 : decode b_MO_isNeeded 5 = .ok (.iload 4, 2) := by decide +kernel
theorem d_MO_isNeeded_7 : decode b_MO_isNeeded 7 = .ok (.bipush 8, 2) := by decide +kernel
theorem d_MO_isNeeded_9 : decode b_MO_isNeeded 9 = .ok (.if_icmp .ge 45, 3) := by decide +kernel
theorem d_MO_isNeeded_12 : decode b_MO_isNeeded 12 = .ok (.iload_n 3, 1) := by decide +kernel
theorem d_MO_isNeeded_13 : decode b_MO_isNeeded 13 = .ok (.ifCond .ne 29, 3) := by decide +kernel
theorem d_MO_isNeeded_16 : decode b_MO_isNeeded 16 = .ok (.aload_n 0, 1) := by decide +kernel
theorem d_MO_isNeeded_17 : decode b_MO_isNeeded 17 = .ok (.getfield 50, 3) := by decide +kernel
theorem d_MO_isNeeded_20 : decode b_MO_isNeeded 20 = .ok (.sipush 240, 3) := by decide +kernel
theorem d_MO_isNeeded_23 : decode b_MO_isNeeded 23 = .ok (.aload_n 0, 1) := by decide +kernel
theorem d_MO_isNeeded_24 : decode b_MO_isNeeded 24 = .ok (.getfield 19, 3) := by decide +kernel
theorem d_MO_isNeeded_27 : decode b_MO_isNeeded 27 = .ok (.iload_n 1, 1) := by decide +kernel
theorem d_MO_isNeeded_28 : decode b_MO_isNeeded 28 = .ok (.iaload, 1) := by decide +kernel
theorem d_MO_isNeeded_29 : decode b_MO_isNeeded 29 = .ok (.imul, 1) := by decide +kernel
theorem d_MO_isNeeded_30 : decode b_MO_isNeeded 30 = .ok (.bipush 30, 2) := by decide +kernel
theorem d_MO_isNeeded_32 : decode b_MO_isNeeded 32 = .ok (.iload 4, 2) := by decide +kernel
theorem d_MO_isNeeded_34 : decode b_MO_isNeeded 34 = .ok (.imul, 1) := by decide +kernel
theorem d_MO_isNeeded_35 : decode b_MO_isNeeded 35 = .ok (.iadd, 1) := by decide +kernel
theorem d_MO_isNeeded_36 : decode b_MO_isNeeded 36 = .ok (.iload_n 2, 1) := by decide +kernel
theorem d_MO_isNeeded_37 : decode b_MO_isNeeded 37 = .ok (.iadd, 1) := by decide +kernel
theorem d_MO_isNeeded_38 : decode b_MO_isNeeded 38 = .ok (.iaload, 1) := by decide +kernel
theorem d_MO_isNeeded_39 : decode b_MO_isNeeded 39 = .ok (.ifCond .le 7, 3) := by decide +kernel
theorem d_MO_isNeeded_42 : decode b_MO_isNeeded 42 = .ok (.iconst 1, 1) := by decide +kernel
theorem d_MO_isNeeded_43 : decode b_MO_isNeeded 43 = .ok (.goto 4, 3) := by decide +kernel
theorem d_MO_isNeeded_46 : decode b_MO_isNeeded 46 = .ok (.iconst 0, 1) := by decide +kernel
theorem d_MO_isNeeded_47 : decode b_MO_isNeeded 47 = .ok (.istore_n 3, 1) := by decide +kernel
theorem d_MO_isNeeded_48 : decode b_MO_isNeeded 48 = .ok (.iinc 4 1, 3) := by decide +kernel
theorem d_MO_isNeeded_51 : decode b_MO_isNeeded 51 = .ok (.goto (-46), 3) := by decide +kernel
theorem d_MO_isNeeded_54 : decode b_MO_isNeeded 54 = .ok (.iload_n 3, 1) := by decide +kernel
theorem d_MO_isNeeded_55 : decode b_MO_isNeeded 55 = .ok (.ireturn, 1) := by decide +kernel
theorem d_MO_ready_0 : decode b_MO_ready 0 = .ok (.aload_n 0, 1) := by decide +kernel
theorem d_MO_ready_1 : decode b_MO_ready 1 = .ok (.aload_n 0, 1) := by decide +kernel
theorem d_MO_ready_2 : decode b_MO_ready 2 = .ok (.iload_n 1, 1) := by decide +kernel
theorem d_MO_ready_3 : decode b_MO_ready 3 = .ok (.invokevirtual 67, 3) := by decide +kernel
theorem d_MO_ready_6 : decode b_MO_ready 6 = .ok (.ifCond .ne 7, 3) := by decide +kernel
theorem d_MO_ready_9 : decode b_MO_ready 9 = .ok (.iconst 1, 1) := by decide +kernel
theorem d_MO_ready_10 : decode b_MO_ready 10 = .ok (.goto 4, 3) := by decide +kernel
theorem d_MO_ready_13 : decode b_MO_ready 13 = .ok (.iconst 0, 1) := by decide +kernel
theorem d_MO_ready_14 : decode b_MO_ready 14 = .ok (.iconst 0, 1) := by decide +kernel
theorem d_MO_ready_15 : decode b_MO_ready 15 = .ok (.iconst 0, 1) := by decide +kernel
theorem d_MO_ready_16 : decode b_MO_ready 16 = .ok (.iconst 0, 1) := by decide +kernel
theorem d_MO_ready_17 : decode b_MO_ready 17 = .ok (.invokevirtual 81, 3) := by decide +kernel
theorem d_MO_ready_20 : decode b_MO_ready 20 = .ok (.ifCond .eq 5, 3) := by decide +kernel
theorem d_MO_ready_23 : decode b_MO_ready 23 = .ok (.iconst 0, 1) := by decide +kernel
theorem d_MO_ready_24 : decode b_MO_ready 24 = .ok (.ireturn, 1) := by decide +kernel
theorem d_MO_ready_25 : decode b_MO_ready 25 = .ok (.aload_n 0, 1) := by decide +kernel
theorem d_MO_ready_26 : decode b_MO_ready 26 = .ok (.getfield 31, 3) := by decide +kernel
theorem d_MO_ready_29 : decode b_MO_ready 29 = .ok (.iload_n 1, 1) := by decide +kernel
theorem d_MO_ready_30 : decode b_MO_ready 30 = .ok (.iaload, 1) := by decide +kernel
theorem d_MO_ready_31 : decode b_MO_ready 31 = .ok (.iconst 3, 1) := by decide +kernel
theorem d_MO_ready_32 : decode b_MO_ready 32 = .ok (.aload_n 0, 1) := by decide +kernel
theorem d_MO_ready_33 : decode b_MO_ready 33 = .ok (.getfield 126, 3) := by decide +kernel
theorem d_MO_ready_36 : decode b_MO_ready 36 = .ok (.imul, 1) := by decide +kernel
theorem d_MO_ready_37 : decode b_MO_ready 37 = .ok (.aload_n 0, 1) := by decide +kernel
theorem d_MO_ready_38 : decode b_MO_ready 38 = .ok (.getfield 129, 3) := by decide +kernel
theorem d_MO_ready_41 : decode b_MO_ready 41 = .ok (.iadd, 1) := by decide +kernel
theorem d_MO_ready_42 : decode b_MO_ready 42 = .ok (.if_icmp .eq 5, 3) := by decide +kernel
theorem d_MO_ready_45 : decode b_MO_ready 45 = .ok (.iconst 1, 1) := by decide +kernel
theorem d_MO_ready_46 : decode b_MO_ready 46 = .ok (.ireturn, 1) := by decide +kernel
theorem d_MO_ready_47 : decode b_MO_ready 47 = .ok (.iconst 0, 1) := by decide +kernel
theorem d_MO_ready_48 : decode b_MO_ready 48 = .ok (.istore_n 2, 1) := by decide +kernel
theorem d_MO_ready_49 : decode b_MO_ready 49 = .ok (.iload_n 2, 1) := by decide +kernel
theorem d_MO_ready_50 : decode b_MO_ready 50 = .ok (.sipush 240, 3) := by decide +kernel
theorem d_MO_ready_53 : decode b_MO_ready 53 = .ok (.if_icmp .ge 20, 3) := by decide +kernel
theorem d_MO_ready_56 : decode b_MO_ready 56 = .ok (.aload_n 0, 1) := by decide +kernel
theorem d_MO_ready_57 : decode b_MO_ready 57 = .ok (.iload_n 1, 1) := by decide +kernel
theorem d_MO_ready_58 : decode b_MO_ready 58 = .ok (.iload_n 2, 1) := by decide +kernel
theorem d_MO_ready_59 : decode b_MO_ready 59 = .ok (.invokevirtual 115, 3) := by decide +kernel
theorem d_MO_ready_62 : decode b_MO_ready 62 = .ok (.ifCond .le 5, 3) := by decide +kernel
theorem d_MO_ready_65 : decode b_MO_ready 65 = .ok (.iconst 2, 1) := by decide +kernel
theorem d_MO_ready_66 : decode b_MO_ready 66 = .ok (.ireturn, 1) := by decide +kernel
theorem d_MO_ready_67 : decode b_MO_ready 67 = .ok (.iinc 2 1, 3) := by decide +kernel
theorem d_MO_ready_70 : decode b_MO_ready 70 = .ok (.goto (-21), 3) := by decide +kernel
theorem d_MO_ready_73 : decode b_MO_ready 73 = .ok (.iconst 0, 1) := by decide +kernel
theorem d_MO_ready_74 : decode b_MO_ready 74 = .ok (.istore_n 2, 1) := by decide +kernel
theorem d_MO_ready_75 : decode b_MO_ready 75 = .ok (.iload_n 2, 1) := by decide +kernel
theorem d_MO_ready_76 : decode b_MO_ready 76 = .ok (.bipush 8, 2) := by decide +kernel
theorem d_MO_ready_78 : decode b_MO_ready 78 = .ok (.if_icmp .ge 25, 3) := by decide +kernel
theorem d_MO_ready_81 : decode b_MO_ready 81 = .ok (.aload_n 0, 1) := by decide +kernel
theorem d_MO_ready_82 : decode b_MO_ready 82 = .ok (.getfield 37, 3) := by decide +kernel
theorem d_MO_ready_85 : decode b_MO_ready 85 = .ok (.bipush 8, 2) := by decide +kernel
theorem d_MO_ready_87 : decode b_MO_ready 87 = .ok (.iload_n 1, 1) := by decide +kernel
theorem d_MO_ready_88 : decode b_MO_ready 88 = .ok (.imul, 1) := by decide +kernel
theorem d_MO_ready_89 : decode b_MO_ready 89 = .ok (.iload_n 2, 1) := by decide +kernel
theorem d_MO_ready_90 : decode b_MO_ready 90 = .ok (.iadd, 1) := by decide +kernel
theorem d_MO_ready_91 : decode b_MO_ready 91 = .ok (.baload, 1) := by decide +kernel
theorem d_MO_ready_92 : decode b_MO_ready 92 = .ok (.ifCond .eq 5, 3) := by decide +kernel
theorem d_MO_ready_95 : decode b_MO_ready 95 = .ok (.iconst 3, 1) := by decide +kernel
theorem d_MO_ready_96 : decode b_MO_ready 96 = .ok (.ireturn, 1) := by decide +kernel
theorem d_MO_ready_97 : decode b_MO_ready 97 = .ok (.iinc 2 1, 3) := by decide +kernel
theorem d_MO_ready_100 : decode b_MO_ready 100 = .ok (.goto (-25), 3) := by decide +kernel
theorem d_MO_ready_103 : decode b_MO_ready 103 = .ok (.iconst 0, 1) := by decide +kernel
theorem d_MO_ready_104 : decode b_MO_ready 104 = .ok (.istore_n 2, 1) := by decide +kernel
theorem d_MO_ready_105 : decode b_MO_ready 105 = .ok (.iload_n 2, 1) := by decide +kernel
theorem d_MO_ready_106 : decode b_MO_ready 106 = .ok (.bipush 30, 2) := by decide +kernel
theorem d_MO_ready_108 : decode b_MO_ready 108 = .ok (.if_icmp .ge 52, 3) := by decide +kernel
theorem d_MO_ready_111 : decode b_MO_ready 111 = .ok (.aload_n 0, 1) := by decide +kernel
theorem d_MO_ready_112 : decode b_MO_ready 112 = .ok (.iload_n 1, 1) := by decide +kernel
theorem d_MO_ready_113 : decode b_MO_ready 113 = .ok (.iload_n 2, 1) := by decide +kernel
theorem d_MO_ready_114 : decode b_MO_ready 114 = .ok (.invokevirtual 132, 3) := by decide +kernel
theorem d_MO_ready_117 : decode b_MO_ready 117 = .ok (.ifCond .eq 37, 3) := by decide +kernel
theorem d_MO_ready_120 : decode b_MO_ready 120 = .ok (.aload_n 0, 1) := by decide +kernel
theorem d_MO_ready_121 : decode b_MO_ready 121 = .ok (.getfield 41, 3) := by decide +kernel
theorem d_MO_ready_124 : decode b_MO_ready 124 = .ok (.bipush 30, 2) := by decide +kernel
theorem d_MO_ready_126 : decode b_MO_ready 126 = .ok (.iload_n 1, 1) := by decide +kernel
theorem d_MO_ready_127 : decode b_MO_ready 127 = .ok (.imul, 1) := by decide +kernel
theorem d_MO_ready_128 : decode b_MO_ready 128 = .ok (.iload_n 2, 1) := by decide +kernel
theorem d_MO_ready_129 : decode b_MO_ready 129 = .ok (.iadd, 1) := by decide +kernel
theorem d_MO_ready_130 : decode b_MO_ready 130 = .ok (.iaload, 1) := by decide +kernel
theorem d_MO_ready_131 : decode b_MO_ready 131 = .ok (.ifCond .lt 23, 3) := by decide +kernel
theorem d_MO_ready_134 : decode b_MO_ready 134 = .ok (.aload_n 0, 1) := by decide +kernel
theorem d_MO_ready_135 : decode b_MO_ready 135 = .ok (.getfield 126, 3) := by decide +kernel
theorem d_MO_ready_138 : decode b_MO_ready 138 = .ok (.aload_n 0, 1) := by decide +kernel
theorem d_MO_ready_139 : decode b_MO_ready 139 = .ok (.getfield 41, 3) := by decide +kernel
theorem d_MO_ready_142 : decode b_MO_ready 142 = .ok (.bipush 30, 2) := by decide +kernel
theorem d_MO_ready_144 : decode b_MO_ready 144 = .ok (.iload_n 1, 1) := by decide +kernel
theorem d_MO_ready_145 : decode b_MO_ready 145 = .ok (.imul, 1) := by decide +kernel
theorem d_MO_ready_146 : decode b_MO_ready 146 = .ok (.iload_n 2, 1) := by decide +kernel
theorem d_MO_ready_147 : decode b_MO_ready 147 = .ok (.iadd, 1) := by decide +kernel
theorem d_MO_ready_148 : decode b_MO_ready 148 = .ok (.iaload, 1) := by decide +kernel
theorem d_MO_ready_149 : decode b_MO_ready 149 = .ok (.if_icmp .lt 5, 3) := by decide +kernel
theorem d_MO_ready_152 : decode b_MO_ready 152 = .ok (.iconst 4, 1) := by decide +kernel
theorem d_MO_ready_153 : decode b_MO_ready 153 = .ok (.ireturn, 1) := by decide +kernel
theorem d_MO_ready_154 : decode b_MO_ready 154 = .ok (.iinc 2 1, 3) := by decide +kernel
theorem d_MO_ready_157 : decode b_MO_ready 157 = .ok (.goto (-52), 3) := by decide +kernel
theorem d_MO_ready_160 : decode b_MO_ready 160 = .ok (.iconst 0, 1) := by decide +kernel
theorem d_MO_ready_161 : decode b_MO_ready 161 = .ok (.istore_n 2, 1) := by decide +kernel
theorem d_MO_ready_162 : decode b_MO_ready 162 = .ok (.iload_n 2, 1) := by decide +kernel
theorem d_MO_ready_163 : decode b_MO_ready 163 = .ok (.bipush 30, 2) := by decide +kernel
theorem d_MO_ready_165 : decode b_MO_ready 165 = .ok (.if_icmp .ge 40, 3) := by decide +kernel
theorem d_MO_ready_168 : decode b_MO_ready 168 = .ok (.aload_n 0, 1) := by decide +kernel
theorem d_MO_ready_169 : decode b_MO_ready 169 = .ok (.iload_n 1, 1) := by decide +kernel
theorem d_MO_ready_170 : decode b_MO_ready 170 = .ok (.iload_n 2, 1) := by decide +kernel
theorem d_MO_ready_171 : decode b_MO_ready 171 = .ok (.invokevirtual 132, 3) := by decide +kernel
theorem d_MO_ready_174 : decode b_MO_ready 174 = .ok (.ifCond .eq 25, 3) := by decide +kernel
theorem d_MO_ready_177 : decode b_MO_ready 177 = .ok (.aload_n 0, 1) := by decide +kernel
theorem d_MO_ready_178 : decode b_MO_ready 178 = .ok (.getfield 44, 3) := by decide +kernel
theorem d_MO_ready_181 : decode b_MO_ready 181 = .ok (.bipush 30, 2) := by decide +kernel
theorem d_MO_ready_183 : decode b_MO_ready 183 = .ok (.iload_n 1, 1) := by decide +kernel
theorem d_MO_ready_184 : decode b_MO_ready 184 = .ok (.imul, 1) := by decide +kernel
theorem d_MO_ready_185 : decode b_MO_ready 185 = .ok (.iload_n 2, 1) := by decide +kernel
theorem d_MO_ready_186 : decode b_MO_ready 186 = .ok (.iadd, 1) := by decide +kernel
theorem d_MO_ready_187 : decode b_MO_ready 187 = .ok (.iaload, 1) := by decide +kernel
theorem d_MO_ready_188 : decode b_MO_ready 188 = .ok (.aload_n 0, 1) := by decide +kernel
theorem d_MO_ready_189 : decode b_MO_ready 189 = .ok (.getfield 13, 3) := by decide +kernel
theorem d_MO_ready_192 : decode b_MO_ready 192 = .ok (.iload_n 2, 1) := by decide +kernel
theorem d_MO_ready_193 : decode b_MO_ready 193 = .ok (.iaload, 1) := by decide +kernel
theorem d_MO_ready_194 : decode b_MO_ready 194 = .ok (.if_icmp .ge 5, 3) := by decide +kernel
theorem d_MO_ready_197 : decode b_MO_ready 197 = .ok (.iconst 5, 1) := by decide +kernel
theorem d_MO_ready_198 : decode b_MO_ready 198 = .ok (.ireturn, 1) := by decide +kernel
theorem d_MO_ready_199 : decode b_MO_ready 199 = .ok (.iinc 2 1, 3) := by decide +kernel
theorem d_MO_ready_202 : decode b_MO_ready 202 = .ok (.goto (-40), 3) := by decide +kernel
theorem d_MO_ready_205 : decode b_MO_ready 205 = .ok (.aload_n 0, 1) := by decide +kernel
theorem d_MO_ready_206 : decode b_MO_ready 206 = .ok (.iload_n 1, 1) := by decide +kernel
theorem d_MO_ready_207 : decode b_MO_ready 207 = .ok (.iconst 0, 1) := by decide +kernel
theorem d_MO_ready_208 : decode b_MO_ready 208 = .ok (.invokevirtual 104, 3) := by decide +kernel
theorem d_MO_ready_211 : decode b_MO_ready 211 = .ok (.ifCond .ne 12, 3) := by decide +kernel
theorem d_MO_ready_214 : decode b_MO_ready 214 = .ok (.aload_n 0, 1) := by decide +kernel
theorem d_MO_ready_215 : decode b_MO_ready 215 = .ok (.iload_n 1, 1) := by decide +kernel
theorem d_MO_ready_216 : decode b_MO_ready 216 = .ok (.iconst 1, 1) := by decide +kernel
theorem d_MO_ready_217 : decode b_MO_ready 217 = .ok (.invokevirtual 104, 3) := by decide +kernel
theorem d_MO_ready_220 : decode b_MO_ready 220 = .ok (.ifCond .eq 8, 3) := by decide +kernel
theorem d_MO_ready_223 : decode b_MO_ready 223 = .ok (.bipush 6, 2) := by decide +kernel
theorem d_MO_ready_225 : decode b_MO_ready 225 = .ok (.goto 4, 3) := by decide +kernel
theorem d_MO_ready_228 : decode b_MO_ready 228 = .ok (.iconst 0, 1) := by decide +kernel
theorem d_MO_ready_229 : decode b_MO_ready 229 = .ok (.ireturn, 1) := by decide +kernel
theorem d_MO_missing_0 : decode b_MO_missing 0 = .ok (.aload_n 0, 1) := by decide +kernel
theorem d_MO_missing_1 : decode b_MO_missing 1 = .ok (.aload_n 0, 1) := by decide +kernel
theorem d_MO_missing_2 : decode b_MO_missing 2 = .ok (.iload_n 1, 1) := by decide +kernel
theorem d_MO_missing_3 : decode b_MO_missing 3 = .ok (.invokevirtual 67, 3) := by decide +kernel
theorem d_MO_missing_6 : decode b_MO_missing 6 = .ok (.ifCond .ne 7, 3) := by decide +kernel
theorem d_MO_missing_9 : decode b_MO_missing 9 = .ok (.iconst 1, 1) := by decide +kernel
theorem d_MO_missing_10 : decode b_MO_missing 10 = .ok (.goto 4, 3) := by decide +kernel
theorem d_MO_missing_13 : decode b_MO_missing 13 = .ok (.iconst 0, 1) := by decide +kernel
theorem d_MO_missing_14 : decode b_MO_missing 14 = .ok (.iload_n 2, 1) := by decide +kernel
theorem d_MO_missing_15 : decode b_MO_missing 15 = .ok (.ifCond .ge 7, 3) := by decide +kernel
theorem d_MO_missing_18 : decode b_MO_missing 18 = .ok (.iconst 1, 1) := by decide +kernel
theorem d_MO_missing_19 : decode b_MO_missing 19 = .ok (.goto 4, 3) := by decide +kernel
theorem d_MO_missing_22 : decode b_MO_missing 22 = .ok (.iconst 0, 1) := by decide +kernel
theorem d_MO_missing_23 : decode b_MO_missing 23 = .ok (.iconst 0, 1) := by decide +kernel
theorem d_MO_missing_24 : decode b_MO_missing 24 = .ok (.iconst 0, 1) := by decide +kernel
theorem d_MO_missing_25 : decode b_MO_missing 25 = .ok (.invokevirtual 81, 3) := by decide +kernel
theorem d_MO_missing_28 : decode b_MO_missing 28 = .ok (.ifCond .eq 5, 3) := by decide +kernel
theorem d_MO_missing_31 : decode b_MO_missing 31 = .ok (.iconst 0, 1) := by decide +kernel
theorem d_MO_missing_32 : decode b_MO_missing 32 = .ok (.ireturn, 1) := by decide +kernel
theorem d_MO_missing_33 : decode b_MO_missing 33 = .ok (.iload_n 2, 1) := by decide +kernel
theorem d_MO_missing_34 : decode b_MO_missing 34 = .ok (.istore_n 3, 1) := by decide +kernel
theorem d_MO_missing_35 : decode b_MO_missing 35 = .ok (.iconst 0, 1) := by decide +kernel
theorem d_MO_missing_36 : decode b_MO_missing 36 = .ok (.istore 4, 2) := by decide +kernel
theorem d_MO_missing_38 : decode b_MO_missing 38 = .ok (.iload 4, 2) := by decide +kernel
theorem d_MO_missing_40 : decode b_MO_missing 40 = .ok (.sipush 240, 3) := by decide +kernel
theorem d_MO_missing_43 : decode b_MO_missing 43 = .ok (.if_icmp .ge 53, 3) := by decide +kernel
theorem d_MO_missing_46 : decode b_MO_missing 46 = .ok (.aload_n 0, 1) := by decide +kernel
theorem d_MO_missing_47 : decode b_MO_missing 47 = .ok (.iload_n 1, 1) := by decide +kernel
theorem d_MO_missing_48 : decode b_MO_missing 48 = .ok (.iload 4, 2) := by decide +kernel
theorem d_MO_missing_50 : decode b_MO_missing 50 = .ok (.invokevirtual 115, 3) := by decide +kernel
theorem d_MO_missing_53 : decode b_MO_missing 53 = .ok (.ifCond .le 37, 3) := by decide +kernel
theorem d_MO_missing_56 : decode b_MO_missing 56 = .ok (.iload_n 3, 1) := by decide +kernel
theorem d_MO_missing_57 : decode b_MO_missing 57 = .ok (.ifCond .ne 30, 3) := by decide +kernel
theorem d_MO_missing_60 : decode b_MO_missing 60 = .ok (.sipush 10000, 3) := by decide +kernel
theorem d_MO_missing_63 : decode b_MO_missing 63 = .ok (.iload 4, 2) := by decide +kernel
theorem d_MO_missing_65 : decode b_MO_missing 65 = .ok (.bipush 30, 2) := by decide +kernel
theorem d_MO_missing_67 : decode b_MO_missing 67 = .ok (.idiv, 1) := by decide +kernel
theorem d_MO_missing_68 : decode b_MO_missing 68 = .ok (.imul, 1) := by decide +kernel
theorem d_MO_missing_69 : decode b_MO_missing 69 = .ok (.bipush 100, 2) := by decide +kernel
theorem d_MO_missing_71 : decode b_MO_missing 71 = .ok (.iload 4, 2) := by decide +kernel
theorem d_MO_missing_73 : decode b_MO_missing 73 = .ok (.bipush 30, 2) := by decide +kernel
theorem d_MO_missing_75 : decode b_MO_missing 75 = .ok (.irem, 1) := by decide +kernel
theorem d_MO_missing_76 : decode b_MO_missing 76 = .ok (.imul, 1) := by decide +kernel
theorem d_MO_missing_77 : decode b_MO_missing 77 = .ok (.iadd, 1) := by decide +kernel
theorem d_MO_missing_78 : decode b_MO_missing 78 = .ok (.aload_n 0, 1) := by decide +kernel
theorem d_MO_missing_79 : decode b_MO_missing 79 = .ok (.iload_n 1, 1) := by decide +kernel
theorem d_MO_missing_80 : decode b_MO_missing 80 = .ok (.iload 4, 2) := by decide +kernel
theorem d_MO_missing_82 : decode b_MO_missing 82 = .ok (.invokevirtual 115, 3) := by decide +kernel
theorem d_MO_missing_85 : decode b_MO_missing 85 = .ok (.iadd, 1) := by decide +kernel
theorem d_MO_missing_86 : decode b_MO_missing 86 = .ok (.ireturn, 1) := by decide +kernel
theorem d_MO_missing_87 : decode b_MO_missing 87 = .ok (.iinc 3 (-1), 3) := by decide +kernel
theorem d_MO_missing_90 : decode b_MO_missing 90 = .ok (.iinc 4 1, 3) := by decide +kernel
theorem d_MO_missing_93 : decode b_MO_missing 93 = .ok (.goto (-55), 3) := by decide +kernel
theorem d_MO_missing_96 : decode b_MO_missing 96 = .ok (.iconst (-1), 1) := by decide +kernel
theorem d_MO_missing_97 : decode b_MO_missing 97 = .ok (.ireturn, 1) := by decide +kernel
theorem d_MO_share_0 : decode b_MO_share 0 = .ok (.aload_n 0, 1) := by decide +kernel
theorem d_MO_share_1 : decode b_MO_share 1 = .ok (.iload_n 1, 1) := by decide +kernel
theorem d_MO_share_2 : decode b_MO_share 2 = .ok (.invokevirtual 67, 3) := by decide +kernel
theorem d_MO_share_5 : decode b_MO_share 5 = .ok (.ifCond .ne 7, 3) := by decide +kernel
theorem d_MO_share_8 : decode b_MO_share 8 = .ok (.iconst 1, 1) := by decide +kernel
theorem d_MO_share_9 : decode b_MO_share 9 = .ok (.goto 4, 3) := by decide +kernel
theorem d_MO_share_12 : decode b_MO_share 12 = .ok (.iconst 0, 1) := by decide +kernel
theorem d_MO_share_13 : decode b_MO_share 13 = .ok (.istore_n 2, 1) := by decide +kernel
theorem d_MO_share_14 : decode b_MO_share 14 = .ok (.iconst 0, 1) := by decide +kernel
theorem d_MO_share_15 : decode b_MO_share 15 = .ok (.istore_n 3, 1) := by decide +kernel
theorem d_MO_share_16 : decode b_MO_share 16 = .ok (.iconst 0, 1) := by decide +kernel
theorem d_MO_share_17 : decode b_MO_share 17 = .ok (.istore 4, 2) := by decide +kernel
theorem d_MO_share_19 : decode b_MO_share 19 = .ok (.iconst 0, 1) := by decide +kernel
theorem d_MO_share_20 : decode b_MO_share 20 = .ok (.istore 5, 2) := by decide +kernel
theorem d_MO_share_22 : decode b_MO_share 22 = .ok (.iload 5, 2) := by decide +kernel
theorem d_MO_share_24 : decode b_MO_share 24 = .ok (.sipush 240, 3) := by decide +kernel
theorem d_MO_share_27 : decode b_MO_share 27 = .ok (.if_icmp .ge 65, 3) := by decide +kernel
theorem d_MO_share_30 : decode b_MO_share 30 = .ok (.iload_n 2, 1) := by decide +kernel
theorem d_MO_share_31 : decode b_MO_share 31 = .ok (.ifCond .ne 61, 3) := by decide +kernel
theorem d_MO_share_34 : decode b_MO_share 34 = .ok (.iload_n 3, 1) := by decide +kernel
theorem d_MO_share_35 : decode b_MO_share 35 = .ok (.aload_n 0, 1) := by decide +kernel
theorem d_MO_share_36 : decode b_MO_share 36 = .ok (.getfield 50, 3) := by decide +kernel
theorem d_MO_share_39 : decode b_MO_share 39 = .ok (.sipush 240, 3) := by decide +kernel
theorem d_MO_share_42 : decode b_MO_share 42 = .ok (.aload_n 0, 1) := by decide +kernel
theorem d_MO_share_43 : decode b_MO_share 43 = .ok (.getfield 19, 3) := by decide +kernel
theorem d_MO_share_46 : decode b_MO_share 46 = .ok (.iload_n 1, 1) := by decide +kernel
theorem d_MO_share_47 : decode b_MO_share 47 = .ok (.iaload, 1) := by decide +kernel
theorem d_MO_share_48 : decode b_MO_share 48 = .ok (.imul, 1) := by decide +kernel
theorem d_MO_share_49 : decode b_MO_share 49 = .ok (.iload 5, 2) := by decide +kernel
theorem d_MO_share_51 : decode b_MO_share 51 = .ok (.iadd, 1) := by decide +kernel
theorem d_MO_share_52 : decode b_MO_share 52 = .ok (.iaload, 1) := by decide +kernel
theorem d_MO_share_53 : decode b_MO_share 53 = .ok (.iadd, 1) := by decide +kernel
theorem d_MO_share_54 : decode b_MO_share 54 = .ok (.istore_n 3, 1) := by decide +kernel
theorem d_MO_share_55 : decode b_MO_share 55 = .ok (.iload 4, 2) := by decide +kernel
theorem d_MO_share_57 : decode b_MO_share 57 = .ok (.aload_n 0, 1) := by decide +kernel
theorem d_MO_share_58 : decode b_MO_share 58 = .ok (.getfield 50, 3) := by decide +kernel
theorem d_MO_share_61 : decode b_MO_share 61 = .ok (.sipush 240, 3) := by decide +kernel
theorem d_MO_share_64 : decode b_MO_share 64 = .ok (.aload_n 0, 1) := by decide +kernel
theorem d_MO_share_65 : decode b_MO_share 65 = .ok (.getfield 19, 3) := by decide +kernel
theorem d_MO_share_68 : decode b_MO_share 68 = .ok (.iload_n 1, 1) := by decide +kernel
theorem d_MO_share_69 : decode b_MO_share 69 = .ok (.iaload, 1) := by decide +kernel
theorem d_MO_share_70 : decode b_MO_share 70 = .ok (.imul, 1) := by decide +kernel
theorem d_MO_share_71 : decode b_MO_share 71 = .ok (.iload 5, 2) := by decide +kernel
theorem d_MO_share_73 : decode b_MO_share 73 = .ok (.iadd, 1) := by decide +kernel
theorem d_MO_share_74 : decode b_MO_share 74 = .ok (.iaload, 1) := by decide +kernel
theorem d_MO_share_75 : decode b_MO_share 75 = .ok (.aload_n 0, 1) := by decide +kernel
theorem d_MO_share_76 : decode b_MO_share 76 = .ok (.iload_n 1, 1) := by decide +kernel
theorem d_MO_share_77 : decode b_MO_share 77 = .ok (.iload 5, 2) := by decide +kernel
theorem d_MO_share_79 : decode b_MO_share 79 = .ok (.invokevirtual 115, 3) := by decide +kernel
theorem d_MO_share_82 : decode b_MO_share 82 = .ok (.isub, 1) := by decide +kernel
theorem d_MO_share_83 : decode b_MO_share 83 = .ok (.iadd, 1) := by decide +kernel
theorem d_MO_share_84 : decode b_MO_share 84 = .ok (.istore 4, 2) := by decide +kernel
theorem d_MO_share_86 : decode b_MO_share 86 = .ok (.iinc 5 1, 3) := by decide +kernel
theorem d_MO_share_89 : decode b_MO_share 89 = .ok (.goto (-67), 3) := by decide +kernel
theorem d_MO_share_92 : decode b_MO_share 92 = .ok (.aload_n 0, 1) := by decide +kernel
theorem d_MO_share_93 : decode b_MO_share 93 = .ok (.iload_n 2, 1) := by decide +kernel
theorem d_MO_share_94 : decode b_MO_share 94 = .ok (.iload_n 3, 1) := by decide +kernel
theorem d_MO_share_95 : decode b_MO_share 95 = .ok (.ifCond .ne 7, 3) := by decide +kernel
theorem d_MO_share_98 : decode b_MO_share 98 = .ok (.iconst 1, 1) := by decide +kernel
theorem d_MO_share_99 : decode b_MO_share 99 = .ok (.goto 4, 3) := by decide +kernel
theorem d_MO_share_102 : decode b_MO_share 102 = .ok (.iconst 0, 1) := by decide +kernel
theorem d_MO_share_103 : decode b_MO_share 103 = .ok (.iconst 0, 1) := by decide +kernel
theorem d_MO_share_104 : decode b_MO_share 104 = .ok (.iconst 0, 1) := by decide +kernel
theorem d_MO_share_105 : decode b_MO_share 105 = .ok (.invokevirtual 81, 3) := by decide +kernel
theorem d_MO_share_108 : decode b_MO_share 108 = .ok (.ifCond .eq 5, 3) := by decide +kernel
theorem d_MO_share_111 : decode b_MO_share 111 = .ok (.iconst 0, 1) := by decide +kernel
theorem d_MO_share_112 : decode b_MO_share 112 = .ok (.ireturn, 1) := by decide +kernel
theorem d_MO_share_113 : decode b_MO_share 113 = .ok (.sipush 1000, 3) := by decide +kernel
theorem d_MO_share_116 : decode b_MO_share 116 = .ok (.iload 4, 2) := by decide +kernel
theorem d_MO_share_118 : decode b_MO_share 118 = .ok (.imul, 1) := by decide +kernel
theorem d_MO_share_119 : decode b_MO_share 119 = .ok (.iload_n 3, 1) := by decide +kernel
theorem d_MO_share_120 : decode b_MO_share 120 = .ok (.idiv, 1) := by decide +kernel
theorem d_MO_share_121 : decode b_MO_share 121 = .ok (.ireturn, 1) := by decide +kernel
theorem d_MO_axle_0 : decode b_MO_axle 0 = .ok (.aload_n 0, 1) := by decide +kernel
theorem d_MO_axle_1 : decode b_MO_axle 1 = .ok (.aload_n 0, 1) := by decide +kernel
theorem d_MO_axle_2 : decode b_MO_axle 2 = .ok (.iload_n 1, 1) := by decide +kernel
theorem d_MO_axle_3 : decode b_MO_axle 3 = .ok (.invokevirtual 67, 3) := by decide +kernel
theorem d_MO_axle_6 : decode b_MO_axle 6 = .ok (.ifCond .eq 12, 3) := by decide +kernel
theorem d_MO_axle_9 : decode b_MO_axle 9 = .ok (.iload_n 2, 1) := by decide +kernel
theorem d_MO_axle_10 : decode b_MO_axle 10 = .ok (.iconst 0, 1) := by decide +kernel
theorem d_MO_axle_11 : decode b_MO_axle 11 = .ok (.iconst 3, 1) := by decide +kernel
theorem d_MO_axle_12 : decode b_MO_axle 12 = .ok (.invokestatic 63, 3) := by decide +kernel
theorem d_MO_axle_15 : decode b_MO_axle 15 = .ok (.ifCond .ne 7, 3) := by decide +kernel
theorem d_MO_axle_18 : decode b_MO_axle 18 = .ok (.iconst 1, 1) := by decide +kernel
theorem d_MO_axle_19 : decode b_MO_axle 19 = .ok (.goto 4, 3) := by decide +kernel
theorem d_MO_axle_22 : decode b_MO_axle 22 = .ok (.iconst 0, 1) := by decide +kernel
theorem d_MO_axle_23 : decode b_MO_axle 23 = .ok (.iconst 0, 1) := by decide +kernel
theorem d_MO_axle_24 : decode b_MO_axle 24 = .ok (.iconst 0, 1) := by decide +kernel
theorem d_MO_axle_25 : decode b_MO_axle 25 = .ok (.iconst 0, 1) := by decide +kernel
theorem d_MO_axle_26 : decode b_MO_axle 26 = .ok (.invokevirtual 81, 3) := by decide +kernel
theorem d_MO_axle_29 : decode b_MO_axle 29 = .ok (.ifCond .eq 5, 3) := by decide +kernel
theorem d_MO_axle_32 : decode b_MO_axle 32 = .ok (.lconst 0, 1) := by decide +kernel
theorem d_MO_axle_33 : decode b_MO_axle 33 = .ok (.lreturn, 1) := by decide +kernel
theorem d_MO_axle_34 : decode b_MO_axle 34 = .ok (.aload_n 0, 1) := by decide +kernel
theorem d_MO_axle_35 : decode b_MO_axle 35 = .ok (.iload_n 1, 1) := by decide +kernel
theorem d_MO_axle_36 : decode b_MO_axle 36 = .ok (.iload_n 2, 1) := by decide +kernel
theorem d_MO_axle_37 : decode b_MO_axle 37 = .ok (.iconst 1, 1) := by decide +kernel
theorem d_MO_axle_38 : decode b_MO_axle 38 = .ok (.if_icmp .le 7, 3) := by decide +kernel
theorem d_MO_axle_41 : decode b_MO_axle 41 = .ok (.iconst 1, 1) := by decide +kernel
theorem d_MO_axle_42 : decode b_MO_axle 42 = .ok (.goto 4, 3) := by decide +kernel
theorem d_MO_axle_45 : decode b_MO_axle 45 = .ok (.iconst 0, 1) := by decide +kernel
theorem d_MO_axle_46 : decode b_MO_axle 46 = .ok (.invokevirtual 100, 3) := by decide +kernel
theorem d_MO_axle_49 : decode b_MO_axle 49 = .ok (.lstore_n 3, 1) := by decide +kernel
theorem d_MO_axle_50 : decode b_MO_axle 50 = .ok (.lload_n 3, 1) := by decide +kernel
theorem d_MO_axle_51 : decode b_MO_axle 51 = .ok (.lconst 0, 1) := by decide +kernel
theorem d_MO_axle_52 : decode b_MO_axle 52 = .ok (.lcmp, 1) := by decide +kernel
theorem d_MO_axle_53 : decode b_MO_axle 53 = .ok (.ifCond .ge 8, 3) := by decide +kernel
theorem d_MO_axle_56 : decode b_MO_axle 56 = .ok (.lload_n 3, 1) := by decide +kernel
theorem d_MO_axle_57 : decode b_MO_axle 57 = .ok (.lneg, 1) := by decide +kernel
theorem d_MO_axle_58 : decode b_MO_axle 58 = .ok (.goto 4, 3) := by decide +kernel
theorem d_MO_axle_61 : decode b_MO_axle 61 = .ok (.lload_n 3, 1) := by decide +kernel
theorem d_MO_axle_62 : decode b_MO_axle 62 = .ok (.lstore 5, 2) := by decide +kernel
theorem d_MO_axle_64 : decode b_MO_axle 64 = .ok (.aload_n 0, 1) := by decide +kernel
theorem d_MO_axle_65 : decode b_MO_axle 65 = .ok (.getfield 22, 3) := by decide +kernel
theorem d_MO_axle_68 : decode b_MO_axle 68 = .ok (.iload_n 1, 1) := by decide +kernel
theorem d_MO_axle_69 : decode b_MO_axle 69 = .ok (.iaload, 1) := by decide +kernel
theorem d_MO_axle_70 : decode b_MO_axle 70 = .ok (.i2l, 1) := by decide +kernel
theorem d_MO_axle_71 : decode b_MO_axle 71 = .ok (.lstore 7, 2) := by decide +kernel
theorem d_MO_axle_73 : decode b_MO_axle 73 = .ok (.lload 7, 2) := by decide +kernel
theorem d_MO_axle_75 : decode b_MO_axle 75 = .ok (.lconst 0, 1) := by decide +kernel
theorem d_MO_axle_76 : decode b_MO_axle 76 = .ok (.lcmp, 1) := by decide +kernel
theorem d_MO_axle_77 : decode b_MO_axle 77 = .ok (.ifCond .le 21, 3) := by decide +kernel
theorem d_MO_axle_80 : decode b_MO_axle 80 = .ok (.lload 5, 2) := by decide +kernel
theorem d_MO_axle_82 : decode b_MO_axle 82 = .ok (.lload 7, 2) := by decide +kernel
theorem d_MO_axle_84 : decode b_MO_axle 84 = .ok (.lrem, 1) := by decide +kernel
theorem d_MO_axle_85 : decode b_MO_axle 85 = .ok (.lstore 9, 2) := by decide +kernel
theorem d_MO_axle_87 : decode b_MO_axle 87 = .ok (.lload 7, 2) := by decide +kernel
theorem d_MO_axle_89 : decode b_MO_axle 89 = .ok (.lstore 5, 2) := by decide +kernel
theorem d_MO_axle_91 : decode b_MO_axle 91 = .ok (.lload 9, 2) := by decide +kernel
theorem d_MO_axle_93 : decode b_MO_axle 93 = .ok (.lstore 7, 2) := by decide +kernel
theorem d_MO_axle_95 : decode b_MO_axle 95 = .ok (.goto (-22), 3) := by decide +kernel
theorem d_MO_axle_98 : decode b_MO_axle 98 = .ok (.iload_n 2, 1) := by decide +kernel
theorem d_MO_axle_99 : decode b_MO_axle 99 = .ok (.iconst 2, 1) := by decide +kernel
theorem d_MO_axle_100 : decode b_MO_axle 100 = .ok (.irem, 1) := by decide +kernel
theorem d_MO_axle_101 : decode b_MO_axle 101 = .ok (.ifCond .ne 10, 3) := by decide +kernel
theorem d_MO_axle_104 : decode b_MO_axle 104 = .ok (.lload_n 3, 1) := by decide +kernel
theorem d_MO_axle_105 : decode b_MO_axle 105 = .ok (.lload 5, 2) := by decide +kernel
theorem d_MO_axle_107 : decode b_MO_axle 107 = .ok (.ldiv, 1) := by decide +kernel
theorem d_MO_axle_108 : decode b_MO_axle 108 = .ok (.goto 13, 3) := by decide +kernel
theorem d_MO_axle_111 : decode b_MO_axle 111 = .ok (.aload_n 0, 1) := by decide +kernel
theorem d_MO_axle_112 : decode b_MO_axle 112 = .ok (.getfield 22, 3) := by decide +kernel
theorem d_MO_axle_115 : decode b_MO_axle 115 = .ok (.iload_n 1, 1) := by decide +kernel
theorem d_MO_axle_116 : decode b_MO_axle 116 = .ok (.iaload, 1) := by decide +kernel
theorem d_MO_axle_117 : decode b_MO_axle 117 = .ok (.i2l, 1) := by decide +kernel
theorem d_MO_axle_118 : decode b_MO_axle 118 = .ok (.lload 5, 2) := by decide +kernel
theorem d_MO_axle_120 : decode b_MO_axle 120 = .ok (.ldiv, 1) := by decide +kernel
theorem d_MO_axle_121 : decode b_MO_axle 121 = .ok (.lreturn, 1) := by decide +kernel
theorem d_MO_row_0 : decode b_MO_row 0 = .ok (.iload_n 1, 1) := by decide +kernel
theorem d_MO_row_1 : decode b_MO_row 1 = .ok (.iconst 0, 1) := by decide +kernel
theorem d_MO_row_2 : decode b_MO_row 2 = .ok (.aload_n 0, 1) := by decide +kernel
theorem d_MO_row_3 : decode b_MO_row 3 = .ok (.getfield 119, 3) := by decide +kernel
theorem d_MO_row_6 : decode b_MO_row 6 = .ok (.iconst 1, 1) := by decide +kernel
theorem d_MO_row_7 : decode b_MO_row 7 = .ok (.isub, 1) := by decide +kernel
theorem d_MO_row_8 : decode b_MO_row 8 = .ok (.invokestatic 63, 3) := by decide +kernel
theorem d_MO_row_11 : decode b_MO_row 11 = .ok (.ifCond .eq 18, 3) := by decide +kernel
theorem d_MO_row_14 : decode b_MO_row 14 = .ok (.iload_n 1, 1) := by decide +kernel
theorem d_MO_row_15 : decode b_MO_row 15 = .ok (.aload_n 0, 1) := by decide +kernel
theorem d_MO_row_16 : decode b_MO_row 16 = .ok (.getfield 119, 3) := by decide +kernel
theorem d_MO_row_19 : decode b_MO_row 19 = .ok (.bipush 100, 2) := by decide +kernel
theorem d_MO_row_21 : decode b_MO_row 21 = .ok (.isub, 1) := by decide +kernel
theorem d_MO_row_22 : decode b_MO_row 22 = .ok (.if_icmp .lt 7, 3) := by decide +kernel
theorem d_MO_row_25 : decode b_MO_row 25 = .ok (.iconst 1, 1) := by decide +kernel
theorem d_MO_row_26 : decode b_MO_row 26 = .ok (.goto 4, 3) := by decide +kernel
theorem d_MO_row_29 : decode b_MO_row 29 = .ok (.iconst 0, 1) := by decide +kernel
theorem d_MO_row_30 : decode b_MO_row 30 = .ok (.istore_n 3, 1) := by decide +kernel
theorem d_MO_row_31 : decode b_MO_row 31 = .ok (.aload_n 0, 1) := by decide +kernel
theorem d_MO_row_32 : decode b_MO_row 32 = .ok (.iload_n 3, 1) := by decide +kernel
theorem d_MO_row_33 : decode b_MO_row 33 = .ok (.ifCond .eq 12, 3) := by decide +kernel
theorem d_MO_row_36 : decode b_MO_row 36 = .ok (.iload_n 2, 1) := by decide +kernel
theorem d_MO_row_37 : decode b_MO_row 37 = .ok (.iconst 0, 1) := by decide +kernel
theorem d_MO_row_38 : decode b_MO_row 38 = .ok (.iconst 2, 1) := by decide +kernel
theorem d_MO_row_39 : decode b_MO_row 39 = .ok (.invokestatic 63, 3) := by decide +kernel
theorem d_MO_row_42 : decode b_MO_row 42 = .ok (.ifCond .ne 7, 3) := by decide +kernel
theorem d_MO_row_45 : decode b_MO_row 45 = .ok (.iconst 1, 1) := by decide +kernel
theorem d_MO_row_46 : decode b_MO_row 46 = .ok (.goto 4, 3) := by decide +kernel
theorem d_MO_row_49 : decode b_MO_row 49 = .ok (.iconst 0, 1) := by decide +kernel
theorem d_MO_row_50 : decode b_MO_row 50 = .ok (.iconst 0, 1) := by decide +kernel
theorem d_MO_row_51 : decode b_MO_row 51 = .ok (.iconst 0, 1) := by decide +kernel
theorem d_MO_row_52 : decode b_MO_row 52 = .ok (.iconst 0, 1) := by decide +kernel
theorem d_MO_row_53 : decode b_MO_row 53 = .ok (.invokevirtual 81, 3) := by decide +kernel
theorem d_MO_row_56 : decode b_MO_row 56 = .ok (.ifCond .eq 5, 3) := by decide +kernel
theorem d_MO_row_59 : decode b_MO_row 59 = .ok (.iconst 0, 1) := by decide +kernel
theorem d_MO_row_60 : decode b_MO_row 60 = .ok (.ireturn, 1) := by decide +kernel
theorem d_MO_row_61 : decode b_MO_row 61 = .ok (.aload_n 0, 1) := by decide +kernel
theorem d_MO_row_62 : decode b_MO_row 62 = .ok (.getfield 53, 3) := by decide +kernel
theorem d_MO_row_65 : decode b_MO_row 65 = .ok (.iconst 3, 1) := by decide +kernel
theorem d_MO_row_66 : decode b_MO_row 66 = .ok (.iload_n 1, 1) := by decide +kernel
theorem d_MO_row_67 : decode b_MO_row 67 = .ok (.bipush 100, 2) := by decide +kernel
theorem d_MO_row_69 : decode b_MO_row 69 = .ok (.irem, 1) := by decide +kernel
theorem d_MO_row_70 : decode b_MO_row 70 = .ok (.imul, 1) := by decide +kernel
theorem d_MO_row_71 : decode b_MO_row 71 = .ok (.iload_n 2, 1) := by decide +kernel
theorem d_MO_row_72 : decode b_MO_row 72 = .ok (.iadd, 1) := by decide +kernel
theorem d_MO_row_73 : decode b_MO_row 73 = .ok (.iaload, 1) := by decide +kernel
theorem d_MO_row_74 : decode b_MO_row 74 = .ok (.ireturn, 1) := by decide +kernel
theorem d_MO_has_0 : decode b_MO_has 0 = .ok (.aload_n 0, 1) := by decide +kernel
theorem d_MO_has_1 : decode b_MO_has 1 = .ok (.aload_n 0, 1) := by decide +kernel
theorem d_MO_has_2 : decode b_MO_has 2 = .ok (.iload_n 1, 1) := by decide +kernel
theorem d_MO_has_3 : decode b_MO_has 3 = .ok (.iload_n 2, 1) := by decide +kernel
theorem d_MO_has_4 : decode b_MO_has 4 = .ok (.iload_n 3, 1) := by decide +kernel
theorem d_MO_has_5 : decode b_MO_has 5 = .ok (.invokevirtual 108, 3) := by decide +kernel
theorem d_MO_has_8 : decode b_MO_has 8 = .ok (.ifCond .ne 7, 3) := by decide +kernel
theorem d_MO_has_11 : decode b_MO_has 11 = .ok (.iconst 1, 1) := by decide +kernel
theorem d_MO_has_12 : decode b_MO_has 12 = .ok (.goto 4, 3) := by decide +kernel
theorem d_MO_has_15 : decode b_MO_has 15 = .ok (.iconst 0, 1) := by decide +kernel
theorem d_MO_has_16 : decode b_MO_has 16 = .ok (.iconst 0, 1) := by decide +kernel
theorem d_MO_has_17 : decode b_MO_has 17 = .ok (.iconst 0, 1) := by decide +kernel
theorem d_MO_has_18 : decode b_MO_has 18 = .ok (.iconst 0, 1) := by decide +kernel
theorem d_MO_has_19 : decode b_MO_has 19 = .ok (.invokevirtual 81, 3) := by decide +kernel
theorem d_MO_has_22 : decode b_MO_has 22 = .ok (.ifCond .eq 5, 3) := by decide +kernel
theorem d_MO_has_25 : decode b_MO_has 25 = .ok (.iconst 0, 1) := by decide +kernel
theorem d_MO_has_26 : decode b_MO_has 26 = .ok (.ireturn, 1) := by decide +kernel
theorem d_MO_has_27 : decode b_MO_has 27 = .ok (.aload_n 0, 1) := by decide +kernel
theorem d_MO_has_28 : decode b_MO_has 28 = .ok (.getfield 47, 3) := by decide +kernel
theorem d_MO_has_31 : decode b_MO_has 31 = .ok (.sipush 240, 3) := by decide +kernel
theorem d_MO_has_34 : decode b_MO_has 34 = .ok (.iload_n 1, 1) := by decide +kernel
theorem d_MO_has_35 : decode b_MO_has 35 = .ok (.imul, 1) := by decide +kernel
theorem d_MO_has_36 : decode b_MO_has 36 = .ok (.bipush 30, 2) := by decide +kernel
theorem d_MO_has_38 : decode b_MO_has 38 = .ok (.iload_n 2, 1) := by decide +kernel
theorem d_MO_has_39 : decode b_MO_has 39 = .ok (.imul, 1) := by decide +kernel
theorem d_MO_has_40 : decode b_MO_has 40 = .ok (.iadd, 1) := by decide +kernel
theorem d_MO_has_41 : decode b_MO_has 41 = .ok (.iload_n 3, 1) := by decide +kernel
theorem d_MO_has_42 : decode b_MO_has 42 = .ok (.iadd, 1) := by decide +kernel
theorem d_MO_has_43 : decode b_MO_has 43 = .ok (.iaload, 1) := by decide +kernel
theorem d_MO_has_44 : decode b_MO_has 44 = .ok (.ireturn, 1) := by decide +kernel
theorem d_MO_stocked_0 : decode b_MO_stocked 0 = .ok (.aload_n 0, 1) := by decide +kernel
theorem d_MO_stocked_1 : decode b_MO_stocked 1 = .ok (.iload_n 1, 1) := by decide +kernel
theorem d_MO_stocked_2 : decode b_MO_stocked 2 = .ok (.invokestatic 74, 3) := by decide +kernel
theorem d_MO_stocked_5 : decode b_MO_stocked 5 = .ok (.ifCond .ne 7, 3) := by decide +kernel
theorem d_MO_stocked_8 : decode b_MO_stocked 8 = .ok (.iconst 1, 1) := by decide +kernel
theorem d_MO_stocked_9 : decode b_MO_stocked 9 = .ok (.goto 4, 3) := by decide +kernel
theorem d_MO_stocked_12 : decode b_MO_stocked 12 = .ok (.iconst 0, 1) := by decide +kernel
theorem d_MO_stocked_13 : decode b_MO_stocked 13 = .ok (.iconst 0, 1) := by decide +kernel
theorem d_MO_stocked_14 : decode b_MO_stocked 14 = .ok (.iconst 0, 1) := by decide +kernel
theorem d_MO_stocked_15 : decode b_MO_stocked 15 = .ok (.iconst 0, 1) := by decide +kernel
theorem d_MO_stocked_16 : decode b_MO_stocked 16 = .ok (.invokevirtual 81, 3) := by decide +kernel
theorem d_MO_stocked_19 : decode b_MO_stocked 19 = .ok (.ifCond .eq 5, 3) := by decide +kernel
theorem d_MO_stocked_22 : decode b_MO_stocked 22 = .ok (.iconst 0, 1) := by decide +kernel
theorem d_MO_stocked_23 : decode b_MO_stocked 23 = .ok (.ireturn, 1) := by decide +kernel
theorem d_MO_stocked_24 : decode b_MO_stocked 24 = .ok (.aload_n 0, 1) := by decide +kernel
theorem d_MO_stocked_25 : decode b_MO_stocked 25 = .ok (.getfield 16, 3) := by decide +kernel
theorem d_MO_stocked_28 : decode b_MO_stocked 28 = .ok (.iload_n 1, 1) := by decide +kernel
theorem d_MO_stocked_29 : decode b_MO_stocked 29 = .ok (.iaload, 1) := by decide +kernel
theorem d_MO_stocked_30 : decode b_MO_stocked 30 = .ok (.ireturn, 1) := by decide +kernel
