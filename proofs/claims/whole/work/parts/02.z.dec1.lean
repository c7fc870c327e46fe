theorem d_LC_init_0 : decode b_LC_init 0 = .ok (.aload_n 0, 1) := by decide +kernel
theorem d_LC_init_1 : decode b_LC_init 1 = .ok (.invokespecial 3, 3) := by decide +kernel
theorem d_LC_init_4 : decode b_LC_init 4 = .ok (.aload_n 0, 1) := by decide +kernel
theorem d_LC_init_5 : decode b_LC_init 5 = .ok (.bipush 30, 2) := by decide +kernel
theorem d_LC_init_7 : decode b_LC_init 7 = .ok (.newarray .int, 2) := by decide +kernel
theorem d_LC_init_9 : decode b_LC_init 9 = .ok (.putfield 9, 3) := by decide +kernel
theorem d_LC_init_12 : decode b_LC_init 12 = .ok (.aload_n 0, 1) := by decide +kernel
theorem d_LC_init_13 : decode b_LC_init 13 = .ok (.bipush 30, 2) := by decide +kernel
theorem d_LC_init_15 : decode b_LC_init 15 = .ok (.newarray .int, 2) := by decide +kernel
theorem d_LC_init_17 : decode b_LC_init 17 = .ok (.putfield 13, 3) := by decide +kernel
theorem d_LC_init_20 : decode b_LC_init 20 = .ok (.aload_n 0, 1) := by decide +kernel
theorem d_LC_init_21 : decode b_LC_init 21 = .ok (.bipush 30, 2) := by decide +kernel
theorem d_LC_init_23 : decode b_LC_init 23 = .ok (.newarray .int, 2) := by decide +kernel
theorem d_LC_init_25 : decode b_LC_init 25 = .ok (.putfield 16, 3) := by decide +kernel
theorem d_LC_init_28 : decode b_LC_init 28 = .ok (.aload_n 0, 1) := by decide +kernel
theorem d_LC_init_29 : decode b_LC_init 29 = .ok (.bipush 6, 2) := by decide +kernel
theorem d_LC_init_31 : decode b_LC_init 31 = .ok (.sipush 240, 3) := by decide +kernel
theorem d_LC_init_34 : decode b_LC_init 34 = .ok (.multianewarray 19 2, 4) := by decide +kernel
theorem d_LC_init_38 : decode b_LC_init 38 = .ok (.putfield 21, 3) := by decide +kernel
theorem d_LC_init_41 : decode b_LC_init 41 = .ok (.aload_n 0, 1) := by decide +kernel
theorem d_LC_init_42 : decode b_LC_init 42 = .ok (.bipush 16, 2) := by decide +kernel
theorem d_LC_init_44 : decode b_LC_init 44 = .ok (.anewarray 24, 3) := by decide +kernel
theorem d_LC_init_47 : decode b_LC_init 47 = .ok (.putfield 26, 3) := by decide +kernel
theorem d_LC_init_50 : decode b_LC_init 50 = .ok (.aload_n 0, 1) := by decide +kernel
theorem d_LC_init_51 : decode b_LC_init 51 = .ok (.new 30, 3) := by decide +kernel
theorem d_LC_init_54 : decode b_LC_init 54 = .ok (.dup, 1) := by decide +kernel
theorem d_LC_init_55 : decode b_LC_init 55 = .ok (.invokespecial 32, 3) := by decide +kernel
theorem d_LC_init_58 : decode b_LC_init 58 = .ok (.putfield 33, 3) := by decide +kernel
theorem d_LC_init_61 : decode b_LC_init 61 = .ok (.iconst 0, 1) := by decide +kernel
theorem d_LC_init_62 : decode b_LC_init 62 = .ok (.istore_n 1, 1) := by decide +kernel
theorem d_LC_init_63 : decode b_LC_init 63 = .ok (.iload_n 1, 1) := by decide +kernel
theorem d_LC_init_64 : decode b_LC_init 64 = .ok (.bipush 16, 2) := by decide +kernel
theorem d_LC_init_66 : decode b_LC_init 66 = .ok (.if_icmp .ge 22, 3) := by decide +kernel
theorem d_LC_init_69 : decode b_LC_init 69 = .ok (.aload_n 0, 1) := by decide +kernel
theorem d_LC_init_70 : decode b_LC_init 70 = .ok (.getfield 26, 3) := by decide +kernel
theorem d_LC_init_73 : decode b_LC_init 73 = .ok (.iload_n 1, 1) := by decide +kernel
theorem d_LC_init_74 : decode b_LC_init 74 = .ok (.new 24, 3) := by decide +kernel
theorem d_LC_init_77 : decode b_LC_init 77 = .ok (.dup, 1) := by decide +kernel
theorem d_LC_init_78 : decode b_LC_init 78 = .ok (.invokespecial 37, 3) := by decide +kernel
theorem d_LC_init_81 : decode b_LC_init 81 = .ok (.aastore, 1) := by decide +kernel
theorem d_LC_init_82 : decode b_LC_init 82 = .ok (.iinc 1 1, 3) := by decide +kernel
theorem d_LC_init_85 : decode b_LC_init 85 = .ok (.goto (-22), 3) := by decide +kernel
theorem d_LC_init_88 : decode b_LC_init 88 = .ok (.return_, 1) := by decide +kernel
theorem d_LC_vehicle_0 : decode b_LC_vehicle 0 = .ok (.iload_n 1, 1) := by decide +kernel
theorem d_LC_vehicle_1 : decode b_LC_vehicle 1 = .ok (.invokestatic 38, 3) := by decide +kernel
theorem d_LC_vehicle_4 : decode b_LC_vehicle 4 = .ok (.iload_n 2, 1) := by decide +kernel
theorem d_LC_vehicle_5 : decode b_LC_vehicle 5 = .ok (.sipush 1000, 3) := by decide +kernel
theorem d_LC_vehicle_8 : decode b_LC_vehicle 8 = .ok (.sipush 8000, 3) := by decide +kernel
theorem d_LC_vehicle_11 : decode b_LC_vehicle 11 = .ok (.invokestatic 42, 3) := by decide +kernel
theorem d_LC_vehicle_14 : decode b_LC_vehicle 14 = .ok (.iload_n 3, 1) := by decide +kernel
theorem d_LC_vehicle_15 : decode b_LC_vehicle 15 = .ok (.iload 4, 2) := by decide +kernel
theorem d_LC_vehicle_17 : decode b_LC_vehicle 17 = .ok (.invokestatic 46, 3) := by decide +kernel
theorem d_LC_vehicle_20 : decode b_LC_vehicle 20 = .ok (.aload_n 0, 1) := by decide +kernel
theorem d_LC_vehicle_21 : decode b_LC_vehicle 21 = .ok (.getfield 50, 3) := by decide +kernel
theorem d_LC_vehicle_24 : decode b_LC_vehicle 24 = .ok (.bipush 16, 2) := by decide +kernel
theorem d_LC_vehicle_26 : decode b_LC_vehicle 26 = .ok (.if_icmp .lt 13, 3) := by decide +kernel
theorem d_LC_vehicle_29 : decode b_LC_vehicle 29 = .ok (.new 54, 3) := by decide +kernel
theorem d_LC_vehicle_32 : decode b_LC_vehicle 32 = .ok (.dup, 1) := by decide +kernel
theorem d_LC_vehicle_33 : decode b_LC_vehicle 33 = .ok (.ldc 56, 2) := by decide +kernel
theorem d_LC_vehicle_35 : decode b_LC_vehicle 35 = .ok (.invokespecial 58, 3) := by decide +kernel
theorem d_LC_vehicle_38 : decode b_LC_vehicle 38 = .ok (.athrow, 1) := by decide +kernel
theorem d_LC_vehicle_39 : decode b_LC_vehicle 39 = .ok (.aload_n 0, 1) := by decide +kernel
theorem d_LC_vehicle_40 : decode b_LC_vehicle 40 = .ok (.getfield 26, 3) := by decide +kernel
theorem d_LC_vehicle_43 : decode b_LC_vehicle 43 = .ok (.aload_n 0, 1) := by decide +kernel
theorem d_LC_vehicle_44 : decode b_LC_vehicle 44 = .ok (.getfield 50, 3) := by decide +kernel
theorem d_LC_vehicle_47 : decode b_LC_vehicle 47 = .ok (.aaload, 1) := by decide +kernel
theorem d_LC_vehicle_48 : decode b_LC_vehicle 48 = .ok (.astore 5, 2) := by decide +kernel
theorem d_LC_vehicle_50 : decode b_LC_vehicle 50 = .ok (.aload 5, 2) := by decide +kernel
theorem d_LC_vehicle_52 : decode b_LC_vehicle 52 = .ok (.iload_n 1, 1) := by decide +kernel
theorem d_LC_vehicle_53 : decode b_LC_vehicle 53 = .ok (.putfield 61, 3) := by decide +kernel
theorem d_LC_vehicle_56 : decode b_LC_vehicle 56 = .ok (.aload 5, 2) := by decide +kernel
theorem d_LC_vehicle_58 : decode b_LC_vehicle 58 = .ok (.iload_n 2, 1) := by decide +kernel
theorem d_LC_vehicle_59 : decode b_LC_vehicle 59 = .ok (.putfield 64, 3) := by decide +kernel
theorem d_LC_vehicle_62 : decode b_LC_vehicle 62 = .ok (.aload 5, 2) := by decide +kernel
theorem d_LC_vehicle_64 : decode b_LC_vehicle 64 = .ok (.iload_n 3, 1) := by decide +kernel
theorem d_LC_vehicle_65 : decode b_LC_vehicle 65 = .ok (.putfield 67, 3) := by decide +kernel
theorem d_LC_vehicle_68 : decode b_LC_vehicle 68 = .ok (.aload 5, 2) := by decide +kernel
theorem d_LC_vehicle_70 : decode b_LC_vehicle 70 = .ok (.iload 4, 2) := by decide +kernel
theorem d_LC_vehicle_72 : decode b_LC_vehicle 72 = .ok (.putfield 70, 3) := by decide +kernel
theorem d_LC_vehicle_75 : decode b_LC_vehicle 75 = .ok (.aload_n 0, 1) := by decide +kernel
theorem d_LC_vehicle_76 : decode b_LC_vehicle 76 = .ok (.dup, 1) := by decide +kernel
theorem d_LC_vehicle_77 : decode b_LC_vehicle 77 = .ok (.getfield 50, 3) := by decide +kernel
theorem d_LC_vehicle_80 : decode b_LC_vehicle 80 = .ok (.iconst 1, 1) := by decide +kernel
theorem d_LC_vehicle_81 : decode b_LC_vehicle 81 = .ok (.iadd, 1) := by decide +kernel
theorem d_LC_vehicle_82 : decode b_LC_vehicle 82 = .ok (.putfield 50, 3) := by decide +kernel
theorem d_LC_vehicle_85 : decode b_LC_vehicle 85 = .ok (.aload_n 0, 1) := by decide +kernel
theorem d_LC_vehicle_86 : decode b_LC_vehicle 86 = .ok (.getfield 50, 3) := by decide +kernel
theorem d_LC_vehicle_89 : decode b_LC_vehicle 89 = .ok (.iconst 1, 1) := by decide +kernel
theorem d_LC_vehicle_90 : decode b_LC_vehicle 90 = .ok (.isub, 1) := by decide +kernel
theorem d_LC_vehicle_91 : decode b_LC_vehicle 91 = .ok (.ireturn, 1) := by decide +kernel
theorem d_LC_limits_0 : decode b_LC_limits 0 = .ok (.aload_n 0, 1) := by decide +kernel
theorem d_LC_limits_1 : decode b_LC_limits 1 = .ok (.iload_n 1, 1) := by decide +kernel
theorem d_LC_limits_2 : decode b_LC_limits 2 = .ok (.invokevirtual 73, 3) := by decide +kernel
theorem d_LC_limits_5 : decode b_LC_limits 5 = .ok (.astore 4, 2) := by decide +kernel
theorem d_LC_limits_7 : decode b_LC_limits 7 = .ok (.iload_n 2, 1) := by decide +kernel
theorem d_LC_limits_8 : decode b_LC_limits 8 = .ok (.iload_n 3, 1) := by decide +kernel
theorem d_LC_limits_9 : decode b_LC_limits 9 = .ok (.invokestatic 46, 3) := by decide +kernel
theorem d_LC_limits_12 : decode b_LC_limits 12 = .ok (.aload 4, 2) := by decide +kernel
theorem d_LC_limits_14 : decode b_LC_limits 14 = .ok (.iload_n 2, 1) := by decide +kernel
theorem d_LC_limits_15 : decode b_LC_limits 15 = .ok (.putfield 67, 3) := by decide +kernel
theorem d_LC_limits_18 : decode b_LC_limits 18 = .ok (.aload 4, 2) := by decide +kernel
theorem d_LC_limits_20 : decode b_LC_limits 20 = .ok (.iload_n 3, 1) := by decide +kernel
theorem d_LC_limits_21 : decode b_LC_limits 21 = .ok (.putfield 70, 3) := by decide +kernel
theorem d_LC_limits_24 : decode b_LC_limits 24 = .ok (.return_, 1) := by decide +kernel
theorem d_LC_place_0 : decode b_LC_place 0 = .ok (.aload_n 0, 1) := by decide +kernel
theorem d_LC_place_1 : decode b_LC_place 1 = .ok (.iload_n 1, 1) := by decide +kernel
theorem d_LC_place_2 : decode b_LC_place 2 = .ok (.invokevirtual 73, 3) := by decide +kernel
theorem d_LC_place_5 : decode b_LC_place 5 = .ok (.astore 4, 2) := by decide +kernel
theorem d_LC_place_7 : decode b_LC_place 7 = .ok (.iload_n 2, 1) := by decide +kernel
theorem d_LC_place_8 : decode b_LC_place 8 = .ok (.invokestatic 77, 3) := by decide +kernel
theorem d_LC_place_11 : decode b_LC_place 11 = .ok (.iload_n 3, 1) := by decide +kernel
theorem d_LC_place_12 : decode b_LC_place 12 = .ok (.sipush (-2000), 3) := by decide +kernel
theorem d_LC_place_15 : decode b_LC_place 15 = .ok (.sipush 10000, 3) := by decide +kernel
theorem d_LC_place_18 : decode b_LC_place 18 = .ok (.invokestatic 42, 3) := by decide +kernel
theorem d_LC_place_21 : decode b_LC_place 21 = .ok (.aload 4, 2) := by decide +kernel
theorem d_LC_place_23 : decode b_LC_place 23 = .ok (.iload_n 2, 1) := by decide +kernel
theorem d_LC_place_24 : decode b_LC_place 24 = .ok (.invokevirtual 80, 3) := by decide +kernel
theorem d_LC_place_27 : decode b_LC_place 27 = .ok (.ifCond .ne 13, 3) := by decide +kernel
theorem d_LC_place_30 : decode b_LC_place 30 = .ok (.new 84, 3) := by decide +kernel
theorem d_LC_place_33 : decode b_LC_place 33 = .ok (.dup, 1) := by decide +kernel
theorem d_LC_place_34 : decode b_LC_place 34 = .ok (.ldc 86, 2) := by decide +kernel
theorem d_LC_place_36 : decode b_LC_place 36 = .ok (.invokespecial 88, 3) := by decide +kernel
theorem d_LC_place_39 : decode b_LC_place 39 = .ok (.athrow, 1) := by decide +kernel
theorem d_LC_place_40 : decode b_LC_place 40 = .ok (.aload 4, 2) := by decide +kernel
theorem d_LC_place_42 : decode b_LC_place 42 = .ok (.getfield 89, 3) := by decide +kernel
theorem d_LC_place_45 : decode b_LC_place 45 = .ok (.iload_n 2, 1) := by decide +kernel
theorem d_LC_place_46 : decode b_LC_place 46 = .ok (.iload_n 3, 1) := by decide +kernel
theorem d_LC_place_47 : decode b_LC_place 47 = .ok (.iastore, 1) := by decide +kernel
theorem d_LC_place_48 : decode b_LC_place 48 = .ok (.return_, 1) := by decide +kernel
theorem d_LC_item_0 : decode b_LC_item 0 = .ok (.iload_n 1, 1) := by decide +kernel
theorem d_LC_item_1 : decode b_LC_item 1 = .ok (.invokestatic 92, 3) := by decide +kernel
theorem d_LC_item_4 : decode b_LC_item 4 = .ok (.iload_n 2, 1) := by decide +kernel
theorem d_LC_item_5 : decode b_LC_item 5 = .ok (.iconst 0, 1) := by decide +kernel
theorem d_LC_item_6 : decode b_LC_item 6 = .ok (.ldc 95, 2) := by decide +kernel
theorem d_LC_item_8 : decode b_LC_item 8 = .ok (.invokestatic 42, 3) := by decide +kernel
theorem d_LC_item_11 : decode b_LC_item 11 = .ok (.iload_n 3, 1) := by decide +kernel
theorem d_LC_item_12 : decode b_LC_item 12 = .ok (.iconst 0, 1) := by decide +kernel
theorem d_LC_item_13 : decode b_LC_item 13 = .ok (.bipush 100, 2) := by decide +kernel
theorem d_LC_item_15 : decode b_LC_item 15 = .ok (.invokestatic 42, 3) := by decide +kernel
theorem d_LC_item_18 : decode b_LC_item 18 = .ok (.iload_n 2, 1) := by decide +kernel
theorem d_LC_item_19 : decode b_LC_item 19 = .ok (.aload_n 0, 1) := by decide +kernel
theorem d_LC_item_20 : decode b_LC_item 20 = .ok (.getfield 9, 3) := by decide +kernel
theorem d_LC_item_23 : decode b_LC_item 23 = .ok (.iload_n 1, 1) := by decide +kernel
theorem d_LC_item_24 : decode b_LC_item 24 = .ok (.iaload, 1) := by decide +kernel
theorem d_LC_item_25 : decode b_LC_item 25 = .ok (.if_icmp .eq 21, 3) := by decide +kernel
theorem d_LC_item_28 : decode b_LC_item 28 = .ok (.aload_n 0, 1) := by decide +kernel
theorem d_LC_item_29 : decode b_LC_item 29 = .ok (.iload_n 1, 1) := by decide +kernel
theorem d_LC_item_30 : decode b_LC_item 30 = .ok (.invokevirtual 96, 3) := by decide +kernel
theorem d_LC_item_33 : decode b_LC_item 33 = .ok (.ifCond .eq 13, 3) := by decide +kernel
theorem d_LC_item_36 : decode b_LC_item 36 = .ok (.new 84, 3) := by decide +kernel
theorem d_LC_item_39 : decode b_LC_item 39 = .ok (.dup, 1) := by decide +kernel
theorem d_LC_item_40 : decode b_LC_item 40 = .ok (.ldc 99, 2) := by decide +kernel
theorem d_LC_item_42 : decode b_LC_item 42 = .ok (.invokespecial 88, 3) := by decide +kernel
theorem d_LC_item_45 : decode b_LC_item 45 = .ok (.athrow, 1) := by decide +kernel
theorem d_LC_item_46 : decode b_LC_item 46 = .ok (.aload_n 0, 1) := by decide +kernel
theorem d_LC_item_47 : decode b_LC_item 47 = .ok (.getfield 9, 3) := by decide +kernel
theorem d_LC_item_50 : decode b_LC_item 50 = .ok (.iload_n 1, 1) := by decide +kernel
theorem d_LC_item_51 : decode b_LC_item 51 = .ok (.iload_n 2, 1) := by decide +kernel
theorem d_LC_item_52 : decode b_LC_item 52 = .ok (.iastore, 1) := by decide +kernel
theorem d_LC_item_53 : decode b_LC_item 53 = .ok (.aload_n 0, 1) := by decide +kernel
theorem d_LC_item_54 : decode b_LC_item 54 = .ok (.getfield 13, 3) := by decide +kernel
theorem d_LC_item_57 : decode b_LC_item 57 = .ok (.iload_n 1, 1) := by decide +kernel
theorem d_LC_item_58 : decode b_LC_item 58 = .ok (.iload_n 3, 1) := by decide +kernel
theorem d_LC_item_59 : decode b_LC_item 59 = .ok (.iastore, 1) := by decide +kernel
theorem d_LC_item_60 : decode b_LC_item 60 = .ok (.return_, 1) := by decide +kernel
theorem d_LC_list_0 : decode b_LC_list 0 = .ok (.iload_n 1, 1) := by decide +kernel
theorem d_LC_list_1 : decode b_LC_list 1 = .ok (.invokestatic 38, 3) := by decide +kernel
theorem d_LC_list_4 : decode b_LC_list 4 = .ok (.iload_n 2, 1) := by decide +kernel
theorem d_LC_list_5 : decode b_LC_list 5 = .ok (.invokestatic 77, 3) := by decide +kernel
theorem d_LC_list_8 : decode b_LC_list 8 = .ok (.iload_n 3, 1) := by decide +kernel
theorem d_LC_list_9 : decode b_LC_list 9 = .ok (.invokestatic 92, 3) := by decide +kernel
theorem d_LC_list_12 : decode b_LC_list 12 = .ok (.iload 4, 2) := by decide +kernel
theorem d_LC_list_14 : decode b_LC_list 14 = .ok (.iconst 0, 1) := by decide +kernel
theorem d_LC_list_15 : decode b_LC_list 15 = .ok (.bipush 99, 2) := by decide +kernel
theorem d_LC_list_17 : decode b_LC_list 17 = .ok (.invokestatic 42, 3) := by decide +kernel
theorem d_LC_list_20 : decode b_LC_list 20 = .ok (.aload_n 0, 1) := by decide +kernel
theorem d_LC_list_21 : decode b_LC_list 21 = .ok (.getfield 21, 3) := by decide +kernel
theorem d_LC_list_24 : decode b_LC_list 24 = .ok (.iload_n 1, 1) := by decide +kernel
theorem d_LC_list_25 : decode b_LC_list 25 = .ok (.aaload, 1) := by decide +kernel
theorem d_LC_list_26 : decode b_LC_list 26 = .ok (.iload_n 2, 1) := by decide +kernel
theorem d_LC_list_27 : decode b_LC_list 27 = .ok (.iload_n 3, 1) := by decide +kernel
theorem d_LC_list_28 : decode b_LC_list 28 = .ok (.invokestatic 101, 3) := by decide +kernel
theorem d_LC_list_31 : decode b_LC_list 31 = .ok (.iload 4, 2) := by decide +kernel
theorem d_LC_list_33 : decode b_LC_list 33 = .ok (.iastore, 1) := by decide +kernel
theorem d_LC_list_34 : decode b_LC_list 34 = .ok (.return_, 1) := by decide +kernel
theorem d_LC_stock_0 : decode b_LC_stock 0 = .ok (.iload_n 1, 1) := by decide +kernel
theorem d_LC_stock_1 : decode b_LC_stock 1 = .ok (.invokestatic 92, 3) := by decide +kernel
theorem d_LC_stock_4 : decode b_LC_stock 4 = .ok (.iload_n 2, 1) := by decide +kernel
theorem d_LC_stock_5 : decode b_LC_stock 5 = .ok (.iconst 1, 1) := by decide +kernel
theorem d_LC_stock_6 : decode b_LC_stock 6 = .ok (.bipush 99, 2) := by decide +kernel
theorem d_LC_stock_8 : decode b_LC_stock 8 = .ok (.invokestatic 42, 3) := by decide +kernel
theorem d_LC_stock_11 : decode b_LC_stock 11 = .ok (.aload_n 0, 1) := by decide +kernel
theorem d_LC_stock_12 : decode b_LC_stock 12 = .ok (.getfield 16, 3) := by decide +kernel
theorem d_LC_stock_15 : decode b_LC_stock 15 = .ok (.iload_n 1, 1) := by decide +kernel
theorem d_LC_stock_16 : decode b_LC_stock 16 = .ok (.iaload, 1) := by decide +kernel
theorem d_LC_stock_17 : decode b_LC_stock 17 = .ok (.iload_n 2, 1) := by decide +kernel
theorem d_LC_stock_18 : decode b_LC_stock 18 = .ok (.iadd, 1) := by decide +kernel
theorem d_LC_stock_19 : decode b_LC_stock 19 = .ok (.sipush 10000, 3) := by decide +kernel
theorem d_LC_stock_22 : decode b_LC_stock 22 = .ok (.if_icmp .le 13, 3) := by decide +kernel
theorem d_LC_stock_25 : decode b_LC_stock 25 = .ok (.new 54, 3) := by decide +kernel
theorem d_LC_stock_28 : decode b_LC_stock 28 = .ok (.dup, 1) := by decide +kernel
theorem d_LC_stock_29 : decode b_LC_stock 29 = .ok (.ldc 105, 2) := by decide +kernel
theorem d_LC_stock_31 : decode b_LC_stock 31 = .ok (.invokespecial 58, 3) := by decide +kernel
theorem d_LC_stock_34 : decode b_LC_stock 34 = .ok (.athrow, 1) := by decide +kernel
theorem d_LC_stock_35 : decode b_LC_stock 35 = .ok (.aload_n 0, 1) := by decide +kernel
theorem d_LC_stock_36 : decode b_LC_stock 36 = .ok (.getfield 16, 3) := by decide +kernel
theorem d_LC_stock_39 : decode b_LC_stock 39 = .ok (.iload_n 1, 1) := by decide +kernel
theorem d_LC_stock_40 : decode b_LC_stock 40 = .ok (.dup2, 1) := by decide +kernel
theorem d_LC_stock_41 : decode b_LC_stock 41 = .ok (.iaload, 1) := by decide +kernel
theorem d_LC_stock_42 : decode b_LC_stock 42 = .ok (.iload_n 2, 1) := by decide +kernel
theorem d_LC_stock_43 : decode b_LC_stock 43 = .ok (.iadd, 1) := by decide +kernel
theorem d_LC_stock_44 : decode b_LC_stock 44 = .ok (.iastore, 1) := by decide +kernel
theorem d_LC_stock_45 : decode b_LC_stock 45 = .ok (.aload_n 0, 1) := by decide +kernel
theorem d_LC_stock_46 : decode b_LC_stock 46 = .ok (.getfield 16, 3) := by decide +kernel
theorem d_LC_stock_49 : decode b_LC_stock 49 = .ok (.iload_n 1, 1) := by decide +kernel
theorem d_LC_stock_50 : decode b_LC_stock 50 = .ok (.iaload, 1) := by decide +kernel
theorem d_LC_stock_51 : decode b_LC_stock 51 = .ok (.ireturn, 1) := by decide +kernel
theorem d_LC_put_0 : decode b_LC_put 0 = .ok (.aload_n 0, 1) := by decide +kernel
theorem d_LC_put_1 : decode b_LC_put 1 = .ok (.iload_n 1, 1) := by decide +kernel
theorem d_LC_put_2 : decode b_LC_put 2 = .ok (.invokevirtual 73, 3) := by decide +kernel
theorem d_LC_put_5 : decode b_LC_put 5 = .ok (.astore 5, 2) := by decide +kernel
theorem d_LC_put_7 : decode b_LC_put 7 = .ok (.iload_n 2, 1) := by decide +kernel
theorem d_LC_put_8 : decode b_LC_put 8 = .ok (.invokestatic 77, 3) := by decide +kernel
theorem d_LC_put_11 : decode b_LC_put 11 = .ok (.iload_n 3, 1) := by decide +kernel
theorem d_LC_put_12 : decode b_LC_put 12 = .ok (.invokestatic 92, 3) := by decide +kernel
theorem d_LC_put_15 : decode b_LC_put 15 = .ok (.iload 4, 2) := by decide +kernel
theorem d_LC_put_17 : decode b_LC_put 17 = .ok (.iconst 1, 1) := by decide +kernel
theorem d_LC_put_18 : decode b_LC_put 18 = .ok (.bipush 99, 2) := by decide +kernel
theorem d_LC_put_20 : decode b_LC_put 20 = .ok (.invokestatic 42, 3) := by decide +kernel
theorem d_LC_put_23 : decode b_LC_put 23 = .ok (.iload_n 2, 1) := by decide +kernel
theorem d_LC_put_24 : decode b_LC_put 24 = .ok (.iload_n 3, 1) := by decide +kernel
theorem d_LC_put_25 : decode b_LC_put 25 = .ok (.invokestatic 101, 3) := by decide +kernel
theorem d_LC_put_28 : decode b_LC_put 28 = .ok (.istore 6, 2) := by decide +kernel
theorem d_LC_put_30 : decode b_LC_put 30 = .ok (.aload_n 0, 1) := by decide +kernel
theorem d_LC_put_31 : decode b_LC_put 31 = .ok (.aload 5, 2) := by decide +kernel
theorem d_LC_put_33 : decode b_LC_put 33 = .ok (.iload 6, 2) := by decide +kernel
theorem d_LC_put_35 : decode b_LC_put 35 = .ok (.iload 4, 2) := by decide +kernel
theorem d_LC_put_37 : decode b_LC_put 37 = .ok (.invokevirtual 107, 3) := by decide +kernel
theorem d_LC_put_40 : decode b_LC_put 40 = .ok (.aload 5, 2) := by decide +kernel
theorem d_LC_put_42 : decode b_LC_put 42 = .ok (.iload 6, 2) := by decide +kernel
theorem d_LC_put_44 : decode b_LC_put 44 = .ok (.iload 4, 2) := by decide +kernel
theorem d_LC_put_46 : decode b_LC_put 46 = .ok (.invokestatic 111, 3) := by decide +kernel
theorem d_LC_put_49 : decode b_LC_put 49 = .ok (.aload 5, 2) := by decide +kernel
theorem d_LC_put_51 : decode b_LC_put 51 = .ok (.iload 6, 2) := by decide +kernel
theorem d_LC_put_53 : decode b_LC_put 53 = .ok (.iload 4, 2) := by decide +kernel
theorem d_LC_put_55 : decode b_LC_put 55 = .ok (.aload_n 0, 1) := by decide +kernel
theorem d_LC_put_56 : decode b_LC_put 56 = .ok (.getfield 9, 3) := by decide +kernel
theorem d_LC_put_59 : decode b_LC_put 59 = .ok (.iload_n 3, 1) := by decide +kernel
theorem d_LC_put_60 : decode b_LC_put 60 = .ok (.iaload, 1) := by decide +kernel
theorem d_LC_put_61 : decode b_LC_put 61 = .ok (.invokevirtual 114, 3) := by decide +kernel
theorem d_LC_put_64 : decode b_LC_put 64 = .ok (.aload 5, 2) := by decide +kernel
theorem d_LC_put_66 : decode b_LC_put 66 = .ok (.getfield 117, 3) := by decide +kernel
theorem d_LC_put_69 : decode b_LC_put 69 = .ok (.iload 6, 2) := by decide +kernel
theorem d_LC_put_71 : decode b_LC_put 71 = .ok (.iaload, 1) := by decide +kernel
theorem d_LC_put_72 : decode b_LC_put 72 = .ok (.ireturn, 1) := by decide +kernel
theorem d_LC_use_0 : decode b_LC_use 0 = .ok (.aload_n 0, 1) := by decide +kernel
theorem d_LC_use_1 : decode b_LC_use 1 = .ok (.iload_n 1, 1) := by decide +kernel
theorem d_LC_use_2 : decode b_LC_use 2 = .ok (.invokevirtual 73, 3) := by decide +kernel
theorem d_LC_use_5 : decode b_LC_use 5 = .ok (.astore 5, 2) := by decide +kernel
theorem d_LC_use_7 : decode b_LC_use 7 = .ok (.iload_n 2, 1) := by decide +kernel
theorem d_LC_use_8 : decode b_LC_use 8 = .ok (.invokestatic 77, 3) := by decide +kernel
theorem d_LC_use_11 : decode b_LC_use 11 = .ok (.iload_n 3, 1) := by decide +kernel
theorem d_LC_use_12 : decode b_LC_use 12 = .ok (.invokestatic 92, 3) := by decide +kernel
theorem d_LC_use_15 : decode b_LC_use 15 = .ok (.iload 4, 2) := by decide +kernel
theorem d_LC_use_17 : decode b_LC_use 17 = .ok (.iconst 1, 1) := by decide +kernel
theorem d_LC_use_18 : decode b_LC_use 18 = .ok (.bipush 99, 2) := by decide +kernel
theorem d_LC_use_20 : decode b_LC_use 20 = .ok (.invokestatic 42, 3) := by decide +kernel
theorem d_LC_use_23 : decode b_LC_use 23 = .ok (.iload_n 2, 1) := by decide +kernel
theorem d_LC_use_24 : decode b_LC_use 24 = .ok (.iload_n 3, 1) := by decide +kernel
theorem d_LC_use_25 : decode b_LC_use 25 = .ok (.invokestatic 101, 3) := by decide +kernel
theorem d_LC_use_28 : decode b_LC_use 28 = .ok (.istore 6, 2) := by decide +kernel
theorem d_LC_use_30 : decode b_LC_use 30 = .ok (.aload 5, 2) := by decide +kernel
theorem d_LC_use_32 : decode b_LC_use 32 = .ok (.iload 6, 2) := by decide +kernel
theorem d_LC_use_34 : decode b_LC_use 34 = .ok (.iload 4, 2) := by decide +kernel
theorem d_LC_use_36 : decode b_LC_use 36 = .ok (.invokestatic 120, 3) := by decide +kernel
theorem d_LC_use_39 : decode b_LC_use 39 = .ok (.aload 5, 2) := by decide +kernel
theorem d_LC_use_41 : decode b_LC_use 41 = .ok (.iload 6, 2) := by decide +kernel
theorem d_LC_use_43 : decode b_LC_use 43 = .ok (.iload 4, 2) := by decide +kernel
theorem d_LC_use_45 : decode b_LC_use 45 = .ok (.ineg, 1) := by decide +kernel
theorem d_LC_use_46 : decode b_LC_use 46 = .ok (.aload_n 0, 1) := by decide +kernel
theorem d_LC_use_47 : decode b_LC_use 47 = .ok (.getfield 9, 3) := by decide +kernel
theorem d_LC_use_50 : decode b_LC_use 50 = .ok (.iload_n 3, 1) := by decide +kernel
theorem d_LC_use_51 : decode b_LC_use 51 = .ok (.iaload, 1) := by decide +kernel
theorem d_LC_use_52 : decode b_LC_use 52 = .ok (.invokevirtual 114, 3) := by decide +kernel
theorem d_LC_use_55 : decode b_LC_use 55 = .ok (.aload 5, 2) := by decide +kernel
theorem d_LC_use_57 : decode b_LC_use 57 = .ok (.getfield 117, 3) := by decide +kernel
theorem d_LC_use_60 : decode b_LC_use 60 = .ok (.iload 6, 2) := by decide +kernel
theorem d_LC_use_62 : decode b_LC_use 62 = .ok (.iaload, 1) := by decide +kernel
theorem d_LC_use_63 : decode b_LC_use 63 = .ok (.ireturn, 1) := by decide +kernel
theorem d_LC_replace_0 : decode b_LC_replace 0 = .ok (.aload_n 0, 1) := by decide +kernel
theorem d_LC_replace_1 : decode b_LC_replace 1 = .ok (.iload_n 1, 1) := by decide +kernel
theorem d_LC_replace_2 : decode b_LC_replace 2 = .ok (.invokevirtual 73, 3) := by decide +kernel
theorem d_LC_replace_5 : decode b_LC_replace 5 = .ok (.astore_n 2, 1) := by decide +kernel
theorem d_LC_replace_6 : decode b_LC_replace 6 = .ok (.aload_n 0, 1) := by decide +kernel
theorem d_LC_replace_7 : decode b_LC_replace 7 = .ok (.getfield 21, 3) := by decide +kernel
theorem d_LC_replace_10 : decode b_LC_replace 10 = .ok (.aload_n 2, 1) := by decide +kernel
theorem d_LC_replace_11 : decode b_LC_replace 11 = .ok (.getfield 61, 3) := by decide +kernel
theorem d_LC_replace_14 : decode b_LC_replace 14 = .ok (.aaload, 1) := by decide +kernel
theorem d_LC_replace_15 : decode b_LC_replace 15 = .ok (.astore_n 3, 1) := by decide +kernel
theorem d_LC_replace_16 : decode b_LC_replace 16 = .ok (.iconst 0, 1) := by decide +kernel
theorem d_LC_replace_17 : decode b_LC_replace 17 = .ok (.istore 4, 2) := by decide +kernel
theorem d_LC_replace_19 : decode b_LC_replace 19 = .ok (.iconst 0, 1) := by decide +kernel
theorem d_LC_replace_20 : decode b_LC_replace 20 = .ok (.istore 5, 2) := by decide +kernel
theorem d_LC_replace_22 : decode b_LC_replace 22 = .ok (.iload 5, 2) := by decide +kernel
theorem d_LC_replace_24 : decode b_LC_replace 24 = .ok (.sipush 240, 3) := by decide +kernel
theorem d_LC_replace_27 : decode b_LC_replace 27 = .ok (.if_icmp .ge 95, 3) := by decide +kernel
theorem d_LC_replace_30 : decode b_LC_replace 30 = .ok (.iload 5, 2) := by decide +kernel
theorem d_LC_replace_32 : decode b_LC_replace 32 = .ok (.bipush 30, 2) := by decide +kernel
theorem d_LC_replace_34 : decode b_LC_replace 34 = .ok (.irem, 1) := by decide +kernel
theorem d_LC_replace_35 : decode b_LC_replace 35 = .ok (.istore 6, 2) := by decide +kernel
theorem d_LC_replace_37 : decode b_LC_replace 37 = .ok (.aload_n 2, 1) := by decide +kernel
theorem d_LC_replace_38 : decode b_LC_replace 38 = .ok (.iload 5, 2) := by decide +kernel
theorem d_LC_replace_40 : decode b_LC_replace 40 = .ok (.aload_n 3, 1) := by decide +kernel
theorem d_LC_replace_41 : decode b_LC_replace 41 = .ok (.iload 5, 2) := by decide +kernel
theorem d_LC_replace_43 : decode b_LC_replace 43 = .ok (.iaload, 1) := by decide +kernel
theorem d_LC_replace_44 : decode b_LC_replace 44 = .ok (.invokevirtual 123, 3) := by decide +kernel
theorem d_LC_replace_47 : decode b_LC_replace 47 = .ok (.aload_n 0, 1) := by decide +kernel
theorem d_LC_replace_48 : decode b_LC_replace 48 = .ok (.getfield 16, 3) := by decide +kernel
theorem d_LC_replace_51 : decode b_LC_replace 51 = .ok (.iload 6, 2) := by decide +kernel
theorem d_LC_replace_53 : decode b_LC_replace 53 = .ok (.iaload, 1) := by decide +kernel
theorem d_LC_replace_54 : decode b_LC_replace 54 = .ok (.invokestatic 126, 3) := by decide +kernel
theorem d_LC_replace_57 : decode b_LC_replace 57 = .ok (.istore 7, 2) := by decide +kernel
theorem d_LC_replace_59 : decode b_LC_replace 59 = .ok (.iload 7, 2) := by decide +kernel
theorem d_LC_replace_61 : decode b_LC_replace 61 = .ok (.ifCond .le 55, 3) := by decide +kernel
theorem d_LC_replace_64 : decode b_LC_replace 64 = .ok (.aload_n 2, 1) := by decide +kernel
theorem d_LC_replace_65 : decode b_LC_replace 65 = .ok (.iload 5, 2) := by decide +kernel
theorem d_LC_replace_67 : decode b_LC_replace 67 = .ok (.iload 7, 2) := by decide +kernel
theorem d_LC_replace_69 : decode b_LC_replace 69 = .ok (.aload_n 0, 1) := by decide +kernel
theorem d_LC_replace_70 : decode b_LC_replace 70 = .ok (.getfield 9, 3) := by decide +kernel
theorem d_LC_replace_73 : decode b_LC_replace 73 = .ok (.iload 6, 2) := by decide +kernel
theorem d_LC_replace_75 : decode b_LC_replace 75 = .ok (.iaload, 1) := by decide +kernel
theorem d_LC_replace_76 : decode b_LC_replace 76 = .ok (.invokevirtual 131, 3) := by decide +kernel
theorem d_LC_replace_79 : decode b_LC_replace 79 = .ok (.ifCond .eq 37, 3) := by decide +kernel
theorem d_LC_replace_82 : decode b_LC_replace 82 = .ok (.aload_n 2, 1) := by decide +kernel
theorem d_LC_replace_83 : decode b_LC_replace 83 = .ok (.iload 5, 2) := by decide +kernel
theorem d_LC_replace_85 : decode b_LC_replace 85 = .ok (.iload 7, 2) := by decide +kernel
theorem d_LC_replace_87 : decode b_LC_replace 87 = .ok (.aload_n 0, 1) := by decide +kernel
theorem d_LC_replace_88 : decode b_LC_replace 88 = .ok (.getfield 9, 3) := by decide +kernel
theorem d_LC_replace_91 : decode b_LC_replace 91 = .ok (.iload 6, 2) := by decide +kernel
theorem d_LC_replace_93 : decode b_LC_replace 93 = .ok (.iaload, 1) := by decide +kernel
theorem d_LC_replace_94 : decode b_LC_replace 94 = .ok (.invokevirtual 114, 3) := by decide +kernel
theorem d_LC_replace_97 : decode b_LC_replace 97 = .ok (.aload_n 0, 1) := by decide +kernel
theorem d_LC_replace_98 : decode b_LC_replace 98 = .ok (.getfield 16, 3) := by decide +kernel
theorem d_LC_replace_101 : decode b_LC_replace 101 = .ok (.iload 6, 2) := by decide +kernel
theorem d_LC_replace_103 : decode b_LC_replace 103 = .ok (.dup2, 1) := by decide +kernel
theorem d_LC_replace_104 : decode b_LC_replace 104 = .ok (.iaload, 1) := by decide +kernel
theorem d_LC_replace_105 : decode b_LC_replace 105 = .ok (.iload 7, 2) := by decide +kernel
theorem d_LC_replace_107 : decode b_LC_replace 107 = .ok (.isub, 1) := by decide +kernel
theorem d_LC_replace_108 : decode b_LC_replace 108 = .ok (.iastore, 1) := by decide +kernel
theorem d_LC_replace_109 : decode b_LC_replace 109 = .ok (.iload 4, 2) := by decide +kernel
theorem d_LC_replace_111 : decode b_LC_replace 111 = .ok (.iload 7, 2) := by decide +kernel
theorem d_LC_replace_113 : decode b_LC_replace 113 = .ok (.iadd, 1) := by decide +kernel
theorem d_LC_replace_114 : decode b_LC_replace 114 = .ok (.istore 4, 2) := by decide +kernel
theorem d_LC_replace_116 : decode b_LC_replace 116 = .ok (.iinc 5 1, 3) := by decide +kernel
theorem d_LC_replace_119 : decode b_LC_replace 119 = .ok (.goto (-97), 3) := by decide +kernel
theorem d_LC_replace_122 : decode b_LC_replace 122 = .ok (.iload 4, 2) := by decide +kernel
theorem d_LC_replace_124 : decode b_LC_replace 124 = .ok (.ireturn, 1) := by decide +kernel
theorem d_LC_swap_0 : decode b_LC_swap 0 = .ok (.aload_n 0, 1) := by decide +kernel
theorem d_LC_swap_1 : decode b_LC_swap 1 = .ok (.iload_n 1, 1) := by decide +kernel
theorem d_LC_swap_2 : decode b_LC_swap 2 = .ok (.invokevirtual 73, 3) := by decide +kernel
theorem d_LC_swap_5 : decode b_LC_swap 5 = .ok (.astore 6, 2) := by decide +kernel
theorem d_LC_swap_7 : decode b_LC_swap 7 = .ok (.aload_n 0, 1) := by decide +kernel
theorem d_LC_swap_8 : decode b_LC_swap 8 = .ok (.iload_n 2, 1) := by decide +kernel
theorem d_LC_swap_9 : decode b_LC_swap 9 = .ok (.invokevirtual 73, 3) := by decide +kernel
theorem d_LC_swap_12 : decode b_LC_swap 12 = .ok (.astore 7, 2) := by decide +kernel
theorem d_LC_swap_14 : decode b_LC_swap 14 = .ok (.iload_n 1, 1) := by decide +kernel
theorem d_LC_swap_15 : decode b_LC_swap 15 = .ok (.iload_n 2, 1) := by decide +kernel
theorem d_LC_swap_16 : decode b_LC_swap 16 = .ok (.if_icmp .ne 13, 3) := by decide +kernel
theorem d_LC_swap_19 : decode b_LC_swap 19 = .ok (.new 135, 3) := by decide +kernel
theorem d_LC_swap_22 : decode b_LC_swap 22 = .ok (.dup, 1) := by decide +kernel
theorem d_LC_swap_23 : decode b_LC_swap 23 = .ok (.ldc 137, 2) := by decide +kernel
theorem d_LC_swap_25 : decode b_LC_swap 25 = .ok (.invokespecial 139, 3) := by decide +kernel
theorem d_LC_swap_28 : decode b_LC_swap 28 = .ok (.athrow, 1) := by decide +kernel
theorem d_LC_swap_29 : decode b_LC_swap 29 = .ok (.iload_n 3, 1) := by decide +kernel
theorem d_LC_swap_30 : decode b_LC_swap 30 = .ok (.invokestatic 77, 3) := by decide +kernel
theorem d_LC_swap_33 : decode b_LC_swap 33 = .ok (.iload 4, 2) := by decide +kernel
theorem d_LC_swap_35 : decode b_LC_swap 35 = .ok (.invokestatic 92, 3) := by decide +kernel
theorem d_LC_swap_38 : decode b_LC_swap 38 = .ok (.iload 5, 2) := by decide +kernel
theorem d_LC_swap_40 : decode b_LC_swap 40 = .ok (.iconst 1, 1) := by decide +kernel
theorem d_LC_swap_41 : decode b_LC_swap 41 = .ok (.bipush 99, 2) := by decide +kernel
theorem d_LC_swap_43 : decode b_LC_swap 43 = .ok (.invokestatic 42, 3) := by decide +kernel
theorem d_LC_swap_46 : decode b_LC_swap 46 = .ok (.iload_n 3, 1) := by decide +kernel
theorem d_LC_swap_47 : decode b_LC_swap 47 = .ok (.iload 4, 2) := by decide +kernel
theorem d_LC_swap_49 : decode b_LC_swap 49 = .ok (.invokestatic 101, 3) := by decide +kernel
theorem d_LC_swap_52 : decode b_LC_swap 52 = .ok (.istore 8, 2) := by decide +kernel
theorem d_LC_swap_54 : decode b_LC_swap 54 = .ok (.aload 6, 2) := by decide +kernel
theorem d_LC_swap_56 : decode b_LC_swap 56 = .ok (.iload 8, 2) := by decide +kernel
theorem d_LC_swap_58 : decode b_LC_swap 58 = .ok (.iload 5, 2) := by decide +kernel
theorem d_LC_swap_60 : decode b_LC_swap 60 = .ok (.invokestatic 120, 3) := by decide +kernel
theorem d_LC_swap_63 : decode b_LC_swap 63 = .ok (.aload_n 0, 1) := by decide +kernel
theorem d_LC_swap_64 : decode b_LC_swap 64 = .ok (.aload 7, 2) := by decide +kernel
theorem d_LC_swap_66 : decode b_LC_swap 66 = .ok (.iload 8, 2) := by decide +kernel
theorem d_LC_swap_68 : decode b_LC_swap 68 = .ok (.iload 5, 2) := by decide +kernel
theorem d_LC_swap_70 : decode b_LC_swap 70 = .ok (.invokevirtual 107, 3) := by decide +kernel
theorem d_LC_swap_73 : decode b_LC_swap 73 = .ok (.aload 7, 2) := by decide +kernel
theorem d_LC_swap_75 : decode b_LC_swap 75 = .ok (.iload 8, 2) := by decide +kernel
theorem d_LC_swap_77 : decode b_LC_swap 77 = .ok (.iload 5, 2) := by decide +kernel
theorem d_LC_swap_79 : decode b_LC_swap 79 = .ok (.invokestatic 111, 3) := by decide +kernel
theorem d_LC_swap_82 : decode b_LC_swap 82 = .ok (.aload 6, 2) := by decide +kernel
theorem d_LC_swap_84 : decode b_LC_swap 84 = .ok (.iload 8, 2) := by decide +kernel
theorem d_LC_swap_86 : decode b_LC_swap 86 = .ok (.iload 5, 2) := by decide +kernel
theorem d_LC_swap_88 : decode b_LC_swap 88 = .ok (.ineg, 1) := by decide +kernel
theorem d_LC_swap_89 : decode b_LC_swap 89 = .ok (.aload_n 0, 1) := by decide +kernel
theorem d_LC_swap_90 : decode b_LC_swap 90 = .ok (.getfield 9, 3) := by decide +kernel
theorem d_LC_swap_93 : decode b_LC_swap 93 = .ok (.iload 4, 2) := by decide +kernel
theorem d_LC_swap_95 : decode b_LC_swap 95 = .ok (.iaload, 1) := by decide +kernel
theorem d_LC_swap_96 : decode b_LC_swap 96 = .ok (.invokevirtual 114, 3) := by decide +kernel
theorem d_LC_swap_99 : decode b_LC_swap 99 = .ok (.aload 7, 2) := by decide +kernel
theorem d_LC_swap_101 : decode b_LC_swap 101 = .ok (.iload 8, 2) := by decide +kernel
theorem d_LC_swap_103 : decode b_LC_swap 103 = .ok (.iload 5, 2) := by decide +kernel
theorem d_LC_swap_105 : decode b_LC_swap 105 = .ok (.aload_n 0, 1) := by decide +kernel
theorem d_LC_swap_106 : decode b_LC_swap 106 = .ok (.getfield 9, 3) := by decide +kernel
theorem d_LC_swap_109 : decode b_LC_swap 109 = .ok (.iload 4, 2) := by decide +kernel
theorem d_LC_swap_111 : decode b_LC_swap 111 = .ok (.iaload, 1) := by decide +kernel
theorem d_LC_swap_112 : decode b_LC_swap 112 = .ok (.invokevirtual 114, 3) := by decide +kernel
theorem d_LC_swap_115 : decode b_LC_swap 115 = .ok (.aload_n 0, 1) := by decide +kernel
theorem d_LC_swap_116 : decode b_LC_swap 116 = .ok (.getfield 33, 3) := by decide +kernel
theorem d_LC_swap_119 : decode b_LC_swap 119 = .ok (.iload_n 1, 1) := by decide +kernel
theorem d_LC_swap_120 : decode b_LC_swap 120 = .ok (.iload 4, 2) := by decide +kernel
theorem d_LC_swap_122 : decode b_LC_swap 122 = .ok (.iload 5, 2) := by decide +kernel
theorem d_LC_swap_124 : decode b_LC_swap 124 = .ok (.ineg, 1) := by decide +kernel
theorem d_LC_swap_125 : decode b_LC_swap 125 = .ok (.invokevirtual 140, 3) := by decide +kernel
theorem d_LC_swap_128 : decode b_LC_swap 128 = .ok (.aload_n 0, 1) := by decide +kernel
theorem d_LC_swap_129 : decode b_LC_swap 129 = .ok (.getfield 33, 3) := by decide +kernel
theorem d_LC_swap_132 : decode b_LC_swap 132 = .ok (.iload_n 2, 1) := by decide +kernel
theorem d_LC_swap_133 : decode b_LC_swap 133 = .ok (.iload 4, 2) := by decide +kernel
theorem d_LC_swap_135 : decode b_LC_swap 135 = .ok (.iload 5, 2) := by decide +kernel
theorem d_LC_swap_137 : decode b_LC_swap 137 = .ok (.invokevirtual 140, 3) := by decide +kernel
theorem d_LC_swap_140 : decode b_LC_swap 140 = .ok (.return_, 1) := by decide +kernel
theorem d_LC_ends_0 : decode b_LC_ends 0 = .ok (.aload_n 0, 1) := by decide +kernel
theorem d_LC_ends_1 : decode b_LC_ends 1 = .ok (.iload_n 1, 1) := by decide +kernel
theorem d_LC_ends_2 : decode b_LC_ends 2 = .ok (.invokevirtual 73, 3) := by decide +kernel
theorem d_LC_ends_5 : decode b_LC_ends 5 = .ok (.astore 4, 2) := by decide +kernel
theorem d_LC_ends_7 : decode b_LC_ends 7 = .ok (.iload_n 2, 1) := by decide +kernel
theorem d_LC_ends_8 : decode b_LC_ends 8 = .ok (.invokestatic 92, 3) := by decide +kernel
theorem d_LC_ends_11 : decode b_LC_ends 11 = .ok (.iload_n 3, 1) := by decide +kernel
theorem d_LC_ends_12 : decode b_LC_ends 12 = .ok (.iconst (-1), 1) := by decide +kernel
theorem d_LC_ends_13 : decode b_LC_ends 13 = .ok (.sipush 9999, 3) := by decide +kernel
theorem d_LC_ends_16 : decode b_LC_ends 16 = .ok (.invokestatic 42, 3) := by decide +kernel
theorem d_LC_ends_19 : decode b_LC_ends 19 = .ok (.aload 4, 2) := by decide +kernel
theorem d_LC_ends_21 : decode b_LC_ends 21 = .ok (.getfield 143, 3) := by decide +kernel
theorem d_LC_ends_24 : decode b_LC_ends 24 = .ok (.iload_n 2, 1) := by decide +kernel
theorem d_LC_ends_25 : decode b_LC_ends 25 = .ok (.iload_n 3, 1) := by decide +kernel
theorem d_LC_ends_26 : decode b_LC_ends 26 = .ok (.iastore, 1) := by decide +kernel
theorem d_LC_ends_27 : decode b_LC_ends 27 = .ok (.return_, 1) := by decide +kernel
theorem d_LC_battery_0 : decode b_LC_battery 0 = .ok (.aload_n 0, 1) := by decide +kernel
theorem d_LC_battery_1 : decode b_LC_battery 1 = .ok (.iload_n 1, 1) := by decide +kernel
theorem d_LC_battery_2 : decode b_LC_battery 2 = .ok (.invokevirtual 73, 3) := by decide +kernel
theorem d_LC_battery_5 : decode b_LC_battery 5 = .ok (.astore 4, 2) := by decide +kernel
theorem d_LC_battery_7 : decode b_LC_battery 7 = .ok (.iload_n 2, 1) := by decide +kernel
theorem d_LC_battery_8 : decode b_LC_battery 8 = .ok (.invokestatic 92, 3) := by decide +kernel
theorem d_LC_battery_11 : decode b_LC_battery 11 = .ok (.iload_n 3, 1) := by decide +kernel
theorem d_LC_battery_12 : decode b_LC_battery 12 = .ok (.iconst 0, 1) := by decide +kernel
theorem d_LC_battery_13 : decode b_LC_battery 13 = .ok (.bipush 100, 2) := by decide +kernel
theorem d_LC_battery_15 : decode b_LC_battery 15 = .ok (.invokestatic 42, 3) := by decide +kernel
theorem d_LC_battery_18 : decode b_LC_battery 18 = .ok (.aload 4, 2) := by decide +kernel
theorem d_LC_battery_20 : decode b_LC_battery 20 = .ok (.getfield 146, 3) := by decide +kernel
theorem d_LC_battery_23 : decode b_LC_battery 23 = .ok (.iload_n 2, 1) := by decide +kernel
theorem d_LC_battery_24 : decode b_LC_battery 24 = .ok (.iload_n 3, 1) := by decide +kernel
theorem d_LC_battery_25 : decode b_LC_battery 25 = .ok (.iastore, 1) := by decide +kernel
theorem d_LC_battery_26 : decode b_LC_battery 26 = .ok (.return_, 1) := by decide +kernel
theorem d_LC_seal_0 : decode b_LC_seal 0 = .ok (.aload_n 0, 1) := by decide +kernel
theorem d_LC_seal_1 : decode b_LC_seal 1 = .ok (.iload_n 1, 1) := by decide +kernel
theorem d_LC_seal_2 : decode b_LC_seal 2 = .ok (.invokevirtual 73, 3) := by decide +kernel
theorem d_LC_seal_5 : decode b_LC_seal 5 = .ok (.astore 4, 2) := by decide +kernel
theorem d_LC_seal_7 : decode b_LC_seal 7 = .ok (.iload_n 2, 1) := by decide +kernel
theorem d_LC_seal_8 : decode b_LC_seal 8 = .ok (.invokestatic 77, 3) := by decide +kernel
theorem d_LC_seal_11 : decode b_LC_seal 11 = .ok (.iload_n 3, 1) := by decide +kernel
theorem d_LC_seal_12 : decode b_LC_seal 12 = .ok (.ifCond .ne 7, 3) := by decide +kernel
theorem d_LC_seal_15 : decode b_LC_seal 15 = .ok (.iconst 1, 1) := by decide +kernel
theorem d_LC_seal_16 : decode b_LC_seal 16 = .ok (.goto 4, 3) := by decide +kernel
theorem d_LC_seal_19 : decode b_LC_seal 19 = .ok (.iconst 0, 1) := by decide +kernel
theorem d_LC_seal_20 : decode b_LC_seal 20 = .ok (.istore 5, 2) := by decide +kernel
theorem d_LC_seal_22 : decode b_LC_seal 22 = .ok (.aload 4, 2) := by decide +kernel
theorem d_LC_seal_24 : decode b_LC_seal 24 = .ok (.getfield 149, 3) := by decide +kernel
theorem d_LC_seal_27 : decode b_LC_seal 27 = .ok (.iload_n 2, 1) := by decide +kernel
theorem d_LC_seal_28 : decode b_LC_seal 28 = .ok (.baload, 1) := by decide +kernel
theorem d_LC_seal_29 : decode b_LC_seal 29 = .ok (.iload 5, 2) := by decide +kernel
theorem d_LC_seal_31 : decode b_LC_seal 31 = .ok (.if_icmp .ne 13, 3) := by decide +kernel
theorem d_LC_seal_34 : decode b_LC_seal 34 = .ok (.new 84, 3) := by decide +kernel
theorem d_LC_seal_37 : decode b_LC_seal 37 = .ok (.dup, 1) := by decide +kernel
theorem d_LC_seal_38 : decode b_LC_seal 38 = .ok (.ldc 153, 2) := by decide +kernel
theorem d_LC_seal_40 : decode b_LC_seal 40 = .ok (.invokespecial 88, 3) := by decide +kernel
theorem d_LC_seal_43 : decode b_LC_seal 43 = .ok (.athrow, 1) := by decide +kernel
theorem d_LC_seal_44 : decode b_LC_seal 44 = .ok (.aload 4, 2) := by decide +kernel
theorem d_LC_seal_46 : decode b_LC_seal 46 = .ok (.getfield 149, 3) := by decide +kernel
theorem d_LC_seal_49 : decode b_LC_seal 49 = .ok (.iload_n 2, 1) := by decide +kernel
theorem d_LC_seal_50 : decode b_LC_seal 50 = .ok (.iload 5, 2) := by decide +kernel
theorem d_LC_seal_52 : decode b_LC_seal 52 = .ok (.bastore, 1) := by decide +kernel
theorem d_LC_seal_53 : decode b_LC_seal 53 = .ok (.return_, 1) := by decide +kernel
theorem d_LC_check_0 : decode b_LC_check 0 = .ok (.aload_n 0, 1) := by decide +kernel
theorem d_LC_check_1 : decode b_LC_check 1 = .ok (.iload_n 1, 1) := by decide +kernel
theorem d_LC_check_2 : decode b_LC_check 2 = .ok (.invokevirtual 73, 3) := by decide +kernel
theorem d_LC_check_5 : decode b_LC_check 5 = .ok (.astore_n 2, 1) := by decide +kernel
theorem d_LC_check_6 : decode b_LC_check 6 = .ok (.aload_n 2, 1) := by decide +kernel
theorem d_LC_check_7 : decode b_LC_check 7 = .ok (.aload_n 0, 1) := by decide +kernel
theorem d_LC_check_8 : decode b_LC_check 8 = .ok (.getfield 155, 3) := by decide +kernel
theorem d_LC_check_11 : decode b_LC_check 11 = .ok (.putfield 158, 3) := by decide +kernel
theorem d_LC_check_14 : decode b_LC_check 14 = .ok (.aload_n 2, 1) := by decide +kernel
theorem d_LC_check_15 : decode b_LC_check 15 = .ok (.aload_n 0, 1) := by decide +kernel
theorem d_LC_check_16 : decode b_LC_check 16 = .ok (.getfield 161, 3) := by decide +kernel
theorem d_LC_check_19 : decode b_LC_check 19 = .ok (.putfield 164, 3) := by decide +kernel
theorem d_LC_check_22 : decode b_LC_check 22 = .ok (.return_, 1) := by decide +kernel
theorem d_LC_now_0 : decode b_LC_now 0 = .ok (.iload_n 1, 1) := by decide +kernel
theorem d_LC_now_1 : decode b_LC_now 1 = .ok (.aload_n 0, 1) := by decide +kernel
theorem d_LC_now_2 : decode b_LC_now 2 = .ok (.getfield 155, 3) := by decide +kernel
theorem d_LC_now_5 : decode b_LC_now 5 = .ok (.sipush 9999, 3) := by decide +kernel
theorem d_LC_now_8 : decode b_LC_now 8 = .ok (.invokestatic 42, 3) := by decide +kernel
theorem d_LC_now_11 : decode b_LC_now 11 = .ok (.iload_n 1, 1) := by decide +kernel
theorem d_LC_now_12 : decode b_LC_now 12 = .ok (.aload_n 0, 1) := by decide +kernel
theorem d_LC_now_13 : decode b_LC_now 13 = .ok (.getfield 155, 3) := by decide +kernel
theorem d_LC_now_16 : decode b_LC_now 16 = .ok (.if_icmp .ne 10, 3) := by decide +kernel
theorem d_LC_now_19 : decode b_LC_now 19 = .ok (.aload_n 0, 1) := by decide +kernel
theorem d_LC_now_20 : decode b_LC_now 20 = .ok (.getfield 161, 3) := by decide +kernel
theorem d_LC_now_23 : decode b_LC_now 23 = .ok (.goto 4, 3) := by decide +kernel
theorem d_LC_now_26 : decode b_LC_now 26 = .ok (.iconst 0, 1) := by decide +kernel
theorem d_LC_now_27 : decode b_LC_now 27 = .ok (.istore_n 3, 1) := by decide +kernel
theorem d_LC_now_28 : decode b_LC_now 28 = .ok (.iload_n 2, 1) := by decide +kernel
theorem d_LC_now_29 : decode b_LC_now 29 = .ok (.iload_n 3, 1) := by decide +kernel
theorem d_LC_now_30 : decode b_LC_now 30 = .ok (.iconst 2, 1) := by decide +kernel
theorem d_LC_now_31 : decode b_LC_now 31 = .ok (.invokestatic 42, 3) := by decide +kernel
theorem d_LC_now_34 : decode b_LC_now 34 = .ok (.aload_n 0, 1) := by decide +kernel
theorem d_LC_now_35 : decode b_LC_now 35 = .ok (.iload_n 1, 1) := by decide +kernel
theorem d_LC_now_36 : decode b_LC_now 36 = .ok (.putfield 155, 3) := by decide +kernel
theorem d_LC_now_39 : decode b_LC_now 39 = .ok (.aload_n 0, 1) := by decide +kernel
theorem d_LC_now_40 : decode b_LC_now 40 = .ok (.iload_n 2, 1) := by decide +kernel
theorem d_LC_now_41 : decode b_LC_now 41 = .ok (.putfield 161, 3) := by decide +kernel
theorem d_LC_now_44 : decode b_LC_now 44 = .ok (.return_, 1) := by decide +kernel
theorem d_LC_ready_0 : decode b_LC_ready 0 = .ok (.aload_n 0, 1) := by decide +kernel
theorem d_LC_ready_1 : decode b_LC_ready 1 = .ok (.iload_n 1, 1) := by decide +kernel
theorem d_LC_ready_2 : decode b_LC_ready 2 = .ok (.invokevirtual 73, 3) := by decide +kernel
theorem d_LC_ready_5 : decode b_LC_ready 5 = .ok (.astore_n 2, 1) := by decide +kernel
theorem d_LC_ready_6 : decode b_LC_ready 6 = .ok (.aload_n 0, 1) := by decide +kernel
theorem d_LC_ready_7 : decode b_LC_ready 7 = .ok (.getfield 21, 3) := by decide +kernel
theorem d_LC_ready_10 : decode b_LC_ready 10 = .ok (.aload_n 2, 1) := by decide +kernel
theorem d_LC_ready_11 : decode b_LC_ready 11 = .ok (.getfield 61, 3) := by decide +kernel
theorem d_LC_ready_14 : decode b_LC_ready 14 = .ok (.aaload, 1) := by decide +kernel
theorem d_LC_ready_15 : decode b_LC_ready 15 = .ok (.astore_n 3, 1) := by decide +kernel
theorem d_LC_ready_16 : decode b_LC_ready 16 = .ok (.aload_n 2, 1) := by decide +kernel
theorem d_LC_ready_17 : decode b_LC_ready 17 = .ok (.getfield 158, 3) := by decide +kernel
theorem d_LC_ready_20 : decode b_LC_ready 20 = .ok (.aload_n 0, 1) := by decide +kernel
theorem d_LC_ready_21 : decode b_LC_ready 21 = .ok (.getfield 155, 3) := by decide +kernel
theorem d_LC_ready_24 : decode b_LC_ready 24 = .ok (.if_icmp .ne 14, 3) := by decide +kernel
theorem d_LC_ready_27 : decode b_LC_ready 27 = .ok (.aload_n 2, 1) := by decide +kernel
theorem d_LC_ready_28 : decode b_LC_ready 28 = .ok (.getfield 164, 3) := by decide +kernel
theorem d_LC_ready_31 : decode b_LC_ready 31 = .ok (.aload_n 0, 1) := by decide +kernel
theorem d_LC_ready_32 : decode b_LC_ready 32 = .ok (.getfield 161, 3) := by decide +kernel
theorem d_LC_ready_35 : decode b_LC_ready 35 = .ok (.if_icmp .eq 5, 3) := by decide +kernel
theorem d_LC_ready_38 : decode b_LC_ready 38 = .ok (.iconst 1, 1) := by decide +kernel
theorem d_LC_ready_39 : decode b_LC_ready 39 = .ok (.ireturn, 1) := by decide +kernel
theorem d_LC_ready_40 : decode b_LC_ready 40 = .ok (.aload_n 2, 1) := by decide +kernel
theorem d_LC_ready_41 : decode b_LC_ready 41 = .ok (.aload_n 3, 1) := by decide +kernel
theorem d_LC_ready_42 : decode b_LC_ready 42 = .ok (.iconst 0, 1) := by decide +kernel
theorem d_LC_ready_43 : decode b_LC_ready 43 = .ok (.invokevirtual 167, 3) := by decide +kernel
theorem d_LC_ready_46 : decode b_LC_ready 46 = .ok (.iconst (-1), 1) := by decide +kernel
theorem d_LC_ready_47 : decode b_LC_ready 47 = .ok (.if_icmp .eq 5, 3) := by decide +kernel
theorem d_LC_ready_50 : decode b_LC_ready 50 = .ok (.iconst 2, 1) := by decide +kernel
theorem d_LC_ready_51 : decode b_LC_ready 51 = .ok (.ireturn, 1) := by decide +kernel
theorem d_LC_ready_52 : decode b_LC_ready 52 = .ok (.aload_n 2, 1) := by decide +kernel
theorem d_LC_ready_53 : decode b_LC_ready 53 = .ok (.invokevirtual 171, 3) := by decide +kernel
theorem d_LC_ready_56 : decode b_LC_ready 56 = .ok (.ifCond .eq 5, 3) := by decide +kernel
theorem d_LC_ready_59 : decode b_LC_ready 59 = .ok (.iconst 3, 1) := by decide +kernel
theorem d_LC_ready_60 : decode b_LC_ready 60 = .ok (.ireturn, 1) := by decide +kernel
theorem d_LC_ready_61 : decode b_LC_ready 61 = .ok (.aload_n 2, 1) := by decide +kernel
theorem d_LC_ready_62 : decode b_LC_ready 62 = .ok (.aload_n 3, 1) := by decide +kernel
theorem d_LC_ready_63 : decode b_LC_ready 63 = .ok (.aload_n 0, 1) := by decide +kernel
theorem d_LC_ready_64 : decode b_LC_ready 64 = .ok (.getfield 155, 3) := by decide +kernel
theorem d_LC_ready_67 : decode b_LC_ready 67 = .ok (.invokevirtual 175, 3) := by decide +kernel
theorem d_LC_ready_70 : decode b_LC_ready 70 = .ok (.ifCond .eq 5, 3) := by decide +kernel
theorem d_LC_ready_73 : decode b_LC_ready 73 = .ok (.iconst 4, 1) := by decide +kernel
theorem d_LC_ready_74 : decode b_LC_ready 74 = .ok (.ireturn, 1) := by decide +kernel
theorem d_LC_ready_75 : decode b_LC_ready 75 = .ok (.aload_n 2, 1) := by decide +kernel
theorem d_LC_ready_76 : decode b_LC_ready 76 = .ok (.aload_n 3, 1) := by decide +kernel
theorem d_LC_ready_77 : decode b_LC_ready 77 = .ok (.aload_n 0, 1) := by decide +kernel
theorem d_LC_ready_78 : decode b_LC_ready 78 = .ok (.getfield 13, 3) := by decide +kernel
theorem d_LC_ready_81 : decode b_LC_ready 81 = .ok (.invokevirtual 179, 3) := by decide +kernel
theorem d_LC_ready_84 : decode b_LC_ready 84 = .ok (.ifCond .eq 5, 3) := by decide +kernel
theorem d_LC_ready_87 : decode b_LC_ready 87 = .ok (.iconst 5, 1) := by decide +kernel
theorem d_LC_ready_88 : decode b_LC_ready 88 = .ok (.ireturn, 1) := by decide +kernel
theorem d_LC_ready_89 : decode b_LC_ready 89 = .ok (.aload_n 2, 1) := by decide +kernel
theorem d_LC_ready_90 : decode b_LC_ready 90 = .ok (.invokevirtual 183, 3) := by decide +kernel
theorem d_LC_ready_93 : decode b_LC_ready 93 = .ok (.ifCond .eq 8, 3) := by decide +kernel
theorem d_LC_ready_96 : decode b_LC_ready 96 = .ok (.bipush 6, 2) := by decide +kernel
theorem d_LC_ready_98 : decode b_LC_ready 98 = .ok (.goto 4, 3) := by decide +kernel
theorem d_LC_ready_101 : decode b_LC_ready 101 = .ok (.iconst 0, 1) := by decide +kernel
theorem d_LC_ready_102 : decode b_LC_ready 102 = .ok (.ireturn, 1) := by decide +kernel
theorem d_LC_missing_0 : decode b_LC_missing 0 = .ok (.aload_n 0, 1) := by decide +kernel
theorem d_LC_missing_1 : decode b_LC_missing 1 = .ok (.iload_n 1, 1) := by decide +kernel
theorem d_LC_missing_2 : decode b_LC_missing 2 = .ok (.invokevirtual 73, 3) := by decide +kernel
theorem d_LC_missing_5 : decode b_LC_missing 5 = .ok (.astore_n 3, 1) := by decide +kernel
theorem d_LC_missing_6 : decode b_LC_missing 6 = .ok (.iload_n 2, 1) := by decide +kernel
theorem d_LC_missing_7 : decode b_LC_missing 7 = .ok (.ifCond .ge 13, 3) := by decide +kernel
theorem d_LC_missing_10 : decode b_LC_missing 10 = .ok (.new 186, 3) := by decide +kernel
theorem d_LC_missing_13 : decode b_LC_missing 13 = .ok (.dup, 1) := by decide +kernel
theorem d_LC_missing_14 : decode b_LC_missing 14 = .ok (.ldc 188, 2) := by decide +kernel
theorem d_LC_missing_16 : decode b_LC_missing 16 = .ok (.invokespecial 190, 3) := by decide +kernel
theorem d_LC_missing_19 : decode b_LC_missing 19 = .ok (.athrow, 1) := by decide +kernel
theorem d_LC_missing_20 : decode b_LC_missing 20 = .ok (.aload_n 0, 1) := by decide +kernel
theorem d_LC_missing_21 : decode b_LC_missing 21 = .ok (.getfield 21, 3) := by decide +kernel
theorem d_LC_missing_24 : decode b_LC_missing 24 = .ok (.aload_n 3, 1) := by decide +kernel
theorem d_LC_missing_25 : decode b_LC_missing 25 = .ok (.getfield 61, 3) := by decide +kernel
theorem d_LC_missing_28 : decode b_LC_missing 28 = .ok (.aaload, 1) := by decide +kernel
theorem d_LC_missing_29 : decode b_LC_missing 29 = .ok (.astore 4, 2) := by decide +kernel
theorem d_LC_missing_31 : decode b_LC_missing 31 = .ok (.aload_n 3, 1) := by decide +kernel
theorem d_LC_missing_32 : decode b_LC_missing 32 = .ok (.aload 4, 2) := by decide +kernel
theorem d_LC_missing_34 : decode b_LC_missing 34 = .ok (.iload_n 2, 1) := by decide +kernel
theorem d_LC_missing_35 : decode b_LC_missing 35 = .ok (.invokevirtual 167, 3) := by decide +kernel
theorem d_LC_missing_38 : decode b_LC_missing 38 = .ok (.istore 5, 2) := by decide +kernel
theorem d_LC_missing_40 : decode b_LC_missing 40 = .ok (.iload 5, 2) := by decide +kernel
theorem d_LC_missing_42 : decode b_LC_missing 42 = .ok (.ifCond .lt 11, 3) := by decide +kernel
theorem d_LC_missing_45 : decode b_LC_missing 45 = .ok (.iload 5, 2) := by decide +kernel
theorem d_LC_missing_47 : decode b_LC_missing 47 = .ok (.sipush 240, 3) := by decide +kernel
theorem d_LC_missing_50 : decode b_LC_missing 50 = .ok (.if_icmp .lt 5, 3) := by decide +kernel
theorem d_LC_missing_53 : decode b_LC_missing 53 = .ok (.iconst (-1), 1) := by decide +kernel
theorem d_LC_missing_54 : decode b_LC_missing 54 = .ok (.ireturn, 1) := by decide +kernel
theorem d_LC_missing_55 : decode b_LC_missing 55 = .ok (.sipush 10000, 3) := by decide +kernel
theorem d_LC_missing_58 : decode b_LC_missing 58 = .ok (.iload 5, 2) := by decide +kernel
theorem d_LC_missing_60 : decode b_LC_missing 60 = .ok (.bipush 30, 2) := by decide +kernel
theorem d_LC_missing_62 : decode b_LC_missing 62 = .ok (.idiv, 1) := by decide +kernel
theorem d_LC_missing_63 : decode b_LC_missing 63 = .ok (.imul, 1) := by decide +kernel
theorem d_LC_missing_64 : decode b_LC_missing 64 = .ok (.bipush 100, 2) := by decide +kernel
theorem d_LC_missing_66 : decode b_LC_missing 66 = .ok (.iload 5, 2) := by decide +kernel
theorem d_LC_missing_68 : decode b_LC_missing 68 = .ok (.bipush 30, 2) := by decide +kernel
theorem d_LC_missing_70 : decode b_LC_missing 70 = .ok (.irem, 1) := by decide +kernel
theorem d_LC_missing_71 : decode b_LC_missing 71 = .ok (.imul, 1) := by decide +kernel
theorem d_LC_missing_72 : decode b_LC_missing 72 = .ok (.iadd, 1) := by decide +kernel
theorem d_LC_missing_73 : decode b_LC_missing 73 = .ok (.aload_n 3, 1) := by decide +kernel
theorem d_LC_missing_74 : decode b_LC_missing 74 = .ok (.iload 5, 2) := by decide +kernel
theorem d_LC_missing_76 : decode b_LC_missing 76 = .ok (.aload 4, 2) := by decide +kernel
theorem d_LC_missing_78 : decode b_LC_missing 78 = .ok (.iload 5, 2) := by decide +kernel
theorem d_LC_missing_80 : decode b_LC_missing 80 = .ok (.iaload, 1) := by decide +kernel
theorem d_LC_missing_81 : decode b_LC_missing 81 = .ok (.invokevirtual 123, 3) := by decide +kernel
theorem d_LC_missing_84 : decode b_LC_missing 84 = .ok (.iadd, 1) := by decide +kernel
theorem d_LC_missing_85 : decode b_LC_missing 85 = .ok (.ireturn, 1) := by decide +kernel
theorem d_LC_share_0 : decode b_LC_share 0 = .ok (.aload_n 0, 1) := by decide +kernel
theorem d_LC_share_1 : decode b_LC_share 1 = .ok (.iload_n 1, 1) := by decide +kernel
theorem d_LC_share_2 : decode b_LC_share 2 = .ok (.invokevirtual 73, 3) := by decide +kernel
theorem d_LC_share_5 : decode b_LC_share 5 = .ok (.astore_n 2, 1) := by decide +kernel
theorem d_LC_share_6 : decode b_LC_share 6 = .ok (.aload_n 0, 1) := by decide +kernel
theorem d_LC_share_7 : decode b_LC_share 7 = .ok (.getfield 21, 3) := by decide +kernel
theorem d_LC_share_10 : decode b_LC_share 10 = .ok (.aload_n 2, 1) := by decide +kernel
theorem d_LC_share_11 : decode b_LC_share 11 = .ok (.getfield 61, 3) := by decide +kernel
theorem d_LC_share_14 : decode b_LC_share 14 = .ok (.aaload, 1) := by decide +kernel
theorem d_LC_share_15 : decode b_LC_share 15 = .ok (.astore_n 3, 1) := by decide +kernel
theorem d_LC_share_16 : decode b_LC_share 16 = .ok (.iconst 0, 1) := by decide +kernel
theorem d_LC_share_17 : decode b_LC_share 17 = .ok (.istore 4, 2) := by decide +kernel
theorem d_LC_share_19 : decode b_LC_share 19 = .ok (.iconst 0, 1) := by decide +kernel
theorem d_LC_share_20 : decode b_LC_share 20 = .ok (.istore 5, 2) := by decide +kernel
theorem d_LC_share_22 : decode b_LC_share 22 = .ok (.iconst 0, 1) := by decide +kernel
theorem d_LC_share_23 : decode b_LC_share 23 = .ok (.istore 6, 2) := by decide +kernel
theorem d_LC_share_25 : decode b_LC_share 25 = .ok (.iload 6, 2) := by decide +kernel
theorem d_LC_share_27 : decode b_LC_share 27 = .ok (.sipush 240, 3) := by decide +kernel
theorem d_LC_share_30 : decode b_LC_share 30 = .ok (.if_icmp .ge 37, 3) := by decide +kernel
theorem d_LC_share_33 : decode b_LC_share 33 = .ok (.iload 4, 2) := by decide +kernel
theorem d_LC_share_35 : decode b_LC_share 35 = .ok (.aload_n 3, 1) := by decide +kernel
theorem d_LC_share_36 : decode b_LC_share 36 = .ok (.iload 6, 2) := by decide +kernel
theorem d_LC_share_38 : decode b_LC_share 38 = .ok (.iaload, 1) := by decide +kernel
theorem d_LC_share_39 : decode b_LC_share 39 = .ok (.iadd, 1) := by decide +kernel
theorem d_LC_share_40 : decode b_LC_share 40 = .ok (.istore 4, 2) := by decide +kernel
theorem d_LC_share_42 : decode b_LC_share 42 = .ok (.iload 5, 2) := by decide +kernel
theorem d_LC_share_44 : decode b_LC_share 44 = .ok (.aload_n 2, 1) := by decide +kernel
theorem d_LC_share_45 : decode b_LC_share 45 = .ok (.getfield 117, 3) := by decide +kernel
theorem d_LC_share_48 : decode b_LC_share 48 = .ok (.iload 6, 2) := by decide +kernel
theorem d_LC_share_50 : decode b_LC_share 50 = .ok (.iaload, 1) := by decide +kernel
theorem d_LC_share_51 : decode b_LC_share 51 = .ok (.aload_n 3, 1) := by decide +kernel
theorem d_LC_share_52 : decode b_LC_share 52 = .ok (.iload 6, 2) := by decide +kernel
theorem d_LC_share_54 : decode b_LC_share 54 = .ok (.iaload, 1) := by decide +kernel
theorem d_LC_share_55 : decode b_LC_share 55 = .ok (.invokestatic 126, 3) := by decide +kernel
theorem d_LC_share_58 : decode b_LC_share 58 = .ok (.iadd, 1) := by decide +kernel
theorem d_LC_share_59 : decode b_LC_share 59 = .ok (.istore 5, 2) := by decide +kernel
theorem d_LC_share_61 : decode b_LC_share 61 = .ok (.iinc 6 1, 3) := by decide +kernel
theorem d_LC_share_64 : decode b_LC_share 64 = .ok (.goto (-39), 3) := by decide +kernel
theorem d_LC_share_67 : decode b_LC_share 67 = .ok (.iload 4, 2) := by decide +kernel
theorem d_LC_share_69 : decode b_LC_share 69 = .ok (.ifCond .ne 13, 3) := by decide +kernel
theorem d_LC_share_72 : decode b_LC_share 72 = .ok (.new 191, 3) := by decide +kernel
theorem d_LC_share_75 : decode b_LC_share 75 = .ok (.dup, 1) := by decide +kernel
theorem d_LC_share_76 : decode b_LC_share 76 = .ok (.ldc 193, 2) := by decide +kernel
theorem d_LC_share_78 : decode b_LC_share 78 = .ok (.invokespecial 195, 3) := by decide +kernel
theorem d_LC_share_81 : decode b_LC_share 81 = .ok (.athrow, 1) := by decide +kernel
theorem d_LC_share_82 : decode b_LC_share 82 = .ok (.sipush 1000, 3) := by decide +kernel
theorem d_LC_share_85 : decode b_LC_share 85 = .ok (.iload 5, 2) := by decide +kernel
theorem d_LC_share_87 : decode b_LC_share 87 = .ok (.imul, 1) := by decide +kernel
theorem d_LC_share_88 : decode b_LC_share 88 = .ok (.iload 4, 2) := by decide +kernel
theorem d_LC_share_90 : decode b_LC_share 90 = .ok (.idiv, 1) := by decide +kernel
theorem d_LC_share_91 : decode b_LC_share 91 = .ok (.ireturn, 1) := by decide +kernel
theorem d_LC_axle_0 : decode b_LC_axle 0 = .ok (.aload_n 0, 1) := by decide +kernel
theorem d_LC_axle_1 : decode b_LC_axle 1 = .ok (.iload_n 1, 1) := by decide +kernel
theorem d_LC_axle_2 : decode b_LC_axle 2 = .ok (.invokevirtual 73, 3) := by decide +kernel
theorem d_LC_axle_5 : decode b_LC_axle 5 = .ok (.astore_n 3, 1) := by decide +kernel
theorem d_LC_axle_6 : decode b_LC_axle 6 = .ok (.iload_n 2, 1) := by decide +kernel
theorem d_LC_axle_7 : decode b_LC_axle 7 = .ok (.ifCond .lt 8, 3) := by decide +kernel
theorem d_LC_axle_10 : decode b_LC_axle 10 = .ok (.iload_n 2, 1) := by decide +kernel
theorem d_LC_axle_11 : decode b_LC_axle 11 = .ok (.iconst 4, 1) := by decide +kernel
theorem d_LC_axle_12 : decode b_LC_axle 12 = .ok (.if_icmp .lt 13, 3) := by decide +kernel
theorem d_LC_axle_15 : decode b_LC_axle 15 = .ok (.new 135, 3) := by decide +kernel
theorem d_LC_axle_18 : decode b_LC_axle 18 = .ok (.dup, 1) := by decide +kernel
theorem d_LC_axle_19 : decode b_LC_axle 19 = .ok (.ldc 196, 2) := by decide +kernel
theorem d_LC_axle_21 : decode b_LC_axle 21 = .ok (.invokespecial 139, 3) := by decide +kernel
theorem d_LC_axle_24 : decode b_LC_axle 24 = .ok (.athrow, 1) := by decide +kernel
theorem d_LC_axle_25 : decode b_LC_axle 25 = .ok (.iload_n 2, 1) := by decide +kernel
theorem d_LC_axle_26 : decode b_LC_axle 26 = .ok (.iconst 2, 1) := by decide +kernel
theorem d_LC_axle_27 : decode b_LC_axle 27 = .ok (.if_icmp .ge 10, 3) := by decide +kernel
theorem d_LC_axle_30 : decode b_LC_axle 30 = .ok (.aload_n 3, 1) := by decide +kernel
theorem d_LC_axle_31 : decode b_LC_axle 31 = .ok (.invokevirtual 198, 3) := by decide +kernel
theorem d_LC_axle_34 : decode b_LC_axle 34 = .ok (.goto 7, 3) := by decide +kernel
theorem d_LC_axle_37 : decode b_LC_axle 37 = .ok (.aload_n 3, 1) := by decide +kernel
theorem d_LC_axle_38 : decode b_LC_axle 38 = .ok (.invokevirtual 202, 3) := by decide +kernel
theorem d_LC_axle_41 : decode b_LC_axle 41 = .ok (.lstore 4, 2) := by decide +kernel
theorem d_LC_axle_43 : decode b_LC_axle 43 = .ok (.aload_n 3, 1) := by decide +kernel
theorem d_LC_axle_44 : decode b_LC_axle 44 = .ok (.getfield 64, 3) := by decide +kernel
theorem d_LC_axle_47 : decode b_LC_axle 47 = .ok (.i2l, 1) := by decide +kernel
theorem d_LC_axle_48 : decode b_LC_axle 48 = .ok (.lstore 6, 2) := by decide +kernel
theorem d_LC_axle_50 : decode b_LC_axle 50 = .ok (.lload 4, 2) := by decide +kernel
theorem d_LC_axle_52 : decode b_LC_axle 52 = .ok (.lload 6, 2) := by decide +kernel
theorem d_LC_axle_54 : decode b_LC_axle 54 = .ok (.invokestatic 205, 3) := by decide +kernel
theorem d_LC_axle_57 : decode b_LC_axle 57 = .ok (.lstore 8, 2) := by decide +kernel
theorem d_LC_axle_59 : decode b_LC_axle 59 = .ok (.iload_n 2, 1) := by decide +kernel
theorem d_LC_axle_60 : decode b_LC_axle 60 = .ok (.iconst 2, 1) := by decide +kernel
theorem d_LC_axle_61 : decode b_LC_axle 61 = .ok (.irem, 1) := by decide +kernel
theorem d_LC_axle_62 : decode b_LC_axle 62 = .ok (.ifCond .ne 8, 3) := by decide +kernel
theorem d_LC_axle_65 : decode b_LC_axle 65 = .ok (.lload 4, 2) := by decide +kernel
theorem d_LC_axle_67 : decode b_LC_axle 67 = .ok (.goto 5, 3) := by decide +kernel
theorem d_LC_axle_70 : decode b_LC_axle 70 = .ok (.lload 6, 2) := by decide +kernel
theorem d_LC_axle_72 : decode b_LC_axle 72 = .ok (.lload 8, 2) := by decide +kernel
theorem d_LC_axle_74 : decode b_LC_axle 74 = .ok (.ldiv, 1) := by decide +kernel
theorem d_LC_axle_75 : decode b_LC_axle 75 = .ok (.lreturn, 1) := by decide +kernel
theorem d_LC_row_0 : decode b_LC_row 0 = .ok (.aload_n 0, 1) := by decide +kernel
theorem d_LC_row_1 : decode b_LC_row 1 = .ok (.getfield 33, 3) := by decide +kernel
theorem d_LC_row_4 : decode b_LC_row 4 = .ok (.iload_n 1, 1) := by decide +kernel
theorem d_LC_row_5 : decode b_LC_row 5 = .ok (.invokevirtual 209, 3) := by decide +kernel
theorem d_LC_row_8 : decode b_LC_row 8 = .ok (.ifCond .eq 12, 3) := by decide +kernel
theorem d_LC_row_11 : decode b_LC_row 11 = .ok (.iload_n 2, 1) := by decide +kernel
theorem d_LC_row_12 : decode b_LC_row 12 = .ok (.ifCond .lt 8, 3) := by decide +kernel
theorem d_LC_row_15 : decode b_LC_row 15 = .ok (.iload_n 2, 1) := by decide +kernel
theorem d_LC_row_16 : decode b_LC_row 16 = .ok (.iconst 3, 1) := by decide +kernel
theorem d_LC_row_17 : decode b_LC_row 17 = .ok (.if_icmp .lt 13, 3) := by decide +kernel
theorem d_LC_row_20 : decode b_LC_row 20 = .ok (.new 135, 3) := by decide +kernel
theorem d_LC_row_23 : decode b_LC_row 23 = .ok (.dup, 1) := by decide +kernel
theorem d_LC_row_24 : decode b_LC_row 24 = .ok (.ldc 212, 2) := by decide +kernel
theorem d_LC_row_26 : decode b_LC_row 26 = .ok (.invokespecial 139, 3) := by decide +kernel
theorem d_LC_row_29 : decode b_LC_row 29 = .ok (.athrow, 1) := by decide +kernel
theorem d_LC_row_30 : decode b_LC_row 30 = .ok (.aload_n 0, 1) := by decide +kernel
theorem d_LC_row_31 : decode b_LC_row 31 = .ok (.getfield 33, 3) := by decide +kernel
theorem d_LC_row_34 : decode b_LC_row 34 = .ok (.iload_n 1, 1) := by decide +kernel
theorem d_LC_row_35 : decode b_LC_row 35 = .ok (.iload_n 2, 1) := by decide +kernel
theorem d_LC_row_36 : decode b_LC_row 36 = .ok (.invokevirtual 214, 3) := by decide +kernel
theorem d_LC_row_39 : decode b_LC_row 39 = .ok (.ireturn, 1) := by decide +kernel
theorem d_LC_has_0 : decode b_LC_has 0 = .ok (.aload_n 0, 1) := by decide +kernel
theorem d_LC_has_1 : decode b_LC_has 1 = .ok (.iload_n 1, 1) := by decide +kernel
theorem d_LC_has_2 : decode b_LC_has 2 = .ok (.invokevirtual 73, 3) := by decide +kernel
theorem d_LC_has_5 : decode b_LC_has 5 = .ok (.astore 4, 2) := by decide +kernel
theorem d_LC_has_7 : decode b_LC_has 7 = .ok (.iload_n 2, 1) := by decide +kernel
theorem d_LC_has_8 : decode b_LC_has 8 = .ok (.invokestatic 77, 3) := by decide +kernel
theorem d_LC_has_11 : decode b_LC_has 11 = .ok (.iload_n 3, 1) := by decide +kernel
theorem d_LC_has_12 : decode b_LC_has 12 = .ok (.invokestatic 92, 3) := by decide +kernel
theorem d_LC_has_15 : decode b_LC_has 15 = .ok (.aload 4, 2) := by decide +kernel
theorem d_LC_has_17 : decode b_LC_has 17 = .ok (.getfield 117, 3) := by decide +kernel
theorem d_LC_has_20 : decode b_LC_has 20 = .ok (.iload_n 2, 1) := by decide +kernel
theorem d_LC_has_21 : decode b_LC_has 21 = .ok (.iload_n 3, 1) := by decide +kernel
theorem d_LC_has_22 : decode b_LC_has 22 = .ok (.invokestatic 101, 3) := by decide +kernel
theorem d_LC_has_25 : decode b_LC_has 25 = .ok (.iaload, 1) := by decide +kernel
theorem d_LC_has_26 : decode b_LC_has 26 = .ok (.ireturn, 1) := by decide +kernel
theorem d_LC_stocked_0 : decode b_LC_stocked 0 = .ok (.iload_n 1, 1) := by decide +kernel
theorem d_LC_stocked_1 : decode b_LC_stocked 1 = .ok (.invokestatic 92, 3) := by decide +kernel
theorem d_LC_stocked_4 : decode b_LC_stocked 4 = .ok (.aload_n 0, 1) := by decide +kernel
theorem d_LC_stocked_5 : decode b_LC_stocked 5 = .ok (.getfield 16, 3) := by decide +kernel
theorem d_LC_stocked_8 : decode b_LC_stocked 8 = .ok (.iload_n 1, 1) := by decide +kernel
theorem d_LC_stocked_9 : decode b_LC_stocked 9 = .ok (.iaload, 1) := by decide +kernel
theorem d_LC_stocked_10 : decode b_LC_stocked 10 = .ok (.ireturn, 1) := by decide +kernel
theorem d_LC_knownVehicle_0 : decode b_LC_knownVehicle 0 = .ok (.iload_n 1, 1) := by decide +kernel
theorem d_LC_knownVehicle_1 : decode b_LC_knownVehicle 1 = .ok (.ifCond .lt 11, 3) := by decide +kernel
theorem d_LC_knownVehicle_4 : decode b_LC_knownVehicle 4 = .ok (.iload_n 1, 1) := by decide +kernel
theorem d_LC_knownVehicle_5 : decode b_LC_knownVehicle 5 = .ok (.aload_n 0, 1) := by decide +kernel
theorem d_LC_knownVehicle_6 : decode b_LC_knownVehicle 6 = .ok (.getfield 50, 3) := by decide +kernel
theorem d_LC_knownVehicle_9 : decode b_LC_knownVehicle 9 = .ok (.if_icmp .lt 13, 3) := by decide +kernel
theorem d_LC_knownVehicle_12 : decode b_LC_knownVehicle 12 = .ok (.new 135, 3) := by decide +kernel
theorem d_LC_knownVehicle_15 : decode b_LC_knownVehicle 15 = .ok (.dup, 1) := by decide +kernel
theorem d_LC_knownVehicle_16 : decode b_LC_knownVehicle 16 = .ok (.ldc 217, 2) := by decide +kernel
theorem d_LC_knownVehicle_18 : decode b_LC_knownVehicle 18 = .ok (.invokespecial 139, 3) := by decide +kernel
theorem d_LC_knownVehicle_21 : decode b_LC_knownVehicle 21 = .ok (.athrow, 1) := by decide +kernel
theorem d_LC_knownVehicle_22 : decode b_LC_knownVehicle 22 = .ok (.aload_n 0, 1) := by decide +kernel
theorem d_LC_knownVehicle_23 : decode b_LC_knownVehicle 23 = .ok (.getfield 26, 3) := by decide +kernel
theorem d_LC_knownVehicle_26 : decode b_LC_knownVehicle 26 = .ok (.iload_n 1, 1) := by decide +kernel
theorem d_LC_knownVehicle_27 : decode b_LC_knownVehicle 27 = .ok (.aaload, 1) := by decide +kernel
theorem d_LC_knownVehicle_28 : decode b_LC_knownVehicle 28 = .ok (.areturn, 1) := by decide +kernel
theorem d_LC_requireKind_0 : decode b_LC_requireKind 0 = .ok (.iload_n 0, 1) := by decide +kernel
theorem d_LC_requireKind_1 : decode b_LC_requireKind 1 = .ok (.ifCond .lt 9, 3) := by decide +kernel
theorem d_LC_requireKind_4 : decode b_LC_requireKind 4 = .ok (.iload_n 0, 1) := by decide +kernel
theorem d_LC_requireKind_5 : decode b_LC_requireKind 5 = .ok (.bipush 6, 2) := by decide +kernel
theorem d_LC_requireKind_7 : decode b_LC_requireKind 7 = .ok (.if_icmp .lt 13, 3) := by decide +kernel
theorem d_LC_requireKind_10 : decode b_LC_requireKind 10 = .ok (.new 135, 3) := by decide +kernel
theorem d_LC_requireKind_13 : decode b_LC_requireKind 13 = .ok (.dup, 1) := by decide +kernel
theorem d_LC_requireKind_14 : decode b_LC_requireKind 14 = .ok (.ldc 219, 2) := by decide +kernel
theorem d_LC_requireKind_16 : decode b_LC_requireKind 16 = .ok (.invokespecial 139, 3) := by decide +kernel
theorem d_LC_requireKind_19 : decode b_LC_requireKind 19 = .ok (.athrow, 1) := by decide +kernel
theorem d_LC_requireKind_20 : decode b_LC_requireKind 20 = .ok (.return_, 1) := by decide +kernel
theorem d_LC_requireCupboard_0 : decode b_LC_requireCupboard 0 = .ok (.iload_n 0, 1) := by decide +kernel
theorem d_LC_requireCupboard_1 : decode b_LC_requireCupboard 1 = .ok (.ifCond .lt 9, 3) := by decide +kernel
theorem d_LC_requireCupboard_4 : decode b_LC_requireCupboard 4 = .ok (.iload_n 0, 1) := by decide +kernel
theorem d_LC_requireCupboard_5 : decode b_LC_requireCupboard 5 = .ok (.bipush 8, 2) := by decide +kernel
theorem d_LC_requireCupboard_7 : decode b_LC_requireCupboard 7 = .ok (.if_icmp .lt 13, 3) := by decide +kernel
theorem d_LC_requireCupboard_10 : decode b_LC_requireCupboard 10 = .ok (.new 135, 3) := by decide +kernel
theorem d_LC_requireCupboard_13 : decode b_LC_requireCupboard 13 = .ok (.dup, 1) := by decide +kernel
theorem d_LC_requireCupboard_14 : decode b_LC_requireCupboard 14 = .ok (.ldc 221, 2) := by decide +kernel
theorem d_LC_requireCupboard_16 : decode b_LC_requireCupboard 16 = .ok (.invokespecial 139, 3) := by decide +kernel
theorem d_LC_requireCupboard_19 : decode b_LC_requireCupboard 19 = .ok (.athrow, 1) := by decide +kernel
theorem d_LC_requireCupboard_20 : decode b_LC_requireCupboard 20 = .ok (.return_, 1) := by decide +kernel
theorem d_LC_requireItem_0 : decode b_LC_requireItem 0 = .ok (.iload_n 0, 1) := by decide +kernel
theorem d_LC_requireItem_1 : decode b_LC_requireItem 1 = .ok (.ifCond .lt 9, 3) := by decide +kernel
theorem d_LC_requireItem_4 : decode b_LC_requireItem 4 = .ok (.iload_n 0, 1) := by decide +kernel
theorem d_LC_requireItem_5 : decode b_LC_requireItem 5 = .ok (.bipush 30, 2) := by decide +kernel
theorem d_LC_requireItem_7 : decode b_LC_requireItem 7 = .ok (.if_icmp .lt 13, 3) := by decide +kernel
theorem d_LC_requireItem_10 : decode b_LC_requireItem 10 = .ok (.new 135, 3) := by decide +kernel
theorem d_LC_requireItem_13 : decode b_LC_requireItem 13 = .ok (.dup, 1) := by decide +kernel
theorem d_LC_requireItem_14 : decode b_LC_requireItem 14 = .ok (.ldc 223, 2) := by decide +kernel
theorem d_LC_requireItem_16 : decode b_LC_requireItem 16 = .ok (.invokespecial 139, 3) := by decide +kernel
theorem d_LC_requireItem_19 : decode b_LC_requireItem 19 = .ok (.athrow, 1) := by decide +kernel
theorem d_LC_requireItem_20 : decode b_LC_requireItem 20 = .ok (.return_, 1) := by decide +kernel
theorem d_LC_requireRange_0 : decode b_LC_requireRange 0 = .ok (.iload_n 0, 1) := by decide +kernel
theorem d_LC_requireRange_1 : decode b_LC_requireRange 1 = .ok (.iload_n 1, 1) := by decide +kernel
theorem d_LC_requireRange_2 : decode b_LC_requireRange 2 = .ok (.if_icmp .lt 8, 3) := by decide +kernel
theorem d_LC_requireRange_5 : decode b_LC_requireRange 5 = .ok (.iload_n 0, 1) := by decide +kernel
theorem d_LC_requireRange_6 : decode b_LC_requireRange 6 = .ok (.iload_n 2, 1) := by decide +kernel
theorem d_LC_requireRange_7 : decode b_LC_requireRange 7 = .ok (.if_icmp .le 13, 3) := by decide +kernel
theorem d_LC_requireRange_10 : decode b_LC_requireRange 10 = .ok (.new 186, 3) := by decide +kernel
theorem d_LC_requireRange_13 : decode b_LC_requireRange 13 = .ok (.dup, 1) := by decide +kernel
theorem d_LC_requireRange_14 : decode b_LC_requireRange 14 = .ok (.ldc 225, 2) := by decide +kernel
theorem d_LC_requireRange_16 : decode b_LC_requireRange 16 = .ok (.invokespecial 190, 3) := by decide +kernel
theorem d_LC_requireRange_19 : decode b_LC_requireRange 19 = .ok (.athrow, 1) := by decide +kernel
theorem d_LC_requireRange_20 : decode b_LC_requireRange 20 = .ok (.return_, 1) := by decide +kernel
theorem d_LC_requireLimits_0 : decode b_LC_requireLimits 0 = .ok (.iload_n 0, 1) := by decide +kernel
theorem d_LC_requireLimits_1 : decode b_LC_requireLimits 1 = .ok (.iconst 0, 1) := by decide +kernel
theorem d_LC_requireLimits_2 : decode b_LC_requireLimits 2 = .ok (.ldc 227, 2) := by decide +kernel
theorem d_LC_requireLimits_4 : decode b_LC_requireLimits 4 = .ok (.invokestatic 42, 3) := by decide +kernel
theorem d_LC_requireLimits_7 : decode b_LC_requireLimits 7 = .ok (.iload_n 1, 1) := by decide +kernel
theorem d_LC_requireLimits_8 : decode b_LC_requireLimits 8 = .ok (.iconst 0, 1) := by decide +kernel
theorem d_LC_requireLimits_9 : decode b_LC_requireLimits 9 = .ok (.ldc 227, 2) := by decide +kernel
theorem d_LC_requireLimits_11 : decode b_LC_requireLimits 11 = .ok (.invokestatic 42, 3) := by decide +kernel
theorem d_LC_requireLimits_14 : decode b_LC_requireLimits 14 = .ok (.return_, 1) := by decide +kernel
theorem d_LC_requireSoMany_0 : decode b_LC_requireSoMany 0 = .ok (.aload_n 0, 1) := by decide +kernel
theorem d_LC_requireSoMany_1 : decode b_LC_requireSoMany 1 = .ok (.getfield 117, 3) := by decide +kernel
theorem d_LC_requireSoMany_4 : decode b_LC_requireSoMany 4 = .ok (.iload_n 1, 1) := by decide +kernel
theorem d_LC_requireSoMany_5 : decode b_LC_requireSoMany 5 = .ok (.iaload, 1) := by decide +kernel
theorem d_LC_requireSoMany_6 : decode b_LC_requireSoMany 6 = .ok (.iload_n 2, 1) := by decide +kernel
theorem d_LC_requireSoMany_7 : decode b_LC_requireSoMany 7 = .ok (.if_icmp .ge 13, 3) := by decide +kernel
theorem d_LC_requireSoMany_10 : decode b_LC_requireSoMany 10 = .ok (.new 84, 3) := by decide +kernel
theorem d_LC_requireSoMany_13 : decode b_LC_requireSoMany 13 = .ok (.dup, 1) := by decide +kernel
theorem d_LC_requireSoMany_14 : decode b_LC_requireSoMany 14 = .ok (.ldc 228, 2) := by decide +kernel
theorem d_LC_requireSoMany_16 : decode b_LC_requireSoMany 16 = .ok (.invokespecial 88, 3) := by decide +kernel
theorem d_LC_requireSoMany_19 : decode b_LC_requireSoMany 19 = .ok (.athrow, 1) := by decide +kernel
theorem d_LC_requireSoMany_20 : decode b_LC_requireSoMany 20 = .ok (.return_, 1) := by decide +kernel
theorem d_LC_requireBearable_0 : decode b_LC_requireBearable 0 = .ok (.aload_n 1, 1) := by decide +kernel
theorem d_LC_requireBearable_1 : decode b_LC_requireBearable 1 = .ok (.iload_n 2, 1) := by decide +kernel
theorem d_LC_requireBearable_2 : decode b_LC_requireBearable 2 = .ok (.iload_n 3, 1) := by decide +kernel
theorem d_LC_requireBearable_3 : decode b_LC_requireBearable 3 = .ok (.aload_n 0, 1) := by decide +kernel
theorem d_LC_requireBearable_4 : decode b_LC_requireBearable 4 = .ok (.getfield 9, 3) := by decide +kernel
theorem d_LC_requireBearable_7 : decode b_LC_requireBearable 7 = .ok (.iload_n 2, 1) := by decide +kernel
theorem d_LC_requireBearable_8 : decode b_LC_requireBearable 8 = .ok (.bipush 30, 2) := by decide +kernel
theorem d_LC_requireBearable_10 : decode b_LC_requireBearable 10 = .ok (.irem, 1) := by decide +kernel
theorem d_LC_requireBearable_11 : decode b_LC_requireBearable 11 = .ok (.iaload, 1) := by decide +kernel
theorem d_LC_requireBearable_12 : decode b_LC_requireBearable 12 = .ok (.invokevirtual 131, 3) := by decide +kernel
theorem d_LC_requireBearable_15 : decode b_LC_requireBearable 15 = .ok (.ifCond .ne 13, 3) := by decide +kernel
theorem d_LC_requireBearable_18 : decode b_LC_requireBearable 18 = .ok (.new 84, 3) := by decide +kernel
theorem d_LC_requireBearable_21 : decode b_LC_requireBearable 21 = .ok (.dup, 1) := by decide +kernel
theorem d_LC_requireBearable_22 : decode b_LC_requireBearable 22 = .ok (.ldc 230, 2) := by decide +kernel
theorem d_LC_requireBearable_24 : decode b_LC_requireBearable 24 = .ok (.invokespecial 88, 3) := by decide +kernel
theorem d_LC_requireBearable_27 : decode b_LC_requireBearable 27 = .ok (.athrow, 1) := by decide +kernel
theorem d_LC_requireBearable_28 : decode b_LC_requireBearable 28 = .ok (.return_, 1) := by decide +kernel
theorem d_LC_requireRoom_0 : decode b_LC_requireRoom 0 = .ok (.aload_n 0, 1) := by decide +kernel
theorem d_LC_requireRoom_1 : decode b_LC_requireRoom 1 = .ok (.getfield 117, 3) := by decide +kernel
theorem d_LC_requireRoom_4 : decode b_LC_requireRoom 4 = .ok (.iload_n 1, 1) := by decide +kernel
theorem d_LC_requireRoom_5 : decode b_LC_requireRoom 5 = .ok (.iaload, 1) := by decide +kernel
theorem d_LC_requireRoom_6 : decode b_LC_requireRoom 6 = .ok (.iload_n 2, 1) := by decide +kernel
theorem d_LC_requireRoom_7 : decode b_LC_requireRoom 7 = .ok (.iadd, 1) := by decide +kernel
theorem d_LC_requireRoom_8 : decode b_LC_requireRoom 8 = .ok (.bipush 99, 2) := by decide +kernel
theorem d_LC_requireRoom_10 : decode b_LC_requireRoom 10 = .ok (.if_icmp .le 13, 3) := by decide +kernel
theorem d_LC_requireRoom_13 : decode b_LC_requireRoom 13 = .ok (.new 54, 3) := by decide +kernel
theorem d_LC_requireRoom_16 : decode b_LC_requireRoom 16 = .ok (.dup, 1) := by decide +kernel
theorem d_LC_requireRoom_17 : decode b_LC_requireRoom 17 = .ok (.ldc 232, 2) := by decide +kernel
theorem d_LC_requireRoom_19 : decode b_LC_requireRoom 19 = .ok (.invokespecial 58, 3) := by decide +kernel
theorem d_LC_requireRoom_22 : decode b_LC_requireRoom 22 = .ok (.athrow, 1) := by decide +kernel
theorem d_LC_requireRoom_23 : decode b_LC_requireRoom 23 = .ok (.return_, 1) := by decide +kernel
theorem d_LC_cellOf_0 : decode b_LC_cellOf 0 = .ok (.iload_n 0, 1) := by decide +kernel
theorem d_LC_cellOf_1 : decode b_LC_cellOf 1 = .ok (.bipush 30, 2) := by decide +kernel
theorem d_LC_cellOf_3 : decode b_LC_cellOf 3 = .ok (.imul, 1) := by decide +kernel
theorem d_LC_cellOf_4 : decode b_LC_cellOf 4 = .ok (.iload_n 1, 1) := by decide +kernel
theorem d_LC_cellOf_5 : decode b_LC_cellOf 5 = .ok (.iadd, 1) := by decide +kernel
theorem d_LC_cellOf_6 : decode b_LC_cellOf 6 = .ok (.ireturn, 1) := by decide +kernel
theorem d_LC_isAnywhere_0 : decode b_LC_isAnywhere 0 = .ok (.aload_n 0, 1) := by decide +kernel
theorem d_LC_isAnywhere_1 : decode b_LC_isAnywhere 1 = .ok (.getfield 16, 3) := by decide +kernel
theorem d_LC_isAnywhere_4 : decode b_LC_isAnywhere 4 = .ok (.iload_n 1, 1) := by decide +kernel
theorem d_LC_isAnywhere_5 : decode b_LC_isAnywhere 5 = .ok (.iaload, 1) := by decide +kernel
theorem d_LC_isAnywhere_6 : decode b_LC_isAnywhere 6 = .ok (.ifCond .le 5, 3) := by decide +kernel
theorem d_LC_isAnywhere_9 : decode b_LC_isAnywhere 9 = .ok (.iconst 1, 1) := by decide +kernel
theorem d_LC_isAnywhere_10 : decode b_LC_isAnywhere 10 = .ok (.ireturn, 1) := by decide +kernel
theorem d_LC_isAnywhere_11 : decode b_LC_isAnywhere 11 = .ok (.iconst 0, 1) := by decide +kernel
theorem d_LC_isAnywhere_12 : decode b_LC_isAnywhere 12 = .ok (.istore_n 2, 1) := by decide +kernel
theorem d_LC_isAnywhere_13 : decode b_LC_isAnywhere 13 = .ok (.iload_n 2, 1) := by decide +kernel
theorem d_LC_isAnywhere_14 : decode b_LC_isAnywhere 14 = .ok (.aload_n 0, 1) := by decide +kernel
theorem d_LC_isAnywhere_15 : decode b_LC_isAnywhere 15 = .ok (.getfield 50, 3) := by decide +kernel
theorem d_LC_isAnywhere_18 : decode b_LC_isAnywhere 18 = .ok (.if_icmp .ge 24, 3) := by decide +kernel
theorem d_LC_isAnywhere_21 : decode b_LC_isAnywhere 21 = .ok (.aload_n 0, 1) := by decide +kernel
theorem d_LC_isAnywhere_22 : decode b_LC_isAnywhere 22 = .ok (.getfield 26, 3) := by decide +kernel
theorem d_LC_isAnywhere_25 : decode b_LC_isAnywhere 25 = .ok (.iload_n 2, 1) := by decide +kernel
theorem d_LC_isAnywhere_26 : decode b_LC_isAnywhere 26 = .ok (.aaload, 1) := by decide +kernel
theorem d_LC_isAnywhere_27 : decode b_LC_isAnywhere 27 = .ok (.iload_n 1, 1) := by decide +kernel
theorem d_LC_isAnywhere_28 : decode b_LC_isAnywhere 28 = .ok (.invokevirtual 234, 3) := by decide +kernel
theorem d_LC_isAnywhere_31 : decode b_LC_isAnywhere 31 = .ok (.ifCond .eq 5, 3) := by decide +kernel
theorem d_LC_isAnywhere_34 : decode b_LC_isAnywhere 34 = .ok (.iconst 1, 1) := by decide +kernel
theorem d_LC_isAnywhere_35 : decode b_LC_isAnywhere 35 = .ok (.ireturn, 1) := by decide +kernel
theorem d_LC_isAnywhere_36 : decode b_LC_isAnywhere 36 = .ok (.iinc 2 1, 3) := by decide +kernel
theorem d_LC_isAnywhere_39 : decode b_LC_isAnywhere 39 = .ok (.goto (-26), 3) := by decide +kernel
theorem d_LC_isAnywhere_42 : decode b_LC_isAnywhere 42 = .ok (.iconst 0, 1) := by decide +kernel
theorem d_LC_isAnywhere_43 : decode b_LC_isAnywhere 43 = .ok (.ireturn, 1) := by decide +kernel
theorem d_LC_commonDivisor_0 : decode b_LC_commonDivisor 0 = .ok (.lload_n 0, 1) := by decide +kernel
theorem d_LC_commonDivisor_1 : decode b_LC_commonDivisor 1 = .ok (.invokestatic 237, 3) := by decide +kernel
theorem d_LC_commonDivisor_4 : decode b_LC_commonDivisor 4 = .ok (.lstore 4, 2) := by decide +kernel
theorem d_LC_commonDivisor_6 : decode b_LC_commonDivisor 6 = .ok (.lload_n 2, 1) := by decide +kernel
theorem d_LC_commonDivisor_7 : decode b_LC_commonDivisor 7 = .ok (.lstore 6, 2) := by decide +kernel
theorem d_LC_commonDivisor_9 : decode b_LC_commonDivisor 9 = .ok (.iconst 0, 1) := by decide +kernel
theorem d_LC_commonDivisor_10 : decode b_LC_commonDivisor 10 = .ok (.istore 8, 2) := by decide +kernel
theorem d_LC_commonDivisor_12 : decode b_LC_commonDivisor 12 = .ok (.iload 8, 2) := by decide +kernel
theorem d_LC_commonDivisor_14 : decode b_LC_commonDivisor 14 = .ok (.sipush 200, 3) := by decide +kernel
theorem d_LC_commonDivisor_17 : decode b_LC_commonDivisor 17 = .ok (.if_icmp .ge 31, 3) := by decide +kernel
theorem d_LC_commonDivisor_20 : decode b_LC_commonDivisor 20 = .ok (.lload 6, 2) := by decide +kernel
theorem d_LC_commonDivisor_22 : decode b_LC_commonDivisor 22 = .ok (.lconst 0, 1) := by decide +kernel
theorem d_LC_commonDivisor_23 : decode b_LC_commonDivisor 23 = .ok (.lcmp, 1) := by decide +kernel
theorem d_LC_commonDivisor_24 : decode b_LC_commonDivisor 24 = .ok (.ifCond .eq 24, 3) := by decide +kernel
theorem d_LC_commonDivisor_27 : decode b_LC_commonDivisor 27 = .ok (.lload 4, 2) := by decide +kernel
theorem d_LC_commonDivisor_29 : decode b_LC_commonDivisor 29 = .ok (.lload 6, 2) := by decide +kernel
theorem d_LC_commonDivisor_31 : decode b_LC_commonDivisor 31 = .ok (.lrem, 1) := by decide +kernel
theorem d_LC_commonDivisor_32 : decode b_LC_commonDivisor 32 = .ok (.lstore 9, 2) := by decide +kernel
theorem d_LC_commonDivisor_34 : decode b_LC_commonDivisor 34 = .ok (.lload 6, 2) := by decide +kernel
theorem d_LC_commonDivisor_36 : decode b_LC_commonDivisor 36 = .ok (.lstore 4, 2) := by decide +kernel
theorem d_LC_commonDivisor_38 : decode b_LC_commonDivisor 38 = .ok (.lload 9, 2) := by decide +kernel
theorem d_LC_commonDivisor_40 : decode b_LC_commonDivisor 40 = .ok (.lstore 6, 2) := by decide +kernel
theorem d_LC_commonDivisor_42 : decode b_LC_commonDivisor 42 = .ok (.iinc 8 1, 3) := by decide +kernel
theorem d_LC_commonDivisor_45 : decode b_LC_commonDivisor 45 = .ok (.goto (-33), 3) := by decide +kernel
theorem d_LC_commonDivisor_48 : decode b_LC_commonDivisor 48 = .ok (.lload 4, 2) := by decide +kernel
theorem d_LC_commonDivisor_50 : decode b_LC_commonDivisor 50 = .ok (.lconst 1, 1) := by decide +kernel
theorem d_LC_commonDivisor_51 : decode b_LC_commonDivisor 51 = .ok (.invokestatic 241, 3) := by decide +kernel
theorem d_LC_commonDivisor_54 : decode b_LC_commonDivisor 54 = .ok (.lreturn, 1) := by decide +kernel
theorem d_VE_init_0 : decode b_VE_init 0 = .ok (.aload_n 0, 1) := by decide +kernel
theorem d_VE_init_1 : decode b_VE_init 1 = .ok (.invokespecial 3, 3) := by decide +kernel
theorem d_VE_init_4 : decode b_VE_init 4 = .ok (.aload_n 0, 1) := by decide +kernel
theorem d_VE_init_5 : decode b_VE_init 5 = .ok (.bipush 8, 2) := by decide +kernel
theorem d_VE_init_7 : decode b_VE_init 7 = .ok (.newarray .int, 2) := by decide +kernel
theorem d_VE_init_9 : decode b_VE_init 9 = .ok (.putfield 9, 3) := by decide +kernel
theorem d_VE_init_12 : decode b_VE_init 12 = .ok (.aload_n 0, 1) := by decide +kernel
theorem d_VE_init_13 : decode b_VE_init 13 = .ok (.bipush 8, 2) := by decide +kernel
theorem d_VE_init_15 : decode b_VE_init 15 = .ok (.newarray .boolean, 2) := by decide +kernel
theorem d_VE_init_17 : decode b_VE_init 17 = .ok (.putfield 15, 3) := by decide +kernel
theorem d_VE_init_20 : decode b_VE_init 20 = .ok (.aload_n 0, 1) := by decide +kernel
theorem d_VE_init_21 : decode b_VE_init 21 = .ok (.sipush 240, 3) := by decide +kernel
theorem d_VE_init_24 : decode b_VE_init 24 = .ok (.newarray .int, 2) := by decide +kernel
theorem d_VE_init_26 : decode b_VE_init 26 = .ok (.putfield 19, 3) := by decide +kernel
theorem d_VE_init_29 : decode b_VE_init 29 = .ok (.aload_n 0, 1) := by decide +kernel
theorem d_VE_init_30 : decode b_VE_init 30 = .ok (.bipush 30, 2) := by decide +kernel
theorem d_VE_init_32 : decode b_VE_init 32 = .ok (.newarray .int, 2) := by decide +kernel
theorem d_VE_init_34 : decode b_VE_init 34 = .ok (.putfield 22, 3) := by decide +kernel
theorem d_VE_init_37 : decode b_VE_init 37 = .ok (.aload_n 0, 1) := by decide +kernel
theorem d_VE_init_38 : decode b_VE_init 38 = .ok (.bipush 30, 2) := by decide +kernel
theorem d_VE_init_40 : decode b_VE_init 40 = .ok (.newarray .int, 2) := by decide +kernel
theorem d_VE_init_42 : decode b_VE_init 42 = .ok (.putfield 25, 3) := by decide +kernel
theorem d_VE_init_45 : decode b_VE_init 45 = .ok (.aload_n 0, 1) := by decide +kernel
theorem d_VE_init_46 : decode b_VE_init 46 = .ok (.sipush 1000, 3) := by decide +kernel
theorem d_VE_init_49 : decode b_VE_init 49 = .ok (.putfield 28, 3) := by decide +kernel
theorem d_VE_init_52 : decode b_VE_init 52 = .ok (.aload_n 0, 1) := by decide +kernel
theorem d_VE_init_53 : decode b_VE_init 53 = .ok (.iconst (-1), 1) := by decide +kernel
theorem d_VE_init_54 : decode b_VE_init 54 = .ok (.putfield 32, 3) := by decide +kernel
theorem d_VE_init_57 : decode b_VE_init 57 = .ok (.aload_n 0, 1) := by decide +kernel
theorem d_VE_init_58 : decode b_VE_init 58 = .ok (.iconst (-1), 1) := by decide +kernel
theorem d_VE_init_59 : decode b_VE_init 59 = .ok (.putfield 35, 3) := by decide +kernel
theorem d_VE_init_62 : decode b_VE_init 62 = .ok (.aload_n 0, 1) := by decide +kernel
theorem d_VE_init_63 : decode b_VE_init 63 = .ok (.getfield 22, 3) := by decide +kernel
theorem d_VE_init_66 : decode b_VE_init 66 = .ok (.iconst (-1), 1) := by decide +kernel
theorem d_VE_init_67 : decode b_VE_init 67 = .ok (.invokestatic 38, 3) := by decide +kernel
theorem d_VE_init_70 : decode b_VE_init 70 = .ok (.aload_n 0, 1) := by decide +kernel
theorem d_VE_init_71 : decode b_VE_init 71 = .ok (.getfield 25, 3) := by decide +kernel
theorem d_VE_init_74 : decode b_VE_init 74 = .ok (.bipush 100, 2) := by decide +kernel
theorem d_VE_init_76 : decode b_VE_init 76 = .ok (.invokestatic 38, 3) := by decide +kernel
theorem d_VE_init_79 : decode b_VE_init 79 = .ok (.return_, 1) := by decide +kernel
theorem d_VE_frontMoment_0 : decode b_VE_frontMoment 0 = .ok (.aload_n 0, 1) := by decide +kernel
theorem d_VE_frontMoment_1 : decode b_VE_frontMoment 1 = .ok (.getfield 44, 3) := by decide +kernel
theorem d_VE_frontMoment_4 : decode b_VE_frontMoment 4 = .ok (.aload_n 0, 1) := by decide +kernel
theorem d_VE_frontMoment_5 : decode b_VE_frontMoment 5 = .ok (.getfield 28, 3) := by decide +kernel
theorem d_VE_frontMoment_8 : decode b_VE_frontMoment 8 = .ok (.i2l, 1) := by decide +kernel
theorem d_VE_frontMoment_9 : decode b_VE_frontMoment 9 = .ok (.lmul, 1) := by decide +kernel
theorem d_VE_frontMoment_10 : decode b_VE_frontMoment 10 = .ok (.aload_n 0, 1) := by decide +kernel
theorem d_VE_frontMoment_11 : decode b_VE_frontMoment 11 = .ok (.getfield 48, 3) := by decide +kernel
theorem d_VE_frontMoment_14 : decode b_VE_frontMoment 14 = .ok (.lsub, 1) := by decide +kernel
theorem d_VE_frontMoment_15 : decode b_VE_frontMoment 15 = .ok (.lreturn, 1) := by decide +kernel
theorem d_VE_rearMoment_0 : decode b_VE_rearMoment 0 = .ok (.aload_n 0, 1) := by decide +kernel
theorem d_VE_rearMoment_1 : decode b_VE_rearMoment 1 = .ok (.getfield 48, 3) := by decide +kernel
theorem d_VE_rearMoment_4 : decode b_VE_rearMoment 4 = .ok (.lreturn, 1) := by decide +kernel
theorem d_VE_isBeyond_0 : decode b_VE_isBeyond 0 = .ok (.aload_n 0, 1) := by decide +kernel
theorem d_VE_isBeyond_1 : decode b_VE_isBeyond 1 = .ok (.aload_n 0, 1) := by decide +kernel
theorem d_VE_isBeyond_2 : decode b_VE_isBeyond 2 = .ok (.invokevirtual 51, 3) := by decide +kernel
theorem d_VE_isBeyond_5 : decode b_VE_isBeyond 5 = .ok (.aload_n 0, 1) := by decide +kernel
theorem d_VE_isBeyond_6 : decode b_VE_isBeyond 6 = .ok (.getfield 55, 3) := by decide +kernel
theorem d_VE_isBeyond_9 : decode b_VE_isBeyond 9 = .ok (.invokevirtual 58, 3) := by decide +kernel
theorem d_VE_isBeyond_12 : decode b_VE_isBeyond 12 = .ok (.ifCond .ne 18, 3) := by decide +kernel
theorem d_VE_isBeyond_15 : decode b_VE_isBeyond 15 = .ok (.aload_n 0, 1) := by decide +kernel
theorem d_VE_isBeyond_16 : decode b_VE_isBeyond 16 = .ok (.aload_n 0, 1) := by decide +kernel
theorem d_VE_isBeyond_17 : decode b_VE_isBeyond 17 = .ok (.invokevirtual 62, 3) := by decide +kernel
theorem d_VE_isBeyond_20 : decode b_VE_isBeyond 20 = .ok (.aload_n 0, 1) := by decide +kernel
theorem d_VE_isBeyond_21 : decode b_VE_isBeyond 21 = .ok (.getfield 65, 3) := by decide +kernel
theorem d_VE_isBeyond_24 : decode b_VE_isBeyond 24 = .ok (.invokevirtual 58, 3) := by decide +kernel
theorem d_VE_isBeyond_27 : decode b_VE_isBeyond 27 = .ok (.ifCond .eq 7, 3) := by decide +kernel
theorem d_VE_isBeyond_30 : decode b_VE_isBeyond 30 = .ok (.iconst 1, 1) := by decide +kernel
theorem d_VE_isBeyond_31 : decode b_VE_isBeyond 31 = .ok (.goto 4, 3) := by decide +kernel
theorem d_VE_isBeyond_34 : decode b_VE_isBeyond 34 = .ok (.iconst 0, 1) := by decide +kernel
theorem d_VE_isBeyond_35 : decode b_VE_isBeyond 35 = .ok (.ireturn, 1) := by decide +kernel
theorem d_VE_exceeds_0 : decode b_VE_exceeds 0 = .ok (.lload_n 1, 1) := by decide +kernel
theorem d_VE_exceeds_1 : decode b_VE_exceeds 1 = .ok (.iload_n 3, 1) := by decide +kernel
theorem d_VE_exceeds_2 : decode b_VE_exceeds 2 = .ok (.i2l, 1) := by decide +kernel
theorem d_VE_exceeds_3 : decode b_VE_exceeds 3 = .ok (.aload_n 0, 1) := by decide +kernel
theorem d_VE_exceeds_4 : decode b_VE_exceeds 4 = .ok (.getfield 28, 3) := by decide +kernel
theorem d_VE_exceeds_7 : decode b_VE_exceeds 7 = .ok (.i2l, 1) := by decide +kernel
theorem d_VE_exceeds_8 : decode b_VE_exceeds 8 = .ok (.lmul, 1) := by decide +kernel
theorem d_VE_exceeds_9 : decode b_VE_exceeds 9 = .ok (.lcmp, 1) := by decide +kernel
theorem d_VE_exceeds_10 : decode b_VE_exceeds 10 = .ok (.ifCond .le 7, 3) := by decide +kernel
theorem d_VE_exceeds_13 : decode b_VE_exceeds 13 = .ok (.iconst 1, 1) := by decide +kernel
theorem d_VE_exceeds_14 : decode b_VE_exceeds 14 = .ok (.goto 4, 3) := by decide +kernel
theorem d_VE_exceeds_17 : decode b_VE_exceeds 17 = .ok (.iconst 0, 1) := by decide +kernel
theorem d_VE_exceeds_18 : decode b_VE_exceeds 18 = .ok (.ireturn, 1) := by decide +kernel
theorem d_VE_bears_0 : decode b_VE_bears 0 = .ok (.iload_n 3, 1) := by decide +kernel
theorem d_VE_bears_1 : decode b_VE_bears 1 = .ok (.i2l, 1) := by decide +kernel
theorem d_VE_bears_2 : decode b_VE_bears 2 = .ok (.iload_n 2, 1) := by decide +kernel
theorem d_VE_bears_3 : decode b_VE_bears 3 = .ok (.i2l, 1) := by decide +kernel
theorem d_VE_bears_4 : decode b_VE_bears 4 = .ok (.lmul, 1) := by decide +kernel
theorem d_VE_bears_5 : decode b_VE_bears 5 = .ok (.lstore 4, 2) := by decide +kernel
theorem d_VE_bears_7 : decode b_VE_bears 7 = .ok (.lload 4, 2) := by decide +kernel
theorem d_VE_bears_9 : decode b_VE_bears 9 = .ok (.aload_n 0, 1) := by decide +kernel
theorem d_VE_bears_10 : decode b_VE_bears 10 = .ok (.getfield 9, 3) := by decide +kernel
theorem d_VE_bears_13 : decode b_VE_bears 13 = .ok (.iload_n 1, 1) := by decide +kernel
theorem d_VE_bears_14 : decode b_VE_bears 14 = .ok (.bipush 30, 2) := by decide +kernel
theorem d_VE_bears_16 : decode b_VE_bears 16 = .ok (.idiv, 1) := by decide +kernel
theorem d_VE_bears_17 : decode b_VE_bears 17 = .ok (.iaload, 1) := by decide +kernel
theorem d_VE_bears_18 : decode b_VE_bears 18 = .ok (.i2l, 1) := by decide +kernel
theorem d_VE_bears_19 : decode b_VE_bears 19 = .ok (.lmul, 1) := by decide +kernel
theorem d_VE_bears_20 : decode b_VE_bears 20 = .ok (.lstore 6, 2) := by decide +kernel
theorem d_VE_bears_22 : decode b_VE_bears 22 = .ok (.lload 4, 2) := by decide +kernel
theorem d_VE_bears_24 : decode b_VE_bears 24 = .ok (.aload_n 0, 1) := by decide +kernel
theorem d_VE_bears_25 : decode b_VE_bears 25 = .ok (.getfield 28, 3) := by decide +kernel
theorem d_VE_bears_28 : decode b_VE_bears 28 = .ok (.i2l, 1) := by decide +kernel
theorem d_VE_bears_29 : decode b_VE_bears 29 = .ok (.lmul, 1) := by decide +kernel
theorem d_VE_bears_30 : decode b_VE_bears 30 = .ok (.lload 6, 2) := by decide +kernel
theorem d_VE_bears_32 : decode b_VE_bears 32 = .ok (.lsub, 1) := by decide +kernel
theorem d_VE_bears_33 : decode b_VE_bears 33 = .ok (.lstore 8, 2) := by decide +kernel
theorem d_VE_bears_35 : decode b_VE_bears 35 = .ok (.lload 8, 2) := by decide +kernel
theorem d_VE_bears_37 : decode b_VE_bears 37 = .ok (.lconst 0, 1) := by decide +kernel
theorem d_VE_bears_38 : decode b_VE_bears 38 = .ok (.lcmp, 1) := by decide +kernel
theorem d_VE_bears_39 : decode b_VE_bears 39 = .ok (.ifCond .le 25, 3) := by decide +kernel
theorem d_VE_bears_42 : decode b_VE_bears 42 = .ok (.aload_n 0, 1) := by decide +kernel
theorem d_VE_bears_43 : decode b_VE_bears 43 = .ok (.aload_n 0, 1) := by decide +kernel
theorem d_VE_bears_44 : decode b_VE_bears 44 = .ok (.invokevirtual 51, 3) := by decide +kernel
theorem d_VE_bears_47 : decode b_VE_bears 47 = .ok (.lload 8, 2) := by decide +kernel
theorem d_VE_bears_49 : decode b_VE_bears 49 = .ok (.ladd, 1) := by decide +kernel
theorem d_VE_bears_50 : decode b_VE_bears 50 = .ok (.aload_n 0, 1) := by decide +kernel
theorem d_VE_bears_51 : decode b_VE_bears 51 = .ok (.getfield 55, 3) := by decide +kernel
theorem d_VE_bears_54 : decode b_VE_bears 54 = .ok (.invokevirtual 58, 3) := by decide +kernel
theorem d_VE_bears_57 : decode b_VE_bears 57 = .ok (.ifCond .eq 7, 3) := by decide +kernel
theorem d_VE_bears_60 : decode b_VE_bears 60 = .ok (.iconst 1, 1) := by decide +kernel
theorem d_VE_bears_61 : decode b_VE_bears 61 = .ok (.goto 4, 3) := by decide +kernel
theorem d_VE_bears_64 : decode b_VE_bears 64 = .ok (.iconst 0, 1) := by decide +kernel
theorem d_VE_bears_65 : decode b_VE_bears 65 = .ok (.istore 10, 2) := by decide +kernel
theorem d_VE_bears_67 : decode b_VE_bears 67 = .ok (.lload 6, 2) := by decide +kernel
theorem d_VE_bears_69 : decode b_VE_bears 69 = .ok (.lconst 0, 1) := by decide +kernel
theorem d_VE_bears_70 : decode b_VE_bears 70 = .ok (.lcmp, 1) := by decide +kernel
theorem d_VE_bears_71 : decode b_VE_bears 71 = .ok (.ifCond .le 25, 3) := by decide +kernel
theorem d_VE_bears_74 : decode b_VE_bears 74 = .ok (.aload_n 0, 1) := by decide +kernel
theorem d_VE_bears_75 : decode b_VE_bears 75 = .ok (.aload_n 0, 1) := by decide +kernel
theorem d_VE_bears_76 : decode b_VE_bears 76 = .ok (.invokevirtual 62, 3) := by decide +kernel
theorem d_VE_bears_79 : decode b_VE_bears 79 = .ok (.lload 6, 2) := by decide +kernel
theorem d_VE_bears_81 : decode b_VE_bears 81 = .ok (.ladd, 1) := by decide +kernel
theorem d_VE_bears_82 : decode b_VE_bears 82 = .ok (.aload_n 0, 1) := by decide +kernel
theorem d_VE_bears_83 : decode b_VE_bears 83 = .ok (.getfield 65, 3) := by decide +kernel
theorem d_VE_bears_86 : decode b_VE_bears 86 = .ok (.invokevirtual 58, 3) := by decide +kernel
theorem d_VE_bears_89 : decode b_VE_bears 89 = .ok (.ifCond .eq 7, 3) := by decide +kernel
theorem d_VE_bears_92 : decode b_VE_bears 92 = .ok (.iconst 1, 1) := by decide +kernel
theorem d_VE_bears_93 : decode b_VE_bears 93 = .ok (.goto 4, 3) := by decide +kernel
theorem d_VE_bears_96 : decode b_VE_bears 96 = .ok (.iconst 0, 1) := by decide +kernel
theorem d_VE_bears_97 : decode b_VE_bears 97 = .ok (.istore 11, 2) := by decide +kernel
theorem d_VE_bears_99 : decode b_VE_bears 99 = .ok (.iload 10, 2) := by decide +kernel
theorem d_VE_bears_101 : decode b_VE_bears 101 = .ok (.ifCond .ne 12, 3) := by decide +kernel
theorem d_VE_bears_104 : decode b_VE_bears 104 = .ok (.iload 11, 2) := by decide +kernel
theorem d_VE_bears_106 : decode b_VE_bears 106 = .ok (.ifCond .ne 7, 3) := by decide +kernel
theorem d_VE_bears_109 : decode b_VE_bears 109 = .ok (.iconst 1, 1) := by decide +kernel
theorem d_VE_bears_110 : decode b_VE_bears 110 = .ok (.goto 4, 3) := by decide +kernel
theorem d_VE_bears_113 : decode b_VE_bears 113 = .ok (.iconst 0, 1) := by decide +kernel
theorem d_VE_bears_114 : decode b_VE_bears 114 = .ok (.ireturn, 1) := by decide +kernel
theorem d_VE_load_0 : decode b_VE_load 0 = .ok (.iload_n 3, 1) := by decide +kernel
theorem d_VE_load_1 : decode b_VE_load 1 = .ok (.i2l, 1) := by decide +kernel
theorem d_VE_load_2 : decode b_VE_load 2 = .ok (.iload_n 2, 1) := by decide +kernel
theorem d_VE_load_3 : decode b_VE_load 3 = .ok (.i2l, 1) := by decide +kernel
theorem d_VE_load_4 : decode b_VE_load 4 = .ok (.lmul, 1) := by decide +kernel
theorem d_VE_load_5 : decode b_VE_load 5 = .ok (.lstore 4, 2) := by decide +kernel
theorem d_VE_load_7 : decode b_VE_load 7 = .ok (.aload_n 0, 1) := by decide +kernel
theorem d_VE_load_8 : decode b_VE_load 8 = .ok (.getfield 19, 3) := by decide +kernel
theorem d_VE_load_11 : decode b_VE_load 11 = .ok (.iload_n 1, 1) := by decide +kernel
theorem d_VE_load_12 : decode b_VE_load 12 = .ok (.dup2, 1) := by decide +kernel
theorem d_VE_load_13 : decode b_VE_load 13 = .ok (.iaload, 1) := by decide +kernel
theorem d_VE_load_14 : decode b_VE_load 14 = .ok (.iload_n 2, 1) := by decide +kernel
theorem d_VE_load_15 : decode b_VE_load 15 = .ok (.iadd, 1) := by decide +kernel
theorem d_VE_load_16 : decode b_VE_load 16 = .ok (.iastore, 1) := by decide +kernel
theorem d_VE_load_17 : decode b_VE_load 17 = .ok (.aload_n 0, 1) := by decide +kernel
theorem d_VE_load_18 : decode b_VE_load 18 = .ok (.dup, 1) := by decide +kernel
theorem d_VE_load_19 : decode b_VE_load 19 = .ok (.getfield 44, 3) := by decide +kernel
theorem d_VE_load_22 : decode b_VE_load 22 = .ok (.lload 4, 2) := by decide +kernel
theorem d_VE_load_24 : decode b_VE_load 24 = .ok (.ladd, 1) := by decide +kernel
theorem d_VE_load_25 : decode b_VE_load 25 = .ok (.putfield 44, 3) := by decide +kernel
theorem d_VE_load_28 : decode b_VE_load 28 = .ok (.aload_n 0, 1) := by decide +kernel
theorem d_VE_load_29 : decode b_VE_load 29 = .ok (.dup, 1) := by decide +kernel
theorem d_VE_load_30 : decode b_VE_load 30 = .ok (.getfield 48, 3) := by decide +kernel
theorem d_VE_load_33 : decode b_VE_load 33 = .ok (.lload 4, 2) := by decide +kernel
theorem d_VE_load_35 : decode b_VE_load 35 = .ok (.aload_n 0, 1) := by decide +kernel
theorem d_VE_load_36 : decode b_VE_load 36 = .ok (.getfield 9, 3) := by decide +kernel
theorem d_VE_load_39 : decode b_VE_load 39 = .ok (.iload_n 1, 1) := by decide +kernel
theorem d_VE_load_40 : decode b_VE_load 40 = .ok (.bipush 30, 2) := by decide +kernel
theorem d_VE_load_42 : decode b_VE_load 42 = .ok (.idiv, 1) := by decide +kernel
theorem d_VE_load_43 : decode b_VE_load 43 = .ok (.iaload, 1) := by decide +kernel
theorem d_VE_load_44 : decode b_VE_load 44 = .ok (.i2l, 1) := by decide +kernel
theorem d_VE_load_45 : decode b_VE_load 45 = .ok (.lmul, 1) := by decide +kernel
theorem d_VE_load_46 : decode b_VE_load 46 = .ok (.ladd, 1) := by decide +kernel
theorem d_VE_load_47 : decode b_VE_load 47 = .ok (.putfield 48, 3) := by decide +kernel
theorem d_VE_load_50 : decode b_VE_load 50 = .ok (.return_, 1) := by decide +kernel
theorem d_VE_isEmpty_0 : decode b_VE_isEmpty 0 = .ok (.iconst 0, 1) := by decide +kernel
theorem d_VE_isEmpty_1 : decode b_VE_isEmpty 1 = .ok (.istore_n 2, 1) := by decide +kernel
theorem d_VE_isEmpty_2 : decode b_VE_isEmpty 2 = .ok (.iload_n 2, 1) := by decide +kernel
theorem d_VE_isEmpty_3 : decode b_VE_isEmpty 3 = .ok (.bipush 30, 2) := by decide +kernel
theorem d_VE_isEmpty_5 : decode b_VE_isEmpty 5 = .ok (.if_icmp .ge 24, 3) := by decide +kernel
theorem d_VE_isEmpty_8 : decode b_VE_isEmpty 8 = .ok (.aload_n 0, 1) := by decide +kernel
theorem d_VE_isEmpty_9 : decode b_VE_isEmpty 9 = .ok (.getfield 19, 3) := by decide +kernel
theorem d_VE_isEmpty_12 : decode b_VE_isEmpty 12 = .ok (.iload_n 1, 1) := by decide +kernel
theorem d_VE_isEmpty_13 : decode b_VE_isEmpty 13 = .ok (.iload_n 2, 1) := by decide +kernel
theorem d_VE_isEmpty_14 : decode b_VE_isEmpty 14 = .ok (.invokestatic 68, 3) := by decide +kernel
theorem d_VE_isEmpty_17 : decode b_VE_isEmpty 17 = .ok (.iaload, 1) := by decide +kernel
theorem d_VE_isEmpty_18 : decode b_VE_isEmpty 18 = .ok (.ifCond .le 5, 3) := by decide +kernel
theorem d_VE_isEmpty_21 : decode b_VE_isEmpty 21 = .ok (.iconst 0, 1) := by decide +kernel
theorem d_VE_isEmpty_22 : decode b_VE_isEmpty 22 = .ok (.ireturn, 1) := by decide +kernel
theorem d_VE_isEmpty_23 : decode b_VE_isEmpty 23 = .ok (.iinc 2 1, 3) := by decide +kernel
theorem d_VE_isEmpty_26 : decode b_VE_isEmpty 26 = .ok (.goto (-24), 3) := by decide +kernel
theorem d_VE_isEmpty_29 : decode b_VE_isEmpty 29 = .ok (.iconst 1, 1) := by decide +kernel
theorem d_VE_isEmpty_30 : decode b_VE_isEmpty 30 = .ok (.ireturn, 1) := by decide +kernel
theorem d_VE_carries_0 : decode b_VE_carries 0 = .ok (.iconst 0, 1) := by decide +kernel
theorem d_VE_carries_1 : decode b_VE_carries 1 = .ok (.istore_n 2, 1) := by decide +kernel
theorem d_VE_carries_2 : decode b_VE_carries 2 = .ok (.iload_n 2, 1) := by decide +kernel
theorem d_VE_carries_3 : decode b_VE_carries 3 = .ok (.bipush 8, 2) := by decide +kernel
theorem d_VE_carries_5 : decode b_VE_carries 5 = .ok (.if_icmp .ge 24, 3) := by decide +kernel
theorem d_VE_carries_8 : decode b_VE_carries 8 = .ok (.aload_n 0, 1) := by decide +kernel
theorem d_VE_carries_9 : decode b_VE_carries 9 = .ok (.getfield 19, 3) := by decide +kernel
theorem d_VE_carries_12 : decode b_VE_carries 12 = .ok (.iload_n 2, 1) := by decide +kernel
theorem d_VE_carries_13 : decode b_VE_carries 13 = .ok (.iload_n 1, 1) := by decide +kernel
theorem d_VE_carries_14 : decode b_VE_carries 14 = .ok (.invokestatic 68, 3) := by decide +kernel
theorem d_VE_carries_17 : decode b_VE_carries 17 = .ok (.iaload, 1) := by decide +kernel
theorem d_VE_carries_18 : decode b_VE_carries 18 = .ok (.ifCond .le 5, 3) := by decide +kernel
theorem d_VE_carries_21 : decode b_VE_carries 21 = .ok (.iconst 1, 1) := by decide +kernel
theorem d_VE_carries_22 : decode b_VE_carries 22 = .ok (.ireturn, 1) := by decide +kernel
theorem d_VE_carries_23 : decode b_VE_carries 23 = .ok (.iinc 2 1, 3) := by decide +kernel
theorem d_VE_carries_26 : decode b_VE_carries 26 = .ok (.goto (-24), 3) := by decide +kernel
theorem d_VE_carries_29 : decode b_VE_carries 29 = .ok (.iconst 0, 1) := by decide +kernel
theorem d_VE_carries_30 : decode b_VE_carries 30 = .ok (.ireturn, 1) := by decide +kernel
theorem d_VE_lackOf_0 : decode b_VE_lackOf 0 = .ok (.iload_n 2, 1) := by decide +kernel
theorem d_VE_lackOf_1 : decode b_VE_lackOf 1 = .ok (.aload_n 0, 1) := by decide +kernel
theorem d_VE_lackOf_2 : decode b_VE_lackOf 2 = .ok (.getfield 19, 3) := by decide +kernel
theorem d_VE_lackOf_5 : decode b_VE_lackOf 5 = .ok (.iload_n 1, 1) := by decide +kernel
theorem d_VE_lackOf_6 : decode b_VE_lackOf 6 = .ok (.iaload, 1) := by decide +kernel
theorem d_VE_lackOf_7 : decode b_VE_lackOf 7 = .ok (.isub, 1) := by decide +kernel
theorem d_VE_lackOf_8 : decode b_VE_lackOf 8 = .ok (.iconst 0, 1) := by decide +kernel
theorem d_VE_lackOf_9 : decode b_VE_lackOf 9 = .ok (.invokestatic 72, 3) := by decide +kernel
theorem d_VE_lackOf_12 : decode b_VE_lackOf 12 = .ok (.ireturn, 1) := by decide +kernel
theorem d_VE_missingCell_0 : decode b_VE_missingCell 0 = .ok (.iconst 0, 1) := by decide +kernel
theorem d_VE_missingCell_1 : decode b_VE_missingCell 1 = .ok (.istore_n 3, 1) := by decide +kernel
theorem d_VE_missingCell_2 : decode b_VE_missingCell 2 = .ok (.iconst 0, 1) := by decide +kernel
theorem d_VE_missingCell_3 : decode b_VE_missingCell 3 = .ok (.istore 4, 2) := by decide +kernel
theorem d_VE_missingCell_5 : decode b_VE_missingCell 5 = .ok (.iload 4, 2) := by decide +kernel
theorem d_VE_missingCell_7 : decode b_VE_missingCell 7 = .ok (.sipush 240, 3) := by decide +kernel
theorem d_VE_missingCell_10 : decode b_VE_missingCell 10 = .ok (.if_icmp .ge 33, 3) := by decide +kernel
theorem d_VE_missingCell_13 : decode b_VE_missingCell 13 = .ok (.aload_n 0, 1) := by decide +kernel
theorem d_VE_missingCell_14 : decode b_VE_missingCell 14 = .ok (.iload 4, 2) := by decide +kernel
theorem d_VE_missingCell_16 : decode b_VE_missingCell 16 = .ok (.aload_n 1, 1) := by decide +kernel
theorem d_VE_missingCell_17 : decode b_VE_missingCell 17 = .ok (.iload 4, 2) := by decide +kernel
theorem d_VE_missingCell_19 : decode b_VE_missingCell 19 = .ok (.iaload, 1) := by decide +kernel
theorem d_VE_missingCell_20 : decode b_VE_missingCell 20 = .ok (.invokevirtual 77, 3) := by decide +kernel
theorem d_VE_missingCell_23 : decode b_VE_missingCell 23 = .ok (.ifCond .le 14, 3) := by decide +kernel
theorem d_VE_missingCell_26 : decode b_VE_missingCell 26 = .ok (.iload_n 3, 1) := by decide +kernel
theorem d_VE_missingCell_27 : decode b_VE_missingCell 27 = .ok (.iload_n 2, 1) := by decide +kernel
theorem d_VE_missingCell_28 : decode b_VE_missingCell 28 = .ok (.if_icmp .ne 6, 3) := by decide +kernel
theorem d_VE_missingCell_31 : decode b_VE_missingCell 31 = .ok (.iload 4, 2) := by decide +kernel
theorem d_VE_missingCell_33 : decode b_VE_missingCell 33 = .ok (.ireturn, 1) := by decide +kernel
theorem d_VE_missingCell_34 : decode b_VE_missingCell 34 = .ok (.iinc 3 1, 3) := by decide +kernel
theorem d_VE_missingCell_37 : decode b_VE_missingCell 37 = .ok (.iinc 4 1, 3) := by decide +kernel
theorem d_VE_missingCell_40 : decode b_VE_missingCell 40 = .ok (.goto (-35), 3) := by decide +kernel
theorem d_VE_missingCell_43 : decode b_VE_missingCell 43 = .ok (.iconst (-1), 1) := by decide +kernel
theorem d_VE_missingCell_44 : decode b_VE_missingCell 44 = .ok (.ireturn, 1) := by decide +kernel
theorem d_VE_hasBrokenSeal_0 : decode b_VE_hasBrokenSeal 0 = .ok (.iconst 0, 1) := by decide +kernel
theorem d_VE_hasBrokenSeal_1 : decode b_VE_hasBrokenSeal 1 = .ok (.istore_n 1, 1) := by decide +kernel
theorem d_VE_hasBrokenSeal_2 : decode b_VE_hasBrokenSeal 2 = .ok (.iload_n 1, 1) := by decide +kernel
theorem d_VE_hasBrokenSeal_3 : decode b_VE_hasBrokenSeal 3 = .ok (.bipush 8, 2) := by decide +kernel
theorem d_VE_hasBrokenSeal_5 : decode b_VE_hasBrokenSeal 5 = .ok (.if_icmp .ge 20, 3) := by decide +kernel
theorem d_VE_hasBrokenSeal_8 : decode b_VE_hasBrokenSeal 8 = .ok (.aload_n 0, 1) := by decide +kernel
theorem d_VE_hasBrokenSeal_9 : decode b_VE_hasBrokenSeal 9 = .ok (.getfield 15, 3) := by decide +kernel
theorem d_VE_hasBrokenSeal_12 : decode b_VE_hasBrokenSeal 12 = .ok (.iload_n 1, 1) := by decide +kernel
theorem d_VE_hasBrokenSeal_13 : decode b_VE_hasBrokenSeal 13 = .ok (.baload, 1) := by decide +kernel
theorem d_VE_hasBrokenSeal_14 : decode b_VE_hasBrokenSeal 14 = .ok (.ifCond .eq 5, 3) := by decide +kernel
theorem d_VE_hasBrokenSeal_17 : decode b_VE_hasBrokenSeal 17 = .ok (.iconst 1, 1) := by decide +kernel
theorem d_VE_hasBrokenSeal_18 : decode b_VE_hasBrokenSeal 18 = .ok (.ireturn, 1) := by decide +kernel
theorem d_VE_hasBrokenSeal_19 : decode b_VE_hasBrokenSeal 19 = .ok (.iinc 1 1, 3) := by decide +kernel
theorem d_VE_hasBrokenSeal_22 : decode b_VE_hasBrokenSeal 22 = .ok (.goto (-20), 3) := by decide +kernel
theorem d_VE_hasBrokenSeal_25 : decode b_VE_hasBrokenSeal 25 = .ok (.iconst 0, 1) := by decide +kernel
theorem d_VE_hasBrokenSeal_26 : decode b_VE_hasBrokenSeal 26 = .ok (.ireturn, 1) := by decide +kernel
theorem d_VE_needsPastItem_0 : decode b_VE_needsPastItem 0 = .ok (.iconst 0, 1) := by decide +kernel
theorem d_VE_needsPastItem_1 : decode b_VE_needsPastItem 1 = .ok (.istore_n 3, 1) := by decide +kernel
theorem d_VE_needsPastItem_2 : decode b_VE_needsPastItem 2 = .ok (.iload_n 3, 1) := by decide +kernel
theorem d_VE_needsPastItem_3 : decode b_VE_needsPastItem 3 = .ok (.sipush 240, 3) := by decide +kernel
theorem d_VE_needsPastItem_6 : decode b_VE_needsPastItem 6 = .ok (.if_icmp .ge 40, 3) := by decide +kernel
theorem d_VE_needsPastItem_9 : decode b_VE_needsPastItem 9 = .ok (.aload_n 0, 1) := by decide +kernel
theorem d_VE_needsPastItem_10 : decode b_VE_needsPastItem 10 = .ok (.getfield 22, 3) := by decide +kernel
theorem d_VE_needsPastItem_13 : decode b_VE_needsPastItem 13 = .ok (.iload_n 3, 1) := by decide +kernel
theorem d_VE_needsPastItem_14 : decode b_VE_needsPastItem 14 = .ok (.bipush 30, 2) := by decide +kernel
theorem d_VE_needsPastItem_16 : decode b_VE_needsPastItem 16 = .ok (.irem, 1) := by decide +kernel
theorem d_VE_needsPastItem_17 : decode b_VE_needsPastItem 17 = .ok (.iaload, 1) := by decide +kernel
theorem d_VE_needsPastItem_18 : decode b_VE_needsPastItem 18 = .ok (.istore 4, 2) := by decide +kernel
theorem d_VE_needsPastItem_20 : decode b_VE_needsPastItem 20 = .ok (.aload_n 1, 1) := by decide +kernel
theorem d_VE_needsPastItem_21 : decode b_VE_needsPastItem 21 = .ok (.iload_n 3, 1) := by decide +kernel
theorem d_VE_needsPastItem_22 : decode b_VE_needsPastItem 22 = .ok (.iaload, 1) := by decide +kernel
theorem d_VE_needsPastItem_23 : decode b_VE_needsPastItem 23 = .ok (.ifCond .le 17, 3) := by decide +kernel
theorem d_VE_needsPastItem_26 : decode b_VE_needsPastItem 26 = .ok (.iload 4, 2) := by decide +kernel
theorem d_VE_needsPastItem_28 : decode b_VE_needsPastItem 28 = .ok (.iconst (-1), 1) := by decide +kernel
theorem d_VE_needsPastItem_29 : decode b_VE_needsPastItem 29 = .ok (.if_icmp .eq 11, 3) := by decide +kernel
theorem d_VE_needsPastItem_32 : decode b_VE_needsPastItem 32 = .ok (.iload_n 2, 1) := by decide +kernel
theorem d_VE_needsPastItem_33 : decode b_VE_needsPastItem 33 = .ok (.iload 4, 2) := by decide +kernel
theorem d_VE_needsPastItem_35 : decode b_VE_needsPastItem 35 = .ok (.if_icmp .lt 5, 3) := by decide +kernel
theorem d_VE_needsPastItem_38 : decode b_VE_needsPastItem 38 = .ok (.iconst 1, 1) := by decide +kernel
theorem d_VE_needsPastItem_39 : decode b_VE_needsPastItem 39 = .ok (.ireturn, 1) := by decide +kernel
theorem d_VE_needsPastItem_40 : decode b_VE_needsPastItem 40 = .ok (.iinc 3 1, 3) := by decide +kernel
theorem d_VE_needsPastItem_43 : decode b_VE_needsPastItem 43 = .ok (.goto (-41), 3) := by decide +kernel
theorem d_VE_needsPastItem_46 : decode b_VE_needsPastItem 46 = .ok (.iconst 0, 1) := by decide +kernel
theorem d_VE_needsPastItem_47 : decode b_VE_needsPastItem 47 = .ok (.ireturn, 1) := by decide +kernel
theorem d_VE_needsWeakItem_0 : decode b_VE_needsWeakItem 0 = .ok (.iconst 0, 1) := by decide +kernel
theorem d_VE_needsWeakItem_1 : decode b_VE_needsWeakItem 1 = .ok (.istore_n 3, 1) := by decide +kernel
theorem d_VE_needsWeakItem_2 : decode b_VE_needsWeakItem 2 = .ok (.iload_n 3, 1) := by decide +kernel
theorem d_VE_needsWeakItem_3 : decode b_VE_needsWeakItem 3 = .ok (.sipush 240, 3) := by decide +kernel
theorem d_VE_needsWeakItem_6 : decode b_VE_needsWeakItem 6 = .ok (.if_icmp .ge 37, 3) := by decide +kernel
theorem d_VE_needsWeakItem_9 : decode b_VE_needsWeakItem 9 = .ok (.iload_n 3, 1) := by decide +kernel
theorem d_VE_needsWeakItem_10 : decode b_VE_needsWeakItem 10 = .ok (.bipush 30, 2) := by decide +kernel
theorem d_VE_needsWeakItem_12 : decode b_VE_needsWeakItem 12 = .ok (.irem, 1) := by decide +kernel
theorem d_VE_needsWeakItem_13 : decode b_VE_needsWeakItem 13 = .ok (.istore 4, 2) := by decide +kernel
theorem d_VE_needsWeakItem_15 : decode b_VE_needsWeakItem 15 = .ok (.aload_n 1, 1) := by decide +kernel
theorem d_VE_needsWeakItem_16 : decode b_VE_needsWeakItem 16 = .ok (.iload_n 3, 1) := by decide +kernel
theorem d_VE_needsWeakItem_17 : decode b_VE_needsWeakItem 17 = .ok (.iaload, 1) := by decide +kernel
theorem d_VE_needsWeakItem_18 : decode b_VE_needsWeakItem 18 = .ok (.ifCond .le 19, 3) := by decide +kernel
theorem d_VE_needsWeakItem_21 : decode b_VE_needsWeakItem 21 = .ok (.aload_n 0, 1) := by decide +kernel
theorem d_VE_needsWeakItem_22 : decode b_VE_needsWeakItem 22 = .ok (.getfield 25, 3) := by decide +kernel
theorem d_VE_needsWeakItem_25 : decode b_VE_needsWeakItem 25 = .ok (.iload 4, 2) := by decide +kernel
theorem d_VE_needsWeakItem_27 : decode b_VE_needsWeakItem 27 = .ok (.iaload, 1) := by decide +kernel
theorem d_VE_needsWeakItem_28 : decode b_VE_needsWeakItem 28 = .ok (.aload_n 2, 1) := by decide +kernel
theorem d_VE_needsWeakItem_29 : decode b_VE_needsWeakItem 29 = .ok (.iload 4, 2) := by decide +kernel
theorem d_VE_needsWeakItem_31 : decode b_VE_needsWeakItem 31 = .ok (.iaload, 1) := by decide +kernel
theorem d_VE_needsWeakItem_32 : decode b_VE_needsWeakItem 32 = .ok (.if_icmp .ge 5, 3) := by decide +kernel
theorem d_VE_needsWeakItem_35 : decode b_VE_needsWeakItem 35 = .ok (.iconst 1, 1) := by decide +kernel
theorem d_VE_needsWeakItem_36 : decode b_VE_needsWeakItem 36 = .ok (.ireturn, 1) := by decide +kernel
theorem d_VE_needsWeakItem_37 : decode b_VE_needsWeakItem 37 = .ok (.iinc 3 1, 3) := by decide +kernel
theorem d_VE_needsWeakItem_40 : decode b_VE_needsWeakItem 40 = .ok (.goto (-38), 3) := by decide +kernel
theorem d_VE_needsWeakItem_43 : decode b_VE_needsWeakItem 43 = .ok (.iconst 0, 1) := by decide +kernel
theorem d_VE_needsWeakItem_44 : decode b_VE_needsWeakItem 44 = .ok (.ireturn, 1) := by decide +kernel
theorem d_RW_init_0 : decode b_RW_init 0 = .ok (.aload_n 0, 1) := by decide +kernel
theorem d_RW_init_1 : decode b_RW_init 1 = .ok (.invokespecial 1, 3) := by decide +kernel
theorem d_RW_init_4 : decode b_RW_init 4 = .ok (.aload_n 0, 1) := by decide +kernel
theorem d_RW_init_5 : decode b_RW_init 5 = .ok (.sipush 300, 3) := by decide +kernel
theorem d_RW_init_8 : decode b_RW_init 8 = .ok (.newarray .int, 2) := by decide +kernel
theorem d_RW_init_10 : decode b_RW_init 10 = .ok (.putfield 9, 3) := by decide +kernel
theorem d_RW_init_13 : decode b_RW_init 13 = .ok (.return_, 1) := by decide +kernel
theorem d_RW_add_0 : decode b_RW_add 0 = .ok (.aload_n 0, 1) := by decide +kernel
theorem d_RW_add_1 : decode b_RW_add 1 = .ok (.getfield 13, 3) := by decide +kernel
theorem d_RW_add_4 : decode b_RW_add 4 = .ok (.ldc2_w 17, 3) := by decide +kernel
theorem d_RW_add_7 : decode b_RW_add 7 = .ok (.lrem, 1) := by decide +kernel
theorem d_RW_add_8 : decode b_RW_add 8 = .ok (.l2i, 1) := by decide +kernel
theorem d_RW_add_9 : decode b_RW_add 9 = .ok (.iconst 3, 1) := by decide +kernel
theorem d_RW_add_10 : decode b_RW_add 10 = .ok (.imul, 1) := by decide +kernel
theorem d_RW_add_11 : decode b_RW_add 11 = .ok (.istore 4, 2) := by decide +kernel
theorem d_RW_add_13 : decode b_RW_add 13 = .ok (.aload_n 0, 1) := by decide +kernel
theorem d_RW_add_14 : decode b_RW_add 14 = .ok (.getfield 9, 3) := by decide +kernel
theorem d_RW_add_17 : decode b_RW_add 17 = .ok (.iload 4, 2) := by decide +kernel
theorem d_RW_add_19 : decode b_RW_add 19 = .ok (.iload_n 1, 1) := by decide +kernel
theorem d_RW_add_20 : decode b_RW_add 20 = .ok (.iastore, 1) := by decide +kernel
theorem d_RW_add_21 : decode b_RW_add 21 = .ok (.aload_n 0, 1) := by decide +kernel
theorem d_RW_add_22 : decode b_RW_add 22 = .ok (.getfield 9, 3) := by decide +kernel
theorem d_RW_add_25 : decode b_RW_add 25 = .ok (.iload 4, 2) := by decide +kernel
theorem d_RW_add_27 : decode b_RW_add 27 = .ok (.iconst 1, 1) := by decide +kernel
theorem d_RW_add_28 : decode b_RW_add 28 = .ok (.iadd, 1) := by decide +kernel
theorem d_RW_add_29 : decode b_RW_add 29 = .ok (.iload_n 2, 1) := by decide +kernel
theorem d_RW_add_30 : decode b_RW_add 30 = .ok (.iastore, 1) := by decide +kernel
theorem d_RW_add_31 : decode b_RW_add 31 = .ok (.aload_n 0, 1) := by decide +kernel
theorem d_RW_add_32 : decode b_RW_add 32 = .ok (.getfield 9, 3) := by decide +kernel
theorem d_RW_add_35 : decode b_RW_add 35 = .ok (.iload 4, 2) := by decide +kernel
theorem d_RW_add_37 : decode b_RW_add 37 = .ok (.iconst 2, 1) := by decide +kernel
theorem d_RW_add_38 : decode b_RW_add 38 = .ok (.iadd, 1) := by decide +kernel
theorem d_RW_add_39 : decode b_RW_add 39 = .ok (.iload_n 3, 1) := by decide +kernel
theorem d_RW_add_40 : decode b_RW_add 40 = .ok (.iastore, 1) := by decide +kernel
theorem d_RW_add_41 : decode b_RW_add 41 = .ok (.aload_n 0, 1) := by decide +kernel
theorem d_RW_add_42 : decode b_RW_add 42 = .ok (.dup, 1) := by decide +kernel
theorem d_RW_add_43 : decode b_RW_add 43 = .ok (.getfield 13, 3) := by decide +kernel
theorem d_RW_add_46 : decode b_RW_add 46 = .ok (.lconst 1, 1) := by decide +kernel
theorem d_RW_add_47 : decode b_RW_add 47 = .ok (.ladd, 1) := by decide +kernel
theorem d_RW_add_48 : decode b_RW_add 48 = .ok (.putfield 13, 3) := by decide +kernel
theorem d_RW_add_51 : decode b_RW_add 51 = .ok (.return_, 1) := by decide +kernel
theorem d_RW_keeps_0 : decode b_RW_keeps 0 = .ok (.iload_n 1, 1) := by decide +kernel
theorem d_RW_keeps_1 : decode b_RW_keeps 1 = .ok (.ifCond .lt 31, 3) := by decide +kernel
theorem d_RW_keeps_4 : decode b_RW_keeps 4 = .ok (.iload_n 1, 1) := by decide +kernel
theorem d_RW_keeps_5 : decode b_RW_keeps 5 = .ok (.i2l, 1) := by decide +kernel
theorem d_RW_keeps_6 : decode b_RW_keeps 6 = .ok (.aload_n 0, 1) := by decide +kernel
theorem d_RW_keeps_7 : decode b_RW_keeps 7 = .ok (.getfield 13, 3) := by decide +kernel
theorem d_RW_keeps_10 : decode b_RW_keeps 10 = .ok (.lcmp, 1) := by decide +kernel
theorem d_RW_keeps_11 : decode b_RW_keeps 11 = .ok (.ifCond .ge 21, 3) := by decide +kernel
theorem d_RW_keeps_14 : decode b_RW_keeps 14 = .ok (.iload_n 1, 1) := by decide +kernel
theorem d_RW_keeps_15 : decode b_RW_keeps 15 = .ok (.i2l, 1) := by decide +kernel
theorem d_RW_keeps_16 : decode b_RW_keeps 16 = .ok (.aload_n 0, 1) := by decide +kernel
theorem d_RW_keeps_17 : decode b_RW_keeps 17 = .ok (.getfield 13, 3) := by decide +kernel
theorem d_RW_keeps_20 : decode b_RW_keeps 20 = .ok (.ldc2_w 17, 3) := by decide +kernel
theorem d_RW_keeps_23 : decode b_RW_keeps 23 = .ok (.lsub, 1) := by decide +kernel
theorem d_RW_keeps_24 : decode b_RW_keeps 24 = .ok (.lcmp, 1) := by decide +kernel
theorem d_RW_keeps_25 : decode b_RW_keeps 25 = .ok (.ifCond .lt 7, 3) := by decide +kernel
theorem d_RW_keeps_28 : decode b_RW_keeps 28 = .ok (.iconst 1, 1) := by decide +kernel
theorem d_RW_keeps_29 : decode b_RW_keeps 29 = .ok (.goto 4, 3) := by decide +kernel
theorem d_RW_keeps_32 : decode b_RW_keeps 32 = .ok (.iconst 0, 1) := by decide +kernel
theorem d_RW_keeps_33 : decode b_RW_keeps 33 = .ok (.ireturn, 1) := by decide +kernel
theorem d_RW_number_0 : decode b_RW_number 0 = .ok (.aload_n 0, 1) := by decide +kernel
theorem d_RW_number_1 : decode b_RW_number 1 = .ok (.getfield 9, 3) := by decide +kernel
theorem d_RW_number_4 : decode b_RW_number 4 = .ok (.iload_n 1, 1) := by decide +kernel
theorem d_RW_number_5 : decode b_RW_number 5 = .ok (.bipush 100, 2) := by decide +kernel
theorem d_RW_number_7 : decode b_RW_number 7 = .ok (.irem, 1) := by decide +kernel
theorem d_RW_number_8 : decode b_RW_number 8 = .ok (.iconst 3, 1) := by decide +kernel
theorem d_RW_number_9 : decode b_RW_number 9 = .ok (.imul, 1) := by decide +kernel
theorem d_RW_number_10 : decode b_RW_number 10 = .ok (.iload_n 2, 1) := by decide +kernel
theorem d_RW_number_11 : decode b_RW_number 11 = .ok (.iadd, 1) := by decide +kernel
theorem d_RW_number_12 : decode b_RW_number 12 = .ok (.iaload, 1) := by decide +kernel
theorem d_RW_number_13 : decode b_RW_number 13 = .ok (.ireturn, 1) := by decide +kernel
theorem d_AR_fill_0 : decode b_AR_fill 0 = .ok (.iconst 0, 1) := by decide +kernel
theorem d_AR_fill_1 : decode b_AR_fill 1 = .ok (.istore_n 2, 1) := by decide +kernel
theorem d_AR_fill_2 : decode b_AR_fill 2 = .ok (.aload_n 0, 1) := by decide +kernel
theorem d_AR_fill_3 : decode b_AR_fill 3 = .ok (.arraylength, 1) := by decide +kernel
theorem d_AR_fill_4 : decode b_AR_fill 4 = .ok (.istore_n 3, 1) := by decide +kernel
theorem d_AR_fill_5 : decode b_AR_fill 5 = .ok (.iload_n 2, 1) := by decide +kernel
theorem d_AR_fill_6 : decode b_AR_fill 6 = .ok (.iload_n 3, 1) := by decide +kernel
theorem d_AR_fill_7 : decode b_AR_fill 7 = .ok (.if_icmp .ge 13, 3) := by decide +kernel
theorem d_AR_fill_10 : decode b_AR_fill 10 = .ok (.aload_n 0, 1) := by decide +kernel
theorem d_AR_fill_11 : decode b_AR_fill 11 = .ok (.iload_n 2, 1) := by decide +kernel
theorem d_AR_fill_12 : decode b_AR_fill 12 = .ok (.iload_n 1, 1) := by decide +kernel
theorem d_AR_fill_13 : decode b_AR_fill 13 = .ok (.iastore, 1) := by decide +kernel
theorem d_AR_fill_14 : decode b_AR_fill 14 = .ok (.iinc 2 1, 3) := by decide +kernel
theorem d_AR_fill_17 : decode b_AR_fill 17 = .ok (.goto (-12), 3) := by decide +kernel
theorem d_AR_fill_20 : decode b_AR_fill 20 = .ok (.return_, 1) := by decide +kernel
