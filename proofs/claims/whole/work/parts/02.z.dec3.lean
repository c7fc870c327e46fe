theorem d_LW_vehicle_0 : decode b_LW_vehicle 0 = .ok (.aload 5, 2) := by decide +kernel
theorem d_LW_vehicle_2 : decode b_LW_vehicle 2 = .ok (.iconst 0, 1) := by decide +kernel
theorem d_LW_vehicle_3 : decode b_LW_vehicle 3 = .ok (.aload_n 0, 1) := by decide +kernel
theorem d_LW_vehicle_4 : decode b_LW_vehicle 4 = .ok (.iload_n 1, 1) := by decide +kernel
theorem d_LW_vehicle_5 : decode b_LW_vehicle 5 = .ok (.iload_n 2, 1) := by decide +kernel
theorem d_LW_vehicle_6 : decode b_LW_vehicle 6 = .ok (.iload_n 3, 1) := by decide +kernel
theorem d_LW_vehicle_7 : decode b_LW_vehicle 7 = .ok (.iload 4, 2) := by decide +kernel
theorem d_LW_vehicle_9 : decode b_LW_vehicle 9 = .ok (.invokevirtual 7, 3) := by decide +kernel
theorem d_LW_vehicle_12 : decode b_LW_vehicle 12 = .ok (.i2l, 1) := by decide +kernel
theorem d_LW_vehicle_13 : decode b_LW_vehicle 13 = .ok (.lastore, 1) := by decide +kernel
theorem d_LW_vehicle_14 : decode b_LW_vehicle 14 = .ok (.goto 15, 3) := by decide +kernel
theorem d_LW_vehicle_17 : decode b_LW_vehicle 17 = .ok (.astore 6, 2) := by decide +kernel
theorem d_LW_vehicle_19 : decode b_LW_vehicle 19 = .ok (.iconst 1, 1) := by decide +kernel
theorem d_LW_vehicle_20 : decode b_LW_vehicle 20 = .ok (.ireturn, 1) := by decide +kernel
theorem d_LW_vehicle_21 : decode b_LW_vehicle 21 = .ok (.astore 6, 2) := by decide +kernel
theorem d_LW_vehicle_23 : decode b_LW_vehicle 23 = .ok (.iconst 2, 1) := by decide +kernel
theorem d_LW_vehicle_24 : decode b_LW_vehicle 24 = .ok (.ireturn, 1) := by decide +kernel
theorem d_LW_vehicle_25 : decode b_LW_vehicle 25 = .ok (.astore 6, 2) := by decide +kernel
theorem d_LW_vehicle_27 : decode b_LW_vehicle 27 = .ok (.iconst 3, 1) := by decide +kernel
theorem d_LW_vehicle_28 : decode b_LW_vehicle 28 = .ok (.ireturn, 1) := by decide +kernel
theorem d_LW_vehicle_29 : decode b_LW_vehicle 29 = .ok (.iconst 0, 1) := by decide +kernel
theorem d_LW_vehicle_30 : decode b_LW_vehicle 30 = .ok (.ireturn, 1) := by decide +kernel
theorem d_LW_limits_0 : decode b_LW_limits 0 = .ok (.aload_n 0, 1) := by decide +kernel
theorem d_LW_limits_1 : decode b_LW_limits 1 = .ok (.iload_n 1, 1) := by decide +kernel
theorem d_LW_limits_2 : decode b_LW_limits 2 = .ok (.iload_n 2, 1) := by decide +kernel
theorem d_LW_limits_3 : decode b_LW_limits 3 = .ok (.iload_n 3, 1) := by decide +kernel
theorem d_LW_limits_4 : decode b_LW_limits 4 = .ok (.invokevirtual 19, 3) := by decide +kernel
theorem d_LW_limits_7 : decode b_LW_limits 7 = .ok (.goto 11, 3) := by decide +kernel
theorem d_LW_limits_10 : decode b_LW_limits 10 = .ok (.astore 4, 2) := by decide +kernel
theorem d_LW_limits_12 : decode b_LW_limits 12 = .ok (.iconst 1, 1) := by decide +kernel
theorem d_LW_limits_13 : decode b_LW_limits 13 = .ok (.ireturn, 1) := by decide +kernel
theorem d_LW_limits_14 : decode b_LW_limits 14 = .ok (.astore 4, 2) := by decide +kernel
theorem d_LW_limits_16 : decode b_LW_limits 16 = .ok (.iconst 2, 1) := by decide +kernel
theorem d_LW_limits_17 : decode b_LW_limits 17 = .ok (.ireturn, 1) := by decide +kernel
theorem d_LW_limits_18 : decode b_LW_limits 18 = .ok (.iconst 0, 1) := by decide +kernel
theorem d_LW_limits_19 : decode b_LW_limits 19 = .ok (.ireturn, 1) := by decide +kernel
theorem d_LW_place_0 : decode b_LW_place 0 = .ok (.aload_n 0, 1) := by decide +kernel
theorem d_LW_place_1 : decode b_LW_place 1 = .ok (.iload_n 1, 1) := by decide +kernel
theorem d_LW_place_2 : decode b_LW_place 2 = .ok (.iload_n 2, 1) := by decide +kernel
theorem d_LW_place_3 : decode b_LW_place 3 = .ok (.iload_n 3, 1) := by decide +kernel
theorem d_LW_place_4 : decode b_LW_place 4 = .ok (.invokevirtual 23, 3) := by decide +kernel
theorem d_LW_place_7 : decode b_LW_place 7 = .ok (.goto 15, 3) := by decide +kernel
theorem d_LW_place_10 : decode b_LW_place 10 = .ok (.astore 4, 2) := by decide +kernel
theorem d_LW_place_12 : decode b_LW_place 12 = .ok (.iconst 1, 1) := by decide +kernel
theorem d_LW_place_13 : decode b_LW_place 13 = .ok (.ireturn, 1) := by decide +kernel
theorem d_LW_place_14 : decode b_LW_place 14 = .ok (.astore 4, 2) := by decide +kernel
theorem d_LW_place_16 : decode b_LW_place 16 = .ok (.iconst 2, 1) := by decide +kernel
theorem d_LW_place_17 : decode b_LW_place 17 = .ok (.ireturn, 1) := by decide +kernel
theorem d_LW_place_18 : decode b_LW_place 18 = .ok (.astore 4, 2) := by decide +kernel
theorem d_LW_place_20 : decode b_LW_place 20 = .ok (.iconst 3, 1) := by decide +kernel
theorem d_LW_place_21 : decode b_LW_place 21 = .ok (.ireturn, 1) := by decide +kernel
theorem d_LW_place_22 : decode b_LW_place 22 = .ok (.iconst 0, 1) := by decide +kernel
theorem d_LW_place_23 : decode b_LW_place 23 = .ok (.ireturn, 1) := by decide +kernel
theorem d_LW_item_0 : decode b_LW_item 0 = .ok (.aload_n 0, 1) := by decide +kernel
theorem d_LW_item_1 : decode b_LW_item 1 = .ok (.iload_n 1, 1) := by decide +kernel
theorem d_LW_item_2 : decode b_LW_item 2 = .ok (.iload_n 2, 1) := by decide +kernel
theorem d_LW_item_3 : decode b_LW_item 3 = .ok (.iload_n 3, 1) := by decide +kernel
theorem d_LW_item_4 : decode b_LW_item 4 = .ok (.invokevirtual 28, 3) := by decide +kernel
theorem d_LW_item_7 : decode b_LW_item 7 = .ok (.goto 15, 3) := by decide +kernel
theorem d_LW_item_10 : decode b_LW_item 10 = .ok (.astore 4, 2) := by decide +kernel
theorem d_LW_item_12 : decode b_LW_item 12 = .ok (.iconst 1, 1) := by decide +kernel
theorem d_LW_item_13 : decode b_LW_item 13 = .ok (.ireturn, 1) := by decide +kernel
theorem d_LW_item_14 : decode b_LW_item 14 = .ok (.astore 4, 2) := by decide +kernel
theorem d_LW_item_16 : decode b_LW_item 16 = .ok (.iconst 2, 1) := by decide +kernel
theorem d_LW_item_17 : decode b_LW_item 17 = .ok (.ireturn, 1) := by decide +kernel
theorem d_LW_item_18 : decode b_LW_item 18 = .ok (.astore 4, 2) := by decide +kernel
theorem d_LW_item_20 : decode b_LW_item 20 = .ok (.iconst 3, 1) := by decide +kernel
theorem d_LW_item_21 : decode b_LW_item 21 = .ok (.ireturn, 1) := by decide +kernel
theorem d_LW_item_22 : decode b_LW_item 22 = .ok (.iconst 0, 1) := by decide +kernel
theorem d_LW_item_23 : decode b_LW_item 23 = .ok (.ireturn, 1) := by decide +kernel
theorem d_LW_list_0 : decode b_LW_list 0 = .ok (.aload_n 0, 1) := by decide +kernel
theorem d_LW_list_1 : decode b_LW_list 1 = .ok (.iload_n 1, 1) := by decide +kernel
theorem d_LW_list_2 : decode b_LW_list 2 = .ok (.iload_n 2, 1) := by decide +kernel
theorem d_LW_list_3 : decode b_LW_list 3 = .ok (.iload_n 3, 1) := by decide +kernel
theorem d_LW_list_4 : decode b_LW_list 4 = .ok (.iload 4, 2) := by decide +kernel
theorem d_LW_list_6 : decode b_LW_list 6 = .ok (.invokevirtual 31, 3) := by decide +kernel
theorem d_LW_list_9 : decode b_LW_list 9 = .ok (.goto 11, 3) := by decide +kernel
theorem d_LW_list_12 : decode b_LW_list 12 = .ok (.astore 5, 2) := by decide +kernel
theorem d_LW_list_14 : decode b_LW_list 14 = .ok (.iconst 1, 1) := by decide +kernel
theorem d_LW_list_15 : decode b_LW_list 15 = .ok (.ireturn, 1) := by decide +kernel
theorem d_LW_list_16 : decode b_LW_list 16 = .ok (.astore 5, 2) := by decide +kernel
theorem d_LW_list_18 : decode b_LW_list 18 = .ok (.iconst 2, 1) := by decide +kernel
theorem d_LW_list_19 : decode b_LW_list 19 = .ok (.ireturn, 1) := by decide +kernel
theorem d_LW_list_20 : decode b_LW_list 20 = .ok (.iconst 0, 1) := by decide +kernel
theorem d_LW_list_21 : decode b_LW_list 21 = .ok (.ireturn, 1) := by decide +kernel
theorem d_LW_stock_0 : decode b_LW_stock 0 = .ok (.aload_n 3, 1) := by decide +kernel
theorem d_LW_stock_1 : decode b_LW_stock 1 = .ok (.iconst 0, 1) := by decide +kernel
theorem d_LW_stock_2 : decode b_LW_stock 2 = .ok (.aload_n 0, 1) := by decide +kernel
theorem d_LW_stock_3 : decode b_LW_stock 3 = .ok (.iload_n 1, 1) := by decide +kernel
theorem d_LW_stock_4 : decode b_LW_stock 4 = .ok (.iload_n 2, 1) := by decide +kernel
theorem d_LW_stock_5 : decode b_LW_stock 5 = .ok (.invokevirtual 35, 3) := by decide +kernel
theorem d_LW_stock_8 : decode b_LW_stock 8 = .ok (.i2l, 1) := by decide +kernel
theorem d_LW_stock_9 : decode b_LW_stock 9 = .ok (.lastore, 1) := by decide +kernel
theorem d_LW_stock_10 : decode b_LW_stock 10 = .ok (.goto 15, 3) := by decide +kernel
theorem d_LW_stock_13 : decode b_LW_stock 13 = .ok (.astore 4, 2) := by decide +kernel
theorem d_LW_stock_15 : decode b_LW_stock 15 = .ok (.iconst 1, 1) := by decide +kernel
theorem d_LW_stock_16 : decode b_LW_stock 16 = .ok (.ireturn, 1) := by decide +kernel
theorem d_LW_stock_17 : decode b_LW_stock 17 = .ok (.astore 4, 2) := by decide +kernel
theorem d_LW_stock_19 : decode b_LW_stock 19 = .ok (.iconst 2, 1) := by decide +kernel
theorem d_LW_stock_20 : decode b_LW_stock 20 = .ok (.ireturn, 1) := by decide +kernel
theorem d_LW_stock_21 : decode b_LW_stock 21 = .ok (.astore 4, 2) := by decide +kernel
theorem d_LW_stock_23 : decode b_LW_stock 23 = .ok (.iconst 3, 1) := by decide +kernel
theorem d_LW_stock_24 : decode b_LW_stock 24 = .ok (.ireturn, 1) := by decide +kernel
theorem d_LW_stock_25 : decode b_LW_stock 25 = .ok (.iconst 0, 1) := by decide +kernel
theorem d_LW_stock_26 : decode b_LW_stock 26 = .ok (.ireturn, 1) := by decide +kernel
theorem d_LW_put_0 : decode b_LW_put 0 = .ok (.aload 5, 2) := by decide +kernel
theorem d_LW_put_2 : decode b_LW_put 2 = .ok (.iconst 0, 1) := by decide +kernel
theorem d_LW_put_3 : decode b_LW_put 3 = .ok (.aload_n 0, 1) := by decide +kernel
theorem d_LW_put_4 : decode b_LW_put 4 = .ok (.iload_n 1, 1) := by decide +kernel
theorem d_LW_put_5 : decode b_LW_put 5 = .ok (.iload_n 2, 1) := by decide +kernel
theorem d_LW_put_6 : decode b_LW_put 6 = .ok (.iload_n 3, 1) := by decide +kernel
theorem d_LW_put_7 : decode b_LW_put 7 = .ok (.iload 4, 2) := by decide +kernel
theorem d_LW_put_9 : decode b_LW_put 9 = .ok (.invokevirtual 39, 3) := by decide +kernel
theorem d_LW_put_12 : decode b_LW_put 12 = .ok (.i2l, 1) := by decide +kernel
theorem d_LW_put_13 : decode b_LW_put 13 = .ok (.lastore, 1) := by decide +kernel
theorem d_LW_put_14 : decode b_LW_put 14 = .ok (.goto 19, 3) := by decide +kernel
theorem d_LW_put_17 : decode b_LW_put 17 = .ok (.astore 6, 2) := by decide +kernel
theorem d_LW_put_19 : decode b_LW_put 19 = .ok (.iconst 1, 1) := by decide +kernel
theorem d_LW_put_20 : decode b_LW_put 20 = .ok (.ireturn, 1) := by decide +kernel
theorem d_LW_put_21 : decode b_LW_put 21 = .ok (.astore 6, 2) := by decide +kernel
theorem d_LW_put_23 : decode b_LW_put 23 = .ok (.iconst 2, 1) := by decide +kernel
theorem d_LW_put_24 : decode b_LW_put 24 = .ok (.ireturn, 1) := by decide +kernel
theorem d_LW_put_25 : decode b_LW_put 25 = .ok (.astore 6, 2) := by decide +kernel
theorem d_LW_put_27 : decode b_LW_put 27 = .ok (.iconst 3, 1) := by decide +kernel
theorem d_LW_put_28 : decode b_LW_put 28 = .ok (.ireturn, 1) := by decide +kernel
theorem d_LW_put_29 : decode b_LW_put 29 = .ok (.astore 6, 2) := by decide +kernel
theorem d_LW_put_31 : decode b_LW_put 31 = .ok (.iconst 4, 1) := by decide +kernel
theorem d_LW_put_32 : decode b_LW_put 32 = .ok (.ireturn, 1) := by decide +kernel
theorem d_LW_put_33 : decode b_LW_put 33 = .ok (.iconst 0, 1) := by decide +kernel
theorem d_LW_put_34 : decode b_LW_put 34 = .ok (.ireturn, 1) := by decide +kernel
theorem d_LW_use_0 : decode b_LW_use 0 = .ok (.aload 5, 2) := by decide +kernel
theorem d_LW_use_2 : decode b_LW_use 2 = .ok (.iconst 0, 1) := by decide +kernel
theorem d_LW_use_3 : decode b_LW_use 3 = .ok (.aload_n 0, 1) := by decide +kernel
theorem d_LW_use_4 : decode b_LW_use 4 = .ok (.iload_n 1, 1) := by decide +kernel
theorem d_LW_use_5 : decode b_LW_use 5 = .ok (.iload_n 2, 1) := by decide +kernel
theorem d_LW_use_6 : decode b_LW_use 6 = .ok (.iload_n 3, 1) := by decide +kernel
theorem d_LW_use_7 : decode b_LW_use 7 = .ok (.iload 4, 2) := by decide +kernel
theorem d_LW_use_9 : decode b_LW_use 9 = .ok (.invokevirtual 42, 3) := by decide +kernel
theorem d_LW_use_12 : decode b_LW_use 12 = .ok (.i2l, 1) := by decide +kernel
theorem d_LW_use_13 : decode b_LW_use 13 = .ok (.lastore, 1) := by decide +kernel
theorem d_LW_use_14 : decode b_LW_use 14 = .ok (.goto 15, 3) := by decide +kernel
theorem d_LW_use_17 : decode b_LW_use 17 = .ok (.astore 6, 2) := by decide +kernel
theorem d_LW_use_19 : decode b_LW_use 19 = .ok (.iconst 1, 1) := by decide +kernel
theorem d_LW_use_20 : decode b_LW_use 20 = .ok (.ireturn, 1) := by decide +kernel
theorem d_LW_use_21 : decode b_LW_use 21 = .ok (.astore 6, 2) := by decide +kernel
theorem d_LW_use_23 : decode b_LW_use 23 = .ok (.iconst 2, 1) := by decide +kernel
theorem d_LW_use_24 : decode b_LW_use 24 = .ok (.ireturn, 1) := by decide +kernel
theorem d_LW_use_25 : decode b_LW_use 25 = .ok (.astore 6, 2) := by decide +kernel
theorem d_LW_use_27 : decode b_LW_use 27 = .ok (.iconst 3, 1) := by decide +kernel
theorem d_LW_use_28 : decode b_LW_use 28 = .ok (.ireturn, 1) := by decide +kernel
theorem d_LW_use_29 : decode b_LW_use 29 = .ok (.iconst 0, 1) := by decide +kernel
theorem d_LW_use_30 : decode b_LW_use 30 = .ok (.ireturn, 1) := by decide +kernel
theorem d_LW_replace_0 : decode b_LW_replace 0 = .ok (.aload_n 2, 1) := by decide +kernel
theorem d_LW_replace_1 : decode b_LW_replace 1 = .ok (.iconst 0, 1) := by decide +kernel
theorem d_LW_replace_2 : decode b_LW_replace 2 = .ok (.aload_n 0, 1) := by decide +kernel
theorem d_LW_replace_3 : decode b_LW_replace 3 = .ok (.iload_n 1, 1) := by decide +kernel
theorem d_LW_replace_4 : decode b_LW_replace 4 = .ok (.invokevirtual 45, 3) := by decide +kernel
theorem d_LW_replace_7 : decode b_LW_replace 7 = .ok (.i2l, 1) := by decide +kernel
theorem d_LW_replace_8 : decode b_LW_replace 8 = .ok (.lastore, 1) := by decide +kernel
theorem d_LW_replace_9 : decode b_LW_replace 9 = .ok (.goto 6, 3) := by decide +kernel
theorem d_LW_replace_12 : decode b_LW_replace 12 = .ok (.astore_n 3, 1) := by decide +kernel
theorem d_LW_replace_13 : decode b_LW_replace 13 = .ok (.iconst 1, 1) := by decide +kernel
theorem d_LW_replace_14 : decode b_LW_replace 14 = .ok (.ireturn, 1) := by decide +kernel
theorem d_LW_replace_15 : decode b_LW_replace 15 = .ok (.iconst 0, 1) := by decide +kernel
theorem d_LW_replace_16 : decode b_LW_replace 16 = .ok (.ireturn, 1) := by decide +kernel
theorem d_LW_swap_0 : decode b_LW_swap 0 = .ok (.aload_n 0, 1) := by decide +kernel
theorem d_LW_swap_1 : decode b_LW_swap 1 = .ok (.iload_n 1, 1) := by decide +kernel
theorem d_LW_swap_2 : decode b_LW_swap 2 = .ok (.iload_n 2, 1) := by decide +kernel
theorem d_LW_swap_3 : decode b_LW_swap 3 = .ok (.iload_n 3, 1) := by decide +kernel
theorem d_LW_swap_4 : decode b_LW_swap 4 = .ok (.iload 4, 2) := by decide +kernel
theorem d_LW_swap_6 : decode b_LW_swap 6 = .ok (.iload 5, 2) := by decide +kernel
theorem d_LW_swap_8 : decode b_LW_swap 8 = .ok (.invokevirtual 49, 3) := by decide +kernel
theorem d_LW_swap_11 : decode b_LW_swap 11 = .ok (.goto 19, 3) := by decide +kernel
theorem d_LW_swap_14 : decode b_LW_swap 14 = .ok (.astore 6, 2) := by decide +kernel
theorem d_LW_swap_16 : decode b_LW_swap 16 = .ok (.iconst 1, 1) := by decide +kernel
theorem d_LW_swap_17 : decode b_LW_swap 17 = .ok (.ireturn, 1) := by decide +kernel
theorem d_LW_swap_18 : decode b_LW_swap 18 = .ok (.astore 6, 2) := by decide +kernel
theorem d_LW_swap_20 : decode b_LW_swap 20 = .ok (.iconst 2, 1) := by decide +kernel
theorem d_LW_swap_21 : decode b_LW_swap 21 = .ok (.ireturn, 1) := by decide +kernel
theorem d_LW_swap_22 : decode b_LW_swap 22 = .ok (.astore 6, 2) := by decide +kernel
theorem d_LW_swap_24 : decode b_LW_swap 24 = .ok (.iconst 3, 1) := by decide +kernel
theorem d_LW_swap_25 : decode b_LW_swap 25 = .ok (.ireturn, 1) := by decide +kernel
theorem d_LW_swap_26 : decode b_LW_swap 26 = .ok (.astore 6, 2) := by decide +kernel
theorem d_LW_swap_28 : decode b_LW_swap 28 = .ok (.iconst 4, 1) := by decide +kernel
theorem d_LW_swap_29 : decode b_LW_swap 29 = .ok (.ireturn, 1) := by decide +kernel
theorem d_LW_swap_30 : decode b_LW_swap 30 = .ok (.iconst 0, 1) := by decide +kernel
theorem d_LW_swap_31 : decode b_LW_swap 31 = .ok (.ireturn, 1) := by decide +kernel
theorem d_LW_ends_0 : decode b_LW_ends 0 = .ok (.aload_n 0, 1) := by decide +kernel
theorem d_LW_ends_1 : decode b_LW_ends 1 = .ok (.iload_n 1, 1) := by decide +kernel
theorem d_LW_ends_2 : decode b_LW_ends 2 = .ok (.iload_n 2, 1) := by decide +kernel
theorem d_LW_ends_3 : decode b_LW_ends 3 = .ok (.iload_n 3, 1) := by decide +kernel
theorem d_LW_ends_4 : decode b_LW_ends 4 = .ok (.invokevirtual 53, 3) := by decide +kernel
theorem d_LW_ends_7 : decode b_LW_ends 7 = .ok (.goto 11, 3) := by decide +kernel
theorem d_LW_ends_10 : decode b_LW_ends 10 = .ok (.astore 4, 2) := by decide +kernel
theorem d_LW_ends_12 : decode b_LW_ends 12 = .ok (.iconst 1, 1) := by decide +kernel
theorem d_LW_ends_13 : decode b_LW_ends 13 = .ok (.ireturn, 1) := by decide +kernel
theorem d_LW_ends_14 : decode b_LW_ends 14 = .ok (.astore 4, 2) := by decide +kernel
theorem d_LW_ends_16 : decode b_LW_ends 16 = .ok (.iconst 2, 1) := by decide +kernel
theorem d_LW_ends_17 : decode b_LW_ends 17 = .ok (.ireturn, 1) := by decide +kernel
theorem d_LW_ends_18 : decode b_LW_ends 18 = .ok (.iconst 0, 1) := by decide +kernel
theorem d_LW_ends_19 : decode b_LW_ends 19 = .ok (.ireturn, 1) := by decide +kernel
theorem d_LW_battery_0 : decode b_LW_battery 0 = .ok (.aload_n 0, 1) := by decide +kernel
theorem d_LW_battery_1 : decode b_LW_battery 1 = .ok (.iload_n 1, 1) := by decide +kernel
theorem d_LW_battery_2 : decode b_LW_battery 2 = .ok (.iload_n 2, 1) := by decide +kernel
theorem d_LW_battery_3 : decode b_LW_battery 3 = .ok (.iload_n 3, 1) := by decide +kernel
theorem d_LW_battery_4 : decode b_LW_battery 4 = .ok (.invokevirtual 56, 3) := by decide +kernel
theorem d_LW_battery_7 : decode b_LW_battery 7 = .ok (.goto 11, 3) := by decide +kernel
theorem d_LW_battery_10 : decode b_LW_battery 10 = .ok (.astore 4, 2) := by decide +kernel
theorem d_LW_battery_12 : decode b_LW_battery 12 = .ok (.iconst 1, 1) := by decide +kernel
theorem d_LW_battery_13 : decode b_LW_battery 13 = .ok (.ireturn, 1) := by decide +kernel
theorem d_LW_battery_14 : decode b_LW_battery 14 = .ok (.astore 4, 2) := by decide +kernel
theorem d_LW_battery_16 : decode b_LW_battery 16 = .ok (.iconst 2, 1) := by decide +kernel
theorem d_LW_battery_17 : decode b_LW_battery 17 = .ok (.ireturn, 1) := by decide +kernel
theorem d_LW_battery_18 : decode b_LW_battery 18 = .ok (.iconst 0, 1) := by decide +kernel
theorem d_LW_battery_19 : decode b_LW_battery 19 = .ok (.ireturn, 1) := by decide +kernel
theorem d_LW_seal_0 : decode b_LW_seal 0 = .ok (.aload_n 0, 1) := by decide +kernel
theorem d_LW_seal_1 : decode b_LW_seal 1 = .ok (.iload_n 1, 1) := by decide +kernel
theorem d_LW_seal_2 : decode b_LW_seal 2 = .ok (.iload_n 2, 1) := by decide +kernel
theorem d_LW_seal_3 : decode b_LW_seal 3 = .ok (.iload_n 3, 1) := by decide +kernel
theorem d_LW_seal_4 : decode b_LW_seal 4 = .ok (.invokevirtual 59, 3) := by decide +kernel
theorem d_LW_seal_7 : decode b_LW_seal 7 = .ok (.goto 11, 3) := by decide +kernel
theorem d_LW_seal_10 : decode b_LW_seal 10 = .ok (.astore 4, 2) := by decide +kernel
theorem d_LW_seal_12 : decode b_LW_seal 12 = .ok (.iconst 1, 1) := by decide +kernel
theorem d_LW_seal_13 : decode b_LW_seal 13 = .ok (.ireturn, 1) := by decide +kernel
theorem d_LW_seal_14 : decode b_LW_seal 14 = .ok (.astore 4, 2) := by decide +kernel
theorem d_LW_seal_16 : decode b_LW_seal 16 = .ok (.iconst 2, 1) := by decide +kernel
theorem d_LW_seal_17 : decode b_LW_seal 17 = .ok (.ireturn, 1) := by decide +kernel
theorem d_LW_seal_18 : decode b_LW_seal 18 = .ok (.iconst 0, 1) := by decide +kernel
theorem d_LW_seal_19 : decode b_LW_seal 19 = .ok (.ireturn, 1) := by decide +kernel
theorem d_LW_check_0 : decode b_LW_check 0 = .ok (.aload_n 0, 1) := by decide +kernel
theorem d_LW_check_1 : decode b_LW_check 1 = .ok (.iload_n 1, 1) := by decide +kernel
theorem d_LW_check_2 : decode b_LW_check 2 = .ok (.invokevirtual 63, 3) := by decide +kernel
theorem d_LW_check_5 : decode b_LW_check 5 = .ok (.goto 6, 3) := by decide +kernel
theorem d_LW_check_8 : decode b_LW_check 8 = .ok (.astore_n 2, 1) := by decide +kernel
theorem d_LW_check_9 : decode b_LW_check 9 = .ok (.iconst 1, 1) := by decide +kernel
theorem d_LW_check_10 : decode b_LW_check 10 = .ok (.ireturn, 1) := by decide +kernel
theorem d_LW_check_11 : decode b_LW_check 11 = .ok (.iconst 0, 1) := by decide +kernel
theorem d_LW_check_12 : decode b_LW_check 12 = .ok (.ireturn, 1) := by decide +kernel
theorem d_LW_now_0 : decode b_LW_now 0 = .ok (.aload_n 0, 1) := by decide +kernel
theorem d_LW_now_1 : decode b_LW_now 1 = .ok (.iload_n 1, 1) := by decide +kernel
theorem d_LW_now_2 : decode b_LW_now 2 = .ok (.iload_n 2, 1) := by decide +kernel
theorem d_LW_now_3 : decode b_LW_now 3 = .ok (.invokevirtual 67, 3) := by decide +kernel
theorem d_LW_now_6 : decode b_LW_now 6 = .ok (.goto 6, 3) := by decide +kernel
theorem d_LW_now_9 : decode b_LW_now 9 = .ok (.astore_n 3, 1) := by decide +kernel
theorem d_LW_now_10 : decode b_LW_now 10 = .ok (.iconst 1, 1) := by decide +kernel
theorem d_LW_now_11 : decode b_LW_now 11 = .ok (.ireturn, 1) := by decide +kernel
theorem d_LW_now_12 : decode b_LW_now 12 = .ok (.iconst 0, 1) := by decide +kernel
theorem d_LW_now_13 : decode b_LW_now 13 = .ok (.ireturn, 1) := by decide +kernel
theorem d_LW_ready_0 : decode b_LW_ready 0 = .ok (.aload_n 2, 1) := by decide +kernel
theorem d_LW_ready_1 : decode b_LW_ready 1 = .ok (.iconst 0, 1) := by decide +kernel
theorem d_LW_ready_2 : decode b_LW_ready 2 = .ok (.aload_n 0, 1) := by decide +kernel
theorem d_LW_ready_3 : decode b_LW_ready 3 = .ok (.iload_n 1, 1) := by decide +kernel
theorem d_LW_ready_4 : decode b_LW_ready 4 = .ok (.invokevirtual 71, 3) := by decide +kernel
theorem d_LW_ready_7 : decode b_LW_ready 7 = .ok (.i2l, 1) := by decide +kernel
theorem d_LW_ready_8 : decode b_LW_ready 8 = .ok (.lastore, 1) := by decide +kernel
theorem d_LW_ready_9 : decode b_LW_ready 9 = .ok (.goto 6, 3) := by decide +kernel
theorem d_LW_ready_12 : decode b_LW_ready 12 = .ok (.astore_n 3, 1) := by decide +kernel
theorem d_LW_ready_13 : decode b_LW_ready 13 = .ok (.iconst 1, 1) := by decide +kernel
theorem d_LW_ready_14 : decode b_LW_ready 14 = .ok (.ireturn, 1) := by decide +kernel
theorem d_LW_ready_15 : decode b_LW_ready 15 = .ok (.iconst 0, 1) := by decide +kernel
theorem d_LW_ready_16 : decode b_LW_ready 16 = .ok (.ireturn, 1) := by decide +kernel
theorem d_LW_missing_0 : decode b_LW_missing 0 = .ok (.aload_n 3, 1) := by decide +kernel
theorem d_LW_missing_1 : decode b_LW_missing 1 = .ok (.iconst 0, 1) := by decide +kernel
theorem d_LW_missing_2 : decode b_LW_missing 2 = .ok (.aload_n 0, 1) := by decide +kernel
theorem d_LW_missing_3 : decode b_LW_missing 3 = .ok (.iload_n 1, 1) := by decide +kernel
theorem d_LW_missing_4 : decode b_LW_missing 4 = .ok (.iload_n 2, 1) := by decide +kernel
theorem d_LW_missing_5 : decode b_LW_missing 5 = .ok (.invokevirtual 74, 3) := by decide +kernel
theorem d_LW_missing_8 : decode b_LW_missing 8 = .ok (.i2l, 1) := by decide +kernel
theorem d_LW_missing_9 : decode b_LW_missing 9 = .ok (.lastore, 1) := by decide +kernel
theorem d_LW_missing_10 : decode b_LW_missing 10 = .ok (.goto 11, 3) := by decide +kernel
theorem d_LW_missing_13 : decode b_LW_missing 13 = .ok (.astore 4, 2) := by decide +kernel
theorem d_LW_missing_15 : decode b_LW_missing 15 = .ok (.iconst 1, 1) := by decide +kernel
theorem d_LW_missing_16 : decode b_LW_missing 16 = .ok (.ireturn, 1) := by decide +kernel
theorem d_LW_missing_17 : decode b_LW_missing 17 = .ok (.astore 4, 2) := by decide +kernel
theorem d_LW_missing_19 : decode b_LW_missing 19 = .ok (.iconst 2, 1) := by decide +kernel
theorem d_LW_missing_20 : decode b_LW_missing 20 = .ok (.ireturn, 1) := by decide +kernel
theorem d_LW_missing_21 : decode b_LW_missing 21 = .ok (.iconst 0, 1) := by decide +kernel
theorem d_LW_missing_22 : decode b_LW_missing 22 = .ok (.ireturn, 1) := by decide +kernel
theorem d_LW_share_0 : decode b_LW_share 0 = .ok (.aload_n 2, 1) := by decide +kernel
theorem d_LW_share_1 : decode b_LW_share 1 = .ok (.iconst 0, 1) := by decide +kernel
theorem d_LW_share_2 : decode b_LW_share 2 = .ok (.aload_n 0, 1) := by decide +kernel
theorem d_LW_share_3 : decode b_LW_share 3 = .ok (.iload_n 1, 1) := by decide +kernel
theorem d_LW_share_4 : decode b_LW_share 4 = .ok (.invokevirtual 77, 3) := by decide +kernel
theorem d_LW_share_7 : decode b_LW_share 7 = .ok (.i2l, 1) := by decide +kernel
theorem d_LW_share_8 : decode b_LW_share 8 = .ok (.lastore, 1) := by decide +kernel
theorem d_LW_share_9 : decode b_LW_share 9 = .ok (.goto 9, 3) := by decide +kernel
theorem d_LW_share_12 : decode b_LW_share 12 = .ok (.astore_n 3, 1) := by decide +kernel
theorem d_LW_share_13 : decode b_LW_share 13 = .ok (.iconst 1, 1) := by decide +kernel
theorem d_LW_share_14 : decode b_LW_share 14 = .ok (.ireturn, 1) := by decide +kernel
theorem d_LW_share_15 : decode b_LW_share 15 = .ok (.astore_n 3, 1) := by decide +kernel
theorem d_LW_share_16 : decode b_LW_share 16 = .ok (.iconst 2, 1) := by decide +kernel
theorem d_LW_share_17 : decode b_LW_share 17 = .ok (.ireturn, 1) := by decide +kernel
theorem d_LW_share_18 : decode b_LW_share 18 = .ok (.iconst 0, 1) := by decide +kernel
theorem d_LW_share_19 : decode b_LW_share 19 = .ok (.ireturn, 1) := by decide +kernel
theorem d_LW_axle_0 : decode b_LW_axle 0 = .ok (.aload_n 3, 1) := by decide +kernel
theorem d_LW_axle_1 : decode b_LW_axle 1 = .ok (.iconst 0, 1) := by decide +kernel
theorem d_LW_axle_2 : decode b_LW_axle 2 = .ok (.aload_n 0, 1) := by decide +kernel
theorem d_LW_axle_3 : decode b_LW_axle 3 = .ok (.iload_n 1, 1) := by decide +kernel
theorem d_LW_axle_4 : decode b_LW_axle 4 = .ok (.iload_n 2, 1) := by decide +kernel
theorem d_LW_axle_5 : decode b_LW_axle 5 = .ok (.invokevirtual 82, 3) := by decide +kernel
theorem d_LW_axle_8 : decode b_LW_axle 8 = .ok (.lastore, 1) := by decide +kernel
theorem d_LW_axle_9 : decode b_LW_axle 9 = .ok (.goto 7, 3) := by decide +kernel
theorem d_LW_axle_12 : decode b_LW_axle 12 = .ok (.astore 4, 2) := by decide +kernel
theorem d_LW_axle_14 : decode b_LW_axle 14 = .ok (.iconst 1, 1) := by decide +kernel
theorem d_LW_axle_15 : decode b_LW_axle 15 = .ok (.ireturn, 1) := by decide +kernel
theorem d_LW_axle_16 : decode b_LW_axle 16 = .ok (.iconst 0, 1) := by decide +kernel
theorem d_LW_axle_17 : decode b_LW_axle 17 = .ok (.ireturn, 1) := by decide +kernel
theorem d_LW_row_0 : decode b_LW_row 0 = .ok (.aload_n 3, 1) := by decide +kernel
theorem d_LW_row_1 : decode b_LW_row 1 = .ok (.iconst 0, 1) := by decide +kernel
theorem d_LW_row_2 : decode b_LW_row 2 = .ok (.aload_n 0, 1) := by decide +kernel
theorem d_LW_row_3 : decode b_LW_row 3 = .ok (.iload_n 1, 1) := by decide +kernel
theorem d_LW_row_4 : decode b_LW_row 4 = .ok (.iload_n 2, 1) := by decide +kernel
theorem d_LW_row_5 : decode b_LW_row 5 = .ok (.invokevirtual 86, 3) := by decide +kernel
theorem d_LW_row_8 : decode b_LW_row 8 = .ok (.i2l, 1) := by decide +kernel
theorem d_LW_row_9 : decode b_LW_row 9 = .ok (.lastore, 1) := by decide +kernel
theorem d_LW_row_10 : decode b_LW_row 10 = .ok (.goto 7, 3) := by decide +kernel
theorem d_LW_row_13 : decode b_LW_row 13 = .ok (.astore 4, 2) := by decide +kernel
theorem d_LW_row_15 : decode b_LW_row 15 = .ok (.iconst 1, 1) := by decide +kernel
theorem d_LW_row_16 : decode b_LW_row 16 = .ok (.ireturn, 1) := by decide +kernel
theorem d_LW_row_17 : decode b_LW_row 17 = .ok (.iconst 0, 1) := by decide +kernel
theorem d_LW_row_18 : decode b_LW_row 18 = .ok (.ireturn, 1) := by decide +kernel
theorem d_LW_has_0 : decode b_LW_has 0 = .ok (.aload 4, 2) := by decide +kernel
theorem d_LW_has_2 : decode b_LW_has 2 = .ok (.iconst 0, 1) := by decide +kernel
theorem d_LW_has_3 : decode b_LW_has 3 = .ok (.aload_n 0, 1) := by decide +kernel
theorem d_LW_has_4 : decode b_LW_has 4 = .ok (.iload_n 1, 1) := by decide +kernel
theorem d_LW_has_5 : decode b_LW_has 5 = .ok (.iload_n 2, 1) := by decide +kernel
theorem d_LW_has_6 : decode b_LW_has 6 = .ok (.iload_n 3, 1) := by decide +kernel
theorem d_LW_has_7 : decode b_LW_has 7 = .ok (.invokevirtual 89, 3) := by decide +kernel
theorem d_LW_has_10 : decode b_LW_has 10 = .ok (.i2l, 1) := by decide +kernel
theorem d_LW_has_11 : decode b_LW_has 11 = .ok (.lastore, 1) := by decide +kernel
theorem d_LW_has_12 : decode b_LW_has 12 = .ok (.goto 7, 3) := by decide +kernel
theorem d_LW_has_15 : decode b_LW_has 15 = .ok (.astore 5, 2) := by decide +kernel
theorem d_LW_has_17 : decode b_LW_has 17 = .ok (.iconst 1, 1) := by decide +kernel
theorem d_LW_has_18 : decode b_LW_has 18 = .ok (.ireturn, 1) := by decide +kernel
theorem d_LW_has_19 : decode b_LW_has 19 = .ok (.iconst 0, 1) := by decide +kernel
theorem d_LW_has_20 : decode b_LW_has 20 = .ok (.ireturn, 1) := by decide +kernel
theorem d_LW_stocked_0 : decode b_LW_stocked 0 = .ok (.aload_n 2, 1) := by decide +kernel
theorem d_LW_stocked_1 : decode b_LW_stocked 1 = .ok (.iconst 0, 1) := by decide +kernel
theorem d_LW_stocked_2 : decode b_LW_stocked 2 = .ok (.aload_n 0, 1) := by decide +kernel
theorem d_LW_stocked_3 : decode b_LW_stocked 3 = .ok (.iload_n 1, 1) := by decide +kernel
theorem d_LW_stocked_4 : decode b_LW_stocked 4 = .ok (.invokevirtual 93, 3) := by decide +kernel
theorem d_LW_stocked_7 : decode b_LW_stocked 7 = .ok (.i2l, 1) := by decide +kernel
theorem d_LW_stocked_8 : decode b_LW_stocked 8 = .ok (.lastore, 1) := by decide +kernel
theorem d_LW_stocked_9 : decode b_LW_stocked 9 = .ok (.goto 6, 3) := by decide +kernel
theorem d_LW_stocked_12 : decode b_LW_stocked 12 = .ok (.astore_n 3, 1) := by decide +kernel
theorem d_LW_stocked_13 : decode b_LW_stocked 13 = .ok (.iconst 1, 1) := by decide +kernel
theorem d_LW_stocked_14 : decode b_LW_stocked 14 = .ok (.ireturn, 1) := by decide +kernel
theorem d_LW_stocked_15 : decode b_LW_stocked 15 = .ok (.iconst 0, 1) := by decide +kernel
theorem d_LW_stocked_16 : decode b_LW_stocked 16 = .ok (.ireturn, 1) := by decide +kernel
