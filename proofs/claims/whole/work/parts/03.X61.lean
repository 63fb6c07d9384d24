theorem dX6_clocksOfBolts_13 : decode cX6_clocksOfBolts 13 = .ok (.iconst 0, 1) := by decide +kernel
theorem dX6_clocksOfBolts_14 : decode cX6_clocksOfBolts 14 = .ok (.istore 4, 2) := by decide +kernel
theorem dX6_clocksOfBolts_16 : decode cX6_clocksOfBolts 16 = .ok (.iload 4, 2) := by decide +kernel
theorem dX6_clocksOfBolts_18 : decode cX6_clocksOfBolts 18 = .ok (.iload_n 2, 1) := by decide +kernel
theorem dX6_clocksOfBolts_19 : decode cX6_clocksOfBolts 19 = .ok (.if_icmp .ge 39, 3) := by decide +kernel
theorem dX6_clocksOfBolts_22 : decode cX6_clocksOfBolts 22 = .ok (.aload_n 0, 1) := by decide +kernel
theorem dX6_clocksOfBolts_23 : decode cX6_clocksOfBolts 23 = .ok (.getfield 16, 3) := by decide +kernel
theorem dX6_clocksOfBolts_26 : decode cX6_clocksOfBolts 26 = .ok (.iload_n 1, 1) := by decide +kernel
theorem dX6_clocksOfBolts_27 : decode cX6_clocksOfBolts 27 = .ok (.invokevirtual 298, 3) := by decide +kernel
theorem dX6_clocksOfBolts_30 : decode cX6_clocksOfBolts 30 = .ok (.ifCond .eq 15, 3) := by decide +kernel
theorem dX6_clocksOfBolts_33 : decode cX6_clocksOfBolts 33 = .ok (.iload_n 3, 1) := by decide +kernel
theorem dX6_clocksOfBolts_34 : decode cX6_clocksOfBolts 34 = .ok (.iconst 1, 1) := by decide +kernel
theorem dX6_clocksOfBolts_35 : decode cX6_clocksOfBolts 35 = .ok (.aload_n 0, 1) := by decide +kernel
theorem dX6_clocksOfBolts_36 : decode cX6_clocksOfBolts 36 = .ok (.getfield 16, 3) := by decide +kernel
theorem dX6_clocksOfBolts_39 : decode cX6_clocksOfBolts 39 = .ok (.invokevirtual 108, 3) := by decide +kernel
theorem dX6_clocksOfBolts_42 : decode cX6_clocksOfBolts 42 = .ok (.ishl, 1) := by decide +kernel
theorem dX6_clocksOfBolts_43 : decode cX6_clocksOfBolts 43 = .ok (.ior, 1) := by decide +kernel
theorem dX6_clocksOfBolts_44 : decode cX6_clocksOfBolts 44 = .ok (.istore_n 3, 1) := by decide +kernel
theorem dX6_clocksOfBolts_45 : decode cX6_clocksOfBolts 45 = .ok (.aload_n 0, 1) := by decide +kernel
theorem dX6_clocksOfBolts_46 : decode cX6_clocksOfBolts 46 = .ok (.getfield 16, 3) := by decide +kernel
theorem dX6_clocksOfBolts_49 : decode cX6_clocksOfBolts 49 = .ok (.invokevirtual 279, 3) := by decide +kernel
theorem dX6_clocksOfBolts_52 : decode cX6_clocksOfBolts 52 = .ok (.iinc 4 1, 3) := by decide +kernel
theorem dX6_clocksOfBolts_55 : decode cX6_clocksOfBolts 55 = .ok (.goto (-39), 3) := by decide +kernel
theorem dX6_clocksOfBolts_58 : decode cX6_clocksOfBolts 58 = .ok (.iload_n 3, 1) := by decide +kernel
theorem dX6_clocksOfBolts_59 : decode cX6_clocksOfBolts 59 = .ok (.ireturn, 1) := by decide +kernel
theorem dX6_bestFrom_0 : decode cX6_bestFrom 0 = .ok (.iconst 0, 1) := by decide +kernel
theorem dX6_bestFrom_1 : decode cX6_bestFrom 1 = .ok (.istore_n 1, 1) := by decide +kernel
theorem dX6_bestFrom_2 : decode cX6_bestFrom 2 = .ok (.iconst 1, 1) := by decide +kernel
theorem dX6_bestFrom_3 : decode cX6_bestFrom 3 = .ok (.istore_n 2, 1) := by decide +kernel
theorem dX6_bestFrom_4 : decode cX6_bestFrom 4 = .ok (.iload_n 2, 1) := by decide +kernel
theorem dX6_bestFrom_5 : decode cX6_bestFrom 5 = .ok (.bipush 24, 2) := by decide +kernel
theorem dX6_bestFrom_7 : decode cX6_bestFrom 7 = .ok (.if_icmp .ge 24, 3) := by decide +kernel
theorem dX6_bestFrom_10 : decode cX6_bestFrom 10 = .ok (.iload_n 0, 1) := by decide +kernel
theorem dX6_bestFrom_11 : decode cX6_bestFrom 11 = .ok (.iload_n 2, 1) := by decide +kernel
theorem dX6_bestFrom_12 : decode cX6_bestFrom 12 = .ok (.invokestatic 197, 3) := by decide +kernel
theorem dX6_bestFrom_15 : decode cX6_bestFrom 15 = .ok (.iload_n 0, 1) := by decide +kernel
theorem dX6_bestFrom_16 : decode cX6_bestFrom 16 = .ok (.iload_n 1, 1) := by decide +kernel
theorem dX6_bestFrom_17 : decode cX6_bestFrom 17 = .ok (.invokestatic 197, 3) := by decide +kernel
theorem dX6_bestFrom_20 : decode cX6_bestFrom 20 = .ok (.if_icmp .ge 5, 3) := by decide +kernel
theorem dX6_bestFrom_23 : decode cX6_bestFrom 23 = .ok (.iload_n 2, 1) := by decide +kernel
theorem dX6_bestFrom_24 : decode cX6_bestFrom 24 = .ok (.istore_n 1, 1) := by decide +kernel
theorem dX6_bestFrom_25 : decode cX6_bestFrom 25 = .ok (.iinc 2 1, 3) := by decide +kernel
theorem dX6_bestFrom_28 : decode cX6_bestFrom 28 = .ok (.goto (-24), 3) := by decide +kernel
theorem dX6_bestFrom_31 : decode cX6_bestFrom 31 = .ok (.iload_n 1, 1) := by decide +kernel
theorem dX6_bestFrom_32 : decode cX6_bestFrom 32 = .ok (.ireturn, 1) := by decide +kernel
theorem dX6_hoursToCover_0 : decode cX6_hoursToCover 0 = .ok (.iload_n 0, 1) := by decide +kernel
theorem dX6_hoursToCover_1 : decode cX6_hoursToCover 1 = .ok (.iload_n 1, 1) := by decide +kernel
theorem dX6_hoursToCover_2 : decode cX6_hoursToCover 2 = .ok (.iushr, 1) := by decide +kernel
theorem dX6_hoursToCover_3 : decode cX6_hoursToCover 3 = .ok (.iload_n 0, 1) := by decide +kernel
theorem dX6_hoursToCover_4 : decode cX6_hoursToCover 4 = .ok (.bipush 24, 2) := by decide +kernel
theorem dX6_hoursToCover_6 : decode cX6_hoursToCover 6 = .ok (.iload_n 1, 1) := by decide +kernel
theorem dX6_hoursToCover_7 : decode cX6_hoursToCover 7 = .ok (.isub, 1) := by decide +kernel
theorem dX6_hoursToCover_8 : decode cX6_hoursToCover 8 = .ok (.ishl, 1) := by decide +kernel
theorem dX6_hoursToCover_9 : decode cX6_hoursToCover 9 = .ok (.ior, 1) := by decide +kernel
theorem dX6_hoursToCover_10 : decode cX6_hoursToCover 10 = .ok (.ldc_w 301, 3) := by decide +kernel
theorem dX6_hoursToCover_13 : decode cX6_hoursToCover 13 = .ok (.iand, 1) := by decide +kernel
theorem dX6_hoursToCover_14 : decode cX6_hoursToCover 14 = .ok (.istore_n 2, 1) := by decide +kernel
theorem dX6_hoursToCover_15 : decode cX6_hoursToCover 15 = .ok (.bipush 32, 2) := by decide +kernel
theorem dX6_hoursToCover_17 : decode cX6_hoursToCover 17 = .ok (.iload_n 2, 1) := by decide +kernel
theorem dX6_hoursToCover_18 : decode cX6_hoursToCover 18 = .ok (.invokestatic 302, 3) := by decide +kernel
theorem dX6_hoursToCover_21 : decode cX6_hoursToCover 21 = .ok (.isub, 1) := by decide +kernel
theorem dX6_hoursToCover_22 : decode cX6_hoursToCover 22 = .ok (.ireturn, 1) := by decide +kernel
theorem dX6_commonDivisor_0 : decode cX6_commonDivisor 0 = .ok (.iload_n 0, 1) := by decide +kernel
theorem dX6_commonDivisor_1 : decode cX6_commonDivisor 1 = .ok (.istore_n 2, 1) := by decide +kernel
theorem dX6_commonDivisor_2 : decode cX6_commonDivisor 2 = .ok (.iload_n 1, 1) := by decide +kernel
theorem dX6_commonDivisor_3 : decode cX6_commonDivisor 3 = .ok (.istore_n 3, 1) := by decide +kernel
theorem dX6_commonDivisor_4 : decode cX6_commonDivisor 4 = .ok (.iconst 0, 1) := by decide +kernel
theorem dX6_commonDivisor_5 : decode cX6_commonDivisor 5 = .ok (.istore 4, 2) := by decide +kernel
theorem dX6_commonDivisor_7 : decode cX6_commonDivisor 7 = .ok (.iload 4, 2) := by decide +kernel
theorem dX6_commonDivisor_9 : decode cX6_commonDivisor 9 = .ok (.bipush 100, 2) := by decide +kernel
theorem dX6_commonDivisor_11 : decode cX6_commonDivisor 11 = .ok (.if_icmp .ge 23, 3) := by decide +kernel
theorem dX6_commonDivisor_14 : decode cX6_commonDivisor 14 = .ok (.iload_n 3, 1) := by decide +kernel
theorem dX6_commonDivisor_15 : decode cX6_commonDivisor 15 = .ok (.ifCond .eq 19, 3) := by decide +kernel
theorem dX6_commonDivisor_18 : decode cX6_commonDivisor 18 = .ok (.iload_n 2, 1) := by decide +kernel
theorem dX6_commonDivisor_19 : decode cX6_commonDivisor 19 = .ok (.iload_n 3, 1) := by decide +kernel
theorem dX6_commonDivisor_20 : decode cX6_commonDivisor 20 = .ok (.irem, 1) := by decide +kernel
theorem dX6_commonDivisor_21 : decode cX6_commonDivisor 21 = .ok (.istore 5, 2) := by decide +kernel
theorem dX6_commonDivisor_23 : decode cX6_commonDivisor 23 = .ok (.iload_n 3, 1) := by decide +kernel
theorem dX6_commonDivisor_24 : decode cX6_commonDivisor 24 = .ok (.istore_n 2, 1) := by decide +kernel
theorem dX6_commonDivisor_25 : decode cX6_commonDivisor 25 = .ok (.iload 5, 2) := by decide +kernel
theorem dX6_commonDivisor_27 : decode cX6_commonDivisor 27 = .ok (.istore_n 3, 1) := by decide +kernel
theorem dX6_commonDivisor_28 : decode cX6_commonDivisor 28 = .ok (.iinc 4 1, 3) := by decide +kernel
theorem dX6_commonDivisor_31 : decode cX6_commonDivisor 31 = .ok (.goto (-24), 3) := by decide +kernel
theorem dX6_commonDivisor_34 : decode cX6_commonDivisor 34 = .ok (.iload_n 2, 1) := by decide +kernel
theorem dX6_commonDivisor_35 : decode cX6_commonDivisor 35 = .ok (.ireturn, 1) := by decide +kernel
theorem dX6_isBooked_0 : decode cX6_isBooked 0 = .ok (.aload_n 0, 1) := by decide +kernel
theorem dX6_isBooked_1 : decode cX6_isBooked 1 = .ok (.getfield 10, 3) := by decide +kernel
theorem dX6_isBooked_4 : decode cX6_isBooked 4 = .ok (.getfield 93, 3) := by decide +kernel
theorem dX6_isBooked_7 : decode cX6_isBooked 7 = .ok (.iload_n 2, 1) := by decide +kernel
theorem dX6_isBooked_8 : decode cX6_isBooked 8 = .ok (.aaload, 1) := by decide +kernel
theorem dX6_isBooked_9 : decode cX6_isBooked 9 = .ok (.getfield 178, 3) := by decide +kernel
theorem dX6_isBooked_12 : decode cX6_isBooked 12 = .ok (.istore_n 3, 1) := by decide +kernel
theorem dX6_isBooked_13 : decode cX6_isBooked 13 = .ok (.iconst 0, 1) := by decide +kernel
theorem dX6_isBooked_14 : decode cX6_isBooked 14 = .ok (.istore 4, 2) := by decide +kernel
theorem dX6_isBooked_16 : decode cX6_isBooked 16 = .ok (.iload 4, 2) := by decide +kernel
theorem dX6_isBooked_18 : decode cX6_isBooked 18 = .ok (.aload_n 1, 1) := by decide +kernel
theorem dX6_isBooked_19 : decode cX6_isBooked 19 = .ok (.getfield 238, 3) := by decide +kernel
theorem dX6_isBooked_22 : decode cX6_isBooked 22 = .ok (.if_icmp .ge 52, 3) := by decide +kernel
theorem dX6_isBooked_25 : decode cX6_isBooked 25 = .ok (.aload_n 1, 1) := by decide +kernel
theorem dX6_isBooked_26 : decode cX6_isBooked 26 = .ok (.getfield 242, 3) := by decide +kernel
theorem dX6_isBooked_29 : decode cX6_isBooked 29 = .ok (.iload 4, 2) := by decide +kernel
theorem dX6_isBooked_31 : decode cX6_isBooked 31 = .ok (.laload, 1) := by decide +kernel
theorem dX6_isBooked_32 : decode cX6_isBooked 32 = .ok (.iload_n 3, 1) := by decide +kernel
theorem dX6_isBooked_33 : decode cX6_isBooked 33 = .ok (.i2l, 1) := by decide +kernel
theorem dX6_isBooked_34 : decode cX6_isBooked 34 = .ok (.lcmp, 1) := by decide +kernel
theorem dX6_isBooked_35 : decode cX6_isBooked 35 = .ok (.ifCond .eq 5, 3) := by decide +kernel
theorem dX6_isBooked_38 : decode cX6_isBooked 38 = .ok (.iconst 0, 1) := by decide +kernel
theorem dX6_isBooked_39 : decode cX6_isBooked 39 = .ok (.ireturn, 1) := by decide +kernel
theorem dX6_isBooked_40 : decode cX6_isBooked 40 = .ok (.aload_n 0, 1) := by decide +kernel
theorem dX6_isBooked_41 : decode cX6_isBooked 41 = .ok (.getfield 16, 3) := by decide +kernel
theorem dX6_isBooked_44 : decode cX6_isBooked 44 = .ok (.iload_n 2, 1) := by decide +kernel
theorem dX6_isBooked_45 : decode cX6_isBooked 45 = .ok (.invokevirtual 298, 3) := by decide +kernel
theorem dX6_isBooked_48 : decode cX6_isBooked 48 = .ok (.ifCond .eq 10, 3) := by decide +kernel
theorem dX6_isBooked_51 : decode cX6_isBooked 51 = .ok (.iload_n 3, 1) := by decide +kernel
theorem dX6_isBooked_52 : decode cX6_isBooked 52 = .ok (.iconst 1, 1) := by decide +kernel
theorem dX6_isBooked_53 : decode cX6_isBooked 53 = .ok (.iadd, 1) := by decide +kernel
theorem dX6_isBooked_54 : decode cX6_isBooked 54 = .ok (.invokestatic 307, 3) := by decide +kernel
theorem dX6_isBooked_57 : decode cX6_isBooked 57 = .ok (.istore_n 3, 1) := by decide +kernel
theorem dX6_isBooked_58 : decode cX6_isBooked 58 = .ok (.aload_n 0, 1) := by decide +kernel
theorem dX6_isBooked_59 : decode cX6_isBooked 59 = .ok (.getfield 16, 3) := by decide +kernel
theorem dX6_isBooked_62 : decode cX6_isBooked 62 = .ok (.getfield 55, 3) := by decide +kernel
theorem dX6_isBooked_65 : decode cX6_isBooked 65 = .ok (.invokevirtual 310, 3) := by decide +kernel
theorem dX6_isBooked_68 : decode cX6_isBooked 68 = .ok (.iinc 4 1, 3) := by decide +kernel
theorem dX6_isBooked_71 : decode cX6_isBooked 71 = .ok (.goto (-55), 3) := by decide +kernel
theorem dX6_isBooked_74 : decode cX6_isBooked 74 = .ok (.iconst 1, 1) := by decide +kernel
theorem dX6_isBooked_75 : decode cX6_isBooked 75 = .ok (.ireturn, 1) := by decide +kernel
theorem dX6_held_0 : decode cX6_held 0 = .ok (.iload_n 0, 1) := by decide +kernel
theorem dX6_held_1 : decode cX6_held 1 = .ok (.ldc_w 313, 3) := by decide +kernel
theorem dX6_held_4 : decode cX6_held 4 = .ok (.invokestatic 266, 3) := by decide +kernel
theorem dX6_held_7 : decode cX6_held 7 = .ok (.ireturn, 1) := by decide +kernel
