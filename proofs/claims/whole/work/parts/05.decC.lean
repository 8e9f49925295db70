theorem dX11_init_0 : decode cX11_init 0 = .ok (.aload_n 0, 1) := by decide +kernel
theorem dX11_init_1 : decode cX11_init 1 = .ok (.invokespecial 1, 3) := by decide +kernel
theorem dX11_init_4 : decode cX11_init 4 = .ok (.aload_n 0, 1) := by decide +kernel
theorem dX11_init_5 : decode cX11_init 5 = .ok (.new 7, 3) := by decide +kernel
theorem dX11_init_8 : decode cX11_init 8 = .ok (.dup, 1) := by decide +kernel
theorem dX11_init_9 : decode cX11_init 9 = .ok (.invokespecial 9, 3) := by decide +kernel
theorem dX11_init_12 : decode cX11_init 12 = .ok (.putfield 10, 3) := by decide +kernel
theorem dX11_init_15 : decode cX11_init 15 = .ok (.aload_n 0, 1) := by decide +kernel
theorem dX11_init_16 : decode cX11_init 16 = .ok (.new 7, 3) := by decide +kernel
theorem dX11_init_19 : decode cX11_init 19 = .ok (.dup, 1) := by decide +kernel
theorem dX11_init_20 : decode cX11_init 20 = .ok (.invokespecial 9, 3) := by decide +kernel
theorem dX11_init_23 : decode cX11_init 23 = .ok (.putfield 16, 3) := by decide +kernel
theorem dX11_init_26 : decode cX11_init 26 = .ok (.aload_n 0, 1) := by decide +kernel
theorem dX11_init_27 : decode cX11_init 27 = .ok (.new 7, 3) := by decide +kernel
theorem dX11_init_30 : decode cX11_init 30 = .ok (.dup, 1) := by decide +kernel
theorem dX11_init_31 : decode cX11_init 31 = .ok (.invokespecial 9, 3) := by decide +kernel
theorem dX11_init_34 : decode cX11_init 34 = .ok (.putfield 19, 3) := by decide +kernel
theorem dX11_init_37 : decode cX11_init 37 = .ok (.aload_n 0, 1) := by decide +kernel
theorem dX11_init_38 : decode cX11_init 38 = .ok (.new 22, 3) := by decide +kernel
theorem dX11_init_41 : decode cX11_init 41 = .ok (.dup, 1) := by decide +kernel
theorem dX11_init_42 : decode cX11_init 42 = .ok (.bipush 40, 2) := by decide +kernel
theorem dX11_init_44 : decode cX11_init 44 = .ok (.invokespecial 24, 3) := by decide +kernel
theorem dX11_init_47 : decode cX11_init 47 = .ok (.putfield 27, 3) := by decide +kernel
theorem dX11_init_50 : decode cX11_init 50 = .ok (.aload_n 0, 1) := by decide +kernel
theorem dX11_init_51 : decode cX11_init 51 = .ok (.iconst 4, 1) := by decide +kernel
theorem dX11_init_52 : decode cX11_init 52 = .ok (.anewarray 31, 3) := by decide +kernel
theorem dX11_init_55 : decode cX11_init 55 = .ok (.putfield 33, 3) := by decide +kernel
theorem dX11_init_58 : decode cX11_init 58 = .ok (.aload_n 0, 1) := by decide +kernel
theorem dX11_init_59 : decode cX11_init 59 = .ok (.bipush 6, 2) := by decide +kernel
theorem dX11_init_61 : decode cX11_init 61 = .ok (.newarray .int, 2) := by decide +kernel
theorem dX11_init_63 : decode cX11_init 63 = .ok (.putfield 37, 3) := by decide +kernel
theorem dX11_init_66 : decode cX11_init 66 = .ok (.aload_n 0, 1) := by decide +kernel
theorem dX11_init_67 : decode cX11_init 67 = .ok (.bipush 80, 2) := by decide +kernel
theorem dX11_init_69 : decode cX11_init 69 = .ok (.newarray .int, 2) := by decide +kernel
theorem dX11_init_71 : decode cX11_init 71 = .ok (.putfield 41, 3) := by decide +kernel
theorem dX11_init_74 : decode cX11_init 74 = .ok (.iconst 0, 1) := by decide +kernel
theorem dX11_init_75 : decode cX11_init 75 = .ok (.istore_n 1, 1) := by decide +kernel
theorem dX11_init_76 : decode cX11_init 76 = .ok (.iload_n 1, 1) := by decide +kernel
theorem dX11_init_77 : decode cX11_init 77 = .ok (.iconst 4, 1) := by decide +kernel
theorem dX11_init_78 : decode cX11_init 78 = .ok (.if_icmp .ge 22, 3) := by decide +kernel
theorem dX11_init_81 : decode cX11_init 81 = .ok (.aload_n 0, 1) := by decide +kernel
theorem dX11_init_82 : decode cX11_init 82 = .ok (.getfield 33, 3) := by decide +kernel
theorem dX11_init_85 : decode cX11_init 85 = .ok (.iload_n 1, 1) := by decide +kernel
theorem dX11_init_86 : decode cX11_init 86 = .ok (.new 31, 3) := by decide +kernel
theorem dX11_init_89 : decode cX11_init 89 = .ok (.dup, 1) := by decide +kernel
theorem dX11_init_90 : decode cX11_init 90 = .ok (.invokespecial 44, 3) := by decide +kernel
theorem dX11_init_93 : decode cX11_init 93 = .ok (.aastore, 1) := by decide +kernel
theorem dX11_init_94 : decode cX11_init 94 = .ok (.iinc 1 1, 3) := by decide +kernel
theorem dX11_init_97 : decode cX11_init 97 = .ok (.goto (-21), 3) := by decide +kernel
theorem dX11_init_100 : decode cX11_init 100 = .ok (.return_, 1) := by decide +kernel
theorem dX11_hill_0 : decode cX11_hill 0 = .ok (.iload_n 1, 1) := by decide +kernel
theorem dX11_hill_1 : decode cX11_hill 1 = .ok (.iconst 0, 1) := by decide +kernel
theorem dX11_hill_2 : decode cX11_hill 2 = .ok (.sipush 255, 3) := by decide +kernel
theorem dX11_hill_5 : decode cX11_hill 5 = .ok (.invokestatic 45, 3) := by decide +kernel
theorem dX11_hill_8 : decode cX11_hill 8 = .ok (.ifCond .eq 13, 3) := by decide +kernel
theorem dX11_hill_11 : decode cX11_hill 11 = .ok (.iload_n 2, 1) := by decide +kernel
theorem dX11_hill_12 : decode cX11_hill 12 = .ok (.iconst 0, 1) := by decide +kernel
theorem dX11_hill_13 : decode cX11_hill 13 = .ok (.bipush 9, 2) := by decide +kernel
theorem dX11_hill_15 : decode cX11_hill 15 = .ok (.invokestatic 45, 3) := by decide +kernel
theorem dX11_hill_18 : decode cX11_hill 18 = .ok (.ifCond .ne 9, 3) := by decide +kernel
theorem dX11_hill_21 : decode cX11_hill 21 = .ok (.aload_n 0, 1) := by decide +kernel
theorem dX11_hill_22 : decode cX11_hill 22 = .ok (.iconst 1, 1) := by decide +kernel
theorem dX11_hill_23 : decode cX11_hill 23 = .ok (.invokevirtual 49, 3) := by decide +kernel
theorem dX11_hill_26 : decode cX11_hill 26 = .ok (.ireturn, 1) := by decide +kernel
theorem dX11_hill_27 : decode cX11_hill 27 = .ok (.aload_n 0, 1) := by decide +kernel
theorem dX11_hill_28 : decode cX11_hill 28 = .ok (.getfield 10, 3) := by decide +kernel
theorem dX11_hill_31 : decode cX11_hill 31 = .ok (.iload_n 1, 1) := by decide +kernel
theorem dX11_hill_32 : decode cX11_hill 32 = .ok (.invokevirtual 53, 3) := by decide +kernel
theorem dX11_hill_35 : decode cX11_hill 35 = .ok (.ifCond .lt 9, 3) := by decide +kernel
theorem dX11_hill_38 : decode cX11_hill 38 = .ok (.aload_n 0, 1) := by decide +kernel
theorem dX11_hill_39 : decode cX11_hill 39 = .ok (.iconst 3, 1) := by decide +kernel
theorem dX11_hill_40 : decode cX11_hill 40 = .ok (.invokevirtual 49, 3) := by decide +kernel
theorem dX11_hill_43 : decode cX11_hill 43 = .ok (.ireturn, 1) := by decide +kernel
theorem dX11_hill_44 : decode cX11_hill 44 = .ok (.aload_n 0, 1) := by decide +kernel
theorem dX11_hill_45 : decode cX11_hill 45 = .ok (.getfield 10, 3) := by decide +kernel
theorem dX11_hill_48 : decode cX11_hill 48 = .ok (.getfield 56, 3) := by decide +kernel
theorem dX11_hill_51 : decode cX11_hill 51 = .ok (.bipush 9, 2) := by decide +kernel
theorem dX11_hill_53 : decode cX11_hill 53 = .ok (.if_icmp .lt 9, 3) := by decide +kernel
theorem dX11_hill_56 : decode cX11_hill 56 = .ok (.aload_n 0, 1) := by decide +kernel
theorem dX11_hill_57 : decode cX11_hill 57 = .ok (.iconst 4, 1) := by decide +kernel
theorem dX11_hill_58 : decode cX11_hill 58 = .ok (.invokevirtual 49, 3) := by decide +kernel
theorem dX11_hill_61 : decode cX11_hill 61 = .ok (.ireturn, 1) := by decide +kernel
theorem dX11_hill_62 : decode cX11_hill 62 = .ok (.aload_n 0, 1) := by decide +kernel
theorem dX11_hill_63 : decode cX11_hill 63 = .ok (.getfield 10, 3) := by decide +kernel
theorem dX11_hill_66 : decode cX11_hill 66 = .ok (.iload_n 1, 1) := by decide +kernel
theorem dX11_hill_67 : decode cX11_hill 67 = .ok (.iload_n 2, 1) := by decide +kernel
theorem dX11_hill_68 : decode cX11_hill 68 = .ok (.invokevirtual 60, 3) := by decide +kernel
theorem dX11_hill_71 : decode cX11_hill 71 = .ok (.ireturn, 1) := by decide +kernel
theorem dX11_ofHill_0 : decode cX11_ofHill 0 = .ok (.aload_n 0, 1) := by decide +kernel
theorem dX11_ofHill_1 : decode cX11_ofHill 1 = .ok (.getfield 10, 3) := by decide +kernel
theorem dX11_ofHill_4 : decode cX11_ofHill 4 = .ok (.iload_n 1, 1) := by decide +kernel
theorem dX11_ofHill_5 : decode cX11_ofHill 5 = .ok (.invokevirtual 64, 3) := by decide +kernel
theorem dX11_ofHill_8 : decode cX11_ofHill 8 = .ok (.ifCond .ne 9, 3) := by decide +kernel
theorem dX11_ofHill_11 : decode cX11_ofHill 11 = .ok (.aload_n 0, 1) := by decide +kernel
theorem dX11_ofHill_12 : decode cX11_ofHill 12 = .ok (.iconst 1, 1) := by decide +kernel
theorem dX11_ofHill_13 : decode cX11_ofHill 13 = .ok (.invokevirtual 49, 3) := by decide +kernel
theorem dX11_ofHill_16 : decode cX11_ofHill 16 = .ok (.ireturn, 1) := by decide +kernel
theorem dX11_ofHill_17 : decode cX11_ofHill 17 = .ok (.iload_n 2, 1) := by decide +kernel
theorem dX11_ofHill_18 : decode cX11_ofHill 18 = .ok (.tableswitch 53 0 2 #[26, 35, 44], 26) := by decide +kernel
theorem dX11_ofHill_44 : decode cX11_ofHill 44 = .ok (.aload_n 0, 1) := by decide +kernel
theorem dX11_ofHill_45 : decode cX11_ofHill 45 = .ok (.getfield 10, 3) := by decide +kernel
theorem dX11_ofHill_48 : decode cX11_ofHill 48 = .ok (.iload_n 1, 1) := by decide +kernel
theorem dX11_ofHill_49 : decode cX11_ofHill 49 = .ok (.invokevirtual 68, 3) := by decide +kernel
theorem dX11_ofHill_52 : decode cX11_ofHill 52 = .ok (.ireturn, 1) := by decide +kernel
theorem dX11_ofHill_53 : decode cX11_ofHill 53 = .ok (.aload_n 0, 1) := by decide +kernel
theorem dX11_ofHill_54 : decode cX11_ofHill 54 = .ok (.getfield 10, 3) := by decide +kernel
theorem dX11_ofHill_57 : decode cX11_ofHill 57 = .ok (.iload_n 1, 1) := by decide +kernel
theorem dX11_ofHill_58 : decode cX11_ofHill 58 = .ok (.invokevirtual 71, 3) := by decide +kernel
theorem dX11_ofHill_61 : decode cX11_ofHill 61 = .ok (.ireturn, 1) := by decide +kernel
theorem dX11_ofHill_62 : decode cX11_ofHill 62 = .ok (.aload_n 0, 1) := by decide +kernel
theorem dX11_ofHill_63 : decode cX11_ofHill 63 = .ok (.getfield 10, 3) := by decide +kernel
theorem dX11_ofHill_66 : decode cX11_ofHill 66 = .ok (.iload_n 1, 1) := by decide +kernel
theorem dX11_ofHill_67 : decode cX11_ofHill 67 = .ok (.invokevirtual 74, 3) := by decide +kernel
theorem dX11_ofHill_70 : decode cX11_ofHill 70 = .ok (.ireturn, 1) := by decide +kernel
theorem dX11_ofHill_71 : decode cX11_ofHill 71 = .ok (.aload_n 0, 1) := by decide +kernel
theorem dX11_ofHill_72 : decode cX11_ofHill 72 = .ok (.iconst 1, 1) := by decide +kernel
theorem dX11_ofHill_73 : decode cX11_ofHill 73 = .ok (.invokevirtual 49, 3) := by decide +kernel
theorem dX11_ofHill_76 : decode cX11_ofHill 76 = .ok (.ireturn, 1) := by decide +kernel
theorem dX11_wind_0 : decode cX11_wind 0 = .ok (.iload_n 1, 1) := by decide +kernel
theorem dX11_wind_1 : decode cX11_wind 1 = .ok (.iconst 0, 1) := by decide +kernel
theorem dX11_wind_2 : decode cX11_wind 2 = .ok (.bipush 23, 2) := by decide +kernel
theorem dX11_wind_4 : decode cX11_wind 4 = .ok (.invokestatic 45, 3) := by decide +kernel
theorem dX11_wind_7 : decode cX11_wind 7 = .ok (.ifCond .eq 13, 3) := by decide +kernel
theorem dX11_wind_10 : decode cX11_wind 10 = .ok (.iload_n 2, 1) := by decide +kernel
theorem dX11_wind_11 : decode cX11_wind 11 = .ok (.iconst 0, 1) := by decide +kernel
theorem dX11_wind_12 : decode cX11_wind 12 = .ok (.bipush 79, 2) := by decide +kernel
theorem dX11_wind_14 : decode cX11_wind 14 = .ok (.invokestatic 45, 3) := by decide +kernel
theorem dX11_wind_17 : decode cX11_wind 17 = .ok (.ifCond .ne 9, 3) := by decide +kernel
theorem dX11_wind_20 : decode cX11_wind 20 = .ok (.aload_n 0, 1) := by decide +kernel
theorem dX11_wind_21 : decode cX11_wind 21 = .ok (.iconst 1, 1) := by decide +kernel
theorem dX11_wind_22 : decode cX11_wind 22 = .ok (.invokevirtual 49, 3) := by decide +kernel
theorem dX11_wind_25 : decode cX11_wind 25 = .ok (.ireturn, 1) := by decide +kernel
theorem dX11_wind_26 : decode cX11_wind 26 = .ok (.aload_n 0, 1) := by decide +kernel
theorem dX11_wind_27 : decode cX11_wind 27 = .ok (.getfield 10, 3) := by decide +kernel
theorem dX11_wind_30 : decode cX11_wind 30 = .ok (.iload_n 1, 1) := by decide +kernel
theorem dX11_wind_31 : decode cX11_wind 31 = .ok (.invokevirtual 77, 3) := by decide +kernel
theorem dX11_wind_34 : decode cX11_wind 34 = .ok (.istore_n 3, 1) := by decide +kernel
theorem dX11_wind_35 : decode cX11_wind 35 = .ok (.aload_n 0, 1) := by decide +kernel
theorem dX11_wind_36 : decode cX11_wind 36 = .ok (.getfield 10, 3) := by decide +kernel
theorem dX11_wind_39 : decode cX11_wind 39 = .ok (.iload_n 1, 1) := by decide +kernel
theorem dX11_wind_40 : decode cX11_wind 40 = .ok (.iload_n 2, 1) := by decide +kernel
theorem dX11_wind_41 : decode cX11_wind 41 = .ok (.invokevirtual 80, 3) := by decide +kernel
theorem dX11_wind_44 : decode cX11_wind 44 = .ok (.iload_n 3, 1) := by decide +kernel
theorem dX11_wind_45 : decode cX11_wind 45 = .ok (.ireturn, 1) := by decide +kernel
theorem dX11_kite_0 : decode cX11_kite 0 = .ok (.iload_n 1, 1) := by decide +kernel
theorem dX11_kite_1 : decode cX11_kite 1 = .ok (.iconst 0, 1) := by decide +kernel
theorem dX11_kite_2 : decode cX11_kite 2 = .ok (.bipush 69, 2) := by decide +kernel
theorem dX11_kite_4 : decode cX11_kite 4 = .ok (.invokestatic 45, 3) := by decide +kernel
theorem dX11_kite_7 : decode cX11_kite 7 = .ok (.ifCond .eq 38, 3) := by decide +kernel
theorem dX11_kite_10 : decode cX11_kite 10 = .ok (.aload_n 0, 1) := by decide +kernel
theorem dX11_kite_11 : decode cX11_kite 11 = .ok (.getfield 10, 3) := by decide +kernel
theorem dX11_kite_14 : decode cX11_kite 14 = .ok (.iload_n 2, 1) := by decide +kernel
theorem dX11_kite_15 : decode cX11_kite 15 = .ok (.invokevirtual 64, 3) := by decide +kernel
theorem dX11_kite_18 : decode cX11_kite 18 = .ok (.ifCond .eq 27, 3) := by decide +kernel
theorem dX11_kite_21 : decode cX11_kite 21 = .ok (.iload_n 3, 1) := by decide +kernel
theorem dX11_kite_22 : decode cX11_kite 22 = .ok (.iconst 0, 1) := by decide +kernel
theorem dX11_kite_23 : decode cX11_kite 23 = .ok (.sipush 9999, 3) := by decide +kernel
theorem dX11_kite_26 : decode cX11_kite 26 = .ok (.invokestatic 45, 3) := by decide +kernel
theorem dX11_kite_29 : decode cX11_kite 29 = .ok (.ifCond .eq 16, 3) := by decide +kernel
theorem dX11_kite_32 : decode cX11_kite 32 = .ok (.iload_n 3, 1) := by decide +kernel
theorem dX11_kite_33 : decode cX11_kite 33 = .ok (.bipush 100, 2) := by decide +kernel
theorem dX11_kite_35 : decode cX11_kite 35 = .ok (.irem, 1) := by decide +kernel
theorem dX11_kite_36 : decode cX11_kite 36 = .ok (.iconst 1, 1) := by decide +kernel
theorem dX11_kite_37 : decode cX11_kite 37 = .ok (.bipush 40, 2) := by decide +kernel
theorem dX11_kite_39 : decode cX11_kite 39 = .ok (.invokestatic 45, 3) := by decide +kernel
theorem dX11_kite_42 : decode cX11_kite 42 = .ok (.ifCond .ne 9, 3) := by decide +kernel
theorem dX11_kite_45 : decode cX11_kite 45 = .ok (.aload_n 0, 1) := by decide +kernel
theorem dX11_kite_46 : decode cX11_kite 46 = .ok (.iconst 1, 1) := by decide +kernel
theorem dX11_kite_47 : decode cX11_kite 47 = .ok (.invokevirtual 49, 3) := by decide +kernel
theorem dX11_kite_50 : decode cX11_kite 50 = .ok (.ireturn, 1) := by decide +kernel
theorem dX11_kite_51 : decode cX11_kite 51 = .ok (.aload_n 0, 1) := by decide +kernel
theorem dX11_kite_52 : decode cX11_kite 52 = .ok (.getfield 10, 3) := by decide +kernel
theorem dX11_kite_55 : decode cX11_kite 55 = .ok (.getfield 84, 3) := by decide +kernel
theorem dX11_kite_58 : decode cX11_kite 58 = .ok (.bipush 8, 2) := by decide +kernel
theorem dX11_kite_60 : decode cX11_kite 60 = .ok (.if_icmp .lt 9, 3) := by decide +kernel
theorem dX11_kite_63 : decode cX11_kite 63 = .ok (.aload_n 0, 1) := by decide +kernel
theorem dX11_kite_64 : decode cX11_kite 64 = .ok (.iconst 4, 1) := by decide +kernel
theorem dX11_kite_65 : decode cX11_kite 65 = .ok (.invokevirtual 49, 3) := by decide +kernel
theorem dX11_kite_68 : decode cX11_kite 68 = .ok (.ireturn, 1) := by decide +kernel
theorem dX11_kite_69 : decode cX11_kite 69 = .ok (.aload_n 0, 1) := by decide +kernel
theorem dX11_kite_70 : decode cX11_kite 70 = .ok (.getfield 10, 3) := by decide +kernel
theorem dX11_kite_73 : decode cX11_kite 73 = .ok (.iload_n 1, 1) := by decide +kernel
theorem dX11_kite_74 : decode cX11_kite 74 = .ok (.iload_n 2, 1) := by decide +kernel
theorem dX11_kite_75 : decode cX11_kite 75 = .ok (.iload_n 3, 1) := by decide +kernel
theorem dX11_kite_76 : decode cX11_kite 76 = .ok (.invokevirtual 87, 3) := by decide +kernel
theorem dX11_kite_79 : decode cX11_kite 79 = .ok (.ireturn, 1) := by decide +kernel
theorem dX11_ofKite_0 : decode cX11_ofKite 0 = .ok (.aload_n 0, 1) := by decide +kernel
theorem dX11_ofKite_1 : decode cX11_ofKite 1 = .ok (.getfield 10, 3) := by decide +kernel
theorem dX11_ofKite_4 : decode cX11_ofKite 4 = .ok (.iload_n 1, 1) := by decide +kernel
theorem dX11_ofKite_5 : decode cX11_ofKite 5 = .ok (.invokevirtual 91, 3) := by decide +kernel
theorem dX11_ofKite_8 : decode cX11_ofKite 8 = .ok (.astore_n 3, 1) := by decide +kernel
theorem dX11_ofKite_9 : decode cX11_ofKite 9 = .ok (.aload_n 3, 1) := by decide +kernel
theorem dX11_ofKite_10 : decode cX11_ofKite 10 = .ok (.ifnonnull 9, 3) := by decide +kernel
theorem dX11_ofKite_13 : decode cX11_ofKite 13 = .ok (.aload_n 0, 1) := by decide +kernel
theorem dX11_ofKite_14 : decode cX11_ofKite 14 = .ok (.iconst 1, 1) := by decide +kernel
theorem dX11_ofKite_15 : decode cX11_ofKite 15 = .ok (.invokevirtual 49, 3) := by decide +kernel
theorem dX11_ofKite_18 : decode cX11_ofKite 18 = .ok (.ireturn, 1) := by decide +kernel
theorem dX11_ofKite_19 : decode cX11_ofKite 19 = .ok (.iload_n 2, 1) := by decide +kernel
theorem dX11_ofKite_20 : decode cX11_ofKite 20 = .ok (.tableswitch 74 0 5 #[40, 45, 50, 55, 60, 65], 40) := by decide +kernel
theorem dX11_ofKite_60 : decode cX11_ofKite 60 = .ok (.aload_n 3, 1) := by decide +kernel
theorem dX11_ofKite_61 : decode cX11_ofKite 61 = .ok (.getfield 95, 3) := by decide +kernel
theorem dX11_ofKite_64 : decode cX11_ofKite 64 = .ok (.ireturn, 1) := by decide +kernel
theorem dX11_ofKite_65 : decode cX11_ofKite 65 = .ok (.aload_n 3, 1) := by decide +kernel
theorem dX11_ofKite_66 : decode cX11_ofKite 66 = .ok (.getfield 100, 3) := by decide +kernel
theorem dX11_ofKite_69 : decode cX11_ofKite 69 = .ok (.ireturn, 1) := by decide +kernel
theorem dX11_ofKite_70 : decode cX11_ofKite 70 = .ok (.aload_n 3, 1) := by decide +kernel
theorem dX11_ofKite_71 : decode cX11_ofKite 71 = .ok (.getfield 103, 3) := by decide +kernel
theorem dX11_ofKite_74 : decode cX11_ofKite 74 = .ok (.ireturn, 1) := by decide +kernel
theorem dX11_ofKite_75 : decode cX11_ofKite 75 = .ok (.aload_n 3, 1) := by decide +kernel
theorem dX11_ofKite_76 : decode cX11_ofKite 76 = .ok (.getfield 106, 3) := by decide +kernel
theorem dX11_ofKite_79 : decode cX11_ofKite 79 = .ok (.ireturn, 1) := by decide +kernel
theorem dX11_ofKite_80 : decode cX11_ofKite 80 = .ok (.aload_n 3, 1) := by decide +kernel
theorem dX11_ofKite_81 : decode cX11_ofKite 81 = .ok (.getfield 109, 3) := by decide +kernel
theorem dX11_ofKite_84 : decode cX11_ofKite 84 = .ok (.ireturn, 1) := by decide +kernel
theorem dX11_ofKite_85 : decode cX11_ofKite 85 = .ok (.aload_n 0, 1) := by decide +kernel
theorem dX11_ofKite_86 : decode cX11_ofKite 86 = .ok (.getfield 10, 3) := by decide +kernel
theorem dX11_ofKite_89 : decode cX11_ofKite 89 = .ok (.iload_n 1, 1) := by decide +kernel
theorem dX11_ofKite_90 : decode cX11_ofKite 90 = .ok (.invokevirtual 112, 3) := by decide +kernel
theorem dX11_ofKite_93 : decode cX11_ofKite 93 = .ok (.ireturn, 1) := by decide +kernel
theorem dX11_ofKite_94 : decode cX11_ofKite 94 = .ok (.aload_n 0, 1) := by decide +kernel
theorem dX11_ofKite_95 : decode cX11_ofKite 95 = .ok (.iconst 1, 1) := by decide +kernel
theorem dX11_ofKite_96 : decode cX11_ofKite 96 = .ok (.invokevirtual 49, 3) := by decide +kernel
theorem dX11_ofKite_99 : decode cX11_ofKite 99 = .ok (.ireturn, 1) := by decide +kernel
theorem dX11_as_0 : decode cX11_as 0 = .ok (.aload_n 0, 1) := by decide +kernel
theorem dX11_as_1 : decode cX11_as 1 = .ok (.getfield 10, 3) := by decide +kernel
theorem dX11_as_4 : decode cX11_as 4 = .ok (.iload_n 1, 1) := by decide +kernel
theorem dX11_as_5 : decode cX11_as 5 = .ok (.invokevirtual 91, 3) := by decide +kernel
theorem dX11_as_8 : decode cX11_as 8 = .ok (.astore_n 3, 1) := by decide +kernel
theorem dX11_as_9 : decode cX11_as 9 = .ok (.aload_n 3, 1) := by decide +kernel
theorem dX11_as_10 : decode cX11_as 10 = .ok (.ifnull 13, 3) := by decide +kernel
theorem dX11_as_13 : decode cX11_as 13 = .ok (.iload_n 2, 1) := by decide +kernel
theorem dX11_as_14 : decode cX11_as 14 = .ok (.iconst 0, 1) := by decide +kernel
theorem dX11_as_15 : decode cX11_as 15 = .ok (.bipush 6, 2) := by decide +kernel
theorem dX11_as_17 : decode cX11_as 17 = .ok (.invokestatic 45, 3) := by decide +kernel
theorem dX11_as_20 : decode cX11_as 20 = .ok (.ifCond .ne 9, 3) := by decide +kernel
theorem dX11_as_23 : decode cX11_as 23 = .ok (.aload_n 0, 1) := by decide +kernel
theorem dX11_as_24 : decode cX11_as 24 = .ok (.iconst 1, 1) := by decide +kernel
theorem dX11_as_25 : decode cX11_as 25 = .ok (.invokevirtual 49, 3) := by decide +kernel
theorem dX11_as_28 : decode cX11_as 28 = .ok (.ireturn, 1) := by decide +kernel
theorem dX11_as_29 : decode cX11_as 29 = .ok (.aload_n 3, 1) := by decide +kernel
theorem dX11_as_30 : decode cX11_as 30 = .ok (.iload_n 2, 1) := by decide +kernel
theorem dX11_as_31 : decode cX11_as 31 = .ok (.invokestatic 115, 3) := by decide +kernel
theorem dX11_as_34 : decode cX11_as 34 = .ok (.ifCond .eq 10, 3) := by decide +kernel
theorem dX11_as_37 : decode cX11_as 37 = .ok (.aload_n 3, 1) := by decide +kernel
theorem dX11_as_38 : decode cX11_as 38 = .ok (.getfield 106, 3) := by decide +kernel
theorem dX11_as_41 : decode cX11_as 41 = .ok (.goto 8, 3) := by decide +kernel
theorem dX11_as_44 : decode cX11_as 44 = .ok (.aload_n 0, 1) := by decide +kernel
theorem dX11_as_45 : decode cX11_as 45 = .ok (.iconst 5, 1) := by decide +kernel
theorem dX11_as_46 : decode cX11_as 46 = .ok (.invokevirtual 49, 3) := by decide +kernel
theorem dX11_as_49 : decode cX11_as 49 = .ok (.ireturn, 1) := by decide +kernel
theorem dX11_aim_0 : decode cX11_aim 0 = .ok (.aload_n 0, 1) := by decide +kernel
theorem dX11_aim_1 : decode cX11_aim 1 = .ok (.getfield 10, 3) := by decide +kernel
theorem dX11_aim_4 : decode cX11_aim 4 = .ok (.iload_n 1, 1) := by decide +kernel
theorem dX11_aim_5 : decode cX11_aim 5 = .ok (.invokevirtual 91, 3) := by decide +kernel
theorem dX11_aim_8 : decode cX11_aim 8 = .ok (.astore_n 3, 1) := by decide +kernel
theorem dX11_aim_9 : decode cX11_aim 9 = .ok (.aload_n 3, 1) := by decide +kernel
theorem dX11_aim_10 : decode cX11_aim 10 = .ok (.ifnull 19, 3) := by decide +kernel
theorem dX11_aim_13 : decode cX11_aim 13 = .ok (.iload_n 2, 1) := by decide +kernel
theorem dX11_aim_14 : decode cX11_aim 14 = .ok (.iconst (-1), 1) := by decide +kernel
theorem dX11_aim_15 : decode cX11_aim 15 = .ok (.if_icmp .eq 20, 3) := by decide +kernel
theorem dX11_aim_18 : decode cX11_aim 18 = .ok (.aload_n 0, 1) := by decide +kernel
theorem dX11_aim_19 : decode cX11_aim 19 = .ok (.getfield 10, 3) := by decide +kernel
theorem dX11_aim_22 : decode cX11_aim 22 = .ok (.iload_n 2, 1) := by decide +kernel
theorem dX11_aim_23 : decode cX11_aim 23 = .ok (.invokevirtual 64, 3) := by decide +kernel
theorem dX11_aim_26 : decode cX11_aim 26 = .ok (.ifCond .ne 9, 3) := by decide +kernel
theorem dX11_aim_29 : decode cX11_aim 29 = .ok (.aload_n 0, 1) := by decide +kernel
theorem dX11_aim_30 : decode cX11_aim 30 = .ok (.iconst 1, 1) := by decide +kernel
theorem dX11_aim_31 : decode cX11_aim 31 = .ok (.invokevirtual 49, 3) := by decide +kernel
theorem dX11_aim_34 : decode cX11_aim 34 = .ok (.ireturn, 1) := by decide +kernel
theorem dX11_aim_35 : decode cX11_aim 35 = .ok (.iload_n 2, 1) := by decide +kernel
theorem dX11_aim_36 : decode cX11_aim 36 = .ok (.aload_n 3, 1) := by decide +kernel
theorem dX11_aim_37 : decode cX11_aim 37 = .ok (.getfield 103, 3) := by decide +kernel
theorem dX11_aim_40 : decode cX11_aim 40 = .ok (.if_icmp .ne 9, 3) := by decide +kernel
theorem dX11_aim_43 : decode cX11_aim 43 = .ok (.aload_n 0, 1) := by decide +kernel
theorem dX11_aim_44 : decode cX11_aim 44 = .ok (.iconst 3, 1) := by decide +kernel
theorem dX11_aim_45 : decode cX11_aim 45 = .ok (.invokevirtual 49, 3) := by decide +kernel
theorem dX11_aim_48 : decode cX11_aim 48 = .ok (.ireturn, 1) := by decide +kernel
theorem dX11_aim_49 : decode cX11_aim 49 = .ok (.aload_n 0, 1) := by decide +kernel
theorem dX11_aim_50 : decode cX11_aim 50 = .ok (.getfield 10, 3) := by decide +kernel
theorem dX11_aim_53 : decode cX11_aim 53 = .ok (.iload_n 1, 1) := by decide +kernel
theorem dX11_aim_54 : decode cX11_aim 54 = .ok (.invokevirtual 112, 3) := by decide +kernel
theorem dX11_aim_57 : decode cX11_aim 57 = .ok (.istore 4, 2) := by decide +kernel
theorem dX11_aim_59 : decode cX11_aim 59 = .ok (.aload_n 0, 1) := by decide +kernel
theorem dX11_aim_60 : decode cX11_aim 60 = .ok (.getfield 10, 3) := by decide +kernel
theorem dX11_aim_63 : decode cX11_aim 63 = .ok (.iload_n 1, 1) := by decide +kernel
theorem dX11_aim_64 : decode cX11_aim 64 = .ok (.iload_n 2, 1) := by decide +kernel
theorem dX11_aim_65 : decode cX11_aim 65 = .ok (.invokevirtual 119, 3) := by decide +kernel
theorem dX11_aim_68 : decode cX11_aim 68 = .ok (.iload 4, 2) := by decide +kernel
theorem dX11_aim_70 : decode cX11_aim 70 = .ok (.ireturn, 1) := by decide +kernel
theorem dX11_pull_0 : decode cX11_pull 0 = .ok (.aload_n 0, 1) := by decide +kernel
theorem dX11_pull_1 : decode cX11_pull 1 = .ok (.getfield 10, 3) := by decide +kernel
theorem dX11_pull_4 : decode cX11_pull 4 = .ok (.iload_n 1, 1) := by decide +kernel
theorem dX11_pull_5 : decode cX11_pull 5 = .ok (.invokevirtual 91, 3) := by decide +kernel
theorem dX11_pull_8 : decode cX11_pull 8 = .ok (.astore 4, 2) := by decide +kernel
theorem dX11_pull_10 : decode cX11_pull 10 = .ok (.aload 4, 2) := by decide +kernel
theorem dX11_pull_12 : decode cX11_pull 12 = .ok (.ifnull 25, 3) := by decide +kernel
theorem dX11_pull_15 : decode cX11_pull 15 = .ok (.aload_n 0, 1) := by decide +kernel
theorem dX11_pull_16 : decode cX11_pull 16 = .ok (.getfield 10, 3) := by decide +kernel
theorem dX11_pull_19 : decode cX11_pull 19 = .ok (.iload_n 2, 1) := by decide +kernel
theorem dX11_pull_20 : decode cX11_pull 20 = .ok (.invokevirtual 64, 3) := by decide +kernel
theorem dX11_pull_23 : decode cX11_pull 23 = .ok (.ifCond .eq 14, 3) := by decide +kernel
theorem dX11_pull_26 : decode cX11_pull 26 = .ok (.iload_n 3, 1) := by decide +kernel
theorem dX11_pull_27 : decode cX11_pull 27 = .ok (.iconst 0, 1) := by decide +kernel
theorem dX11_pull_28 : decode cX11_pull 28 = .ok (.sipush 999, 3) := by decide +kernel
theorem dX11_pull_31 : decode cX11_pull 31 = .ok (.invokestatic 45, 3) := by decide +kernel
theorem dX11_pull_34 : decode cX11_pull 34 = .ok (.ifCond .ne 9, 3) := by decide +kernel
theorem dX11_pull_37 : decode cX11_pull 37 = .ok (.aload_n 0, 1) := by decide +kernel
theorem dX11_pull_38 : decode cX11_pull 38 = .ok (.iconst 1, 1) := by decide +kernel
theorem dX11_pull_39 : decode cX11_pull 39 = .ok (.invokevirtual 49, 3) := by decide +kernel
theorem dX11_pull_42 : decode cX11_pull 42 = .ok (.ireturn, 1) := by decide +kernel
theorem dX11_pull_43 : decode cX11_pull 43 = .ok (.aload_n 0, 1) := by decide +kernel
theorem dX11_pull_44 : decode cX11_pull 44 = .ok (.getfield 10, 3) := by decide +kernel
theorem dX11_pull_47 : decode cX11_pull 47 = .ok (.aload 4, 2) := by decide +kernel
theorem dX11_pull_49 : decode cX11_pull 49 = .ok (.iload_n 2, 1) := by decide +kernel
theorem dX11_pull_50 : decode cX11_pull 50 = .ok (.iload_n 3, 1) := by decide +kernel
theorem dX11_pull_51 : decode cX11_pull 51 = .ok (.aload_n 0, 1) := by decide +kernel
theorem dX11_pull_52 : decode cX11_pull 52 = .ok (.getfield 10, 3) := by decide +kernel
theorem dX11_pull_55 : decode cX11_pull 55 = .ok (.getfield 122, 3) := by decide +kernel
theorem dX11_pull_58 : decode cX11_pull 58 = .ok (.invokevirtual 125, 3) := by decide +kernel
theorem dX11_pull_61 : decode cX11_pull 61 = .ok (.ireturn, 1) := by decide +kernel
theorem dX11_stands_0 : decode cX11_stands 0 = .ok (.aload_n 0, 1) := by decide +kernel
theorem dX11_stands_1 : decode cX11_stands 1 = .ok (.getfield 10, 3) := by decide +kernel
theorem dX11_stands_4 : decode cX11_stands 4 = .ok (.iload_n 1, 1) := by decide +kernel
theorem dX11_stands_5 : decode cX11_stands 5 = .ok (.invokevirtual 91, 3) := by decide +kernel
theorem dX11_stands_8 : decode cX11_stands 8 = .ok (.astore 4, 2) := by decide +kernel
theorem dX11_stands_10 : decode cX11_stands 10 = .ok (.aload 4, 2) := by decide +kernel
theorem dX11_stands_12 : decode cX11_stands 12 = .ok (.ifnull 25, 3) := by decide +kernel
theorem dX11_stands_15 : decode cX11_stands 15 = .ok (.aload_n 0, 1) := by decide +kernel
theorem dX11_stands_16 : decode cX11_stands 16 = .ok (.getfield 10, 3) := by decide +kernel
theorem dX11_stands_19 : decode cX11_stands 19 = .ok (.iload_n 2, 1) := by decide +kernel
theorem dX11_stands_20 : decode cX11_stands 20 = .ok (.invokevirtual 64, 3) := by decide +kernel
theorem dX11_stands_23 : decode cX11_stands 23 = .ok (.ifCond .eq 14, 3) := by decide +kernel
theorem dX11_stands_26 : decode cX11_stands 26 = .ok (.iload_n 3, 1) := by decide +kernel
theorem dX11_stands_27 : decode cX11_stands 27 = .ok (.iconst 0, 1) := by decide +kernel
theorem dX11_stands_28 : decode cX11_stands 28 = .ok (.sipush 999, 3) := by decide +kernel
theorem dX11_stands_31 : decode cX11_stands 31 = .ok (.invokestatic 45, 3) := by decide +kernel
theorem dX11_stands_34 : decode cX11_stands 34 = .ok (.ifCond .ne 9, 3) := by decide +kernel
theorem dX11_stands_37 : decode cX11_stands 37 = .ok (.aload_n 0, 1) := by decide +kernel
theorem dX11_stands_38 : decode cX11_stands 38 = .ok (.iconst 1, 1) := by decide +kernel
theorem dX11_stands_39 : decode cX11_stands 39 = .ok (.invokevirtual 49, 3) := by decide +kernel
theorem dX11_stands_42 : decode cX11_stands 42 = .ok (.ireturn, 1) := by decide +kernel
theorem dX11_stands_43 : decode cX11_stands 43 = .ok (.aload_n 0, 1) := by decide +kernel
theorem dX11_stands_44 : decode cX11_stands 44 = .ok (.getfield 10, 3) := by decide +kernel
theorem dX11_stands_47 : decode cX11_stands 47 = .ok (.aload 4, 2) := by decide +kernel
theorem dX11_stands_49 : decode cX11_stands 49 = .ok (.iload_n 2, 1) := by decide +kernel
theorem dX11_stands_50 : decode cX11_stands 50 = .ok (.iload_n 3, 1) := by decide +kernel
theorem dX11_stands_51 : decode cX11_stands 51 = .ok (.aload_n 0, 1) := by decide +kernel
theorem dX11_stands_52 : decode cX11_stands 52 = .ok (.getfield 10, 3) := by decide +kernel
theorem dX11_stands_55 : decode cX11_stands 55 = .ok (.getfield 122, 3) := by decide +kernel
theorem dX11_stands_58 : decode cX11_stands 58 = .ok (.invokevirtual 129, 3) := by decide +kernel
theorem dX11_stands_61 : decode cX11_stands 61 = .ok (.ifCond .eq 7, 3) := by decide +kernel
theorem dX11_stands_64 : decode cX11_stands 64 = .ok (.iconst 1, 1) := by decide +kernel
theorem dX11_stands_65 : decode cX11_stands 65 = .ok (.goto 4, 3) := by decide +kernel
theorem dX11_stands_68 : decode cX11_stands 68 = .ok (.iconst 0, 1) := by decide +kernel
theorem dX11_stands_69 : decode cX11_stands 69 = .ok (.ireturn, 1) := by decide +kernel
theorem dX11_over_0 : decode cX11_over 0 = .ok (.aload_n 0, 1) := by decide +kernel
theorem dX11_over_1 : decode cX11_over 1 = .ok (.getfield 10, 3) := by decide +kernel
theorem dX11_over_4 : decode cX11_over 4 = .ok (.iload_n 1, 1) := by decide +kernel
theorem dX11_over_5 : decode cX11_over 5 = .ok (.invokevirtual 91, 3) := by decide +kernel
theorem dX11_over_8 : decode cX11_over 8 = .ok (.astore 4, 2) := by decide +kernel
theorem dX11_over_10 : decode cX11_over 10 = .ok (.aload 4, 2) := by decide +kernel
theorem dX11_over_12 : decode cX11_over 12 = .ok (.ifnull 24, 3) := by decide +kernel
theorem dX11_over_15 : decode cX11_over 15 = .ok (.iload_n 2, 1) := by decide +kernel
theorem dX11_over_16 : decode cX11_over 16 = .ok (.iconst 0, 1) := by decide +kernel
theorem dX11_over_17 : decode cX11_over 17 = .ok (.bipush 23, 2) := by decide +kernel
theorem dX11_over_19 : decode cX11_over 19 = .ok (.invokestatic 45, 3) := by decide +kernel
theorem dX11_over_22 : decode cX11_over 22 = .ok (.ifCond .eq 14, 3) := by decide +kernel
theorem dX11_over_25 : decode cX11_over 25 = .ok (.iload_n 3, 1) := by decide +kernel
theorem dX11_over_26 : decode cX11_over 26 = .ok (.iconst 0, 1) := by decide +kernel
theorem dX11_over_27 : decode cX11_over 27 = .ok (.sipush 999, 3) := by decide +kernel
theorem dX11_over_30 : decode cX11_over 30 = .ok (.invokestatic 45, 3) := by decide +kernel
theorem dX11_over_33 : decode cX11_over 33 = .ok (.ifCond .ne 9, 3) := by decide +kernel
theorem dX11_over_36 : decode cX11_over 36 = .ok (.aload_n 0, 1) := by decide +kernel
theorem dX11_over_37 : decode cX11_over 37 = .ok (.iconst 1, 1) := by decide +kernel
theorem dX11_over_38 : decode cX11_over 38 = .ok (.invokevirtual 49, 3) := by decide +kernel
theorem dX11_over_41 : decode cX11_over 41 = .ok (.ireturn, 1) := by decide +kernel
theorem dX11_over_42 : decode cX11_over 42 = .ok (.aload_n 0, 1) := by decide +kernel
theorem dX11_over_43 : decode cX11_over 43 = .ok (.getfield 10, 3) := by decide +kernel
theorem dX11_over_46 : decode cX11_over 46 = .ok (.getfield 122, 3) := by decide +kernel
theorem dX11_over_49 : decode cX11_over 49 = .ok (.aload_n 0, 1) := by decide +kernel
theorem dX11_over_50 : decode cX11_over 50 = .ok (.getfield 10, 3) := by decide +kernel
theorem dX11_over_53 : decode cX11_over 53 = .ok (.getfield 122, 3) := by decide +kernel
theorem dX11_over_56 : decode cX11_over 56 = .ok (.bipush 24, 2) := by decide +kernel
theorem dX11_over_58 : decode cX11_over 58 = .ok (.irem, 1) := by decide +kernel
theorem dX11_over_59 : decode cX11_over 59 = .ok (.isub, 1) := by decide +kernel
theorem dX11_over_60 : decode cX11_over 60 = .ok (.istore 5, 2) := by decide +kernel
theorem dX11_over_62 : decode cX11_over 62 = .ok (.aload_n 0, 1) := by decide +kernel
theorem dX11_over_63 : decode cX11_over 63 = .ok (.getfield 10, 3) := by decide +kernel
theorem dX11_over_66 : decode cX11_over 66 = .ok (.aload 4, 2) := by decide +kernel
theorem dX11_over_68 : decode cX11_over 68 = .ok (.iload_n 3, 1) := by decide +kernel
theorem dX11_over_69 : decode cX11_over 69 = .ok (.iload 5, 2) := by decide +kernel
theorem dX11_over_71 : decode cX11_over 71 = .ok (.iload_n 2, 1) := by decide +kernel
theorem dX11_over_72 : decode cX11_over 72 = .ok (.iadd, 1) := by decide +kernel
theorem dX11_over_73 : decode cX11_over 73 = .ok (.invokevirtual 133, 3) := by decide +kernel
theorem dX11_over_76 : decode cX11_over 76 = .ok (.ireturn, 1) := by decide +kernel
theorem dX11_feed_0 : decode cX11_feed 0 = .ok (.iload_n 3, 1) := by decide +kernel
theorem dX11_feed_1 : decode cX11_feed 1 = .ok (.iconst 1, 1) := by decide +kernel
theorem dX11_feed_2 : decode cX11_feed 2 = .ok (.bipush 8, 2) := by decide +kernel
theorem dX11_feed_4 : decode cX11_feed 4 = .ok (.invokestatic 45, 3) := by decide +kernel
theorem dX11_feed_7 : decode cX11_feed 7 = .ok (.ifCond .ne 9, 3) := by decide +kernel
theorem dX11_feed_10 : decode cX11_feed 10 = .ok (.aload_n 0, 1) := by decide +kernel
theorem dX11_feed_11 : decode cX11_feed 11 = .ok (.iconst 1, 1) := by decide +kernel
theorem dX11_feed_12 : decode cX11_feed 12 = .ok (.invokevirtual 49, 3) := by decide +kernel
theorem dX11_feed_15 : decode cX11_feed 15 = .ok (.ireturn, 1) := by decide +kernel
theorem dX11_feed_16 : decode cX11_feed 16 = .ok (.aload_n 0, 1) := by decide +kernel
theorem dX11_feed_17 : decode cX11_feed 17 = .ok (.getfield 10, 3) := by decide +kernel
theorem dX11_feed_20 : decode cX11_feed 20 = .ok (.getfield 137, 3) := by decide +kernel
theorem dX11_feed_23 : decode cX11_feed 23 = .ok (.getfield 140, 3) := by decide +kernel
theorem dX11_feed_26 : decode cX11_feed 26 = .ok (.iload_n 3, 1) := by decide +kernel
theorem dX11_feed_27 : decode cX11_feed 27 = .ok (.iadd, 1) := by decide +kernel
theorem dX11_feed_28 : decode cX11_feed 28 = .ok (.bipush 50, 2) := by decide +kernel
theorem dX11_feed_30 : decode cX11_feed 30 = .ok (.if_icmp .le 9, 3) := by decide +kernel
theorem dX11_feed_33 : decode cX11_feed 33 = .ok (.aload_n 0, 1) := by decide +kernel
theorem dX11_feed_34 : decode cX11_feed 34 = .ok (.iconst 4, 1) := by decide +kernel
theorem dX11_feed_35 : decode cX11_feed 35 = .ok (.invokevirtual 49, 3) := by decide +kernel
theorem dX11_feed_38 : decode cX11_feed 38 = .ok (.ireturn, 1) := by decide +kernel
theorem dX11_feed_39 : decode cX11_feed 39 = .ok (.iconst 0, 1) := by decide +kernel
theorem dX11_feed_40 : decode cX11_feed 40 = .ok (.istore 4, 2) := by decide +kernel
theorem dX11_feed_42 : decode cX11_feed 42 = .ok (.iload 4, 2) := by decide +kernel
theorem dX11_feed_44 : decode cX11_feed 44 = .ok (.iload_n 3, 1) := by decide +kernel
theorem dX11_feed_45 : decode cX11_feed 45 = .ok (.if_icmp .ge 32, 3) := by decide +kernel
theorem dX11_feed_48 : decode cX11_feed 48 = .ok (.aload_n 0, 1) := by decide +kernel
theorem dX11_feed_49 : decode cX11_feed 49 = .ok (.getfield 10, 3) := by decide +kernel
theorem dX11_feed_52 : decode cX11_feed 52 = .ok (.getfield 137, 3) := by decide +kernel
theorem dX11_feed_55 : decode cX11_feed 55 = .ok (.lload_n 1, 1) := by decide +kernel
theorem dX11_feed_56 : decode cX11_feed 56 = .ok (.bipush 8, 2) := by decide +kernel
theorem dX11_feed_58 : decode cX11_feed 58 = .ok (.iload 4, 2) := by decide +kernel
theorem dX11_feed_60 : decode cX11_feed 60 = .ok (.imul, 1) := by decide +kernel
theorem dX11_feed_61 : decode cX11_feed 61 = .ok (.lushr, 1) := by decide +kernel
theorem dX11_feed_62 : decode cX11_feed 62 = .ok (.l2i, 1) := by decide +kernel
theorem dX11_feed_63 : decode cX11_feed 63 = .ok (.sipush 255, 3) := by decide +kernel
theorem dX11_feed_66 : decode cX11_feed 66 = .ok (.iand, 1) := by decide +kernel
theorem dX11_feed_67 : decode cX11_feed 67 = .ok (.invokevirtual 143, 3) := by decide +kernel
theorem dX11_feed_70 : decode cX11_feed 70 = .ok (.pop, 1) := by decide +kernel
theorem dX11_feed_71 : decode cX11_feed 71 = .ok (.iinc 4 1, 3) := by decide +kernel
theorem dX11_feed_74 : decode cX11_feed 74 = .ok (.goto (-32), 3) := by decide +kernel
theorem dX11_feed_77 : decode cX11_feed 77 = .ok (.aload_n 0, 1) := by decide +kernel
theorem dX11_feed_78 : decode cX11_feed 78 = .ok (.getfield 10, 3) := by decide +kernel
theorem dX11_feed_81 : decode cX11_feed 81 = .ok (.getfield 137, 3) := by decide +kernel
theorem dX11_feed_84 : decode cX11_feed 84 = .ok (.getfield 140, 3) := by decide +kernel
theorem dX11_feed_87 : decode cX11_feed 87 = .ok (.ireturn, 1) := by decide +kernel
theorem dX11_text_0 : decode cX11_text 0 = .ok (.iload_n 1, 1) := by decide +kernel
theorem dX11_text_1 : decode cX11_text 1 = .ok (.iconst 0, 1) := by decide +kernel
theorem dX11_text_2 : decode cX11_text 2 = .ok (.iconst 1, 1) := by decide +kernel
theorem dX11_text_3 : decode cX11_text 3 = .ok (.invokestatic 45, 3) := by decide +kernel
theorem dX11_text_6 : decode cX11_text 6 = .ok (.ifCond .ne 9, 3) := by decide +kernel
theorem dX11_text_9 : decode cX11_text 9 = .ok (.aload_n 0, 1) := by decide +kernel
theorem dX11_text_10 : decode cX11_text 10 = .ok (.iconst 1, 1) := by decide +kernel
theorem dX11_text_11 : decode cX11_text 11 = .ok (.invokevirtual 49, 3) := by decide +kernel
theorem dX11_text_14 : decode cX11_text 14 = .ok (.ireturn, 1) := by decide +kernel
theorem dX11_text_15 : decode cX11_text 15 = .ok (.iload_n 1, 1) := by decide +kernel
theorem dX11_text_16 : decode cX11_text 16 = .ok (.ifCond .ne 13, 3) := by decide +kernel
theorem dX11_text_19 : decode cX11_text 19 = .ok (.aload_n 0, 1) := by decide +kernel
theorem dX11_text_20 : decode cX11_text 20 = .ok (.getfield 10, 3) := by decide +kernel
theorem dX11_text_23 : decode cX11_text 23 = .ok (.getfield 146, 3) := by decide +kernel
theorem dX11_text_26 : decode cX11_text 26 = .ok (.goto 10, 3) := by decide +kernel
theorem dX11_text_29 : decode cX11_text 29 = .ok (.aload_n 0, 1) := by decide +kernel
theorem dX11_text_30 : decode cX11_text 30 = .ok (.getfield 10, 3) := by decide +kernel
theorem dX11_text_33 : decode cX11_text 33 = .ok (.getfield 150, 3) := by decide +kernel
theorem dX11_text_36 : decode cX11_text 36 = .ok (.astore_n 2, 1) := by decide +kernel
theorem dX11_text_37 : decode cX11_text 37 = .ok (.aload_n 2, 1) := by decide +kernel
theorem dX11_text_38 : decode cX11_text 38 = .ok (.aload_n 0, 1) := by decide +kernel
theorem dX11_text_39 : decode cX11_text 39 = .ok (.getfield 10, 3) := by decide +kernel
theorem dX11_text_42 : decode cX11_text 42 = .ok (.getfield 137, 3) := by decide +kernel
theorem dX11_text_45 : decode cX11_text 45 = .ok (.invokevirtual 153, 3) := by decide +kernel
theorem dX11_text_48 : decode cX11_text 48 = .ok (.istore_n 3, 1) := by decide +kernel
theorem dX11_text_49 : decode cX11_text 49 = .ok (.aload_n 0, 1) := by decide +kernel
theorem dX11_text_50 : decode cX11_text 50 = .ok (.getfield 10, 3) := by decide +kernel
theorem dX11_text_53 : decode cX11_text 53 = .ok (.getfield 137, 3) := by decide +kernel
theorem dX11_text_56 : decode cX11_text 56 = .ok (.invokevirtual 159, 3) := by decide +kernel
theorem dX11_text_59 : decode cX11_text 59 = .ok (.iload_n 3, 1) := by decide +kernel
theorem dX11_text_60 : decode cX11_text 60 = .ok (.ifCond .ge 7, 3) := by decide +kernel
theorem dX11_text_63 : decode cX11_text 63 = .ok (.iconst 1, 1) := by decide +kernel
theorem dX11_text_64 : decode cX11_text 64 = .ok (.goto 7, 3) := by decide +kernel
theorem dX11_text_67 : decode cX11_text 67 = .ok (.bipush (-10), 2) := by decide +kernel
theorem dX11_text_69 : decode cX11_text 69 = .ok (.iload_n 3, 1) := by decide +kernel
theorem dX11_text_70 : decode cX11_text 70 = .ok (.isub, 1) := by decide +kernel
theorem dX11_text_71 : decode cX11_text 71 = .ok (.ireturn, 1) := by decide +kernel
theorem dX11_law_0 : decode cX11_law 0 = .ok (.iload_n 1, 1) := by decide +kernel
theorem dX11_law_1 : decode cX11_law 1 = .ok (.lookupswitch 61 #[(0, 27), (1, 44)], 27) := by decide +kernel
theorem dX11_law_28 : decode cX11_law 28 = .ok (.aload_n 0, 1) := by decide +kernel
theorem dX11_law_29 : decode cX11_law 29 = .ok (.getfield 10, 3) := by decide +kernel
theorem dX11_law_32 : decode cX11_law 32 = .ok (.getfield 146, 3) := by decide +kernel
theorem dX11_law_35 : decode cX11_law 35 = .ok (.iload_n 2, 1) := by decide +kernel
theorem dX11_law_36 : decode cX11_law 36 = .ok (.iload_n 3, 1) := by decide +kernel
theorem dX11_law_37 : decode cX11_law 37 = .ok (.iload 4, 2) := by decide +kernel
theorem dX11_law_39 : decode cX11_law 39 = .ok (.iload 5, 2) := by decide +kernel
theorem dX11_law_41 : decode cX11_law 41 = .ok (.invokevirtual 162, 3) := by decide +kernel
theorem dX11_law_44 : decode cX11_law 44 = .ok (.ireturn, 1) := by decide +kernel
theorem dX11_law_45 : decode cX11_law 45 = .ok (.aload_n 0, 1) := by decide +kernel
theorem dX11_law_46 : decode cX11_law 46 = .ok (.getfield 10, 3) := by decide +kernel
theorem dX11_law_49 : decode cX11_law 49 = .ok (.getfield 150, 3) := by decide +kernel
theorem dX11_law_52 : decode cX11_law 52 = .ok (.iload_n 2, 1) := by decide +kernel
theorem dX11_law_53 : decode cX11_law 53 = .ok (.iload_n 3, 1) := by decide +kernel
theorem dX11_law_54 : decode cX11_law 54 = .ok (.iload 4, 2) := by decide +kernel
theorem dX11_law_56 : decode cX11_law 56 = .ok (.iload 5, 2) := by decide +kernel
theorem dX11_law_58 : decode cX11_law 58 = .ok (.invokevirtual 162, 3) := by decide +kernel
theorem dX11_law_61 : decode cX11_law 61 = .ok (.ireturn, 1) := by decide +kernel
theorem dX11_law_62 : decode cX11_law 62 = .ok (.aload_n 0, 1) := by decide +kernel
theorem dX11_law_63 : decode cX11_law 63 = .ok (.iconst 1, 1) := by decide +kernel
theorem dX11_law_64 : decode cX11_law 64 = .ok (.invokevirtual 49, 3) := by decide +kernel
theorem dX11_law_67 : decode cX11_law 67 = .ok (.ireturn, 1) := by decide +kernel
theorem dX11_cross_0 : decode cX11_cross 0 = .ok (.aload_n 0, 1) := by decide +kernel
theorem dX11_cross_1 : decode cX11_cross 1 = .ok (.getfield 10, 3) := by decide +kernel
theorem dX11_cross_4 : decode cX11_cross 4 = .ok (.iload_n 1, 1) := by decide +kernel
theorem dX11_cross_5 : decode cX11_cross 5 = .ok (.invokevirtual 91, 3) := by decide +kernel
theorem dX11_cross_8 : decode cX11_cross 8 = .ok (.ifnull 19, 3) := by decide +kernel
theorem dX11_cross_11 : decode cX11_cross 11 = .ok (.aload_n 0, 1) := by decide +kernel
theorem dX11_cross_12 : decode cX11_cross 12 = .ok (.getfield 10, 3) := by decide +kernel
theorem dX11_cross_15 : decode cX11_cross 15 = .ok (.iload_n 2, 1) := by decide +kernel
theorem dX11_cross_16 : decode cX11_cross 16 = .ok (.invokevirtual 91, 3) := by decide +kernel
theorem dX11_cross_19 : decode cX11_cross 19 = .ok (.ifnull 8, 3) := by decide +kernel
theorem dX11_cross_22 : decode cX11_cross 22 = .ok (.iload_n 1, 1) := by decide +kernel
theorem dX11_cross_23 : decode cX11_cross 23 = .ok (.iload_n 2, 1) := by decide +kernel
theorem dX11_cross_24 : decode cX11_cross 24 = .ok (.if_icmp .ne 9, 3) := by decide +kernel
theorem dX11_cross_27 : decode cX11_cross 27 = .ok (.aload_n 0, 1) := by decide +kernel
theorem dX11_cross_28 : decode cX11_cross 28 = .ok (.iconst 1, 1) := by decide +kernel
theorem dX11_cross_29 : decode cX11_cross 29 = .ok (.invokevirtual 49, 3) := by decide +kernel
theorem dX11_cross_32 : decode cX11_cross 32 = .ok (.ireturn, 1) := by decide +kernel
theorem dX11_cross_33 : decode cX11_cross 33 = .ok (.iconst 1, 1) := by decide +kernel
theorem dX11_cross_34 : decode cX11_cross 34 = .ok (.iload_n 1, 1) := by decide +kernel
theorem dX11_cross_35 : decode cX11_cross 35 = .ok (.ishl, 1) := by decide +kernel
theorem dX11_cross_36 : decode cX11_cross 36 = .ok (.iconst 1, 1) := by decide +kernel
theorem dX11_cross_37 : decode cX11_cross 37 = .ok (.iload_n 2, 1) := by decide +kernel
theorem dX11_cross_38 : decode cX11_cross 38 = .ok (.ishl, 1) := by decide +kernel
theorem dX11_cross_39 : decode cX11_cross 39 = .ok (.ior, 1) := by decide +kernel
theorem dX11_cross_40 : decode cX11_cross 40 = .ok (.istore_n 3, 1) := by decide +kernel
theorem dX11_cross_41 : decode cX11_cross 41 = .ok (.aload_n 0, 1) := by decide +kernel
theorem dX11_cross_42 : decode cX11_cross 42 = .ok (.getfield 10, 3) := by decide +kernel
theorem dX11_cross_45 : decode cX11_cross 45 = .ok (.aload_n 0, 1) := by decide +kernel
theorem dX11_cross_46 : decode cX11_cross 46 = .ok (.getfield 10, 3) := by decide +kernel
theorem dX11_cross_49 : decode cX11_cross 49 = .ok (.getfield 122, 3) := by decide +kernel
theorem dX11_cross_52 : decode cX11_cross 52 = .ok (.invokevirtual 166, 3) := by decide +kernel
theorem dX11_cross_55 : decode cX11_cross 55 = .ok (.iload_n 3, 1) := by decide +kernel
theorem dX11_cross_56 : decode cX11_cross 56 = .ok (.iand, 1) := by decide +kernel
theorem dX11_cross_57 : decode cX11_cross 57 = .ok (.iload_n 3, 1) := by decide +kernel
theorem dX11_cross_58 : decode cX11_cross 58 = .ok (.if_icmp .ne 7, 3) := by decide +kernel
theorem dX11_cross_61 : decode cX11_cross 61 = .ok (.iconst 1, 1) := by decide +kernel
theorem dX11_cross_62 : decode cX11_cross 62 = .ok (.goto 4, 3) := by decide +kernel
theorem dX11_cross_65 : decode cX11_cross 65 = .ok (.iconst 0, 1) := by decide +kernel
theorem dX11_cross_66 : decode cX11_cross 66 = .ok (.istore 4, 2) := by decide +kernel
theorem dX11_cross_68 : decode cX11_cross 68 = .ok (.iload 4, 2) := by decide +kernel
theorem dX11_cross_70 : decode cX11_cross 70 = .ok (.ifCond .eq 19, 3) := by decide +kernel
theorem dX11_cross_73 : decode cX11_cross 73 = .ok (.aload_n 0, 1) := by decide +kernel
theorem dX11_cross_74 : decode cX11_cross 74 = .ok (.getfield 10, 3) := by decide +kernel
theorem dX11_cross_77 : decode cX11_cross 77 = .ok (.iload_n 1, 1) := by decide +kernel
theorem dX11_cross_78 : decode cX11_cross 78 = .ok (.iload_n 2, 1) := by decide +kernel
theorem dX11_cross_79 : decode cX11_cross 79 = .ok (.invokevirtual 169, 3) := by decide +kernel
theorem dX11_cross_82 : decode cX11_cross 82 = .ok (.ifCond .eq 7, 3) := by decide +kernel
theorem dX11_cross_85 : decode cX11_cross 85 = .ok (.iconst 1, 1) := by decide +kernel
theorem dX11_cross_86 : decode cX11_cross 86 = .ok (.goto 4, 3) := by decide +kernel
theorem dX11_cross_89 : decode cX11_cross 89 = .ok (.iconst 0, 1) := by decide +kernel
theorem dX11_cross_90 : decode cX11_cross 90 = .ok (.ireturn, 1) := by decide +kernel
theorem dX11_lines_0 : decode cX11_lines 0 = .ok (.iload_n 1, 1) := by decide +kernel
theorem dX11_lines_1 : decode cX11_lines 1 = .ok (.iconst 0, 1) := by decide +kernel
theorem dX11_lines_2 : decode cX11_lines 2 = .ok (.iconst 1, 1) := by decide +kernel
theorem dX11_lines_3 : decode cX11_lines 3 = .ok (.invokestatic 45, 3) := by decide +kernel
theorem dX11_lines_6 : decode cX11_lines 6 = .ok (.ifCond .ne 9, 3) := by decide +kernel
theorem dX11_lines_9 : decode cX11_lines 9 = .ok (.aload_n 0, 1) := by decide +kernel
theorem dX11_lines_10 : decode cX11_lines 10 = .ok (.iconst 1, 1) := by decide +kernel
theorem dX11_lines_11 : decode cX11_lines 11 = .ok (.invokevirtual 49, 3) := by decide +kernel
theorem dX11_lines_14 : decode cX11_lines 14 = .ok (.ireturn, 1) := by decide +kernel
theorem dX11_lines_15 : decode cX11_lines 15 = .ok (.aload_n 0, 1) := by decide +kernel
theorem dX11_lines_16 : decode cX11_lines 16 = .ok (.getfield 10, 3) := by decide +kernel
theorem dX11_lines_19 : decode cX11_lines 19 = .ok (.aload_n 0, 1) := by decide +kernel
theorem dX11_lines_20 : decode cX11_lines 20 = .ok (.getfield 10, 3) := by decide +kernel
theorem dX11_lines_23 : decode cX11_lines 23 = .ok (.getfield 122, 3) := by decide +kernel
theorem dX11_lines_26 : decode cX11_lines 26 = .ok (.invokevirtual 166, 3) := by decide +kernel
theorem dX11_lines_29 : decode cX11_lines 29 = .ok (.istore_n 2, 1) := by decide +kernel
theorem dX11_lines_30 : decode cX11_lines 30 = .ok (.iload_n 1, 1) := by decide +kernel
theorem dX11_lines_31 : decode cX11_lines 31 = .ok (.ifCond .ne 7, 3) := by decide +kernel
theorem dX11_lines_34 : decode cX11_lines 34 = .ok (.iload_n 2, 1) := by decide +kernel
theorem dX11_lines_35 : decode cX11_lines 35 = .ok (.goto 11, 3) := by decide +kernel
theorem dX11_lines_38 : decode cX11_lines 38 = .ok (.aload_n 0, 1) := by decide +kernel
theorem dX11_lines_39 : decode cX11_lines 39 = .ok (.getfield 10, 3) := by decide +kernel
theorem dX11_lines_42 : decode cX11_lines 42 = .ok (.iload_n 2, 1) := by decide +kernel
theorem dX11_lines_43 : decode cX11_lines 43 = .ok (.invokevirtual 173, 3) := by decide +kernel
theorem dX11_lines_46 : decode cX11_lines 46 = .ok (.ireturn, 1) := by decide +kernel
theorem dX11_letter_0 : decode cX11_letter 0 = .ok (.aload_n 0, 1) := by decide +kernel
theorem dX11_letter_1 : decode cX11_letter 1 = .ok (.getfield 10, 3) := by decide +kernel
theorem dX11_letter_4 : decode cX11_letter 4 = .ok (.iload_n 1, 1) := by decide +kernel
theorem dX11_letter_5 : decode cX11_letter 5 = .ok (.iload_n 2, 1) := by decide +kernel
theorem dX11_letter_6 : decode cX11_letter 6 = .ok (.invokevirtual 176, 3) := by decide +kernel
theorem dX11_letter_9 : decode cX11_letter 9 = .ok (.ifCond .eq 31, 3) := by decide +kernel
theorem dX11_letter_12 : decode cX11_letter 12 = .ok (.iload_n 3, 1) := by decide +kernel
theorem dX11_letter_13 : decode cX11_letter 13 = .ok (.iconst 0, 1) := by decide +kernel
theorem dX11_letter_14 : decode cX11_letter 14 = .ok (.bipush 30, 2) := by decide +kernel
theorem dX11_letter_16 : decode cX11_letter 16 = .ok (.invokestatic 45, 3) := by decide +kernel
theorem dX11_letter_19 : decode cX11_letter 19 = .ok (.ifCond .eq 21, 3) := by decide +kernel
theorem dX11_letter_22 : decode cX11_letter 22 = .ok (.iload 4, 2) := by decide +kernel
theorem dX11_letter_24 : decode cX11_letter 24 = .ok (.iconst (-1), 1) := by decide +kernel
theorem dX11_letter_25 : decode cX11_letter 25 = .ok (.aload_n 0, 1) := by decide +kernel
theorem dX11_letter_26 : decode cX11_letter 26 = .ok (.getfield 10, 3) := by decide +kernel
theorem dX11_letter_29 : decode cX11_letter 29 = .ok (.getfield 179, 3) := by decide +kernel
theorem dX11_letter_32 : decode cX11_letter 32 = .ok (.iconst 1, 1) := by decide +kernel
theorem dX11_letter_33 : decode cX11_letter 33 = .ok (.isub, 1) := by decide +kernel
theorem dX11_letter_34 : decode cX11_letter 34 = .ok (.invokestatic 45, 3) := by decide +kernel
theorem dX11_letter_37 : decode cX11_letter 37 = .ok (.ifCond .ne 9, 3) := by decide +kernel
theorem dX11_letter_40 : decode cX11_letter 40 = .ok (.aload_n 0, 1) := by decide +kernel
theorem dX11_letter_41 : decode cX11_letter 41 = .ok (.iconst 1, 1) := by decide +kernel
theorem dX11_letter_42 : decode cX11_letter 42 = .ok (.invokevirtual 49, 3) := by decide +kernel
theorem dX11_letter_45 : decode cX11_letter 45 = .ok (.ireturn, 1) := by decide +kernel
theorem dX11_letter_46 : decode cX11_letter 46 = .ok (.aload_n 0, 1) := by decide +kernel
theorem dX11_letter_47 : decode cX11_letter 47 = .ok (.getfield 10, 3) := by decide +kernel
theorem dX11_letter_50 : decode cX11_letter 50 = .ok (.getfield 179, 3) := by decide +kernel
theorem dX11_letter_53 : decode cX11_letter 53 = .ok (.bipush 12, 2) := by decide +kernel
theorem dX11_letter_55 : decode cX11_letter 55 = .ok (.if_icmp .lt 9, 3) := by decide +kernel
theorem dX11_letter_58 : decode cX11_letter 58 = .ok (.aload_n 0, 1) := by decide +kernel
theorem dX11_letter_59 : decode cX11_letter 59 = .ok (.iconst 4, 1) := by decide +kernel
theorem dX11_letter_60 : decode cX11_letter 60 = .ok (.invokevirtual 49, 3) := by decide +kernel
theorem dX11_letter_63 : decode cX11_letter 63 = .ok (.ireturn, 1) := by decide +kernel
theorem dX11_letter_64 : decode cX11_letter 64 = .ok (.aload_n 0, 1) := by decide +kernel
theorem dX11_letter_65 : decode cX11_letter 65 = .ok (.getfield 10, 3) := by decide +kernel
theorem dX11_letter_68 : decode cX11_letter 68 = .ok (.iload_n 1, 1) := by decide +kernel
theorem dX11_letter_69 : decode cX11_letter 69 = .ok (.iload_n 2, 1) := by decide +kernel
theorem dX11_letter_70 : decode cX11_letter 70 = .ok (.iload_n 3, 1) := by decide +kernel
theorem dX11_letter_71 : decode cX11_letter 71 = .ok (.iload 4, 2) := by decide +kernel
theorem dX11_letter_73 : decode cX11_letter 73 = .ok (.invokevirtual 182, 3) := by decide +kernel
theorem dX11_letter_76 : decode cX11_letter 76 = .ok (.ireturn, 1) := by decide +kernel
theorem dX11_ofLetter_0 : decode cX11_ofLetter 0 = .ok (.aload_n 0, 1) := by decide +kernel
theorem dX11_ofLetter_1 : decode cX11_ofLetter 1 = .ok (.getfield 10, 3) := by decide +kernel
theorem dX11_ofLetter_4 : decode cX11_ofLetter 4 = .ok (.iload_n 1, 1) := by decide +kernel
theorem dX11_ofLetter_5 : decode cX11_ofLetter 5 = .ok (.invokevirtual 185, 3) := by decide +kernel
theorem dX11_ofLetter_8 : decode cX11_ofLetter 8 = .ok (.ifCond .eq 13, 3) := by decide +kernel
theorem dX11_ofLetter_11 : decode cX11_ofLetter 11 = .ok (.iload_n 2, 1) := by decide +kernel
theorem dX11_ofLetter_12 : decode cX11_ofLetter 12 = .ok (.iconst 0, 1) := by decide +kernel
theorem dX11_ofLetter_13 : decode cX11_ofLetter 13 = .ok (.bipush 6, 2) := by decide +kernel
theorem dX11_ofLetter_15 : decode cX11_ofLetter 15 = .ok (.invokestatic 45, 3) := by decide +kernel
theorem dX11_ofLetter_18 : decode cX11_ofLetter 18 = .ok (.ifCond .ne 9, 3) := by decide +kernel
theorem dX11_ofLetter_21 : decode cX11_ofLetter 21 = .ok (.aload_n 0, 1) := by decide +kernel
theorem dX11_ofLetter_22 : decode cX11_ofLetter 22 = .ok (.iconst 1, 1) := by decide +kernel
theorem dX11_ofLetter_23 : decode cX11_ofLetter 23 = .ok (.invokevirtual 49, 3) := by decide +kernel
theorem dX11_ofLetter_26 : decode cX11_ofLetter 26 = .ok (.ireturn, 1) := by decide +kernel
theorem dX11_ofLetter_27 : decode cX11_ofLetter 27 = .ok (.aload_n 0, 1) := by decide +kernel
theorem dX11_ofLetter_28 : decode cX11_ofLetter 28 = .ok (.getfield 10, 3) := by decide +kernel
theorem dX11_ofLetter_31 : decode cX11_ofLetter 31 = .ok (.iload_n 1, 1) := by decide +kernel
theorem dX11_ofLetter_32 : decode cX11_ofLetter 32 = .ok (.iload_n 2, 1) := by decide +kernel
theorem dX11_ofLetter_33 : decode cX11_ofLetter 33 = .ok (.invokevirtual 188, 3) := by decide +kernel
theorem dX11_ofLetter_36 : decode cX11_ofLetter 36 = .ok (.ireturn, 1) := by decide +kernel
theorem dX11_hours_0 : decode cX11_hours 0 = .ok (.iload_n 1, 1) := by decide +kernel
theorem dX11_hours_1 : decode cX11_hours 1 = .ok (.iconst 1, 1) := by decide +kernel
theorem dX11_hours_2 : decode cX11_hours 2 = .ok (.bipush 72, 2) := by decide +kernel
theorem dX11_hours_4 : decode cX11_hours 4 = .ok (.invokestatic 45, 3) := by decide +kernel
theorem dX11_hours_7 : decode cX11_hours 7 = .ok (.ifCond .ne 9, 3) := by decide +kernel
theorem dX11_hours_10 : decode cX11_hours 10 = .ok (.aload_n 0, 1) := by decide +kernel
theorem dX11_hours_11 : decode cX11_hours 11 = .ok (.iconst 1, 1) := by decide +kernel
theorem dX11_hours_12 : decode cX11_hours 12 = .ok (.invokevirtual 49, 3) := by decide +kernel
theorem dX11_hours_15 : decode cX11_hours 15 = .ok (.ireturn, 1) := by decide +kernel
theorem dX11_hours_16 : decode cX11_hours 16 = .ok (.aload_n 0, 1) := by decide +kernel
theorem dX11_hours_17 : decode cX11_hours 17 = .ok (.getfield 10, 3) := by decide +kernel
theorem dX11_hours_20 : decode cX11_hours 20 = .ok (.getfield 122, 3) := by decide +kernel
theorem dX11_hours_23 : decode cX11_hours 23 = .ok (.iload_n 1, 1) := by decide +kernel
theorem dX11_hours_24 : decode cX11_hours 24 = .ok (.iadd, 1) := by decide +kernel
theorem dX11_hours_25 : decode cX11_hours 25 = .ok (.sipush 9999, 3) := by decide +kernel
theorem dX11_hours_28 : decode cX11_hours 28 = .ok (.if_icmp .le 9, 3) := by decide +kernel
theorem dX11_hours_31 : decode cX11_hours 31 = .ok (.aload_n 0, 1) := by decide +kernel
theorem dX11_hours_32 : decode cX11_hours 32 = .ok (.iconst 3, 1) := by decide +kernel
theorem dX11_hours_33 : decode cX11_hours 33 = .ok (.invokevirtual 49, 3) := by decide +kernel
theorem dX11_hours_36 : decode cX11_hours 36 = .ok (.ireturn, 1) := by decide +kernel
theorem dX11_hours_37 : decode cX11_hours 37 = .ok (.aload_n 0, 1) := by decide +kernel
theorem dX11_hours_38 : decode cX11_hours 38 = .ok (.getfield 10, 3) := by decide +kernel
theorem dX11_hours_41 : decode cX11_hours 41 = .ok (.iload_n 1, 1) := by decide +kernel
theorem dX11_hours_42 : decode cX11_hours 42 = .ok (.invokevirtual 191, 3) := by decide +kernel
theorem dX11_hours_45 : decode cX11_hours 45 = .ok (.aload_n 0, 1) := by decide +kernel
theorem dX11_hours_46 : decode cX11_hours 46 = .ok (.getfield 10, 3) := by decide +kernel
theorem dX11_hours_49 : decode cX11_hours 49 = .ok (.getfield 122, 3) := by decide +kernel
theorem dX11_hours_52 : decode cX11_hours 52 = .ok (.ireturn, 1) := by decide +kernel
theorem dX11_loose_0 : decode cX11_loose 0 = .ok (.iload_n 1, 1) := by decide +kernel
theorem dX11_loose_1 : decode cX11_loose 1 = .ok (.iconst 1, 1) := by decide +kernel
theorem dX11_loose_2 : decode cX11_loose 2 = .ok (.bipush 72, 2) := by decide +kernel
theorem dX11_loose_4 : decode cX11_loose 4 = .ok (.invokestatic 45, 3) := by decide +kernel
theorem dX11_loose_7 : decode cX11_loose 7 = .ok (.ifCond .eq 13, 3) := by decide +kernel
theorem dX11_loose_10 : decode cX11_loose 10 = .ok (.iload_n 2, 1) := by decide +kernel
theorem dX11_loose_11 : decode cX11_loose 11 = .ok (.iconst 0, 1) := by decide +kernel
theorem dX11_loose_12 : decode cX11_loose 12 = .ok (.bipush 10, 2) := by decide +kernel
theorem dX11_loose_14 : decode cX11_loose 14 = .ok (.invokestatic 45, 3) := by decide +kernel
theorem dX11_loose_17 : decode cX11_loose 17 = .ok (.ifCond .ne 9, 3) := by decide +kernel
theorem dX11_loose_20 : decode cX11_loose 20 = .ok (.aload_n 0, 1) := by decide +kernel
theorem dX11_loose_21 : decode cX11_loose 21 = .ok (.iconst 1, 1) := by decide +kernel
theorem dX11_loose_22 : decode cX11_loose 22 = .ok (.invokevirtual 49, 3) := by decide +kernel
theorem dX11_loose_25 : decode cX11_loose 25 = .ok (.ireturn, 1) := by decide +kernel
theorem dX11_loose_26 : decode cX11_loose 26 = .ok (.aload_n 0, 1) := by decide +kernel
theorem dX11_loose_27 : decode cX11_loose 27 = .ok (.getfield 10, 3) := by decide +kernel
theorem dX11_loose_30 : decode cX11_loose 30 = .ok (.getfield 122, 3) := by decide +kernel
theorem dX11_loose_33 : decode cX11_loose 33 = .ok (.iload_n 1, 1) := by decide +kernel
theorem dX11_loose_34 : decode cX11_loose 34 = .ok (.iadd, 1) := by decide +kernel
theorem dX11_loose_35 : decode cX11_loose 35 = .ok (.sipush 9999, 3) := by decide +kernel
theorem dX11_loose_38 : decode cX11_loose 38 = .ok (.if_icmp .le 9, 3) := by decide +kernel
theorem dX11_loose_41 : decode cX11_loose 41 = .ok (.aload_n 0, 1) := by decide +kernel
theorem dX11_loose_42 : decode cX11_loose 42 = .ok (.iconst 3, 1) := by decide +kernel
theorem dX11_loose_43 : decode cX11_loose 43 = .ok (.invokevirtual 49, 3) := by decide +kernel
theorem dX11_loose_46 : decode cX11_loose 46 = .ok (.ireturn, 1) := by decide +kernel
theorem dX11_loose_47 : decode cX11_loose 47 = .ok (.iconst 0, 1) := by decide +kernel
theorem dX11_loose_48 : decode cX11_loose 48 = .ok (.istore_n 3, 1) := by decide +kernel
theorem dX11_loose_49 : decode cX11_loose 49 = .ok (.iload_n 3, 1) := by decide +kernel
theorem dX11_loose_50 : decode cX11_loose 50 = .ok (.iload_n 1, 1) := by decide +kernel
theorem dX11_loose_51 : decode cX11_loose 51 = .ok (.if_icmp .ge 47, 3) := by decide +kernel
theorem dX11_loose_54 : decode cX11_loose 54 = .ok (.aload_n 0, 1) := by decide +kernel
theorem dX11_loose_55 : decode cX11_loose 55 = .ok (.getfield 10, 3) := by decide +kernel
theorem dX11_loose_58 : decode cX11_loose 58 = .ok (.invokevirtual 194, 3) := by decide +kernel
theorem dX11_loose_61 : decode cX11_loose 61 = .ok (.bipush 10, 2) := by decide +kernel
theorem dX11_loose_63 : decode cX11_loose 63 = .ok (.irem, 1) := by decide +kernel
theorem dX11_loose_64 : decode cX11_loose 64 = .ok (.iload_n 2, 1) := by decide +kernel
theorem dX11_loose_65 : decode cX11_loose 65 = .ok (.if_icmp .ge 19, 3) := by decide +kernel
theorem dX11_loose_68 : decode cX11_loose 68 = .ok (.aload_n 0, 1) := by decide +kernel
theorem dX11_loose_69 : decode cX11_loose 69 = .ok (.getfield 10, 3) := by decide +kernel
theorem dX11_loose_72 : decode cX11_loose 72 = .ok (.dup, 1) := by decide +kernel
theorem dX11_loose_73 : decode cX11_loose 73 = .ok (.getfield 122, 3) := by decide +kernel
theorem dX11_loose_76 : decode cX11_loose 76 = .ok (.iconst 1, 1) := by decide +kernel
theorem dX11_loose_77 : decode cX11_loose 77 = .ok (.iadd, 1) := by decide +kernel
theorem dX11_loose_78 : decode cX11_loose 78 = .ok (.putfield 122, 3) := by decide +kernel
theorem dX11_loose_81 : decode cX11_loose 81 = .ok (.goto 11, 3) := by decide +kernel
theorem dX11_loose_84 : decode cX11_loose 84 = .ok (.aload_n 0, 1) := by decide +kernel
theorem dX11_loose_85 : decode cX11_loose 85 = .ok (.getfield 10, 3) := by decide +kernel
theorem dX11_loose_88 : decode cX11_loose 88 = .ok (.iconst 1, 1) := by decide +kernel
theorem dX11_loose_89 : decode cX11_loose 89 = .ok (.invokevirtual 191, 3) := by decide +kernel
theorem dX11_loose_92 : decode cX11_loose 92 = .ok (.iinc 3 1, 3) := by decide +kernel
theorem dX11_loose_95 : decode cX11_loose 95 = .ok (.goto (-46), 3) := by decide +kernel
theorem dX11_loose_98 : decode cX11_loose 98 = .ok (.aload_n 0, 1) := by decide +kernel
theorem dX11_loose_99 : decode cX11_loose 99 = .ok (.getfield 10, 3) := by decide +kernel
theorem dX11_loose_102 : decode cX11_loose 102 = .ok (.getfield 122, 3) := by decide +kernel
theorem dX11_loose_105 : decode cX11_loose 105 = .ok (.ireturn, 1) := by decide +kernel
theorem dX11_then_0 : decode cX11_then 0 = .ok (.iload_n 1, 1) := by decide +kernel
theorem dX11_then_1 : decode cX11_then 1 = .ok (.iconst 0, 1) := by decide +kernel
theorem dX11_then_2 : decode cX11_then 2 = .ok (.bipush 72, 2) := by decide +kernel
theorem dX11_then_4 : decode cX11_then 4 = .ok (.invokestatic 45, 3) := by decide +kernel
theorem dX11_then_7 : decode cX11_then 7 = .ok (.ifCond .eq 12, 3) := by decide +kernel
theorem dX11_then_10 : decode cX11_then 10 = .ok (.iload_n 2, 1) := by decide +kernel
theorem dX11_then_11 : decode cX11_then 11 = .ok (.iconst 0, 1) := by decide +kernel
theorem dX11_then_12 : decode cX11_then 12 = .ok (.iconst 1, 1) := by decide +kernel
theorem dX11_then_13 : decode cX11_then 13 = .ok (.invokestatic 45, 3) := by decide +kernel
theorem dX11_then_16 : decode cX11_then 16 = .ok (.ifCond .ne 9, 3) := by decide +kernel
theorem dX11_then_19 : decode cX11_then 19 = .ok (.aload_n 0, 1) := by decide +kernel
theorem dX11_then_20 : decode cX11_then 20 = .ok (.iconst 1, 1) := by decide +kernel
theorem dX11_then_21 : decode cX11_then 21 = .ok (.invokevirtual 49, 3) := by decide +kernel
theorem dX11_then_24 : decode cX11_then 24 = .ok (.ireturn, 1) := by decide +kernel
theorem dX11_then_25 : decode cX11_then 25 = .ok (.aload_n 0, 1) := by decide +kernel
theorem dX11_then_26 : decode cX11_then 26 = .ok (.getfield 16, 3) := by decide +kernel
theorem dX11_then_29 : decode cX11_then 29 = .ok (.aload_n 0, 1) := by decide +kernel
theorem dX11_then_30 : decode cX11_then 30 = .ok (.getfield 10, 3) := by decide +kernel
theorem dX11_then_33 : decode cX11_then 33 = .ok (.invokevirtual 198, 3) := by decide +kernel
theorem dX11_then_36 : decode cX11_then 36 = .ok (.aload_n 0, 1) := by decide +kernel
theorem dX11_then_37 : decode cX11_then 37 = .ok (.getfield 16, 3) := by decide +kernel
theorem dX11_then_40 : decode cX11_then 40 = .ok (.iload_n 1, 1) := by decide +kernel
theorem dX11_then_41 : decode cX11_then 41 = .ok (.invokevirtual 191, 3) := by decide +kernel
theorem dX11_then_44 : decode cX11_then 44 = .ok (.iload_n 2, 1) := by decide +kernel
theorem dX11_then_45 : decode cX11_then 45 = .ok (.ifCond .ne 16, 3) := by decide +kernel
theorem dX11_then_48 : decode cX11_then 48 = .ok (.aload_n 0, 1) := by decide +kernel
theorem dX11_then_49 : decode cX11_then 49 = .ok (.getfield 16, 3) := by decide +kernel
theorem dX11_then_52 : decode cX11_then 52 = .ok (.getfield 202, 3) := by decide +kernel
theorem dX11_then_55 : decode cX11_then 55 = .ok (.getfield 140, 3) := by decide +kernel
theorem dX11_then_58 : decode cX11_then 58 = .ok (.goto 10, 3) := by decide +kernel
theorem dX11_then_61 : decode cX11_then 61 = .ok (.aload_n 0, 1) := by decide +kernel
theorem dX11_then_62 : decode cX11_then 62 = .ok (.getfield 16, 3) := by decide +kernel
theorem dX11_then_65 : decode cX11_then 65 = .ok (.getfield 205, 3) := by decide +kernel
theorem dX11_then_68 : decode cX11_then 68 = .ok (.ireturn, 1) := by decide +kernel
theorem dX11_where_0 : decode cX11_where 0 = .ok (.iload_n 1, 1) := by decide +kernel
theorem dX11_where_1 : decode cX11_where 1 = .ok (.iconst 0, 1) := by decide +kernel
theorem dX11_where_2 : decode cX11_where 2 = .ok (.bipush 72, 2) := by decide +kernel
theorem dX11_where_4 : decode cX11_where 4 = .ok (.invokestatic 45, 3) := by decide +kernel
theorem dX11_where_7 : decode cX11_where 7 = .ok (.ifCond .eq 24, 3) := by decide +kernel
theorem dX11_where_10 : decode cX11_where 10 = .ok (.aload_n 0, 1) := by decide +kernel
theorem dX11_where_11 : decode cX11_where 11 = .ok (.getfield 10, 3) := by decide +kernel
theorem dX11_where_14 : decode cX11_where 14 = .ok (.iload_n 2, 1) := by decide +kernel
theorem dX11_where_15 : decode cX11_where 15 = .ok (.invokevirtual 185, 3) := by decide +kernel
theorem dX11_where_18 : decode cX11_where 18 = .ok (.ifCond .eq 13, 3) := by decide +kernel
theorem dX11_where_21 : decode cX11_where 21 = .ok (.iload_n 3, 1) := by decide +kernel
theorem dX11_where_22 : decode cX11_where 22 = .ok (.iconst 5, 1) := by decide +kernel
theorem dX11_where_23 : decode cX11_where 23 = .ok (.bipush 6, 2) := by decide +kernel
theorem dX11_where_25 : decode cX11_where 25 = .ok (.invokestatic 45, 3) := by decide +kernel
theorem dX11_where_28 : decode cX11_where 28 = .ok (.ifCond .ne 9, 3) := by decide +kernel
theorem dX11_where_31 : decode cX11_where 31 = .ok (.aload_n 0, 1) := by decide +kernel
theorem dX11_where_32 : decode cX11_where 32 = .ok (.iconst 1, 1) := by decide +kernel
theorem dX11_where_33 : decode cX11_where 33 = .ok (.invokevirtual 49, 3) := by decide +kernel
theorem dX11_where_36 : decode cX11_where 36 = .ok (.ireturn, 1) := by decide +kernel
theorem dX11_where_37 : decode cX11_where 37 = .ok (.aload_n 0, 1) := by decide +kernel
theorem dX11_where_38 : decode cX11_where 38 = .ok (.getfield 16, 3) := by decide +kernel
theorem dX11_where_41 : decode cX11_where 41 = .ok (.aload_n 0, 1) := by decide +kernel
theorem dX11_where_42 : decode cX11_where 42 = .ok (.getfield 10, 3) := by decide +kernel
theorem dX11_where_45 : decode cX11_where 45 = .ok (.invokevirtual 198, 3) := by decide +kernel
theorem dX11_where_48 : decode cX11_where 48 = .ok (.aload_n 0, 1) := by decide +kernel
theorem dX11_where_49 : decode cX11_where 49 = .ok (.getfield 16, 3) := by decide +kernel
theorem dX11_where_52 : decode cX11_where 52 = .ok (.iload_n 1, 1) := by decide +kernel
theorem dX11_where_53 : decode cX11_where 53 = .ok (.invokevirtual 191, 3) := by decide +kernel
theorem dX11_where_56 : decode cX11_where 56 = .ok (.aload_n 0, 1) := by decide +kernel
theorem dX11_where_57 : decode cX11_where 57 = .ok (.getfield 16, 3) := by decide +kernel
theorem dX11_where_60 : decode cX11_where 60 = .ok (.iload_n 2, 1) := by decide +kernel
theorem dX11_where_61 : decode cX11_where 61 = .ok (.iload_n 3, 1) := by decide +kernel
theorem dX11_where_62 : decode cX11_where 62 = .ok (.invokevirtual 188, 3) := by decide +kernel
theorem dX11_where_65 : decode cX11_where 65 = .ok (.ireturn, 1) := by decide +kernel
theorem dX11_soonest_0 : decode cX11_soonest 0 = .ok (.aload_n 0, 1) := by decide +kernel
theorem dX11_soonest_1 : decode cX11_soonest 1 = .ok (.getfield 10, 3) := by decide +kernel
theorem dX11_soonest_4 : decode cX11_soonest 4 = .ok (.iload_n 1, 1) := by decide +kernel
theorem dX11_soonest_5 : decode cX11_soonest 5 = .ok (.iload_n 2, 1) := by decide +kernel
theorem dX11_soonest_6 : decode cX11_soonest 6 = .ok (.invokevirtual 176, 3) := by decide +kernel
theorem dX11_soonest_9 : decode cX11_soonest 9 = .ok (.ifCond .eq 14, 3) := by decide +kernel
theorem dX11_soonest_12 : decode cX11_soonest 12 = .ok (.iload_n 3, 1) := by decide +kernel
theorem dX11_soonest_13 : decode cX11_soonest 13 = .ok (.iconst 0, 1) := by decide +kernel
theorem dX11_soonest_14 : decode cX11_soonest 14 = .ok (.sipush 999, 3) := by decide +kernel
theorem dX11_soonest_17 : decode cX11_soonest 17 = .ok (.invokestatic 45, 3) := by decide +kernel
theorem dX11_soonest_20 : decode cX11_soonest 20 = .ok (.ifCond .ne 9, 3) := by decide +kernel
theorem dX11_soonest_23 : decode cX11_soonest 23 = .ok (.aload_n 0, 1) := by decide +kernel
theorem dX11_soonest_24 : decode cX11_soonest 24 = .ok (.iconst 1, 1) := by decide +kernel
theorem dX11_soonest_25 : decode cX11_soonest 25 = .ok (.invokevirtual 49, 3) := by decide +kernel
theorem dX11_soonest_28 : decode cX11_soonest 28 = .ok (.ireturn, 1) := by decide +kernel
theorem dX11_soonest_29 : decode cX11_soonest 29 = .ok (.aload_n 0, 1) := by decide +kernel
theorem dX11_soonest_30 : decode cX11_soonest 30 = .ok (.getfield 10, 3) := by decide +kernel
theorem dX11_soonest_33 : decode cX11_soonest 33 = .ok (.iload_n 1, 1) := by decide +kernel
theorem dX11_soonest_34 : decode cX11_soonest 34 = .ok (.iload_n 2, 1) := by decide +kernel
theorem dX11_soonest_35 : decode cX11_soonest 35 = .ok (.iload_n 3, 1) := by decide +kernel
theorem dX11_soonest_36 : decode cX11_soonest 36 = .ok (.bipush 72, 2) := by decide +kernel
theorem dX11_soonest_38 : decode cX11_soonest 38 = .ok (.invokevirtual 208, 3) := by decide +kernel
theorem dX11_soonest_41 : decode cX11_soonest 41 = .ok (.istore 4, 2) := by decide +kernel
theorem dX11_soonest_43 : decode cX11_soonest 43 = .ok (.iload 4, 2) := by decide +kernel
theorem dX11_soonest_45 : decode cX11_soonest 45 = .ok (.ifCond .ge 11, 3) := by decide +kernel
theorem dX11_soonest_48 : decode cX11_soonest 48 = .ok (.aload_n 0, 1) := by decide +kernel
theorem dX11_soonest_49 : decode cX11_soonest 49 = .ok (.iconst 2, 1) := by decide +kernel
theorem dX11_soonest_50 : decode cX11_soonest 50 = .ok (.invokevirtual 49, 3) := by decide +kernel
theorem dX11_soonest_53 : decode cX11_soonest 53 = .ok (.goto 5, 3) := by decide +kernel
theorem dX11_soonest_56 : decode cX11_soonest 56 = .ok (.iload 4, 2) := by decide +kernel
theorem dX11_soonest_58 : decode cX11_soonest 58 = .ok (.ireturn, 1) := by decide +kernel
theorem dX11_sure_0 : decode cX11_sure 0 = .ok (.iload_n 1, 1) := by decide +kernel
theorem dX11_sure_1 : decode cX11_sure 1 = .ok (.ifCond .lt 64, 3) := by decide +kernel
theorem dX11_sure_4 : decode cX11_sure 4 = .ok (.aload_n 0, 1) := by decide +kernel
theorem dX11_sure_5 : decode cX11_sure 5 = .ok (.getfield 10, 3) := by decide +kernel
theorem dX11_sure_8 : decode cX11_sure 8 = .ok (.iload_n 1, 1) := by decide +kernel
theorem dX11_sure_9 : decode cX11_sure 9 = .ok (.bipush 10, 2) := by decide +kernel
theorem dX11_sure_11 : decode cX11_sure 11 = .ok (.idiv, 1) := by decide +kernel
theorem dX11_sure_12 : decode cX11_sure 12 = .ok (.iload_n 1, 1) := by decide +kernel
theorem dX11_sure_13 : decode cX11_sure 13 = .ok (.bipush 10, 2) := by decide +kernel
theorem dX11_sure_15 : decode cX11_sure 15 = .ok (.irem, 1) := by decide +kernel
theorem dX11_sure_16 : decode cX11_sure 16 = .ok (.invokevirtual 176, 3) := by decide +kernel
theorem dX11_sure_19 : decode cX11_sure 19 = .ok (.ifCond .eq 46, 3) := by decide +kernel
theorem dX11_sure_22 : decode cX11_sure 22 = .ok (.iload_n 2, 1) := by decide +kernel
theorem dX11_sure_23 : decode cX11_sure 23 = .ok (.iconst 0, 1) := by decide +kernel
theorem dX11_sure_24 : decode cX11_sure 24 = .ok (.sipush 999, 3) := by decide +kernel
theorem dX11_sure_27 : decode cX11_sure 27 = .ok (.invokestatic 45, 3) := by decide +kernel
theorem dX11_sure_30 : decode cX11_sure 30 = .ok (.ifCond .eq 35, 3) := by decide +kernel
theorem dX11_sure_33 : decode cX11_sure 33 = .ok (.iload_n 3, 1) := by decide +kernel
theorem dX11_sure_34 : decode cX11_sure 34 = .ok (.ifCond .lt 31, 3) := by decide +kernel
theorem dX11_sure_37 : decode cX11_sure 37 = .ok (.iload_n 3, 1) := by decide +kernel
theorem dX11_sure_38 : decode cX11_sure 38 = .ok (.bipush 100, 2) := by decide +kernel
theorem dX11_sure_40 : decode cX11_sure 40 = .ok (.idiv, 1) := by decide +kernel
theorem dX11_sure_41 : decode cX11_sure 41 = .ok (.bipush 10, 2) := by decide +kernel
theorem dX11_sure_43 : decode cX11_sure 43 = .ok (.if_icmp .gt 22, 3) := by decide +kernel
theorem dX11_sure_46 : decode cX11_sure 46 = .ok (.iload_n 3, 1) := by decide +kernel
theorem dX11_sure_47 : decode cX11_sure 47 = .ok (.bipush 100, 2) := by decide +kernel
theorem dX11_sure_49 : decode cX11_sure 49 = .ok (.irem, 1) := by decide +kernel
theorem dX11_sure_50 : decode cX11_sure 50 = .ok (.bipush 10, 2) := by decide +kernel
theorem dX11_sure_52 : decode cX11_sure 52 = .ok (.if_icmp .gt 13, 3) := by decide +kernel
theorem dX11_sure_55 : decode cX11_sure 55 = .ok (.iload 4, 2) := by decide +kernel
theorem dX11_sure_57 : decode cX11_sure 57 = .ok (.iconst 0, 1) := by decide +kernel
theorem dX11_sure_58 : decode cX11_sure 58 = .ok (.iconst 1, 1) := by decide +kernel
theorem dX11_sure_59 : decode cX11_sure 59 = .ok (.invokestatic 45, 3) := by decide +kernel
theorem dX11_sure_62 : decode cX11_sure 62 = .ok (.ifCond .ne 10, 3) := by decide +kernel
theorem dX11_sure_65 : decode cX11_sure 65 = .ok (.aload_n 0, 1) := by decide +kernel
theorem dX11_sure_66 : decode cX11_sure 66 = .ok (.iconst 1, 1) := by decide +kernel
theorem dX11_sure_67 : decode cX11_sure 67 = .ok (.invokevirtual 49, 3) := by decide +kernel
theorem dX11_sure_70 : decode cX11_sure 70 = .ok (.i2l, 1) := by decide +kernel
theorem dX11_sure_71 : decode cX11_sure 71 = .ok (.lreturn, 1) := by decide +kernel
theorem dX11_sure_72 : decode cX11_sure 72 = .ok (.iload_n 3, 1) := by decide +kernel
theorem dX11_sure_73 : decode cX11_sure 73 = .ok (.bipush 100, 2) := by decide +kernel
theorem dX11_sure_75 : decode cX11_sure 75 = .ok (.idiv, 1) := by decide +kernel
theorem dX11_sure_76 : decode cX11_sure 76 = .ok (.istore 5, 2) := by decide +kernel
theorem dX11_sure_78 : decode cX11_sure 78 = .ok (.aload_n 0, 1) := by decide +kernel
theorem dX11_sure_79 : decode cX11_sure 79 = .ok (.iload_n 2, 1) := by decide +kernel
theorem dX11_sure_80 : decode cX11_sure 80 = .ok (.iload 5, 2) := by decide +kernel
theorem dX11_sure_82 : decode cX11_sure 82 = .ok (.invokevirtual 211, 3) := by decide +kernel
theorem dX11_sure_85 : decode cX11_sure 85 = .ok (.aload_n 0, 1) := by decide +kernel
theorem dX11_sure_86 : decode cX11_sure 86 = .ok (.iconst 1, 1) := by decide +kernel
theorem dX11_sure_87 : decode cX11_sure 87 = .ok (.iload_n 1, 1) := by decide +kernel
theorem dX11_sure_88 : decode cX11_sure 88 = .ok (.bipush 10, 2) := by decide +kernel
theorem dX11_sure_90 : decode cX11_sure 90 = .ok (.idiv, 1) := by decide +kernel
theorem dX11_sure_91 : decode cX11_sure 91 = .ok (.ishl, 1) := by decide +kernel
theorem dX11_sure_92 : decode cX11_sure 92 = .ok (.iload_n 1, 1) := by decide +kernel
theorem dX11_sure_93 : decode cX11_sure 93 = .ok (.bipush 10, 2) := by decide +kernel
theorem dX11_sure_95 : decode cX11_sure 95 = .ok (.irem, 1) := by decide +kernel
theorem dX11_sure_96 : decode cX11_sure 96 = .ok (.iconst 0, 1) := by decide +kernel
theorem dX11_sure_97 : decode cX11_sure 97 = .ok (.iload 5, 2) := by decide +kernel
theorem dX11_sure_99 : decode cX11_sure 99 = .ok (.iload_n 3, 1) := by decide +kernel
theorem dX11_sure_100 : decode cX11_sure 100 = .ok (.bipush 100, 2) := by decide +kernel
theorem dX11_sure_102 : decode cX11_sure 102 = .ok (.irem, 1) := by decide +kernel
theorem dX11_sure_103 : decode cX11_sure 103 = .ok (.invokevirtual 214, 3) := by decide +kernel
theorem dX11_sure_106 : decode cX11_sure 106 = .ok (.lstore 6, 2) := by decide +kernel
theorem dX11_sure_108 : decode cX11_sure 108 = .ok (.lload 6, 2) := by decide +kernel
theorem dX11_sure_110 : decode cX11_sure 110 = .ok (.iload 5, 2) := by decide +kernel
theorem dX11_sure_112 : decode cX11_sure 112 = .ok (.iload 4, 2) := by decide +kernel
theorem dX11_sure_114 : decode cX11_sure 114 = .ok (.invokestatic 218, 3) := by decide +kernel
theorem dX11_sure_117 : decode cX11_sure 117 = .ok (.lreturn, 1) := by decide +kernel
theorem dX11_best_0 : decode cX11_best 0 = .ok (.aload_n 0, 1) := by decide +kernel
theorem dX11_best_1 : decode cX11_best 1 = .ok (.getfield 10, 3) := by decide +kernel
theorem dX11_best_4 : decode cX11_best 4 = .ok (.iload_n 1, 1) := by decide +kernel
theorem dX11_best_5 : decode cX11_best 5 = .ok (.invokevirtual 91, 3) := by decide +kernel
theorem dX11_best_8 : decode cX11_best 8 = .ok (.astore_n 3, 1) := by decide +kernel
theorem dX11_best_9 : decode cX11_best 9 = .ok (.aload_n 3, 1) := by decide +kernel
theorem dX11_best_10 : decode cX11_best 10 = .ok (.ifnull 13, 3) := by decide +kernel
theorem dX11_best_13 : decode cX11_best 13 = .ok (.iload_n 2, 1) := by decide +kernel
theorem dX11_best_14 : decode cX11_best 14 = .ok (.iconst 0, 1) := by decide +kernel
theorem dX11_best_15 : decode cX11_best 15 = .ok (.bipush 72, 2) := by decide +kernel
theorem dX11_best_17 : decode cX11_best 17 = .ok (.invokestatic 45, 3) := by decide +kernel
theorem dX11_best_20 : decode cX11_best 20 = .ok (.ifCond .ne 9, 3) := by decide +kernel
theorem dX11_best_23 : decode cX11_best 23 = .ok (.aload_n 0, 1) := by decide +kernel
theorem dX11_best_24 : decode cX11_best 24 = .ok (.iconst 1, 1) := by decide +kernel
theorem dX11_best_25 : decode cX11_best 25 = .ok (.invokevirtual 49, 3) := by decide +kernel
theorem dX11_best_28 : decode cX11_best 28 = .ok (.ireturn, 1) := by decide +kernel
theorem dX11_best_29 : decode cX11_best 29 = .ok (.iconst (-1), 1) := by decide +kernel
theorem dX11_best_30 : decode cX11_best 30 = .ok (.istore 4, 2) := by decide +kernel
theorem dX11_best_32 : decode cX11_best 32 = .ok (.iconst (-1), 1) := by decide +kernel
theorem dX11_best_33 : decode cX11_best 33 = .ok (.istore 5, 2) := by decide +kernel
theorem dX11_best_35 : decode cX11_best 35 = .ok (.iconst (-1), 1) := by decide +kernel
theorem dX11_best_36 : decode cX11_best 36 = .ok (.istore 6, 2) := by decide +kernel
theorem dX11_best_38 : decode cX11_best 38 = .ok (.iload 6, 2) := by decide +kernel
theorem dX11_best_40 : decode cX11_best 40 = .ok (.aload_n 0, 1) := by decide +kernel
theorem dX11_best_41 : decode cX11_best 41 = .ok (.getfield 10, 3) := by decide +kernel
theorem dX11_best_44 : decode cX11_best 44 = .ok (.getfield 56, 3) := by decide +kernel
theorem dX11_best_47 : decode cX11_best 47 = .ok (.if_icmp .ge 81, 3) := by decide +kernel
theorem dX11_best_50 : decode cX11_best 50 = .ok (.iload 6, 2) := by decide +kernel
theorem dX11_best_52 : decode cX11_best 52 = .ok (.aload_n 3, 1) := by decide +kernel
theorem dX11_best_53 : decode cX11_best 53 = .ok (.getfield 103, 3) := by decide +kernel
theorem dX11_best_56 : decode cX11_best 56 = .ok (.if_icmp .ne 6, 3) := by decide +kernel
theorem dX11_best_59 : decode cX11_best 59 = .ok (.goto 63, 3) := by decide +kernel
theorem dX11_best_62 : decode cX11_best 62 = .ok (.aload_n 0, 1) := by decide +kernel
theorem dX11_best_63 : decode cX11_best 63 = .ok (.getfield 16, 3) := by decide +kernel
theorem dX11_best_66 : decode cX11_best 66 = .ok (.aload_n 0, 1) := by decide +kernel
theorem dX11_best_67 : decode cX11_best 67 = .ok (.getfield 10, 3) := by decide +kernel
theorem dX11_best_70 : decode cX11_best 70 = .ok (.invokevirtual 198, 3) := by decide +kernel
theorem dX11_best_73 : decode cX11_best 73 = .ok (.aload_n 0, 1) := by decide +kernel
theorem dX11_best_74 : decode cX11_best 74 = .ok (.getfield 16, 3) := by decide +kernel
theorem dX11_best_77 : decode cX11_best 77 = .ok (.iload_n 1, 1) := by decide +kernel
theorem dX11_best_78 : decode cX11_best 78 = .ok (.iload 6, 2) := by decide +kernel
theorem dX11_best_80 : decode cX11_best 80 = .ok (.invokevirtual 119, 3) := by decide +kernel
theorem dX11_best_83 : decode cX11_best 83 = .ok (.aload_n 0, 1) := by decide +kernel
theorem dX11_best_84 : decode cX11_best 84 = .ok (.getfield 16, 3) := by decide +kernel
theorem dX11_best_87 : decode cX11_best 87 = .ok (.iload_n 2, 1) := by decide +kernel
theorem dX11_best_88 : decode cX11_best 88 = .ok (.invokevirtual 191, 3) := by decide +kernel
theorem dX11_best_91 : decode cX11_best 91 = .ok (.aload_n 0, 1) := by decide +kernel
theorem dX11_best_92 : decode cX11_best 92 = .ok (.getfield 16, 3) := by decide +kernel
theorem dX11_best_95 : decode cX11_best 95 = .ok (.getfield 202, 3) := by decide +kernel
theorem dX11_best_98 : decode cX11_best 98 = .ok (.getfield 140, 3) := by decide +kernel
theorem dX11_best_101 : decode cX11_best 101 = .ok (.iload 5, 2) := by decide +kernel
theorem dX11_best_103 : decode cX11_best 103 = .ok (.if_icmp .le 19, 3) := by decide +kernel
theorem dX11_best_106 : decode cX11_best 106 = .ok (.aload_n 0, 1) := by decide +kernel
theorem dX11_best_107 : decode cX11_best 107 = .ok (.getfield 16, 3) := by decide +kernel
theorem dX11_best_110 : decode cX11_best 110 = .ok (.getfield 202, 3) := by decide +kernel
theorem dX11_best_113 : decode cX11_best 113 = .ok (.getfield 140, 3) := by decide +kernel
theorem dX11_best_116 : decode cX11_best 116 = .ok (.istore 5, 2) := by decide +kernel
theorem dX11_best_118 : decode cX11_best 118 = .ok (.iload 6, 2) := by decide +kernel
theorem dX11_best_120 : decode cX11_best 120 = .ok (.istore 4, 2) := by decide +kernel
theorem dX11_best_122 : decode cX11_best 122 = .ok (.iinc 6 1, 3) := by decide +kernel
theorem dX11_best_125 : decode cX11_best 125 = .ok (.goto (-87), 3) := by decide +kernel
theorem dX11_best_128 : decode cX11_best 128 = .ok (.iload 4, 2) := by decide +kernel
theorem dX11_best_130 : decode cX11_best 130 = .ok (.ireturn, 1) := by decide +kernel
theorem dX11_fresh_0 : decode cX11_fresh 0 = .ok (.aload_n 0, 1) := by decide +kernel
theorem dX11_fresh_1 : decode cX11_fresh 1 = .ok (.getfield 10, 3) := by decide +kernel
theorem dX11_fresh_4 : decode cX11_fresh 4 = .ok (.iload_n 1, 1) := by decide +kernel
theorem dX11_fresh_5 : decode cX11_fresh 5 = .ok (.iload_n 2, 1) := by decide +kernel
theorem dX11_fresh_6 : decode cX11_fresh 6 = .ok (.invokevirtual 176, 3) := by decide +kernel
theorem dX11_fresh_9 : decode cX11_fresh 9 = .ok (.ifCond .eq 24, 3) := by decide +kernel
theorem dX11_fresh_12 : decode cX11_fresh 12 = .ok (.iload_n 3, 1) := by decide +kernel
theorem dX11_fresh_13 : decode cX11_fresh 13 = .ok (.iconst 0, 1) := by decide +kernel
theorem dX11_fresh_14 : decode cX11_fresh 14 = .ok (.sipush 999, 3) := by decide +kernel
theorem dX11_fresh_17 : decode cX11_fresh 17 = .ok (.invokestatic 45, 3) := by decide +kernel
theorem dX11_fresh_20 : decode cX11_fresh 20 = .ok (.ifCond .eq 13, 3) := by decide +kernel
theorem dX11_fresh_23 : decode cX11_fresh 23 = .ok (.iload 4, 2) := by decide +kernel
theorem dX11_fresh_25 : decode cX11_fresh 25 = .ok (.iconst 0, 1) := by decide +kernel
theorem dX11_fresh_26 : decode cX11_fresh 26 = .ok (.iconst 1, 1) := by decide +kernel
theorem dX11_fresh_27 : decode cX11_fresh 27 = .ok (.invokestatic 45, 3) := by decide +kernel
theorem dX11_fresh_30 : decode cX11_fresh 30 = .ok (.ifCond .ne 9, 3) := by decide +kernel
theorem dX11_fresh_33 : decode cX11_fresh 33 = .ok (.aload_n 0, 1) := by decide +kernel
theorem dX11_fresh_34 : decode cX11_fresh 34 = .ok (.iconst 1, 1) := by decide +kernel
theorem dX11_fresh_35 : decode cX11_fresh 35 = .ok (.invokevirtual 49, 3) := by decide +kernel
theorem dX11_fresh_38 : decode cX11_fresh 38 = .ok (.ireturn, 1) := by decide +kernel
theorem dX11_fresh_39 : decode cX11_fresh 39 = .ok (.aload_n 0, 1) := by decide +kernel
theorem dX11_fresh_40 : decode cX11_fresh 40 = .ok (.getfield 10, 3) := by decide +kernel
theorem dX11_fresh_43 : decode cX11_fresh 43 = .ok (.getfield 56, 3) := by decide +kernel
theorem dX11_fresh_46 : decode cX11_fresh 46 = .ok (.bipush 9, 2) := by decide +kernel
theorem dX11_fresh_48 : decode cX11_fresh 48 = .ok (.if_icmp .ge 15, 3) := by decide +kernel
theorem dX11_fresh_51 : decode cX11_fresh 51 = .ok (.aload_n 0, 1) := by decide +kernel
theorem dX11_fresh_52 : decode cX11_fresh 52 = .ok (.getfield 10, 3) := by decide +kernel
theorem dX11_fresh_55 : decode cX11_fresh 55 = .ok (.getfield 84, 3) := by decide +kernel
theorem dX11_fresh_58 : decode cX11_fresh 58 = .ok (.bipush 8, 2) := by decide +kernel
theorem dX11_fresh_60 : decode cX11_fresh 60 = .ok (.if_icmp .lt 9, 3) := by decide +kernel
theorem dX11_fresh_63 : decode cX11_fresh 63 = .ok (.aload_n 0, 1) := by decide +kernel
theorem dX11_fresh_64 : decode cX11_fresh 64 = .ok (.iconst 3, 1) := by decide +kernel
theorem dX11_fresh_65 : decode cX11_fresh 65 = .ok (.invokevirtual 49, 3) := by decide +kernel
theorem dX11_fresh_68 : decode cX11_fresh 68 = .ok (.ireturn, 1) := by decide +kernel
theorem dX11_fresh_69 : decode cX11_fresh 69 = .ok (.aload_n 0, 1) := by decide +kernel
theorem dX11_fresh_70 : decode cX11_fresh 70 = .ok (.getfield 16, 3) := by decide +kernel
theorem dX11_fresh_73 : decode cX11_fresh 73 = .ok (.aload_n 0, 1) := by decide +kernel
theorem dX11_fresh_74 : decode cX11_fresh 74 = .ok (.getfield 10, 3) := by decide +kernel
theorem dX11_fresh_77 : decode cX11_fresh 77 = .ok (.invokevirtual 198, 3) := by decide +kernel
theorem dX11_fresh_80 : decode cX11_fresh 80 = .ok (.aload_n 0, 1) := by decide +kernel
theorem dX11_fresh_81 : decode cX11_fresh 81 = .ok (.getfield 16, 3) := by decide +kernel
theorem dX11_fresh_84 : decode cX11_fresh 84 = .ok (.iconst 0, 1) := by decide +kernel
theorem dX11_fresh_85 : decode cX11_fresh 85 = .ok (.iconst 0, 1) := by decide +kernel
theorem dX11_fresh_86 : decode cX11_fresh 86 = .ok (.invokevirtual 60, 3) := by decide +kernel
theorem dX11_fresh_89 : decode cX11_fresh 89 = .ok (.istore 5, 2) := by decide +kernel
theorem dX11_fresh_91 : decode cX11_fresh 91 = .ok (.aload_n 0, 1) := by decide +kernel
theorem dX11_fresh_92 : decode cX11_fresh 92 = .ok (.getfield 16, 3) := by decide +kernel
theorem dX11_fresh_95 : decode cX11_fresh 95 = .ok (.iconst 0, 1) := by decide +kernel
theorem dX11_fresh_96 : decode cX11_fresh 96 = .ok (.iload 5, 2) := by decide +kernel
theorem dX11_fresh_98 : decode cX11_fresh 98 = .ok (.sipush 4020, 3) := by decide +kernel
theorem dX11_fresh_101 : decode cX11_fresh 101 = .ok (.invokevirtual 87, 3) := by decide +kernel
theorem dX11_fresh_104 : decode cX11_fresh 104 = .ok (.pop, 1) := by decide +kernel
theorem dX11_fresh_105 : decode cX11_fresh 105 = .ok (.bipush 73, 2) := by decide +kernel
theorem dX11_fresh_107 : decode cX11_fresh 107 = .ok (.istore 6, 2) := by decide +kernel
theorem dX11_fresh_109 : decode cX11_fresh 109 = .ok (.iconst (-1), 1) := by decide +kernel
theorem dX11_fresh_110 : decode cX11_fresh 110 = .ok (.istore 7, 2) := by decide +kernel
theorem dX11_fresh_112 : decode cX11_fresh 112 = .ok (.iconst 0, 1) := by decide +kernel
theorem dX11_fresh_113 : decode cX11_fresh 113 = .ok (.istore 8, 2) := by decide +kernel
theorem dX11_fresh_115 : decode cX11_fresh 115 = .ok (.iload 8, 2) := by decide +kernel
theorem dX11_fresh_117 : decode cX11_fresh 117 = .ok (.bipush 64, 2) := by decide +kernel
theorem dX11_fresh_119 : decode cX11_fresh 119 = .ok (.if_icmp .ge 88, 3) := by decide +kernel
theorem dX11_fresh_122 : decode cX11_fresh 122 = .ok (.iload 6, 2) := by decide +kernel
theorem dX11_fresh_124 : decode cX11_fresh 124 = .ok (.iconst 1, 1) := by decide +kernel
theorem dX11_fresh_125 : decode cX11_fresh 125 = .ok (.if_icmp .le 82, 3) := by decide +kernel
theorem dX11_fresh_128 : decode cX11_fresh 128 = .ok (.bipush 32, 2) := by decide +kernel
theorem dX11_fresh_130 : decode cX11_fresh 130 = .ok (.iload 8, 2) := by decide +kernel
theorem dX11_fresh_132 : decode cX11_fresh 132 = .ok (.bipush 8, 2) := by decide +kernel
theorem dX11_fresh_134 : decode cX11_fresh 134 = .ok (.idiv, 1) := by decide +kernel
theorem dX11_fresh_135 : decode cX11_fresh 135 = .ok (.imul, 1) := by decide +kernel
theorem dX11_fresh_136 : decode cX11_fresh 136 = .ok (.iconst 2, 1) := by decide +kernel
theorem dX11_fresh_137 : decode cX11_fresh 137 = .ok (.iload 8, 2) := by decide +kernel
theorem dX11_fresh_139 : decode cX11_fresh 139 = .ok (.bipush 8, 2) := by decide +kernel
theorem dX11_fresh_141 : decode cX11_fresh 141 = .ok (.irem, 1) := by decide +kernel
theorem dX11_fresh_142 : decode cX11_fresh 142 = .ok (.imul, 1) := by decide +kernel
theorem dX11_fresh_143 : decode cX11_fresh 143 = .ok (.iadd, 1) := by decide +kernel
theorem dX11_fresh_144 : decode cX11_fresh 144 = .ok (.istore 9, 2) := by decide +kernel
theorem dX11_fresh_146 : decode cX11_fresh 146 = .ok (.aload_n 0, 1) := by decide +kernel
theorem dX11_fresh_147 : decode cX11_fresh 147 = .ok (.getfield 10, 3) := by decide +kernel
theorem dX11_fresh_150 : decode cX11_fresh 150 = .ok (.iload 9, 2) := by decide +kernel
theorem dX11_fresh_152 : decode cX11_fresh 152 = .ok (.invokevirtual 53, 3) := by decide +kernel
theorem dX11_fresh_155 : decode cX11_fresh 155 = .ok (.ifCond .lt 6, 3) := by decide +kernel
theorem dX11_fresh_158 : decode cX11_fresh 158 = .ok (.goto 43, 3) := by decide +kernel
theorem dX11_fresh_161 : decode cX11_fresh 161 = .ok (.aload_n 0, 1) := by decide +kernel
theorem dX11_fresh_162 : decode cX11_fresh 162 = .ok (.getfield 16, 3) := by decide +kernel
theorem dX11_fresh_165 : decode cX11_fresh 165 = .ok (.iload 5, 2) := by decide +kernel
theorem dX11_fresh_167 : decode cX11_fresh 167 = .ok (.iload 9, 2) := by decide +kernel
theorem dX11_fresh_169 : decode cX11_fresh 169 = .ok (.invokevirtual 222, 3) := by decide +kernel
theorem dX11_fresh_172 : decode cX11_fresh 172 = .ok (.aload_n 0, 1) := by decide +kernel
theorem dX11_fresh_173 : decode cX11_fresh 173 = .ok (.getfield 16, 3) := by decide +kernel
theorem dX11_fresh_176 : decode cX11_fresh 176 = .ok (.iload_n 1, 1) := by decide +kernel
theorem dX11_fresh_177 : decode cX11_fresh 177 = .ok (.iload_n 2, 1) := by decide +kernel
theorem dX11_fresh_178 : decode cX11_fresh 178 = .ok (.iload_n 3, 1) := by decide +kernel
theorem dX11_fresh_179 : decode cX11_fresh 179 = .ok (.iload 6, 2) := by decide +kernel
theorem dX11_fresh_181 : decode cX11_fresh 181 = .ok (.iconst 1, 1) := by decide +kernel
theorem dX11_fresh_182 : decode cX11_fresh 182 = .ok (.isub, 1) := by decide +kernel
theorem dX11_fresh_183 : decode cX11_fresh 183 = .ok (.invokevirtual 208, 3) := by decide +kernel
theorem dX11_fresh_186 : decode cX11_fresh 186 = .ok (.istore 10, 2) := by decide +kernel
theorem dX11_fresh_188 : decode cX11_fresh 188 = .ok (.iload 10, 2) := by decide +kernel
theorem dX11_fresh_190 : decode cX11_fresh 190 = .ok (.ifCond .le 11, 3) := by decide +kernel
theorem dX11_fresh_193 : decode cX11_fresh 193 = .ok (.iload 10, 2) := by decide +kernel
theorem dX11_fresh_195 : decode cX11_fresh 195 = .ok (.istore 6, 2) := by decide +kernel
theorem dX11_fresh_197 : decode cX11_fresh 197 = .ok (.iload 9, 2) := by decide +kernel
theorem dX11_fresh_199 : decode cX11_fresh 199 = .ok (.istore 7, 2) := by decide +kernel
theorem dX11_fresh_201 : decode cX11_fresh 201 = .ok (.iinc 8 1, 3) := by decide +kernel
theorem dX11_fresh_204 : decode cX11_fresh 204 = .ok (.goto (-89), 3) := by decide +kernel
theorem dX11_fresh_207 : decode cX11_fresh 207 = .ok (.iload 7, 2) := by decide +kernel
theorem dX11_fresh_209 : decode cX11_fresh 209 = .ok (.ifCond .ge 9, 3) := by decide +kernel
theorem dX11_fresh_212 : decode cX11_fresh 212 = .ok (.aload_n 0, 1) := by decide +kernel
theorem dX11_fresh_213 : decode cX11_fresh 213 = .ok (.iconst 2, 1) := by decide +kernel
theorem dX11_fresh_214 : decode cX11_fresh 214 = .ok (.invokevirtual 49, 3) := by decide +kernel
theorem dX11_fresh_217 : decode cX11_fresh 217 = .ok (.ireturn, 1) := by decide +kernel
theorem dX11_fresh_218 : decode cX11_fresh 218 = .ok (.iload 4, 2) := by decide +kernel
theorem dX11_fresh_220 : decode cX11_fresh 220 = .ok (.ifCond .ne 8, 3) := by decide +kernel
theorem dX11_fresh_223 : decode cX11_fresh 223 = .ok (.iload 7, 2) := by decide +kernel
theorem dX11_fresh_225 : decode cX11_fresh 225 = .ok (.goto 5, 3) := by decide +kernel
theorem dX11_fresh_228 : decode cX11_fresh 228 = .ok (.iload 6, 2) := by decide +kernel
theorem dX11_fresh_230 : decode cX11_fresh 230 = .ok (.ireturn, 1) := by decide +kernel
theorem dX11_order_0 : decode cX11_order 0 = .ok (.iload_n 1, 1) := by decide +kernel
theorem dX11_order_1 : decode cX11_order 1 = .ok (.iconst 0, 1) := by decide +kernel
theorem dX11_order_2 : decode cX11_order 2 = .ok (.iconst 1, 1) := by decide +kernel
theorem dX11_order_3 : decode cX11_order 3 = .ok (.invokestatic 45, 3) := by decide +kernel
theorem dX11_order_6 : decode cX11_order 6 = .ok (.ifCond .eq 7, 3) := by decide +kernel
theorem dX11_order_9 : decode cX11_order 9 = .ok (.iload_n 2, 1) := by decide +kernel
theorem dX11_order_10 : decode cX11_order 10 = .ok (.ifCond .ge 9, 3) := by decide +kernel
theorem dX11_order_13 : decode cX11_order 13 = .ok (.aload_n 0, 1) := by decide +kernel
theorem dX11_order_14 : decode cX11_order 14 = .ok (.iconst 1, 1) := by decide +kernel
theorem dX11_order_15 : decode cX11_order 15 = .ok (.invokevirtual 49, 3) := by decide +kernel
theorem dX11_order_18 : decode cX11_order 18 = .ok (.ireturn, 1) := by decide +kernel
theorem dX11_order_19 : decode cX11_order 19 = .ok (.iload_n 2, 1) := by decide +kernel
theorem dX11_order_20 : decode cX11_order 20 = .ok (.aload_n 0, 1) := by decide +kernel
theorem dX11_order_21 : decode cX11_order 21 = .ok (.getfield 10, 3) := by decide +kernel
theorem dX11_order_24 : decode cX11_order 24 = .ok (.getfield 202, 3) := by decide +kernel
theorem dX11_order_27 : decode cX11_order 27 = .ok (.getfield 140, 3) := by decide +kernel
theorem dX11_order_30 : decode cX11_order 30 = .ok (.if_icmp .lt 9, 3) := by decide +kernel
theorem dX11_order_33 : decode cX11_order 33 = .ok (.aload_n 0, 1) := by decide +kernel
theorem dX11_order_34 : decode cX11_order 34 = .ok (.iconst 2, 1) := by decide +kernel
theorem dX11_order_35 : decode cX11_order 35 = .ok (.invokevirtual 49, 3) := by decide +kernel
theorem dX11_order_38 : decode cX11_order 38 = .ok (.ireturn, 1) := by decide +kernel
theorem dX11_order_39 : decode cX11_order 39 = .ok (.iload_n 1, 1) := by decide +kernel
theorem dX11_order_40 : decode cX11_order 40 = .ok (.ifCond .ne 17, 3) := by decide +kernel
theorem dX11_order_43 : decode cX11_order 43 = .ok (.aload_n 0, 1) := by decide +kernel
theorem dX11_order_44 : decode cX11_order 44 = .ok (.getfield 10, 3) := by decide +kernel
theorem dX11_order_47 : decode cX11_order 47 = .ok (.getfield 202, 3) := by decide +kernel
theorem dX11_order_50 : decode cX11_order 50 = .ok (.iload_n 2, 1) := by decide +kernel
theorem dX11_order_51 : decode cX11_order 51 = .ok (.invokevirtual 225, 3) := by decide +kernel
theorem dX11_order_54 : decode cX11_order 54 = .ok (.goto 11, 3) := by decide +kernel
theorem dX11_order_57 : decode cX11_order 57 = .ok (.aload_n 0, 1) := by decide +kernel
theorem dX11_order_58 : decode cX11_order 58 = .ok (.getfield 10, 3) := by decide +kernel
theorem dX11_order_61 : decode cX11_order 61 = .ok (.iload_n 2, 1) := by decide +kernel
theorem dX11_order_62 : decode cX11_order 62 = .ok (.invokevirtual 228, 3) := by decide +kernel
theorem dX11_order_65 : decode cX11_order 65 = .ok (.ireturn, 1) := by decide +kernel
theorem dX11_before_0 : decode cX11_before 0 = .ok (.aload_n 0, 1) := by decide +kernel
theorem dX11_before_1 : decode cX11_before 1 = .ok (.getfield 10, 3) := by decide +kernel
theorem dX11_before_4 : decode cX11_before 4 = .ok (.invokevirtual 231, 3) := by decide +kernel
theorem dX11_before_7 : decode cX11_before 7 = .ok (.istore_n 1, 1) := by decide +kernel
theorem dX11_before_8 : decode cX11_before 8 = .ok (.iload_n 1, 1) := by decide +kernel
theorem dX11_before_9 : decode cX11_before 9 = .ok (.ifCond .ge 11, 3) := by decide +kernel
theorem dX11_before_12 : decode cX11_before 12 = .ok (.aload_n 0, 1) := by decide +kernel
theorem dX11_before_13 : decode cX11_before 13 = .ok (.iconst 2, 1) := by decide +kernel
theorem dX11_before_14 : decode cX11_before 14 = .ok (.invokevirtual 49, 3) := by decide +kernel
theorem dX11_before_17 : decode cX11_before 17 = .ok (.goto 4, 3) := by decide +kernel
theorem dX11_before_20 : decode cX11_before 20 = .ok (.iload_n 1, 1) := by decide +kernel
theorem dX11_before_21 : decode cX11_before 21 = .ok (.ireturn, 1) := by decide +kernel
theorem dX11_seed_0 : decode cX11_seed 0 = .ok (.aload_n 0, 1) := by decide +kernel
theorem dX11_seed_1 : decode cX11_seed 1 = .ok (.getfield 10, 3) := by decide +kernel
theorem dX11_seed_4 : decode cX11_seed 4 = .ok (.getfield 234, 3) := by decide +kernel
theorem dX11_seed_7 : decode cX11_seed 7 = .ok (.istore_n 2, 1) := by decide +kernel
theorem dX11_seed_8 : decode cX11_seed 8 = .ok (.aload_n 0, 1) := by decide +kernel
theorem dX11_seed_9 : decode cX11_seed 9 = .ok (.getfield 10, 3) := by decide +kernel
theorem dX11_seed_12 : decode cX11_seed 12 = .ok (.iload_n 1, 1) := by decide +kernel
theorem dX11_seed_13 : decode cX11_seed 13 = .ok (.putfield 234, 3) := by decide +kernel
theorem dX11_seed_16 : decode cX11_seed 16 = .ok (.iload_n 2, 1) := by decide +kernel
theorem dX11_seed_17 : decode cX11_seed 17 = .ok (.ireturn, 1) := by decide +kernel
theorem dX11_voice_0 : decode cX11_voice 0 = .ok (.aload_n 0, 1) := by decide +kernel
theorem dX11_voice_1 : decode cX11_voice 1 = .ok (.getfield 10, 3) := by decide +kernel
theorem dX11_voice_4 : decode cX11_voice 4 = .ok (.iload_n 1, 1) := by decide +kernel
theorem dX11_voice_5 : decode cX11_voice 5 = .ok (.invokevirtual 91, 3) := by decide +kernel
theorem dX11_voice_8 : decode cX11_voice 8 = .ok (.astore 4, 2) := by decide +kernel
theorem dX11_voice_10 : decode cX11_voice 10 = .ok (.aload 4, 2) := by decide +kernel
theorem dX11_voice_12 : decode cX11_voice 12 = .ok (.ifnull 12, 3) := by decide +kernel
theorem dX11_voice_15 : decode cX11_voice 15 = .ok (.iload_n 2, 1) := by decide +kernel
theorem dX11_voice_16 : decode cX11_voice 16 = .ok (.iconst 0, 1) := by decide +kernel
theorem dX11_voice_17 : decode cX11_voice 17 = .ok (.iconst 3, 1) := by decide +kernel
theorem dX11_voice_18 : decode cX11_voice 18 = .ok (.invokestatic 45, 3) := by decide +kernel
theorem dX11_voice_21 : decode cX11_voice 21 = .ok (.ifCond .ne 9, 3) := by decide +kernel
theorem dX11_voice_24 : decode cX11_voice 24 = .ok (.aload_n 0, 1) := by decide +kernel
theorem dX11_voice_25 : decode cX11_voice 25 = .ok (.iconst 1, 1) := by decide +kernel
theorem dX11_voice_26 : decode cX11_voice 26 = .ok (.invokevirtual 49, 3) := by decide +kernel
theorem dX11_voice_29 : decode cX11_voice 29 = .ok (.ireturn, 1) := by decide +kernel
theorem dX11_voice_30 : decode cX11_voice 30 = .ok (.aload_n 0, 1) := by decide +kernel
theorem dX11_voice_31 : decode cX11_voice 31 = .ok (.getfield 27, 3) := by decide +kernel
theorem dX11_voice_34 : decode cX11_voice 34 = .ok (.invokevirtual 159, 3) := by decide +kernel
theorem dX11_voice_37 : decode cX11_voice 37 = .ok (.iload_n 2, 1) := by decide +kernel
theorem dX11_voice_38 : decode cX11_voice 38 = .ok (.tableswitch 59 0 2 #[26, 37, 48], 26) := by decide +kernel
theorem dX11_voice_64 : decode cX11_voice 64 = .ok (.aload 4, 2) := by decide +kernel
theorem dX11_voice_66 : decode cX11_voice 66 = .ok (.iload_n 3, 1) := by decide +kernel
theorem dX11_voice_67 : decode cX11_voice 67 = .ok (.aload_n 0, 1) := by decide +kernel
theorem dX11_voice_68 : decode cX11_voice 68 = .ok (.getfield 27, 3) := by decide +kernel
theorem dX11_voice_71 : decode cX11_voice 71 = .ok (.invokevirtual 237, 3) := by decide +kernel
theorem dX11_voice_74 : decode cX11_voice 74 = .ok (.ireturn, 1) := by decide +kernel
theorem dX11_voice_75 : decode cX11_voice 75 = .ok (.aload 4, 2) := by decide +kernel
theorem dX11_voice_77 : decode cX11_voice 77 = .ok (.iload_n 3, 1) := by decide +kernel
theorem dX11_voice_78 : decode cX11_voice 78 = .ok (.aload_n 0, 1) := by decide +kernel
theorem dX11_voice_79 : decode cX11_voice 79 = .ok (.getfield 27, 3) := by decide +kernel
theorem dX11_voice_82 : decode cX11_voice 82 = .ok (.invokevirtual 241, 3) := by decide +kernel
theorem dX11_voice_85 : decode cX11_voice 85 = .ok (.ireturn, 1) := by decide +kernel
theorem dX11_voice_86 : decode cX11_voice 86 = .ok (.aload 4, 2) := by decide +kernel
theorem dX11_voice_88 : decode cX11_voice 88 = .ok (.iload_n 3, 1) := by decide +kernel
theorem dX11_voice_89 : decode cX11_voice 89 = .ok (.aload_n 0, 1) := by decide +kernel
theorem dX11_voice_90 : decode cX11_voice 90 = .ok (.getfield 27, 3) := by decide +kernel
theorem dX11_voice_93 : decode cX11_voice 93 = .ok (.invokevirtual 244, 3) := by decide +kernel
theorem dX11_voice_96 : decode cX11_voice 96 = .ok (.ireturn, 1) := by decide +kernel
theorem dX11_voice_97 : decode cX11_voice 97 = .ok (.aload 4, 2) := by decide +kernel
theorem dX11_voice_99 : decode cX11_voice 99 = .ok (.iload_n 3, 1) := by decide +kernel
theorem dX11_voice_100 : decode cX11_voice 100 = .ok (.aload_n 0, 1) := by decide +kernel
theorem dX11_voice_101 : decode cX11_voice 101 = .ok (.getfield 27, 3) := by decide +kernel
theorem dX11_voice_104 : decode cX11_voice 104 = .ok (.invokevirtual 247, 3) := by decide +kernel
theorem dX11_voice_107 : decode cX11_voice 107 = .ok (.ireturn, 1) := by decide +kernel
theorem dX11_trace_0 : decode cX11_trace 0 = .ok (.iload_n 1, 1) := by decide +kernel
theorem dX11_trace_1 : decode cX11_trace 1 = .ok (.iconst 0, 1) := by decide +kernel
theorem dX11_trace_2 : decode cX11_trace 2 = .ok (.aload_n 0, 1) := by decide +kernel
theorem dX11_trace_3 : decode cX11_trace 3 = .ok (.getfield 27, 3) := by decide +kernel
theorem dX11_trace_6 : decode cX11_trace 6 = .ok (.getfield 140, 3) := by decide +kernel
theorem dX11_trace_9 : decode cX11_trace 9 = .ok (.iconst 1, 1) := by decide +kernel
theorem dX11_trace_10 : decode cX11_trace 10 = .ok (.isub, 1) := by decide +kernel
theorem dX11_trace_11 : decode cX11_trace 11 = .ok (.invokestatic 45, 3) := by decide +kernel
theorem dX11_trace_14 : decode cX11_trace 14 = .ok (.ifCond .eq 14, 3) := by decide +kernel
theorem dX11_trace_17 : decode cX11_trace 17 = .ok (.aload_n 0, 1) := by decide +kernel
theorem dX11_trace_18 : decode cX11_trace 18 = .ok (.getfield 27, 3) := by decide +kernel
theorem dX11_trace_21 : decode cX11_trace 21 = .ok (.iload_n 1, 1) := by decide +kernel
theorem dX11_trace_22 : decode cX11_trace 22 = .ok (.invokevirtual 225, 3) := by decide +kernel
theorem dX11_trace_25 : decode cX11_trace 25 = .ok (.goto 8, 3) := by decide +kernel
theorem dX11_trace_28 : decode cX11_trace 28 = .ok (.aload_n 0, 1) := by decide +kernel
theorem dX11_trace_29 : decode cX11_trace 29 = .ok (.iconst 2, 1) := by decide +kernel
theorem dX11_trace_30 : decode cX11_trace 30 = .ok (.invokevirtual 49, 3) := by decide +kernel
theorem dX11_trace_33 : decode cX11_trace 33 = .ok (.ireturn, 1) := by decide +kernel
theorem dX11_sheet_0 : decode cX11_sheet 0 = .ok (.aload_n 0, 1) := by decide +kernel
theorem dX11_sheet_1 : decode cX11_sheet 1 = .ok (.iload_n 1, 1) := by decide +kernel
theorem dX11_sheet_2 : decode cX11_sheet 2 = .ok (.invokevirtual 250, 3) := by decide +kernel
theorem dX11_sheet_5 : decode cX11_sheet 5 = .ok (.astore 4, 2) := by decide +kernel
theorem dX11_sheet_7 : decode cX11_sheet 7 = .ok (.aload 4, 2) := by decide +kernel
theorem dX11_sheet_9 : decode cX11_sheet 9 = .ok (.ifnull 25, 3) := by decide +kernel
theorem dX11_sheet_12 : decode cX11_sheet 12 = .ok (.iload_n 2, 1) := by decide +kernel
theorem dX11_sheet_13 : decode cX11_sheet 13 = .ok (.ifCond .eq 27, 3) := by decide +kernel
theorem dX11_sheet_16 : decode cX11_sheet 16 = .ok (.iload_n 2, 1) := by decide +kernel
theorem dX11_sheet_17 : decode cX11_sheet 17 = .ok (.bipush 8, 2) := by decide +kernel
theorem dX11_sheet_19 : decode cX11_sheet 19 = .ok (.if_icmp .eq 21, 3) := by decide +kernel
theorem dX11_sheet_22 : decode cX11_sheet 22 = .ok (.iload_n 2, 1) := by decide +kernel
theorem dX11_sheet_23 : decode cX11_sheet 23 = .ok (.bipush 16, 2) := by decide +kernel
theorem dX11_sheet_25 : decode cX11_sheet 25 = .ok (.if_icmp .eq 15, 3) := by decide +kernel
theorem dX11_sheet_28 : decode cX11_sheet 28 = .ok (.iload_n 2, 1) := by decide +kernel
theorem dX11_sheet_29 : decode cX11_sheet 29 = .ok (.bipush 32, 2) := by decide +kernel
theorem dX11_sheet_31 : decode cX11_sheet 31 = .ok (.if_icmp .eq 9, 3) := by decide +kernel
theorem dX11_sheet_34 : decode cX11_sheet 34 = .ok (.aload_n 0, 1) := by decide +kernel
theorem dX11_sheet_35 : decode cX11_sheet 35 = .ok (.iconst 1, 1) := by decide +kernel
theorem dX11_sheet_36 : decode cX11_sheet 36 = .ok (.invokevirtual 49, 3) := by decide +kernel
theorem dX11_sheet_39 : decode cX11_sheet 39 = .ok (.ireturn, 1) := by decide +kernel
theorem dX11_sheet_40 : decode cX11_sheet 40 = .ok (.iload_n 2, 1) := by decide +kernel
theorem dX11_sheet_41 : decode cX11_sheet 41 = .ok (.ifCond .ne 12, 3) := by decide +kernel
theorem dX11_sheet_44 : decode cX11_sheet 44 = .ok (.aload 4, 2) := by decide +kernel
theorem dX11_sheet_46 : decode cX11_sheet 46 = .ok (.iconst 0, 1) := by decide +kernel
theorem dX11_sheet_47 : decode cX11_sheet 47 = .ok (.iconst 0, 1) := by decide +kernel
theorem dX11_sheet_48 : decode cX11_sheet 48 = .ok (.invokevirtual 254, 3) := by decide +kernel
theorem dX11_sheet_51 : decode cX11_sheet 51 = .ok (.iconst 1, 1) := by decide +kernel
theorem dX11_sheet_52 : decode cX11_sheet 52 = .ok (.ireturn, 1) := by decide +kernel
theorem dX11_sheet_53 : decode cX11_sheet 53 = .ok (.iload_n 3, 1) := by decide +kernel
theorem dX11_sheet_54 : decode cX11_sheet 54 = .ok (.ifCond .ge 9, 3) := by decide +kernel
theorem dX11_sheet_57 : decode cX11_sheet 57 = .ok (.aload_n 0, 1) := by decide +kernel
theorem dX11_sheet_58 : decode cX11_sheet 58 = .ok (.iconst 3, 1) := by decide +kernel
theorem dX11_sheet_59 : decode cX11_sheet 59 = .ok (.invokevirtual 49, 3) := by decide +kernel
theorem dX11_sheet_62 : decode cX11_sheet 62 = .ok (.ireturn, 1) := by decide +kernel
theorem dX11_sheet_63 : decode cX11_sheet 63 = .ok (.iload_n 3, 1) := by decide +kernel
theorem dX11_sheet_64 : decode cX11_sheet 64 = .ok (.bipush 40, 2) := by decide +kernel
theorem dX11_sheet_66 : decode cX11_sheet 66 = .ok (.if_icmp .le 9, 3) := by decide +kernel
theorem dX11_sheet_69 : decode cX11_sheet 69 = .ok (.aload_n 0, 1) := by decide +kernel
theorem dX11_sheet_70 : decode cX11_sheet 70 = .ok (.iconst 1, 1) := by decide +kernel
theorem dX11_sheet_71 : decode cX11_sheet 71 = .ok (.invokevirtual 49, 3) := by decide +kernel
theorem dX11_sheet_74 : decode cX11_sheet 74 = .ok (.ireturn, 1) := by decide +kernel
theorem dX11_sheet_75 : decode cX11_sheet 75 = .ok (.aload 4, 2) := by decide +kernel
theorem dX11_sheet_77 : decode cX11_sheet 77 = .ok (.iload_n 2, 1) := by decide +kernel
theorem dX11_sheet_78 : decode cX11_sheet 78 = .ok (.iload_n 3, 1) := by decide +kernel
theorem dX11_sheet_79 : decode cX11_sheet 79 = .ok (.invokevirtual 254, 3) := by decide +kernel
theorem dX11_sheet_82 : decode cX11_sheet 82 = .ok (.iconst 1, 1) := by decide +kernel
theorem dX11_sheet_83 : decode cX11_sheet 83 = .ok (.ireturn, 1) := by decide +kernel
theorem dX11_put_0 : decode cX11_put 0 = .ok (.aload_n 0, 1) := by decide +kernel
theorem dX11_put_1 : decode cX11_put 1 = .ok (.iload_n 1, 1) := by decide +kernel
theorem dX11_put_2 : decode cX11_put 2 = .ok (.invokevirtual 250, 3) := by decide +kernel
theorem dX11_put_5 : decode cX11_put 5 = .ok (.astore 4, 2) := by decide +kernel
theorem dX11_put_7 : decode cX11_put 7 = .ok (.aload 4, 2) := by decide +kernel
theorem dX11_put_9 : decode cX11_put 9 = .ok (.ifnonnull 9, 3) := by decide +kernel
theorem dX11_put_12 : decode cX11_put 12 = .ok (.aload_n 0, 1) := by decide +kernel
theorem dX11_put_13 : decode cX11_put 13 = .ok (.iconst 1, 1) := by decide +kernel
theorem dX11_put_14 : decode cX11_put 14 = .ok (.invokevirtual 49, 3) := by decide +kernel
theorem dX11_put_17 : decode cX11_put 17 = .ok (.ireturn, 1) := by decide +kernel
theorem dX11_put_18 : decode cX11_put 18 = .ok (.aload 4, 2) := by decide +kernel
theorem dX11_put_20 : decode cX11_put 20 = .ok (.invokevirtual 257, 3) := by decide +kernel
theorem dX11_put_23 : decode cX11_put 23 = .ok (.ifCond .eq 9, 3) := by decide +kernel
theorem dX11_put_26 : decode cX11_put 26 = .ok (.aload_n 0, 1) := by decide +kernel
theorem dX11_put_27 : decode cX11_put 27 = .ok (.iconst 2, 1) := by decide +kernel
theorem dX11_put_28 : decode cX11_put 28 = .ok (.invokevirtual 49, 3) := by decide +kernel
theorem dX11_put_31 : decode cX11_put 31 = .ok (.ireturn, 1) := by decide +kernel
theorem dX11_put_32 : decode cX11_put 32 = .ok (.iload_n 2, 1) := by decide +kernel
theorem dX11_put_33 : decode cX11_put 33 = .ok (.iconst 0, 1) := by decide +kernel
theorem dX11_put_34 : decode cX11_put 34 = .ok (.aload 4, 2) := by decide +kernel
theorem dX11_put_36 : decode cX11_put 36 = .ok (.getfield 261, 3) := by decide +kernel
theorem dX11_put_39 : decode cX11_put 39 = .ok (.iconst 1, 1) := by decide +kernel
theorem dX11_put_40 : decode cX11_put 40 = .ok (.isub, 1) := by decide +kernel
theorem dX11_put_41 : decode cX11_put 41 = .ok (.invokestatic 45, 3) := by decide +kernel
theorem dX11_put_44 : decode cX11_put 44 = .ok (.ifCond .ne 9, 3) := by decide +kernel
theorem dX11_put_47 : decode cX11_put 47 = .ok (.aload_n 0, 1) := by decide +kernel
theorem dX11_put_48 : decode cX11_put 48 = .ok (.iconst 1, 1) := by decide +kernel
theorem dX11_put_49 : decode cX11_put 49 = .ok (.invokevirtual 49, 3) := by decide +kernel
theorem dX11_put_52 : decode cX11_put 52 = .ok (.ireturn, 1) := by decide +kernel
theorem dX11_put_53 : decode cX11_put 53 = .ok (.aload 4, 2) := by decide +kernel
theorem dX11_put_55 : decode cX11_put 55 = .ok (.iload_n 2, 1) := by decide +kernel
theorem dX11_put_56 : decode cX11_put 56 = .ok (.iload_n 3, 1) := by decide +kernel
theorem dX11_put_57 : decode cX11_put 57 = .ok (.invokevirtual 262, 3) := by decide +kernel
theorem dX11_put_60 : decode cX11_put 60 = .ok (.iconst 1, 1) := by decide +kernel
theorem dX11_put_61 : decode cX11_put 61 = .ok (.ireturn, 1) := by decide +kernel
theorem dX11_move_0 : decode cX11_move 0 = .ok (.aload_n 0, 1) := by decide +kernel
theorem dX11_move_1 : decode cX11_move 1 = .ok (.iload_n 1, 1) := by decide +kernel
theorem dX11_move_2 : decode cX11_move 2 = .ok (.invokevirtual 250, 3) := by decide +kernel
theorem dX11_move_5 : decode cX11_move 5 = .ok (.astore 6, 2) := by decide +kernel
theorem dX11_move_7 : decode cX11_move 7 = .ok (.aload_n 0, 1) := by decide +kernel
theorem dX11_move_8 : decode cX11_move 8 = .ok (.iload_n 3, 1) := by decide +kernel
theorem dX11_move_9 : decode cX11_move 9 = .ok (.invokevirtual 250, 3) := by decide +kernel
theorem dX11_move_12 : decode cX11_move 12 = .ok (.astore 7, 2) := by decide +kernel
theorem dX11_move_14 : decode cX11_move 14 = .ok (.aload 6, 2) := by decide +kernel
theorem dX11_move_16 : decode cX11_move 16 = .ok (.ifnull 8, 3) := by decide +kernel
theorem dX11_move_19 : decode cX11_move 19 = .ok (.aload 7, 2) := by decide +kernel
theorem dX11_move_21 : decode cX11_move 21 = .ok (.ifnonnull 9, 3) := by decide +kernel
theorem dX11_move_24 : decode cX11_move 24 = .ok (.aload_n 0, 1) := by decide +kernel
theorem dX11_move_25 : decode cX11_move 25 = .ok (.iconst 1, 1) := by decide +kernel
theorem dX11_move_26 : decode cX11_move 26 = .ok (.invokevirtual 49, 3) := by decide +kernel
theorem dX11_move_29 : decode cX11_move 29 = .ok (.ireturn, 1) := by decide +kernel
theorem dX11_move_30 : decode cX11_move 30 = .ok (.aload 6, 2) := by decide +kernel
theorem dX11_move_32 : decode cX11_move 32 = .ok (.invokevirtual 257, 3) := by decide +kernel
theorem dX11_move_35 : decode cX11_move 35 = .ok (.ifCond .ne 11, 3) := by decide +kernel
theorem dX11_move_38 : decode cX11_move 38 = .ok (.aload 7, 2) := by decide +kernel
theorem dX11_move_40 : decode cX11_move 40 = .ok (.invokevirtual 257, 3) := by decide +kernel
theorem dX11_move_43 : decode cX11_move 43 = .ok (.ifCond .eq 9, 3) := by decide +kernel
theorem dX11_move_46 : decode cX11_move 46 = .ok (.aload_n 0, 1) := by decide +kernel
theorem dX11_move_47 : decode cX11_move 47 = .ok (.iconst 2, 1) := by decide +kernel
theorem dX11_move_48 : decode cX11_move 48 = .ok (.invokevirtual 49, 3) := by decide +kernel
theorem dX11_move_51 : decode cX11_move 51 = .ok (.ireturn, 1) := by decide +kernel
theorem dX11_move_52 : decode cX11_move 52 = .ok (.aload 6, 2) := by decide +kernel
theorem dX11_move_54 : decode cX11_move 54 = .ok (.getfield 265, 3) := by decide +kernel
theorem dX11_move_57 : decode cX11_move 57 = .ok (.aload 7, 2) := by decide +kernel
theorem dX11_move_59 : decode cX11_move 59 = .ok (.getfield 265, 3) := by decide +kernel
theorem dX11_move_62 : decode cX11_move 62 = .ok (.if_icmp .eq 9, 3) := by decide +kernel
theorem dX11_move_65 : decode cX11_move 65 = .ok (.aload_n 0, 1) := by decide +kernel
theorem dX11_move_66 : decode cX11_move 66 = .ok (.iconst 5, 1) := by decide +kernel
theorem dX11_move_67 : decode cX11_move 67 = .ok (.invokevirtual 49, 3) := by decide +kernel
theorem dX11_move_70 : decode cX11_move 70 = .ok (.ireturn, 1) := by decide +kernel
theorem dX11_move_71 : decode cX11_move 71 = .ok (.aload 6, 2) := by decide +kernel
theorem dX11_move_73 : decode cX11_move 73 = .ok (.iload_n 2, 1) := by decide +kernel
theorem dX11_move_74 : decode cX11_move 74 = .ok (.iload 5, 2) := by decide +kernel
theorem dX11_move_76 : decode cX11_move 76 = .ok (.invokevirtual 268, 3) := by decide +kernel
theorem dX11_move_79 : decode cX11_move 79 = .ok (.ifCond .eq 15, 3) := by decide +kernel
theorem dX11_move_82 : decode cX11_move 82 = .ok (.aload 7, 2) := by decide +kernel
theorem dX11_move_84 : decode cX11_move 84 = .ok (.iload 4, 2) := by decide +kernel
theorem dX11_move_86 : decode cX11_move 86 = .ok (.iload 5, 2) := by decide +kernel
theorem dX11_move_88 : decode cX11_move 88 = .ok (.invokevirtual 268, 3) := by decide +kernel
theorem dX11_move_91 : decode cX11_move 91 = .ok (.ifCond .ne 9, 3) := by decide +kernel
theorem dX11_move_94 : decode cX11_move 94 = .ok (.aload_n 0, 1) := by decide +kernel
theorem dX11_move_95 : decode cX11_move 95 = .ok (.iconst 1, 1) := by decide +kernel
theorem dX11_move_96 : decode cX11_move 96 = .ok (.invokevirtual 49, 3) := by decide +kernel
theorem dX11_move_99 : decode cX11_move 99 = .ok (.ireturn, 1) := by decide +kernel
theorem dX11_move_100 : decode cX11_move 100 = .ok (.aload 6, 2) := by decide +kernel
theorem dX11_move_102 : decode cX11_move 102 = .ok (.getfield 271, 3) := by decide +kernel
theorem dX11_move_105 : decode cX11_move 105 = .ok (.iload_n 2, 1) := by decide +kernel
theorem dX11_move_106 : decode cX11_move 106 = .ok (.aload 7, 2) := by decide +kernel
theorem dX11_move_108 : decode cX11_move 108 = .ok (.getfield 271, 3) := by decide +kernel
theorem dX11_move_111 : decode cX11_move 111 = .ok (.iload 4, 2) := by decide +kernel
theorem dX11_move_113 : decode cX11_move 113 = .ok (.iload 5, 2) := by decide +kernel
theorem dX11_move_115 : decode cX11_move 115 = .ok (.invokestatic 274, 3) := by decide +kernel
theorem dX11_move_118 : decode cX11_move 118 = .ok (.iload 5, 2) := by decide +kernel
theorem dX11_move_120 : decode cX11_move 120 = .ok (.ireturn, 1) := by decide +kernel
theorem dX11_winds_0 : decode cX11_winds 0 = .ok (.aload_n 0, 1) := by decide +kernel
theorem dX11_winds_1 : decode cX11_winds 1 = .ok (.iload_n 1, 1) := by decide +kernel
theorem dX11_winds_2 : decode cX11_winds 2 = .ok (.invokevirtual 250, 3) := by decide +kernel
theorem dX11_winds_5 : decode cX11_winds 5 = .ok (.astore_n 2, 1) := by decide +kernel
theorem dX11_winds_6 : decode cX11_winds 6 = .ok (.aload_n 2, 1) := by decide +kernel
theorem dX11_winds_7 : decode cX11_winds 7 = .ok (.ifnonnull 9, 3) := by decide +kernel
theorem dX11_winds_10 : decode cX11_winds 10 = .ok (.aload_n 0, 1) := by decide +kernel
theorem dX11_winds_11 : decode cX11_winds 11 = .ok (.iconst 1, 1) := by decide +kernel
theorem dX11_winds_12 : decode cX11_winds 12 = .ok (.invokevirtual 49, 3) := by decide +kernel
theorem dX11_winds_15 : decode cX11_winds 15 = .ok (.ireturn, 1) := by decide +kernel
theorem dX11_winds_16 : decode cX11_winds 16 = .ok (.aload_n 2, 1) := by decide +kernel
theorem dX11_winds_17 : decode cX11_winds 17 = .ok (.invokevirtual 257, 3) := by decide +kernel
theorem dX11_winds_20 : decode cX11_winds 20 = .ok (.ifCond .eq 9, 3) := by decide +kernel
theorem dX11_winds_23 : decode cX11_winds 23 = .ok (.aload_n 0, 1) := by decide +kernel
theorem dX11_winds_24 : decode cX11_winds 24 = .ok (.iconst 2, 1) := by decide +kernel
theorem dX11_winds_25 : decode cX11_winds 25 = .ok (.invokevirtual 49, 3) := by decide +kernel
theorem dX11_winds_28 : decode cX11_winds 28 = .ok (.ireturn, 1) := by decide +kernel
theorem dX11_winds_29 : decode cX11_winds 29 = .ok (.iconst 0, 1) := by decide +kernel
theorem dX11_winds_30 : decode cX11_winds 30 = .ok (.istore_n 3, 1) := by decide +kernel
theorem dX11_winds_31 : decode cX11_winds 31 = .ok (.iconst 0, 1) := by decide +kernel
theorem dX11_winds_32 : decode cX11_winds 32 = .ok (.istore 4, 2) := by decide +kernel
theorem dX11_winds_34 : decode cX11_winds 34 = .ok (.iload 4, 2) := by decide +kernel
theorem dX11_winds_36 : decode cX11_winds 36 = .ok (.bipush 24, 2) := by decide +kernel
theorem dX11_winds_38 : decode cX11_winds 38 = .ok (.if_icmp .ge 54, 3) := by decide +kernel
theorem dX11_winds_41 : decode cX11_winds 41 = .ok (.iload 4, 2) := by decide +kernel
theorem dX11_winds_43 : decode cX11_winds 43 = .ok (.aload_n 2, 1) := by decide +kernel
theorem dX11_winds_44 : decode cX11_winds 44 = .ok (.getfield 261, 3) := by decide +kernel
theorem dX11_winds_47 : decode cX11_winds 47 = .ok (.if_icmp .ge 45, 3) := by decide +kernel
theorem dX11_winds_50 : decode cX11_winds 50 = .ok (.aload_n 2, 1) := by decide +kernel
theorem dX11_winds_51 : decode cX11_winds 51 = .ok (.iload 4, 2) := by decide +kernel
theorem dX11_winds_53 : decode cX11_winds 53 = .ok (.invokevirtual 280, 3) := by decide +kernel
theorem dX11_winds_56 : decode cX11_winds 56 = .ok (.istore 5, 2) := by decide +kernel
theorem dX11_winds_58 : decode cX11_winds 58 = .ok (.iload 5, 2) := by decide +kernel
theorem dX11_winds_60 : decode cX11_winds 60 = .ok (.iconst 0, 1) := by decide +kernel
theorem dX11_winds_61 : decode cX11_winds 61 = .ok (.bipush 79, 2) := by decide +kernel
theorem dX11_winds_63 : decode cX11_winds 63 = .ok (.invokestatic 45, 3) := by decide +kernel
theorem dX11_winds_66 : decode cX11_winds 66 = .ok (.ifCond .ne 6, 3) := by decide +kernel
theorem dX11_winds_69 : decode cX11_winds 69 = .ok (.goto 23, 3) := by decide +kernel
theorem dX11_winds_72 : decode cX11_winds 72 = .ok (.aload_n 0, 1) := by decide +kernel
theorem dX11_winds_73 : decode cX11_winds 73 = .ok (.getfield 10, 3) := by decide +kernel
theorem dX11_winds_76 : decode cX11_winds 76 = .ok (.iload 4, 2) := by decide +kernel
theorem dX11_winds_78 : decode cX11_winds 78 = .ok (.iload 5, 2) := by decide +kernel
theorem dX11_winds_80 : decode cX11_winds 80 = .ok (.invokevirtual 80, 3) := by decide +kernel
theorem dX11_winds_83 : decode cX11_winds 83 = .ok (.iinc 3 1, 3) := by decide +kernel
theorem dX11_winds_86 : decode cX11_winds 86 = .ok (.iinc 4 1, 3) := by decide +kernel
theorem dX11_winds_89 : decode cX11_winds 89 = .ok (.goto (-55), 3) := by decide +kernel
theorem dX11_winds_92 : decode cX11_winds 92 = .ok (.iload_n 3, 1) := by decide +kernel
theorem dX11_winds_93 : decode cX11_winds 93 = .ok (.ireturn, 1) := by decide +kernel
theorem dX11_image_0 : decode cX11_image 0 = .ok (.aload_n 0, 1) := by decide +kernel
theorem dX11_image_1 : decode cX11_image 1 = .ok (.getfield 19, 3) := by decide +kernel
theorem dX11_image_4 : decode cX11_image 4 = .ok (.aload_n 0, 1) := by decide +kernel
theorem dX11_image_5 : decode cX11_image 5 = .ok (.getfield 10, 3) := by decide +kernel
theorem dX11_image_8 : decode cX11_image 8 = .ok (.invokevirtual 198, 3) := by decide +kernel
theorem dX11_image_11 : decode cX11_image 11 = .ok (.aload_n 0, 1) := by decide +kernel
theorem dX11_image_12 : decode cX11_image 12 = .ok (.dup, 1) := by decide +kernel
theorem dX11_image_13 : decode cX11_image 13 = .ok (.getfield 283, 3) := by decide +kernel
theorem dX11_image_16 : decode cX11_image 16 = .ok (.iconst 1, 1) := by decide +kernel
theorem dX11_image_17 : decode cX11_image 17 = .ok (.iadd, 1) := by decide +kernel
theorem dX11_image_18 : decode cX11_image 18 = .ok (.putfield 283, 3) := by decide +kernel
theorem dX11_image_21 : decode cX11_image 21 = .ok (.aload_n 0, 1) := by decide +kernel
theorem dX11_image_22 : decode cX11_image 22 = .ok (.getfield 283, 3) := by decide +kernel
theorem dX11_image_25 : decode cX11_image 25 = .ok (.ireturn, 1) := by decide +kernel
theorem dX11_restore_0 : decode cX11_restore 0 = .ok (.aload_n 0, 1) := by decide +kernel
theorem dX11_restore_1 : decode cX11_restore 1 = .ok (.getfield 283, 3) := by decide +kernel
theorem dX11_restore_4 : decode cX11_restore 4 = .ok (.ifCond .ne 9, 3) := by decide +kernel
theorem dX11_restore_7 : decode cX11_restore 7 = .ok (.aload_n 0, 1) := by decide +kernel
theorem dX11_restore_8 : decode cX11_restore 8 = .ok (.iconst 2, 1) := by decide +kernel
theorem dX11_restore_9 : decode cX11_restore 9 = .ok (.invokevirtual 49, 3) := by decide +kernel
theorem dX11_restore_12 : decode cX11_restore 12 = .ok (.ireturn, 1) := by decide +kernel
theorem dX11_restore_13 : decode cX11_restore 13 = .ok (.aload_n 0, 1) := by decide +kernel
theorem dX11_restore_14 : decode cX11_restore 14 = .ok (.getfield 10, 3) := by decide +kernel
theorem dX11_restore_17 : decode cX11_restore 17 = .ok (.aload_n 0, 1) := by decide +kernel
theorem dX11_restore_18 : decode cX11_restore 18 = .ok (.getfield 19, 3) := by decide +kernel
theorem dX11_restore_21 : decode cX11_restore 21 = .ok (.invokevirtual 198, 3) := by decide +kernel
theorem dX11_restore_24 : decode cX11_restore 24 = .ok (.aload_n 0, 1) := by decide +kernel
theorem dX11_restore_25 : decode cX11_restore 25 = .ok (.getfield 10, 3) := by decide +kernel
theorem dX11_restore_28 : decode cX11_restore 28 = .ok (.getfield 122, 3) := by decide +kernel
theorem dX11_restore_31 : decode cX11_restore 31 = .ok (.ireturn, 1) := by decide +kernel
theorem dX11_tell_0 : decode cX11_tell 0 = .ok (.aload_n 0, 1) := by decide +kernel
theorem dX11_tell_1 : decode cX11_tell 1 = .ok (.getfield 10, 3) := by decide +kernel
theorem dX11_tell_4 : decode cX11_tell 4 = .ok (.getfield 286, 3) := by decide +kernel
theorem dX11_tell_7 : decode cX11_tell 7 = .ok (.iload_n 1, 1) := by decide +kernel
theorem dX11_tell_8 : decode cX11_tell 8 = .ok (.invokevirtual 143, 3) := by decide +kernel
theorem dX11_tell_11 : decode cX11_tell 11 = .ok (.ifCond .eq 16, 3) := by decide +kernel
theorem dX11_tell_14 : decode cX11_tell 14 = .ok (.aload_n 0, 1) := by decide +kernel
theorem dX11_tell_15 : decode cX11_tell 15 = .ok (.getfield 10, 3) := by decide +kernel
theorem dX11_tell_18 : decode cX11_tell 18 = .ok (.getfield 286, 3) := by decide +kernel
theorem dX11_tell_21 : decode cX11_tell 21 = .ok (.getfield 140, 3) := by decide +kernel
theorem dX11_tell_24 : decode cX11_tell 24 = .ok (.goto 8, 3) := by decide +kernel
theorem dX11_tell_27 : decode cX11_tell 27 = .ok (.aload_n 0, 1) := by decide +kernel
theorem dX11_tell_28 : decode cX11_tell 28 = .ok (.iconst 4, 1) := by decide +kernel
theorem dX11_tell_29 : decode cX11_tell 29 = .ok (.invokevirtual 49, 3) := by decide +kernel
theorem dX11_tell_32 : decode cX11_tell 32 = .ok (.ireturn, 1) := by decide +kernel
theorem dX11_check_0 : decode cX11_check 0 = .ok (.aload_n 0, 1) := by decide +kernel
theorem dX11_check_1 : decode cX11_check 1 = .ok (.getfield 10, 3) := by decide +kernel
theorem dX11_check_4 : decode cX11_check 4 = .ok (.iload_n 1, 1) := by decide +kernel
theorem dX11_check_5 : decode cX11_check 5 = .ok (.invokevirtual 185, 3) := by decide +kernel
theorem dX11_check_8 : decode cX11_check 8 = .ok (.ifCond .ne 19, 3) := by decide +kernel
theorem dX11_check_11 : decode cX11_check 11 = .ok (.aload_n 0, 1) := by decide +kernel
theorem dX11_check_12 : decode cX11_check 12 = .ok (.getfield 10, 3) := by decide +kernel
theorem dX11_check_15 : decode cX11_check 15 = .ok (.getfield 286, 3) := by decide +kernel
theorem dX11_check_18 : decode cX11_check 18 = .ok (.invokevirtual 159, 3) := by decide +kernel
theorem dX11_check_21 : decode cX11_check 21 = .ok (.aload_n 0, 1) := by decide +kernel
theorem dX11_check_22 : decode cX11_check 22 = .ok (.iconst 1, 1) := by decide +kernel
theorem dX11_check_23 : decode cX11_check 23 = .ok (.invokevirtual 49, 3) := by decide +kernel
theorem dX11_check_26 : decode cX11_check 26 = .ok (.ireturn, 1) := by decide +kernel
theorem dX11_check_27 : decode cX11_check 27 = .ok (.aload_n 0, 1) := by decide +kernel
theorem dX11_check_28 : decode cX11_check 28 = .ok (.getfield 16, 3) := by decide +kernel
theorem dX11_check_31 : decode cX11_check 31 = .ok (.aload_n 0, 1) := by decide +kernel
theorem dX11_check_32 : decode cX11_check 32 = .ok (.getfield 10, 3) := by decide +kernel
theorem dX11_check_35 : decode cX11_check 35 = .ok (.invokevirtual 198, 3) := by decide +kernel
theorem dX11_check_38 : decode cX11_check 38 = .ok (.iconst 0, 1) := by decide +kernel
theorem dX11_check_39 : decode cX11_check 39 = .ok (.istore_n 2, 1) := by decide +kernel
theorem dX11_check_40 : decode cX11_check 40 = .ok (.iconst 0, 1) := by decide +kernel
theorem dX11_check_41 : decode cX11_check 41 = .ok (.istore_n 3, 1) := by decide +kernel
theorem dX11_check_42 : decode cX11_check 42 = .ok (.iload_n 3, 1) := by decide +kernel
theorem dX11_check_43 : decode cX11_check 43 = .ok (.aload_n 0, 1) := by decide +kernel
theorem dX11_check_44 : decode cX11_check 44 = .ok (.getfield 10, 3) := by decide +kernel
theorem dX11_check_47 : decode cX11_check 47 = .ok (.getfield 286, 3) := by decide +kernel
theorem dX11_check_50 : decode cX11_check 50 = .ok (.getfield 140, 3) := by decide +kernel
theorem dX11_check_53 : decode cX11_check 53 = .ok (.if_icmp .ge 48, 3) := by decide +kernel
theorem dX11_check_56 : decode cX11_check 56 = .ok (.iload_n 2, 1) := by decide +kernel
theorem dX11_check_57 : decode cX11_check 57 = .ok (.ifCond .ne 44, 3) := by decide +kernel
theorem dX11_check_60 : decode cX11_check 60 = .ok (.aload_n 0, 1) := by decide +kernel
theorem dX11_check_61 : decode cX11_check 61 = .ok (.getfield 16, 3) := by decide +kernel
theorem dX11_check_64 : decode cX11_check 64 = .ok (.iconst 1, 1) := by decide +kernel
theorem dX11_check_65 : decode cX11_check 65 = .ok (.invokevirtual 191, 3) := by decide +kernel
theorem dX11_check_68 : decode cX11_check 68 = .ok (.aload_n 0, 1) := by decide +kernel
theorem dX11_check_69 : decode cX11_check 69 = .ok (.getfield 16, 3) := by decide +kernel
theorem dX11_check_72 : decode cX11_check 72 = .ok (.iload_n 1, 1) := by decide +kernel
theorem dX11_check_73 : decode cX11_check 73 = .ok (.iconst 5, 1) := by decide +kernel
theorem dX11_check_74 : decode cX11_check 74 = .ok (.invokevirtual 188, 3) := by decide +kernel
theorem dX11_check_77 : decode cX11_check 77 = .ok (.aload_n 0, 1) := by decide +kernel
theorem dX11_check_78 : decode cX11_check 78 = .ok (.getfield 10, 3) := by decide +kernel
theorem dX11_check_81 : decode cX11_check 81 = .ok (.getfield 286, 3) := by decide +kernel
theorem dX11_check_84 : decode cX11_check 84 = .ok (.iload_n 3, 1) := by decide +kernel
theorem dX11_check_85 : decode cX11_check 85 = .ok (.invokevirtual 225, 3) := by decide +kernel
theorem dX11_check_88 : decode cX11_check 88 = .ok (.if_icmp .eq 7, 3) := by decide +kernel
theorem dX11_check_91 : decode cX11_check 91 = .ok (.iconst 1, 1) := by decide +kernel
theorem dX11_check_92 : decode cX11_check 92 = .ok (.iload_n 3, 1) := by decide +kernel
theorem dX11_check_93 : decode cX11_check 93 = .ok (.iadd, 1) := by decide +kernel
theorem dX11_check_94 : decode cX11_check 94 = .ok (.istore_n 2, 1) := by decide +kernel
theorem dX11_check_95 : decode cX11_check 95 = .ok (.iinc 3 1, 3) := by decide +kernel
theorem dX11_check_98 : decode cX11_check 98 = .ok (.goto (-56), 3) := by decide +kernel
theorem dX11_check_101 : decode cX11_check 101 = .ok (.aload_n 0, 1) := by decide +kernel
theorem dX11_check_102 : decode cX11_check 102 = .ok (.getfield 10, 3) := by decide +kernel
theorem dX11_check_105 : decode cX11_check 105 = .ok (.getfield 286, 3) := by decide +kernel
theorem dX11_check_108 : decode cX11_check 108 = .ok (.invokevirtual 159, 3) := by decide +kernel
theorem dX11_check_111 : decode cX11_check 111 = .ok (.iload_n 2, 1) := by decide +kernel
theorem dX11_check_112 : decode cX11_check 112 = .ok (.ireturn, 1) := by decide +kernel
theorem dX11_count_0 : decode cX11_count 0 = .ok (.iload_n 1, 1) := by decide +kernel
theorem dX11_count_1 : decode cX11_count 1 = .ok (.tableswitch 144 0 9 #[55, 63, 71, 79, 87, 98, 106, 117, 128, 136], 55) := by decide +kernel
theorem dX11_count_56 : decode cX11_count 56 = .ok (.aload_n 0, 1) := by decide +kernel
theorem dX11_count_57 : decode cX11_count 57 = .ok (.getfield 10, 3) := by decide +kernel
theorem dX11_count_60 : decode cX11_count 60 = .ok (.getfield 122, 3) := by decide +kernel
theorem dX11_count_63 : decode cX11_count 63 = .ok (.ireturn, 1) := by decide +kernel
theorem dX11_count_64 : decode cX11_count 64 = .ok (.aload_n 0, 1) := by decide +kernel
theorem dX11_count_65 : decode cX11_count 65 = .ok (.getfield 10, 3) := by decide +kernel
theorem dX11_count_68 : decode cX11_count 68 = .ok (.getfield 56, 3) := by decide +kernel
theorem dX11_count_71 : decode cX11_count 71 = .ok (.ireturn, 1) := by decide +kernel
theorem dX11_count_72 : decode cX11_count 72 = .ok (.aload_n 0, 1) := by decide +kernel
theorem dX11_count_73 : decode cX11_count 73 = .ok (.getfield 10, 3) := by decide +kernel
theorem dX11_count_76 : decode cX11_count 76 = .ok (.getfield 84, 3) := by decide +kernel
theorem dX11_count_79 : decode cX11_count 79 = .ok (.ireturn, 1) := by decide +kernel
theorem dX11_count_80 : decode cX11_count 80 = .ok (.aload_n 0, 1) := by decide +kernel
theorem dX11_count_81 : decode cX11_count 81 = .ok (.getfield 10, 3) := by decide +kernel
theorem dX11_count_84 : decode cX11_count 84 = .ok (.getfield 179, 3) := by decide +kernel
theorem dX11_count_87 : decode cX11_count 87 = .ok (.ireturn, 1) := by decide +kernel
theorem dX11_count_88 : decode cX11_count 88 = .ok (.aload_n 0, 1) := by decide +kernel
theorem dX11_count_89 : decode cX11_count 89 = .ok (.getfield 10, 3) := by decide +kernel
theorem dX11_count_92 : decode cX11_count 92 = .ok (.getfield 202, 3) := by decide +kernel
theorem dX11_count_95 : decode cX11_count 95 = .ok (.getfield 140, 3) := by decide +kernel
theorem dX11_count_98 : decode cX11_count 98 = .ok (.ireturn, 1) := by decide +kernel
theorem dX11_count_99 : decode cX11_count 99 = .ok (.aload_n 0, 1) := by decide +kernel
theorem dX11_count_100 : decode cX11_count 100 = .ok (.getfield 10, 3) := by decide +kernel
theorem dX11_count_103 : decode cX11_count 103 = .ok (.getfield 205, 3) := by decide +kernel
theorem dX11_count_106 : decode cX11_count 106 = .ok (.ireturn, 1) := by decide +kernel
theorem dX11_count_107 : decode cX11_count 107 = .ok (.aload_n 0, 1) := by decide +kernel
theorem dX11_count_108 : decode cX11_count 108 = .ok (.getfield 10, 3) := by decide +kernel
theorem dX11_count_111 : decode cX11_count 111 = .ok (.getfield 137, 3) := by decide +kernel
theorem dX11_count_114 : decode cX11_count 114 = .ok (.getfield 140, 3) := by decide +kernel
theorem dX11_count_117 : decode cX11_count 117 = .ok (.ireturn, 1) := by decide +kernel
theorem dX11_count_118 : decode cX11_count 118 = .ok (.aload_n 0, 1) := by decide +kernel
theorem dX11_count_119 : decode cX11_count 119 = .ok (.getfield 10, 3) := by decide +kernel
theorem dX11_count_122 : decode cX11_count 122 = .ok (.getfield 286, 3) := by decide +kernel
theorem dX11_count_125 : decode cX11_count 125 = .ok (.getfield 140, 3) := by decide +kernel
theorem dX11_count_128 : decode cX11_count 128 = .ok (.ireturn, 1) := by decide +kernel
theorem dX11_count_129 : decode cX11_count 129 = .ok (.aload_n 0, 1) := by decide +kernel
theorem dX11_count_130 : decode cX11_count 130 = .ok (.getfield 27, 3) := by decide +kernel
theorem dX11_count_133 : decode cX11_count 133 = .ok (.getfield 140, 3) := by decide +kernel
theorem dX11_count_136 : decode cX11_count 136 = .ok (.ireturn, 1) := by decide +kernel
theorem dX11_count_137 : decode cX11_count 137 = .ok (.aload_n 0, 1) := by decide +kernel
theorem dX11_count_138 : decode cX11_count 138 = .ok (.getfield 10, 3) := by decide +kernel
theorem dX11_count_141 : decode cX11_count 141 = .ok (.getfield 234, 3) := by decide +kernel
theorem dX11_count_144 : decode cX11_count 144 = .ok (.ireturn, 1) := by decide +kernel
theorem dX11_count_145 : decode cX11_count 145 = .ok (.aload_n 0, 1) := by decide +kernel
theorem dX11_count_146 : decode cX11_count 146 = .ok (.iconst 1, 1) := by decide +kernel
theorem dX11_count_147 : decode cX11_count 147 = .ok (.invokevirtual 49, 3) := by decide +kernel
theorem dX11_count_150 : decode cX11_count 150 = .ok (.ireturn, 1) := by decide +kernel
theorem dX11_told_0 : decode cX11_told 0 = .ok (.iload_n 1, 1) := by decide +kernel
theorem dX11_told_1 : decode cX11_told 1 = .ok (.iconst 1, 1) := by decide +kernel
theorem dX11_told_2 : decode cX11_told 2 = .ok (.iconst 5, 1) := by decide +kernel
theorem dX11_told_3 : decode cX11_told 3 = .ok (.invokestatic 45, 3) := by decide +kernel
theorem dX11_told_6 : decode cX11_told 6 = .ok (.ifCond .eq 12, 3) := by decide +kernel
theorem dX11_told_9 : decode cX11_told 9 = .ok (.aload_n 0, 1) := by decide +kernel
theorem dX11_told_10 : decode cX11_told 10 = .ok (.getfield 37, 3) := by decide +kernel
theorem dX11_told_13 : decode cX11_told 13 = .ok (.iload_n 1, 1) := by decide +kernel
theorem dX11_told_14 : decode cX11_told 14 = .ok (.iaload, 1) := by decide +kernel
theorem dX11_told_15 : decode cX11_told 15 = .ok (.goto 8, 3) := by decide +kernel
theorem dX11_told_18 : decode cX11_told 18 = .ok (.aload_n 0, 1) := by decide +kernel
theorem dX11_told_19 : decode cX11_told 19 = .ok (.iconst 1, 1) := by decide +kernel
theorem dX11_told_20 : decode cX11_told 20 = .ok (.invokevirtual 49, 3) := by decide +kernel
theorem dX11_told_23 : decode cX11_told 23 = .ok (.ireturn, 1) := by decide +kernel
theorem dX11_within_0 : decode cX11_within 0 = .ok (.iload_n 0, 1) := by decide +kernel
theorem dX11_within_1 : decode cX11_within 1 = .ok (.iload_n 1, 1) := by decide +kernel
theorem dX11_within_2 : decode cX11_within 2 = .ok (.if_icmp .lt 12, 3) := by decide +kernel
theorem dX11_within_5 : decode cX11_within 5 = .ok (.iload_n 0, 1) := by decide +kernel
theorem dX11_within_6 : decode cX11_within 6 = .ok (.iload_n 2, 1) := by decide +kernel
theorem dX11_within_7 : decode cX11_within 7 = .ok (.if_icmp .gt 7, 3) := by decide +kernel
theorem dX11_within_10 : decode cX11_within 10 = .ok (.iconst 1, 1) := by decide +kernel
theorem dX11_within_11 : decode cX11_within 11 = .ok (.goto 4, 3) := by decide +kernel
theorem dX11_within_14 : decode cX11_within 14 = .ok (.iconst 0, 1) := by decide +kernel
theorem dX11_within_15 : decode cX11_within 15 = .ok (.ireturn, 1) := by decide +kernel
theorem dX11_error_0 : decode cX11_error 0 = .ok (.iload_n 1, 1) := by decide +kernel
theorem dX11_error_1 : decode cX11_error 1 = .ok (.iconst 1, 1) := by decide +kernel
theorem dX11_error_2 : decode cX11_error 2 = .ok (.iconst 5, 1) := by decide +kernel
theorem dX11_error_3 : decode cX11_error 3 = .ok (.invokestatic 45, 3) := by decide +kernel
theorem dX11_error_6 : decode cX11_error 6 = .ok (.ifCond .eq 13, 3) := by decide +kernel
theorem dX11_error_9 : decode cX11_error 9 = .ok (.aload_n 0, 1) := by decide +kernel
theorem dX11_error_10 : decode cX11_error 10 = .ok (.getfield 37, 3) := by decide +kernel
theorem dX11_error_13 : decode cX11_error 13 = .ok (.iload_n 1, 1) := by decide +kernel
theorem dX11_error_14 : decode cX11_error 14 = .ok (.dup2, 1) := by decide +kernel
theorem dX11_error_15 : decode cX11_error 15 = .ok (.iaload, 1) := by decide +kernel
theorem dX11_error_16 : decode cX11_error 16 = .ok (.iconst 1, 1) := by decide +kernel
theorem dX11_error_17 : decode cX11_error 17 = .ok (.iadd, 1) := by decide +kernel
theorem dX11_error_18 : decode cX11_error 18 = .ok (.iastore, 1) := by decide +kernel
theorem dX11_error_19 : decode cX11_error 19 = .ok (.ldc_w 289, 3) := by decide +kernel
theorem dX11_error_22 : decode cX11_error 22 = .ok (.iload_n 1, 1) := by decide +kernel
theorem dX11_error_23 : decode cX11_error 23 = .ok (.isub, 1) := by decide +kernel
theorem dX11_error_24 : decode cX11_error 24 = .ok (.ireturn, 1) := by decide +kernel
theorem dX11_sheetAt_0 : decode cX11_sheetAt 0 = .ok (.iload_n 1, 1) := by decide +kernel
theorem dX11_sheetAt_1 : decode cX11_sheetAt 1 = .ok (.iconst 0, 1) := by decide +kernel
theorem dX11_sheetAt_2 : decode cX11_sheetAt 2 = .ok (.iconst 3, 1) := by decide +kernel
theorem dX11_sheetAt_3 : decode cX11_sheetAt 3 = .ok (.invokestatic 45, 3) := by decide +kernel
theorem dX11_sheetAt_6 : decode cX11_sheetAt 6 = .ok (.ifCond .eq 12, 3) := by decide +kernel
theorem dX11_sheetAt_9 : decode cX11_sheetAt 9 = .ok (.aload_n 0, 1) := by decide +kernel
theorem dX11_sheetAt_10 : decode cX11_sheetAt 10 = .ok (.getfield 33, 3) := by decide +kernel
theorem dX11_sheetAt_13 : decode cX11_sheetAt 13 = .ok (.iload_n 1, 1) := by decide +kernel
theorem dX11_sheetAt_14 : decode cX11_sheetAt 14 = .ok (.aaload, 1) := by decide +kernel
theorem dX11_sheetAt_15 : decode cX11_sheetAt 15 = .ok (.goto 4, 3) := by decide +kernel
theorem dX11_sheetAt_18 : decode cX11_sheetAt 18 = .ok (.aconst_null, 1) := by decide +kernel
theorem dX11_sheetAt_19 : decode cX11_sheetAt 19 = .ok (.areturn, 1) := by decide +kernel
theorem dX11_isOfKind_0 : decode cX11_isOfKind 0 = .ok (.iload_n 1, 1) := by decide +kernel
theorem dX11_isOfKind_1 : decode cX11_isOfKind 1 = .ok (.tableswitch 66 0 5 #[39, 41, 46, 51, 56, 61], 39) := by decide +kernel
theorem dX11_isOfKind_40 : decode cX11_isOfKind 40 = .ok (.iconst 1, 1) := by decide +kernel
theorem dX11_isOfKind_41 : decode cX11_isOfKind 41 = .ok (.ireturn, 1) := by decide +kernel
theorem dX11_isOfKind_42 : decode cX11_isOfKind 42 = .ok (.aload_n 0, 1) := by decide +kernel
theorem dX11_isOfKind_43 : decode cX11_isOfKind 43 = .ok (.instanceof 290, 3) := by decide +kernel
theorem dX11_isOfKind_46 : decode cX11_isOfKind 46 = .ok (.ireturn, 1) := by decide +kernel
theorem dX11_isOfKind_47 : decode cX11_isOfKind 47 = .ok (.aload_n 0, 1) := by decide +kernel
theorem dX11_isOfKind_48 : decode cX11_isOfKind 48 = .ok (.instanceof 292, 3) := by decide +kernel
theorem dX11_isOfKind_51 : decode cX11_isOfKind 51 = .ok (.ireturn, 1) := by decide +kernel
theorem dX11_isOfKind_52 : decode cX11_isOfKind 52 = .ok (.aload_n 0, 1) := by decide +kernel
theorem dX11_isOfKind_53 : decode cX11_isOfKind 53 = .ok (.instanceof 294, 3) := by decide +kernel
theorem dX11_isOfKind_56 : decode cX11_isOfKind 56 = .ok (.ireturn, 1) := by decide +kernel
theorem dX11_isOfKind_57 : decode cX11_isOfKind 57 = .ok (.aload_n 0, 1) := by decide +kernel
theorem dX11_isOfKind_58 : decode cX11_isOfKind 58 = .ok (.instanceof 296, 3) := by decide +kernel
theorem dX11_isOfKind_61 : decode cX11_isOfKind 61 = .ok (.ireturn, 1) := by decide +kernel
theorem dX11_isOfKind_62 : decode cX11_isOfKind 62 = .ok (.aload_n 0, 1) := by decide +kernel
theorem dX11_isOfKind_63 : decode cX11_isOfKind 63 = .ok (.instanceof 298, 3) := by decide +kernel
theorem dX11_isOfKind_66 : decode cX11_isOfKind 66 = .ok (.ireturn, 1) := by decide +kernel
theorem dX11_isOfKind_67 : decode cX11_isOfKind 67 = .ok (.aload_n 0, 1) := by decide +kernel
theorem dX11_isOfKind_68 : decode cX11_isOfKind 68 = .ok (.instanceof 300, 3) := by decide +kernel
theorem dX11_isOfKind_71 : decode cX11_isOfKind 71 = .ok (.ireturn, 1) := by decide +kernel
theorem dX11_fillReach_0 : decode cX11_fillReach 0 = .ok (.iconst 0, 1) := by decide +kernel
theorem dX11_fillReach_1 : decode cX11_fillReach 1 = .ok (.istore_n 3, 1) := by decide +kernel
theorem dX11_fillReach_2 : decode cX11_fillReach 2 = .ok (.iload_n 3, 1) := by decide +kernel
theorem dX11_fillReach_3 : decode cX11_fillReach 3 = .ok (.iload_n 2, 1) := by decide +kernel
theorem dX11_fillReach_4 : decode cX11_fillReach 4 = .ok (.if_icmp .ge 82, 3) := by decide +kernel
theorem dX11_fillReach_7 : decode cX11_fillReach 7 = .ok (.iload_n 3, 1) := by decide +kernel
theorem dX11_fillReach_8 : decode cX11_fillReach 8 = .ok (.bipush 10, 2) := by decide +kernel
theorem dX11_fillReach_10 : decode cX11_fillReach 10 = .ok (.if_icmp .ge 76, 3) := by decide +kernel
theorem dX11_fillReach_13 : decode cX11_fillReach 13 = .ok (.iconst 0, 1) := by decide +kernel
theorem dX11_fillReach_14 : decode cX11_fillReach 14 = .ok (.istore 4, 2) := by decide +kernel
theorem dX11_fillReach_16 : decode cX11_fillReach 16 = .ok (.iload 4, 2) := by decide +kernel
theorem dX11_fillReach_18 : decode cX11_fillReach 18 = .ok (.bipush 8, 2) := by decide +kernel
theorem dX11_fillReach_20 : decode cX11_fillReach 20 = .ok (.if_icmp .ge 60, 3) := by decide +kernel
theorem dX11_fillReach_23 : decode cX11_fillReach 23 = .ok (.aload_n 0, 1) := by decide +kernel
theorem dX11_fillReach_24 : decode cX11_fillReach 24 = .ok (.getfield 10, 3) := by decide +kernel
theorem dX11_fillReach_27 : decode cX11_fillReach 27 = .ok (.iload 4, 2) := by decide +kernel
theorem dX11_fillReach_29 : decode cX11_fillReach 29 = .ok (.invokevirtual 91, 3) := by decide +kernel
theorem dX11_fillReach_32 : decode cX11_fillReach 32 = .ok (.astore 5, 2) := by decide +kernel
theorem dX11_fillReach_34 : decode cX11_fillReach 34 = .ok (.aload_n 0, 1) := by decide +kernel
theorem dX11_fillReach_35 : decode cX11_fillReach 35 = .ok (.getfield 41, 3) := by decide +kernel
theorem dX11_fillReach_38 : decode cX11_fillReach 38 = .ok (.iload_n 3, 1) := by decide +kernel
theorem dX11_fillReach_39 : decode cX11_fillReach 39 = .ok (.bipush 8, 2) := by decide +kernel
theorem dX11_fillReach_41 : decode cX11_fillReach 41 = .ok (.imul, 1) := by decide +kernel
theorem dX11_fillReach_42 : decode cX11_fillReach 42 = .ok (.iload 4, 2) := by decide +kernel
theorem dX11_fillReach_44 : decode cX11_fillReach 44 = .ok (.iadd, 1) := by decide +kernel
theorem dX11_fillReach_45 : decode cX11_fillReach 45 = .ok (.aload 5, 2) := by decide +kernel
theorem dX11_fillReach_47 : decode cX11_fillReach 47 = .ok (.ifnonnull 7, 3) := by decide +kernel
theorem dX11_fillReach_50 : decode cX11_fillReach 50 = .ok (.iconst 0, 1) := by decide +kernel
theorem dX11_fillReach_51 : decode cX11_fillReach 51 = .ok (.goto 22, 3) := by decide +kernel
theorem dX11_fillReach_54 : decode cX11_fillReach 54 = .ok (.aload_n 0, 1) := by decide +kernel
theorem dX11_fillReach_55 : decode cX11_fillReach 55 = .ok (.getfield 10, 3) := by decide +kernel
theorem dX11_fillReach_58 : decode cX11_fillReach 58 = .ok (.aload 5, 2) := by decide +kernel
theorem dX11_fillReach_60 : decode cX11_fillReach 60 = .ok (.iload_n 1, 1) := by decide +kernel
theorem dX11_fillReach_61 : decode cX11_fillReach 61 = .ok (.aload_n 0, 1) := by decide +kernel
theorem dX11_fillReach_62 : decode cX11_fillReach 62 = .ok (.getfield 10, 3) := by decide +kernel
theorem dX11_fillReach_65 : decode cX11_fillReach 65 = .ok (.getfield 122, 3) := by decide +kernel
theorem dX11_fillReach_68 : decode cX11_fillReach 68 = .ok (.iload_n 3, 1) := by decide +kernel
theorem dX11_fillReach_69 : decode cX11_fillReach 69 = .ok (.iadd, 1) := by decide +kernel
theorem dX11_fillReach_70 : decode cX11_fillReach 70 = .ok (.invokevirtual 133, 3) := by decide +kernel
theorem dX11_fillReach_73 : decode cX11_fillReach 73 = .ok (.iastore, 1) := by decide +kernel
theorem dX11_fillReach_74 : decode cX11_fillReach 74 = .ok (.iinc 4 1, 3) := by decide +kernel
theorem dX11_fillReach_77 : decode cX11_fillReach 77 = .ok (.goto (-61), 3) := by decide +kernel
theorem dX11_fillReach_80 : decode cX11_fillReach 80 = .ok (.iinc 3 1, 3) := by decide +kernel
theorem dX11_fillReach_83 : decode cX11_fillReach 83 = .ok (.goto (-81), 3) := by decide +kernel
theorem dX11_fillReach_86 : decode cX11_fillReach 86 = .ok (.return_, 1) := by decide +kernel
theorem dX11_casesThere_0 : decode cX11_casesThere 0 = .ok (.iload_n 1, 1) := by decide +kernel
theorem dX11_casesThere_1 : decode cX11_casesThere 1 = .ok (.iload_n 2, 1) := by decide +kernel
theorem dX11_casesThere_2 : decode cX11_casesThere 2 = .ok (.ishr, 1) := by decide +kernel
theorem dX11_casesThere_3 : decode cX11_casesThere 3 = .ok (.iconst 1, 1) := by decide +kernel
theorem dX11_casesThere_4 : decode cX11_casesThere 4 = .ok (.iand, 1) := by decide +kernel
theorem dX11_casesThere_5 : decode cX11_casesThere 5 = .ok (.ifCond .eq 11, 3) := by decide +kernel
theorem dX11_casesThere_8 : decode cX11_casesThere 8 = .ok (.iload 4, 2) := by decide +kernel
theorem dX11_casesThere_10 : decode cX11_casesThere 10 = .ok (.iload_n 3, 1) := by decide +kernel
theorem dX11_casesThere_11 : decode cX11_casesThere 11 = .ok (.isub, 1) := by decide +kernel
theorem dX11_casesThere_12 : decode cX11_casesThere 12 = .ok (.invokestatic 302, 3) := by decide +kernel
theorem dX11_casesThere_15 : decode cX11_casesThere 15 = .ok (.lreturn, 1) := by decide +kernel
theorem dX11_casesThere_16 : decode cX11_casesThere 16 = .ok (.iload_n 3, 1) := by decide +kernel
theorem dX11_casesThere_17 : decode cX11_casesThere 17 = .ok (.iload 4, 2) := by decide +kernel
theorem dX11_casesThere_19 : decode cX11_casesThere 19 = .ok (.if_icmp .ge 9, 3) := by decide +kernel
theorem dX11_casesThere_22 : decode cX11_casesThere 22 = .ok (.iload_n 3, 1) := by decide +kernel
theorem dX11_casesThere_23 : decode cX11_casesThere 23 = .ok (.bipush 10, 2) := by decide +kernel
theorem dX11_casesThere_25 : decode cX11_casesThere 25 = .ok (.if_icmp .lt 5, 3) := by decide +kernel
theorem dX11_casesThere_28 : decode cX11_casesThere 28 = .ok (.lconst 0, 1) := by decide +kernel
theorem dX11_casesThere_29 : decode cX11_casesThere 29 = .ok (.lreturn, 1) := by decide +kernel
theorem dX11_casesThere_30 : decode cX11_casesThere 30 = .ok (.aload_n 0, 1) := by decide +kernel
theorem dX11_casesThere_31 : decode cX11_casesThere 31 = .ok (.iload_n 1, 1) := by decide +kernel
theorem dX11_casesThere_32 : decode cX11_casesThere 32 = .ok (.iload_n 3, 1) := by decide +kernel
theorem dX11_casesThere_33 : decode cX11_casesThere 33 = .ok (.invokevirtual 306, 3) := by decide +kernel
theorem dX11_casesThere_36 : decode cX11_casesThere 36 = .ok (.istore 6, 2) := by decide +kernel
theorem dX11_casesThere_38 : decode cX11_casesThere 38 = .ok (.aload_n 0, 1) := by decide +kernel
theorem dX11_casesThere_39 : decode cX11_casesThere 39 = .ok (.iload_n 1, 1) := by decide +kernel
theorem dX11_casesThere_40 : decode cX11_casesThere 40 = .ok (.iload_n 2, 1) := by decide +kernel
theorem dX11_casesThere_41 : decode cX11_casesThere 41 = .ok (.iload_n 3, 1) := by decide +kernel
theorem dX11_casesThere_42 : decode cX11_casesThere 42 = .ok (.iconst 1, 1) := by decide +kernel
theorem dX11_casesThere_43 : decode cX11_casesThere 43 = .ok (.iadd, 1) := by decide +kernel
theorem dX11_casesThere_44 : decode cX11_casesThere 44 = .ok (.iload 4, 2) := by decide +kernel
theorem dX11_casesThere_46 : decode cX11_casesThere 46 = .ok (.iload 5, 2) := by decide +kernel
theorem dX11_casesThere_48 : decode cX11_casesThere 48 = .ok (.invokevirtual 214, 3) := by decide +kernel
theorem dX11_casesThere_51 : decode cX11_casesThere 51 = .ok (.lstore 7, 2) := by decide +kernel
theorem dX11_casesThere_53 : decode cX11_casesThere 53 = .ok (.iload 6, 2) := by decide +kernel
theorem dX11_casesThere_55 : decode cX11_casesThere 55 = .ok (.iload_n 1, 1) := by decide +kernel
theorem dX11_casesThere_56 : decode cX11_casesThere 56 = .ok (.if_icmp .ne 10, 3) := by decide +kernel
theorem dX11_casesThere_59 : decode cX11_casesThere 59 = .ok (.ldc2_w 309, 3) := by decide +kernel
theorem dX11_casesThere_62 : decode cX11_casesThere 62 = .ok (.lload 7, 2) := by decide +kernel
theorem dX11_casesThere_64 : decode cX11_casesThere 64 = .ok (.lmul, 1) := by decide +kernel
theorem dX11_casesThere_65 : decode cX11_casesThere 65 = .ok (.lreturn, 1) := by decide +kernel
theorem dX11_casesThere_66 : decode cX11_casesThere 66 = .ok (.iload 5, 2) := by decide +kernel
theorem dX11_casesThere_68 : decode cX11_casesThere 68 = .ok (.i2l, 1) := by decide +kernel
theorem dX11_casesThere_69 : decode cX11_casesThere 69 = .ok (.lload 7, 2) := by decide +kernel
theorem dX11_casesThere_71 : decode cX11_casesThere 71 = .ok (.lmul, 1) := by decide +kernel
theorem dX11_casesThere_72 : decode cX11_casesThere 72 = .ok (.bipush 10, 2) := by decide +kernel
theorem dX11_casesThere_74 : decode cX11_casesThere 74 = .ok (.iload 5, 2) := by decide +kernel
theorem dX11_casesThere_76 : decode cX11_casesThere 76 = .ok (.isub, 1) := by decide +kernel
theorem dX11_casesThere_77 : decode cX11_casesThere 77 = .ok (.i2l, 1) := by decide +kernel
theorem dX11_casesThere_78 : decode cX11_casesThere 78 = .ok (.aload_n 0, 1) := by decide +kernel
theorem dX11_casesThere_79 : decode cX11_casesThere 79 = .ok (.iload 6, 2) := by decide +kernel
theorem dX11_casesThere_81 : decode cX11_casesThere 81 = .ok (.iload_n 2, 1) := by decide +kernel
theorem dX11_casesThere_82 : decode cX11_casesThere 82 = .ok (.iload_n 3, 1) := by decide +kernel
theorem dX11_casesThere_83 : decode cX11_casesThere 83 = .ok (.iconst 1, 1) := by decide +kernel
theorem dX11_casesThere_84 : decode cX11_casesThere 84 = .ok (.iadd, 1) := by decide +kernel
theorem dX11_casesThere_85 : decode cX11_casesThere 85 = .ok (.iload 4, 2) := by decide +kernel
theorem dX11_casesThere_87 : decode cX11_casesThere 87 = .ok (.iload 5, 2) := by decide +kernel
theorem dX11_casesThere_89 : decode cX11_casesThere 89 = .ok (.invokevirtual 214, 3) := by decide +kernel
theorem dX11_casesThere_92 : decode cX11_casesThere 92 = .ok (.lmul, 1) := by decide +kernel
theorem dX11_casesThere_93 : decode cX11_casesThere 93 = .ok (.ladd, 1) := by decide +kernel
theorem dX11_casesThere_94 : decode cX11_casesThere 94 = .ok (.lreturn, 1) := by decide +kernel
theorem dX11_reachedBehind_0 : decode cX11_reachedBehind 0 = .ok (.iload_n 1, 1) := by decide +kernel
theorem dX11_reachedBehind_1 : decode cX11_reachedBehind 1 = .ok (.istore_n 3, 1) := by decide +kernel
theorem dX11_reachedBehind_2 : decode cX11_reachedBehind 2 = .ok (.iconst 0, 1) := by decide +kernel
theorem dX11_reachedBehind_3 : decode cX11_reachedBehind 3 = .ok (.istore 4, 2) := by decide +kernel
theorem dX11_reachedBehind_5 : decode cX11_reachedBehind 5 = .ok (.iload 4, 2) := by decide +kernel
theorem dX11_reachedBehind_7 : decode cX11_reachedBehind 7 = .ok (.bipush 8, 2) := by decide +kernel
theorem dX11_reachedBehind_9 : decode cX11_reachedBehind 9 = .ok (.if_icmp .ge 52, 3) := by decide +kernel
theorem dX11_reachedBehind_12 : decode cX11_reachedBehind 12 = .ok (.aload_n 0, 1) := by decide +kernel
theorem dX11_reachedBehind_13 : decode cX11_reachedBehind 13 = .ok (.getfield 10, 3) := by decide +kernel
theorem dX11_reachedBehind_16 : decode cX11_reachedBehind 16 = .ok (.iload 4, 2) := by decide +kernel
theorem dX11_reachedBehind_18 : decode cX11_reachedBehind 18 = .ok (.invokevirtual 91, 3) := by decide +kernel
theorem dX11_reachedBehind_21 : decode cX11_reachedBehind 21 = .ok (.astore 5, 2) := by decide +kernel
theorem dX11_reachedBehind_23 : decode cX11_reachedBehind 23 = .ok (.aload 5, 2) := by decide +kernel
theorem dX11_reachedBehind_25 : decode cX11_reachedBehind 25 = .ok (.ifnull 30, 3) := by decide +kernel
theorem dX11_reachedBehind_28 : decode cX11_reachedBehind 28 = .ok (.iload_n 1, 1) := by decide +kernel
theorem dX11_reachedBehind_29 : decode cX11_reachedBehind 29 = .ok (.aload 5, 2) := by decide +kernel
theorem dX11_reachedBehind_31 : decode cX11_reachedBehind 31 = .ok (.getfield 103, 3) := by decide +kernel
theorem dX11_reachedBehind_34 : decode cX11_reachedBehind 34 = .ok (.ishr, 1) := by decide +kernel
theorem dX11_reachedBehind_35 : decode cX11_reachedBehind 35 = .ok (.iconst 1, 1) := by decide +kernel
theorem dX11_reachedBehind_36 : decode cX11_reachedBehind 36 = .ok (.iand, 1) := by decide +kernel
theorem dX11_reachedBehind_37 : decode cX11_reachedBehind 37 = .ok (.ifCond .eq 18, 3) := by decide +kernel
theorem dX11_reachedBehind_40 : decode cX11_reachedBehind 40 = .ok (.iload_n 3, 1) := by decide +kernel
theorem dX11_reachedBehind_41 : decode cX11_reachedBehind 41 = .ok (.aload_n 0, 1) := by decide +kernel
theorem dX11_reachedBehind_42 : decode cX11_reachedBehind 42 = .ok (.getfield 41, 3) := by decide +kernel
theorem dX11_reachedBehind_45 : decode cX11_reachedBehind 45 = .ok (.iload_n 2, 1) := by decide +kernel
theorem dX11_reachedBehind_46 : decode cX11_reachedBehind 46 = .ok (.bipush 8, 2) := by decide +kernel
theorem dX11_reachedBehind_48 : decode cX11_reachedBehind 48 = .ok (.imul, 1) := by decide +kernel
theorem dX11_reachedBehind_49 : decode cX11_reachedBehind 49 = .ok (.iload 4, 2) := by decide +kernel
theorem dX11_reachedBehind_51 : decode cX11_reachedBehind 51 = .ok (.iadd, 1) := by decide +kernel
theorem dX11_reachedBehind_52 : decode cX11_reachedBehind 52 = .ok (.iaload, 1) := by decide +kernel
theorem dX11_reachedBehind_53 : decode cX11_reachedBehind 53 = .ok (.ior, 1) := by decide +kernel
theorem dX11_reachedBehind_54 : decode cX11_reachedBehind 54 = .ok (.istore_n 3, 1) := by decide +kernel
theorem dX11_reachedBehind_55 : decode cX11_reachedBehind 55 = .ok (.iinc 4 1, 3) := by decide +kernel
theorem dX11_reachedBehind_58 : decode cX11_reachedBehind 58 = .ok (.goto (-53), 3) := by decide +kernel
theorem dX11_reachedBehind_61 : decode cX11_reachedBehind 61 = .ok (.iload_n 3, 1) := by decide +kernel
theorem dX11_reachedBehind_62 : decode cX11_reachedBehind 62 = .ok (.ireturn, 1) := by decide +kernel
theorem dX11_tenTo_0 : decode cX11_tenTo 0 = .ok (.lconst 1, 1) := by decide +kernel
theorem dX11_tenTo_1 : decode cX11_tenTo 1 = .ok (.lstore_n 1, 1) := by decide +kernel
theorem dX11_tenTo_2 : decode cX11_tenTo 2 = .ok (.iconst 0, 1) := by decide +kernel
theorem dX11_tenTo_3 : decode cX11_tenTo 3 = .ok (.istore_n 3, 1) := by decide +kernel
theorem dX11_tenTo_4 : decode cX11_tenTo 4 = .ok (.iload_n 3, 1) := by decide +kernel
theorem dX11_tenTo_5 : decode cX11_tenTo 5 = .ok (.iload_n 0, 1) := by decide +kernel
theorem dX11_tenTo_6 : decode cX11_tenTo 6 = .ok (.if_icmp .ge 15, 3) := by decide +kernel
theorem dX11_tenTo_9 : decode cX11_tenTo 9 = .ok (.lload_n 1, 1) := by decide +kernel
theorem dX11_tenTo_10 : decode cX11_tenTo 10 = .ok (.ldc2_w 309, 3) := by decide +kernel
theorem dX11_tenTo_13 : decode cX11_tenTo 13 = .ok (.lmul, 1) := by decide +kernel
theorem dX11_tenTo_14 : decode cX11_tenTo 14 = .ok (.lstore_n 1, 1) := by decide +kernel
theorem dX11_tenTo_15 : decode cX11_tenTo 15 = .ok (.iinc 3 1, 3) := by decide +kernel
theorem dX11_tenTo_18 : decode cX11_tenTo 18 = .ok (.goto (-14), 3) := by decide +kernel
theorem dX11_tenTo_21 : decode cX11_tenTo 21 = .ok (.lload_n 1, 1) := by decide +kernel
theorem dX11_tenTo_22 : decode cX11_tenTo 22 = .ok (.lreturn, 1) := by decide +kernel
theorem dX11_inLowestTerms_0 : decode cX11_inLowestTerms 0 = .ok (.lload_n 0, 1) := by decide +kernel
theorem dX11_inLowestTerms_1 : decode cX11_inLowestTerms 1 = .ok (.lstore 4, 2) := by decide +kernel
theorem dX11_inLowestTerms_3 : decode cX11_inLowestTerms 3 = .ok (.iload_n 2, 1) := by decide +kernel
theorem dX11_inLowestTerms_4 : decode cX11_inLowestTerms 4 = .ok (.invokestatic 302, 3) := by decide +kernel
theorem dX11_inLowestTerms_7 : decode cX11_inLowestTerms 7 = .ok (.lstore 6, 2) := by decide +kernel
theorem dX11_inLowestTerms_9 : decode cX11_inLowestTerms 9 = .ok (.iconst 0, 1) := by decide +kernel
theorem dX11_inLowestTerms_10 : decode cX11_inLowestTerms 10 = .ok (.istore 8, 2) := by decide +kernel
theorem dX11_inLowestTerms_12 : decode cX11_inLowestTerms 12 = .ok (.iload 8, 2) := by decide +kernel
theorem dX11_inLowestTerms_14 : decode cX11_inLowestTerms 14 = .ok (.iload_n 2, 1) := by decide +kernel
theorem dX11_inLowestTerms_15 : decode cX11_inLowestTerms 15 = .ok (.if_icmp .ge 63, 3) := by decide +kernel
theorem dX11_inLowestTerms_18 : decode cX11_inLowestTerms 18 = .ok (.lload 4, 2) := by decide +kernel
theorem dX11_inLowestTerms_20 : decode cX11_inLowestTerms 20 = .ok (.ldc2_w 311, 3) := by decide +kernel
theorem dX11_inLowestTerms_23 : decode cX11_inLowestTerms 23 = .ok (.lrem, 1) := by decide +kernel
theorem dX11_inLowestTerms_24 : decode cX11_inLowestTerms 24 = .ok (.lconst 0, 1) := by decide +kernel
theorem dX11_inLowestTerms_25 : decode cX11_inLowestTerms 25 = .ok (.lcmp, 1) := by decide +kernel
theorem dX11_inLowestTerms_26 : decode cX11_inLowestTerms 26 = .ok (.ifCond .ne 19, 3) := by decide +kernel
theorem dX11_inLowestTerms_29 : decode cX11_inLowestTerms 29 = .ok (.lload 4, 2) := by decide +kernel
theorem dX11_inLowestTerms_31 : decode cX11_inLowestTerms 31 = .ok (.ldc2_w 311, 3) := by decide +kernel
theorem dX11_inLowestTerms_34 : decode cX11_inLowestTerms 34 = .ok (.ldiv, 1) := by decide +kernel
theorem dX11_inLowestTerms_35 : decode cX11_inLowestTerms 35 = .ok (.lstore 4, 2) := by decide +kernel
theorem dX11_inLowestTerms_37 : decode cX11_inLowestTerms 37 = .ok (.lload 6, 2) := by decide +kernel
theorem dX11_inLowestTerms_39 : decode cX11_inLowestTerms 39 = .ok (.ldc2_w 311, 3) := by decide +kernel
theorem dX11_inLowestTerms_42 : decode cX11_inLowestTerms 42 = .ok (.ldiv, 1) := by decide +kernel
theorem dX11_inLowestTerms_43 : decode cX11_inLowestTerms 43 = .ok (.lstore 6, 2) := by decide +kernel
theorem dX11_inLowestTerms_45 : decode cX11_inLowestTerms 45 = .ok (.lload 4, 2) := by decide +kernel
theorem dX11_inLowestTerms_47 : decode cX11_inLowestTerms 47 = .ok (.ldc2_w 313, 3) := by decide +kernel
theorem dX11_inLowestTerms_50 : decode cX11_inLowestTerms 50 = .ok (.lrem, 1) := by decide +kernel
theorem dX11_inLowestTerms_51 : decode cX11_inLowestTerms 51 = .ok (.lconst 0, 1) := by decide +kernel
theorem dX11_inLowestTerms_52 : decode cX11_inLowestTerms 52 = .ok (.lcmp, 1) := by decide +kernel
theorem dX11_inLowestTerms_53 : decode cX11_inLowestTerms 53 = .ok (.ifCond .ne 19, 3) := by decide +kernel
theorem dX11_inLowestTerms_56 : decode cX11_inLowestTerms 56 = .ok (.lload 4, 2) := by decide +kernel
theorem dX11_inLowestTerms_58 : decode cX11_inLowestTerms 58 = .ok (.ldc2_w 313, 3) := by decide +kernel
theorem dX11_inLowestTerms_61 : decode cX11_inLowestTerms 61 = .ok (.ldiv, 1) := by decide +kernel
theorem dX11_inLowestTerms_62 : decode cX11_inLowestTerms 62 = .ok (.lstore 4, 2) := by decide +kernel
theorem dX11_inLowestTerms_64 : decode cX11_inLowestTerms 64 = .ok (.lload 6, 2) := by decide +kernel
theorem dX11_inLowestTerms_66 : decode cX11_inLowestTerms 66 = .ok (.ldc2_w 313, 3) := by decide +kernel
theorem dX11_inLowestTerms_69 : decode cX11_inLowestTerms 69 = .ok (.ldiv, 1) := by decide +kernel
theorem dX11_inLowestTerms_70 : decode cX11_inLowestTerms 70 = .ok (.lstore 6, 2) := by decide +kernel
theorem dX11_inLowestTerms_72 : decode cX11_inLowestTerms 72 = .ok (.iinc 8 1, 3) := by decide +kernel
theorem dX11_inLowestTerms_75 : decode cX11_inLowestTerms 75 = .ok (.goto (-63), 3) := by decide +kernel
theorem dX11_inLowestTerms_78 : decode cX11_inLowestTerms 78 = .ok (.iload_n 3, 1) := by decide +kernel
theorem dX11_inLowestTerms_79 : decode cX11_inLowestTerms 79 = .ok (.ifCond .ne 8, 3) := by decide +kernel
theorem dX11_inLowestTerms_82 : decode cX11_inLowestTerms 82 = .ok (.lload 4, 2) := by decide +kernel
theorem dX11_inLowestTerms_84 : decode cX11_inLowestTerms 84 = .ok (.goto 5, 3) := by decide +kernel
theorem dX11_inLowestTerms_87 : decode cX11_inLowestTerms 87 = .ok (.lload 6, 2) := by decide +kernel
theorem dX11_inLowestTerms_89 : decode cX11_inLowestTerms 89 = .ok (.lreturn, 1) := by decide +kernel
