theorem dX11_thickest_31 : decode cX11_thickest 31 = .ok (.aload_n 0, 1) := by decide +kernel
theorem dX11_thickest_32 : decode cX11_thickest 32 = .ok (.getfield 86, 3) := by decide +kernel
theorem dX11_thickest_35 : decode cX11_thickest 35 = .ok (.getfield 208, 3) := by decide +kernel
theorem dX11_thickest_38 : decode cX11_thickest 38 = .ok (.invokevirtual 211, 3) := by decide +kernel
theorem dX11_thickest_41 : decode cX11_thickest 41 = .ok (.aload_n 0, 1) := by decide +kernel
theorem dX11_thickest_42 : decode cX11_thickest 42 = .ok (.getfield 51, 3) := by decide +kernel
theorem dX11_thickest_45 : decode cX11_thickest 45 = .ok (.invokevirtual 229, 3) := by decide +kernel
theorem dX11_thickest_48 : decode cX11_thickest 48 = .ok (.istore_n 3, 1) := by decide +kernel
theorem dX11_thickest_49 : decode cX11_thickest 49 = .ok (.iload_n 3, 1) := by decide +kernel
theorem dX11_thickest_50 : decode cX11_thickest 50 = .ok (.ifCond .lt 9, 3) := by decide +kernel
theorem dX11_thickest_53 : decode cX11_thickest 53 = .ok (.iload_n 3, 1) := by decide +kernel
theorem dX11_thickest_54 : decode cX11_thickest 54 = .ok (.bipush 40, 2) := by decide +kernel
theorem dX11_thickest_56 : decode cX11_thickest 56 = .ok (.if_icmp .lt 6, 3) := by decide +kernel
theorem dX11_thickest_59 : decode cX11_thickest 59 = .ok (.bipush (-2), 2) := by decide +kernel
theorem dX11_thickest_61 : decode cX11_thickest 61 = .ok (.ireturn, 1) := by decide +kernel
theorem dX11_thickest_62 : decode cX11_thickest 62 = .ok (.iload_n 2, 1) := by decide +kernel
theorem dX11_thickest_63 : decode cX11_thickest 63 = .ok (.ifCond .ne 15, 3) := by decide +kernel
theorem dX11_thickest_66 : decode cX11_thickest 66 = .ok (.aload_n 0, 1) := by decide +kernel
theorem dX11_thickest_67 : decode cX11_thickest 67 = .ok (.getfield 51, 3) := by decide +kernel
theorem dX11_thickest_70 : decode cX11_thickest 70 = .ok (.getfield 130, 3) := by decide +kernel
theorem dX11_thickest_73 : decode cX11_thickest 73 = .ok (.iload_n 3, 1) := by decide +kernel
theorem dX11_thickest_74 : decode cX11_thickest 74 = .ok (.iaload, 1) := by decide +kernel
theorem dX11_thickest_75 : decode cX11_thickest 75 = .ok (.goto 7, 3) := by decide +kernel
theorem dX11_thickest_78 : decode cX11_thickest 78 = .ok (.iload_n 3, 1) := by decide +kernel
theorem dX11_thickest_79 : decode cX11_thickest 79 = .ok (.invokestatic 232, 3) := by decide +kernel
theorem dX11_thickest_82 : decode cX11_thickest 82 = .ok (.ireturn, 1) := by decide +kernel
theorem dX11_hid_0 : decode cX11_hid 0 = .ok (.aload_n 0, 1) := by decide +kernel
theorem dX11_hid_1 : decode cX11_hid 1 = .ok (.getfield 86, 3) := by decide +kernel
theorem dX11_hid_4 : decode cX11_hid 4 = .ok (.iload_n 1, 1) := by decide +kernel
theorem dX11_hid_5 : decode cX11_hid 5 = .ok (.iload_n 2, 1) := by decide +kernel
theorem dX11_hid_6 : decode cX11_hid 6 = .ok (.invokevirtual 126, 3) := by decide +kernel
theorem dX11_hid_9 : decode cX11_hid 9 = .ok (.istore 5, 2) := by decide +kernel
theorem dX11_hid_11 : decode cX11_hid 11 = .ok (.iload 5, 2) := by decide +kernel
theorem dX11_hid_13 : decode cX11_hid 13 = .ok (.ifCond .lt 30, 3) := by decide +kernel
theorem dX11_hid_16 : decode cX11_hid 16 = .ok (.iload 5, 2) := by decide +kernel
theorem dX11_hid_18 : decode cX11_hid 18 = .ok (.bipush 40, 2) := by decide +kernel
theorem dX11_hid_20 : decode cX11_hid 20 = .ok (.if_icmp .ge 23, 3) := by decide +kernel
theorem dX11_hid_23 : decode cX11_hid 23 = .ok (.iload_n 3, 1) := by decide +kernel
theorem dX11_hid_24 : decode cX11_hid 24 = .ok (.iconst 1, 1) := by decide +kernel
theorem dX11_hid_25 : decode cX11_hid 25 = .ok (.if_icmp .lt 18, 3) := by decide +kernel
theorem dX11_hid_28 : decode cX11_hid 28 = .ok (.iload_n 3, 1) := by decide +kernel
theorem dX11_hid_29 : decode cX11_hid 29 = .ok (.invokestatic 219, 3) := by decide +kernel
theorem dX11_hid_32 : decode cX11_hid 32 = .ok (.ifCond .eq 11, 3) := by decide +kernel
theorem dX11_hid_35 : decode cX11_hid 35 = .ok (.iload 4, 2) := by decide +kernel
theorem dX11_hid_37 : decode cX11_hid 37 = .ok (.invokestatic 235, 3) := by decide +kernel
theorem dX11_hid_40 : decode cX11_hid 40 = .ok (.ifCond .ne 5, 3) := by decide +kernel
theorem dX11_hid_43 : decode cX11_hid 43 = .ok (.iconst (-1), 1) := by decide +kernel
theorem dX11_hid_44 : decode cX11_hid 44 = .ok (.ireturn, 1) := by decide +kernel
theorem dX11_hid_45 : decode cX11_hid 45 = .ok (.iconst 0, 1) := by decide +kernel
theorem dX11_hid_46 : decode cX11_hid 46 = .ok (.istore 6, 2) := by decide +kernel
theorem dX11_hid_48 : decode cX11_hid 48 = .ok (.aload_n 0, 1) := by decide +kernel
theorem dX11_hid_49 : decode cX11_hid 49 = .ok (.getfield 51, 3) := by decide +kernel
theorem dX11_hid_52 : decode cX11_hid 52 = .ok (.aload_n 0, 1) := by decide +kernel
theorem dX11_hid_53 : decode cX11_hid 53 = .ok (.getfield 47, 3) := by decide +kernel
theorem dX11_hid_56 : decode cX11_hid 56 = .ok (.invokevirtual 205, 3) := by decide +kernel
theorem dX11_hid_59 : decode cX11_hid 59 = .ok (.iconst 0, 1) := by decide +kernel
theorem dX11_hid_60 : decode cX11_hid 60 = .ok (.istore 7, 2) := by decide +kernel
theorem dX11_hid_62 : decode cX11_hid 62 = .ok (.iload 7, 2) := by decide +kernel
theorem dX11_hid_64 : decode cX11_hid 64 = .ok (.iload_n 3, 1) := by decide +kernel
theorem dX11_hid_65 : decode cX11_hid 65 = .ok (.if_icmp .ge 50, 3) := by decide +kernel
theorem dX11_hid_68 : decode cX11_hid 68 = .ok (.aload_n 0, 1) := by decide +kernel
theorem dX11_hid_69 : decode cX11_hid 69 = .ok (.getfield 51, 3) := by decide +kernel
theorem dX11_hid_72 : decode cX11_hid 72 = .ok (.getfield 130, 3) := by decide +kernel
theorem dX11_hid_75 : decode cX11_hid 75 = .ok (.iload 5, 2) := by decide +kernel
theorem dX11_hid_77 : decode cX11_hid 77 = .ok (.iaload, 1) := by decide +kernel
theorem dX11_hid_78 : decode cX11_hid 78 = .ok (.iload 4, 2) := by decide +kernel
theorem dX11_hid_80 : decode cX11_hid 80 = .ok (.if_icmp .lt 6, 3) := by decide +kernel
theorem dX11_hid_83 : decode cX11_hid 83 = .ok (.iinc 6 1, 3) := by decide +kernel
theorem dX11_hid_86 : decode cX11_hid 86 = .ok (.aload_n 0, 1) := by decide +kernel
theorem dX11_hid_87 : decode cX11_hid 87 = .ok (.getfield 40, 3) := by decide +kernel
theorem dX11_hid_90 : decode cX11_hid 90 = .ok (.aload_n 0, 1) := by decide +kernel
theorem dX11_hid_91 : decode cX11_hid 91 = .ok (.getfield 86, 3) := by decide +kernel
theorem dX11_hid_94 : decode cX11_hid 94 = .ok (.aload_n 0, 1) := by decide +kernel
theorem dX11_hid_95 : decode cX11_hid 95 = .ok (.getfield 51, 3) := by decide +kernel
theorem dX11_hid_98 : decode cX11_hid 98 = .ok (.aload_n 0, 1) := by decide +kernel
theorem dX11_hid_99 : decode cX11_hid 99 = .ok (.getfield 86, 3) := by decide +kernel
theorem dX11_hid_102 : decode cX11_hid 102 = .ok (.getfield 208, 3) := by decide +kernel
theorem dX11_hid_105 : decode cX11_hid 105 = .ok (.iconst (-1), 1) := by decide +kernel
theorem dX11_hid_106 : decode cX11_hid 106 = .ok (.invokevirtual 238, 3) := by decide +kernel
theorem dX11_hid_109 : decode cX11_hid 109 = .ok (.iinc 7 1, 3) := by decide +kernel
theorem dX11_hid_112 : decode cX11_hid 112 = .ok (.goto (-50), 3) := by decide +kernel
theorem dX11_hid_115 : decode cX11_hid 115 = .ok (.iload 6, 2) := by decide +kernel
theorem dX11_hid_117 : decode cX11_hid 117 = .ok (.ireturn, 1) := by decide +kernel
theorem dX11_lost_0 : decode cX11_lost 0 = .ok (.iload_n 1, 1) := by decide +kernel
theorem dX11_lost_1 : decode cX11_lost 1 = .ok (.invokestatic 219, 3) := by decide +kernel
theorem dX11_lost_4 : decode cX11_lost 4 = .ok (.ifCond .ne 5, 3) := by decide +kernel
theorem dX11_lost_7 : decode cX11_lost 7 = .ok (.iconst (-1), 1) := by decide +kernel
theorem dX11_lost_8 : decode cX11_lost 8 = .ok (.ireturn, 1) := by decide +kernel
theorem dX11_lost_9 : decode cX11_lost 9 = .ok (.aload_n 0, 1) := by decide +kernel
theorem dX11_lost_10 : decode cX11_lost 10 = .ok (.getfield 51, 3) := by decide +kernel
theorem dX11_lost_13 : decode cX11_lost 13 = .ok (.aload_n 0, 1) := by decide +kernel
theorem dX11_lost_14 : decode cX11_lost 14 = .ok (.getfield 47, 3) := by decide +kernel
theorem dX11_lost_17 : decode cX11_lost 17 = .ok (.invokevirtual 205, 3) := by decide +kernel
theorem dX11_lost_20 : decode cX11_lost 20 = .ok (.aload_n 0, 1) := by decide +kernel
theorem dX11_lost_21 : decode cX11_lost 21 = .ok (.iload_n 1, 1) := by decide +kernel
theorem dX11_lost_22 : decode cX11_lost 22 = .ok (.aload_n 0, 1) := by decide +kernel
theorem dX11_lost_23 : decode cX11_lost 23 = .ok (.getfield 86, 3) := by decide +kernel
theorem dX11_lost_26 : decode cX11_lost 26 = .ok (.getfield 208, 3) := by decide +kernel
theorem dX11_lost_29 : decode cX11_lost 29 = .ok (.invokevirtual 211, 3) := by decide +kernel
theorem dX11_lost_32 : decode cX11_lost 32 = .ok (.aload_n 0, 1) := by decide +kernel
theorem dX11_lost_33 : decode cX11_lost 33 = .ok (.getfield 47, 3) := by decide +kernel
theorem dX11_lost_36 : decode cX11_lost 36 = .ok (.invokevirtual 222, 3) := by decide +kernel
theorem dX11_lost_39 : decode cX11_lost 39 = .ok (.aload_n 0, 1) := by decide +kernel
theorem dX11_lost_40 : decode cX11_lost 40 = .ok (.getfield 51, 3) := by decide +kernel
theorem dX11_lost_43 : decode cX11_lost 43 = .ok (.invokevirtual 222, 3) := by decide +kernel
theorem dX11_lost_46 : decode cX11_lost 46 = .ok (.isub, 1) := by decide +kernel
theorem dX11_lost_47 : decode cX11_lost 47 = .ok (.ireturn, 1) := by decide +kernel
theorem dX11_served_0 : decode cX11_served 0 = .ok (.aload_n 0, 1) := by decide +kernel
theorem dX11_served_1 : decode cX11_served 1 = .ok (.getfield 86, 3) := by decide +kernel
theorem dX11_served_4 : decode cX11_served 4 = .ok (.iload_n 1, 1) := by decide +kernel
theorem dX11_served_5 : decode cX11_served 5 = .ok (.invokevirtual 175, 3) := by decide +kernel
theorem dX11_served_8 : decode cX11_served 8 = .ok (.ifCond .eq 10, 3) := by decide +kernel
theorem dX11_served_11 : decode cX11_served 11 = .ok (.iload_n 2, 1) := by decide +kernel
theorem dX11_served_12 : decode cX11_served 12 = .ok (.invokestatic 219, 3) := by decide +kernel
theorem dX11_served_15 : decode cX11_served 15 = .ok (.ifCond .ne 5, 3) := by decide +kernel
theorem dX11_served_18 : decode cX11_served 18 = .ok (.iconst (-1), 1) := by decide +kernel
theorem dX11_served_19 : decode cX11_served 19 = .ok (.ireturn, 1) := by decide +kernel
theorem dX11_served_20 : decode cX11_served 20 = .ok (.aload_n 0, 1) := by decide +kernel
theorem dX11_served_21 : decode cX11_served 21 = .ok (.getfield 51, 3) := by decide +kernel
theorem dX11_served_24 : decode cX11_served 24 = .ok (.aload_n 0, 1) := by decide +kernel
theorem dX11_served_25 : decode cX11_served 25 = .ok (.getfield 47, 3) := by decide +kernel
theorem dX11_served_28 : decode cX11_served 28 = .ok (.invokevirtual 205, 3) := by decide +kernel
theorem dX11_served_31 : decode cX11_served 31 = .ok (.aload_n 0, 1) := by decide +kernel
theorem dX11_served_32 : decode cX11_served 32 = .ok (.iload_n 2, 1) := by decide +kernel
theorem dX11_served_33 : decode cX11_served 33 = .ok (.aload_n 0, 1) := by decide +kernel
theorem dX11_served_34 : decode cX11_served 34 = .ok (.getfield 86, 3) := by decide +kernel
theorem dX11_served_37 : decode cX11_served 37 = .ok (.getfield 208, 3) := by decide +kernel
theorem dX11_served_40 : decode cX11_served 40 = .ok (.invokevirtual 211, 3) := by decide +kernel
theorem dX11_served_43 : decode cX11_served 43 = .ok (.aload_n 0, 1) := by decide +kernel
theorem dX11_served_44 : decode cX11_served 44 = .ok (.aload_n 0, 1) := by decide +kernel
theorem dX11_served_45 : decode cX11_served 45 = .ok (.getfield 51, 3) := by decide +kernel
theorem dX11_served_48 : decode cX11_served 48 = .ok (.iload_n 1, 1) := by decide +kernel
theorem dX11_served_49 : decode cX11_served 49 = .ok (.invokevirtual 242, 3) := by decide +kernel
theorem dX11_served_52 : decode cX11_served 52 = .ok (.ifCond .eq 7, 3) := by decide +kernel
theorem dX11_served_55 : decode cX11_served 55 = .ok (.iconst 1, 1) := by decide +kernel
theorem dX11_served_56 : decode cX11_served 56 = .ok (.goto 4, 3) := by decide +kernel
theorem dX11_served_59 : decode cX11_served 59 = .ok (.iconst 0, 1) := by decide +kernel
theorem dX11_served_60 : decode cX11_served 60 = .ok (.ireturn, 1) := by decide +kernel
theorem dX11_missed_0 : decode cX11_missed 0 = .ok (.aload_n 0, 1) := by decide +kernel
theorem dX11_missed_1 : decode cX11_missed 1 = .ok (.getfield 86, 3) := by decide +kernel
theorem dX11_missed_4 : decode cX11_missed 4 = .ok (.iload_n 1, 1) := by decide +kernel
theorem dX11_missed_5 : decode cX11_missed 5 = .ok (.invokevirtual 175, 3) := by decide +kernel
theorem dX11_missed_8 : decode cX11_missed 8 = .ok (.ifCond .eq 15, 3) := by decide +kernel
theorem dX11_missed_11 : decode cX11_missed 11 = .ok (.iload_n 2, 1) := by decide +kernel
theorem dX11_missed_12 : decode cX11_missed 12 = .ok (.iconst 1, 1) := by decide +kernel
theorem dX11_missed_13 : decode cX11_missed 13 = .ok (.if_icmp .lt 10, 3) := by decide +kernel
theorem dX11_missed_16 : decode cX11_missed 16 = .ok (.iload_n 2, 1) := by decide +kernel
theorem dX11_missed_17 : decode cX11_missed 17 = .ok (.invokestatic 219, 3) := by decide +kernel
theorem dX11_missed_20 : decode cX11_missed 20 = .ok (.ifCond .ne 5, 3) := by decide +kernel
theorem dX11_missed_23 : decode cX11_missed 23 = .ok (.iconst (-1), 1) := by decide +kernel
theorem dX11_missed_24 : decode cX11_missed 24 = .ok (.ireturn, 1) := by decide +kernel
theorem dX11_missed_25 : decode cX11_missed 25 = .ok (.iconst 0, 1) := by decide +kernel
theorem dX11_missed_26 : decode cX11_missed 26 = .ok (.istore_n 3, 1) := by decide +kernel
theorem dX11_missed_27 : decode cX11_missed 27 = .ok (.aload_n 0, 1) := by decide +kernel
theorem dX11_missed_28 : decode cX11_missed 28 = .ok (.getfield 51, 3) := by decide +kernel
theorem dX11_missed_31 : decode cX11_missed 31 = .ok (.aload_n 0, 1) := by decide +kernel
theorem dX11_missed_32 : decode cX11_missed 32 = .ok (.getfield 47, 3) := by decide +kernel
theorem dX11_missed_35 : decode cX11_missed 35 = .ok (.invokevirtual 205, 3) := by decide +kernel
theorem dX11_missed_38 : decode cX11_missed 38 = .ok (.iconst 0, 1) := by decide +kernel
theorem dX11_missed_39 : decode cX11_missed 39 = .ok (.istore 4, 2) := by decide +kernel
theorem dX11_missed_41 : decode cX11_missed 41 = .ok (.iload 4, 2) := by decide +kernel
theorem dX11_missed_43 : decode cX11_missed 43 = .ok (.iload_n 2, 1) := by decide +kernel
theorem dX11_missed_44 : decode cX11_missed 44 = .ok (.if_icmp .ge 47, 3) := by decide +kernel
theorem dX11_missed_47 : decode cX11_missed 47 = .ok (.aload_n 0, 1) := by decide +kernel
theorem dX11_missed_48 : decode cX11_missed 48 = .ok (.aload_n 0, 1) := by decide +kernel
theorem dX11_missed_49 : decode cX11_missed 49 = .ok (.getfield 51, 3) := by decide +kernel
theorem dX11_missed_52 : decode cX11_missed 52 = .ok (.iload_n 1, 1) := by decide +kernel
theorem dX11_missed_53 : decode cX11_missed 53 = .ok (.invokevirtual 242, 3) := by decide +kernel
theorem dX11_missed_56 : decode cX11_missed 56 = .ok (.ifCond .ne 6, 3) := by decide +kernel
theorem dX11_missed_59 : decode cX11_missed 59 = .ok (.iinc 3 1, 3) := by decide +kernel
theorem dX11_missed_62 : decode cX11_missed 62 = .ok (.aload_n 0, 1) := by decide +kernel
theorem dX11_missed_63 : decode cX11_missed 63 = .ok (.getfield 40, 3) := by decide +kernel
theorem dX11_missed_66 : decode cX11_missed 66 = .ok (.aload_n 0, 1) := by decide +kernel
theorem dX11_missed_67 : decode cX11_missed 67 = .ok (.getfield 86, 3) := by decide +kernel
theorem dX11_missed_70 : decode cX11_missed 70 = .ok (.aload_n 0, 1) := by decide +kernel
theorem dX11_missed_71 : decode cX11_missed 71 = .ok (.getfield 51, 3) := by decide +kernel
theorem dX11_missed_74 : decode cX11_missed 74 = .ok (.aload_n 0, 1) := by decide +kernel
theorem dX11_missed_75 : decode cX11_missed 75 = .ok (.getfield 86, 3) := by decide +kernel
theorem dX11_missed_78 : decode cX11_missed 78 = .ok (.getfield 208, 3) := by decide +kernel
theorem dX11_missed_81 : decode cX11_missed 81 = .ok (.iconst (-1), 1) := by decide +kernel
theorem dX11_missed_82 : decode cX11_missed 82 = .ok (.invokevirtual 238, 3) := by decide +kernel
theorem dX11_missed_85 : decode cX11_missed 85 = .ok (.iinc 4 1, 3) := by decide +kernel
theorem dX11_missed_88 : decode cX11_missed 88 = .ok (.goto (-47), 3) := by decide +kernel
theorem dX11_missed_91 : decode cX11_missed 91 = .ok (.iload_n 3, 1) := by decide +kernel
theorem dX11_missed_92 : decode cX11_missed 92 = .ok (.ireturn, 1) := by decide +kernel
theorem dX11_over_0 : decode cX11_over 0 = .ok (.iconst 0, 1) := by decide +kernel
theorem dX11_over_1 : decode cX11_over 1 = .ok (.istore_n 1, 1) := by decide +kernel
theorem dX11_over_2 : decode cX11_over 2 = .ok (.iconst 0, 1) := by decide +kernel
theorem dX11_over_3 : decode cX11_over 3 = .ok (.istore_n 2, 1) := by decide +kernel
theorem dX11_over_4 : decode cX11_over 4 = .ok (.iload_n 2, 1) := by decide +kernel
theorem dX11_over_5 : decode cX11_over 5 = .ok (.iconst 4, 1) := by decide +kernel
theorem dX11_over_6 : decode cX11_over 6 = .ok (.if_icmp .ge 23, 3) := by decide +kernel
theorem dX11_over_9 : decode cX11_over 9 = .ok (.aload_n 0, 1) := by decide +kernel
theorem dX11_over_10 : decode cX11_over 10 = .ok (.iload_n 2, 1) := by decide +kernel
theorem dX11_over_11 : decode cX11_over 11 = .ok (.invokevirtual 166, 3) := by decide +kernel
theorem dX11_over_14 : decode cX11_over 14 = .ok (.ifCond .eq 9, 3) := by decide +kernel
theorem dX11_over_17 : decode cX11_over 17 = .ok (.iload_n 1, 1) := by decide +kernel
theorem dX11_over_18 : decode cX11_over 18 = .ok (.iconst 1, 1) := by decide +kernel
theorem dX11_over_19 : decode cX11_over 19 = .ok (.iload_n 2, 1) := by decide +kernel
theorem dX11_over_20 : decode cX11_over 20 = .ok (.ishl, 1) := by decide +kernel
theorem dX11_over_21 : decode cX11_over 21 = .ok (.ior, 1) := by decide +kernel
theorem dX11_over_22 : decode cX11_over 22 = .ok (.istore_n 1, 1) := by decide +kernel
theorem dX11_over_23 : decode cX11_over 23 = .ok (.iinc 2 1, 3) := by decide +kernel
theorem dX11_over_26 : decode cX11_over 26 = .ok (.goto (-22), 3) := by decide +kernel
theorem dX11_over_29 : decode cX11_over 29 = .ok (.iload_n 1, 1) := by decide +kernel
theorem dX11_over_30 : decode cX11_over 30 = .ok (.ireturn, 1) := by decide +kernel
theorem dX11_least_0 : decode cX11_least 0 = .ok (.aload_n 0, 1) := by decide +kernel
theorem dX11_least_1 : decode cX11_least 1 = .ok (.getfield 86, 3) := by decide +kernel
theorem dX11_least_4 : decode cX11_least 4 = .ok (.iload_n 1, 1) := by decide +kernel
theorem dX11_least_5 : decode cX11_least 5 = .ok (.iload_n 2, 1) := by decide +kernel
theorem dX11_least_6 : decode cX11_least 6 = .ok (.invokevirtual 126, 3) := by decide +kernel
theorem dX11_least_9 : decode cX11_least 9 = .ok (.istore 5, 2) := by decide +kernel
theorem dX11_least_11 : decode cX11_least 11 = .ok (.iload 5, 2) := by decide +kernel
theorem dX11_least_13 : decode cX11_least 13 = .ok (.ifCond .lt 25, 3) := by decide +kernel
theorem dX11_least_16 : decode cX11_least 16 = .ok (.iload 5, 2) := by decide +kernel
theorem dX11_least_18 : decode cX11_least 18 = .ok (.bipush 40, 2) := by decide +kernel
theorem dX11_least_20 : decode cX11_least 20 = .ok (.if_icmp .ge 18, 3) := by decide +kernel
theorem dX11_least_23 : decode cX11_least 23 = .ok (.iload_n 3, 1) := by decide +kernel
theorem dX11_least_24 : decode cX11_least 24 = .ok (.invokestatic 219, 3) := by decide +kernel
theorem dX11_least_27 : decode cX11_least 27 = .ok (.ifCond .eq 11, 3) := by decide +kernel
theorem dX11_least_30 : decode cX11_least 30 = .ok (.iload 4, 2) := by decide +kernel
theorem dX11_least_32 : decode cX11_least 32 = .ok (.invokestatic 235, 3) := by decide +kernel
theorem dX11_least_35 : decode cX11_least 35 = .ok (.ifCond .ne 5, 3) := by decide +kernel
theorem dX11_least_38 : decode cX11_least 38 = .ok (.iconst (-1), 1) := by decide +kernel
theorem dX11_least_39 : decode cX11_least 39 = .ok (.ireturn, 1) := by decide +kernel
theorem dX11_least_40 : decode cX11_least 40 = .ok (.bipush 99, 2) := by decide +kernel
theorem dX11_least_42 : decode cX11_least 42 = .ok (.aload_n 0, 1) := by decide +kernel
theorem dX11_least_43 : decode cX11_least 43 = .ok (.getfield 47, 3) := by decide +kernel
theorem dX11_least_46 : decode cX11_least 46 = .ok (.getfield 130, 3) := by decide +kernel
theorem dX11_least_49 : decode cX11_least 49 = .ok (.iload 5, 2) := by decide +kernel
theorem dX11_least_51 : decode cX11_least 51 = .ok (.iaload, 1) := by decide +kernel
theorem dX11_least_52 : decode cX11_least 52 = .ok (.isub, 1) := by decide +kernel
theorem dX11_least_53 : decode cX11_least 53 = .ok (.istore 6, 2) := by decide +kernel
theorem dX11_least_55 : decode cX11_least 55 = .ok (.iconst 0, 1) := by decide +kernel
theorem dX11_least_56 : decode cX11_least 56 = .ok (.istore 7, 2) := by decide +kernel
theorem dX11_least_58 : decode cX11_least 58 = .ok (.iload 7, 2) := by decide +kernel
theorem dX11_least_60 : decode cX11_least 60 = .ok (.iload 6, 2) := by decide +kernel
theorem dX11_least_62 : decode cX11_least 62 = .ok (.if_icmp .gt 65, 3) := by decide +kernel
theorem dX11_least_65 : decode cX11_least 65 = .ok (.aload_n 0, 1) := by decide +kernel
theorem dX11_least_66 : decode cX11_least 66 = .ok (.getfield 51, 3) := by decide +kernel
theorem dX11_least_69 : decode cX11_least 69 = .ok (.aload_n 0, 1) := by decide +kernel
theorem dX11_least_70 : decode cX11_least 70 = .ok (.getfield 47, 3) := by decide +kernel
theorem dX11_least_73 : decode cX11_least 73 = .ok (.invokevirtual 205, 3) := by decide +kernel
theorem dX11_least_76 : decode cX11_least 76 = .ok (.aload_n 0, 1) := by decide +kernel
theorem dX11_least_77 : decode cX11_least 77 = .ok (.getfield 51, 3) := by decide +kernel
theorem dX11_least_80 : decode cX11_least 80 = .ok (.getfield 130, 3) := by decide +kernel
theorem dX11_least_83 : decode cX11_least 83 = .ok (.iload 5, 2) := by decide +kernel
theorem dX11_least_85 : decode cX11_least 85 = .ok (.dup2, 1) := by decide +kernel
theorem dX11_least_86 : decode cX11_least 86 = .ok (.iaload, 1) := by decide +kernel
theorem dX11_least_87 : decode cX11_least 87 = .ok (.iload 7, 2) := by decide +kernel
theorem dX11_least_89 : decode cX11_least 89 = .ok (.iadd, 1) := by decide +kernel
theorem dX11_least_90 : decode cX11_least 90 = .ok (.iastore, 1) := by decide +kernel
theorem dX11_least_91 : decode cX11_least 91 = .ok (.aload_n 0, 1) := by decide +kernel
theorem dX11_least_92 : decode cX11_least 92 = .ok (.iload_n 3, 1) := by decide +kernel
theorem dX11_least_93 : decode cX11_least 93 = .ok (.aload_n 0, 1) := by decide +kernel
theorem dX11_least_94 : decode cX11_least 94 = .ok (.getfield 86, 3) := by decide +kernel
theorem dX11_least_97 : decode cX11_least 97 = .ok (.getfield 208, 3) := by decide +kernel
theorem dX11_least_100 : decode cX11_least 100 = .ok (.invokevirtual 211, 3) := by decide +kernel
theorem dX11_least_103 : decode cX11_least 103 = .ok (.aload_n 0, 1) := by decide +kernel
theorem dX11_least_104 : decode cX11_least 104 = .ok (.getfield 51, 3) := by decide +kernel
theorem dX11_least_107 : decode cX11_least 107 = .ok (.getfield 130, 3) := by decide +kernel
theorem dX11_least_110 : decode cX11_least 110 = .ok (.iload 5, 2) := by decide +kernel
theorem dX11_least_112 : decode cX11_least 112 = .ok (.iaload, 1) := by decide +kernel
theorem dX11_least_113 : decode cX11_least 113 = .ok (.iload 4, 2) := by decide +kernel
theorem dX11_least_115 : decode cX11_least 115 = .ok (.if_icmp .lt 6, 3) := by decide +kernel
theorem dX11_least_118 : decode cX11_least 118 = .ok (.iload 7, 2) := by decide +kernel
theorem dX11_least_120 : decode cX11_least 120 = .ok (.ireturn, 1) := by decide +kernel
theorem dX11_least_121 : decode cX11_least 121 = .ok (.iinc 7 1, 3) := by decide +kernel
theorem dX11_least_124 : decode cX11_least 124 = .ok (.goto (-66), 3) := by decide +kernel
theorem dX11_least_127 : decode cX11_least 127 = .ok (.bipush (-2), 2) := by decide +kernel
theorem dX11_least_129 : decode cX11_least 129 = .ok (.ireturn, 1) := by decide +kernel
theorem dX11_unseen_0 : decode cX11_unseen 0 = .ok (.aload_n 0, 1) := by decide +kernel
theorem dX11_unseen_1 : decode cX11_unseen 1 = .ok (.getfield 86, 3) := by decide +kernel
theorem dX11_unseen_4 : decode cX11_unseen 4 = .ok (.iload_n 1, 1) := by decide +kernel
theorem dX11_unseen_5 : decode cX11_unseen 5 = .ok (.iload_n 2, 1) := by decide +kernel
theorem dX11_unseen_6 : decode cX11_unseen 6 = .ok (.invokevirtual 126, 3) := by decide +kernel
theorem dX11_unseen_9 : decode cX11_unseen 9 = .ok (.istore 6, 2) := by decide +kernel
theorem dX11_unseen_11 : decode cX11_unseen 11 = .ok (.aload_n 0, 1) := by decide +kernel
theorem dX11_unseen_12 : decode cX11_unseen 12 = .ok (.getfield 86, 3) := by decide +kernel
theorem dX11_unseen_15 : decode cX11_unseen 15 = .ok (.iload_n 3, 1) := by decide +kernel
theorem dX11_unseen_16 : decode cX11_unseen 16 = .ok (.iload 4, 2) := by decide +kernel
theorem dX11_unseen_18 : decode cX11_unseen 18 = .ok (.invokevirtual 126, 3) := by decide +kernel
theorem dX11_unseen_21 : decode cX11_unseen 21 = .ok (.istore 7, 2) := by decide +kernel
theorem dX11_unseen_23 : decode cX11_unseen 23 = .ok (.iload 6, 2) := by decide +kernel
theorem dX11_unseen_25 : decode cX11_unseen 25 = .ok (.ifCond .lt 16, 3) := by decide +kernel
theorem dX11_unseen_28 : decode cX11_unseen 28 = .ok (.iload 7, 2) := by decide +kernel
theorem dX11_unseen_30 : decode cX11_unseen 30 = .ok (.ifCond .lt 11, 3) := by decide +kernel
theorem dX11_unseen_33 : decode cX11_unseen 33 = .ok (.iload 5, 2) := by decide +kernel
theorem dX11_unseen_35 : decode cX11_unseen 35 = .ok (.invokestatic 235, 3) := by decide +kernel
theorem dX11_unseen_38 : decode cX11_unseen 38 = .ok (.ifCond .ne 5, 3) := by decide +kernel
theorem dX11_unseen_41 : decode cX11_unseen 41 = .ok (.iconst (-1), 1) := by decide +kernel
theorem dX11_unseen_42 : decode cX11_unseen 42 = .ok (.ireturn, 1) := by decide +kernel
theorem dX11_unseen_43 : decode cX11_unseen 43 = .ok (.aload_n 0, 1) := by decide +kernel
theorem dX11_unseen_44 : decode cX11_unseen 44 = .ok (.getfield 51, 3) := by decide +kernel
theorem dX11_unseen_47 : decode cX11_unseen 47 = .ok (.aload_n 0, 1) := by decide +kernel
theorem dX11_unseen_48 : decode cX11_unseen 48 = .ok (.getfield 47, 3) := by decide +kernel
theorem dX11_unseen_51 : decode cX11_unseen 51 = .ok (.invokevirtual 205, 3) := by decide +kernel
theorem dX11_unseen_54 : decode cX11_unseen 54 = .ok (.lconst 1, 1) := by decide +kernel
theorem dX11_unseen_55 : decode cX11_unseen 55 = .ok (.iload 6, 2) := by decide +kernel
theorem dX11_unseen_57 : decode cX11_unseen 57 = .ok (.lshl, 1) := by decide +kernel
theorem dX11_unseen_58 : decode cX11_unseen 58 = .ok (.aload_n 0, 1) := by decide +kernel
theorem dX11_unseen_59 : decode cX11_unseen 59 = .ok (.getfield 51, 3) := by decide +kernel
theorem dX11_unseen_62 : decode cX11_unseen 62 = .ok (.iload 5, 2) := by decide +kernel
theorem dX11_unseen_64 : decode cX11_unseen 64 = .ok (.invokevirtual 246, 3) := by decide +kernel
theorem dX11_unseen_67 : decode cX11_unseen 67 = .ok (.land, 1) := by decide +kernel
theorem dX11_unseen_68 : decode cX11_unseen 68 = .ok (.lstore 8, 2) := by decide +kernel
theorem dX11_unseen_70 : decode cX11_unseen 70 = .ok (.iconst 0, 1) := by decide +kernel
theorem dX11_unseen_71 : decode cX11_unseen 71 = .ok (.istore 10, 2) := by decide +kernel
theorem dX11_unseen_73 : decode cX11_unseen 73 = .ok (.iload 10, 2) := by decide +kernel
theorem dX11_unseen_75 : decode cX11_unseen 75 = .ok (.bipush 40, 2) := by decide +kernel
theorem dX11_unseen_77 : decode cX11_unseen 77 = .ok (.if_icmp .gt 71, 3) := by decide +kernel
theorem dX11_unseen_80 : decode cX11_unseen 80 = .ok (.lload 8, 2) := by decide +kernel
theorem dX11_unseen_82 : decode cX11_unseen 82 = .ok (.lconst 0, 1) := by decide +kernel
theorem dX11_unseen_83 : decode cX11_unseen 83 = .ok (.lcmp, 1) := by decide +kernel
theorem dX11_unseen_84 : decode cX11_unseen 84 = .ok (.ifCond .eq 64, 3) := by decide +kernel
theorem dX11_unseen_87 : decode cX11_unseen 87 = .ok (.lload 8, 2) := by decide +kernel
theorem dX11_unseen_89 : decode cX11_unseen 89 = .ok (.iload 7, 2) := by decide +kernel
theorem dX11_unseen_91 : decode cX11_unseen 91 = .ok (.lushr, 1) := by decide +kernel
theorem dX11_unseen_92 : decode cX11_unseen 92 = .ok (.lconst 1, 1) := by decide +kernel
theorem dX11_unseen_93 : decode cX11_unseen 93 = .ok (.land, 1) := by decide +kernel
theorem dX11_unseen_94 : decode cX11_unseen 94 = .ok (.lconst 0, 1) := by decide +kernel
theorem dX11_unseen_95 : decode cX11_unseen 95 = .ok (.lcmp, 1) := by decide +kernel
theorem dX11_unseen_96 : decode cX11_unseen 96 = .ok (.ifCond .eq 6, 3) := by decide +kernel
theorem dX11_unseen_99 : decode cX11_unseen 99 = .ok (.iload 10, 2) := by decide +kernel
theorem dX11_unseen_101 : decode cX11_unseen 101 = .ok (.ireturn, 1) := by decide +kernel
theorem dX11_unseen_102 : decode cX11_unseen 102 = .ok (.aload_n 0, 1) := by decide +kernel
theorem dX11_unseen_103 : decode cX11_unseen 103 = .ok (.getfield 40, 3) := by decide +kernel
theorem dX11_unseen_106 : decode cX11_unseen 106 = .ok (.aload_n 0, 1) := by decide +kernel
theorem dX11_unseen_107 : decode cX11_unseen 107 = .ok (.getfield 86, 3) := by decide +kernel
theorem dX11_unseen_110 : decode cX11_unseen 110 = .ok (.aload_n 0, 1) := by decide +kernel
theorem dX11_unseen_111 : decode cX11_unseen 111 = .ok (.getfield 51, 3) := by decide +kernel
theorem dX11_unseen_114 : decode cX11_unseen 114 = .ok (.aload_n 0, 1) := by decide +kernel
theorem dX11_unseen_115 : decode cX11_unseen 115 = .ok (.getfield 86, 3) := by decide +kernel
theorem dX11_unseen_118 : decode cX11_unseen 118 = .ok (.getfield 208, 3) := by decide +kernel
theorem dX11_unseen_121 : decode cX11_unseen 121 = .ok (.iconst (-1), 1) := by decide +kernel
theorem dX11_unseen_122 : decode cX11_unseen 122 = .ok (.invokevirtual 238, 3) := by decide +kernel
theorem dX11_unseen_125 : decode cX11_unseen 125 = .ok (.lload 8, 2) := by decide +kernel
theorem dX11_unseen_127 : decode cX11_unseen 127 = .ok (.invokestatic 250, 3) := by decide +kernel
theorem dX11_unseen_130 : decode cX11_unseen 130 = .ok (.aload_n 0, 1) := by decide +kernel
theorem dX11_unseen_131 : decode cX11_unseen 131 = .ok (.getfield 51, 3) := by decide +kernel
theorem dX11_unseen_134 : decode cX11_unseen 134 = .ok (.iload 5, 2) := by decide +kernel
theorem dX11_unseen_136 : decode cX11_unseen 136 = .ok (.invokevirtual 246, 3) := by decide +kernel
theorem dX11_unseen_139 : decode cX11_unseen 139 = .ok (.land, 1) := by decide +kernel
theorem dX11_unseen_140 : decode cX11_unseen 140 = .ok (.lstore 8, 2) := by decide +kernel
theorem dX11_unseen_142 : decode cX11_unseen 142 = .ok (.iinc 10 1, 3) := by decide +kernel
theorem dX11_unseen_145 : decode cX11_unseen 145 = .ok (.goto (-72), 3) := by decide +kernel
theorem dX11_unseen_148 : decode cX11_unseen 148 = .ok (.bipush (-2), 2) := by decide +kernel
theorem dX11_unseen_150 : decode cX11_unseen 150 = .ok (.ireturn, 1) := by decide +kernel
theorem dX11_watch_0 : decode cX11_watch 0 = .ok (.aload_n 0, 1) := by decide +kernel
theorem dX11_watch_1 : decode cX11_watch 1 = .ok (.getfield 86, 3) := by decide +kernel
theorem dX11_watch_4 : decode cX11_watch 4 = .ok (.iload_n 1, 1) := by decide +kernel
theorem dX11_watch_5 : decode cX11_watch 5 = .ok (.invokevirtual 254, 3) := by decide +kernel
theorem dX11_watch_8 : decode cX11_watch 8 = .ok (.istore 5, 2) := by decide +kernel
theorem dX11_watch_10 : decode cX11_watch 10 = .ok (.aload_n 0, 1) := by decide +kernel
theorem dX11_watch_11 : decode cX11_watch 11 = .ok (.getfield 86, 3) := by decide +kernel
theorem dX11_watch_14 : decode cX11_watch 14 = .ok (.iload_n 2, 1) := by decide +kernel
theorem dX11_watch_15 : decode cX11_watch 15 = .ok (.invokevirtual 254, 3) := by decide +kernel
theorem dX11_watch_18 : decode cX11_watch 18 = .ok (.istore 6, 2) := by decide +kernel
theorem dX11_watch_20 : decode cX11_watch 20 = .ok (.iload 5, 2) := by decide +kernel
theorem dX11_watch_22 : decode cX11_watch 22 = .ok (.ifCond .lt 34, 3) := by decide +kernel
theorem dX11_watch_25 : decode cX11_watch 25 = .ok (.iload 6, 2) := by decide +kernel
theorem dX11_watch_27 : decode cX11_watch 27 = .ok (.ifCond .lt 29, 3) := by decide +kernel
theorem dX11_watch_30 : decode cX11_watch 30 = .ok (.iload 5, 2) := by decide +kernel
theorem dX11_watch_32 : decode cX11_watch 32 = .ok (.iload 6, 2) := by decide +kernel
theorem dX11_watch_34 : decode cX11_watch 34 = .ok (.if_icmp .eq 22, 3) := by decide +kernel
theorem dX11_watch_37 : decode cX11_watch 37 = .ok (.iload_n 3, 1) := by decide +kernel
theorem dX11_watch_38 : decode cX11_watch 38 = .ok (.invokestatic 235, 3) := by decide +kernel
theorem dX11_watch_41 : decode cX11_watch 41 = .ok (.ifCond .eq 15, 3) := by decide +kernel
theorem dX11_watch_44 : decode cX11_watch 44 = .ok (.iload 4, 2) := by decide +kernel
theorem dX11_watch_46 : decode cX11_watch 46 = .ok (.iconst (-1), 1) := by decide +kernel
theorem dX11_watch_47 : decode cX11_watch 47 = .ok (.if_icmp .lt 9, 3) := by decide +kernel
theorem dX11_watch_50 : decode cX11_watch 50 = .ok (.iload 4, 2) := by decide +kernel
theorem dX11_watch_52 : decode cX11_watch 52 = .ok (.iconst 3, 1) := by decide +kernel
theorem dX11_watch_53 : decode cX11_watch 53 = .ok (.if_icmp .lt 5, 3) := by decide +kernel
theorem dX11_watch_56 : decode cX11_watch 56 = .ok (.iconst (-1), 1) := by decide +kernel
theorem dX11_watch_57 : decode cX11_watch 57 = .ok (.ireturn, 1) := by decide +kernel
theorem dX11_watch_58 : decode cX11_watch 58 = .ok (.aload_n 0, 1) := by decide +kernel
theorem dX11_watch_59 : decode cX11_watch 59 = .ok (.getfield 79, 3) := by decide +kernel
theorem dX11_watch_62 : decode cX11_watch 62 = .ok (.aload_n 0, 1) := by decide +kernel
theorem dX11_watch_63 : decode cX11_watch 63 = .ok (.getfield 47, 3) := by decide +kernel
theorem dX11_watch_66 : decode cX11_watch 66 = .ok (.iload_n 3, 1) := by decide +kernel
theorem dX11_watch_67 : decode cX11_watch 67 = .ok (.invokevirtual 246, 3) := by decide +kernel
theorem dX11_watch_70 : decode cX11_watch 70 = .ok (.iload 5, 2) := by decide +kernel
theorem dX11_watch_72 : decode cX11_watch 72 = .ok (.iload 6, 2) := by decide +kernel
theorem dX11_watch_74 : decode cX11_watch 74 = .ok (.invokevirtual 257, 3) := by decide +kernel
theorem dX11_watch_77 : decode cX11_watch 77 = .ok (.istore 7, 2) := by decide +kernel
theorem dX11_watch_79 : decode cX11_watch 79 = .ok (.iload 7, 2) := by decide +kernel
theorem dX11_watch_81 : decode cX11_watch 81 = .ok (.ifCond .lt 9, 3) := by decide +kernel
theorem dX11_watch_84 : decode cX11_watch 84 = .ok (.iload 4, 2) := by decide +kernel
theorem dX11_watch_86 : decode cX11_watch 86 = .ok (.iconst (-1), 1) := by decide +kernel
theorem dX11_watch_87 : decode cX11_watch 87 = .ok (.if_icmp .ne 6, 3) := by decide +kernel
theorem dX11_watch_90 : decode cX11_watch 90 = .ok (.iload 7, 2) := by decide +kernel
theorem dX11_watch_92 : decode cX11_watch 92 = .ok (.ireturn, 1) := by decide +kernel
theorem dX11_watch_93 : decode cX11_watch 93 = .ok (.iload 4, 2) := by decide +kernel
theorem dX11_watch_95 : decode cX11_watch 95 = .ok (.iload 7, 2) := by decide +kernel
theorem dX11_watch_97 : decode cX11_watch 97 = .ok (.if_icmp .ge 18, 3) := by decide +kernel
theorem dX11_watch_100 : decode cX11_watch 100 = .ok (.aload_n 0, 1) := by decide +kernel
theorem dX11_watch_101 : decode cX11_watch 101 = .ok (.getfield 79, 3) := by decide +kernel
theorem dX11_watch_104 : decode cX11_watch 104 = .ok (.iload 4, 2) := by decide +kernel
theorem dX11_watch_106 : decode cX11_watch 106 = .ok (.invokevirtual 261, 3) := by decide +kernel
theorem dX11_watch_109 : decode cX11_watch 109 = .ok (.invokestatic 232, 3) := by decide +kernel
theorem dX11_watch_112 : decode cX11_watch 112 = .ok (.goto 4, 3) := by decide +kernel
theorem dX11_watch_115 : decode cX11_watch 115 = .ok (.iconst (-1), 1) := by decide +kernel
theorem dX11_watch_116 : decode cX11_watch 116 = .ok (.ireturn, 1) := by decide +kernel
theorem dX11_sight_0 : decode cX11_sight 0 = .ok (.aload_n 0, 1) := by decide +kernel
theorem dX11_sight_1 : decode cX11_sight 1 = .ok (.getfield 86, 3) := by decide +kernel
theorem dX11_sight_4 : decode cX11_sight 4 = .ok (.iload_n 1, 1) := by decide +kernel
theorem dX11_sight_5 : decode cX11_sight 5 = .ok (.iload_n 2, 1) := by decide +kernel
theorem dX11_sight_6 : decode cX11_sight 6 = .ok (.invokevirtual 126, 3) := by decide +kernel
theorem dX11_sight_9 : decode cX11_sight 9 = .ok (.ifCond .lt 10, 3) := by decide +kernel
theorem dX11_sight_12 : decode cX11_sight 12 = .ok (.iload_n 3, 1) := by decide +kernel
theorem dX11_sight_13 : decode cX11_sight 13 = .ok (.invokestatic 235, 3) := by decide +kernel
theorem dX11_sight_16 : decode cX11_sight 16 = .ok (.ifCond .ne 5, 3) := by decide +kernel
theorem dX11_sight_19 : decode cX11_sight 19 = .ok (.iconst (-1), 1) := by decide +kernel
theorem dX11_sight_20 : decode cX11_sight 20 = .ok (.ireturn, 1) := by decide +kernel
theorem dX11_sight_21 : decode cX11_sight 21 = .ok (.iconst 0, 1) := by decide +kernel
theorem dX11_sight_22 : decode cX11_sight 22 = .ok (.istore 4, 2) := by decide +kernel
theorem dX11_sight_24 : decode cX11_sight 24 = .ok (.iconst 1, 1) := by decide +kernel
theorem dX11_sight_25 : decode cX11_sight 25 = .ok (.istore 5, 2) := by decide +kernel
theorem dX11_sight_27 : decode cX11_sight 27 = .ok (.iload 5, 2) := by decide +kernel
theorem dX11_sight_29 : decode cX11_sight 29 = .ok (.iconst 5, 1) := by decide +kernel
theorem dX11_sight_30 : decode cX11_sight 30 = .ok (.if_icmp .ge 23, 3) := by decide +kernel
theorem dX11_sight_33 : decode cX11_sight 33 = .ok (.iload 4, 2) := by decide +kernel
theorem dX11_sight_35 : decode cX11_sight 35 = .ok (.aload_n 0, 1) := by decide +kernel
theorem dX11_sight_36 : decode cX11_sight 36 = .ok (.iload_n 1, 1) := by decide +kernel
theorem dX11_sight_37 : decode cX11_sight 37 = .ok (.iload_n 2, 1) := by decide +kernel
theorem dX11_sight_38 : decode cX11_sight 38 = .ok (.iload 5, 2) := by decide +kernel
theorem dX11_sight_40 : decode cX11_sight 40 = .ok (.iload_n 3, 1) := by decide +kernel
theorem dX11_sight_41 : decode cX11_sight 41 = .ok (.invokevirtual 264, 3) := by decide +kernel
theorem dX11_sight_44 : decode cX11_sight 44 = .ok (.iadd, 1) := by decide +kernel
theorem dX11_sight_45 : decode cX11_sight 45 = .ok (.istore 4, 2) := by decide +kernel
theorem dX11_sight_47 : decode cX11_sight 47 = .ok (.iinc 5 1, 3) := by decide +kernel
theorem dX11_sight_50 : decode cX11_sight 50 = .ok (.goto (-23), 3) := by decide +kernel
theorem dX11_sight_53 : decode cX11_sight 53 = .ok (.iload 4, 2) := by decide +kernel
theorem dX11_sight_55 : decode cX11_sight 55 = .ok (.ireturn, 1) := by decide +kernel
theorem dX11_wind_0 : decode cX11_wind 0 = .ok (.iload_n 1, 1) := by decide +kernel
theorem dX11_wind_1 : decode cX11_wind 1 = .ok (.invokestatic 219, 3) := by decide +kernel
theorem dX11_wind_4 : decode cX11_wind 4 = .ok (.ifCond .eq 26, 3) := by decide +kernel
theorem dX11_wind_7 : decode cX11_wind 7 = .ok (.aload_n 0, 1) := by decide +kernel
theorem dX11_wind_8 : decode cX11_wind 8 = .ok (.getfield 40, 3) := by decide +kernel
theorem dX11_wind_11 : decode cX11_wind 11 = .ok (.aload_n 0, 1) := by decide +kernel
theorem dX11_wind_12 : decode cX11_wind 12 = .ok (.getfield 86, 3) := by decide +kernel
theorem dX11_wind_15 : decode cX11_wind 15 = .ok (.aload_n 0, 1) := by decide +kernel
theorem dX11_wind_16 : decode cX11_wind 16 = .ok (.getfield 47, 3) := by decide +kernel
theorem dX11_wind_19 : decode cX11_wind 19 = .ok (.getfield 137, 3) := by decide +kernel
theorem dX11_wind_22 : decode cX11_wind 22 = .ok (.iload_n 1, 1) := by decide +kernel
theorem dX11_wind_23 : decode cX11_wind 23 = .ok (.iadd, 1) := by decide +kernel
theorem dX11_wind_24 : decode cX11_wind 24 = .ok (.invokevirtual 140, 3) := by decide +kernel
theorem dX11_wind_27 : decode cX11_wind 27 = .ok (.goto 4, 3) := by decide +kernel
theorem dX11_wind_30 : decode cX11_wind 30 = .ok (.iconst (-1), 1) := by decide +kernel
theorem dX11_wind_31 : decode cX11_wind 31 = .ok (.ireturn, 1) := by decide +kernel
theorem dX11_lent_0 : decode cX11_lent 0 = .ok (.aload_n 0, 1) := by decide +kernel
theorem dX11_lent_1 : decode cX11_lent 1 = .ok (.iload_n 1, 1) := by decide +kernel
theorem dX11_lent_2 : decode cX11_lent 2 = .ok (.iload_n 2, 1) := by decide +kernel
theorem dX11_lent_3 : decode cX11_lent 3 = .ok (.invokevirtual 198, 3) := by decide +kernel
theorem dX11_lent_6 : decode cX11_lent 6 = .ok (.ifCond .eq 15, 3) := by decide +kernel
theorem dX11_lent_9 : decode cX11_lent 9 = .ok (.aload_n 0, 1) := by decide +kernel
theorem dX11_lent_10 : decode cX11_lent 10 = .ok (.getfield 47, 3) := by decide +kernel
theorem dX11_lent_13 : decode cX11_lent 13 = .ok (.iload_n 1, 1) := by decide +kernel
theorem dX11_lent_14 : decode cX11_lent 14 = .ok (.iload_n 2, 1) := by decide +kernel
theorem dX11_lent_15 : decode cX11_lent 15 = .ok (.invokevirtual 268, 3) := by decide +kernel
theorem dX11_lent_18 : decode cX11_lent 18 = .ok (.goto 4, 3) := by decide +kernel
theorem dX11_lent_21 : decode cX11_lent 21 = .ok (.iconst (-1), 1) := by decide +kernel
theorem dX11_lent_22 : decode cX11_lent 22 = .ok (.ireturn, 1) := by decide +kernel
theorem dX11_gone_0 : decode cX11_gone 0 = .ok (.iload_n 1, 1) := by decide +kernel
theorem dX11_gone_1 : decode cX11_gone 1 = .ok (.ifCond .lt 8, 3) := by decide +kernel
theorem dX11_gone_4 : decode cX11_gone 4 = .ok (.iload_n 1, 1) := by decide +kernel
theorem dX11_gone_5 : decode cX11_gone 5 = .ok (.iconst 1, 1) := by decide +kernel
theorem dX11_gone_6 : decode cX11_gone 6 = .ok (.if_icmp .le 5, 3) := by decide +kernel
theorem dX11_gone_9 : decode cX11_gone 9 = .ok (.iconst (-1), 1) := by decide +kernel
theorem dX11_gone_10 : decode cX11_gone 10 = .ok (.ireturn, 1) := by decide +kernel
theorem dX11_gone_11 : decode cX11_gone 11 = .ok (.aload_n 0, 1) := by decide +kernel
theorem dX11_gone_12 : decode cX11_gone 12 = .ok (.getfield 51, 3) := by decide +kernel
theorem dX11_gone_15 : decode cX11_gone 15 = .ok (.aload_n 0, 1) := by decide +kernel
theorem dX11_gone_16 : decode cX11_gone 16 = .ok (.getfield 47, 3) := by decide +kernel
theorem dX11_gone_19 : decode cX11_gone 19 = .ok (.invokevirtual 205, 3) := by decide +kernel
theorem dX11_gone_22 : decode cX11_gone 22 = .ok (.iconst 0, 1) := by decide +kernel
theorem dX11_gone_23 : decode cX11_gone 23 = .ok (.istore_n 2, 1) := by decide +kernel
theorem dX11_gone_24 : decode cX11_gone 24 = .ok (.iload_n 2, 1) := by decide +kernel
theorem dX11_gone_25 : decode cX11_gone 25 = .ok (.bipush 72, 2) := by decide +kernel
theorem dX11_gone_27 : decode cX11_gone 27 = .ok (.if_icmp .gt 83, 3) := by decide +kernel
theorem dX11_gone_30 : decode cX11_gone 30 = .ok (.iconst 0, 1) := by decide +kernel
theorem dX11_gone_31 : decode cX11_gone 31 = .ok (.istore_n 3, 1) := by decide +kernel
theorem dX11_gone_32 : decode cX11_gone 32 = .ok (.iload_n 3, 1) := by decide +kernel
theorem dX11_gone_33 : decode cX11_gone 33 = .ok (.aload_n 0, 1) := by decide +kernel
theorem dX11_gone_34 : decode cX11_gone 34 = .ok (.getfield 86, 3) := by decide +kernel
theorem dX11_gone_37 : decode cX11_gone 37 = .ok (.getfield 271, 3) := by decide +kernel
theorem dX11_gone_40 : decode cX11_gone 40 = .ok (.if_icmp .ge 41, 3) := by decide +kernel
theorem dX11_gone_43 : decode cX11_gone 43 = .ok (.aload_n 0, 1) := by decide +kernel
theorem dX11_gone_44 : decode cX11_gone 44 = .ok (.getfield 51, 3) := by decide +kernel
theorem dX11_gone_47 : decode cX11_gone 47 = .ok (.iload_n 3, 1) := by decide +kernel
theorem dX11_gone_48 : decode cX11_gone 48 = .ok (.invokevirtual 159, 3) := by decide +kernel
theorem dX11_gone_51 : decode cX11_gone 51 = .ok (.ifCond .le 24, 3) := by decide +kernel
theorem dX11_gone_54 : decode cX11_gone 54 = .ok (.aload_n 0, 1) := by decide +kernel
theorem dX11_gone_55 : decode cX11_gone 55 = .ok (.getfield 51, 3) := by decide +kernel
theorem dX11_gone_58 : decode cX11_gone 58 = .ok (.iload_n 3, 1) := by decide +kernel
theorem dX11_gone_59 : decode cX11_gone 59 = .ok (.invokevirtual 163, 3) := by decide +kernel
theorem dX11_gone_62 : decode cX11_gone 62 = .ok (.ifCond .ne 13, 3) := by decide +kernel
theorem dX11_gone_65 : decode cX11_gone 65 = .ok (.iload_n 1, 1) := by decide +kernel
theorem dX11_gone_66 : decode cX11_gone 66 = .ok (.ifCond .ne 7, 3) := by decide +kernel
theorem dX11_gone_69 : decode cX11_gone 69 = .ok (.iload_n 3, 1) := by decide +kernel
theorem dX11_gone_70 : decode cX11_gone 70 = .ok (.goto 4, 3) := by decide +kernel
theorem dX11_gone_73 : decode cX11_gone 73 = .ok (.iload_n 2, 1) := by decide +kernel
theorem dX11_gone_74 : decode cX11_gone 74 = .ok (.ireturn, 1) := by decide +kernel
theorem dX11_gone_75 : decode cX11_gone 75 = .ok (.iinc 3 1, 3) := by decide +kernel
theorem dX11_gone_78 : decode cX11_gone 78 = .ok (.goto (-46), 3) := by decide +kernel
theorem dX11_gone_81 : decode cX11_gone 81 = .ok (.aload_n 0, 1) := by decide +kernel
theorem dX11_gone_82 : decode cX11_gone 82 = .ok (.getfield 40, 3) := by decide +kernel
theorem dX11_gone_85 : decode cX11_gone 85 = .ok (.aload_n 0, 1) := by decide +kernel
theorem dX11_gone_86 : decode cX11_gone 86 = .ok (.getfield 86, 3) := by decide +kernel
theorem dX11_gone_89 : decode cX11_gone 89 = .ok (.aload_n 0, 1) := by decide +kernel
theorem dX11_gone_90 : decode cX11_gone 90 = .ok (.getfield 51, 3) := by decide +kernel
theorem dX11_gone_93 : decode cX11_gone 93 = .ok (.aload_n 0, 1) := by decide +kernel
theorem dX11_gone_94 : decode cX11_gone 94 = .ok (.getfield 86, 3) := by decide +kernel
theorem dX11_gone_97 : decode cX11_gone 97 = .ok (.getfield 208, 3) := by decide +kernel
theorem dX11_gone_100 : decode cX11_gone 100 = .ok (.iconst (-1), 1) := by decide +kernel
theorem dX11_gone_101 : decode cX11_gone 101 = .ok (.invokevirtual 238, 3) := by decide +kernel
theorem dX11_gone_104 : decode cX11_gone 104 = .ok (.iinc 2 1, 3) := by decide +kernel
theorem dX11_gone_107 : decode cX11_gone 107 = .ok (.goto (-83), 3) := by decide +kernel
theorem dX11_gone_110 : decode cX11_gone 110 = .ok (.bipush (-2), 2) := by decide +kernel
theorem dX11_gone_112 : decode cX11_gone 112 = .ok (.ireturn, 1) := by decide +kernel
theorem dX11_year_0 : decode cX11_year 0 = .ok (.aload_n 0, 1) := by decide +kernel
theorem dX11_year_1 : decode cX11_year 1 = .ok (.getfield 86, 3) := by decide +kernel
theorem dX11_year_4 : decode cX11_year 4 = .ok (.iload_n 1, 1) := by decide +kernel
theorem dX11_year_5 : decode cX11_year 5 = .ok (.invokevirtual 175, 3) := by decide +kernel
theorem dX11_year_8 : decode cX11_year 8 = .ok (.ifCond .eq 21, 3) := by decide +kernel
theorem dX11_year_11 : decode cX11_year 11 = .ok (.iload_n 2, 1) := by decide +kernel
theorem dX11_year_12 : decode cX11_year 12 = .ok (.invokestatic 219, 3) := by decide +kernel
theorem dX11_year_15 : decode cX11_year 15 = .ok (.ifCond .eq 14, 3) := by decide +kernel
theorem dX11_year_18 : decode cX11_year 18 = .ok (.iload_n 3, 1) := by decide +kernel
theorem dX11_year_19 : decode cX11_year 19 = .ok (.iconst 1, 1) := by decide +kernel
theorem dX11_year_20 : decode cX11_year 20 = .ok (.if_icmp .lt 9, 3) := by decide +kernel
theorem dX11_year_23 : decode cX11_year 23 = .ok (.iload_n 3, 1) := by decide +kernel
theorem dX11_year_24 : decode cX11_year 24 = .ok (.bipush 20, 2) := by decide +kernel
theorem dX11_year_26 : decode cX11_year 26 = .ok (.if_icmp .le 5, 3) := by decide +kernel
theorem dX11_year_29 : decode cX11_year 29 = .ok (.iconst (-1), 1) := by decide +kernel
theorem dX11_year_30 : decode cX11_year 30 = .ok (.ireturn, 1) := by decide +kernel
theorem dX11_year_31 : decode cX11_year 31 = .ok (.iconst 0, 1) := by decide +kernel
theorem dX11_year_32 : decode cX11_year 32 = .ok (.istore 4, 2) := by decide +kernel
theorem dX11_year_34 : decode cX11_year 34 = .ok (.iconst 0, 1) := by decide +kernel
theorem dX11_year_35 : decode cX11_year 35 = .ok (.istore 5, 2) := by decide +kernel
theorem dX11_year_37 : decode cX11_year 37 = .ok (.iload 5, 2) := by decide +kernel
theorem dX11_year_39 : decode cX11_year 39 = .ok (.iload_n 3, 1) := by decide +kernel
theorem dX11_year_40 : decode cX11_year 40 = .ok (.if_icmp .ge 50, 3) := by decide +kernel
theorem dX11_year_43 : decode cX11_year 43 = .ok (.aload_n 0, 1) := by decide +kernel
theorem dX11_year_44 : decode cX11_year 44 = .ok (.getfield 51, 3) := by decide +kernel
theorem dX11_year_47 : decode cX11_year 47 = .ok (.aload_n 0, 1) := by decide +kernel
theorem dX11_year_48 : decode cX11_year 48 = .ok (.getfield 47, 3) := by decide +kernel
theorem dX11_year_51 : decode cX11_year 51 = .ok (.invokevirtual 205, 3) := by decide +kernel
theorem dX11_year_54 : decode cX11_year 54 = .ok (.aload_n 0, 1) := by decide +kernel
theorem dX11_year_55 : decode cX11_year 55 = .ok (.iload_n 2, 1) := by decide +kernel
theorem dX11_year_56 : decode cX11_year 56 = .ok (.aload_n 0, 1) := by decide +kernel
theorem dX11_year_57 : decode cX11_year 57 = .ok (.getfield 86, 3) := by decide +kernel
theorem dX11_year_60 : decode cX11_year 60 = .ok (.getfield 208, 3) := by decide +kernel
theorem dX11_year_63 : decode cX11_year 63 = .ok (.iload 5, 2) := by decide +kernel
theorem dX11_year_65 : decode cX11_year 65 = .ok (.iadd, 1) := by decide +kernel
theorem dX11_year_66 : decode cX11_year 66 = .ok (.invokevirtual 211, 3) := by decide +kernel
theorem dX11_year_69 : decode cX11_year 69 = .ok (.aload_n 0, 1) := by decide +kernel
theorem dX11_year_70 : decode cX11_year 70 = .ok (.aload_n 0, 1) := by decide +kernel
theorem dX11_year_71 : decode cX11_year 71 = .ok (.getfield 51, 3) := by decide +kernel
theorem dX11_year_74 : decode cX11_year 74 = .ok (.iload_n 1, 1) := by decide +kernel
theorem dX11_year_75 : decode cX11_year 75 = .ok (.invokevirtual 242, 3) := by decide +kernel
theorem dX11_year_78 : decode cX11_year 78 = .ok (.ifCond .eq 6, 3) := by decide +kernel
theorem dX11_year_81 : decode cX11_year 81 = .ok (.iinc 4 1, 3) := by decide +kernel
theorem dX11_year_84 : decode cX11_year 84 = .ok (.iinc 5 1, 3) := by decide +kernel
theorem dX11_year_87 : decode cX11_year 87 = .ok (.goto (-50), 3) := by decide +kernel
theorem dX11_year_90 : decode cX11_year 90 = .ok (.iload 4, 2) := by decide +kernel
theorem dX11_year_92 : decode cX11_year 92 = .ok (.ireturn, 1) := by decide +kernel
theorem dX11_tell_0 : decode cX11_tell 0 = .ok (.aload_n 0, 1) := by decide +kernel
theorem dX11_tell_1 : decode cX11_tell 1 = .ok (.getfield 86, 3) := by decide +kernel
theorem dX11_tell_4 : decode cX11_tell 4 = .ok (.iload_n 1, 1) := by decide +kernel
theorem dX11_tell_5 : decode cX11_tell 5 = .ok (.iload_n 2, 1) := by decide +kernel
theorem dX11_tell_6 : decode cX11_tell 6 = .ok (.invokevirtual 126, 3) := by decide +kernel
theorem dX11_tell_9 : decode cX11_tell 9 = .ok (.istore 5, 2) := by decide +kernel
theorem dX11_tell_11 : decode cX11_tell 11 = .ok (.iload 5, 2) := by decide +kernel
theorem dX11_tell_13 : decode cX11_tell 13 = .ok (.ifCond .lt 21, 3) := by decide +kernel
theorem dX11_tell_16 : decode cX11_tell 16 = .ok (.iload_n 3, 1) := by decide +kernel
theorem dX11_tell_17 : decode cX11_tell 17 = .ok (.ifCond .lt 17, 3) := by decide +kernel
theorem dX11_tell_20 : decode cX11_tell 20 = .ok (.iload_n 3, 1) := by decide +kernel
theorem dX11_tell_21 : decode cX11_tell 21 = .ok (.bipush 24, 2) := by decide +kernel
theorem dX11_tell_23 : decode cX11_tell 23 = .ok (.if_icmp .gt 11, 3) := by decide +kernel
theorem dX11_tell_26 : decode cX11_tell 26 = .ok (.iload 4, 2) := by decide +kernel
theorem dX11_tell_28 : decode cX11_tell 28 = .ok (.invokestatic 235, 3) := by decide +kernel
theorem dX11_tell_31 : decode cX11_tell 31 = .ok (.ifCond .ne 5, 3) := by decide +kernel
theorem dX11_tell_34 : decode cX11_tell 34 = .ok (.iconst (-1), 1) := by decide +kernel
theorem dX11_tell_35 : decode cX11_tell 35 = .ok (.ireturn, 1) := by decide +kernel
theorem dX11_tell_36 : decode cX11_tell 36 = .ok (.aload_n 0, 1) := by decide +kernel
theorem dX11_tell_37 : decode cX11_tell 37 = .ok (.getfield 72, 3) := by decide +kernel
theorem dX11_tell_40 : decode cX11_tell 40 = .ok (.iload 5, 2) := by decide +kernel
theorem dX11_tell_42 : decode cX11_tell 42 = .ok (.iload_n 3, 1) := by decide +kernel
theorem dX11_tell_43 : decode cX11_tell 43 = .ok (.iload 4, 2) := by decide +kernel
theorem dX11_tell_45 : decode cX11_tell 45 = .ok (.invokevirtual 274, 3) := by decide +kernel
theorem dX11_tell_48 : decode cX11_tell 48 = .ok (.ireturn, 1) := by decide +kernel
theorem dX11_forget_0 : decode cX11_forget 0 = .ok (.aload_n 0, 1) := by decide +kernel
theorem dX11_forget_1 : decode cX11_forget 1 = .ok (.getfield 72, 3) := by decide +kernel
theorem dX11_forget_4 : decode cX11_forget 4 = .ok (.getfield 278, 3) := by decide +kernel
theorem dX11_forget_7 : decode cX11_forget 7 = .ok (.istore_n 1, 1) := by decide +kernel
theorem dX11_forget_8 : decode cX11_forget 8 = .ok (.aload_n 0, 1) := by decide +kernel
theorem dX11_forget_9 : decode cX11_forget 9 = .ok (.getfield 72, 3) := by decide +kernel
theorem dX11_forget_12 : decode cX11_forget 12 = .ok (.iconst 0, 1) := by decide +kernel
theorem dX11_forget_13 : decode cX11_forget 13 = .ok (.putfield 278, 3) := by decide +kernel
theorem dX11_forget_16 : decode cX11_forget 16 = .ok (.iload_n 1, 1) := by decide +kernel
theorem dX11_forget_17 : decode cX11_forget 17 = .ok (.ireturn, 1) := by decide +kernel
theorem dX11_leaks_0 : decode cX11_leaks 0 = .ok (.aload_n 0, 1) := by decide +kernel
theorem dX11_leaks_1 : decode cX11_leaks 1 = .ok (.getfield 72, 3) := by decide +kernel
theorem dX11_leaks_4 : decode cX11_leaks 4 = .ok (.iload_n 1, 1) := by decide +kernel
theorem dX11_leaks_5 : decode cX11_leaks 5 = .ok (.invokevirtual 281, 3) := by decide +kernel
theorem dX11_leaks_8 : decode cX11_leaks 8 = .ok (.ifCond .eq 23, 3) := by decide +kernel
theorem dX11_leaks_11 : decode cX11_leaks 11 = .ok (.aload_n 0, 1) := by decide +kernel
theorem dX11_leaks_12 : decode cX11_leaks 12 = .ok (.getfield 72, 3) := by decide +kernel
theorem dX11_leaks_15 : decode cX11_leaks 15 = .ok (.aload_n 0, 1) := by decide +kernel
theorem dX11_leaks_16 : decode cX11_leaks 16 = .ok (.getfield 86, 3) := by decide +kernel
theorem dX11_leaks_19 : decode cX11_leaks 19 = .ok (.aload_n 0, 1) := by decide +kernel
theorem dX11_leaks_20 : decode cX11_leaks 20 = .ok (.getfield 40, 3) := by decide +kernel
theorem dX11_leaks_23 : decode cX11_leaks 23 = .ok (.iload_n 1, 1) := by decide +kernel
theorem dX11_leaks_24 : decode cX11_leaks 24 = .ok (.iconst 0, 1) := by decide +kernel
theorem dX11_leaks_25 : decode cX11_leaks 25 = .ok (.invokevirtual 284, 3) := by decide +kernel
theorem dX11_leaks_28 : decode cX11_leaks 28 = .ok (.goto 4, 3) := by decide +kernel
theorem dX11_leaks_31 : decode cX11_leaks 31 = .ok (.iconst (-1), 1) := by decide +kernel
theorem dX11_leaks_32 : decode cX11_leaks 32 = .ok (.ireturn, 1) := by decide +kernel
theorem dX11_sure_0 : decode cX11_sure 0 = .ok (.aload_n 0, 1) := by decide +kernel
theorem dX11_sure_1 : decode cX11_sure 1 = .ok (.getfield 72, 3) := by decide +kernel
theorem dX11_sure_4 : decode cX11_sure 4 = .ok (.iload_n 1, 1) := by decide +kernel
theorem dX11_sure_5 : decode cX11_sure 5 = .ok (.invokevirtual 281, 3) := by decide +kernel
theorem dX11_sure_8 : decode cX11_sure 8 = .ok (.ifCond .ne 5, 3) := by decide +kernel
theorem dX11_sure_11 : decode cX11_sure 11 = .ok (.iconst (-1), 1) := by decide +kernel
theorem dX11_sure_12 : decode cX11_sure 12 = .ok (.ireturn, 1) := by decide +kernel
theorem dX11_sure_13 : decode cX11_sure 13 = .ok (.aload_n 0, 1) := by decide +kernel
theorem dX11_sure_14 : decode cX11_sure 14 = .ok (.getfield 72, 3) := by decide +kernel
theorem dX11_sure_17 : decode cX11_sure 17 = .ok (.aload_n 0, 1) := by decide +kernel
theorem dX11_sure_18 : decode cX11_sure 18 = .ok (.getfield 86, 3) := by decide +kernel
theorem dX11_sure_21 : decode cX11_sure 21 = .ok (.aload_n 0, 1) := by decide +kernel
theorem dX11_sure_22 : decode cX11_sure 22 = .ok (.getfield 40, 3) := by decide +kernel
theorem dX11_sure_25 : decode cX11_sure 25 = .ok (.iload_n 1, 1) := by decide +kernel
theorem dX11_sure_26 : decode cX11_sure 26 = .ok (.iconst 0, 1) := by decide +kernel
theorem dX11_sure_27 : decode cX11_sure 27 = .ok (.invokevirtual 284, 3) := by decide +kernel
theorem dX11_sure_30 : decode cX11_sure 30 = .ok (.iconst 1, 1) := by decide +kernel
theorem dX11_sure_31 : decode cX11_sure 31 = .ok (.if_icmp .eq 6, 3) := by decide +kernel
theorem dX11_sure_34 : decode cX11_sure 34 = .ok (.bipush (-2), 2) := by decide +kernel
theorem dX11_sure_36 : decode cX11_sure 36 = .ok (.ireturn, 1) := by decide +kernel
theorem dX11_sure_37 : decode cX11_sure 37 = .ok (.aload_n 0, 1) := by decide +kernel
theorem dX11_sure_38 : decode cX11_sure 38 = .ok (.getfield 72, 3) := by decide +kernel
theorem dX11_sure_41 : decode cX11_sure 41 = .ok (.invokevirtual 288, 3) := by decide +kernel
theorem dX11_sure_44 : decode cX11_sure 44 = .ok (.istore_n 2, 1) := by decide +kernel
theorem dX11_sure_45 : decode cX11_sure 45 = .ok (.iload_n 2, 1) := by decide +kernel
theorem dX11_sure_46 : decode cX11_sure 46 = .ok (.bipush 40, 2) := by decide +kernel
theorem dX11_sure_48 : decode cX11_sure 48 = .ok (.if_icmp .ne 8, 3) := by decide +kernel
theorem dX11_sure_51 : decode cX11_sure 51 = .ok (.bipush 100, 2) := by decide +kernel
theorem dX11_sure_53 : decode cX11_sure 53 = .ok (.goto 7, 3) := by decide +kernel
theorem dX11_sure_56 : decode cX11_sure 56 = .ok (.iload_n 2, 1) := by decide +kernel
theorem dX11_sure_57 : decode cX11_sure 57 = .ok (.invokestatic 232, 3) := by decide +kernel
theorem dX11_sure_60 : decode cX11_sure 60 = .ok (.ireturn, 1) := by decide +kernel
theorem dX11_ask_0 : decode cX11_ask 0 = .ok (.aload_n 0, 1) := by decide +kernel
theorem dX11_ask_1 : decode cX11_ask 1 = .ok (.getfield 72, 3) := by decide +kernel
theorem dX11_ask_4 : decode cX11_ask 4 = .ok (.iload_n 1, 1) := by decide +kernel
theorem dX11_ask_5 : decode cX11_ask 5 = .ok (.invokevirtual 281, 3) := by decide +kernel
theorem dX11_ask_8 : decode cX11_ask 8 = .ok (.ifCond .eq 13, 3) := by decide +kernel
theorem dX11_ask_11 : decode cX11_ask 11 = .ok (.iload_n 2, 1) := by decide +kernel
theorem dX11_ask_12 : decode cX11_ask 12 = .ok (.ifCond .lt 9, 3) := by decide +kernel
theorem dX11_ask_15 : decode cX11_ask 15 = .ok (.iload_n 2, 1) := by decide +kernel
theorem dX11_ask_16 : decode cX11_ask 16 = .ok (.bipush 24, 2) := by decide +kernel
theorem dX11_ask_18 : decode cX11_ask 18 = .ok (.if_icmp .le 5, 3) := by decide +kernel
theorem dX11_ask_21 : decode cX11_ask 21 = .ok (.iconst (-1), 1) := by decide +kernel
theorem dX11_ask_22 : decode cX11_ask 22 = .ok (.ireturn, 1) := by decide +kernel
theorem dX11_ask_23 : decode cX11_ask 23 = .ok (.aload_n 0, 1) := by decide +kernel
theorem dX11_ask_24 : decode cX11_ask 24 = .ok (.getfield 72, 3) := by decide +kernel
theorem dX11_ask_27 : decode cX11_ask 27 = .ok (.aload_n 0, 1) := by decide +kernel
theorem dX11_ask_28 : decode cX11_ask 28 = .ok (.getfield 86, 3) := by decide +kernel
theorem dX11_ask_31 : decode cX11_ask 31 = .ok (.aload_n 0, 1) := by decide +kernel
theorem dX11_ask_32 : decode cX11_ask 32 = .ok (.getfield 40, 3) := by decide +kernel
theorem dX11_ask_35 : decode cX11_ask 35 = .ok (.iload_n 1, 1) := by decide +kernel
theorem dX11_ask_36 : decode cX11_ask 36 = .ok (.iload_n 2, 1) := by decide +kernel
theorem dX11_ask_37 : decode cX11_ask 37 = .ok (.invokevirtual 284, 3) := by decide +kernel
theorem dX11_ask_40 : decode cX11_ask 40 = .ok (.ifCond .ne 6, 3) := by decide +kernel
theorem dX11_ask_43 : decode cX11_ask 43 = .ok (.bipush (-2), 2) := by decide +kernel
theorem dX11_ask_45 : decode cX11_ask 45 = .ok (.ireturn, 1) := by decide +kernel
theorem dX11_ask_46 : decode cX11_ask 46 = .ok (.aload_n 0, 1) := by decide +kernel
theorem dX11_ask_47 : decode cX11_ask 47 = .ok (.getfield 72, 3) := by decide +kernel
theorem dX11_ask_50 : decode cX11_ask 50 = .ok (.aload_n 0, 1) := by decide +kernel
theorem dX11_ask_51 : decode cX11_ask 51 = .ok (.getfield 86, 3) := by decide +kernel
theorem dX11_ask_54 : decode cX11_ask 54 = .ok (.invokevirtual 291, 3) := by decide +kernel
theorem dX11_ask_57 : decode cX11_ask 57 = .ok (.istore_n 3, 1) := by decide +kernel
theorem dX11_ask_58 : decode cX11_ask 58 = .ok (.iload_n 3, 1) := by decide +kernel
theorem dX11_ask_59 : decode cX11_ask 59 = .ok (.ifCond .ge 8, 3) := by decide +kernel
theorem dX11_ask_62 : decode cX11_ask 62 = .ok (.bipush (-2), 2) := by decide +kernel
theorem dX11_ask_64 : decode cX11_ask 64 = .ok (.goto 7, 3) := by decide +kernel
theorem dX11_ask_67 : decode cX11_ask 67 = .ok (.iload_n 3, 1) := by decide +kernel
theorem dX11_ask_68 : decode cX11_ask 68 = .ok (.invokestatic 232, 3) := by decide +kernel
theorem dX11_ask_71 : decode cX11_ask 71 = .ok (.ireturn, 1) := by decide +kernel
theorem dX11_hold_0 : decode cX11_hold 0 = .ok (.iload_n 1, 1) := by decide +kernel
theorem dX11_hold_1 : decode cX11_hold 1 = .ok (.ifCond .lt 8, 3) := by decide +kernel
theorem dX11_hold_4 : decode cX11_hold 4 = .ok (.iload_n 1, 1) := by decide +kernel
theorem dX11_hold_5 : decode cX11_hold 5 = .ok (.iconst 3, 1) := by decide +kernel
theorem dX11_hold_6 : decode cX11_hold 6 = .ok (.if_icmp .lt 5, 3) := by decide +kernel
theorem dX11_hold_9 : decode cX11_hold 9 = .ok (.iconst 0, 1) := by decide +kernel
theorem dX11_hold_10 : decode cX11_hold 10 = .ok (.ireturn, 1) := by decide +kernel
theorem dX11_hold_11 : decode cX11_hold 11 = .ok (.aload_n 0, 1) := by decide +kernel
theorem dX11_hold_12 : decode cX11_hold 12 = .ok (.getfield 61, 3) := by decide +kernel
theorem dX11_hold_15 : decode cX11_hold 15 = .ok (.iload_n 1, 1) := by decide +kernel
theorem dX11_hold_16 : decode cX11_hold 16 = .ok (.aaload, 1) := by decide +kernel
theorem dX11_hold_17 : decode cX11_hold 17 = .ok (.aload_n 0, 1) := by decide +kernel
theorem dX11_hold_18 : decode cX11_hold 18 = .ok (.getfield 47, 3) := by decide +kernel
theorem dX11_hold_21 : decode cX11_hold 21 = .ok (.invokevirtual 205, 3) := by decide +kernel
theorem dX11_hold_24 : decode cX11_hold 24 = .ok (.aload_n 0, 1) := by decide +kernel
theorem dX11_hold_25 : decode cX11_hold 25 = .ok (.getfield 65, 3) := by decide +kernel
theorem dX11_hold_28 : decode cX11_hold 28 = .ok (.iload_n 1, 1) := by decide +kernel
theorem dX11_hold_29 : decode cX11_hold 29 = .ok (.iconst 1, 1) := by decide +kernel
theorem dX11_hold_30 : decode cX11_hold 30 = .ok (.bastore, 1) := by decide +kernel
theorem dX11_hold_31 : decode cX11_hold 31 = .ok (.iconst 1, 1) := by decide +kernel
theorem dX11_hold_32 : decode cX11_hold 32 = .ok (.ireturn, 1) := by decide +kernel
theorem dX11_restore_0 : decode cX11_restore 0 = .ok (.iload_n 1, 1) := by decide +kernel
theorem dX11_restore_1 : decode cX11_restore 1 = .ok (.ifCond .lt 17, 3) := by decide +kernel
theorem dX11_restore_4 : decode cX11_restore 4 = .ok (.iload_n 1, 1) := by decide +kernel
theorem dX11_restore_5 : decode cX11_restore 5 = .ok (.iconst 3, 1) := by decide +kernel
theorem dX11_restore_6 : decode cX11_restore 6 = .ok (.if_icmp .ge 12, 3) := by decide +kernel
theorem dX11_restore_9 : decode cX11_restore 9 = .ok (.aload_n 0, 1) := by decide +kernel
theorem dX11_restore_10 : decode cX11_restore 10 = .ok (.getfield 65, 3) := by decide +kernel
theorem dX11_restore_13 : decode cX11_restore 13 = .ok (.iload_n 1, 1) := by decide +kernel
theorem dX11_restore_14 : decode cX11_restore 14 = .ok (.baload, 1) := by decide +kernel
theorem dX11_restore_15 : decode cX11_restore 15 = .ok (.ifCond .ne 5, 3) := by decide +kernel
theorem dX11_restore_18 : decode cX11_restore 18 = .ok (.iconst 0, 1) := by decide +kernel
theorem dX11_restore_19 : decode cX11_restore 19 = .ok (.ireturn, 1) := by decide +kernel
theorem dX11_restore_20 : decode cX11_restore 20 = .ok (.aload_n 0, 1) := by decide +kernel
theorem dX11_restore_21 : decode cX11_restore 21 = .ok (.getfield 47, 3) := by decide +kernel
theorem dX11_restore_24 : decode cX11_restore 24 = .ok (.aload_n 0, 1) := by decide +kernel
theorem dX11_restore_25 : decode cX11_restore 25 = .ok (.getfield 61, 3) := by decide +kernel
theorem dX11_restore_28 : decode cX11_restore 28 = .ok (.iload_n 1, 1) := by decide +kernel
theorem dX11_restore_29 : decode cX11_restore 29 = .ok (.aaload, 1) := by decide +kernel
theorem dX11_restore_30 : decode cX11_restore 30 = .ok (.invokevirtual 205, 3) := by decide +kernel
theorem dX11_restore_33 : decode cX11_restore 33 = .ok (.aload_n 0, 1) := by decide +kernel
theorem dX11_restore_34 : decode cX11_restore 34 = .ok (.getfield 57, 3) := by decide +kernel
theorem dX11_restore_37 : decode cX11_restore 37 = .ok (.invokevirtual 295, 3) := by decide +kernel
theorem dX11_restore_40 : decode cX11_restore 40 = .ok (.iconst 1, 1) := by decide +kernel
theorem dX11_restore_41 : decode cX11_restore 41 = .ok (.ireturn, 1) := by decide +kernel
theorem dX11_count_0 : decode cX11_count 0 = .ok (.iload_n 1, 1) := by decide +kernel
theorem dX11_count_1 : decode cX11_count 1 = .ok (.tableswitch 268 0 17 #[87, 95, 103, 111, 119, 127, 135, 146, 157, 165, 173, 181, 186, 220, 228, 238, 246, 257], 87) := by decide +kernel
theorem dX11_count_88 : decode cX11_count 88 = .ok (.aload_n 0, 1) := by decide +kernel
theorem dX11_count_89 : decode cX11_count 89 = .ok (.getfield 86, 3) := by decide +kernel
theorem dX11_count_92 : decode cX11_count 92 = .ok (.getfield 298, 3) := by decide +kernel
theorem dX11_count_95 : decode cX11_count 95 = .ok (.ireturn, 1) := by decide +kernel
theorem dX11_count_96 : decode cX11_count 96 = .ok (.aload_n 0, 1) := by decide +kernel
theorem dX11_count_97 : decode cX11_count 97 = .ok (.getfield 86, 3) := by decide +kernel
theorem dX11_count_100 : decode cX11_count 100 = .ok (.getfield 301, 3) := by decide +kernel
theorem dX11_count_103 : decode cX11_count 103 = .ok (.ireturn, 1) := by decide +kernel
theorem dX11_count_104 : decode cX11_count 104 = .ok (.aload_n 0, 1) := by decide +kernel
theorem dX11_count_105 : decode cX11_count 105 = .ok (.getfield 86, 3) := by decide +kernel
theorem dX11_count_108 : decode cX11_count 108 = .ok (.getfield 271, 3) := by decide +kernel
theorem dX11_count_111 : decode cX11_count 111 = .ok (.ireturn, 1) := by decide +kernel
theorem dX11_count_112 : decode cX11_count 112 = .ok (.aload_n 0, 1) := by decide +kernel
theorem dX11_count_113 : decode cX11_count 113 = .ok (.getfield 86, 3) := by decide +kernel
theorem dX11_count_116 : decode cX11_count 116 = .ok (.getfield 304, 3) := by decide +kernel
theorem dX11_count_119 : decode cX11_count 119 = .ok (.ireturn, 1) := by decide +kernel
theorem dX11_count_120 : decode cX11_count 120 = .ok (.aload_n 0, 1) := by decide +kernel
theorem dX11_count_121 : decode cX11_count 121 = .ok (.getfield 47, 3) := by decide +kernel
theorem dX11_count_124 : decode cX11_count 124 = .ok (.getfield 137, 3) := by decide +kernel
theorem dX11_count_127 : decode cX11_count 127 = .ok (.ireturn, 1) := by decide +kernel
theorem dX11_count_128 : decode cX11_count 128 = .ok (.aload_n 0, 1) := by decide +kernel
theorem dX11_count_129 : decode cX11_count 129 = .ok (.getfield 47, 3) := by decide +kernel
theorem dX11_count_132 : decode cX11_count 132 = .ok (.invokevirtual 222, 3) := by decide +kernel
theorem dX11_count_135 : decode cX11_count 135 = .ok (.ireturn, 1) := by decide +kernel
theorem dX11_count_136 : decode cX11_count 136 = .ok (.aload_n 0, 1) := by decide +kernel
theorem dX11_count_137 : decode cX11_count 137 = .ok (.getfield 47, 3) := by decide +kernel
theorem dX11_count_140 : decode cX11_count 140 = .ok (.getfield 156, 3) := by decide +kernel
theorem dX11_count_143 : decode cX11_count 143 = .ok (.invokestatic 307, 3) := by decide +kernel
theorem dX11_count_146 : decode cX11_count 146 = .ok (.ireturn, 1) := by decide +kernel
theorem dX11_count_147 : decode cX11_count 147 = .ok (.aload_n 0, 1) := by decide +kernel
theorem dX11_count_148 : decode cX11_count 148 = .ok (.getfield 47, 3) := by decide +kernel
theorem dX11_count_151 : decode cX11_count 151 = .ok (.getfield 169, 3) := by decide +kernel
theorem dX11_count_154 : decode cX11_count 154 = .ok (.invokestatic 307, 3) := by decide +kernel
theorem dX11_count_157 : decode cX11_count 157 = .ok (.ireturn, 1) := by decide +kernel
theorem dX11_count_158 : decode cX11_count 158 = .ok (.aload_n 0, 1) := by decide +kernel
theorem dX11_count_159 : decode cX11_count 159 = .ok (.getfield 12, 3) := by decide +kernel
theorem dX11_count_162 : decode cX11_count 162 = .ok (.getfield 97, 3) := by decide +kernel
theorem dX11_count_165 : decode cX11_count 165 = .ok (.ireturn, 1) := by decide +kernel
theorem dX11_count_166 : decode cX11_count 166 = .ok (.aload_n 0, 1) := by decide +kernel
theorem dX11_count_167 : decode cX11_count 167 = .ok (.getfield 57, 3) := by decide +kernel
theorem dX11_count_170 : decode cX11_count 170 = .ok (.getfield 311, 3) := by decide +kernel
theorem dX11_count_173 : decode cX11_count 173 = .ok (.ireturn, 1) := by decide +kernel
theorem dX11_count_174 : decode cX11_count 174 = .ok (.aload_n 0, 1) := by decide +kernel
theorem dX11_count_175 : decode cX11_count 175 = .ok (.getfield 72, 3) := by decide +kernel
theorem dX11_count_178 : decode cX11_count 178 = .ok (.getfield 278, 3) := by decide +kernel
theorem dX11_count_181 : decode cX11_count 181 = .ok (.ireturn, 1) := by decide +kernel
theorem dX11_count_182 : decode cX11_count 182 = .ok (.aload_n 0, 1) := by decide +kernel
theorem dX11_count_183 : decode cX11_count 183 = .ok (.invokevirtual 312, 3) := by decide +kernel
theorem dX11_count_186 : decode cX11_count 186 = .ok (.ireturn, 1) := by decide +kernel
theorem dX11_count_187 : decode cX11_count 187 = .ok (.aload_n 0, 1) := by decide +kernel
theorem dX11_count_188 : decode cX11_count 188 = .ok (.getfield 40, 3) := by decide +kernel
theorem dX11_count_191 : decode cX11_count 191 = .ok (.aload_n 0, 1) := by decide +kernel
theorem dX11_count_192 : decode cX11_count 192 = .ok (.getfield 86, 3) := by decide +kernel
theorem dX11_count_195 : decode cX11_count 195 = .ok (.aload_n 0, 1) := by decide +kernel
theorem dX11_count_196 : decode cX11_count 196 = .ok (.getfield 86, 3) := by decide +kernel
theorem dX11_count_199 : decode cX11_count 199 = .ok (.getfield 208, 3) := by decide +kernel
theorem dX11_count_202 : decode cX11_count 202 = .ok (.aload_n 0, 1) := by decide +kernel
theorem dX11_count_203 : decode cX11_count 203 = .ok (.getfield 47, 3) := by decide +kernel
theorem dX11_count_206 : decode cX11_count 206 = .ok (.getfield 137, 3) := by decide +kernel
theorem dX11_count_209 : decode cX11_count 209 = .ok (.invokevirtual 315, 3) := by decide +kernel
theorem dX11_count_212 : decode cX11_count 212 = .ok (.ifCond .eq 7, 3) := by decide +kernel
theorem dX11_count_215 : decode cX11_count 215 = .ok (.iconst 1, 1) := by decide +kernel
theorem dX11_count_216 : decode cX11_count 216 = .ok (.goto 4, 3) := by decide +kernel
theorem dX11_count_219 : decode cX11_count 219 = .ok (.iconst 0, 1) := by decide +kernel
theorem dX11_count_220 : decode cX11_count 220 = .ok (.ireturn, 1) := by decide +kernel
theorem dX11_count_221 : decode cX11_count 221 = .ok (.aload_n 0, 1) := by decide +kernel
theorem dX11_count_222 : decode cX11_count 222 = .ok (.getfield 86, 3) := by decide +kernel
theorem dX11_count_225 : decode cX11_count 225 = .ok (.getfield 319, 3) := by decide +kernel
theorem dX11_count_228 : decode cX11_count 228 = .ok (.ireturn, 1) := by decide +kernel
theorem dX11_count_229 : decode cX11_count 229 = .ok (.aload_n 0, 1) := by decide +kernel
theorem dX11_count_230 : decode cX11_count 230 = .ok (.getfield 47, 3) := by decide +kernel
theorem dX11_count_233 : decode cX11_count 233 = .ok (.bipush 9, 2) := by decide +kernel
theorem dX11_count_235 : decode cX11_count 235 = .ok (.invokevirtual 159, 3) := by decide +kernel
theorem dX11_count_238 : decode cX11_count 238 = .ok (.ireturn, 1) := by decide +kernel
theorem dX11_count_239 : decode cX11_count 239 = .ok (.aload_n 0, 1) := by decide +kernel
theorem dX11_count_240 : decode cX11_count 240 = .ok (.getfield 47, 3) := by decide +kernel
theorem dX11_count_243 : decode cX11_count 243 = .ok (.invokevirtual 322, 3) := by decide +kernel
theorem dX11_count_246 : decode cX11_count 246 = .ok (.ireturn, 1) := by decide +kernel
theorem dX11_count_247 : decode cX11_count 247 = .ok (.aload_n 0, 1) := by decide +kernel
theorem dX11_count_248 : decode cX11_count 248 = .ok (.getfield 47, 3) := by decide +kernel
theorem dX11_count_251 : decode cX11_count 251 = .ok (.getfield 137, 3) := by decide +kernel
theorem dX11_count_254 : decode cX11_count 254 = .ok (.bipush 24, 2) := by decide +kernel
theorem dX11_count_256 : decode cX11_count 256 = .ok (.idiv, 1) := by decide +kernel
theorem dX11_count_257 : decode cX11_count 257 = .ok (.ireturn, 1) := by decide +kernel
theorem dX11_count_258 : decode cX11_count 258 = .ok (.aload_n 0, 1) := by decide +kernel
theorem dX11_count_259 : decode cX11_count 259 = .ok (.getfield 86, 3) := by decide +kernel
theorem dX11_count_262 : decode cX11_count 262 = .ok (.getfield 153, 3) := by decide +kernel
theorem dX11_count_265 : decode cX11_count 265 = .ok (.invokestatic 307, 3) := by decide +kernel
theorem dX11_count_268 : decode cX11_count 268 = .ok (.ireturn, 1) := by decide +kernel
theorem dX11_count_269 : decode cX11_count 269 = .ok (.iconst (-1), 1) := by decide +kernel
theorem dX11_count_270 : decode cX11_count 270 = .ok (.ireturn, 1) := by decide +kernel
theorem dX11_beginDraft_0 : decode cX11_beginDraft 0 = .ok (.aload_n 0, 1) := by decide +kernel
theorem dX11_beginDraft_1 : decode cX11_beginDraft 1 = .ok (.getfield 86, 3) := by decide +kernel
theorem dX11_beginDraft_4 : decode cX11_beginDraft 4 = .ok (.astore_n 1, 1) := by decide +kernel
theorem dX11_beginDraft_5 : decode cX11_beginDraft 5 = .ok (.aload_n 0, 1) := by decide +kernel
theorem dX11_beginDraft_6 : decode cX11_beginDraft 6 = .ok (.aload_n 0, 1) := by decide +kernel
theorem dX11_beginDraft_7 : decode cX11_beginDraft 7 = .ok (.getfield 90, 3) := by decide +kernel
theorem dX11_beginDraft_10 : decode cX11_beginDraft 10 = .ok (.putfield 86, 3) := by decide +kernel
theorem dX11_beginDraft_13 : decode cX11_beginDraft 13 = .ok (.aload_n 0, 1) := by decide +kernel
theorem dX11_beginDraft_14 : decode cX11_beginDraft 14 = .ok (.aload_n 1, 1) := by decide +kernel
theorem dX11_beginDraft_15 : decode cX11_beginDraft 15 = .ok (.putfield 90, 3) := by decide +kernel
theorem dX11_beginDraft_18 : decode cX11_beginDraft 18 = .ok (.aload_n 0, 1) := by decide +kernel
theorem dX11_beginDraft_19 : decode cX11_beginDraft 19 = .ok (.getfield 47, 3) := by decide +kernel
theorem dX11_beginDraft_22 : decode cX11_beginDraft 22 = .ok (.aload_n 0, 1) := by decide +kernel
theorem dX11_beginDraft_23 : decode cX11_beginDraft 23 = .ok (.getfield 86, 3) := by decide +kernel
theorem dX11_beginDraft_26 : decode cX11_beginDraft 26 = .ok (.invokevirtual 93, 3) := by decide +kernel
theorem dX11_beginDraft_29 : decode cX11_beginDraft 29 = .ok (.aload_n 0, 1) := by decide +kernel
theorem dX11_beginDraft_30 : decode cX11_beginDraft 30 = .ok (.getfield 57, 3) := by decide +kernel
theorem dX11_beginDraft_33 : decode cX11_beginDraft 33 = .ok (.invokevirtual 295, 3) := by decide +kernel
theorem dX11_beginDraft_36 : decode cX11_beginDraft 36 = .ok (.aload_n 0, 1) := by decide +kernel
theorem dX11_beginDraft_37 : decode cX11_beginDraft 37 = .ok (.getfield 72, 3) := by decide +kernel
theorem dX11_beginDraft_40 : decode cX11_beginDraft 40 = .ok (.iconst 0, 1) := by decide +kernel
theorem dX11_beginDraft_41 : decode cX11_beginDraft 41 = .ok (.putfield 278, 3) := by decide +kernel
theorem dX11_beginDraft_44 : decode cX11_beginDraft 44 = .ok (.iconst 0, 1) := by decide +kernel
theorem dX11_beginDraft_45 : decode cX11_beginDraft 45 = .ok (.istore_n 2, 1) := by decide +kernel
theorem dX11_beginDraft_46 : decode cX11_beginDraft 46 = .ok (.iload_n 2, 1) := by decide +kernel
theorem dX11_beginDraft_47 : decode cX11_beginDraft 47 = .ok (.iconst 3, 1) := by decide +kernel
theorem dX11_beginDraft_48 : decode cX11_beginDraft 48 = .ok (.if_icmp .ge 16, 3) := by decide +kernel
theorem dX11_beginDraft_51 : decode cX11_beginDraft 51 = .ok (.aload_n 0, 1) := by decide +kernel
theorem dX11_beginDraft_52 : decode cX11_beginDraft 52 = .ok (.getfield 65, 3) := by decide +kernel
theorem dX11_beginDraft_55 : decode cX11_beginDraft 55 = .ok (.iload_n 2, 1) := by decide +kernel
theorem dX11_beginDraft_56 : decode cX11_beginDraft 56 = .ok (.iconst 0, 1) := by decide +kernel
theorem dX11_beginDraft_57 : decode cX11_beginDraft 57 = .ok (.bastore, 1) := by decide +kernel
theorem dX11_beginDraft_58 : decode cX11_beginDraft 58 = .ok (.iinc 2 1, 3) := by decide +kernel
theorem dX11_beginDraft_61 : decode cX11_beginDraft 61 = .ok (.goto (-15), 3) := by decide +kernel
theorem dX11_beginDraft_64 : decode cX11_beginDraft 64 = .ok (.return_, 1) := by decide +kernel
theorem dX11_passLater_0 : decode cX11_passLater 0 = .ok (.iconst 0, 1) := by decide +kernel
theorem dX11_passLater_1 : decode cX11_passLater 1 = .ok (.istore_n 3, 1) := by decide +kernel
theorem dX11_passLater_2 : decode cX11_passLater 2 = .ok (.iload_n 3, 1) := by decide +kernel
theorem dX11_passLater_3 : decode cX11_passLater 3 = .ok (.iload_n 1, 1) := by decide +kernel
theorem dX11_passLater_4 : decode cX11_passLater 4 = .ok (.if_icmp .ge 26, 3) := by decide +kernel
theorem dX11_passLater_7 : decode cX11_passLater 7 = .ok (.aload_n 0, 1) := by decide +kernel
theorem dX11_passLater_8 : decode cX11_passLater 8 = .ok (.getfield 40, 3) := by decide +kernel
theorem dX11_passLater_11 : decode cX11_passLater 11 = .ok (.aload_n 0, 1) := by decide +kernel
theorem dX11_passLater_12 : decode cX11_passLater 12 = .ok (.getfield 86, 3) := by decide +kernel
theorem dX11_passLater_15 : decode cX11_passLater 15 = .ok (.aload_n 0, 1) := by decide +kernel
theorem dX11_passLater_16 : decode cX11_passLater 16 = .ok (.getfield 51, 3) := by decide +kernel
theorem dX11_passLater_19 : decode cX11_passLater 19 = .ok (.iload_n 2, 1) := by decide +kernel
theorem dX11_passLater_20 : decode cX11_passLater 20 = .ok (.iconst (-1), 1) := by decide +kernel
theorem dX11_passLater_21 : decode cX11_passLater 21 = .ok (.invokevirtual 238, 3) := by decide +kernel
theorem dX11_passLater_24 : decode cX11_passLater 24 = .ok (.iinc 3 1, 3) := by decide +kernel
theorem dX11_passLater_27 : decode cX11_passLater 27 = .ok (.goto (-25), 3) := by decide +kernel
theorem dX11_passLater_30 : decode cX11_passLater 30 = .ok (.return_, 1) := by decide +kernel
theorem dX11_areTwoHoldings_0 : decode cX11_areTwoHoldings 0 = .ok (.aload_n 0, 1) := by decide +kernel
theorem dX11_areTwoHoldings_1 : decode cX11_areTwoHoldings 1 = .ok (.getfield 86, 3) := by decide +kernel
theorem dX11_areTwoHoldings_4 : decode cX11_areTwoHoldings 4 = .ok (.iload_n 1, 1) := by decide +kernel
theorem dX11_areTwoHoldings_5 : decode cX11_areTwoHoldings 5 = .ok (.invokevirtual 148, 3) := by decide +kernel
theorem dX11_areTwoHoldings_8 : decode cX11_areTwoHoldings 8 = .ok (.ifCond .eq 23, 3) := by decide +kernel
theorem dX11_areTwoHoldings_11 : decode cX11_areTwoHoldings 11 = .ok (.aload_n 0, 1) := by decide +kernel
theorem dX11_areTwoHoldings_12 : decode cX11_areTwoHoldings 12 = .ok (.getfield 86, 3) := by decide +kernel
theorem dX11_areTwoHoldings_15 : decode cX11_areTwoHoldings 15 = .ok (.iload_n 2, 1) := by decide +kernel
theorem dX11_areTwoHoldings_16 : decode cX11_areTwoHoldings 16 = .ok (.invokevirtual 148, 3) := by decide +kernel
theorem dX11_areTwoHoldings_19 : decode cX11_areTwoHoldings 19 = .ok (.ifCond .eq 12, 3) := by decide +kernel
theorem dX11_areTwoHoldings_22 : decode cX11_areTwoHoldings 22 = .ok (.iload_n 1, 1) := by decide +kernel
theorem dX11_areTwoHoldings_23 : decode cX11_areTwoHoldings 23 = .ok (.iload_n 2, 1) := by decide +kernel
theorem dX11_areTwoHoldings_24 : decode cX11_areTwoHoldings 24 = .ok (.if_icmp .eq 7, 3) := by decide +kernel
theorem dX11_areTwoHoldings_27 : decode cX11_areTwoHoldings 27 = .ok (.iconst 1, 1) := by decide +kernel
theorem dX11_areTwoHoldings_28 : decode cX11_areTwoHoldings 28 = .ok (.goto 4, 3) := by decide +kernel
theorem dX11_areTwoHoldings_31 : decode cX11_areTwoHoldings 31 = .ok (.iconst 0, 1) := by decide +kernel
theorem dX11_areTwoHoldings_32 : decode cX11_areTwoHoldings 32 = .ok (.ireturn, 1) := by decide +kernel
theorem dX11_isOver_0 : decode cX11_isOver 0 = .ok (.aload_n 0, 1) := by decide +kernel
theorem dX11_isOver_1 : decode cX11_isOver 1 = .ok (.getfield 86, 3) := by decide +kernel
theorem dX11_isOver_4 : decode cX11_isOver 4 = .ok (.iload_n 1, 1) := by decide +kernel
theorem dX11_isOver_5 : decode cX11_isOver 5 = .ok (.invokevirtual 148, 3) := by decide +kernel
theorem dX11_isOver_8 : decode cX11_isOver 8 = .ok (.ifCond .eq 27, 3) := by decide +kernel
theorem dX11_isOver_11 : decode cX11_isOver 11 = .ok (.aload_n 0, 1) := by decide +kernel
theorem dX11_isOver_12 : decode cX11_isOver 12 = .ok (.getfield 47, 3) := by decide +kernel
theorem dX11_isOver_15 : decode cX11_isOver 15 = .ok (.iload_n 1, 1) := by decide +kernel
theorem dX11_isOver_16 : decode cX11_isOver 16 = .ok (.invokevirtual 163, 3) := by decide +kernel
theorem dX11_isOver_19 : decode cX11_isOver 19 = .ok (.aload_n 0, 1) := by decide +kernel
theorem dX11_isOver_20 : decode cX11_isOver 20 = .ok (.getfield 86, 3) := by decide +kernel
theorem dX11_isOver_23 : decode cX11_isOver 23 = .ok (.getfield 153, 3) := by decide +kernel
theorem dX11_isOver_26 : decode cX11_isOver 26 = .ok (.iload_n 1, 1) := by decide +kernel
theorem dX11_isOver_27 : decode cX11_isOver 27 = .ok (.iaload, 1) := by decide +kernel
theorem dX11_isOver_28 : decode cX11_isOver 28 = .ok (.if_icmp .le 7, 3) := by decide +kernel
theorem dX11_isOver_31 : decode cX11_isOver 31 = .ok (.iconst 1, 1) := by decide +kernel
theorem dX11_isOver_32 : decode cX11_isOver 32 = .ok (.goto 4, 3) := by decide +kernel
theorem dX11_isOver_35 : decode cX11_isOver 35 = .ok (.iconst 0, 1) := by decide +kernel
theorem dX11_isOver_36 : decode cX11_isOver 36 = .ok (.ireturn, 1) := by decide +kernel
theorem dX11_isServed_0 : decode cX11_isServed 0 = .ok (.aload_n 0, 1) := by decide +kernel
theorem dX11_isServed_1 : decode cX11_isServed 1 = .ok (.getfield 86, 3) := by decide +kernel
theorem dX11_isServed_4 : decode cX11_isServed 4 = .ok (.iload_n 2, 1) := by decide +kernel
theorem dX11_isServed_5 : decode cX11_isServed 5 = .ok (.invokevirtual 175, 3) := by decide +kernel
theorem dX11_isServed_8 : decode cX11_isServed 8 = .ok (.ifCond .ne 5, 3) := by decide +kernel
theorem dX11_isServed_11 : decode cX11_isServed 11 = .ok (.iconst 0, 1) := by decide +kernel
theorem dX11_isServed_12 : decode cX11_isServed 12 = .ok (.ireturn, 1) := by decide +kernel
theorem dX11_isServed_13 : decode cX11_isServed 13 = .ok (.aload_n 0, 1) := by decide +kernel
theorem dX11_isServed_14 : decode cX11_isServed 14 = .ok (.getfield 86, 3) := by decide +kernel
theorem dX11_isServed_17 : decode cX11_isServed 17 = .ok (.iload_n 2, 1) := by decide +kernel
theorem dX11_isServed_18 : decode cX11_isServed 18 = .ok (.aload_n 1, 1) := by decide +kernel
theorem dX11_isServed_19 : decode cX11_isServed 19 = .ok (.getfield 137, 3) := by decide +kernel
theorem dX11_isServed_22 : decode cX11_isServed 22 = .ok (.invokevirtual 190, 3) := by decide +kernel
theorem dX11_isServed_25 : decode cX11_isServed 25 = .ok (.ifCond .eq 28, 3) := by decide +kernel
theorem dX11_isServed_28 : decode cX11_isServed 28 = .ok (.aload_n 1, 1) := by decide +kernel
theorem dX11_isServed_29 : decode cX11_isServed 29 = .ok (.aload_n 0, 1) := by decide +kernel
theorem dX11_isServed_30 : decode cX11_isServed 30 = .ok (.getfield 86, 3) := by decide +kernel
theorem dX11_isServed_33 : decode cX11_isServed 33 = .ok (.getfield 178, 3) := by decide +kernel
theorem dX11_isServed_36 : decode cX11_isServed 36 = .ok (.iload_n 2, 1) := by decide +kernel
theorem dX11_isServed_37 : decode cX11_isServed 37 = .ok (.iaload, 1) := by decide +kernel
theorem dX11_isServed_38 : decode cX11_isServed 38 = .ok (.aload_n 0, 1) := by decide +kernel
theorem dX11_isServed_39 : decode cX11_isServed 39 = .ok (.getfield 86, 3) := by decide +kernel
theorem dX11_isServed_42 : decode cX11_isServed 42 = .ok (.getfield 187, 3) := by decide +kernel
theorem dX11_isServed_45 : decode cX11_isServed 45 = .ok (.iload_n 2, 1) := by decide +kernel
theorem dX11_isServed_46 : decode cX11_isServed 46 = .ok (.iaload, 1) := by decide +kernel
theorem dX11_isServed_47 : decode cX11_isServed 47 = .ok (.invokevirtual 325, 3) := by decide +kernel
theorem dX11_isServed_50 : decode cX11_isServed 50 = .ok (.ifCond .eq 7, 3) := by decide +kernel
theorem dX11_isServed_53 : decode cX11_isServed 53 = .ok (.iconst 1, 1) := by decide +kernel
theorem dX11_isServed_54 : decode cX11_isServed 54 = .ok (.goto 4, 3) := by decide +kernel
theorem dX11_isServed_57 : decode cX11_isServed 57 = .ok (.iconst 0, 1) := by decide +kernel
theorem dX11_isServed_58 : decode cX11_isServed 58 = .ok (.ireturn, 1) := by decide +kernel
theorem dX11_seenTowards_0 : decode cX11_seenTowards 0 = .ok (.iconst 0, 1) := by decide +kernel
theorem dX11_seenTowards_1 : decode cX11_seenTowards 1 = .ok (.istore 5, 2) := by decide +kernel
theorem dX11_seenTowards_3 : decode cX11_seenTowards 3 = .ok (.iconst 1, 1) := by decide +kernel
theorem dX11_seenTowards_4 : decode cX11_seenTowards 4 = .ok (.istore 6, 2) := by decide +kernel
theorem dX11_seenTowards_6 : decode cX11_seenTowards 6 = .ok (.iload 6, 2) := by decide +kernel
theorem dX11_seenTowards_8 : decode cX11_seenTowards 8 = .ok (.bipush 8, 2) := by decide +kernel
theorem dX11_seenTowards_10 : decode cX11_seenTowards 10 = .ok (.if_icmp .ge 69, 3) := by decide +kernel
theorem dX11_seenTowards_13 : decode cX11_seenTowards 13 = .ok (.aload_n 0, 1) := by decide +kernel
theorem dX11_seenTowards_14 : decode cX11_seenTowards 14 = .ok (.getfield 86, 3) := by decide +kernel
theorem dX11_seenTowards_17 : decode cX11_seenTowards 17 = .ok (.iload_n 1, 1) := by decide +kernel
theorem dX11_seenTowards_18 : decode cX11_seenTowards 18 = .ok (.iload 6, 2) := by decide +kernel
theorem dX11_seenTowards_20 : decode cX11_seenTowards 20 = .ok (.iload_n 3, 1) := by decide +kernel
theorem dX11_seenTowards_21 : decode cX11_seenTowards 21 = .ok (.invokestatic 328, 3) := by decide +kernel
theorem dX11_seenTowards_24 : decode cX11_seenTowards 24 = .ok (.imul, 1) := by decide +kernel
theorem dX11_seenTowards_25 : decode cX11_seenTowards 25 = .ok (.iadd, 1) := by decide +kernel
theorem dX11_seenTowards_26 : decode cX11_seenTowards 26 = .ok (.iload_n 2, 1) := by decide +kernel
theorem dX11_seenTowards_27 : decode cX11_seenTowards 27 = .ok (.iload 6, 2) := by decide +kernel
theorem dX11_seenTowards_29 : decode cX11_seenTowards 29 = .ok (.iload_n 3, 1) := by decide +kernel
theorem dX11_seenTowards_30 : decode cX11_seenTowards 30 = .ok (.invokestatic 331, 3) := by decide +kernel
theorem dX11_seenTowards_33 : decode cX11_seenTowards 33 = .ok (.imul, 1) := by decide +kernel
theorem dX11_seenTowards_34 : decode cX11_seenTowards 34 = .ok (.iadd, 1) := by decide +kernel
theorem dX11_seenTowards_35 : decode cX11_seenTowards 35 = .ok (.invokevirtual 126, 3) := by decide +kernel
theorem dX11_seenTowards_38 : decode cX11_seenTowards 38 = .ok (.istore 7, 2) := by decide +kernel
theorem dX11_seenTowards_40 : decode cX11_seenTowards 40 = .ok (.iload 7, 2) := by decide +kernel
theorem dX11_seenTowards_42 : decode cX11_seenTowards 42 = .ok (.ifCond .lt 25, 3) := by decide +kernel
theorem dX11_seenTowards_45 : decode cX11_seenTowards 45 = .ok (.iload 7, 2) := by decide +kernel
theorem dX11_seenTowards_47 : decode cX11_seenTowards 47 = .ok (.bipush 40, 2) := by decide +kernel
theorem dX11_seenTowards_49 : decode cX11_seenTowards 49 = .ok (.if_icmp .ge 18, 3) := by decide +kernel
theorem dX11_seenTowards_52 : decode cX11_seenTowards 52 = .ok (.aload_n 0, 1) := by decide +kernel
theorem dX11_seenTowards_53 : decode cX11_seenTowards 53 = .ok (.getfield 47, 3) := by decide +kernel
theorem dX11_seenTowards_56 : decode cX11_seenTowards 56 = .ok (.getfield 130, 3) := by decide +kernel
theorem dX11_seenTowards_59 : decode cX11_seenTowards 59 = .ok (.iload 7, 2) := by decide +kernel
theorem dX11_seenTowards_61 : decode cX11_seenTowards 61 = .ok (.iaload, 1) := by decide +kernel
theorem dX11_seenTowards_62 : decode cX11_seenTowards 62 = .ok (.iload 4, 2) := by decide +kernel
theorem dX11_seenTowards_64 : decode cX11_seenTowards 64 = .ok (.if_icmp .lt 6, 3) := by decide +kernel
theorem dX11_seenTowards_67 : decode cX11_seenTowards 67 = .ok (.iload 5, 2) := by decide +kernel
theorem dX11_seenTowards_69 : decode cX11_seenTowards 69 = .ok (.ireturn, 1) := by decide +kernel
theorem dX11_seenTowards_70 : decode cX11_seenTowards 70 = .ok (.iinc 5 1, 3) := by decide +kernel
theorem dX11_seenTowards_73 : decode cX11_seenTowards 73 = .ok (.iinc 6 1, 3) := by decide +kernel
theorem dX11_seenTowards_76 : decode cX11_seenTowards 76 = .ok (.goto (-70), 3) := by decide +kernel
theorem dX11_seenTowards_79 : decode cX11_seenTowards 79 = .ok (.iload 5, 2) := by decide +kernel
theorem dX11_seenTowards_81 : decode cX11_seenTowards 81 = .ok (.ireturn, 1) := by decide +kernel
theorem dX11_slotsHeld_0 : decode cX11_slotsHeld 0 = .ok (.iconst 0, 1) := by decide +kernel
theorem dX11_slotsHeld_1 : decode cX11_slotsHeld 1 = .ok (.istore_n 1, 1) := by decide +kernel
theorem dX11_slotsHeld_2 : decode cX11_slotsHeld 2 = .ok (.iconst 0, 1) := by decide +kernel
theorem dX11_slotsHeld_3 : decode cX11_slotsHeld 3 = .ok (.istore_n 2, 1) := by decide +kernel
theorem dX11_slotsHeld_4 : decode cX11_slotsHeld 4 = .ok (.iload_n 2, 1) := by decide +kernel
theorem dX11_slotsHeld_5 : decode cX11_slotsHeld 5 = .ok (.iconst 3, 1) := by decide +kernel
theorem dX11_slotsHeld_6 : decode cX11_slotsHeld 6 = .ok (.if_icmp .ge 21, 3) := by decide +kernel
theorem dX11_slotsHeld_9 : decode cX11_slotsHeld 9 = .ok (.aload_n 0, 1) := by decide +kernel
theorem dX11_slotsHeld_10 : decode cX11_slotsHeld 10 = .ok (.getfield 65, 3) := by decide +kernel
theorem dX11_slotsHeld_13 : decode cX11_slotsHeld 13 = .ok (.iload_n 2, 1) := by decide +kernel
theorem dX11_slotsHeld_14 : decode cX11_slotsHeld 14 = .ok (.baload, 1) := by decide +kernel
theorem dX11_slotsHeld_15 : decode cX11_slotsHeld 15 = .ok (.ifCond .eq 6, 3) := by decide +kernel
theorem dX11_slotsHeld_18 : decode cX11_slotsHeld 18 = .ok (.iinc 1 1, 3) := by decide +kernel
theorem dX11_slotsHeld_21 : decode cX11_slotsHeld 21 = .ok (.iinc 2 1, 3) := by decide +kernel
theorem dX11_slotsHeld_24 : decode cX11_slotsHeld 24 = .ok (.goto (-20), 3) := by decide +kernel
theorem dX11_slotsHeld_27 : decode cX11_slotsHeld 27 = .ok (.iload_n 1, 1) := by decide +kernel
theorem dX11_slotsHeld_28 : decode cX11_slotsHeld 28 = .ok (.ireturn, 1) := by decide +kernel
theorem dX11_isAhead_0 : decode cX11_isAhead 0 = .ok (.iload_n 0, 1) := by decide +kernel
theorem dX11_isAhead_1 : decode cX11_isAhead 1 = .ok (.ifCond .lt 13, 3) := by decide +kernel
theorem dX11_isAhead_4 : decode cX11_isAhead 4 = .ok (.iload_n 0, 1) := by decide +kernel
theorem dX11_isAhead_5 : decode cX11_isAhead 5 = .ok (.bipush 72, 2) := by decide +kernel
theorem dX11_isAhead_7 : decode cX11_isAhead 7 = .ok (.if_icmp .gt 7, 3) := by decide +kernel
theorem dX11_isAhead_10 : decode cX11_isAhead 10 = .ok (.iconst 1, 1) := by decide +kernel
theorem dX11_isAhead_11 : decode cX11_isAhead 11 = .ok (.goto 4, 3) := by decide +kernel
theorem dX11_isAhead_14 : decode cX11_isAhead 14 = .ok (.iconst 0, 1) := by decide +kernel
theorem dX11_isAhead_15 : decode cX11_isAhead 15 = .ok (.ireturn, 1) := by decide +kernel
theorem dX11_isThick_0 : decode cX11_isThick 0 = .ok (.iload_n 0, 1) := by decide +kernel
theorem dX11_isThick_1 : decode cX11_isThick 1 = .ok (.ifCond .lt 13, 3) := by decide +kernel
theorem dX11_isThick_4 : decode cX11_isThick 4 = .ok (.iload_n 0, 1) := by decide +kernel
theorem dX11_isThick_5 : decode cX11_isThick 5 = .ok (.bipush 99, 2) := by decide +kernel
theorem dX11_isThick_7 : decode cX11_isThick 7 = .ok (.if_icmp .gt 7, 3) := by decide +kernel
theorem dX11_isThick_10 : decode cX11_isThick 10 = .ok (.iconst 1, 1) := by decide +kernel
theorem dX11_isThick_11 : decode cX11_isThick 11 = .ok (.goto 4, 3) := by decide +kernel
theorem dX11_isThick_14 : decode cX11_isThick 14 = .ok (.iconst 0, 1) := by decide +kernel
theorem dX11_isThick_15 : decode cX11_isThick 15 = .ok (.ireturn, 1) := by decide +kernel
theorem dX11_told_0 : decode cX11_told 0 = .ok (.bipush 10, 2) := by decide +kernel
theorem dX11_told_2 : decode cX11_told 2 = .ok (.iload_n 0, 1) := by decide +kernel
theorem dX11_told_3 : decode cX11_told 3 = .ok (.bipush 8, 2) := by decide +kernel
theorem dX11_told_5 : decode cX11_told 5 = .ok (.idiv, 1) := by decide +kernel
theorem dX11_told_6 : decode cX11_told 6 = .ok (.imul, 1) := by decide +kernel
theorem dX11_told_7 : decode cX11_told 7 = .ok (.iload_n 0, 1) := by decide +kernel
theorem dX11_told_8 : decode cX11_told 8 = .ok (.bipush 8, 2) := by decide +kernel
theorem dX11_told_10 : decode cX11_told 10 = .ok (.irem, 1) := by decide +kernel
theorem dX11_told_11 : decode cX11_told 11 = .ok (.iadd, 1) := by decide +kernel
theorem dX11_told_12 : decode cX11_told 12 = .ok (.ireturn, 1) := by decide +kernel
theorem dX11_stepAcross_0 : decode cX11_stepAcross 0 = .ok (.iload_n 0, 1) := by decide +kernel
theorem dX11_stepAcross_1 : decode cX11_stepAcross 1 = .ok (.iconst 1, 1) := by decide +kernel
theorem dX11_stepAcross_2 : decode cX11_stepAcross 2 = .ok (.if_icmp .ne 7, 3) := by decide +kernel
theorem dX11_stepAcross_5 : decode cX11_stepAcross 5 = .ok (.iconst 1, 1) := by decide +kernel
theorem dX11_stepAcross_6 : decode cX11_stepAcross 6 = .ok (.goto 13, 3) := by decide +kernel
theorem dX11_stepAcross_9 : decode cX11_stepAcross 9 = .ok (.iload_n 0, 1) := by decide +kernel
theorem dX11_stepAcross_10 : decode cX11_stepAcross 10 = .ok (.iconst 3, 1) := by decide +kernel
theorem dX11_stepAcross_11 : decode cX11_stepAcross 11 = .ok (.if_icmp .ne 7, 3) := by decide +kernel
theorem dX11_stepAcross_14 : decode cX11_stepAcross 14 = .ok (.iconst (-1), 1) := by decide +kernel
theorem dX11_stepAcross_15 : decode cX11_stepAcross 15 = .ok (.goto 4, 3) := by decide +kernel
theorem dX11_stepAcross_18 : decode cX11_stepAcross 18 = .ok (.iconst 0, 1) := by decide +kernel
theorem dX11_stepAcross_19 : decode cX11_stepAcross 19 = .ok (.ireturn, 1) := by decide +kernel
theorem dX11_stepDown_0 : decode cX11_stepDown 0 = .ok (.iload_n 0, 1) := by decide +kernel
theorem dX11_stepDown_1 : decode cX11_stepDown 1 = .ok (.iconst 2, 1) := by decide +kernel
theorem dX11_stepDown_2 : decode cX11_stepDown 2 = .ok (.if_icmp .ne 7, 3) := by decide +kernel
theorem dX11_stepDown_5 : decode cX11_stepDown 5 = .ok (.iconst 1, 1) := by decide +kernel
theorem dX11_stepDown_6 : decode cX11_stepDown 6 = .ok (.goto 13, 3) := by decide +kernel
theorem dX11_stepDown_9 : decode cX11_stepDown 9 = .ok (.iload_n 0, 1) := by decide +kernel
theorem dX11_stepDown_10 : decode cX11_stepDown 10 = .ok (.iconst 4, 1) := by decide +kernel
theorem dX11_stepDown_11 : decode cX11_stepDown 11 = .ok (.if_icmp .ne 7, 3) := by decide +kernel
theorem dX11_stepDown_14 : decode cX11_stepDown 14 = .ok (.iconst (-1), 1) := by decide +kernel
theorem dX11_stepDown_15 : decode cX11_stepDown 15 = .ok (.goto 4, 3) := by decide +kernel
theorem dX11_stepDown_18 : decode cX11_stepDown 18 = .ok (.iconst 0, 1) := by decide +kernel
theorem dX11_stepDown_19 : decode cX11_stepDown 19 = .ok (.ireturn, 1) := by decide +kernel
theorem dX11_withNeighbours_0 : decode cX11_withNeighbours 0 = .ok (.lload_n 0, 1) := by decide +kernel
theorem dX11_withNeighbours_1 : decode cX11_withNeighbours 1 = .ok (.ldc2_w 334, 3) := by decide +kernel
theorem dX11_withNeighbours_4 : decode cX11_withNeighbours 4 = .ok (.land, 1) := by decide +kernel
theorem dX11_withNeighbours_5 : decode cX11_withNeighbours 5 = .ok (.iconst 1, 1) := by decide +kernel
theorem dX11_withNeighbours_6 : decode cX11_withNeighbours 6 = .ok (.lshl, 1) := by decide +kernel
theorem dX11_withNeighbours_7 : decode cX11_withNeighbours 7 = .ok (.lload_n 0, 1) := by decide +kernel
theorem dX11_withNeighbours_8 : decode cX11_withNeighbours 8 = .ok (.ldc2_w 336, 3) := by decide +kernel
theorem dX11_withNeighbours_11 : decode cX11_withNeighbours 11 = .ok (.land, 1) := by decide +kernel
theorem dX11_withNeighbours_12 : decode cX11_withNeighbours 12 = .ok (.iconst 1, 1) := by decide +kernel
theorem dX11_withNeighbours_13 : decode cX11_withNeighbours 13 = .ok (.lushr, 1) := by decide +kernel
theorem dX11_withNeighbours_14 : decode cX11_withNeighbours 14 = .ok (.lor, 1) := by decide +kernel
theorem dX11_withNeighbours_15 : decode cX11_withNeighbours 15 = .ok (.lstore_n 2, 1) := by decide +kernel
theorem dX11_withNeighbours_16 : decode cX11_withNeighbours 16 = .ok (.lload_n 0, 1) := by decide +kernel
theorem dX11_withNeighbours_17 : decode cX11_withNeighbours 17 = .ok (.lload_n 2, 1) := by decide +kernel
theorem dX11_withNeighbours_18 : decode cX11_withNeighbours 18 = .ok (.lor, 1) := by decide +kernel
theorem dX11_withNeighbours_19 : decode cX11_withNeighbours 19 = .ok (.lload_n 0, 1) := by decide +kernel
theorem dX11_withNeighbours_20 : decode cX11_withNeighbours 20 = .ok (.bipush 8, 2) := by decide +kernel
theorem dX11_withNeighbours_22 : decode cX11_withNeighbours 22 = .ok (.lshl, 1) := by decide +kernel
theorem dX11_withNeighbours_23 : decode cX11_withNeighbours 23 = .ok (.lor, 1) := by decide +kernel
theorem dX11_withNeighbours_24 : decode cX11_withNeighbours 24 = .ok (.lload_n 0, 1) := by decide +kernel
theorem dX11_withNeighbours_25 : decode cX11_withNeighbours 25 = .ok (.bipush 8, 2) := by decide +kernel
theorem dX11_withNeighbours_27 : decode cX11_withNeighbours 27 = .ok (.lushr, 1) := by decide +kernel
theorem dX11_withNeighbours_28 : decode cX11_withNeighbours 28 = .ok (.lor, 1) := by decide +kernel
theorem dX11_withNeighbours_29 : decode cX11_withNeighbours 29 = .ok (.lreturn, 1) := by decide +kernel
theorem dX11_within_0 : decode cX11_within 0 = .ok (.iconst 0, 1) := by decide +kernel
theorem dX11_within_1 : decode cX11_within 1 = .ok (.iload_n 0, 1) := by decide +kernel
theorem dX11_within_2 : decode cX11_within 2 = .ok (.iload_n 1, 1) := by decide +kernel
theorem dX11_within_3 : decode cX11_within 3 = .ok (.invokestatic 338, 3) := by decide +kernel
theorem dX11_within_6 : decode cX11_within 6 = .ok (.invokestatic 343, 3) := by decide +kernel
theorem dX11_within_9 : decode cX11_within 9 = .ok (.ireturn, 1) := by decide +kernel
theorem dX11_sum_0 : decode cX11_sum 0 = .ok (.iconst 0, 1) := by decide +kernel
theorem dX11_sum_1 : decode cX11_sum 1 = .ok (.istore_n 1, 1) := by decide +kernel
theorem dX11_sum_2 : decode cX11_sum 2 = .ok (.iconst 0, 1) := by decide +kernel
theorem dX11_sum_3 : decode cX11_sum 3 = .ok (.istore_n 2, 1) := by decide +kernel
theorem dX11_sum_4 : decode cX11_sum 4 = .ok (.iload_n 2, 1) := by decide +kernel
theorem dX11_sum_5 : decode cX11_sum 5 = .ok (.aload_n 0, 1) := by decide +kernel
theorem dX11_sum_6 : decode cX11_sum 6 = .ok (.arraylength, 1) := by decide +kernel
theorem dX11_sum_7 : decode cX11_sum 7 = .ok (.if_icmp .ge 15, 3) := by decide +kernel
theorem dX11_sum_10 : decode cX11_sum 10 = .ok (.iload_n 1, 1) := by decide +kernel
theorem dX11_sum_11 : decode cX11_sum 11 = .ok (.aload_n 0, 1) := by decide +kernel
theorem dX11_sum_12 : decode cX11_sum 12 = .ok (.iload_n 2, 1) := by decide +kernel
theorem dX11_sum_13 : decode cX11_sum 13 = .ok (.iaload, 1) := by decide +kernel
theorem dX11_sum_14 : decode cX11_sum 14 = .ok (.iadd, 1) := by decide +kernel
theorem dX11_sum_15 : decode cX11_sum 15 = .ok (.istore_n 1, 1) := by decide +kernel
theorem dX11_sum_16 : decode cX11_sum 16 = .ok (.iinc 2 1, 3) := by decide +kernel
theorem dX11_sum_19 : decode cX11_sum 19 = .ok (.goto (-15), 3) := by decide +kernel
theorem dX11_sum_22 : decode cX11_sum 22 = .ok (.iload_n 1, 1) := by decide +kernel
theorem dX11_sum_23 : decode cX11_sum 23 = .ok (.ireturn, 1) := by decide +kernel
theorem dX11_copy_0 : decode cX11_copy 0 = .ok (.iconst 0, 1) := by decide +kernel
theorem dX11_copy_1 : decode cX11_copy 1 = .ok (.istore_n 2, 1) := by decide +kernel
theorem dX11_copy_2 : decode cX11_copy 2 = .ok (.iload_n 2, 1) := by decide +kernel
theorem dX11_copy_3 : decode cX11_copy 3 = .ok (.aload_n 0, 1) := by decide +kernel
theorem dX11_copy_4 : decode cX11_copy 4 = .ok (.arraylength, 1) := by decide +kernel
theorem dX11_copy_5 : decode cX11_copy 5 = .ok (.if_icmp .ge 21, 3) := by decide +kernel
theorem dX11_copy_8 : decode cX11_copy 8 = .ok (.iload_n 2, 1) := by decide +kernel
theorem dX11_copy_9 : decode cX11_copy 9 = .ok (.aload_n 1, 1) := by decide +kernel
theorem dX11_copy_10 : decode cX11_copy 10 = .ok (.arraylength, 1) := by decide +kernel
theorem dX11_copy_11 : decode cX11_copy 11 = .ok (.if_icmp .ge 15, 3) := by decide +kernel
theorem dX11_copy_14 : decode cX11_copy 14 = .ok (.aload_n 1, 1) := by decide +kernel
theorem dX11_copy_15 : decode cX11_copy 15 = .ok (.iload_n 2, 1) := by decide +kernel
theorem dX11_copy_16 : decode cX11_copy 16 = .ok (.aload_n 0, 1) := by decide +kernel
theorem dX11_copy_17 : decode cX11_copy 17 = .ok (.iload_n 2, 1) := by decide +kernel
theorem dX11_copy_18 : decode cX11_copy 18 = .ok (.iaload, 1) := by decide +kernel
theorem dX11_copy_19 : decode cX11_copy 19 = .ok (.iastore, 1) := by decide +kernel
theorem dX11_copy_20 : decode cX11_copy 20 = .ok (.iinc 2 1, 3) := by decide +kernel
theorem dX11_copy_23 : decode cX11_copy 23 = .ok (.goto (-21), 3) := by decide +kernel
theorem dX11_copy_26 : decode cX11_copy 26 = .ok (.return_, 1) := by decide +kernel
theorem dX11_fill_0 : decode cX11_fill 0 = .ok (.iconst 0, 1) := by decide +kernel
theorem dX11_fill_1 : decode cX11_fill 1 = .ok (.istore_n 2, 1) := by decide +kernel
theorem dX11_fill_2 : decode cX11_fill 2 = .ok (.iload_n 2, 1) := by decide +kernel
theorem dX11_fill_3 : decode cX11_fill 3 = .ok (.aload_n 0, 1) := by decide +kernel
theorem dX11_fill_4 : decode cX11_fill 4 = .ok (.arraylength, 1) := by decide +kernel
theorem dX11_fill_5 : decode cX11_fill 5 = .ok (.if_icmp .ge 13, 3) := by decide +kernel
theorem dX11_fill_8 : decode cX11_fill 8 = .ok (.aload_n 0, 1) := by decide +kernel
theorem dX11_fill_9 : decode cX11_fill 9 = .ok (.iload_n 2, 1) := by decide +kernel
theorem dX11_fill_10 : decode cX11_fill 10 = .ok (.iload_n 1, 1) := by decide +kernel
theorem dX11_fill_11 : decode cX11_fill 11 = .ok (.iastore, 1) := by decide +kernel
theorem dX11_fill_12 : decode cX11_fill 12 = .ok (.iinc 2 1, 3) := by decide +kernel
theorem dX11_fill_15 : decode cX11_fill 15 = .ok (.goto (-13), 3) := by decide +kernel
theorem dX11_fill_18 : decode cX11_fill 18 = .ok (.return_, 1) := by decide +kernel
theorem dX12_init_0 : decode cX12_init 0 = .ok (.aload_n 0, 1) := by decide +kernel
theorem dX12_init_1 : decode cX12_init 1 = .ok (.invokespecial 7, 3) := by decide +kernel
theorem dX12_init_4 : decode cX12_init 4 = .ok (.aload_n 0, 1) := by decide +kernel
theorem dX12_init_5 : decode cX12_init 5 = .ok (.sipush 2000, 3) := by decide +kernel
theorem dX12_init_8 : decode cX12_init 8 = .ok (.newarray .byte, 2) := by decide +kernel
theorem dX12_init_10 : decode cX12_init 10 = .ok (.putfield 13, 3) := by decide +kernel
theorem dX12_init_13 : decode cX12_init 13 = .ok (.aload_n 0, 1) := by decide +kernel
theorem dX12_init_14 : decode cX12_init 14 = .ok (.sipush 2000, 3) := by decide +kernel
theorem dX12_init_17 : decode cX12_init 17 = .ok (.newarray .byte, 2) := by decide +kernel
theorem dX12_init_19 : decode cX12_init 19 = .ok (.putfield 17, 3) := by decide +kernel
theorem dX12_init_22 : decode cX12_init 22 = .ok (.aload_n 0, 1) := by decide +kernel
theorem dX12_init_23 : decode cX12_init 23 = .ok (.sipush 403, 3) := by decide +kernel
theorem dX12_init_26 : decode cX12_init 26 = .ok (.newarray .int, 2) := by decide +kernel
theorem dX12_init_28 : decode cX12_init 28 = .ok (.putfield 20, 3) := by decide +kernel
theorem dX12_init_31 : decode cX12_init 31 = .ok (.aload_n 0, 1) := by decide +kernel
theorem dX12_init_32 : decode cX12_init 32 = .ok (.sipush 403, 3) := by decide +kernel
theorem dX12_init_35 : decode cX12_init 35 = .ok (.newarray .int, 2) := by decide +kernel
theorem dX12_init_37 : decode cX12_init 37 = .ok (.putfield 24, 3) := by decide +kernel
theorem dX12_init_40 : decode cX12_init 40 = .ok (.aload_n 0, 1) := by decide +kernel
theorem dX12_init_41 : decode cX12_init 41 = .ok (.sipush 403, 3) := by decide +kernel
theorem dX12_init_44 : decode cX12_init 44 = .ok (.newarray .int, 2) := by decide +kernel
theorem dX12_init_46 : decode cX12_init 46 = .ok (.putfield 27, 3) := by decide +kernel
theorem dX12_init_49 : decode cX12_init 49 = .ok (.aload_n 0, 1) := by decide +kernel
theorem dX12_init_50 : decode cX12_init 50 = .ok (.sipush 403, 3) := by decide +kernel
theorem dX12_init_53 : decode cX12_init 53 = .ok (.newarray .long, 2) := by decide +kernel
theorem dX12_init_55 : decode cX12_init 55 = .ok (.putfield 30, 3) := by decide +kernel
theorem dX12_init_58 : decode cX12_init 58 = .ok (.aload_n 0, 1) := by decide +kernel
theorem dX12_init_59 : decode cX12_init 59 = .ok (.bipush 23, 2) := by decide +kernel
theorem dX12_init_61 : decode cX12_init 61 = .ok (.newarray .long, 2) := by decide +kernel
theorem dX12_init_63 : decode cX12_init 63 = .ok (.putfield 34, 3) := by decide +kernel
theorem dX12_init_66 : decode cX12_init 66 = .ok (.aload_n 0, 1) := by decide +kernel
theorem dX12_init_67 : decode cX12_init 67 = .ok (.iconst (-1), 1) := by decide +kernel
theorem dX12_init_68 : decode cX12_init 68 = .ok (.putfield 37, 3) := by decide +kernel
theorem dX12_init_71 : decode cX12_init 71 = .ok (.aload_n 0, 1) := by decide +kernel
theorem dX12_init_72 : decode cX12_init 72 = .ok (.bipush 10, 2) := by decide +kernel
theorem dX12_init_74 : decode cX12_init 74 = .ok (.newarray .long, 2) := by decide +kernel
theorem dX12_init_76 : decode cX12_init 76 = .ok (.putfield 40, 3) := by decide +kernel
theorem dX12_init_79 : decode cX12_init 79 = .ok (.aload_n 0, 1) := by decide +kernel
theorem dX12_init_80 : decode cX12_init 80 = .ok (.bipush 10, 2) := by decide +kernel
theorem dX12_init_82 : decode cX12_init 82 = .ok (.newarray .int, 2) := by decide +kernel
theorem dX12_init_84 : decode cX12_init 84 = .ok (.putfield 43, 3) := by decide +kernel
theorem dX12_init_87 : decode cX12_init 87 = .ok (.aload_n 0, 1) := by decide +kernel
theorem dX12_init_88 : decode cX12_init 88 = .ok (.iconst 2, 1) := by decide +kernel
theorem dX12_init_89 : decode cX12_init 89 = .ok (.newarray .int, 2) := by decide +kernel
theorem dX12_init_91 : decode cX12_init 91 = .ok (.putfield 46, 3) := by decide +kernel
theorem dX12_init_94 : decode cX12_init 94 = .ok (.aload_n 0, 1) := by decide +kernel
theorem dX12_init_95 : decode cX12_init 95 = .ok (.iconst 2, 1) := by decide +kernel
theorem dX12_init_96 : decode cX12_init 96 = .ok (.newarray .int, 2) := by decide +kernel
theorem dX12_init_98 : decode cX12_init 98 = .ok (.putfield 49, 3) := by decide +kernel
theorem dX12_init_101 : decode cX12_init 101 = .ok (.aload_n 0, 1) := by decide +kernel
theorem dX12_init_102 : decode cX12_init 102 = .ok (.bipush 80, 2) := by decide +kernel
theorem dX12_init_104 : decode cX12_init 104 = .ok (.newarray .int, 2) := by decide +kernel
theorem dX12_init_106 : decode cX12_init 106 = .ok (.putfield 52, 3) := by decide +kernel
theorem dX12_init_109 : decode cX12_init 109 = .ok (.aload_n 0, 1) := by decide +kernel
theorem dX12_init_110 : decode cX12_init 110 = .ok (.bipush 80, 2) := by decide +kernel
theorem dX12_init_112 : decode cX12_init 112 = .ok (.newarray .int, 2) := by decide +kernel
theorem dX12_init_114 : decode cX12_init 114 = .ok (.putfield 55, 3) := by decide +kernel
theorem dX12_init_117 : decode cX12_init 117 = .ok (.aload_n 0, 1) := by decide +kernel
theorem dX12_init_118 : decode cX12_init 118 = .ok (.iconst 2, 1) := by decide +kernel
theorem dX12_init_119 : decode cX12_init 119 = .ok (.newarray .int, 2) := by decide +kernel
theorem dX12_init_121 : decode cX12_init 121 = .ok (.putfield 58, 3) := by decide +kernel
theorem dX12_init_124 : decode cX12_init 124 = .ok (.aload_n 0, 1) := by decide +kernel
theorem dX12_init_125 : decode cX12_init 125 = .ok (.bipush 8, 2) := by decide +kernel
theorem dX12_init_127 : decode cX12_init 127 = .ok (.newarray .int, 2) := by decide +kernel
theorem dX12_init_129 : decode cX12_init 129 = .ok (.putfield 61, 3) := by decide +kernel
theorem dX12_init_132 : decode cX12_init 132 = .ok (.aload_n 0, 1) := by decide +kernel
theorem dX12_init_133 : decode cX12_init 133 = .ok (.bipush 8, 2) := by decide +kernel
theorem dX12_init_135 : decode cX12_init 135 = .ok (.newarray .int, 2) := by decide +kernel
theorem dX12_init_137 : decode cX12_init 137 = .ok (.putfield 64, 3) := by decide +kernel
theorem dX12_init_140 : decode cX12_init 140 = .ok (.aload_n 0, 1) := by decide +kernel
theorem dX12_init_141 : decode cX12_init 141 = .ok (.iconst 2, 1) := by decide +kernel
theorem dX12_init_142 : decode cX12_init 142 = .ok (.newarray .int, 2) := by decide +kernel
theorem dX12_init_144 : decode cX12_init 144 = .ok (.putfield 67, 3) := by decide +kernel
theorem dX12_init_147 : decode cX12_init 147 = .ok (.aload_n 0, 1) := by decide +kernel
theorem dX12_init_148 : decode cX12_init 148 = .ok (.bipush 12, 2) := by decide +kernel
theorem dX12_init_150 : decode cX12_init 150 = .ok (.newarray .int, 2) := by decide +kernel
theorem dX12_init_152 : decode cX12_init 152 = .ok (.putfield 70, 3) := by decide +kernel
theorem dX12_init_155 : decode cX12_init 155 = .ok (.aload_n 0, 1) := by decide +kernel
theorem dX12_init_156 : decode cX12_init 156 = .ok (.bipush 12, 2) := by decide +kernel
theorem dX12_init_158 : decode cX12_init 158 = .ok (.newarray .int, 2) := by decide +kernel
theorem dX12_init_160 : decode cX12_init 160 = .ok (.putfield 73, 3) := by decide +kernel
theorem dX12_init_163 : decode cX12_init 163 = .ok (.aload_n 0, 1) := by decide +kernel
theorem dX12_init_164 : decode cX12_init 164 = .ok (.bipush 12, 2) := by decide +kernel
theorem dX12_init_166 : decode cX12_init 166 = .ok (.newarray .int, 2) := by decide +kernel
theorem dX12_init_168 : decode cX12_init 168 = .ok (.putfield 76, 3) := by decide +kernel
theorem dX12_init_171 : decode cX12_init 171 = .ok (.aload_n 0, 1) := by decide +kernel
theorem dX12_init_172 : decode cX12_init 172 = .ok (.bipush 12, 2) := by decide +kernel
theorem dX12_init_174 : decode cX12_init 174 = .ok (.newarray .int, 2) := by decide +kernel
theorem dX12_init_176 : decode cX12_init 176 = .ok (.putfield 79, 3) := by decide +kernel
theorem dX12_init_179 : decode cX12_init 179 = .ok (.aload_n 0, 1) := by decide +kernel
theorem dX12_init_180 : decode cX12_init 180 = .ok (.iconst 2, 1) := by decide +kernel
theorem dX12_init_181 : decode cX12_init 181 = .ok (.newarray .int, 2) := by decide +kernel
theorem dX12_init_183 : decode cX12_init 183 = .ok (.putfield 82, 3) := by decide +kernel
theorem dX12_init_186 : decode cX12_init 186 = .ok (.aload_n 0, 1) := by decide +kernel
theorem dX12_init_187 : decode cX12_init 187 = .ok (.bipush 24, 2) := by decide +kernel
theorem dX12_init_189 : decode cX12_init 189 = .ok (.newarray .int, 2) := by decide +kernel
theorem dX12_init_191 : decode cX12_init 191 = .ok (.putfield 85, 3) := by decide +kernel
theorem dX12_init_194 : decode cX12_init 194 = .ok (.aload_n 0, 1) := by decide +kernel
theorem dX12_init_195 : decode cX12_init 195 = .ok (.bipush 24, 2) := by decide +kernel
theorem dX12_init_197 : decode cX12_init 197 = .ok (.newarray .int, 2) := by decide +kernel
theorem dX12_init_199 : decode cX12_init 199 = .ok (.putfield 88, 3) := by decide +kernel
theorem dX12_init_202 : decode cX12_init 202 = .ok (.aload_n 0, 1) := by decide +kernel
theorem dX12_init_203 : decode cX12_init 203 = .ok (.bipush 24, 2) := by decide +kernel
theorem dX12_init_205 : decode cX12_init 205 = .ok (.newarray .int, 2) := by decide +kernel
theorem dX12_init_207 : decode cX12_init 207 = .ok (.putfield 91, 3) := by decide +kernel
theorem dX12_init_210 : decode cX12_init 210 = .ok (.aload_n 0, 1) := by decide +kernel
theorem dX12_init_211 : decode cX12_init 211 = .ok (.iconst 2, 1) := by decide +kernel
theorem dX12_init_212 : decode cX12_init 212 = .ok (.newarray .int, 2) := by decide +kernel
theorem dX12_init_214 : decode cX12_init 214 = .ok (.putfield 94, 3) := by decide +kernel
theorem dX12_init_217 : decode cX12_init 217 = .ok (.aload_n 0, 1) := by decide +kernel
theorem dX12_init_218 : decode cX12_init 218 = .ok (.iconst 2, 1) := by decide +kernel
theorem dX12_init_219 : decode cX12_init 219 = .ok (.newarray .int, 2) := by decide +kernel
theorem dX12_init_221 : decode cX12_init 221 = .ok (.putfield 97, 3) := by decide +kernel
theorem dX12_init_224 : decode cX12_init 224 = .ok (.aload_n 0, 1) := by decide +kernel
theorem dX12_init_225 : decode cX12_init 225 = .ok (.iconst 2, 1) := by decide +kernel
theorem dX12_init_226 : decode cX12_init 226 = .ok (.newarray .int, 2) := by decide +kernel
theorem dX12_init_228 : decode cX12_init 228 = .ok (.putfield 100, 3) := by decide +kernel
theorem dX12_init_231 : decode cX12_init 231 = .ok (.aload_n 0, 1) := by decide +kernel
theorem dX12_init_232 : decode cX12_init 232 = .ok (.bipush 8, 2) := by decide +kernel
theorem dX12_init_234 : decode cX12_init 234 = .ok (.newarray .int, 2) := by decide +kernel
theorem dX12_init_236 : decode cX12_init 236 = .ok (.putfield 103, 3) := by decide +kernel
theorem dX12_init_239 : decode cX12_init 239 = .ok (.aload_n 0, 1) := by decide +kernel
theorem dX12_init_240 : decode cX12_init 240 = .ok (.bipush 8, 2) := by decide +kernel
theorem dX12_init_242 : decode cX12_init 242 = .ok (.newarray .int, 2) := by decide +kernel
theorem dX12_init_244 : decode cX12_init 244 = .ok (.putfield 106, 3) := by decide +kernel
theorem dX12_init_247 : decode cX12_init 247 = .ok (.aload_n 0, 1) := by decide +kernel
theorem dX12_init_248 : decode cX12_init 248 = .ok (.sipush 260, 3) := by decide +kernel
theorem dX12_init_251 : decode cX12_init 251 = .ok (.newarray .boolean, 2) := by decide +kernel
theorem dX12_init_253 : decode cX12_init 253 = .ok (.putfield 109, 3) := by decide +kernel
theorem dX12_init_256 : decode cX12_init 256 = .ok (.aload_n 0, 1) := by decide +kernel
theorem dX12_init_257 : decode cX12_init 257 = .ok (.sipush 260, 3) := by decide +kernel
theorem dX12_init_260 : decode cX12_init 260 = .ok (.newarray .int, 2) := by decide +kernel
theorem dX12_init_262 : decode cX12_init 262 = .ok (.putfield 113, 3) := by decide +kernel
theorem dX12_init_265 : decode cX12_init 265 = .ok (.aload_n 0, 1) := by decide +kernel
theorem dX12_init_266 : decode cX12_init 266 = .ok (.sipush 260, 3) := by decide +kernel
theorem dX12_init_269 : decode cX12_init 269 = .ok (.newarray .int, 2) := by decide +kernel
theorem dX12_init_271 : decode cX12_init 271 = .ok (.putfield 116, 3) := by decide +kernel
theorem dX12_init_274 : decode cX12_init 274 = .ok (.aload_n 0, 1) := by decide +kernel
theorem dX12_init_275 : decode cX12_init 275 = .ok (.sipush 260, 3) := by decide +kernel
theorem dX12_init_278 : decode cX12_init 278 = .ok (.newarray .int, 2) := by decide +kernel
theorem dX12_init_280 : decode cX12_init 280 = .ok (.putfield 119, 3) := by decide +kernel
theorem dX12_init_283 : decode cX12_init 283 = .ok (.aload_n 0, 1) := by decide +kernel
theorem dX12_init_284 : decode cX12_init 284 = .ok (.sipush 260, 3) := by decide +kernel
theorem dX12_init_287 : decode cX12_init 287 = .ok (.newarray .int, 2) := by decide +kernel
theorem dX12_init_289 : decode cX12_init 289 = .ok (.putfield 122, 3) := by decide +kernel
theorem dX12_init_292 : decode cX12_init 292 = .ok (.aload_n 0, 1) := by decide +kernel
theorem dX12_init_293 : decode cX12_init 293 = .ok (.sipush 840, 3) := by decide +kernel
theorem dX12_init_296 : decode cX12_init 296 = .ok (.newarray .int, 2) := by decide +kernel
theorem dX12_init_298 : decode cX12_init 298 = .ok (.putfield 125, 3) := by decide +kernel
theorem dX12_init_301 : decode cX12_init 301 = .ok (.aload_n 0, 1) := by decide +kernel
theorem dX12_init_302 : decode cX12_init 302 = .ok (.sipush 840, 3) := by decide +kernel
theorem dX12_init_305 : decode cX12_init 305 = .ok (.newarray .int, 2) := by decide +kernel
theorem dX12_init_307 : decode cX12_init 307 = .ok (.putfield 128, 3) := by decide +kernel
theorem dX12_init_310 : decode cX12_init 310 = .ok (.aload_n 0, 1) := by decide +kernel
theorem dX12_init_311 : decode cX12_init 311 = .ok (.bipush 64, 2) := by decide +kernel
theorem dX12_init_313 : decode cX12_init 313 = .ok (.newarray .int, 2) := by decide +kernel
theorem dX12_init_315 : decode cX12_init 315 = .ok (.putfield 131, 3) := by decide +kernel
theorem dX12_init_318 : decode cX12_init 318 = .ok (.aload_n 0, 1) := by decide +kernel
theorem dX12_init_319 : decode cX12_init 319 = .ok (.bipush 9, 2) := by decide +kernel
theorem dX12_init_321 : decode cX12_init 321 = .ok (.newarray .int, 2) := by decide +kernel
theorem dX12_init_323 : decode cX12_init 323 = .ok (.putfield 134, 3) := by decide +kernel
theorem dX12_init_326 : decode cX12_init 326 = .ok (.aload_n 0, 1) := by decide +kernel
theorem dX12_init_327 : decode cX12_init 327 = .ok (.sipush 400, 3) := by decide +kernel
theorem dX12_init_330 : decode cX12_init 330 = .ok (.newarray .int, 2) := by decide +kernel
theorem dX12_init_332 : decode cX12_init 332 = .ok (.putfield 137, 3) := by decide +kernel
theorem dX12_init_335 : decode cX12_init 335 = .ok (.aload_n 0, 1) := by decide +kernel
theorem dX12_init_336 : decode cX12_init 336 = .ok (.bipush 105, 2) := by decide +kernel
theorem dX12_init_338 : decode cX12_init 338 = .ok (.newarray .int, 2) := by decide +kernel
theorem dX12_init_340 : decode cX12_init 340 = .ok (.putfield 140, 3) := by decide +kernel
theorem dX12_init_343 : decode cX12_init 343 = .ok (.aload_n 0, 1) := by decide +kernel
theorem dX12_init_344 : decode cX12_init 344 = .ok (.bipush 105, 2) := by decide +kernel
theorem dX12_init_346 : decode cX12_init 346 = .ok (.newarray .int, 2) := by decide +kernel
theorem dX12_init_348 : decode cX12_init 348 = .ok (.putfield 143, 3) := by decide +kernel
theorem dX12_init_351 : decode cX12_init 351 = .ok (.aload_n 0, 1) := by decide +kernel
theorem dX12_init_352 : decode cX12_init 352 = .ok (.bipush 40, 2) := by decide +kernel
theorem dX12_init_354 : decode cX12_init 354 = .ok (.newarray .int, 2) := by decide +kernel
theorem dX12_init_356 : decode cX12_init 356 = .ok (.putfield 146, 3) := by decide +kernel
theorem dX12_init_359 : decode cX12_init 359 = .ok (.aload_n 0, 1) := by decide +kernel
theorem dX12_init_360 : decode cX12_init 360 = .ok (.sipush 3150, 3) := by decide +kernel
theorem dX12_init_363 : decode cX12_init 363 = .ok (.newarray .int, 2) := by decide +kernel
theorem dX12_init_365 : decode cX12_init 365 = .ok (.putfield 149, 3) := by decide +kernel
theorem dX12_init_368 : decode cX12_init 368 = .ok (.aload_n 0, 1) := by decide +kernel
theorem dX12_init_369 : decode cX12_init 369 = .ok (.bipush 40, 2) := by decide +kernel
theorem dX12_init_371 : decode cX12_init 371 = .ok (.newarray .boolean, 2) := by decide +kernel
theorem dX12_init_373 : decode cX12_init 373 = .ok (.putfield 152, 3) := by decide +kernel
theorem dX12_init_376 : decode cX12_init 376 = .ok (.aload_n 0, 1) := by decide +kernel
theorem dX12_init_377 : decode cX12_init 377 = .ok (.bipush 40, 2) := by decide +kernel
theorem dX12_init_379 : decode cX12_init 379 = .ok (.newarray .boolean, 2) := by decide +kernel
theorem dX12_init_381 : decode cX12_init 381 = .ok (.putfield 155, 3) := by decide +kernel
theorem dX12_init_384 : decode cX12_init 384 = .ok (.aload_n 0, 1) := by decide +kernel
theorem dX12_init_385 : decode cX12_init 385 = .ok (.iconst 3, 1) := by decide +kernel
theorem dX12_init_386 : decode cX12_init 386 = .ok (.newarray .int, 2) := by decide +kernel
theorem dX12_init_388 : decode cX12_init 388 = .ok (.putfield 158, 3) := by decide +kernel
theorem dX12_init_391 : decode cX12_init 391 = .ok (.aload_n 0, 1) := by decide +kernel
theorem dX12_init_392 : decode cX12_init 392 = .ok (.bipush 20, 2) := by decide +kernel
theorem dX12_init_394 : decode cX12_init 394 = .ok (.newarray .int, 2) := by decide +kernel
theorem dX12_init_396 : decode cX12_init 396 = .ok (.putfield 161, 3) := by decide +kernel
theorem dX12_init_399 : decode cX12_init 399 = .ok (.aload_n 0, 1) := by decide +kernel
theorem dX12_init_400 : decode cX12_init 400 = .ok (.bipush 20, 2) := by decide +kernel
theorem dX12_init_402 : decode cX12_init 402 = .ok (.newarray .int, 2) := by decide +kernel
theorem dX12_init_404 : decode cX12_init 404 = .ok (.putfield 164, 3) := by decide +kernel
theorem dX12_init_407 : decode cX12_init 407 = .ok (.aload_n 0, 1) := by decide +kernel
theorem dX12_init_408 : decode cX12_init 408 = .ok (.bipush 20, 2) := by decide +kernel
theorem dX12_init_410 : decode cX12_init 410 = .ok (.newarray .int, 2) := by decide +kernel
theorem dX12_init_412 : decode cX12_init 412 = .ok (.putfield 167, 3) := by decide +kernel
theorem dX12_init_415 : decode cX12_init 415 = .ok (.aload_n 0, 1) := by decide +kernel
theorem dX12_init_416 : decode cX12_init 416 = .ok (.sipush 4000, 3) := by decide +kernel
theorem dX12_init_419 : decode cX12_init 419 = .ok (.newarray .int, 2) := by decide +kernel
theorem dX12_init_421 : decode cX12_init 421 = .ok (.putfield 170, 3) := by decide +kernel
theorem dX12_init_424 : decode cX12_init 424 = .ok (.aload_n 0, 1) := by decide +kernel
theorem dX12_init_425 : decode cX12_init 425 = .ok (.iconst 3, 1) := by decide +kernel
theorem dX12_init_426 : decode cX12_init 426 = .ok (.newarray .boolean, 2) := by decide +kernel
theorem dX12_init_428 : decode cX12_init 428 = .ok (.putfield 173, 3) := by decide +kernel
theorem dX12_init_431 : decode cX12_init 431 = .ok (.aload_n 0, 1) := by decide +kernel
theorem dX12_init_432 : decode cX12_init 432 = .ok (.sipush 315, 3) := by decide +kernel
theorem dX12_init_435 : decode cX12_init 435 = .ok (.newarray .int, 2) := by decide +kernel
theorem dX12_init_437 : decode cX12_init 437 = .ok (.putfield 176, 3) := by decide +kernel
theorem dX12_init_440 : decode cX12_init 440 = .ok (.aload_n 0, 1) := by decide +kernel
theorem dX12_init_441 : decode cX12_init 441 = .ok (.iconst 0, 1) := by decide +kernel
theorem dX12_init_442 : decode cX12_init 442 = .ok (.invokevirtual 179, 3) := by decide +kernel
theorem dX12_init_445 : decode cX12_init 445 = .ok (.aload_n 0, 1) := by decide +kernel
theorem dX12_init_446 : decode cX12_init 446 = .ok (.getfield 34, 3) := by decide +kernel
theorem dX12_init_449 : decode cX12_init 449 = .ok (.iconst 0, 1) := by decide +kernel
theorem dX12_init_450 : decode cX12_init 450 = .ok (.bipush 114, 2) := by decide +kernel
theorem dX12_init_452 : decode cX12_init 452 = .ok (.bipush 111, 2) := by decide +kernel
theorem dX12_init_454 : decode cX12_init 454 = .ok (.bipush 119, 2) := by decide +kernel
theorem dX12_init_456 : decode cX12_init 456 = .ok (.iconst 0, 1) := by decide +kernel
theorem dX12_init_457 : decode cX12_init 457 = .ok (.iconst 0, 1) := by decide +kernel
theorem dX12_init_458 : decode cX12_init 458 = .ok (.iconst 0, 1) := by decide +kernel
theorem dX12_init_459 : decode cX12_init 459 = .ok (.iconst 0, 1) := by decide +kernel
theorem dX12_init_460 : decode cX12_init 460 = .ok (.invokestatic 183, 3) := by decide +kernel
theorem dX12_init_463 : decode cX12_init 463 = .ok (.lastore, 1) := by decide +kernel
theorem dX12_init_464 : decode cX12_init 464 = .ok (.aload_n 0, 1) := by decide +kernel
theorem dX12_init_465 : decode cX12_init 465 = .ok (.getfield 34, 3) := by decide +kernel
theorem dX12_init_468 : decode cX12_init 468 = .ok (.iconst 1, 1) := by decide +kernel
theorem dX12_init_469 : decode cX12_init 469 = .ok (.bipush 104, 2) := by decide +kernel
theorem dX12_init_471 : decode cX12_init 471 = .ok (.bipush 111, 2) := by decide +kernel
theorem dX12_init_473 : decode cX12_init 473 = .ok (.bipush 108, 2) := by decide +kernel
theorem dX12_init_475 : decode cX12_init 475 = .ok (.bipush 100, 2) := by decide +kernel
theorem dX12_init_477 : decode cX12_init 477 = .ok (.bipush 105, 2) := by decide +kernel
theorem dX12_init_479 : decode cX12_init 479 = .ok (.bipush 110, 2) := by decide +kernel
theorem dX12_init_481 : decode cX12_init 481 = .ok (.bipush 103, 2) := by decide +kernel
theorem dX12_init_483 : decode cX12_init 483 = .ok (.invokestatic 183, 3) := by decide +kernel
theorem dX12_init_486 : decode cX12_init 486 = .ok (.lastore, 1) := by decide +kernel
theorem dX12_init_487 : decode cX12_init 487 = .ok (.aload_n 0, 1) := by decide +kernel
theorem dX12_init_488 : decode cX12_init 488 = .ok (.getfield 34, 3) := by decide +kernel
theorem dX12_init_491 : decode cX12_init 491 = .ok (.iconst 2, 1) := by decide +kernel
theorem dX12_init_492 : decode cX12_init 492 = .ok (.bipush 117, 2) := by decide +kernel
theorem dX12_init_494 : decode cX12_init 494 = .ok (.bipush 115, 2) := by decide +kernel
theorem dX12_init_496 : decode cX12_init 496 = .ok (.bipush 101, 2) := by decide +kernel
theorem dX12_init_498 : decode cX12_init 498 = .ok (.iconst 0, 1) := by decide +kernel
theorem dX12_init_499 : decode cX12_init 499 = .ok (.iconst 0, 1) := by decide +kernel
theorem dX12_init_500 : decode cX12_init 500 = .ok (.iconst 0, 1) := by decide +kernel
theorem dX12_init_501 : decode cX12_init 501 = .ok (.iconst 0, 1) := by decide +kernel
theorem dX12_init_502 : decode cX12_init 502 = .ok (.invokestatic 183, 3) := by decide +kernel
theorem dX12_init_505 : decode cX12_init 505 = .ok (.lastore, 1) := by decide +kernel
theorem dX12_init_506 : decode cX12_init 506 = .ok (.aload_n 0, 1) := by decide +kernel
theorem dX12_init_507 : decode cX12_init 507 = .ok (.getfield 34, 3) := by decide +kernel
theorem dX12_init_510 : decode cX12_init 510 = .ok (.iconst 3, 1) := by decide +kernel
theorem dX12_init_511 : decode cX12_init 511 = .ok (.bipush 98, 2) := by decide +kernel
theorem dX12_init_513 : decode cX12_init 513 = .ok (.bipush 97, 2) := by decide +kernel
theorem dX12_init_515 : decode cX12_init 515 = .ok (.bipush 110, 2) := by decide +kernel
theorem dX12_init_517 : decode cX12_init 517 = .ok (.bipush 107, 2) := by decide +kernel
theorem dX12_init_519 : decode cX12_init 519 = .ok (.iconst 0, 1) := by decide +kernel
theorem dX12_init_520 : decode cX12_init 520 = .ok (.iconst 0, 1) := by decide +kernel
theorem dX12_init_521 : decode cX12_init 521 = .ok (.iconst 0, 1) := by decide +kernel
theorem dX12_init_522 : decode cX12_init 522 = .ok (.invokestatic 183, 3) := by decide +kernel
theorem dX12_init_525 : decode cX12_init 525 = .ok (.lastore, 1) := by decide +kernel
theorem dX12_init_526 : decode cX12_init 526 = .ok (.aload_n 0, 1) := by decide +kernel
theorem dX12_init_527 : decode cX12_init 527 = .ok (.getfield 34, 3) := by decide +kernel
theorem dX12_init_530 : decode cX12_init 530 = .ok (.iconst 4, 1) := by decide +kernel
theorem dX12_init_531 : decode cX12_init 531 = .ok (.bipush 119, 2) := by decide +kernel
theorem dX12_init_533 : decode cX12_init 533 = .ok (.bipush 105, 2) := by decide +kernel
theorem dX12_init_535 : decode cX12_init 535 = .ok (.bipush 110, 2) := by decide +kernel
theorem dX12_init_537 : decode cX12_init 537 = .ok (.bipush 100, 2) := by decide +kernel
theorem dX12_init_539 : decode cX12_init 539 = .ok (.iconst 0, 1) := by decide +kernel
theorem dX12_init_540 : decode cX12_init 540 = .ok (.iconst 0, 1) := by decide +kernel
theorem dX12_init_541 : decode cX12_init 541 = .ok (.iconst 0, 1) := by decide +kernel
theorem dX12_init_542 : decode cX12_init 542 = .ok (.invokestatic 183, 3) := by decide +kernel
theorem dX12_init_545 : decode cX12_init 545 = .ok (.lastore, 1) := by decide +kernel
theorem dX12_init_546 : decode cX12_init 546 = .ok (.aload_n 0, 1) := by decide +kernel
theorem dX12_init_547 : decode cX12_init 547 = .ok (.getfield 34, 3) := by decide +kernel
theorem dX12_init_550 : decode cX12_init 550 = .ok (.iconst 5, 1) := by decide +kernel
theorem dX12_init_551 : decode cX12_init 551 = .ok (.bipush 100, 2) := by decide +kernel
theorem dX12_init_553 : decode cX12_init 553 = .ok (.bipush 114, 2) := by decide +kernel
theorem dX12_init_555 : decode cX12_init 555 = .ok (.bipush 105, 2) := by decide +kernel
theorem dX12_init_557 : decode cX12_init 557 = .ok (.bipush 102, 2) := by decide +kernel
theorem dX12_init_559 : decode cX12_init 559 = .ok (.bipush 116, 2) := by decide +kernel
theorem dX12_init_561 : decode cX12_init 561 = .ok (.bipush 115, 2) := by decide +kernel
theorem dX12_init_563 : decode cX12_init 563 = .ok (.iconst 0, 1) := by decide +kernel
theorem dX12_init_564 : decode cX12_init 564 = .ok (.invokestatic 183, 3) := by decide +kernel
theorem dX12_init_567 : decode cX12_init 567 = .ok (.lastore, 1) := by decide +kernel
theorem dX12_init_568 : decode cX12_init 568 = .ok (.aload_n 0, 1) := by decide +kernel
theorem dX12_init_569 : decode cX12_init 569 = .ok (.getfield 34, 3) := by decide +kernel
theorem dX12_init_572 : decode cX12_init 572 = .ok (.bipush 6, 2) := by decide +kernel
theorem dX12_init_574 : decode cX12_init 574 = .ok (.bipush 116, 2) := by decide +kernel
theorem dX12_init_576 : decode cX12_init 576 = .ok (.bipush 104, 2) := by decide +kernel
theorem dX12_init_578 : decode cX12_init 578 = .ok (.bipush 105, 2) := by decide +kernel
theorem dX12_init_580 : decode cX12_init 580 = .ok (.bipush 110, 2) := by decide +kernel
theorem dX12_init_582 : decode cX12_init 582 = .ok (.bipush 115, 2) := by decide +kernel
theorem dX12_init_584 : decode cX12_init 584 = .ok (.iconst 0, 1) := by decide +kernel
theorem dX12_init_585 : decode cX12_init 585 = .ok (.iconst 0, 1) := by decide +kernel
theorem dX12_init_586 : decode cX12_init 586 = .ok (.invokestatic 183, 3) := by decide +kernel
theorem dX12_init_589 : decode cX12_init 589 = .ok (.lastore, 1) := by decide +kernel
theorem dX12_init_590 : decode cX12_init 590 = .ok (.aload_n 0, 1) := by decide +kernel
theorem dX12_init_591 : decode cX12_init 591 = .ok (.getfield 34, 3) := by decide +kernel
theorem dX12_init_594 : decode cX12_init 594 = .ok (.bipush 7, 2) := by decide +kernel
theorem dX12_init_596 : decode cX12_init 596 = .ok (.bipush 103, 2) := by decide +kernel
theorem dX12_init_598 : decode cX12_init 598 = .ok (.bipush 105, 2) := by decide +kernel
theorem dX12_init_600 : decode cX12_init 600 = .ok (.bipush 118, 2) := by decide +kernel
theorem dX12_init_602 : decode cX12_init 602 = .ok (.bipush 101, 2) := by decide +kernel
theorem dX12_init_604 : decode cX12_init 604 = .ok (.bipush 115, 2) := by decide +kernel
theorem dX12_init_606 : decode cX12_init 606 = .ok (.iconst 0, 1) := by decide +kernel
theorem dX12_init_607 : decode cX12_init 607 = .ok (.iconst 0, 1) := by decide +kernel
theorem dX12_init_608 : decode cX12_init 608 = .ok (.invokestatic 183, 3) := by decide +kernel
theorem dX12_init_611 : decode cX12_init 611 = .ok (.lastore, 1) := by decide +kernel
theorem dX12_init_612 : decode cX12_init 612 = .ok (.aload_n 0, 1) := by decide +kernel
theorem dX12_init_613 : decode cX12_init 613 = .ok (.getfield 34, 3) := by decide +kernel
theorem dX12_init_616 : decode cX12_init 616 = .ok (.bipush 8, 2) := by decide +kernel
theorem dX12_init_618 : decode cX12_init 618 = .ok (.bipush 103, 2) := by decide +kernel
theorem dX12_init_620 : decode cX12_init 620 = .ok (.bipush 117, 2) := by decide +kernel
theorem dX12_init_622 : decode cX12_init 622 = .ok (.bipush 115, 2) := by decide +kernel
theorem dX12_init_624 : decode cX12_init 624 = .ok (.bipush 116, 2) := by decide +kernel
theorem dX12_init_626 : decode cX12_init 626 = .ok (.bipush 115, 2) := by decide +kernel
theorem dX12_init_628 : decode cX12_init 628 = .ok (.iconst 0, 1) := by decide +kernel
theorem dX12_init_629 : decode cX12_init 629 = .ok (.iconst 0, 1) := by decide +kernel
theorem dX12_init_630 : decode cX12_init 630 = .ok (.invokestatic 183, 3) := by decide +kernel
theorem dX12_init_633 : decode cX12_init 633 = .ok (.lastore, 1) := by decide +kernel
theorem dX12_init_634 : decode cX12_init 634 = .ok (.aload_n 0, 1) := by decide +kernel
theorem dX12_init_635 : decode cX12_init 635 = .ok (.getfield 34, 3) := by decide +kernel
theorem dX12_init_638 : decode cX12_init 638 = .ok (.bipush 9, 2) := by decide +kernel
theorem dX12_init_640 : decode cX12_init 640 = .ok (.bipush 108, 2) := by decide +kernel
theorem dX12_init_642 : decode cX12_init 642 = .ok (.bipush 101, 2) := by decide +kernel
theorem dX12_init_644 : decode cX12_init 644 = .ok (.bipush 97, 2) := by decide +kernel
theorem dX12_init_646 : decode cX12_init 646 = .ok (.bipush 107, 2) := by decide +kernel
theorem dX12_init_648 : decode cX12_init 648 = .ok (.iconst 0, 1) := by decide +kernel
theorem dX12_init_649 : decode cX12_init 649 = .ok (.iconst 0, 1) := by decide +kernel
theorem dX12_init_650 : decode cX12_init 650 = .ok (.iconst 0, 1) := by decide +kernel
theorem dX12_init_651 : decode cX12_init 651 = .ok (.invokestatic 183, 3) := by decide +kernel
theorem dX12_init_654 : decode cX12_init 654 = .ok (.lastore, 1) := by decide +kernel
theorem dX12_init_655 : decode cX12_init 655 = .ok (.aload_n 0, 1) := by decide +kernel
theorem dX12_init_656 : decode cX12_init 656 = .ok (.getfield 34, 3) := by decide +kernel
theorem dX12_init_659 : decode cX12_init 659 = .ok (.bipush 10, 2) := by decide +kernel
theorem dX12_init_661 : decode cX12_init 661 = .ok (.bipush 115, 2) := by decide +kernel
theorem dX12_init_663 : decode cX12_init 663 = .ok (.bipush 101, 2) := by decide +kernel
theorem dX12_init_665 : decode cX12_init 665 = .ok (.bipush 101, 2) := by decide +kernel
theorem dX12_init_667 : decode cX12_init 667 = .ok (.bipush 100, 2) := by decide +kernel
theorem dX12_init_669 : decode cX12_init 669 = .ok (.iconst 0, 1) := by decide +kernel
theorem dX12_init_670 : decode cX12_init 670 = .ok (.iconst 0, 1) := by decide +kernel
theorem dX12_init_671 : decode cX12_init 671 = .ok (.iconst 0, 1) := by decide +kernel
theorem dX12_init_672 : decode cX12_init 672 = .ok (.invokestatic 183, 3) := by decide +kernel
theorem dX12_init_675 : decode cX12_init 675 = .ok (.lastore, 1) := by decide +kernel
theorem dX12_init_676 : decode cX12_init 676 = .ok (.aload_n 0, 1) := by decide +kernel
theorem dX12_init_677 : decode cX12_init 677 = .ok (.getfield 34, 3) := by decide +kernel
theorem dX12_init_680 : decode cX12_init 680 = .ok (.bipush 11, 2) := by decide +kernel
theorem dX12_init_682 : decode cX12_init 682 = .ok (.bipush 105, 2) := by decide +kernel
theorem dX12_init_684 : decode cX12_init 684 = .ok (.bipush 102, 2) := by decide +kernel
theorem dX12_init_686 : decode cX12_init 686 = .ok (.iconst 0, 1) := by decide +kernel
theorem dX12_init_687 : decode cX12_init 687 = .ok (.iconst 0, 1) := by decide +kernel
theorem dX12_init_688 : decode cX12_init 688 = .ok (.iconst 0, 1) := by decide +kernel
theorem dX12_init_689 : decode cX12_init 689 = .ok (.iconst 0, 1) := by decide +kernel
theorem dX12_init_690 : decode cX12_init 690 = .ok (.iconst 0, 1) := by decide +kernel
theorem dX12_init_691 : decode cX12_init 691 = .ok (.invokestatic 183, 3) := by decide +kernel
theorem dX12_init_694 : decode cX12_init 694 = .ok (.lastore, 1) := by decide +kernel
theorem dX12_init_695 : decode cX12_init 695 = .ok (.aload_n 0, 1) := by decide +kernel
theorem dX12_init_696 : decode cX12_init 696 = .ok (.getfield 34, 3) := by decide +kernel
theorem dX12_init_699 : decode cX12_init 699 = .ok (.bipush 12, 2) := by decide +kernel
theorem dX12_init_701 : decode cX12_init 701 = .ok (.bipush 116, 2) := by decide +kernel
theorem dX12_init_703 : decode cX12_init 703 = .ok (.bipush 104, 2) := by decide +kernel
theorem dX12_init_705 : decode cX12_init 705 = .ok (.bipush 101, 2) := by decide +kernel
theorem dX12_init_707 : decode cX12_init 707 = .ok (.bipush 110, 2) := by decide +kernel
theorem dX12_init_709 : decode cX12_init 709 = .ok (.iconst 0, 1) := by decide +kernel
theorem dX12_init_710 : decode cX12_init 710 = .ok (.iconst 0, 1) := by decide +kernel
theorem dX12_init_711 : decode cX12_init 711 = .ok (.iconst 0, 1) := by decide +kernel
theorem dX12_init_712 : decode cX12_init 712 = .ok (.invokestatic 183, 3) := by decide +kernel
theorem dX12_init_715 : decode cX12_init 715 = .ok (.lastore, 1) := by decide +kernel
theorem dX12_init_716 : decode cX12_init 716 = .ok (.aload_n 0, 1) := by decide +kernel
theorem dX12_init_717 : decode cX12_init 717 = .ok (.getfield 34, 3) := by decide +kernel
theorem dX12_init_720 : decode cX12_init 720 = .ok (.bipush 13, 2) := by decide +kernel
theorem dX12_init_722 : decode cX12_init 722 = .ok (.bipush 101, 2) := by decide +kernel
theorem dX12_init_724 : decode cX12_init 724 = .ok (.bipush 108, 2) := by decide +kernel
theorem dX12_init_726 : decode cX12_init 726 = .ok (.bipush 115, 2) := by decide +kernel
theorem dX12_init_728 : decode cX12_init 728 = .ok (.bipush 101, 2) := by decide +kernel
theorem dX12_init_730 : decode cX12_init 730 = .ok (.iconst 0, 1) := by decide +kernel
theorem dX12_init_731 : decode cX12_init 731 = .ok (.iconst 0, 1) := by decide +kernel
theorem dX12_init_732 : decode cX12_init 732 = .ok (.iconst 0, 1) := by decide +kernel
theorem dX12_init_733 : decode cX12_init 733 = .ok (.invokestatic 183, 3) := by decide +kernel
theorem dX12_init_736 : decode cX12_init 736 = .ok (.lastore, 1) := by decide +kernel
theorem dX12_init_737 : decode cX12_init 737 = .ok (.aload_n 0, 1) := by decide +kernel
theorem dX12_init_738 : decode cX12_init 738 = .ok (.getfield 34, 3) := by decide +kernel
theorem dX12_init_741 : decode cX12_init 741 = .ok (.bipush 14, 2) := by decide +kernel
theorem dX12_init_743 : decode cX12_init 743 = .ok (.bipush 102, 2) := by decide +kernel
theorem dX12_init_745 : decode cX12_init 745 = .ok (.bipush 111, 2) := by decide +kernel
theorem dX12_init_747 : decode cX12_init 747 = .ok (.bipush 103, 2) := by decide +kernel
theorem dX12_init_749 : decode cX12_init 749 = .ok (.iconst 0, 1) := by decide +kernel
theorem dX12_init_750 : decode cX12_init 750 = .ok (.iconst 0, 1) := by decide +kernel
theorem dX12_init_751 : decode cX12_init 751 = .ok (.iconst 0, 1) := by decide +kernel
theorem dX12_init_752 : decode cX12_init 752 = .ok (.iconst 0, 1) := by decide +kernel
theorem dX12_init_753 : decode cX12_init 753 = .ok (.invokestatic 183, 3) := by decide +kernel
theorem dX12_init_756 : decode cX12_init 756 = .ok (.lastore, 1) := by decide +kernel
theorem dX12_init_757 : decode cX12_init 757 = .ok (.aload_n 0, 1) := by decide +kernel
theorem dX12_init_758 : decode cX12_init 758 = .ok (.getfield 34, 3) := by decide +kernel
theorem dX12_init_761 : decode cX12_init 761 = .ok (.bipush 15, 2) := by decide +kernel
theorem dX12_init_763 : decode cX12_init 763 = .ok (.bipush 104, 2) := by decide +kernel
theorem dX12_init_765 : decode cX12_init 765 = .ok (.bipush 111, 2) := by decide +kernel
theorem dX12_init_767 : decode cX12_init 767 = .ok (.bipush 117, 2) := by decide +kernel
theorem dX12_init_769 : decode cX12_init 769 = .ok (.bipush 114, 2) := by decide +kernel
theorem dX12_init_771 : decode cX12_init 771 = .ok (.iconst 0, 1) := by decide +kernel
theorem dX12_init_772 : decode cX12_init 772 = .ok (.iconst 0, 1) := by decide +kernel
theorem dX12_init_773 : decode cX12_init 773 = .ok (.iconst 0, 1) := by decide +kernel
theorem dX12_init_774 : decode cX12_init 774 = .ok (.invokestatic 183, 3) := by decide +kernel
theorem dX12_init_777 : decode cX12_init 777 = .ok (.lastore, 1) := by decide +kernel
theorem dX12_init_778 : decode cX12_init 778 = .ok (.aload_n 0, 1) := by decide +kernel
theorem dX12_init_779 : decode cX12_init 779 = .ok (.getfield 34, 3) := by decide +kernel
theorem dX12_init_782 : decode cX12_init 782 = .ok (.bipush 16, 2) := by decide +kernel
theorem dX12_init_784 : decode cX12_init 784 = .ok (.bipush 100, 2) := by decide +kernel
theorem dX12_init_786 : decode cX12_init 786 = .ok (.bipush 97, 2) := by decide +kernel
theorem dX12_init_788 : decode cX12_init 788 = .ok (.bipush 121, 2) := by decide +kernel
theorem dX12_init_790 : decode cX12_init 790 = .ok (.iconst 0, 1) := by decide +kernel
theorem dX12_init_791 : decode cX12_init 791 = .ok (.iconst 0, 1) := by decide +kernel
theorem dX12_init_792 : decode cX12_init 792 = .ok (.iconst 0, 1) := by decide +kernel
theorem dX12_init_793 : decode cX12_init 793 = .ok (.iconst 0, 1) := by decide +kernel
theorem dX12_init_794 : decode cX12_init 794 = .ok (.invokestatic 183, 3) := by decide +kernel
theorem dX12_init_797 : decode cX12_init 797 = .ok (.lastore, 1) := by decide +kernel
theorem dX12_init_798 : decode cX12_init 798 = .ok (.aload_n 0, 1) := by decide +kernel
theorem dX12_init_799 : decode cX12_init 799 = .ok (.getfield 34, 3) := by decide +kernel
theorem dX12_init_802 : decode cX12_init 802 = .ok (.bipush 17, 2) := by decide +kernel
theorem dX12_init_804 : decode cX12_init 804 = .ok (.bipush 97, 2) := by decide +kernel
theorem dX12_init_806 : decode cX12_init 806 = .ok (.bipush 99, 2) := by decide +kernel
theorem dX12_init_808 : decode cX12_init 808 = .ok (.bipush 114, 2) := by decide +kernel
theorem dX12_init_810 : decode cX12_init 810 = .ok (.bipush 111, 2) := by decide +kernel
theorem dX12_init_812 : decode cX12_init 812 = .ok (.bipush 115, 2) := by decide +kernel
theorem dX12_init_814 : decode cX12_init 814 = .ok (.bipush 115, 2) := by decide +kernel
theorem dX12_init_816 : decode cX12_init 816 = .ok (.iconst 0, 1) := by decide +kernel
theorem dX12_init_817 : decode cX12_init 817 = .ok (.invokestatic 183, 3) := by decide +kernel
theorem dX12_init_820 : decode cX12_init 820 = .ok (.lastore, 1) := by decide +kernel
theorem dX12_init_821 : decode cX12_init 821 = .ok (.aload_n 0, 1) := by decide +kernel
theorem dX12_init_822 : decode cX12_init 822 = .ok (.getfield 34, 3) := by decide +kernel
theorem dX12_init_825 : decode cX12_init 825 = .ok (.bipush 18, 2) := by decide +kernel
theorem dX12_init_827 : decode cX12_init 827 = .ok (.bipush 100, 2) := by decide +kernel
theorem dX12_init_829 : decode cX12_init 829 = .ok (.bipush 111, 2) := by decide +kernel
theorem dX12_init_831 : decode cX12_init 831 = .ok (.bipush 119, 2) := by decide +kernel
theorem dX12_init_833 : decode cX12_init 833 = .ok (.bipush 110, 2) := by decide +kernel
theorem dX12_init_835 : decode cX12_init 835 = .ok (.iconst 0, 1) := by decide +kernel
theorem dX12_init_836 : decode cX12_init 836 = .ok (.iconst 0, 1) := by decide +kernel
theorem dX12_init_837 : decode cX12_init 837 = .ok (.iconst 0, 1) := by decide +kernel
theorem dX12_init_838 : decode cX12_init 838 = .ok (.invokestatic 183, 3) := by decide +kernel
theorem dX12_init_841 : decode cX12_init 841 = .ok (.lastore, 1) := by decide +kernel
theorem dX12_init_842 : decode cX12_init 842 = .ok (.aload_n 0, 1) := by decide +kernel
theorem dX12_init_843 : decode cX12_init 843 = .ok (.getfield 34, 3) := by decide +kernel
theorem dX12_init_846 : decode cX12_init 846 = .ok (.bipush 19, 2) := by decide +kernel
theorem dX12_init_848 : decode cX12_init 848 = .ok (.bipush 119, 2) := by decide +kernel
theorem dX12_init_850 : decode cX12_init 850 = .ok (.bipush 104, 2) := by decide +kernel
theorem dX12_init_852 : decode cX12_init 852 = .ok (.bipush 111, 2) := by decide +kernel
theorem dX12_init_854 : decode cX12_init 854 = .ok (.bipush 115, 2) := by decide +kernel
theorem dX12_init_856 : decode cX12_init 856 = .ok (.bipush 101, 2) := by decide +kernel
theorem dX12_init_858 : decode cX12_init 858 = .ok (.iconst 0, 1) := by decide +kernel
theorem dX12_init_859 : decode cX12_init 859 = .ok (.iconst 0, 1) := by decide +kernel
theorem dX12_init_860 : decode cX12_init 860 = .ok (.invokestatic 183, 3) := by decide +kernel
theorem dX12_init_863 : decode cX12_init 863 = .ok (.lastore, 1) := by decide +kernel
theorem dX12_init_864 : decode cX12_init 864 = .ok (.aload_n 0, 1) := by decide +kernel
theorem dX12_init_865 : decode cX12_init 865 = .ok (.getfield 34, 3) := by decide +kernel
theorem dX12_init_868 : decode cX12_init 868 = .ok (.bipush 20, 2) := by decide +kernel
theorem dX12_init_870 : decode cX12_init 870 = .ok (.bipush 115, 2) := by decide +kernel
theorem dX12_init_872 : decode cX12_init 872 = .ok (.bipush 116, 2) := by decide +kernel
theorem dX12_init_874 : decode cX12_init 874 = .ok (.bipush 111, 2) := by decide +kernel
theorem dX12_init_876 : decode cX12_init 876 = .ok (.bipush 114, 2) := by decide +kernel
theorem dX12_init_878 : decode cX12_init 878 = .ok (.bipush 101, 2) := by decide +kernel
theorem dX12_init_880 : decode cX12_init 880 = .ok (.iconst 0, 1) := by decide +kernel
theorem dX12_init_881 : decode cX12_init 881 = .ok (.iconst 0, 1) := by decide +kernel
theorem dX12_init_882 : decode cX12_init 882 = .ok (.invokestatic 183, 3) := by decide +kernel
theorem dX12_init_885 : decode cX12_init 885 = .ok (.lastore, 1) := by decide +kernel
theorem dX12_init_886 : decode cX12_init 886 = .ok (.aload_n 0, 1) := by decide +kernel
theorem dX12_init_887 : decode cX12_init 887 = .ok (.getfield 34, 3) := by decide +kernel
theorem dX12_init_890 : decode cX12_init 890 = .ok (.bipush 21, 2) := by decide +kernel
theorem dX12_init_892 : decode cX12_init 892 = .ok (.bipush 114, 2) := by decide +kernel
theorem dX12_init_894 : decode cX12_init 894 = .ok (.bipush 97, 2) := by decide +kernel
theorem dX12_init_896 : decode cX12_init 896 = .ok (.bipush 116, 2) := by decide +kernel
theorem dX12_init_898 : decode cX12_init 898 = .ok (.bipush 105, 2) := by decide +kernel
theorem dX12_init_900 : decode cX12_init 900 = .ok (.bipush 111, 2) := by decide +kernel
theorem dX12_init_902 : decode cX12_init 902 = .ok (.bipush 110, 2) := by decide +kernel
theorem dX12_init_904 : decode cX12_init 904 = .ok (.iconst 0, 1) := by decide +kernel
theorem dX12_init_905 : decode cX12_init 905 = .ok (.invokestatic 183, 3) := by decide +kernel
theorem dX12_init_908 : decode cX12_init 908 = .ok (.lastore, 1) := by decide +kernel
theorem dX12_init_909 : decode cX12_init 909 = .ok (.aload_n 0, 1) := by decide +kernel
theorem dX12_init_910 : decode cX12_init 910 = .ok (.getfield 34, 3) := by decide +kernel
theorem dX12_init_913 : decode cX12_init 913 = .ok (.bipush 22, 2) := by decide +kernel
theorem dX12_init_915 : decode cX12_init 915 = .ok (.bipush 98, 2) := by decide +kernel
theorem dX12_init_917 : decode cX12_init 917 = .ok (.bipush 108, 2) := by decide +kernel
theorem dX12_init_919 : decode cX12_init 919 = .ok (.bipush 111, 2) := by decide +kernel
theorem dX12_init_921 : decode cX12_init 921 = .ok (.bipush 119, 2) := by decide +kernel
theorem dX12_init_923 : decode cX12_init 923 = .ok (.bipush 115, 2) := by decide +kernel
theorem dX12_init_925 : decode cX12_init 925 = .ok (.iconst 0, 1) := by decide +kernel
theorem dX12_init_926 : decode cX12_init 926 = .ok (.iconst 0, 1) := by decide +kernel
theorem dX12_init_927 : decode cX12_init 927 = .ok (.invokestatic 183, 3) := by decide +kernel
theorem dX12_init_930 : decode cX12_init 930 = .ok (.lastore, 1) := by decide +kernel
theorem dX12_init_931 : decode cX12_init 931 = .ok (.aload_n 0, 1) := by decide +kernel
theorem dX12_init_932 : decode cX12_init 932 = .ok (.invokevirtual 187, 3) := by decide +kernel
theorem dX12_init_935 : decode cX12_init 935 = .ok (.aload_n 0, 1) := by decide +kernel
theorem dX12_init_936 : decode cX12_init 936 = .ok (.invokevirtual 190, 3) := by decide +kernel
theorem dX12_init_939 : decode cX12_init 939 = .ok (.return_, 1) := by decide +kernel
theorem dX12_feed_0 : decode cX12_feed 0 = .ok (.aload_n 0, 1) := by decide +kernel
theorem dX12_feed_1 : decode cX12_feed 1 = .ok (.getfield 193, 3) := by decide +kernel
theorem dX12_feed_4 : decode cX12_feed 4 = .ok (.bipush 20, 2) := by decide +kernel
theorem dX12_feed_6 : decode cX12_feed 6 = .ok (.iadd, 1) := by decide +kernel
theorem dX12_feed_7 : decode cX12_feed 7 = .ok (.sipush 2000, 3) := by decide +kernel
theorem dX12_feed_10 : decode cX12_feed 10 = .ok (.if_icmp .le 5, 3) := by decide +kernel
theorem dX12_feed_13 : decode cX12_feed 13 = .ok (.iconst (-1), 1) := by decide +kernel
theorem dX12_feed_14 : decode cX12_feed 14 = .ok (.ireturn, 1) := by decide +kernel
theorem dX12_feed_15 : decode cX12_feed 15 = .ok (.aload_n 0, 1) := by decide +kernel
theorem dX12_feed_16 : decode cX12_feed 16 = .ok (.iload_n 1, 1) := by decide +kernel
theorem dX12_feed_17 : decode cX12_feed 17 = .ok (.invokevirtual 196, 3) := by decide +kernel
theorem dX12_feed_20 : decode cX12_feed 20 = .ok (.aload_n 0, 1) := by decide +kernel
theorem dX12_feed_21 : decode cX12_feed 21 = .ok (.iload_n 2, 1) := by decide +kernel
theorem dX12_feed_22 : decode cX12_feed 22 = .ok (.invokevirtual 196, 3) := by decide +kernel
theorem dX12_feed_25 : decode cX12_feed 25 = .ok (.aload_n 0, 1) := by decide +kernel
theorem dX12_feed_26 : decode cX12_feed 26 = .ok (.iload_n 3, 1) := by decide +kernel
theorem dX12_feed_27 : decode cX12_feed 27 = .ok (.invokevirtual 196, 3) := by decide +kernel
theorem dX12_feed_30 : decode cX12_feed 30 = .ok (.aload_n 0, 1) := by decide +kernel
theorem dX12_feed_31 : decode cX12_feed 31 = .ok (.iload 4, 2) := by decide +kernel
theorem dX12_feed_33 : decode cX12_feed 33 = .ok (.invokevirtual 196, 3) := by decide +kernel
theorem dX12_feed_36 : decode cX12_feed 36 = .ok (.aload_n 0, 1) := by decide +kernel
theorem dX12_feed_37 : decode cX12_feed 37 = .ok (.iload 5, 2) := by decide +kernel
theorem dX12_feed_39 : decode cX12_feed 39 = .ok (.invokevirtual 196, 3) := by decide +kernel
theorem dX12_feed_42 : decode cX12_feed 42 = .ok (.aload_n 0, 1) := by decide +kernel
theorem dX12_feed_43 : decode cX12_feed 43 = .ok (.getfield 193, 3) := by decide +kernel
theorem dX12_feed_46 : decode cX12_feed 46 = .ok (.ireturn, 1) := by decide +kernel
theorem dX12_put_0 : decode cX12_put 0 = .ok (.bipush 24, 2) := by decide +kernel
theorem dX12_put_2 : decode cX12_put 2 = .ok (.istore_n 2, 1) := by decide +kernel
theorem dX12_put_3 : decode cX12_put 3 = .ok (.iload_n 2, 1) := by decide +kernel
theorem dX12_put_4 : decode cX12_put 4 = .ok (.ifCond .lt 32, 3) := by decide +kernel
theorem dX12_put_7 : decode cX12_put 7 = .ok (.aload_n 0, 1) := by decide +kernel
theorem dX12_put_8 : decode cX12_put 8 = .ok (.getfield 13, 3) := by decide +kernel
theorem dX12_put_11 : decode cX12_put 11 = .ok (.aload_n 0, 1) := by decide +kernel
theorem dX12_put_12 : decode cX12_put 12 = .ok (.getfield 193, 3) := by decide +kernel
theorem dX12_put_15 : decode cX12_put 15 = .ok (.iload_n 1, 1) := by decide +kernel
theorem dX12_put_16 : decode cX12_put 16 = .ok (.iload_n 2, 1) := by decide +kernel
theorem dX12_put_17 : decode cX12_put 17 = .ok (.ishr, 1) := by decide +kernel
theorem dX12_put_18 : decode cX12_put 18 = .ok (.i2b, 1) := by decide +kernel
theorem dX12_put_19 : decode cX12_put 19 = .ok (.bastore, 1) := by decide +kernel
theorem dX12_put_20 : decode cX12_put 20 = .ok (.aload_n 0, 1) := by decide +kernel
theorem dX12_put_21 : decode cX12_put 21 = .ok (.dup, 1) := by decide +kernel
theorem dX12_put_22 : decode cX12_put 22 = .ok (.getfield 193, 3) := by decide +kernel
theorem dX12_put_25 : decode cX12_put 25 = .ok (.iconst 1, 1) := by decide +kernel
theorem dX12_put_26 : decode cX12_put 26 = .ok (.iadd, 1) := by decide +kernel
theorem dX12_put_27 : decode cX12_put 27 = .ok (.putfield 193, 3) := by decide +kernel
theorem dX12_put_30 : decode cX12_put 30 = .ok (.iinc 2 (-8), 3) := by decide +kernel
theorem dX12_put_33 : decode cX12_put 33 = .ok (.goto (-30), 3) := by decide +kernel
theorem dX12_put_36 : decode cX12_put 36 = .ok (.return_, 1) := by decide +kernel
theorem dX12_back_0 : decode cX12_back 0 = .ok (.iload_n 1, 1) := by decide +kernel
theorem dX12_back_1 : decode cX12_back 1 = .ok (.ifCond .lt 11, 3) := by decide +kernel
theorem dX12_back_4 : decode cX12_back 4 = .ok (.iload_n 1, 1) := by decide +kernel
theorem dX12_back_5 : decode cX12_back 5 = .ok (.aload_n 0, 1) := by decide +kernel
theorem dX12_back_6 : decode cX12_back 6 = .ok (.getfield 193, 3) := by decide +kernel
theorem dX12_back_9 : decode cX12_back 9 = .ok (.if_icmp .le 5, 3) := by decide +kernel
theorem dX12_back_12 : decode cX12_back 12 = .ok (.iconst (-1), 1) := by decide +kernel
theorem dX12_back_13 : decode cX12_back 13 = .ok (.ireturn, 1) := by decide +kernel
theorem dX12_back_14 : decode cX12_back 14 = .ok (.aload_n 0, 1) := by decide +kernel
theorem dX12_back_15 : decode cX12_back 15 = .ok (.dup, 1) := by decide +kernel
theorem dX12_back_16 : decode cX12_back 16 = .ok (.getfield 193, 3) := by decide +kernel
theorem dX12_back_19 : decode cX12_back 19 = .ok (.iload_n 1, 1) := by decide +kernel
theorem dX12_back_20 : decode cX12_back 20 = .ok (.isub, 1) := by decide +kernel
theorem dX12_back_21 : decode cX12_back 21 = .ok (.putfield 193, 3) := by decide +kernel
theorem dX12_back_24 : decode cX12_back 24 = .ok (.aload_n 0, 1) := by decide +kernel
theorem dX12_back_25 : decode cX12_back 25 = .ok (.getfield 193, 3) := by decide +kernel
theorem dX12_back_28 : decode cX12_back 28 = .ok (.ireturn, 1) := by decide +kernel
theorem dX12_byteAt_0 : decode cX12_byteAt 0 = .ok (.iload_n 1, 1) := by decide +kernel
theorem dX12_byteAt_1 : decode cX12_byteAt 1 = .ok (.aload_n 0, 1) := by decide +kernel
theorem dX12_byteAt_2 : decode cX12_byteAt 2 = .ok (.getfield 199, 3) := by decide +kernel
theorem dX12_byteAt_5 : decode cX12_byteAt 5 = .ok (.if_icmp .ge 16, 3) := by decide +kernel
theorem dX12_byteAt_8 : decode cX12_byteAt 8 = .ok (.aload_n 0, 1) := by decide +kernel
theorem dX12_byteAt_9 : decode cX12_byteAt 9 = .ok (.getfield 17, 3) := by decide +kernel
theorem dX12_byteAt_12 : decode cX12_byteAt 12 = .ok (.iload_n 1, 1) := by decide +kernel
theorem dX12_byteAt_13 : decode cX12_byteAt 13 = .ok (.baload, 1) := by decide +kernel
theorem dX12_byteAt_14 : decode cX12_byteAt 14 = .ok (.sipush 255, 3) := by decide +kernel
theorem dX12_byteAt_17 : decode cX12_byteAt 17 = .ok (.iand, 1) := by decide +kernel
theorem dX12_byteAt_18 : decode cX12_byteAt 18 = .ok (.goto 4, 3) := by decide +kernel
theorem dX12_byteAt_21 : decode cX12_byteAt 21 = .ok (.iconst 0, 1) := by decide +kernel
theorem dX12_byteAt_22 : decode cX12_byteAt 22 = .ok (.ireturn, 1) := by decide +kernel
theorem dX12_isDigit_0 : decode cX12_isDigit 0 = .ok (.iload_n 0, 1) := by decide +kernel
theorem dX12_isDigit_1 : decode cX12_isDigit 1 = .ok (.bipush 48, 2) := by decide +kernel
theorem dX12_isDigit_3 : decode cX12_isDigit 3 = .ok (.if_icmp .lt 13, 3) := by decide +kernel
theorem dX12_isDigit_6 : decode cX12_isDigit 6 = .ok (.iload_n 0, 1) := by decide +kernel
theorem dX12_isDigit_7 : decode cX12_isDigit 7 = .ok (.bipush 57, 2) := by decide +kernel
theorem dX12_isDigit_9 : decode cX12_isDigit 9 = .ok (.if_icmp .gt 7, 3) := by decide +kernel
theorem dX12_isDigit_12 : decode cX12_isDigit 12 = .ok (.iconst 1, 1) := by decide +kernel
theorem dX12_isDigit_13 : decode cX12_isDigit 13 = .ok (.goto 4, 3) := by decide +kernel
theorem dX12_isDigit_16 : decode cX12_isDigit 16 = .ok (.iconst 0, 1) := by decide +kernel
theorem dX12_isDigit_17 : decode cX12_isDigit 17 = .ok (.ireturn, 1) := by decide +kernel
theorem dX12_isLetter_0 : decode cX12_isLetter 0 = .ok (.iload_n 0, 1) := by decide +kernel
theorem dX12_isLetter_1 : decode cX12_isLetter 1 = .ok (.bipush 97, 2) := by decide +kernel
theorem dX12_isLetter_3 : decode cX12_isLetter 3 = .ok (.if_icmp .lt 13, 3) := by decide +kernel
theorem dX12_isLetter_6 : decode cX12_isLetter 6 = .ok (.iload_n 0, 1) := by decide +kernel
theorem dX12_isLetter_7 : decode cX12_isLetter 7 = .ok (.bipush 122, 2) := by decide +kernel
theorem dX12_isLetter_9 : decode cX12_isLetter 9 = .ok (.if_icmp .gt 7, 3) := by decide +kernel
theorem dX12_isLetter_12 : decode cX12_isLetter 12 = .ok (.iconst 1, 1) := by decide +kernel
theorem dX12_isLetter_13 : decode cX12_isLetter 13 = .ok (.goto 4, 3) := by decide +kernel
theorem dX12_isLetter_16 : decode cX12_isLetter 16 = .ok (.iconst 0, 1) := by decide +kernel
theorem dX12_isLetter_17 : decode cX12_isLetter 17 = .ok (.ireturn, 1) := by decide +kernel
theorem dX12_appends_0 : decode cX12_appends 0 = .ok (.iload_n 2, 1) := by decide +kernel
theorem dX12_appends_1 : decode cX12_appends 1 = .ok (.ifCond .ne 7, 3) := by decide +kernel
theorem dX12_appends_4 : decode cX12_appends 4 = .ok (.lload_n 0, 1) := by decide +kernel
theorem dX12_appends_5 : decode cX12_appends 5 = .ok (.goto 16, 3) := by decide +kernel
theorem dX12_appends_8 : decode cX12_appends 8 = .ok (.ldc2_w 202, 3) := by decide +kernel
theorem dX12_appends_11 : decode cX12_appends 11 = .ok (.lload_n 0, 1) := by decide +kernel
theorem dX12_appends_12 : decode cX12_appends 12 = .ok (.lmul, 1) := by decide +kernel
theorem dX12_appends_13 : decode cX12_appends 13 = .ok (.iload_n 2, 1) := by decide +kernel
theorem dX12_appends_14 : decode cX12_appends 14 = .ok (.bipush 97, 2) := by decide +kernel
theorem dX12_appends_16 : decode cX12_appends 16 = .ok (.isub, 1) := by decide +kernel
theorem dX12_appends_17 : decode cX12_appends 17 = .ok (.iconst 1, 1) := by decide +kernel
theorem dX12_appends_18 : decode cX12_appends 18 = .ok (.iadd, 1) := by decide +kernel
theorem dX12_appends_19 : decode cX12_appends 19 = .ok (.i2l, 1) := by decide +kernel
theorem dX12_appends_20 : decode cX12_appends 20 = .ok (.ladd, 1) := by decide +kernel
theorem dX12_appends_21 : decode cX12_appends 21 = .ok (.lreturn, 1) := by decide +kernel
theorem dX12_word_0 : decode cX12_word 0 = .ok (.lconst 0, 1) := by decide +kernel
theorem dX12_word_1 : decode cX12_word 1 = .ok (.iload_n 0, 1) := by decide +kernel
theorem dX12_word_2 : decode cX12_word 2 = .ok (.invokestatic 204, 3) := by decide +kernel
theorem dX12_word_5 : decode cX12_word 5 = .ok (.iload_n 1, 1) := by decide +kernel
theorem dX12_word_6 : decode cX12_word 6 = .ok (.invokestatic 204, 3) := by decide +kernel
theorem dX12_word_9 : decode cX12_word 9 = .ok (.iload_n 2, 1) := by decide +kernel
theorem dX12_word_10 : decode cX12_word 10 = .ok (.invokestatic 204, 3) := by decide +kernel
theorem dX12_word_13 : decode cX12_word 13 = .ok (.iload_n 3, 1) := by decide +kernel
theorem dX12_word_14 : decode cX12_word 14 = .ok (.invokestatic 204, 3) := by decide +kernel
theorem dX12_word_17 : decode cX12_word 17 = .ok (.iload 4, 2) := by decide +kernel
theorem dX12_word_19 : decode cX12_word 19 = .ok (.invokestatic 204, 3) := by decide +kernel
theorem dX12_word_22 : decode cX12_word 22 = .ok (.iload 5, 2) := by decide +kernel
theorem dX12_word_24 : decode cX12_word 24 = .ok (.invokestatic 204, 3) := by decide +kernel
theorem dX12_word_27 : decode cX12_word 27 = .ok (.iload 6, 2) := by decide +kernel
theorem dX12_word_29 : decode cX12_word 29 = .ok (.invokestatic 204, 3) := by decide +kernel
theorem dX12_word_32 : decode cX12_word 32 = .ok (.lreturn, 1) := by decide +kernel
theorem dX12_token_0 : decode cX12_token 0 = .ok (.aload_n 0, 1) := by decide +kernel
theorem dX12_token_1 : decode cX12_token 1 = .ok (.getfield 20, 3) := by decide +kernel
theorem dX12_token_4 : decode cX12_token 4 = .ok (.aload_n 0, 1) := by decide +kernel
theorem dX12_token_5 : decode cX12_token 5 = .ok (.getfield 208, 3) := by decide +kernel
theorem dX12_token_8 : decode cX12_token 8 = .ok (.iload_n 1, 1) := by decide +kernel
theorem dX12_token_9 : decode cX12_token 9 = .ok (.iastore, 1) := by decide +kernel
theorem dX12_token_10 : decode cX12_token 10 = .ok (.aload_n 0, 1) := by decide +kernel
theorem dX12_token_11 : decode cX12_token 11 = .ok (.getfield 24, 3) := by decide +kernel
theorem dX12_token_14 : decode cX12_token 14 = .ok (.aload_n 0, 1) := by decide +kernel
theorem dX12_token_15 : decode cX12_token 15 = .ok (.getfield 208, 3) := by decide +kernel
theorem dX12_token_18 : decode cX12_token 18 = .ok (.iload_n 2, 1) := by decide +kernel
theorem dX12_token_19 : decode cX12_token 19 = .ok (.iastore, 1) := by decide +kernel
theorem dX12_token_20 : decode cX12_token 20 = .ok (.aload_n 0, 1) := by decide +kernel
theorem dX12_token_21 : decode cX12_token 21 = .ok (.getfield 27, 3) := by decide +kernel
theorem dX12_token_24 : decode cX12_token 24 = .ok (.aload_n 0, 1) := by decide +kernel
theorem dX12_token_25 : decode cX12_token 25 = .ok (.getfield 208, 3) := by decide +kernel
theorem dX12_token_28 : decode cX12_token 28 = .ok (.iload_n 3, 1) := by decide +kernel
theorem dX12_token_29 : decode cX12_token 29 = .ok (.iastore, 1) := by decide +kernel
theorem dX12_token_30 : decode cX12_token 30 = .ok (.aload_n 0, 1) := by decide +kernel
theorem dX12_token_31 : decode cX12_token 31 = .ok (.getfield 30, 3) := by decide +kernel
theorem dX12_token_34 : decode cX12_token 34 = .ok (.aload_n 0, 1) := by decide +kernel
theorem dX12_token_35 : decode cX12_token 35 = .ok (.getfield 208, 3) := by decide +kernel
theorem dX12_token_38 : decode cX12_token 38 = .ok (.lload 4, 2) := by decide +kernel
theorem dX12_token_40 : decode cX12_token 40 = .ok (.lastore, 1) := by decide +kernel
theorem dX12_token_41 : decode cX12_token 41 = .ok (.aload_n 0, 1) := by decide +kernel
theorem dX12_token_42 : decode cX12_token 42 = .ok (.dup, 1) := by decide +kernel
theorem dX12_token_43 : decode cX12_token 43 = .ok (.getfield 208, 3) := by decide +kernel
theorem dX12_token_46 : decode cX12_token 46 = .ok (.iconst 1, 1) := by decide +kernel
theorem dX12_token_47 : decode cX12_token 47 = .ok (.iadd, 1) := by decide +kernel
theorem dX12_token_48 : decode cX12_token 48 = .ok (.putfield 208, 3) := by decide +kernel
theorem dX12_token_51 : decode cX12_token 51 = .ok (.return_, 1) := by decide +kernel
theorem dX12_cut_0 : decode cX12_cut 0 = .ok (.aload_n 0, 1) := by decide +kernel
theorem dX12_cut_1 : decode cX12_cut 1 = .ok (.iconst 0, 1) := by decide +kernel
theorem dX12_cut_2 : decode cX12_cut 2 = .ok (.putfield 208, 3) := by decide +kernel
theorem dX12_cut_5 : decode cX12_cut 5 = .ok (.iconst 0, 1) := by decide +kernel
theorem dX12_cut_6 : decode cX12_cut 6 = .ok (.istore_n 1, 1) := by decide +kernel
theorem dX12_cut_7 : decode cX12_cut 7 = .ok (.aload_n 0, 1) := by decide +kernel
theorem dX12_cut_8 : decode cX12_cut 8 = .ok (.getfield 208, 3) := by decide +kernel
theorem dX12_cut_11 : decode cX12_cut 11 = .ok (.sipush 400, 3) := by decide +kernel
theorem dX12_cut_14 : decode cX12_cut 14 = .ok (.if_icmp .gt 280, 3) := by decide +kernel
theorem dX12_cut_17 : decode cX12_cut 17 = .ok (.aload_n 0, 1) := by decide +kernel
theorem dX12_cut_18 : decode cX12_cut 18 = .ok (.iload_n 1, 1) := by decide +kernel
theorem dX12_cut_19 : decode cX12_cut 19 = .ok (.invokevirtual 211, 3) := by decide +kernel
theorem dX12_cut_22 : decode cX12_cut 22 = .ok (.istore_n 2, 1) := by decide +kernel
theorem dX12_cut_23 : decode cX12_cut 23 = .ok (.iload_n 1, 1) := by decide +kernel
theorem dX12_cut_24 : decode cX12_cut 24 = .ok (.aload_n 0, 1) := by decide +kernel
theorem dX12_cut_25 : decode cX12_cut 25 = .ok (.getfield 199, 3) := by decide +kernel
theorem dX12_cut_28 : decode cX12_cut 28 = .ok (.if_icmp .lt 15, 3) := by decide +kernel
theorem dX12_cut_31 : decode cX12_cut 31 = .ok (.aload_n 0, 1) := by decide +kernel
theorem dX12_cut_32 : decode cX12_cut 32 = .ok (.iconst 0, 1) := by decide +kernel
theorem dX12_cut_33 : decode cX12_cut 33 = .ok (.aload_n 0, 1) := by decide +kernel
theorem dX12_cut_34 : decode cX12_cut 34 = .ok (.getfield 199, 3) := by decide +kernel
theorem dX12_cut_37 : decode cX12_cut 37 = .ok (.iconst 0, 1) := by decide +kernel
theorem dX12_cut_38 : decode cX12_cut 38 = .ok (.lconst 0, 1) := by decide +kernel
theorem dX12_cut_39 : decode cX12_cut 39 = .ok (.invokevirtual 215, 3) := by decide +kernel
theorem dX12_cut_42 : decode cX12_cut 42 = .ok (.return_, 1) := by decide +kernel
theorem dX12_cut_43 : decode cX12_cut 43 = .ok (.iload_n 2, 1) := by decide +kernel
theorem dX12_cut_44 : decode cX12_cut 44 = .ok (.bipush 9, 2) := by decide +kernel
theorem dX12_cut_46 : decode cX12_cut 46 = .ok (.if_icmp .eq 21, 3) := by decide +kernel
theorem dX12_cut_49 : decode cX12_cut 49 = .ok (.iload_n 2, 1) := by decide +kernel
theorem dX12_cut_50 : decode cX12_cut 50 = .ok (.bipush 10, 2) := by decide +kernel
theorem dX12_cut_52 : decode cX12_cut 52 = .ok (.if_icmp .eq 15, 3) := by decide +kernel
theorem dX12_cut_55 : decode cX12_cut 55 = .ok (.iload_n 2, 1) := by decide +kernel
theorem dX12_cut_56 : decode cX12_cut 56 = .ok (.bipush 13, 2) := by decide +kernel
theorem dX12_cut_58 : decode cX12_cut 58 = .ok (.if_icmp .eq 9, 3) := by decide +kernel
theorem dX12_cut_61 : decode cX12_cut 61 = .ok (.iload_n 2, 1) := by decide +kernel
theorem dX12_cut_62 : decode cX12_cut 62 = .ok (.bipush 32, 2) := by decide +kernel
theorem dX12_cut_64 : decode cX12_cut 64 = .ok (.if_icmp .ne 9, 3) := by decide +kernel
theorem dX12_cut_67 : decode cX12_cut 67 = .ok (.iinc 1 1, 3) := by decide +kernel
theorem dX12_cut_70 : decode cX12_cut 70 = .ok (.goto 221, 3) := by decide +kernel
theorem dX12_cut_73 : decode cX12_cut 73 = .ok (.iload_n 2, 1) := by decide +kernel
theorem dX12_cut_74 : decode cX12_cut 74 = .ok (.invokestatic 219, 3) := by decide +kernel
theorem dX12_cut_77 : decode cX12_cut 77 = .ok (.ifCond .eq 119, 3) := by decide +kernel
theorem dX12_cut_80 : decode cX12_cut 80 = .ok (.iconst 0, 1) := by decide +kernel
theorem dX12_cut_81 : decode cX12_cut 81 = .ok (.istore_n 3, 1) := by decide +kernel
theorem dX12_cut_82 : decode cX12_cut 82 = .ok (.lconst 0, 1) := by decide +kernel
theorem dX12_cut_83 : decode cX12_cut 83 = .ok (.lstore 4, 2) := by decide +kernel
theorem dX12_cut_85 : decode cX12_cut 85 = .ok (.aload_n 0, 1) := by decide +kernel
theorem dX12_cut_86 : decode cX12_cut 86 = .ok (.iload_n 1, 1) := by decide +kernel
theorem dX12_cut_87 : decode cX12_cut 87 = .ok (.iload_n 3, 1) := by decide +kernel
theorem dX12_cut_88 : decode cX12_cut 88 = .ok (.iadd, 1) := by decide +kernel
theorem dX12_cut_89 : decode cX12_cut 89 = .ok (.invokevirtual 211, 3) := by decide +kernel
theorem dX12_cut_92 : decode cX12_cut 92 = .ok (.invokestatic 219, 3) := by decide +kernel
theorem dX12_cut_95 : decode cX12_cut 95 = .ok (.ifCond .eq 29, 3) := by decide +kernel
theorem dX12_cut_98 : decode cX12_cut 98 = .ok (.iload_n 3, 1) := by decide +kernel
theorem dX12_cut_99 : decode cX12_cut 99 = .ok (.bipush 8, 2) := by decide +kernel
theorem dX12_cut_101 : decode cX12_cut 101 = .ok (.if_icmp .ge 17, 3) := by decide +kernel
theorem dX12_cut_104 : decode cX12_cut 104 = .ok (.lload 4, 2) := by decide +kernel
theorem dX12_cut_106 : decode cX12_cut 106 = .ok (.aload_n 0, 1) := by decide +kernel
theorem dX12_cut_107 : decode cX12_cut 107 = .ok (.iload_n 1, 1) := by decide +kernel
theorem dX12_cut_108 : decode cX12_cut 108 = .ok (.iload_n 3, 1) := by decide +kernel
theorem dX12_cut_109 : decode cX12_cut 109 = .ok (.iadd, 1) := by decide +kernel
theorem dX12_cut_110 : decode cX12_cut 110 = .ok (.invokevirtual 211, 3) := by decide +kernel
theorem dX12_cut_113 : decode cX12_cut 113 = .ok (.invokestatic 204, 3) := by decide +kernel
theorem dX12_cut_116 : decode cX12_cut 116 = .ok (.lstore 4, 2) := by decide +kernel
theorem dX12_cut_118 : decode cX12_cut 118 = .ok (.iinc 3 1, 3) := by decide +kernel
theorem dX12_cut_121 : decode cX12_cut 121 = .ok (.goto (-36), 3) := by decide +kernel
theorem dX12_cut_124 : decode cX12_cut 124 = .ok (.iload_n 3, 1) := by decide +kernel
theorem dX12_cut_125 : decode cX12_cut 125 = .ok (.bipush 8, 2) := by decide +kernel
theorem dX12_cut_127 : decode cX12_cut 127 = .ok (.if_icmp .le 7, 3) := by decide +kernel
theorem dX12_cut_130 : decode cX12_cut 130 = .ok (.iconst 3, 1) := by decide +kernel
theorem dX12_cut_131 : decode cX12_cut 131 = .ok (.goto 4, 3) := by decide +kernel
theorem dX12_cut_134 : decode cX12_cut 134 = .ok (.iconst 1, 1) := by decide +kernel
theorem dX12_cut_135 : decode cX12_cut 135 = .ok (.istore 6, 2) := by decide +kernel
theorem dX12_cut_137 : decode cX12_cut 137 = .ok (.iload_n 3, 1) := by decide +kernel
theorem dX12_cut_138 : decode cX12_cut 138 = .ok (.bipush 8, 2) := by decide +kernel
theorem dX12_cut_140 : decode cX12_cut 140 = .ok (.if_icmp .gt 39, 3) := by decide +kernel
theorem dX12_cut_143 : decode cX12_cut 143 = .ok (.iconst 0, 1) := by decide +kernel
theorem dX12_cut_144 : decode cX12_cut 144 = .ok (.istore 7, 2) := by decide +kernel
theorem dX12_cut_146 : decode cX12_cut 146 = .ok (.iload 7, 2) := by decide +kernel
theorem dX12_cut_148 : decode cX12_cut 148 = .ok (.bipush 23, 2) := by decide +kernel
theorem dX12_cut_150 : decode cX12_cut 150 = .ok (.if_icmp .ge 29, 3) := by decide +kernel
theorem dX12_cut_153 : decode cX12_cut 153 = .ok (.aload_n 0, 1) := by decide +kernel
theorem dX12_cut_154 : decode cX12_cut 154 = .ok (.getfield 34, 3) := by decide +kernel
theorem dX12_cut_157 : decode cX12_cut 157 = .ok (.iload 7, 2) := by decide +kernel
theorem dX12_cut_159 : decode cX12_cut 159 = .ok (.laload, 1) := by decide +kernel
theorem dX12_cut_160 : decode cX12_cut 160 = .ok (.lload 4, 2) := by decide +kernel
theorem dX12_cut_162 : decode cX12_cut 162 = .ok (.lcmp, 1) := by decide +kernel
theorem dX12_cut_163 : decode cX12_cut 163 = .ok (.ifCond .ne 10, 3) := by decide +kernel
theorem dX12_cut_166 : decode cX12_cut 166 = .ok (.bipush 20, 2) := by decide +kernel
theorem dX12_cut_168 : decode cX12_cut 168 = .ok (.iload 7, 2) := by decide +kernel
theorem dX12_cut_170 : decode cX12_cut 170 = .ok (.iadd, 1) := by decide +kernel
theorem dX12_cut_171 : decode cX12_cut 171 = .ok (.istore 6, 2) := by decide +kernel
theorem dX12_cut_173 : decode cX12_cut 173 = .ok (.iinc 7 1, 3) := by decide +kernel
theorem dX12_cut_176 : decode cX12_cut 176 = .ok (.goto (-30), 3) := by decide +kernel
theorem dX12_cut_179 : decode cX12_cut 179 = .ok (.aload_n 0, 1) := by decide +kernel
theorem dX12_cut_180 : decode cX12_cut 180 = .ok (.iload 6, 2) := by decide +kernel
theorem dX12_cut_182 : decode cX12_cut 182 = .ok (.iload_n 1, 1) := by decide +kernel
theorem dX12_cut_183 : decode cX12_cut 183 = .ok (.iconst 0, 1) := by decide +kernel
theorem dX12_cut_184 : decode cX12_cut 184 = .ok (.lload 4, 2) := by decide +kernel
theorem dX12_cut_186 : decode cX12_cut 186 = .ok (.invokevirtual 215, 3) := by decide +kernel
theorem dX12_cut_189 : decode cX12_cut 189 = .ok (.iload_n 1, 1) := by decide +kernel
theorem dX12_cut_190 : decode cX12_cut 190 = .ok (.iload_n 3, 1) := by decide +kernel
theorem dX12_cut_191 : decode cX12_cut 191 = .ok (.iadd, 1) := by decide +kernel
theorem dX12_cut_192 : decode cX12_cut 192 = .ok (.istore_n 1, 1) := by decide +kernel
theorem dX12_cut_193 : decode cX12_cut 193 = .ok (.goto 98, 3) := by decide +kernel
theorem dX12_cut_196 : decode cX12_cut 196 = .ok (.iload_n 2, 1) := by decide +kernel
theorem dX12_cut_197 : decode cX12_cut 197 = .ok (.invokestatic 223, 3) := by decide +kernel
theorem dX12_cut_200 : decode cX12_cut 200 = .ok (.ifCond .eq 75, 3) := by decide +kernel
theorem dX12_cut_203 : decode cX12_cut 203 = .ok (.iconst 0, 1) := by decide +kernel
theorem dX12_cut_204 : decode cX12_cut 204 = .ok (.istore_n 3, 1) := by decide +kernel
theorem dX12_cut_205 : decode cX12_cut 205 = .ok (.iconst 0, 1) := by decide +kernel
theorem dX12_cut_206 : decode cX12_cut 206 = .ok (.istore 4, 2) := by decide +kernel
theorem dX12_cut_208 : decode cX12_cut 208 = .ok (.aload_n 0, 1) := by decide +kernel
theorem dX12_cut_209 : decode cX12_cut 209 = .ok (.iload_n 1, 1) := by decide +kernel
theorem dX12_cut_210 : decode cX12_cut 210 = .ok (.iload_n 3, 1) := by decide +kernel
theorem dX12_cut_211 : decode cX12_cut 211 = .ok (.iadd, 1) := by decide +kernel
theorem dX12_cut_212 : decode cX12_cut 212 = .ok (.invokevirtual 211, 3) := by decide +kernel
theorem dX12_cut_215 : decode cX12_cut 215 = .ok (.invokestatic 223, 3) := by decide +kernel
theorem dX12_cut_218 : decode cX12_cut 218 = .ok (.ifCond .eq 32, 3) := by decide +kernel
theorem dX12_cut_221 : decode cX12_cut 221 = .ok (.iload_n 3, 1) := by decide +kernel
theorem dX12_cut_222 : decode cX12_cut 222 = .ok (.iconst 4, 1) := by decide +kernel
theorem dX12_cut_223 : decode cX12_cut 223 = .ok (.if_icmp .ge 21, 3) := by decide +kernel
theorem dX12_cut_226 : decode cX12_cut 226 = .ok (.bipush 10, 2) := by decide +kernel
theorem dX12_cut_228 : decode cX12_cut 228 = .ok (.iload 4, 2) := by decide +kernel
theorem dX12_cut_230 : decode cX12_cut 230 = .ok (.imul, 1) := by decide +kernel
theorem dX12_cut_231 : decode cX12_cut 231 = .ok (.aload_n 0, 1) := by decide +kernel
theorem dX12_cut_232 : decode cX12_cut 232 = .ok (.iload_n 1, 1) := by decide +kernel
theorem dX12_cut_233 : decode cX12_cut 233 = .ok (.iload_n 3, 1) := by decide +kernel
theorem dX12_cut_234 : decode cX12_cut 234 = .ok (.iadd, 1) := by decide +kernel
theorem dX12_cut_235 : decode cX12_cut 235 = .ok (.invokevirtual 211, 3) := by decide +kernel
theorem dX12_cut_238 : decode cX12_cut 238 = .ok (.iadd, 1) := by decide +kernel
theorem dX12_cut_239 : decode cX12_cut 239 = .ok (.bipush 48, 2) := by decide +kernel
theorem dX12_cut_241 : decode cX12_cut 241 = .ok (.isub, 1) := by decide +kernel
theorem dX12_cut_242 : decode cX12_cut 242 = .ok (.istore 4, 2) := by decide +kernel
theorem dX12_cut_244 : decode cX12_cut 244 = .ok (.iinc 3 1, 3) := by decide +kernel
theorem dX12_cut_247 : decode cX12_cut 247 = .ok (.goto (-39), 3) := by decide +kernel
theorem dX12_cut_250 : decode cX12_cut 250 = .ok (.aload_n 0, 1) := by decide +kernel
theorem dX12_cut_251 : decode cX12_cut 251 = .ok (.iload_n 3, 1) := by decide +kernel
theorem dX12_cut_252 : decode cX12_cut 252 = .ok (.iconst 4, 1) := by decide +kernel
theorem dX12_cut_253 : decode cX12_cut 253 = .ok (.if_icmp .le 7, 3) := by decide +kernel
theorem dX12_cut_256 : decode cX12_cut 256 = .ok (.iconst 3, 1) := by decide +kernel
theorem dX12_cut_257 : decode cX12_cut 257 = .ok (.goto 4, 3) := by decide +kernel
theorem dX12_cut_260 : decode cX12_cut 260 = .ok (.iconst 2, 1) := by decide +kernel
theorem dX12_cut_261 : decode cX12_cut 261 = .ok (.iload_n 1, 1) := by decide +kernel
theorem dX12_cut_262 : decode cX12_cut 262 = .ok (.iload 4, 2) := by decide +kernel
theorem dX12_cut_264 : decode cX12_cut 264 = .ok (.lconst 0, 1) := by decide +kernel
theorem dX12_cut_265 : decode cX12_cut 265 = .ok (.invokevirtual 215, 3) := by decide +kernel
theorem dX12_cut_268 : decode cX12_cut 268 = .ok (.iload_n 1, 1) := by decide +kernel
theorem dX12_cut_269 : decode cX12_cut 269 = .ok (.iload_n 3, 1) := by decide +kernel
theorem dX12_cut_270 : decode cX12_cut 270 = .ok (.iadd, 1) := by decide +kernel
theorem dX12_cut_271 : decode cX12_cut 271 = .ok (.istore_n 1, 1) := by decide +kernel
theorem dX12_cut_272 : decode cX12_cut 272 = .ok (.goto 19, 3) := by decide +kernel
theorem dX12_cut_275 : decode cX12_cut 275 = .ok (.iload_n 1, 1) := by decide +kernel
theorem dX12_cut_276 : decode cX12_cut 276 = .ok (.aload_n 0, 1) := by decide +kernel
theorem dX12_cut_277 : decode cX12_cut 277 = .ok (.iload_n 1, 1) := by decide +kernel
theorem dX12_cut_278 : decode cX12_cut 278 = .ok (.iload_n 2, 1) := by decide +kernel
theorem dX12_cut_279 : decode cX12_cut 279 = .ok (.aload_n 0, 1) := by decide +kernel
theorem dX12_cut_280 : decode cX12_cut 280 = .ok (.iload_n 1, 1) := by decide +kernel
theorem dX12_cut_281 : decode cX12_cut 281 = .ok (.iconst 1, 1) := by decide +kernel
theorem dX12_cut_282 : decode cX12_cut 282 = .ok (.iadd, 1) := by decide +kernel
theorem dX12_cut_283 : decode cX12_cut 283 = .ok (.invokevirtual 211, 3) := by decide +kernel
theorem dX12_cut_286 : decode cX12_cut 286 = .ok (.invokevirtual 226, 3) := by decide +kernel
theorem dX12_cut_289 : decode cX12_cut 289 = .ok (.iadd, 1) := by decide +kernel
theorem dX12_cut_290 : decode cX12_cut 290 = .ok (.istore_n 1, 1) := by decide +kernel
theorem dX12_cut_291 : decode cX12_cut 291 = .ok (.goto (-284), 3) := by decide +kernel
theorem dX12_cut_294 : decode cX12_cut 294 = .ok (.return_, 1) := by decide +kernel
theorem dX12_sign_0 : decode cX12_sign 0 = .ok (.iload_n 2, 1) := by decide +kernel
theorem dX12_sign_1 : decode cX12_sign 1 = .ok (.bipush 59, 2) := by decide +kernel
theorem dX12_sign_3 : decode cX12_sign 3 = .ok (.if_icmp .ne 7, 3) := by decide +kernel
theorem dX12_sign_6 : decode cX12_sign 6 = .ok (.iconst 4, 1) := by decide +kernel
theorem dX12_sign_7 : decode cX12_sign 7 = .ok (.goto 36, 3) := by decide +kernel
theorem dX12_sign_10 : decode cX12_sign 10 = .ok (.iload_n 2, 1) := by decide +kernel
theorem dX12_sign_11 : decode cX12_sign 11 = .ok (.bipush 61, 2) := by decide +kernel
theorem dX12_sign_13 : decode cX12_sign 13 = .ok (.if_icmp .ne 7, 3) := by decide +kernel
theorem dX12_sign_16 : decode cX12_sign 16 = .ok (.iconst 5, 1) := by decide +kernel
theorem dX12_sign_17 : decode cX12_sign 17 = .ok (.goto 26, 3) := by decide +kernel
theorem dX12_sign_20 : decode cX12_sign 20 = .ok (.iload_n 2, 1) := by decide +kernel
theorem dX12_sign_21 : decode cX12_sign 21 = .ok (.bipush 40, 2) := by decide +kernel
theorem dX12_sign_23 : decode cX12_sign 23 = .ok (.if_icmp .ne 8, 3) := by decide +kernel
theorem dX12_sign_26 : decode cX12_sign 26 = .ok (.bipush 6, 2) := by decide +kernel
theorem dX12_sign_28 : decode cX12_sign 28 = .ok (.goto 15, 3) := by decide +kernel
theorem dX12_sign_31 : decode cX12_sign 31 = .ok (.iload_n 2, 1) := by decide +kernel
theorem dX12_sign_32 : decode cX12_sign 32 = .ok (.bipush 41, 2) := by decide +kernel
theorem dX12_sign_34 : decode cX12_sign 34 = .ok (.if_icmp .ne 8, 3) := by decide +kernel
theorem dX12_sign_37 : decode cX12_sign 37 = .ok (.bipush 7, 2) := by decide +kernel
theorem dX12_sign_39 : decode cX12_sign 39 = .ok (.goto 4, 3) := by decide +kernel
theorem dX12_sign_42 : decode cX12_sign 42 = .ok (.iconst 3, 1) := by decide +kernel
theorem dX12_sign_43 : decode cX12_sign 43 = .ok (.istore 4, 2) := by decide +kernel
theorem dX12_sign_45 : decode cX12_sign 45 = .ok (.iload_n 2, 1) := by decide +kernel
theorem dX12_sign_46 : decode cX12_sign 46 = .ok (.bipush 43, 2) := by decide +kernel
theorem dX12_sign_48 : decode cX12_sign 48 = .ok (.if_icmp .ne 7, 3) := by decide +kernel
theorem dX12_sign_51 : decode cX12_sign 51 = .ok (.bipush 8, 2) := by decide +kernel
theorem dX12_sign_53 : decode cX12_sign 53 = .ok (.istore 4, 2) := by decide +kernel
theorem dX12_sign_55 : decode cX12_sign 55 = .ok (.iload_n 2, 1) := by decide +kernel
theorem dX12_sign_56 : decode cX12_sign 56 = .ok (.bipush 45, 2) := by decide +kernel
theorem dX12_sign_58 : decode cX12_sign 58 = .ok (.if_icmp .ne 7, 3) := by decide +kernel
theorem dX12_sign_61 : decode cX12_sign 61 = .ok (.bipush 9, 2) := by decide +kernel
theorem dX12_sign_63 : decode cX12_sign 63 = .ok (.istore 4, 2) := by decide +kernel
theorem dX12_sign_65 : decode cX12_sign 65 = .ok (.iload_n 2, 1) := by decide +kernel
theorem dX12_sign_66 : decode cX12_sign 66 = .ok (.bipush 42, 2) := by decide +kernel
theorem dX12_sign_68 : decode cX12_sign 68 = .ok (.if_icmp .ne 7, 3) := by decide +kernel
theorem dX12_sign_71 : decode cX12_sign 71 = .ok (.bipush 10, 2) := by decide +kernel
theorem dX12_sign_73 : decode cX12_sign 73 = .ok (.istore 4, 2) := by decide +kernel
theorem dX12_sign_75 : decode cX12_sign 75 = .ok (.iload_n 2, 1) := by decide +kernel
theorem dX12_sign_76 : decode cX12_sign 76 = .ok (.bipush 47, 2) := by decide +kernel
theorem dX12_sign_78 : decode cX12_sign 78 = .ok (.if_icmp .ne 7, 3) := by decide +kernel
theorem dX12_sign_81 : decode cX12_sign 81 = .ok (.bipush 15, 2) := by decide +kernel
theorem dX12_sign_83 : decode cX12_sign 83 = .ok (.istore 4, 2) := by decide +kernel
theorem dX12_sign_85 : decode cX12_sign 85 = .ok (.iload_n 2, 1) := by decide +kernel
theorem dX12_sign_86 : decode cX12_sign 86 = .ok (.bipush 60, 2) := by decide +kernel
theorem dX12_sign_88 : decode cX12_sign 88 = .ok (.if_icmp .ne 7, 3) := by decide +kernel
theorem dX12_sign_91 : decode cX12_sign 91 = .ok (.bipush 13, 2) := by decide +kernel
theorem dX12_sign_93 : decode cX12_sign 93 = .ok (.istore 4, 2) := by decide +kernel
theorem dX12_sign_95 : decode cX12_sign 95 = .ok (.aload_n 0, 1) := by decide +kernel
theorem dX12_sign_96 : decode cX12_sign 96 = .ok (.iload 4, 2) := by decide +kernel
theorem dX12_sign_98 : decode cX12_sign 98 = .ok (.iload_n 1, 1) := by decide +kernel
theorem dX12_sign_99 : decode cX12_sign 99 = .ok (.iconst 0, 1) := by decide +kernel
theorem dX12_sign_100 : decode cX12_sign 100 = .ok (.lconst 0, 1) := by decide +kernel
theorem dX12_sign_101 : decode cX12_sign 101 = .ok (.invokevirtual 215, 3) := by decide +kernel
theorem dX12_sign_104 : decode cX12_sign 104 = .ok (.iconst 1, 1) := by decide +kernel
theorem dX12_sign_105 : decode cX12_sign 105 = .ok (.ireturn, 1) := by decide +kernel
theorem dX12_is_0 : decode cX12_is 0 = .ok (.aload_n 0, 1) := by decide +kernel
theorem dX12_is_1 : decode cX12_is 1 = .ok (.getfield 230, 3) := by decide +kernel
theorem dX12_is_4 : decode cX12_is 4 = .ok (.ifCond .ne 20, 3) := by decide +kernel
theorem dX12_is_7 : decode cX12_is 7 = .ok (.aload_n 0, 1) := by decide +kernel
theorem dX12_is_8 : decode cX12_is 8 = .ok (.getfield 20, 3) := by decide +kernel
theorem dX12_is_11 : decode cX12_is 11 = .ok (.aload_n 0, 1) := by decide +kernel
theorem dX12_is_12 : decode cX12_is 12 = .ok (.getfield 233, 3) := by decide +kernel
theorem dX12_is_15 : decode cX12_is 15 = .ok (.iaload, 1) := by decide +kernel
theorem dX12_is_16 : decode cX12_is 16 = .ok (.iload_n 1, 1) := by decide +kernel
theorem dX12_is_17 : decode cX12_is 17 = .ok (.if_icmp .ne 7, 3) := by decide +kernel
theorem dX12_is_20 : decode cX12_is 20 = .ok (.iconst 1, 1) := by decide +kernel
theorem dX12_is_21 : decode cX12_is 21 = .ok (.goto 4, 3) := by decide +kernel
theorem dX12_is_24 : decode cX12_is 24 = .ok (.iconst 0, 1) := by decide +kernel
theorem dX12_is_25 : decode cX12_is 25 = .ok (.ireturn, 1) := by decide +kernel
theorem dX12_fail_0 : decode cX12_fail 0 = .ok (.aload_n 0, 1) := by decide +kernel
theorem dX12_fail_1 : decode cX12_fail 1 = .ok (.getfield 230, 3) := by decide +kernel
theorem dX12_fail_4 : decode cX12_fail 4 = .ok (.ifCond .le 4, 3) := by decide +kernel
theorem dX12_fail_7 : decode cX12_fail 7 = .ok (.return_, 1) := by decide +kernel
theorem dX12_fail_8 : decode cX12_fail 8 = .ok (.aload_n 0, 1) := by decide +kernel
theorem dX12_fail_9 : decode cX12_fail 9 = .ok (.iload_n 1, 1) := by decide +kernel
theorem dX12_fail_10 : decode cX12_fail 10 = .ok (.putfield 230, 3) := by decide +kernel
theorem dX12_fail_13 : decode cX12_fail 13 = .ok (.aload_n 0, 1) := by decide +kernel
theorem dX12_fail_14 : decode cX12_fail 14 = .ok (.aload_n 0, 1) := by decide +kernel
theorem dX12_fail_15 : decode cX12_fail 15 = .ok (.getfield 24, 3) := by decide +kernel
theorem dX12_fail_18 : decode cX12_fail 18 = .ok (.aload_n 0, 1) := by decide +kernel
theorem dX12_fail_19 : decode cX12_fail 19 = .ok (.getfield 233, 3) := by decide +kernel
theorem dX12_fail_22 : decode cX12_fail 22 = .ok (.iaload, 1) := by decide +kernel
theorem dX12_fail_23 : decode cX12_fail 23 = .ok (.putfield 236, 3) := by decide +kernel
theorem dX12_fail_26 : decode cX12_fail 26 = .ok (.return_, 1) := by decide +kernel
theorem dX12_wrong_0 : decode cX12_wrong 0 = .ok (.aload_n 0, 1) := by decide +kernel
theorem dX12_wrong_1 : decode cX12_wrong 1 = .ok (.getfield 24, 3) := by decide +kernel
theorem dX12_wrong_4 : decode cX12_wrong 4 = .ok (.iload_n 2, 1) := by decide +kernel
theorem dX12_wrong_5 : decode cX12_wrong 5 = .ok (.iaload, 1) := by decide +kernel
theorem dX12_wrong_6 : decode cX12_wrong 6 = .ok (.istore_n 3, 1) := by decide +kernel
theorem dX12_wrong_7 : decode cX12_wrong 7 = .ok (.aload_n 0, 1) := by decide +kernel
theorem dX12_wrong_8 : decode cX12_wrong 8 = .ok (.getfield 230, 3) := by decide +kernel
theorem dX12_wrong_11 : decode cX12_wrong 11 = .ok (.ifCond .gt 34, 3) := by decide +kernel
theorem dX12_wrong_14 : decode cX12_wrong 14 = .ok (.aload_n 0, 1) := by decide +kernel
theorem dX12_wrong_15 : decode cX12_wrong 15 = .ok (.getfield 239, 3) := by decide +kernel
theorem dX12_wrong_18 : decode cX12_wrong 18 = .ok (.ifCond .eq 28, 3) := by decide +kernel
theorem dX12_wrong_21 : decode cX12_wrong 21 = .ok (.iload_n 3, 1) := by decide +kernel
theorem dX12_wrong_22 : decode cX12_wrong 22 = .ok (.aload_n 0, 1) := by decide +kernel
theorem dX12_wrong_23 : decode cX12_wrong 23 = .ok (.getfield 242, 3) := by decide +kernel
theorem dX12_wrong_26 : decode cX12_wrong 26 = .ok (.if_icmp .gt 19, 3) := by decide +kernel
theorem dX12_wrong_29 : decode cX12_wrong 29 = .ok (.iload_n 3, 1) := by decide +kernel
theorem dX12_wrong_30 : decode cX12_wrong 30 = .ok (.aload_n 0, 1) := by decide +kernel
theorem dX12_wrong_31 : decode cX12_wrong 31 = .ok (.getfield 242, 3) := by decide +kernel
theorem dX12_wrong_34 : decode cX12_wrong 34 = .ok (.if_icmp .ne 12, 3) := by decide +kernel
theorem dX12_wrong_37 : decode cX12_wrong 37 = .ok (.iload_n 1, 1) := by decide +kernel
theorem dX12_wrong_38 : decode cX12_wrong 38 = .ok (.aload_n 0, 1) := by decide +kernel
theorem dX12_wrong_39 : decode cX12_wrong 39 = .ok (.getfield 239, 3) := by decide +kernel
theorem dX12_wrong_42 : decode cX12_wrong 42 = .ok (.if_icmp .lt 4, 3) := by decide +kernel
theorem dX12_wrong_45 : decode cX12_wrong 45 = .ok (.return_, 1) := by decide +kernel
theorem dX12_wrong_46 : decode cX12_wrong 46 = .ok (.aload_n 0, 1) := by decide +kernel
theorem dX12_wrong_47 : decode cX12_wrong 47 = .ok (.iload_n 1, 1) := by decide +kernel
theorem dX12_wrong_48 : decode cX12_wrong 48 = .ok (.putfield 239, 3) := by decide +kernel
theorem dX12_wrong_51 : decode cX12_wrong 51 = .ok (.aload_n 0, 1) := by decide +kernel
theorem dX12_wrong_52 : decode cX12_wrong 52 = .ok (.iload_n 3, 1) := by decide +kernel
theorem dX12_wrong_53 : decode cX12_wrong 53 = .ok (.putfield 242, 3) := by decide +kernel
theorem dX12_wrong_56 : decode cX12_wrong 56 = .ok (.return_, 1) := by decide +kernel
theorem dX12_goesOn_0 : decode cX12_goesOn 0 = .ok (.aload_n 0, 1) := by decide +kernel
theorem dX12_goesOn_1 : decode cX12_goesOn 1 = .ok (.getfield 233, 3) := by decide +kernel
theorem dX12_goesOn_4 : decode cX12_goesOn 4 = .ok (.sipush 400, 3) := by decide +kernel
theorem dX12_goesOn_7 : decode cX12_goesOn 7 = .ok (.if_icmp .ne 11, 3) := by decide +kernel
theorem dX12_goesOn_10 : decode cX12_goesOn 10 = .ok (.aload_n 0, 1) := by decide +kernel
theorem dX12_goesOn_11 : decode cX12_goesOn 11 = .ok (.iconst 2, 1) := by decide +kernel
theorem dX12_goesOn_12 : decode cX12_goesOn 12 = .ok (.invokevirtual 245, 3) := by decide +kernel
theorem dX12_goesOn_15 : decode cX12_goesOn 15 = .ok (.goto 13, 3) := by decide +kernel
theorem dX12_goesOn_18 : decode cX12_goesOn 18 = .ok (.aload_n 0, 1) := by decide +kernel
theorem dX12_goesOn_19 : decode cX12_goesOn 19 = .ok (.dup, 1) := by decide +kernel
theorem dX12_goesOn_20 : decode cX12_goesOn 20 = .ok (.getfield 233, 3) := by decide +kernel
theorem dX12_goesOn_23 : decode cX12_goesOn 23 = .ok (.iconst 1, 1) := by decide +kernel
theorem dX12_goesOn_24 : decode cX12_goesOn 24 = .ok (.iadd, 1) := by decide +kernel
theorem dX12_goesOn_25 : decode cX12_goesOn 25 = .ok (.putfield 233, 3) := by decide +kernel
theorem dX12_goesOn_28 : decode cX12_goesOn 28 = .ok (.return_, 1) := by decide +kernel
theorem dX12_must_0 : decode cX12_must 0 = .ok (.aload_n 0, 1) := by decide +kernel
theorem dX12_must_1 : decode cX12_must 1 = .ok (.iload_n 1, 1) := by decide +kernel
theorem dX12_must_2 : decode cX12_must 2 = .ok (.invokevirtual 248, 3) := by decide +kernel
theorem dX12_must_5 : decode cX12_must 5 = .ok (.ifCond .eq 10, 3) := by decide +kernel
theorem dX12_must_8 : decode cX12_must 8 = .ok (.aload_n 0, 1) := by decide +kernel
theorem dX12_must_9 : decode cX12_must 9 = .ok (.invokevirtual 251, 3) := by decide +kernel
