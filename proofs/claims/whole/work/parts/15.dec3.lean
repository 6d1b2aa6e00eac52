theorem dX3_init_0 : decode cX3_init 0 = .ok (.aload_n 0, 1) := by decide +kernel
theorem dX3_init_1 : decode cX3_init 1 = .ok (.invokespecial 3, 3) := by decide +kernel
theorem dX3_init_4 : decode cX3_init 4 = .ok (.aload_n 0, 1) := by decide +kernel
theorem dX3_init_5 : decode cX3_init 5 = .ok (.bipush 12, 2) := by decide +kernel
theorem dX3_init_7 : decode cX3_init 7 = .ok (.newarray .int, 2) := by decide +kernel
theorem dX3_init_9 : decode cX3_init 9 = .ok (.putfield 9, 3) := by decide +kernel
theorem dX3_init_12 : decode cX3_init 12 = .ok (.aload_n 0, 1) := by decide +kernel
theorem dX3_init_13 : decode cX3_init 13 = .ok (.bipush 12, 2) := by decide +kernel
theorem dX3_init_15 : decode cX3_init 15 = .ok (.newarray .int, 2) := by decide +kernel
theorem dX3_init_17 : decode cX3_init 17 = .ok (.putfield 15, 3) := by decide +kernel
theorem dX3_init_20 : decode cX3_init 20 = .ok (.aload_n 0, 1) := by decide +kernel
theorem dX3_init_21 : decode cX3_init 21 = .ok (.bipush 12, 2) := by decide +kernel
theorem dX3_init_23 : decode cX3_init 23 = .ok (.newarray .int, 2) := by decide +kernel
theorem dX3_init_25 : decode cX3_init 25 = .ok (.putfield 18, 3) := by decide +kernel
theorem dX3_init_28 : decode cX3_init 28 = .ok (.aload_n 0, 1) := by decide +kernel
theorem dX3_init_29 : decode cX3_init 29 = .ok (.bipush 12, 2) := by decide +kernel
theorem dX3_init_31 : decode cX3_init 31 = .ok (.newarray .int, 2) := by decide +kernel
theorem dX3_init_33 : decode cX3_init 33 = .ok (.putfield 21, 3) := by decide +kernel
theorem dX3_init_36 : decode cX3_init 36 = .ok (.aload_n 0, 1) := by decide +kernel
theorem dX3_init_37 : decode cX3_init 37 = .ok (.bipush 12, 2) := by decide +kernel
theorem dX3_init_39 : decode cX3_init 39 = .ok (.newarray .int, 2) := by decide +kernel
theorem dX3_init_41 : decode cX3_init 41 = .ok (.putfield 24, 3) := by decide +kernel
theorem dX3_init_44 : decode cX3_init 44 = .ok (.aload_n 0, 1) := by decide +kernel
theorem dX3_init_45 : decode cX3_init 45 = .ok (.iconst 2, 1) := by decide +kernel
theorem dX3_init_46 : decode cX3_init 46 = .ok (.newarray .int, 2) := by decide +kernel
theorem dX3_init_48 : decode cX3_init 48 = .ok (.putfield 27, 3) := by decide +kernel
theorem dX3_init_51 : decode cX3_init 51 = .ok (.aload_n 0, 1) := by decide +kernel
theorem dX3_init_52 : decode cX3_init 52 = .ok (.bipush 12, 2) := by decide +kernel
theorem dX3_init_54 : decode cX3_init 54 = .ok (.newarray .int, 2) := by decide +kernel
theorem dX3_init_56 : decode cX3_init 56 = .ok (.putfield 30, 3) := by decide +kernel
theorem dX3_init_59 : decode cX3_init 59 = .ok (.aload_n 0, 1) := by decide +kernel
theorem dX3_init_60 : decode cX3_init 60 = .ok (.iconst 0, 1) := by decide +kernel
theorem dX3_init_61 : decode cX3_init 61 = .ok (.putfield 33, 3) := by decide +kernel
theorem dX3_init_64 : decode cX3_init 64 = .ok (.return_, 1) := by decide +kernel
theorem dX3_partsOf_0 : decode cX3_partsOf 0 = .ok (.iconst 0, 1) := by decide +kernel
theorem dX3_partsOf_1 : decode cX3_partsOf 1 = .ok (.istore_n 2, 1) := by decide +kernel
theorem dX3_partsOf_2 : decode cX3_partsOf 2 = .ok (.iconst 0, 1) := by decide +kernel
theorem dX3_partsOf_3 : decode cX3_partsOf 3 = .ok (.istore_n 3, 1) := by decide +kernel
theorem dX3_partsOf_4 : decode cX3_partsOf 4 = .ok (.iload_n 3, 1) := by decide +kernel
theorem dX3_partsOf_5 : decode cX3_partsOf 5 = .ok (.aload_n 0, 1) := by decide +kernel
theorem dX3_partsOf_6 : decode cX3_partsOf 6 = .ok (.getfield 33, 3) := by decide +kernel
theorem dX3_partsOf_9 : decode cX3_partsOf 9 = .ok (.if_icmp .ge 26, 3) := by decide +kernel
theorem dX3_partsOf_12 : decode cX3_partsOf 12 = .ok (.iload_n 1, 1) := by decide +kernel
theorem dX3_partsOf_13 : decode cX3_partsOf 13 = .ok (.iconst 1, 1) := by decide +kernel
theorem dX3_partsOf_14 : decode cX3_partsOf 14 = .ok (.iload_n 3, 1) := by decide +kernel
theorem dX3_partsOf_15 : decode cX3_partsOf 15 = .ok (.ishl, 1) := by decide +kernel
theorem dX3_partsOf_16 : decode cX3_partsOf 16 = .ok (.iand, 1) := by decide +kernel
theorem dX3_partsOf_17 : decode cX3_partsOf 17 = .ok (.ifCond .eq 12, 3) := by decide +kernel
theorem dX3_partsOf_20 : decode cX3_partsOf 20 = .ok (.iload_n 2, 1) := by decide +kernel
theorem dX3_partsOf_21 : decode cX3_partsOf 21 = .ok (.aload_n 0, 1) := by decide +kernel
theorem dX3_partsOf_22 : decode cX3_partsOf 22 = .ok (.getfield 24, 3) := by decide +kernel
theorem dX3_partsOf_25 : decode cX3_partsOf 25 = .ok (.iload_n 3, 1) := by decide +kernel
theorem dX3_partsOf_26 : decode cX3_partsOf 26 = .ok (.iaload, 1) := by decide +kernel
theorem dX3_partsOf_27 : decode cX3_partsOf 27 = .ok (.ior, 1) := by decide +kernel
theorem dX3_partsOf_28 : decode cX3_partsOf 28 = .ok (.istore_n 2, 1) := by decide +kernel
theorem dX3_partsOf_29 : decode cX3_partsOf 29 = .ok (.iinc 3 1, 3) := by decide +kernel
theorem dX3_partsOf_32 : decode cX3_partsOf 32 = .ok (.goto (-28), 3) := by decide +kernel
theorem dX3_partsOf_35 : decode cX3_partsOf 35 = .ok (.iload_n 2, 1) := by decide +kernel
theorem dX3_partsOf_36 : decode cX3_partsOf 36 = .ok (.ireturn, 1) := by decide +kernel
theorem dX3_varyingWith_0 : decode cX3_varyingWith 0 = .ok (.aload_n 0, 1) := by decide +kernel
theorem dX3_varyingWith_1 : decode cX3_varyingWith 1 = .ok (.getfield 27, 3) := by decide +kernel
theorem dX3_varyingWith_4 : decode cX3_varyingWith 4 = .ok (.iload_n 1, 1) := by decide +kernel
theorem dX3_varyingWith_5 : decode cX3_varyingWith 5 = .ok (.iaload, 1) := by decide +kernel
theorem dX3_varyingWith_6 : decode cX3_varyingWith 6 = .ok (.ireturn, 1) := by decide +kernel
theorem dX3_allHold_0 : decode cX3_allHold 0 = .ok (.iconst 0, 1) := by decide +kernel
theorem dX3_allHold_1 : decode cX3_allHold 1 = .ok (.istore 5, 2) := by decide +kernel
theorem dX3_allHold_3 : decode cX3_allHold 3 = .ok (.iload 5, 2) := by decide +kernel
theorem dX3_allHold_5 : decode cX3_allHold 5 = .ok (.aload_n 0, 1) := by decide +kernel
theorem dX3_allHold_6 : decode cX3_allHold 6 = .ok (.getfield 33, 3) := by decide +kernel
theorem dX3_allHold_9 : decode cX3_allHold 9 = .ok (.if_icmp .ge 57, 3) := by decide +kernel
theorem dX3_allHold_12 : decode cX3_allHold 12 = .ok (.iconst 1, 1) := by decide +kernel
theorem dX3_allHold_13 : decode cX3_allHold 13 = .ok (.iload 5, 2) := by decide +kernel
theorem dX3_allHold_15 : decode cX3_allHold 15 = .ok (.ishl, 1) := by decide +kernel
theorem dX3_allHold_16 : decode cX3_allHold 16 = .ok (.istore 6, 2) := by decide +kernel
theorem dX3_allHold_18 : decode cX3_allHold 18 = .ok (.iload_n 1, 1) := by decide +kernel
theorem dX3_allHold_19 : decode cX3_allHold 19 = .ok (.iload 6, 2) := by decide +kernel
theorem dX3_allHold_21 : decode cX3_allHold 21 = .ok (.iand, 1) := by decide +kernel
theorem dX3_allHold_22 : decode cX3_allHold 22 = .ok (.ifCond .eq 38, 3) := by decide +kernel
theorem dX3_allHold_25 : decode cX3_allHold 25 = .ok (.aload_n 0, 1) := by decide +kernel
theorem dX3_allHold_26 : decode cX3_allHold 26 = .ok (.getfield 30, 3) := by decide +kernel
theorem dX3_allHold_29 : decode cX3_allHold 29 = .ok (.iload 5, 2) := by decide +kernel
theorem dX3_allHold_31 : decode cX3_allHold 31 = .ok (.aload_n 0, 1) := by decide +kernel
theorem dX3_allHold_32 : decode cX3_allHold 32 = .ok (.iload 5, 2) := by decide +kernel
theorem dX3_allHold_34 : decode cX3_allHold 34 = .ok (.iload_n 3, 1) := by decide +kernel
theorem dX3_allHold_35 : decode cX3_allHold 35 = .ok (.iload 4, 2) := by decide +kernel
theorem dX3_allHold_37 : decode cX3_allHold 37 = .ok (.invokevirtual 85, 3) := by decide +kernel
theorem dX3_allHold_40 : decode cX3_allHold 40 = .ok (.iastore, 1) := by decide +kernel
theorem dX3_allHold_41 : decode cX3_allHold 41 = .ok (.iload_n 2, 1) := by decide +kernel
theorem dX3_allHold_42 : decode cX3_allHold 42 = .ok (.iload 6, 2) := by decide +kernel
theorem dX3_allHold_44 : decode cX3_allHold 44 = .ok (.iand, 1) := by decide +kernel
theorem dX3_allHold_45 : decode cX3_allHold 45 = .ok (.ifCond .eq 15, 3) := by decide +kernel
theorem dX3_allHold_48 : decode cX3_allHold 48 = .ok (.aload_n 0, 1) := by decide +kernel
theorem dX3_allHold_49 : decode cX3_allHold 49 = .ok (.getfield 30, 3) := by decide +kernel
theorem dX3_allHold_52 : decode cX3_allHold 52 = .ok (.iload 5, 2) := by decide +kernel
theorem dX3_allHold_54 : decode cX3_allHold 54 = .ok (.iaload, 1) := by decide +kernel
theorem dX3_allHold_55 : decode cX3_allHold 55 = .ok (.ifCond .ne 5, 3) := by decide +kernel
theorem dX3_allHold_58 : decode cX3_allHold 58 = .ok (.iconst 0, 1) := by decide +kernel
theorem dX3_allHold_59 : decode cX3_allHold 59 = .ok (.ireturn, 1) := by decide +kernel
theorem dX3_allHold_60 : decode cX3_allHold 60 = .ok (.iinc 5 1, 3) := by decide +kernel
theorem dX3_allHold_63 : decode cX3_allHold 63 = .ok (.goto (-60), 3) := by decide +kernel
theorem dX3_allHold_66 : decode cX3_allHold 66 = .ok (.iconst 1, 1) := by decide +kernel
theorem dX3_allHold_67 : decode cX3_allHold 67 = .ok (.ireturn, 1) := by decide +kernel
theorem dX3_workOut_0 : decode cX3_workOut 0 = .ok (.aload_n 0, 1) := by decide +kernel
theorem dX3_workOut_1 : decode cX3_workOut 1 = .ok (.getfield 9, 3) := by decide +kernel
theorem dX3_workOut_4 : decode cX3_workOut 4 = .ok (.iload_n 1, 1) := by decide +kernel
theorem dX3_workOut_5 : decode cX3_workOut 5 = .ok (.iaload, 1) := by decide +kernel
theorem dX3_workOut_6 : decode cX3_workOut 6 = .ok (.istore 4, 2) := by decide +kernel
theorem dX3_workOut_8 : decode cX3_workOut 8 = .ok (.iload 4, 2) := by decide +kernel
theorem dX3_workOut_10 : decode cX3_workOut 10 = .ok (.ifCond .ne 18, 3) := by decide +kernel
theorem dX3_workOut_13 : decode cX3_workOut 13 = .ok (.aload_n 0, 1) := by decide +kernel
theorem dX3_workOut_14 : decode cX3_workOut 14 = .ok (.getfield 15, 3) := by decide +kernel
theorem dX3_workOut_17 : decode cX3_workOut 17 = .ok (.iload_n 1, 1) := by decide +kernel
theorem dX3_workOut_18 : decode cX3_workOut 18 = .ok (.iaload, 1) := by decide +kernel
theorem dX3_workOut_19 : decode cX3_workOut 19 = .ok (.ifCond .ne 7, 3) := by decide +kernel
theorem dX3_workOut_22 : decode cX3_workOut 22 = .ok (.iload_n 2, 1) := by decide +kernel
theorem dX3_workOut_23 : decode cX3_workOut 23 = .ok (.goto 4, 3) := by decide +kernel
theorem dX3_workOut_26 : decode cX3_workOut 26 = .ok (.iload_n 3, 1) := by decide +kernel
theorem dX3_workOut_27 : decode cX3_workOut 27 = .ok (.ireturn, 1) := by decide +kernel
theorem dX3_workOut_28 : decode cX3_workOut 28 = .ok (.iload 4, 2) := by decide +kernel
theorem dX3_workOut_30 : decode cX3_workOut 30 = .ok (.iconst 1, 1) := by decide +kernel
theorem dX3_workOut_31 : decode cX3_workOut 31 = .ok (.if_icmp .ne 10, 3) := by decide +kernel
theorem dX3_workOut_34 : decode cX3_workOut 34 = .ok (.aload_n 0, 1) := by decide +kernel
theorem dX3_workOut_35 : decode cX3_workOut 35 = .ok (.getfield 15, 3) := by decide +kernel
theorem dX3_workOut_38 : decode cX3_workOut 38 = .ok (.iload_n 1, 1) := by decide +kernel
theorem dX3_workOut_39 : decode cX3_workOut 39 = .ok (.iaload, 1) := by decide +kernel
theorem dX3_workOut_40 : decode cX3_workOut 40 = .ok (.ireturn, 1) := by decide +kernel
theorem dX3_workOut_41 : decode cX3_workOut 41 = .ok (.aload_n 0, 1) := by decide +kernel
theorem dX3_workOut_42 : decode cX3_workOut 42 = .ok (.getfield 30, 3) := by decide +kernel
theorem dX3_workOut_45 : decode cX3_workOut 45 = .ok (.aload_n 0, 1) := by decide +kernel
theorem dX3_workOut_46 : decode cX3_workOut 46 = .ok (.getfield 15, 3) := by decide +kernel
theorem dX3_workOut_49 : decode cX3_workOut 49 = .ok (.iload_n 1, 1) := by decide +kernel
theorem dX3_workOut_50 : decode cX3_workOut 50 = .ok (.iaload, 1) := by decide +kernel
theorem dX3_workOut_51 : decode cX3_workOut 51 = .ok (.iaload, 1) := by decide +kernel
theorem dX3_workOut_52 : decode cX3_workOut 52 = .ok (.istore 5, 2) := by decide +kernel
theorem dX3_workOut_54 : decode cX3_workOut 54 = .ok (.aload_n 0, 1) := by decide +kernel
theorem dX3_workOut_55 : decode cX3_workOut 55 = .ok (.getfield 30, 3) := by decide +kernel
theorem dX3_workOut_58 : decode cX3_workOut 58 = .ok (.aload_n 0, 1) := by decide +kernel
theorem dX3_workOut_59 : decode cX3_workOut 59 = .ok (.getfield 18, 3) := by decide +kernel
theorem dX3_workOut_62 : decode cX3_workOut 62 = .ok (.iload_n 1, 1) := by decide +kernel
theorem dX3_workOut_63 : decode cX3_workOut 63 = .ok (.iaload, 1) := by decide +kernel
theorem dX3_workOut_64 : decode cX3_workOut 64 = .ok (.iaload, 1) := by decide +kernel
theorem dX3_workOut_65 : decode cX3_workOut 65 = .ok (.istore 6, 2) := by decide +kernel
theorem dX3_workOut_67 : decode cX3_workOut 67 = .ok (.aload_n 0, 1) := by decide +kernel
theorem dX3_workOut_68 : decode cX3_workOut 68 = .ok (.getfield 30, 3) := by decide +kernel
theorem dX3_workOut_71 : decode cX3_workOut 71 = .ok (.aload_n 0, 1) := by decide +kernel
theorem dX3_workOut_72 : decode cX3_workOut 72 = .ok (.getfield 21, 3) := by decide +kernel
theorem dX3_workOut_75 : decode cX3_workOut 75 = .ok (.iload_n 1, 1) := by decide +kernel
theorem dX3_workOut_76 : decode cX3_workOut 76 = .ok (.iaload, 1) := by decide +kernel
theorem dX3_workOut_77 : decode cX3_workOut 77 = .ok (.iaload, 1) := by decide +kernel
theorem dX3_workOut_78 : decode cX3_workOut 78 = .ok (.istore 7, 2) := by decide +kernel
theorem dX3_workOut_80 : decode cX3_workOut 80 = .ok (.iload 4, 2) := by decide +kernel
theorem dX3_workOut_82 : decode cX3_workOut 82 = .ok (.lookupswitch 73 #[(9, 42), (17, 56), (18, 61), (19, 67)], 42) := by decide +kernel
theorem dX3_workOut_124 : decode cX3_workOut 124 = .ok (.iload 5, 2) := by decide +kernel
theorem dX3_workOut_126 : decode cX3_workOut 126 = .ok (.iconst 1, 1) := by decide +kernel
theorem dX3_workOut_127 : decode cX3_workOut 127 = .ok (.if_icmp .ne 8, 3) := by decide +kernel
theorem dX3_workOut_130 : decode cX3_workOut 130 = .ok (.iload 6, 2) := by decide +kernel
theorem dX3_workOut_132 : decode cX3_workOut 132 = .ok (.goto 5, 3) := by decide +kernel
theorem dX3_workOut_135 : decode cX3_workOut 135 = .ok (.iload 7, 2) := by decide +kernel
theorem dX3_workOut_137 : decode cX3_workOut 137 = .ok (.ireturn, 1) := by decide +kernel
theorem dX3_workOut_138 : decode cX3_workOut 138 = .ok (.iconst 1, 1) := by decide +kernel
theorem dX3_workOut_139 : decode cX3_workOut 139 = .ok (.iload 5, 2) := by decide +kernel
theorem dX3_workOut_141 : decode cX3_workOut 141 = .ok (.isub, 1) := by decide +kernel
theorem dX3_workOut_142 : decode cX3_workOut 142 = .ok (.ireturn, 1) := by decide +kernel
theorem dX3_workOut_143 : decode cX3_workOut 143 = .ok (.iload 5, 2) := by decide +kernel
theorem dX3_workOut_145 : decode cX3_workOut 145 = .ok (.iload 6, 2) := by decide +kernel
theorem dX3_workOut_147 : decode cX3_workOut 147 = .ok (.iand, 1) := by decide +kernel
theorem dX3_workOut_148 : decode cX3_workOut 148 = .ok (.ireturn, 1) := by decide +kernel
theorem dX3_workOut_149 : decode cX3_workOut 149 = .ok (.iload 5, 2) := by decide +kernel
theorem dX3_workOut_151 : decode cX3_workOut 151 = .ok (.iload 6, 2) := by decide +kernel
theorem dX3_workOut_153 : decode cX3_workOut 153 = .ok (.ior, 1) := by decide +kernel
theorem dX3_workOut_154 : decode cX3_workOut 154 = .ok (.ireturn, 1) := by decide +kernel
theorem dX3_workOut_155 : decode cX3_workOut 155 = .ok (.iload 4, 2) := by decide +kernel
theorem dX3_workOut_157 : decode cX3_workOut 157 = .ok (.iload 5, 2) := by decide +kernel
theorem dX3_workOut_159 : decode cX3_workOut 159 = .ok (.iload 6, 2) := by decide +kernel
theorem dX3_workOut_161 : decode cX3_workOut 161 = .ok (.invokestatic 93, 3) := by decide +kernel
theorem dX3_workOut_164 : decode cX3_workOut 164 = .ok (.ireturn, 1) := by decide +kernel
theorem dX3_count_0 : decode cX3_count 0 = .ok (.aload_n 0, 1) := by decide +kernel
theorem dX3_count_1 : decode cX3_count 1 = .ok (.getfield 33, 3) := by decide +kernel
theorem dX3_count_4 : decode cX3_count 4 = .ok (.ireturn, 1) := by decide +kernel
theorem dX3_allows_0 : decode cX3_allows 0 = .ok (.iload_n 1, 1) := by decide +kernel
theorem dX3_allows_1 : decode cX3_allows 1 = .ok (.invokestatic 46, 3) := by decide +kernel
theorem dX3_allows_4 : decode cX3_allows 4 = .ok (.ifCond .eq 44, 3) := by decide +kernel
theorem dX3_allows_7 : decode cX3_allows 7 = .ok (.aload_n 0, 1) := by decide +kernel
theorem dX3_allows_8 : decode cX3_allows 8 = .ok (.iload_n 1, 1) := by decide +kernel
theorem dX3_allows_9 : decode cX3_allows 9 = .ok (.invokestatic 49, 3) := by decide +kernel
theorem dX3_allows_12 : decode cX3_allows 12 = .ok (.iload_n 2, 1) := by decide +kernel
theorem dX3_allows_13 : decode cX3_allows 13 = .ok (.invokevirtual 53, 3) := by decide +kernel
theorem dX3_allows_16 : decode cX3_allows 16 = .ok (.ifCond .eq 32, 3) := by decide +kernel
theorem dX3_allows_19 : decode cX3_allows 19 = .ok (.aload_n 0, 1) := by decide +kernel
theorem dX3_allows_20 : decode cX3_allows 20 = .ok (.iload_n 1, 1) := by decide +kernel
theorem dX3_allows_21 : decode cX3_allows 21 = .ok (.invokestatic 57, 3) := by decide +kernel
theorem dX3_allows_24 : decode cX3_allows 24 = .ok (.iload_n 3, 1) := by decide +kernel
theorem dX3_allows_25 : decode cX3_allows 25 = .ok (.invokevirtual 53, 3) := by decide +kernel
theorem dX3_allows_28 : decode cX3_allows 28 = .ok (.ifCond .eq 20, 3) := by decide +kernel
theorem dX3_allows_31 : decode cX3_allows 31 = .ok (.aload_n 0, 1) := by decide +kernel
theorem dX3_allows_32 : decode cX3_allows 32 = .ok (.iload_n 1, 1) := by decide +kernel
theorem dX3_allows_33 : decode cX3_allows 33 = .ok (.invokestatic 60, 3) := by decide +kernel
theorem dX3_allows_36 : decode cX3_allows 36 = .ok (.iload 4, 2) := by decide +kernel
theorem dX3_allows_38 : decode cX3_allows 38 = .ok (.invokevirtual 53, 3) := by decide +kernel
theorem dX3_allows_41 : decode cX3_allows 41 = .ok (.ifCond .eq 7, 3) := by decide +kernel
theorem dX3_allows_44 : decode cX3_allows 44 = .ok (.iconst 1, 1) := by decide +kernel
theorem dX3_allows_45 : decode cX3_allows 45 = .ok (.goto 4, 3) := by decide +kernel
theorem dX3_allows_48 : decode cX3_allows 48 = .ok (.iconst 0, 1) := by decide +kernel
theorem dX3_allows_49 : decode cX3_allows 49 = .ok (.ireturn, 1) := by decide +kernel
theorem dX3_fits_0 : decode cX3_fits 0 = .ok (.iload_n 1, 1) := by decide +kernel
theorem dX3_fits_1 : decode cX3_fits 1 = .ok (.tableswitch 63 1 4 #[31, 46, 51, 57], 31) := by decide +kernel
theorem dX3_fits_32 : decode cX3_fits 32 = .ok (.iload_n 2, 1) := by decide +kernel
theorem dX3_fits_33 : decode cX3_fits 33 = .ok (.ifCond .lt 12, 3) := by decide +kernel
theorem dX3_fits_36 : decode cX3_fits 36 = .ok (.iload_n 2, 1) := by decide +kernel
theorem dX3_fits_37 : decode cX3_fits 37 = .ok (.iconst 2, 1) := by decide +kernel
theorem dX3_fits_38 : decode cX3_fits 38 = .ok (.if_icmp .ge 7, 3) := by decide +kernel
theorem dX3_fits_41 : decode cX3_fits 41 = .ok (.iconst 1, 1) := by decide +kernel
theorem dX3_fits_42 : decode cX3_fits 42 = .ok (.goto 4, 3) := by decide +kernel
theorem dX3_fits_45 : decode cX3_fits 45 = .ok (.iconst 0, 1) := by decide +kernel
theorem dX3_fits_46 : decode cX3_fits 46 = .ok (.ireturn, 1) := by decide +kernel
theorem dX3_fits_47 : decode cX3_fits 47 = .ok (.iload_n 2, 1) := by decide +kernel
theorem dX3_fits_48 : decode cX3_fits 48 = .ok (.invokestatic 63, 3) := by decide +kernel
theorem dX3_fits_51 : decode cX3_fits 51 = .ok (.ireturn, 1) := by decide +kernel
theorem dX3_fits_52 : decode cX3_fits 52 = .ok (.aload_n 0, 1) := by decide +kernel
theorem dX3_fits_53 : decode cX3_fits 53 = .ok (.iload_n 2, 1) := by decide +kernel
theorem dX3_fits_54 : decode cX3_fits 54 = .ok (.invokevirtual 68, 3) := by decide +kernel
theorem dX3_fits_57 : decode cX3_fits 57 = .ok (.ireturn, 1) := by decide +kernel
theorem dX3_fits_58 : decode cX3_fits 58 = .ok (.aload_n 0, 1) := by decide +kernel
theorem dX3_fits_59 : decode cX3_fits 59 = .ok (.iload_n 2, 1) := by decide +kernel
theorem dX3_fits_60 : decode cX3_fits 60 = .ok (.invokevirtual 71, 3) := by decide +kernel
theorem dX3_fits_63 : decode cX3_fits 63 = .ok (.ireturn, 1) := by decide +kernel
theorem dX3_fits_64 : decode cX3_fits 64 = .ok (.iconst 1, 1) := by decide +kernel
theorem dX3_fits_65 : decode cX3_fits 65 = .ok (.ireturn, 1) := by decide +kernel
theorem dX3_isNumberTerm_0 : decode cX3_isNumberTerm 0 = .ok (.aload_n 0, 1) := by decide +kernel
theorem dX3_isNumberTerm_1 : decode cX3_isNumberTerm 1 = .ok (.iload_n 1, 1) := by decide +kernel
theorem dX3_isNumberTerm_2 : decode cX3_isNumberTerm 2 = .ok (.invokevirtual 37, 3) := by decide +kernel
theorem dX3_isNumberTerm_5 : decode cX3_isNumberTerm 5 = .ok (.ifCond .eq 19, 3) := by decide +kernel
theorem dX3_isNumberTerm_8 : decode cX3_isNumberTerm 8 = .ok (.aload_n 0, 1) := by decide +kernel
theorem dX3_isNumberTerm_9 : decode cX3_isNumberTerm 9 = .ok (.getfield 9, 3) := by decide +kernel
theorem dX3_isNumberTerm_12 : decode cX3_isNumberTerm 12 = .ok (.iload_n 1, 1) := by decide +kernel
theorem dX3_isNumberTerm_13 : decode cX3_isNumberTerm 13 = .ok (.iaload, 1) := by decide +kernel
theorem dX3_isNumberTerm_14 : decode cX3_isNumberTerm 14 = .ok (.invokestatic 41, 3) := by decide +kernel
theorem dX3_isNumberTerm_17 : decode cX3_isNumberTerm 17 = .ok (.ifCond .ne 7, 3) := by decide +kernel
theorem dX3_isNumberTerm_20 : decode cX3_isNumberTerm 20 = .ok (.iconst 1, 1) := by decide +kernel
theorem dX3_isNumberTerm_21 : decode cX3_isNumberTerm 21 = .ok (.goto 4, 3) := by decide +kernel
theorem dX3_isNumberTerm_24 : decode cX3_isNumberTerm 24 = .ok (.iconst 0, 1) := by decide +kernel
theorem dX3_isNumberTerm_25 : decode cX3_isNumberTerm 25 = .ok (.ireturn, 1) := by decide +kernel
theorem dX3_has_0 : decode cX3_has 0 = .ok (.iload_n 1, 1) := by decide +kernel
theorem dX3_has_1 : decode cX3_has 1 = .ok (.ifCond .lt 15, 3) := by decide +kernel
theorem dX3_has_4 : decode cX3_has 4 = .ok (.iload_n 1, 1) := by decide +kernel
theorem dX3_has_5 : decode cX3_has 5 = .ok (.aload_n 0, 1) := by decide +kernel
theorem dX3_has_6 : decode cX3_has 6 = .ok (.getfield 33, 3) := by decide +kernel
theorem dX3_has_9 : decode cX3_has 9 = .ok (.if_icmp .ge 7, 3) := by decide +kernel
theorem dX3_has_12 : decode cX3_has 12 = .ok (.iconst 1, 1) := by decide +kernel
theorem dX3_has_13 : decode cX3_has 13 = .ok (.goto 4, 3) := by decide +kernel
theorem dX3_has_16 : decode cX3_has 16 = .ok (.iconst 0, 1) := by decide +kernel
theorem dX3_has_17 : decode cX3_has 17 = .ok (.ireturn, 1) := by decide +kernel
theorem dX3_isTruth_0 : decode cX3_isTruth 0 = .ok (.aload_n 0, 1) := by decide +kernel
theorem dX3_isTruth_1 : decode cX3_isTruth 1 = .ok (.iload_n 1, 1) := by decide +kernel
theorem dX3_isTruth_2 : decode cX3_isTruth 2 = .ok (.invokevirtual 37, 3) := by decide +kernel
theorem dX3_isTruth_5 : decode cX3_isTruth 5 = .ok (.ifCond .eq 19, 3) := by decide +kernel
theorem dX3_isTruth_8 : decode cX3_isTruth 8 = .ok (.aload_n 0, 1) := by decide +kernel
theorem dX3_isTruth_9 : decode cX3_isTruth 9 = .ok (.getfield 9, 3) := by decide +kernel
theorem dX3_isTruth_12 : decode cX3_isTruth 12 = .ok (.iload_n 1, 1) := by decide +kernel
theorem dX3_isTruth_13 : decode cX3_isTruth 13 = .ok (.iaload, 1) := by decide +kernel
theorem dX3_isTruth_14 : decode cX3_isTruth 14 = .ok (.invokestatic 41, 3) := by decide +kernel
theorem dX3_isTruth_17 : decode cX3_isTruth 17 = .ok (.ifCond .eq 7, 3) := by decide +kernel
theorem dX3_isTruth_20 : decode cX3_isTruth 20 = .ok (.iconst 1, 1) := by decide +kernel
theorem dX3_isTruth_21 : decode cX3_isTruth 21 = .ok (.goto 4, 3) := by decide +kernel
theorem dX3_isTruth_24 : decode cX3_isTruth 24 = .ok (.iconst 0, 1) := by decide +kernel
theorem dX3_isTruth_25 : decode cX3_isTruth 25 = .ok (.ireturn, 1) := by decide +kernel
theorem dX3_find_0 : decode cX3_find 0 = .ok (.iconst 0, 1) := by decide +kernel
theorem dX3_find_1 : decode cX3_find 1 = .ok (.istore 5, 2) := by decide +kernel
theorem dX3_find_3 : decode cX3_find 3 = .ok (.iload 5, 2) := by decide +kernel
theorem dX3_find_5 : decode cX3_find 5 = .ok (.aload_n 0, 1) := by decide +kernel
theorem dX3_find_6 : decode cX3_find 6 = .ok (.getfield 33, 3) := by decide +kernel
theorem dX3_find_9 : decode cX3_find 9 = .ok (.if_icmp .ge 57, 3) := by decide +kernel
theorem dX3_find_12 : decode cX3_find 12 = .ok (.aload_n 0, 1) := by decide +kernel
theorem dX3_find_13 : decode cX3_find 13 = .ok (.getfield 9, 3) := by decide +kernel
theorem dX3_find_16 : decode cX3_find 16 = .ok (.iload 5, 2) := by decide +kernel
theorem dX3_find_18 : decode cX3_find 18 = .ok (.iaload, 1) := by decide +kernel
theorem dX3_find_19 : decode cX3_find 19 = .ok (.iload_n 1, 1) := by decide +kernel
theorem dX3_find_20 : decode cX3_find 20 = .ok (.if_icmp .ne 40, 3) := by decide +kernel
theorem dX3_find_23 : decode cX3_find 23 = .ok (.aload_n 0, 1) := by decide +kernel
theorem dX3_find_24 : decode cX3_find 24 = .ok (.getfield 15, 3) := by decide +kernel
theorem dX3_find_27 : decode cX3_find 27 = .ok (.iload 5, 2) := by decide +kernel
theorem dX3_find_29 : decode cX3_find 29 = .ok (.iaload, 1) := by decide +kernel
theorem dX3_find_30 : decode cX3_find 30 = .ok (.iload_n 2, 1) := by decide +kernel
theorem dX3_find_31 : decode cX3_find 31 = .ok (.if_icmp .ne 29, 3) := by decide +kernel
theorem dX3_find_34 : decode cX3_find 34 = .ok (.aload_n 0, 1) := by decide +kernel
theorem dX3_find_35 : decode cX3_find 35 = .ok (.getfield 18, 3) := by decide +kernel
theorem dX3_find_38 : decode cX3_find 38 = .ok (.iload 5, 2) := by decide +kernel
theorem dX3_find_40 : decode cX3_find 40 = .ok (.iaload, 1) := by decide +kernel
theorem dX3_find_41 : decode cX3_find 41 = .ok (.iload_n 3, 1) := by decide +kernel
theorem dX3_find_42 : decode cX3_find 42 = .ok (.if_icmp .ne 18, 3) := by decide +kernel
theorem dX3_find_45 : decode cX3_find 45 = .ok (.aload_n 0, 1) := by decide +kernel
theorem dX3_find_46 : decode cX3_find 46 = .ok (.getfield 21, 3) := by decide +kernel
theorem dX3_find_49 : decode cX3_find 49 = .ok (.iload 5, 2) := by decide +kernel
theorem dX3_find_51 : decode cX3_find 51 = .ok (.iaload, 1) := by decide +kernel
theorem dX3_find_52 : decode cX3_find 52 = .ok (.iload 4, 2) := by decide +kernel
theorem dX3_find_54 : decode cX3_find 54 = .ok (.if_icmp .ne 6, 3) := by decide +kernel
theorem dX3_find_57 : decode cX3_find 57 = .ok (.iload 5, 2) := by decide +kernel
theorem dX3_find_59 : decode cX3_find 59 = .ok (.ireturn, 1) := by decide +kernel
theorem dX3_find_60 : decode cX3_find 60 = .ok (.iinc 5 1, 3) := by decide +kernel
theorem dX3_find_63 : decode cX3_find 63 = .ok (.goto (-60), 3) := by decide +kernel
theorem dX3_find_66 : decode cX3_find 66 = .ok (.iconst (-1), 1) := by decide +kernel
theorem dX3_find_67 : decode cX3_find 67 = .ok (.ireturn, 1) := by decide +kernel
theorem dX3_isFull_0 : decode cX3_isFull 0 = .ok (.aload_n 0, 1) := by decide +kernel
theorem dX3_isFull_1 : decode cX3_isFull 1 = .ok (.getfield 33, 3) := by decide +kernel
theorem dX3_isFull_4 : decode cX3_isFull 4 = .ok (.bipush 12, 2) := by decide +kernel
theorem dX3_isFull_6 : decode cX3_isFull 6 = .ok (.if_icmp .lt 7, 3) := by decide +kernel
theorem dX3_isFull_9 : decode cX3_isFull 9 = .ok (.iconst 1, 1) := by decide +kernel
theorem dX3_isFull_10 : decode cX3_isFull 10 = .ok (.goto 4, 3) := by decide +kernel
theorem dX3_isFull_13 : decode cX3_isFull 13 = .ok (.iconst 0, 1) := by decide +kernel
theorem dX3_isFull_14 : decode cX3_isFull 14 = .ok (.ireturn, 1) := by decide +kernel
theorem dX3_append_0 : decode cX3_append 0 = .ok (.aload_n 0, 1) := by decide +kernel
theorem dX3_append_1 : decode cX3_append 1 = .ok (.getfield 33, 3) := by decide +kernel
theorem dX3_append_4 : decode cX3_append 4 = .ok (.istore 5, 2) := by decide +kernel
theorem dX3_append_6 : decode cX3_append 6 = .ok (.aload_n 0, 1) := by decide +kernel
theorem dX3_append_7 : decode cX3_append 7 = .ok (.getfield 9, 3) := by decide +kernel
theorem dX3_append_10 : decode cX3_append 10 = .ok (.iload 5, 2) := by decide +kernel
theorem dX3_append_12 : decode cX3_append 12 = .ok (.iload_n 1, 1) := by decide +kernel
theorem dX3_append_13 : decode cX3_append 13 = .ok (.iastore, 1) := by decide +kernel
theorem dX3_append_14 : decode cX3_append 14 = .ok (.aload_n 0, 1) := by decide +kernel
theorem dX3_append_15 : decode cX3_append 15 = .ok (.getfield 15, 3) := by decide +kernel
theorem dX3_append_18 : decode cX3_append 18 = .ok (.iload 5, 2) := by decide +kernel
theorem dX3_append_20 : decode cX3_append 20 = .ok (.iload_n 2, 1) := by decide +kernel
theorem dX3_append_21 : decode cX3_append 21 = .ok (.iastore, 1) := by decide +kernel
theorem dX3_append_22 : decode cX3_append 22 = .ok (.aload_n 0, 1) := by decide +kernel
theorem dX3_append_23 : decode cX3_append 23 = .ok (.getfield 18, 3) := by decide +kernel
theorem dX3_append_26 : decode cX3_append 26 = .ok (.iload 5, 2) := by decide +kernel
theorem dX3_append_28 : decode cX3_append 28 = .ok (.iload_n 3, 1) := by decide +kernel
theorem dX3_append_29 : decode cX3_append 29 = .ok (.iastore, 1) := by decide +kernel
theorem dX3_append_30 : decode cX3_append 30 = .ok (.aload_n 0, 1) := by decide +kernel
theorem dX3_append_31 : decode cX3_append 31 = .ok (.getfield 21, 3) := by decide +kernel
theorem dX3_append_34 : decode cX3_append 34 = .ok (.iload 5, 2) := by decide +kernel
theorem dX3_append_36 : decode cX3_append 36 = .ok (.iload 4, 2) := by decide +kernel
theorem dX3_append_38 : decode cX3_append 38 = .ok (.iastore, 1) := by decide +kernel
theorem dX3_append_39 : decode cX3_append 39 = .ok (.aload_n 0, 1) := by decide +kernel
theorem dX3_append_40 : decode cX3_append 40 = .ok (.getfield 24, 3) := by decide +kernel
theorem dX3_append_43 : decode cX3_append 43 = .ok (.iload 5, 2) := by decide +kernel
theorem dX3_append_45 : decode cX3_append 45 = .ok (.iconst 1, 1) := by decide +kernel
theorem dX3_append_46 : decode cX3_append 46 = .ok (.iload 5, 2) := by decide +kernel
theorem dX3_append_48 : decode cX3_append 48 = .ok (.ishl, 1) := by decide +kernel
theorem dX3_append_49 : decode cX3_append 49 = .ok (.aload_n 0, 1) := by decide +kernel
theorem dX3_append_50 : decode cX3_append 50 = .ok (.iload_n 1, 1) := by decide +kernel
theorem dX3_append_51 : decode cX3_append 51 = .ok (.invokestatic 49, 3) := by decide +kernel
theorem dX3_append_54 : decode cX3_append 54 = .ok (.iload_n 2, 1) := by decide +kernel
theorem dX3_append_55 : decode cX3_append 55 = .ok (.invokevirtual 74, 3) := by decide +kernel
theorem dX3_append_58 : decode cX3_append 58 = .ok (.ior, 1) := by decide +kernel
theorem dX3_append_59 : decode cX3_append 59 = .ok (.aload_n 0, 1) := by decide +kernel
theorem dX3_append_60 : decode cX3_append 60 = .ok (.iload_n 1, 1) := by decide +kernel
theorem dX3_append_61 : decode cX3_append 61 = .ok (.invokestatic 57, 3) := by decide +kernel
theorem dX3_append_64 : decode cX3_append 64 = .ok (.iload_n 3, 1) := by decide +kernel
theorem dX3_append_65 : decode cX3_append 65 = .ok (.invokevirtual 74, 3) := by decide +kernel
theorem dX3_append_68 : decode cX3_append 68 = .ok (.ior, 1) := by decide +kernel
theorem dX3_append_69 : decode cX3_append 69 = .ok (.aload_n 0, 1) := by decide +kernel
theorem dX3_append_70 : decode cX3_append 70 = .ok (.iload_n 1, 1) := by decide +kernel
theorem dX3_append_71 : decode cX3_append 71 = .ok (.invokestatic 60, 3) := by decide +kernel
theorem dX3_append_74 : decode cX3_append 74 = .ok (.iload 4, 2) := by decide +kernel
theorem dX3_append_76 : decode cX3_append 76 = .ok (.invokevirtual 74, 3) := by decide +kernel
theorem dX3_append_79 : decode cX3_append 79 = .ok (.ior, 1) := by decide +kernel
theorem dX3_append_80 : decode cX3_append 80 = .ok (.iastore, 1) := by decide +kernel
theorem dX3_append_81 : decode cX3_append 81 = .ok (.aload_n 0, 1) := by decide +kernel
theorem dX3_append_82 : decode cX3_append 82 = .ok (.iload 5, 2) := by decide +kernel
theorem dX3_append_84 : decode cX3_append 84 = .ok (.invokevirtual 78, 3) := by decide +kernel
theorem dX3_append_87 : decode cX3_append 87 = .ok (.aload_n 0, 1) := by decide +kernel
theorem dX3_append_88 : decode cX3_append 88 = .ok (.dup, 1) := by decide +kernel
theorem dX3_append_89 : decode cX3_append 89 = .ok (.getfield 33, 3) := by decide +kernel
theorem dX3_append_92 : decode cX3_append 92 = .ok (.iconst 1, 1) := by decide +kernel
theorem dX3_append_93 : decode cX3_append 93 = .ok (.iadd, 1) := by decide +kernel
theorem dX3_append_94 : decode cX3_append 94 = .ok (.putfield 33, 3) := by decide +kernel
theorem dX3_append_97 : decode cX3_append 97 = .ok (.iload 5, 2) := by decide +kernel
theorem dX3_append_99 : decode cX3_append 99 = .ok (.ireturn, 1) := by decide +kernel
theorem dX3_partsBelow_0 : decode cX3_partsBelow 0 = .ok (.iload_n 1, 1) := by decide +kernel
theorem dX3_partsBelow_1 : decode cX3_partsBelow 1 = .ok (.invokestatic 82, 3) := by decide +kernel
theorem dX3_partsBelow_4 : decode cX3_partsBelow 4 = .ok (.ifCond .eq 12, 3) := by decide +kernel
theorem dX3_partsBelow_7 : decode cX3_partsBelow 7 = .ok (.aload_n 0, 1) := by decide +kernel
theorem dX3_partsBelow_8 : decode cX3_partsBelow 8 = .ok (.getfield 24, 3) := by decide +kernel
theorem dX3_partsBelow_11 : decode cX3_partsBelow 11 = .ok (.iload_n 2, 1) := by decide +kernel
theorem dX3_partsBelow_12 : decode cX3_partsBelow 12 = .ok (.iaload, 1) := by decide +kernel
theorem dX3_partsBelow_13 : decode cX3_partsBelow 13 = .ok (.goto 4, 3) := by decide +kernel
theorem dX3_partsBelow_16 : decode cX3_partsBelow 16 = .ok (.iconst 0, 1) := by decide +kernel
theorem dX3_partsBelow_17 : decode cX3_partsBelow 17 = .ok (.ireturn, 1) := by decide +kernel
theorem dX3_noteVariables_0 : decode cX3_noteVariables 0 = .ok (.iconst 0, 1) := by decide +kernel
theorem dX3_noteVariables_1 : decode cX3_noteVariables 1 = .ok (.istore_n 2, 1) := by decide +kernel
theorem dX3_noteVariables_2 : decode cX3_noteVariables 2 = .ok (.iload_n 2, 1) := by decide +kernel
theorem dX3_noteVariables_3 : decode cX3_noteVariables 3 = .ok (.iconst 2, 1) := by decide +kernel
theorem dX3_noteVariables_4 : decode cX3_noteVariables 4 = .ok (.if_icmp .ge 66, 3) := by decide +kernel
theorem dX3_noteVariables_7 : decode cX3_noteVariables 7 = .ok (.aload_n 0, 1) := by decide +kernel
theorem dX3_noteVariables_8 : decode cX3_noteVariables 8 = .ok (.getfield 9, 3) := by decide +kernel
theorem dX3_noteVariables_11 : decode cX3_noteVariables 11 = .ok (.iload_n 1, 1) := by decide +kernel
theorem dX3_noteVariables_12 : decode cX3_noteVariables 12 = .ok (.iaload, 1) := by decide +kernel
theorem dX3_noteVariables_13 : decode cX3_noteVariables 13 = .ok (.ifCond .ne 17, 3) := by decide +kernel
theorem dX3_noteVariables_16 : decode cX3_noteVariables 16 = .ok (.aload_n 0, 1) := by decide +kernel
theorem dX3_noteVariables_17 : decode cX3_noteVariables 17 = .ok (.getfield 15, 3) := by decide +kernel
theorem dX3_noteVariables_20 : decode cX3_noteVariables 20 = .ok (.iload_n 1, 1) := by decide +kernel
theorem dX3_noteVariables_21 : decode cX3_noteVariables 21 = .ok (.iaload, 1) := by decide +kernel
theorem dX3_noteVariables_22 : decode cX3_noteVariables 22 = .ok (.iload_n 2, 1) := by decide +kernel
theorem dX3_noteVariables_23 : decode cX3_noteVariables 23 = .ok (.if_icmp .ne 7, 3) := by decide +kernel
theorem dX3_noteVariables_26 : decode cX3_noteVariables 26 = .ok (.iconst 1, 1) := by decide +kernel
theorem dX3_noteVariables_27 : decode cX3_noteVariables 27 = .ok (.goto 4, 3) := by decide +kernel
theorem dX3_noteVariables_30 : decode cX3_noteVariables 30 = .ok (.iconst 0, 1) := by decide +kernel
theorem dX3_noteVariables_31 : decode cX3_noteVariables 31 = .ok (.istore_n 3, 1) := by decide +kernel
theorem dX3_noteVariables_32 : decode cX3_noteVariables 32 = .ok (.iload_n 3, 1) := by decide +kernel
theorem dX3_noteVariables_33 : decode cX3_noteVariables 33 = .ok (.ifCond .ne 19, 3) := by decide +kernel
theorem dX3_noteVariables_36 : decode cX3_noteVariables 36 = .ok (.aload_n 0, 1) := by decide +kernel
theorem dX3_noteVariables_37 : decode cX3_noteVariables 37 = .ok (.getfield 24, 3) := by decide +kernel
theorem dX3_noteVariables_40 : decode cX3_noteVariables 40 = .ok (.iload_n 1, 1) := by decide +kernel
theorem dX3_noteVariables_41 : decode cX3_noteVariables 41 = .ok (.iaload, 1) := by decide +kernel
theorem dX3_noteVariables_42 : decode cX3_noteVariables 42 = .ok (.aload_n 0, 1) := by decide +kernel
theorem dX3_noteVariables_43 : decode cX3_noteVariables 43 = .ok (.getfield 27, 3) := by decide +kernel
theorem dX3_noteVariables_46 : decode cX3_noteVariables 46 = .ok (.iload_n 2, 1) := by decide +kernel
theorem dX3_noteVariables_47 : decode cX3_noteVariables 47 = .ok (.iaload, 1) := by decide +kernel
theorem dX3_noteVariables_48 : decode cX3_noteVariables 48 = .ok (.iand, 1) := by decide +kernel
theorem dX3_noteVariables_49 : decode cX3_noteVariables 49 = .ok (.ifCond .eq 15, 3) := by decide +kernel
theorem dX3_noteVariables_52 : decode cX3_noteVariables 52 = .ok (.aload_n 0, 1) := by decide +kernel
theorem dX3_noteVariables_53 : decode cX3_noteVariables 53 = .ok (.getfield 27, 3) := by decide +kernel
theorem dX3_noteVariables_56 : decode cX3_noteVariables 56 = .ok (.iload_n 2, 1) := by decide +kernel
theorem dX3_noteVariables_57 : decode cX3_noteVariables 57 = .ok (.dup2, 1) := by decide +kernel
theorem dX3_noteVariables_58 : decode cX3_noteVariables 58 = .ok (.iaload, 1) := by decide +kernel
theorem dX3_noteVariables_59 : decode cX3_noteVariables 59 = .ok (.iconst 1, 1) := by decide +kernel
theorem dX3_noteVariables_60 : decode cX3_noteVariables 60 = .ok (.iload_n 1, 1) := by decide +kernel
theorem dX3_noteVariables_61 : decode cX3_noteVariables 61 = .ok (.ishl, 1) := by decide +kernel
theorem dX3_noteVariables_62 : decode cX3_noteVariables 62 = .ok (.ior, 1) := by decide +kernel
theorem dX3_noteVariables_63 : decode cX3_noteVariables 63 = .ok (.iastore, 1) := by decide +kernel
theorem dX3_noteVariables_64 : decode cX3_noteVariables 64 = .ok (.iinc 2 1, 3) := by decide +kernel
theorem dX3_noteVariables_67 : decode cX3_noteVariables 67 = .ok (.goto (-65), 3) := by decide +kernel
theorem dX3_noteVariables_70 : decode cX3_noteVariables 70 = .ok (.return_, 1) := by decide +kernel
theorem dX3_answer_0 : decode cX3_answer 0 = .ok (.aload_n 0, 1) := by decide +kernel
theorem dX3_answer_1 : decode cX3_answer 1 = .ok (.aload_n 0, 1) := by decide +kernel
theorem dX3_answer_2 : decode cX3_answer 2 = .ok (.getfield 24, 3) := by decide +kernel
theorem dX3_answer_5 : decode cX3_answer 5 = .ok (.iload_n 1, 1) := by decide +kernel
theorem dX3_answer_6 : decode cX3_answer 6 = .ok (.iaload, 1) := by decide +kernel
theorem dX3_answer_7 : decode cX3_answer 7 = .ok (.iconst 0, 1) := by decide +kernel
theorem dX3_answer_8 : decode cX3_answer 8 = .ok (.iload_n 2, 1) := by decide +kernel
theorem dX3_answer_9 : decode cX3_answer 9 = .ok (.iload_n 3, 1) := by decide +kernel
theorem dX3_answer_10 : decode cX3_answer 10 = .ok (.invokevirtual 89, 3) := by decide +kernel
theorem dX3_answer_13 : decode cX3_answer 13 = .ok (.pop, 1) := by decide +kernel
theorem dX3_answer_14 : decode cX3_answer 14 = .ok (.aload_n 0, 1) := by decide +kernel
theorem dX3_answer_15 : decode cX3_answer 15 = .ok (.getfield 30, 3) := by decide +kernel
theorem dX3_answer_18 : decode cX3_answer 18 = .ok (.iload_n 1, 1) := by decide +kernel
theorem dX3_answer_19 : decode cX3_answer 19 = .ok (.iaload, 1) := by decide +kernel
theorem dX3_answer_20 : decode cX3_answer 20 = .ok (.ireturn, 1) := by decide +kernel
theorem dX4_init_0 : decode cX4_init 0 = .ok (.aload_n 0, 1) := by decide +kernel
theorem dX4_init_1 : decode cX4_init 1 = .ok (.invokespecial 1, 3) := by decide +kernel
theorem dX4_init_4 : decode cX4_init 4 = .ok (.aload_n 0, 1) := by decide +kernel
theorem dX4_init_5 : decode cX4_init 5 = .ok (.new 7, 3) := by decide +kernel
theorem dX4_init_8 : decode cX4_init 8 = .ok (.dup, 1) := by decide +kernel
theorem dX4_init_9 : decode cX4_init 9 = .ok (.invokespecial 9, 3) := by decide +kernel
theorem dX4_init_12 : decode cX4_init 12 = .ok (.putfield 10, 3) := by decide +kernel
theorem dX4_init_15 : decode cX4_init 15 = .ok (.aload_n 0, 1) := by decide +kernel
theorem dX4_init_16 : decode cX4_init 16 = .ok (.new 16, 3) := by decide +kernel
theorem dX4_init_19 : decode cX4_init 19 = .ok (.dup, 1) := by decide +kernel
theorem dX4_init_20 : decode cX4_init 20 = .ok (.invokespecial 18, 3) := by decide +kernel
theorem dX4_init_23 : decode cX4_init 23 = .ok (.putfield 19, 3) := by decide +kernel
theorem dX4_init_26 : decode cX4_init 26 = .ok (.aload_n 0, 1) := by decide +kernel
theorem dX4_init_27 : decode cX4_init 27 = .ok (.iconst 2, 1) := by decide +kernel
theorem dX4_init_28 : decode cX4_init 28 = .ok (.newarray .int, 2) := by decide +kernel
theorem dX4_init_30 : decode cX4_init 30 = .ok (.putfield 23, 3) := by decide +kernel
theorem dX4_init_33 : decode cX4_init 33 = .ok (.aload_n 0, 1) := by decide +kernel
theorem dX4_init_34 : decode cX4_init 34 = .ok (.iconst 0, 1) := by decide +kernel
theorem dX4_init_35 : decode cX4_init 35 = .ok (.putfield 27, 3) := by decide +kernel
theorem dX4_init_38 : decode cX4_init 38 = .ok (.aload_n 0, 1) := by decide +kernel
theorem dX4_init_39 : decode cX4_init 39 = .ok (.iconst 0, 1) := by decide +kernel
theorem dX4_init_40 : decode cX4_init 40 = .ok (.putfield 31, 3) := by decide +kernel
theorem dX4_init_43 : decode cX4_init 43 = .ok (.return_, 1) := by decide +kernel
theorem dX4_check_0 : decode cX4_check 0 = .ok (.aload_n 0, 1) := by decide +kernel
theorem dX4_check_1 : decode cX4_check 1 = .ok (.dup, 1) := by decide +kernel
theorem dX4_check_2 : decode cX4_check 2 = .ok (.getfield 31, 3) := by decide +kernel
theorem dX4_check_5 : decode cX4_check 5 = .ok (.iconst 1, 1) := by decide +kernel
theorem dX4_check_6 : decode cX4_check 6 = .ok (.iadd, 1) := by decide +kernel
theorem dX4_check_7 : decode cX4_check 7 = .ok (.putfield 31, 3) := by decide +kernel
theorem dX4_check_10 : decode cX4_check 10 = .ok (.aload_n 0, 1) := by decide +kernel
theorem dX4_check_11 : decode cX4_check 11 = .ok (.aload_n 0, 1) := by decide +kernel
theorem dX4_check_12 : decode cX4_check 12 = .ok (.invokevirtual 97, 3) := by decide +kernel
theorem dX4_check_15 : decode cX4_check 15 = .ok (.putfield 27, 3) := by decide +kernel
theorem dX4_check_18 : decode cX4_check 18 = .ok (.aload_n 0, 1) := by decide +kernel
theorem dX4_check_19 : decode cX4_check 19 = .ok (.getfield 27, 3) := by decide +kernel
theorem dX4_check_22 : decode cX4_check 22 = .ok (.ireturn, 1) := by decide +kernel
theorem dX4_search_0 : decode cX4_search 0 = .ok (.aload_n 0, 1) := by decide +kernel
theorem dX4_search_1 : decode cX4_search 1 = .ok (.getfield 19, 3) := by decide +kernel
theorem dX4_search_4 : decode cX4_search 4 = .ok (.invokevirtual 133, 3) := by decide +kernel
theorem dX4_search_7 : decode cX4_search 7 = .ok (.istore_n 1, 1) := by decide +kernel
theorem dX4_search_8 : decode cX4_search 8 = .ok (.aload_n 0, 1) := by decide +kernel
theorem dX4_search_9 : decode cX4_search 9 = .ok (.getfield 10, 3) := by decide +kernel
theorem dX4_search_12 : decode cX4_search 12 = .ok (.iload_n 1, 1) := by decide +kernel
theorem dX4_search_13 : decode cX4_search 13 = .ok (.invokevirtual 136, 3) := by decide +kernel
theorem dX4_search_16 : decode cX4_search 16 = .ok (.istore_n 2, 1) := by decide +kernel
theorem dX4_search_17 : decode cX4_search 17 = .ok (.iload_n 2, 1) := by decide +kernel
theorem dX4_search_18 : decode cX4_search 18 = .ok (.aload_n 0, 1) := by decide +kernel
theorem dX4_search_19 : decode cX4_search 19 = .ok (.getfield 10, 3) := by decide +kernel
theorem dX4_search_22 : decode cX4_search 22 = .ok (.iconst 1, 1) := by decide +kernel
theorem dX4_search_23 : decode cX4_search 23 = .ok (.invokevirtual 139, 3) := by decide +kernel
theorem dX4_search_26 : decode cX4_search 26 = .ok (.iand, 1) := by decide +kernel
theorem dX4_search_27 : decode cX4_search 27 = .ok (.istore_n 3, 1) := by decide +kernel
theorem dX4_search_28 : decode cX4_search 28 = .ok (.iload_n 2, 1) := by decide +kernel
theorem dX4_search_29 : decode cX4_search 29 = .ok (.iload_n 3, 1) := by decide +kernel
theorem dX4_search_30 : decode cX4_search 30 = .ok (.iconst (-1), 1) := by decide +kernel
theorem dX4_search_31 : decode cX4_search 31 = .ok (.ixor, 1) := by decide +kernel
theorem dX4_search_32 : decode cX4_search 32 = .ok (.iand, 1) := by decide +kernel
theorem dX4_search_33 : decode cX4_search 33 = .ok (.istore 4, 2) := by decide +kernel
theorem dX4_search_35 : decode cX4_search 35 = .ok (.iload_n 2, 1) := by decide +kernel
theorem dX4_search_36 : decode cX4_search 36 = .ok (.aload_n 0, 1) := by decide +kernel
theorem dX4_search_37 : decode cX4_search 37 = .ok (.getfield 10, 3) := by decide +kernel
theorem dX4_search_40 : decode cX4_search 40 = .ok (.iconst 0, 1) := by decide +kernel
theorem dX4_search_41 : decode cX4_search 41 = .ok (.invokevirtual 139, 3) := by decide +kernel
theorem dX4_search_44 : decode cX4_search 44 = .ok (.iand, 1) := by decide +kernel
theorem dX4_search_45 : decode cX4_search 45 = .ok (.ifCond .ne 7, 3) := by decide +kernel
theorem dX4_search_48 : decode cX4_search 48 = .ok (.iconst 0, 1) := by decide +kernel
theorem dX4_search_49 : decode cX4_search 49 = .ok (.goto 5, 3) := by decide +kernel
theorem dX4_search_52 : decode cX4_search 52 = .ok (.bipush 31, 2) := by decide +kernel
theorem dX4_search_54 : decode cX4_search 54 = .ok (.istore 5, 2) := by decide +kernel
theorem dX4_search_56 : decode cX4_search 56 = .ok (.iconst 0, 1) := by decide +kernel
theorem dX4_search_57 : decode cX4_search 57 = .ok (.istore 6, 2) := by decide +kernel
theorem dX4_search_59 : decode cX4_search 59 = .ok (.iload 6, 2) := by decide +kernel
theorem dX4_search_61 : decode cX4_search 61 = .ok (.iload 5, 2) := by decide +kernel
theorem dX4_search_63 : decode cX4_search 63 = .ok (.if_icmp .gt 79, 3) := by decide +kernel
theorem dX4_search_66 : decode cX4_search 66 = .ok (.aload_n 0, 1) := by decide +kernel
theorem dX4_search_67 : decode cX4_search 67 = .ok (.getfield 10, 3) := by decide +kernel
theorem dX4_search_70 : decode cX4_search 70 = .ok (.iload 4, 2) := by decide +kernel
theorem dX4_search_72 : decode cX4_search 72 = .ok (.iload_n 1, 1) := by decide +kernel
theorem dX4_search_73 : decode cX4_search 73 = .ok (.iload 6, 2) := by decide +kernel
theorem dX4_search_75 : decode cX4_search 75 = .ok (.iconst 0, 1) := by decide +kernel
theorem dX4_search_76 : decode cX4_search 76 = .ok (.invokevirtual 142, 3) := by decide +kernel
theorem dX4_search_79 : decode cX4_search 79 = .ok (.istore 7, 2) := by decide +kernel
theorem dX4_search_81 : decode cX4_search 81 = .ok (.iconst 0, 1) := by decide +kernel
theorem dX4_search_82 : decode cX4_search 82 = .ok (.istore 8, 2) := by decide +kernel
theorem dX4_search_84 : decode cX4_search 84 = .ok (.iload 7, 2) := by decide +kernel
theorem dX4_search_86 : decode cX4_search 86 = .ok (.ifCond .eq 50, 3) := by decide +kernel
theorem dX4_search_89 : decode cX4_search 89 = .ok (.iload 8, 2) := by decide +kernel
theorem dX4_search_91 : decode cX4_search 91 = .ok (.bipush 31, 2) := by decide +kernel
theorem dX4_search_93 : decode cX4_search 93 = .ok (.if_icmp .gt 43, 3) := by decide +kernel
theorem dX4_search_96 : decode cX4_search 96 = .ok (.aload_n 0, 1) := by decide +kernel
theorem dX4_search_97 : decode cX4_search 97 = .ok (.getfield 10, 3) := by decide +kernel
theorem dX4_search_100 : decode cX4_search 100 = .ok (.iload_n 3, 1) := by decide +kernel
theorem dX4_search_101 : decode cX4_search 101 = .ok (.iload_n 1, 1) := by decide +kernel
theorem dX4_search_102 : decode cX4_search 102 = .ok (.iload 6, 2) := by decide +kernel
theorem dX4_search_104 : decode cX4_search 104 = .ok (.iload 8, 2) := by decide +kernel
theorem dX4_search_106 : decode cX4_search 106 = .ok (.invokevirtual 142, 3) := by decide +kernel
theorem dX4_search_109 : decode cX4_search 109 = .ok (.ifCond .eq 21, 3) := by decide +kernel
theorem dX4_search_112 : decode cX4_search 112 = .ok (.aload_n 0, 1) := by decide +kernel
theorem dX4_search_113 : decode cX4_search 113 = .ok (.getfield 23, 3) := by decide +kernel
theorem dX4_search_116 : decode cX4_search 116 = .ok (.iconst 0, 1) := by decide +kernel
theorem dX4_search_117 : decode cX4_search 117 = .ok (.iload 6, 2) := by decide +kernel
theorem dX4_search_119 : decode cX4_search 119 = .ok (.iastore, 1) := by decide +kernel
theorem dX4_search_120 : decode cX4_search 120 = .ok (.aload_n 0, 1) := by decide +kernel
theorem dX4_search_121 : decode cX4_search 121 = .ok (.getfield 23, 3) := by decide +kernel
theorem dX4_search_124 : decode cX4_search 124 = .ok (.iconst 1, 1) := by decide +kernel
theorem dX4_search_125 : decode cX4_search 125 = .ok (.iload 8, 2) := by decide +kernel
theorem dX4_search_127 : decode cX4_search 127 = .ok (.iastore, 1) := by decide +kernel
theorem dX4_search_128 : decode cX4_search 128 = .ok (.iconst 1, 1) := by decide +kernel
theorem dX4_search_129 : decode cX4_search 129 = .ok (.ireturn, 1) := by decide +kernel
theorem dX4_search_130 : decode cX4_search 130 = .ok (.iinc 8 1, 3) := by decide +kernel
theorem dX4_search_133 : decode cX4_search 133 = .ok (.goto (-49), 3) := by decide +kernel
theorem dX4_search_136 : decode cX4_search 136 = .ok (.iinc 6 1, 3) := by decide +kernel
theorem dX4_search_139 : decode cX4_search 139 = .ok (.goto (-80), 3) := by decide +kernel
theorem dX4_search_142 : decode cX4_search 142 = .ok (.iconst 0, 1) := by decide +kernel
theorem dX4_search_143 : decode cX4_search 143 = .ok (.ireturn, 1) := by decide +kernel
theorem dX4_terms_0 : decode cX4_terms 0 = .ok (.aload_n 0, 1) := by decide +kernel
theorem dX4_terms_1 : decode cX4_terms 1 = .ok (.getfield 10, 3) := by decide +kernel
theorem dX4_terms_4 : decode cX4_terms 4 = .ok (.invokevirtual 129, 3) := by decide +kernel
theorem dX4_terms_7 : decode cX4_terms 7 = .ok (.ireturn, 1) := by decide +kernel
theorem dX4_claims_0 : decode cX4_claims 0 = .ok (.aload_n 0, 1) := by decide +kernel
theorem dX4_claims_1 : decode cX4_claims 1 = .ok (.getfield 19, 3) := by decide +kernel
theorem dX4_claims_4 : decode cX4_claims 4 = .ok (.invokevirtual 132, 3) := by decide +kernel
theorem dX4_claims_7 : decode cX4_claims 7 = .ok (.ireturn, 1) := by decide +kernel
theorem dX4_level_0 : decode cX4_level 0 = .ok (.aload_n 0, 1) := by decide +kernel
theorem dX4_level_1 : decode cX4_level 1 = .ok (.getfield 19, 3) := by decide +kernel
theorem dX4_level_4 : decode cX4_level 4 = .ok (.invokevirtual 83, 3) := by decide +kernel
theorem dX4_level_7 : decode cX4_level 7 = .ok (.ireturn, 1) := by decide +kernel
theorem dX4_checks_0 : decode cX4_checks 0 = .ok (.aload_n 0, 1) := by decide +kernel
theorem dX4_checks_1 : decode cX4_checks 1 = .ok (.getfield 31, 3) := by decide +kernel
theorem dX4_checks_4 : decode cX4_checks 4 = .ok (.ireturn, 1) := by decide +kernel
theorem dX4_term_0 : decode cX4_term 0 = .ok (.aload_n 0, 1) := by decide +kernel
theorem dX4_term_1 : decode cX4_term 1 = .ok (.getfield 10, 3) := by decide +kernel
theorem dX4_term_4 : decode cX4_term 4 = .ok (.iload_n 1, 1) := by decide +kernel
theorem dX4_term_5 : decode cX4_term 5 = .ok (.iload_n 2, 1) := by decide +kernel
theorem dX4_term_6 : decode cX4_term 6 = .ok (.iload_n 3, 1) := by decide +kernel
theorem dX4_term_7 : decode cX4_term 7 = .ok (.iload 4, 2) := by decide +kernel
theorem dX4_term_9 : decode cX4_term 9 = .ok (.invokevirtual 35, 3) := by decide +kernel
theorem dX4_term_12 : decode cX4_term 12 = .ok (.ifCond .ne 13, 3) := by decide +kernel
theorem dX4_term_15 : decode cX4_term 15 = .ok (.new 39, 3) := by decide +kernel
theorem dX4_term_18 : decode cX4_term 18 = .ok (.dup, 1) := by decide +kernel
theorem dX4_term_19 : decode cX4_term 19 = .ok (.ldc 41, 2) := by decide +kernel
theorem dX4_term_21 : decode cX4_term 21 = .ok (.invokespecial 43, 3) := by decide +kernel
theorem dX4_term_24 : decode cX4_term 24 = .ok (.athrow, 1) := by decide +kernel
theorem dX4_term_25 : decode cX4_term 25 = .ok (.iload_n 1, 1) := by decide +kernel
theorem dX4_term_26 : decode cX4_term 26 = .ok (.invokestatic 46, 3) := by decide +kernel
theorem dX4_term_29 : decode cX4_term 29 = .ok (.ifCond .ne 7, 3) := by decide +kernel
theorem dX4_term_32 : decode cX4_term 32 = .ok (.iconst 0, 1) := by decide +kernel
theorem dX4_term_33 : decode cX4_term 33 = .ok (.goto 4, 3) := by decide +kernel
theorem dX4_term_36 : decode cX4_term 36 = .ok (.iload_n 3, 1) := by decide +kernel
theorem dX4_term_37 : decode cX4_term 37 = .ok (.istore 5, 2) := by decide +kernel
theorem dX4_term_39 : decode cX4_term 39 = .ok (.iload_n 1, 1) := by decide +kernel
theorem dX4_term_40 : decode cX4_term 40 = .ok (.invokestatic 52, 3) := by decide +kernel
theorem dX4_term_43 : decode cX4_term 43 = .ok (.ifCond .ne 7, 3) := by decide +kernel
theorem dX4_term_46 : decode cX4_term 46 = .ok (.iconst 0, 1) := by decide +kernel
theorem dX4_term_47 : decode cX4_term 47 = .ok (.goto 5, 3) := by decide +kernel
theorem dX4_term_50 : decode cX4_term 50 = .ok (.iload 4, 2) := by decide +kernel
theorem dX4_term_52 : decode cX4_term 52 = .ok (.istore 6, 2) := by decide +kernel
theorem dX4_term_54 : decode cX4_term 54 = .ok (.aload_n 0, 1) := by decide +kernel
theorem dX4_term_55 : decode cX4_term 55 = .ok (.getfield 10, 3) := by decide +kernel
theorem dX4_term_58 : decode cX4_term 58 = .ok (.iload_n 1, 1) := by decide +kernel
theorem dX4_term_59 : decode cX4_term 59 = .ok (.iload_n 2, 1) := by decide +kernel
theorem dX4_term_60 : decode cX4_term 60 = .ok (.iload 5, 2) := by decide +kernel
theorem dX4_term_62 : decode cX4_term 62 = .ok (.iload 6, 2) := by decide +kernel
theorem dX4_term_64 : decode cX4_term 64 = .ok (.invokevirtual 55, 3) := by decide +kernel
theorem dX4_term_67 : decode cX4_term 67 = .ok (.istore 7, 2) := by decide +kernel
theorem dX4_term_69 : decode cX4_term 69 = .ok (.iload 7, 2) := by decide +kernel
theorem dX4_term_71 : decode cX4_term 71 = .ok (.ifCond .lt 6, 3) := by decide +kernel
theorem dX4_term_74 : decode cX4_term 74 = .ok (.iload 7, 2) := by decide +kernel
theorem dX4_term_76 : decode cX4_term 76 = .ok (.ireturn, 1) := by decide +kernel
theorem dX4_term_77 : decode cX4_term 77 = .ok (.aload_n 0, 1) := by decide +kernel
theorem dX4_term_78 : decode cX4_term 78 = .ok (.getfield 10, 3) := by decide +kernel
theorem dX4_term_81 : decode cX4_term 81 = .ok (.invokevirtual 59, 3) := by decide +kernel
theorem dX4_term_84 : decode cX4_term 84 = .ok (.ifCond .eq 13, 3) := by decide +kernel
theorem dX4_term_87 : decode cX4_term 87 = .ok (.new 63, 3) := by decide +kernel
theorem dX4_term_90 : decode cX4_term 90 = .ok (.dup, 1) := by decide +kernel
theorem dX4_term_91 : decode cX4_term 91 = .ok (.ldc 65, 2) := by decide +kernel
theorem dX4_term_93 : decode cX4_term 93 = .ok (.invokespecial 67, 3) := by decide +kernel
theorem dX4_term_96 : decode cX4_term 96 = .ok (.athrow, 1) := by decide +kernel
theorem dX4_term_97 : decode cX4_term 97 = .ok (.aload_n 0, 1) := by decide +kernel
theorem dX4_term_98 : decode cX4_term 98 = .ok (.getfield 10, 3) := by decide +kernel
theorem dX4_term_101 : decode cX4_term 101 = .ok (.iload_n 1, 1) := by decide +kernel
theorem dX4_term_102 : decode cX4_term 102 = .ok (.iload_n 2, 1) := by decide +kernel
theorem dX4_term_103 : decode cX4_term 103 = .ok (.iload 5, 2) := by decide +kernel
theorem dX4_term_105 : decode cX4_term 105 = .ok (.iload 6, 2) := by decide +kernel
theorem dX4_term_107 : decode cX4_term 107 = .ok (.invokevirtual 68, 3) := by decide +kernel
theorem dX4_term_110 : decode cX4_term 110 = .ok (.ireturn, 1) := by decide +kernel
theorem dX4_claim_0 : decode cX4_claim 0 = .ok (.aload_n 0, 1) := by decide +kernel
theorem dX4_claim_1 : decode cX4_claim 1 = .ok (.getfield 10, 3) := by decide +kernel
theorem dX4_claim_4 : decode cX4_claim 4 = .ok (.iload_n 1, 1) := by decide +kernel
theorem dX4_claim_5 : decode cX4_claim 5 = .ok (.invokevirtual 71, 3) := by decide +kernel
theorem dX4_claim_8 : decode cX4_claim 8 = .ok (.ifCond .ne 13, 3) := by decide +kernel
theorem dX4_claim_11 : decode cX4_claim 11 = .ok (.new 39, 3) := by decide +kernel
theorem dX4_claim_14 : decode cX4_claim 14 = .ok (.dup, 1) := by decide +kernel
theorem dX4_claim_15 : decode cX4_claim 15 = .ok (.ldc 75, 2) := by decide +kernel
theorem dX4_claim_17 : decode cX4_claim 17 = .ok (.invokespecial 43, 3) := by decide +kernel
theorem dX4_claim_20 : decode cX4_claim 20 = .ok (.athrow, 1) := by decide +kernel
theorem dX4_claim_21 : decode cX4_claim 21 = .ok (.aload_n 0, 1) := by decide +kernel
theorem dX4_claim_22 : decode cX4_claim 22 = .ok (.getfield 19, 3) := by decide +kernel
theorem dX4_claim_25 : decode cX4_claim 25 = .ok (.invokevirtual 77, 3) := by decide +kernel
theorem dX4_claim_28 : decode cX4_claim 28 = .ok (.ifCond .eq 13, 3) := by decide +kernel
theorem dX4_claim_31 : decode cX4_claim 31 = .ok (.new 63, 3) := by decide +kernel
theorem dX4_claim_34 : decode cX4_claim 34 = .ok (.dup, 1) := by decide +kernel
theorem dX4_claim_35 : decode cX4_claim 35 = .ok (.ldc 78, 2) := by decide +kernel
theorem dX4_claim_37 : decode cX4_claim 37 = .ok (.invokespecial 67, 3) := by decide +kernel
theorem dX4_claim_40 : decode cX4_claim 40 = .ok (.athrow, 1) := by decide +kernel
theorem dX4_claim_41 : decode cX4_claim 41 = .ok (.aload_n 0, 1) := by decide +kernel
theorem dX4_claim_42 : decode cX4_claim 42 = .ok (.getfield 19, 3) := by decide +kernel
theorem dX4_claim_45 : decode cX4_claim 45 = .ok (.iload_n 1, 1) := by decide +kernel
theorem dX4_claim_46 : decode cX4_claim 46 = .ok (.invokevirtual 80, 3) := by decide +kernel
theorem dX4_claim_49 : decode cX4_claim 49 = .ok (.ireturn, 1) := by decide +kernel
theorem dX4_open_0 : decode cX4_open 0 = .ok (.aload_n 0, 1) := by decide +kernel
theorem dX4_open_1 : decode cX4_open 1 = .ok (.getfield 19, 3) := by decide +kernel
theorem dX4_open_4 : decode cX4_open 4 = .ok (.invokevirtual 83, 3) := by decide +kernel
theorem dX4_open_7 : decode cX4_open 7 = .ok (.iconst 5, 1) := by decide +kernel
theorem dX4_open_8 : decode cX4_open 8 = .ok (.if_icmp .ne 13, 3) := by decide +kernel
theorem dX4_open_11 : decode cX4_open 11 = .ok (.new 63, 3) := by decide +kernel
theorem dX4_open_14 : decode cX4_open 14 = .ok (.dup, 1) := by decide +kernel
theorem dX4_open_15 : decode cX4_open 15 = .ok (.ldc 87, 2) := by decide +kernel
theorem dX4_open_17 : decode cX4_open 17 = .ok (.invokespecial 67, 3) := by decide +kernel
theorem dX4_open_20 : decode cX4_open 20 = .ok (.athrow, 1) := by decide +kernel
theorem dX4_open_21 : decode cX4_open 21 = .ok (.aload_n 0, 1) := by decide +kernel
theorem dX4_open_22 : decode cX4_open 22 = .ok (.getfield 19, 3) := by decide +kernel
theorem dX4_open_25 : decode cX4_open 25 = .ok (.invokevirtual 89, 3) := by decide +kernel
theorem dX4_open_28 : decode cX4_open 28 = .ok (.ireturn, 1) := by decide +kernel
theorem dX4_close_0 : decode cX4_close 0 = .ok (.aload_n 0, 1) := by decide +kernel
theorem dX4_close_1 : decode cX4_close 1 = .ok (.getfield 19, 3) := by decide +kernel
theorem dX4_close_4 : decode cX4_close 4 = .ok (.invokevirtual 83, 3) := by decide +kernel
theorem dX4_close_7 : decode cX4_close 7 = .ok (.ifCond .ne 13, 3) := by decide +kernel
theorem dX4_close_10 : decode cX4_close 10 = .ok (.new 63, 3) := by decide +kernel
theorem dX4_close_13 : decode cX4_close 13 = .ok (.dup, 1) := by decide +kernel
theorem dX4_close_14 : decode cX4_close 14 = .ok (.ldc 92, 2) := by decide +kernel
theorem dX4_close_16 : decode cX4_close 16 = .ok (.invokespecial 67, 3) := by decide +kernel
theorem dX4_close_19 : decode cX4_close 19 = .ok (.athrow, 1) := by decide +kernel
theorem dX4_close_20 : decode cX4_close 20 = .ok (.aload_n 0, 1) := by decide +kernel
theorem dX4_close_21 : decode cX4_close 21 = .ok (.getfield 19, 3) := by decide +kernel
theorem dX4_close_24 : decode cX4_close 24 = .ok (.invokevirtual 94, 3) := by decide +kernel
theorem dX4_close_27 : decode cX4_close 27 = .ok (.ireturn, 1) := by decide +kernel
theorem dX4_model_0 : decode cX4_model 0 = .ok (.iload_n 1, 1) := by decide +kernel
theorem dX4_model_1 : decode cX4_model 1 = .ok (.ifCond .lt 8, 3) := by decide +kernel
theorem dX4_model_4 : decode cX4_model 4 = .ok (.iload_n 1, 1) := by decide +kernel
theorem dX4_model_5 : decode cX4_model 5 = .ok (.iconst 2, 1) := by decide +kernel
theorem dX4_model_6 : decode cX4_model 6 = .ok (.if_icmp .lt 13, 3) := by decide +kernel
theorem dX4_model_9 : decode cX4_model 9 = .ok (.new 39, 3) := by decide +kernel
theorem dX4_model_12 : decode cX4_model 12 = .ok (.dup, 1) := by decide +kernel
theorem dX4_model_13 : decode cX4_model 13 = .ok (.ldc 100, 2) := by decide +kernel
theorem dX4_model_15 : decode cX4_model 15 = .ok (.invokespecial 43, 3) := by decide +kernel
theorem dX4_model_18 : decode cX4_model 18 = .ok (.athrow, 1) := by decide +kernel
theorem dX4_model_19 : decode cX4_model 19 = .ok (.aload_n 0, 1) := by decide +kernel
theorem dX4_model_20 : decode cX4_model 20 = .ok (.getfield 27, 3) := by decide +kernel
theorem dX4_model_23 : decode cX4_model 23 = .ok (.ifCond .ne 13, 3) := by decide +kernel
theorem dX4_model_26 : decode cX4_model 26 = .ok (.new 102, 3) := by decide +kernel
theorem dX4_model_29 : decode cX4_model 29 = .ok (.dup, 1) := by decide +kernel
theorem dX4_model_30 : decode cX4_model 30 = .ok (.ldc 104, 2) := by decide +kernel
theorem dX4_model_32 : decode cX4_model 32 = .ok (.invokespecial 106, 3) := by decide +kernel
theorem dX4_model_35 : decode cX4_model 35 = .ok (.athrow, 1) := by decide +kernel
theorem dX4_model_36 : decode cX4_model 36 = .ok (.aload_n 0, 1) := by decide +kernel
theorem dX4_model_37 : decode cX4_model 37 = .ok (.getfield 23, 3) := by decide +kernel
theorem dX4_model_40 : decode cX4_model 40 = .ok (.iload_n 1, 1) := by decide +kernel
theorem dX4_model_41 : decode cX4_model 41 = .ok (.iaload, 1) := by decide +kernel
theorem dX4_model_42 : decode cX4_model 42 = .ok (.ireturn, 1) := by decide +kernel
theorem dX4_value_0 : decode cX4_value 0 = .ok (.aload_n 0, 1) := by decide +kernel
theorem dX4_value_1 : decode cX4_value 1 = .ok (.getfield 10, 3) := by decide +kernel
theorem dX4_value_4 : decode cX4_value 4 = .ok (.iload_n 1, 1) := by decide +kernel
theorem dX4_value_5 : decode cX4_value 5 = .ok (.invokevirtual 107, 3) := by decide +kernel
theorem dX4_value_8 : decode cX4_value 8 = .ok (.ifCond .ne 13, 3) := by decide +kernel
theorem dX4_value_11 : decode cX4_value 11 = .ok (.new 39, 3) := by decide +kernel
theorem dX4_value_14 : decode cX4_value 14 = .ok (.dup, 1) := by decide +kernel
theorem dX4_value_15 : decode cX4_value 15 = .ok (.ldc 110, 2) := by decide +kernel
theorem dX4_value_17 : decode cX4_value 17 = .ok (.invokespecial 43, 3) := by decide +kernel
theorem dX4_value_20 : decode cX4_value 20 = .ok (.athrow, 1) := by decide +kernel
theorem dX4_value_21 : decode cX4_value 21 = .ok (.aload_n 0, 1) := by decide +kernel
theorem dX4_value_22 : decode cX4_value 22 = .ok (.getfield 27, 3) := by decide +kernel
theorem dX4_value_25 : decode cX4_value 25 = .ok (.ifCond .ne 13, 3) := by decide +kernel
theorem dX4_value_28 : decode cX4_value 28 = .ok (.new 102, 3) := by decide +kernel
theorem dX4_value_31 : decode cX4_value 31 = .ok (.dup, 1) := by decide +kernel
theorem dX4_value_32 : decode cX4_value 32 = .ok (.ldc 104, 2) := by decide +kernel
theorem dX4_value_34 : decode cX4_value 34 = .ok (.invokespecial 106, 3) := by decide +kernel
theorem dX4_value_37 : decode cX4_value 37 = .ok (.athrow, 1) := by decide +kernel
theorem dX4_value_38 : decode cX4_value 38 = .ok (.aload_n 0, 1) := by decide +kernel
theorem dX4_value_39 : decode cX4_value 39 = .ok (.getfield 10, 3) := by decide +kernel
theorem dX4_value_42 : decode cX4_value 42 = .ok (.iload_n 1, 1) := by decide +kernel
theorem dX4_value_43 : decode cX4_value 43 = .ok (.aload_n 0, 1) := by decide +kernel
theorem dX4_value_44 : decode cX4_value 44 = .ok (.getfield 23, 3) := by decide +kernel
theorem dX4_value_47 : decode cX4_value 47 = .ok (.iconst 0, 1) := by decide +kernel
theorem dX4_value_48 : decode cX4_value 48 = .ok (.iaload, 1) := by decide +kernel
theorem dX4_value_49 : decode cX4_value 49 = .ok (.aload_n 0, 1) := by decide +kernel
theorem dX4_value_50 : decode cX4_value 50 = .ok (.getfield 23, 3) := by decide +kernel
theorem dX4_value_53 : decode cX4_value 53 = .ok (.iconst 1, 1) := by decide +kernel
theorem dX4_value_54 : decode cX4_value 54 = .ok (.iaload, 1) := by decide +kernel
theorem dX4_value_55 : decode cX4_value 55 = .ok (.invokevirtual 112, 3) := by decide +kernel
theorem dX4_value_58 : decode cX4_value 58 = .ok (.ireturn, 1) := by decide +kernel
theorem dX4_reckon_0 : decode cX4_reckon 0 = .ok (.iload_n 1, 1) := by decide +kernel
theorem dX4_reckon_1 : decode cX4_reckon 1 = .ok (.invokestatic 116, 3) := by decide +kernel
theorem dX4_reckon_4 : decode cX4_reckon 4 = .ok (.ifCond .eq 17, 3) := by decide +kernel
theorem dX4_reckon_7 : decode cX4_reckon 7 = .ok (.iload_n 2, 1) := by decide +kernel
theorem dX4_reckon_8 : decode cX4_reckon 8 = .ok (.invokestatic 121, 3) := by decide +kernel
theorem dX4_reckon_11 : decode cX4_reckon 11 = .ok (.ifCond .eq 10, 3) := by decide +kernel
theorem dX4_reckon_14 : decode cX4_reckon 14 = .ok (.iload_n 3, 1) := by decide +kernel
theorem dX4_reckon_15 : decode cX4_reckon 15 = .ok (.invokestatic 121, 3) := by decide +kernel
theorem dX4_reckon_18 : decode cX4_reckon 18 = .ok (.ifCond .ne 13, 3) := by decide +kernel
theorem dX4_reckon_21 : decode cX4_reckon 21 = .ok (.new 39, 3) := by decide +kernel
theorem dX4_reckon_24 : decode cX4_reckon 24 = .ok (.dup, 1) := by decide +kernel
theorem dX4_reckon_25 : decode cX4_reckon 25 = .ok (.ldc 124, 2) := by decide +kernel
theorem dX4_reckon_27 : decode cX4_reckon 27 = .ok (.invokespecial 43, 3) := by decide +kernel
theorem dX4_reckon_30 : decode cX4_reckon 30 = .ok (.athrow, 1) := by decide +kernel
theorem dX4_reckon_31 : decode cX4_reckon 31 = .ok (.iload_n 1, 1) := by decide +kernel
theorem dX4_reckon_32 : decode cX4_reckon 32 = .ok (.iload_n 2, 1) := by decide +kernel
theorem dX4_reckon_33 : decode cX4_reckon 33 = .ok (.iload_n 3, 1) := by decide +kernel
theorem dX4_reckon_34 : decode cX4_reckon 34 = .ok (.invokestatic 126, 3) := by decide +kernel
theorem dX4_reckon_37 : decode cX4_reckon 37 = .ok (.ireturn, 1) := by decide +kernel
