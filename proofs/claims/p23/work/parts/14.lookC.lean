/-! every instruction of the tables, by its place -/
theorem pm_a1_0 : pm_as (pm_cd pm_mm1) 0 = some (.aload_n 0, 1) := by decide +kernel
theorem pm_a1_1 : pm_as (pm_cd pm_mm1) 1 = some (.invokespecial 1, 3) := by decide +kernel
theorem pm_a1_4 : pm_as (pm_cd pm_mm1) 4 = some (.aload_n 0, 1) := by decide +kernel
theorem pm_a1_5 : pm_as (pm_cd pm_mm1) 5 = some (.new 7, 3) := by decide +kernel
theorem pm_a1_8 : pm_as (pm_cd pm_mm1) 8 = some (.dup, 1) := by decide +kernel
theorem pm_a1_9 : pm_as (pm_cd pm_mm1) 9 = some (.invokespecial 9, 3) := by decide +kernel
theorem pm_a1_12 : pm_as (pm_cd pm_mm1) 12 = some (.putfield 10, 3) := by decide +kernel
theorem pm_a1_15 : pm_as (pm_cd pm_mm1) 15 = some (.aload_n 0, 1) := by decide +kernel
theorem pm_a1_16 : pm_as (pm_cd pm_mm1) 16 = some (.bipush 32, 2) := by decide +kernel
theorem pm_a1_18 : pm_as (pm_cd pm_mm1) 18 = some (.anewarray 16, 3) := by decide +kernel
theorem pm_a1_21 : pm_as (pm_cd pm_mm1) 21 = some (.putfield 18, 3) := by decide +kernel
theorem pm_a1_24 : pm_as (pm_cd pm_mm1) 24 = some (.aload_n 0, 1) := by decide +kernel
theorem pm_a1_25 : pm_as (pm_cd pm_mm1) 25 = some (.new 16, 3) := by decide +kernel
theorem pm_a1_28 : pm_as (pm_cd pm_mm1) 28 = some (.dup, 1) := by decide +kernel
theorem pm_a1_29 : pm_as (pm_cd pm_mm1) 29 = some (.sipush 500, 3) := by decide +kernel
theorem pm_a1_32 : pm_as (pm_cd pm_mm1) 32 = some (.invokespecial 22, 3) := by decide +kernel
theorem pm_a1_35 : pm_as (pm_cd pm_mm1) 35 = some (.putfield 25, 3) := by decide +kernel
theorem pm_a1_38 : pm_as (pm_cd pm_mm1) 38 = some (.aload_n 0, 1) := by decide +kernel
theorem pm_a1_39 : pm_as (pm_cd pm_mm1) 39 = some (.new 29, 3) := by decide +kernel
theorem pm_a1_42 : pm_as (pm_cd pm_mm1) 42 = some (.dup, 1) := by decide +kernel
theorem pm_a1_43 : pm_as (pm_cd pm_mm1) 43 = some (.invokespecial 31, 3) := by decide +kernel
theorem pm_a1_46 : pm_as (pm_cd pm_mm1) 46 = some (.putfield 32, 3) := by decide +kernel
theorem pm_a1_49 : pm_as (pm_cd pm_mm1) 49 = some (.aload_n 0, 1) := by decide +kernel
theorem pm_a1_50 : pm_as (pm_cd pm_mm1) 50 = some (.new 36, 3) := by decide +kernel
theorem pm_a1_53 : pm_as (pm_cd pm_mm1) 53 = some (.dup, 1) := by decide +kernel
theorem pm_a1_54 : pm_as (pm_cd pm_mm1) 54 = some (.aload_n 0, 1) := by decide +kernel
theorem pm_a1_55 : pm_as (pm_cd pm_mm1) 55 = some (.getfield 10, 3) := by decide +kernel
theorem pm_a1_58 : pm_as (pm_cd pm_mm1) 58 = some (.invokespecial 38, 3) := by decide +kernel
theorem pm_a1_61 : pm_as (pm_cd pm_mm1) 61 = some (.putfield 41, 3) := by decide +kernel
theorem pm_a1_64 : pm_as (pm_cd pm_mm1) 64 = some (.aload_n 0, 1) := by decide +kernel
theorem pm_a1_65 : pm_as (pm_cd pm_mm1) 65 = some (.new 45, 3) := by decide +kernel
theorem pm_a1_68 : pm_as (pm_cd pm_mm1) 68 = some (.dup, 1) := by decide +kernel
theorem pm_a1_69 : pm_as (pm_cd pm_mm1) 69 = some (.invokespecial 47, 3) := by decide +kernel
theorem pm_a1_72 : pm_as (pm_cd pm_mm1) 72 = some (.putfield 48, 3) := by decide +kernel
theorem pm_a1_75 : pm_as (pm_cd pm_mm1) 75 = some (.aload_n 0, 1) := by decide +kernel
theorem pm_a1_76 : pm_as (pm_cd pm_mm1) 76 = some (.new 52, 3) := by decide +kernel
theorem pm_a1_79 : pm_as (pm_cd pm_mm1) 79 = some (.dup, 1) := by decide +kernel
theorem pm_a1_80 : pm_as (pm_cd pm_mm1) 80 = some (.aload_n 0, 1) := by decide +kernel
theorem pm_a1_81 : pm_as (pm_cd pm_mm1) 81 = some (.getfield 32, 3) := by decide +kernel
theorem pm_a1_84 : pm_as (pm_cd pm_mm1) 84 = some (.invokespecial 54, 3) := by decide +kernel
theorem pm_a1_87 : pm_as (pm_cd pm_mm1) 87 = some (.putfield 57, 3) := by decide +kernel
theorem pm_a1_90 : pm_as (pm_cd pm_mm1) 90 = some (.return_, 1) := by decide +kernel
theorem pm_a2_0 : pm_as (pm_cd pm_mm2) 0 = some (.aload_n 0, 1) := by decide +kernel
theorem pm_a2_1 : pm_as (pm_cd pm_mm2) 1 = some (.invokespecial 3, 3) := by decide +kernel
theorem pm_a2_4 : pm_as (pm_cd pm_mm2) 4 = some (.aload_n 0, 1) := by decide +kernel
theorem pm_a2_5 : pm_as (pm_cd pm_mm2) 5 = some (.sipush 600, 3) := by decide +kernel
theorem pm_a2_8 : pm_as (pm_cd pm_mm2) 8 = some (.newarray .int, 2) := by decide +kernel
theorem pm_a2_10 : pm_as (pm_cd pm_mm2) 10 = some (.putfield 9, 3) := by decide +kernel
theorem pm_a2_13 : pm_as (pm_cd pm_mm2) 13 = some (.return_, 1) := by decide +kernel
theorem pm_a3_0 : pm_as (pm_cd pm_mm3) 0 = some (.aload_n 0, 1) := by decide +kernel
theorem pm_a3_1 : pm_as (pm_cd pm_mm3) 1 = some (.invokespecial 3, 3) := by decide +kernel
theorem pm_a3_4 : pm_as (pm_cd pm_mm3) 4 = some (.aload_n 0, 1) := by decide +kernel
theorem pm_a3_5 : pm_as (pm_cd pm_mm3) 5 = some (.iload_n 1, 1) := by decide +kernel
theorem pm_a3_6 : pm_as (pm_cd pm_mm3) 6 = some (.iconst 0, 1) := by decide +kernel
theorem pm_a3_7 : pm_as (pm_cd pm_mm3) 7 = some (.invokestatic 9, 3) := by decide +kernel
theorem pm_a3_10 : pm_as (pm_cd pm_mm3) 10 = some (.newarray .int, 2) := by decide +kernel
theorem pm_a3_12 : pm_as (pm_cd pm_mm3) 12 = some (.putfield 15, 3) := by decide +kernel
theorem pm_a3_15 : pm_as (pm_cd pm_mm3) 15 = some (.return_, 1) := by decide +kernel
theorem pm_a4_0 : pm_as (pm_cd pm_mm4) 0 = some (.aload_n 0, 1) := by decide +kernel
theorem pm_a4_1 : pm_as (pm_cd pm_mm4) 1 = some (.invokespecial 3, 3) := by decide +kernel
theorem pm_a4_4 : pm_as (pm_cd pm_mm4) 4 = some (.aload_n 0, 1) := by decide +kernel
theorem pm_a4_5 : pm_as (pm_cd pm_mm4) 5 = some (.sipush 502, 3) := by decide +kernel
theorem pm_a4_8 : pm_as (pm_cd pm_mm4) 8 = some (.newarray .int, 2) := by decide +kernel
theorem pm_a4_10 : pm_as (pm_cd pm_mm4) 10 = some (.putfield 11, 3) := by decide +kernel
theorem pm_a4_13 : pm_as (pm_cd pm_mm4) 13 = some (.aload_n 0, 1) := by decide +kernel
theorem pm_a4_14 : pm_as (pm_cd pm_mm4) 14 = some (.sipush 502, 3) := by decide +kernel
theorem pm_a4_17 : pm_as (pm_cd pm_mm4) 17 = some (.newarray .int, 2) := by decide +kernel
theorem pm_a4_19 : pm_as (pm_cd pm_mm4) 19 = some (.putfield 17, 3) := by decide +kernel
theorem pm_a4_22 : pm_as (pm_cd pm_mm4) 22 = some (.return_, 1) := by decide +kernel
theorem pm_a5_0 : pm_as (pm_cd pm_mm5) 0 = some (.aload_n 0, 1) := by decide +kernel
theorem pm_a5_1 : pm_as (pm_cd pm_mm5) 1 = some (.invokespecial 3, 3) := by decide +kernel
theorem pm_a5_4 : pm_as (pm_cd pm_mm5) 4 = some (.aload_n 0, 1) := by decide +kernel
theorem pm_a5_5 : pm_as (pm_cd pm_mm5) 5 = some (.sipush 601, 3) := by decide +kernel
theorem pm_a5_8 : pm_as (pm_cd pm_mm5) 8 = some (.newarray .int, 2) := by decide +kernel
theorem pm_a5_10 : pm_as (pm_cd pm_mm5) 10 = some (.putfield 9, 3) := by decide +kernel
theorem pm_a5_13 : pm_as (pm_cd pm_mm5) 13 = some (.aload_n 0, 1) := by decide +kernel
theorem pm_a5_14 : pm_as (pm_cd pm_mm5) 14 = some (.bipush 40, 2) := by decide +kernel
theorem pm_a5_16 : pm_as (pm_cd pm_mm5) 16 = some (.newarray .int, 2) := by decide +kernel
theorem pm_a5_18 : pm_as (pm_cd pm_mm5) 18 = some (.putfield 15, 3) := by decide +kernel
theorem pm_a5_21 : pm_as (pm_cd pm_mm5) 21 = some (.aload_n 0, 1) := by decide +kernel
theorem pm_a5_22 : pm_as (pm_cd pm_mm5) 22 = some (.bipush 40, 2) := by decide +kernel
theorem pm_a5_24 : pm_as (pm_cd pm_mm5) 24 = some (.newarray .int, 2) := by decide +kernel
theorem pm_a5_26 : pm_as (pm_cd pm_mm5) 26 = some (.putfield 18, 3) := by decide +kernel
theorem pm_a5_29 : pm_as (pm_cd pm_mm5) 29 = some (.aload_n 0, 1) := by decide +kernel
theorem pm_a5_30 : pm_as (pm_cd pm_mm5) 30 = some (.aload_n 1, 1) := by decide +kernel
theorem pm_a5_31 : pm_as (pm_cd pm_mm5) 31 = some (.putfield 21, 3) := by decide +kernel
theorem pm_a5_34 : pm_as (pm_cd pm_mm5) 34 = some (.return_, 1) := by decide +kernel
theorem pm_a6_0 : pm_as (pm_cd pm_mm6) 0 = some (.aload_n 0, 1) := by decide +kernel
theorem pm_a6_1 : pm_as (pm_cd pm_mm6) 1 = some (.invokespecial 3, 3) := by decide +kernel
theorem pm_a6_4 : pm_as (pm_cd pm_mm6) 4 = some (.aload_n 0, 1) := by decide +kernel
theorem pm_a6_5 : pm_as (pm_cd pm_mm6) 5 = some (.sipush 500, 3) := by decide +kernel
theorem pm_a6_8 : pm_as (pm_cd pm_mm6) 8 = some (.newarray .int, 2) := by decide +kernel
theorem pm_a6_10 : pm_as (pm_cd pm_mm6) 10 = some (.putfield 9, 3) := by decide +kernel
theorem pm_a6_13 : pm_as (pm_cd pm_mm6) 13 = some (.return_, 1) := by decide +kernel
theorem pm_a7_0 : pm_as (pm_cd pm_mm7) 0 = some (.aload_n 0, 1) := by decide +kernel
theorem pm_a7_1 : pm_as (pm_cd pm_mm7) 1 = some (.invokespecial 3, 3) := by decide +kernel
theorem pm_a7_4 : pm_as (pm_cd pm_mm7) 4 = some (.aload_n 0, 1) := by decide +kernel
theorem pm_a7_5 : pm_as (pm_cd pm_mm7) 5 = some (.new 9, 3) := by decide +kernel
theorem pm_a7_8 : pm_as (pm_cd pm_mm7) 8 = some (.dup, 1) := by decide +kernel
theorem pm_a7_9 : pm_as (pm_cd pm_mm7) 9 = some (.sipush 500, 3) := by decide +kernel
theorem pm_a7_12 : pm_as (pm_cd pm_mm7) 12 = some (.invokespecial 11, 3) := by decide +kernel
theorem pm_a7_15 : pm_as (pm_cd pm_mm7) 15 = some (.putfield 14, 3) := by decide +kernel
theorem pm_a7_18 : pm_as (pm_cd pm_mm7) 18 = some (.aload_n 0, 1) := by decide +kernel
theorem pm_a7_19 : pm_as (pm_cd pm_mm7) 19 = some (.aload_n 1, 1) := by decide +kernel
theorem pm_a7_20 : pm_as (pm_cd pm_mm7) 20 = some (.putfield 20, 3) := by decide +kernel
theorem pm_a7_23 : pm_as (pm_cd pm_mm7) 23 = some (.return_, 1) := by decide +kernel
theorem pm_a8_0 : pm_as (pm_cd pm_mm8) 0 = some (.aload_n 0, 1) := by decide +kernel
theorem pm_a8_1 : pm_as (pm_cd pm_mm8) 1 = some (.getfield 10, 3) := by decide +kernel
theorem pm_a8_4 : pm_as (pm_cd pm_mm8) 4 = some (.getfield 61, 3) := by decide +kernel
theorem pm_a8_7 : pm_as (pm_cd pm_mm8) 7 = some (.bipush 20, 2) := by decide +kernel
theorem pm_a8_9 : pm_as (pm_cd pm_mm8) 9 = some (.iadd, 1) := by decide +kernel
theorem pm_a8_10 : pm_as (pm_cd pm_mm8) 10 = some (.sipush 600, 3) := by decide +kernel
theorem pm_a8_13 : pm_as (pm_cd pm_mm8) 13 = some (.if_icmp .le 6, 3) := by decide +kernel
theorem pm_a8_16 : pm_as (pm_cd pm_mm8) 16 = some (.bipush (-3), 2) := by decide +kernel
theorem pm_a8_18 : pm_as (pm_cd pm_mm8) 18 = some (.ireturn, 1) := by decide +kernel
theorem pm_a8_19 : pm_as (pm_cd pm_mm8) 19 = some (.aload_n 0, 1) := by decide +kernel
theorem pm_a8_20 : pm_as (pm_cd pm_mm8) 20 = some (.getfield 10, 3) := by decide +kernel
theorem pm_a8_23 : pm_as (pm_cd pm_mm8) 23 = some (.iload_n 1, 1) := by decide +kernel
theorem pm_a8_24 : pm_as (pm_cd pm_mm8) 24 = some (.invokevirtual 65, 3) := by decide +kernel
theorem pm_a8_27 : pm_as (pm_cd pm_mm8) 27 = some (.aload_n 0, 1) := by decide +kernel
theorem pm_a8_28 : pm_as (pm_cd pm_mm8) 28 = some (.getfield 10, 3) := by decide +kernel
theorem pm_a8_31 : pm_as (pm_cd pm_mm8) 31 = some (.iload_n 2, 1) := by decide +kernel
theorem pm_a8_32 : pm_as (pm_cd pm_mm8) 32 = some (.invokevirtual 65, 3) := by decide +kernel
theorem pm_a8_35 : pm_as (pm_cd pm_mm8) 35 = some (.aload_n 0, 1) := by decide +kernel
theorem pm_a8_36 : pm_as (pm_cd pm_mm8) 36 = some (.getfield 10, 3) := by decide +kernel
theorem pm_a8_39 : pm_as (pm_cd pm_mm8) 39 = some (.iload_n 3, 1) := by decide +kernel
theorem pm_a8_40 : pm_as (pm_cd pm_mm8) 40 = some (.invokevirtual 65, 3) := by decide +kernel
theorem pm_a8_43 : pm_as (pm_cd pm_mm8) 43 = some (.aload_n 0, 1) := by decide +kernel
theorem pm_a8_44 : pm_as (pm_cd pm_mm8) 44 = some (.getfield 10, 3) := by decide +kernel
theorem pm_a8_47 : pm_as (pm_cd pm_mm8) 47 = some (.iload 4, 2) := by decide +kernel
theorem pm_a8_49 : pm_as (pm_cd pm_mm8) 49 = some (.invokevirtual 65, 3) := by decide +kernel
theorem pm_a8_52 : pm_as (pm_cd pm_mm8) 52 = some (.aload_n 0, 1) := by decide +kernel
theorem pm_a8_53 : pm_as (pm_cd pm_mm8) 53 = some (.getfield 10, 3) := by decide +kernel
theorem pm_a8_56 : pm_as (pm_cd pm_mm8) 56 = some (.iload 5, 2) := by decide +kernel
theorem pm_a8_58 : pm_as (pm_cd pm_mm8) 58 = some (.invokevirtual 65, 3) := by decide +kernel
theorem pm_a8_61 : pm_as (pm_cd pm_mm8) 61 = some (.aload_n 0, 1) := by decide +kernel
theorem pm_a8_62 : pm_as (pm_cd pm_mm8) 62 = some (.getfield 10, 3) := by decide +kernel
theorem pm_a8_65 : pm_as (pm_cd pm_mm8) 65 = some (.getfield 61, 3) := by decide +kernel
theorem pm_a8_68 : pm_as (pm_cd pm_mm8) 68 = some (.ireturn, 1) := by decide +kernel
theorem pm_a9_0 : pm_as (pm_cd pm_mm9) 0 = some (.bipush 24, 2) := by decide +kernel
theorem pm_a9_2 : pm_as (pm_cd pm_mm9) 2 = some (.istore_n 2, 1) := by decide +kernel
theorem pm_a9_3 : pm_as (pm_cd pm_mm9) 3 = some (.iload_n 2, 1) := by decide +kernel
theorem pm_a9_4 : pm_as (pm_cd pm_mm9) 4 = some (.ifCond .lt 47, 3) := by decide +kernel
theorem pm_a9_7 : pm_as (pm_cd pm_mm9) 7 = some (.aload_n 0, 1) := by decide +kernel
theorem pm_a9_8 : pm_as (pm_cd pm_mm9) 8 = some (.getfield 15, 3) := by decide +kernel
theorem pm_a9_11 : pm_as (pm_cd pm_mm9) 11 = some (.aload_n 0, 1) := by decide +kernel
theorem pm_a9_12 : pm_as (pm_cd pm_mm9) 12 = some (.getfield 9, 3) := by decide +kernel
theorem pm_a9_15 : pm_as (pm_cd pm_mm9) 15 = some (.arraylength, 1) := by decide +kernel
theorem pm_a9_16 : pm_as (pm_cd pm_mm9) 16 = some (.if_icmp .ge 29, 3) := by decide +kernel
theorem pm_a9_19 : pm_as (pm_cd pm_mm9) 19 = some (.aload_n 0, 1) := by decide +kernel
theorem pm_a9_20 : pm_as (pm_cd pm_mm9) 20 = some (.getfield 9, 3) := by decide +kernel
theorem pm_a9_23 : pm_as (pm_cd pm_mm9) 23 = some (.aload_n 0, 1) := by decide +kernel
theorem pm_a9_24 : pm_as (pm_cd pm_mm9) 24 = some (.getfield 15, 3) := by decide +kernel
theorem pm_a9_27 : pm_as (pm_cd pm_mm9) 27 = some (.iload_n 1, 1) := by decide +kernel
theorem pm_a9_28 : pm_as (pm_cd pm_mm9) 28 = some (.iload_n 2, 1) := by decide +kernel
theorem pm_a9_29 : pm_as (pm_cd pm_mm9) 29 = some (.iushr, 1) := by decide +kernel
theorem pm_a9_30 : pm_as (pm_cd pm_mm9) 30 = some (.sipush 255, 3) := by decide +kernel
theorem pm_a9_33 : pm_as (pm_cd pm_mm9) 33 = some (.iand, 1) := by decide +kernel
theorem pm_a9_34 : pm_as (pm_cd pm_mm9) 34 = some (.iastore, 1) := by decide +kernel
theorem pm_a9_35 : pm_as (pm_cd pm_mm9) 35 = some (.aload_n 0, 1) := by decide +kernel
theorem pm_a9_36 : pm_as (pm_cd pm_mm9) 36 = some (.dup, 1) := by decide +kernel
theorem pm_a9_37 : pm_as (pm_cd pm_mm9) 37 = some (.getfield 15, 3) := by decide +kernel
theorem pm_a9_40 : pm_as (pm_cd pm_mm9) 40 = some (.iconst 1, 1) := by decide +kernel
theorem pm_a9_41 : pm_as (pm_cd pm_mm9) 41 = some (.iadd, 1) := by decide +kernel
theorem pm_a9_42 : pm_as (pm_cd pm_mm9) 42 = some (.putfield 15, 3) := by decide +kernel
theorem pm_a9_45 : pm_as (pm_cd pm_mm9) 45 = some (.iinc 2 (-8), 3) := by decide +kernel
theorem pm_a9_48 : pm_as (pm_cd pm_mm9) 48 = some (.goto (-45), 3) := by decide +kernel
theorem pm_a9_51 : pm_as (pm_cd pm_mm9) 51 = some (.return_, 1) := by decide +kernel
theorem pm_a10_0 : pm_as (pm_cd pm_mm10) 0 = some (.iload_n 1, 1) := by decide +kernel
theorem pm_a10_1 : pm_as (pm_cd pm_mm10) 1 = some (.ifCond .lt 14, 3) := by decide +kernel
theorem pm_a10_4 : pm_as (pm_cd pm_mm10) 4 = some (.iload_n 1, 1) := by decide +kernel
theorem pm_a10_5 : pm_as (pm_cd pm_mm10) 5 = some (.aload_n 0, 1) := by decide +kernel
theorem pm_a10_6 : pm_as (pm_cd pm_mm10) 6 = some (.getfield 10, 3) := by decide +kernel
theorem pm_a10_9 : pm_as (pm_cd pm_mm10) 9 = some (.getfield 61, 3) := by decide +kernel
theorem pm_a10_12 : pm_as (pm_cd pm_mm10) 12 = some (.if_icmp .le 5, 3) := by decide +kernel
theorem pm_a10_15 : pm_as (pm_cd pm_mm10) 15 = some (.iconst (-1), 1) := by decide +kernel
theorem pm_a10_16 : pm_as (pm_cd pm_mm10) 16 = some (.ireturn, 1) := by decide +kernel
theorem pm_a10_17 : pm_as (pm_cd pm_mm10) 17 = some (.aload_n 0, 1) := by decide +kernel
theorem pm_a10_18 : pm_as (pm_cd pm_mm10) 18 = some (.getfield 10, 3) := by decide +kernel
theorem pm_a10_21 : pm_as (pm_cd pm_mm10) 21 = some (.getfield 61, 3) := by decide +kernel
theorem pm_a10_24 : pm_as (pm_cd pm_mm10) 24 = some (.istore_n 2, 1) := by decide +kernel
theorem pm_a10_25 : pm_as (pm_cd pm_mm10) 25 = some (.aload_n 0, 1) := by decide +kernel
theorem pm_a10_26 : pm_as (pm_cd pm_mm10) 26 = some (.getfield 10, 3) := by decide +kernel
theorem pm_a10_29 : pm_as (pm_cd pm_mm10) 29 = some (.iload_n 1, 1) := by decide +kernel
theorem pm_a10_30 : pm_as (pm_cd pm_mm10) 30 = some (.putfield 61, 3) := by decide +kernel
theorem pm_a10_33 : pm_as (pm_cd pm_mm10) 33 = some (.iload_n 2, 1) := by decide +kernel
theorem pm_a10_34 : pm_as (pm_cd pm_mm10) 34 = some (.ireturn, 1) := by decide +kernel
theorem pm_a11_0 : pm_as (pm_cd pm_mm11) 0 = some (.aload_n 0, 1) := by decide +kernel
theorem pm_a11_1 : pm_as (pm_cd pm_mm11) 1 = some (.invokevirtual 68, 3) := by decide +kernel
theorem pm_a11_4 : pm_as (pm_cd pm_mm11) 4 = some (.astore_n 1, 1) := by decide +kernel
theorem pm_a11_5 : pm_as (pm_cd pm_mm11) 5 = some (.aload_n 1, 1) := by decide +kernel
theorem pm_a11_6 : pm_as (pm_cd pm_mm11) 6 = some (.ifnonnull 6, 3) := by decide +kernel
theorem pm_a11_9 : pm_as (pm_cd pm_mm11) 9 = some (.bipush (-3), 2) := by decide +kernel
theorem pm_a11_11 : pm_as (pm_cd pm_mm11) 11 = some (.ireturn, 1) := by decide +kernel
theorem pm_a11_12 : pm_as (pm_cd pm_mm11) 12 = some (.aload_n 0, 1) := by decide +kernel
theorem pm_a11_13 : pm_as (pm_cd pm_mm11) 13 = some (.aload_n 0, 1) := by decide +kernel
theorem pm_a11_14 : pm_as (pm_cd pm_mm11) 14 = some (.getfield 41, 3) := by decide +kernel
theorem pm_a11_17 : pm_as (pm_cd pm_mm11) 17 = some (.aload_n 1, 1) := by decide +kernel
theorem pm_a11_18 : pm_as (pm_cd pm_mm11) 18 = some (.invokevirtual 72, 3) := by decide +kernel
theorem pm_a11_21 : pm_as (pm_cd pm_mm11) 21 = some (.putfield 76, 3) := by decide +kernel
theorem pm_a11_24 : pm_as (pm_cd pm_mm11) 24 = some (.aload_n 0, 1) := by decide +kernel
theorem pm_a11_25 : pm_as (pm_cd pm_mm11) 25 = some (.getfield 10, 3) := by decide +kernel
theorem pm_a11_28 : pm_as (pm_cd pm_mm11) 28 = some (.iconst 0, 1) := by decide +kernel
theorem pm_a11_29 : pm_as (pm_cd pm_mm11) 29 = some (.putfield 61, 3) := by decide +kernel
theorem pm_a11_32 : pm_as (pm_cd pm_mm11) 32 = some (.aload_n 0, 1) := by decide +kernel
theorem pm_a11_33 : pm_as (pm_cd pm_mm11) 33 = some (.getfield 76, 3) := by decide +kernel
theorem pm_a11_36 : pm_as (pm_cd pm_mm11) 36 = some (.ifCond .ne 10, 3) := by decide +kernel
theorem pm_a11_39 : pm_as (pm_cd pm_mm11) 39 = some (.aload_n 0, 1) := by decide +kernel
theorem pm_a11_40 : pm_as (pm_cd pm_mm11) 40 = some (.invokevirtual 79, 3) := by decide +kernel
theorem pm_a11_43 : pm_as (pm_cd pm_mm11) 43 = some (.goto 13, 3) := by decide +kernel
theorem pm_a11_46 : pm_as (pm_cd pm_mm11) 46 = some (.bipush (-10), 2) := by decide +kernel
theorem pm_a11_48 : pm_as (pm_cd pm_mm11) 48 = some (.aload_n 0, 1) := by decide +kernel
theorem pm_a11_49 : pm_as (pm_cd pm_mm11) 49 = some (.getfield 41, 3) := by decide +kernel
theorem pm_a11_52 : pm_as (pm_cd pm_mm11) 52 = some (.getfield 83, 3) := by decide +kernel
theorem pm_a11_55 : pm_as (pm_cd pm_mm11) 55 = some (.isub, 1) := by decide +kernel
theorem pm_a11_56 : pm_as (pm_cd pm_mm11) 56 = some (.ireturn, 1) := by decide +kernel
theorem pm_a12_0 : pm_as (pm_cd pm_mm12) 0 = some (.aload_n 0, 1) := by decide +kernel
theorem pm_a12_1 : pm_as (pm_cd pm_mm12) 1 = some (.getfield 179, 3) := by decide +kernel
theorem pm_a12_4 : pm_as (pm_cd pm_mm12) 4 = some (.ifCond .lt 15, 3) := by decide +kernel
theorem pm_a12_7 : pm_as (pm_cd pm_mm12) 7 = some (.aload_n 0, 1) := by decide +kernel
theorem pm_a12_8 : pm_as (pm_cd pm_mm12) 8 = some (.getfield 179, 3) := by decide +kernel
theorem pm_a12_11 : pm_as (pm_cd pm_mm12) 11 = some (.aload_n 0, 1) := by decide +kernel
theorem pm_a12_12 : pm_as (pm_cd pm_mm12) 12 = some (.getfield 18, 3) := by decide +kernel
theorem pm_a12_15 : pm_as (pm_cd pm_mm12) 15 = some (.arraylength, 1) := by decide +kernel
theorem pm_a12_16 : pm_as (pm_cd pm_mm12) 16 = some (.if_icmp .lt 5, 3) := by decide +kernel
theorem pm_a12_19 : pm_as (pm_cd pm_mm12) 19 = some (.aconst_null, 1) := by decide +kernel
theorem pm_a12_20 : pm_as (pm_cd pm_mm12) 20 = some (.areturn, 1) := by decide +kernel
theorem pm_a12_21 : pm_as (pm_cd pm_mm12) 21 = some (.aload_n 0, 1) := by decide +kernel
theorem pm_a12_22 : pm_as (pm_cd pm_mm12) 22 = some (.getfield 18, 3) := by decide +kernel
theorem pm_a12_25 : pm_as (pm_cd pm_mm12) 25 = some (.aload_n 0, 1) := by decide +kernel
theorem pm_a12_26 : pm_as (pm_cd pm_mm12) 26 = some (.getfield 179, 3) := by decide +kernel
theorem pm_a12_29 : pm_as (pm_cd pm_mm12) 29 = some (.aaload, 1) := by decide +kernel
theorem pm_a12_30 : pm_as (pm_cd pm_mm12) 30 = some (.astore_n 1, 1) := by decide +kernel
theorem pm_a12_31 : pm_as (pm_cd pm_mm12) 31 = some (.aload_n 1, 1) := by decide +kernel
theorem pm_a12_32 : pm_as (pm_cd pm_mm12) 32 = some (.ifnonnull 24, 3) := by decide +kernel
theorem pm_a12_35 : pm_as (pm_cd pm_mm12) 35 = some (.new 16, 3) := by decide +kernel
theorem pm_a12_38 : pm_as (pm_cd pm_mm12) 38 = some (.dup, 1) := by decide +kernel
theorem pm_a12_39 : pm_as (pm_cd pm_mm12) 39 = some (.sipush 500, 3) := by decide +kernel
theorem pm_a12_42 : pm_as (pm_cd pm_mm12) 42 = some (.invokespecial 22, 3) := by decide +kernel
theorem pm_a12_45 : pm_as (pm_cd pm_mm12) 45 = some (.astore_n 1, 1) := by decide +kernel
theorem pm_a12_46 : pm_as (pm_cd pm_mm12) 46 = some (.aload_n 0, 1) := by decide +kernel
theorem pm_a12_47 : pm_as (pm_cd pm_mm12) 47 = some (.getfield 18, 3) := by decide +kernel
theorem pm_a12_50 : pm_as (pm_cd pm_mm12) 50 = some (.aload_n 0, 1) := by decide +kernel
theorem pm_a12_51 : pm_as (pm_cd pm_mm12) 51 = some (.getfield 179, 3) := by decide +kernel
theorem pm_a12_54 : pm_as (pm_cd pm_mm12) 54 = some (.aload_n 1, 1) := by decide +kernel
theorem pm_a12_55 : pm_as (pm_cd pm_mm12) 55 = some (.aastore, 1) := by decide +kernel
theorem pm_a12_56 : pm_as (pm_cd pm_mm12) 56 = some (.aload_n 1, 1) := by decide +kernel
theorem pm_a12_57 : pm_as (pm_cd pm_mm12) 57 = some (.invokevirtual 185, 3) := by decide +kernel
theorem pm_a12_60 : pm_as (pm_cd pm_mm12) 60 = some (.aload_n 1, 1) := by decide +kernel
theorem pm_a12_61 : pm_as (pm_cd pm_mm12) 61 = some (.areturn, 1) := by decide +kernel
theorem pm_a13_0 : pm_as (pm_cd pm_mm13) 0 = some (.aload_n 0, 1) := by decide +kernel
theorem pm_a13_1 : pm_as (pm_cd pm_mm13) 1 = some (.iconst 0, 1) := by decide +kernel
theorem pm_a13_2 : pm_as (pm_cd pm_mm13) 2 = some (.putfield 21, 3) := by decide +kernel
theorem pm_a13_5 : pm_as (pm_cd pm_mm13) 5 = some (.aload_n 0, 1) := by decide +kernel
theorem pm_a13_6 : pm_as (pm_cd pm_mm13) 6 = some (.iconst 0, 1) := by decide +kernel
theorem pm_a13_7 : pm_as (pm_cd pm_mm13) 7 = some (.putfield 25, 3) := by decide +kernel
theorem pm_a13_10 : pm_as (pm_cd pm_mm13) 10 = some (.return_, 1) := by decide +kernel
theorem pm_a14_0 : pm_as (pm_cd pm_mm14) 0 = some (.aload_n 0, 1) := by decide +kernel
theorem pm_a14_1 : pm_as (pm_cd pm_mm14) 1 = some (.iconst 0, 1) := by decide +kernel
theorem pm_a14_2 : pm_as (pm_cd pm_mm14) 2 = some (.putfield 25, 3) := by decide +kernel
theorem pm_a14_5 : pm_as (pm_cd pm_mm14) 5 = some (.aload_n 0, 1) := by decide +kernel
theorem pm_a14_6 : pm_as (pm_cd pm_mm14) 6 = some (.iconst 0, 1) := by decide +kernel
theorem pm_a14_7 : pm_as (pm_cd pm_mm14) 7 = some (.putfield 29, 3) := by decide +kernel
theorem pm_a14_10 : pm_as (pm_cd pm_mm14) 10 = some (.aload_n 0, 1) := by decide +kernel
theorem pm_a14_11 : pm_as (pm_cd pm_mm14) 11 = some (.iconst 0, 1) := by decide +kernel
theorem pm_a14_12 : pm_as (pm_cd pm_mm14) 12 = some (.putfield 32, 3) := by decide +kernel
theorem pm_a14_15 : pm_as (pm_cd pm_mm14) 15 = some (.aload_n 0, 1) := by decide +kernel
theorem pm_a14_16 : pm_as (pm_cd pm_mm14) 16 = some (.iconst 0, 1) := by decide +kernel
theorem pm_a14_17 : pm_as (pm_cd pm_mm14) 17 = some (.putfield 35, 3) := by decide +kernel
theorem pm_a14_20 : pm_as (pm_cd pm_mm14) 20 = some (.aload_n 0, 1) := by decide +kernel
theorem pm_a14_21 : pm_as (pm_cd pm_mm14) 21 = some (.iconst 0, 1) := by decide +kernel
theorem pm_a14_22 : pm_as (pm_cd pm_mm14) 22 = some (.putfield 38, 3) := by decide +kernel
theorem pm_a14_25 : pm_as (pm_cd pm_mm14) 25 = some (.aload_n 0, 1) := by decide +kernel
theorem pm_a14_26 : pm_as (pm_cd pm_mm14) 26 = some (.iconst 0, 1) := by decide +kernel
theorem pm_a14_27 : pm_as (pm_cd pm_mm14) 27 = some (.putfield 41, 3) := by decide +kernel
theorem pm_a14_30 : pm_as (pm_cd pm_mm14) 30 = some (.aload_n 0, 1) := by decide +kernel
theorem pm_a14_31 : pm_as (pm_cd pm_mm14) 31 = some (.invokevirtual 44, 3) := by decide +kernel
theorem pm_a14_34 : pm_as (pm_cd pm_mm14) 34 = some (.aload_n 0, 1) := by decide +kernel
theorem pm_a14_35 : pm_as (pm_cd pm_mm14) 35 = some (.invokevirtual 47, 3) := by decide +kernel
theorem pm_a14_38 : pm_as (pm_cd pm_mm14) 38 = some (.aload_n 0, 1) := by decide +kernel
theorem pm_a14_39 : pm_as (pm_cd pm_mm14) 39 = some (.getfield 38, 3) := by decide +kernel
theorem pm_a14_42 : pm_as (pm_cd pm_mm14) 42 = some (.ifCond .ne 8, 3) := by decide +kernel
theorem pm_a14_45 : pm_as (pm_cd pm_mm14) 45 = some (.aload_n 0, 1) := by decide +kernel
theorem pm_a14_46 : pm_as (pm_cd pm_mm14) 46 = some (.aload_n 1, 1) := by decide +kernel
theorem pm_a14_47 : pm_as (pm_cd pm_mm14) 47 = some (.invokevirtual 50, 3) := by decide +kernel
theorem pm_a14_50 : pm_as (pm_cd pm_mm14) 50 = some (.aload_n 0, 1) := by decide +kernel
theorem pm_a14_51 : pm_as (pm_cd pm_mm14) 51 = some (.getfield 38, 3) := by decide +kernel
theorem pm_a14_54 : pm_as (pm_cd pm_mm14) 54 = some (.ireturn, 1) := by decide +kernel
theorem pm_a15_0 : pm_as (pm_cd pm_mm15) 0 = some (.aload_n 0, 1) := by decide +kernel
theorem pm_a15_1 : pm_as (pm_cd pm_mm15) 1 = some (.aload_n 0, 1) := by decide +kernel
theorem pm_a15_2 : pm_as (pm_cd pm_mm15) 2 = some (.getfield 25, 3) := by decide +kernel
theorem pm_a15_5 : pm_as (pm_cd pm_mm15) 5 = some (.putfield 140, 3) := by decide +kernel
theorem pm_a15_8 : pm_as (pm_cd pm_mm15) 8 = some (.aload_n 0, 1) := by decide +kernel
theorem pm_a15_9 : pm_as (pm_cd pm_mm15) 9 = some (.iconst 0, 1) := by decide +kernel
theorem pm_a15_10 : pm_as (pm_cd pm_mm15) 10 = some (.invokevirtual 121, 3) := by decide +kernel
theorem pm_a15_13 : pm_as (pm_cd pm_mm15) 13 = some (.return_, 1) := by decide +kernel
theorem pm_a16_0 : pm_as (pm_cd pm_mm16) 0 = some (.aload_n 0, 1) := by decide +kernel
theorem pm_a16_1 : pm_as (pm_cd pm_mm16) 1 = some (.getfield 25, 3) := by decide +kernel
theorem pm_a16_4 : pm_as (pm_cd pm_mm16) 4 = some (.ifCond .lt 35, 3) := by decide +kernel
theorem pm_a16_7 : pm_as (pm_cd pm_mm16) 7 = some (.aload_n 0, 1) := by decide +kernel
theorem pm_a16_8 : pm_as (pm_cd pm_mm16) 8 = some (.getfield 25, 3) := by decide +kernel
theorem pm_a16_11 : pm_as (pm_cd pm_mm16) 11 = some (.aload_n 0, 1) := by decide +kernel
theorem pm_a16_12 : pm_as (pm_cd pm_mm16) 12 = some (.getfield 9, 3) := by decide +kernel
theorem pm_a16_15 : pm_as (pm_cd pm_mm16) 15 = some (.arraylength, 1) := by decide +kernel
theorem pm_a16_16 : pm_as (pm_cd pm_mm16) 16 = some (.if_icmp .ge 23, 3) := by decide +kernel
theorem pm_a16_19 : pm_as (pm_cd pm_mm16) 19 = some (.aload_n 0, 1) := by decide +kernel
theorem pm_a16_20 : pm_as (pm_cd pm_mm16) 20 = some (.getfield 9, 3) := by decide +kernel
theorem pm_a16_23 : pm_as (pm_cd pm_mm16) 23 = some (.aload_n 0, 1) := by decide +kernel
theorem pm_a16_24 : pm_as (pm_cd pm_mm16) 24 = some (.getfield 25, 3) := by decide +kernel
theorem pm_a16_27 : pm_as (pm_cd pm_mm16) 27 = some (.iload_n 1, 1) := by decide +kernel
theorem pm_a16_28 : pm_as (pm_cd pm_mm16) 28 = some (.iastore, 1) := by decide +kernel
theorem pm_a16_29 : pm_as (pm_cd pm_mm16) 29 = some (.aload_n 0, 1) := by decide +kernel
theorem pm_a16_30 : pm_as (pm_cd pm_mm16) 30 = some (.dup, 1) := by decide +kernel
theorem pm_a16_31 : pm_as (pm_cd pm_mm16) 31 = some (.getfield 25, 3) := by decide +kernel
theorem pm_a16_34 : pm_as (pm_cd pm_mm16) 34 = some (.iconst 1, 1) := by decide +kernel
theorem pm_a16_35 : pm_as (pm_cd pm_mm16) 35 = some (.iadd, 1) := by decide +kernel
theorem pm_a16_36 : pm_as (pm_cd pm_mm16) 36 = some (.putfield 25, 3) := by decide +kernel
theorem pm_a16_39 : pm_as (pm_cd pm_mm16) 39 = some (.return_, 1) := by decide +kernel
theorem pm_a17_0 : pm_as (pm_cd pm_mm17) 0 = some (.aload_n 0, 1) := by decide +kernel
theorem pm_a17_1 : pm_as (pm_cd pm_mm17) 1 = some (.iconst 4, 1) := by decide +kernel
theorem pm_a17_2 : pm_as (pm_cd pm_mm17) 2 = some (.putfield 54, 3) := by decide +kernel
theorem pm_a17_5 : pm_as (pm_cd pm_mm17) 5 = some (.iconst 0, 1) := by decide +kernel
theorem pm_a17_6 : pm_as (pm_cd pm_mm17) 6 = some (.istore_n 1, 1) := by decide +kernel
theorem pm_a17_7 : pm_as (pm_cd pm_mm17) 7 = some (.iload_n 1, 1) := by decide +kernel
theorem pm_a17_8 : pm_as (pm_cd pm_mm17) 8 = some (.sipush 600, 3) := by decide +kernel
theorem pm_a17_11 : pm_as (pm_cd pm_mm17) 11 = some (.if_icmp .gt 38, 3) := by decide +kernel
theorem pm_a17_14 : pm_as (pm_cd pm_mm17) 14 = some (.aload_n 0, 1) := by decide +kernel
theorem pm_a17_15 : pm_as (pm_cd pm_mm17) 15 = some (.getfield 54, 3) := by decide +kernel
theorem pm_a17_18 : pm_as (pm_cd pm_mm17) 18 = some (.ifCond .eq 31, 3) := by decide +kernel
theorem pm_a17_21 : pm_as (pm_cd pm_mm17) 21 = some (.aload_n 0, 1) := by decide +kernel
theorem pm_a17_22 : pm_as (pm_cd pm_mm17) 22 = some (.getfield 38, 3) := by decide +kernel
theorem pm_a17_25 : pm_as (pm_cd pm_mm17) 25 = some (.ifCond .ne 24, 3) := by decide +kernel
theorem pm_a17_28 : pm_as (pm_cd pm_mm17) 28 = some (.aload_n 0, 1) := by decide +kernel
theorem pm_a17_29 : pm_as (pm_cd pm_mm17) 29 = some (.invokevirtual 57, 3) := by decide +kernel
theorem pm_a17_32 : pm_as (pm_cd pm_mm17) 32 = some (.aload_n 0, 1) := by decide +kernel
theorem pm_a17_33 : pm_as (pm_cd pm_mm17) 33 = some (.getfield 38, 3) := by decide +kernel
theorem pm_a17_36 : pm_as (pm_cd pm_mm17) 36 = some (.ifCond .ne 7, 3) := by decide +kernel
theorem pm_a17_39 : pm_as (pm_cd pm_mm17) 39 = some (.aload_n 0, 1) := by decide +kernel
theorem pm_a17_40 : pm_as (pm_cd pm_mm17) 40 = some (.invokevirtual 60, 3) := by decide +kernel
theorem pm_a17_43 : pm_as (pm_cd pm_mm17) 43 = some (.iinc 1 1, 3) := by decide +kernel
theorem pm_a17_46 : pm_as (pm_cd pm_mm17) 46 = some (.goto (-39), 3) := by decide +kernel
theorem pm_a17_49 : pm_as (pm_cd pm_mm17) 49 = some (.return_, 1) := by decide +kernel
theorem pm_a18_0 : pm_as (pm_cd pm_mm18) 0 = some (.aload_n 0, 1) := by decide +kernel
theorem pm_a18_1 : pm_as (pm_cd pm_mm18) 1 = some (.getfield 35, 3) := by decide +kernel
theorem pm_a18_4 : pm_as (pm_cd pm_mm18) 4 = some (.aload_n 0, 1) := by decide +kernel
theorem pm_a18_5 : pm_as (pm_cd pm_mm18) 5 = some (.getfield 21, 3) := by decide +kernel
theorem pm_a18_8 : pm_as (pm_cd pm_mm18) 8 = some (.getfield 63, 3) := by decide +kernel
theorem pm_a18_11 : pm_as (pm_cd pm_mm18) 11 = some (.if_icmp .ge 32, 3) := by decide +kernel
theorem pm_a18_14 : pm_as (pm_cd pm_mm18) 14 = some (.aload_n 0, 1) := by decide +kernel
theorem pm_a18_15 : pm_as (pm_cd pm_mm18) 15 = some (.getfield 21, 3) := by decide +kernel
theorem pm_a18_18 : pm_as (pm_cd pm_mm18) 18 = some (.aload_n 0, 1) := by decide +kernel
theorem pm_a18_19 : pm_as (pm_cd pm_mm18) 19 = some (.getfield 35, 3) := by decide +kernel
theorem pm_a18_22 : pm_as (pm_cd pm_mm18) 22 = some (.invokevirtual 68, 3) := by decide +kernel
theorem pm_a18_25 : pm_as (pm_cd pm_mm18) 25 = some (.bipush 32, 2) := by decide +kernel
theorem pm_a18_27 : pm_as (pm_cd pm_mm18) 27 = some (.if_icmp .ne 16, 3) := by decide +kernel
theorem pm_a18_30 : pm_as (pm_cd pm_mm18) 30 = some (.aload_n 0, 1) := by decide +kernel
theorem pm_a18_31 : pm_as (pm_cd pm_mm18) 31 = some (.dup, 1) := by decide +kernel
theorem pm_a18_32 : pm_as (pm_cd pm_mm18) 32 = some (.getfield 35, 3) := by decide +kernel
theorem pm_a18_35 : pm_as (pm_cd pm_mm18) 35 = some (.iconst 1, 1) := by decide +kernel
theorem pm_a18_36 : pm_as (pm_cd pm_mm18) 36 = some (.iadd, 1) := by decide +kernel
theorem pm_a18_37 : pm_as (pm_cd pm_mm18) 37 = some (.putfield 35, 3) := by decide +kernel
theorem pm_a18_40 : pm_as (pm_cd pm_mm18) 40 = some (.goto (-40), 3) := by decide +kernel
theorem pm_a18_43 : pm_as (pm_cd pm_mm18) 43 = some (.aload_n 0, 1) := by decide +kernel
theorem pm_a18_44 : pm_as (pm_cd pm_mm18) 44 = some (.aload_n 0, 1) := by decide +kernel
theorem pm_a18_45 : pm_as (pm_cd pm_mm18) 45 = some (.getfield 35, 3) := by decide +kernel
theorem pm_a18_48 : pm_as (pm_cd pm_mm18) 48 = some (.putfield 72, 3) := by decide +kernel
theorem pm_a18_51 : pm_as (pm_cd pm_mm18) 51 = some (.aload_n 0, 1) := by decide +kernel
theorem pm_a18_52 : pm_as (pm_cd pm_mm18) 52 = some (.getfield 21, 3) := by decide +kernel
theorem pm_a18_55 : pm_as (pm_cd pm_mm18) 55 = some (.aload_n 0, 1) := by decide +kernel
theorem pm_a18_56 : pm_as (pm_cd pm_mm18) 56 = some (.getfield 72, 3) := by decide +kernel
theorem pm_a18_59 : pm_as (pm_cd pm_mm18) 59 = some (.invokevirtual 68, 3) := by decide +kernel
theorem pm_a18_62 : pm_as (pm_cd pm_mm18) 62 = some (.istore_n 1, 1) := by decide +kernel
theorem pm_a18_63 : pm_as (pm_cd pm_mm18) 63 = some (.aload_n 0, 1) := by decide +kernel
theorem pm_a18_64 : pm_as (pm_cd pm_mm18) 64 = some (.getfield 72, 3) := by decide +kernel
theorem pm_a18_67 : pm_as (pm_cd pm_mm18) 67 = some (.aload_n 0, 1) := by decide +kernel
theorem pm_a18_68 : pm_as (pm_cd pm_mm18) 68 = some (.getfield 21, 3) := by decide +kernel
theorem pm_a18_71 : pm_as (pm_cd pm_mm18) 71 = some (.getfield 63, 3) := by decide +kernel
theorem pm_a18_74 : pm_as (pm_cd pm_mm18) 74 = some (.if_icmp .lt 11, 3) := by decide +kernel
theorem pm_a18_77 : pm_as (pm_cd pm_mm18) 77 = some (.aload_n 0, 1) := by decide +kernel
theorem pm_a18_78 : pm_as (pm_cd pm_mm18) 78 = some (.iconst 0, 1) := by decide +kernel
theorem pm_a18_79 : pm_as (pm_cd pm_mm18) 79 = some (.putfield 54, 3) := by decide +kernel
theorem pm_a18_82 : pm_as (pm_cd pm_mm18) 82 = some (.goto 106, 3) := by decide +kernel
theorem pm_a18_85 : pm_as (pm_cd pm_mm18) 85 = some (.iload_n 1, 1) := by decide +kernel
theorem pm_a18_86 : pm_as (pm_cd pm_mm18) 86 = some (.invokestatic 75, 3) := by decide +kernel
theorem pm_a18_89 : pm_as (pm_cd pm_mm18) 89 = some (.ifCond .eq 10, 3) := by decide +kernel
theorem pm_a18_92 : pm_as (pm_cd pm_mm18) 92 = some (.aload_n 0, 1) := by decide +kernel
theorem pm_a18_93 : pm_as (pm_cd pm_mm18) 93 = some (.invokevirtual 79, 3) := by decide +kernel
theorem pm_a18_96 : pm_as (pm_cd pm_mm18) 96 = some (.goto 92, 3) := by decide +kernel
theorem pm_a18_99 : pm_as (pm_cd pm_mm18) 99 = some (.iload_n 1, 1) := by decide +kernel
theorem pm_a18_100 : pm_as (pm_cd pm_mm18) 100 = some (.invokestatic 82, 3) := by decide +kernel
theorem pm_a18_103 : pm_as (pm_cd pm_mm18) 103 = some (.ifCond .eq 10, 3) := by decide +kernel
theorem pm_a18_106 : pm_as (pm_cd pm_mm18) 106 = some (.aload_n 0, 1) := by decide +kernel
theorem pm_a18_107 : pm_as (pm_cd pm_mm18) 107 = some (.invokevirtual 85, 3) := by decide +kernel
theorem pm_a18_110 : pm_as (pm_cd pm_mm18) 110 = some (.goto 78, 3) := by decide +kernel
theorem pm_a18_113 : pm_as (pm_cd pm_mm18) 113 = some (.ldc 88, 2) := by decide +kernel
theorem pm_a18_115 : pm_as (pm_cd pm_mm18) 115 = some (.iload_n 1, 1) := by decide +kernel
theorem pm_a18_116 : pm_as (pm_cd pm_mm18) 116 = some (.i2c, 1) := by decide +kernel
theorem pm_a18_117 : pm_as (pm_cd pm_mm18) 117 = some (.invokevirtual 90, 3) := by decide +kernel
theorem pm_a18_120 : pm_as (pm_cd pm_mm18) 120 = some (.ifCond .lt 21, 3) := by decide +kernel
theorem pm_a18_123 : pm_as (pm_cd pm_mm18) 123 = some (.aload_n 0, 1) := by decide +kernel
theorem pm_a18_124 : pm_as (pm_cd pm_mm18) 124 = some (.iconst 3, 1) := by decide +kernel
theorem pm_a18_125 : pm_as (pm_cd pm_mm18) 125 = some (.putfield 54, 3) := by decide +kernel
theorem pm_a18_128 : pm_as (pm_cd pm_mm18) 128 = some (.aload_n 0, 1) := by decide +kernel
theorem pm_a18_129 : pm_as (pm_cd pm_mm18) 129 = some (.dup, 1) := by decide +kernel
theorem pm_a18_130 : pm_as (pm_cd pm_mm18) 130 = some (.getfield 35, 3) := by decide +kernel
theorem pm_a18_133 : pm_as (pm_cd pm_mm18) 133 = some (.iconst 1, 1) := by decide +kernel
theorem pm_a18_134 : pm_as (pm_cd pm_mm18) 134 = some (.iadd, 1) := by decide +kernel
theorem pm_a18_135 : pm_as (pm_cd pm_mm18) 135 = some (.putfield 35, 3) := by decide +kernel
theorem pm_a18_138 : pm_as (pm_cd pm_mm18) 138 = some (.goto 50, 3) := by decide +kernel
theorem pm_a18_141 : pm_as (pm_cd pm_mm18) 141 = some (.iload_n 1, 1) := by decide +kernel
theorem pm_a18_142 : pm_as (pm_cd pm_mm18) 142 = some (.bipush 40, 2) := by decide +kernel
theorem pm_a18_144 : pm_as (pm_cd pm_mm18) 144 = some (.if_icmp .eq 21, 3) := by decide +kernel
theorem pm_a18_147 : pm_as (pm_cd pm_mm18) 147 = some (.iload_n 1, 1) := by decide +kernel
theorem pm_a18_148 : pm_as (pm_cd pm_mm18) 148 = some (.bipush 41, 2) := by decide +kernel
theorem pm_a18_150 : pm_as (pm_cd pm_mm18) 150 = some (.if_icmp .eq 15, 3) := by decide +kernel
theorem pm_a18_153 : pm_as (pm_cd pm_mm18) 153 = some (.iload_n 1, 1) := by decide +kernel
theorem pm_a18_154 : pm_as (pm_cd pm_mm18) 154 = some (.bipush 92, 2) := by decide +kernel
theorem pm_a18_156 : pm_as (pm_cd pm_mm18) 156 = some (.if_icmp .eq 9, 3) := by decide +kernel
theorem pm_a18_159 : pm_as (pm_cd pm_mm18) 159 = some (.iload_n 1, 1) := by decide +kernel
theorem pm_a18_160 : pm_as (pm_cd pm_mm18) 160 = some (.bipush 46, 2) := by decide +kernel
theorem pm_a18_162 : pm_as (pm_cd pm_mm18) 162 = some (.if_icmp .ne 21, 3) := by decide +kernel
theorem pm_a18_165 : pm_as (pm_cd pm_mm18) 165 = some (.aload_n 0, 1) := by decide +kernel
theorem pm_a18_166 : pm_as (pm_cd pm_mm18) 166 = some (.iconst 4, 1) := by decide +kernel
theorem pm_a18_167 : pm_as (pm_cd pm_mm18) 167 = some (.putfield 54, 3) := by decide +kernel
theorem pm_a18_170 : pm_as (pm_cd pm_mm18) 170 = some (.aload_n 0, 1) := by decide +kernel
theorem pm_a18_171 : pm_as (pm_cd pm_mm18) 171 = some (.dup, 1) := by decide +kernel
theorem pm_a18_172 : pm_as (pm_cd pm_mm18) 172 = some (.getfield 35, 3) := by decide +kernel
theorem pm_a18_175 : pm_as (pm_cd pm_mm18) 175 = some (.iconst 1, 1) := by decide +kernel
theorem pm_a18_176 : pm_as (pm_cd pm_mm18) 176 = some (.iadd, 1) := by decide +kernel
theorem pm_a18_177 : pm_as (pm_cd pm_mm18) 177 = some (.putfield 35, 3) := by decide +kernel
theorem pm_a18_180 : pm_as (pm_cd pm_mm18) 180 = some (.goto 8, 3) := by decide +kernel
theorem pm_a18_183 : pm_as (pm_cd pm_mm18) 183 = some (.aload_n 0, 1) := by decide +kernel
theorem pm_a18_184 : pm_as (pm_cd pm_mm18) 184 = some (.iconst 1, 1) := by decide +kernel
theorem pm_a18_185 : pm_as (pm_cd pm_mm18) 185 = some (.invokevirtual 95, 3) := by decide +kernel
theorem pm_a18_188 : pm_as (pm_cd pm_mm18) 188 = some (.return_, 1) := by decide +kernel
theorem pm_a19_0 : pm_as (pm_cd pm_mm19) 0 = some (.iload_n 1, 1) := by decide +kernel
theorem pm_a19_1 : pm_as (pm_cd pm_mm19) 1 = some (.ifCond .lt 29, 3) := by decide +kernel
theorem pm_a19_4 : pm_as (pm_cd pm_mm19) 4 = some (.iload_n 1, 1) := by decide +kernel
theorem pm_a19_5 : pm_as (pm_cd pm_mm19) 5 = some (.aload_n 0, 1) := by decide +kernel
theorem pm_a19_6 : pm_as (pm_cd pm_mm19) 6 = some (.getfield 15, 3) := by decide +kernel
theorem pm_a19_9 : pm_as (pm_cd pm_mm19) 9 = some (.if_icmp .ge 21, 3) := by decide +kernel
theorem pm_a19_12 : pm_as (pm_cd pm_mm19) 12 = some (.iload_n 1, 1) := by decide +kernel
theorem pm_a19_13 : pm_as (pm_cd pm_mm19) 13 = some (.aload_n 0, 1) := by decide +kernel
theorem pm_a19_14 : pm_as (pm_cd pm_mm19) 14 = some (.getfield 9, 3) := by decide +kernel
theorem pm_a19_17 : pm_as (pm_cd pm_mm19) 17 = some (.arraylength, 1) := by decide +kernel
theorem pm_a19_18 : pm_as (pm_cd pm_mm19) 18 = some (.if_icmp .ge 12, 3) := by decide +kernel
theorem pm_a19_21 : pm_as (pm_cd pm_mm19) 21 = some (.aload_n 0, 1) := by decide +kernel
theorem pm_a19_22 : pm_as (pm_cd pm_mm19) 22 = some (.getfield 9, 3) := by decide +kernel
theorem pm_a19_25 : pm_as (pm_cd pm_mm19) 25 = some (.iload_n 1, 1) := by decide +kernel
theorem pm_a19_26 : pm_as (pm_cd pm_mm19) 26 = some (.iaload, 1) := by decide +kernel
theorem pm_a19_27 : pm_as (pm_cd pm_mm19) 27 = some (.goto 4, 3) := by decide +kernel
theorem pm_a19_30 : pm_as (pm_cd pm_mm19) 30 = some (.iconst (-1), 1) := by decide +kernel
theorem pm_a19_31 : pm_as (pm_cd pm_mm19) 31 = some (.ireturn, 1) := by decide +kernel
theorem pm_a20_0 : pm_as (pm_cd pm_mm20) 0 = some (.iload_n 0, 1) := by decide +kernel
theorem pm_a20_1 : pm_as (pm_cd pm_mm20) 1 = some (.bipush 97, 2) := by decide +kernel
theorem pm_a20_3 : pm_as (pm_cd pm_mm20) 3 = some (.if_icmp .lt 13, 3) := by decide +kernel
theorem pm_a20_6 : pm_as (pm_cd pm_mm20) 6 = some (.iload_n 0, 1) := by decide +kernel
theorem pm_a20_7 : pm_as (pm_cd pm_mm20) 7 = some (.bipush 122, 2) := by decide +kernel
theorem pm_a20_9 : pm_as (pm_cd pm_mm20) 9 = some (.if_icmp .gt 7, 3) := by decide +kernel
theorem pm_a20_12 : pm_as (pm_cd pm_mm20) 12 = some (.iconst 1, 1) := by decide +kernel
theorem pm_a20_13 : pm_as (pm_cd pm_mm20) 13 = some (.goto 4, 3) := by decide +kernel
theorem pm_a20_16 : pm_as (pm_cd pm_mm20) 16 = some (.iconst 0, 1) := by decide +kernel
theorem pm_a20_17 : pm_as (pm_cd pm_mm20) 17 = some (.ireturn, 1) := by decide +kernel
theorem pm_a21_0 : pm_as (pm_cd pm_mm21) 0 = some (.aload_n 0, 1) := by decide +kernel
theorem pm_a21_1 : pm_as (pm_cd pm_mm21) 1 = some (.iconst 1, 1) := by decide +kernel
theorem pm_a21_2 : pm_as (pm_cd pm_mm21) 2 = some (.putfield 54, 3) := by decide +kernel
theorem pm_a21_5 : pm_as (pm_cd pm_mm21) 5 = some (.aload_n 0, 1) := by decide +kernel
theorem pm_a21_6 : pm_as (pm_cd pm_mm21) 6 = some (.getfield 35, 3) := by decide +kernel
theorem pm_a21_9 : pm_as (pm_cd pm_mm21) 9 = some (.aload_n 0, 1) := by decide +kernel
theorem pm_a21_10 : pm_as (pm_cd pm_mm21) 10 = some (.getfield 21, 3) := by decide +kernel
theorem pm_a21_13 : pm_as (pm_cd pm_mm21) 13 = some (.getfield 63, 3) := by decide +kernel
theorem pm_a21_16 : pm_as (pm_cd pm_mm21) 16 = some (.if_icmp .ge 33, 3) := by decide +kernel
theorem pm_a21_19 : pm_as (pm_cd pm_mm21) 19 = some (.aload_n 0, 1) := by decide +kernel
theorem pm_a21_20 : pm_as (pm_cd pm_mm21) 20 = some (.getfield 21, 3) := by decide +kernel
theorem pm_a21_23 : pm_as (pm_cd pm_mm21) 23 = some (.aload_n 0, 1) := by decide +kernel
theorem pm_a21_24 : pm_as (pm_cd pm_mm21) 24 = some (.getfield 35, 3) := by decide +kernel
theorem pm_a21_27 : pm_as (pm_cd pm_mm21) 27 = some (.invokevirtual 68, 3) := by decide +kernel
theorem pm_a21_30 : pm_as (pm_cd pm_mm21) 30 = some (.invokestatic 75, 3) := by decide +kernel
theorem pm_a21_33 : pm_as (pm_cd pm_mm21) 33 = some (.ifCond .eq 16, 3) := by decide +kernel
theorem pm_a21_36 : pm_as (pm_cd pm_mm21) 36 = some (.aload_n 0, 1) := by decide +kernel
theorem pm_a21_37 : pm_as (pm_cd pm_mm21) 37 = some (.dup, 1) := by decide +kernel
theorem pm_a21_38 : pm_as (pm_cd pm_mm21) 38 = some (.getfield 35, 3) := by decide +kernel
theorem pm_a21_41 : pm_as (pm_cd pm_mm21) 41 = some (.iconst 1, 1) := by decide +kernel
theorem pm_a21_42 : pm_as (pm_cd pm_mm21) 42 = some (.iadd, 1) := by decide +kernel
theorem pm_a21_43 : pm_as (pm_cd pm_mm21) 43 = some (.putfield 35, 3) := by decide +kernel
theorem pm_a21_46 : pm_as (pm_cd pm_mm21) 46 = some (.goto (-41), 3) := by decide +kernel
theorem pm_a21_49 : pm_as (pm_cd pm_mm21) 49 = some (.aload_n 0, 1) := by decide +kernel
theorem pm_a21_50 : pm_as (pm_cd pm_mm21) 50 = some (.getfield 35, 3) := by decide +kernel
theorem pm_a21_53 : pm_as (pm_cd pm_mm21) 53 = some (.aload_n 0, 1) := by decide +kernel
theorem pm_a21_54 : pm_as (pm_cd pm_mm21) 54 = some (.getfield 72, 3) := by decide +kernel
theorem pm_a21_57 : pm_as (pm_cd pm_mm21) 57 = some (.isub, 1) := by decide +kernel
theorem pm_a21_58 : pm_as (pm_cd pm_mm21) 58 = some (.bipush 8, 2) := by decide +kernel
theorem pm_a21_60 : pm_as (pm_cd pm_mm21) 60 = some (.if_icmp .le 8, 3) := by decide +kernel
theorem pm_a21_63 : pm_as (pm_cd pm_mm21) 63 = some (.aload_n 0, 1) := by decide +kernel
theorem pm_a21_64 : pm_as (pm_cd pm_mm21) 64 = some (.iconst 1, 1) := by decide +kernel
theorem pm_a21_65 : pm_as (pm_cd pm_mm21) 65 = some (.invokevirtual 95, 3) := by decide +kernel
theorem pm_a21_68 : pm_as (pm_cd pm_mm21) 68 = some (.return_, 1) := by decide +kernel
theorem pm_a22_0 : pm_as (pm_cd pm_mm22) 0 = some (.aload_n 0, 1) := by decide +kernel
theorem pm_a22_1 : pm_as (pm_cd pm_mm22) 1 = some (.iload_n 1, 1) := by decide +kernel
theorem pm_a22_2 : pm_as (pm_cd pm_mm22) 2 = some (.putfield 38, 3) := by decide +kernel
theorem pm_a22_5 : pm_as (pm_cd pm_mm22) 5 = some (.aload_n 0, 1) := by decide +kernel
theorem pm_a22_6 : pm_as (pm_cd pm_mm22) 6 = some (.aload_n 0, 1) := by decide +kernel
theorem pm_a22_7 : pm_as (pm_cd pm_mm22) 7 = some (.getfield 72, 3) := by decide +kernel
theorem pm_a22_10 : pm_as (pm_cd pm_mm22) 10 = some (.putfield 41, 3) := by decide +kernel
theorem pm_a22_13 : pm_as (pm_cd pm_mm22) 13 = some (.return_, 1) := by decide +kernel
theorem pm_a23_0 : pm_as (pm_cd pm_mm23) 0 = some (.iload_n 0, 1) := by decide +kernel
theorem pm_a23_1 : pm_as (pm_cd pm_mm23) 1 = some (.bipush 48, 2) := by decide +kernel
theorem pm_a23_3 : pm_as (pm_cd pm_mm23) 3 = some (.if_icmp .lt 13, 3) := by decide +kernel
theorem pm_a23_6 : pm_as (pm_cd pm_mm23) 6 = some (.iload_n 0, 1) := by decide +kernel
theorem pm_a23_7 : pm_as (pm_cd pm_mm23) 7 = some (.bipush 57, 2) := by decide +kernel
theorem pm_a23_9 : pm_as (pm_cd pm_mm23) 9 = some (.if_icmp .gt 7, 3) := by decide +kernel
theorem pm_a23_12 : pm_as (pm_cd pm_mm23) 12 = some (.iconst 1, 1) := by decide +kernel
theorem pm_a23_13 : pm_as (pm_cd pm_mm23) 13 = some (.goto 4, 3) := by decide +kernel
theorem pm_a23_16 : pm_as (pm_cd pm_mm23) 16 = some (.iconst 0, 1) := by decide +kernel
theorem pm_a23_17 : pm_as (pm_cd pm_mm23) 17 = some (.ireturn, 1) := by decide +kernel
theorem pm_a24_0 : pm_as (pm_cd pm_mm24) 0 = some (.aload_n 0, 1) := by decide +kernel
theorem pm_a24_1 : pm_as (pm_cd pm_mm24) 1 = some (.iconst 2, 1) := by decide +kernel
theorem pm_a24_2 : pm_as (pm_cd pm_mm24) 2 = some (.putfield 54, 3) := by decide +kernel
theorem pm_a24_5 : pm_as (pm_cd pm_mm24) 5 = some (.aload_n 0, 1) := by decide +kernel
theorem pm_a24_6 : pm_as (pm_cd pm_mm24) 6 = some (.getfield 35, 3) := by decide +kernel
theorem pm_a24_9 : pm_as (pm_cd pm_mm24) 9 = some (.aload_n 0, 1) := by decide +kernel
theorem pm_a24_10 : pm_as (pm_cd pm_mm24) 10 = some (.getfield 21, 3) := by decide +kernel
theorem pm_a24_13 : pm_as (pm_cd pm_mm24) 13 = some (.getfield 63, 3) := by decide +kernel
theorem pm_a24_16 : pm_as (pm_cd pm_mm24) 16 = some (.if_icmp .ge 33, 3) := by decide +kernel
theorem pm_a24_19 : pm_as (pm_cd pm_mm24) 19 = some (.aload_n 0, 1) := by decide +kernel
theorem pm_a24_20 : pm_as (pm_cd pm_mm24) 20 = some (.getfield 21, 3) := by decide +kernel
theorem pm_a24_23 : pm_as (pm_cd pm_mm24) 23 = some (.aload_n 0, 1) := by decide +kernel
theorem pm_a24_24 : pm_as (pm_cd pm_mm24) 24 = some (.getfield 35, 3) := by decide +kernel
theorem pm_a24_27 : pm_as (pm_cd pm_mm24) 27 = some (.invokevirtual 68, 3) := by decide +kernel
theorem pm_a24_30 : pm_as (pm_cd pm_mm24) 30 = some (.invokestatic 82, 3) := by decide +kernel
theorem pm_a24_33 : pm_as (pm_cd pm_mm24) 33 = some (.ifCond .eq 16, 3) := by decide +kernel
theorem pm_a24_36 : pm_as (pm_cd pm_mm24) 36 = some (.aload_n 0, 1) := by decide +kernel
theorem pm_a24_37 : pm_as (pm_cd pm_mm24) 37 = some (.dup, 1) := by decide +kernel
theorem pm_a24_38 : pm_as (pm_cd pm_mm24) 38 = some (.getfield 35, 3) := by decide +kernel
theorem pm_a24_41 : pm_as (pm_cd pm_mm24) 41 = some (.iconst 1, 1) := by decide +kernel
theorem pm_a24_42 : pm_as (pm_cd pm_mm24) 42 = some (.iadd, 1) := by decide +kernel
theorem pm_a24_43 : pm_as (pm_cd pm_mm24) 43 = some (.putfield 35, 3) := by decide +kernel
theorem pm_a24_46 : pm_as (pm_cd pm_mm24) 46 = some (.goto (-41), 3) := by decide +kernel
theorem pm_a24_49 : pm_as (pm_cd pm_mm24) 49 = some (.aload_n 0, 1) := by decide +kernel
theorem pm_a24_50 : pm_as (pm_cd pm_mm24) 50 = some (.getfield 35, 3) := by decide +kernel
theorem pm_a24_53 : pm_as (pm_cd pm_mm24) 53 = some (.aload_n 0, 1) := by decide +kernel
theorem pm_a24_54 : pm_as (pm_cd pm_mm24) 54 = some (.getfield 72, 3) := by decide +kernel
theorem pm_a24_57 : pm_as (pm_cd pm_mm24) 57 = some (.isub, 1) := by decide +kernel
theorem pm_a24_58 : pm_as (pm_cd pm_mm24) 58 = some (.iconst 2, 1) := by decide +kernel
theorem pm_a24_59 : pm_as (pm_cd pm_mm24) 59 = some (.if_icmp .gt 12, 3) := by decide +kernel
theorem pm_a24_62 : pm_as (pm_cd pm_mm24) 62 = some (.aload_n 0, 1) := by decide +kernel
theorem pm_a24_63 : pm_as (pm_cd pm_mm24) 63 = some (.invokevirtual 99, 3) := by decide +kernel
theorem pm_a24_66 : pm_as (pm_cd pm_mm24) 66 = some (.bipush 20, 2) := by decide +kernel
theorem pm_a24_68 : pm_as (pm_cd pm_mm24) 68 = some (.if_icmp .le 8, 3) := by decide +kernel
theorem pm_a24_71 : pm_as (pm_cd pm_mm24) 71 = some (.aload_n 0, 1) := by decide +kernel
theorem pm_a24_72 : pm_as (pm_cd pm_mm24) 72 = some (.iconst 1, 1) := by decide +kernel
theorem pm_a24_73 : pm_as (pm_cd pm_mm24) 73 = some (.invokevirtual 95, 3) := by decide +kernel
theorem pm_a24_76 : pm_as (pm_cd pm_mm24) 76 = some (.return_, 1) := by decide +kernel
theorem pm_a25_0 : pm_as (pm_cd pm_mm25) 0 = some (.aload_n 0, 1) := by decide +kernel
theorem pm_a25_1 : pm_as (pm_cd pm_mm25) 1 = some (.getfield 21, 3) := by decide +kernel
theorem pm_a25_4 : pm_as (pm_cd pm_mm25) 4 = some (.aload_n 0, 1) := by decide +kernel
theorem pm_a25_5 : pm_as (pm_cd pm_mm25) 5 = some (.getfield 72, 3) := by decide +kernel
theorem pm_a25_8 : pm_as (pm_cd pm_mm25) 8 = some (.invokevirtual 68, 3) := by decide +kernel
theorem pm_a25_11 : pm_as (pm_cd pm_mm25) 11 = some (.bipush 48, 2) := by decide +kernel
theorem pm_a25_13 : pm_as (pm_cd pm_mm25) 13 = some (.isub, 1) := by decide +kernel
theorem pm_a25_14 : pm_as (pm_cd pm_mm25) 14 = some (.istore_n 1, 1) := by decide +kernel
theorem pm_a25_15 : pm_as (pm_cd pm_mm25) 15 = some (.aload_n 0, 1) := by decide +kernel
theorem pm_a25_16 : pm_as (pm_cd pm_mm25) 16 = some (.getfield 35, 3) := by decide +kernel
theorem pm_a25_19 : pm_as (pm_cd pm_mm25) 19 = some (.aload_n 0, 1) := by decide +kernel
theorem pm_a25_20 : pm_as (pm_cd pm_mm25) 20 = some (.getfield 72, 3) := by decide +kernel
theorem pm_a25_23 : pm_as (pm_cd pm_mm25) 23 = some (.isub, 1) := by decide +kernel
theorem pm_a25_24 : pm_as (pm_cd pm_mm25) 24 = some (.iconst 1, 1) := by decide +kernel
theorem pm_a25_25 : pm_as (pm_cd pm_mm25) 25 = some (.if_icmp .ne 7, 3) := by decide +kernel
theorem pm_a25_28 : pm_as (pm_cd pm_mm25) 28 = some (.iload_n 1, 1) := by decide +kernel
theorem pm_a25_29 : pm_as (pm_cd pm_mm25) 29 = some (.goto 24, 3) := by decide +kernel
theorem pm_a25_32 : pm_as (pm_cd pm_mm25) 32 = some (.iload_n 1, 1) := by decide +kernel
theorem pm_a25_33 : pm_as (pm_cd pm_mm25) 33 = some (.bipush 10, 2) := by decide +kernel
theorem pm_a25_35 : pm_as (pm_cd pm_mm25) 35 = some (.imul, 1) := by decide +kernel
theorem pm_a25_36 : pm_as (pm_cd pm_mm25) 36 = some (.aload_n 0, 1) := by decide +kernel
theorem pm_a25_37 : pm_as (pm_cd pm_mm25) 37 = some (.getfield 21, 3) := by decide +kernel
theorem pm_a25_40 : pm_as (pm_cd pm_mm25) 40 = some (.aload_n 0, 1) := by decide +kernel
theorem pm_a25_41 : pm_as (pm_cd pm_mm25) 41 = some (.getfield 72, 3) := by decide +kernel
theorem pm_a25_44 : pm_as (pm_cd pm_mm25) 44 = some (.iconst 1, 1) := by decide +kernel
theorem pm_a25_45 : pm_as (pm_cd pm_mm25) 45 = some (.iadd, 1) := by decide +kernel
theorem pm_a25_46 : pm_as (pm_cd pm_mm25) 46 = some (.invokevirtual 68, 3) := by decide +kernel
theorem pm_a25_49 : pm_as (pm_cd pm_mm25) 49 = some (.iadd, 1) := by decide +kernel
theorem pm_a25_50 : pm_as (pm_cd pm_mm25) 50 = some (.bipush 48, 2) := by decide +kernel
theorem pm_a25_52 : pm_as (pm_cd pm_mm25) 52 = some (.isub, 1) := by decide +kernel
theorem pm_a25_53 : pm_as (pm_cd pm_mm25) 53 = some (.ireturn, 1) := by decide +kernel
theorem pm_a26_0 : pm_as (pm_cd pm_mm26) 0 = some (.aload_n 0, 1) := by decide +kernel
theorem pm_a26_1 : pm_as (pm_cd pm_mm26) 1 = some (.getfield 32, 3) := by decide +kernel
theorem pm_a26_4 : pm_as (pm_cd pm_mm26) 4 = some (.ifCond .eq 8, 3) := by decide +kernel
theorem pm_a26_7 : pm_as (pm_cd pm_mm26) 7 = some (.aload_n 0, 1) := by decide +kernel
theorem pm_a26_8 : pm_as (pm_cd pm_mm26) 8 = some (.invokevirtual 103, 3) := by decide +kernel
theorem pm_a26_11 : pm_as (pm_cd pm_mm26) 11 = some (.return_, 1) := by decide +kernel
theorem pm_a26_12 : pm_as (pm_cd pm_mm26) 12 = some (.aload_n 0, 1) := by decide +kernel
theorem pm_a26_13 : pm_as (pm_cd pm_mm26) 13 = some (.getfield 54, 3) := by decide +kernel
theorem pm_a26_16 : pm_as (pm_cd pm_mm26) 16 = some (.tableswitch 98 1 4 #[32, 39, 54, 80], 32) := by decide +kernel
theorem pm_a26_48 : pm_as (pm_cd pm_mm26) 48 = some (.aload_n 0, 1) := by decide +kernel
theorem pm_a26_49 : pm_as (pm_cd pm_mm26) 49 = some (.invokevirtual 106, 3) := by decide +kernel
theorem pm_a26_52 : pm_as (pm_cd pm_mm26) 52 = some (.goto 66, 3) := by decide +kernel
theorem pm_a26_55 : pm_as (pm_cd pm_mm26) 55 = some (.aload_n 0, 1) := by decide +kernel
theorem pm_a26_56 : pm_as (pm_cd pm_mm26) 56 = some (.sipush 1000, 3) := by decide +kernel
theorem pm_a26_59 : pm_as (pm_cd pm_mm26) 59 = some (.aload_n 0, 1) := by decide +kernel
theorem pm_a26_60 : pm_as (pm_cd pm_mm26) 60 = some (.invokevirtual 99, 3) := by decide +kernel
theorem pm_a26_63 : pm_as (pm_cd pm_mm26) 63 = some (.iadd, 1) := by decide +kernel
theorem pm_a26_64 : pm_as (pm_cd pm_mm26) 64 = some (.invokevirtual 109, 3) := by decide +kernel
theorem pm_a26_67 : pm_as (pm_cd pm_mm26) 67 = some (.goto 51, 3) := by decide +kernel
theorem pm_a26_70 : pm_as (pm_cd pm_mm26) 70 = some (.aload_n 0, 1) := by decide +kernel
theorem pm_a26_71 : pm_as (pm_cd pm_mm26) 71 = some (.ldc 88, 2) := by decide +kernel
theorem pm_a26_73 : pm_as (pm_cd pm_mm26) 73 = some (.aload_n 0, 1) := by decide +kernel
theorem pm_a26_74 : pm_as (pm_cd pm_mm26) 74 = some (.getfield 21, 3) := by decide +kernel
theorem pm_a26_77 : pm_as (pm_cd pm_mm26) 77 = some (.aload_n 0, 1) := by decide +kernel
theorem pm_a26_78 : pm_as (pm_cd pm_mm26) 78 = some (.getfield 72, 3) := by decide +kernel
theorem pm_a26_81 : pm_as (pm_cd pm_mm26) 81 = some (.invokevirtual 68, 3) := by decide +kernel
theorem pm_a26_84 : pm_as (pm_cd pm_mm26) 84 = some (.i2c, 1) := by decide +kernel
theorem pm_a26_85 : pm_as (pm_cd pm_mm26) 85 = some (.invokevirtual 90, 3) := by decide +kernel
theorem pm_a26_88 : pm_as (pm_cd pm_mm26) 88 = some (.iconst 2, 1) := by decide +kernel
theorem pm_a26_89 : pm_as (pm_cd pm_mm26) 89 = some (.iadd, 1) := by decide +kernel
theorem pm_a26_90 : pm_as (pm_cd pm_mm26) 90 = some (.invokevirtual 109, 3) := by decide +kernel
theorem pm_a26_93 : pm_as (pm_cd pm_mm26) 93 = some (.goto 25, 3) := by decide +kernel
theorem pm_a26_96 : pm_as (pm_cd pm_mm26) 96 = some (.aload_n 0, 1) := by decide +kernel
theorem pm_a26_97 : pm_as (pm_cd pm_mm26) 97 = some (.aload_n 0, 1) := by decide +kernel
theorem pm_a26_98 : pm_as (pm_cd pm_mm26) 98 = some (.getfield 21, 3) := by decide +kernel
theorem pm_a26_101 : pm_as (pm_cd pm_mm26) 101 = some (.aload_n 0, 1) := by decide +kernel
theorem pm_a26_102 : pm_as (pm_cd pm_mm26) 102 = some (.getfield 72, 3) := by decide +kernel
theorem pm_a26_105 : pm_as (pm_cd pm_mm26) 105 = some (.invokevirtual 68, 3) := by decide +kernel
theorem pm_a26_108 : pm_as (pm_cd pm_mm26) 108 = some (.invokevirtual 112, 3) := by decide +kernel
theorem pm_a26_111 : pm_as (pm_cd pm_mm26) 111 = some (.goto 7, 3) := by decide +kernel
theorem pm_a26_114 : pm_as (pm_cd pm_mm26) 114 = some (.aload_n 0, 1) := by decide +kernel
theorem pm_a26_115 : pm_as (pm_cd pm_mm26) 115 = some (.invokevirtual 115, 3) := by decide +kernel
theorem pm_a26_118 : pm_as (pm_cd pm_mm26) 118 = some (.return_, 1) := by decide +kernel
theorem pm_a27_0 : pm_as (pm_cd pm_mm27) 0 = some (.aload_n 0, 1) := by decide +kernel
theorem pm_a27_1 : pm_as (pm_cd pm_mm27) 1 = some (.getfield 54, 3) := by decide +kernel
theorem pm_a27_4 : pm_as (pm_cd pm_mm27) 4 = some (.iconst 1, 1) := by decide +kernel
theorem pm_a27_5 : pm_as (pm_cd pm_mm27) 5 = some (.if_icmp .ne 24, 3) := by decide +kernel
theorem pm_a27_8 : pm_as (pm_cd pm_mm27) 8 = some (.aload_n 0, 1) := by decide +kernel
theorem pm_a27_9 : pm_as (pm_cd pm_mm27) 9 = some (.aload_n 0, 1) := by decide +kernel
theorem pm_a27_10 : pm_as (pm_cd pm_mm27) 10 = some (.getfield 72, 3) := by decide +kernel
theorem pm_a27_13 : pm_as (pm_cd pm_mm27) 13 = some (.invokevirtual 118, 3) := by decide +kernel
theorem pm_a27_16 : pm_as (pm_cd pm_mm27) 16 = some (.aload_n 0, 1) := by decide +kernel
theorem pm_a27_17 : pm_as (pm_cd pm_mm27) 17 = some (.iconst 1, 1) := by decide +kernel
theorem pm_a27_18 : pm_as (pm_cd pm_mm27) 18 = some (.invokevirtual 121, 3) := by decide +kernel
theorem pm_a27_21 : pm_as (pm_cd pm_mm27) 21 = some (.aload_n 0, 1) := by decide +kernel
theorem pm_a27_22 : pm_as (pm_cd pm_mm27) 22 = some (.iconst 2, 1) := by decide +kernel
theorem pm_a27_23 : pm_as (pm_cd pm_mm27) 23 = some (.putfield 32, 3) := by decide +kernel
theorem pm_a27_26 : pm_as (pm_cd pm_mm27) 26 = some (.goto 52, 3) := by decide +kernel
theorem pm_a27_29 : pm_as (pm_cd pm_mm27) 29 = some (.aload_n 0, 1) := by decide +kernel
theorem pm_a27_30 : pm_as (pm_cd pm_mm27) 30 = some (.getfield 32, 3) := by decide +kernel
theorem pm_a27_33 : pm_as (pm_cd pm_mm27) 33 = some (.iconst 2, 1) := by decide +kernel
theorem pm_a27_34 : pm_as (pm_cd pm_mm27) 34 = some (.if_icmp .ne 39, 3) := by decide +kernel
theorem pm_a27_37 : pm_as (pm_cd pm_mm27) 37 = some (.aload_n 0, 1) := by decide +kernel
theorem pm_a27_38 : pm_as (pm_cd pm_mm27) 38 = some (.getfield 54, 3) := by decide +kernel
theorem pm_a27_41 : pm_as (pm_cd pm_mm27) 41 = some (.iconst 4, 1) := by decide +kernel
theorem pm_a27_42 : pm_as (pm_cd pm_mm27) 42 = some (.if_icmp .ne 31, 3) := by decide +kernel
theorem pm_a27_45 : pm_as (pm_cd pm_mm27) 45 = some (.aload_n 0, 1) := by decide +kernel
theorem pm_a27_46 : pm_as (pm_cd pm_mm27) 46 = some (.getfield 21, 3) := by decide +kernel
theorem pm_a27_49 : pm_as (pm_cd pm_mm27) 49 = some (.aload_n 0, 1) := by decide +kernel
theorem pm_a27_50 : pm_as (pm_cd pm_mm27) 50 = some (.getfield 72, 3) := by decide +kernel
theorem pm_a27_53 : pm_as (pm_cd pm_mm27) 53 = some (.invokevirtual 68, 3) := by decide +kernel
theorem pm_a27_56 : pm_as (pm_cd pm_mm27) 56 = some (.bipush 46, 2) := by decide +kernel
theorem pm_a27_58 : pm_as (pm_cd pm_mm27) 58 = some (.if_icmp .ne 15, 3) := by decide +kernel
theorem pm_a27_61 : pm_as (pm_cd pm_mm27) 61 = some (.aload_n 0, 1) := by decide +kernel
theorem pm_a27_62 : pm_as (pm_cd pm_mm27) 62 = some (.iconst 0, 1) := by decide +kernel
theorem pm_a27_63 : pm_as (pm_cd pm_mm27) 63 = some (.putfield 32, 3) := by decide +kernel
theorem pm_a27_66 : pm_as (pm_cd pm_mm27) 66 = some (.aload_n 0, 1) := by decide +kernel
theorem pm_a27_67 : pm_as (pm_cd pm_mm27) 67 = some (.invokevirtual 44, 3) := by decide +kernel
theorem pm_a27_70 : pm_as (pm_cd pm_mm27) 70 = some (.goto 8, 3) := by decide +kernel
theorem pm_a27_73 : pm_as (pm_cd pm_mm27) 73 = some (.aload_n 0, 1) := by decide +kernel
theorem pm_a27_74 : pm_as (pm_cd pm_mm27) 74 = some (.iconst 2, 1) := by decide +kernel
theorem pm_a27_75 : pm_as (pm_cd pm_mm27) 75 = some (.invokevirtual 95, 3) := by decide +kernel
theorem pm_a27_78 : pm_as (pm_cd pm_mm27) 78 = some (.return_, 1) := by decide +kernel
theorem pm_a28_0 : pm_as (pm_cd pm_mm28) 0 = some (.aload_n 0, 1) := by decide +kernel
theorem pm_a28_1 : pm_as (pm_cd pm_mm28) 1 = some (.getfield 29, 3) := by decide +kernel
theorem pm_a28_4 : pm_as (pm_cd pm_mm28) 4 = some (.ifCond .lt 12, 3) := by decide +kernel
theorem pm_a28_7 : pm_as (pm_cd pm_mm28) 7 = some (.aload_n 0, 1) := by decide +kernel
theorem pm_a28_8 : pm_as (pm_cd pm_mm28) 8 = some (.getfield 29, 3) := by decide +kernel
theorem pm_a28_11 : pm_as (pm_cd pm_mm28) 11 = some (.bipush 40, 2) := by decide +kernel
theorem pm_a28_13 : pm_as (pm_cd pm_mm28) 13 = some (.if_icmp .lt 9, 3) := by decide +kernel
theorem pm_a28_16 : pm_as (pm_cd pm_mm28) 16 = some (.aload_n 0, 1) := by decide +kernel
theorem pm_a28_17 : pm_as (pm_cd pm_mm28) 17 = some (.iconst 4, 1) := by decide +kernel
theorem pm_a28_18 : pm_as (pm_cd pm_mm28) 18 = some (.invokevirtual 95, 3) := by decide +kernel
theorem pm_a28_21 : pm_as (pm_cd pm_mm28) 21 = some (.return_, 1) := by decide +kernel
theorem pm_a28_22 : pm_as (pm_cd pm_mm28) 22 = some (.aload_n 0, 1) := by decide +kernel
theorem pm_a28_23 : pm_as (pm_cd pm_mm28) 23 = some (.getfield 15, 3) := by decide +kernel
theorem pm_a28_26 : pm_as (pm_cd pm_mm28) 26 = some (.aload_n 0, 1) := by decide +kernel
theorem pm_a28_27 : pm_as (pm_cd pm_mm28) 27 = some (.getfield 29, 3) := by decide +kernel
theorem pm_a28_30 : pm_as (pm_cd pm_mm28) 30 = some (.iload_n 1, 1) := by decide +kernel
theorem pm_a28_31 : pm_as (pm_cd pm_mm28) 31 = some (.iastore, 1) := by decide +kernel
theorem pm_a28_32 : pm_as (pm_cd pm_mm28) 32 = some (.aload_n 0, 1) := by decide +kernel
theorem pm_a28_33 : pm_as (pm_cd pm_mm28) 33 = some (.getfield 18, 3) := by decide +kernel
theorem pm_a28_36 : pm_as (pm_cd pm_mm28) 36 = some (.aload_n 0, 1) := by decide +kernel
theorem pm_a28_37 : pm_as (pm_cd pm_mm28) 37 = some (.getfield 29, 3) := by decide +kernel
theorem pm_a28_40 : pm_as (pm_cd pm_mm28) 40 = some (.aload_n 0, 1) := by decide +kernel
theorem pm_a28_41 : pm_as (pm_cd pm_mm28) 41 = some (.getfield 140, 3) := by decide +kernel
theorem pm_a28_44 : pm_as (pm_cd pm_mm28) 44 = some (.iastore, 1) := by decide +kernel
theorem pm_a28_45 : pm_as (pm_cd pm_mm28) 45 = some (.aload_n 0, 1) := by decide +kernel
theorem pm_a28_46 : pm_as (pm_cd pm_mm28) 46 = some (.dup, 1) := by decide +kernel
theorem pm_a28_47 : pm_as (pm_cd pm_mm28) 47 = some (.getfield 29, 3) := by decide +kernel
theorem pm_a28_50 : pm_as (pm_cd pm_mm28) 50 = some (.iconst 1, 1) := by decide +kernel
theorem pm_a28_51 : pm_as (pm_cd pm_mm28) 51 = some (.iadd, 1) := by decide +kernel
theorem pm_a28_52 : pm_as (pm_cd pm_mm28) 52 = some (.putfield 29, 3) := by decide +kernel
theorem pm_a28_55 : pm_as (pm_cd pm_mm28) 55 = some (.return_, 1) := by decide +kernel
theorem pm_a29_0 : pm_as (pm_cd pm_mm29) 0 = some (.iconst 0, 1) := by decide +kernel
theorem pm_a29_1 : pm_as (pm_cd pm_mm29) 1 = some (.istore_n 1, 1) := by decide +kernel
theorem pm_a29_2 : pm_as (pm_cd pm_mm29) 2 = some (.aload_n 0, 1) := by decide +kernel
theorem pm_a29_3 : pm_as (pm_cd pm_mm29) 3 = some (.getfield 29, 3) := by decide +kernel
theorem pm_a29_6 : pm_as (pm_cd pm_mm29) 6 = some (.iconst 1, 1) := by decide +kernel
theorem pm_a29_7 : pm_as (pm_cd pm_mm29) 7 = some (.isub, 1) := by decide +kernel
theorem pm_a29_8 : pm_as (pm_cd pm_mm29) 8 = some (.istore_n 2, 1) := by decide +kernel
theorem pm_a29_9 : pm_as (pm_cd pm_mm29) 9 = some (.iload_n 2, 1) := by decide +kernel
theorem pm_a29_10 : pm_as (pm_cd pm_mm29) 10 = some (.ifCond .lt 53, 3) := by decide +kernel
theorem pm_a29_13 : pm_as (pm_cd pm_mm29) 13 = some (.iload_n 2, 1) := by decide +kernel
theorem pm_a29_14 : pm_as (pm_cd pm_mm29) 14 = some (.aload_n 0, 1) := by decide +kernel
theorem pm_a29_15 : pm_as (pm_cd pm_mm29) 15 = some (.getfield 15, 3) := by decide +kernel
theorem pm_a29_18 : pm_as (pm_cd pm_mm29) 18 = some (.arraylength, 1) := by decide +kernel
theorem pm_a29_19 : pm_as (pm_cd pm_mm29) 19 = some (.if_icmp .ge 38, 3) := by decide +kernel
theorem pm_a29_22 : pm_as (pm_cd pm_mm29) 22 = some (.aload_n 0, 1) := by decide +kernel
theorem pm_a29_23 : pm_as (pm_cd pm_mm29) 23 = some (.getfield 15, 3) := by decide +kernel
theorem pm_a29_26 : pm_as (pm_cd pm_mm29) 26 = some (.iload_n 2, 1) := by decide +kernel
theorem pm_a29_27 : pm_as (pm_cd pm_mm29) 27 = some (.iaload, 1) := by decide +kernel
theorem pm_a29_28 : pm_as (pm_cd pm_mm29) 28 = some (.iconst (-1), 1) := by decide +kernel
theorem pm_a29_29 : pm_as (pm_cd pm_mm29) 29 = some (.if_icmp .eq 28, 3) := by decide +kernel
theorem pm_a29_32 : pm_as (pm_cd pm_mm29) 32 = some (.aload_n 0, 1) := by decide +kernel
theorem pm_a29_33 : pm_as (pm_cd pm_mm29) 33 = some (.aload_n 0, 1) := by decide +kernel
theorem pm_a29_34 : pm_as (pm_cd pm_mm29) 34 = some (.getfield 15, 3) := by decide +kernel
theorem pm_a29_37 : pm_as (pm_cd pm_mm29) 37 = some (.iload_n 2, 1) := by decide +kernel
theorem pm_a29_38 : pm_as (pm_cd pm_mm29) 38 = some (.iaload, 1) := by decide +kernel
theorem pm_a29_39 : pm_as (pm_cd pm_mm29) 39 = some (.invokevirtual 130, 3) := by decide +kernel
theorem pm_a29_42 : pm_as (pm_cd pm_mm29) 42 = some (.ifCond .eq 12, 3) := by decide +kernel
theorem pm_a29_45 : pm_as (pm_cd pm_mm29) 45 = some (.aload_n 0, 1) := by decide +kernel
theorem pm_a29_46 : pm_as (pm_cd pm_mm29) 46 = some (.bipush 10, 2) := by decide +kernel
theorem pm_a29_48 : pm_as (pm_cd pm_mm29) 48 = some (.iload_n 1, 1) := by decide +kernel
theorem pm_a29_49 : pm_as (pm_cd pm_mm29) 49 = some (.iadd, 1) := by decide +kernel
theorem pm_a29_50 : pm_as (pm_cd pm_mm29) 50 = some (.invokevirtual 109, 3) := by decide +kernel
theorem pm_a29_53 : pm_as (pm_cd pm_mm29) 53 = some (.return_, 1) := by decide +kernel
theorem pm_a29_54 : pm_as (pm_cd pm_mm29) 54 = some (.iinc 1 1, 3) := by decide +kernel
theorem pm_a29_57 : pm_as (pm_cd pm_mm29) 57 = some (.iinc 2 (-1), 3) := by decide +kernel
theorem pm_a29_60 : pm_as (pm_cd pm_mm29) 60 = some (.goto (-51), 3) := by decide +kernel
theorem pm_a29_63 : pm_as (pm_cd pm_mm29) 63 = some (.aload_n 0, 1) := by decide +kernel
theorem pm_a29_64 : pm_as (pm_cd pm_mm29) 64 = some (.iconst 3, 1) := by decide +kernel
theorem pm_a29_65 : pm_as (pm_cd pm_mm29) 65 = some (.invokevirtual 95, 3) := by decide +kernel
theorem pm_a29_68 : pm_as (pm_cd pm_mm29) 68 = some (.return_, 1) := by decide +kernel
theorem pm_a30_0 : pm_as (pm_cd pm_mm30) 0 = some (.aload_n 0, 1) := by decide +kernel
theorem pm_a30_1 : pm_as (pm_cd pm_mm30) 1 = some (.getfield 35, 3) := by decide +kernel
theorem pm_a30_4 : pm_as (pm_cd pm_mm30) 4 = some (.aload_n 0, 1) := by decide +kernel
theorem pm_a30_5 : pm_as (pm_cd pm_mm30) 5 = some (.getfield 72, 3) := by decide +kernel
theorem pm_a30_8 : pm_as (pm_cd pm_mm30) 8 = some (.isub, 1) := by decide +kernel
theorem pm_a30_9 : pm_as (pm_cd pm_mm30) 9 = some (.istore_n 2, 1) := by decide +kernel
theorem pm_a30_10 : pm_as (pm_cd pm_mm30) 10 = some (.iconst 0, 1) := by decide +kernel
theorem pm_a30_11 : pm_as (pm_cd pm_mm30) 11 = some (.istore_n 3, 1) := by decide +kernel
theorem pm_a30_12 : pm_as (pm_cd pm_mm30) 12 = some (.iload_n 3, 1) := by decide +kernel
theorem pm_a30_13 : pm_as (pm_cd pm_mm30) 13 = some (.iload_n 2, 1) := by decide +kernel
theorem pm_a30_14 : pm_as (pm_cd pm_mm30) 14 = some (.if_icmp .ge 37, 3) := by decide +kernel
theorem pm_a30_17 : pm_as (pm_cd pm_mm30) 17 = some (.aload_n 0, 1) := by decide +kernel
theorem pm_a30_18 : pm_as (pm_cd pm_mm30) 18 = some (.getfield 21, 3) := by decide +kernel
theorem pm_a30_21 : pm_as (pm_cd pm_mm30) 21 = some (.iload_n 1, 1) := by decide +kernel
theorem pm_a30_22 : pm_as (pm_cd pm_mm30) 22 = some (.iload_n 3, 1) := by decide +kernel
theorem pm_a30_23 : pm_as (pm_cd pm_mm30) 23 = some (.iadd, 1) := by decide +kernel
theorem pm_a30_24 : pm_as (pm_cd pm_mm30) 24 = some (.invokevirtual 68, 3) := by decide +kernel
theorem pm_a30_27 : pm_as (pm_cd pm_mm30) 27 = some (.aload_n 0, 1) := by decide +kernel
theorem pm_a30_28 : pm_as (pm_cd pm_mm30) 28 = some (.getfield 21, 3) := by decide +kernel
theorem pm_a30_31 : pm_as (pm_cd pm_mm30) 31 = some (.aload_n 0, 1) := by decide +kernel
theorem pm_a30_32 : pm_as (pm_cd pm_mm30) 32 = some (.getfield 72, 3) := by decide +kernel
theorem pm_a30_35 : pm_as (pm_cd pm_mm30) 35 = some (.iload_n 3, 1) := by decide +kernel
theorem pm_a30_36 : pm_as (pm_cd pm_mm30) 36 = some (.iadd, 1) := by decide +kernel
theorem pm_a30_37 : pm_as (pm_cd pm_mm30) 37 = some (.invokevirtual 68, 3) := by decide +kernel
theorem pm_a30_40 : pm_as (pm_cd pm_mm30) 40 = some (.if_icmp .eq 5, 3) := by decide +kernel
theorem pm_a30_43 : pm_as (pm_cd pm_mm30) 43 = some (.iconst 0, 1) := by decide +kernel
theorem pm_a30_44 : pm_as (pm_cd pm_mm30) 44 = some (.ireturn, 1) := by decide +kernel
theorem pm_a30_45 : pm_as (pm_cd pm_mm30) 45 = some (.iinc 3 1, 3) := by decide +kernel
theorem pm_a30_48 : pm_as (pm_cd pm_mm30) 48 = some (.goto (-36), 3) := by decide +kernel
theorem pm_a30_51 : pm_as (pm_cd pm_mm30) 51 = some (.aload_n 0, 1) := by decide +kernel
theorem pm_a30_52 : pm_as (pm_cd pm_mm30) 52 = some (.getfield 21, 3) := by decide +kernel
theorem pm_a30_55 : pm_as (pm_cd pm_mm30) 55 = some (.iload_n 1, 1) := by decide +kernel
theorem pm_a30_56 : pm_as (pm_cd pm_mm30) 56 = some (.iload_n 2, 1) := by decide +kernel
theorem pm_a30_57 : pm_as (pm_cd pm_mm30) 57 = some (.iadd, 1) := by decide +kernel
theorem pm_a30_58 : pm_as (pm_cd pm_mm30) 58 = some (.invokevirtual 68, 3) := by decide +kernel
theorem pm_a30_61 : pm_as (pm_cd pm_mm30) 61 = some (.invokestatic 75, 3) := by decide +kernel
theorem pm_a30_64 : pm_as (pm_cd pm_mm30) 64 = some (.ifCond .ne 7, 3) := by decide +kernel
theorem pm_a30_67 : pm_as (pm_cd pm_mm30) 67 = some (.iconst 1, 1) := by decide +kernel
theorem pm_a30_68 : pm_as (pm_cd pm_mm30) 68 = some (.goto 4, 3) := by decide +kernel
theorem pm_a30_71 : pm_as (pm_cd pm_mm30) 71 = some (.iconst 0, 1) := by decide +kernel
theorem pm_a30_72 : pm_as (pm_cd pm_mm30) 72 = some (.ireturn, 1) := by decide +kernel
theorem pm_a31_0 : pm_as (pm_cd pm_mm31) 0 = some (.aload_n 0, 1) := by decide +kernel
theorem pm_a31_1 : pm_as (pm_cd pm_mm31) 1 = some (.invokevirtual 124, 3) := by decide +kernel
theorem pm_a31_4 : pm_as (pm_cd pm_mm31) 4 = some (.aload_n 0, 1) := by decide +kernel
theorem pm_a31_5 : pm_as (pm_cd pm_mm31) 5 = some (.iload_n 1, 1) := by decide +kernel
theorem pm_a31_6 : pm_as (pm_cd pm_mm31) 6 = some (.invokevirtual 121, 3) := by decide +kernel
theorem pm_a31_9 : pm_as (pm_cd pm_mm31) 9 = some (.return_, 1) := by decide +kernel
theorem pm_a32_0 : pm_as (pm_cd pm_mm32) 0 = some (.aload_n 0, 1) := by decide +kernel
theorem pm_a32_1 : pm_as (pm_cd pm_mm32) 1 = some (.getfield 140, 3) := by decide +kernel
theorem pm_a32_4 : pm_as (pm_cd pm_mm32) 4 = some (.ifCond .lt 28, 3) := by decide +kernel
theorem pm_a32_7 : pm_as (pm_cd pm_mm32) 7 = some (.aload_n 0, 1) := by decide +kernel
theorem pm_a32_8 : pm_as (pm_cd pm_mm32) 8 = some (.getfield 140, 3) := by decide +kernel
theorem pm_a32_11 : pm_as (pm_cd pm_mm32) 11 = some (.aload_n 0, 1) := by decide +kernel
theorem pm_a32_12 : pm_as (pm_cd pm_mm32) 12 = some (.getfield 9, 3) := by decide +kernel
theorem pm_a32_15 : pm_as (pm_cd pm_mm32) 15 = some (.arraylength, 1) := by decide +kernel
theorem pm_a32_16 : pm_as (pm_cd pm_mm32) 16 = some (.if_icmp .ge 16, 3) := by decide +kernel
theorem pm_a32_19 : pm_as (pm_cd pm_mm32) 19 = some (.aload_n 0, 1) := by decide +kernel
theorem pm_a32_20 : pm_as (pm_cd pm_mm32) 20 = some (.getfield 9, 3) := by decide +kernel
theorem pm_a32_23 : pm_as (pm_cd pm_mm32) 23 = some (.aload_n 0, 1) := by decide +kernel
theorem pm_a32_24 : pm_as (pm_cd pm_mm32) 24 = some (.getfield 140, 3) := by decide +kernel
theorem pm_a32_27 : pm_as (pm_cd pm_mm32) 27 = some (.dup2, 1) := by decide +kernel
theorem pm_a32_28 : pm_as (pm_cd pm_mm32) 28 = some (.iaload, 1) := by decide +kernel
theorem pm_a32_29 : pm_as (pm_cd pm_mm32) 29 = some (.iconst 1, 1) := by decide +kernel
theorem pm_a32_30 : pm_as (pm_cd pm_mm32) 30 = some (.isub, 1) := by decide +kernel
theorem pm_a32_31 : pm_as (pm_cd pm_mm32) 31 = some (.iastore, 1) := by decide +kernel
theorem pm_a32_32 : pm_as (pm_cd pm_mm32) 32 = some (.return_, 1) := by decide +kernel
theorem pm_a33_0 : pm_as (pm_cd pm_mm33) 0 = some (.iload_n 1, 1) := by decide +kernel
theorem pm_a33_1 : pm_as (pm_cd pm_mm33) 1 = some (.bipush 40, 2) := by decide +kernel
theorem pm_a33_3 : pm_as (pm_cd pm_mm33) 3 = some (.if_icmp .ne 19, 3) := by decide +kernel
theorem pm_a33_6 : pm_as (pm_cd pm_mm33) 6 = some (.aload_n 0, 1) := by decide +kernel
theorem pm_a33_7 : pm_as (pm_cd pm_mm33) 7 = some (.invokevirtual 124, 3) := by decide +kernel
theorem pm_a33_10 : pm_as (pm_cd pm_mm33) 10 = some (.aload_n 0, 1) := by decide +kernel
theorem pm_a33_11 : pm_as (pm_cd pm_mm33) 11 = some (.iconst (-1), 1) := by decide +kernel
theorem pm_a33_12 : pm_as (pm_cd pm_mm33) 12 = some (.invokevirtual 118, 3) := by decide +kernel
theorem pm_a33_15 : pm_as (pm_cd pm_mm33) 15 = some (.aload_n 0, 1) := by decide +kernel
theorem pm_a33_16 : pm_as (pm_cd pm_mm33) 16 = some (.invokevirtual 44, 3) := by decide +kernel
theorem pm_a33_19 : pm_as (pm_cd pm_mm33) 19 = some (.goto 39, 3) := by decide +kernel
theorem pm_a33_22 : pm_as (pm_cd pm_mm33) 22 = some (.iload_n 1, 1) := by decide +kernel
theorem pm_a33_23 : pm_as (pm_cd pm_mm33) 23 = some (.bipush 92, 2) := by decide +kernel
theorem pm_a33_25 : pm_as (pm_cd pm_mm33) 25 = some (.if_icmp .ne 15, 3) := by decide +kernel
theorem pm_a33_28 : pm_as (pm_cd pm_mm33) 28 = some (.aload_n 0, 1) := by decide +kernel
theorem pm_a33_29 : pm_as (pm_cd pm_mm33) 29 = some (.invokevirtual 124, 3) := by decide +kernel
theorem pm_a33_32 : pm_as (pm_cd pm_mm33) 32 = some (.aload_n 0, 1) := by decide +kernel
theorem pm_a33_33 : pm_as (pm_cd pm_mm33) 33 = some (.iconst 1, 1) := by decide +kernel
theorem pm_a33_34 : pm_as (pm_cd pm_mm33) 34 = some (.putfield 32, 3) := by decide +kernel
theorem pm_a33_37 : pm_as (pm_cd pm_mm33) 37 = some (.goto 21, 3) := by decide +kernel
theorem pm_a33_40 : pm_as (pm_cd pm_mm33) 40 = some (.iload_n 1, 1) := by decide +kernel
theorem pm_a33_41 : pm_as (pm_cd pm_mm33) 41 = some (.bipush 41, 2) := by decide +kernel
theorem pm_a33_43 : pm_as (pm_cd pm_mm33) 43 = some (.if_icmp .ne 10, 3) := by decide +kernel
theorem pm_a33_46 : pm_as (pm_cd pm_mm33) 46 = some (.aload_n 0, 1) := by decide +kernel
theorem pm_a33_47 : pm_as (pm_cd pm_mm33) 47 = some (.invokevirtual 127, 3) := by decide +kernel
theorem pm_a33_50 : pm_as (pm_cd pm_mm33) 50 = some (.goto 8, 3) := by decide +kernel
theorem pm_a33_53 : pm_as (pm_cd pm_mm33) 53 = some (.aload_n 0, 1) := by decide +kernel
theorem pm_a33_54 : pm_as (pm_cd pm_mm33) 54 = some (.iconst 2, 1) := by decide +kernel
theorem pm_a33_55 : pm_as (pm_cd pm_mm33) 55 = some (.invokevirtual 95, 3) := by decide +kernel
theorem pm_a33_58 : pm_as (pm_cd pm_mm33) 58 = some (.return_, 1) := by decide +kernel
theorem pm_a34_0 : pm_as (pm_cd pm_mm34) 0 = some (.aload_n 0, 1) := by decide +kernel
theorem pm_a34_1 : pm_as (pm_cd pm_mm34) 1 = some (.invokevirtual 137, 3) := by decide +kernel
theorem pm_a34_4 : pm_as (pm_cd pm_mm34) 4 = some (.istore_n 1, 1) := by decide +kernel
theorem pm_a34_5 : pm_as (pm_cd pm_mm34) 5 = some (.aload_n 0, 1) := by decide +kernel
theorem pm_a34_6 : pm_as (pm_cd pm_mm34) 6 = some (.invokevirtual 133, 3) := by decide +kernel
theorem pm_a34_9 : pm_as (pm_cd pm_mm34) 9 = some (.ifCond .ne 16, 3) := by decide +kernel
theorem pm_a34_12 : pm_as (pm_cd pm_mm34) 12 = some (.iload_n 1, 1) := by decide +kernel
theorem pm_a34_13 : pm_as (pm_cd pm_mm34) 13 = some (.ifCond .lt 12, 3) := by decide +kernel
theorem pm_a34_16 : pm_as (pm_cd pm_mm34) 16 = some (.iload_n 1, 1) := by decide +kernel
theorem pm_a34_17 : pm_as (pm_cd pm_mm34) 17 = some (.aload_n 0, 1) := by decide +kernel
theorem pm_a34_18 : pm_as (pm_cd pm_mm34) 18 = some (.getfield 18, 3) := by decide +kernel
theorem pm_a34_21 : pm_as (pm_cd pm_mm34) 21 = some (.arraylength, 1) := by decide +kernel
theorem pm_a34_22 : pm_as (pm_cd pm_mm34) 22 = some (.if_icmp .lt 9, 3) := by decide +kernel
theorem pm_a34_25 : pm_as (pm_cd pm_mm34) 25 = some (.aload_n 0, 1) := by decide +kernel
theorem pm_a34_26 : pm_as (pm_cd pm_mm34) 26 = some (.iconst 2, 1) := by decide +kernel
theorem pm_a34_27 : pm_as (pm_cd pm_mm34) 27 = some (.invokevirtual 95, 3) := by decide +kernel
theorem pm_a34_30 : pm_as (pm_cd pm_mm34) 30 = some (.return_, 1) := by decide +kernel
theorem pm_a34_31 : pm_as (pm_cd pm_mm34) 31 = some (.aload_n 0, 1) := by decide +kernel
theorem pm_a34_32 : pm_as (pm_cd pm_mm34) 32 = some (.iload_n 1, 1) := by decide +kernel
theorem pm_a34_33 : pm_as (pm_cd pm_mm34) 33 = some (.putfield 29, 3) := by decide +kernel
theorem pm_a34_36 : pm_as (pm_cd pm_mm34) 36 = some (.aload_n 0, 1) := by decide +kernel
theorem pm_a34_37 : pm_as (pm_cd pm_mm34) 37 = some (.aload_n 0, 1) := by decide +kernel
theorem pm_a34_38 : pm_as (pm_cd pm_mm34) 38 = some (.getfield 18, 3) := by decide +kernel
theorem pm_a34_41 : pm_as (pm_cd pm_mm34) 41 = some (.iload_n 1, 1) := by decide +kernel
theorem pm_a34_42 : pm_as (pm_cd pm_mm34) 42 = some (.iaload, 1) := by decide +kernel
theorem pm_a34_43 : pm_as (pm_cd pm_mm34) 43 = some (.putfield 140, 3) := by decide +kernel
theorem pm_a34_46 : pm_as (pm_cd pm_mm34) 46 = some (.return_, 1) := by decide +kernel
theorem pm_a35_0 : pm_as (pm_cd pm_mm35) 0 = some (.aload_n 0, 1) := by decide +kernel
theorem pm_a35_1 : pm_as (pm_cd pm_mm35) 1 = some (.getfield 29, 3) := by decide +kernel
theorem pm_a35_4 : pm_as (pm_cd pm_mm35) 4 = some (.iconst 1, 1) := by decide +kernel
theorem pm_a35_5 : pm_as (pm_cd pm_mm35) 5 = some (.isub, 1) := by decide +kernel
theorem pm_a35_6 : pm_as (pm_cd pm_mm35) 6 = some (.istore_n 1, 1) := by decide +kernel
theorem pm_a35_7 : pm_as (pm_cd pm_mm35) 7 = some (.iload_n 1, 1) := by decide +kernel
theorem pm_a35_8 : pm_as (pm_cd pm_mm35) 8 = some (.ifCond .lt 30, 3) := by decide +kernel
theorem pm_a35_11 : pm_as (pm_cd pm_mm35) 11 = some (.iload_n 1, 1) := by decide +kernel
theorem pm_a35_12 : pm_as (pm_cd pm_mm35) 12 = some (.aload_n 0, 1) := by decide +kernel
theorem pm_a35_13 : pm_as (pm_cd pm_mm35) 13 = some (.getfield 15, 3) := by decide +kernel
theorem pm_a35_16 : pm_as (pm_cd pm_mm35) 16 = some (.arraylength, 1) := by decide +kernel
theorem pm_a35_17 : pm_as (pm_cd pm_mm35) 17 = some (.if_icmp .ge 15, 3) := by decide +kernel
theorem pm_a35_20 : pm_as (pm_cd pm_mm35) 20 = some (.aload_n 0, 1) := by decide +kernel
theorem pm_a35_21 : pm_as (pm_cd pm_mm35) 21 = some (.getfield 15, 3) := by decide +kernel
theorem pm_a35_24 : pm_as (pm_cd pm_mm35) 24 = some (.iload_n 1, 1) := by decide +kernel
theorem pm_a35_25 : pm_as (pm_cd pm_mm35) 25 = some (.iaload, 1) := by decide +kernel
theorem pm_a35_26 : pm_as (pm_cd pm_mm35) 26 = some (.iconst (-1), 1) := by decide +kernel
theorem pm_a35_27 : pm_as (pm_cd pm_mm35) 27 = some (.if_icmp .ne 5, 3) := by decide +kernel
theorem pm_a35_30 : pm_as (pm_cd pm_mm35) 30 = some (.iload_n 1, 1) := by decide +kernel
theorem pm_a35_31 : pm_as (pm_cd pm_mm35) 31 = some (.ireturn, 1) := by decide +kernel
theorem pm_a35_32 : pm_as (pm_cd pm_mm35) 32 = some (.iinc 1 (-1), 3) := by decide +kernel
theorem pm_a35_35 : pm_as (pm_cd pm_mm35) 35 = some (.goto (-28), 3) := by decide +kernel
theorem pm_a35_38 : pm_as (pm_cd pm_mm35) 38 = some (.bipush (-4), 2) := by decide +kernel
theorem pm_a35_40 : pm_as (pm_cd pm_mm35) 40 = some (.ireturn, 1) := by decide +kernel
theorem pm_a36_0 : pm_as (pm_cd pm_mm36) 0 = some (.aload_n 0, 1) := by decide +kernel
theorem pm_a36_1 : pm_as (pm_cd pm_mm36) 1 = some (.getfield 140, 3) := by decide +kernel
theorem pm_a36_4 : pm_as (pm_cd pm_mm36) 4 = some (.ifCond .lt 27, 3) := by decide +kernel
theorem pm_a36_7 : pm_as (pm_cd pm_mm36) 7 = some (.aload_n 0, 1) := by decide +kernel
theorem pm_a36_8 : pm_as (pm_cd pm_mm36) 8 = some (.getfield 140, 3) := by decide +kernel
theorem pm_a36_11 : pm_as (pm_cd pm_mm36) 11 = some (.aload_n 0, 1) := by decide +kernel
theorem pm_a36_12 : pm_as (pm_cd pm_mm36) 12 = some (.getfield 9, 3) := by decide +kernel
theorem pm_a36_15 : pm_as (pm_cd pm_mm36) 15 = some (.arraylength, 1) := by decide +kernel
theorem pm_a36_16 : pm_as (pm_cd pm_mm36) 16 = some (.if_icmp .ge 15, 3) := by decide +kernel
theorem pm_a36_19 : pm_as (pm_cd pm_mm36) 19 = some (.aload_n 0, 1) := by decide +kernel
theorem pm_a36_20 : pm_as (pm_cd pm_mm36) 20 = some (.getfield 9, 3) := by decide +kernel
theorem pm_a36_23 : pm_as (pm_cd pm_mm36) 23 = some (.aload_n 0, 1) := by decide +kernel
theorem pm_a36_24 : pm_as (pm_cd pm_mm36) 24 = some (.getfield 140, 3) := by decide +kernel
theorem pm_a36_27 : pm_as (pm_cd pm_mm36) 27 = some (.iaload, 1) := by decide +kernel
theorem pm_a36_28 : pm_as (pm_cd pm_mm36) 28 = some (.ifCond .ne 7, 3) := by decide +kernel
theorem pm_a36_31 : pm_as (pm_cd pm_mm36) 31 = some (.iconst 1, 1) := by decide +kernel
theorem pm_a36_32 : pm_as (pm_cd pm_mm36) 32 = some (.goto 4, 3) := by decide +kernel
theorem pm_a36_35 : pm_as (pm_cd pm_mm36) 35 = some (.iconst 0, 1) := by decide +kernel
theorem pm_a36_36 : pm_as (pm_cd pm_mm36) 36 = some (.ireturn, 1) := by decide +kernel
theorem pm_a37_0 : pm_as (pm_cd pm_mm37) 0 = some (.aload_n 0, 1) := by decide +kernel
theorem pm_a37_1 : pm_as (pm_cd pm_mm37) 1 = some (.invokevirtual 133, 3) := by decide +kernel
theorem pm_a37_4 : pm_as (pm_cd pm_mm37) 4 = some (.ifCond .ne 10, 3) := by decide +kernel
theorem pm_a37_7 : pm_as (pm_cd pm_mm37) 7 = some (.aload_n 0, 1) := by decide +kernel
theorem pm_a37_8 : pm_as (pm_cd pm_mm37) 8 = some (.invokevirtual 137, 3) := by decide +kernel
theorem pm_a37_11 : pm_as (pm_cd pm_mm37) 11 = some (.ifCond .lt 8, 3) := by decide +kernel
theorem pm_a37_14 : pm_as (pm_cd pm_mm37) 14 = some (.aload_n 0, 1) := by decide +kernel
theorem pm_a37_15 : pm_as (pm_cd pm_mm37) 15 = some (.iconst 2, 1) := by decide +kernel
theorem pm_a37_16 : pm_as (pm_cd pm_mm37) 16 = some (.invokevirtual 95, 3) := by decide +kernel
theorem pm_a37_19 : pm_as (pm_cd pm_mm37) 19 = some (.return_, 1) := by decide +kernel
theorem pm_a38_0 : pm_as (pm_cd pm_mm38) 0 = some (.iconst 0, 1) := by decide +kernel
theorem pm_a38_1 : pm_as (pm_cd pm_mm38) 1 = some (.istore_n 2, 1) := by decide +kernel
theorem pm_a38_2 : pm_as (pm_cd pm_mm38) 2 = some (.iload_n 2, 1) := by decide +kernel
theorem pm_a38_3 : pm_as (pm_cd pm_mm38) 3 = some (.aload_n 0, 1) := by decide +kernel
theorem pm_a38_4 : pm_as (pm_cd pm_mm38) 4 = some (.getfield 25, 3) := by decide +kernel
theorem pm_a38_7 : pm_as (pm_cd pm_mm38) 7 = some (.if_icmp .ge 35, 3) := by decide +kernel
theorem pm_a38_10 : pm_as (pm_cd pm_mm38) 10 = some (.iload_n 2, 1) := by decide +kernel
theorem pm_a38_11 : pm_as (pm_cd pm_mm38) 11 = some (.aload_n 0, 1) := by decide +kernel
theorem pm_a38_12 : pm_as (pm_cd pm_mm38) 12 = some (.getfield 9, 3) := by decide +kernel
theorem pm_a38_15 : pm_as (pm_cd pm_mm38) 15 = some (.arraylength, 1) := by decide +kernel
theorem pm_a38_16 : pm_as (pm_cd pm_mm38) 16 = some (.if_icmp .ge 26, 3) := by decide +kernel
theorem pm_a38_19 : pm_as (pm_cd pm_mm38) 19 = some (.aload_n 1, 1) := by decide +kernel
theorem pm_a38_20 : pm_as (pm_cd pm_mm38) 20 = some (.getfield 143, 3) := by decide +kernel
theorem pm_a38_23 : pm_as (pm_cd pm_mm38) 23 = some (.ifCond .ne 19, 3) := by decide +kernel
theorem pm_a38_26 : pm_as (pm_cd pm_mm38) 26 = some (.aload_n 0, 1) := by decide +kernel
theorem pm_a38_27 : pm_as (pm_cd pm_mm38) 27 = some (.getfield 9, 3) := by decide +kernel
theorem pm_a38_30 : pm_as (pm_cd pm_mm38) 30 = some (.iload_n 2, 1) := by decide +kernel
theorem pm_a38_31 : pm_as (pm_cd pm_mm38) 31 = some (.iaload, 1) := by decide +kernel
theorem pm_a38_32 : pm_as (pm_cd pm_mm38) 32 = some (.aload_n 1, 1) := by decide +kernel
theorem pm_a38_33 : pm_as (pm_cd pm_mm38) 33 = some (.invokestatic 149, 3) := by decide +kernel
theorem pm_a38_36 : pm_as (pm_cd pm_mm38) 36 = some (.iinc 2 1, 3) := by decide +kernel
theorem pm_a38_39 : pm_as (pm_cd pm_mm38) 39 = some (.goto (-37), 3) := by decide +kernel
theorem pm_a38_42 : pm_as (pm_cd pm_mm38) 42 = some (.aload_n 1, 1) := by decide +kernel
theorem pm_a38_43 : pm_as (pm_cd pm_mm38) 43 = some (.getfield 143, 3) := by decide +kernel
theorem pm_a38_46 : pm_as (pm_cd pm_mm38) 46 = some (.ifCond .eq 8, 3) := by decide +kernel
theorem pm_a38_49 : pm_as (pm_cd pm_mm38) 49 = some (.aload_n 0, 1) := by decide +kernel
theorem pm_a38_50 : pm_as (pm_cd pm_mm38) 50 = some (.iconst 5, 1) := by decide +kernel
theorem pm_a38_51 : pm_as (pm_cd pm_mm38) 51 = some (.putfield 38, 3) := by decide +kernel
theorem pm_a38_54 : pm_as (pm_cd pm_mm38) 54 = some (.return_, 1) := by decide +kernel
theorem pm_a39_0 : pm_as (pm_cd pm_mm39) 0 = some (.iload_n 0, 1) := by decide +kernel
theorem pm_a39_1 : pm_as (pm_cd pm_mm39) 1 = some (.ifCond .ge 25, 3) := by decide +kernel
theorem pm_a39_4 : pm_as (pm_cd pm_mm39) 4 = some (.iload_n 0, 1) := by decide +kernel
theorem pm_a39_5 : pm_as (pm_cd pm_mm39) 5 = some (.ineg, 1) := by decide +kernel
theorem pm_a39_6 : pm_as (pm_cd pm_mm39) 6 = some (.istore_n 2, 1) := by decide +kernel
theorem pm_a39_7 : pm_as (pm_cd pm_mm39) 7 = some (.iload_n 2, 1) := by decide +kernel
theorem pm_a39_8 : pm_as (pm_cd pm_mm39) 8 = some (.iconst 1, 1) := by decide +kernel
theorem pm_a39_9 : pm_as (pm_cd pm_mm39) 9 = some (.if_icmp .le 14, 3) := by decide +kernel
theorem pm_a39_12 : pm_as (pm_cd pm_mm39) 12 = some (.aload_n 1, 1) := by decide +kernel
theorem pm_a39_13 : pm_as (pm_cd pm_mm39) 13 = some (.iconst 0, 1) := by decide +kernel
theorem pm_a39_14 : pm_as (pm_cd pm_mm39) 14 = some (.invokevirtual 153, 3) := by decide +kernel
theorem pm_a39_17 : pm_as (pm_cd pm_mm39) 17 = some (.iinc 2 (-1), 3) := by decide +kernel
theorem pm_a39_20 : pm_as (pm_cd pm_mm39) 20 = some (.goto (-13), 3) := by decide +kernel
theorem pm_a39_23 : pm_as (pm_cd pm_mm39) 23 = some (.goto 27, 3) := by decide +kernel
theorem pm_a39_26 : pm_as (pm_cd pm_mm39) 26 = some (.iload_n 0, 1) := by decide +kernel
theorem pm_a39_27 : pm_as (pm_cd pm_mm39) 27 = some (.sipush 1000, 3) := by decide +kernel
theorem pm_a39_30 : pm_as (pm_cd pm_mm39) 30 = some (.if_icmp .lt 15, 3) := by decide +kernel
theorem pm_a39_33 : pm_as (pm_cd pm_mm39) 33 = some (.iload_n 0, 1) := by decide +kernel
theorem pm_a39_34 : pm_as (pm_cd pm_mm39) 34 = some (.sipush 1000, 3) := by decide +kernel
theorem pm_a39_37 : pm_as (pm_cd pm_mm39) 37 = some (.isub, 1) := by decide +kernel
theorem pm_a39_38 : pm_as (pm_cd pm_mm39) 38 = some (.aload_n 1, 1) := by decide +kernel
theorem pm_a39_39 : pm_as (pm_cd pm_mm39) 39 = some (.invokestatic 156, 3) := by decide +kernel
theorem pm_a39_42 : pm_as (pm_cd pm_mm39) 42 = some (.goto 8, 3) := by decide +kernel
theorem pm_a39_45 : pm_as (pm_cd pm_mm39) 45 = some (.aload_n 1, 1) := by decide +kernel
theorem pm_a39_46 : pm_as (pm_cd pm_mm39) 46 = some (.iload_n 0, 1) := by decide +kernel
theorem pm_a39_47 : pm_as (pm_cd pm_mm39) 47 = some (.invokevirtual 153, 3) := by decide +kernel
theorem pm_a39_50 : pm_as (pm_cd pm_mm39) 50 = some (.return_, 1) := by decide +kernel
theorem pm_a40_0 : pm_as (pm_cd pm_mm40) 0 = some (.aload_n 0, 1) := by decide +kernel
theorem pm_a40_1 : pm_as (pm_cd pm_mm40) 1 = some (.getfield 21, 3) := by decide +kernel
theorem pm_a40_4 : pm_as (pm_cd pm_mm40) 4 = some (.ifCond .lt 38, 3) := by decide +kernel
theorem pm_a40_7 : pm_as (pm_cd pm_mm40) 7 = some (.aload_n 0, 1) := by decide +kernel
theorem pm_a40_8 : pm_as (pm_cd pm_mm40) 8 = some (.getfield 21, 3) := by decide +kernel
theorem pm_a40_11 : pm_as (pm_cd pm_mm40) 11 = some (.aload_n 0, 1) := by decide +kernel
theorem pm_a40_12 : pm_as (pm_cd pm_mm40) 12 = some (.getfield 15, 3) := by decide +kernel
theorem pm_a40_15 : pm_as (pm_cd pm_mm40) 15 = some (.arraylength, 1) := by decide +kernel
theorem pm_a40_16 : pm_as (pm_cd pm_mm40) 16 = some (.if_icmp .ge 26, 3) := by decide +kernel
theorem pm_a40_19 : pm_as (pm_cd pm_mm40) 19 = some (.aload_n 0, 1) := by decide +kernel
theorem pm_a40_20 : pm_as (pm_cd pm_mm40) 20 = some (.getfield 15, 3) := by decide +kernel
theorem pm_a40_23 : pm_as (pm_cd pm_mm40) 23 = some (.aload_n 0, 1) := by decide +kernel
theorem pm_a40_24 : pm_as (pm_cd pm_mm40) 24 = some (.getfield 21, 3) := by decide +kernel
theorem pm_a40_27 : pm_as (pm_cd pm_mm40) 27 = some (.iload_n 1, 1) := by decide +kernel
theorem pm_a40_28 : pm_as (pm_cd pm_mm40) 28 = some (.iastore, 1) := by decide +kernel
theorem pm_a40_29 : pm_as (pm_cd pm_mm40) 29 = some (.aload_n 0, 1) := by decide +kernel
theorem pm_a40_30 : pm_as (pm_cd pm_mm40) 30 = some (.dup, 1) := by decide +kernel
theorem pm_a40_31 : pm_as (pm_cd pm_mm40) 31 = some (.getfield 21, 3) := by decide +kernel
theorem pm_a40_34 : pm_as (pm_cd pm_mm40) 34 = some (.iconst 1, 1) := by decide +kernel
theorem pm_a40_35 : pm_as (pm_cd pm_mm40) 35 = some (.iadd, 1) := by decide +kernel
theorem pm_a40_36 : pm_as (pm_cd pm_mm40) 36 = some (.putfield 21, 3) := by decide +kernel
theorem pm_a40_39 : pm_as (pm_cd pm_mm40) 39 = some (.goto 8, 3) := by decide +kernel
theorem pm_a40_42 : pm_as (pm_cd pm_mm40) 42 = some (.aload_n 0, 1) := by decide +kernel
theorem pm_a40_43 : pm_as (pm_cd pm_mm40) 43 = some (.iconst 1, 1) := by decide +kernel
theorem pm_a40_44 : pm_as (pm_cd pm_mm40) 44 = some (.putfield 25, 3) := by decide +kernel
theorem pm_a40_47 : pm_as (pm_cd pm_mm40) 47 = some (.return_, 1) := by decide +kernel
theorem pm_a41_0 : pm_as (pm_cd pm_mm41) 0 = some (.aload_n 1, 1) := by decide +kernel
theorem pm_a41_1 : pm_as (pm_cd pm_mm41) 1 = some (.iconst 1, 1) := by decide +kernel
theorem pm_a41_2 : pm_as (pm_cd pm_mm41) 2 = some (.invokevirtual 153, 3) := by decide +kernel
theorem pm_a41_5 : pm_as (pm_cd pm_mm41) 5 = some (.aload_n 1, 1) := by decide +kernel
theorem pm_a41_6 : pm_as (pm_cd pm_mm41) 6 = some (.iconst 1, 1) := by decide +kernel
theorem pm_a41_7 : pm_as (pm_cd pm_mm41) 7 = some (.invokevirtual 153, 3) := by decide +kernel
theorem pm_a41_10 : pm_as (pm_cd pm_mm41) 10 = some (.iconst 0, 1) := by decide +kernel
theorem pm_a41_11 : pm_as (pm_cd pm_mm41) 11 = some (.istore_n 2, 1) := by decide +kernel
theorem pm_a41_12 : pm_as (pm_cd pm_mm41) 12 = some (.iload_n 2, 1) := by decide +kernel
theorem pm_a41_13 : pm_as (pm_cd pm_mm41) 13 = some (.iload_n 0, 1) := by decide +kernel
theorem pm_a41_14 : pm_as (pm_cd pm_mm41) 14 = some (.if_icmp .ge 20, 3) := by decide +kernel
theorem pm_a41_17 : pm_as (pm_cd pm_mm41) 17 = some (.aload_n 1, 1) := by decide +kernel
theorem pm_a41_18 : pm_as (pm_cd pm_mm41) 18 = some (.iconst 0, 1) := by decide +kernel
theorem pm_a41_19 : pm_as (pm_cd pm_mm41) 19 = some (.invokevirtual 153, 3) := by decide +kernel
theorem pm_a41_22 : pm_as (pm_cd pm_mm41) 22 = some (.aload_n 1, 1) := by decide +kernel
theorem pm_a41_23 : pm_as (pm_cd pm_mm41) 23 = some (.bipush 11, 2) := by decide +kernel
theorem pm_a41_25 : pm_as (pm_cd pm_mm41) 25 = some (.invokevirtual 153, 3) := by decide +kernel
theorem pm_a41_28 : pm_as (pm_cd pm_mm41) 28 = some (.iinc 2 1, 3) := by decide +kernel
theorem pm_a41_31 : pm_as (pm_cd pm_mm41) 31 = some (.goto (-19), 3) := by decide +kernel
theorem pm_a41_34 : pm_as (pm_cd pm_mm41) 34 = some (.aload_n 1, 1) := by decide +kernel
theorem pm_a41_35 : pm_as (pm_cd pm_mm41) 35 = some (.bipush 10, 2) := by decide +kernel
theorem pm_a41_37 : pm_as (pm_cd pm_mm41) 37 = some (.invokevirtual 153, 3) := by decide +kernel
theorem pm_a41_40 : pm_as (pm_cd pm_mm41) 40 = some (.return_, 1) := by decide +kernel
theorem pm_a42_0 : pm_as (pm_cd pm_mm42) 0 = some (.aload_n 0, 1) := by decide +kernel
theorem pm_a42_1 : pm_as (pm_cd pm_mm42) 1 = some (.dup, 1) := by decide +kernel
theorem pm_a42_2 : pm_as (pm_cd pm_mm42) 2 = some (.getfield 179, 3) := by decide +kernel
theorem pm_a42_5 : pm_as (pm_cd pm_mm42) 5 = some (.iconst 1, 1) := by decide +kernel
theorem pm_a42_6 : pm_as (pm_cd pm_mm42) 6 = some (.iadd, 1) := by decide +kernel
theorem pm_a42_7 : pm_as (pm_cd pm_mm42) 7 = some (.putfield 179, 3) := by decide +kernel
theorem pm_a42_10 : pm_as (pm_cd pm_mm42) 10 = some (.aload_n 0, 1) := by decide +kernel
theorem pm_a42_11 : pm_as (pm_cd pm_mm42) 11 = some (.getfield 179, 3) := by decide +kernel
theorem pm_a42_14 : pm_as (pm_cd pm_mm42) 14 = some (.iconst 1, 1) := by decide +kernel
theorem pm_a42_15 : pm_as (pm_cd pm_mm42) 15 = some (.isub, 1) := by decide +kernel
theorem pm_a42_16 : pm_as (pm_cd pm_mm42) 16 = some (.ireturn, 1) := by decide +kernel
theorem pm_a43_0 : pm_as (pm_cd pm_mm43) 0 = some (.aload_n 0, 1) := by decide +kernel
theorem pm_a43_1 : pm_as (pm_cd pm_mm43) 1 = some (.getfield 76, 3) := by decide +kernel
theorem pm_a43_4 : pm_as (pm_cd pm_mm43) 4 = some (.ireturn, 1) := by decide +kernel
theorem pm_a44_0 : pm_as (pm_cd pm_mm44) 0 = some (.aload_n 0, 1) := by decide +kernel
theorem pm_a44_1 : pm_as (pm_cd pm_mm44) 1 = some (.iload_n 1, 1) := by decide +kernel
theorem pm_a44_2 : pm_as (pm_cd pm_mm44) 2 = some (.invokevirtual 86, 3) := by decide +kernel
theorem pm_a44_5 : pm_as (pm_cd pm_mm44) 5 = some (.astore_n 2, 1) := by decide +kernel
theorem pm_a44_6 : pm_as (pm_cd pm_mm44) 6 = some (.aload_n 2, 1) := by decide +kernel
theorem pm_a44_7 : pm_as (pm_cd pm_mm44) 7 = some (.ifnonnull 7, 3) := by decide +kernel
theorem pm_a44_10 : pm_as (pm_cd pm_mm44) 10 = some (.iconst (-1), 1) := by decide +kernel
theorem pm_a44_11 : pm_as (pm_cd pm_mm44) 11 = some (.goto 7, 3) := by decide +kernel
theorem pm_a44_14 : pm_as (pm_cd pm_mm44) 14 = some (.aload_n 2, 1) := by decide +kernel
theorem pm_a44_15 : pm_as (pm_cd pm_mm44) 15 = some (.getfield 90, 3) := by decide +kernel
theorem pm_a44_18 : pm_as (pm_cd pm_mm44) 18 = some (.ireturn, 1) := by decide +kernel
theorem pm_a45_0 : pm_as (pm_cd pm_mm45) 0 = some (.iload_n 1, 1) := by decide +kernel
theorem pm_a45_1 : pm_as (pm_cd pm_mm45) 1 = some (.ifCond .lt 29, 3) := by decide +kernel
theorem pm_a45_4 : pm_as (pm_cd pm_mm45) 4 = some (.iload_n 1, 1) := by decide +kernel
theorem pm_a45_5 : pm_as (pm_cd pm_mm45) 5 = some (.aload_n 0, 1) := by decide +kernel
theorem pm_a45_6 : pm_as (pm_cd pm_mm45) 6 = some (.getfield 179, 3) := by decide +kernel
theorem pm_a45_9 : pm_as (pm_cd pm_mm45) 9 = some (.if_icmp .ge 21, 3) := by decide +kernel
theorem pm_a45_12 : pm_as (pm_cd pm_mm45) 12 = some (.iload_n 1, 1) := by decide +kernel
theorem pm_a45_13 : pm_as (pm_cd pm_mm45) 13 = some (.aload_n 0, 1) := by decide +kernel
theorem pm_a45_14 : pm_as (pm_cd pm_mm45) 14 = some (.getfield 18, 3) := by decide +kernel
theorem pm_a45_17 : pm_as (pm_cd pm_mm45) 17 = some (.arraylength, 1) := by decide +kernel
theorem pm_a45_18 : pm_as (pm_cd pm_mm45) 18 = some (.if_icmp .ge 12, 3) := by decide +kernel
theorem pm_a45_21 : pm_as (pm_cd pm_mm45) 21 = some (.aload_n 0, 1) := by decide +kernel
theorem pm_a45_22 : pm_as (pm_cd pm_mm45) 22 = some (.getfield 18, 3) := by decide +kernel
theorem pm_a45_25 : pm_as (pm_cd pm_mm45) 25 = some (.iload_n 1, 1) := by decide +kernel
theorem pm_a45_26 : pm_as (pm_cd pm_mm45) 26 = some (.aaload, 1) := by decide +kernel
theorem pm_a45_27 : pm_as (pm_cd pm_mm45) 27 = some (.goto 4, 3) := by decide +kernel
theorem pm_a45_30 : pm_as (pm_cd pm_mm45) 30 = some (.aconst_null, 1) := by decide +kernel
theorem pm_a45_31 : pm_as (pm_cd pm_mm45) 31 = some (.areturn, 1) := by decide +kernel
theorem pm_a46_0 : pm_as (pm_cd pm_mm46) 0 = some (.aload_n 0, 1) := by decide +kernel
theorem pm_a46_1 : pm_as (pm_cd pm_mm46) 1 = some (.iload_n 1, 1) := by decide +kernel
theorem pm_a46_2 : pm_as (pm_cd pm_mm46) 2 = some (.invokevirtual 86, 3) := by decide +kernel
theorem pm_a46_5 : pm_as (pm_cd pm_mm46) 5 = some (.astore_n 3, 1) := by decide +kernel
theorem pm_a46_6 : pm_as (pm_cd pm_mm46) 6 = some (.aload_n 3, 1) := by decide +kernel
theorem pm_a46_7 : pm_as (pm_cd pm_mm46) 7 = some (.ifnonnull 7, 3) := by decide +kernel
theorem pm_a46_10 : pm_as (pm_cd pm_mm46) 10 = some (.iconst (-1), 1) := by decide +kernel
theorem pm_a46_11 : pm_as (pm_cd pm_mm46) 11 = some (.goto 8, 3) := by decide +kernel
theorem pm_a46_14 : pm_as (pm_cd pm_mm46) 14 = some (.aload_n 3, 1) := by decide +kernel
theorem pm_a46_15 : pm_as (pm_cd pm_mm46) 15 = some (.iload_n 2, 1) := by decide +kernel
theorem pm_a46_16 : pm_as (pm_cd pm_mm46) 16 = some (.invokevirtual 91, 3) := by decide +kernel
theorem pm_a46_19 : pm_as (pm_cd pm_mm46) 19 = some (.ireturn, 1) := by decide +kernel
theorem pm_a47_0 : pm_as (pm_cd pm_mm47) 0 = some (.iload_n 1, 1) := by decide +kernel
theorem pm_a47_1 : pm_as (pm_cd pm_mm47) 1 = some (.ifCond .lt 29, 3) := by decide +kernel
theorem pm_a47_4 : pm_as (pm_cd pm_mm47) 4 = some (.iload_n 1, 1) := by decide +kernel
theorem pm_a47_5 : pm_as (pm_cd pm_mm47) 5 = some (.aload_n 0, 1) := by decide +kernel
theorem pm_a47_6 : pm_as (pm_cd pm_mm47) 6 = some (.getfield 21, 3) := by decide +kernel
theorem pm_a47_9 : pm_as (pm_cd pm_mm47) 9 = some (.if_icmp .ge 21, 3) := by decide +kernel
theorem pm_a47_12 : pm_as (pm_cd pm_mm47) 12 = some (.iload_n 1, 1) := by decide +kernel
theorem pm_a47_13 : pm_as (pm_cd pm_mm47) 13 = some (.aload_n 0, 1) := by decide +kernel
theorem pm_a47_14 : pm_as (pm_cd pm_mm47) 14 = some (.getfield 15, 3) := by decide +kernel
theorem pm_a47_17 : pm_as (pm_cd pm_mm47) 17 = some (.arraylength, 1) := by decide +kernel
theorem pm_a47_18 : pm_as (pm_cd pm_mm47) 18 = some (.if_icmp .ge 12, 3) := by decide +kernel
theorem pm_a47_21 : pm_as (pm_cd pm_mm47) 21 = some (.aload_n 0, 1) := by decide +kernel
theorem pm_a47_22 : pm_as (pm_cd pm_mm47) 22 = some (.getfield 15, 3) := by decide +kernel
theorem pm_a47_25 : pm_as (pm_cd pm_mm47) 25 = some (.iload_n 1, 1) := by decide +kernel
theorem pm_a47_26 : pm_as (pm_cd pm_mm47) 26 = some (.iaload, 1) := by decide +kernel
theorem pm_a47_27 : pm_as (pm_cd pm_mm47) 27 = some (.goto 4, 3) := by decide +kernel
theorem pm_a47_30 : pm_as (pm_cd pm_mm47) 30 = some (.iconst (-1), 1) := by decide +kernel
theorem pm_a47_31 : pm_as (pm_cd pm_mm47) 31 = some (.ireturn, 1) := by decide +kernel
theorem pm_a48_0 : pm_as (pm_cd pm_mm48) 0 = some (.aload_n 0, 1) := by decide +kernel
theorem pm_a48_1 : pm_as (pm_cd pm_mm48) 1 = some (.iload_n 1, 1) := by decide +kernel
theorem pm_a48_2 : pm_as (pm_cd pm_mm48) 2 = some (.invokevirtual 86, 3) := by decide +kernel
theorem pm_a48_5 : pm_as (pm_cd pm_mm48) 5 = some (.astore_n 3, 1) := by decide +kernel
theorem pm_a48_6 : pm_as (pm_cd pm_mm48) 6 = some (.aload_n 3, 1) := by decide +kernel
theorem pm_a48_7 : pm_as (pm_cd pm_mm48) 7 = some (.ifnonnull 7, 3) := by decide +kernel
theorem pm_a48_10 : pm_as (pm_cd pm_mm48) 10 = some (.iconst (-1), 1) := by decide +kernel
theorem pm_a48_11 : pm_as (pm_cd pm_mm48) 11 = some (.goto 12, 3) := by decide +kernel
theorem pm_a48_14 : pm_as (pm_cd pm_mm48) 14 = some (.aload_n 0, 1) := by decide +kernel
theorem pm_a48_15 : pm_as (pm_cd pm_mm48) 15 = some (.getfield 48, 3) := by decide +kernel
theorem pm_a48_18 : pm_as (pm_cd pm_mm48) 18 = some (.aload_n 3, 1) := by decide +kernel
theorem pm_a48_19 : pm_as (pm_cd pm_mm48) 19 = some (.iload_n 2, 1) := by decide +kernel
theorem pm_a48_20 : pm_as (pm_cd pm_mm48) 20 = some (.invokevirtual 95, 3) := by decide +kernel
theorem pm_a48_23 : pm_as (pm_cd pm_mm48) 23 = some (.ireturn, 1) := by decide +kernel
theorem pm_a49_0 : pm_as (pm_cd pm_mm49) 0 = some (.aload_n 0, 1) := by decide +kernel
theorem pm_a49_1 : pm_as (pm_cd pm_mm49) 1 = some (.iconst 0, 1) := by decide +kernel
theorem pm_a49_2 : pm_as (pm_cd pm_mm49) 2 = some (.putfield 15, 3) := by decide +kernel
theorem pm_a49_5 : pm_as (pm_cd pm_mm49) 5 = some (.aload_n 0, 1) := by decide +kernel
theorem pm_a49_6 : pm_as (pm_cd pm_mm49) 6 = some (.iconst 0, 1) := by decide +kernel
theorem pm_a49_7 : pm_as (pm_cd pm_mm49) 7 = some (.putfield 19, 3) := by decide +kernel
theorem pm_a49_10 : pm_as (pm_cd pm_mm49) 10 = some (.aload_n 0, 1) := by decide +kernel
theorem pm_a49_11 : pm_as (pm_cd pm_mm49) 11 = some (.iload_n 2, 1) := by decide +kernel
theorem pm_a49_12 : pm_as (pm_cd pm_mm49) 12 = some (.putfield 22, 3) := by decide +kernel
theorem pm_a49_15 : pm_as (pm_cd pm_mm49) 15 = some (.aload_n 0, 1) := by decide +kernel
theorem pm_a49_16 : pm_as (pm_cd pm_mm49) 16 = some (.iconst 0, 1) := by decide +kernel
theorem pm_a49_17 : pm_as (pm_cd pm_mm49) 17 = some (.putfield 25, 3) := by decide +kernel
theorem pm_a49_20 : pm_as (pm_cd pm_mm49) 20 = some (.aload_n 0, 1) := by decide +kernel
theorem pm_a49_21 : pm_as (pm_cd pm_mm49) 21 = some (.iconst (-1), 1) := by decide +kernel
theorem pm_a49_22 : pm_as (pm_cd pm_mm49) 22 = some (.putfield 28, 3) := by decide +kernel
theorem pm_a49_25 : pm_as (pm_cd pm_mm49) 25 = some (.iconst 0, 1) := by decide +kernel
theorem pm_a49_26 : pm_as (pm_cd pm_mm49) 26 = some (.istore_n 3, 1) := by decide +kernel
theorem pm_a49_27 : pm_as (pm_cd pm_mm49) 27 = some (.iload_n 3, 1) := by decide +kernel
theorem pm_a49_28 : pm_as (pm_cd pm_mm49) 28 = some (.aload_n 1, 1) := by decide +kernel
theorem pm_a49_29 : pm_as (pm_cd pm_mm49) 29 = some (.getfield 31, 3) := by decide +kernel
theorem pm_a49_32 : pm_as (pm_cd pm_mm49) 32 = some (.if_icmp .ge 26, 3) := by decide +kernel
theorem pm_a49_35 : pm_as (pm_cd pm_mm49) 35 = some (.aload_n 0, 1) := by decide +kernel
theorem pm_a49_36 : pm_as (pm_cd pm_mm49) 36 = some (.getfield 28, 3) := by decide +kernel
theorem pm_a49_39 : pm_as (pm_cd pm_mm49) 39 = some (.iconst (-1), 1) := by decide +kernel
theorem pm_a49_40 : pm_as (pm_cd pm_mm49) 40 = some (.if_icmp .ne 18, 3) := by decide +kernel
theorem pm_a49_43 : pm_as (pm_cd pm_mm49) 43 = some (.aload_n 0, 1) := by decide +kernel
theorem pm_a49_44 : pm_as (pm_cd pm_mm49) 44 = some (.aload_n 1, 1) := by decide +kernel
theorem pm_a49_45 : pm_as (pm_cd pm_mm49) 45 = some (.iload_n 3, 1) := by decide +kernel
theorem pm_a49_46 : pm_as (pm_cd pm_mm49) 46 = some (.invokevirtual 36, 3) := by decide +kernel
theorem pm_a49_49 : pm_as (pm_cd pm_mm49) 49 = some (.invokevirtual 40, 3) := by decide +kernel
theorem pm_a49_52 : pm_as (pm_cd pm_mm49) 52 = some (.iinc 3 1, 3) := by decide +kernel
theorem pm_a49_55 : pm_as (pm_cd pm_mm49) 55 = some (.goto (-28), 3) := by decide +kernel
theorem pm_a49_58 : pm_as (pm_cd pm_mm49) 58 = some (.aload_n 0, 1) := by decide +kernel
theorem pm_a49_59 : pm_as (pm_cd pm_mm49) 59 = some (.getfield 22, 3) := by decide +kernel
theorem pm_a49_62 : pm_as (pm_cd pm_mm49) 62 = some (.aload_n 0, 1) := by decide +kernel
theorem pm_a49_63 : pm_as (pm_cd pm_mm49) 63 = some (.getfield 25, 3) := by decide +kernel
theorem pm_a49_66 : pm_as (pm_cd pm_mm49) 66 = some (.if_icmp .ne 15, 3) := by decide +kernel
theorem pm_a49_69 : pm_as (pm_cd pm_mm49) 69 = some (.aload_n 0, 1) := by decide +kernel
theorem pm_a49_70 : pm_as (pm_cd pm_mm49) 70 = some (.getfield 28, 3) := by decide +kernel
theorem pm_a49_73 : pm_as (pm_cd pm_mm49) 73 = some (.iconst (-1), 1) := by decide +kernel
theorem pm_a49_74 : pm_as (pm_cd pm_mm49) 74 = some (.if_icmp .ne 7, 3) := by decide +kernel
theorem pm_a49_77 : pm_as (pm_cd pm_mm49) 77 = some (.iconst 0, 1) := by decide +kernel
theorem pm_a49_78 : pm_as (pm_cd pm_mm49) 78 = some (.goto 7, 3) := by decide +kernel
theorem pm_a49_81 : pm_as (pm_cd pm_mm49) 81 = some (.aload_n 0, 1) := by decide +kernel
theorem pm_a49_82 : pm_as (pm_cd pm_mm49) 82 = some (.getfield 28, 3) := by decide +kernel
theorem pm_a49_85 : pm_as (pm_cd pm_mm49) 85 = some (.ireturn, 1) := by decide +kernel
theorem pm_a50_0 : pm_as (pm_cd pm_mm50) 0 = some (.aload_n 0, 1) := by decide +kernel
theorem pm_a50_1 : pm_as (pm_cd pm_mm50) 1 = some (.iload_n 1, 1) := by decide +kernel
theorem pm_a50_2 : pm_as (pm_cd pm_mm50) 2 = some (.invokevirtual 44, 3) := by decide +kernel
theorem pm_a50_5 : pm_as (pm_cd pm_mm50) 5 = some (.ifCond .eq 7, 3) := by decide +kernel
theorem pm_a50_8 : pm_as (pm_cd pm_mm50) 8 = some (.iconst 4, 1) := by decide +kernel
theorem pm_a50_9 : pm_as (pm_cd pm_mm50) 9 = some (.goto 4, 3) := by decide +kernel
theorem pm_a50_12 : pm_as (pm_cd pm_mm50) 12 = some (.iconst 0, 1) := by decide +kernel
theorem pm_a50_13 : pm_as (pm_cd pm_mm50) 13 = some (.istore_n 2, 1) := by decide +kernel
theorem pm_a50_14 : pm_as (pm_cd pm_mm50) 14 = some (.iload_n 2, 1) := by decide +kernel
theorem pm_a50_15 : pm_as (pm_cd pm_mm50) 15 = some (.ifCond .eq 9, 3) := by decide +kernel
theorem pm_a50_18 : pm_as (pm_cd pm_mm50) 18 = some (.aload_n 0, 1) := by decide +kernel
theorem pm_a50_19 : pm_as (pm_cd pm_mm50) 19 = some (.bipush 40, 2) := by decide +kernel
theorem pm_a50_21 : pm_as (pm_cd pm_mm50) 21 = some (.invokevirtual 48, 3) := by decide +kernel
theorem pm_a50_24 : pm_as (pm_cd pm_mm50) 24 = some (.iload_n 1, 1) := by decide +kernel
theorem pm_a50_25 : pm_as (pm_cd pm_mm50) 25 = some (.ifCond .ne 13, 3) := by decide +kernel
theorem pm_a50_28 : pm_as (pm_cd pm_mm50) 28 = some (.aload_n 0, 1) := by decide +kernel
theorem pm_a50_29 : pm_as (pm_cd pm_mm50) 29 = some (.iconst 0, 1) := by decide +kernel
theorem pm_a50_30 : pm_as (pm_cd pm_mm50) 30 = some (.iload_n 2, 1) := by decide +kernel
theorem pm_a50_31 : pm_as (pm_cd pm_mm50) 31 = some (.ior, 1) := by decide +kernel
theorem pm_a50_32 : pm_as (pm_cd pm_mm50) 32 = some (.invokevirtual 51, 3) := by decide +kernel
theorem pm_a50_35 : pm_as (pm_cd pm_mm50) 35 = some (.goto 57, 3) := by decide +kernel
theorem pm_a50_38 : pm_as (pm_cd pm_mm50) 38 = some (.iload_n 1, 1) := by decide +kernel
theorem pm_a50_39 : pm_as (pm_cd pm_mm50) 39 = some (.iconst 1, 1) := by decide +kernel
theorem pm_a50_40 : pm_as (pm_cd pm_mm50) 40 = some (.if_icmp .ne 43, 3) := by decide +kernel
theorem pm_a50_43 : pm_as (pm_cd pm_mm50) 43 = some (.aload_n 0, 1) := by decide +kernel
theorem pm_a50_44 : pm_as (pm_cd pm_mm50) 44 = some (.bipush 92, 2) := by decide +kernel
theorem pm_a50_46 : pm_as (pm_cd pm_mm50) 46 = some (.invokevirtual 48, 3) := by decide +kernel
theorem pm_a50_49 : pm_as (pm_cd pm_mm50) 49 = some (.aload_n 0, 1) := by decide +kernel
theorem pm_a50_50 : pm_as (pm_cd pm_mm50) 50 = some (.aload_n 0, 1) := by decide +kernel
theorem pm_a50_51 : pm_as (pm_cd pm_mm50) 51 = some (.getfield 19, 3) := by decide +kernel
theorem pm_a50_54 : pm_as (pm_cd pm_mm50) 54 = some (.invokevirtual 54, 3) := by decide +kernel
theorem pm_a50_57 : pm_as (pm_cd pm_mm50) 57 = some (.aload_n 0, 1) := by decide +kernel
theorem pm_a50_58 : pm_as (pm_cd pm_mm50) 58 = some (.bipush 46, 2) := by decide +kernel
theorem pm_a50_60 : pm_as (pm_cd pm_mm50) 60 = some (.invokevirtual 48, 3) := by decide +kernel
theorem pm_a50_63 : pm_as (pm_cd pm_mm50) 63 = some (.aload_n 0, 1) := by decide +kernel
theorem pm_a50_64 : pm_as (pm_cd pm_mm50) 64 = some (.dup, 1) := by decide +kernel
theorem pm_a50_65 : pm_as (pm_cd pm_mm50) 65 = some (.getfield 19, 3) := by decide +kernel
theorem pm_a50_68 : pm_as (pm_cd pm_mm50) 68 = some (.iconst 1, 1) := by decide +kernel
theorem pm_a50_69 : pm_as (pm_cd pm_mm50) 69 = some (.iadd, 1) := by decide +kernel
theorem pm_a50_70 : pm_as (pm_cd pm_mm50) 70 = some (.putfield 19, 3) := by decide +kernel
theorem pm_a50_73 : pm_as (pm_cd pm_mm50) 73 = some (.aload_n 0, 1) := by decide +kernel
theorem pm_a50_74 : pm_as (pm_cd pm_mm50) 74 = some (.iconst 2, 1) := by decide +kernel
theorem pm_a50_75 : pm_as (pm_cd pm_mm50) 75 = some (.iload_n 2, 1) := by decide +kernel
theorem pm_a50_76 : pm_as (pm_cd pm_mm50) 76 = some (.ior, 1) := by decide +kernel
theorem pm_a50_77 : pm_as (pm_cd pm_mm50) 77 = some (.invokevirtual 51, 3) := by decide +kernel
theorem pm_a50_80 : pm_as (pm_cd pm_mm50) 80 = some (.goto 12, 3) := by decide +kernel
theorem pm_a50_83 : pm_as (pm_cd pm_mm50) 83 = some (.aload_n 0, 1) := by decide +kernel
theorem pm_a50_84 : pm_as (pm_cd pm_mm50) 84 = some (.iload_n 1, 1) := by decide +kernel
theorem pm_a50_85 : pm_as (pm_cd pm_mm50) 85 = some (.invokevirtual 57, 3) := by decide +kernel
theorem pm_a50_88 : pm_as (pm_cd pm_mm50) 88 = some (.aload_n 0, 1) := by decide +kernel
theorem pm_a50_89 : pm_as (pm_cd pm_mm50) 89 = some (.invokevirtual 60, 3) := by decide +kernel
theorem pm_a50_92 : pm_as (pm_cd pm_mm50) 92 = some (.return_, 1) := by decide +kernel
theorem pm_a51_0 : pm_as (pm_cd pm_mm51) 0 = some (.aload_n 0, 1) := by decide +kernel
theorem pm_a51_1 : pm_as (pm_cd pm_mm51) 1 = some (.getfield 15, 3) := by decide +kernel
theorem pm_a51_4 : pm_as (pm_cd pm_mm51) 4 = some (.ifCond .le 15, 3) := by decide +kernel
theorem pm_a51_7 : pm_as (pm_cd pm_mm51) 7 = some (.aload_n 0, 1) := by decide +kernel
theorem pm_a51_8 : pm_as (pm_cd pm_mm51) 8 = some (.getfield 15, 3) := by decide +kernel
theorem pm_a51_11 : pm_as (pm_cd pm_mm51) 11 = some (.aload_n 0, 1) := by decide +kernel
theorem pm_a51_12 : pm_as (pm_cd pm_mm51) 12 = some (.getfield 9, 3) := by decide +kernel
theorem pm_a51_15 : pm_as (pm_cd pm_mm51) 15 = some (.arraylength, 1) := by decide +kernel
theorem pm_a51_16 : pm_as (pm_cd pm_mm51) 16 = some (.if_icmp .le 5, 3) := by decide +kernel
theorem pm_a51_19 : pm_as (pm_cd pm_mm51) 19 = some (.iconst 0, 1) := by decide +kernel
theorem pm_a51_20 : pm_as (pm_cd pm_mm51) 20 = some (.ireturn, 1) := by decide +kernel
theorem pm_a51_21 : pm_as (pm_cd pm_mm51) 21 = some (.aload_n 0, 1) := by decide +kernel
theorem pm_a51_22 : pm_as (pm_cd pm_mm51) 22 = some (.getfield 9, 3) := by decide +kernel
theorem pm_a51_25 : pm_as (pm_cd pm_mm51) 25 = some (.aload_n 0, 1) := by decide +kernel
theorem pm_a51_26 : pm_as (pm_cd pm_mm51) 26 = some (.getfield 15, 3) := by decide +kernel
theorem pm_a51_29 : pm_as (pm_cd pm_mm51) 29 = some (.iconst 1, 1) := by decide +kernel
theorem pm_a51_30 : pm_as (pm_cd pm_mm51) 30 = some (.isub, 1) := by decide +kernel
theorem pm_a51_31 : pm_as (pm_cd pm_mm51) 31 = some (.iaload, 1) := by decide +kernel
theorem pm_a51_32 : pm_as (pm_cd pm_mm51) 32 = some (.bipush (-5), 2) := by decide +kernel
theorem pm_a51_34 : pm_as (pm_cd pm_mm51) 34 = some (.iand, 1) := by decide +kernel
theorem pm_a51_35 : pm_as (pm_cd pm_mm51) 35 = some (.istore_n 2, 1) := by decide +kernel
theorem pm_a51_36 : pm_as (pm_cd pm_mm51) 36 = some (.iload_n 2, 1) := by decide +kernel
theorem pm_a51_37 : pm_as (pm_cd pm_mm51) 37 = some (.ifCond .ne 8, 3) := by decide +kernel
theorem pm_a51_40 : pm_as (pm_cd pm_mm51) 40 = some (.iload_n 1, 1) := by decide +kernel
theorem pm_a51_41 : pm_as (pm_cd pm_mm51) 41 = some (.iconst 1, 1) := by decide +kernel
theorem pm_a51_42 : pm_as (pm_cd pm_mm51) 42 = some (.if_icmp .eq 17, 3) := by decide +kernel
theorem pm_a51_45 : pm_as (pm_cd pm_mm51) 45 = some (.iload_n 2, 1) := by decide +kernel
theorem pm_a51_46 : pm_as (pm_cd pm_mm51) 46 = some (.iconst 1, 1) := by decide +kernel
theorem pm_a51_47 : pm_as (pm_cd pm_mm51) 47 = some (.if_icmp .ne 16, 3) := by decide +kernel
theorem pm_a51_50 : pm_as (pm_cd pm_mm51) 50 = some (.iload_n 1, 1) := by decide +kernel
theorem pm_a51_51 : pm_as (pm_cd pm_mm51) 51 = some (.iconst 1, 1) := by decide +kernel
theorem pm_a51_52 : pm_as (pm_cd pm_mm51) 52 = some (.if_icmp .eq 7, 3) := by decide +kernel
theorem pm_a51_55 : pm_as (pm_cd pm_mm51) 55 = some (.iload_n 1, 1) := by decide +kernel
theorem pm_a51_56 : pm_as (pm_cd pm_mm51) 56 = some (.ifCond .ne 7, 3) := by decide +kernel
theorem pm_a51_59 : pm_as (pm_cd pm_mm51) 59 = some (.iconst 1, 1) := by decide +kernel
theorem pm_a51_60 : pm_as (pm_cd pm_mm51) 60 = some (.goto 4, 3) := by decide +kernel
theorem pm_a51_63 : pm_as (pm_cd pm_mm51) 63 = some (.iconst 0, 1) := by decide +kernel
theorem pm_a51_64 : pm_as (pm_cd pm_mm51) 64 = some (.ireturn, 1) := by decide +kernel
theorem pm_a52_0 : pm_as (pm_cd pm_mm52) 0 = some (.aload_n 0, 1) := by decide +kernel
theorem pm_a52_1 : pm_as (pm_cd pm_mm52) 1 = some (.getfield 25, 3) := by decide +kernel
theorem pm_a52_4 : pm_as (pm_cd pm_mm52) 4 = some (.aload_n 0, 1) := by decide +kernel
theorem pm_a52_5 : pm_as (pm_cd pm_mm52) 5 = some (.getfield 22, 3) := by decide +kernel
theorem pm_a52_8 : pm_as (pm_cd pm_mm52) 8 = some (.if_icmp .ne 8, 3) := by decide +kernel
theorem pm_a52_11 : pm_as (pm_cd pm_mm52) 11 = some (.aload_n 0, 1) := by decide +kernel
theorem pm_a52_12 : pm_as (pm_cd pm_mm52) 12 = some (.iload_n 1, 1) := by decide +kernel
theorem pm_a52_13 : pm_as (pm_cd pm_mm52) 13 = some (.putfield 28, 3) := by decide +kernel
theorem pm_a52_16 : pm_as (pm_cd pm_mm52) 16 = some (.aload_n 0, 1) := by decide +kernel
theorem pm_a52_17 : pm_as (pm_cd pm_mm52) 17 = some (.dup, 1) := by decide +kernel
theorem pm_a52_18 : pm_as (pm_cd pm_mm52) 18 = some (.getfield 25, 3) := by decide +kernel
theorem pm_a52_21 : pm_as (pm_cd pm_mm52) 21 = some (.iconst 1, 1) := by decide +kernel
theorem pm_a52_22 : pm_as (pm_cd pm_mm52) 22 = some (.iadd, 1) := by decide +kernel
theorem pm_a52_23 : pm_as (pm_cd pm_mm52) 23 = some (.putfield 25, 3) := by decide +kernel
theorem pm_a52_26 : pm_as (pm_cd pm_mm52) 26 = some (.return_, 1) := by decide +kernel
theorem pm_a53_0 : pm_as (pm_cd pm_mm53) 0 = some (.aload_n 0, 1) := by decide +kernel
theorem pm_a53_1 : pm_as (pm_cd pm_mm53) 1 = some (.getfield 15, 3) := by decide +kernel
theorem pm_a53_4 : pm_as (pm_cd pm_mm53) 4 = some (.ifCond .lt 35, 3) := by decide +kernel
theorem pm_a53_7 : pm_as (pm_cd pm_mm53) 7 = some (.aload_n 0, 1) := by decide +kernel
theorem pm_a53_8 : pm_as (pm_cd pm_mm53) 8 = some (.getfield 15, 3) := by decide +kernel
theorem pm_a53_11 : pm_as (pm_cd pm_mm53) 11 = some (.aload_n 0, 1) := by decide +kernel
theorem pm_a53_12 : pm_as (pm_cd pm_mm53) 12 = some (.getfield 9, 3) := by decide +kernel
theorem pm_a53_15 : pm_as (pm_cd pm_mm53) 15 = some (.arraylength, 1) := by decide +kernel
theorem pm_a53_16 : pm_as (pm_cd pm_mm53) 16 = some (.if_icmp .ge 23, 3) := by decide +kernel
theorem pm_a53_19 : pm_as (pm_cd pm_mm53) 19 = some (.aload_n 0, 1) := by decide +kernel
theorem pm_a53_20 : pm_as (pm_cd pm_mm53) 20 = some (.getfield 9, 3) := by decide +kernel
theorem pm_a53_23 : pm_as (pm_cd pm_mm53) 23 = some (.aload_n 0, 1) := by decide +kernel
theorem pm_a53_24 : pm_as (pm_cd pm_mm53) 24 = some (.getfield 15, 3) := by decide +kernel
theorem pm_a53_27 : pm_as (pm_cd pm_mm53) 27 = some (.iload_n 1, 1) := by decide +kernel
theorem pm_a53_28 : pm_as (pm_cd pm_mm53) 28 = some (.iastore, 1) := by decide +kernel
theorem pm_a53_29 : pm_as (pm_cd pm_mm53) 29 = some (.aload_n 0, 1) := by decide +kernel
theorem pm_a53_30 : pm_as (pm_cd pm_mm53) 30 = some (.dup, 1) := by decide +kernel
theorem pm_a53_31 : pm_as (pm_cd pm_mm53) 31 = some (.getfield 15, 3) := by decide +kernel
theorem pm_a53_34 : pm_as (pm_cd pm_mm53) 34 = some (.iconst 1, 1) := by decide +kernel
theorem pm_a53_35 : pm_as (pm_cd pm_mm53) 35 = some (.iadd, 1) := by decide +kernel
theorem pm_a53_36 : pm_as (pm_cd pm_mm53) 36 = some (.putfield 15, 3) := by decide +kernel
theorem pm_a53_39 : pm_as (pm_cd pm_mm53) 39 = some (.return_, 1) := by decide +kernel
theorem pm_a54_0 : pm_as (pm_cd pm_mm54) 0 = some (.iload_n 1, 1) := by decide +kernel
theorem pm_a54_1 : pm_as (pm_cd pm_mm54) 1 = some (.bipush 26, 2) := by decide +kernel
theorem pm_a54_3 : pm_as (pm_cd pm_mm54) 3 = some (.if_icmp .lt 16, 3) := by decide +kernel
theorem pm_a54_6 : pm_as (pm_cd pm_mm54) 6 = some (.aload_n 0, 1) := by decide +kernel
theorem pm_a54_7 : pm_as (pm_cd pm_mm54) 7 = some (.bipush 97, 2) := by decide +kernel
theorem pm_a54_9 : pm_as (pm_cd pm_mm54) 9 = some (.iload_n 1, 1) := by decide +kernel
theorem pm_a54_10 : pm_as (pm_cd pm_mm54) 10 = some (.bipush 26, 2) := by decide +kernel
theorem pm_a54_12 : pm_as (pm_cd pm_mm54) 12 = some (.idiv, 1) := by decide +kernel
theorem pm_a54_13 : pm_as (pm_cd pm_mm54) 13 = some (.iadd, 1) := by decide +kernel
theorem pm_a54_14 : pm_as (pm_cd pm_mm54) 14 = some (.iconst 1, 1) := by decide +kernel
theorem pm_a54_15 : pm_as (pm_cd pm_mm54) 15 = some (.isub, 1) := by decide +kernel
theorem pm_a54_16 : pm_as (pm_cd pm_mm54) 16 = some (.invokevirtual 48, 3) := by decide +kernel
theorem pm_a54_19 : pm_as (pm_cd pm_mm54) 19 = some (.aload_n 0, 1) := by decide +kernel
theorem pm_a54_20 : pm_as (pm_cd pm_mm54) 20 = some (.bipush 97, 2) := by decide +kernel
theorem pm_a54_22 : pm_as (pm_cd pm_mm54) 22 = some (.iload_n 1, 1) := by decide +kernel
theorem pm_a54_23 : pm_as (pm_cd pm_mm54) 23 = some (.bipush 26, 2) := by decide +kernel
theorem pm_a54_25 : pm_as (pm_cd pm_mm54) 25 = some (.irem, 1) := by decide +kernel
theorem pm_a54_26 : pm_as (pm_cd pm_mm54) 26 = some (.iadd, 1) := by decide +kernel
theorem pm_a54_27 : pm_as (pm_cd pm_mm54) 27 = some (.invokevirtual 48, 3) := by decide +kernel
theorem pm_a54_30 : pm_as (pm_cd pm_mm54) 30 = some (.return_, 1) := by decide +kernel
theorem pm_a55_0 : pm_as (pm_cd pm_mm55) 0 = some (.iload_n 1, 1) := by decide +kernel
theorem pm_a55_1 : pm_as (pm_cd pm_mm55) 1 = some (.bipush 10, 2) := by decide +kernel
theorem pm_a55_3 : pm_as (pm_cd pm_mm55) 3 = some (.if_icmp .lt 21, 3) := by decide +kernel
theorem pm_a55_6 : pm_as (pm_cd pm_mm55) 6 = some (.aload_n 0, 1) := by decide +kernel
theorem pm_a55_7 : pm_as (pm_cd pm_mm55) 7 = some (.aload_n 0, 1) := by decide +kernel
theorem pm_a55_8 : pm_as (pm_cd pm_mm55) 8 = some (.getfield 19, 3) := by decide +kernel
theorem pm_a55_11 : pm_as (pm_cd pm_mm55) 11 = some (.iconst 1, 1) := by decide +kernel
theorem pm_a55_12 : pm_as (pm_cd pm_mm55) 12 = some (.isub, 1) := by decide +kernel
theorem pm_a55_13 : pm_as (pm_cd pm_mm55) 13 = some (.iload_n 1, 1) := by decide +kernel
theorem pm_a55_14 : pm_as (pm_cd pm_mm55) 14 = some (.bipush 10, 2) := by decide +kernel
theorem pm_a55_16 : pm_as (pm_cd pm_mm55) 16 = some (.isub, 1) := by decide +kernel
theorem pm_a55_17 : pm_as (pm_cd pm_mm55) 17 = some (.isub, 1) := by decide +kernel
theorem pm_a55_18 : pm_as (pm_cd pm_mm55) 18 = some (.invokevirtual 54, 3) := by decide +kernel
theorem pm_a55_21 : pm_as (pm_cd pm_mm55) 21 = some (.goto 26, 3) := by decide +kernel
theorem pm_a55_24 : pm_as (pm_cd pm_mm55) 24 = some (.iload_n 1, 1) := by decide +kernel
theorem pm_a55_25 : pm_as (pm_cd pm_mm55) 25 = some (.iconst 2, 1) := by decide +kernel
theorem pm_a55_26 : pm_as (pm_cd pm_mm55) 26 = some (.if_icmp .lt 21, 3) := by decide +kernel
theorem pm_a55_29 : pm_as (pm_cd pm_mm55) 29 = some (.iload_n 1, 1) := by decide +kernel
theorem pm_a55_30 : pm_as (pm_cd pm_mm55) 30 = some (.bipush 6, 2) := by decide +kernel
theorem pm_a55_32 : pm_as (pm_cd pm_mm55) 32 = some (.if_icmp .gt 15, 3) := by decide +kernel
theorem pm_a55_35 : pm_as (pm_cd pm_mm55) 35 = some (.aload_n 0, 1) := by decide +kernel
theorem pm_a55_36 : pm_as (pm_cd pm_mm55) 36 = some (.ldc 69, 2) := by decide +kernel
theorem pm_a55_38 : pm_as (pm_cd pm_mm55) 38 = some (.iload_n 1, 1) := by decide +kernel
theorem pm_a55_39 : pm_as (pm_cd pm_mm55) 39 = some (.iconst 2, 1) := by decide +kernel
theorem pm_a55_40 : pm_as (pm_cd pm_mm55) 40 = some (.isub, 1) := by decide +kernel
theorem pm_a55_41 : pm_as (pm_cd pm_mm55) 41 = some (.invokevirtual 71, 3) := by decide +kernel
theorem pm_a55_44 : pm_as (pm_cd pm_mm55) 44 = some (.invokevirtual 48, 3) := by decide +kernel
theorem pm_a55_47 : pm_as (pm_cd pm_mm55) 47 = some (.return_, 1) := by decide +kernel
theorem pm_a56_0 : pm_as (pm_cd pm_mm56) 0 = some (.aload_n 0, 1) := by decide +kernel
theorem pm_a56_1 : pm_as (pm_cd pm_mm56) 1 = some (.getfield 15, 3) := by decide +kernel
theorem pm_a56_4 : pm_as (pm_cd pm_mm56) 4 = some (.aload_n 0, 1) := by decide +kernel
theorem pm_a56_5 : pm_as (pm_cd pm_mm56) 5 = some (.getfield 9, 3) := by decide +kernel
theorem pm_a56_8 : pm_as (pm_cd pm_mm56) 8 = some (.arraylength, 1) := by decide +kernel
theorem pm_a56_9 : pm_as (pm_cd pm_mm56) 9 = some (.invokestatic 63, 3) := by decide +kernel
theorem pm_a56_12 : pm_as (pm_cd pm_mm56) 12 = some (.iconst 1, 1) := by decide +kernel
theorem pm_a56_13 : pm_as (pm_cd pm_mm56) 13 = some (.isub, 1) := by decide +kernel
theorem pm_a56_14 : pm_as (pm_cd pm_mm56) 14 = some (.istore_n 1, 1) := by decide +kernel
theorem pm_a56_15 : pm_as (pm_cd pm_mm56) 15 = some (.iload_n 1, 1) := by decide +kernel
theorem pm_a56_16 : pm_as (pm_cd pm_mm56) 16 = some (.ifCond .lt 77, 3) := by decide +kernel
theorem pm_a56_19 : pm_as (pm_cd pm_mm56) 19 = some (.aload_n 0, 1) := by decide +kernel
theorem pm_a56_20 : pm_as (pm_cd pm_mm56) 20 = some (.getfield 9, 3) := by decide +kernel
theorem pm_a56_23 : pm_as (pm_cd pm_mm56) 23 = some (.iload_n 1, 1) := by decide +kernel
theorem pm_a56_24 : pm_as (pm_cd pm_mm56) 24 = some (.iaload, 1) := by decide +kernel
theorem pm_a56_25 : pm_as (pm_cd pm_mm56) 25 = some (.bipush (-5), 2) := by decide +kernel
theorem pm_a56_27 : pm_as (pm_cd pm_mm56) 27 = some (.iand, 1) := by decide +kernel
theorem pm_a56_28 : pm_as (pm_cd pm_mm56) 28 = some (.istore_n 2, 1) := by decide +kernel
theorem pm_a56_29 : pm_as (pm_cd pm_mm56) 29 = some (.iload_n 2, 1) := by decide +kernel
theorem pm_a56_30 : pm_as (pm_cd pm_mm56) 30 = some (.ifCond .ne 20, 3) := by decide +kernel
theorem pm_a56_33 : pm_as (pm_cd pm_mm56) 33 = some (.aload_n 0, 1) := by decide +kernel
theorem pm_a56_34 : pm_as (pm_cd pm_mm56) 34 = some (.bipush 32, 2) := by decide +kernel
theorem pm_a56_36 : pm_as (pm_cd pm_mm56) 36 = some (.invokevirtual 48, 3) := by decide +kernel
theorem pm_a56_39 : pm_as (pm_cd pm_mm56) 39 = some (.aload_n 0, 1) := by decide +kernel
theorem pm_a56_40 : pm_as (pm_cd pm_mm56) 40 = some (.getfield 9, 3) := by decide +kernel
theorem pm_a56_43 : pm_as (pm_cd pm_mm56) 43 = some (.iload_n 1, 1) := by decide +kernel
theorem pm_a56_44 : pm_as (pm_cd pm_mm56) 44 = some (.dup2, 1) := by decide +kernel
theorem pm_a56_45 : pm_as (pm_cd pm_mm56) 45 = some (.iaload, 1) := by decide +kernel
theorem pm_a56_46 : pm_as (pm_cd pm_mm56) 46 = some (.iconst 1, 1) := by decide +kernel
theorem pm_a56_47 : pm_as (pm_cd pm_mm56) 47 = some (.ior, 1) := by decide +kernel
theorem pm_a56_48 : pm_as (pm_cd pm_mm56) 48 = some (.iastore, 1) := by decide +kernel
theorem pm_a56_49 : pm_as (pm_cd pm_mm56) 49 = some (.return_, 1) := by decide +kernel
theorem pm_a56_50 : pm_as (pm_cd pm_mm56) 50 = some (.iload_n 2, 1) := by decide +kernel
theorem pm_a56_51 : pm_as (pm_cd pm_mm56) 51 = some (.iconst 2, 1) := by decide +kernel
theorem pm_a56_52 : pm_as (pm_cd pm_mm56) 52 = some (.if_icmp .ne 13, 3) := by decide +kernel
theorem pm_a56_55 : pm_as (pm_cd pm_mm56) 55 = some (.aload_n 0, 1) := by decide +kernel
theorem pm_a56_56 : pm_as (pm_cd pm_mm56) 56 = some (.dup, 1) := by decide +kernel
theorem pm_a56_57 : pm_as (pm_cd pm_mm56) 57 = some (.getfield 19, 3) := by decide +kernel
theorem pm_a56_60 : pm_as (pm_cd pm_mm56) 60 = some (.iconst 1, 1) := by decide +kernel
theorem pm_a56_61 : pm_as (pm_cd pm_mm56) 61 = some (.isub, 1) := by decide +kernel
theorem pm_a56_62 : pm_as (pm_cd pm_mm56) 62 = some (.putfield 19, 3) := by decide +kernel
theorem pm_a56_65 : pm_as (pm_cd pm_mm56) 65 = some (.aload_n 0, 1) := by decide +kernel
theorem pm_a56_66 : pm_as (pm_cd pm_mm56) 66 = some (.getfield 9, 3) := by decide +kernel
theorem pm_a56_69 : pm_as (pm_cd pm_mm56) 69 = some (.iload_n 1, 1) := by decide +kernel
theorem pm_a56_70 : pm_as (pm_cd pm_mm56) 70 = some (.iaload, 1) := by decide +kernel
theorem pm_a56_71 : pm_as (pm_cd pm_mm56) 71 = some (.iconst 4, 1) := by decide +kernel
theorem pm_a56_72 : pm_as (pm_cd pm_mm56) 72 = some (.iand, 1) := by decide +kernel
theorem pm_a56_73 : pm_as (pm_cd pm_mm56) 73 = some (.ifCond .eq 9, 3) := by decide +kernel
theorem pm_a56_76 : pm_as (pm_cd pm_mm56) 76 = some (.aload_n 0, 1) := by decide +kernel
theorem pm_a56_77 : pm_as (pm_cd pm_mm56) 77 = some (.bipush 41, 2) := by decide +kernel
theorem pm_a56_79 : pm_as (pm_cd pm_mm56) 79 = some (.invokevirtual 48, 3) := by decide +kernel
theorem pm_a56_82 : pm_as (pm_cd pm_mm56) 82 = some (.aload_n 0, 1) := by decide +kernel
theorem pm_a56_83 : pm_as (pm_cd pm_mm56) 83 = some (.iload_n 1, 1) := by decide +kernel
theorem pm_a56_84 : pm_as (pm_cd pm_mm56) 84 = some (.putfield 15, 3) := by decide +kernel
theorem pm_a56_87 : pm_as (pm_cd pm_mm56) 87 = some (.iinc 1 (-1), 3) := by decide +kernel
theorem pm_a56_90 : pm_as (pm_cd pm_mm56) 90 = some (.goto (-75), 3) := by decide +kernel
theorem pm_a56_93 : pm_as (pm_cd pm_mm56) 93 = some (.return_, 1) := by decide +kernel
theorem pm_a57_0 : pm_as (pm_cd pm_mm57) 0 = some (.aload_n 0, 1) := by decide +kernel
theorem pm_a57_1 : pm_as (pm_cd pm_mm57) 1 = some (.iload_n 1, 1) := by decide +kernel
theorem pm_a57_2 : pm_as (pm_cd pm_mm57) 2 = some (.invokevirtual 86, 3) := by decide +kernel
theorem pm_a57_5 : pm_as (pm_cd pm_mm57) 5 = some (.astore_n 3, 1) := by decide +kernel
theorem pm_a57_6 : pm_as (pm_cd pm_mm57) 6 = some (.aload_n 0, 1) := by decide +kernel
theorem pm_a57_7 : pm_as (pm_cd pm_mm57) 7 = some (.iload_n 2, 1) := by decide +kernel
theorem pm_a57_8 : pm_as (pm_cd pm_mm57) 8 = some (.invokevirtual 86, 3) := by decide +kernel
theorem pm_a57_11 : pm_as (pm_cd pm_mm57) 11 = some (.astore 4, 2) := by decide +kernel
theorem pm_a57_13 : pm_as (pm_cd pm_mm57) 13 = some (.aload_n 3, 1) := by decide +kernel
theorem pm_a57_14 : pm_as (pm_cd pm_mm57) 14 = some (.ifnull 8, 3) := by decide +kernel
theorem pm_a57_17 : pm_as (pm_cd pm_mm57) 17 = some (.aload 4, 2) := by decide +kernel
theorem pm_a57_19 : pm_as (pm_cd pm_mm57) 19 = some (.ifnonnull 5, 3) := by decide +kernel
theorem pm_a57_22 : pm_as (pm_cd pm_mm57) 22 = some (.iconst (-1), 1) := by decide +kernel
theorem pm_a57_23 : pm_as (pm_cd pm_mm57) 23 = some (.ireturn, 1) := by decide +kernel
theorem pm_a57_24 : pm_as (pm_cd pm_mm57) 24 = some (.aload_n 0, 1) := by decide +kernel
theorem pm_a57_25 : pm_as (pm_cd pm_mm57) 25 = some (.invokevirtual 68, 3) := by decide +kernel
theorem pm_a57_28 : pm_as (pm_cd pm_mm57) 28 = some (.astore 5, 2) := by decide +kernel
theorem pm_a57_30 : pm_as (pm_cd pm_mm57) 30 = some (.aload 5, 2) := by decide +kernel
theorem pm_a57_32 : pm_as (pm_cd pm_mm57) 32 = some (.ifnonnull 6, 3) := by decide +kernel
theorem pm_a57_35 : pm_as (pm_cd pm_mm57) 35 = some (.bipush (-3), 2) := by decide +kernel
theorem pm_a57_37 : pm_as (pm_cd pm_mm57) 37 = some (.ireturn, 1) := by decide +kernel
theorem pm_a57_38 : pm_as (pm_cd pm_mm57) 38 = some (.aload 5, 2) := by decide +kernel
theorem pm_a57_40 : pm_as (pm_cd pm_mm57) 40 = some (.iconst 0, 1) := by decide +kernel
theorem pm_a57_41 : pm_as (pm_cd pm_mm57) 41 = some (.invokevirtual 99, 3) := by decide +kernel
theorem pm_a57_44 : pm_as (pm_cd pm_mm57) 44 = some (.aload 5, 2) := by decide +kernel
theorem pm_a57_46 : pm_as (pm_cd pm_mm57) 46 = some (.aload_n 3, 1) := by decide +kernel
theorem pm_a57_47 : pm_as (pm_cd pm_mm57) 47 = some (.invokevirtual 102, 3) := by decide +kernel
theorem pm_a57_50 : pm_as (pm_cd pm_mm57) 50 = some (.aload 5, 2) := by decide +kernel
theorem pm_a57_52 : pm_as (pm_cd pm_mm57) 52 = some (.aload 4, 2) := by decide +kernel
theorem pm_a57_54 : pm_as (pm_cd pm_mm57) 54 = some (.invokevirtual 102, 3) := by decide +kernel
theorem pm_a57_57 : pm_as (pm_cd pm_mm57) 57 = some (.aload 5, 2) := by decide +kernel
theorem pm_a57_59 : pm_as (pm_cd pm_mm57) 59 = some (.getfield 106, 3) := by decide +kernel
theorem pm_a57_62 : pm_as (pm_cd pm_mm57) 62 = some (.ifCond .eq 8, 3) := by decide +kernel
theorem pm_a57_65 : pm_as (pm_cd pm_mm57) 65 = some (.bipush (-3), 2) := by decide +kernel
theorem pm_a57_67 : pm_as (pm_cd pm_mm57) 67 = some (.goto 7, 3) := by decide +kernel
theorem pm_a57_70 : pm_as (pm_cd pm_mm57) 70 = some (.aload_n 0, 1) := by decide +kernel
theorem pm_a57_71 : pm_as (pm_cd pm_mm57) 71 = some (.invokevirtual 79, 3) := by decide +kernel
theorem pm_a57_74 : pm_as (pm_cd pm_mm57) 74 = some (.ireturn, 1) := by decide +kernel
theorem pm_a58_0 : pm_as (pm_cd pm_mm58) 0 = some (.aload_n 0, 1) := by decide +kernel
theorem pm_a58_1 : pm_as (pm_cd pm_mm58) 1 = some (.aload_n 1, 1) := by decide +kernel
theorem pm_a58_2 : pm_as (pm_cd pm_mm58) 2 = some (.iconst 0, 1) := by decide +kernel
theorem pm_a58_3 : pm_as (pm_cd pm_mm58) 3 = some (.aload_n 1, 1) := by decide +kernel
theorem pm_a58_4 : pm_as (pm_cd pm_mm58) 4 = some (.getfield 21, 3) := by decide +kernel
theorem pm_a58_7 : pm_as (pm_cd pm_mm58) 7 = some (.invokevirtual 35, 3) := by decide +kernel
theorem pm_a58_10 : pm_as (pm_cd pm_mm58) 10 = some (.return_, 1) := by decide +kernel
theorem pm_a59_0 : pm_as (pm_cd pm_mm59) 0 = some (.iload_n 2, 1) := by decide +kernel
theorem pm_a59_1 : pm_as (pm_cd pm_mm59) 1 = some (.ifCond .lt 20, 3) := by decide +kernel
theorem pm_a59_4 : pm_as (pm_cd pm_mm59) 4 = some (.iload_n 2, 1) := by decide +kernel
theorem pm_a59_5 : pm_as (pm_cd pm_mm59) 5 = some (.iload_n 3, 1) := by decide +kernel
theorem pm_a59_6 : pm_as (pm_cd pm_mm59) 6 = some (.if_icmp .gt 15, 3) := by decide +kernel
theorem pm_a59_9 : pm_as (pm_cd pm_mm59) 9 = some (.iload_n 3, 1) := by decide +kernel
theorem pm_a59_10 : pm_as (pm_cd pm_mm59) 10 = some (.aload_n 1, 1) := by decide +kernel
theorem pm_a59_11 : pm_as (pm_cd pm_mm59) 11 = some (.getfield 21, 3) := by decide +kernel
theorem pm_a59_14 : pm_as (pm_cd pm_mm59) 14 = some (.if_icmp .gt 7, 3) := by decide +kernel
theorem pm_a59_17 : pm_as (pm_cd pm_mm59) 17 = some (.iconst 1, 1) := by decide +kernel
theorem pm_a59_18 : pm_as (pm_cd pm_mm59) 18 = some (.goto 4, 3) := by decide +kernel
theorem pm_a59_21 : pm_as (pm_cd pm_mm59) 21 = some (.iconst 0, 1) := by decide +kernel
theorem pm_a59_22 : pm_as (pm_cd pm_mm59) 22 = some (.istore 4, 2) := by decide +kernel
theorem pm_a59_24 : pm_as (pm_cd pm_mm59) 24 = some (.iload 4, 2) := by decide +kernel
theorem pm_a59_26 : pm_as (pm_cd pm_mm59) 26 = some (.ifCond .eq 19, 3) := by decide +kernel
theorem pm_a59_29 : pm_as (pm_cd pm_mm59) 29 = some (.iload_n 3, 1) := by decide +kernel
theorem pm_a59_30 : pm_as (pm_cd pm_mm59) 30 = some (.iload_n 2, 1) := by decide +kernel
theorem pm_a59_31 : pm_as (pm_cd pm_mm59) 31 = some (.isub, 1) := by decide +kernel
theorem pm_a59_32 : pm_as (pm_cd pm_mm59) 32 = some (.aload_n 0, 1) := by decide +kernel
theorem pm_a59_33 : pm_as (pm_cd pm_mm59) 33 = some (.getfield 15, 3) := by decide +kernel
theorem pm_a59_36 : pm_as (pm_cd pm_mm59) 36 = some (.arraylength, 1) := by decide +kernel
theorem pm_a59_37 : pm_as (pm_cd pm_mm59) 37 = some (.aload_n 0, 1) := by decide +kernel
theorem pm_a59_38 : pm_as (pm_cd pm_mm59) 38 = some (.getfield 21, 3) := by decide +kernel
theorem pm_a59_41 : pm_as (pm_cd pm_mm59) 41 = some (.isub, 1) := by decide +kernel
theorem pm_a59_42 : pm_as (pm_cd pm_mm59) 42 = some (.if_icmp .le 9, 3) := by decide +kernel
theorem pm_a59_45 : pm_as (pm_cd pm_mm59) 45 = some (.aload_n 0, 1) := by decide +kernel
theorem pm_a59_46 : pm_as (pm_cd pm_mm59) 46 = some (.iconst 1, 1) := by decide +kernel
theorem pm_a59_47 : pm_as (pm_cd pm_mm59) 47 = some (.putfield 25, 3) := by decide +kernel
theorem pm_a59_50 : pm_as (pm_cd pm_mm59) 50 = some (.return_, 1) := by decide +kernel
theorem pm_a59_51 : pm_as (pm_cd pm_mm59) 51 = some (.aload_n 1, 1) := by decide +kernel
theorem pm_a59_52 : pm_as (pm_cd pm_mm59) 52 = some (.getfield 15, 3) := by decide +kernel
theorem pm_a59_55 : pm_as (pm_cd pm_mm59) 55 = some (.iload_n 2, 1) := by decide +kernel
theorem pm_a59_56 : pm_as (pm_cd pm_mm59) 56 = some (.aload_n 0, 1) := by decide +kernel
theorem pm_a59_57 : pm_as (pm_cd pm_mm59) 57 = some (.getfield 15, 3) := by decide +kernel
theorem pm_a59_60 : pm_as (pm_cd pm_mm59) 60 = some (.aload_n 0, 1) := by decide +kernel
theorem pm_a59_61 : pm_as (pm_cd pm_mm59) 61 = some (.getfield 21, 3) := by decide +kernel
theorem pm_a59_64 : pm_as (pm_cd pm_mm59) 64 = some (.iload_n 3, 1) := by decide +kernel
theorem pm_a59_65 : pm_as (pm_cd pm_mm59) 65 = some (.iload_n 2, 1) := by decide +kernel
theorem pm_a59_66 : pm_as (pm_cd pm_mm59) 66 = some (.isub, 1) := by decide +kernel
theorem pm_a59_67 : pm_as (pm_cd pm_mm59) 67 = some (.invokestatic 29, 3) := by decide +kernel
theorem pm_a59_70 : pm_as (pm_cd pm_mm59) 70 = some (.aload_n 0, 1) := by decide +kernel
theorem pm_a59_71 : pm_as (pm_cd pm_mm59) 71 = some (.dup, 1) := by decide +kernel
theorem pm_a59_72 : pm_as (pm_cd pm_mm59) 72 = some (.getfield 21, 3) := by decide +kernel
theorem pm_a59_75 : pm_as (pm_cd pm_mm59) 75 = some (.iload_n 3, 1) := by decide +kernel
theorem pm_a59_76 : pm_as (pm_cd pm_mm59) 76 = some (.iload_n 2, 1) := by decide +kernel
theorem pm_a59_77 : pm_as (pm_cd pm_mm59) 77 = some (.isub, 1) := by decide +kernel
theorem pm_a59_78 : pm_as (pm_cd pm_mm59) 78 = some (.iadd, 1) := by decide +kernel
theorem pm_a59_79 : pm_as (pm_cd pm_mm59) 79 = some (.putfield 21, 3) := by decide +kernel
theorem pm_a59_82 : pm_as (pm_cd pm_mm59) 82 = some (.return_, 1) := by decide +kernel
theorem pm_a60_0 : pm_as (pm_cd pm_mm60) 0 = some (.aload_n 0, 1) := by decide +kernel
theorem pm_a60_1 : pm_as (pm_cd pm_mm60) 1 = some (.iload_n 1, 1) := by decide +kernel
theorem pm_a60_2 : pm_as (pm_cd pm_mm60) 2 = some (.invokevirtual 86, 3) := by decide +kernel
theorem pm_a60_5 : pm_as (pm_cd pm_mm60) 5 = some (.astore_n 2, 1) := by decide +kernel
theorem pm_a60_6 : pm_as (pm_cd pm_mm60) 6 = some (.aload_n 2, 1) := by decide +kernel
theorem pm_a60_7 : pm_as (pm_cd pm_mm60) 7 = some (.ifnonnull 5, 3) := by decide +kernel
theorem pm_a60_10 : pm_as (pm_cd pm_mm60) 10 = some (.iconst (-1), 1) := by decide +kernel
theorem pm_a60_11 : pm_as (pm_cd pm_mm60) 11 = some (.ireturn, 1) := by decide +kernel
theorem pm_a60_12 : pm_as (pm_cd pm_mm60) 12 = some (.aload_n 0, 1) := by decide +kernel
theorem pm_a60_13 : pm_as (pm_cd pm_mm60) 13 = some (.invokevirtual 68, 3) := by decide +kernel
theorem pm_a60_16 : pm_as (pm_cd pm_mm60) 16 = some (.astore_n 3, 1) := by decide +kernel
theorem pm_a60_17 : pm_as (pm_cd pm_mm60) 17 = some (.aload_n 3, 1) := by decide +kernel
theorem pm_a60_18 : pm_as (pm_cd pm_mm60) 18 = some (.ifnonnull 6, 3) := by decide +kernel
theorem pm_a60_21 : pm_as (pm_cd pm_mm60) 21 = some (.bipush (-3), 2) := by decide +kernel
theorem pm_a60_23 : pm_as (pm_cd pm_mm60) 23 = some (.ireturn, 1) := by decide +kernel
theorem pm_a60_24 : pm_as (pm_cd pm_mm60) 24 = some (.aload_n 3, 1) := by decide +kernel
theorem pm_a60_25 : pm_as (pm_cd pm_mm60) 25 = some (.aload_n 2, 1) := by decide +kernel
theorem pm_a60_26 : pm_as (pm_cd pm_mm60) 26 = some (.invokevirtual 102, 3) := by decide +kernel
theorem pm_a60_29 : pm_as (pm_cd pm_mm60) 29 = some (.aload_n 0, 1) := by decide +kernel
theorem pm_a60_30 : pm_as (pm_cd pm_mm60) 30 = some (.invokevirtual 79, 3) := by decide +kernel
theorem pm_a60_33 : pm_as (pm_cd pm_mm60) 33 = some (.ireturn, 1) := by decide +kernel
theorem pm_a61_0 : pm_as (pm_cd pm_mm61) 0 = some (.aload_n 0, 1) := by decide +kernel
theorem pm_a61_1 : pm_as (pm_cd pm_mm61) 1 = some (.iload_n 1, 1) := by decide +kernel
theorem pm_a61_2 : pm_as (pm_cd pm_mm61) 2 = some (.invokevirtual 86, 3) := by decide +kernel
theorem pm_a61_5 : pm_as (pm_cd pm_mm61) 5 = some (.astore_n 3, 1) := by decide +kernel
theorem pm_a61_6 : pm_as (pm_cd pm_mm61) 6 = some (.aload_n 0, 1) := by decide +kernel
theorem pm_a61_7 : pm_as (pm_cd pm_mm61) 7 = some (.iload_n 2, 1) := by decide +kernel
theorem pm_a61_8 : pm_as (pm_cd pm_mm61) 8 = some (.invokevirtual 86, 3) := by decide +kernel
theorem pm_a61_11 : pm_as (pm_cd pm_mm61) 11 = some (.astore 4, 2) := by decide +kernel
theorem pm_a61_13 : pm_as (pm_cd pm_mm61) 13 = some (.aload_n 3, 1) := by decide +kernel
theorem pm_a61_14 : pm_as (pm_cd pm_mm61) 14 = some (.ifnull 8, 3) := by decide +kernel
theorem pm_a61_17 : pm_as (pm_cd pm_mm61) 17 = some (.aload 4, 2) := by decide +kernel
theorem pm_a61_19 : pm_as (pm_cd pm_mm61) 19 = some (.ifnonnull 5, 3) := by decide +kernel
theorem pm_a61_22 : pm_as (pm_cd pm_mm61) 22 = some (.iconst (-1), 1) := by decide +kernel
theorem pm_a61_23 : pm_as (pm_cd pm_mm61) 23 = some (.ireturn, 1) := by decide +kernel
theorem pm_a61_24 : pm_as (pm_cd pm_mm61) 24 = some (.aload_n 3, 1) := by decide +kernel
theorem pm_a61_25 : pm_as (pm_cd pm_mm61) 25 = some (.aload 4, 2) := by decide +kernel
theorem pm_a61_27 : pm_as (pm_cd pm_mm61) 27 = some (.invokevirtual 110, 3) := by decide +kernel
theorem pm_a61_30 : pm_as (pm_cd pm_mm61) 30 = some (.ifCond .eq 7, 3) := by decide +kernel
theorem pm_a61_33 : pm_as (pm_cd pm_mm61) 33 = some (.iconst 1, 1) := by decide +kernel
theorem pm_a61_34 : pm_as (pm_cd pm_mm61) 34 = some (.goto 4, 3) := by decide +kernel
theorem pm_a61_37 : pm_as (pm_cd pm_mm61) 37 = some (.iconst 0, 1) := by decide +kernel
theorem pm_a61_38 : pm_as (pm_cd pm_mm61) 38 = some (.ireturn, 1) := by decide +kernel
theorem pm_a62_0 : pm_as (pm_cd pm_mm62) 0 = some (.aload_n 0, 1) := by decide +kernel
theorem pm_a62_1 : pm_as (pm_cd pm_mm62) 1 = some (.getfield 21, 3) := by decide +kernel
theorem pm_a62_4 : pm_as (pm_cd pm_mm62) 4 = some (.aload_n 1, 1) := by decide +kernel
theorem pm_a62_5 : pm_as (pm_cd pm_mm62) 5 = some (.getfield 21, 3) := by decide +kernel
theorem pm_a62_8 : pm_as (pm_cd pm_mm62) 8 = some (.if_icmp .eq 5, 3) := by decide +kernel
theorem pm_a62_11 : pm_as (pm_cd pm_mm62) 11 = some (.iconst 0, 1) := by decide +kernel
theorem pm_a62_12 : pm_as (pm_cd pm_mm62) 12 = some (.ireturn, 1) := by decide +kernel
theorem pm_a62_13 : pm_as (pm_cd pm_mm62) 13 = some (.iconst 0, 1) := by decide +kernel
theorem pm_a62_14 : pm_as (pm_cd pm_mm62) 14 = some (.istore_n 2, 1) := by decide +kernel
theorem pm_a62_15 : pm_as (pm_cd pm_mm62) 15 = some (.iload_n 2, 1) := by decide +kernel
theorem pm_a62_16 : pm_as (pm_cd pm_mm62) 16 = some (.aload_n 0, 1) := by decide +kernel
theorem pm_a62_17 : pm_as (pm_cd pm_mm62) 17 = some (.getfield 21, 3) := by decide +kernel
theorem pm_a62_20 : pm_as (pm_cd pm_mm62) 20 = some (.if_icmp .ge 24, 3) := by decide +kernel
theorem pm_a62_23 : pm_as (pm_cd pm_mm62) 23 = some (.aload_n 0, 1) := by decide +kernel
theorem pm_a62_24 : pm_as (pm_cd pm_mm62) 24 = some (.iload_n 2, 1) := by decide +kernel
theorem pm_a62_25 : pm_as (pm_cd pm_mm62) 25 = some (.invokevirtual 39, 3) := by decide +kernel
theorem pm_a62_28 : pm_as (pm_cd pm_mm62) 28 = some (.aload_n 1, 1) := by decide +kernel
theorem pm_a62_29 : pm_as (pm_cd pm_mm62) 29 = some (.iload_n 2, 1) := by decide +kernel
theorem pm_a62_30 : pm_as (pm_cd pm_mm62) 30 = some (.invokevirtual 39, 3) := by decide +kernel
theorem pm_a62_33 : pm_as (pm_cd pm_mm62) 33 = some (.if_icmp .eq 5, 3) := by decide +kernel
theorem pm_a62_36 : pm_as (pm_cd pm_mm62) 36 = some (.iconst 0, 1) := by decide +kernel
theorem pm_a62_37 : pm_as (pm_cd pm_mm62) 37 = some (.ireturn, 1) := by decide +kernel
theorem pm_a62_38 : pm_as (pm_cd pm_mm62) 38 = some (.iinc 2 1, 3) := by decide +kernel
theorem pm_a62_41 : pm_as (pm_cd pm_mm62) 41 = some (.goto (-26), 3) := by decide +kernel
theorem pm_a62_44 : pm_as (pm_cd pm_mm62) 44 = some (.iconst 1, 1) := by decide +kernel
theorem pm_a62_45 : pm_as (pm_cd pm_mm62) 45 = some (.ireturn, 1) := by decide +kernel
theorem pm_a63_0 : pm_as (pm_cd pm_mm63) 0 = some (.aload_n 0, 1) := by decide +kernel
theorem pm_a63_1 : pm_as (pm_cd pm_mm63) 1 = some (.iload_n 1, 1) := by decide +kernel
theorem pm_a63_2 : pm_as (pm_cd pm_mm63) 2 = some (.invokevirtual 86, 3) := by decide +kernel
theorem pm_a63_5 : pm_as (pm_cd pm_mm63) 5 = some (.astore_n 3, 1) := by decide +kernel
theorem pm_a63_6 : pm_as (pm_cd pm_mm63) 6 = some (.aload_n 3, 1) := by decide +kernel
theorem pm_a63_7 : pm_as (pm_cd pm_mm63) 7 = some (.ifnull 10, 3) := by decide +kernel
theorem pm_a63_10 : pm_as (pm_cd pm_mm63) 10 = some (.iload_n 2, 1) := by decide +kernel
theorem pm_a63_11 : pm_as (pm_cd pm_mm63) 11 = some (.invokestatic 114, 3) := by decide +kernel
theorem pm_a63_14 : pm_as (pm_cd pm_mm63) 14 = some (.ifCond .ne 7, 3) := by decide +kernel
theorem pm_a63_17 : pm_as (pm_cd pm_mm63) 17 = some (.iconst (-1), 1) := by decide +kernel
theorem pm_a63_18 : pm_as (pm_cd pm_mm63) 18 = some (.goto 12, 3) := by decide +kernel
theorem pm_a63_21 : pm_as (pm_cd pm_mm63) 21 = some (.aload_n 0, 1) := by decide +kernel
theorem pm_a63_22 : pm_as (pm_cd pm_mm63) 22 = some (.getfield 57, 3) := by decide +kernel
theorem pm_a63_25 : pm_as (pm_cd pm_mm63) 25 = some (.aload_n 3, 1) := by decide +kernel
theorem pm_a63_26 : pm_as (pm_cd pm_mm63) 26 = some (.iload_n 2, 1) := by decide +kernel
theorem pm_a63_27 : pm_as (pm_cd pm_mm63) 27 = some (.invokevirtual 118, 3) := by decide +kernel
theorem pm_a63_30 : pm_as (pm_cd pm_mm63) 30 = some (.ireturn, 1) := by decide +kernel
theorem pm_a64_0 : pm_as (pm_cd pm_mm64) 0 = some (.iload_n 0, 1) := by decide +kernel
theorem pm_a64_1 : pm_as (pm_cd pm_mm64) 1 = some (.ifCond .lt 12, 3) := by decide +kernel
theorem pm_a64_4 : pm_as (pm_cd pm_mm64) 4 = some (.iload_n 0, 1) := by decide +kernel
theorem pm_a64_5 : pm_as (pm_cd pm_mm64) 5 = some (.iconst 3, 1) := by decide +kernel
theorem pm_a64_6 : pm_as (pm_cd pm_mm64) 6 = some (.if_icmp .gt 7, 3) := by decide +kernel
theorem pm_a64_9 : pm_as (pm_cd pm_mm64) 9 = some (.iconst 1, 1) := by decide +kernel
theorem pm_a64_10 : pm_as (pm_cd pm_mm64) 10 = some (.goto 4, 3) := by decide +kernel
theorem pm_a64_13 : pm_as (pm_cd pm_mm64) 13 = some (.iconst 0, 1) := by decide +kernel
theorem pm_a64_14 : pm_as (pm_cd pm_mm64) 14 = some (.ireturn, 1) := by decide +kernel
theorem pm_a65_0 : pm_as (pm_cd pm_mm65) 0 = some (.aload_n 0, 1) := by decide +kernel
theorem pm_a65_1 : pm_as (pm_cd pm_mm65) 1 = some (.aload_n 1, 1) := by decide +kernel
theorem pm_a65_2 : pm_as (pm_cd pm_mm65) 2 = some (.iload_n 2, 1) := by decide +kernel
theorem pm_a65_3 : pm_as (pm_cd pm_mm65) 3 = some (.invokevirtual 45, 3) := by decide +kernel
theorem pm_a65_6 : pm_as (pm_cd pm_mm65) 6 = some (.istore_n 3, 1) := by decide +kernel
theorem pm_a65_7 : pm_as (pm_cd pm_mm65) 7 = some (.iload_n 3, 1) := by decide +kernel
theorem pm_a65_8 : pm_as (pm_cd pm_mm65) 8 = some (.ifCond .ge 5, 3) := by decide +kernel
theorem pm_a65_11 : pm_as (pm_cd pm_mm65) 11 = some (.iconst 0, 1) := by decide +kernel
theorem pm_a65_12 : pm_as (pm_cd pm_mm65) 12 = some (.ireturn, 1) := by decide +kernel
theorem pm_a65_13 : pm_as (pm_cd pm_mm65) 13 = some (.aload_n 1, 1) := by decide +kernel
theorem pm_a65_14 : pm_as (pm_cd pm_mm65) 14 = some (.iload_n 3, 1) := by decide +kernel
theorem pm_a65_15 : pm_as (pm_cd pm_mm65) 15 = some (.invokevirtual 48, 3) := by decide +kernel
theorem pm_a65_18 : pm_as (pm_cd pm_mm65) 18 = some (.istore 4, 2) := by decide +kernel
theorem pm_a65_20 : pm_as (pm_cd pm_mm65) 20 = some (.aload_n 0, 1) := by decide +kernel
theorem pm_a65_21 : pm_as (pm_cd pm_mm65) 21 = some (.getfield 20, 3) := by decide +kernel
theorem pm_a65_24 : pm_as (pm_cd pm_mm65) 24 = some (.aload_n 1, 1) := by decide +kernel
theorem pm_a65_25 : pm_as (pm_cd pm_mm65) 25 = some (.iload_n 3, 1) := by decide +kernel
theorem pm_a65_26 : pm_as (pm_cd pm_mm65) 26 = some (.iload 4, 2) := by decide +kernel
theorem pm_a65_28 : pm_as (pm_cd pm_mm65) 28 = some (.invokevirtual 52, 3) := by decide +kernel
theorem pm_a65_31 : pm_as (pm_cd pm_mm65) 31 = some (.aload_n 0, 1) := by decide +kernel
theorem pm_a65_32 : pm_as (pm_cd pm_mm65) 32 = some (.getfield 14, 3) := by decide +kernel
theorem pm_a65_35 : pm_as (pm_cd pm_mm65) 35 = some (.invokevirtual 58, 3) := by decide +kernel
theorem pm_a65_38 : pm_as (pm_cd pm_mm65) 38 = some (.iload_n 2, 1) := by decide +kernel
theorem pm_a65_39 : pm_as (pm_cd pm_mm65) 39 = some (.iconst 3, 1) := by decide +kernel
theorem pm_a65_40 : pm_as (pm_cd pm_mm65) 40 = some (.if_icmp .ne 26, 3) := by decide +kernel
theorem pm_a65_43 : pm_as (pm_cd pm_mm65) 43 = some (.aload_n 0, 1) := by decide +kernel
theorem pm_a65_44 : pm_as (pm_cd pm_mm65) 44 = some (.aload_n 1, 1) := by decide +kernel
theorem pm_a65_45 : pm_as (pm_cd pm_mm65) 45 = some (.iload_n 3, 1) := by decide +kernel
theorem pm_a65_46 : pm_as (pm_cd pm_mm65) 46 = some (.iconst 2, 1) := by decide +kernel
theorem pm_a65_47 : pm_as (pm_cd pm_mm65) 47 = some (.iadd, 1) := by decide +kernel
theorem pm_a65_48 : pm_as (pm_cd pm_mm65) 48 = some (.aload_n 0, 1) := by decide +kernel
theorem pm_a65_49 : pm_as (pm_cd pm_mm65) 49 = some (.getfield 20, 3) := by decide +kernel
theorem pm_a65_52 : pm_as (pm_cd pm_mm65) 52 = some (.iload_n 3, 1) := by decide +kernel
theorem pm_a65_53 : pm_as (pm_cd pm_mm65) 53 = some (.iconst 2, 1) := by decide +kernel
theorem pm_a65_54 : pm_as (pm_cd pm_mm65) 54 = some (.iadd, 1) := by decide +kernel
theorem pm_a65_55 : pm_as (pm_cd pm_mm65) 55 = some (.invokevirtual 61, 3) := by decide +kernel
theorem pm_a65_58 : pm_as (pm_cd pm_mm65) 58 = some (.iload 4, 2) := by decide +kernel
theorem pm_a65_60 : pm_as (pm_cd pm_mm65) 60 = some (.invokevirtual 64, 3) := by decide +kernel
theorem pm_a65_63 : pm_as (pm_cd pm_mm65) 63 = some (.goto 11, 3) := by decide +kernel
theorem pm_a65_66 : pm_as (pm_cd pm_mm65) 66 = some (.aload_n 0, 1) := by decide +kernel
theorem pm_a65_67 : pm_as (pm_cd pm_mm65) 67 = some (.aload_n 1, 1) := by decide +kernel
theorem pm_a65_68 : pm_as (pm_cd pm_mm65) 68 = some (.iload_n 3, 1) := by decide +kernel
theorem pm_a65_69 : pm_as (pm_cd pm_mm65) 69 = some (.iload 4, 2) := by decide +kernel
theorem pm_a65_71 : pm_as (pm_cd pm_mm65) 71 = some (.invokevirtual 68, 3) := by decide +kernel
theorem pm_a65_74 : pm_as (pm_cd pm_mm65) 74 = some (.aload_n 1, 1) := by decide +kernel
theorem pm_a65_75 : pm_as (pm_cd pm_mm65) 75 = some (.iload_n 3, 1) := by decide +kernel
theorem pm_a65_76 : pm_as (pm_cd pm_mm65) 76 = some (.iload 4, 2) := by decide +kernel
theorem pm_a65_78 : pm_as (pm_cd pm_mm65) 78 = some (.aload_n 0, 1) := by decide +kernel
theorem pm_a65_79 : pm_as (pm_cd pm_mm65) 79 = some (.getfield 14, 3) := by decide +kernel
theorem pm_a65_82 : pm_as (pm_cd pm_mm65) 82 = some (.invokevirtual 71, 3) := by decide +kernel
theorem pm_a65_85 : pm_as (pm_cd pm_mm65) 85 = some (.ifCond .eq 7, 3) := by decide +kernel
theorem pm_a65_88 : pm_as (pm_cd pm_mm65) 88 = some (.iconst 1, 1) := by decide +kernel
theorem pm_a65_89 : pm_as (pm_cd pm_mm65) 89 = some (.goto 5, 3) := by decide +kernel
theorem pm_a65_92 : pm_as (pm_cd pm_mm65) 92 = some (.bipush (-3), 2) := by decide +kernel
theorem pm_a65_94 : pm_as (pm_cd pm_mm65) 94 = some (.ireturn, 1) := by decide +kernel
theorem pm_a66_0 : pm_as (pm_cd pm_mm66) 0 = some (.iload_n 2, 1) := by decide +kernel
theorem pm_a66_1 : pm_as (pm_cd pm_mm66) 1 = some (.tableswitch 45 0 2 #[27, 33, 39], 27) := by decide +kernel
theorem pm_a66_28 : pm_as (pm_cd pm_mm66) 28 = some (.aload_n 0, 1) := by decide +kernel
theorem pm_a66_29 : pm_as (pm_cd pm_mm66) 29 = some (.aload_n 1, 1) := by decide +kernel
theorem pm_a66_30 : pm_as (pm_cd pm_mm66) 30 = some (.invokevirtual 32, 3) := by decide +kernel
theorem pm_a66_33 : pm_as (pm_cd pm_mm66) 33 = some (.ireturn, 1) := by decide +kernel
theorem pm_a66_34 : pm_as (pm_cd pm_mm66) 34 = some (.aload_n 0, 1) := by decide +kernel
theorem pm_a66_35 : pm_as (pm_cd pm_mm66) 35 = some (.aload_n 1, 1) := by decide +kernel
theorem pm_a66_36 : pm_as (pm_cd pm_mm66) 36 = some (.invokevirtual 36, 3) := by decide +kernel
theorem pm_a66_39 : pm_as (pm_cd pm_mm66) 39 = some (.ireturn, 1) := by decide +kernel
theorem pm_a66_40 : pm_as (pm_cd pm_mm66) 40 = some (.aload_n 0, 1) := by decide +kernel
theorem pm_a66_41 : pm_as (pm_cd pm_mm66) 41 = some (.aload_n 1, 1) := by decide +kernel
theorem pm_a66_42 : pm_as (pm_cd pm_mm66) 42 = some (.invokevirtual 39, 3) := by decide +kernel
theorem pm_a66_45 : pm_as (pm_cd pm_mm66) 45 = some (.ireturn, 1) := by decide +kernel
theorem pm_a66_46 : pm_as (pm_cd pm_mm66) 46 = some (.aload_n 0, 1) := by decide +kernel
theorem pm_a66_47 : pm_as (pm_cd pm_mm66) 47 = some (.aload_n 1, 1) := by decide +kernel
theorem pm_a66_48 : pm_as (pm_cd pm_mm66) 48 = some (.invokevirtual 42, 3) := by decide +kernel
theorem pm_a66_51 : pm_as (pm_cd pm_mm66) 51 = some (.ireturn, 1) := by decide +kernel
theorem pm_a67_0 : pm_as (pm_cd pm_mm67) 0 = some (.iconst 0, 1) := by decide +kernel
theorem pm_a67_1 : pm_as (pm_cd pm_mm67) 1 = some (.istore_n 2, 1) := by decide +kernel
theorem pm_a67_2 : pm_as (pm_cd pm_mm67) 2 = some (.iload_n 2, 1) := by decide +kernel
theorem pm_a67_3 : pm_as (pm_cd pm_mm67) 3 = some (.aload_n 1, 1) := by decide +kernel
theorem pm_a67_4 : pm_as (pm_cd pm_mm67) 4 = some (.getfield 24, 3) := by decide +kernel
theorem pm_a67_7 : pm_as (pm_cd pm_mm67) 7 = some (.if_icmp .ge 20, 3) := by decide +kernel
theorem pm_a67_10 : pm_as (pm_cd pm_mm67) 10 = some (.aload_n 1, 1) := by decide +kernel
theorem pm_a67_11 : pm_as (pm_cd pm_mm67) 11 = some (.iload_n 2, 1) := by decide +kernel
theorem pm_a67_12 : pm_as (pm_cd pm_mm67) 12 = some (.invokestatic 28, 3) := by decide +kernel
theorem pm_a67_15 : pm_as (pm_cd pm_mm67) 15 = some (.iconst (-1), 1) := by decide +kernel
theorem pm_a67_16 : pm_as (pm_cd pm_mm67) 16 = some (.if_icmp .eq 5, 3) := by decide +kernel
theorem pm_a67_19 : pm_as (pm_cd pm_mm67) 19 = some (.iload_n 2, 1) := by decide +kernel
theorem pm_a67_20 : pm_as (pm_cd pm_mm67) 20 = some (.ireturn, 1) := by decide +kernel
theorem pm_a67_21 : pm_as (pm_cd pm_mm67) 21 = some (.iinc 2 1, 3) := by decide +kernel
theorem pm_a67_24 : pm_as (pm_cd pm_mm67) 24 = some (.goto (-22), 3) := by decide +kernel
theorem pm_a67_27 : pm_as (pm_cd pm_mm67) 27 = some (.bipush (-4), 2) := by decide +kernel
theorem pm_a67_29 : pm_as (pm_cd pm_mm67) 29 = some (.ireturn, 1) := by decide +kernel
theorem pm_a68_0 : pm_as (pm_cd pm_mm68) 0 = some (.aload_n 0, 1) := by decide +kernel
theorem pm_a68_1 : pm_as (pm_cd pm_mm68) 1 = some (.iload_n 1, 1) := by decide +kernel
theorem pm_a68_2 : pm_as (pm_cd pm_mm68) 2 = some (.invokevirtual 75, 3) := by decide +kernel
theorem pm_a68_5 : pm_as (pm_cd pm_mm68) 5 = some (.ifCond .eq 5, 3) := by decide +kernel
theorem pm_a68_8 : pm_as (pm_cd pm_mm68) 8 = some (.iconst (-1), 1) := by decide +kernel
theorem pm_a68_9 : pm_as (pm_cd pm_mm68) 9 = some (.ireturn, 1) := by decide +kernel
theorem pm_a68_10 : pm_as (pm_cd pm_mm68) 10 = some (.aload_n 0, 1) := by decide +kernel
theorem pm_a68_11 : pm_as (pm_cd pm_mm68) 11 = some (.iload_n 1, 1) := by decide +kernel
theorem pm_a68_12 : pm_as (pm_cd pm_mm68) 12 = some (.iconst 1, 1) := by decide +kernel
theorem pm_a68_13 : pm_as (pm_cd pm_mm68) 13 = some (.iadd, 1) := by decide +kernel
theorem pm_a68_14 : pm_as (pm_cd pm_mm68) 14 = some (.invokevirtual 75, 3) := by decide +kernel
theorem pm_a68_17 : pm_as (pm_cd pm_mm68) 17 = some (.istore_n 2, 1) := by decide +kernel
theorem pm_a68_18 : pm_as (pm_cd pm_mm68) 18 = some (.iload_n 2, 1) := by decide +kernel
theorem pm_a68_19 : pm_as (pm_cd pm_mm68) 19 = some (.iconst 1, 1) := by decide +kernel
theorem pm_a68_20 : pm_as (pm_cd pm_mm68) 20 = some (.if_icmp .eq 8, 3) := by decide +kernel
theorem pm_a68_23 : pm_as (pm_cd pm_mm68) 23 = some (.iload_n 2, 1) := by decide +kernel
theorem pm_a68_24 : pm_as (pm_cd pm_mm68) 24 = some (.iconst 4, 1) := by decide +kernel
theorem pm_a68_25 : pm_as (pm_cd pm_mm68) 25 = some (.if_icmp .ne 5, 3) := by decide +kernel
theorem pm_a68_28 : pm_as (pm_cd pm_mm68) 28 = some (.iload_n 2, 1) := by decide +kernel
theorem pm_a68_29 : pm_as (pm_cd pm_mm68) 29 = some (.ireturn, 1) := by decide +kernel
theorem pm_a68_30 : pm_as (pm_cd pm_mm68) 30 = some (.iload_n 2, 1) := by decide +kernel
theorem pm_a68_31 : pm_as (pm_cd pm_mm68) 31 = some (.ifCond .eq 5, 3) := by decide +kernel
theorem pm_a68_34 : pm_as (pm_cd pm_mm68) 34 = some (.iconst (-1), 1) := by decide +kernel
theorem pm_a68_35 : pm_as (pm_cd pm_mm68) 35 = some (.ireturn, 1) := by decide +kernel
theorem pm_a68_36 : pm_as (pm_cd pm_mm68) 36 = some (.aload_n 0, 1) := by decide +kernel
theorem pm_a68_37 : pm_as (pm_cd pm_mm68) 37 = some (.iload_n 1, 1) := by decide +kernel
theorem pm_a68_38 : pm_as (pm_cd pm_mm68) 38 = some (.iconst 2, 1) := by decide +kernel
theorem pm_a68_39 : pm_as (pm_cd pm_mm68) 39 = some (.iadd, 1) := by decide +kernel
theorem pm_a68_40 : pm_as (pm_cd pm_mm68) 40 = some (.invokevirtual 75, 3) := by decide +kernel
theorem pm_a68_43 : pm_as (pm_cd pm_mm68) 43 = some (.istore_n 3, 1) := by decide +kernel
theorem pm_a68_44 : pm_as (pm_cd pm_mm68) 44 = some (.iload_n 3, 1) := by decide +kernel
theorem pm_a68_45 : pm_as (pm_cd pm_mm68) 45 = some (.iconst 3, 1) := by decide +kernel
theorem pm_a68_46 : pm_as (pm_cd pm_mm68) 46 = some (.if_icmp .ne 5, 3) := by decide +kernel
theorem pm_a68_49 : pm_as (pm_cd pm_mm68) 49 = some (.iconst 3, 1) := by decide +kernel
theorem pm_a68_50 : pm_as (pm_cd pm_mm68) 50 = some (.ireturn, 1) := by decide +kernel
theorem pm_a68_51 : pm_as (pm_cd pm_mm68) 51 = some (.iload_n 3, 1) := by decide +kernel
theorem pm_a68_52 : pm_as (pm_cd pm_mm68) 52 = some (.ifCond .ne 18, 3) := by decide +kernel
theorem pm_a68_55 : pm_as (pm_cd pm_mm68) 55 = some (.aload_n 0, 1) := by decide +kernel
theorem pm_a68_56 : pm_as (pm_cd pm_mm68) 56 = some (.iload_n 1, 1) := by decide +kernel
theorem pm_a68_57 : pm_as (pm_cd pm_mm68) 57 = some (.iconst 3, 1) := by decide +kernel
theorem pm_a68_58 : pm_as (pm_cd pm_mm68) 58 = some (.iadd, 1) := by decide +kernel
theorem pm_a68_59 : pm_as (pm_cd pm_mm68) 59 = some (.invokevirtual 75, 3) := by decide +kernel
theorem pm_a68_62 : pm_as (pm_cd pm_mm68) 62 = some (.iconst 2, 1) := by decide +kernel
theorem pm_a68_63 : pm_as (pm_cd pm_mm68) 63 = some (.if_icmp .ne 7, 3) := by decide +kernel
theorem pm_a68_66 : pm_as (pm_cd pm_mm68) 66 = some (.iconst 2, 1) := by decide +kernel
theorem pm_a68_67 : pm_as (pm_cd pm_mm68) 67 = some (.goto 4, 3) := by decide +kernel
theorem pm_a68_70 : pm_as (pm_cd pm_mm68) 70 = some (.iconst (-1), 1) := by decide +kernel
theorem pm_a68_71 : pm_as (pm_cd pm_mm68) 71 = some (.ireturn, 1) := by decide +kernel
theorem pm_a69_0 : pm_as (pm_cd pm_mm69) 0 = some (.aload_n 0, 1) := by decide +kernel
theorem pm_a69_1 : pm_as (pm_cd pm_mm69) 1 = some (.getfield 20, 3) := by decide +kernel
theorem pm_a69_4 : pm_as (pm_cd pm_mm69) 4 = some (.aload_n 1, 1) := by decide +kernel
theorem pm_a69_5 : pm_as (pm_cd pm_mm69) 5 = some (.iconst 0, 1) := by decide +kernel
theorem pm_a69_6 : pm_as (pm_cd pm_mm69) 6 = some (.aload_n 1, 1) := by decide +kernel
theorem pm_a69_7 : pm_as (pm_cd pm_mm69) 7 = some (.getfield 24, 3) := by decide +kernel
theorem pm_a69_10 : pm_as (pm_cd pm_mm69) 10 = some (.invokevirtual 52, 3) := by decide +kernel
theorem pm_a69_13 : pm_as (pm_cd pm_mm69) 13 = some (.bipush (-4), 2) := by decide +kernel
theorem pm_a69_15 : pm_as (pm_cd pm_mm69) 15 = some (.istore_n 2, 1) := by decide +kernel
theorem pm_a69_16 : pm_as (pm_cd pm_mm69) 16 = some (.iconst 0, 1) := by decide +kernel
theorem pm_a69_17 : pm_as (pm_cd pm_mm69) 17 = some (.istore_n 3, 1) := by decide +kernel
theorem pm_a69_18 : pm_as (pm_cd pm_mm69) 18 = some (.iload_n 3, 1) := by decide +kernel
theorem pm_a69_19 : pm_as (pm_cd pm_mm69) 19 = some (.aload_n 1, 1) := by decide +kernel
theorem pm_a69_20 : pm_as (pm_cd pm_mm69) 20 = some (.getfield 24, 3) := by decide +kernel
theorem pm_a69_23 : pm_as (pm_cd pm_mm69) 23 = some (.if_icmp .ge 38, 3) := by decide +kernel
theorem pm_a69_26 : pm_as (pm_cd pm_mm69) 26 = some (.aload_n 1, 1) := by decide +kernel
theorem pm_a69_27 : pm_as (pm_cd pm_mm69) 27 = some (.iload_n 3, 1) := by decide +kernel
theorem pm_a69_28 : pm_as (pm_cd pm_mm69) 28 = some (.invokestatic 28, 3) := by decide +kernel
theorem pm_a69_31 : pm_as (pm_cd pm_mm69) 31 = some (.iconst (-1), 1) := by decide +kernel
theorem pm_a69_32 : pm_as (pm_cd pm_mm69) 32 = some (.if_icmp .eq 23, 3) := by decide +kernel
theorem pm_a69_35 : pm_as (pm_cd pm_mm69) 35 = some (.iload_n 2, 1) := by decide +kernel
theorem pm_a69_36 : pm_as (pm_cd pm_mm69) 36 = some (.ifCond .lt 17, 3) := by decide +kernel
theorem pm_a69_39 : pm_as (pm_cd pm_mm69) 39 = some (.iload_n 3, 1) := by decide +kernel
theorem pm_a69_40 : pm_as (pm_cd pm_mm69) 40 = some (.aload_n 0, 1) := by decide +kernel
theorem pm_a69_41 : pm_as (pm_cd pm_mm69) 41 = some (.getfield 20, 3) := by decide +kernel
theorem pm_a69_44 : pm_as (pm_cd pm_mm69) 44 = some (.iload_n 2, 1) := by decide +kernel
theorem pm_a69_45 : pm_as (pm_cd pm_mm69) 45 = some (.invokevirtual 61, 3) := by decide +kernel
theorem pm_a69_48 : pm_as (pm_cd pm_mm69) 48 = some (.if_icmp .lt 5, 3) := by decide +kernel
theorem pm_a69_51 : pm_as (pm_cd pm_mm69) 51 = some (.iload_n 2, 1) := by decide +kernel
theorem pm_a69_52 : pm_as (pm_cd pm_mm69) 52 = some (.ireturn, 1) := by decide +kernel
theorem pm_a69_53 : pm_as (pm_cd pm_mm69) 53 = some (.iload_n 3, 1) := by decide +kernel
theorem pm_a69_54 : pm_as (pm_cd pm_mm69) 54 = some (.istore_n 2, 1) := by decide +kernel
theorem pm_a69_55 : pm_as (pm_cd pm_mm69) 55 = some (.iinc 3 1, 3) := by decide +kernel
theorem pm_a69_58 : pm_as (pm_cd pm_mm69) 58 = some (.goto (-40), 3) := by decide +kernel
theorem pm_a69_61 : pm_as (pm_cd pm_mm69) 61 = some (.iload_n 2, 1) := by decide +kernel
theorem pm_a69_62 : pm_as (pm_cd pm_mm69) 62 = some (.ireturn, 1) := by decide +kernel
theorem pm_a70_0 : pm_as (pm_cd pm_mm70) 0 = some (.iload_n 3, 1) := by decide +kernel
theorem pm_a70_1 : pm_as (pm_cd pm_mm70) 1 = some (.aload_n 0, 1) := by decide +kernel
theorem pm_a70_2 : pm_as (pm_cd pm_mm70) 2 = some (.getfield 11, 3) := by decide +kernel
theorem pm_a70_5 : pm_as (pm_cd pm_mm70) 5 = some (.arraylength, 1) := by decide +kernel
theorem pm_a70_6 : pm_as (pm_cd pm_mm70) 6 = some (.invokestatic 20, 3) := by decide +kernel
theorem pm_a70_9 : pm_as (pm_cd pm_mm70) 9 = some (.iconst 1, 1) := by decide +kernel
theorem pm_a70_10 : pm_as (pm_cd pm_mm70) 10 = some (.isub, 1) := by decide +kernel
theorem pm_a70_11 : pm_as (pm_cd pm_mm70) 11 = some (.istore 4, 2) := by decide +kernel
theorem pm_a70_13 : pm_as (pm_cd pm_mm70) 13 = some (.iload 4, 2) := by decide +kernel
theorem pm_a70_15 : pm_as (pm_cd pm_mm70) 15 = some (.istore 5, 2) := by decide +kernel
theorem pm_a70_17 : pm_as (pm_cd pm_mm70) 17 = some (.iload 5, 2) := by decide +kernel
theorem pm_a70_19 : pm_as (pm_cd pm_mm70) 19 = some (.iload_n 2, 1) := by decide +kernel
theorem pm_a70_20 : pm_as (pm_cd pm_mm70) 20 = some (.iconst 0, 1) := by decide +kernel
theorem pm_a70_21 : pm_as (pm_cd pm_mm70) 21 = some (.invokestatic 26, 3) := by decide +kernel
theorem pm_a70_24 : pm_as (pm_cd pm_mm70) 24 = some (.if_icmp .lt 28, 3) := by decide +kernel
theorem pm_a70_27 : pm_as (pm_cd pm_mm70) 27 = some (.aload_n 0, 1) := by decide +kernel
theorem pm_a70_28 : pm_as (pm_cd pm_mm70) 28 = some (.getfield 11, 3) := by decide +kernel
theorem pm_a70_31 : pm_as (pm_cd pm_mm70) 31 = some (.iload 5, 2) := by decide +kernel
theorem pm_a70_33 : pm_as (pm_cd pm_mm70) 33 = some (.aload_n 0, 1) := by decide +kernel
theorem pm_a70_34 : pm_as (pm_cd pm_mm70) 34 = some (.aload_n 1, 1) := by decide +kernel
theorem pm_a70_35 : pm_as (pm_cd pm_mm70) 35 = some (.iload 5, 2) := by decide +kernel
theorem pm_a70_37 : pm_as (pm_cd pm_mm70) 37 = some (.invokevirtual 29, 3) := by decide +kernel
theorem pm_a70_40 : pm_as (pm_cd pm_mm70) 40 = some (.iload 5, 2) := by decide +kernel
theorem pm_a70_42 : pm_as (pm_cd pm_mm70) 42 = some (.invokevirtual 35, 3) := by decide +kernel
theorem pm_a70_45 : pm_as (pm_cd pm_mm70) 45 = some (.iastore, 1) := by decide +kernel
theorem pm_a70_46 : pm_as (pm_cd pm_mm70) 46 = some (.iinc 5 (-1), 3) := by decide +kernel
theorem pm_a70_49 : pm_as (pm_cd pm_mm70) 49 = some (.goto (-32), 3) := by decide +kernel
theorem pm_a70_52 : pm_as (pm_cd pm_mm70) 52 = some (.aload_n 0, 1) := by decide +kernel
theorem pm_a70_53 : pm_as (pm_cd pm_mm70) 53 = some (.iload_n 2, 1) := by decide +kernel
theorem pm_a70_54 : pm_as (pm_cd pm_mm70) 54 = some (.iconst 0, 1) := by decide +kernel
theorem pm_a70_55 : pm_as (pm_cd pm_mm70) 55 = some (.invokevirtual 38, 3) := by decide +kernel
theorem pm_a70_58 : pm_as (pm_cd pm_mm70) 58 = some (.iload_n 2, 1) := by decide +kernel
theorem pm_a70_59 : pm_as (pm_cd pm_mm70) 59 = some (.istore 5, 2) := by decide +kernel
theorem pm_a70_61 : pm_as (pm_cd pm_mm70) 61 = some (.iload 5, 2) := by decide +kernel
theorem pm_a70_63 : pm_as (pm_cd pm_mm70) 63 = some (.iload 4, 2) := by decide +kernel
theorem pm_a70_65 : pm_as (pm_cd pm_mm70) 65 = some (.if_icmp .gt 21, 3) := by decide +kernel
theorem pm_a70_68 : pm_as (pm_cd pm_mm70) 68 = some (.aload_n 0, 1) := by decide +kernel
theorem pm_a70_69 : pm_as (pm_cd pm_mm70) 69 = some (.aload_n 1, 1) := by decide +kernel
theorem pm_a70_70 : pm_as (pm_cd pm_mm70) 70 = some (.iload 5, 2) := by decide +kernel
theorem pm_a70_72 : pm_as (pm_cd pm_mm70) 72 = some (.invokevirtual 29, 3) := by decide +kernel
theorem pm_a70_75 : pm_as (pm_cd pm_mm70) 75 = some (.iload 5, 2) := by decide +kernel
theorem pm_a70_77 : pm_as (pm_cd pm_mm70) 77 = some (.invokevirtual 42, 3) := by decide +kernel
theorem pm_a70_80 : pm_as (pm_cd pm_mm70) 80 = some (.iinc 5 1, 3) := by decide +kernel
theorem pm_a70_83 : pm_as (pm_cd pm_mm70) 83 = some (.goto (-22), 3) := by decide +kernel
theorem pm_a70_86 : pm_as (pm_cd pm_mm70) 86 = some (.return_, 1) := by decide +kernel
theorem pm_a71_0 : pm_as (pm_cd pm_mm71) 0 = some (.iload_n 1, 1) := by decide +kernel
theorem pm_a71_1 : pm_as (pm_cd pm_mm71) 1 = some (.iconst 1, 1) := by decide +kernel
theorem pm_a71_2 : pm_as (pm_cd pm_mm71) 2 = some (.if_icmp .ne 11, 3) := by decide +kernel
theorem pm_a71_5 : pm_as (pm_cd pm_mm71) 5 = some (.aload_n 0, 1) := by decide +kernel
theorem pm_a71_6 : pm_as (pm_cd pm_mm71) 6 = some (.iload_n 2, 1) := by decide +kernel
theorem pm_a71_7 : pm_as (pm_cd pm_mm71) 7 = some (.iconst 1, 1) := by decide +kernel
theorem pm_a71_8 : pm_as (pm_cd pm_mm71) 8 = some (.iadd, 1) := by decide +kernel
theorem pm_a71_9 : pm_as (pm_cd pm_mm71) 9 = some (.invokevirtual 56, 3) := by decide +kernel
theorem pm_a71_12 : pm_as (pm_cd pm_mm71) 12 = some (.ireturn, 1) := by decide +kernel
theorem pm_a71_13 : pm_as (pm_cd pm_mm71) 13 = some (.iload_n 1, 1) := by decide +kernel
theorem pm_a71_14 : pm_as (pm_cd pm_mm71) 14 = some (.ifCond .ne 17, 3) := by decide +kernel
theorem pm_a71_17 : pm_as (pm_cd pm_mm71) 17 = some (.aload_n 0, 1) := by decide +kernel
theorem pm_a71_18 : pm_as (pm_cd pm_mm71) 18 = some (.aload_n 0, 1) := by decide +kernel
theorem pm_a71_19 : pm_as (pm_cd pm_mm71) 19 = some (.iload_n 2, 1) := by decide +kernel
theorem pm_a71_20 : pm_as (pm_cd pm_mm71) 20 = some (.iconst 1, 1) := by decide +kernel
theorem pm_a71_21 : pm_as (pm_cd pm_mm71) 21 = some (.iadd, 1) := by decide +kernel
theorem pm_a71_22 : pm_as (pm_cd pm_mm71) 22 = some (.invokevirtual 56, 3) := by decide +kernel
theorem pm_a71_25 : pm_as (pm_cd pm_mm71) 25 = some (.invokevirtual 56, 3) := by decide +kernel
theorem pm_a71_28 : pm_as (pm_cd pm_mm71) 28 = some (.goto 6, 3) := by decide +kernel
theorem pm_a71_31 : pm_as (pm_cd pm_mm71) 31 = some (.iload_n 2, 1) := by decide +kernel
theorem pm_a71_32 : pm_as (pm_cd pm_mm71) 32 = some (.iconst 1, 1) := by decide +kernel
theorem pm_a71_33 : pm_as (pm_cd pm_mm71) 33 = some (.iadd, 1) := by decide +kernel
theorem pm_a71_34 : pm_as (pm_cd pm_mm71) 34 = some (.ireturn, 1) := by decide +kernel
theorem pm_a72_0 : pm_as (pm_cd pm_mm72) 0 = some (.iload_n 1, 1) := by decide +kernel
theorem pm_a72_1 : pm_as (pm_cd pm_mm72) 1 = some (.ifCond .lt 21, 3) := by decide +kernel
theorem pm_a72_4 : pm_as (pm_cd pm_mm72) 4 = some (.iload_n 1, 1) := by decide +kernel
theorem pm_a72_5 : pm_as (pm_cd pm_mm72) 5 = some (.aload_n 0, 1) := by decide +kernel
theorem pm_a72_6 : pm_as (pm_cd pm_mm72) 6 = some (.getfield 11, 3) := by decide +kernel
theorem pm_a72_9 : pm_as (pm_cd pm_mm72) 9 = some (.arraylength, 1) := by decide +kernel
theorem pm_a72_10 : pm_as (pm_cd pm_mm72) 10 = some (.if_icmp .ge 12, 3) := by decide +kernel
theorem pm_a72_13 : pm_as (pm_cd pm_mm72) 13 = some (.aload_n 0, 1) := by decide +kernel
theorem pm_a72_14 : pm_as (pm_cd pm_mm72) 14 = some (.getfield 11, 3) := by decide +kernel
theorem pm_a72_17 : pm_as (pm_cd pm_mm72) 17 = some (.iload_n 1, 1) := by decide +kernel
theorem pm_a72_18 : pm_as (pm_cd pm_mm72) 18 = some (.iaload, 1) := by decide +kernel
theorem pm_a72_19 : pm_as (pm_cd pm_mm72) 19 = some (.goto 4, 3) := by decide +kernel
theorem pm_a72_22 : pm_as (pm_cd pm_mm72) 22 = some (.iload_n 1, 1) := by decide +kernel
theorem pm_a72_23 : pm_as (pm_cd pm_mm72) 23 = some (.ireturn, 1) := by decide +kernel
theorem pm_a73_0 : pm_as (pm_cd pm_mm73) 0 = some (.iload_n 1, 1) := by decide +kernel
theorem pm_a73_1 : pm_as (pm_cd pm_mm73) 1 = some (.ifCond .lt 19, 3) := by decide +kernel
theorem pm_a73_4 : pm_as (pm_cd pm_mm73) 4 = some (.iload_n 1, 1) := by decide +kernel
theorem pm_a73_5 : pm_as (pm_cd pm_mm73) 5 = some (.aload_n 0, 1) := by decide +kernel
theorem pm_a73_6 : pm_as (pm_cd pm_mm73) 6 = some (.getfield 17, 3) := by decide +kernel
theorem pm_a73_9 : pm_as (pm_cd pm_mm73) 9 = some (.arraylength, 1) := by decide +kernel
theorem pm_a73_10 : pm_as (pm_cd pm_mm73) 10 = some (.if_icmp .ge 10, 3) := by decide +kernel
theorem pm_a73_13 : pm_as (pm_cd pm_mm73) 13 = some (.aload_n 0, 1) := by decide +kernel
theorem pm_a73_14 : pm_as (pm_cd pm_mm73) 14 = some (.getfield 17, 3) := by decide +kernel
theorem pm_a73_17 : pm_as (pm_cd pm_mm73) 17 = some (.iload_n 1, 1) := by decide +kernel
theorem pm_a73_18 : pm_as (pm_cd pm_mm73) 18 = some (.iload_n 2, 1) := by decide +kernel
theorem pm_a73_19 : pm_as (pm_cd pm_mm73) 19 = some (.iastore, 1) := by decide +kernel
theorem pm_a73_20 : pm_as (pm_cd pm_mm73) 20 = some (.return_, 1) := by decide +kernel
theorem pm_a74_0 : pm_as (pm_cd pm_mm74) 0 = some (.iload_n 1, 1) := by decide +kernel
theorem pm_a74_1 : pm_as (pm_cd pm_mm74) 1 = some (.iconst 1, 1) := by decide +kernel
theorem pm_a74_2 : pm_as (pm_cd pm_mm74) 2 = some (.if_icmp .ne 20, 3) := by decide +kernel
theorem pm_a74_5 : pm_as (pm_cd pm_mm74) 5 = some (.aload_n 0, 1) := by decide +kernel
theorem pm_a74_6 : pm_as (pm_cd pm_mm74) 6 = some (.iload_n 2, 1) := by decide +kernel
theorem pm_a74_7 : pm_as (pm_cd pm_mm74) 7 = some (.iconst 1, 1) := by decide +kernel
theorem pm_a74_8 : pm_as (pm_cd pm_mm74) 8 = some (.iadd, 1) := by decide +kernel
theorem pm_a74_9 : pm_as (pm_cd pm_mm74) 9 = some (.aload_n 0, 1) := by decide +kernel
theorem pm_a74_10 : pm_as (pm_cd pm_mm74) 10 = some (.iload_n 2, 1) := by decide +kernel
theorem pm_a74_11 : pm_as (pm_cd pm_mm74) 11 = some (.invokevirtual 45, 3) := by decide +kernel
theorem pm_a74_14 : pm_as (pm_cd pm_mm74) 14 = some (.iconst 1, 1) := by decide +kernel
theorem pm_a74_15 : pm_as (pm_cd pm_mm74) 15 = some (.iadd, 1) := by decide +kernel
theorem pm_a74_16 : pm_as (pm_cd pm_mm74) 16 = some (.invokevirtual 38, 3) := by decide +kernel
theorem pm_a74_19 : pm_as (pm_cd pm_mm74) 19 = some (.goto 35, 3) := by decide +kernel
theorem pm_a74_22 : pm_as (pm_cd pm_mm74) 22 = some (.iload_n 1, 1) := by decide +kernel
theorem pm_a74_23 : pm_as (pm_cd pm_mm74) 23 = some (.ifCond .ne 31, 3) := by decide +kernel
theorem pm_a74_26 : pm_as (pm_cd pm_mm74) 26 = some (.aload_n 0, 1) := by decide +kernel
theorem pm_a74_27 : pm_as (pm_cd pm_mm74) 27 = some (.iload_n 2, 1) := by decide +kernel
theorem pm_a74_28 : pm_as (pm_cd pm_mm74) 28 = some (.iconst 1, 1) := by decide +kernel
theorem pm_a74_29 : pm_as (pm_cd pm_mm74) 29 = some (.iadd, 1) := by decide +kernel
theorem pm_a74_30 : pm_as (pm_cd pm_mm74) 30 = some (.aload_n 0, 1) := by decide +kernel
theorem pm_a74_31 : pm_as (pm_cd pm_mm74) 31 = some (.iload_n 2, 1) := by decide +kernel
theorem pm_a74_32 : pm_as (pm_cd pm_mm74) 32 = some (.invokevirtual 45, 3) := by decide +kernel
theorem pm_a74_35 : pm_as (pm_cd pm_mm74) 35 = some (.invokevirtual 38, 3) := by decide +kernel
theorem pm_a74_38 : pm_as (pm_cd pm_mm74) 38 = some (.aload_n 0, 1) := by decide +kernel
theorem pm_a74_39 : pm_as (pm_cd pm_mm74) 39 = some (.aload_n 0, 1) := by decide +kernel
theorem pm_a74_40 : pm_as (pm_cd pm_mm74) 40 = some (.iload_n 2, 1) := by decide +kernel
theorem pm_a74_41 : pm_as (pm_cd pm_mm74) 41 = some (.iconst 1, 1) := by decide +kernel
theorem pm_a74_42 : pm_as (pm_cd pm_mm74) 42 = some (.iadd, 1) := by decide +kernel
theorem pm_a74_43 : pm_as (pm_cd pm_mm74) 43 = some (.invokevirtual 56, 3) := by decide +kernel
theorem pm_a74_46 : pm_as (pm_cd pm_mm74) 46 = some (.aload_n 0, 1) := by decide +kernel
theorem pm_a74_47 : pm_as (pm_cd pm_mm74) 47 = some (.iload_n 2, 1) := by decide +kernel
theorem pm_a74_48 : pm_as (pm_cd pm_mm74) 48 = some (.invokevirtual 45, 3) := by decide +kernel
theorem pm_a74_51 : pm_as (pm_cd pm_mm74) 51 = some (.invokevirtual 38, 3) := by decide +kernel
theorem pm_a74_54 : pm_as (pm_cd pm_mm74) 54 = some (.return_, 1) := by decide +kernel
theorem pm_a75_0 : pm_as (pm_cd pm_mm75) 0 = some (.iload_n 1, 1) := by decide +kernel
theorem pm_a75_1 : pm_as (pm_cd pm_mm75) 1 = some (.ifCond .lt 21, 3) := by decide +kernel
theorem pm_a75_4 : pm_as (pm_cd pm_mm75) 4 = some (.iload_n 1, 1) := by decide +kernel
theorem pm_a75_5 : pm_as (pm_cd pm_mm75) 5 = some (.aload_n 0, 1) := by decide +kernel
theorem pm_a75_6 : pm_as (pm_cd pm_mm75) 6 = some (.getfield 17, 3) := by decide +kernel
theorem pm_a75_9 : pm_as (pm_cd pm_mm75) 9 = some (.arraylength, 1) := by decide +kernel
theorem pm_a75_10 : pm_as (pm_cd pm_mm75) 10 = some (.if_icmp .ge 12, 3) := by decide +kernel
theorem pm_a75_13 : pm_as (pm_cd pm_mm75) 13 = some (.aload_n 0, 1) := by decide +kernel
theorem pm_a75_14 : pm_as (pm_cd pm_mm75) 14 = some (.getfield 17, 3) := by decide +kernel
theorem pm_a75_17 : pm_as (pm_cd pm_mm75) 17 = some (.iload_n 1, 1) := by decide +kernel
theorem pm_a75_18 : pm_as (pm_cd pm_mm75) 18 = some (.iaload, 1) := by decide +kernel
theorem pm_a75_19 : pm_as (pm_cd pm_mm75) 19 = some (.goto 4, 3) := by decide +kernel
theorem pm_a75_22 : pm_as (pm_cd pm_mm75) 22 = some (.iconst 0, 1) := by decide +kernel
theorem pm_a75_23 : pm_as (pm_cd pm_mm75) 23 = some (.ireturn, 1) := by decide +kernel
theorem pm_a76_0 : pm_as (pm_cd pm_mm76) 0 = some (.iconst 0, 1) := by decide +kernel
theorem pm_a76_1 : pm_as (pm_cd pm_mm76) 1 = some (.istore_n 2, 1) := by decide +kernel
theorem pm_a76_2 : pm_as (pm_cd pm_mm76) 2 = some (.iload_n 2, 1) := by decide +kernel
theorem pm_a76_3 : pm_as (pm_cd pm_mm76) 3 = some (.aload_n 1, 1) := by decide +kernel
theorem pm_a76_4 : pm_as (pm_cd pm_mm76) 4 = some (.getfield 24, 3) := by decide +kernel
theorem pm_a76_7 : pm_as (pm_cd pm_mm76) 7 = some (.if_icmp .ge 28, 3) := by decide +kernel
theorem pm_a76_10 : pm_as (pm_cd pm_mm76) 10 = some (.aload_n 1, 1) := by decide +kernel
theorem pm_a76_11 : pm_as (pm_cd pm_mm76) 11 = some (.iload_n 2, 1) := by decide +kernel
theorem pm_a76_12 : pm_as (pm_cd pm_mm76) 12 = some (.invokevirtual 75, 3) := by decide +kernel
theorem pm_a76_15 : pm_as (pm_cd pm_mm76) 15 = some (.ifCond .ne 20, 3) := by decide +kernel
theorem pm_a76_18 : pm_as (pm_cd pm_mm76) 18 = some (.aload_n 1, 1) := by decide +kernel
theorem pm_a76_19 : pm_as (pm_cd pm_mm76) 19 = some (.iload_n 2, 1) := by decide +kernel
theorem pm_a76_20 : pm_as (pm_cd pm_mm76) 20 = some (.invokestatic 28, 3) := by decide +kernel
theorem pm_a76_23 : pm_as (pm_cd pm_mm76) 23 = some (.iconst (-1), 1) := by decide +kernel
theorem pm_a76_24 : pm_as (pm_cd pm_mm76) 24 = some (.if_icmp .eq 5, 3) := by decide +kernel
theorem pm_a76_27 : pm_as (pm_cd pm_mm76) 27 = some (.iload_n 2, 1) := by decide +kernel
theorem pm_a76_28 : pm_as (pm_cd pm_mm76) 28 = some (.ireturn, 1) := by decide +kernel
theorem pm_a76_29 : pm_as (pm_cd pm_mm76) 29 = some (.iinc 2 1, 3) := by decide +kernel
theorem pm_a76_32 : pm_as (pm_cd pm_mm76) 32 = some (.goto (-30), 3) := by decide +kernel
theorem pm_a76_35 : pm_as (pm_cd pm_mm76) 35 = some (.bipush (-4), 2) := by decide +kernel
theorem pm_a76_37 : pm_as (pm_cd pm_mm76) 37 = some (.ireturn, 1) := by decide +kernel
theorem pm_a77_0 : pm_as (pm_cd pm_mm77) 0 = some (.aload_n 0, 1) := by decide +kernel
theorem pm_a77_1 : pm_as (pm_cd pm_mm77) 1 = some (.getfield 20, 3) := by decide +kernel
theorem pm_a77_4 : pm_as (pm_cd pm_mm77) 4 = some (.aload_n 1, 1) := by decide +kernel
theorem pm_a77_5 : pm_as (pm_cd pm_mm77) 5 = some (.iconst 0, 1) := by decide +kernel
theorem pm_a77_6 : pm_as (pm_cd pm_mm77) 6 = some (.aload_n 1, 1) := by decide +kernel
theorem pm_a77_7 : pm_as (pm_cd pm_mm77) 7 = some (.getfield 24, 3) := by decide +kernel
theorem pm_a77_10 : pm_as (pm_cd pm_mm77) 10 = some (.invokevirtual 52, 3) := by decide +kernel
theorem pm_a77_13 : pm_as (pm_cd pm_mm77) 13 = some (.iconst 0, 1) := by decide +kernel
theorem pm_a77_14 : pm_as (pm_cd pm_mm77) 14 = some (.istore_n 2, 1) := by decide +kernel
theorem pm_a77_15 : pm_as (pm_cd pm_mm77) 15 = some (.iload_n 2, 1) := by decide +kernel
theorem pm_a77_16 : pm_as (pm_cd pm_mm77) 16 = some (.aload_n 1, 1) := by decide +kernel
theorem pm_a77_17 : pm_as (pm_cd pm_mm77) 17 = some (.getfield 24, 3) := by decide +kernel
theorem pm_a77_20 : pm_as (pm_cd pm_mm77) 20 = some (.if_icmp .ge 20, 3) := by decide +kernel
theorem pm_a77_23 : pm_as (pm_cd pm_mm77) 23 = some (.aload_n 0, 1) := by decide +kernel
theorem pm_a77_24 : pm_as (pm_cd pm_mm77) 24 = some (.aload_n 1, 1) := by decide +kernel
theorem pm_a77_25 : pm_as (pm_cd pm_mm77) 25 = some (.iload_n 2, 1) := by decide +kernel
theorem pm_a77_26 : pm_as (pm_cd pm_mm77) 26 = some (.invokevirtual 78, 3) := by decide +kernel
theorem pm_a77_29 : pm_as (pm_cd pm_mm77) 29 = some (.ifCond .eq 5, 3) := by decide +kernel
theorem pm_a77_32 : pm_as (pm_cd pm_mm77) 32 = some (.iload_n 2, 1) := by decide +kernel
theorem pm_a77_33 : pm_as (pm_cd pm_mm77) 33 = some (.ireturn, 1) := by decide +kernel
theorem pm_a77_34 : pm_as (pm_cd pm_mm77) 34 = some (.iinc 2 1, 3) := by decide +kernel
theorem pm_a77_37 : pm_as (pm_cd pm_mm77) 37 = some (.goto (-22), 3) := by decide +kernel
theorem pm_a77_40 : pm_as (pm_cd pm_mm77) 40 = some (.bipush (-4), 2) := by decide +kernel
theorem pm_a77_42 : pm_as (pm_cd pm_mm77) 42 = some (.ireturn, 1) := by decide +kernel
theorem pm_a78_0 : pm_as (pm_cd pm_mm78) 0 = some (.aload_n 1, 1) := by decide +kernel
theorem pm_a78_1 : pm_as (pm_cd pm_mm78) 1 = some (.iload_n 2, 1) := by decide +kernel
theorem pm_a78_2 : pm_as (pm_cd pm_mm78) 2 = some (.invokevirtual 75, 3) := by decide +kernel
theorem pm_a78_5 : pm_as (pm_cd pm_mm78) 5 = some (.iconst 1, 1) := by decide +kernel
theorem pm_a78_6 : pm_as (pm_cd pm_mm78) 6 = some (.if_icmp .ne 13, 3) := by decide +kernel
theorem pm_a78_9 : pm_as (pm_cd pm_mm78) 9 = some (.aload_n 1, 1) := by decide +kernel
theorem pm_a78_10 : pm_as (pm_cd pm_mm78) 10 = some (.iload_n 2, 1) := by decide +kernel
theorem pm_a78_11 : pm_as (pm_cd pm_mm78) 11 = some (.iconst 1, 1) := by decide +kernel
theorem pm_a78_12 : pm_as (pm_cd pm_mm78) 12 = some (.iadd, 1) := by decide +kernel
theorem pm_a78_13 : pm_as (pm_cd pm_mm78) 13 = some (.invokevirtual 75, 3) := by decide +kernel
theorem pm_a78_16 : pm_as (pm_cd pm_mm78) 16 = some (.ifCond .eq 5, 3) := by decide +kernel
theorem pm_a78_19 : pm_as (pm_cd pm_mm78) 19 = some (.iconst 0, 1) := by decide +kernel
theorem pm_a78_20 : pm_as (pm_cd pm_mm78) 20 = some (.ireturn, 1) := by decide +kernel
theorem pm_a78_21 : pm_as (pm_cd pm_mm78) 21 = some (.aload_n 0, 1) := by decide +kernel
theorem pm_a78_22 : pm_as (pm_cd pm_mm78) 22 = some (.getfield 20, 3) := by decide +kernel
theorem pm_a78_25 : pm_as (pm_cd pm_mm78) 25 = some (.iload_n 2, 1) := by decide +kernel
theorem pm_a78_26 : pm_as (pm_cd pm_mm78) 26 = some (.iconst 2, 1) := by decide +kernel
theorem pm_a78_27 : pm_as (pm_cd pm_mm78) 27 = some (.iadd, 1) := by decide +kernel
theorem pm_a78_28 : pm_as (pm_cd pm_mm78) 28 = some (.invokevirtual 61, 3) := by decide +kernel
theorem pm_a78_31 : pm_as (pm_cd pm_mm78) 31 = some (.istore_n 3, 1) := by decide +kernel
theorem pm_a78_32 : pm_as (pm_cd pm_mm78) 32 = some (.aload_n 1, 1) := by decide +kernel
theorem pm_a78_33 : pm_as (pm_cd pm_mm78) 33 = some (.iload_n 3, 1) := by decide +kernel
theorem pm_a78_34 : pm_as (pm_cd pm_mm78) 34 = some (.invokevirtual 75, 3) := by decide +kernel
theorem pm_a78_37 : pm_as (pm_cd pm_mm78) 37 = some (.bipush 10, 2) := by decide +kernel
theorem pm_a78_39 : pm_as (pm_cd pm_mm78) 39 = some (.if_icmp .ne 27, 3) := by decide +kernel
theorem pm_a78_42 : pm_as (pm_cd pm_mm78) 42 = some (.aload_n 0, 1) := by decide +kernel
theorem pm_a78_43 : pm_as (pm_cd pm_mm78) 43 = some (.aload_n 1, 1) := by decide +kernel
theorem pm_a78_44 : pm_as (pm_cd pm_mm78) 44 = some (.iload_n 2, 1) := by decide +kernel
theorem pm_a78_45 : pm_as (pm_cd pm_mm78) 45 = some (.iconst 2, 1) := by decide +kernel
theorem pm_a78_46 : pm_as (pm_cd pm_mm78) 46 = some (.iadd, 1) := by decide +kernel
theorem pm_a78_47 : pm_as (pm_cd pm_mm78) 47 = some (.iload_n 3, 1) := by decide +kernel
theorem pm_a78_48 : pm_as (pm_cd pm_mm78) 48 = some (.aload_n 0, 1) := by decide +kernel
theorem pm_a78_49 : pm_as (pm_cd pm_mm78) 49 = some (.getfield 20, 3) := by decide +kernel
theorem pm_a78_52 : pm_as (pm_cd pm_mm78) 52 = some (.iload_n 2, 1) := by decide +kernel
theorem pm_a78_53 : pm_as (pm_cd pm_mm78) 53 = some (.invokevirtual 82, 3) := by decide +kernel
theorem pm_a78_56 : pm_as (pm_cd pm_mm78) 56 = some (.invokevirtual 85, 3) := by decide +kernel
theorem pm_a78_59 : pm_as (pm_cd pm_mm78) 59 = some (.ifCond .ne 7, 3) := by decide +kernel
theorem pm_a78_62 : pm_as (pm_cd pm_mm78) 62 = some (.iconst 1, 1) := by decide +kernel
theorem pm_a78_63 : pm_as (pm_cd pm_mm78) 63 = some (.goto 4, 3) := by decide +kernel
theorem pm_a78_66 : pm_as (pm_cd pm_mm78) 66 = some (.iconst 0, 1) := by decide +kernel
theorem pm_a78_67 : pm_as (pm_cd pm_mm78) 67 = some (.ireturn, 1) := by decide +kernel
theorem pm_a79_0 : pm_as (pm_cd pm_mm79) 0 = some (.iload_n 2, 1) := by decide +kernel
theorem pm_a79_1 : pm_as (pm_cd pm_mm79) 1 = some (.istore 5, 2) := by decide +kernel
theorem pm_a79_3 : pm_as (pm_cd pm_mm79) 3 = some (.iload 5, 2) := by decide +kernel
theorem pm_a79_5 : pm_as (pm_cd pm_mm79) 5 = some (.iload_n 3, 1) := by decide +kernel
theorem pm_a79_6 : pm_as (pm_cd pm_mm79) 6 = some (.if_icmp .ge 42, 3) := by decide +kernel
theorem pm_a79_9 : pm_as (pm_cd pm_mm79) 9 = some (.aload_n 1, 1) := by decide +kernel
theorem pm_a79_10 : pm_as (pm_cd pm_mm79) 10 = some (.iload 5, 2) := by decide +kernel
theorem pm_a79_12 : pm_as (pm_cd pm_mm79) 12 = some (.invokevirtual 75, 3) := by decide +kernel
theorem pm_a79_15 : pm_as (pm_cd pm_mm79) 15 = some (.istore 6, 2) := by decide +kernel
theorem pm_a79_17 : pm_as (pm_cd pm_mm79) 17 = some (.iload 6, 2) := by decide +kernel
theorem pm_a79_19 : pm_as (pm_cd pm_mm79) 19 = some (.bipush 10, 2) := by decide +kernel
theorem pm_a79_21 : pm_as (pm_cd pm_mm79) 21 = some (.if_icmp .lt 21, 3) := by decide +kernel
theorem pm_a79_24 : pm_as (pm_cd pm_mm79) 24 = some (.aload_n 0, 1) := by decide +kernel
theorem pm_a79_25 : pm_as (pm_cd pm_mm79) 25 = some (.getfield 20, 3) := by decide +kernel
theorem pm_a79_28 : pm_as (pm_cd pm_mm79) 28 = some (.iload 6, 2) := by decide +kernel
theorem pm_a79_30 : pm_as (pm_cd pm_mm79) 30 = some (.iload 5, 2) := by decide +kernel
theorem pm_a79_32 : pm_as (pm_cd pm_mm79) 32 = some (.invokevirtual 89, 3) := by decide +kernel
theorem pm_a79_35 : pm_as (pm_cd pm_mm79) 35 = some (.iload 4, 2) := by decide +kernel
theorem pm_a79_37 : pm_as (pm_cd pm_mm79) 37 = some (.if_icmp .ne 5, 3) := by decide +kernel
theorem pm_a79_40 : pm_as (pm_cd pm_mm79) 40 = some (.iconst 1, 1) := by decide +kernel
theorem pm_a79_41 : pm_as (pm_cd pm_mm79) 41 = some (.ireturn, 1) := by decide +kernel
theorem pm_a79_42 : pm_as (pm_cd pm_mm79) 42 = some (.iinc 5 1, 3) := by decide +kernel
theorem pm_a79_45 : pm_as (pm_cd pm_mm79) 45 = some (.goto (-42), 3) := by decide +kernel
theorem pm_a79_48 : pm_as (pm_cd pm_mm79) 48 = some (.iconst 0, 1) := by decide +kernel
theorem pm_a79_49 : pm_as (pm_cd pm_mm79) 49 = some (.ireturn, 1) := by decide +kernel
theorem pm_a80_0 : pm_as (pm_cd pm_mm80) 0 = some (.aload_n 0, 1) := by decide +kernel
theorem pm_a80_1 : pm_as (pm_cd pm_mm80) 1 = some (.iload_n 2, 1) := by decide +kernel
theorem pm_a80_2 : pm_as (pm_cd pm_mm80) 2 = some (.invokevirtual 45, 3) := by decide +kernel
theorem pm_a80_5 : pm_as (pm_cd pm_mm80) 5 = some (.iconst 1, 1) := by decide +kernel
theorem pm_a80_6 : pm_as (pm_cd pm_mm80) 6 = some (.isub, 1) := by decide +kernel
theorem pm_a80_7 : pm_as (pm_cd pm_mm80) 7 = some (.iload_n 1, 1) := by decide +kernel
theorem pm_a80_8 : pm_as (pm_cd pm_mm80) 8 = some (.bipush 10, 2) := by decide +kernel
theorem pm_a80_10 : pm_as (pm_cd pm_mm80) 10 = some (.isub, 1) := by decide +kernel
theorem pm_a80_11 : pm_as (pm_cd pm_mm80) 11 = some (.isub, 1) := by decide +kernel
theorem pm_a80_12 : pm_as (pm_cd pm_mm80) 12 = some (.ireturn, 1) := by decide +kernel
theorem pm_a81_0 : pm_as (pm_cd pm_mm81) 0 = some (.iconst 1, 1) := by decide +kernel
theorem pm_a81_1 : pm_as (pm_cd pm_mm81) 1 = some (.istore_n 2, 1) := by decide +kernel
theorem pm_a81_2 : pm_as (pm_cd pm_mm81) 2 = some (.iload_n 1, 1) := by decide +kernel
theorem pm_a81_3 : pm_as (pm_cd pm_mm81) 3 = some (.istore_n 3, 1) := by decide +kernel
theorem pm_a81_4 : pm_as (pm_cd pm_mm81) 4 = some (.iload_n 2, 1) := by decide +kernel
theorem pm_a81_5 : pm_as (pm_cd pm_mm81) 5 = some (.ifCond .le 44, 3) := by decide +kernel
theorem pm_a81_8 : pm_as (pm_cd pm_mm81) 8 = some (.iload_n 3, 1) := by decide +kernel
theorem pm_a81_9 : pm_as (pm_cd pm_mm81) 9 = some (.aload_n 0, 1) := by decide +kernel
theorem pm_a81_10 : pm_as (pm_cd pm_mm81) 10 = some (.getfield 21, 3) := by decide +kernel
theorem pm_a81_13 : pm_as (pm_cd pm_mm81) 13 = some (.if_icmp .ge 36, 3) := by decide +kernel
theorem pm_a81_16 : pm_as (pm_cd pm_mm81) 16 = some (.aload_n 0, 1) := by decide +kernel
theorem pm_a81_17 : pm_as (pm_cd pm_mm81) 17 = some (.iload_n 3, 1) := by decide +kernel
theorem pm_a81_18 : pm_as (pm_cd pm_mm81) 18 = some (.invokevirtual 39, 3) := by decide +kernel
theorem pm_a81_21 : pm_as (pm_cd pm_mm81) 21 = some (.istore 4, 2) := by decide +kernel
theorem pm_a81_23 : pm_as (pm_cd pm_mm81) 23 = some (.iload 4, 2) := by decide +kernel
theorem pm_a81_25 : pm_as (pm_cd pm_mm81) 25 = some (.ifCond .ne 9, 3) := by decide +kernel
theorem pm_a81_28 : pm_as (pm_cd pm_mm81) 28 = some (.iinc 2 1, 3) := by decide +kernel
theorem pm_a81_31 : pm_as (pm_cd pm_mm81) 31 = some (.goto 12, 3) := by decide +kernel
theorem pm_a81_34 : pm_as (pm_cd pm_mm81) 34 = some (.iload 4, 2) := by decide +kernel
theorem pm_a81_36 : pm_as (pm_cd pm_mm81) 36 = some (.iconst 1, 1) := by decide +kernel
theorem pm_a81_37 : pm_as (pm_cd pm_mm81) 37 = some (.if_icmp .eq 6, 3) := by decide +kernel
theorem pm_a81_40 : pm_as (pm_cd pm_mm81) 40 = some (.iinc 2 (-1), 3) := by decide +kernel
theorem pm_a81_43 : pm_as (pm_cd pm_mm81) 43 = some (.iinc 3 1, 3) := by decide +kernel
theorem pm_a81_46 : pm_as (pm_cd pm_mm81) 46 = some (.goto (-42), 3) := by decide +kernel
theorem pm_a81_49 : pm_as (pm_cd pm_mm81) 49 = some (.iload_n 3, 1) := by decide +kernel
theorem pm_a81_50 : pm_as (pm_cd pm_mm81) 50 = some (.ireturn, 1) := by decide +kernel
theorem pm_a82_0 : pm_as (pm_cd pm_mm82) 0 = some (.iload_n 2, 1) := by decide +kernel
theorem pm_a82_1 : pm_as (pm_cd pm_mm82) 1 = some (.istore 5, 2) := by decide +kernel
theorem pm_a82_3 : pm_as (pm_cd pm_mm82) 3 = some (.iload 5, 2) := by decide +kernel
theorem pm_a82_5 : pm_as (pm_cd pm_mm82) 5 = some (.iload_n 3, 1) := by decide +kernel
theorem pm_a82_6 : pm_as (pm_cd pm_mm82) 6 = some (.if_icmp .ge 99, 3) := by decide +kernel
theorem pm_a82_9 : pm_as (pm_cd pm_mm82) 9 = some (.aload_n 0, 1) := by decide +kernel
theorem pm_a82_10 : pm_as (pm_cd pm_mm82) 10 = some (.getfield 14, 3) := by decide +kernel
theorem pm_a82_13 : pm_as (pm_cd pm_mm82) 13 = some (.getfield 102, 3) := by decide +kernel
theorem pm_a82_16 : pm_as (pm_cd pm_mm82) 16 = some (.ifCond .ne 89, 3) := by decide +kernel
theorem pm_a82_19 : pm_as (pm_cd pm_mm82) 19 = some (.aload_n 1, 1) := by decide +kernel
theorem pm_a82_20 : pm_as (pm_cd pm_mm82) 20 = some (.iload 5, 2) := by decide +kernel
theorem pm_a82_22 : pm_as (pm_cd pm_mm82) 22 = some (.invokevirtual 75, 3) := by decide +kernel
theorem pm_a82_25 : pm_as (pm_cd pm_mm82) 25 = some (.istore 6, 2) := by decide +kernel
theorem pm_a82_27 : pm_as (pm_cd pm_mm82) 27 = some (.iload 6, 2) := by decide +kernel
theorem pm_a82_29 : pm_as (pm_cd pm_mm82) 29 = some (.bipush 10, 2) := by decide +kernel
theorem pm_a82_31 : pm_as (pm_cd pm_mm82) 31 = some (.if_icmp .lt 17, 3) := by decide +kernel
theorem pm_a82_34 : pm_as (pm_cd pm_mm82) 34 = some (.aload_n 0, 1) := by decide +kernel
theorem pm_a82_35 : pm_as (pm_cd pm_mm82) 35 = some (.getfield 20, 3) := by decide +kernel
theorem pm_a82_38 : pm_as (pm_cd pm_mm82) 38 = some (.iload 6, 2) := by decide +kernel
theorem pm_a82_40 : pm_as (pm_cd pm_mm82) 40 = some (.iload 5, 2) := by decide +kernel
theorem pm_a82_42 : pm_as (pm_cd pm_mm82) 42 = some (.invokevirtual 89, 3) := by decide +kernel
theorem pm_a82_45 : pm_as (pm_cd pm_mm82) 45 = some (.goto 4, 3) := by decide +kernel
theorem pm_a82_48 : pm_as (pm_cd pm_mm82) 48 = some (.iconst 1, 1) := by decide +kernel
theorem pm_a82_49 : pm_as (pm_cd pm_mm82) 49 = some (.istore 7, 2) := by decide +kernel
theorem pm_a82_51 : pm_as (pm_cd pm_mm82) 51 = some (.iload 7, 2) := by decide +kernel
theorem pm_a82_53 : pm_as (pm_cd pm_mm82) 53 = some (.ifCond .ne 25, 3) := by decide +kernel
theorem pm_a82_56 : pm_as (pm_cd pm_mm82) 56 = some (.aload_n 0, 1) := by decide +kernel
theorem pm_a82_57 : pm_as (pm_cd pm_mm82) 57 = some (.aload_n 1, 1) := by decide +kernel
theorem pm_a82_58 : pm_as (pm_cd pm_mm82) 58 = some (.iload_n 3, 1) := by decide +kernel
theorem pm_a82_59 : pm_as (pm_cd pm_mm82) 59 = some (.iload 4, 2) := by decide +kernel
theorem pm_a82_61 : pm_as (pm_cd pm_mm82) 61 = some (.aload_n 0, 1) := by decide +kernel
theorem pm_a82_62 : pm_as (pm_cd pm_mm82) 62 = some (.getfield 20, 3) := by decide +kernel
theorem pm_a82_65 : pm_as (pm_cd pm_mm82) 65 = some (.iload 5, 2) := by decide +kernel
theorem pm_a82_67 : pm_as (pm_cd pm_mm82) 67 = some (.invokevirtual 82, 3) := by decide +kernel
theorem pm_a82_70 : pm_as (pm_cd pm_mm82) 70 = some (.iconst 1, 1) := by decide +kernel
theorem pm_a82_71 : pm_as (pm_cd pm_mm82) 71 = some (.isub, 1) := by decide +kernel
theorem pm_a82_72 : pm_as (pm_cd pm_mm82) 72 = some (.invokevirtual 106, 3) := by decide +kernel
theorem pm_a82_75 : pm_as (pm_cd pm_mm82) 75 = some (.goto 24, 3) := by decide +kernel
theorem pm_a82_78 : pm_as (pm_cd pm_mm82) 78 = some (.aload_n 0, 1) := by decide +kernel
theorem pm_a82_79 : pm_as (pm_cd pm_mm82) 79 = some (.getfield 14, 3) := by decide +kernel
theorem pm_a82_82 : pm_as (pm_cd pm_mm82) 82 = some (.iload 7, 2) := by decide +kernel
theorem pm_a82_84 : pm_as (pm_cd pm_mm82) 84 = some (.ifCond .ge 10, 3) := by decide +kernel
theorem pm_a82_87 : pm_as (pm_cd pm_mm82) 87 = some (.iload 6, 2) := by decide +kernel
theorem pm_a82_89 : pm_as (pm_cd pm_mm82) 89 = some (.iconst 1, 1) := by decide +kernel
theorem pm_a82_90 : pm_as (pm_cd pm_mm82) 90 = some (.isub, 1) := by decide +kernel
theorem pm_a82_91 : pm_as (pm_cd pm_mm82) 91 = some (.goto 5, 3) := by decide +kernel
theorem pm_a82_94 : pm_as (pm_cd pm_mm82) 94 = some (.iload 6, 2) := by decide +kernel
theorem pm_a82_96 : pm_as (pm_cd pm_mm82) 96 = some (.invokevirtual 99, 3) := by decide +kernel
theorem pm_a82_99 : pm_as (pm_cd pm_mm82) 99 = some (.iinc 5 1, 3) := by decide +kernel
theorem pm_a82_102 : pm_as (pm_cd pm_mm82) 102 = some (.goto (-99), 3) := by decide +kernel
theorem pm_a82_105 : pm_as (pm_cd pm_mm82) 105 = some (.return_, 1) := by decide +kernel
theorem pm_a83_0 : pm_as (pm_cd pm_mm83) 0 = some (.iload_n 2, 1) := by decide +kernel
theorem pm_a83_1 : pm_as (pm_cd pm_mm83) 1 = some (.istore 5, 2) := by decide +kernel
theorem pm_a83_3 : pm_as (pm_cd pm_mm83) 3 = some (.iload 5, 2) := by decide +kernel
theorem pm_a83_5 : pm_as (pm_cd pm_mm83) 5 = some (.iload_n 3, 1) := by decide +kernel
theorem pm_a83_6 : pm_as (pm_cd pm_mm83) 6 = some (.if_icmp .ge 77, 3) := by decide +kernel
theorem pm_a83_9 : pm_as (pm_cd pm_mm83) 9 = some (.aload_n 0, 1) := by decide +kernel
theorem pm_a83_10 : pm_as (pm_cd pm_mm83) 10 = some (.getfield 14, 3) := by decide +kernel
theorem pm_a83_13 : pm_as (pm_cd pm_mm83) 13 = some (.getfield 102, 3) := by decide +kernel
theorem pm_a83_16 : pm_as (pm_cd pm_mm83) 16 = some (.ifCond .ne 67, 3) := by decide +kernel
theorem pm_a83_19 : pm_as (pm_cd pm_mm83) 19 = some (.aload_n 1, 1) := by decide +kernel
theorem pm_a83_20 : pm_as (pm_cd pm_mm83) 20 = some (.iload 5, 2) := by decide +kernel
theorem pm_a83_22 : pm_as (pm_cd pm_mm83) 22 = some (.invokevirtual 75, 3) := by decide +kernel
theorem pm_a83_25 : pm_as (pm_cd pm_mm83) 25 = some (.istore 6, 2) := by decide +kernel
theorem pm_a83_27 : pm_as (pm_cd pm_mm83) 27 = some (.iload 6, 2) := by decide +kernel
theorem pm_a83_29 : pm_as (pm_cd pm_mm83) 29 = some (.bipush 10, 2) := by decide +kernel
theorem pm_a83_31 : pm_as (pm_cd pm_mm83) 31 = some (.if_icmp .lt 21, 3) := by decide +kernel
theorem pm_a83_34 : pm_as (pm_cd pm_mm83) 34 = some (.aload_n 0, 1) := by decide +kernel
theorem pm_a83_35 : pm_as (pm_cd pm_mm83) 35 = some (.getfield 20, 3) := by decide +kernel
theorem pm_a83_38 : pm_as (pm_cd pm_mm83) 38 = some (.iload 6, 2) := by decide +kernel
theorem pm_a83_40 : pm_as (pm_cd pm_mm83) 40 = some (.iload 5, 2) := by decide +kernel
theorem pm_a83_42 : pm_as (pm_cd pm_mm83) 42 = some (.invokevirtual 89, 3) := by decide +kernel
theorem pm_a83_45 : pm_as (pm_cd pm_mm83) 45 = some (.ifCond .ge 7, 3) := by decide +kernel
theorem pm_a83_48 : pm_as (pm_cd pm_mm83) 48 = some (.iconst 1, 1) := by decide +kernel
theorem pm_a83_49 : pm_as (pm_cd pm_mm83) 49 = some (.goto 4, 3) := by decide +kernel
theorem pm_a83_52 : pm_as (pm_cd pm_mm83) 52 = some (.iconst 0, 1) := by decide +kernel
theorem pm_a83_53 : pm_as (pm_cd pm_mm83) 53 = some (.istore 7, 2) := by decide +kernel
theorem pm_a83_55 : pm_as (pm_cd pm_mm83) 55 = some (.aload_n 0, 1) := by decide +kernel
theorem pm_a83_56 : pm_as (pm_cd pm_mm83) 56 = some (.getfield 14, 3) := by decide +kernel
theorem pm_a83_59 : pm_as (pm_cd pm_mm83) 59 = some (.iload 7, 2) := by decide +kernel
theorem pm_a83_61 : pm_as (pm_cd pm_mm83) 61 = some (.ifCond .eq 11, 3) := by decide +kernel
theorem pm_a83_64 : pm_as (pm_cd pm_mm83) 64 = some (.iload 6, 2) := by decide +kernel
theorem pm_a83_66 : pm_as (pm_cd pm_mm83) 66 = some (.iload 4, 2) := by decide +kernel
theorem pm_a83_68 : pm_as (pm_cd pm_mm83) 68 = some (.iadd, 1) := by decide +kernel
theorem pm_a83_69 : pm_as (pm_cd pm_mm83) 69 = some (.goto 5, 3) := by decide +kernel
theorem pm_a83_72 : pm_as (pm_cd pm_mm83) 72 = some (.iload 6, 2) := by decide +kernel
theorem pm_a83_74 : pm_as (pm_cd pm_mm83) 74 = some (.invokevirtual 99, 3) := by decide +kernel
theorem pm_a83_77 : pm_as (pm_cd pm_mm83) 77 = some (.iinc 5 1, 3) := by decide +kernel
theorem pm_a83_80 : pm_as (pm_cd pm_mm83) 80 = some (.goto (-77), 3) := by decide +kernel
theorem pm_a83_83 : pm_as (pm_cd pm_mm83) 83 = some (.return_, 1) := by decide +kernel
theorem pm_a84_0 : pm_as (pm_cd pm_mm84) 0 = some (.aload_n 1, 1) := by decide +kernel
theorem pm_a84_1 : pm_as (pm_cd pm_mm84) 1 = some (.iload_n 2, 1) := by decide +kernel
theorem pm_a84_2 : pm_as (pm_cd pm_mm84) 2 = some (.invokestatic 28, 3) := by decide +kernel
theorem pm_a84_5 : pm_as (pm_cd pm_mm84) 5 = some (.tableswitch 92 1 4 #[31, 92, 68, 53], 31) := by decide +kernel
theorem pm_a84_36 : pm_as (pm_cd pm_mm84) 36 = some (.aload_n 0, 1) := by decide +kernel
theorem pm_a84_37 : pm_as (pm_cd pm_mm84) 37 = some (.aload_n 1, 1) := by decide +kernel
theorem pm_a84_38 : pm_as (pm_cd pm_mm84) 38 = some (.iload_n 2, 1) := by decide +kernel
theorem pm_a84_39 : pm_as (pm_cd pm_mm84) 39 = some (.iconst 2, 1) := by decide +kernel
theorem pm_a84_40 : pm_as (pm_cd pm_mm84) 40 = some (.iadd, 1) := by decide +kernel
theorem pm_a84_41 : pm_as (pm_cd pm_mm84) 41 = some (.aload_n 0, 1) := by decide +kernel
theorem pm_a84_42 : pm_as (pm_cd pm_mm84) 42 = some (.getfield 20, 3) := by decide +kernel
theorem pm_a84_45 : pm_as (pm_cd pm_mm84) 45 = some (.iload_n 2, 1) := by decide +kernel
theorem pm_a84_46 : pm_as (pm_cd pm_mm84) 46 = some (.iconst 2, 1) := by decide +kernel
theorem pm_a84_47 : pm_as (pm_cd pm_mm84) 47 = some (.iadd, 1) := by decide +kernel
theorem pm_a84_48 : pm_as (pm_cd pm_mm84) 48 = some (.invokevirtual 61, 3) := by decide +kernel
theorem pm_a84_51 : pm_as (pm_cd pm_mm84) 51 = some (.iload_n 3, 1) := by decide +kernel
theorem pm_a84_52 : pm_as (pm_cd pm_mm84) 52 = some (.invokevirtual 64, 3) := by decide +kernel
theorem pm_a84_55 : pm_as (pm_cd pm_mm84) 55 = some (.goto 51, 3) := by decide +kernel
theorem pm_a84_58 : pm_as (pm_cd pm_mm84) 58 = some (.aload_n 0, 1) := by decide +kernel
theorem pm_a84_59 : pm_as (pm_cd pm_mm84) 59 = some (.getfield 14, 3) := by decide +kernel
theorem pm_a84_62 : pm_as (pm_cd pm_mm84) 62 = some (.aload_n 1, 1) := by decide +kernel
theorem pm_a84_63 : pm_as (pm_cd pm_mm84) 63 = some (.iload_n 2, 1) := by decide +kernel
theorem pm_a84_64 : pm_as (pm_cd pm_mm84) 64 = some (.iconst 2, 1) := by decide +kernel
theorem pm_a84_65 : pm_as (pm_cd pm_mm84) 65 = some (.iadd, 1) := by decide +kernel
theorem pm_a84_66 : pm_as (pm_cd pm_mm84) 66 = some (.iload_n 3, 1) := by decide +kernel
theorem pm_a84_67 : pm_as (pm_cd pm_mm84) 67 = some (.invokevirtual 93, 3) := by decide +kernel
theorem pm_a84_70 : pm_as (pm_cd pm_mm84) 70 = some (.goto 36, 3) := by decide +kernel
theorem pm_a84_73 : pm_as (pm_cd pm_mm84) 73 = some (.aload_n 0, 1) := by decide +kernel
theorem pm_a84_74 : pm_as (pm_cd pm_mm84) 74 = some (.getfield 14, 3) := by decide +kernel
theorem pm_a84_77 : pm_as (pm_cd pm_mm84) 77 = some (.aload_n 1, 1) := by decide +kernel
theorem pm_a84_78 : pm_as (pm_cd pm_mm84) 78 = some (.iload_n 2, 1) := by decide +kernel
theorem pm_a84_79 : pm_as (pm_cd pm_mm84) 79 = some (.iconst 3, 1) := by decide +kernel
theorem pm_a84_80 : pm_as (pm_cd pm_mm84) 80 = some (.iadd, 1) := by decide +kernel
theorem pm_a84_81 : pm_as (pm_cd pm_mm84) 81 = some (.aload_n 0, 1) := by decide +kernel
theorem pm_a84_82 : pm_as (pm_cd pm_mm84) 82 = some (.getfield 20, 3) := by decide +kernel
theorem pm_a84_85 : pm_as (pm_cd pm_mm84) 85 = some (.iload_n 2, 1) := by decide +kernel
theorem pm_a84_86 : pm_as (pm_cd pm_mm84) 86 = some (.iconst 3, 1) := by decide +kernel
theorem pm_a84_87 : pm_as (pm_cd pm_mm84) 87 = some (.iadd, 1) := by decide +kernel
theorem pm_a84_88 : pm_as (pm_cd pm_mm84) 88 = some (.invokevirtual 61, 3) := by decide +kernel
theorem pm_a84_91 : pm_as (pm_cd pm_mm84) 91 = some (.invokevirtual 93, 3) := by decide +kernel
theorem pm_a84_94 : pm_as (pm_cd pm_mm84) 94 = some (.goto 12, 3) := by decide +kernel
theorem pm_a84_97 : pm_as (pm_cd pm_mm84) 97 = some (.aload_n 0, 1) := by decide +kernel
theorem pm_a84_98 : pm_as (pm_cd pm_mm84) 98 = some (.aload_n 1, 1) := by decide +kernel
theorem pm_a84_99 : pm_as (pm_cd pm_mm84) 99 = some (.iload_n 2, 1) := by decide +kernel
theorem pm_a84_100 : pm_as (pm_cd pm_mm84) 100 = some (.iconst 4, 1) := by decide +kernel
theorem pm_a84_101 : pm_as (pm_cd pm_mm84) 101 = some (.iadd, 1) := by decide +kernel
theorem pm_a84_102 : pm_as (pm_cd pm_mm84) 102 = some (.iload_n 3, 1) := by decide +kernel
theorem pm_a84_103 : pm_as (pm_cd pm_mm84) 103 = some (.invokevirtual 96, 3) := by decide +kernel
theorem pm_a84_106 : pm_as (pm_cd pm_mm84) 106 = some (.return_, 1) := by decide +kernel
theorem pm_a85_0 : pm_as (pm_cd pm_mm85) 0 = some (.aload_n 0, 1) := by decide +kernel
theorem pm_a85_1 : pm_as (pm_cd pm_mm85) 1 = some (.getfield 20, 3) := by decide +kernel
theorem pm_a85_4 : pm_as (pm_cd pm_mm85) 4 = some (.iload_n 2, 1) := by decide +kernel
theorem pm_a85_5 : pm_as (pm_cd pm_mm85) 5 = some (.invokevirtual 61, 3) := by decide +kernel
theorem pm_a85_8 : pm_as (pm_cd pm_mm85) 8 = some (.istore 4, 2) := by decide +kernel
theorem pm_a85_10 : pm_as (pm_cd pm_mm85) 10 = some (.aload_n 0, 1) := by decide +kernel
theorem pm_a85_11 : pm_as (pm_cd pm_mm85) 11 = some (.getfield 20, 3) := by decide +kernel
theorem pm_a85_14 : pm_as (pm_cd pm_mm85) 14 = some (.iload 4, 2) := by decide +kernel
theorem pm_a85_16 : pm_as (pm_cd pm_mm85) 16 = some (.invokevirtual 61, 3) := by decide +kernel
theorem pm_a85_19 : pm_as (pm_cd pm_mm85) 19 = some (.istore 5, 2) := by decide +kernel
theorem pm_a85_21 : pm_as (pm_cd pm_mm85) 21 = some (.aload_n 0, 1) := by decide +kernel
theorem pm_a85_22 : pm_as (pm_cd pm_mm85) 22 = some (.getfield 14, 3) := by decide +kernel
theorem pm_a85_25 : pm_as (pm_cd pm_mm85) 25 = some (.iconst 0, 1) := by decide +kernel
theorem pm_a85_26 : pm_as (pm_cd pm_mm85) 26 = some (.invokevirtual 99, 3) := by decide +kernel
theorem pm_a85_29 : pm_as (pm_cd pm_mm85) 29 = some (.aload_n 0, 1) := by decide +kernel
theorem pm_a85_30 : pm_as (pm_cd pm_mm85) 30 = some (.getfield 14, 3) := by decide +kernel
theorem pm_a85_33 : pm_as (pm_cd pm_mm85) 33 = some (.iconst 0, 1) := by decide +kernel
theorem pm_a85_34 : pm_as (pm_cd pm_mm85) 34 = some (.invokevirtual 99, 3) := by decide +kernel
theorem pm_a85_37 : pm_as (pm_cd pm_mm85) 37 = some (.aload_n 0, 1) := by decide +kernel
theorem pm_a85_38 : pm_as (pm_cd pm_mm85) 38 = some (.getfield 14, 3) := by decide +kernel
theorem pm_a85_41 : pm_as (pm_cd pm_mm85) 41 = some (.aload_n 1, 1) := by decide +kernel
theorem pm_a85_42 : pm_as (pm_cd pm_mm85) 42 = some (.iload_n 2, 1) := by decide +kernel
theorem pm_a85_43 : pm_as (pm_cd pm_mm85) 43 = some (.iload 4, 2) := by decide +kernel
theorem pm_a85_45 : pm_as (pm_cd pm_mm85) 45 = some (.invokevirtual 93, 3) := by decide +kernel
theorem pm_a85_48 : pm_as (pm_cd pm_mm85) 48 = some (.aload_n 0, 1) := by decide +kernel
theorem pm_a85_49 : pm_as (pm_cd pm_mm85) 49 = some (.getfield 14, 3) := by decide +kernel
theorem pm_a85_52 : pm_as (pm_cd pm_mm85) 52 = some (.aload_n 1, 1) := by decide +kernel
theorem pm_a85_53 : pm_as (pm_cd pm_mm85) 53 = some (.iload 5, 2) := by decide +kernel
theorem pm_a85_55 : pm_as (pm_cd pm_mm85) 55 = some (.iload_n 3, 1) := by decide +kernel
theorem pm_a85_56 : pm_as (pm_cd pm_mm85) 56 = some (.invokevirtual 93, 3) := by decide +kernel
theorem pm_a85_59 : pm_as (pm_cd pm_mm85) 59 = some (.aload_n 0, 1) := by decide +kernel
theorem pm_a85_60 : pm_as (pm_cd pm_mm85) 60 = some (.getfield 14, 3) := by decide +kernel
theorem pm_a85_63 : pm_as (pm_cd pm_mm85) 63 = some (.iconst 0, 1) := by decide +kernel
theorem pm_a85_64 : pm_as (pm_cd pm_mm85) 64 = some (.invokevirtual 99, 3) := by decide +kernel
theorem pm_a85_67 : pm_as (pm_cd pm_mm85) 67 = some (.aload_n 0, 1) := by decide +kernel
theorem pm_a85_68 : pm_as (pm_cd pm_mm85) 68 = some (.getfield 14, 3) := by decide +kernel
theorem pm_a85_71 : pm_as (pm_cd pm_mm85) 71 = some (.aload_n 1, 1) := by decide +kernel
theorem pm_a85_72 : pm_as (pm_cd pm_mm85) 72 = some (.iload 4, 2) := by decide +kernel
theorem pm_a85_74 : pm_as (pm_cd pm_mm85) 74 = some (.iload 5, 2) := by decide +kernel
theorem pm_a85_76 : pm_as (pm_cd pm_mm85) 76 = some (.invokevirtual 93, 3) := by decide +kernel
theorem pm_a85_79 : pm_as (pm_cd pm_mm85) 79 = some (.aload_n 0, 1) := by decide +kernel
theorem pm_a85_80 : pm_as (pm_cd pm_mm85) 80 = some (.getfield 14, 3) := by decide +kernel
theorem pm_a85_83 : pm_as (pm_cd pm_mm85) 83 = some (.aload_n 1, 1) := by decide +kernel
theorem pm_a85_84 : pm_as (pm_cd pm_mm85) 84 = some (.iload 5, 2) := by decide +kernel
theorem pm_a85_86 : pm_as (pm_cd pm_mm85) 86 = some (.iload_n 3, 1) := by decide +kernel
theorem pm_a85_87 : pm_as (pm_cd pm_mm85) 87 = some (.invokevirtual 93, 3) := by decide +kernel
theorem pm_a85_90 : pm_as (pm_cd pm_mm85) 90 = some (.return_, 1) := by decide +kernel
theorem pm_a86_0 : pm_as (pm_cd pm_mm86) 0 = some (.iload_n 1, 1) := by decide +kernel
theorem pm_a86_1 : pm_as (pm_cd pm_mm86) 1 = some (.ifCond .lt 20, 3) := by decide +kernel
theorem pm_a86_4 : pm_as (pm_cd pm_mm86) 4 = some (.iload_n 1, 1) := by decide +kernel
theorem pm_a86_5 : pm_as (pm_cd pm_mm86) 5 = some (.iload_n 2, 1) := by decide +kernel
theorem pm_a86_6 : pm_as (pm_cd pm_mm86) 6 = some (.if_icmp .gt 15, 3) := by decide +kernel
theorem pm_a86_9 : pm_as (pm_cd pm_mm86) 9 = some (.iload_n 2, 1) := by decide +kernel
theorem pm_a86_10 : pm_as (pm_cd pm_mm86) 10 = some (.aload_n 0, 1) := by decide +kernel
theorem pm_a86_11 : pm_as (pm_cd pm_mm86) 11 = some (.getfield 21, 3) := by decide +kernel
theorem pm_a86_14 : pm_as (pm_cd pm_mm86) 14 = some (.if_icmp .gt 7, 3) := by decide +kernel
theorem pm_a86_17 : pm_as (pm_cd pm_mm86) 17 = some (.iconst 1, 1) := by decide +kernel
theorem pm_a86_18 : pm_as (pm_cd pm_mm86) 18 = some (.goto 4, 3) := by decide +kernel
theorem pm_a86_21 : pm_as (pm_cd pm_mm86) 21 = some (.iconst 0, 1) := by decide +kernel
theorem pm_a86_22 : pm_as (pm_cd pm_mm86) 22 = some (.istore 4, 2) := by decide +kernel
theorem pm_a86_24 : pm_as (pm_cd pm_mm86) 24 = some (.aload_n 0, 1) := by decide +kernel
theorem pm_a86_25 : pm_as (pm_cd pm_mm86) 25 = some (.getfield 21, 3) := by decide +kernel
theorem pm_a86_28 : pm_as (pm_cd pm_mm86) 28 = some (.iload_n 2, 1) := by decide +kernel
theorem pm_a86_29 : pm_as (pm_cd pm_mm86) 29 = some (.iload_n 1, 1) := by decide +kernel
theorem pm_a86_30 : pm_as (pm_cd pm_mm86) 30 = some (.isub, 1) := by decide +kernel
theorem pm_a86_31 : pm_as (pm_cd pm_mm86) 31 = some (.isub, 1) := by decide +kernel
theorem pm_a86_32 : pm_as (pm_cd pm_mm86) 32 = some (.aload_n 3, 1) := by decide +kernel
theorem pm_a86_33 : pm_as (pm_cd pm_mm86) 33 = some (.getfield 21, 3) := by decide +kernel
theorem pm_a86_36 : pm_as (pm_cd pm_mm86) 36 = some (.iadd, 1) := by decide +kernel
theorem pm_a86_37 : pm_as (pm_cd pm_mm86) 37 = some (.istore 5, 2) := by decide +kernel
theorem pm_a86_39 : pm_as (pm_cd pm_mm86) 39 = some (.iload 4, 2) := by decide +kernel
theorem pm_a86_41 : pm_as (pm_cd pm_mm86) 41 = some (.ifCond .eq 20, 3) := by decide +kernel
theorem pm_a86_44 : pm_as (pm_cd pm_mm86) 44 = some (.aload_n 3, 1) := by decide +kernel
theorem pm_a86_45 : pm_as (pm_cd pm_mm86) 45 = some (.getfield 25, 3) := by decide +kernel
theorem pm_a86_48 : pm_as (pm_cd pm_mm86) 48 = some (.ifCond .ne 13, 3) := by decide +kernel
theorem pm_a86_51 : pm_as (pm_cd pm_mm86) 51 = some (.iload 5, 2) := by decide +kernel
theorem pm_a86_53 : pm_as (pm_cd pm_mm86) 53 = some (.aload_n 0, 1) := by decide +kernel
theorem pm_a86_54 : pm_as (pm_cd pm_mm86) 54 = some (.getfield 15, 3) := by decide +kernel
theorem pm_a86_57 : pm_as (pm_cd pm_mm86) 57 = some (.arraylength, 1) := by decide +kernel
theorem pm_a86_58 : pm_as (pm_cd pm_mm86) 58 = some (.if_icmp .le 5, 3) := by decide +kernel
theorem pm_a86_61 : pm_as (pm_cd pm_mm86) 61 = some (.iconst 0, 1) := by decide +kernel
theorem pm_a86_62 : pm_as (pm_cd pm_mm86) 62 = some (.ireturn, 1) := by decide +kernel
theorem pm_a86_63 : pm_as (pm_cd pm_mm86) 63 = some (.aload_n 0, 1) := by decide +kernel
theorem pm_a86_64 : pm_as (pm_cd pm_mm86) 64 = some (.getfield 15, 3) := by decide +kernel
theorem pm_a86_67 : pm_as (pm_cd pm_mm86) 67 = some (.iload_n 2, 1) := by decide +kernel
theorem pm_a86_68 : pm_as (pm_cd pm_mm86) 68 = some (.aload_n 0, 1) := by decide +kernel
theorem pm_a86_69 : pm_as (pm_cd pm_mm86) 69 = some (.getfield 15, 3) := by decide +kernel
theorem pm_a86_72 : pm_as (pm_cd pm_mm86) 72 = some (.iload_n 1, 1) := by decide +kernel
theorem pm_a86_73 : pm_as (pm_cd pm_mm86) 73 = some (.aload_n 3, 1) := by decide +kernel
theorem pm_a86_74 : pm_as (pm_cd pm_mm86) 74 = some (.getfield 21, 3) := by decide +kernel
theorem pm_a86_77 : pm_as (pm_cd pm_mm86) 77 = some (.iadd, 1) := by decide +kernel
theorem pm_a86_78 : pm_as (pm_cd pm_mm86) 78 = some (.aload_n 0, 1) := by decide +kernel
theorem pm_a86_79 : pm_as (pm_cd pm_mm86) 79 = some (.getfield 21, 3) := by decide +kernel
theorem pm_a86_82 : pm_as (pm_cd pm_mm86) 82 = some (.iload_n 2, 1) := by decide +kernel
theorem pm_a86_83 : pm_as (pm_cd pm_mm86) 83 = some (.isub, 1) := by decide +kernel
theorem pm_a86_84 : pm_as (pm_cd pm_mm86) 84 = some (.invokestatic 29, 3) := by decide +kernel
theorem pm_a86_87 : pm_as (pm_cd pm_mm86) 87 = some (.aload_n 3, 1) := by decide +kernel
theorem pm_a86_88 : pm_as (pm_cd pm_mm86) 88 = some (.getfield 15, 3) := by decide +kernel
theorem pm_a86_91 : pm_as (pm_cd pm_mm86) 91 = some (.iconst 0, 1) := by decide +kernel
theorem pm_a86_92 : pm_as (pm_cd pm_mm86) 92 = some (.aload_n 0, 1) := by decide +kernel
theorem pm_a86_93 : pm_as (pm_cd pm_mm86) 93 = some (.getfield 15, 3) := by decide +kernel
theorem pm_a86_96 : pm_as (pm_cd pm_mm86) 96 = some (.iload_n 1, 1) := by decide +kernel
theorem pm_a86_97 : pm_as (pm_cd pm_mm86) 97 = some (.aload_n 3, 1) := by decide +kernel
theorem pm_a86_98 : pm_as (pm_cd pm_mm86) 98 = some (.getfield 21, 3) := by decide +kernel
theorem pm_a86_101 : pm_as (pm_cd pm_mm86) 101 = some (.invokestatic 29, 3) := by decide +kernel
theorem pm_a86_104 : pm_as (pm_cd pm_mm86) 104 = some (.aload_n 0, 1) := by decide +kernel
theorem pm_a86_105 : pm_as (pm_cd pm_mm86) 105 = some (.iload 5, 2) := by decide +kernel
theorem pm_a86_107 : pm_as (pm_cd pm_mm86) 107 = some (.putfield 21, 3) := by decide +kernel
theorem pm_a86_110 : pm_as (pm_cd pm_mm86) 110 = some (.iconst 1, 1) := by decide +kernel
theorem pm_a86_111 : pm_as (pm_cd pm_mm86) 111 = some (.ireturn, 1) := by decide +kernel
theorem pm_a87_0 : pm_as (pm_cd pm_mm87) 0 = some (.aload_n 0, 1) := by decide +kernel
theorem pm_a87_1 : pm_as (pm_cd pm_mm87) 1 = some (.iload_n 1, 1) := by decide +kernel
theorem pm_a87_2 : pm_as (pm_cd pm_mm87) 2 = some (.invokevirtual 86, 3) := by decide +kernel
theorem pm_a87_5 : pm_as (pm_cd pm_mm87) 5 = some (.astore 4, 2) := by decide +kernel
theorem pm_a87_7 : pm_as (pm_cd pm_mm87) 7 = some (.aload 4, 2) := by decide +kernel
theorem pm_a87_9 : pm_as (pm_cd pm_mm87) 9 = some (.ifnull 17, 3) := by decide +kernel
theorem pm_a87_12 : pm_as (pm_cd pm_mm87) 12 = some (.iload_n 2, 1) := by decide +kernel
theorem pm_a87_13 : pm_as (pm_cd pm_mm87) 13 = some (.invokestatic 114, 3) := by decide +kernel
theorem pm_a87_16 : pm_as (pm_cd pm_mm87) 16 = some (.ifCond .eq 10, 3) := by decide +kernel
theorem pm_a87_19 : pm_as (pm_cd pm_mm87) 19 = some (.iload_n 3, 1) := by decide +kernel
theorem pm_a87_20 : pm_as (pm_cd pm_mm87) 20 = some (.invokestatic 121, 3) := by decide +kernel
theorem pm_a87_23 : pm_as (pm_cd pm_mm87) 23 = some (.ifCond .ne 5, 3) := by decide +kernel
theorem pm_a87_26 : pm_as (pm_cd pm_mm87) 26 = some (.iconst (-1), 1) := by decide +kernel
theorem pm_a87_27 : pm_as (pm_cd pm_mm87) 27 = some (.ireturn, 1) := by decide +kernel
theorem pm_a87_28 : pm_as (pm_cd pm_mm87) 28 = some (.aload_n 0, 1) := by decide +kernel
theorem pm_a87_29 : pm_as (pm_cd pm_mm87) 29 = some (.iconst 0, 1) := by decide +kernel
theorem pm_a87_30 : pm_as (pm_cd pm_mm87) 30 = some (.putfield 124, 3) := by decide +kernel
theorem pm_a87_33 : pm_as (pm_cd pm_mm87) 33 = some (.aload_n 0, 1) := by decide +kernel
theorem pm_a87_34 : pm_as (pm_cd pm_mm87) 34 = some (.iconst 1, 1) := by decide +kernel
theorem pm_a87_35 : pm_as (pm_cd pm_mm87) 35 = some (.putfield 127, 3) := by decide +kernel
theorem pm_a87_38 : pm_as (pm_cd pm_mm87) 38 = some (.iconst 0, 1) := by decide +kernel
theorem pm_a87_39 : pm_as (pm_cd pm_mm87) 39 = some (.istore 5, 2) := by decide +kernel
theorem pm_a87_41 : pm_as (pm_cd pm_mm87) 41 = some (.iload 5, 2) := by decide +kernel
theorem pm_a87_43 : pm_as (pm_cd pm_mm87) 43 = some (.iload_n 3, 1) := by decide +kernel
theorem pm_a87_44 : pm_as (pm_cd pm_mm87) 44 = some (.if_icmp .ge 62, 3) := by decide +kernel
theorem pm_a87_47 : pm_as (pm_cd pm_mm87) 47 = some (.aload_n 0, 1) := by decide +kernel
theorem pm_a87_48 : pm_as (pm_cd pm_mm87) 48 = some (.getfield 57, 3) := by decide +kernel
theorem pm_a87_51 : pm_as (pm_cd pm_mm87) 51 = some (.aload 4, 2) := by decide +kernel
theorem pm_a87_53 : pm_as (pm_cd pm_mm87) 53 = some (.iload_n 2, 1) := by decide +kernel
theorem pm_a87_54 : pm_as (pm_cd pm_mm87) 54 = some (.invokevirtual 118, 3) := by decide +kernel
theorem pm_a87_57 : pm_as (pm_cd pm_mm87) 57 = some (.istore 6, 2) := by decide +kernel
theorem pm_a87_59 : pm_as (pm_cd pm_mm87) 59 = some (.iload 6, 2) := by decide +kernel
theorem pm_a87_61 : pm_as (pm_cd pm_mm87) 61 = some (.iconst 1, 1) := by decide +kernel
theorem pm_a87_62 : pm_as (pm_cd pm_mm87) 62 = some (.if_icmp .eq 22, 3) := by decide +kernel
theorem pm_a87_65 : pm_as (pm_cd pm_mm87) 65 = some (.aload_n 0, 1) := by decide +kernel
theorem pm_a87_66 : pm_as (pm_cd pm_mm87) 66 = some (.iload 6, 2) := by decide +kernel
theorem pm_a87_68 : pm_as (pm_cd pm_mm87) 68 = some (.bipush (-3), 2) := by decide +kernel
theorem pm_a87_70 : pm_as (pm_cd pm_mm87) 70 = some (.if_icmp .ne 7, 3) := by decide +kernel
theorem pm_a87_73 : pm_as (pm_cd pm_mm87) 73 = some (.iconst 2, 1) := by decide +kernel
theorem pm_a87_74 : pm_as (pm_cd pm_mm87) 74 = some (.goto 4, 3) := by decide +kernel
theorem pm_a87_77 : pm_as (pm_cd pm_mm87) 77 = some (.iconst 0, 1) := by decide +kernel
theorem pm_a87_78 : pm_as (pm_cd pm_mm87) 78 = some (.putfield 127, 3) := by decide +kernel
theorem pm_a87_81 : pm_as (pm_cd pm_mm87) 81 = some (.iload 5, 2) := by decide +kernel
theorem pm_a87_83 : pm_as (pm_cd pm_mm87) 83 = some (.ireturn, 1) := by decide +kernel
theorem pm_a87_84 : pm_as (pm_cd pm_mm87) 84 = some (.aload_n 0, 1) := by decide +kernel
theorem pm_a87_85 : pm_as (pm_cd pm_mm87) 85 = some (.aload_n 0, 1) := by decide +kernel
theorem pm_a87_86 : pm_as (pm_cd pm_mm87) 86 = some (.getfield 124, 3) := by decide +kernel
theorem pm_a87_89 : pm_as (pm_cd pm_mm87) 89 = some (.aload 4, 2) := by decide +kernel
theorem pm_a87_91 : pm_as (pm_cd pm_mm87) 91 = some (.getfield 90, 3) := by decide +kernel
theorem pm_a87_94 : pm_as (pm_cd pm_mm87) 94 = some (.invokestatic 130, 3) := by decide +kernel
theorem pm_a87_97 : pm_as (pm_cd pm_mm87) 97 = some (.putfield 124, 3) := by decide +kernel
theorem pm_a87_100 : pm_as (pm_cd pm_mm87) 100 = some (.iinc 5 1, 3) := by decide +kernel
theorem pm_a87_103 : pm_as (pm_cd pm_mm87) 103 = some (.goto (-62), 3) := by decide +kernel
theorem pm_a87_106 : pm_as (pm_cd pm_mm87) 106 = some (.iload_n 3, 1) := by decide +kernel
theorem pm_a87_107 : pm_as (pm_cd pm_mm87) 107 = some (.ireturn, 1) := by decide +kernel
theorem pm_a88_0 : pm_as (pm_cd pm_mm88) 0 = some (.iload_n 0, 1) := by decide +kernel
theorem pm_a88_1 : pm_as (pm_cd pm_mm88) 1 = some (.ifCond .lt 14, 3) := by decide +kernel
theorem pm_a88_4 : pm_as (pm_cd pm_mm88) 4 = some (.iload_n 0, 1) := by decide +kernel
theorem pm_a88_5 : pm_as (pm_cd pm_mm88) 5 = some (.sipush 200, 3) := by decide +kernel
theorem pm_a88_8 : pm_as (pm_cd pm_mm88) 8 = some (.if_icmp .gt 7, 3) := by decide +kernel
theorem pm_a88_11 : pm_as (pm_cd pm_mm88) 11 = some (.iconst 1, 1) := by decide +kernel
theorem pm_a88_12 : pm_as (pm_cd pm_mm88) 12 = some (.goto 4, 3) := by decide +kernel
theorem pm_a88_15 : pm_as (pm_cd pm_mm88) 15 = some (.iconst 0, 1) := by decide +kernel
theorem pm_a88_16 : pm_as (pm_cd pm_mm88) 16 = some (.ireturn, 1) := by decide +kernel
theorem pm_a89_0 : pm_as (pm_cd pm_mm89) 0 = some (.iload_n 1, 1) := by decide +kernel
theorem pm_a89_1 : pm_as (pm_cd pm_mm89) 1 = some (.lookupswitch 37 #[(0, 27), (1, 32)], 27) := by decide +kernel
theorem pm_a89_28 : pm_as (pm_cd pm_mm89) 28 = some (.aload_n 0, 1) := by decide +kernel
theorem pm_a89_29 : pm_as (pm_cd pm_mm89) 29 = some (.getfield 127, 3) := by decide +kernel
theorem pm_a89_32 : pm_as (pm_cd pm_mm89) 32 = some (.ireturn, 1) := by decide +kernel
theorem pm_a89_33 : pm_as (pm_cd pm_mm89) 33 = some (.aload_n 0, 1) := by decide +kernel
theorem pm_a89_34 : pm_as (pm_cd pm_mm89) 34 = some (.getfield 124, 3) := by decide +kernel
theorem pm_a89_37 : pm_as (pm_cd pm_mm89) 37 = some (.ireturn, 1) := by decide +kernel
theorem pm_a89_38 : pm_as (pm_cd pm_mm89) 38 = some (.iconst (-1), 1) := by decide +kernel
theorem pm_a89_39 : pm_as (pm_cd pm_mm89) 39 = some (.ireturn, 1) := by decide +kernel
theorem pm_a90_0 : pm_as (pm_cd pm_mm90) 0 = some (.aload_n 0, 1) := by decide +kernel
theorem pm_a90_1 : pm_as (pm_cd pm_mm90) 1 = some (.iload_n 1, 1) := by decide +kernel
theorem pm_a90_2 : pm_as (pm_cd pm_mm90) 2 = some (.invokevirtual 86, 3) := by decide +kernel
theorem pm_a90_5 : pm_as (pm_cd pm_mm90) 5 = some (.astore_n 3, 1) := by decide +kernel
theorem pm_a90_6 : pm_as (pm_cd pm_mm90) 6 = some (.aload_n 3, 1) := by decide +kernel
theorem pm_a90_7 : pm_as (pm_cd pm_mm90) 7 = some (.ifnull 10, 3) := by decide +kernel
theorem pm_a90_10 : pm_as (pm_cd pm_mm90) 10 = some (.iload_n 2, 1) := by decide +kernel
theorem pm_a90_11 : pm_as (pm_cd pm_mm90) 11 = some (.invokestatic 114, 3) := by decide +kernel
theorem pm_a90_14 : pm_as (pm_cd pm_mm90) 14 = some (.ifCond .ne 7, 3) := by decide +kernel
theorem pm_a90_17 : pm_as (pm_cd pm_mm90) 17 = some (.iconst (-1), 1) := by decide +kernel
theorem pm_a90_18 : pm_as (pm_cd pm_mm90) 18 = some (.goto 12, 3) := by decide +kernel
theorem pm_a90_21 : pm_as (pm_cd pm_mm90) 21 = some (.aload_n 0, 1) := by decide +kernel
theorem pm_a90_22 : pm_as (pm_cd pm_mm90) 22 = some (.getfield 57, 3) := by decide +kernel
theorem pm_a90_25 : pm_as (pm_cd pm_mm90) 25 = some (.aload_n 3, 1) := by decide +kernel
theorem pm_a90_26 : pm_as (pm_cd pm_mm90) 26 = some (.iload_n 2, 1) := by decide +kernel
theorem pm_a90_27 : pm_as (pm_cd pm_mm90) 27 = some (.invokevirtual 136, 3) := by decide +kernel
theorem pm_a90_30 : pm_as (pm_cd pm_mm90) 30 = some (.ireturn, 1) := by decide +kernel
theorem pm_a91_0 : pm_as (pm_cd pm_mm91) 0 = some (.aload_n 0, 1) := by decide +kernel
theorem pm_a91_1 : pm_as (pm_cd pm_mm91) 1 = some (.iload_n 1, 1) := by decide +kernel
theorem pm_a91_2 : pm_as (pm_cd pm_mm91) 2 = some (.invokevirtual 86, 3) := by decide +kernel
theorem pm_a91_5 : pm_as (pm_cd pm_mm91) 5 = some (.astore_n 2, 1) := by decide +kernel
theorem pm_a91_6 : pm_as (pm_cd pm_mm91) 6 = some (.aload_n 2, 1) := by decide +kernel
theorem pm_a91_7 : pm_as (pm_cd pm_mm91) 7 = some (.ifnonnull 7, 3) := by decide +kernel
theorem pm_a91_10 : pm_as (pm_cd pm_mm91) 10 = some (.iconst (-1), 1) := by decide +kernel
theorem pm_a91_11 : pm_as (pm_cd pm_mm91) 11 = some (.goto 11, 3) := by decide +kernel
theorem pm_a91_14 : pm_as (pm_cd pm_mm91) 14 = some (.aload_n 0, 1) := by decide +kernel
theorem pm_a91_15 : pm_as (pm_cd pm_mm91) 15 = some (.getfield 57, 3) := by decide +kernel
theorem pm_a91_18 : pm_as (pm_cd pm_mm91) 18 = some (.aload_n 2, 1) := by decide +kernel
theorem pm_a91_19 : pm_as (pm_cd pm_mm91) 19 = some (.invokevirtual 139, 3) := by decide +kernel
theorem pm_a91_22 : pm_as (pm_cd pm_mm91) 22 = some (.ireturn, 1) := by decide +kernel
theorem pm_a92_0 : pm_as (pm_cd pm_mm92) 0 = some (.iconst 0, 1) := by decide +kernel
theorem pm_a92_1 : pm_as (pm_cd pm_mm92) 1 = some (.istore_n 2, 1) := by decide +kernel
theorem pm_a92_2 : pm_as (pm_cd pm_mm92) 2 = some (.iconst 0, 1) := by decide +kernel
theorem pm_a92_3 : pm_as (pm_cd pm_mm92) 3 = some (.istore_n 3, 1) := by decide +kernel
theorem pm_a92_4 : pm_as (pm_cd pm_mm92) 4 = some (.iload_n 3, 1) := by decide +kernel
theorem pm_a92_5 : pm_as (pm_cd pm_mm92) 5 = some (.aload_n 1, 1) := by decide +kernel
theorem pm_a92_6 : pm_as (pm_cd pm_mm92) 6 = some (.getfield 24, 3) := by decide +kernel
theorem pm_a92_9 : pm_as (pm_cd pm_mm92) 9 = some (.if_icmp .ge 21, 3) := by decide +kernel
theorem pm_a92_12 : pm_as (pm_cd pm_mm92) 12 = some (.aload_n 1, 1) := by decide +kernel
theorem pm_a92_13 : pm_as (pm_cd pm_mm92) 13 = some (.iload_n 3, 1) := by decide +kernel
theorem pm_a92_14 : pm_as (pm_cd pm_mm92) 14 = some (.invokestatic 28, 3) := by decide +kernel
theorem pm_a92_17 : pm_as (pm_cd pm_mm92) 17 = some (.iconst (-1), 1) := by decide +kernel
theorem pm_a92_18 : pm_as (pm_cd pm_mm92) 18 = some (.if_icmp .eq 6, 3) := by decide +kernel
theorem pm_a92_21 : pm_as (pm_cd pm_mm92) 21 = some (.iinc 2 1, 3) := by decide +kernel
theorem pm_a92_24 : pm_as (pm_cd pm_mm92) 24 = some (.iinc 3 1, 3) := by decide +kernel
theorem pm_a92_27 : pm_as (pm_cd pm_mm92) 27 = some (.goto (-23), 3) := by decide +kernel
theorem pm_a92_30 : pm_as (pm_cd pm_mm92) 30 = some (.iload_n 2, 1) := by decide +kernel
theorem pm_a92_31 : pm_as (pm_cd pm_mm92) 31 = some (.ireturn, 1) := by decide +kernel
theorem pm_a93_0 : pm_as (pm_cd pm_mm93) 0 = some (.aload_n 0, 1) := by decide +kernel
theorem pm_a93_1 : pm_as (pm_cd pm_mm93) 1 = some (.iload_n 1, 1) := by decide +kernel
theorem pm_a93_2 : pm_as (pm_cd pm_mm93) 2 = some (.invokevirtual 86, 3) := by decide +kernel
theorem pm_a93_5 : pm_as (pm_cd pm_mm93) 5 = some (.astore_n 2, 1) := by decide +kernel
theorem pm_a93_6 : pm_as (pm_cd pm_mm93) 6 = some (.aload_n 2, 1) := by decide +kernel
theorem pm_a93_7 : pm_as (pm_cd pm_mm93) 7 = some (.ifnonnull 5, 3) := by decide +kernel
theorem pm_a93_10 : pm_as (pm_cd pm_mm93) 10 = some (.iconst (-1), 1) := by decide +kernel
theorem pm_a93_11 : pm_as (pm_cd pm_mm93) 11 = some (.ireturn, 1) := by decide +kernel
theorem pm_a93_12 : pm_as (pm_cd pm_mm93) 12 = some (.aload_n 0, 1) := by decide +kernel
theorem pm_a93_13 : pm_as (pm_cd pm_mm93) 13 = some (.invokevirtual 68, 3) := by decide +kernel
theorem pm_a93_16 : pm_as (pm_cd pm_mm93) 16 = some (.astore_n 3, 1) := by decide +kernel
theorem pm_a93_17 : pm_as (pm_cd pm_mm93) 17 = some (.aload_n 3, 1) := by decide +kernel
theorem pm_a93_18 : pm_as (pm_cd pm_mm93) 18 = some (.ifnonnull 6, 3) := by decide +kernel
theorem pm_a93_21 : pm_as (pm_cd pm_mm93) 21 = some (.bipush (-3), 2) := by decide +kernel
theorem pm_a93_23 : pm_as (pm_cd pm_mm93) 23 = some (.ireturn, 1) := by decide +kernel
theorem pm_a93_24 : pm_as (pm_cd pm_mm93) 24 = some (.aload_n 0, 1) := by decide +kernel
theorem pm_a93_25 : pm_as (pm_cd pm_mm93) 25 = some (.getfield 142, 3) := by decide +kernel
theorem pm_a93_28 : pm_as (pm_cd pm_mm93) 28 = some (.ifnonnull 18, 3) := by decide +kernel
theorem pm_a93_31 : pm_as (pm_cd pm_mm93) 31 = some (.aload_n 0, 1) := by decide +kernel
theorem pm_a93_32 : pm_as (pm_cd pm_mm93) 32 = some (.new 146, 3) := by decide +kernel
theorem pm_a93_35 : pm_as (pm_cd pm_mm93) 35 = some (.dup, 1) := by decide +kernel
theorem pm_a93_36 : pm_as (pm_cd pm_mm93) 36 = some (.aload_n 0, 1) := by decide +kernel
theorem pm_a93_37 : pm_as (pm_cd pm_mm93) 37 = some (.getfield 32, 3) := by decide +kernel
theorem pm_a93_40 : pm_as (pm_cd pm_mm93) 40 = some (.invokespecial 148, 3) := by decide +kernel
theorem pm_a93_43 : pm_as (pm_cd pm_mm93) 43 = some (.putfield 142, 3) := by decide +kernel
theorem pm_a93_46 : pm_as (pm_cd pm_mm93) 46 = some (.aload_n 0, 1) := by decide +kernel
theorem pm_a93_47 : pm_as (pm_cd pm_mm93) 47 = some (.getfield 142, 3) := by decide +kernel
theorem pm_a93_50 : pm_as (pm_cd pm_mm93) 50 = some (.aload_n 2, 1) := by decide +kernel
theorem pm_a93_51 : pm_as (pm_cd pm_mm93) 51 = some (.aload_n 3, 1) := by decide +kernel
theorem pm_a93_52 : pm_as (pm_cd pm_mm93) 52 = some (.invokevirtual 149, 3) := by decide +kernel
theorem pm_a93_55 : pm_as (pm_cd pm_mm93) 55 = some (.ifCond .eq 10, 3) := by decide +kernel
theorem pm_a93_58 : pm_as (pm_cd pm_mm93) 58 = some (.aload_n 0, 1) := by decide +kernel
theorem pm_a93_59 : pm_as (pm_cd pm_mm93) 59 = some (.invokevirtual 79, 3) := by decide +kernel
theorem pm_a93_62 : pm_as (pm_cd pm_mm93) 62 = some (.goto 5, 3) := by decide +kernel
theorem pm_a93_65 : pm_as (pm_cd pm_mm93) 65 = some (.bipush (-3), 2) := by decide +kernel
theorem pm_a93_67 : pm_as (pm_cd pm_mm93) 67 = some (.ireturn, 1) := by decide +kernel
theorem pm_a94_0 : pm_as (pm_cd pm_mm94) 0 = some (.aload_n 0, 1) := by decide +kernel
theorem pm_a94_1 : pm_as (pm_cd pm_mm94) 1 = some (.invokespecial 3, 3) := by decide +kernel
theorem pm_a94_4 : pm_as (pm_cd pm_mm94) 4 = some (.aload_n 0, 1) := by decide +kernel
theorem pm_a94_5 : pm_as (pm_cd pm_mm94) 5 = some (.sipush 1500, 3) := by decide +kernel
theorem pm_a94_8 : pm_as (pm_cd pm_mm94) 8 = some (.newarray .int, 2) := by decide +kernel
theorem pm_a94_10 : pm_as (pm_cd pm_mm94) 10 = some (.putfield 11, 3) := by decide +kernel
theorem pm_a94_13 : pm_as (pm_cd pm_mm94) 13 = some (.aload_n 0, 1) := by decide +kernel
theorem pm_a94_14 : pm_as (pm_cd pm_mm94) 14 = some (.sipush 503, 3) := by decide +kernel
theorem pm_a94_17 : pm_as (pm_cd pm_mm94) 17 = some (.newarray .int, 2) := by decide +kernel
theorem pm_a94_19 : pm_as (pm_cd pm_mm94) 19 = some (.putfield 15, 3) := by decide +kernel
theorem pm_a94_22 : pm_as (pm_cd pm_mm94) 22 = some (.aload_n 0, 1) := by decide +kernel
theorem pm_a94_23 : pm_as (pm_cd pm_mm94) 23 = some (.new 18, 3) := by decide +kernel
theorem pm_a94_26 : pm_as (pm_cd pm_mm94) 26 = some (.dup, 1) := by decide +kernel
theorem pm_a94_27 : pm_as (pm_cd pm_mm94) 27 = some (.sipush 502, 3) := by decide +kernel
theorem pm_a94_30 : pm_as (pm_cd pm_mm94) 30 = some (.invokespecial 20, 3) := by decide +kernel
theorem pm_a94_33 : pm_as (pm_cd pm_mm94) 33 = some (.putfield 23, 3) := by decide +kernel
theorem pm_a94_36 : pm_as (pm_cd pm_mm94) 36 = some (.aload_n 0, 1) := by decide +kernel
theorem pm_a94_37 : pm_as (pm_cd pm_mm94) 37 = some (.new 18, 3) := by decide +kernel
theorem pm_a94_40 : pm_as (pm_cd pm_mm94) 40 = some (.dup, 1) := by decide +kernel
theorem pm_a94_41 : pm_as (pm_cd pm_mm94) 41 = some (.sipush 500, 3) := by decide +kernel
theorem pm_a94_44 : pm_as (pm_cd pm_mm94) 44 = some (.invokespecial 20, 3) := by decide +kernel
theorem pm_a94_47 : pm_as (pm_cd pm_mm94) 47 = some (.putfield 27, 3) := by decide +kernel
theorem pm_a94_50 : pm_as (pm_cd pm_mm94) 50 = some (.aload_n 0, 1) := by decide +kernel
theorem pm_a94_51 : pm_as (pm_cd pm_mm94) 51 = some (.aload_n 1, 1) := by decide +kernel
theorem pm_a94_52 : pm_as (pm_cd pm_mm94) 52 = some (.putfield 30, 3) := by decide +kernel
theorem pm_a94_55 : pm_as (pm_cd pm_mm94) 55 = some (.return_, 1) := by decide +kernel
theorem pm_a95_0 : pm_as (pm_cd pm_mm95) 0 = some (.aload_n 0, 1) := by decide +kernel
theorem pm_a95_1 : pm_as (pm_cd pm_mm95) 1 = some (.sipush 1500, 3) := by decide +kernel
theorem pm_a95_4 : pm_as (pm_cd pm_mm95) 4 = some (.putfield 34, 3) := by decide +kernel
theorem pm_a95_7 : pm_as (pm_cd pm_mm95) 7 = some (.iconst 1, 1) := by decide +kernel
theorem pm_a95_8 : pm_as (pm_cd pm_mm95) 8 = some (.istore_n 3, 1) := by decide +kernel
theorem pm_a95_9 : pm_as (pm_cd pm_mm95) 9 = some (.aload_n 1, 1) := by decide +kernel
theorem pm_a95_10 : pm_as (pm_cd pm_mm95) 10 = some (.getfield 38, 3) := by decide +kernel
theorem pm_a95_13 : pm_as (pm_cd pm_mm95) 13 = some (.iconst 1, 1) := by decide +kernel
theorem pm_a95_14 : pm_as (pm_cd pm_mm95) 14 = some (.isub, 1) := by decide +kernel
theorem pm_a95_15 : pm_as (pm_cd pm_mm95) 15 = some (.istore 4, 2) := by decide +kernel
theorem pm_a95_17 : pm_as (pm_cd pm_mm95) 17 = some (.iload 4, 2) := by decide +kernel
theorem pm_a95_19 : pm_as (pm_cd pm_mm95) 19 = some (.ifCond .lt 41, 3) := by decide +kernel
theorem pm_a95_22 : pm_as (pm_cd pm_mm95) 22 = some (.iload_n 3, 1) := by decide +kernel
theorem pm_a95_23 : pm_as (pm_cd pm_mm95) 23 = some (.ifCond .eq 37, 3) := by decide +kernel
theorem pm_a95_26 : pm_as (pm_cd pm_mm95) 26 = some (.aload_n 1, 1) := by decide +kernel
theorem pm_a95_27 : pm_as (pm_cd pm_mm95) 27 = some (.iload 4, 2) := by decide +kernel
theorem pm_a95_29 : pm_as (pm_cd pm_mm95) 29 = some (.invokevirtual 41, 3) := by decide +kernel
theorem pm_a95_32 : pm_as (pm_cd pm_mm95) 32 = some (.istore 5, 2) := by decide +kernel
theorem pm_a95_34 : pm_as (pm_cd pm_mm95) 34 = some (.iload 5, 2) := by decide +kernel
theorem pm_a95_36 : pm_as (pm_cd pm_mm95) 36 = some (.iconst 1, 1) := by decide +kernel
theorem pm_a95_37 : pm_as (pm_cd pm_mm95) 37 = some (.if_icmp .ne 10, 3) := by decide +kernel
theorem pm_a95_40 : pm_as (pm_cd pm_mm95) 40 = some (.aload_n 0, 1) := by decide +kernel
theorem pm_a95_41 : pm_as (pm_cd pm_mm95) 41 = some (.invokevirtual 45, 3) := by decide +kernel
theorem pm_a95_44 : pm_as (pm_cd pm_mm95) 44 = some (.goto 9, 3) := by decide +kernel
theorem pm_a95_47 : pm_as (pm_cd pm_mm95) 47 = some (.aload_n 0, 1) := by decide +kernel
theorem pm_a95_48 : pm_as (pm_cd pm_mm95) 48 = some (.iload 5, 2) := by decide +kernel
theorem pm_a95_50 : pm_as (pm_cd pm_mm95) 50 = some (.invokevirtual 49, 3) := by decide +kernel
theorem pm_a95_53 : pm_as (pm_cd pm_mm95) 53 = some (.istore_n 3, 1) := by decide +kernel
theorem pm_a95_54 : pm_as (pm_cd pm_mm95) 54 = some (.iinc 4 (-1), 3) := by decide +kernel
theorem pm_a95_57 : pm_as (pm_cd pm_mm95) 57 = some (.goto (-40), 3) := by decide +kernel
theorem pm_a95_60 : pm_as (pm_cd pm_mm95) 60 = some (.aload_n 0, 1) := by decide +kernel
theorem pm_a95_61 : pm_as (pm_cd pm_mm95) 61 = some (.getfield 34, 3) := by decide +kernel
theorem pm_a95_64 : pm_as (pm_cd pm_mm95) 64 = some (.istore 4, 2) := by decide +kernel
theorem pm_a95_66 : pm_as (pm_cd pm_mm95) 66 = some (.iload 4, 2) := by decide +kernel
theorem pm_a95_68 : pm_as (pm_cd pm_mm95) 68 = some (.sipush 1500, 3) := by decide +kernel
theorem pm_a95_71 : pm_as (pm_cd pm_mm95) 71 = some (.if_icmp .ge 30, 3) := by decide +kernel
theorem pm_a95_74 : pm_as (pm_cd pm_mm95) 74 = some (.iload_n 3, 1) := by decide +kernel
theorem pm_a95_75 : pm_as (pm_cd pm_mm95) 75 = some (.ifCond .eq 26, 3) := by decide +kernel
theorem pm_a95_78 : pm_as (pm_cd pm_mm95) 78 = some (.aload_n 2, 1) := by decide +kernel
theorem pm_a95_79 : pm_as (pm_cd pm_mm95) 79 = some (.getfield 53, 3) := by decide +kernel
theorem pm_a95_82 : pm_as (pm_cd pm_mm95) 82 = some (.ifCond .ne 19, 3) := by decide +kernel
theorem pm_a95_85 : pm_as (pm_cd pm_mm95) 85 = some (.aload_n 2, 1) := by decide +kernel
theorem pm_a95_86 : pm_as (pm_cd pm_mm95) 86 = some (.aload_n 0, 1) := by decide +kernel
theorem pm_a95_87 : pm_as (pm_cd pm_mm95) 87 = some (.iload 4, 2) := by decide +kernel
theorem pm_a95_89 : pm_as (pm_cd pm_mm95) 89 = some (.invokevirtual 57, 3) := by decide +kernel
theorem pm_a95_92 : pm_as (pm_cd pm_mm95) 92 = some (.invokevirtual 60, 3) := by decide +kernel
theorem pm_a95_95 : pm_as (pm_cd pm_mm95) 95 = some (.iinc 4 1, 3) := by decide +kernel
theorem pm_a95_98 : pm_as (pm_cd pm_mm95) 98 = some (.goto (-32), 3) := by decide +kernel
theorem pm_a95_101 : pm_as (pm_cd pm_mm95) 101 = some (.iload_n 3, 1) := by decide +kernel
theorem pm_a95_102 : pm_as (pm_cd pm_mm95) 102 = some (.ifCond .eq 14, 3) := by decide +kernel
theorem pm_a95_105 : pm_as (pm_cd pm_mm95) 105 = some (.aload_n 2, 1) := by decide +kernel
theorem pm_a95_106 : pm_as (pm_cd pm_mm95) 106 = some (.getfield 53, 3) := by decide +kernel
theorem pm_a95_109 : pm_as (pm_cd pm_mm95) 109 = some (.ifCond .ne 7, 3) := by decide +kernel
theorem pm_a95_112 : pm_as (pm_cd pm_mm95) 112 = some (.iconst 1, 1) := by decide +kernel
theorem pm_a95_113 : pm_as (pm_cd pm_mm95) 113 = some (.goto 4, 3) := by decide +kernel
theorem pm_a95_116 : pm_as (pm_cd pm_mm95) 116 = some (.iconst 0, 1) := by decide +kernel
theorem pm_a95_117 : pm_as (pm_cd pm_mm95) 117 = some (.ireturn, 1) := by decide +kernel
theorem pm_a96_0 : pm_as (pm_cd pm_mm96) 0 = some (.aload_n 0, 1) := by decide +kernel
theorem pm_a96_1 : pm_as (pm_cd pm_mm96) 1 = some (.invokevirtual 63, 3) := by decide +kernel
theorem pm_a96_4 : pm_as (pm_cd pm_mm96) 4 = some (.aload_n 0, 1) := by decide +kernel
theorem pm_a96_5 : pm_as (pm_cd pm_mm96) 5 = some (.getfield 23, 3) := by decide +kernel
theorem pm_a96_8 : pm_as (pm_cd pm_mm96) 8 = some (.getfield 53, 3) := by decide +kernel
theorem pm_a96_11 : pm_as (pm_cd pm_mm96) 11 = some (.ifCond .eq 5, 3) := by decide +kernel
theorem pm_a96_14 : pm_as (pm_cd pm_mm96) 14 = some (.iconst 0, 1) := by decide +kernel
theorem pm_a96_15 : pm_as (pm_cd pm_mm96) 15 = some (.ireturn, 1) := by decide +kernel
theorem pm_a96_16 : pm_as (pm_cd pm_mm96) 16 = some (.aload_n 0, 1) := by decide +kernel
theorem pm_a96_17 : pm_as (pm_cd pm_mm96) 17 = some (.getfield 30, 3) := by decide +kernel
theorem pm_a96_20 : pm_as (pm_cd pm_mm96) 20 = some (.aload_n 0, 1) := by decide +kernel
theorem pm_a96_21 : pm_as (pm_cd pm_mm96) 21 = some (.getfield 23, 3) := by decide +kernel
theorem pm_a96_24 : pm_as (pm_cd pm_mm96) 24 = some (.iconst 0, 1) := by decide +kernel
theorem pm_a96_25 : pm_as (pm_cd pm_mm96) 25 = some (.aload_n 0, 1) := by decide +kernel
theorem pm_a96_26 : pm_as (pm_cd pm_mm96) 26 = some (.getfield 23, 3) := by decide +kernel
theorem pm_a96_29 : pm_as (pm_cd pm_mm96) 29 = some (.getfield 38, 3) := by decide +kernel
theorem pm_a96_32 : pm_as (pm_cd pm_mm96) 32 = some (.invokevirtual 66, 3) := by decide +kernel
theorem pm_a96_35 : pm_as (pm_cd pm_mm96) 35 = some (.aload_n 0, 1) := by decide +kernel
theorem pm_a96_36 : pm_as (pm_cd pm_mm96) 36 = some (.invokevirtual 72, 3) := by decide +kernel
theorem pm_a96_39 : pm_as (pm_cd pm_mm96) 39 = some (.aload_n 0, 1) := by decide +kernel
theorem pm_a96_40 : pm_as (pm_cd pm_mm96) 40 = some (.invokevirtual 75, 3) := by decide +kernel
theorem pm_a96_43 : pm_as (pm_cd pm_mm96) 43 = some (.aload_n 0, 1) := by decide +kernel
theorem pm_a96_44 : pm_as (pm_cd pm_mm96) 44 = some (.getfield 27, 3) := by decide +kernel
theorem pm_a96_47 : pm_as (pm_cd pm_mm96) 47 = some (.getfield 53, 3) := by decide +kernel
theorem pm_a96_50 : pm_as (pm_cd pm_mm96) 50 = some (.ifCond .ne 7, 3) := by decide +kernel
theorem pm_a96_53 : pm_as (pm_cd pm_mm96) 53 = some (.iconst 1, 1) := by decide +kernel
theorem pm_a96_54 : pm_as (pm_cd pm_mm96) 54 = some (.goto 4, 3) := by decide +kernel
theorem pm_a96_57 : pm_as (pm_cd pm_mm96) 57 = some (.iconst 0, 1) := by decide +kernel
theorem pm_a96_58 : pm_as (pm_cd pm_mm96) 58 = some (.istore_n 1, 1) := by decide +kernel
theorem pm_a96_59 : pm_as (pm_cd pm_mm96) 59 = some (.aload_n 0, 1) := by decide +kernel
theorem pm_a96_60 : pm_as (pm_cd pm_mm96) 60 = some (.getfield 27, 3) := by decide +kernel
theorem pm_a96_63 : pm_as (pm_cd pm_mm96) 63 = some (.getfield 38, 3) := by decide +kernel
theorem pm_a96_66 : pm_as (pm_cd pm_mm96) 66 = some (.iconst 1, 1) := by decide +kernel
theorem pm_a96_67 : pm_as (pm_cd pm_mm96) 67 = some (.isub, 1) := by decide +kernel
theorem pm_a96_68 : pm_as (pm_cd pm_mm96) 68 = some (.istore_n 2, 1) := by decide +kernel
theorem pm_a96_69 : pm_as (pm_cd pm_mm96) 69 = some (.iload_n 2, 1) := by decide +kernel
theorem pm_a96_70 : pm_as (pm_cd pm_mm96) 70 = some (.ifCond .lt 26, 3) := by decide +kernel
theorem pm_a96_73 : pm_as (pm_cd pm_mm96) 73 = some (.iload_n 1, 1) := by decide +kernel
theorem pm_a96_74 : pm_as (pm_cd pm_mm96) 74 = some (.ifCond .eq 22, 3) := by decide +kernel
theorem pm_a96_77 : pm_as (pm_cd pm_mm96) 77 = some (.aload_n 0, 1) := by decide +kernel
theorem pm_a96_78 : pm_as (pm_cd pm_mm96) 78 = some (.aload_n 0, 1) := by decide +kernel
theorem pm_a96_79 : pm_as (pm_cd pm_mm96) 79 = some (.getfield 27, 3) := by decide +kernel
theorem pm_a96_82 : pm_as (pm_cd pm_mm96) 82 = some (.iload_n 2, 1) := by decide +kernel
theorem pm_a96_83 : pm_as (pm_cd pm_mm96) 83 = some (.invokevirtual 41, 3) := by decide +kernel
theorem pm_a96_86 : pm_as (pm_cd pm_mm96) 86 = some (.invokevirtual 49, 3) := by decide +kernel
theorem pm_a96_89 : pm_as (pm_cd pm_mm96) 89 = some (.istore_n 1, 1) := by decide +kernel
theorem pm_a96_90 : pm_as (pm_cd pm_mm96) 90 = some (.iinc 2 (-1), 3) := by decide +kernel
theorem pm_a96_93 : pm_as (pm_cd pm_mm96) 93 = some (.goto (-24), 3) := by decide +kernel
theorem pm_a96_96 : pm_as (pm_cd pm_mm96) 96 = some (.iload_n 1, 1) := by decide +kernel
theorem pm_a96_97 : pm_as (pm_cd pm_mm96) 97 = some (.ireturn, 1) := by decide +kernel
theorem pm_a97_0 : pm_as (pm_cd pm_mm97) 0 = some (.aload_n 0, 1) := by decide +kernel
theorem pm_a97_1 : pm_as (pm_cd pm_mm97) 1 = some (.getfield 23, 3) := by decide +kernel
theorem pm_a97_4 : pm_as (pm_cd pm_mm97) 4 = some (.invokevirtual 78, 3) := by decide +kernel
theorem pm_a97_7 : pm_as (pm_cd pm_mm97) 7 = some (.iconst 1, 1) := by decide +kernel
theorem pm_a97_8 : pm_as (pm_cd pm_mm97) 8 = some (.istore_n 1, 1) := by decide +kernel
theorem pm_a97_9 : pm_as (pm_cd pm_mm97) 9 = some (.iload_n 1, 1) := by decide +kernel
theorem pm_a97_10 : pm_as (pm_cd pm_mm97) 10 = some (.ifCond .le 65, 3) := by decide +kernel
theorem pm_a97_13 : pm_as (pm_cd pm_mm97) 13 = some (.aload_n 0, 1) := by decide +kernel
theorem pm_a97_14 : pm_as (pm_cd pm_mm97) 14 = some (.getfield 34, 3) := by decide +kernel
theorem pm_a97_17 : pm_as (pm_cd pm_mm97) 17 = some (.sipush 1500, 3) := by decide +kernel
theorem pm_a97_20 : pm_as (pm_cd pm_mm97) 20 = some (.if_icmp .ge 55, 3) := by decide +kernel
theorem pm_a97_23 : pm_as (pm_cd pm_mm97) 23 = some (.aload_n 0, 1) := by decide +kernel
theorem pm_a97_24 : pm_as (pm_cd pm_mm97) 24 = some (.getfield 23, 3) := by decide +kernel
theorem pm_a97_27 : pm_as (pm_cd pm_mm97) 27 = some (.getfield 53, 3) := by decide +kernel
theorem pm_a97_30 : pm_as (pm_cd pm_mm97) 30 = some (.ifCond .ne 45, 3) := by decide +kernel
theorem pm_a97_33 : pm_as (pm_cd pm_mm97) 33 = some (.aload_n 0, 1) := by decide +kernel
theorem pm_a97_34 : pm_as (pm_cd pm_mm97) 34 = some (.aload_n 0, 1) := by decide +kernel
theorem pm_a97_35 : pm_as (pm_cd pm_mm97) 35 = some (.getfield 34, 3) := by decide +kernel
theorem pm_a97_38 : pm_as (pm_cd pm_mm97) 38 = some (.invokevirtual 57, 3) := by decide +kernel
theorem pm_a97_41 : pm_as (pm_cd pm_mm97) 41 = some (.istore_n 2, 1) := by decide +kernel
theorem pm_a97_42 : pm_as (pm_cd pm_mm97) 42 = some (.iload_n 1, 1) := by decide +kernel
theorem pm_a97_43 : pm_as (pm_cd pm_mm97) 43 = some (.iload_n 2, 1) := by decide +kernel
theorem pm_a97_44 : pm_as (pm_cd pm_mm97) 44 = some (.ifCond .ne 7, 3) := by decide +kernel
theorem pm_a97_47 : pm_as (pm_cd pm_mm97) 47 = some (.iconst 1, 1) := by decide +kernel
theorem pm_a97_48 : pm_as (pm_cd pm_mm97) 48 = some (.goto 4, 3) := by decide +kernel
theorem pm_a97_51 : pm_as (pm_cd pm_mm97) 51 = some (.iconst (-1), 1) := by decide +kernel
theorem pm_a97_52 : pm_as (pm_cd pm_mm97) 52 = some (.iadd, 1) := by decide +kernel
theorem pm_a97_53 : pm_as (pm_cd pm_mm97) 53 = some (.istore_n 1, 1) := by decide +kernel
theorem pm_a97_54 : pm_as (pm_cd pm_mm97) 54 = some (.aload_n 0, 1) := by decide +kernel
theorem pm_a97_55 : pm_as (pm_cd pm_mm97) 55 = some (.getfield 23, 3) := by decide +kernel
theorem pm_a97_58 : pm_as (pm_cd pm_mm97) 58 = some (.iload_n 2, 1) := by decide +kernel
theorem pm_a97_59 : pm_as (pm_cd pm_mm97) 59 = some (.invokevirtual 60, 3) := by decide +kernel
theorem pm_a97_62 : pm_as (pm_cd pm_mm97) 62 = some (.aload_n 0, 1) := by decide +kernel
theorem pm_a97_63 : pm_as (pm_cd pm_mm97) 63 = some (.dup, 1) := by decide +kernel
theorem pm_a97_64 : pm_as (pm_cd pm_mm97) 64 = some (.getfield 34, 3) := by decide +kernel
theorem pm_a97_67 : pm_as (pm_cd pm_mm97) 67 = some (.iconst 1, 1) := by decide +kernel
theorem pm_a97_68 : pm_as (pm_cd pm_mm97) 68 = some (.iadd, 1) := by decide +kernel
theorem pm_a97_69 : pm_as (pm_cd pm_mm97) 69 = some (.putfield 34, 3) := by decide +kernel
theorem pm_a97_72 : pm_as (pm_cd pm_mm97) 72 = some (.goto (-63), 3) := by decide +kernel
theorem pm_a97_75 : pm_as (pm_cd pm_mm97) 75 = some (.return_, 1) := by decide +kernel
theorem pm_a98_0 : pm_as (pm_cd pm_mm98) 0 = some (.iload_n 1, 1) := by decide +kernel
theorem pm_a98_1 : pm_as (pm_cd pm_mm98) 1 = some (.ifCond .lt 21, 3) := by decide +kernel
theorem pm_a98_4 : pm_as (pm_cd pm_mm98) 4 = some (.iload_n 1, 1) := by decide +kernel
theorem pm_a98_5 : pm_as (pm_cd pm_mm98) 5 = some (.aload_n 0, 1) := by decide +kernel
theorem pm_a98_6 : pm_as (pm_cd pm_mm98) 6 = some (.getfield 11, 3) := by decide +kernel
theorem pm_a98_9 : pm_as (pm_cd pm_mm98) 9 = some (.arraylength, 1) := by decide +kernel
theorem pm_a98_10 : pm_as (pm_cd pm_mm98) 10 = some (.if_icmp .ge 12, 3) := by decide +kernel
theorem pm_a98_13 : pm_as (pm_cd pm_mm98) 13 = some (.aload_n 0, 1) := by decide +kernel
theorem pm_a98_14 : pm_as (pm_cd pm_mm98) 14 = some (.getfield 11, 3) := by decide +kernel
theorem pm_a98_17 : pm_as (pm_cd pm_mm98) 17 = some (.iload_n 1, 1) := by decide +kernel
theorem pm_a98_18 : pm_as (pm_cd pm_mm98) 18 = some (.iaload, 1) := by decide +kernel
theorem pm_a98_19 : pm_as (pm_cd pm_mm98) 19 = some (.goto 4, 3) := by decide +kernel
theorem pm_a98_22 : pm_as (pm_cd pm_mm98) 22 = some (.iconst (-1), 1) := by decide +kernel
theorem pm_a98_23 : pm_as (pm_cd pm_mm98) 23 = some (.ireturn, 1) := by decide +kernel
theorem pm_a99_0 : pm_as (pm_cd pm_mm99) 0 = some (.iconst 0, 1) := by decide +kernel
theorem pm_a99_1 : pm_as (pm_cd pm_mm99) 1 = some (.istore_n 1, 1) := by decide +kernel
theorem pm_a99_2 : pm_as (pm_cd pm_mm99) 2 = some (.iconst 0, 1) := by decide +kernel
theorem pm_a99_3 : pm_as (pm_cd pm_mm99) 3 = some (.istore_n 2, 1) := by decide +kernel
theorem pm_a99_4 : pm_as (pm_cd pm_mm99) 4 = some (.iload_n 2, 1) := by decide +kernel
theorem pm_a99_5 : pm_as (pm_cd pm_mm99) 5 = some (.aload_n 0, 1) := by decide +kernel
theorem pm_a99_6 : pm_as (pm_cd pm_mm99) 6 = some (.getfield 23, 3) := by decide +kernel
theorem pm_a99_9 : pm_as (pm_cd pm_mm99) 9 = some (.getfield 38, 3) := by decide +kernel
theorem pm_a99_12 : pm_as (pm_cd pm_mm99) 12 = some (.if_icmp .ge 57, 3) := by decide +kernel
theorem pm_a99_15 : pm_as (pm_cd pm_mm99) 15 = some (.iload_n 2, 1) := by decide +kernel
theorem pm_a99_16 : pm_as (pm_cd pm_mm99) 16 = some (.iconst 1, 1) := by decide +kernel
theorem pm_a99_17 : pm_as (pm_cd pm_mm99) 17 = some (.iadd, 1) := by decide +kernel
theorem pm_a99_18 : pm_as (pm_cd pm_mm99) 18 = some (.aload_n 0, 1) := by decide +kernel
theorem pm_a99_19 : pm_as (pm_cd pm_mm99) 19 = some (.getfield 15, 3) := by decide +kernel
theorem pm_a99_22 : pm_as (pm_cd pm_mm99) 22 = some (.arraylength, 1) := by decide +kernel
theorem pm_a99_23 : pm_as (pm_cd pm_mm99) 23 = some (.if_icmp .ge 46, 3) := by decide +kernel
theorem pm_a99_26 : pm_as (pm_cd pm_mm99) 26 = some (.aload_n 0, 1) := by decide +kernel
theorem pm_a99_27 : pm_as (pm_cd pm_mm99) 27 = some (.getfield 15, 3) := by decide +kernel
theorem pm_a99_30 : pm_as (pm_cd pm_mm99) 30 = some (.iload_n 2, 1) := by decide +kernel
theorem pm_a99_31 : pm_as (pm_cd pm_mm99) 31 = some (.iload_n 1, 1) := by decide +kernel
theorem pm_a99_32 : pm_as (pm_cd pm_mm99) 32 = some (.iastore, 1) := by decide +kernel
theorem pm_a99_33 : pm_as (pm_cd pm_mm99) 33 = some (.iload_n 1, 1) := by decide +kernel
theorem pm_a99_34 : pm_as (pm_cd pm_mm99) 34 = some (.aload_n 0, 1) := by decide +kernel
theorem pm_a99_35 : pm_as (pm_cd pm_mm99) 35 = some (.getfield 23, 3) := by decide +kernel
theorem pm_a99_38 : pm_as (pm_cd pm_mm99) 38 = some (.iload_n 2, 1) := by decide +kernel
theorem pm_a99_39 : pm_as (pm_cd pm_mm99) 39 = some (.invokevirtual 41, 3) := by decide +kernel
theorem pm_a99_42 : pm_as (pm_cd pm_mm99) 42 = some (.bipush 10, 2) := by decide +kernel
theorem pm_a99_44 : pm_as (pm_cd pm_mm99) 44 = some (.if_icmp .ne 7, 3) := by decide +kernel
theorem pm_a99_47 : pm_as (pm_cd pm_mm99) 47 = some (.iconst 1, 1) := by decide +kernel
theorem pm_a99_48 : pm_as (pm_cd pm_mm99) 48 = some (.goto 4, 3) := by decide +kernel
theorem pm_a99_51 : pm_as (pm_cd pm_mm99) 51 = some (.iconst 0, 1) := by decide +kernel
theorem pm_a99_52 : pm_as (pm_cd pm_mm99) 52 = some (.iadd, 1) := by decide +kernel
theorem pm_a99_53 : pm_as (pm_cd pm_mm99) 53 = some (.istore_n 1, 1) := by decide +kernel
theorem pm_a99_54 : pm_as (pm_cd pm_mm99) 54 = some (.aload_n 0, 1) := by decide +kernel
theorem pm_a99_55 : pm_as (pm_cd pm_mm99) 55 = some (.getfield 15, 3) := by decide +kernel
theorem pm_a99_58 : pm_as (pm_cd pm_mm99) 58 = some (.iload_n 2, 1) := by decide +kernel
theorem pm_a99_59 : pm_as (pm_cd pm_mm99) 59 = some (.iconst 1, 1) := by decide +kernel
theorem pm_a99_60 : pm_as (pm_cd pm_mm99) 60 = some (.iadd, 1) := by decide +kernel
theorem pm_a99_61 : pm_as (pm_cd pm_mm99) 61 = some (.iload_n 1, 1) := by decide +kernel
theorem pm_a99_62 : pm_as (pm_cd pm_mm99) 62 = some (.iastore, 1) := by decide +kernel
theorem pm_a99_63 : pm_as (pm_cd pm_mm99) 63 = some (.iinc 2 1, 3) := by decide +kernel
theorem pm_a99_66 : pm_as (pm_cd pm_mm99) 66 = some (.goto (-62), 3) := by decide +kernel
theorem pm_a99_69 : pm_as (pm_cd pm_mm99) 69 = some (.return_, 1) := by decide +kernel
theorem pm_a100_0 : pm_as (pm_cd pm_mm100) 0 = some (.aload_n 0, 1) := by decide +kernel
theorem pm_a100_1 : pm_as (pm_cd pm_mm100) 1 = some (.getfield 27, 3) := by decide +kernel
theorem pm_a100_4 : pm_as (pm_cd pm_mm100) 4 = some (.invokevirtual 78, 3) := by decide +kernel
theorem pm_a100_7 : pm_as (pm_cd pm_mm100) 7 = some (.iconst 0, 1) := by decide +kernel
theorem pm_a100_8 : pm_as (pm_cd pm_mm100) 8 = some (.istore_n 1, 1) := by decide +kernel
theorem pm_a100_9 : pm_as (pm_cd pm_mm100) 9 = some (.iload_n 1, 1) := by decide +kernel
theorem pm_a100_10 : pm_as (pm_cd pm_mm100) 10 = some (.aload_n 0, 1) := by decide +kernel
theorem pm_a100_11 : pm_as (pm_cd pm_mm100) 11 = some (.getfield 23, 3) := by decide +kernel
theorem pm_a100_14 : pm_as (pm_cd pm_mm100) 14 = some (.getfield 38, 3) := by decide +kernel
theorem pm_a100_17 : pm_as (pm_cd pm_mm100) 17 = some (.if_icmp .ge 174, 3) := by decide +kernel
theorem pm_a100_20 : pm_as (pm_cd pm_mm100) 20 = some (.aload_n 0, 1) := by decide +kernel
theorem pm_a100_21 : pm_as (pm_cd pm_mm100) 21 = some (.getfield 27, 3) := by decide +kernel
theorem pm_a100_24 : pm_as (pm_cd pm_mm100) 24 = some (.getfield 53, 3) := by decide +kernel
theorem pm_a100_27 : pm_as (pm_cd pm_mm100) 27 = some (.ifCond .ne 164, 3) := by decide +kernel
theorem pm_a100_30 : pm_as (pm_cd pm_mm100) 30 = some (.aload_n 0, 1) := by decide +kernel
theorem pm_a100_31 : pm_as (pm_cd pm_mm100) 31 = some (.getfield 30, 3) := by decide +kernel
theorem pm_a100_34 : pm_as (pm_cd pm_mm100) 34 = some (.iload_n 1, 1) := by decide +kernel
theorem pm_a100_35 : pm_as (pm_cd pm_mm100) 35 = some (.invokevirtual 81, 3) := by decide +kernel
theorem pm_a100_38 : pm_as (pm_cd pm_mm100) 38 = some (.iload_n 1, 1) := by decide +kernel
theorem pm_a100_39 : pm_as (pm_cd pm_mm100) 39 = some (.iconst 1, 1) := by decide +kernel
theorem pm_a100_40 : pm_as (pm_cd pm_mm100) 40 = some (.iadd, 1) := by decide +kernel
theorem pm_a100_41 : pm_as (pm_cd pm_mm100) 41 = some (.invokestatic 84, 3) := by decide +kernel
theorem pm_a100_44 : pm_as (pm_cd pm_mm100) 44 = some (.istore_n 2, 1) := by decide +kernel
theorem pm_a100_45 : pm_as (pm_cd pm_mm100) 45 = some (.aload_n 0, 1) := by decide +kernel
theorem pm_a100_46 : pm_as (pm_cd pm_mm100) 46 = some (.iload_n 1, 1) := by decide +kernel
theorem pm_a100_47 : pm_as (pm_cd pm_mm100) 47 = some (.iload_n 2, 1) := by decide +kernel
theorem pm_a100_48 : pm_as (pm_cd pm_mm100) 48 = some (.invokevirtual 90, 3) := by decide +kernel
theorem pm_a100_51 : pm_as (pm_cd pm_mm100) 51 = some (.ifCond .ne 28, 3) := by decide +kernel
theorem pm_a100_54 : pm_as (pm_cd pm_mm100) 54 = some (.aload_n 0, 1) := by decide +kernel
theorem pm_a100_55 : pm_as (pm_cd pm_mm100) 55 = some (.getfield 27, 3) := by decide +kernel
theorem pm_a100_58 : pm_as (pm_cd pm_mm100) 58 = some (.iconst 0, 1) := by decide +kernel
theorem pm_a100_59 : pm_as (pm_cd pm_mm100) 59 = some (.invokevirtual 60, 3) := by decide +kernel
theorem pm_a100_62 : pm_as (pm_cd pm_mm100) 62 = some (.aload_n 0, 1) := by decide +kernel
theorem pm_a100_63 : pm_as (pm_cd pm_mm100) 63 = some (.getfield 27, 3) := by decide +kernel
theorem pm_a100_66 : pm_as (pm_cd pm_mm100) 66 = some (.iconst 3, 1) := by decide +kernel
theorem pm_a100_67 : pm_as (pm_cd pm_mm100) 67 = some (.invokevirtual 60, 3) := by decide +kernel
theorem pm_a100_70 : pm_as (pm_cd pm_mm100) 70 = some (.aload_n 0, 1) := by decide +kernel
theorem pm_a100_71 : pm_as (pm_cd pm_mm100) 71 = some (.iload_n 1, 1) := by decide +kernel
theorem pm_a100_72 : pm_as (pm_cd pm_mm100) 72 = some (.iload_n 2, 1) := by decide +kernel
theorem pm_a100_73 : pm_as (pm_cd pm_mm100) 73 = some (.invokevirtual 94, 3) := by decide +kernel
theorem pm_a100_76 : pm_as (pm_cd pm_mm100) 76 = some (.goto 110, 3) := by decide +kernel
theorem pm_a100_79 : pm_as (pm_cd pm_mm100) 79 = some (.aload_n 0, 1) := by decide +kernel
theorem pm_a100_80 : pm_as (pm_cd pm_mm100) 80 = some (.getfield 23, 3) := by decide +kernel
theorem pm_a100_83 : pm_as (pm_cd pm_mm100) 83 = some (.iload_n 1, 1) := by decide +kernel
theorem pm_a100_84 : pm_as (pm_cd pm_mm100) 84 = some (.invokevirtual 41, 3) := by decide +kernel
theorem pm_a100_87 : pm_as (pm_cd pm_mm100) 87 = some (.ifCond .eq 14, 3) := by decide +kernel
theorem pm_a100_90 : pm_as (pm_cd pm_mm100) 90 = some (.aload_n 0, 1) := by decide +kernel
theorem pm_a100_91 : pm_as (pm_cd pm_mm100) 91 = some (.getfield 27, 3) := by decide +kernel
theorem pm_a100_94 : pm_as (pm_cd pm_mm100) 94 = some (.iconst 4, 1) := by decide +kernel
theorem pm_a100_95 : pm_as (pm_cd pm_mm100) 95 = some (.invokevirtual 60, 3) := by decide +kernel
theorem pm_a100_98 : pm_as (pm_cd pm_mm100) 98 = some (.goto 88, 3) := by decide +kernel
theorem pm_a100_101 : pm_as (pm_cd pm_mm100) 101 = some (.aload_n 0, 1) := by decide +kernel
theorem pm_a100_102 : pm_as (pm_cd pm_mm100) 102 = some (.getfield 23, 3) := by decide +kernel
theorem pm_a100_105 : pm_as (pm_cd pm_mm100) 105 = some (.iload_n 2, 1) := by decide +kernel
theorem pm_a100_106 : pm_as (pm_cd pm_mm100) 106 = some (.iconst 1, 1) := by decide +kernel
theorem pm_a100_107 : pm_as (pm_cd pm_mm100) 107 = some (.isub, 1) := by decide +kernel
theorem pm_a100_108 : pm_as (pm_cd pm_mm100) 108 = some (.invokevirtual 41, 3) := by decide +kernel
theorem pm_a100_111 : pm_as (pm_cd pm_mm100) 111 = some (.bipush 10, 2) := by decide +kernel
theorem pm_a100_113 : pm_as (pm_cd pm_mm100) 113 = some (.if_icmp .ne 45, 3) := by decide +kernel
theorem pm_a100_116 : pm_as (pm_cd pm_mm100) 116 = some (.aload_n 0, 1) := by decide +kernel
theorem pm_a100_117 : pm_as (pm_cd pm_mm100) 117 = some (.getfield 30, 3) := by decide +kernel
theorem pm_a100_120 : pm_as (pm_cd pm_mm100) 120 = some (.iload_n 1, 1) := by decide +kernel
theorem pm_a100_121 : pm_as (pm_cd pm_mm100) 121 = some (.iconst 1, 1) := by decide +kernel
theorem pm_a100_122 : pm_as (pm_cd pm_mm100) 122 = some (.iadd, 1) := by decide +kernel
theorem pm_a100_123 : pm_as (pm_cd pm_mm100) 123 = some (.invokevirtual 81, 3) := by decide +kernel
theorem pm_a100_126 : pm_as (pm_cd pm_mm100) 126 = some (.iload_n 2, 1) := by decide +kernel
theorem pm_a100_127 : pm_as (pm_cd pm_mm100) 127 = some (.iconst 1, 1) := by decide +kernel
theorem pm_a100_128 : pm_as (pm_cd pm_mm100) 128 = some (.isub, 1) := by decide +kernel
theorem pm_a100_129 : pm_as (pm_cd pm_mm100) 129 = some (.if_icmp .ne 29, 3) := by decide +kernel
theorem pm_a100_132 : pm_as (pm_cd pm_mm100) 132 = some (.aload_n 0, 1) := by decide +kernel
theorem pm_a100_133 : pm_as (pm_cd pm_mm100) 133 = some (.iload_n 1, 1) := by decide +kernel
theorem pm_a100_134 : pm_as (pm_cd pm_mm100) 134 = some (.iconst 1, 1) := by decide +kernel
theorem pm_a100_135 : pm_as (pm_cd pm_mm100) 135 = some (.iadd, 1) := by decide +kernel
theorem pm_a100_136 : pm_as (pm_cd pm_mm100) 136 = some (.iload_n 2, 1) := by decide +kernel
theorem pm_a100_137 : pm_as (pm_cd pm_mm100) 137 = some (.iconst 1, 1) := by decide +kernel
theorem pm_a100_138 : pm_as (pm_cd pm_mm100) 138 = some (.isub, 1) := by decide +kernel
theorem pm_a100_139 : pm_as (pm_cd pm_mm100) 139 = some (.invokevirtual 90, 3) := by decide +kernel
theorem pm_a100_142 : pm_as (pm_cd pm_mm100) 142 = some (.ifCond .ne 16, 3) := by decide +kernel
theorem pm_a100_145 : pm_as (pm_cd pm_mm100) 145 = some (.aload_n 0, 1) := by decide +kernel
theorem pm_a100_146 : pm_as (pm_cd pm_mm100) 146 = some (.iload_n 1, 1) := by decide +kernel
theorem pm_a100_147 : pm_as (pm_cd pm_mm100) 147 = some (.iconst 1, 1) := by decide +kernel
theorem pm_a100_148 : pm_as (pm_cd pm_mm100) 148 = some (.iadd, 1) := by decide +kernel
theorem pm_a100_149 : pm_as (pm_cd pm_mm100) 149 = some (.iload_n 2, 1) := by decide +kernel
theorem pm_a100_150 : pm_as (pm_cd pm_mm100) 150 = some (.iconst 1, 1) := by decide +kernel
theorem pm_a100_151 : pm_as (pm_cd pm_mm100) 151 = some (.isub, 1) := by decide +kernel
theorem pm_a100_152 : pm_as (pm_cd pm_mm100) 152 = some (.invokevirtual 94, 3) := by decide +kernel
theorem pm_a100_155 : pm_as (pm_cd pm_mm100) 155 = some (.goto 31, 3) := by decide +kernel
theorem pm_a100_158 : pm_as (pm_cd pm_mm100) 158 = some (.aload_n 0, 1) := by decide +kernel
theorem pm_a100_159 : pm_as (pm_cd pm_mm100) 159 = some (.getfield 27, 3) := by decide +kernel
theorem pm_a100_162 : pm_as (pm_cd pm_mm100) 162 = some (.iconst 0, 1) := by decide +kernel
theorem pm_a100_163 : pm_as (pm_cd pm_mm100) 163 = some (.invokevirtual 60, 3) := by decide +kernel
theorem pm_a100_166 : pm_as (pm_cd pm_mm100) 166 = some (.aload_n 0, 1) := by decide +kernel
theorem pm_a100_167 : pm_as (pm_cd pm_mm100) 167 = some (.getfield 27, 3) := by decide +kernel
theorem pm_a100_170 : pm_as (pm_cd pm_mm100) 170 = some (.iconst 0, 1) := by decide +kernel
theorem pm_a100_171 : pm_as (pm_cd pm_mm100) 171 = some (.invokevirtual 60, 3) := by decide +kernel
theorem pm_a100_174 : pm_as (pm_cd pm_mm100) 174 = some (.aload_n 0, 1) := by decide +kernel
theorem pm_a100_175 : pm_as (pm_cd pm_mm100) 175 = some (.getfield 27, 3) := by decide +kernel
theorem pm_a100_178 : pm_as (pm_cd pm_mm100) 178 = some (.iconst 2, 1) := by decide +kernel
theorem pm_a100_179 : pm_as (pm_cd pm_mm100) 179 = some (.invokevirtual 60, 3) := by decide +kernel
theorem pm_a100_182 : pm_as (pm_cd pm_mm100) 182 = some (.iload_n 1, 1) := by decide +kernel
theorem pm_a100_183 : pm_as (pm_cd pm_mm100) 183 = some (.iconst 1, 1) := by decide +kernel
theorem pm_a100_184 : pm_as (pm_cd pm_mm100) 184 = some (.iadd, 1) := by decide +kernel
theorem pm_a100_185 : pm_as (pm_cd pm_mm100) 185 = some (.istore_n 2, 1) := by decide +kernel
theorem pm_a100_186 : pm_as (pm_cd pm_mm100) 186 = some (.iload_n 2, 1) := by decide +kernel
theorem pm_a100_187 : pm_as (pm_cd pm_mm100) 187 = some (.istore_n 1, 1) := by decide +kernel
theorem pm_a100_188 : pm_as (pm_cd pm_mm100) 188 = some (.goto (-179), 3) := by decide +kernel
theorem pm_a100_191 : pm_as (pm_cd pm_mm100) 191 = some (.return_, 1) := by decide +kernel
theorem pm_a101_0 : pm_as (pm_cd pm_mm101) 0 = some (.iload_n 1, 1) := by decide +kernel
theorem pm_a101_1 : pm_as (pm_cd pm_mm101) 1 = some (.ifCond .lt 36, 3) := by decide +kernel
theorem pm_a101_4 : pm_as (pm_cd pm_mm101) 4 = some (.iload_n 1, 1) := by decide +kernel
theorem pm_a101_5 : pm_as (pm_cd pm_mm101) 5 = some (.iload_n 2, 1) := by decide +kernel
theorem pm_a101_6 : pm_as (pm_cd pm_mm101) 6 = some (.if_icmp .gt 31, 3) := by decide +kernel
theorem pm_a101_9 : pm_as (pm_cd pm_mm101) 9 = some (.iload_n 2, 1) := by decide +kernel
theorem pm_a101_10 : pm_as (pm_cd pm_mm101) 10 = some (.aload_n 0, 1) := by decide +kernel
theorem pm_a101_11 : pm_as (pm_cd pm_mm101) 11 = some (.getfield 15, 3) := by decide +kernel
theorem pm_a101_14 : pm_as (pm_cd pm_mm101) 14 = some (.arraylength, 1) := by decide +kernel
theorem pm_a101_15 : pm_as (pm_cd pm_mm101) 15 = some (.if_icmp .ge 22, 3) := by decide +kernel
theorem pm_a101_18 : pm_as (pm_cd pm_mm101) 18 = some (.aload_n 0, 1) := by decide +kernel
theorem pm_a101_19 : pm_as (pm_cd pm_mm101) 19 = some (.getfield 15, 3) := by decide +kernel
theorem pm_a101_22 : pm_as (pm_cd pm_mm101) 22 = some (.iload_n 2, 1) := by decide +kernel
theorem pm_a101_23 : pm_as (pm_cd pm_mm101) 23 = some (.iaload, 1) := by decide +kernel
theorem pm_a101_24 : pm_as (pm_cd pm_mm101) 24 = some (.aload_n 0, 1) := by decide +kernel
theorem pm_a101_25 : pm_as (pm_cd pm_mm101) 25 = some (.getfield 15, 3) := by decide +kernel
theorem pm_a101_28 : pm_as (pm_cd pm_mm101) 28 = some (.iload_n 1, 1) := by decide +kernel
theorem pm_a101_29 : pm_as (pm_cd pm_mm101) 29 = some (.iaload, 1) := by decide +kernel
theorem pm_a101_30 : pm_as (pm_cd pm_mm101) 30 = some (.if_icmp .le 7, 3) := by decide +kernel
theorem pm_a101_33 : pm_as (pm_cd pm_mm101) 33 = some (.iconst 1, 1) := by decide +kernel
theorem pm_a101_34 : pm_as (pm_cd pm_mm101) 34 = some (.goto 4, 3) := by decide +kernel
theorem pm_a101_37 : pm_as (pm_cd pm_mm101) 37 = some (.iconst 0, 1) := by decide +kernel
theorem pm_a101_38 : pm_as (pm_cd pm_mm101) 38 = some (.ireturn, 1) := by decide +kernel
theorem pm_a102_0 : pm_as (pm_cd pm_mm102) 0 = some (.iload_n 1, 1) := by decide +kernel
theorem pm_a102_1 : pm_as (pm_cd pm_mm102) 1 = some (.istore_n 3, 1) := by decide +kernel
theorem pm_a102_2 : pm_as (pm_cd pm_mm102) 2 = some (.iload_n 3, 1) := by decide +kernel
theorem pm_a102_3 : pm_as (pm_cd pm_mm102) 3 = some (.iload_n 2, 1) := by decide +kernel
theorem pm_a102_4 : pm_as (pm_cd pm_mm102) 4 = some (.if_icmp .ge 42, 3) := by decide +kernel
theorem pm_a102_7 : pm_as (pm_cd pm_mm102) 7 = some (.aload_n 0, 1) := by decide +kernel
theorem pm_a102_8 : pm_as (pm_cd pm_mm102) 8 = some (.getfield 23, 3) := by decide +kernel
theorem pm_a102_11 : pm_as (pm_cd pm_mm102) 11 = some (.iload_n 3, 1) := by decide +kernel
theorem pm_a102_12 : pm_as (pm_cd pm_mm102) 12 = some (.invokevirtual 41, 3) := by decide +kernel
theorem pm_a102_15 : pm_as (pm_cd pm_mm102) 15 = some (.istore 4, 2) := by decide +kernel
theorem pm_a102_17 : pm_as (pm_cd pm_mm102) 17 = some (.aload_n 0, 1) := by decide +kernel
theorem pm_a102_18 : pm_as (pm_cd pm_mm102) 18 = some (.getfield 27, 3) := by decide +kernel
theorem pm_a102_21 : pm_as (pm_cd pm_mm102) 21 = some (.iload 4, 2) := by decide +kernel
theorem pm_a102_23 : pm_as (pm_cd pm_mm102) 23 = some (.bipush 10, 2) := by decide +kernel
theorem pm_a102_25 : pm_as (pm_cd pm_mm102) 25 = some (.if_icmp .le 10, 3) := by decide +kernel
theorem pm_a102_28 : pm_as (pm_cd pm_mm102) 28 = some (.iload 4, 2) := by decide +kernel
theorem pm_a102_30 : pm_as (pm_cd pm_mm102) 30 = some (.iconst 1, 1) := by decide +kernel
theorem pm_a102_31 : pm_as (pm_cd pm_mm102) 31 = some (.isub, 1) := by decide +kernel
theorem pm_a102_32 : pm_as (pm_cd pm_mm102) 32 = some (.goto 5, 3) := by decide +kernel
theorem pm_a102_35 : pm_as (pm_cd pm_mm102) 35 = some (.iload 4, 2) := by decide +kernel
theorem pm_a102_37 : pm_as (pm_cd pm_mm102) 37 = some (.invokevirtual 60, 3) := by decide +kernel
theorem pm_a102_40 : pm_as (pm_cd pm_mm102) 40 = some (.iinc 3 1, 3) := by decide +kernel
theorem pm_a102_43 : pm_as (pm_cd pm_mm102) 43 = some (.goto (-41), 3) := by decide +kernel
theorem pm_a102_46 : pm_as (pm_cd pm_mm102) 46 = some (.return_, 1) := by decide +kernel
theorem pm_a103_0 : pm_as (pm_cd pm_mm103) 0 = some (.aload_n 0, 1) := by decide +kernel
theorem pm_a103_1 : pm_as (pm_cd pm_mm103) 1 = some (.getfield 34, 3) := by decide +kernel
theorem pm_a103_4 : pm_as (pm_cd pm_mm103) 4 = some (.ifCond .le 15, 3) := by decide +kernel
theorem pm_a103_7 : pm_as (pm_cd pm_mm103) 7 = some (.aload_n 0, 1) := by decide +kernel
theorem pm_a103_8 : pm_as (pm_cd pm_mm103) 8 = some (.getfield 34, 3) := by decide +kernel
theorem pm_a103_11 : pm_as (pm_cd pm_mm103) 11 = some (.aload_n 0, 1) := by decide +kernel
theorem pm_a103_12 : pm_as (pm_cd pm_mm103) 12 = some (.getfield 11, 3) := by decide +kernel
theorem pm_a103_15 : pm_as (pm_cd pm_mm103) 15 = some (.arraylength, 1) := by decide +kernel
theorem pm_a103_16 : pm_as (pm_cd pm_mm103) 16 = some (.if_icmp .le 5, 3) := by decide +kernel
theorem pm_a103_19 : pm_as (pm_cd pm_mm103) 19 = some (.iconst 0, 1) := by decide +kernel
theorem pm_a103_20 : pm_as (pm_cd pm_mm103) 20 = some (.ireturn, 1) := by decide +kernel
theorem pm_a103_21 : pm_as (pm_cd pm_mm103) 21 = some (.aload_n 0, 1) := by decide +kernel
theorem pm_a103_22 : pm_as (pm_cd pm_mm103) 22 = some (.dup, 1) := by decide +kernel
theorem pm_a103_23 : pm_as (pm_cd pm_mm103) 23 = some (.getfield 34, 3) := by decide +kernel
theorem pm_a103_26 : pm_as (pm_cd pm_mm103) 26 = some (.iconst 1, 1) := by decide +kernel
theorem pm_a103_27 : pm_as (pm_cd pm_mm103) 27 = some (.isub, 1) := by decide +kernel
theorem pm_a103_28 : pm_as (pm_cd pm_mm103) 28 = some (.putfield 34, 3) := by decide +kernel
theorem pm_a103_31 : pm_as (pm_cd pm_mm103) 31 = some (.aload_n 0, 1) := by decide +kernel
theorem pm_a103_32 : pm_as (pm_cd pm_mm103) 32 = some (.getfield 11, 3) := by decide +kernel
theorem pm_a103_35 : pm_as (pm_cd pm_mm103) 35 = some (.aload_n 0, 1) := by decide +kernel
theorem pm_a103_36 : pm_as (pm_cd pm_mm103) 36 = some (.getfield 34, 3) := by decide +kernel
theorem pm_a103_39 : pm_as (pm_cd pm_mm103) 39 = some (.iload_n 1, 1) := by decide +kernel
theorem pm_a103_40 : pm_as (pm_cd pm_mm103) 40 = some (.iastore, 1) := by decide +kernel
theorem pm_a103_41 : pm_as (pm_cd pm_mm103) 41 = some (.iconst 1, 1) := by decide +kernel
theorem pm_a103_42 : pm_as (pm_cd pm_mm103) 42 = some (.ireturn, 1) := by decide +kernel
theorem pm_a104_0 : pm_as (pm_cd pm_mm104) 0 = some (.aload_n 0, 1) := by decide +kernel
theorem pm_a104_1 : pm_as (pm_cd pm_mm104) 1 = some (.iload_n 1, 1) := by decide +kernel
theorem pm_a104_2 : pm_as (pm_cd pm_mm104) 2 = some (.invokevirtual 86, 3) := by decide +kernel
theorem pm_a104_5 : pm_as (pm_cd pm_mm104) 5 = some (.astore_n 2, 1) := by decide +kernel
theorem pm_a104_6 : pm_as (pm_cd pm_mm104) 6 = some (.aload_n 2, 1) := by decide +kernel
theorem pm_a104_7 : pm_as (pm_cd pm_mm104) 7 = some (.ifnonnull 7, 3) := by decide +kernel
theorem pm_a104_10 : pm_as (pm_cd pm_mm104) 10 = some (.iconst (-1), 1) := by decide +kernel
theorem pm_a104_11 : pm_as (pm_cd pm_mm104) 11 = some (.goto 7, 3) := by decide +kernel
theorem pm_a104_14 : pm_as (pm_cd pm_mm104) 14 = some (.aload_n 2, 1) := by decide +kernel
theorem pm_a104_15 : pm_as (pm_cd pm_mm104) 15 = some (.invokestatic 153, 3) := by decide +kernel
theorem pm_a104_18 : pm_as (pm_cd pm_mm104) 18 = some (.ireturn, 1) := by decide +kernel
theorem pm_a105_0 : pm_as (pm_cd pm_mm105) 0 = some (.aload_n 0, 1) := by decide +kernel
theorem pm_a105_1 : pm_as (pm_cd pm_mm105) 1 = some (.iconst 0, 1) := by decide +kernel
theorem pm_a105_2 : pm_as (pm_cd pm_mm105) 2 = some (.invokevirtual 91, 3) := by decide +kernel
theorem pm_a105_5 : pm_as (pm_cd pm_mm105) 5 = some (.iconst 1, 1) := by decide +kernel
theorem pm_a105_6 : pm_as (pm_cd pm_mm105) 6 = some (.if_icmp .eq 12, 3) := by decide +kernel
theorem pm_a105_9 : pm_as (pm_cd pm_mm105) 9 = some (.aload_n 0, 1) := by decide +kernel
theorem pm_a105_10 : pm_as (pm_cd pm_mm105) 10 = some (.iconst 0, 1) := by decide +kernel
theorem pm_a105_11 : pm_as (pm_cd pm_mm105) 11 = some (.iconst 5, 1) := by decide +kernel
theorem pm_a105_12 : pm_as (pm_cd pm_mm105) 12 = some (.bipush 6, 2) := by decide +kernel
theorem pm_a105_14 : pm_as (pm_cd pm_mm105) 14 = some (.invokestatic 188, 3) := by decide +kernel
theorem pm_a105_17 : pm_as (pm_cd pm_mm105) 17 = some (.ireturn, 1) := by decide +kernel
theorem pm_a105_18 : pm_as (pm_cd pm_mm105) 18 = some (.aload_n 0, 1) := by decide +kernel
theorem pm_a105_19 : pm_as (pm_cd pm_mm105) 19 = some (.iconst 1, 1) := by decide +kernel
theorem pm_a105_20 : pm_as (pm_cd pm_mm105) 20 = some (.invokevirtual 91, 3) := by decide +kernel
theorem pm_a105_23 : pm_as (pm_cd pm_mm105) 23 = some (.iconst 1, 1) := by decide +kernel
theorem pm_a105_24 : pm_as (pm_cd pm_mm105) 24 = some (.if_icmp .ne 13, 3) := by decide +kernel
theorem pm_a105_27 : pm_as (pm_cd pm_mm105) 27 = some (.aload_n 0, 1) := by decide +kernel
theorem pm_a105_28 : pm_as (pm_cd pm_mm105) 28 = some (.iconst 2, 1) := by decide +kernel
theorem pm_a105_29 : pm_as (pm_cd pm_mm105) 29 = some (.bipush 11, 2) := by decide +kernel
theorem pm_a105_31 : pm_as (pm_cd pm_mm105) 31 = some (.bipush 10, 2) := by decide +kernel
theorem pm_a105_33 : pm_as (pm_cd pm_mm105) 33 = some (.invokestatic 188, 3) := by decide +kernel
theorem pm_a105_36 : pm_as (pm_cd pm_mm105) 36 = some (.ireturn, 1) := by decide +kernel
theorem pm_a105_37 : pm_as (pm_cd pm_mm105) 37 = some (.aload_n 0, 1) := by decide +kernel
theorem pm_a105_38 : pm_as (pm_cd pm_mm105) 38 = some (.iconst 1, 1) := by decide +kernel
theorem pm_a105_39 : pm_as (pm_cd pm_mm105) 39 = some (.invokevirtual 91, 3) := by decide +kernel
theorem pm_a105_42 : pm_as (pm_cd pm_mm105) 42 = some (.bipush 10, 2) := by decide +kernel
theorem pm_a105_44 : pm_as (pm_cd pm_mm105) 44 = some (.if_icmp .ne 7, 3) := by decide +kernel
theorem pm_a105_47 : pm_as (pm_cd pm_mm105) 47 = some (.iconst 1, 1) := by decide +kernel
theorem pm_a105_48 : pm_as (pm_cd pm_mm105) 48 = some (.goto 5, 3) := by decide +kernel
theorem pm_a105_51 : pm_as (pm_cd pm_mm105) 51 = some (.bipush (-4), 2) := by decide +kernel
theorem pm_a105_53 : pm_as (pm_cd pm_mm105) 53 = some (.ireturn, 1) := by decide +kernel
theorem pm_a106_0 : pm_as (pm_cd pm_mm106) 0 = some (.iload_n 1, 1) := by decide +kernel
theorem pm_a106_1 : pm_as (pm_cd pm_mm106) 1 = some (.istore 4, 2) := by decide +kernel
theorem pm_a106_3 : pm_as (pm_cd pm_mm106) 3 = some (.iload 4, 2) := by decide +kernel
theorem pm_a106_5 : pm_as (pm_cd pm_mm106) 5 = some (.aload_n 0, 1) := by decide +kernel
theorem pm_a106_6 : pm_as (pm_cd pm_mm106) 6 = some (.getfield 90, 3) := by decide +kernel
theorem pm_a106_9 : pm_as (pm_cd pm_mm106) 9 = some (.if_icmp .ge 30, 3) := by decide +kernel
theorem pm_a106_12 : pm_as (pm_cd pm_mm106) 12 = some (.aload_n 0, 1) := by decide +kernel
theorem pm_a106_13 : pm_as (pm_cd pm_mm106) 13 = some (.iload 4, 2) := by decide +kernel
theorem pm_a106_15 : pm_as (pm_cd pm_mm106) 15 = some (.invokevirtual 91, 3) := by decide +kernel
theorem pm_a106_18 : pm_as (pm_cd pm_mm106) 18 = some (.ifCond .ne 21, 3) := by decide +kernel
theorem pm_a106_21 : pm_as (pm_cd pm_mm106) 21 = some (.aload_n 0, 1) := by decide +kernel
theorem pm_a106_22 : pm_as (pm_cd pm_mm106) 22 = some (.iload 4, 2) := by decide +kernel
theorem pm_a106_24 : pm_as (pm_cd pm_mm106) 24 = some (.iconst 1, 1) := by decide +kernel
theorem pm_a106_25 : pm_as (pm_cd pm_mm106) 25 = some (.iadd, 1) := by decide +kernel
theorem pm_a106_26 : pm_as (pm_cd pm_mm106) 26 = some (.invokevirtual 91, 3) := by decide +kernel
theorem pm_a106_29 : pm_as (pm_cd pm_mm106) 29 = some (.iload_n 2, 1) := by decide +kernel
theorem pm_a106_30 : pm_as (pm_cd pm_mm106) 30 = some (.if_icmp .ne 9, 3) := by decide +kernel
theorem pm_a106_33 : pm_as (pm_cd pm_mm106) 33 = some (.iinc 4 2, 3) := by decide +kernel
theorem pm_a106_36 : pm_as (pm_cd pm_mm106) 36 = some (.goto (-33), 3) := by decide +kernel
theorem pm_a106_39 : pm_as (pm_cd pm_mm106) 39 = some (.aload_n 0, 1) := by decide +kernel
theorem pm_a106_40 : pm_as (pm_cd pm_mm106) 40 = some (.iload 4, 2) := by decide +kernel
theorem pm_a106_42 : pm_as (pm_cd pm_mm106) 42 = some (.invokevirtual 91, 3) := by decide +kernel
theorem pm_a106_45 : pm_as (pm_cd pm_mm106) 45 = some (.iload_n 3, 1) := by decide +kernel
theorem pm_a106_46 : pm_as (pm_cd pm_mm106) 46 = some (.if_icmp .ne 23, 3) := by decide +kernel
theorem pm_a106_49 : pm_as (pm_cd pm_mm106) 49 = some (.iload 4, 2) := by decide +kernel
theorem pm_a106_51 : pm_as (pm_cd pm_mm106) 51 = some (.iconst 1, 1) := by decide +kernel
theorem pm_a106_52 : pm_as (pm_cd pm_mm106) 52 = some (.iadd, 1) := by decide +kernel
theorem pm_a106_53 : pm_as (pm_cd pm_mm106) 53 = some (.aload_n 0, 1) := by decide +kernel
theorem pm_a106_54 : pm_as (pm_cd pm_mm106) 54 = some (.getfield 90, 3) := by decide +kernel
theorem pm_a106_57 : pm_as (pm_cd pm_mm106) 57 = some (.if_icmp .ne 12, 3) := by decide +kernel
theorem pm_a106_60 : pm_as (pm_cd pm_mm106) 60 = some (.iload 4, 2) := by decide +kernel
theorem pm_a106_62 : pm_as (pm_cd pm_mm106) 62 = some (.iload_n 1, 1) := by decide +kernel
theorem pm_a106_63 : pm_as (pm_cd pm_mm106) 63 = some (.isub, 1) := by decide +kernel
theorem pm_a106_64 : pm_as (pm_cd pm_mm106) 64 = some (.iconst 2, 1) := by decide +kernel
theorem pm_a106_65 : pm_as (pm_cd pm_mm106) 65 = some (.idiv, 1) := by decide +kernel
theorem pm_a106_66 : pm_as (pm_cd pm_mm106) 66 = some (.goto 5, 3) := by decide +kernel
theorem pm_a106_69 : pm_as (pm_cd pm_mm106) 69 = some (.bipush (-4), 2) := by decide +kernel
theorem pm_a106_71 : pm_as (pm_cd pm_mm106) 71 = some (.ireturn, 1) := by decide +kernel
theorem pm_a107_0 : pm_as (pm_cd pm_mm107) 0 = some (.aload_n 0, 1) := by decide +kernel
theorem pm_a107_1 : pm_as (pm_cd pm_mm107) 1 = some (.iload_n 1, 1) := by decide +kernel
theorem pm_a107_2 : pm_as (pm_cd pm_mm107) 2 = some (.invokevirtual 86, 3) := by decide +kernel
theorem pm_a107_5 : pm_as (pm_cd pm_mm107) 5 = some (.astore_n 3, 1) := by decide +kernel
theorem pm_a107_6 : pm_as (pm_cd pm_mm107) 6 = some (.aload_n 3, 1) := by decide +kernel
theorem pm_a107_7 : pm_as (pm_cd pm_mm107) 7 = some (.ifnull 10, 3) := by decide +kernel
theorem pm_a107_10 : pm_as (pm_cd pm_mm107) 10 = some (.iload_n 2, 1) := by decide +kernel
theorem pm_a107_11 : pm_as (pm_cd pm_mm107) 11 = some (.invokestatic 121, 3) := by decide +kernel
theorem pm_a107_14 : pm_as (pm_cd pm_mm107) 14 = some (.ifCond .ne 5, 3) := by decide +kernel
theorem pm_a107_17 : pm_as (pm_cd pm_mm107) 17 = some (.iconst (-1), 1) := by decide +kernel
theorem pm_a107_18 : pm_as (pm_cd pm_mm107) 18 = some (.ireturn, 1) := by decide +kernel
theorem pm_a107_19 : pm_as (pm_cd pm_mm107) 19 = some (.aload_n 0, 1) := by decide +kernel
theorem pm_a107_20 : pm_as (pm_cd pm_mm107) 20 = some (.aload_n 3, 1) := by decide +kernel
theorem pm_a107_21 : pm_as (pm_cd pm_mm107) 21 = some (.invokevirtual 156, 3) := by decide +kernel
theorem pm_a107_24 : pm_as (pm_cd pm_mm107) 24 = some (.aload_n 0, 1) := by decide +kernel
theorem pm_a107_25 : pm_as (pm_cd pm_mm107) 25 = some (.getfield 25, 3) := by decide +kernel
theorem pm_a107_28 : pm_as (pm_cd pm_mm107) 28 = some (.getfield 106, 3) := by decide +kernel
theorem pm_a107_31 : pm_as (pm_cd pm_mm107) 31 = some (.ifCond .eq 8, 3) := by decide +kernel
theorem pm_a107_34 : pm_as (pm_cd pm_mm107) 34 = some (.bipush (-3), 2) := by decide +kernel
theorem pm_a107_36 : pm_as (pm_cd pm_mm107) 36 = some (.goto 4, 3) := by decide +kernel
theorem pm_a107_39 : pm_as (pm_cd pm_mm107) 39 = some (.iconst 1, 1) := by decide +kernel
theorem pm_a107_40 : pm_as (pm_cd pm_mm107) 40 = some (.istore 4, 2) := by decide +kernel
theorem pm_a107_42 : pm_as (pm_cd pm_mm107) 42 = some (.iconst 0, 1) := by decide +kernel
theorem pm_a107_43 : pm_as (pm_cd pm_mm107) 43 = some (.istore 5, 2) := by decide +kernel
theorem pm_a107_45 : pm_as (pm_cd pm_mm107) 45 = some (.iload 5, 2) := by decide +kernel
theorem pm_a107_47 : pm_as (pm_cd pm_mm107) 47 = some (.iload_n 2, 1) := by decide +kernel
theorem pm_a107_48 : pm_as (pm_cd pm_mm107) 48 = some (.if_icmp .ge 29, 3) := by decide +kernel
theorem pm_a107_51 : pm_as (pm_cd pm_mm107) 51 = some (.iload 4, 2) := by decide +kernel
theorem pm_a107_53 : pm_as (pm_cd pm_mm107) 53 = some (.iconst 1, 1) := by decide +kernel
theorem pm_a107_54 : pm_as (pm_cd pm_mm107) 54 = some (.if_icmp .ne 23, 3) := by decide +kernel
theorem pm_a107_57 : pm_as (pm_cd pm_mm107) 57 = some (.aload_n 0, 1) := by decide +kernel
theorem pm_a107_58 : pm_as (pm_cd pm_mm107) 58 = some (.getfield 57, 3) := by decide +kernel
theorem pm_a107_61 : pm_as (pm_cd pm_mm107) 61 = some (.aload_n 0, 1) := by decide +kernel
theorem pm_a107_62 : pm_as (pm_cd pm_mm107) 62 = some (.getfield 25, 3) := by decide +kernel
theorem pm_a107_65 : pm_as (pm_cd pm_mm107) 65 = some (.iconst 0, 1) := by decide +kernel
theorem pm_a107_66 : pm_as (pm_cd pm_mm107) 66 = some (.invokevirtual 118, 3) := by decide +kernel
theorem pm_a107_69 : pm_as (pm_cd pm_mm107) 69 = some (.istore 4, 2) := by decide +kernel
theorem pm_a107_71 : pm_as (pm_cd pm_mm107) 71 = some (.iinc 5 1, 3) := by decide +kernel
theorem pm_a107_74 : pm_as (pm_cd pm_mm107) 74 = some (.goto (-29), 3) := by decide +kernel
theorem pm_a107_77 : pm_as (pm_cd pm_mm107) 77 = some (.iload 4, 2) := by decide +kernel
theorem pm_a107_79 : pm_as (pm_cd pm_mm107) 79 = some (.bipush (-3), 2) := by decide +kernel
theorem pm_a107_81 : pm_as (pm_cd pm_mm107) 81 = some (.if_icmp .ne 6, 3) := by decide +kernel
theorem pm_a107_84 : pm_as (pm_cd pm_mm107) 84 = some (.bipush (-3), 2) := by decide +kernel
theorem pm_a107_86 : pm_as (pm_cd pm_mm107) 86 = some (.ireturn, 1) := by decide +kernel
theorem pm_a107_87 : pm_as (pm_cd pm_mm107) 87 = some (.aload_n 0, 1) := by decide +kernel
theorem pm_a107_88 : pm_as (pm_cd pm_mm107) 88 = some (.getfield 57, 3) := by decide +kernel
theorem pm_a107_91 : pm_as (pm_cd pm_mm107) 91 = some (.aload_n 0, 1) := by decide +kernel
theorem pm_a107_92 : pm_as (pm_cd pm_mm107) 92 = some (.getfield 25, 3) := by decide +kernel
theorem pm_a107_95 : pm_as (pm_cd pm_mm107) 95 = some (.iconst 0, 1) := by decide +kernel
theorem pm_a107_96 : pm_as (pm_cd pm_mm107) 96 = some (.invokevirtual 136, 3) := by decide +kernel
theorem pm_a107_99 : pm_as (pm_cd pm_mm107) 99 = some (.bipush (-4), 2) := by decide +kernel
theorem pm_a107_101 : pm_as (pm_cd pm_mm107) 101 = some (.if_icmp .ne 13, 3) := by decide +kernel
theorem pm_a107_104 : pm_as (pm_cd pm_mm107) 104 = some (.aload_n 0, 1) := by decide +kernel
theorem pm_a107_105 : pm_as (pm_cd pm_mm107) 105 = some (.getfield 25, 3) := by decide +kernel
theorem pm_a107_108 : pm_as (pm_cd pm_mm107) 108 = some (.invokestatic 153, 3) := by decide +kernel
theorem pm_a107_111 : pm_as (pm_cd pm_mm107) 111 = some (.goto 5, 3) := by decide +kernel
theorem pm_a107_114 : pm_as (pm_cd pm_mm107) 114 = some (.bipush (-2), 2) := by decide +kernel
theorem pm_a107_116 : pm_as (pm_cd pm_mm107) 116 = some (.ireturn, 1) := by decide +kernel
theorem pm_a108_0 : pm_as (pm_cd pm_mm108) 0 = some (.aload_n 0, 1) := by decide +kernel
theorem pm_a108_1 : pm_as (pm_cd pm_mm108) 1 = some (.getfield 25, 3) := by decide +kernel
theorem pm_a108_4 : pm_as (pm_cd pm_mm108) 4 = some (.invokevirtual 185, 3) := by decide +kernel
theorem pm_a108_7 : pm_as (pm_cd pm_mm108) 7 = some (.aload_n 0, 1) := by decide +kernel
theorem pm_a108_8 : pm_as (pm_cd pm_mm108) 8 = some (.getfield 25, 3) := by decide +kernel
theorem pm_a108_11 : pm_as (pm_cd pm_mm108) 11 = some (.iconst 0, 1) := by decide +kernel
theorem pm_a108_12 : pm_as (pm_cd pm_mm108) 12 = some (.invokevirtual 99, 3) := by decide +kernel
theorem pm_a108_15 : pm_as (pm_cd pm_mm108) 15 = some (.aload_n 0, 1) := by decide +kernel
theorem pm_a108_16 : pm_as (pm_cd pm_mm108) 16 = some (.getfield 25, 3) := by decide +kernel
theorem pm_a108_19 : pm_as (pm_cd pm_mm108) 19 = some (.iconst 0, 1) := by decide +kernel
theorem pm_a108_20 : pm_as (pm_cd pm_mm108) 20 = some (.invokevirtual 99, 3) := by decide +kernel
theorem pm_a108_23 : pm_as (pm_cd pm_mm108) 23 = some (.aload_n 0, 1) := by decide +kernel
theorem pm_a108_24 : pm_as (pm_cd pm_mm108) 24 = some (.getfield 25, 3) := by decide +kernel
theorem pm_a108_27 : pm_as (pm_cd pm_mm108) 27 = some (.aload_n 1, 1) := by decide +kernel
theorem pm_a108_28 : pm_as (pm_cd pm_mm108) 28 = some (.invokevirtual 102, 3) := by decide +kernel
theorem pm_a108_31 : pm_as (pm_cd pm_mm108) 31 = some (.aload_n 0, 1) := by decide +kernel
theorem pm_a108_32 : pm_as (pm_cd pm_mm108) 32 = some (.getfield 25, 3) := by decide +kernel
theorem pm_a108_35 : pm_as (pm_cd pm_mm108) 35 = some (.iconst 5, 1) := by decide +kernel
theorem pm_a108_36 : pm_as (pm_cd pm_mm108) 36 = some (.invokevirtual 99, 3) := by decide +kernel
theorem pm_a108_39 : pm_as (pm_cd pm_mm108) 39 = some (.aload_n 0, 1) := by decide +kernel
theorem pm_a108_40 : pm_as (pm_cd pm_mm108) 40 = some (.getfield 25, 3) := by decide +kernel
theorem pm_a108_43 : pm_as (pm_cd pm_mm108) 43 = some (.bipush 6, 2) := by decide +kernel
theorem pm_a108_45 : pm_as (pm_cd pm_mm108) 45 = some (.invokevirtual 99, 3) := by decide +kernel
theorem pm_a108_48 : pm_as (pm_cd pm_mm108) 48 = some (.return_, 1) := by decide +kernel
theorem pm_a109_0 : pm_as (pm_cd pm_mm109) 0 = some (.aload_n 0, 1) := by decide +kernel
theorem pm_a109_1 : pm_as (pm_cd pm_mm109) 1 = some (.iload_n 1, 1) := by decide +kernel
theorem pm_a109_2 : pm_as (pm_cd pm_mm109) 2 = some (.invokevirtual 86, 3) := by decide +kernel
theorem pm_a109_5 : pm_as (pm_cd pm_mm109) 5 = some (.astore_n 2, 1) := by decide +kernel
theorem pm_a109_6 : pm_as (pm_cd pm_mm109) 6 = some (.aload_n 2, 1) := by decide +kernel
theorem pm_a109_7 : pm_as (pm_cd pm_mm109) 7 = some (.ifnonnull 5, 3) := by decide +kernel
theorem pm_a109_10 : pm_as (pm_cd pm_mm109) 10 = some (.iconst (-1), 1) := by decide +kernel
theorem pm_a109_11 : pm_as (pm_cd pm_mm109) 11 = some (.ireturn, 1) := by decide +kernel
theorem pm_a109_12 : pm_as (pm_cd pm_mm109) 12 = some (.aload_n 0, 1) := by decide +kernel
theorem pm_a109_13 : pm_as (pm_cd pm_mm109) 13 = some (.getfield 159, 3) := by decide +kernel
theorem pm_a109_16 : pm_as (pm_cd pm_mm109) 16 = some (.ifnonnull 18, 3) := by decide +kernel
theorem pm_a109_19 : pm_as (pm_cd pm_mm109) 19 = some (.aload_n 0, 1) := by decide +kernel
theorem pm_a109_20 : pm_as (pm_cd pm_mm109) 20 = some (.new 163, 3) := by decide +kernel
theorem pm_a109_23 : pm_as (pm_cd pm_mm109) 23 = some (.dup, 1) := by decide +kernel
theorem pm_a109_24 : pm_as (pm_cd pm_mm109) 24 = some (.aload_n 0, 1) := by decide +kernel
theorem pm_a109_25 : pm_as (pm_cd pm_mm109) 25 = some (.getfield 32, 3) := by decide +kernel
theorem pm_a109_28 : pm_as (pm_cd pm_mm109) 28 = some (.invokespecial 165, 3) := by decide +kernel
theorem pm_a109_31 : pm_as (pm_cd pm_mm109) 31 = some (.putfield 159, 3) := by decide +kernel
theorem pm_a109_34 : pm_as (pm_cd pm_mm109) 34 = some (.aload_n 0, 1) := by decide +kernel
theorem pm_a109_35 : pm_as (pm_cd pm_mm109) 35 = some (.getfield 159, 3) := by decide +kernel
theorem pm_a109_38 : pm_as (pm_cd pm_mm109) 38 = some (.aload_n 2, 1) := by decide +kernel
theorem pm_a109_39 : pm_as (pm_cd pm_mm109) 39 = some (.invokevirtual 166, 3) := by decide +kernel
theorem pm_a109_42 : pm_as (pm_cd pm_mm109) 42 = some (.ireturn, 1) := by decide +kernel
theorem pm_a110_0 : pm_as (pm_cd pm_mm110) 0 = some (.aload_n 0, 1) := by decide +kernel
theorem pm_a110_1 : pm_as (pm_cd pm_mm110) 1 = some (.invokespecial 3, 3) := by decide +kernel
theorem pm_a110_4 : pm_as (pm_cd pm_mm110) 4 = some (.aload_n 0, 1) := by decide +kernel
theorem pm_a110_5 : pm_as (pm_cd pm_mm110) 5 = some (.sipush 2800, 3) := by decide +kernel
theorem pm_a110_8 : pm_as (pm_cd pm_mm110) 8 = some (.newarray .int, 2) := by decide +kernel
theorem pm_a110_10 : pm_as (pm_cd pm_mm110) 10 = some (.putfield 11, 3) := by decide +kernel
theorem pm_a110_13 : pm_as (pm_cd pm_mm110) 13 = some (.aload_n 0, 1) := by decide +kernel
theorem pm_a110_14 : pm_as (pm_cd pm_mm110) 14 = some (.sipush 2800, 3) := by decide +kernel
theorem pm_a110_17 : pm_as (pm_cd pm_mm110) 17 = some (.newarray .int, 2) := by decide +kernel
theorem pm_a110_19 : pm_as (pm_cd pm_mm110) 19 = some (.putfield 15, 3) := by decide +kernel
theorem pm_a110_22 : pm_as (pm_cd pm_mm110) 22 = some (.aload_n 0, 1) := by decide +kernel
theorem pm_a110_23 : pm_as (pm_cd pm_mm110) 23 = some (.sipush 2800, 3) := by decide +kernel
theorem pm_a110_26 : pm_as (pm_cd pm_mm110) 26 = some (.newarray .int, 2) := by decide +kernel
theorem pm_a110_28 : pm_as (pm_cd pm_mm110) 28 = some (.putfield 18, 3) := by decide +kernel
theorem pm_a110_31 : pm_as (pm_cd pm_mm110) 31 = some (.aload_n 0, 1) := by decide +kernel
theorem pm_a110_32 : pm_as (pm_cd pm_mm110) 32 = some (.sipush 2800, 3) := by decide +kernel
theorem pm_a110_35 : pm_as (pm_cd pm_mm110) 35 = some (.newarray .int, 2) := by decide +kernel
theorem pm_a110_37 : pm_as (pm_cd pm_mm110) 37 = some (.putfield 21, 3) := by decide +kernel
theorem pm_a110_40 : pm_as (pm_cd pm_mm110) 40 = some (.aload_n 0, 1) := by decide +kernel
theorem pm_a110_41 : pm_as (pm_cd pm_mm110) 41 = some (.sipush 2800, 3) := by decide +kernel
theorem pm_a110_44 : pm_as (pm_cd pm_mm110) 44 = some (.newarray .int, 2) := by decide +kernel
theorem pm_a110_46 : pm_as (pm_cd pm_mm110) 46 = some (.putfield 24, 3) := by decide +kernel
theorem pm_a110_49 : pm_as (pm_cd pm_mm110) 49 = some (.aload_n 0, 1) := by decide +kernel
theorem pm_a110_50 : pm_as (pm_cd pm_mm110) 50 = some (.sipush 500, 3) := by decide +kernel
theorem pm_a110_53 : pm_as (pm_cd pm_mm110) 53 = some (.newarray .int, 2) := by decide +kernel
theorem pm_a110_55 : pm_as (pm_cd pm_mm110) 55 = some (.putfield 27, 3) := by decide +kernel
theorem pm_a110_58 : pm_as (pm_cd pm_mm110) 58 = some (.aload_n 0, 1) := by decide +kernel
theorem pm_a110_59 : pm_as (pm_cd pm_mm110) 59 = some (.sipush 501, 3) := by decide +kernel
theorem pm_a110_62 : pm_as (pm_cd pm_mm110) 62 = some (.newarray .int, 2) := by decide +kernel
theorem pm_a110_64 : pm_as (pm_cd pm_mm110) 64 = some (.putfield 30, 3) := by decide +kernel
theorem pm_a110_67 : pm_as (pm_cd pm_mm110) 67 = some (.aload_n 0, 1) := by decide +kernel
theorem pm_a110_68 : pm_as (pm_cd pm_mm110) 68 = some (.new 33, 3) := by decide +kernel
theorem pm_a110_71 : pm_as (pm_cd pm_mm110) 71 = some (.dup, 1) := by decide +kernel
theorem pm_a110_72 : pm_as (pm_cd pm_mm110) 72 = some (.sipush 500, 3) := by decide +kernel
theorem pm_a110_75 : pm_as (pm_cd pm_mm110) 75 = some (.invokespecial 35, 3) := by decide +kernel
theorem pm_a110_78 : pm_as (pm_cd pm_mm110) 78 = some (.putfield 38, 3) := by decide +kernel
theorem pm_a110_81 : pm_as (pm_cd pm_mm110) 81 = some (.aload_n 0, 1) := by decide +kernel
theorem pm_a110_82 : pm_as (pm_cd pm_mm110) 82 = some (.new 33, 3) := by decide +kernel
theorem pm_a110_85 : pm_as (pm_cd pm_mm110) 85 = some (.dup, 1) := by decide +kernel
theorem pm_a110_86 : pm_as (pm_cd pm_mm110) 86 = some (.sipush 500, 3) := by decide +kernel
theorem pm_a110_89 : pm_as (pm_cd pm_mm110) 89 = some (.invokespecial 35, 3) := by decide +kernel
theorem pm_a110_92 : pm_as (pm_cd pm_mm110) 92 = some (.putfield 42, 3) := by decide +kernel
theorem pm_a110_95 : pm_as (pm_cd pm_mm110) 95 = some (.aload_n 0, 1) := by decide +kernel
theorem pm_a110_96 : pm_as (pm_cd pm_mm110) 96 = some (.aload_n 1, 1) := by decide +kernel
theorem pm_a110_97 : pm_as (pm_cd pm_mm110) 97 = some (.putfield 45, 3) := by decide +kernel
theorem pm_a110_100 : pm_as (pm_cd pm_mm110) 100 = some (.return_, 1) := by decide +kernel
theorem pm_a111_0 : pm_as (pm_cd pm_mm111) 0 = some (.aload_n 0, 1) := by decide +kernel
theorem pm_a111_1 : pm_as (pm_cd pm_mm111) 1 = some (.iconst 0, 1) := by decide +kernel
theorem pm_a111_2 : pm_as (pm_cd pm_mm111) 2 = some (.putfield 49, 3) := by decide +kernel
theorem pm_a111_5 : pm_as (pm_cd pm_mm111) 5 = some (.aload_n 0, 1) := by decide +kernel
theorem pm_a111_6 : pm_as (pm_cd pm_mm111) 6 = some (.iconst 0, 1) := by decide +kernel
theorem pm_a111_7 : pm_as (pm_cd pm_mm111) 7 = some (.putfield 53, 3) := by decide +kernel
theorem pm_a111_10 : pm_as (pm_cd pm_mm111) 10 = some (.aload_n 0, 1) := by decide +kernel
theorem pm_a111_11 : pm_as (pm_cd pm_mm111) 11 = some (.getfield 45, 3) := by decide +kernel
theorem pm_a111_14 : pm_as (pm_cd pm_mm111) 14 = some (.aload_n 1, 1) := by decide +kernel
theorem pm_a111_15 : pm_as (pm_cd pm_mm111) 15 = some (.iconst 0, 1) := by decide +kernel
theorem pm_a111_16 : pm_as (pm_cd pm_mm111) 16 = some (.aload_n 1, 1) := by decide +kernel
theorem pm_a111_17 : pm_as (pm_cd pm_mm111) 17 = some (.getfield 56, 3) := by decide +kernel
theorem pm_a111_20 : pm_as (pm_cd pm_mm111) 20 = some (.invokevirtual 59, 3) := by decide +kernel
theorem pm_a111_23 : pm_as (pm_cd pm_mm111) 23 = some (.aload_n 0, 1) := by decide +kernel
theorem pm_a111_24 : pm_as (pm_cd pm_mm111) 24 = some (.invokevirtual 65, 3) := by decide +kernel
theorem pm_a111_27 : pm_as (pm_cd pm_mm111) 27 = some (.istore_n 2, 1) := by decide +kernel
theorem pm_a111_28 : pm_as (pm_cd pm_mm111) 28 = some (.aload_n 0, 1) := by decide +kernel
theorem pm_a111_29 : pm_as (pm_cd pm_mm111) 29 = some (.aload_n 0, 1) := by decide +kernel
theorem pm_a111_30 : pm_as (pm_cd pm_mm111) 30 = some (.invokevirtual 65, 3) := by decide +kernel
theorem pm_a111_33 : pm_as (pm_cd pm_mm111) 33 = some (.putfield 69, 3) := by decide +kernel
theorem pm_a111_36 : pm_as (pm_cd pm_mm111) 36 = some (.aload_n 0, 1) := by decide +kernel
theorem pm_a111_37 : pm_as (pm_cd pm_mm111) 37 = some (.iload_n 2, 1) := by decide +kernel
theorem pm_a111_38 : pm_as (pm_cd pm_mm111) 38 = some (.invokevirtual 72, 3) := by decide +kernel
theorem pm_a111_41 : pm_as (pm_cd pm_mm111) 41 = some (.iconst 0, 1) := by decide +kernel
theorem pm_a111_42 : pm_as (pm_cd pm_mm111) 42 = some (.istore_n 3, 1) := by decide +kernel
theorem pm_a111_43 : pm_as (pm_cd pm_mm111) 43 = some (.iload_n 3, 1) := by decide +kernel
theorem pm_a111_44 : pm_as (pm_cd pm_mm111) 44 = some (.aload_n 1, 1) := by decide +kernel
theorem pm_a111_45 : pm_as (pm_cd pm_mm111) 45 = some (.getfield 56, 3) := by decide +kernel
theorem pm_a111_48 : pm_as (pm_cd pm_mm111) 48 = some (.if_icmp .ge 23, 3) := by decide +kernel
theorem pm_a111_51 : pm_as (pm_cd pm_mm111) 51 = some (.aload_n 0, 1) := by decide +kernel
theorem pm_a111_52 : pm_as (pm_cd pm_mm111) 52 = some (.aload_n 1, 1) := by decide +kernel
theorem pm_a111_53 : pm_as (pm_cd pm_mm111) 53 = some (.iload_n 3, 1) := by decide +kernel
theorem pm_a111_54 : pm_as (pm_cd pm_mm111) 54 = some (.invokevirtual 75, 3) := by decide +kernel
theorem pm_a111_57 : pm_as (pm_cd pm_mm111) 57 = some (.iload_n 3, 1) := by decide +kernel
theorem pm_a111_58 : pm_as (pm_cd pm_mm111) 58 = some (.aload_n 0, 1) := by decide +kernel
theorem pm_a111_59 : pm_as (pm_cd pm_mm111) 59 = some (.invokevirtual 79, 3) := by decide +kernel
theorem pm_a111_62 : pm_as (pm_cd pm_mm111) 62 = some (.invokevirtual 82, 3) := by decide +kernel
theorem pm_a111_65 : pm_as (pm_cd pm_mm111) 65 = some (.iinc 3 1, 3) := by decide +kernel
theorem pm_a111_68 : pm_as (pm_cd pm_mm111) 68 = some (.goto (-25), 3) := by decide +kernel
theorem pm_a111_71 : pm_as (pm_cd pm_mm111) 71 = some (.aload_n 0, 1) := by decide +kernel
theorem pm_a111_72 : pm_as (pm_cd pm_mm111) 72 = some (.invokevirtual 86, 3) := by decide +kernel
theorem pm_a111_75 : pm_as (pm_cd pm_mm111) 75 = some (.ifCond .eq 6, 3) := by decide +kernel
theorem pm_a111_78 : pm_as (pm_cd pm_mm111) 78 = some (.bipush (-4), 2) := by decide +kernel
theorem pm_a111_80 : pm_as (pm_cd pm_mm111) 80 = some (.ireturn, 1) := by decide +kernel
theorem pm_a111_81 : pm_as (pm_cd pm_mm111) 81 = some (.aload_n 0, 1) := by decide +kernel
theorem pm_a111_82 : pm_as (pm_cd pm_mm111) 82 = some (.iload_n 2, 1) := by decide +kernel
theorem pm_a111_83 : pm_as (pm_cd pm_mm111) 83 = some (.invokevirtual 90, 3) := by decide +kernel
theorem pm_a111_86 : pm_as (pm_cd pm_mm111) 86 = some (.aload_n 0, 1) := by decide +kernel
theorem pm_a111_87 : pm_as (pm_cd pm_mm111) 87 = some (.getfield 38, 3) := by decide +kernel
theorem pm_a111_90 : pm_as (pm_cd pm_mm111) 90 = some (.getfield 93, 3) := by decide +kernel
theorem pm_a111_93 : pm_as (pm_cd pm_mm111) 93 = some (.ifCond .eq 6, 3) := by decide +kernel
theorem pm_a111_96 : pm_as (pm_cd pm_mm111) 96 = some (.bipush (-3), 2) := by decide +kernel
theorem pm_a111_98 : pm_as (pm_cd pm_mm111) 98 = some (.ireturn, 1) := by decide +kernel
theorem pm_a111_99 : pm_as (pm_cd pm_mm111) 99 = some (.aload_n 0, 1) := by decide +kernel
theorem pm_a111_100 : pm_as (pm_cd pm_mm111) 100 = some (.getfield 42, 3) := by decide +kernel
theorem pm_a111_103 : pm_as (pm_cd pm_mm111) 103 = some (.invokevirtual 97, 3) := by decide +kernel
theorem pm_a111_106 : pm_as (pm_cd pm_mm111) 106 = some (.aload_n 0, 1) := by decide +kernel
theorem pm_a111_107 : pm_as (pm_cd pm_mm111) 107 = some (.getfield 42, 3) := by decide +kernel
theorem pm_a111_110 : pm_as (pm_cd pm_mm111) 110 = some (.aload_n 0, 1) := by decide +kernel
theorem pm_a111_111 : pm_as (pm_cd pm_mm111) 111 = some (.getfield 38, 3) := by decide +kernel
theorem pm_a111_114 : pm_as (pm_cd pm_mm111) 114 = some (.invokevirtual 100, 3) := by decide +kernel
theorem pm_a111_117 : pm_as (pm_cd pm_mm111) 117 = some (.aload_n 0, 1) := by decide +kernel
theorem pm_a111_118 : pm_as (pm_cd pm_mm111) 118 = some (.getfield 42, 3) := by decide +kernel
theorem pm_a111_121 : pm_as (pm_cd pm_mm111) 121 = some (.getfield 56, 3) := by decide +kernel
theorem pm_a111_124 : pm_as (pm_cd pm_mm111) 124 = some (.ireturn, 1) := by decide +kernel
theorem pm_a112_0 : pm_as (pm_cd pm_mm112) 0 = some (.aload_n 0, 1) := by decide +kernel
theorem pm_a112_1 : pm_as (pm_cd pm_mm112) 1 = some (.iconst (-1), 1) := by decide +kernel
theorem pm_a112_2 : pm_as (pm_cd pm_mm112) 2 = some (.iconst (-1), 1) := by decide +kernel
theorem pm_a112_3 : pm_as (pm_cd pm_mm112) 3 = some (.invokevirtual 127, 3) := by decide +kernel
theorem pm_a112_6 : pm_as (pm_cd pm_mm112) 6 = some (.ireturn, 1) := by decide +kernel
theorem pm_a113_0 : pm_as (pm_cd pm_mm113) 0 = some (.aload_n 0, 1) := by decide +kernel
theorem pm_a113_1 : pm_as (pm_cd pm_mm113) 1 = some (.getfield 49, 3) := by decide +kernel
theorem pm_a113_4 : pm_as (pm_cd pm_mm113) 4 = some (.sipush 2799, 3) := by decide +kernel
theorem pm_a113_7 : pm_as (pm_cd pm_mm113) 7 = some (.invokestatic 144, 3) := by decide +kernel
theorem pm_a113_10 : pm_as (pm_cd pm_mm113) 10 = some (.istore_n 3, 1) := by decide +kernel
theorem pm_a113_11 : pm_as (pm_cd pm_mm113) 11 = some (.aload_n 0, 1) := by decide +kernel
theorem pm_a113_12 : pm_as (pm_cd pm_mm113) 12 = some (.getfield 11, 3) := by decide +kernel
theorem pm_a113_15 : pm_as (pm_cd pm_mm113) 15 = some (.iload_n 3, 1) := by decide +kernel
theorem pm_a113_16 : pm_as (pm_cd pm_mm113) 16 = some (.iload_n 1, 1) := by decide +kernel
theorem pm_a113_17 : pm_as (pm_cd pm_mm113) 17 = some (.invokestatic 130, 3) := by decide +kernel
theorem pm_a113_20 : pm_as (pm_cd pm_mm113) 20 = some (.aload_n 0, 1) := by decide +kernel
theorem pm_a113_21 : pm_as (pm_cd pm_mm113) 21 = some (.getfield 15, 3) := by decide +kernel
theorem pm_a113_24 : pm_as (pm_cd pm_mm113) 24 = some (.iload_n 3, 1) := by decide +kernel
theorem pm_a113_25 : pm_as (pm_cd pm_mm113) 25 = some (.iload_n 2, 1) := by decide +kernel
theorem pm_a113_26 : pm_as (pm_cd pm_mm113) 26 = some (.invokestatic 130, 3) := by decide +kernel
theorem pm_a113_29 : pm_as (pm_cd pm_mm113) 29 = some (.aload_n 0, 1) := by decide +kernel
theorem pm_a113_30 : pm_as (pm_cd pm_mm113) 30 = some (.getfield 18, 3) := by decide +kernel
theorem pm_a113_33 : pm_as (pm_cd pm_mm113) 33 = some (.iload_n 3, 1) := by decide +kernel
theorem pm_a113_34 : pm_as (pm_cd pm_mm113) 34 = some (.iload_n 3, 1) := by decide +kernel
theorem pm_a113_35 : pm_as (pm_cd pm_mm113) 35 = some (.invokestatic 130, 3) := by decide +kernel
theorem pm_a113_38 : pm_as (pm_cd pm_mm113) 38 = some (.aload_n 0, 1) := by decide +kernel
theorem pm_a113_39 : pm_as (pm_cd pm_mm113) 39 = some (.iload_n 3, 1) := by decide +kernel
theorem pm_a113_40 : pm_as (pm_cd pm_mm113) 40 = some (.iconst 1, 1) := by decide +kernel
theorem pm_a113_41 : pm_as (pm_cd pm_mm113) 41 = some (.iadd, 1) := by decide +kernel
theorem pm_a113_42 : pm_as (pm_cd pm_mm113) 42 = some (.putfield 49, 3) := by decide +kernel
theorem pm_a113_45 : pm_as (pm_cd pm_mm113) 45 = some (.iload_n 3, 1) := by decide +kernel
theorem pm_a113_46 : pm_as (pm_cd pm_mm113) 46 = some (.ireturn, 1) := by decide +kernel
theorem pm_a114_0 : pm_as (pm_cd pm_mm114) 0 = some (.iload_n 1, 1) := by decide +kernel
theorem pm_a114_1 : pm_as (pm_cd pm_mm114) 1 = some (.ifCond .lt 13, 3) := by decide +kernel
theorem pm_a114_4 : pm_as (pm_cd pm_mm114) 4 = some (.iload_n 1, 1) := by decide +kernel
theorem pm_a114_5 : pm_as (pm_cd pm_mm114) 5 = some (.aload_n 0, 1) := by decide +kernel
theorem pm_a114_6 : pm_as (pm_cd pm_mm114) 6 = some (.arraylength, 1) := by decide +kernel
theorem pm_a114_7 : pm_as (pm_cd pm_mm114) 7 = some (.if_icmp .ge 7, 3) := by decide +kernel
theorem pm_a114_10 : pm_as (pm_cd pm_mm114) 10 = some (.aload_n 0, 1) := by decide +kernel
theorem pm_a114_11 : pm_as (pm_cd pm_mm114) 11 = some (.iload_n 1, 1) := by decide +kernel
theorem pm_a114_12 : pm_as (pm_cd pm_mm114) 12 = some (.iload_n 2, 1) := by decide +kernel
theorem pm_a114_13 : pm_as (pm_cd pm_mm114) 13 = some (.iastore, 1) := by decide +kernel
theorem pm_a114_14 : pm_as (pm_cd pm_mm114) 14 = some (.return_, 1) := by decide +kernel
theorem pm_a115_0 : pm_as (pm_cd pm_mm115) 0 = some (.aload_n 0, 1) := by decide +kernel
theorem pm_a115_1 : pm_as (pm_cd pm_mm115) 1 = some (.getfield 53, 3) := by decide +kernel
theorem pm_a115_4 : pm_as (pm_cd pm_mm115) 4 = some (.ifCond .lt 35, 3) := by decide +kernel
theorem pm_a115_7 : pm_as (pm_cd pm_mm115) 7 = some (.aload_n 0, 1) := by decide +kernel
theorem pm_a115_8 : pm_as (pm_cd pm_mm115) 8 = some (.getfield 53, 3) := by decide +kernel
theorem pm_a115_11 : pm_as (pm_cd pm_mm115) 11 = some (.aload_n 0, 1) := by decide +kernel
theorem pm_a115_12 : pm_as (pm_cd pm_mm115) 12 = some (.getfield 30, 3) := by decide +kernel
theorem pm_a115_15 : pm_as (pm_cd pm_mm115) 15 = some (.arraylength, 1) := by decide +kernel
theorem pm_a115_16 : pm_as (pm_cd pm_mm115) 16 = some (.if_icmp .ge 23, 3) := by decide +kernel
theorem pm_a115_19 : pm_as (pm_cd pm_mm115) 19 = some (.aload_n 0, 1) := by decide +kernel
theorem pm_a115_20 : pm_as (pm_cd pm_mm115) 20 = some (.getfield 30, 3) := by decide +kernel
theorem pm_a115_23 : pm_as (pm_cd pm_mm115) 23 = some (.aload_n 0, 1) := by decide +kernel
theorem pm_a115_24 : pm_as (pm_cd pm_mm115) 24 = some (.getfield 53, 3) := by decide +kernel
theorem pm_a115_27 : pm_as (pm_cd pm_mm115) 27 = some (.iload_n 1, 1) := by decide +kernel
theorem pm_a115_28 : pm_as (pm_cd pm_mm115) 28 = some (.iastore, 1) := by decide +kernel
theorem pm_a115_29 : pm_as (pm_cd pm_mm115) 29 = some (.aload_n 0, 1) := by decide +kernel
theorem pm_a115_30 : pm_as (pm_cd pm_mm115) 30 = some (.dup, 1) := by decide +kernel
theorem pm_a115_31 : pm_as (pm_cd pm_mm115) 31 = some (.getfield 53, 3) := by decide +kernel
theorem pm_a115_34 : pm_as (pm_cd pm_mm115) 34 = some (.iconst 1, 1) := by decide +kernel
theorem pm_a115_35 : pm_as (pm_cd pm_mm115) 35 = some (.iadd, 1) := by decide +kernel
theorem pm_a115_36 : pm_as (pm_cd pm_mm115) 36 = some (.putfield 53, 3) := by decide +kernel
theorem pm_a115_39 : pm_as (pm_cd pm_mm115) 39 = some (.return_, 1) := by decide +kernel
theorem pm_a116_0 : pm_as (pm_cd pm_mm116) 0 = some (.aload_n 0, 1) := by decide +kernel
theorem pm_a116_1 : pm_as (pm_cd pm_mm116) 1 = some (.getfield 53, 3) := by decide +kernel
theorem pm_a116_4 : pm_as (pm_cd pm_mm116) 4 = some (.ifCond .le 15, 3) := by decide +kernel
theorem pm_a116_7 : pm_as (pm_cd pm_mm116) 7 = some (.aload_n 0, 1) := by decide +kernel
theorem pm_a116_8 : pm_as (pm_cd pm_mm116) 8 = some (.getfield 53, 3) := by decide +kernel
theorem pm_a116_11 : pm_as (pm_cd pm_mm116) 11 = some (.aload_n 0, 1) := by decide +kernel
theorem pm_a116_12 : pm_as (pm_cd pm_mm116) 12 = some (.getfield 30, 3) := by decide +kernel
theorem pm_a116_15 : pm_as (pm_cd pm_mm116) 15 = some (.arraylength, 1) := by decide +kernel
theorem pm_a116_16 : pm_as (pm_cd pm_mm116) 16 = some (.if_icmp .le 5, 3) := by decide +kernel
theorem pm_a116_19 : pm_as (pm_cd pm_mm116) 19 = some (.iconst 0, 1) := by decide +kernel
theorem pm_a116_20 : pm_as (pm_cd pm_mm116) 20 = some (.ireturn, 1) := by decide +kernel
theorem pm_a116_21 : pm_as (pm_cd pm_mm116) 21 = some (.aload_n 0, 1) := by decide +kernel
theorem pm_a116_22 : pm_as (pm_cd pm_mm116) 22 = some (.dup, 1) := by decide +kernel
theorem pm_a116_23 : pm_as (pm_cd pm_mm116) 23 = some (.getfield 53, 3) := by decide +kernel
theorem pm_a116_26 : pm_as (pm_cd pm_mm116) 26 = some (.iconst 1, 1) := by decide +kernel
theorem pm_a116_27 : pm_as (pm_cd pm_mm116) 27 = some (.isub, 1) := by decide +kernel
theorem pm_a116_28 : pm_as (pm_cd pm_mm116) 28 = some (.putfield 53, 3) := by decide +kernel
theorem pm_a116_31 : pm_as (pm_cd pm_mm116) 31 = some (.aload_n 0, 1) := by decide +kernel
theorem pm_a116_32 : pm_as (pm_cd pm_mm116) 32 = some (.getfield 30, 3) := by decide +kernel
theorem pm_a116_35 : pm_as (pm_cd pm_mm116) 35 = some (.aload_n 0, 1) := by decide +kernel
theorem pm_a116_36 : pm_as (pm_cd pm_mm116) 36 = some (.getfield 53, 3) := by decide +kernel
theorem pm_a116_39 : pm_as (pm_cd pm_mm116) 39 = some (.iaload, 1) := by decide +kernel
theorem pm_a116_40 : pm_as (pm_cd pm_mm116) 40 = some (.ireturn, 1) := by decide +kernel
theorem pm_a117_0 : pm_as (pm_cd pm_mm117) 0 = some (.iload_n 1, 1) := by decide +kernel
theorem pm_a117_1 : pm_as (pm_cd pm_mm117) 1 = some (.ifCond .ne 11, 3) := by decide +kernel
theorem pm_a117_4 : pm_as (pm_cd pm_mm117) 4 = some (.aload_n 0, 1) := by decide +kernel
theorem pm_a117_5 : pm_as (pm_cd pm_mm117) 5 = some (.iload_n 3, 1) := by decide +kernel
theorem pm_a117_6 : pm_as (pm_cd pm_mm117) 6 = some (.invokevirtual 104, 3) := by decide +kernel
theorem pm_a117_9 : pm_as (pm_cd pm_mm117) 9 = some (.goto 68, 3) := by decide +kernel
theorem pm_a117_12 : pm_as (pm_cd pm_mm117) 12 = some (.iload_n 1, 1) := by decide +kernel
theorem pm_a117_13 : pm_as (pm_cd pm_mm117) 13 = some (.iconst 1, 1) := by decide +kernel
theorem pm_a117_14 : pm_as (pm_cd pm_mm117) 14 = some (.if_icmp .ne 23, 3) := by decide +kernel
theorem pm_a117_17 : pm_as (pm_cd pm_mm117) 17 = some (.aload_n 0, 1) := by decide +kernel
theorem pm_a117_18 : pm_as (pm_cd pm_mm117) 18 = some (.iload_n 3, 1) := by decide +kernel
theorem pm_a117_19 : pm_as (pm_cd pm_mm117) 19 = some (.aload_n 0, 1) := by decide +kernel
theorem pm_a117_20 : pm_as (pm_cd pm_mm117) 20 = some (.aload_n 0, 1) := by decide +kernel
theorem pm_a117_21 : pm_as (pm_cd pm_mm117) 21 = some (.getfield 45, 3) := by decide +kernel
theorem pm_a117_24 : pm_as (pm_cd pm_mm117) 24 = some (.iload_n 2, 1) := by decide +kernel
theorem pm_a117_25 : pm_as (pm_cd pm_mm117) 25 = some (.invokevirtual 107, 3) := by decide +kernel
theorem pm_a117_28 : pm_as (pm_cd pm_mm117) 28 = some (.invokevirtual 110, 3) := by decide +kernel
theorem pm_a117_31 : pm_as (pm_cd pm_mm117) 31 = some (.invokevirtual 113, 3) := by decide +kernel
theorem pm_a117_34 : pm_as (pm_cd pm_mm117) 34 = some (.goto 43, 3) := by decide +kernel
theorem pm_a117_37 : pm_as (pm_cd pm_mm117) 37 = some (.iload_n 1, 1) := by decide +kernel
theorem pm_a117_38 : pm_as (pm_cd pm_mm117) 38 = some (.bipush 10, 2) := by decide +kernel
theorem pm_a117_40 : pm_as (pm_cd pm_mm117) 40 = some (.if_icmp .lt 27, 3) := by decide +kernel
theorem pm_a117_43 : pm_as (pm_cd pm_mm117) 43 = some (.aload_n 0, 1) := by decide +kernel
theorem pm_a117_44 : pm_as (pm_cd pm_mm117) 44 = some (.iload_n 3, 1) := by decide +kernel
theorem pm_a117_45 : pm_as (pm_cd pm_mm117) 45 = some (.aload_n 0, 1) := by decide +kernel
theorem pm_a117_46 : pm_as (pm_cd pm_mm117) 46 = some (.getfield 27, 3) := by decide +kernel
theorem pm_a117_49 : pm_as (pm_cd pm_mm117) 49 = some (.aload_n 0, 1) := by decide +kernel
theorem pm_a117_50 : pm_as (pm_cd pm_mm117) 50 = some (.getfield 45, 3) := by decide +kernel
theorem pm_a117_53 : pm_as (pm_cd pm_mm117) 53 = some (.iload_n 1, 1) := by decide +kernel
theorem pm_a117_54 : pm_as (pm_cd pm_mm117) 54 = some (.iload_n 2, 1) := by decide +kernel
theorem pm_a117_55 : pm_as (pm_cd pm_mm117) 55 = some (.invokevirtual 117, 3) := by decide +kernel
theorem pm_a117_58 : pm_as (pm_cd pm_mm117) 58 = some (.invokestatic 121, 3) := by decide +kernel
theorem pm_a117_61 : pm_as (pm_cd pm_mm117) 61 = some (.invokevirtual 113, 3) := by decide +kernel
theorem pm_a117_64 : pm_as (pm_cd pm_mm117) 64 = some (.goto 13, 3) := by decide +kernel
theorem pm_a117_67 : pm_as (pm_cd pm_mm117) 67 = some (.aload_n 0, 1) := by decide +kernel
theorem pm_a117_68 : pm_as (pm_cd pm_mm117) 68 = some (.iload_n 3, 1) := by decide +kernel
theorem pm_a117_69 : pm_as (pm_cd pm_mm117) 69 = some (.aload_n 0, 1) := by decide +kernel
theorem pm_a117_70 : pm_as (pm_cd pm_mm117) 70 = some (.iload_n 1, 1) := by decide +kernel
theorem pm_a117_71 : pm_as (pm_cd pm_mm117) 71 = some (.invokevirtual 124, 3) := by decide +kernel
theorem pm_a117_74 : pm_as (pm_cd pm_mm117) 74 = some (.invokevirtual 113, 3) := by decide +kernel
theorem pm_a117_77 : pm_as (pm_cd pm_mm117) 77 = some (.return_, 1) := by decide +kernel
theorem pm_a118_0 : pm_as (pm_cd pm_mm118) 0 = some (.aload_n 0, 1) := by decide +kernel
theorem pm_a118_1 : pm_as (pm_cd pm_mm118) 1 = some (.invokevirtual 65, 3) := by decide +kernel
theorem pm_a118_4 : pm_as (pm_cd pm_mm118) 4 = some (.istore_n 2, 1) := by decide +kernel
theorem pm_a118_5 : pm_as (pm_cd pm_mm118) 5 = some (.aload_n 0, 1) := by decide +kernel
theorem pm_a118_6 : pm_as (pm_cd pm_mm118) 6 = some (.iload_n 2, 1) := by decide +kernel
theorem pm_a118_7 : pm_as (pm_cd pm_mm118) 7 = some (.invokevirtual 72, 3) := by decide +kernel
theorem pm_a118_10 : pm_as (pm_cd pm_mm118) 10 = some (.aload_n 0, 1) := by decide +kernel
theorem pm_a118_11 : pm_as (pm_cd pm_mm118) 11 = some (.aload_n 0, 1) := by decide +kernel
theorem pm_a118_12 : pm_as (pm_cd pm_mm118) 12 = some (.iload_n 2, 1) := by decide +kernel
theorem pm_a118_13 : pm_as (pm_cd pm_mm118) 13 = some (.iload_n 1, 1) := by decide +kernel
theorem pm_a118_14 : pm_as (pm_cd pm_mm118) 14 = some (.invokevirtual 127, 3) := by decide +kernel
theorem pm_a118_17 : pm_as (pm_cd pm_mm118) 17 = some (.invokevirtual 72, 3) := by decide +kernel
theorem pm_a118_20 : pm_as (pm_cd pm_mm118) 20 = some (.return_, 1) := by decide +kernel
theorem pm_a119_0 : pm_as (pm_cd pm_mm119) 0 = some (.aload_n 0, 1) := by decide +kernel
theorem pm_a119_1 : pm_as (pm_cd pm_mm119) 1 = some (.invokevirtual 65, 3) := by decide +kernel
theorem pm_a119_4 : pm_as (pm_cd pm_mm119) 4 = some (.istore_n 2, 1) := by decide +kernel
theorem pm_a119_5 : pm_as (pm_cd pm_mm119) 5 = some (.aload_n 0, 1) := by decide +kernel
theorem pm_a119_6 : pm_as (pm_cd pm_mm119) 6 = some (.invokevirtual 65, 3) := by decide +kernel
theorem pm_a119_9 : pm_as (pm_cd pm_mm119) 9 = some (.istore_n 3, 1) := by decide +kernel
theorem pm_a119_10 : pm_as (pm_cd pm_mm119) 10 = some (.aload_n 0, 1) := by decide +kernel
theorem pm_a119_11 : pm_as (pm_cd pm_mm119) 11 = some (.getfield 27, 3) := by decide +kernel
theorem pm_a119_14 : pm_as (pm_cd pm_mm119) 14 = some (.iload_n 1, 1) := by decide +kernel
theorem pm_a119_15 : pm_as (pm_cd pm_mm119) 15 = some (.iload_n 2, 1) := by decide +kernel
theorem pm_a119_16 : pm_as (pm_cd pm_mm119) 16 = some (.invokestatic 130, 3) := by decide +kernel
theorem pm_a119_19 : pm_as (pm_cd pm_mm119) 19 = some (.aload_n 0, 1) := by decide +kernel
theorem pm_a119_20 : pm_as (pm_cd pm_mm119) 20 = some (.iload_n 3, 1) := by decide +kernel
theorem pm_a119_21 : pm_as (pm_cd pm_mm119) 21 = some (.invokevirtual 72, 3) := by decide +kernel
theorem pm_a119_24 : pm_as (pm_cd pm_mm119) 24 = some (.aload_n 0, 1) := by decide +kernel
theorem pm_a119_25 : pm_as (pm_cd pm_mm119) 25 = some (.iload_n 2, 1) := by decide +kernel
theorem pm_a119_26 : pm_as (pm_cd pm_mm119) 26 = some (.iload_n 3, 1) := by decide +kernel
theorem pm_a119_27 : pm_as (pm_cd pm_mm119) 27 = some (.invokevirtual 127, 3) := by decide +kernel
theorem pm_a119_30 : pm_as (pm_cd pm_mm119) 30 = some (.ireturn, 1) := by decide +kernel
theorem pm_a120_0 : pm_as (pm_cd pm_mm120) 0 = some (.aload_n 0, 1) := by decide +kernel
theorem pm_a120_1 : pm_as (pm_cd pm_mm120) 1 = some (.iload_n 1, 1) := by decide +kernel
theorem pm_a120_2 : pm_as (pm_cd pm_mm120) 2 = some (.iload_n 2, 1) := by decide +kernel
theorem pm_a120_3 : pm_as (pm_cd pm_mm120) 3 = some (.iconst 0, 1) := by decide +kernel
theorem pm_a120_4 : pm_as (pm_cd pm_mm120) 4 = some (.invokevirtual 149, 3) := by decide +kernel
theorem pm_a120_7 : pm_as (pm_cd pm_mm120) 7 = some (.istore_n 3, 1) := by decide +kernel
theorem pm_a120_8 : pm_as (pm_cd pm_mm120) 8 = some (.iconst 0, 1) := by decide +kernel
theorem pm_a120_9 : pm_as (pm_cd pm_mm120) 9 = some (.istore 4, 2) := by decide +kernel
theorem pm_a120_11 : pm_as (pm_cd pm_mm120) 11 = some (.iload 4, 2) := by decide +kernel
theorem pm_a120_13 : pm_as (pm_cd pm_mm120) 13 = some (.iload_n 3, 1) := by decide +kernel
theorem pm_a120_14 : pm_as (pm_cd pm_mm120) 14 = some (.if_icmp .ge 84, 3) := by decide +kernel
theorem pm_a120_17 : pm_as (pm_cd pm_mm120) 17 = some (.iload 4, 2) := by decide +kernel
theorem pm_a120_19 : pm_as (pm_cd pm_mm120) 19 = some (.sipush 2800, 3) := by decide +kernel
theorem pm_a120_22 : pm_as (pm_cd pm_mm120) 22 = some (.if_icmp .ge 76, 3) := by decide +kernel
theorem pm_a120_25 : pm_as (pm_cd pm_mm120) 25 = some (.aload_n 0, 1) := by decide +kernel
theorem pm_a120_26 : pm_as (pm_cd pm_mm120) 26 = some (.getfield 21, 3) := by decide +kernel
theorem pm_a120_29 : pm_as (pm_cd pm_mm120) 29 = some (.iload 4, 2) := by decide +kernel
theorem pm_a120_31 : pm_as (pm_cd pm_mm120) 31 = some (.invokestatic 121, 3) := by decide +kernel
theorem pm_a120_34 : pm_as (pm_cd pm_mm120) 34 = some (.istore 5, 2) := by decide +kernel
theorem pm_a120_36 : pm_as (pm_cd pm_mm120) 36 = some (.aload_n 0, 1) := by decide +kernel
theorem pm_a120_37 : pm_as (pm_cd pm_mm120) 37 = some (.iload 5, 2) := by decide +kernel
theorem pm_a120_39 : pm_as (pm_cd pm_mm120) 39 = some (.invokevirtual 152, 3) := by decide +kernel
theorem pm_a120_42 : pm_as (pm_cd pm_mm120) 42 = some (.istore 6, 2) := by decide +kernel
theorem pm_a120_44 : pm_as (pm_cd pm_mm120) 44 = some (.aload_n 0, 1) := by decide +kernel
theorem pm_a120_45 : pm_as (pm_cd pm_mm120) 45 = some (.aload_n 0, 1) := by decide +kernel
theorem pm_a120_46 : pm_as (pm_cd pm_mm120) 46 = some (.getfield 11, 3) := by decide +kernel
theorem pm_a120_49 : pm_as (pm_cd pm_mm120) 49 = some (.iload 5, 2) := by decide +kernel
theorem pm_a120_51 : pm_as (pm_cd pm_mm120) 51 = some (.invokestatic 121, 3) := by decide +kernel
theorem pm_a120_54 : pm_as (pm_cd pm_mm120) 54 = some (.aload_n 0, 1) := by decide +kernel
theorem pm_a120_55 : pm_as (pm_cd pm_mm120) 55 = some (.getfield 11, 3) := by decide +kernel
theorem pm_a120_58 : pm_as (pm_cd pm_mm120) 58 = some (.iload 6, 2) := by decide +kernel
theorem pm_a120_60 : pm_as (pm_cd pm_mm120) 60 = some (.invokestatic 121, 3) := by decide +kernel
theorem pm_a120_63 : pm_as (pm_cd pm_mm120) 63 = some (.iload_n 3, 1) := by decide +kernel
theorem pm_a120_64 : pm_as (pm_cd pm_mm120) 64 = some (.invokevirtual 149, 3) := by decide +kernel
theorem pm_a120_67 : pm_as (pm_cd pm_mm120) 67 = some (.istore_n 3, 1) := by decide +kernel
theorem pm_a120_68 : pm_as (pm_cd pm_mm120) 68 = some (.aload_n 0, 1) := by decide +kernel
theorem pm_a120_69 : pm_as (pm_cd pm_mm120) 69 = some (.aload_n 0, 1) := by decide +kernel
theorem pm_a120_70 : pm_as (pm_cd pm_mm120) 70 = some (.getfield 15, 3) := by decide +kernel
theorem pm_a120_73 : pm_as (pm_cd pm_mm120) 73 = some (.iload 5, 2) := by decide +kernel
theorem pm_a120_75 : pm_as (pm_cd pm_mm120) 75 = some (.invokestatic 121, 3) := by decide +kernel
theorem pm_a120_78 : pm_as (pm_cd pm_mm120) 78 = some (.aload_n 0, 1) := by decide +kernel
theorem pm_a120_79 : pm_as (pm_cd pm_mm120) 79 = some (.getfield 15, 3) := by decide +kernel
theorem pm_a120_82 : pm_as (pm_cd pm_mm120) 82 = some (.iload 6, 2) := by decide +kernel
theorem pm_a120_84 : pm_as (pm_cd pm_mm120) 84 = some (.invokestatic 121, 3) := by decide +kernel
theorem pm_a120_87 : pm_as (pm_cd pm_mm120) 87 = some (.iload_n 3, 1) := by decide +kernel
theorem pm_a120_88 : pm_as (pm_cd pm_mm120) 88 = some (.invokevirtual 149, 3) := by decide +kernel
theorem pm_a120_91 : pm_as (pm_cd pm_mm120) 91 = some (.istore_n 3, 1) := by decide +kernel
theorem pm_a120_92 : pm_as (pm_cd pm_mm120) 92 = some (.iinc 4 1, 3) := by decide +kernel
theorem pm_a120_95 : pm_as (pm_cd pm_mm120) 95 = some (.goto (-84), 3) := by decide +kernel
theorem pm_a120_98 : pm_as (pm_cd pm_mm120) 98 = some (.return_, 1) := by decide +kernel
theorem pm_a121_0 : pm_as (pm_cd pm_mm121) 0 = some (.aload_n 0, 1) := by decide +kernel
theorem pm_a121_1 : pm_as (pm_cd pm_mm121) 1 = some (.iload_n 1, 1) := by decide +kernel
theorem pm_a121_2 : pm_as (pm_cd pm_mm121) 2 = some (.invokevirtual 152, 3) := by decide +kernel
theorem pm_a121_5 : pm_as (pm_cd pm_mm121) 5 = some (.istore 4, 2) := by decide +kernel
theorem pm_a121_7 : pm_as (pm_cd pm_mm121) 7 = some (.aload_n 0, 1) := by decide +kernel
theorem pm_a121_8 : pm_as (pm_cd pm_mm121) 8 = some (.iload_n 2, 1) := by decide +kernel
theorem pm_a121_9 : pm_as (pm_cd pm_mm121) 9 = some (.invokevirtual 152, 3) := by decide +kernel
theorem pm_a121_12 : pm_as (pm_cd pm_mm121) 12 = some (.istore 5, 2) := by decide +kernel
theorem pm_a121_14 : pm_as (pm_cd pm_mm121) 14 = some (.iload 4, 2) := by decide +kernel
theorem pm_a121_16 : pm_as (pm_cd pm_mm121) 16 = some (.iload 5, 2) := by decide +kernel
theorem pm_a121_18 : pm_as (pm_cd pm_mm121) 18 = some (.if_icmp .ne 5, 3) := by decide +kernel
theorem pm_a121_21 : pm_as (pm_cd pm_mm121) 21 = some (.iload_n 3, 1) := by decide +kernel
theorem pm_a121_22 : pm_as (pm_cd pm_mm121) 22 = some (.ireturn, 1) := by decide +kernel
theorem pm_a121_23 : pm_as (pm_cd pm_mm121) 23 = some (.aload_n 0, 1) := by decide +kernel
theorem pm_a121_24 : pm_as (pm_cd pm_mm121) 24 = some (.iload 4, 2) := by decide +kernel
theorem pm_a121_26 : pm_as (pm_cd pm_mm121) 26 = some (.invokevirtual 155, 3) := by decide +kernel
theorem pm_a121_29 : pm_as (pm_cd pm_mm121) 29 = some (.ifCond .eq 31, 3) := by decide +kernel
theorem pm_a121_32 : pm_as (pm_cd pm_mm121) 32 = some (.aload_n 0, 1) := by decide +kernel
theorem pm_a121_33 : pm_as (pm_cd pm_mm121) 33 = some (.iload 5, 2) := by decide +kernel
theorem pm_a121_35 : pm_as (pm_cd pm_mm121) 35 = some (.invokevirtual 155, 3) := by decide +kernel
theorem pm_a121_38 : pm_as (pm_cd pm_mm121) 38 = some (.ifCond .eq 22, 3) := by decide +kernel
theorem pm_a121_41 : pm_as (pm_cd pm_mm121) 41 = some (.aload_n 0, 1) := by decide +kernel
theorem pm_a121_42 : pm_as (pm_cd pm_mm121) 42 = some (.getfield 18, 3) := by decide +kernel
theorem pm_a121_45 : pm_as (pm_cd pm_mm121) 45 = some (.iload 4, 2) := by decide +kernel
theorem pm_a121_47 : pm_as (pm_cd pm_mm121) 47 = some (.iload 5, 2) := by decide +kernel
theorem pm_a121_49 : pm_as (pm_cd pm_mm121) 49 = some (.invokestatic 130, 3) := by decide +kernel
theorem pm_a121_52 : pm_as (pm_cd pm_mm121) 52 = some (.aload_n 0, 1) := by decide +kernel
theorem pm_a121_53 : pm_as (pm_cd pm_mm121) 53 = some (.iload 4, 2) := by decide +kernel
theorem pm_a121_55 : pm_as (pm_cd pm_mm121) 55 = some (.iload_n 3, 1) := by decide +kernel
theorem pm_a121_56 : pm_as (pm_cd pm_mm121) 56 = some (.invokevirtual 159, 3) := by decide +kernel
theorem pm_a121_59 : pm_as (pm_cd pm_mm121) 59 = some (.ireturn, 1) := by decide +kernel
theorem pm_a121_60 : pm_as (pm_cd pm_mm121) 60 = some (.aload_n 0, 1) := by decide +kernel
theorem pm_a121_61 : pm_as (pm_cd pm_mm121) 61 = some (.iload 4, 2) := by decide +kernel
theorem pm_a121_63 : pm_as (pm_cd pm_mm121) 63 = some (.invokevirtual 155, 3) := by decide +kernel
theorem pm_a121_66 : pm_as (pm_cd pm_mm121) 66 = some (.ifCond .eq 17, 3) := by decide +kernel
theorem pm_a121_69 : pm_as (pm_cd pm_mm121) 69 = some (.aload_n 0, 1) := by decide +kernel
theorem pm_a121_70 : pm_as (pm_cd pm_mm121) 70 = some (.getfield 18, 3) := by decide +kernel
theorem pm_a121_73 : pm_as (pm_cd pm_mm121) 73 = some (.iload 5, 2) := by decide +kernel
theorem pm_a121_75 : pm_as (pm_cd pm_mm121) 75 = some (.iload 4, 2) := by decide +kernel
theorem pm_a121_77 : pm_as (pm_cd pm_mm121) 77 = some (.invokestatic 130, 3) := by decide +kernel
theorem pm_a121_80 : pm_as (pm_cd pm_mm121) 80 = some (.goto 14, 3) := by decide +kernel
theorem pm_a121_83 : pm_as (pm_cd pm_mm121) 83 = some (.aload_n 0, 1) := by decide +kernel
theorem pm_a121_84 : pm_as (pm_cd pm_mm121) 84 = some (.getfield 18, 3) := by decide +kernel
theorem pm_a121_87 : pm_as (pm_cd pm_mm121) 87 = some (.iload 4, 2) := by decide +kernel
theorem pm_a121_89 : pm_as (pm_cd pm_mm121) 89 = some (.iload 5, 2) := by decide +kernel
theorem pm_a121_91 : pm_as (pm_cd pm_mm121) 91 = some (.invokestatic 130, 3) := by decide +kernel
theorem pm_a121_94 : pm_as (pm_cd pm_mm121) 94 = some (.iload_n 3, 1) := by decide +kernel
theorem pm_a121_95 : pm_as (pm_cd pm_mm121) 95 = some (.ireturn, 1) := by decide +kernel
theorem pm_a122_0 : pm_as (pm_cd pm_mm122) 0 = some (.iload_n 1, 1) := by decide +kernel
theorem pm_a122_1 : pm_as (pm_cd pm_mm122) 1 = some (.istore_n 2, 1) := by decide +kernel
theorem pm_a122_2 : pm_as (pm_cd pm_mm122) 2 = some (.iconst 0, 1) := by decide +kernel
theorem pm_a122_3 : pm_as (pm_cd pm_mm122) 3 = some (.istore_n 3, 1) := by decide +kernel
theorem pm_a122_4 : pm_as (pm_cd pm_mm122) 4 = some (.iload_n 3, 1) := by decide +kernel
theorem pm_a122_5 : pm_as (pm_cd pm_mm122) 5 = some (.sipush 2800, 3) := by decide +kernel
theorem pm_a122_8 : pm_as (pm_cd pm_mm122) 8 = some (.if_icmp .ge 53, 3) := by decide +kernel
theorem pm_a122_11 : pm_as (pm_cd pm_mm122) 11 = some (.aload_n 0, 1) := by decide +kernel
theorem pm_a122_12 : pm_as (pm_cd pm_mm122) 12 = some (.getfield 18, 3) := by decide +kernel
theorem pm_a122_15 : pm_as (pm_cd pm_mm122) 15 = some (.iload_n 2, 1) := by decide +kernel
theorem pm_a122_16 : pm_as (pm_cd pm_mm122) 16 = some (.invokestatic 121, 3) := by decide +kernel
theorem pm_a122_19 : pm_as (pm_cd pm_mm122) 19 = some (.iload_n 2, 1) := by decide +kernel
theorem pm_a122_20 : pm_as (pm_cd pm_mm122) 20 = some (.if_icmp .eq 41, 3) := by decide +kernel
theorem pm_a122_23 : pm_as (pm_cd pm_mm122) 23 = some (.aload_n 0, 1) := by decide +kernel
theorem pm_a122_24 : pm_as (pm_cd pm_mm122) 24 = some (.getfield 18, 3) := by decide +kernel
theorem pm_a122_27 : pm_as (pm_cd pm_mm122) 27 = some (.iload_n 2, 1) := by decide +kernel
theorem pm_a122_28 : pm_as (pm_cd pm_mm122) 28 = some (.aload_n 0, 1) := by decide +kernel
theorem pm_a122_29 : pm_as (pm_cd pm_mm122) 29 = some (.getfield 18, 3) := by decide +kernel
theorem pm_a122_32 : pm_as (pm_cd pm_mm122) 32 = some (.aload_n 0, 1) := by decide +kernel
theorem pm_a122_33 : pm_as (pm_cd pm_mm122) 33 = some (.getfield 18, 3) := by decide +kernel
theorem pm_a122_36 : pm_as (pm_cd pm_mm122) 36 = some (.iload_n 2, 1) := by decide +kernel
theorem pm_a122_37 : pm_as (pm_cd pm_mm122) 37 = some (.invokestatic 121, 3) := by decide +kernel
theorem pm_a122_40 : pm_as (pm_cd pm_mm122) 40 = some (.invokestatic 121, 3) := by decide +kernel
theorem pm_a122_43 : pm_as (pm_cd pm_mm122) 43 = some (.invokestatic 130, 3) := by decide +kernel
theorem pm_a122_46 : pm_as (pm_cd pm_mm122) 46 = some (.aload_n 0, 1) := by decide +kernel
theorem pm_a122_47 : pm_as (pm_cd pm_mm122) 47 = some (.getfield 18, 3) := by decide +kernel
theorem pm_a122_50 : pm_as (pm_cd pm_mm122) 50 = some (.iload_n 2, 1) := by decide +kernel
theorem pm_a122_51 : pm_as (pm_cd pm_mm122) 51 = some (.invokestatic 121, 3) := by decide +kernel
theorem pm_a122_54 : pm_as (pm_cd pm_mm122) 54 = some (.istore_n 2, 1) := by decide +kernel
theorem pm_a122_55 : pm_as (pm_cd pm_mm122) 55 = some (.iinc 3 1, 3) := by decide +kernel
theorem pm_a122_58 : pm_as (pm_cd pm_mm122) 58 = some (.goto (-54), 3) := by decide +kernel
theorem pm_a122_61 : pm_as (pm_cd pm_mm122) 61 = some (.iload_n 2, 1) := by decide +kernel
theorem pm_a122_62 : pm_as (pm_cd pm_mm122) 62 = some (.ireturn, 1) := by decide +kernel
theorem pm_a123_0 : pm_as (pm_cd pm_mm123) 0 = some (.iload_n 1, 1) := by decide +kernel
theorem pm_a123_1 : pm_as (pm_cd pm_mm123) 1 = some (.ifCond .lt 15, 3) := by decide +kernel
theorem pm_a123_4 : pm_as (pm_cd pm_mm123) 4 = some (.iload_n 1, 1) := by decide +kernel
theorem pm_a123_5 : pm_as (pm_cd pm_mm123) 5 = some (.aload_n 0, 1) := by decide +kernel
theorem pm_a123_6 : pm_as (pm_cd pm_mm123) 6 = some (.arraylength, 1) := by decide +kernel
theorem pm_a123_7 : pm_as (pm_cd pm_mm123) 7 = some (.if_icmp .ge 9, 3) := by decide +kernel
theorem pm_a123_10 : pm_as (pm_cd pm_mm123) 10 = some (.aload_n 0, 1) := by decide +kernel
theorem pm_a123_11 : pm_as (pm_cd pm_mm123) 11 = some (.iload_n 1, 1) := by decide +kernel
theorem pm_a123_12 : pm_as (pm_cd pm_mm123) 12 = some (.iaload, 1) := by decide +kernel
theorem pm_a123_13 : pm_as (pm_cd pm_mm123) 13 = some (.goto 4, 3) := by decide +kernel
theorem pm_a123_16 : pm_as (pm_cd pm_mm123) 16 = some (.iconst 0, 1) := by decide +kernel
theorem pm_a123_17 : pm_as (pm_cd pm_mm123) 17 = some (.ireturn, 1) := by decide +kernel
theorem pm_a124_0 : pm_as (pm_cd pm_mm124) 0 = some (.aload_n 0, 1) := by decide +kernel
theorem pm_a124_1 : pm_as (pm_cd pm_mm124) 1 = some (.getfield 11, 3) := by decide +kernel
theorem pm_a124_4 : pm_as (pm_cd pm_mm124) 4 = some (.iload_n 1, 1) := by decide +kernel
theorem pm_a124_5 : pm_as (pm_cd pm_mm124) 5 = some (.invokestatic 121, 3) := by decide +kernel
theorem pm_a124_8 : pm_as (pm_cd pm_mm124) 8 = some (.iconst (-1), 1) := by decide +kernel
theorem pm_a124_9 : pm_as (pm_cd pm_mm124) 9 = some (.if_icmp .eq 7, 3) := by decide +kernel
theorem pm_a124_12 : pm_as (pm_cd pm_mm124) 12 = some (.iconst 1, 1) := by decide +kernel
theorem pm_a124_13 : pm_as (pm_cd pm_mm124) 13 = some (.goto 4, 3) := by decide +kernel
theorem pm_a124_16 : pm_as (pm_cd pm_mm124) 16 = some (.iconst 0, 1) := by decide +kernel
theorem pm_a124_17 : pm_as (pm_cd pm_mm124) 17 = some (.ireturn, 1) := by decide +kernel
theorem pm_a125_0 : pm_as (pm_cd pm_mm125) 0 = some (.iload_n 2, 1) := by decide +kernel
theorem pm_a125_1 : pm_as (pm_cd pm_mm125) 1 = some (.ifCond .lt 10, 3) := by decide +kernel
theorem pm_a125_4 : pm_as (pm_cd pm_mm125) 4 = some (.iload_n 2, 1) := by decide +kernel
theorem pm_a125_5 : pm_as (pm_cd pm_mm125) 5 = some (.sipush 2800, 3) := by decide +kernel
theorem pm_a125_8 : pm_as (pm_cd pm_mm125) 8 = some (.if_icmp .lt 5, 3) := by decide +kernel
theorem pm_a125_11 : pm_as (pm_cd pm_mm125) 11 = some (.iload_n 2, 1) := by decide +kernel
theorem pm_a125_12 : pm_as (pm_cd pm_mm125) 12 = some (.ireturn, 1) := by decide +kernel
theorem pm_a125_13 : pm_as (pm_cd pm_mm125) 13 = some (.aload_n 0, 1) := by decide +kernel
theorem pm_a125_14 : pm_as (pm_cd pm_mm125) 14 = some (.getfield 21, 3) := by decide +kernel
theorem pm_a125_17 : pm_as (pm_cd pm_mm125) 17 = some (.iload_n 2, 1) := by decide +kernel
theorem pm_a125_18 : pm_as (pm_cd pm_mm125) 18 = some (.iload_n 1, 1) := by decide +kernel
theorem pm_a125_19 : pm_as (pm_cd pm_mm125) 19 = some (.invokestatic 130, 3) := by decide +kernel
theorem pm_a125_22 : pm_as (pm_cd pm_mm125) 22 = some (.iload_n 2, 1) := by decide +kernel
theorem pm_a125_23 : pm_as (pm_cd pm_mm125) 23 = some (.iconst 1, 1) := by decide +kernel
theorem pm_a125_24 : pm_as (pm_cd pm_mm125) 24 = some (.iadd, 1) := by decide +kernel
theorem pm_a125_25 : pm_as (pm_cd pm_mm125) 25 = some (.ireturn, 1) := by decide +kernel
theorem pm_a126_0 : pm_as (pm_cd pm_mm126) 0 = some (.iload_n 1, 1) := by decide +kernel
theorem pm_a126_1 : pm_as (pm_cd pm_mm126) 1 = some (.tableswitch 79 2 5 #[31, 48, 61, 70], 31) := by decide +kernel
theorem pm_a126_32 : pm_as (pm_cd pm_mm126) 32 = some (.aload_n 0, 1) := by decide +kernel
theorem pm_a126_33 : pm_as (pm_cd pm_mm126) 33 = some (.aload_n 0, 1) := by decide +kernel
theorem pm_a126_34 : pm_as (pm_cd pm_mm126) 34 = some (.invokevirtual 65, 3) := by decide +kernel
theorem pm_a126_37 : pm_as (pm_cd pm_mm126) 37 = some (.aload_n 0, 1) := by decide +kernel
theorem pm_a126_38 : pm_as (pm_cd pm_mm126) 38 = some (.invokevirtual 65, 3) := by decide +kernel
theorem pm_a126_41 : pm_as (pm_cd pm_mm126) 41 = some (.aload_n 0, 1) := by decide +kernel
theorem pm_a126_42 : pm_as (pm_cd pm_mm126) 42 = some (.invokevirtual 65, 3) := by decide +kernel
theorem pm_a126_45 : pm_as (pm_cd pm_mm126) 45 = some (.invokevirtual 134, 3) := by decide +kernel
theorem pm_a126_48 : pm_as (pm_cd pm_mm126) 48 = some (.ireturn, 1) := by decide +kernel
theorem pm_a126_49 : pm_as (pm_cd pm_mm126) 49 = some (.aload_n 0, 1) := by decide +kernel
theorem pm_a126_50 : pm_as (pm_cd pm_mm126) 50 = some (.aload_n 0, 1) := by decide +kernel
theorem pm_a126_51 : pm_as (pm_cd pm_mm126) 51 = some (.invokevirtual 65, 3) := by decide +kernel
theorem pm_a126_54 : pm_as (pm_cd pm_mm126) 54 = some (.aload_n 0, 1) := by decide +kernel
theorem pm_a126_55 : pm_as (pm_cd pm_mm126) 55 = some (.invokevirtual 65, 3) := by decide +kernel
theorem pm_a126_58 : pm_as (pm_cd pm_mm126) 58 = some (.invokevirtual 138, 3) := by decide +kernel
theorem pm_a126_61 : pm_as (pm_cd pm_mm126) 61 = some (.ireturn, 1) := by decide +kernel
theorem pm_a126_62 : pm_as (pm_cd pm_mm126) 62 = some (.aload_n 0, 1) := by decide +kernel
theorem pm_a126_63 : pm_as (pm_cd pm_mm126) 63 = some (.aload_n 0, 1) := by decide +kernel
theorem pm_a126_64 : pm_as (pm_cd pm_mm126) 64 = some (.invokevirtual 65, 3) := by decide +kernel
theorem pm_a126_67 : pm_as (pm_cd pm_mm126) 67 = some (.invokevirtual 141, 3) := by decide +kernel
theorem pm_a126_70 : pm_as (pm_cd pm_mm126) 70 = some (.ireturn, 1) := by decide +kernel
theorem pm_a126_71 : pm_as (pm_cd pm_mm126) 71 = some (.aload_n 0, 1) := by decide +kernel
theorem pm_a126_72 : pm_as (pm_cd pm_mm126) 72 = some (.aload_n 0, 1) := by decide +kernel
theorem pm_a126_73 : pm_as (pm_cd pm_mm126) 73 = some (.getfield 69, 3) := by decide +kernel
theorem pm_a126_76 : pm_as (pm_cd pm_mm126) 76 = some (.invokevirtual 141, 3) := by decide +kernel
theorem pm_a126_79 : pm_as (pm_cd pm_mm126) 79 = some (.ireturn, 1) := by decide +kernel
theorem pm_a126_80 : pm_as (pm_cd pm_mm126) 80 = some (.aload_n 0, 1) := by decide +kernel
theorem pm_a126_81 : pm_as (pm_cd pm_mm126) 81 = some (.getfield 69, 3) := by decide +kernel
theorem pm_a126_84 : pm_as (pm_cd pm_mm126) 84 = some (.ireturn, 1) := by decide +kernel
theorem pm_a127_0 : pm_as (pm_cd pm_mm127) 0 = some (.aload_n 0, 1) := by decide +kernel
theorem pm_a127_1 : pm_as (pm_cd pm_mm127) 1 = some (.iload_n 1, 1) := by decide +kernel
theorem pm_a127_2 : pm_as (pm_cd pm_mm127) 2 = some (.aload_n 0, 1) := by decide +kernel
theorem pm_a127_3 : pm_as (pm_cd pm_mm127) 3 = some (.iload_n 2, 1) := by decide +kernel
theorem pm_a127_4 : pm_as (pm_cd pm_mm127) 4 = some (.iload_n 3, 1) := by decide +kernel
theorem pm_a127_5 : pm_as (pm_cd pm_mm127) 5 = some (.invokevirtual 127, 3) := by decide +kernel
theorem pm_a127_8 : pm_as (pm_cd pm_mm127) 8 = some (.invokevirtual 127, 3) := by decide +kernel
theorem pm_a127_11 : pm_as (pm_cd pm_mm127) 11 = some (.istore 4, 2) := by decide +kernel
theorem pm_a127_13 : pm_as (pm_cd pm_mm127) 13 = some (.aload_n 0, 1) := by decide +kernel
theorem pm_a127_14 : pm_as (pm_cd pm_mm127) 14 = some (.iload 4, 2) := by decide +kernel
theorem pm_a127_16 : pm_as (pm_cd pm_mm127) 16 = some (.aload_n 0, 1) := by decide +kernel
theorem pm_a127_17 : pm_as (pm_cd pm_mm127) 17 = some (.aload_n 0, 1) := by decide +kernel
theorem pm_a127_18 : pm_as (pm_cd pm_mm127) 18 = some (.iload_n 1, 1) := by decide +kernel
theorem pm_a127_19 : pm_as (pm_cd pm_mm127) 19 = some (.iload_n 2, 1) := by decide +kernel
theorem pm_a127_20 : pm_as (pm_cd pm_mm127) 20 = some (.invokevirtual 127, 3) := by decide +kernel
theorem pm_a127_23 : pm_as (pm_cd pm_mm127) 23 = some (.aload_n 0, 1) := by decide +kernel
theorem pm_a127_24 : pm_as (pm_cd pm_mm127) 24 = some (.iload_n 1, 1) := by decide +kernel
theorem pm_a127_25 : pm_as (pm_cd pm_mm127) 25 = some (.iload_n 3, 1) := by decide +kernel
theorem pm_a127_26 : pm_as (pm_cd pm_mm127) 26 = some (.invokevirtual 127, 3) := by decide +kernel
theorem pm_a127_29 : pm_as (pm_cd pm_mm127) 29 = some (.invokevirtual 127, 3) := by decide +kernel
theorem pm_a127_32 : pm_as (pm_cd pm_mm127) 32 = some (.invokevirtual 127, 3) := by decide +kernel
theorem pm_a127_35 : pm_as (pm_cd pm_mm127) 35 = some (.ireturn, 1) := by decide +kernel
theorem pm_a128_0 : pm_as (pm_cd pm_mm128) 0 = some (.aload_n 0, 1) := by decide +kernel
theorem pm_a128_1 : pm_as (pm_cd pm_mm128) 1 = some (.iload_n 1, 1) := by decide +kernel
theorem pm_a128_2 : pm_as (pm_cd pm_mm128) 2 = some (.aload_n 0, 1) := by decide +kernel
theorem pm_a128_3 : pm_as (pm_cd pm_mm128) 3 = some (.iload_n 2, 1) := by decide +kernel
theorem pm_a128_4 : pm_as (pm_cd pm_mm128) 4 = some (.iload_n 1, 1) := by decide +kernel
theorem pm_a128_5 : pm_as (pm_cd pm_mm128) 5 = some (.invokevirtual 127, 3) := by decide +kernel
theorem pm_a128_8 : pm_as (pm_cd pm_mm128) 8 = some (.invokevirtual 127, 3) := by decide +kernel
theorem pm_a128_11 : pm_as (pm_cd pm_mm128) 11 = some (.ireturn, 1) := by decide +kernel
theorem pm_a129_0 : pm_as (pm_cd pm_mm129) 0 = some (.aload_n 0, 1) := by decide +kernel
theorem pm_a129_1 : pm_as (pm_cd pm_mm129) 1 = some (.iload_n 1, 1) := by decide +kernel
theorem pm_a129_2 : pm_as (pm_cd pm_mm129) 2 = some (.iload_n 1, 1) := by decide +kernel
theorem pm_a129_3 : pm_as (pm_cd pm_mm129) 3 = some (.invokevirtual 127, 3) := by decide +kernel
theorem pm_a129_6 : pm_as (pm_cd pm_mm129) 6 = some (.ireturn, 1) := by decide +kernel
theorem pm_a130_0 : pm_as (pm_cd pm_mm130) 0 = some (.aload_n 0, 1) := by decide +kernel
theorem pm_a130_1 : pm_as (pm_cd pm_mm130) 1 = some (.invokevirtual 162, 3) := by decide +kernel
theorem pm_a130_4 : pm_as (pm_cd pm_mm130) 4 = some (.iconst 0, 1) := by decide +kernel
theorem pm_a130_5 : pm_as (pm_cd pm_mm130) 5 = some (.istore_n 1, 1) := by decide +kernel
theorem pm_a130_6 : pm_as (pm_cd pm_mm130) 6 = some (.iconst 0, 1) := by decide +kernel
theorem pm_a130_7 : pm_as (pm_cd pm_mm130) 7 = some (.istore_n 2, 1) := by decide +kernel
theorem pm_a130_8 : pm_as (pm_cd pm_mm130) 8 = some (.iconst 0, 1) := by decide +kernel
theorem pm_a130_9 : pm_as (pm_cd pm_mm130) 9 = some (.istore_n 3, 1) := by decide +kernel
theorem pm_a130_10 : pm_as (pm_cd pm_mm130) 10 = some (.iload_n 3, 1) := by decide +kernel
theorem pm_a130_11 : pm_as (pm_cd pm_mm130) 11 = some (.aload_n 0, 1) := by decide +kernel
theorem pm_a130_12 : pm_as (pm_cd pm_mm130) 12 = some (.getfield 49, 3) := by decide +kernel
theorem pm_a130_15 : pm_as (pm_cd pm_mm130) 15 = some (.if_icmp .ge 43, 3) := by decide +kernel
theorem pm_a130_18 : pm_as (pm_cd pm_mm130) 18 = some (.aload_n 0, 1) := by decide +kernel
theorem pm_a130_19 : pm_as (pm_cd pm_mm130) 19 = some (.iload_n 3, 1) := by decide +kernel
theorem pm_a130_20 : pm_as (pm_cd pm_mm130) 20 = some (.invokevirtual 152, 3) := by decide +kernel
theorem pm_a130_23 : pm_as (pm_cd pm_mm130) 23 = some (.iload_n 3, 1) := by decide +kernel
theorem pm_a130_24 : pm_as (pm_cd pm_mm130) 24 = some (.if_icmp .ne 28, 3) := by decide +kernel
theorem pm_a130_27 : pm_as (pm_cd pm_mm130) 27 = some (.iinc 1 1, 3) := by decide +kernel
theorem pm_a130_30 : pm_as (pm_cd pm_mm130) 30 = some (.aload_n 0, 1) := by decide +kernel
theorem pm_a130_31 : pm_as (pm_cd pm_mm130) 31 = some (.getfield 24, 3) := by decide +kernel
theorem pm_a130_34 : pm_as (pm_cd pm_mm130) 34 = some (.iload_n 3, 1) := by decide +kernel
theorem pm_a130_35 : pm_as (pm_cd pm_mm130) 35 = some (.invokestatic 121, 3) := by decide +kernel
theorem pm_a130_38 : pm_as (pm_cd pm_mm130) 38 = some (.ifCond .ne 12, 3) := by decide +kernel
theorem pm_a130_41 : pm_as (pm_cd pm_mm130) 41 = some (.aload_n 0, 1) := by decide +kernel
theorem pm_a130_42 : pm_as (pm_cd pm_mm130) 42 = some (.iload_n 3, 1) := by decide +kernel
theorem pm_a130_43 : pm_as (pm_cd pm_mm130) 43 = some (.iload_n 2, 1) := by decide +kernel
theorem pm_a130_44 : pm_as (pm_cd pm_mm130) 44 = some (.invokevirtual 159, 3) := by decide +kernel
theorem pm_a130_47 : pm_as (pm_cd pm_mm130) 47 = some (.goto 4, 3) := by decide +kernel
theorem pm_a130_50 : pm_as (pm_cd pm_mm130) 50 = some (.iload_n 2, 1) := by decide +kernel
theorem pm_a130_51 : pm_as (pm_cd pm_mm130) 51 = some (.istore_n 2, 1) := by decide +kernel
theorem pm_a130_52 : pm_as (pm_cd pm_mm130) 52 = some (.iinc 3 1, 3) := by decide +kernel
theorem pm_a130_55 : pm_as (pm_cd pm_mm130) 55 = some (.goto (-45), 3) := by decide +kernel
theorem pm_a130_58 : pm_as (pm_cd pm_mm130) 58 = some (.iconst 0, 1) := by decide +kernel
theorem pm_a130_59 : pm_as (pm_cd pm_mm130) 59 = some (.istore_n 3, 1) := by decide +kernel
theorem pm_a130_60 : pm_as (pm_cd pm_mm130) 60 = some (.iload_n 3, 1) := by decide +kernel
theorem pm_a130_61 : pm_as (pm_cd pm_mm130) 61 = some (.iload_n 2, 1) := by decide +kernel
theorem pm_a130_62 : pm_as (pm_cd pm_mm130) 62 = some (.if_icmp .ge 73, 3) := by decide +kernel
theorem pm_a130_65 : pm_as (pm_cd pm_mm130) 65 = some (.iload_n 3, 1) := by decide +kernel
theorem pm_a130_66 : pm_as (pm_cd pm_mm130) 66 = some (.sipush 2800, 3) := by decide +kernel
theorem pm_a130_69 : pm_as (pm_cd pm_mm130) 69 = some (.if_icmp .ge 66, 3) := by decide +kernel
theorem pm_a130_72 : pm_as (pm_cd pm_mm130) 72 = some (.aload_n 0, 1) := by decide +kernel
theorem pm_a130_73 : pm_as (pm_cd pm_mm130) 73 = some (.getfield 21, 3) := by decide +kernel
theorem pm_a130_76 : pm_as (pm_cd pm_mm130) 76 = some (.iload_n 3, 1) := by decide +kernel
theorem pm_a130_77 : pm_as (pm_cd pm_mm130) 77 = some (.invokestatic 121, 3) := by decide +kernel
theorem pm_a130_80 : pm_as (pm_cd pm_mm130) 80 = some (.istore 4, 2) := by decide +kernel
theorem pm_a130_82 : pm_as (pm_cd pm_mm130) 82 = some (.aload_n 0, 1) := by decide +kernel
theorem pm_a130_83 : pm_as (pm_cd pm_mm130) 83 = some (.iload 4, 2) := by decide +kernel
theorem pm_a130_85 : pm_as (pm_cd pm_mm130) 85 = some (.invokevirtual 155, 3) := by decide +kernel
theorem pm_a130_88 : pm_as (pm_cd pm_mm130) 88 = some (.ifCond .eq 41, 3) := by decide +kernel
theorem pm_a130_91 : pm_as (pm_cd pm_mm130) 91 = some (.aload_n 0, 1) := by decide +kernel
theorem pm_a130_92 : pm_as (pm_cd pm_mm130) 92 = some (.aload_n 0, 1) := by decide +kernel
theorem pm_a130_93 : pm_as (pm_cd pm_mm130) 93 = some (.aload_n 0, 1) := by decide +kernel
theorem pm_a130_94 : pm_as (pm_cd pm_mm130) 94 = some (.getfield 11, 3) := by decide +kernel
theorem pm_a130_97 : pm_as (pm_cd pm_mm130) 97 = some (.iload 4, 2) := by decide +kernel
theorem pm_a130_99 : pm_as (pm_cd pm_mm130) 99 = some (.invokestatic 121, 3) := by decide +kernel
theorem pm_a130_102 : pm_as (pm_cd pm_mm130) 102 = some (.invokevirtual 152, 3) := by decide +kernel
theorem pm_a130_105 : pm_as (pm_cd pm_mm130) 105 = some (.iload_n 2, 1) := by decide +kernel
theorem pm_a130_106 : pm_as (pm_cd pm_mm130) 106 = some (.invokevirtual 165, 3) := by decide +kernel
theorem pm_a130_109 : pm_as (pm_cd pm_mm130) 109 = some (.istore_n 2, 1) := by decide +kernel
theorem pm_a130_110 : pm_as (pm_cd pm_mm130) 110 = some (.aload_n 0, 1) := by decide +kernel
theorem pm_a130_111 : pm_as (pm_cd pm_mm130) 111 = some (.aload_n 0, 1) := by decide +kernel
theorem pm_a130_112 : pm_as (pm_cd pm_mm130) 112 = some (.aload_n 0, 1) := by decide +kernel
theorem pm_a130_113 : pm_as (pm_cd pm_mm130) 113 = some (.getfield 15, 3) := by decide +kernel
theorem pm_a130_116 : pm_as (pm_cd pm_mm130) 116 = some (.iload 4, 2) := by decide +kernel
theorem pm_a130_118 : pm_as (pm_cd pm_mm130) 118 = some (.invokestatic 121, 3) := by decide +kernel
theorem pm_a130_121 : pm_as (pm_cd pm_mm130) 121 = some (.invokevirtual 152, 3) := by decide +kernel
theorem pm_a130_124 : pm_as (pm_cd pm_mm130) 124 = some (.iload_n 2, 1) := by decide +kernel
theorem pm_a130_125 : pm_as (pm_cd pm_mm130) 125 = some (.invokevirtual 165, 3) := by decide +kernel
theorem pm_a130_128 : pm_as (pm_cd pm_mm130) 128 = some (.istore_n 2, 1) := by decide +kernel
theorem pm_a130_129 : pm_as (pm_cd pm_mm130) 129 = some (.iinc 3 1, 3) := by decide +kernel
theorem pm_a130_132 : pm_as (pm_cd pm_mm130) 132 = some (.goto (-72), 3) := by decide +kernel
theorem pm_a130_135 : pm_as (pm_cd pm_mm130) 135 = some (.iload_n 2, 1) := by decide +kernel
theorem pm_a130_136 : pm_as (pm_cd pm_mm130) 136 = some (.iload_n 1, 1) := by decide +kernel
theorem pm_a130_137 : pm_as (pm_cd pm_mm130) 137 = some (.if_icmp .ge 7, 3) := by decide +kernel
theorem pm_a130_140 : pm_as (pm_cd pm_mm130) 140 = some (.iconst 1, 1) := by decide +kernel
theorem pm_a130_141 : pm_as (pm_cd pm_mm130) 141 = some (.goto 4, 3) := by decide +kernel
theorem pm_a130_144 : pm_as (pm_cd pm_mm130) 144 = some (.iconst 0, 1) := by decide +kernel
theorem pm_a130_145 : pm_as (pm_cd pm_mm130) 145 = some (.ireturn, 1) := by decide +kernel
theorem pm_a131_0 : pm_as (pm_cd pm_mm131) 0 = some (.aload_n 0, 1) := by decide +kernel
theorem pm_a131_1 : pm_as (pm_cd pm_mm131) 1 = some (.invokevirtual 168, 3) := by decide +kernel
theorem pm_a131_4 : pm_as (pm_cd pm_mm131) 4 = some (.iconst 0, 1) := by decide +kernel
theorem pm_a131_5 : pm_as (pm_cd pm_mm131) 5 = some (.istore_n 1, 1) := by decide +kernel
theorem pm_a131_6 : pm_as (pm_cd pm_mm131) 6 = some (.iload_n 1, 1) := by decide +kernel
theorem pm_a131_7 : pm_as (pm_cd pm_mm131) 7 = some (.aload_n 0, 1) := by decide +kernel
theorem pm_a131_8 : pm_as (pm_cd pm_mm131) 8 = some (.getfield 49, 3) := by decide +kernel
theorem pm_a131_11 : pm_as (pm_cd pm_mm131) 11 = some (.if_icmp .ge 58, 3) := by decide +kernel
theorem pm_a131_14 : pm_as (pm_cd pm_mm131) 14 = some (.aload_n 0, 1) := by decide +kernel
theorem pm_a131_15 : pm_as (pm_cd pm_mm131) 15 = some (.iload_n 1, 1) := by decide +kernel
theorem pm_a131_16 : pm_as (pm_cd pm_mm131) 16 = some (.invokevirtual 152, 3) := by decide +kernel
theorem pm_a131_19 : pm_as (pm_cd pm_mm131) 19 = some (.iload_n 1, 1) := by decide +kernel
theorem pm_a131_20 : pm_as (pm_cd pm_mm131) 20 = some (.if_icmp .ne 43, 3) := by decide +kernel
theorem pm_a131_23 : pm_as (pm_cd pm_mm131) 23 = some (.aload_n 0, 1) := by decide +kernel
theorem pm_a131_24 : pm_as (pm_cd pm_mm131) 24 = some (.iload_n 1, 1) := by decide +kernel
theorem pm_a131_25 : pm_as (pm_cd pm_mm131) 25 = some (.invokevirtual 155, 3) := by decide +kernel
theorem pm_a131_28 : pm_as (pm_cd pm_mm131) 28 = some (.ifCond .eq 35, 3) := by decide +kernel
theorem pm_a131_31 : pm_as (pm_cd pm_mm131) 31 = some (.aload_n 0, 1) := by decide +kernel
theorem pm_a131_32 : pm_as (pm_cd pm_mm131) 32 = some (.aload_n 0, 1) := by decide +kernel
theorem pm_a131_33 : pm_as (pm_cd pm_mm131) 33 = some (.aload_n 0, 1) := by decide +kernel
theorem pm_a131_34 : pm_as (pm_cd pm_mm131) 34 = some (.getfield 11, 3) := by decide +kernel
theorem pm_a131_37 : pm_as (pm_cd pm_mm131) 37 = some (.iload_n 1, 1) := by decide +kernel
theorem pm_a131_38 : pm_as (pm_cd pm_mm131) 38 = some (.invokestatic 121, 3) := by decide +kernel
theorem pm_a131_41 : pm_as (pm_cd pm_mm131) 41 = some (.invokevirtual 152, 3) := by decide +kernel
theorem pm_a131_44 : pm_as (pm_cd pm_mm131) 44 = some (.invokevirtual 171, 3) := by decide +kernel
theorem pm_a131_47 : pm_as (pm_cd pm_mm131) 47 = some (.aload_n 0, 1) := by decide +kernel
theorem pm_a131_48 : pm_as (pm_cd pm_mm131) 48 = some (.aload_n 0, 1) := by decide +kernel
theorem pm_a131_49 : pm_as (pm_cd pm_mm131) 49 = some (.aload_n 0, 1) := by decide +kernel
theorem pm_a131_50 : pm_as (pm_cd pm_mm131) 50 = some (.getfield 15, 3) := by decide +kernel
theorem pm_a131_53 : pm_as (pm_cd pm_mm131) 53 = some (.iload_n 1, 1) := by decide +kernel
theorem pm_a131_54 : pm_as (pm_cd pm_mm131) 54 = some (.invokestatic 121, 3) := by decide +kernel
theorem pm_a131_57 : pm_as (pm_cd pm_mm131) 57 = some (.invokevirtual 152, 3) := by decide +kernel
theorem pm_a131_60 : pm_as (pm_cd pm_mm131) 60 = some (.invokevirtual 171, 3) := by decide +kernel
theorem pm_a131_63 : pm_as (pm_cd pm_mm131) 63 = some (.iinc 1 1, 3) := by decide +kernel
theorem pm_a131_66 : pm_as (pm_cd pm_mm131) 66 = some (.goto (-60), 3) := by decide +kernel
theorem pm_a131_69 : pm_as (pm_cd pm_mm131) 69 = some (.return_, 1) := by decide +kernel
theorem pm_a132_0 : pm_as (pm_cd pm_mm132) 0 = some (.iconst 0, 1) := by decide +kernel
theorem pm_a132_1 : pm_as (pm_cd pm_mm132) 1 = some (.istore_n 1, 1) := by decide +kernel
theorem pm_a132_2 : pm_as (pm_cd pm_mm132) 2 = some (.iload_n 1, 1) := by decide +kernel
theorem pm_a132_3 : pm_as (pm_cd pm_mm132) 3 = some (.sipush 2800, 3) := by decide +kernel
theorem pm_a132_6 : pm_as (pm_cd pm_mm132) 6 = some (.if_icmp .ge 18, 3) := by decide +kernel
theorem pm_a132_9 : pm_as (pm_cd pm_mm132) 9 = some (.aload_n 0, 1) := by decide +kernel
theorem pm_a132_10 : pm_as (pm_cd pm_mm132) 10 = some (.getfield 24, 3) := by decide +kernel
theorem pm_a132_13 : pm_as (pm_cd pm_mm132) 13 = some (.iload_n 1, 1) := by decide +kernel
theorem pm_a132_14 : pm_as (pm_cd pm_mm132) 14 = some (.iconst 0, 1) := by decide +kernel
theorem pm_a132_15 : pm_as (pm_cd pm_mm132) 15 = some (.invokestatic 130, 3) := by decide +kernel
theorem pm_a132_18 : pm_as (pm_cd pm_mm132) 18 = some (.iinc 1 1, 3) := by decide +kernel
theorem pm_a132_21 : pm_as (pm_cd pm_mm132) 21 = some (.goto (-19), 3) := by decide +kernel
theorem pm_a132_24 : pm_as (pm_cd pm_mm132) 24 = some (.return_, 1) := by decide +kernel
theorem pm_a133_0 : pm_as (pm_cd pm_mm133) 0 = some (.aload_n 0, 1) := by decide +kernel
theorem pm_a133_1 : pm_as (pm_cd pm_mm133) 1 = some (.getfield 24, 3) := by decide +kernel
theorem pm_a133_4 : pm_as (pm_cd pm_mm133) 4 = some (.iload_n 1, 1) := by decide +kernel
theorem pm_a133_5 : pm_as (pm_cd pm_mm133) 5 = some (.aload_n 0, 1) := by decide +kernel
theorem pm_a133_6 : pm_as (pm_cd pm_mm133) 6 = some (.getfield 24, 3) := by decide +kernel
theorem pm_a133_9 : pm_as (pm_cd pm_mm133) 9 = some (.iload_n 1, 1) := by decide +kernel
theorem pm_a133_10 : pm_as (pm_cd pm_mm133) 10 = some (.invokestatic 121, 3) := by decide +kernel
theorem pm_a133_13 : pm_as (pm_cd pm_mm133) 13 = some (.iconst 1, 1) := by decide +kernel
theorem pm_a133_14 : pm_as (pm_cd pm_mm133) 14 = some (.iadd, 1) := by decide +kernel
theorem pm_a133_15 : pm_as (pm_cd pm_mm133) 15 = some (.invokestatic 130, 3) := by decide +kernel
theorem pm_a133_18 : pm_as (pm_cd pm_mm133) 18 = some (.return_, 1) := by decide +kernel
theorem pm_a134_0 : pm_as (pm_cd pm_mm134) 0 = some (.aload_n 0, 1) := by decide +kernel
theorem pm_a134_1 : pm_as (pm_cd pm_mm134) 1 = some (.getfield 24, 3) := by decide +kernel
theorem pm_a134_4 : pm_as (pm_cd pm_mm134) 4 = some (.iload_n 1, 1) := by decide +kernel
theorem pm_a134_5 : pm_as (pm_cd pm_mm134) 5 = some (.aload_n 0, 1) := by decide +kernel
theorem pm_a134_6 : pm_as (pm_cd pm_mm134) 6 = some (.getfield 24, 3) := by decide +kernel
theorem pm_a134_9 : pm_as (pm_cd pm_mm134) 9 = some (.iload_n 1, 1) := by decide +kernel
theorem pm_a134_10 : pm_as (pm_cd pm_mm134) 10 = some (.invokestatic 121, 3) := by decide +kernel
theorem pm_a134_13 : pm_as (pm_cd pm_mm134) 13 = some (.iconst 1, 1) := by decide +kernel
theorem pm_a134_14 : pm_as (pm_cd pm_mm134) 14 = some (.isub, 1) := by decide +kernel
theorem pm_a134_15 : pm_as (pm_cd pm_mm134) 15 = some (.invokestatic 130, 3) := by decide +kernel
theorem pm_a134_18 : pm_as (pm_cd pm_mm134) 18 = some (.aload_n 0, 1) := by decide +kernel
theorem pm_a134_19 : pm_as (pm_cd pm_mm134) 19 = some (.getfield 24, 3) := by decide +kernel
theorem pm_a134_22 : pm_as (pm_cd pm_mm134) 22 = some (.iload_n 1, 1) := by decide +kernel
theorem pm_a134_23 : pm_as (pm_cd pm_mm134) 23 = some (.invokestatic 121, 3) := by decide +kernel
theorem pm_a134_26 : pm_as (pm_cd pm_mm134) 26 = some (.ifCond .ne 12, 3) := by decide +kernel
theorem pm_a134_29 : pm_as (pm_cd pm_mm134) 29 = some (.aload_n 0, 1) := by decide +kernel
theorem pm_a134_30 : pm_as (pm_cd pm_mm134) 30 = some (.iload_n 1, 1) := by decide +kernel
theorem pm_a134_31 : pm_as (pm_cd pm_mm134) 31 = some (.iload_n 2, 1) := by decide +kernel
theorem pm_a134_32 : pm_as (pm_cd pm_mm134) 32 = some (.invokevirtual 159, 3) := by decide +kernel
theorem pm_a134_35 : pm_as (pm_cd pm_mm134) 35 = some (.goto 4, 3) := by decide +kernel
theorem pm_a134_38 : pm_as (pm_cd pm_mm134) 38 = some (.iload_n 2, 1) := by decide +kernel
theorem pm_a134_39 : pm_as (pm_cd pm_mm134) 39 = some (.ireturn, 1) := by decide +kernel
theorem pm_a135_0 : pm_as (pm_cd pm_mm135) 0 = some (.aload_n 0, 1) := by decide +kernel
theorem pm_a135_1 : pm_as (pm_cd pm_mm135) 1 = some (.invokevirtual 168, 3) := by decide +kernel
theorem pm_a135_4 : pm_as (pm_cd pm_mm135) 4 = some (.aload_n 0, 1) := by decide +kernel
theorem pm_a135_5 : pm_as (pm_cd pm_mm135) 5 = some (.getfield 38, 3) := by decide +kernel
theorem pm_a135_8 : pm_as (pm_cd pm_mm135) 8 = some (.invokevirtual 97, 3) := by decide +kernel
theorem pm_a135_11 : pm_as (pm_cd pm_mm135) 11 = some (.aload_n 0, 1) := by decide +kernel
theorem pm_a135_12 : pm_as (pm_cd pm_mm135) 12 = some (.iconst 0, 1) := by decide +kernel
theorem pm_a135_13 : pm_as (pm_cd pm_mm135) 13 = some (.putfield 53, 3) := by decide +kernel
theorem pm_a135_16 : pm_as (pm_cd pm_mm135) 16 = some (.aload_n 0, 1) := by decide +kernel
theorem pm_a135_17 : pm_as (pm_cd pm_mm135) 17 = some (.iload_n 1, 1) := by decide +kernel
theorem pm_a135_18 : pm_as (pm_cd pm_mm135) 18 = some (.invokevirtual 72, 3) := by decide +kernel
theorem pm_a135_21 : pm_as (pm_cd pm_mm135) 21 = some (.iconst 0, 1) := by decide +kernel
theorem pm_a135_22 : pm_as (pm_cd pm_mm135) 22 = some (.istore_n 2, 1) := by decide +kernel
theorem pm_a135_23 : pm_as (pm_cd pm_mm135) 23 = some (.iconst 0, 1) := by decide +kernel
theorem pm_a135_24 : pm_as (pm_cd pm_mm135) 24 = some (.istore_n 3, 1) := by decide +kernel
theorem pm_a135_25 : pm_as (pm_cd pm_mm135) 25 = some (.iload_n 3, 1) := by decide +kernel
theorem pm_a135_26 : pm_as (pm_cd pm_mm135) 26 = some (.sipush 500, 3) := by decide +kernel
theorem pm_a135_29 : pm_as (pm_cd pm_mm135) 29 = some (.if_icmp .gt 123, 3) := by decide +kernel
theorem pm_a135_32 : pm_as (pm_cd pm_mm135) 32 = some (.aload_n 0, 1) := by decide +kernel
theorem pm_a135_33 : pm_as (pm_cd pm_mm135) 33 = some (.getfield 53, 3) := by decide +kernel
theorem pm_a135_36 : pm_as (pm_cd pm_mm135) 36 = some (.ifCond .le 116, 3) := by decide +kernel
theorem pm_a135_39 : pm_as (pm_cd pm_mm135) 39 = some (.aload_n 0, 1) := by decide +kernel
theorem pm_a135_40 : pm_as (pm_cd pm_mm135) 40 = some (.getfield 38, 3) := by decide +kernel
theorem pm_a135_43 : pm_as (pm_cd pm_mm135) 43 = some (.getfield 93, 3) := by decide +kernel
theorem pm_a135_46 : pm_as (pm_cd pm_mm135) 46 = some (.ifCond .ne 106, 3) := by decide +kernel
theorem pm_a135_49 : pm_as (pm_cd pm_mm135) 49 = some (.aload_n 0, 1) := by decide +kernel
theorem pm_a135_50 : pm_as (pm_cd pm_mm135) 50 = some (.aload_n 0, 1) := by decide +kernel
theorem pm_a135_51 : pm_as (pm_cd pm_mm135) 51 = some (.invokevirtual 79, 3) := by decide +kernel
theorem pm_a135_54 : pm_as (pm_cd pm_mm135) 54 = some (.invokevirtual 152, 3) := by decide +kernel
theorem pm_a135_57 : pm_as (pm_cd pm_mm135) 57 = some (.istore 4, 2) := by decide +kernel
theorem pm_a135_59 : pm_as (pm_cd pm_mm135) 59 = some (.aload_n 0, 1) := by decide +kernel
theorem pm_a135_60 : pm_as (pm_cd pm_mm135) 60 = some (.iload 4, 2) := by decide +kernel
theorem pm_a135_62 : pm_as (pm_cd pm_mm135) 62 = some (.invokevirtual 155, 3) := by decide +kernel
theorem pm_a135_65 : pm_as (pm_cd pm_mm135) 65 = some (.ifCond .eq 40, 3) := by decide +kernel
theorem pm_a135_68 : pm_as (pm_cd pm_mm135) 68 = some (.aload_n 0, 1) := by decide +kernel
theorem pm_a135_69 : pm_as (pm_cd pm_mm135) 69 = some (.getfield 38, 3) := by decide +kernel
theorem pm_a135_72 : pm_as (pm_cd pm_mm135) 72 = some (.iconst 0, 1) := by decide +kernel
theorem pm_a135_73 : pm_as (pm_cd pm_mm135) 73 = some (.invokevirtual 174, 3) := by decide +kernel
theorem pm_a135_76 : pm_as (pm_cd pm_mm135) 76 = some (.aload_n 0, 1) := by decide +kernel
theorem pm_a135_77 : pm_as (pm_cd pm_mm135) 77 = some (.aload_n 0, 1) := by decide +kernel
theorem pm_a135_78 : pm_as (pm_cd pm_mm135) 78 = some (.getfield 15, 3) := by decide +kernel
theorem pm_a135_81 : pm_as (pm_cd pm_mm135) 81 = some (.iload 4, 2) := by decide +kernel
theorem pm_a135_83 : pm_as (pm_cd pm_mm135) 83 = some (.invokestatic 121, 3) := by decide +kernel
theorem pm_a135_86 : pm_as (pm_cd pm_mm135) 86 = some (.invokevirtual 72, 3) := by decide +kernel
theorem pm_a135_89 : pm_as (pm_cd pm_mm135) 89 = some (.aload_n 0, 1) := by decide +kernel
theorem pm_a135_90 : pm_as (pm_cd pm_mm135) 90 = some (.aload_n 0, 1) := by decide +kernel
theorem pm_a135_91 : pm_as (pm_cd pm_mm135) 91 = some (.getfield 11, 3) := by decide +kernel
theorem pm_a135_94 : pm_as (pm_cd pm_mm135) 94 = some (.iload 4, 2) := by decide +kernel
theorem pm_a135_96 : pm_as (pm_cd pm_mm135) 96 = some (.invokestatic 121, 3) := by decide +kernel
theorem pm_a135_99 : pm_as (pm_cd pm_mm135) 99 = some (.invokevirtual 72, 3) := by decide +kernel
theorem pm_a135_102 : pm_as (pm_cd pm_mm135) 102 = some (.goto 44, 3) := by decide +kernel
theorem pm_a135_105 : pm_as (pm_cd pm_mm135) 105 = some (.aload_n 0, 1) := by decide +kernel
theorem pm_a135_106 : pm_as (pm_cd pm_mm135) 106 = some (.getfield 24, 3) := by decide +kernel
theorem pm_a135_109 : pm_as (pm_cd pm_mm135) 109 = some (.iload 4, 2) := by decide +kernel
theorem pm_a135_111 : pm_as (pm_cd pm_mm135) 111 = some (.invokestatic 121, 3) := by decide +kernel
theorem pm_a135_114 : pm_as (pm_cd pm_mm135) 114 = some (.ifCond .ne 16, 3) := by decide +kernel
theorem pm_a135_117 : pm_as (pm_cd pm_mm135) 117 = some (.iinc 2 1, 3) := by decide +kernel
theorem pm_a135_120 : pm_as (pm_cd pm_mm135) 120 = some (.aload_n 0, 1) := by decide +kernel
theorem pm_a135_121 : pm_as (pm_cd pm_mm135) 121 = some (.getfield 24, 3) := by decide +kernel
theorem pm_a135_124 : pm_as (pm_cd pm_mm135) 124 = some (.iload 4, 2) := by decide +kernel
theorem pm_a135_126 : pm_as (pm_cd pm_mm135) 126 = some (.iload_n 2, 1) := by decide +kernel
theorem pm_a135_127 : pm_as (pm_cd pm_mm135) 127 = some (.invokestatic 130, 3) := by decide +kernel
theorem pm_a135_130 : pm_as (pm_cd pm_mm135) 130 = some (.aload_n 0, 1) := by decide +kernel
theorem pm_a135_131 : pm_as (pm_cd pm_mm135) 131 = some (.getfield 38, 3) := by decide +kernel
theorem pm_a135_134 : pm_as (pm_cd pm_mm135) 134 = some (.aload_n 0, 1) := by decide +kernel
theorem pm_a135_135 : pm_as (pm_cd pm_mm135) 135 = some (.getfield 24, 3) := by decide +kernel
theorem pm_a135_138 : pm_as (pm_cd pm_mm135) 138 = some (.iload 4, 2) := by decide +kernel
theorem pm_a135_140 : pm_as (pm_cd pm_mm135) 140 = some (.invokestatic 121, 3) := by decide +kernel
theorem pm_a135_143 : pm_as (pm_cd pm_mm135) 143 = some (.invokevirtual 174, 3) := by decide +kernel
theorem pm_a135_146 : pm_as (pm_cd pm_mm135) 146 = some (.iinc 3 1, 3) := by decide +kernel
theorem pm_a135_149 : pm_as (pm_cd pm_mm135) 149 = some (.goto (-124), 3) := by decide +kernel
theorem pm_a135_152 : pm_as (pm_cd pm_mm135) 152 = some (.return_, 1) := by decide +kernel
theorem pm_a136_0 : pm_as (pm_cd pm_mm136) 0 = some (.aload_n 0, 1) := by decide +kernel
theorem pm_a136_1 : pm_as (pm_cd pm_mm136) 1 = some (.getfield 159, 3) := by decide +kernel
theorem pm_a136_4 : pm_as (pm_cd pm_mm136) 4 = some (.ifnonnull 7, 3) := by decide +kernel
theorem pm_a136_7 : pm_as (pm_cd pm_mm136) 7 = some (.iconst (-1), 1) := by decide +kernel
theorem pm_a136_8 : pm_as (pm_cd pm_mm136) 8 = some (.goto 14, 3) := by decide +kernel
theorem pm_a136_11 : pm_as (pm_cd pm_mm136) 11 = some (.aload_n 0, 1) := by decide +kernel
theorem pm_a136_12 : pm_as (pm_cd pm_mm136) 12 = some (.getfield 159, 3) := by decide +kernel
theorem pm_a136_15 : pm_as (pm_cd pm_mm136) 15 = some (.getfield 169, 3) := by decide +kernel
theorem pm_a136_18 : pm_as (pm_cd pm_mm136) 18 = some (.iload_n 1, 1) := by decide +kernel
theorem pm_a136_19 : pm_as (pm_cd pm_mm136) 19 = some (.invokevirtual 91, 3) := by decide +kernel
theorem pm_a136_22 : pm_as (pm_cd pm_mm136) 22 = some (.ireturn, 1) := by decide +kernel
theorem pm_a137_0 : pm_as (pm_cd pm_mm137) 0 = some (.aload_n 0, 1) := by decide +kernel
theorem pm_a137_1 : pm_as (pm_cd pm_mm137) 1 = some (.iload_n 1, 1) := by decide +kernel
theorem pm_a137_2 : pm_as (pm_cd pm_mm137) 2 = some (.invokevirtual 86, 3) := by decide +kernel
theorem pm_a137_5 : pm_as (pm_cd pm_mm137) 5 = some (.astore_n 3, 1) := by decide +kernel
theorem pm_a137_6 : pm_as (pm_cd pm_mm137) 6 = some (.aload_n 3, 1) := by decide +kernel
theorem pm_a137_7 : pm_as (pm_cd pm_mm137) 7 = some (.ifnonnull 5, 3) := by decide +kernel
theorem pm_a137_10 : pm_as (pm_cd pm_mm137) 10 = some (.iconst (-1), 1) := by decide +kernel
theorem pm_a137_11 : pm_as (pm_cd pm_mm137) 11 = some (.ireturn, 1) := by decide +kernel
theorem pm_a137_12 : pm_as (pm_cd pm_mm137) 12 = some (.iload_n 2, 1) := by decide +kernel
theorem pm_a137_13 : pm_as (pm_cd pm_mm137) 13 = some (.tableswitch 113 0 4 #[35, 44, 59, 77, 93], 35) := by decide +kernel
theorem pm_a137_48 : pm_as (pm_cd pm_mm137) 48 = some (.aload_n 0, 1) := by decide +kernel
theorem pm_a137_49 : pm_as (pm_cd pm_mm137) 49 = some (.getfield 32, 3) := by decide +kernel
theorem pm_a137_52 : pm_as (pm_cd pm_mm137) 52 = some (.aload_n 3, 1) := by decide +kernel
theorem pm_a137_53 : pm_as (pm_cd pm_mm137) 53 = some (.invokevirtual 172, 3) := by decide +kernel
theorem pm_a137_56 : pm_as (pm_cd pm_mm137) 56 = some (.ireturn, 1) := by decide +kernel
theorem pm_a137_57 : pm_as (pm_cd pm_mm137) 57 = some (.aload_n 3, 1) := by decide +kernel
theorem pm_a137_58 : pm_as (pm_cd pm_mm137) 58 = some (.iconst 1, 1) := by decide +kernel
theorem pm_a137_59 : pm_as (pm_cd pm_mm137) 59 = some (.iconst 1, 1) := by decide +kernel
theorem pm_a137_60 : pm_as (pm_cd pm_mm137) 60 = some (.invokevirtual 175, 3) := by decide +kernel
theorem pm_a137_63 : pm_as (pm_cd pm_mm137) 63 = some (.ifCond .eq 7, 3) := by decide +kernel
theorem pm_a137_66 : pm_as (pm_cd pm_mm137) 66 = some (.iconst 1, 1) := by decide +kernel
theorem pm_a137_67 : pm_as (pm_cd pm_mm137) 67 = some (.goto 4, 3) := by decide +kernel
theorem pm_a137_70 : pm_as (pm_cd pm_mm137) 70 = some (.iconst 0, 1) := by decide +kernel
theorem pm_a137_71 : pm_as (pm_cd pm_mm137) 71 = some (.ireturn, 1) := by decide +kernel
theorem pm_a137_72 : pm_as (pm_cd pm_mm137) 72 = some (.aload_n 3, 1) := by decide +kernel
theorem pm_a137_73 : pm_as (pm_cd pm_mm137) 73 = some (.bipush 10, 2) := by decide +kernel
theorem pm_a137_75 : pm_as (pm_cd pm_mm137) 75 = some (.sipush 510, 3) := by decide +kernel
theorem pm_a137_78 : pm_as (pm_cd pm_mm137) 78 = some (.invokevirtual 175, 3) := by decide +kernel
theorem pm_a137_81 : pm_as (pm_cd pm_mm137) 81 = some (.ifCond .eq 7, 3) := by decide +kernel
theorem pm_a137_84 : pm_as (pm_cd pm_mm137) 84 = some (.iconst 1, 1) := by decide +kernel
theorem pm_a137_85 : pm_as (pm_cd pm_mm137) 85 = some (.goto 4, 3) := by decide +kernel
theorem pm_a137_88 : pm_as (pm_cd pm_mm137) 88 = some (.iconst 0, 1) := by decide +kernel
theorem pm_a137_89 : pm_as (pm_cd pm_mm137) 89 = some (.ireturn, 1) := by decide +kernel
theorem pm_a137_90 : pm_as (pm_cd pm_mm137) 90 = some (.aload_n 3, 1) := by decide +kernel
theorem pm_a137_91 : pm_as (pm_cd pm_mm137) 91 = some (.iconst 2, 1) := by decide +kernel
theorem pm_a137_92 : pm_as (pm_cd pm_mm137) 92 = some (.bipush 6, 2) := by decide +kernel
theorem pm_a137_94 : pm_as (pm_cd pm_mm137) 94 = some (.invokevirtual 175, 3) := by decide +kernel
theorem pm_a137_97 : pm_as (pm_cd pm_mm137) 97 = some (.ifCond .eq 7, 3) := by decide +kernel
theorem pm_a137_100 : pm_as (pm_cd pm_mm137) 100 = some (.iconst 1, 1) := by decide +kernel
theorem pm_a137_101 : pm_as (pm_cd pm_mm137) 101 = some (.goto 4, 3) := by decide +kernel
theorem pm_a137_104 : pm_as (pm_cd pm_mm137) 104 = some (.iconst 0, 1) := by decide +kernel
theorem pm_a137_105 : pm_as (pm_cd pm_mm137) 105 = some (.ireturn, 1) := by decide +kernel
theorem pm_a137_106 : pm_as (pm_cd pm_mm137) 106 = some (.aload_n 0, 1) := by decide +kernel
theorem pm_a137_107 : pm_as (pm_cd pm_mm137) 107 = some (.getfield 57, 3) := by decide +kernel
theorem pm_a137_110 : pm_as (pm_cd pm_mm137) 110 = some (.aload_n 3, 1) := by decide +kernel
theorem pm_a137_111 : pm_as (pm_cd pm_mm137) 111 = some (.iconst 0, 1) := by decide +kernel
theorem pm_a137_112 : pm_as (pm_cd pm_mm137) 112 = some (.invokevirtual 136, 3) := by decide +kernel
theorem pm_a137_115 : pm_as (pm_cd pm_mm137) 115 = some (.bipush (-4), 2) := by decide +kernel
theorem pm_a137_117 : pm_as (pm_cd pm_mm137) 117 = some (.if_icmp .ne 7, 3) := by decide +kernel
theorem pm_a137_120 : pm_as (pm_cd pm_mm137) 120 = some (.iconst 1, 1) := by decide +kernel
theorem pm_a137_121 : pm_as (pm_cd pm_mm137) 121 = some (.goto 4, 3) := by decide +kernel
theorem pm_a137_124 : pm_as (pm_cd pm_mm137) 124 = some (.iconst 0, 1) := by decide +kernel
theorem pm_a137_125 : pm_as (pm_cd pm_mm137) 125 = some (.ireturn, 1) := by decide +kernel
theorem pm_a137_126 : pm_as (pm_cd pm_mm137) 126 = some (.iconst (-1), 1) := by decide +kernel
theorem pm_a137_127 : pm_as (pm_cd pm_mm137) 127 = some (.ireturn, 1) := by decide +kernel
theorem pm_a138_0 : pm_as (pm_cd pm_mm138) 0 = some (.aload_n 0, 1) := by decide +kernel
theorem pm_a138_1 : pm_as (pm_cd pm_mm138) 1 = some (.aload_n 1, 1) := by decide +kernel
theorem pm_a138_2 : pm_as (pm_cd pm_mm138) 2 = some (.iconst 0, 1) := by decide +kernel
theorem pm_a138_3 : pm_as (pm_cd pm_mm138) 3 = some (.aload_n 1, 1) := by decide +kernel
theorem pm_a138_4 : pm_as (pm_cd pm_mm138) 4 = some (.getfield 48, 3) := by decide +kernel
theorem pm_a138_7 : pm_as (pm_cd pm_mm138) 7 = some (.invokevirtual 52, 3) := by decide +kernel
theorem pm_a138_10 : pm_as (pm_cd pm_mm138) 10 = some (.iconst 0, 1) := by decide +kernel
theorem pm_a138_11 : pm_as (pm_cd pm_mm138) 11 = some (.istore_n 2, 1) := by decide +kernel
theorem pm_a138_12 : pm_as (pm_cd pm_mm138) 12 = some (.iconst 0, 1) := by decide +kernel
theorem pm_a138_13 : pm_as (pm_cd pm_mm138) 13 = some (.istore_n 3, 1) := by decide +kernel
theorem pm_a138_14 : pm_as (pm_cd pm_mm138) 14 = some (.iload_n 3, 1) := by decide +kernel
theorem pm_a138_15 : pm_as (pm_cd pm_mm138) 15 = some (.aload_n 1, 1) := by decide +kernel
theorem pm_a138_16 : pm_as (pm_cd pm_mm138) 16 = some (.getfield 48, 3) := by decide +kernel
theorem pm_a138_19 : pm_as (pm_cd pm_mm138) 19 = some (.if_icmp .ge 19, 3) := by decide +kernel
theorem pm_a138_22 : pm_as (pm_cd pm_mm138) 22 = some (.iload_n 2, 1) := by decide +kernel
theorem pm_a138_23 : pm_as (pm_cd pm_mm138) 23 = some (.aload_n 0, 1) := by decide +kernel
theorem pm_a138_24 : pm_as (pm_cd pm_mm138) 24 = some (.iload_n 3, 1) := by decide +kernel
theorem pm_a138_25 : pm_as (pm_cd pm_mm138) 25 = some (.invokevirtual 45, 3) := by decide +kernel
theorem pm_a138_28 : pm_as (pm_cd pm_mm138) 28 = some (.invokestatic 26, 3) := by decide +kernel
theorem pm_a138_31 : pm_as (pm_cd pm_mm138) 31 = some (.istore_n 2, 1) := by decide +kernel
theorem pm_a138_32 : pm_as (pm_cd pm_mm138) 32 = some (.iinc 3 1, 3) := by decide +kernel
theorem pm_a138_35 : pm_as (pm_cd pm_mm138) 35 = some (.goto (-21), 3) := by decide +kernel
theorem pm_a138_38 : pm_as (pm_cd pm_mm138) 38 = some (.iload_n 2, 1) := by decide +kernel
theorem pm_a138_39 : pm_as (pm_cd pm_mm138) 39 = some (.ireturn, 1) := by decide +kernel
theorem pm_a139_0 : pm_as (pm_cd pm_mm139) 0 = some (.iconst 0, 1) := by decide +kernel
theorem pm_a139_1 : pm_as (pm_cd pm_mm139) 1 = some (.istore_n 3, 1) := by decide +kernel
theorem pm_a139_2 : pm_as (pm_cd pm_mm139) 2 = some (.iload_n 3, 1) := by decide +kernel
theorem pm_a139_3 : pm_as (pm_cd pm_mm139) 3 = some (.aload_n 0, 1) := by decide +kernel
theorem pm_a139_4 : pm_as (pm_cd pm_mm139) 4 = some (.getfield 21, 3) := by decide +kernel
theorem pm_a139_7 : pm_as (pm_cd pm_mm139) 7 = some (.if_icmp .ge 29, 3) := by decide +kernel
theorem pm_a139_10 : pm_as (pm_cd pm_mm139) 10 = some (.aload_n 0, 1) := by decide +kernel
theorem pm_a139_11 : pm_as (pm_cd pm_mm139) 11 = some (.iload_n 3, 1) := by decide +kernel
theorem pm_a139_12 : pm_as (pm_cd pm_mm139) 12 = some (.invokevirtual 39, 3) := by decide +kernel
theorem pm_a139_15 : pm_as (pm_cd pm_mm139) 15 = some (.iload_n 1, 1) := by decide +kernel
theorem pm_a139_16 : pm_as (pm_cd pm_mm139) 16 = some (.if_icmp .lt 14, 3) := by decide +kernel
theorem pm_a139_19 : pm_as (pm_cd pm_mm139) 19 = some (.aload_n 0, 1) := by decide +kernel
theorem pm_a139_20 : pm_as (pm_cd pm_mm139) 20 = some (.iload_n 3, 1) := by decide +kernel
theorem pm_a139_21 : pm_as (pm_cd pm_mm139) 21 = some (.invokevirtual 39, 3) := by decide +kernel
theorem pm_a139_24 : pm_as (pm_cd pm_mm139) 24 = some (.iload_n 2, 1) := by decide +kernel
theorem pm_a139_25 : pm_as (pm_cd pm_mm139) 25 = some (.if_icmp .gt 5, 3) := by decide +kernel
theorem pm_a139_28 : pm_as (pm_cd pm_mm139) 28 = some (.iconst 1, 1) := by decide +kernel
theorem pm_a139_29 : pm_as (pm_cd pm_mm139) 29 = some (.ireturn, 1) := by decide +kernel
theorem pm_a139_30 : pm_as (pm_cd pm_mm139) 30 = some (.iinc 3 1, 3) := by decide +kernel
theorem pm_a139_33 : pm_as (pm_cd pm_mm139) 33 = some (.goto (-31), 3) := by decide +kernel
theorem pm_a139_36 : pm_as (pm_cd pm_mm139) 36 = some (.iconst 0, 1) := by decide +kernel
theorem pm_a139_37 : pm_as (pm_cd pm_mm139) 37 = some (.ireturn, 1) := by decide +kernel
theorem pm_a140_0 : pm_as (pm_cd pm_mm140) 0 = some (.aload_n 0, 1) := by decide +kernel
theorem pm_a140_1 : pm_as (pm_cd pm_mm140) 1 = some (.getfield 179, 3) := by decide +kernel
theorem pm_a140_4 : pm_as (pm_cd pm_mm140) 4 = some (.ifCond .ne 6, 3) := by decide +kernel
theorem pm_a140_7 : pm_as (pm_cd pm_mm140) 7 = some (.bipush (-4), 2) := by decide +kernel
theorem pm_a140_9 : pm_as (pm_cd pm_mm140) 9 = some (.ireturn, 1) := by decide +kernel
theorem pm_a140_10 : pm_as (pm_cd pm_mm140) 10 = some (.aload_n 0, 1) := by decide +kernel
theorem pm_a140_11 : pm_as (pm_cd pm_mm140) 11 = some (.dup, 1) := by decide +kernel
theorem pm_a140_12 : pm_as (pm_cd pm_mm140) 12 = some (.getfield 179, 3) := by decide +kernel
theorem pm_a140_15 : pm_as (pm_cd pm_mm140) 15 = some (.iconst 1, 1) := by decide +kernel
theorem pm_a140_16 : pm_as (pm_cd pm_mm140) 16 = some (.isub, 1) := by decide +kernel
theorem pm_a140_17 : pm_as (pm_cd pm_mm140) 17 = some (.putfield 179, 3) := by decide +kernel
theorem pm_a140_20 : pm_as (pm_cd pm_mm140) 20 = some (.aload_n 0, 1) := by decide +kernel
theorem pm_a140_21 : pm_as (pm_cd pm_mm140) 21 = some (.getfield 179, 3) := by decide +kernel
theorem pm_a140_24 : pm_as (pm_cd pm_mm140) 24 = some (.ireturn, 1) := by decide +kernel
theorem pm_a141_0 : pm_as (pm_cd pm_mm141) 0 = some (.iload_n 1, 1) := by decide +kernel
theorem pm_a141_1 : pm_as (pm_cd pm_mm141) 1 = some (.tableswitch 45 0 2 #[27, 32, 40], 27) := by decide +kernel
theorem pm_a141_28 : pm_as (pm_cd pm_mm141) 28 = some (.aload_n 0, 1) := by decide +kernel
theorem pm_a141_29 : pm_as (pm_cd pm_mm141) 29 = some (.getfield 179, 3) := by decide +kernel
theorem pm_a141_32 : pm_as (pm_cd pm_mm141) 32 = some (.ireturn, 1) := by decide +kernel
theorem pm_a141_33 : pm_as (pm_cd pm_mm141) 33 = some (.aload_n 0, 1) := by decide +kernel
theorem pm_a141_34 : pm_as (pm_cd pm_mm141) 34 = some (.getfield 10, 3) := by decide +kernel
theorem pm_a141_37 : pm_as (pm_cd pm_mm141) 37 = some (.getfield 61, 3) := by decide +kernel
theorem pm_a141_40 : pm_as (pm_cd pm_mm141) 40 = some (.ireturn, 1) := by decide +kernel
theorem pm_a141_41 : pm_as (pm_cd pm_mm141) 41 = some (.aload_n 0, 1) := by decide +kernel
theorem pm_a141_42 : pm_as (pm_cd pm_mm141) 42 = some (.invokevirtual 182, 3) := by decide +kernel
theorem pm_a141_45 : pm_as (pm_cd pm_mm141) 45 = some (.ireturn, 1) := by decide +kernel
theorem pm_a141_46 : pm_as (pm_cd pm_mm141) 46 = some (.iconst (-1), 1) := by decide +kernel
theorem pm_a141_47 : pm_as (pm_cd pm_mm141) 47 = some (.ireturn, 1) := by decide +kernel
theorem pm_a142_0 : pm_as (pm_cd pm_mm142) 0 = some (.iconst 0, 1) := by decide +kernel
theorem pm_a142_1 : pm_as (pm_cd pm_mm142) 1 = some (.istore_n 1, 1) := by decide +kernel
theorem pm_a142_2 : pm_as (pm_cd pm_mm142) 2 = some (.iconst 0, 1) := by decide +kernel
theorem pm_a142_3 : pm_as (pm_cd pm_mm142) 3 = some (.istore_n 2, 1) := by decide +kernel
theorem pm_a142_4 : pm_as (pm_cd pm_mm142) 4 = some (.iload_n 2, 1) := by decide +kernel
theorem pm_a142_5 : pm_as (pm_cd pm_mm142) 5 = some (.aload_n 0, 1) := by decide +kernel
theorem pm_a142_6 : pm_as (pm_cd pm_mm142) 6 = some (.getfield 179, 3) := by decide +kernel
theorem pm_a142_9 : pm_as (pm_cd pm_mm142) 9 = some (.if_icmp .ge 30, 3) := by decide +kernel
theorem pm_a142_12 : pm_as (pm_cd pm_mm142) 12 = some (.aload_n 0, 1) := by decide +kernel
theorem pm_a142_13 : pm_as (pm_cd pm_mm142) 13 = some (.iload_n 2, 1) := by decide +kernel
theorem pm_a142_14 : pm_as (pm_cd pm_mm142) 14 = some (.invokevirtual 86, 3) := by decide +kernel
theorem pm_a142_17 : pm_as (pm_cd pm_mm142) 17 = some (.astore_n 3, 1) := by decide +kernel
theorem pm_a142_18 : pm_as (pm_cd pm_mm142) 18 = some (.iload_n 1, 1) := by decide +kernel
theorem pm_a142_19 : pm_as (pm_cd pm_mm142) 19 = some (.aload_n 3, 1) := by decide +kernel
theorem pm_a142_20 : pm_as (pm_cd pm_mm142) 20 = some (.ifnonnull 7, 3) := by decide +kernel
theorem pm_a142_23 : pm_as (pm_cd pm_mm142) 23 = some (.iconst 0, 1) := by decide +kernel
theorem pm_a142_24 : pm_as (pm_cd pm_mm142) 24 = some (.goto 7, 3) := by decide +kernel
theorem pm_a142_27 : pm_as (pm_cd pm_mm142) 27 = some (.aload_n 3, 1) := by decide +kernel
theorem pm_a142_28 : pm_as (pm_cd pm_mm142) 28 = some (.getfield 90, 3) := by decide +kernel
theorem pm_a142_31 : pm_as (pm_cd pm_mm142) 31 = some (.iadd, 1) := by decide +kernel
theorem pm_a142_32 : pm_as (pm_cd pm_mm142) 32 = some (.istore_n 1, 1) := by decide +kernel
theorem pm_a142_33 : pm_as (pm_cd pm_mm142) 33 = some (.iinc 2 1, 3) := by decide +kernel
theorem pm_a142_36 : pm_as (pm_cd pm_mm142) 36 = some (.goto (-32), 3) := by decide +kernel
theorem pm_a142_39 : pm_as (pm_cd pm_mm142) 39 = some (.iload_n 1, 1) := by decide +kernel
theorem pm_a142_40 : pm_as (pm_cd pm_mm142) 40 = some (.ireturn, 1) := by decide +kernel
