/-! every instruction of the class, by its place -/
theorem pm_a1_0 : pm_as (pm_cd pm_mm1) 0 = some (.aload_n 0, 1) := by decide +kernel
theorem pm_a1_1 : pm_as (pm_cd pm_mm1) 1 = some (.invokespecial 1, 3) := by decide +kernel
theorem pm_a1_4 : pm_as (pm_cd pm_mm1) 4 = some (.aload_n 0, 1) := by decide +kernel
theorem pm_a1_5 : pm_as (pm_cd pm_mm1) 5 = some (.new 7, 3) := by decide +kernel
theorem pm_a1_8 : pm_as (pm_cd pm_mm1) 8 = some (.dup, 1) := by decide +kernel
theorem pm_a1_9 : pm_as (pm_cd pm_mm1) 9 = some (.invokespecial 9, 3) := by decide +kernel
theorem pm_a1_12 : pm_as (pm_cd pm_mm1) 12 = some (.putfield 10, 3) := by decide +kernel
theorem pm_a1_15 : pm_as (pm_cd pm_mm1) 15 = some (.aload_n 0, 1) := by decide +kernel
theorem pm_a1_16 : pm_as (pm_cd pm_mm1) 16 = some (.bipush 32, 2) := by decide +kernel
theorem pm_a1_18 : pm_as (pm_cd pm_mm1) 18 = some (.anewarray 16, 3) := by decide +kernel
theorem pm_a1_21 : pm_as (pm_cd pm_mm1) 21 = some (.putfield 18, 3) := by decide +kernel
theorem pm_a1_24 : pm_as (pm_cd pm_mm1) 24 = some (.aload_n 0, 1) := by decide +kernel
theorem pm_a1_25 : pm_as (pm_cd pm_mm1) 25 = some (.new 16, 3) := by decide +kernel
theorem pm_a1_28 : pm_as (pm_cd pm_mm1) 28 = some (.dup, 1) := by decide +kernel
theorem pm_a1_29 : pm_as (pm_cd pm_mm1) 29 = some (.sipush 500, 3) := by decide +kernel
theorem pm_a1_32 : pm_as (pm_cd pm_mm1) 32 = some (.invokespecial 22, 3) := by decide +kernel
theorem pm_a1_35 : pm_as (pm_cd pm_mm1) 35 = some (.putfield 25, 3) := by decide +kernel
theorem pm_a1_38 : pm_as (pm_cd pm_mm1) 38 = some (.aload_n 0, 1) := by decide +kernel
theorem pm_a1_39 : pm_as (pm_cd pm_mm1) 39 = some (.new 29, 3) := by decide +kernel
theorem pm_a1_42 : pm_as (pm_cd pm_mm1) 42 = some (.dup, 1) := by decide +kernel
theorem pm_a1_43 : pm_as (pm_cd pm_mm1) 43 = some (.invokespecial 31, 3) := by decide +kernel
theorem pm_a1_46 : pm_as (pm_cd pm_mm1) 46 = some (.putfield 32, 3) := by decide +kernel
theorem pm_a1_49 : pm_as (pm_cd pm_mm1) 49 = some (.aload_n 0, 1) := by decide +kernel
theorem pm_a1_50 : pm_as (pm_cd pm_mm1) 50 = some (.new 36, 3) := by decide +kernel
theorem pm_a1_53 : pm_as (pm_cd pm_mm1) 53 = some (.dup, 1) := by decide +kernel
theorem pm_a1_54 : pm_as (pm_cd pm_mm1) 54 = some (.aload_n 0, 1) := by decide +kernel
theorem pm_a1_55 : pm_as (pm_cd pm_mm1) 55 = some (.getfield 10, 3) := by decide +kernel
theorem pm_a1_58 : pm_as (pm_cd pm_mm1) 58 = some (.invokespecial 38, 3) := by decide +kernel
theorem pm_a1_61 : pm_as (pm_cd pm_mm1) 61 = some (.putfield 41, 3) := by decide +kernel
theorem pm_a1_64 : pm_as (pm_cd pm_mm1) 64 = some (.aload_n 0, 1) := by decide +kernel
theorem pm_a1_65 : pm_as (pm_cd pm_mm1) 65 = some (.new 45, 3) := by decide +kernel
theorem pm_a1_68 : pm_as (pm_cd pm_mm1) 68 = some (.dup, 1) := by decide +kernel
theorem pm_a1_69 : pm_as (pm_cd pm_mm1) 69 = some (.invokespecial 47, 3) := by decide +kernel
theorem pm_a1_72 : pm_as (pm_cd pm_mm1) 72 = some (.putfield 48, 3) := by decide +kernel
theorem pm_a1_75 : pm_as (pm_cd pm_mm1) 75 = some (.aload_n 0, 1) := by decide +kernel
theorem pm_a1_76 : pm_as (pm_cd pm_mm1) 76 = some (.new 52, 3) := by decide +kernel
theorem pm_a1_79 : pm_as (pm_cd pm_mm1) 79 = some (.dup, 1) := by decide +kernel
theorem pm_a1_80 : pm_as (pm_cd pm_mm1) 80 = some (.aload_n 0, 1) := by decide +kernel
theorem pm_a1_81 : pm_as (pm_cd pm_mm1) 81 = some (.getfield 32, 3) := by decide +kernel
theorem pm_a1_84 : pm_as (pm_cd pm_mm1) 84 = some (.invokespecial 54, 3) := by decide +kernel
theorem pm_a1_87 : pm_as (pm_cd pm_mm1) 87 = some (.putfield 57, 3) := by decide +kernel
theorem pm_a1_90 : pm_as (pm_cd pm_mm1) 90 = some (.return_, 1) := by decide +kernel
theorem pm_a2_0 : pm_as (pm_cd pm_mm2) 0 = some (.aload_n 0, 1) := by decide +kernel
theorem pm_a2_1 : pm_as (pm_cd pm_mm2) 1 = some (.invokespecial 3, 3) := by decide +kernel
theorem pm_a2_4 : pm_as (pm_cd pm_mm2) 4 = some (.aload_n 0, 1) := by decide +kernel
theorem pm_a2_5 : pm_as (pm_cd pm_mm2) 5 = some (.sipush 600, 3) := by decide +kernel
theorem pm_a2_8 : pm_as (pm_cd pm_mm2) 8 = some (.newarray .int, 2) := by decide +kernel
theorem pm_a2_10 : pm_as (pm_cd pm_mm2) 10 = some (.putfield 9, 3) := by decide +kernel
theorem pm_a2_13 : pm_as (pm_cd pm_mm2) 13 = some (.return_, 1) := by decide +kernel
theorem pm_a3_0 : pm_as (pm_cd pm_mm3) 0 = some (.aload_n 0, 1) := by decide +kernel
theorem pm_a3_1 : pm_as (pm_cd pm_mm3) 1 = some (.invokespecial 3, 3) := by decide +kernel
theorem pm_a3_4 : pm_as (pm_cd pm_mm3) 4 = some (.aload_n 0, 1) := by decide +kernel
theorem pm_a3_5 : pm_as (pm_cd pm_mm3) 5 = some (.iload_n 1, 1) := by decide +kernel
theorem pm_a3_6 : pm_as (pm_cd pm_mm3) 6 = some (.iconst 0, 1) := by decide +kernel
theorem pm_a3_7 : pm_as (pm_cd pm_mm3) 7 = some (.invokestatic 9, 3) := by decide +kernel
theorem pm_a3_10 : pm_as (pm_cd pm_mm3) 10 = some (.newarray .int, 2) := by decide +kernel
theorem pm_a3_12 : pm_as (pm_cd pm_mm3) 12 = some (.putfield 15, 3) := by decide +kernel
theorem pm_a3_15 : pm_as (pm_cd pm_mm3) 15 = some (.return_, 1) := by decide +kernel
theorem pm_a4_0 : pm_as (pm_cd pm_mm4) 0 = some (.aload_n 0, 1) := by decide +kernel
theorem pm_a4_1 : pm_as (pm_cd pm_mm4) 1 = some (.invokespecial 3, 3) := by decide +kernel
theorem pm_a4_4 : pm_as (pm_cd pm_mm4) 4 = some (.aload_n 0, 1) := by decide +kernel
theorem pm_a4_5 : pm_as (pm_cd pm_mm4) 5 = some (.sipush 502, 3) := by decide +kernel
theorem pm_a4_8 : pm_as (pm_cd pm_mm4) 8 = some (.newarray .int, 2) := by decide +kernel
theorem pm_a4_10 : pm_as (pm_cd pm_mm4) 10 = some (.putfield 11, 3) := by decide +kernel
theorem pm_a4_13 : pm_as (pm_cd pm_mm4) 13 = some (.aload_n 0, 1) := by decide +kernel
theorem pm_a4_14 : pm_as (pm_cd pm_mm4) 14 = some (.sipush 502, 3) := by decide +kernel
theorem pm_a4_17 : pm_as (pm_cd pm_mm4) 17 = some (.newarray .int, 2) := by decide +kernel
theorem pm_a4_19 : pm_as (pm_cd pm_mm4) 19 = some (.putfield 17, 3) := by decide +kernel
theorem pm_a4_22 : pm_as (pm_cd pm_mm4) 22 = some (.return_, 1) := by decide +kernel
theorem pm_a5_0 : pm_as (pm_cd pm_mm5) 0 = some (.aload_n 0, 1) := by decide +kernel
theorem pm_a5_1 : pm_as (pm_cd pm_mm5) 1 = some (.invokespecial 3, 3) := by decide +kernel
theorem pm_a5_4 : pm_as (pm_cd pm_mm5) 4 = some (.aload_n 0, 1) := by decide +kernel
theorem pm_a5_5 : pm_as (pm_cd pm_mm5) 5 = some (.sipush 601, 3) := by decide +kernel
theorem pm_a5_8 : pm_as (pm_cd pm_mm5) 8 = some (.newarray .int, 2) := by decide +kernel
theorem pm_a5_10 : pm_as (pm_cd pm_mm5) 10 = some (.putfield 9, 3) := by decide +kernel
theorem pm_a5_13 : pm_as (pm_cd pm_mm5) 13 = some (.aload_n 0, 1) := by decide +kernel
theorem pm_a5_14 : pm_as (pm_cd pm_mm5) 14 = some (.bipush 40, 2) := by decide +kernel
theorem pm_a5_16 : pm_as (pm_cd pm_mm5) 16 = some (.newarray .int, 2) := by decide +kernel
theorem pm_a5_18 : pm_as (pm_cd pm_mm5) 18 = some (.putfield 15, 3) := by decide +kernel
theorem pm_a5_21 : pm_as (pm_cd pm_mm5) 21 = some (.aload_n 0, 1) := by decide +kernel
theorem pm_a5_22 : pm_as (pm_cd pm_mm5) 22 = some (.bipush 40, 2) := by decide +kernel
theorem pm_a5_24 : pm_as (pm_cd pm_mm5) 24 = some (.newarray .int, 2) := by decide +kernel
theorem pm_a5_26 : pm_as (pm_cd pm_mm5) 26 = some (.putfield 18, 3) := by decide +kernel
theorem pm_a5_29 : pm_as (pm_cd pm_mm5) 29 = some (.aload_n 0, 1) := by decide +kernel
theorem pm_a5_30 : pm_as (pm_cd pm_mm5) 30 = some (.aload_n 1, 1) := by decide +kernel
theorem pm_a5_31 : pm_as (pm_cd pm_mm5) 31 = some (.putfield 21, 3) := by decide +kernel
theorem pm_a5_34 : pm_as (pm_cd pm_mm5) 34 = some (.return_, 1) := by decide +kernel
theorem pm_a6_0 : pm_as (pm_cd pm_mm6) 0 = some (.aload_n 0, 1) := by decide +kernel
theorem pm_a6_1 : pm_as (pm_cd pm_mm6) 1 = some (.invokespecial 3, 3) := by decide +kernel
theorem pm_a6_4 : pm_as (pm_cd pm_mm6) 4 = some (.aload_n 0, 1) := by decide +kernel
theorem pm_a6_5 : pm_as (pm_cd pm_mm6) 5 = some (.sipush 500, 3) := by decide +kernel
theorem pm_a6_8 : pm_as (pm_cd pm_mm6) 8 = some (.newarray .int, 2) := by decide +kernel
theorem pm_a6_10 : pm_as (pm_cd pm_mm6) 10 = some (.putfield 9, 3) := by decide +kernel
theorem pm_a6_13 : pm_as (pm_cd pm_mm6) 13 = some (.return_, 1) := by decide +kernel
theorem pm_a7_0 : pm_as (pm_cd pm_mm7) 0 = some (.aload_n 0, 1) := by decide +kernel
theorem pm_a7_1 : pm_as (pm_cd pm_mm7) 1 = some (.invokespecial 3, 3) := by decide +kernel
theorem pm_a7_4 : pm_as (pm_cd pm_mm7) 4 = some (.aload_n 0, 1) := by decide +kernel
theorem pm_a7_5 : pm_as (pm_cd pm_mm7) 5 = some (.new 9, 3) := by decide +kernel
theorem pm_a7_8 : pm_as (pm_cd pm_mm7) 8 = some (.dup, 1) := by decide +kernel
theorem pm_a7_9 : pm_as (pm_cd pm_mm7) 9 = some (.sipush 500, 3) := by decide +kernel
theorem pm_a7_12 : pm_as (pm_cd pm_mm7) 12 = some (.invokespecial 11, 3) := by decide +kernel
theorem pm_a7_15 : pm_as (pm_cd pm_mm7) 15 = some (.putfield 14, 3) := by decide +kernel
theorem pm_a7_18 : pm_as (pm_cd pm_mm7) 18 = some (.aload_n 0, 1) := by decide +kernel
theorem pm_a7_19 : pm_as (pm_cd pm_mm7) 19 = some (.aload_n 1, 1) := by decide +kernel
theorem pm_a7_20 : pm_as (pm_cd pm_mm7) 20 = some (.putfield 20, 3) := by decide +kernel
theorem pm_a7_23 : pm_as (pm_cd pm_mm7) 23 = some (.return_, 1) := by decide +kernel
theorem pm_a8_0 : pm_as (pm_cd pm_mm8) 0 = some (.aload_n 0, 1) := by decide +kernel
theorem pm_a8_1 : pm_as (pm_cd pm_mm8) 1 = some (.getfield 10, 3) := by decide +kernel
theorem pm_a8_4 : pm_as (pm_cd pm_mm8) 4 = some (.getfield 61, 3) := by decide +kernel
theorem pm_a8_7 : pm_as (pm_cd pm_mm8) 7 = some (.bipush 20, 2) := by decide +kernel
theorem pm_a8_9 : pm_as (pm_cd pm_mm8) 9 = some (.iadd, 1) := by decide +kernel
theorem pm_a8_10 : pm_as (pm_cd pm_mm8) 10 = some (.sipush 600, 3) := by decide +kernel
theorem pm_a8_13 : pm_as (pm_cd pm_mm8) 13 = some (.if_icmp .le 6, 3) := by decide +kernel
theorem pm_a8_16 : pm_as (pm_cd pm_mm8) 16 = some (.bipush (-3), 2) := by decide +kernel
theorem pm_a8_18 : pm_as (pm_cd pm_mm8) 18 = some (.ireturn, 1) := by decide +kernel
theorem pm_a8_19 : pm_as (pm_cd pm_mm8) 19 = some (.aload_n 0, 1) := by decide +kernel
theorem pm_a8_20 : pm_as (pm_cd pm_mm8) 20 = some (.getfield 10, 3) := by decide +kernel
theorem pm_a8_23 : pm_as (pm_cd pm_mm8) 23 = some (.iload_n 1, 1) := by decide +kernel
theorem pm_a8_24 : pm_as (pm_cd pm_mm8) 24 = some (.invokevirtual 65, 3) := by decide +kernel
theorem pm_a8_27 : pm_as (pm_cd pm_mm8) 27 = some (.aload_n 0, 1) := by decide +kernel
theorem pm_a8_28 : pm_as (pm_cd pm_mm8) 28 = some (.getfield 10, 3) := by decide +kernel
theorem pm_a8_31 : pm_as (pm_cd pm_mm8) 31 = some (.iload_n 2, 1) := by decide +kernel
theorem pm_a8_32 : pm_as (pm_cd pm_mm8) 32 = some (.invokevirtual 65, 3) := by decide +kernel
theorem pm_a8_35 : pm_as (pm_cd pm_mm8) 35 = some (.aload_n 0, 1) := by decide +kernel
theorem pm_a8_36 : pm_as (pm_cd pm_mm8) 36 = some (.getfield 10, 3) := by decide +kernel
theorem pm_a8_39 : pm_as (pm_cd pm_mm8) 39 = some (.iload_n 3, 1) := by decide +kernel
theorem pm_a8_40 : pm_as (pm_cd pm_mm8) 40 = some (.invokevirtual 65, 3) := by decide +kernel
theorem pm_a8_43 : pm_as (pm_cd pm_mm8) 43 = some (.aload_n 0, 1) := by decide +kernel
theorem pm_a8_44 : pm_as (pm_cd pm_mm8) 44 = some (.getfield 10, 3) := by decide +kernel
theorem pm_a8_47 : pm_as (pm_cd pm_mm8) 47 = some (.iload 4, 2) := by decide +kernel
theorem pm_a8_49 : pm_as (pm_cd pm_mm8) 49 = some (.invokevirtual 65, 3) := by decide +kernel
theorem pm_a8_52 : pm_as (pm_cd pm_mm8) 52 = some (.aload_n 0, 1) := by decide +kernel
theorem pm_a8_53 : pm_as (pm_cd pm_mm8) 53 = some (.getfield 10, 3) := by decide +kernel
theorem pm_a8_56 : pm_as (pm_cd pm_mm8) 56 = some (.iload 5, 2) := by decide +kernel
theorem pm_a8_58 : pm_as (pm_cd pm_mm8) 58 = some (.invokevirtual 65, 3) := by decide +kernel
theorem pm_a8_61 : pm_as (pm_cd pm_mm8) 61 = some (.aload_n 0, 1) := by decide +kernel
theorem pm_a8_62 : pm_as (pm_cd pm_mm8) 62 = some (.getfield 10, 3) := by decide +kernel
theorem pm_a8_65 : pm_as (pm_cd pm_mm8) 65 = some (.getfield 61, 3) := by decide +kernel
theorem pm_a8_68 : pm_as (pm_cd pm_mm8) 68 = some (.ireturn, 1) := by decide +kernel
theorem pm_a9_0 : pm_as (pm_cd pm_mm9) 0 = some (.bipush 24, 2) := by decide +kernel
theorem pm_a9_2 : pm_as (pm_cd pm_mm9) 2 = some (.istore_n 2, 1) := by decide +kernel
theorem pm_a9_3 : pm_as (pm_cd pm_mm9) 3 = some (.iload_n 2, 1) := by decide +kernel
theorem pm_a9_4 : pm_as (pm_cd pm_mm9) 4 = some (.ifCond .lt 47, 3) := by decide +kernel
theorem pm_a9_7 : pm_as (pm_cd pm_mm9) 7 = some (.aload_n 0, 1) := by decide +kernel
theorem pm_a9_8 : pm_as (pm_cd pm_mm9) 8 = some (.getfield 15, 3) := by decide +kernel
theorem pm_a9_11 : pm_as (pm_cd pm_mm9) 11 = some (.aload_n 0, 1) := by decide +kernel
theorem pm_a9_12 : pm_as (pm_cd pm_mm9) 12 = some (.getfield 9, 3) := by decide +kernel
theorem pm_a9_15 : pm_as (pm_cd pm_mm9) 15 = some (.arraylength, 1) := by decide +kernel
theorem pm_a9_16 : pm_as (pm_cd pm_mm9) 16 = some (.if_icmp .ge 29, 3) := by decide +kernel
theorem pm_a9_19 : pm_as (pm_cd pm_mm9) 19 = some (.aload_n 0, 1) := by decide +kernel
theorem pm_a9_20 : pm_as (pm_cd pm_mm9) 20 = some (.getfield 9, 3) := by decide +kernel
theorem pm_a9_23 : pm_as (pm_cd pm_mm9) 23 = some (.aload_n 0, 1) := by decide +kernel
theorem pm_a9_24 : pm_as (pm_cd pm_mm9) 24 = some (.getfield 15, 3) := by decide +kernel
theorem pm_a9_27 : pm_as (pm_cd pm_mm9) 27 = some (.iload_n 1, 1) := by decide +kernel
theorem pm_a9_28 : pm_as (pm_cd pm_mm9) 28 = some (.iload_n 2, 1) := by decide +kernel
theorem pm_a9_29 : pm_as (pm_cd pm_mm9) 29 = some (.iushr, 1) := by decide +kernel
theorem pm_a9_30 : pm_as (pm_cd pm_mm9) 30 = some (.sipush 255, 3) := by decide +kernel
theorem pm_a9_33 : pm_as (pm_cd pm_mm9) 33 = some (.iand, 1) := by decide +kernel
theorem pm_a9_34 : pm_as (pm_cd pm_mm9) 34 = some (.iastore, 1) := by decide +kernel
theorem pm_a9_35 : pm_as (pm_cd pm_mm9) 35 = some (.aload_n 0, 1) := by decide +kernel
theorem pm_a9_36 : pm_as (pm_cd pm_mm9) 36 = some (.dup, 1) := by decide +kernel
theorem pm_a9_37 : pm_as (pm_cd pm_mm9) 37 = some (.getfield 15, 3) := by decide +kernel
theorem pm_a9_40 : pm_as (pm_cd pm_mm9) 40 = some (.iconst 1, 1) := by decide +kernel
theorem pm_a9_41 : pm_as (pm_cd pm_mm9) 41 = some (.iadd, 1) := by decide +kernel
theorem pm_a9_42 : pm_as (pm_cd pm_mm9) 42 = some (.putfield 15, 3) := by decide +kernel
theorem pm_a9_45 : pm_as (pm_cd pm_mm9) 45 = some (.iinc 2 (-8), 3) := by decide +kernel
theorem pm_a9_48 : pm_as (pm_cd pm_mm9) 48 = some (.goto (-45), 3) := by decide +kernel
theorem pm_a9_51 : pm_as (pm_cd pm_mm9) 51 = some (.return_, 1) := by decide +kernel
theorem pm_a10_0 : pm_as (pm_cd pm_mm10) 0 = some (.iload_n 1, 1) := by decide +kernel
theorem pm_a10_1 : pm_as (pm_cd pm_mm10) 1 = some (.ifCond .lt 14, 3) := by decide +kernel
theorem pm_a10_4 : pm_as (pm_cd pm_mm10) 4 = some (.iload_n 1, 1) := by decide +kernel
theorem pm_a10_5 : pm_as (pm_cd pm_mm10) 5 = some (.aload_n 0, 1) := by decide +kernel
theorem pm_a10_6 : pm_as (pm_cd pm_mm10) 6 = some (.getfield 10, 3) := by decide +kernel
theorem pm_a10_9 : pm_as (pm_cd pm_mm10) 9 = some (.getfield 61, 3) := by decide +kernel
theorem pm_a10_12 : pm_as (pm_cd pm_mm10) 12 = some (.if_icmp .le 5, 3) := by decide +kernel
theorem pm_a10_15 : pm_as (pm_cd pm_mm10) 15 = some (.iconst (-1), 1) := by decide +kernel
theorem pm_a10_16 : pm_as (pm_cd pm_mm10) 16 = some (.ireturn, 1) := by decide +kernel
theorem pm_a10_17 : pm_as (pm_cd pm_mm10) 17 = some (.aload_n 0, 1) := by decide +kernel
theorem pm_a10_18 : pm_as (pm_cd pm_mm10) 18 = some (.getfield 10, 3) := by decide +kernel
theorem pm_a10_21 : pm_as (pm_cd pm_mm10) 21 = some (.getfield 61, 3) := by decide +kernel
theorem pm_a10_24 : pm_as (pm_cd pm_mm10) 24 = some (.istore_n 2, 1) := by decide +kernel
theorem pm_a10_25 : pm_as (pm_cd pm_mm10) 25 = some (.aload_n 0, 1) := by decide +kernel
theorem pm_a10_26 : pm_as (pm_cd pm_mm10) 26 = some (.getfield 10, 3) := by decide +kernel
theorem pm_a10_29 : pm_as (pm_cd pm_mm10) 29 = some (.iload_n 1, 1) := by decide +kernel
theorem pm_a10_30 : pm_as (pm_cd pm_mm10) 30 = some (.putfield 61, 3) := by decide +kernel
theorem pm_a10_33 : pm_as (pm_cd pm_mm10) 33 = some (.iload_n 2, 1) := by decide +kernel
theorem pm_a10_34 : pm_as (pm_cd pm_mm10) 34 = some (.ireturn, 1) := by decide +kernel
theorem pm_a11_0 : pm_as (pm_cd pm_mm11) 0 = some (.aload_n 0, 1) := by decide +kernel
theorem pm_a11_1 : pm_as (pm_cd pm_mm11) 1 = some (.invokevirtual 68, 3) := by decide +kernel
theorem pm_a11_4 : pm_as (pm_cd pm_mm11) 4 = some (.astore_n 1, 1) := by decide +kernel
theorem pm_a11_5 : pm_as (pm_cd pm_mm11) 5 = some (.aload_n 1, 1) := by decide +kernel
theorem pm_a11_6 : pm_as (pm_cd pm_mm11) 6 = some (.ifnonnull 6, 3) := by decide +kernel
theorem pm_a11_9 : pm_as (pm_cd pm_mm11) 9 = some (.bipush (-3), 2) := by decide +kernel
theorem pm_a11_11 : pm_as (pm_cd pm_mm11) 11 = some (.ireturn, 1) := by decide +kernel
theorem pm_a11_12 : pm_as (pm_cd pm_mm11) 12 = some (.aload_n 0, 1) := by decide +kernel
theorem pm_a11_13 : pm_as (pm_cd pm_mm11) 13 = some (.aload_n 0, 1) := by decide +kernel
theorem pm_a11_14 : pm_as (pm_cd pm_mm11) 14 = some (.getfield 41, 3) := by decide +kernel
theorem pm_a11_17 : pm_as (pm_cd pm_mm11) 17 = some (.aload_n 1, 1) := by decide +kernel
theorem pm_a11_18 : pm_as (pm_cd pm_mm11) 18 = some (.invokevirtual 72, 3) := by decide +kernel
theorem pm_a11_21 : pm_as (pm_cd pm_mm11) 21 = some (.putfield 76, 3) := by decide +kernel
theorem pm_a11_24 : pm_as (pm_cd pm_mm11) 24 = some (.aload_n 0, 1) := by decide +kernel
theorem pm_a11_25 : pm_as (pm_cd pm_mm11) 25 = some (.getfield 10, 3) := by decide +kernel
theorem pm_a11_28 : pm_as (pm_cd pm_mm11) 28 = some (.iconst 0, 1) := by decide +kernel
theorem pm_a11_29 : pm_as (pm_cd pm_mm11) 29 = some (.putfield 61, 3) := by decide +kernel
theorem pm_a11_32 : pm_as (pm_cd pm_mm11) 32 = some (.aload_n 0, 1) := by decide +kernel
theorem pm_a11_33 : pm_as (pm_cd pm_mm11) 33 = some (.getfield 76, 3) := by decide +kernel
theorem pm_a11_36 : pm_as (pm_cd pm_mm11) 36 = some (.ifCond .ne 10, 3) := by decide +kernel
theorem pm_a11_39 : pm_as (pm_cd pm_mm11) 39 = some (.aload_n 0, 1) := by decide +kernel
theorem pm_a11_40 : pm_as (pm_cd pm_mm11) 40 = some (.invokevirtual 79, 3) := by decide +kernel
theorem pm_a11_43 : pm_as (pm_cd pm_mm11) 43 = some (.goto 13, 3) := by decide +kernel
theorem pm_a11_46 : pm_as (pm_cd pm_mm11) 46 = some (.bipush (-10), 2) := by decide +kernel
theorem pm_a11_48 : pm_as (pm_cd pm_mm11) 48 = some (.aload_n 0, 1) := by decide +kernel
theorem pm_a11_49 : pm_as (pm_cd pm_mm11) 49 = some (.getfield 41, 3) := by decide +kernel
theorem pm_a11_52 : pm_as (pm_cd pm_mm11) 52 = some (.getfield 83, 3) := by decide +kernel
theorem pm_a11_55 : pm_as (pm_cd pm_mm11) 55 = some (.isub, 1) := by decide +kernel
theorem pm_a11_56 : pm_as (pm_cd pm_mm11) 56 = some (.ireturn, 1) := by decide +kernel
theorem pm_a12_0 : pm_as (pm_cd pm_mm12) 0 = some (.aload_n 0, 1) := by decide +kernel
theorem pm_a12_1 : pm_as (pm_cd pm_mm12) 1 = some (.getfield 179, 3) := by decide +kernel
theorem pm_a12_4 : pm_as (pm_cd pm_mm12) 4 = some (.ifCond .lt 15, 3) := by decide +kernel
theorem pm_a12_7 : pm_as (pm_cd pm_mm12) 7 = some (.aload_n 0, 1) := by decide +kernel
theorem pm_a12_8 : pm_as (pm_cd pm_mm12) 8 = some (.getfield 179, 3) := by decide +kernel
theorem pm_a12_11 : pm_as (pm_cd pm_mm12) 11 = some (.aload_n 0, 1) := by decide +kernel
theorem pm_a12_12 : pm_as (pm_cd pm_mm12) 12 = some (.getfield 18, 3) := by decide +kernel
theorem pm_a12_15 : pm_as (pm_cd pm_mm12) 15 = some (.arraylength, 1) := by decide +kernel
theorem pm_a12_16 : pm_as (pm_cd pm_mm12) 16 = some (.if_icmp .lt 5, 3) := by decide +kernel
theorem pm_a12_19 : pm_as (pm_cd pm_mm12) 19 = some (.aconst_null, 1) := by decide +kernel
theorem pm_a12_20 : pm_as (pm_cd pm_mm12) 20 = some (.areturn, 1) := by decide +kernel
theorem pm_a12_21 : pm_as (pm_cd pm_mm12) 21 = some (.aload_n 0, 1) := by decide +kernel
theorem pm_a12_22 : pm_as (pm_cd pm_mm12) 22 = some (.getfield 18, 3) := by decide +kernel
theorem pm_a12_25 : pm_as (pm_cd pm_mm12) 25 = some (.aload_n 0, 1) := by decide +kernel
theorem pm_a12_26 : pm_as (pm_cd pm_mm12) 26 = some (.getfield 179, 3) := by decide +kernel
theorem pm_a12_29 : pm_as (pm_cd pm_mm12) 29 = some (.aaload, 1) := by decide +kernel
theorem pm_a12_30 : pm_as (pm_cd pm_mm12) 30 = some (.astore_n 1, 1) := by decide +kernel
theorem pm_a12_31 : pm_as (pm_cd pm_mm12) 31 = some (.aload_n 1, 1) := by decide +kernel
theorem pm_a12_32 : pm_as (pm_cd pm_mm12) 32 = some (.ifnonnull 24, 3) := by decide +kernel
theorem pm_a12_35 : pm_as (pm_cd pm_mm12) 35 = some (.new 16, 3) := by decide +kernel
theorem pm_a12_38 : pm_as (pm_cd pm_mm12) 38 = some (.dup, 1) := by decide +kernel
theorem pm_a12_39 : pm_as (pm_cd pm_mm12) 39 = some (.sipush 500, 3) := by decide +kernel
theorem pm_a12_42 : pm_as (pm_cd pm_mm12) 42 = some (.invokespecial 22, 3) := by decide +kernel
theorem pm_a12_45 : pm_as (pm_cd pm_mm12) 45 = some (.astore_n 1, 1) := by decide +kernel
theorem pm_a12_46 : pm_as (pm_cd pm_mm12) 46 = some (.aload_n 0, 1) := by decide +kernel
theorem pm_a12_47 : pm_as (pm_cd pm_mm12) 47 = some (.getfield 18, 3) := by decide +kernel
theorem pm_a12_50 : pm_as (pm_cd pm_mm12) 50 = some (.aload_n 0, 1) := by decide +kernel
theorem pm_a12_51 : pm_as (pm_cd pm_mm12) 51 = some (.getfield 179, 3) := by decide +kernel
theorem pm_a12_54 : pm_as (pm_cd pm_mm12) 54 = some (.aload_n 1, 1) := by decide +kernel
theorem pm_a12_55 : pm_as (pm_cd pm_mm12) 55 = some (.aastore, 1) := by decide +kernel
theorem pm_a12_56 : pm_as (pm_cd pm_mm12) 56 = some (.aload_n 1, 1) := by decide +kernel
theorem pm_a12_57 : pm_as (pm_cd pm_mm12) 57 = some (.invokevirtual 185, 3) := by decide +kernel
theorem pm_a12_60 : pm_as (pm_cd pm_mm12) 60 = some (.aload_n 1, 1) := by decide +kernel
theorem pm_a12_61 : pm_as (pm_cd pm_mm12) 61 = some (.areturn, 1) := by decide +kernel
theorem pm_a13_0 : pm_as (pm_cd pm_mm13) 0 = some (.aload_n 0, 1) := by decide +kernel
theorem pm_a13_1 : pm_as (pm_cd pm_mm13) 1 = some (.iconst 0, 1) := by decide +kernel
theorem pm_a13_2 : pm_as (pm_cd pm_mm13) 2 = some (.putfield 21, 3) := by decide +kernel
theorem pm_a13_5 : pm_as (pm_cd pm_mm13) 5 = some (.aload_n 0, 1) := by decide +kernel
theorem pm_a13_6 : pm_as (pm_cd pm_mm13) 6 = some (.iconst 0, 1) := by decide +kernel
theorem pm_a13_7 : pm_as (pm_cd pm_mm13) 7 = some (.putfield 25, 3) := by decide +kernel
theorem pm_a13_10 : pm_as (pm_cd pm_mm13) 10 = some (.return_, 1) := by decide +kernel
theorem pm_a14_0 : pm_as (pm_cd pm_mm14) 0 = some (.aload_n 0, 1) := by decide +kernel
theorem pm_a14_1 : pm_as (pm_cd pm_mm14) 1 = some (.iconst 0, 1) := by decide +kernel
theorem pm_a14_2 : pm_as (pm_cd pm_mm14) 2 = some (.putfield 25, 3) := by decide +kernel
theorem pm_a14_5 : pm_as (pm_cd pm_mm14) 5 = some (.aload_n 0, 1) := by decide +kernel
theorem pm_a14_6 : pm_as (pm_cd pm_mm14) 6 = some (.iconst 0, 1) := by decide +kernel
theorem pm_a14_7 : pm_as (pm_cd pm_mm14) 7 = some (.putfield 29, 3) := by decide +kernel
theorem pm_a14_10 : pm_as (pm_cd pm_mm14) 10 = some (.aload_n 0, 1) := by decide +kernel
theorem pm_a14_11 : pm_as (pm_cd pm_mm14) 11 = some (.iconst 0, 1) := by decide +kernel
theorem pm_a14_12 : pm_as (pm_cd pm_mm14) 12 = some (.putfield 32, 3) := by decide +kernel
theorem pm_a14_15 : pm_as (pm_cd pm_mm14) 15 = some (.aload_n 0, 1) := by decide +kernel
theorem pm_a14_16 : pm_as (pm_cd pm_mm14) 16 = some (.iconst 0, 1) := by decide +kernel
theorem pm_a14_17 : pm_as (pm_cd pm_mm14) 17 = some (.putfield 35, 3) := by decide +kernel
theorem pm_a14_20 : pm_as (pm_cd pm_mm14) 20 = some (.aload_n 0, 1) := by decide +kernel
theorem pm_a14_21 : pm_as (pm_cd pm_mm14) 21 = some (.iconst 0, 1) := by decide +kernel
theorem pm_a14_22 : pm_as (pm_cd pm_mm14) 22 = some (.putfield 38, 3) := by decide +kernel
theorem pm_a14_25 : pm_as (pm_cd pm_mm14) 25 = some (.aload_n 0, 1) := by decide +kernel
theorem pm_a14_26 : pm_as (pm_cd pm_mm14) 26 = some (.iconst 0, 1) := by decide +kernel
theorem pm_a14_27 : pm_as (pm_cd pm_mm14) 27 = some (.putfield 41, 3) := by decide +kernel
theorem pm_a14_30 : pm_as (pm_cd pm_mm14) 30 = some (.aload_n 0, 1) := by decide +kernel
theorem pm_a14_31 : pm_as (pm_cd pm_mm14) 31 = some (.invokevirtual 44, 3) := by decide +kernel
theorem pm_a14_34 : pm_as (pm_cd pm_mm14) 34 = some (.aload_n 0, 1) := by decide +kernel
theorem pm_a14_35 : pm_as (pm_cd pm_mm14) 35 = some (.invokevirtual 47, 3) := by decide +kernel
theorem pm_a14_38 : pm_as (pm_cd pm_mm14) 38 = some (.aload_n 0, 1) := by decide +kernel
theorem pm_a14_39 : pm_as (pm_cd pm_mm14) 39 = some (.getfield 38, 3) := by decide +kernel
theorem pm_a14_42 : pm_as (pm_cd pm_mm14) 42 = some (.ifCond .ne 8, 3) := by decide +kernel
theorem pm_a14_45 : pm_as (pm_cd pm_mm14) 45 = some (.aload_n 0, 1) := by decide +kernel
theorem pm_a14_46 : pm_as (pm_cd pm_mm14) 46 = some (.aload_n 1, 1) := by decide +kernel
theorem pm_a14_47 : pm_as (pm_cd pm_mm14) 47 = some (.invokevirtual 50, 3) := by decide +kernel
theorem pm_a14_50 : pm_as (pm_cd pm_mm14) 50 = some (.aload_n 0, 1) := by decide +kernel
theorem pm_a14_51 : pm_as (pm_cd pm_mm14) 51 = some (.getfield 38, 3) := by decide +kernel
theorem pm_a14_54 : pm_as (pm_cd pm_mm14) 54 = some (.ireturn, 1) := by decide +kernel
theorem pm_a15_0 : pm_as (pm_cd pm_mm15) 0 = some (.aload_n 0, 1) := by decide +kernel
theorem pm_a15_1 : pm_as (pm_cd pm_mm15) 1 = some (.aload_n 0, 1) := by decide +kernel
theorem pm_a15_2 : pm_as (pm_cd pm_mm15) 2 = some (.getfield 25, 3) := by decide +kernel
theorem pm_a15_5 : pm_as (pm_cd pm_mm15) 5 = some (.putfield 140, 3) := by decide +kernel
theorem pm_a15_8 : pm_as (pm_cd pm_mm15) 8 = some (.aload_n 0, 1) := by decide +kernel
theorem pm_a15_9 : pm_as (pm_cd pm_mm15) 9 = some (.iconst 0, 1) := by decide +kernel
theorem pm_a15_10 : pm_as (pm_cd pm_mm15) 10 = some (.invokevirtual 121, 3) := by decide +kernel
theorem pm_a15_13 : pm_as (pm_cd pm_mm15) 13 = some (.return_, 1) := by decide +kernel
theorem pm_a16_0 : pm_as (pm_cd pm_mm16) 0 = some (.aload_n 0, 1) := by decide +kernel
theorem pm_a16_1 : pm_as (pm_cd pm_mm16) 1 = some (.getfield 25, 3) := by decide +kernel
theorem pm_a16_4 : pm_as (pm_cd pm_mm16) 4 = some (.ifCond .lt 35, 3) := by decide +kernel
theorem pm_a16_7 : pm_as (pm_cd pm_mm16) 7 = some (.aload_n 0, 1) := by decide +kernel
theorem pm_a16_8 : pm_as (pm_cd pm_mm16) 8 = some (.getfield 25, 3) := by decide +kernel
theorem pm_a16_11 : pm_as (pm_cd pm_mm16) 11 = some (.aload_n 0, 1) := by decide +kernel
theorem pm_a16_12 : pm_as (pm_cd pm_mm16) 12 = some (.getfield 9, 3) := by decide +kernel
theorem pm_a16_15 : pm_as (pm_cd pm_mm16) 15 = some (.arraylength, 1) := by decide +kernel
theorem pm_a16_16 : pm_as (pm_cd pm_mm16) 16 = some (.if_icmp .ge 23, 3) := by decide +kernel
theorem pm_a16_19 : pm_as (pm_cd pm_mm16) 19 = some (.aload_n 0, 1) := by decide +kernel
theorem pm_a16_20 : pm_as (pm_cd pm_mm16) 20 = some (.getfield 9, 3) := by decide +kernel
theorem pm_a16_23 : pm_as (pm_cd pm_mm16) 23 = some (.aload_n 0, 1) := by decide +kernel
theorem pm_a16_24 : pm_as (pm_cd pm_mm16) 24 = some (.getfield 25, 3) := by decide +kernel
theorem pm_a16_27 : pm_as (pm_cd pm_mm16) 27 = some (.iload_n 1, 1) := by decide +kernel
theorem pm_a16_28 : pm_as (pm_cd pm_mm16) 28 = some (.iastore, 1) := by decide +kernel
theorem pm_a16_29 : pm_as (pm_cd pm_mm16) 29 = some (.aload_n 0, 1) := by decide +kernel
theorem pm_a16_30 : pm_as (pm_cd pm_mm16) 30 = some (.dup, 1) := by decide +kernel
theorem pm_a16_31 : pm_as (pm_cd pm_mm16) 31 = some (.getfield 25, 3) := by decide +kernel
theorem pm_a16_34 : pm_as (pm_cd pm_mm16) 34 = some (.iconst 1, 1) := by decide +kernel
theorem pm_a16_35 : pm_as (pm_cd pm_mm16) 35 = some (.iadd, 1) := by decide +kernel
theorem pm_a16_36 : pm_as (pm_cd pm_mm16) 36 = some (.putfield 25, 3) := by decide +kernel
theorem pm_a16_39 : pm_as (pm_cd pm_mm16) 39 = some (.return_, 1) := by decide +kernel
theorem pm_a17_0 : pm_as (pm_cd pm_mm17) 0 = some (.aload_n 0, 1) := by decide +kernel
theorem pm_a17_1 : pm_as (pm_cd pm_mm17) 1 = some (.iconst 4, 1) := by decide +kernel
theorem pm_a17_2 : pm_as (pm_cd pm_mm17) 2 = some (.putfield 54, 3) := by decide +kernel
theorem pm_a17_5 : pm_as (pm_cd pm_mm17) 5 = some (.iconst 0, 1) := by decide +kernel
theorem pm_a17_6 : pm_as (pm_cd pm_mm17) 6 = some (.istore_n 1, 1) := by decide +kernel
theorem pm_a17_7 : pm_as (pm_cd pm_mm17) 7 = some (.iload_n 1, 1) := by decide +kernel
theorem pm_a17_8 : pm_as (pm_cd pm_mm17) 8 = some (.sipush 600, 3) := by decide +kernel
theorem pm_a17_11 : pm_as (pm_cd pm_mm17) 11 = some (.if_icmp .gt 38, 3) := by decide +kernel
theorem pm_a17_14 : pm_as (pm_cd pm_mm17) 14 = some (.aload_n 0, 1) := by decide +kernel
theorem pm_a17_15 : pm_as (pm_cd pm_mm17) 15 = some (.getfield 54, 3) := by decide +kernel
theorem pm_a17_18 : pm_as (pm_cd pm_mm17) 18 = some (.ifCond .eq 31, 3) := by decide +kernel
theorem pm_a17_21 : pm_as (pm_cd pm_mm17) 21 = some (.aload_n 0, 1) := by decide +kernel
theorem pm_a17_22 : pm_as (pm_cd pm_mm17) 22 = some (.getfield 38, 3) := by decide +kernel
theorem pm_a17_25 : pm_as (pm_cd pm_mm17) 25 = some (.ifCond .ne 24, 3) := by decide +kernel
theorem pm_a17_28 : pm_as (pm_cd pm_mm17) 28 = some (.aload_n 0, 1) := by decide +kernel
theorem pm_a17_29 : pm_as (pm_cd pm_mm17) 29 = some (.invokevirtual 57, 3) := by decide +kernel
theorem pm_a17_32 : pm_as (pm_cd pm_mm17) 32 = some (.aload_n 0, 1) := by decide +kernel
theorem pm_a17_33 : pm_as (pm_cd pm_mm17) 33 = some (.getfield 38, 3) := by decide +kernel
theorem pm_a17_36 : pm_as (pm_cd pm_mm17) 36 = some (.ifCond .ne 7, 3) := by decide +kernel
theorem pm_a17_39 : pm_as (pm_cd pm_mm17) 39 = some (.aload_n 0, 1) := by decide +kernel
theorem pm_a17_40 : pm_as (pm_cd pm_mm17) 40 = some (.invokevirtual 60, 3) := by decide +kernel
theorem pm_a17_43 : pm_as (pm_cd pm_mm17) 43 = some (.iinc 1 1, 3) := by decide +kernel
theorem pm_a17_46 : pm_as (pm_cd pm_mm17) 46 = some (.goto (-39), 3) := by decide +kernel
theorem pm_a17_49 : pm_as (pm_cd pm_mm17) 49 = some (.return_, 1) := by decide +kernel
theorem pm_a18_0 : pm_as (pm_cd pm_mm18) 0 = some (.aload_n 0, 1) := by decide +kernel
theorem pm_a18_1 : pm_as (pm_cd pm_mm18) 1 = some (.getfield 35, 3) := by decide +kernel
theorem pm_a18_4 : pm_as (pm_cd pm_mm18) 4 = some (.aload_n 0, 1) := by decide +kernel
theorem pm_a18_5 : pm_as (pm_cd pm_mm18) 5 = some (.getfield 21, 3) := by decide +kernel
theorem pm_a18_8 : pm_as (pm_cd pm_mm18) 8 = some (.getfield 63, 3) := by decide +kernel
theorem pm_a18_11 : pm_as (pm_cd pm_mm18) 11 = some (.if_icmp .ge 32, 3) := by decide +kernel
theorem pm_a18_14 : pm_as (pm_cd pm_mm18) 14 = some (.aload_n 0, 1) := by decide +kernel
theorem pm_a18_15 : pm_as (pm_cd pm_mm18) 15 = some (.getfield 21, 3) := by decide +kernel
theorem pm_a18_18 : pm_as (pm_cd pm_mm18) 18 = some (.aload_n 0, 1) := by decide +kernel
theorem pm_a18_19 : pm_as (pm_cd pm_mm18) 19 = some (.getfield 35, 3) := by decide +kernel
theorem pm_a18_22 : pm_as (pm_cd pm_mm18) 22 = some (.invokevirtual 68, 3) := by decide +kernel
theorem pm_a18_25 : pm_as (pm_cd pm_mm18) 25 = some (.bipush 32, 2) := by decide +kernel
theorem pm_a18_27 : pm_as (pm_cd pm_mm18) 27 = some (.if_icmp .ne 16, 3) := by decide +kernel
theorem pm_a18_30 : pm_as (pm_cd pm_mm18) 30 = some (.aload_n 0, 1) := by decide +kernel
theorem pm_a18_31 : pm_as (pm_cd pm_mm18) 31 = some (.dup, 1) := by decide +kernel
theorem pm_a18_32 : pm_as (pm_cd pm_mm18) 32 = some (.getfield 35, 3) := by decide +kernel
theorem pm_a18_35 : pm_as (pm_cd pm_mm18) 35 = some (.iconst 1, 1) := by decide +kernel
theorem pm_a18_36 : pm_as (pm_cd pm_mm18) 36 = some (.iadd, 1) := by decide +kernel
theorem pm_a18_37 : pm_as (pm_cd pm_mm18) 37 = some (.putfield 35, 3) := by decide +kernel
theorem pm_a18_40 : pm_as (pm_cd pm_mm18) 40 = some (.goto (-40), 3) := by decide +kernel
theorem pm_a18_43 : pm_as (pm_cd pm_mm18) 43 = some (.aload_n 0, 1) := by decide +kernel
theorem pm_a18_44 : pm_as (pm_cd pm_mm18) 44 = some (.aload_n 0, 1) := by decide +kernel
theorem pm_a18_45 : pm_as (pm_cd pm_mm18) 45 = some (.getfield 35, 3) := by decide +kernel
theorem pm_a18_48 : pm_as (pm_cd pm_mm18) 48 = some (.putfield 72, 3) := by decide +kernel
theorem pm_a18_51 : pm_as (pm_cd pm_mm18) 51 = some (.aload_n 0, 1) := by decide +kernel
theorem pm_a18_52 : pm_as (pm_cd pm_mm18) 52 = some (.getfield 21, 3) := by decide +kernel
theorem pm_a18_55 : pm_as (pm_cd pm_mm18) 55 = some (.aload_n 0, 1) := by decide +kernel
theorem pm_a18_56 : pm_as (pm_cd pm_mm18) 56 = some (.getfield 72, 3) := by decide +kernel
theorem pm_a18_59 : pm_as (pm_cd pm_mm18) 59 = some (.invokevirtual 68, 3) := by decide +kernel
theorem pm_a18_62 : pm_as (pm_cd pm_mm18) 62 = some (.istore_n 1, 1) := by decide +kernel
theorem pm_a18_63 : pm_as (pm_cd pm_mm18) 63 = some (.aload_n 0, 1) := by decide +kernel
theorem pm_a18_64 : pm_as (pm_cd pm_mm18) 64 = some (.getfield 72, 3) := by decide +kernel
theorem pm_a18_67 : pm_as (pm_cd pm_mm18) 67 = some (.aload_n 0, 1) := by decide +kernel
theorem pm_a18_68 : pm_as (pm_cd pm_mm18) 68 = some (.getfield 21, 3) := by decide +kernel
theorem pm_a18_71 : pm_as (pm_cd pm_mm18) 71 = some (.getfield 63, 3) := by decide +kernel
theorem pm_a18_74 : pm_as (pm_cd pm_mm18) 74 = some (.if_icmp .lt 11, 3) := by decide +kernel
theorem pm_a18_77 : pm_as (pm_cd pm_mm18) 77 = some (.aload_n 0, 1) := by decide +kernel
theorem pm_a18_78 : pm_as (pm_cd pm_mm18) 78 = some (.iconst 0, 1) := by decide +kernel
theorem pm_a18_79 : pm_as (pm_cd pm_mm18) 79 = some (.putfield 54, 3) := by decide +kernel
theorem pm_a18_82 : pm_as (pm_cd pm_mm18) 82 = some (.goto 106, 3) := by decide +kernel
theorem pm_a18_85 : pm_as (pm_cd pm_mm18) 85 = some (.iload_n 1, 1) := by decide +kernel
theorem pm_a18_86 : pm_as (pm_cd pm_mm18) 86 = some (.invokestatic 75, 3) := by decide +kernel
theorem pm_a18_89 : pm_as (pm_cd pm_mm18) 89 = some (.ifCond .eq 10, 3) := by decide +kernel
theorem pm_a18_92 : pm_as (pm_cd pm_mm18) 92 = some (.aload_n 0, 1) := by decide +kernel
theorem pm_a18_93 : pm_as (pm_cd pm_mm18) 93 = some (.invokevirtual 79, 3) := by decide +kernel
theorem pm_a18_96 : pm_as (pm_cd pm_mm18) 96 = some (.goto 92, 3) := by decide +kernel
theorem pm_a18_99 : pm_as (pm_cd pm_mm18) 99 = some (.iload_n 1, 1) := by decide +kernel
theorem pm_a18_100 : pm_as (pm_cd pm_mm18) 100 = some (.invokestatic 82, 3) := by decide +kernel
theorem pm_a18_103 : pm_as (pm_cd pm_mm18) 103 = some (.ifCond .eq 10, 3) := by decide +kernel
theorem pm_a18_106 : pm_as (pm_cd pm_mm18) 106 = some (.aload_n 0, 1) := by decide +kernel
theorem pm_a18_107 : pm_as (pm_cd pm_mm18) 107 = some (.invokevirtual 85, 3) := by decide +kernel
theorem pm_a18_110 : pm_as (pm_cd pm_mm18) 110 = some (.goto 78, 3) := by decide +kernel
theorem pm_a18_113 : pm_as (pm_cd pm_mm18) 113 = some (.ldc 88, 2) := by decide +kernel
theorem pm_a18_115 : pm_as (pm_cd pm_mm18) 115 = some (.iload_n 1, 1) := by decide +kernel
theorem pm_a18_116 : pm_as (pm_cd pm_mm18) 116 = some (.i2c, 1) := by decide +kernel
theorem pm_a18_117 : pm_as (pm_cd pm_mm18) 117 = some (.invokevirtual 90, 3) := by decide +kernel
theorem pm_a18_120 : pm_as (pm_cd pm_mm18) 120 = some (.ifCond .lt 21, 3) := by decide +kernel
theorem pm_a18_123 : pm_as (pm_cd pm_mm18) 123 = some (.aload_n 0, 1) := by decide +kernel
theorem pm_a18_124 : pm_as (pm_cd pm_mm18) 124 = some (.iconst 3, 1) := by decide +kernel
theorem pm_a18_125 : pm_as (pm_cd pm_mm18) 125 = some (.putfield 54, 3) := by decide +kernel
theorem pm_a18_128 : pm_as (pm_cd pm_mm18) 128 = some (.aload_n 0, 1) := by decide +kernel
theorem pm_a18_129 : pm_as (pm_cd pm_mm18) 129 = some (.dup, 1) := by decide +kernel
theorem pm_a18_130 : pm_as (pm_cd pm_mm18) 130 = some (.getfield 35, 3) := by decide +kernel
theorem pm_a18_133 : pm_as (pm_cd pm_mm18) 133 = some (.iconst 1, 1) := by decide +kernel
theorem pm_a18_134 : pm_as (pm_cd pm_mm18) 134 = some (.iadd, 1) := by decide +kernel
theorem pm_a18_135 : pm_as (pm_cd pm_mm18) 135 = some (.putfield 35, 3) := by decide +kernel
theorem pm_a18_138 : pm_as (pm_cd pm_mm18) 138 = some (.goto 50, 3) := by decide +kernel
theorem pm_a18_141 : pm_as (pm_cd pm_mm18) 141 = some (.iload_n 1, 1) := by decide +kernel
theorem pm_a18_142 : pm_as (pm_cd pm_mm18) 142 = some (.bipush 40, 2) := by decide +kernel
theorem pm_a18_144 : pm_as (pm_cd pm_mm18) 144 = some (.if_icmp .eq 21, 3) := by decide +kernel
theorem pm_a18_147 : pm_as (pm_cd pm_mm18) 147 = some (.iload_n 1, 1) := by decide +kernel
theorem pm_a18_148 : pm_as (pm_cd pm_mm18) 148 = some (.bipush 41, 2) := by decide +kernel
theorem pm_a18_150 : pm_as (pm_cd pm_mm18) 150 = some (.if_icmp .eq 15, 3) := by decide +kernel
theorem pm_a18_153 : pm_as (pm_cd pm_mm18) 153 = some (.iload_n 1, 1) := by decide +kernel
theorem pm_a18_154 : pm_as (pm_cd pm_mm18) 154 = some (.bipush 92, 2) := by decide +kernel
theorem pm_a18_156 : pm_as (pm_cd pm_mm18) 156 = some (.if_icmp .eq 9, 3) := by decide +kernel
theorem pm_a18_159 : pm_as (pm_cd pm_mm18) 159 = some (.iload_n 1, 1) := by decide +kernel
theorem pm_a18_160 : pm_as (pm_cd pm_mm18) 160 = some (.bipush 46, 2) := by decide +kernel
theorem pm_a18_162 : pm_as (pm_cd pm_mm18) 162 = some (.if_icmp .ne 21, 3) := by decide +kernel
theorem pm_a18_165 : pm_as (pm_cd pm_mm18) 165 = some (.aload_n 0, 1) := by decide +kernel
theorem pm_a18_166 : pm_as (pm_cd pm_mm18) 166 = some (.iconst 4, 1) := by decide +kernel
theorem pm_a18_167 : pm_as (pm_cd pm_mm18) 167 = some (.putfield 54, 3) := by decide +kernel
theorem pm_a18_170 : pm_as (pm_cd pm_mm18) 170 = some (.aload_n 0, 1) := by decide +kernel
theorem pm_a18_171 : pm_as (pm_cd pm_mm18) 171 = some (.dup, 1) := by decide +kernel
theorem pm_a18_172 : pm_as (pm_cd pm_mm18) 172 = some (.getfield 35, 3) := by decide +kernel
theorem pm_a18_175 : pm_as (pm_cd pm_mm18) 175 = some (.iconst 1, 1) := by decide +kernel
theorem pm_a18_176 : pm_as (pm_cd pm_mm18) 176 = some (.iadd, 1) := by decide +kernel
theorem pm_a18_177 : pm_as (pm_cd pm_mm18) 177 = some (.putfield 35, 3) := by decide +kernel
theorem pm_a18_180 : pm_as (pm_cd pm_mm18) 180 = some (.goto 8, 3) := by decide +kernel
theorem pm_a18_183 : pm_as (pm_cd pm_mm18) 183 = some (.aload_n 0, 1) := by decide +kernel
theorem pm_a18_184 : pm_as (pm_cd pm_mm18) 184 = some (.iconst 1, 1) := by decide +kernel
theorem pm_a18_185 : pm_as (pm_cd pm_mm18) 185 = some (.invokevirtual 95, 3) := by decide +kernel
theorem pm_a18_188 : pm_as (pm_cd pm_mm18) 188 = some (.return_, 1) := by decide +kernel
theorem pm_a19_0 : pm_as (pm_cd pm_mm19) 0 = some (.iload_n 1, 1) := by decide +kernel
theorem pm_a19_1 : pm_as (pm_cd pm_mm19) 1 = some (.ifCond .lt 29, 3) := by decide +kernel
theorem pm_a19_4 : pm_as (pm_cd pm_mm19) 4 = some (.iload_n 1, 1) := by decide +kernel
theorem pm_a19_5 : pm_as (pm_cd pm_mm19) 5 = some (.aload_n 0, 1) := by decide +kernel
theorem pm_a19_6 : pm_as (pm_cd pm_mm19) 6 = some (.getfield 15, 3) := by decide +kernel
theorem pm_a19_9 : pm_as (pm_cd pm_mm19) 9 = some (.if_icmp .ge 21, 3) := by decide +kernel
theorem pm_a19_12 : pm_as (pm_cd pm_mm19) 12 = some (.iload_n 1, 1) := by decide +kernel
theorem pm_a19_13 : pm_as (pm_cd pm_mm19) 13 = some (.aload_n 0, 1) := by decide +kernel
theorem pm_a19_14 : pm_as (pm_cd pm_mm19) 14 = some (.getfield 9, 3) := by decide +kernel
theorem pm_a19_17 : pm_as (pm_cd pm_mm19) 17 = some (.arraylength, 1) := by decide +kernel
theorem pm_a19_18 : pm_as (pm_cd pm_mm19) 18 = some (.if_icmp .ge 12, 3) := by decide +kernel
theorem pm_a19_21 : pm_as (pm_cd pm_mm19) 21 = some (.aload_n 0, 1) := by decide +kernel
theorem pm_a19_22 : pm_as (pm_cd pm_mm19) 22 = some (.getfield 9, 3) := by decide +kernel
theorem pm_a19_25 : pm_as (pm_cd pm_mm19) 25 = some (.iload_n 1, 1) := by decide +kernel
theorem pm_a19_26 : pm_as (pm_cd pm_mm19) 26 = some (.iaload, 1) := by decide +kernel
theorem pm_a19_27 : pm_as (pm_cd pm_mm19) 27 = some (.goto 4, 3) := by decide +kernel
theorem pm_a19_30 : pm_as (pm_cd pm_mm19) 30 = some (.iconst (-1), 1) := by decide +kernel
theorem pm_a19_31 : pm_as (pm_cd pm_mm19) 31 = some (.ireturn, 1) := by decide +kernel
theorem pm_a20_0 : pm_as (pm_cd pm_mm20) 0 = some (.iload_n 0, 1) := by decide +kernel
theorem pm_a20_1 : pm_as (pm_cd pm_mm20) 1 = some (.bipush 97, 2) := by decide +kernel
theorem pm_a20_3 : pm_as (pm_cd pm_mm20) 3 = some (.if_icmp .lt 13, 3) := by decide +kernel
theorem pm_a20_6 : pm_as (pm_cd pm_mm20) 6 = some (.iload_n 0, 1) := by decide +kernel
theorem pm_a20_7 : pm_as (pm_cd pm_mm20) 7 = some (.bipush 122, 2) := by decide +kernel
theorem pm_a20_9 : pm_as (pm_cd pm_mm20) 9 = some (.if_icmp .gt 7, 3) := by decide +kernel
theorem pm_a20_12 : pm_as (pm_cd pm_mm20) 12 = some (.iconst 1, 1) := by decide +kernel
theorem pm_a20_13 : pm_as (pm_cd pm_mm20) 13 = some (.goto 4, 3) := by decide +kernel
theorem pm_a20_16 : pm_as (pm_cd pm_mm20) 16 = some (.iconst 0, 1) := by decide +kernel
theorem pm_a20_17 : pm_as (pm_cd pm_mm20) 17 = some (.ireturn, 1) := by decide +kernel
theorem pm_a21_0 : pm_as (pm_cd pm_mm21) 0 = some (.aload_n 0, 1) := by decide +kernel
theorem pm_a21_1 : pm_as (pm_cd pm_mm21) 1 = some (.iconst 1, 1) := by decide +kernel
theorem pm_a21_2 : pm_as (pm_cd pm_mm21) 2 = some (.putfield 54, 3) := by decide +kernel
theorem pm_a21_5 : pm_as (pm_cd pm_mm21) 5 = some (.aload_n 0, 1) := by decide +kernel
theorem pm_a21_6 : pm_as (pm_cd pm_mm21) 6 = some (.getfield 35, 3) := by decide +kernel
theorem pm_a21_9 : pm_as (pm_cd pm_mm21) 9 = some (.aload_n 0, 1) := by decide +kernel
theorem pm_a21_10 : pm_as (pm_cd pm_mm21) 10 = some (.getfield 21, 3) := by decide +kernel
theorem pm_a21_13 : pm_as (pm_cd pm_mm21) 13 = some (.getfield 63, 3) := by decide +kernel
theorem pm_a21_16 : pm_as (pm_cd pm_mm21) 16 = some (.if_icmp .ge 33, 3) := by decide +kernel
theorem pm_a21_19 : pm_as (pm_cd pm_mm21) 19 = some (.aload_n 0, 1) := by decide +kernel
theorem pm_a21_20 : pm_as (pm_cd pm_mm21) 20 = some (.getfield 21, 3) := by decide +kernel
theorem pm_a21_23 : pm_as (pm_cd pm_mm21) 23 = some (.aload_n 0, 1) := by decide +kernel
theorem pm_a21_24 : pm_as (pm_cd pm_mm21) 24 = some (.getfield 35, 3) := by decide +kernel
theorem pm_a21_27 : pm_as (pm_cd pm_mm21) 27 = some (.invokevirtual 68, 3) := by decide +kernel
theorem pm_a21_30 : pm_as (pm_cd pm_mm21) 30 = some (.invokestatic 75, 3) := by decide +kernel
theorem pm_a21_33 : pm_as (pm_cd pm_mm21) 33 = some (.ifCond .eq 16, 3) := by decide +kernel
theorem pm_a21_36 : pm_as (pm_cd pm_mm21) 36 = some (.aload_n 0, 1) := by decide +kernel
theorem pm_a21_37 : pm_as (pm_cd pm_mm21) 37 = some (.dup, 1) := by decide +kernel
theorem pm_a21_38 : pm_as (pm_cd pm_mm21) 38 = some (.getfield 35, 3) := by decide +kernel
theorem pm_a21_41 : pm_as (pm_cd pm_mm21) 41 = some (.iconst 1, 1) := by decide +kernel
theorem pm_a21_42 : pm_as (pm_cd pm_mm21) 42 = some (.iadd, 1) := by decide +kernel
theorem pm_a21_43 : pm_as (pm_cd pm_mm21) 43 = some (.putfield 35, 3) := by decide +kernel
theorem pm_a21_46 : pm_as (pm_cd pm_mm21) 46 = some (.goto (-41), 3) := by decide +kernel
theorem pm_a21_49 : pm_as (pm_cd pm_mm21) 49 = some (.aload_n 0, 1) := by decide +kernel
theorem pm_a21_50 : pm_as (pm_cd pm_mm21) 50 = some (.getfield 35, 3) := by decide +kernel
theorem pm_a21_53 : pm_as (pm_cd pm_mm21) 53 = some (.aload_n 0, 1) := by decide +kernel
theorem pm_a21_54 : pm_as (pm_cd pm_mm21) 54 = some (.getfield 72, 3) := by decide +kernel
theorem pm_a21_57 : pm_as (pm_cd pm_mm21) 57 = some (.isub, 1) := by decide +kernel
theorem pm_a21_58 : pm_as (pm_cd pm_mm21) 58 = some (.bipush 8, 2) := by decide +kernel
theorem pm_a21_60 : pm_as (pm_cd pm_mm21) 60 = some (.if_icmp .le 8, 3) := by decide +kernel
theorem pm_a21_63 : pm_as (pm_cd pm_mm21) 63 = some (.aload_n 0, 1) := by decide +kernel
theorem pm_a21_64 : pm_as (pm_cd pm_mm21) 64 = some (.iconst 1, 1) := by decide +kernel
theorem pm_a21_65 : pm_as (pm_cd pm_mm21) 65 = some (.invokevirtual 95, 3) := by decide +kernel
theorem pm_a21_68 : pm_as (pm_cd pm_mm21) 68 = some (.return_, 1) := by decide +kernel
theorem pm_a22_0 : pm_as (pm_cd pm_mm22) 0 = some (.aload_n 0, 1) := by decide +kernel
theorem pm_a22_1 : pm_as (pm_cd pm_mm22) 1 = some (.iload_n 1, 1) := by decide +kernel
theorem pm_a22_2 : pm_as (pm_cd pm_mm22) 2 = some (.putfield 38, 3) := by decide +kernel
theorem pm_a22_5 : pm_as (pm_cd pm_mm22) 5 = some (.aload_n 0, 1) := by decide +kernel
theorem pm_a22_6 : pm_as (pm_cd pm_mm22) 6 = some (.aload_n 0, 1) := by decide +kernel
theorem pm_a22_7 : pm_as (pm_cd pm_mm22) 7 = some (.getfield 72, 3) := by decide +kernel
theorem pm_a22_10 : pm_as (pm_cd pm_mm22) 10 = some (.putfield 41, 3) := by decide +kernel
theorem pm_a22_13 : pm_as (pm_cd pm_mm22) 13 = some (.return_, 1) := by decide +kernel
theorem pm_a23_0 : pm_as (pm_cd pm_mm23) 0 = some (.iload_n 0, 1) := by decide +kernel
theorem pm_a23_1 : pm_as (pm_cd pm_mm23) 1 = some (.bipush 48, 2) := by decide +kernel
theorem pm_a23_3 : pm_as (pm_cd pm_mm23) 3 = some (.if_icmp .lt 13, 3) := by decide +kernel
theorem pm_a23_6 : pm_as (pm_cd pm_mm23) 6 = some (.iload_n 0, 1) := by decide +kernel
theorem pm_a23_7 : pm_as (pm_cd pm_mm23) 7 = some (.bipush 57, 2) := by decide +kernel
theorem pm_a23_9 : pm_as (pm_cd pm_mm23) 9 = some (.if_icmp .gt 7, 3) := by decide +kernel
theorem pm_a23_12 : pm_as (pm_cd pm_mm23) 12 = some (.iconst 1, 1) := by decide +kernel
theorem pm_a23_13 : pm_as (pm_cd pm_mm23) 13 = some (.goto 4, 3) := by decide +kernel
theorem pm_a23_16 : pm_as (pm_cd pm_mm23) 16 = some (.iconst 0, 1) := by decide +kernel
theorem pm_a23_17 : pm_as (pm_cd pm_mm23) 17 = some (.ireturn, 1) := by decide +kernel
theorem pm_a24_0 : pm_as (pm_cd pm_mm24) 0 = some (.aload_n 0, 1) := by decide +kernel
theorem pm_a24_1 : pm_as (pm_cd pm_mm24) 1 = some (.iconst 2, 1) := by decide +kernel
theorem pm_a24_2 : pm_as (pm_cd pm_mm24) 2 = some (.putfield 54, 3) := by decide +kernel
theorem pm_a24_5 : pm_as (pm_cd pm_mm24) 5 = some (.aload_n 0, 1) := by decide +kernel
theorem pm_a24_6 : pm_as (pm_cd pm_mm24) 6 = some (.getfield 35, 3) := by decide +kernel
theorem pm_a24_9 : pm_as (pm_cd pm_mm24) 9 = some (.aload_n 0, 1) := by decide +kernel
theorem pm_a24_10 : pm_as (pm_cd pm_mm24) 10 = some (.getfield 21, 3) := by decide +kernel
theorem pm_a24_13 : pm_as (pm_cd pm_mm24) 13 = some (.getfield 63, 3) := by decide +kernel
theorem pm_a24_16 : pm_as (pm_cd pm_mm24) 16 = some (.if_icmp .ge 33, 3) := by decide +kernel
theorem pm_a24_19 : pm_as (pm_cd pm_mm24) 19 = some (.aload_n 0, 1) := by decide +kernel
theorem pm_a24_20 : pm_as (pm_cd pm_mm24) 20 = some (.getfield 21, 3) := by decide +kernel
theorem pm_a24_23 : pm_as (pm_cd pm_mm24) 23 = some (.aload_n 0, 1) := by decide +kernel
theorem pm_a24_24 : pm_as (pm_cd pm_mm24) 24 = some (.getfield 35, 3) := by decide +kernel
theorem pm_a24_27 : pm_as (pm_cd pm_mm24) 27 = some (.invokevirtual 68, 3) := by decide +kernel
theorem pm_a24_30 : pm_as (pm_cd pm_mm24) 30 = some (.invokestatic 82, 3) := by decide +kernel
theorem pm_a24_33 : pm_as (pm_cd pm_mm24) 33 = some (.ifCond .eq 16, 3) := by decide +kernel
theorem pm_a24_36 : pm_as (pm_cd pm_mm24) 36 = some (.aload_n 0, 1) := by decide +kernel
theorem pm_a24_37 : pm_as (pm_cd pm_mm24) 37 = some (.dup, 1) := by decide +kernel
theorem pm_a24_38 : pm_as (pm_cd pm_mm24) 38 = some (.getfield 35, 3) := by decide +kernel
theorem pm_a24_41 : pm_as (pm_cd pm_mm24) 41 = some (.iconst 1, 1) := by decide +kernel
theorem pm_a24_42 : pm_as (pm_cd pm_mm24) 42 = some (.iadd, 1) := by decide +kernel
theorem pm_a24_43 : pm_as (pm_cd pm_mm24) 43 = some (.putfield 35, 3) := by decide +kernel
theorem pm_a24_46 : pm_as (pm_cd pm_mm24) 46 = some (.goto (-41), 3) := by decide +kernel
theorem pm_a24_49 : pm_as (pm_cd pm_mm24) 49 = some (.aload_n 0, 1) := by decide +kernel
theorem pm_a24_50 : pm_as (pm_cd pm_mm24) 50 = some (.getfield 35, 3) := by decide +kernel
theorem pm_a24_53 : pm_as (pm_cd pm_mm24) 53 = some (.aload_n 0, 1) := by decide +kernel
theorem pm_a24_54 : pm_as (pm_cd pm_mm24) 54 = some (.getfield 72, 3) := by decide +kernel
theorem pm_a24_57 : pm_as (pm_cd pm_mm24) 57 = some (.isub, 1) := by decide +kernel
theorem pm_a24_58 : pm_as (pm_cd pm_mm24) 58 = some (.iconst 2, 1) := by decide +kernel
theorem pm_a24_59 : pm_as (pm_cd pm_mm24) 59 = some (.if_icmp .gt 12, 3) := by decide +kernel
theorem pm_a24_62 : pm_as (pm_cd pm_mm24) 62 = some (.aload_n 0, 1) := by decide +kernel
theorem pm_a24_63 : pm_as (pm_cd pm_mm24) 63 = some (.invokevirtual 99, 3) := by decide +kernel
theorem pm_a24_66 : pm_as (pm_cd pm_mm24) 66 = some (.bipush 20, 2) := by decide +kernel
theorem pm_a24_68 : pm_as (pm_cd pm_mm24) 68 = some (.if_icmp .le 8, 3) := by decide +kernel
theorem pm_a24_71 : pm_as (pm_cd pm_mm24) 71 = some (.aload_n 0, 1) := by decide +kernel
theorem pm_a24_72 : pm_as (pm_cd pm_mm24) 72 = some (.iconst 1, 1) := by decide +kernel
theorem pm_a24_73 : pm_as (pm_cd pm_mm24) 73 = some (.invokevirtual 95, 3) := by decide +kernel
theorem pm_a24_76 : pm_as (pm_cd pm_mm24) 76 = some (.return_, 1) := by decide +kernel
theorem pm_a25_0 : pm_as (pm_cd pm_mm25) 0 = some (.aload_n 0, 1) := by decide +kernel
theorem pm_a25_1 : pm_as (pm_cd pm_mm25) 1 = some (.getfield 21, 3) := by decide +kernel
theorem pm_a25_4 : pm_as (pm_cd pm_mm25) 4 = some (.aload_n 0, 1) := by decide +kernel
theorem pm_a25_5 : pm_as (pm_cd pm_mm25) 5 = some (.getfield 72, 3) := by decide +kernel
theorem pm_a25_8 : pm_as (pm_cd pm_mm25) 8 = some (.invokevirtual 68, 3) := by decide +kernel
theorem pm_a25_11 : pm_as (pm_cd pm_mm25) 11 = some (.bipush 48, 2) := by decide +kernel
theorem pm_a25_13 : pm_as (pm_cd pm_mm25) 13 = some (.isub, 1) := by decide +kernel
theorem pm_a25_14 : pm_as (pm_cd pm_mm25) 14 = some (.istore_n 1, 1) := by decide +kernel
theorem pm_a25_15 : pm_as (pm_cd pm_mm25) 15 = some (.aload_n 0, 1) := by decide +kernel
theorem pm_a25_16 : pm_as (pm_cd pm_mm25) 16 = some (.getfield 35, 3) := by decide +kernel
theorem pm_a25_19 : pm_as (pm_cd pm_mm25) 19 = some (.aload_n 0, 1) := by decide +kernel
theorem pm_a25_20 : pm_as (pm_cd pm_mm25) 20 = some (.getfield 72, 3) := by decide +kernel
theorem pm_a25_23 : pm_as (pm_cd pm_mm25) 23 = some (.isub, 1) := by decide +kernel
theorem pm_a25_24 : pm_as (pm_cd pm_mm25) 24 = some (.iconst 1, 1) := by decide +kernel
theorem pm_a25_25 : pm_as (pm_cd pm_mm25) 25 = some (.if_icmp .ne 7, 3) := by decide +kernel
theorem pm_a25_28 : pm_as (pm_cd pm_mm25) 28 = some (.iload_n 1, 1) := by decide +kernel
theorem pm_a25_29 : pm_as (pm_cd pm_mm25) 29 = some (.goto 24, 3) := by decide +kernel
theorem pm_a25_32 : pm_as (pm_cd pm_mm25) 32 = some (.iload_n 1, 1) := by decide +kernel
theorem pm_a25_33 : pm_as (pm_cd pm_mm25) 33 = some (.bipush 10, 2) := by decide +kernel
theorem pm_a25_35 : pm_as (pm_cd pm_mm25) 35 = some (.imul, 1) := by decide +kernel
theorem pm_a25_36 : pm_as (pm_cd pm_mm25) 36 = some (.aload_n 0, 1) := by decide +kernel
theorem pm_a25_37 : pm_as (pm_cd pm_mm25) 37 = some (.getfield 21, 3) := by decide +kernel
theorem pm_a25_40 : pm_as (pm_cd pm_mm25) 40 = some (.aload_n 0, 1) := by decide +kernel
theorem pm_a25_41 : pm_as (pm_cd pm_mm25) 41 = some (.getfield 72, 3) := by decide +kernel
theorem pm_a25_44 : pm_as (pm_cd pm_mm25) 44 = some (.iconst 1, 1) := by decide +kernel
theorem pm_a25_45 : pm_as (pm_cd pm_mm25) 45 = some (.iadd, 1) := by decide +kernel
theorem pm_a25_46 : pm_as (pm_cd pm_mm25) 46 = some (.invokevirtual 68, 3) := by decide +kernel
theorem pm_a25_49 : pm_as (pm_cd pm_mm25) 49 = some (.iadd, 1) := by decide +kernel
theorem pm_a25_50 : pm_as (pm_cd pm_mm25) 50 = some (.bipush 48, 2) := by decide +kernel
theorem pm_a25_52 : pm_as (pm_cd pm_mm25) 52 = some (.isub, 1) := by decide +kernel
theorem pm_a25_53 : pm_as (pm_cd pm_mm25) 53 = some (.ireturn, 1) := by decide +kernel
theorem pm_a26_0 : pm_as (pm_cd pm_mm26) 0 = some (.aload_n 0, 1) := by decide +kernel
theorem pm_a26_1 : pm_as (pm_cd pm_mm26) 1 = some (.getfield 32, 3) := by decide +kernel
theorem pm_a26_4 : pm_as (pm_cd pm_mm26) 4 = some (.ifCond .eq 8, 3) := by decide +kernel
theorem pm_a26_7 : pm_as (pm_cd pm_mm26) 7 = some (.aload_n 0, 1) := by decide +kernel
theorem pm_a26_8 : pm_as (pm_cd pm_mm26) 8 = some (.invokevirtual 103, 3) := by decide +kernel
theorem pm_a26_11 : pm_as (pm_cd pm_mm26) 11 = some (.return_, 1) := by decide +kernel
theorem pm_a26_12 : pm_as (pm_cd pm_mm26) 12 = some (.aload_n 0, 1) := by decide +kernel
theorem pm_a26_13 : pm_as (pm_cd pm_mm26) 13 = some (.getfield 54, 3) := by decide +kernel
theorem pm_a26_16 : pm_as (pm_cd pm_mm26) 16 = some (.tableswitch 98 1 4 #[32, 39, 54, 80], 32) := by decide +kernel
theorem pm_a26_48 : pm_as (pm_cd pm_mm26) 48 = some (.aload_n 0, 1) := by decide +kernel
theorem pm_a26_49 : pm_as (pm_cd pm_mm26) 49 = some (.invokevirtual 106, 3) := by decide +kernel
theorem pm_a26_52 : pm_as (pm_cd pm_mm26) 52 = some (.goto 66, 3) := by decide +kernel
theorem pm_a26_55 : pm_as (pm_cd pm_mm26) 55 = some (.aload_n 0, 1) := by decide +kernel
theorem pm_a26_56 : pm_as (pm_cd pm_mm26) 56 = some (.sipush 1000, 3) := by decide +kernel
theorem pm_a26_59 : pm_as (pm_cd pm_mm26) 59 = some (.aload_n 0, 1) := by decide +kernel
theorem pm_a26_60 : pm_as (pm_cd pm_mm26) 60 = some (.invokevirtual 99, 3) := by decide +kernel
theorem pm_a26_63 : pm_as (pm_cd pm_mm26) 63 = some (.iadd, 1) := by decide +kernel
theorem pm_a26_64 : pm_as (pm_cd pm_mm26) 64 = some (.invokevirtual 109, 3) := by decide +kernel
theorem pm_a26_67 : pm_as (pm_cd pm_mm26) 67 = some (.goto 51, 3) := by decide +kernel
theorem pm_a26_70 : pm_as (pm_cd pm_mm26) 70 = some (.aload_n 0, 1) := by decide +kernel
theorem pm_a26_71 : pm_as (pm_cd pm_mm26) 71 = some (.ldc 88, 2) := by decide +kernel
theorem pm_a26_73 : pm_as (pm_cd pm_mm26) 73 = some (.aload_n 0, 1) := by decide +kernel
theorem pm_a26_74 : pm_as (pm_cd pm_mm26) 74 = some (.getfield 21, 3) := by decide +kernel
theorem pm_a26_77 : pm_as (pm_cd pm_mm26) 77 = some (.aload_n 0, 1) := by decide +kernel
theorem pm_a26_78 : pm_as (pm_cd pm_mm26) 78 = some (.getfield 72, 3) := by decide +kernel
theorem pm_a26_81 : pm_as (pm_cd pm_mm26) 81 = some (.invokevirtual 68, 3) := by decide +kernel
theorem pm_a26_84 : pm_as (pm_cd pm_mm26) 84 = some (.i2c, 1) := by decide +kernel
theorem pm_a26_85 : pm_as (pm_cd pm_mm26) 85 = some (.invokevirtual 90, 3) := by decide +kernel
theorem pm_a26_88 : pm_as (pm_cd pm_mm26) 88 = some (.iconst 2, 1) := by decide +kernel
theorem pm_a26_89 : pm_as (pm_cd pm_mm26) 89 = some (.iadd, 1) := by decide +kernel
theorem pm_a26_90 : pm_as (pm_cd pm_mm26) 90 = some (.invokevirtual 109, 3) := by decide +kernel
theorem pm_a26_93 : pm_as (pm_cd pm_mm26) 93 = some (.goto 25, 3) := by decide +kernel
theorem pm_a26_96 : pm_as (pm_cd pm_mm26) 96 = some (.aload_n 0, 1) := by decide +kernel
theorem pm_a26_97 : pm_as (pm_cd pm_mm26) 97 = some (.aload_n 0, 1) := by decide +kernel
theorem pm_a26_98 : pm_as (pm_cd pm_mm26) 98 = some (.getfield 21, 3) := by decide +kernel
theorem pm_a26_101 : pm_as (pm_cd pm_mm26) 101 = some (.aload_n 0, 1) := by decide +kernel
theorem pm_a26_102 : pm_as (pm_cd pm_mm26) 102 = some (.getfield 72, 3) := by decide +kernel
theorem pm_a26_105 : pm_as (pm_cd pm_mm26) 105 = some (.invokevirtual 68, 3) := by decide +kernel
theorem pm_a26_108 : pm_as (pm_cd pm_mm26) 108 = some (.invokevirtual 112, 3) := by decide +kernel
theorem pm_a26_111 : pm_as (pm_cd pm_mm26) 111 = some (.goto 7, 3) := by decide +kernel
theorem pm_a26_114 : pm_as (pm_cd pm_mm26) 114 = some (.aload_n 0, 1) := by decide +kernel
theorem pm_a26_115 : pm_as (pm_cd pm_mm26) 115 = some (.invokevirtual 115, 3) := by decide +kernel
theorem pm_a26_118 : pm_as (pm_cd pm_mm26) 118 = some (.return_, 1) := by decide +kernel
theorem pm_a27_0 : pm_as (pm_cd pm_mm27) 0 = some (.aload_n 0, 1) := by decide +kernel
theorem pm_a27_1 : pm_as (pm_cd pm_mm27) 1 = some (.getfield 54, 3) := by decide +kernel
theorem pm_a27_4 : pm_as (pm_cd pm_mm27) 4 = some (.iconst 1, 1) := by decide +kernel
theorem pm_a27_5 : pm_as (pm_cd pm_mm27) 5 = some (.if_icmp .ne 24, 3) := by decide +kernel
theorem pm_a27_8 : pm_as (pm_cd pm_mm27) 8 = some (.aload_n 0, 1) := by decide +kernel
theorem pm_a27_9 : pm_as (pm_cd pm_mm27) 9 = some (.aload_n 0, 1) := by decide +kernel
theorem pm_a27_10 : pm_as (pm_cd pm_mm27) 10 = some (.getfield 72, 3) := by decide +kernel
theorem pm_a27_13 : pm_as (pm_cd pm_mm27) 13 = some (.invokevirtual 118, 3) := by decide +kernel
theorem pm_a27_16 : pm_as (pm_cd pm_mm27) 16 = some (.aload_n 0, 1) := by decide +kernel
theorem pm_a27_17 : pm_as (pm_cd pm_mm27) 17 = some (.iconst 1, 1) := by decide +kernel
theorem pm_a27_18 : pm_as (pm_cd pm_mm27) 18 = some (.invokevirtual 121, 3) := by decide +kernel
theorem pm_a27_21 : pm_as (pm_cd pm_mm27) 21 = some (.aload_n 0, 1) := by decide +kernel
theorem pm_a27_22 : pm_as (pm_cd pm_mm27) 22 = some (.iconst 2, 1) := by decide +kernel
theorem pm_a27_23 : pm_as (pm_cd pm_mm27) 23 = some (.putfield 32, 3) := by decide +kernel
theorem pm_a27_26 : pm_as (pm_cd pm_mm27) 26 = some (.goto 52, 3) := by decide +kernel
theorem pm_a27_29 : pm_as (pm_cd pm_mm27) 29 = some (.aload_n 0, 1) := by decide +kernel
theorem pm_a27_30 : pm_as (pm_cd pm_mm27) 30 = some (.getfield 32, 3) := by decide +kernel
theorem pm_a27_33 : pm_as (pm_cd pm_mm27) 33 = some (.iconst 2, 1) := by decide +kernel
theorem pm_a27_34 : pm_as (pm_cd pm_mm27) 34 = some (.if_icmp .ne 39, 3) := by decide +kernel
theorem pm_a27_37 : pm_as (pm_cd pm_mm27) 37 = some (.aload_n 0, 1) := by decide +kernel
theorem pm_a27_38 : pm_as (pm_cd pm_mm27) 38 = some (.getfield 54, 3) := by decide +kernel
theorem pm_a27_41 : pm_as (pm_cd pm_mm27) 41 = some (.iconst 4, 1) := by decide +kernel
theorem pm_a27_42 : pm_as (pm_cd pm_mm27) 42 = some (.if_icmp .ne 31, 3) := by decide +kernel
theorem pm_a27_45 : pm_as (pm_cd pm_mm27) 45 = some (.aload_n 0, 1) := by decide +kernel
theorem pm_a27_46 : pm_as (pm_cd pm_mm27) 46 = some (.getfield 21, 3) := by decide +kernel
theorem pm_a27_49 : pm_as (pm_cd pm_mm27) 49 = some (.aload_n 0, 1) := by decide +kernel
theorem pm_a27_50 : pm_as (pm_cd pm_mm27) 50 = some (.getfield 72, 3) := by decide +kernel
theorem pm_a27_53 : pm_as (pm_cd pm_mm27) 53 = some (.invokevirtual 68, 3) := by decide +kernel
theorem pm_a27_56 : pm_as (pm_cd pm_mm27) 56 = some (.bipush 46, 2) := by decide +kernel
theorem pm_a27_58 : pm_as (pm_cd pm_mm27) 58 = some (.if_icmp .ne 15, 3) := by decide +kernel
theorem pm_a27_61 : pm_as (pm_cd pm_mm27) 61 = some (.aload_n 0, 1) := by decide +kernel
theorem pm_a27_62 : pm_as (pm_cd pm_mm27) 62 = some (.iconst 0, 1) := by decide +kernel
theorem pm_a27_63 : pm_as (pm_cd pm_mm27) 63 = some (.putfield 32, 3) := by decide +kernel
theorem pm_a27_66 : pm_as (pm_cd pm_mm27) 66 = some (.aload_n 0, 1) := by decide +kernel
theorem pm_a27_67 : pm_as (pm_cd pm_mm27) 67 = some (.invokevirtual 44, 3) := by decide +kernel
theorem pm_a27_70 : pm_as (pm_cd pm_mm27) 70 = some (.goto 8, 3) := by decide +kernel
theorem pm_a27_73 : pm_as (pm_cd pm_mm27) 73 = some (.aload_n 0, 1) := by decide +kernel
theorem pm_a27_74 : pm_as (pm_cd pm_mm27) 74 = some (.iconst 2, 1) := by decide +kernel
theorem pm_a27_75 : pm_as (pm_cd pm_mm27) 75 = some (.invokevirtual 95, 3) := by decide +kernel
theorem pm_a27_78 : pm_as (pm_cd pm_mm27) 78 = some (.return_, 1) := by decide +kernel
theorem pm_a28_0 : pm_as (pm_cd pm_mm28) 0 = some (.aload_n 0, 1) := by decide +kernel
theorem pm_a28_1 : pm_as (pm_cd pm_mm28) 1 = some (.getfield 29, 3) := by decide +kernel
theorem pm_a28_4 : pm_as (pm_cd pm_mm28) 4 = some (.ifCond .lt 12, 3) := by decide +kernel
theorem pm_a28_7 : pm_as (pm_cd pm_mm28) 7 = some (.aload_n 0, 1) := by decide +kernel
theorem pm_a28_8 : pm_as (pm_cd pm_mm28) 8 = some (.getfield 29, 3) := by decide +kernel
theorem pm_a28_11 : pm_as (pm_cd pm_mm28) 11 = some (.bipush 40, 2) := by decide +kernel
theorem pm_a28_13 : pm_as (pm_cd pm_mm28) 13 = some (.if_icmp .lt 9, 3) := by decide +kernel
theorem pm_a28_16 : pm_as (pm_cd pm_mm28) 16 = some (.aload_n 0, 1) := by decide +kernel
theorem pm_a28_17 : pm_as (pm_cd pm_mm28) 17 = some (.iconst 4, 1) := by decide +kernel
theorem pm_a28_18 : pm_as (pm_cd pm_mm28) 18 = some (.invokevirtual 95, 3) := by decide +kernel
theorem pm_a28_21 : pm_as (pm_cd pm_mm28) 21 = some (.return_, 1) := by decide +kernel
theorem pm_a28_22 : pm_as (pm_cd pm_mm28) 22 = some (.aload_n 0, 1) := by decide +kernel
theorem pm_a28_23 : pm_as (pm_cd pm_mm28) 23 = some (.getfield 15, 3) := by decide +kernel
theorem pm_a28_26 : pm_as (pm_cd pm_mm28) 26 = some (.aload_n 0, 1) := by decide +kernel
theorem pm_a28_27 : pm_as (pm_cd pm_mm28) 27 = some (.getfield 29, 3) := by decide +kernel
theorem pm_a28_30 : pm_as (pm_cd pm_mm28) 30 = some (.iload_n 1, 1) := by decide +kernel
theorem pm_a28_31 : pm_as (pm_cd pm_mm28) 31 = some (.iastore, 1) := by decide +kernel
theorem pm_a28_32 : pm_as (pm_cd pm_mm28) 32 = some (.aload_n 0, 1) := by decide +kernel
theorem pm_a28_33 : pm_as (pm_cd pm_mm28) 33 = some (.getfield 18, 3) := by decide +kernel
theorem pm_a28_36 : pm_as (pm_cd pm_mm28) 36 = some (.aload_n 0, 1) := by decide +kernel
theorem pm_a28_37 : pm_as (pm_cd pm_mm28) 37 = some (.getfield 29, 3) := by decide +kernel
theorem pm_a28_40 : pm_as (pm_cd pm_mm28) 40 = some (.aload_n 0, 1) := by decide +kernel
theorem pm_a28_41 : pm_as (pm_cd pm_mm28) 41 = some (.getfield 140, 3) := by decide +kernel
theorem pm_a28_44 : pm_as (pm_cd pm_mm28) 44 = some (.iastore, 1) := by decide +kernel
theorem pm_a28_45 : pm_as (pm_cd pm_mm28) 45 = some (.aload_n 0, 1) := by decide +kernel
theorem pm_a28_46 : pm_as (pm_cd pm_mm28) 46 = some (.dup, 1) := by decide +kernel
theorem pm_a28_47 : pm_as (pm_cd pm_mm28) 47 = some (.getfield 29, 3) := by decide +kernel
theorem pm_a28_50 : pm_as (pm_cd pm_mm28) 50 = some (.iconst 1, 1) := by decide +kernel
theorem pm_a28_51 : pm_as (pm_cd pm_mm28) 51 = some (.iadd, 1) := by decide +kernel
theorem pm_a28_52 : pm_as (pm_cd pm_mm28) 52 = some (.putfield 29, 3) := by decide +kernel
theorem pm_a28_55 : pm_as (pm_cd pm_mm28) 55 = some (.return_, 1) := by decide +kernel
theorem pm_a29_0 : pm_as (pm_cd pm_mm29) 0 = some (.iconst 0, 1) := by decide +kernel
theorem pm_a29_1 : pm_as (pm_cd pm_mm29) 1 = some (.istore_n 1, 1) := by decide +kernel
theorem pm_a29_2 : pm_as (pm_cd pm_mm29) 2 = some (.aload_n 0, 1) := by decide +kernel
theorem pm_a29_3 : pm_as (pm_cd pm_mm29) 3 = some (.getfield 29, 3) := by decide +kernel
theorem pm_a29_6 : pm_as (pm_cd pm_mm29) 6 = some (.iconst 1, 1) := by decide +kernel
theorem pm_a29_7 : pm_as (pm_cd pm_mm29) 7 = some (.isub, 1) := by decide +kernel
theorem pm_a29_8 : pm_as (pm_cd pm_mm29) 8 = some (.istore_n 2, 1) := by decide +kernel
theorem pm_a29_9 : pm_as (pm_cd pm_mm29) 9 = some (.iload_n 2, 1) := by decide +kernel
theorem pm_a29_10 : pm_as (pm_cd pm_mm29) 10 = some (.ifCond .lt 53, 3) := by decide +kernel
theorem pm_a29_13 : pm_as (pm_cd pm_mm29) 13 = some (.iload_n 2, 1) := by decide +kernel
theorem pm_a29_14 : pm_as (pm_cd pm_mm29) 14 = some (.aload_n 0, 1) := by decide +kernel
theorem pm_a29_15 : pm_as (pm_cd pm_mm29) 15 = some (.getfield 15, 3) := by decide +kernel
theorem pm_a29_18 : pm_as (pm_cd pm_mm29) 18 = some (.arraylength, 1) := by decide +kernel
theorem pm_a29_19 : pm_as (pm_cd pm_mm29) 19 = some (.if_icmp .ge 38, 3) := by decide +kernel
theorem pm_a29_22 : pm_as (pm_cd pm_mm29) 22 = some (.aload_n 0, 1) := by decide +kernel
theorem pm_a29_23 : pm_as (pm_cd pm_mm29) 23 = some (.getfield 15, 3) := by decide +kernel
theorem pm_a29_26 : pm_as (pm_cd pm_mm29) 26 = some (.iload_n 2, 1) := by decide +kernel
theorem pm_a29_27 : pm_as (pm_cd pm_mm29) 27 = some (.iaload, 1) := by decide +kernel
theorem pm_a29_28 : pm_as (pm_cd pm_mm29) 28 = some (.iconst (-1), 1) := by decide +kernel
theorem pm_a29_29 : pm_as (pm_cd pm_mm29) 29 = some (.if_icmp .eq 28, 3) := by decide +kernel
theorem pm_a29_32 : pm_as (pm_cd pm_mm29) 32 = some (.aload_n 0, 1) := by decide +kernel
theorem pm_a29_33 : pm_as (pm_cd pm_mm29) 33 = some (.aload_n 0, 1) := by decide +kernel
theorem pm_a29_34 : pm_as (pm_cd pm_mm29) 34 = some (.getfield 15, 3) := by decide +kernel
theorem pm_a29_37 : pm_as (pm_cd pm_mm29) 37 = some (.iload_n 2, 1) := by decide +kernel
theorem pm_a29_38 : pm_as (pm_cd pm_mm29) 38 = some (.iaload, 1) := by decide +kernel
theorem pm_a29_39 : pm_as (pm_cd pm_mm29) 39 = some (.invokevirtual 130, 3) := by decide +kernel
theorem pm_a29_42 : pm_as (pm_cd pm_mm29) 42 = some (.ifCond .eq 12, 3) := by decide +kernel
theorem pm_a29_45 : pm_as (pm_cd pm_mm29) 45 = some (.aload_n 0, 1) := by decide +kernel
theorem pm_a29_46 : pm_as (pm_cd pm_mm29) 46 = some (.bipush 10, 2) := by decide +kernel
theorem pm_a29_48 : pm_as (pm_cd pm_mm29) 48 = some (.iload_n 1, 1) := by decide +kernel
theorem pm_a29_49 : pm_as (pm_cd pm_mm29) 49 = some (.iadd, 1) := by decide +kernel
theorem pm_a29_50 : pm_as (pm_cd pm_mm29) 50 = some (.invokevirtual 109, 3) := by decide +kernel
theorem pm_a29_53 : pm_as (pm_cd pm_mm29) 53 = some (.return_, 1) := by decide +kernel
theorem pm_a29_54 : pm_as (pm_cd pm_mm29) 54 = some (.iinc 1 1, 3) := by decide +kernel
theorem pm_a29_57 : pm_as (pm_cd pm_mm29) 57 = some (.iinc 2 (-1), 3) := by decide +kernel
theorem pm_a29_60 : pm_as (pm_cd pm_mm29) 60 = some (.goto (-51), 3) := by decide +kernel
theorem pm_a29_63 : pm_as (pm_cd pm_mm29) 63 = some (.aload_n 0, 1) := by decide +kernel
theorem pm_a29_64 : pm_as (pm_cd pm_mm29) 64 = some (.iconst 3, 1) := by decide +kernel
theorem pm_a29_65 : pm_as (pm_cd pm_mm29) 65 = some (.invokevirtual 95, 3) := by decide +kernel
theorem pm_a29_68 : pm_as (pm_cd pm_mm29) 68 = some (.return_, 1) := by decide +kernel
theorem pm_a30_0 : pm_as (pm_cd pm_mm30) 0 = some (.aload_n 0, 1) := by decide +kernel
theorem pm_a30_1 : pm_as (pm_cd pm_mm30) 1 = some (.getfield 35, 3) := by decide +kernel
theorem pm_a30_4 : pm_as (pm_cd pm_mm30) 4 = some (.aload_n 0, 1) := by decide +kernel
theorem pm_a30_5 : pm_as (pm_cd pm_mm30) 5 = some (.getfield 72, 3) := by decide +kernel
theorem pm_a30_8 : pm_as (pm_cd pm_mm30) 8 = some (.isub, 1) := by decide +kernel
theorem pm_a30_9 : pm_as (pm_cd pm_mm30) 9 = some (.istore_n 2, 1) := by decide +kernel
theorem pm_a30_10 : pm_as (pm_cd pm_mm30) 10 = some (.iconst 0, 1) := by decide +kernel
theorem pm_a30_11 : pm_as (pm_cd pm_mm30) 11 = some (.istore_n 3, 1) := by decide +kernel
theorem pm_a30_12 : pm_as (pm_cd pm_mm30) 12 = some (.iload_n 3, 1) := by decide +kernel
theorem pm_a30_13 : pm_as (pm_cd pm_mm30) 13 = some (.iload_n 2, 1) := by decide +kernel
theorem pm_a30_14 : pm_as (pm_cd pm_mm30) 14 = some (.if_icmp .ge 37, 3) := by decide +kernel
theorem pm_a30_17 : pm_as (pm_cd pm_mm30) 17 = some (.aload_n 0, 1) := by decide +kernel
theorem pm_a30_18 : pm_as (pm_cd pm_mm30) 18 = some (.getfield 21, 3) := by decide +kernel
theorem pm_a30_21 : pm_as (pm_cd pm_mm30) 21 = some (.iload_n 1, 1) := by decide +kernel
theorem pm_a30_22 : pm_as (pm_cd pm_mm30) 22 = some (.iload_n 3, 1) := by decide +kernel
theorem pm_a30_23 : pm_as (pm_cd pm_mm30) 23 = some (.iadd, 1) := by decide +kernel
theorem pm_a30_24 : pm_as (pm_cd pm_mm30) 24 = some (.invokevirtual 68, 3) := by decide +kernel
theorem pm_a30_27 : pm_as (pm_cd pm_mm30) 27 = some (.aload_n 0, 1) := by decide +kernel
theorem pm_a30_28 : pm_as (pm_cd pm_mm30) 28 = some (.getfield 21, 3) := by decide +kernel
theorem pm_a30_31 : pm_as (pm_cd pm_mm30) 31 = some (.aload_n 0, 1) := by decide +kernel
theorem pm_a30_32 : pm_as (pm_cd pm_mm30) 32 = some (.getfield 72, 3) := by decide +kernel
theorem pm_a30_35 : pm_as (pm_cd pm_mm30) 35 = some (.iload_n 3, 1) := by decide +kernel
theorem pm_a30_36 : pm_as (pm_cd pm_mm30) 36 = some (.iadd, 1) := by decide +kernel
theorem pm_a30_37 : pm_as (pm_cd pm_mm30) 37 = some (.invokevirtual 68, 3) := by decide +kernel
theorem pm_a30_40 : pm_as (pm_cd pm_mm30) 40 = some (.if_icmp .eq 5, 3) := by decide +kernel
theorem pm_a30_43 : pm_as (pm_cd pm_mm30) 43 = some (.iconst 0, 1) := by decide +kernel
theorem pm_a30_44 : pm_as (pm_cd pm_mm30) 44 = some (.ireturn, 1) := by decide +kernel
theorem pm_a30_45 : pm_as (pm_cd pm_mm30) 45 = some (.iinc 3 1, 3) := by decide +kernel
theorem pm_a30_48 : pm_as (pm_cd pm_mm30) 48 = some (.goto (-36), 3) := by decide +kernel
theorem pm_a30_51 : pm_as (pm_cd pm_mm30) 51 = some (.aload_n 0, 1) := by decide +kernel
theorem pm_a30_52 : pm_as (pm_cd pm_mm30) 52 = some (.getfield 21, 3) := by decide +kernel
theorem pm_a30_55 : pm_as (pm_cd pm_mm30) 55 = some (.iload_n 1, 1) := by decide +kernel
theorem pm_a30_56 : pm_as (pm_cd pm_mm30) 56 = some (.iload_n 2, 1) := by decide +kernel
theorem pm_a30_57 : pm_as (pm_cd pm_mm30) 57 = some (.iadd, 1) := by decide +kernel
theorem pm_a30_58 : pm_as (pm_cd pm_mm30) 58 = some (.invokevirtual 68, 3) := by decide +kernel
theorem pm_a30_61 : pm_as (pm_cd pm_mm30) 61 = some (.invokestatic 75, 3) := by decide +kernel
theorem pm_a30_64 : pm_as (pm_cd pm_mm30) 64 = some (.ifCond .ne 7, 3) := by decide +kernel
theorem pm_a30_67 : pm_as (pm_cd pm_mm30) 67 = some (.iconst 1, 1) := by decide +kernel
theorem pm_a30_68 : pm_as (pm_cd pm_mm30) 68 = some (.goto 4, 3) := by decide +kernel
theorem pm_a30_71 : pm_as (pm_cd pm_mm30) 71 = some (.iconst 0, 1) := by decide +kernel
theorem pm_a30_72 : pm_as (pm_cd pm_mm30) 72 = some (.ireturn, 1) := by decide +kernel
theorem pm_a31_0 : pm_as (pm_cd pm_mm31) 0 = some (.aload_n 0, 1) := by decide +kernel
theorem pm_a31_1 : pm_as (pm_cd pm_mm31) 1 = some (.invokevirtual 124, 3) := by decide +kernel
theorem pm_a31_4 : pm_as (pm_cd pm_mm31) 4 = some (.aload_n 0, 1) := by decide +kernel
theorem pm_a31_5 : pm_as (pm_cd pm_mm31) 5 = some (.iload_n 1, 1) := by decide +kernel
theorem pm_a31_6 : pm_as (pm_cd pm_mm31) 6 = some (.invokevirtual 121, 3) := by decide +kernel
theorem pm_a31_9 : pm_as (pm_cd pm_mm31) 9 = some (.return_, 1) := by decide +kernel
theorem pm_a32_0 : pm_as (pm_cd pm_mm32) 0 = some (.aload_n 0, 1) := by decide +kernel
theorem pm_a32_1 : pm_as (pm_cd pm_mm32) 1 = some (.getfield 140, 3) := by decide +kernel
theorem pm_a32_4 : pm_as (pm_cd pm_mm32) 4 = some (.ifCond .lt 28, 3) := by decide +kernel
theorem pm_a32_7 : pm_as (pm_cd pm_mm32) 7 = some (.aload_n 0, 1) := by decide +kernel
theorem pm_a32_8 : pm_as (pm_cd pm_mm32) 8 = some (.getfield 140, 3) := by decide +kernel
theorem pm_a32_11 : pm_as (pm_cd pm_mm32) 11 = some (.aload_n 0, 1) := by decide +kernel
theorem pm_a32_12 : pm_as (pm_cd pm_mm32) 12 = some (.getfield 9, 3) := by decide +kernel
theorem pm_a32_15 : pm_as (pm_cd pm_mm32) 15 = some (.arraylength, 1) := by decide +kernel
theorem pm_a32_16 : pm_as (pm_cd pm_mm32) 16 = some (.if_icmp .ge 16, 3) := by decide +kernel
theorem pm_a32_19 : pm_as (pm_cd pm_mm32) 19 = some (.aload_n 0, 1) := by decide +kernel
theorem pm_a32_20 : pm_as (pm_cd pm_mm32) 20 = some (.getfield 9, 3) := by decide +kernel
theorem pm_a32_23 : pm_as (pm_cd pm_mm32) 23 = some (.aload_n 0, 1) := by decide +kernel
theorem pm_a32_24 : pm_as (pm_cd pm_mm32) 24 = some (.getfield 140, 3) := by decide +kernel
theorem pm_a32_27 : pm_as (pm_cd pm_mm32) 27 = some (.dup2, 1) := by decide +kernel
theorem pm_a32_28 : pm_as (pm_cd pm_mm32) 28 = some (.iaload, 1) := by decide +kernel
theorem pm_a32_29 : pm_as (pm_cd pm_mm32) 29 = some (.iconst 1, 1) := by decide +kernel
theorem pm_a32_30 : pm_as (pm_cd pm_mm32) 30 = some (.isub, 1) := by decide +kernel
theorem pm_a32_31 : pm_as (pm_cd pm_mm32) 31 = some (.iastore, 1) := by decide +kernel
theorem pm_a32_32 : pm_as (pm_cd pm_mm32) 32 = some (.return_, 1) := by decide +kernel
theorem pm_a33_0 : pm_as (pm_cd pm_mm33) 0 = some (.iload_n 1, 1) := by decide +kernel
theorem pm_a33_1 : pm_as (pm_cd pm_mm33) 1 = some (.bipush 40, 2) := by decide +kernel
theorem pm_a33_3 : pm_as (pm_cd pm_mm33) 3 = some (.if_icmp .ne 19, 3) := by decide +kernel
theorem pm_a33_6 : pm_as (pm_cd pm_mm33) 6 = some (.aload_n 0, 1) := by decide +kernel
theorem pm_a33_7 : pm_as (pm_cd pm_mm33) 7 = some (.invokevirtual 124, 3) := by decide +kernel
theorem pm_a33_10 : pm_as (pm_cd pm_mm33) 10 = some (.aload_n 0, 1) := by decide +kernel
theorem pm_a33_11 : pm_as (pm_cd pm_mm33) 11 = some (.iconst (-1), 1) := by decide +kernel
theorem pm_a33_12 : pm_as (pm_cd pm_mm33) 12 = some (.invokevirtual 118, 3) := by decide +kernel
theorem pm_a33_15 : pm_as (pm_cd pm_mm33) 15 = some (.aload_n 0, 1) := by decide +kernel
theorem pm_a33_16 : pm_as (pm_cd pm_mm33) 16 = some (.invokevirtual 44, 3) := by decide +kernel
theorem pm_a33_19 : pm_as (pm_cd pm_mm33) 19 = some (.goto 39, 3) := by decide +kernel
theorem pm_a33_22 : pm_as (pm_cd pm_mm33) 22 = some (.iload_n 1, 1) := by decide +kernel
theorem pm_a33_23 : pm_as (pm_cd pm_mm33) 23 = some (.bipush 92, 2) := by decide +kernel
theorem pm_a33_25 : pm_as (pm_cd pm_mm33) 25 = some (.if_icmp .ne 15, 3) := by decide +kernel
theorem pm_a33_28 : pm_as (pm_cd pm_mm33) 28 = some (.aload_n 0, 1) := by decide +kernel
theorem pm_a33_29 : pm_as (pm_cd pm_mm33) 29 = some (.invokevirtual 124, 3) := by decide +kernel
theorem pm_a33_32 : pm_as (pm_cd pm_mm33) 32 = some (.aload_n 0, 1) := by decide +kernel
theorem pm_a33_33 : pm_as (pm_cd pm_mm33) 33 = some (.iconst 1, 1) := by decide +kernel
theorem pm_a33_34 : pm_as (pm_cd pm_mm33) 34 = some (.putfield 32, 3) := by decide +kernel
theorem pm_a33_37 : pm_as (pm_cd pm_mm33) 37 = some (.goto 21, 3) := by decide +kernel
theorem pm_a33_40 : pm_as (pm_cd pm_mm33) 40 = some (.iload_n 1, 1) := by decide +kernel
theorem pm_a33_41 : pm_as (pm_cd pm_mm33) 41 = some (.bipush 41, 2) := by decide +kernel
theorem pm_a33_43 : pm_as (pm_cd pm_mm33) 43 = some (.if_icmp .ne 10, 3) := by decide +kernel
theorem pm_a33_46 : pm_as (pm_cd pm_mm33) 46 = some (.aload_n 0, 1) := by decide +kernel
theorem pm_a33_47 : pm_as (pm_cd pm_mm33) 47 = some (.invokevirtual 127, 3) := by decide +kernel
theorem pm_a33_50 : pm_as (pm_cd pm_mm33) 50 = some (.goto 8, 3) := by decide +kernel
theorem pm_a33_53 : pm_as (pm_cd pm_mm33) 53 = some (.aload_n 0, 1) := by decide +kernel
theorem pm_a33_54 : pm_as (pm_cd pm_mm33) 54 = some (.iconst 2, 1) := by decide +kernel
theorem pm_a33_55 : pm_as (pm_cd pm_mm33) 55 = some (.invokevirtual 95, 3) := by decide +kernel
theorem pm_a33_58 : pm_as (pm_cd pm_mm33) 58 = some (.return_, 1) := by decide +kernel
theorem pm_a34_0 : pm_as (pm_cd pm_mm34) 0 = some (.aload_n 0, 1) := by decide +kernel
theorem pm_a34_1 : pm_as (pm_cd pm_mm34) 1 = some (.invokevirtual 137, 3) := by decide +kernel
theorem pm_a34_4 : pm_as (pm_cd pm_mm34) 4 = some (.istore_n 1, 1) := by decide +kernel
theorem pm_a34_5 : pm_as (pm_cd pm_mm34) 5 = some (.aload_n 0, 1) := by decide +kernel
theorem pm_a34_6 : pm_as (pm_cd pm_mm34) 6 = some (.invokevirtual 133, 3) := by decide +kernel
theorem pm_a34_9 : pm_as (pm_cd pm_mm34) 9 = some (.ifCond .ne 16, 3) := by decide +kernel
theorem pm_a34_12 : pm_as (pm_cd pm_mm34) 12 = some (.iload_n 1, 1) := by decide +kernel
theorem pm_a34_13 : pm_as (pm_cd pm_mm34) 13 = some (.ifCond .lt 12, 3) := by decide +kernel
theorem pm_a34_16 : pm_as (pm_cd pm_mm34) 16 = some (.iload_n 1, 1) := by decide +kernel
theorem pm_a34_17 : pm_as (pm_cd pm_mm34) 17 = some (.aload_n 0, 1) := by decide +kernel
theorem pm_a34_18 : pm_as (pm_cd pm_mm34) 18 = some (.getfield 18, 3) := by decide +kernel
theorem pm_a34_21 : pm_as (pm_cd pm_mm34) 21 = some (.arraylength, 1) := by decide +kernel
theorem pm_a34_22 : pm_as (pm_cd pm_mm34) 22 = some (.if_icmp .lt 9, 3) := by decide +kernel
theorem pm_a34_25 : pm_as (pm_cd pm_mm34) 25 = some (.aload_n 0, 1) := by decide +kernel
theorem pm_a34_26 : pm_as (pm_cd pm_mm34) 26 = some (.iconst 2, 1) := by decide +kernel
theorem pm_a34_27 : pm_as (pm_cd pm_mm34) 27 = some (.invokevirtual 95, 3) := by decide +kernel
theorem pm_a34_30 : pm_as (pm_cd pm_mm34) 30 = some (.return_, 1) := by decide +kernel
theorem pm_a34_31 : pm_as (pm_cd pm_mm34) 31 = some (.aload_n 0, 1) := by decide +kernel
theorem pm_a34_32 : pm_as (pm_cd pm_mm34) 32 = some (.iload_n 1, 1) := by decide +kernel
theorem pm_a34_33 : pm_as (pm_cd pm_mm34) 33 = some (.putfield 29, 3) := by decide +kernel
theorem pm_a34_36 : pm_as (pm_cd pm_mm34) 36 = some (.aload_n 0, 1) := by decide +kernel
theorem pm_a34_37 : pm_as (pm_cd pm_mm34) 37 = some (.aload_n 0, 1) := by decide +kernel
theorem pm_a34_38 : pm_as (pm_cd pm_mm34) 38 = some (.getfield 18, 3) := by decide +kernel
theorem pm_a34_41 : pm_as (pm_cd pm_mm34) 41 = some (.iload_n 1, 1) := by decide +kernel
theorem pm_a34_42 : pm_as (pm_cd pm_mm34) 42 = some (.iaload, 1) := by decide +kernel
theorem pm_a34_43 : pm_as (pm_cd pm_mm34) 43 = some (.putfield 140, 3) := by decide +kernel
theorem pm_a34_46 : pm_as (pm_cd pm_mm34) 46 = some (.return_, 1) := by decide +kernel
theorem pm_a35_0 : pm_as (pm_cd pm_mm35) 0 = some (.aload_n 0, 1) := by decide +kernel
theorem pm_a35_1 : pm_as (pm_cd pm_mm35) 1 = some (.getfield 29, 3) := by decide +kernel
theorem pm_a35_4 : pm_as (pm_cd pm_mm35) 4 = some (.iconst 1, 1) := by decide +kernel
theorem pm_a35_5 : pm_as (pm_cd pm_mm35) 5 = some (.isub, 1) := by decide +kernel
theorem pm_a35_6 : pm_as (pm_cd pm_mm35) 6 = some (.istore_n 1, 1) := by decide +kernel
theorem pm_a35_7 : pm_as (pm_cd pm_mm35) 7 = some (.iload_n 1, 1) := by decide +kernel
theorem pm_a35_8 : pm_as (pm_cd pm_mm35) 8 = some (.ifCond .lt 30, 3) := by decide +kernel
theorem pm_a35_11 : pm_as (pm_cd pm_mm35) 11 = some (.iload_n 1, 1) := by decide +kernel
theorem pm_a35_12 : pm_as (pm_cd pm_mm35) 12 = some (.aload_n 0, 1) := by decide +kernel
theorem pm_a35_13 : pm_as (pm_cd pm_mm35) 13 = some (.getfield 15, 3) := by decide +kernel
theorem pm_a35_16 : pm_as (pm_cd pm_mm35) 16 = some (.arraylength, 1) := by decide +kernel
theorem pm_a35_17 : pm_as (pm_cd pm_mm35) 17 = some (.if_icmp .ge 15, 3) := by decide +kernel
theorem pm_a35_20 : pm_as (pm_cd pm_mm35) 20 = some (.aload_n 0, 1) := by decide +kernel
theorem pm_a35_21 : pm_as (pm_cd pm_mm35) 21 = some (.getfield 15, 3) := by decide +kernel
theorem pm_a35_24 : pm_as (pm_cd pm_mm35) 24 = some (.iload_n 1, 1) := by decide +kernel
theorem pm_a35_25 : pm_as (pm_cd pm_mm35) 25 = some (.iaload, 1) := by decide +kernel
theorem pm_a35_26 : pm_as (pm_cd pm_mm35) 26 = some (.iconst (-1), 1) := by decide +kernel
theorem pm_a35_27 : pm_as (pm_cd pm_mm35) 27 = some (.if_icmp .ne 5, 3) := by decide +kernel
theorem pm_a35_30 : pm_as (pm_cd pm_mm35) 30 = some (.iload_n 1, 1) := by decide +kernel
theorem pm_a35_31 : pm_as (pm_cd pm_mm35) 31 = some (.ireturn, 1) := by decide +kernel
theorem pm_a35_32 : pm_as (pm_cd pm_mm35) 32 = some (.iinc 1 (-1), 3) := by decide +kernel
theorem pm_a35_35 : pm_as (pm_cd pm_mm35) 35 = some (.goto (-28), 3) := by decide +kernel
theorem pm_a35_38 : pm_as (pm_cd pm_mm35) 38 = some (.bipush (-4), 2) := by decide +kernel
theorem pm_a35_40 : pm_as (pm_cd pm_mm35) 40 = some (.ireturn, 1) := by decide +kernel
theorem pm_a36_0 : pm_as (pm_cd pm_mm36) 0 = some (.aload_n 0, 1) := by decide +kernel
theorem pm_a36_1 : pm_as (pm_cd pm_mm36) 1 = some (.getfield 140, 3) := by decide +kernel
theorem pm_a36_4 : pm_as (pm_cd pm_mm36) 4 = some (.ifCond .lt 27, 3) := by decide +kernel
theorem pm_a36_7 : pm_as (pm_cd pm_mm36) 7 = some (.aload_n 0, 1) := by decide +kernel
theorem pm_a36_8 : pm_as (pm_cd pm_mm36) 8 = some (.getfield 140, 3) := by decide +kernel
theorem pm_a36_11 : pm_as (pm_cd pm_mm36) 11 = some (.aload_n 0, 1) := by decide +kernel
theorem pm_a36_12 : pm_as (pm_cd pm_mm36) 12 = some (.getfield 9, 3) := by decide +kernel
theorem pm_a36_15 : pm_as (pm_cd pm_mm36) 15 = some (.arraylength, 1) := by decide +kernel
theorem pm_a36_16 : pm_as (pm_cd pm_mm36) 16 = some (.if_icmp .ge 15, 3) := by decide +kernel
theorem pm_a36_19 : pm_as (pm_cd pm_mm36) 19 = some (.aload_n 0, 1) := by decide +kernel
theorem pm_a36_20 : pm_as (pm_cd pm_mm36) 20 = some (.getfield 9, 3) := by decide +kernel
theorem pm_a36_23 : pm_as (pm_cd pm_mm36) 23 = some (.aload_n 0, 1) := by decide +kernel
theorem pm_a36_24 : pm_as (pm_cd pm_mm36) 24 = some (.getfield 140, 3) := by decide +kernel
theorem pm_a36_27 : pm_as (pm_cd pm_mm36) 27 = some (.iaload, 1) := by decide +kernel
theorem pm_a36_28 : pm_as (pm_cd pm_mm36) 28 = some (.ifCond .ne 7, 3) := by decide +kernel
theorem pm_a36_31 : pm_as (pm_cd pm_mm36) 31 = some (.iconst 1, 1) := by decide +kernel
theorem pm_a36_32 : pm_as (pm_cd pm_mm36) 32 = some (.goto 4, 3) := by decide +kernel
theorem pm_a36_35 : pm_as (pm_cd pm_mm36) 35 = some (.iconst 0, 1) := by decide +kernel
theorem pm_a36_36 : pm_as (pm_cd pm_mm36) 36 = some (.ireturn, 1) := by decide +kernel
theorem pm_a37_0 : pm_as (pm_cd pm_mm37) 0 = some (.aload_n 0, 1) := by decide +kernel
theorem pm_a37_1 : pm_as (pm_cd pm_mm37) 1 = some (.invokevirtual 133, 3) := by decide +kernel
theorem pm_a37_4 : pm_as (pm_cd pm_mm37) 4 = some (.ifCond .ne 10, 3) := by decide +kernel
theorem pm_a37_7 : pm_as (pm_cd pm_mm37) 7 = some (.aload_n 0, 1) := by decide +kernel
theorem pm_a37_8 : pm_as (pm_cd pm_mm37) 8 = some (.invokevirtual 137, 3) := by decide +kernel
theorem pm_a37_11 : pm_as (pm_cd pm_mm37) 11 = some (.ifCond .lt 8, 3) := by decide +kernel
theorem pm_a37_14 : pm_as (pm_cd pm_mm37) 14 = some (.aload_n 0, 1) := by decide +kernel
theorem pm_a37_15 : pm_as (pm_cd pm_mm37) 15 = some (.iconst 2, 1) := by decide +kernel
theorem pm_a37_16 : pm_as (pm_cd pm_mm37) 16 = some (.invokevirtual 95, 3) := by decide +kernel
theorem pm_a37_19 : pm_as (pm_cd pm_mm37) 19 = some (.return_, 1) := by decide +kernel
theorem pm_a38_0 : pm_as (pm_cd pm_mm38) 0 = some (.iconst 0, 1) := by decide +kernel
theorem pm_a38_1 : pm_as (pm_cd pm_mm38) 1 = some (.istore_n 2, 1) := by decide +kernel
theorem pm_a38_2 : pm_as (pm_cd pm_mm38) 2 = some (.iload_n 2, 1) := by decide +kernel
theorem pm_a38_3 : pm_as (pm_cd pm_mm38) 3 = some (.aload_n 0, 1) := by decide +kernel
theorem pm_a38_4 : pm_as (pm_cd pm_mm38) 4 = some (.getfield 25, 3) := by decide +kernel
theorem pm_a38_7 : pm_as (pm_cd pm_mm38) 7 = some (.if_icmp .ge 35, 3) := by decide +kernel
theorem pm_a38_10 : pm_as (pm_cd pm_mm38) 10 = some (.iload_n 2, 1) := by decide +kernel
theorem pm_a38_11 : pm_as (pm_cd pm_mm38) 11 = some (.aload_n 0, 1) := by decide +kernel
theorem pm_a38_12 : pm_as (pm_cd pm_mm38) 12 = some (.getfield 9, 3) := by decide +kernel
theorem pm_a38_15 : pm_as (pm_cd pm_mm38) 15 = some (.arraylength, 1) := by decide +kernel
theorem pm_a38_16 : pm_as (pm_cd pm_mm38) 16 = some (.if_icmp .ge 26, 3) := by decide +kernel
theorem pm_a38_19 : pm_as (pm_cd pm_mm38) 19 = some (.aload_n 1, 1) := by decide +kernel
theorem pm_a38_20 : pm_as (pm_cd pm_mm38) 20 = some (.getfield 143, 3) := by decide +kernel
theorem pm_a38_23 : pm_as (pm_cd pm_mm38) 23 = some (.ifCond .ne 19, 3) := by decide +kernel
theorem pm_a38_26 : pm_as (pm_cd pm_mm38) 26 = some (.aload_n 0, 1) := by decide +kernel
theorem pm_a38_27 : pm_as (pm_cd pm_mm38) 27 = some (.getfield 9, 3) := by decide +kernel
theorem pm_a38_30 : pm_as (pm_cd pm_mm38) 30 = some (.iload_n 2, 1) := by decide +kernel
theorem pm_a38_31 : pm_as (pm_cd pm_mm38) 31 = some (.iaload, 1) := by decide +kernel
theorem pm_a38_32 : pm_as (pm_cd pm_mm38) 32 = some (.aload_n 1, 1) := by decide +kernel
theorem pm_a38_33 : pm_as (pm_cd pm_mm38) 33 = some (.invokestatic 149, 3) := by decide +kernel
theorem pm_a38_36 : pm_as (pm_cd pm_mm38) 36 = some (.iinc 2 1, 3) := by decide +kernel
theorem pm_a38_39 : pm_as (pm_cd pm_mm38) 39 = some (.goto (-37), 3) := by decide +kernel
theorem pm_a38_42 : pm_as (pm_cd pm_mm38) 42 = some (.aload_n 1, 1) := by decide +kernel
theorem pm_a38_43 : pm_as (pm_cd pm_mm38) 43 = some (.getfield 143, 3) := by decide +kernel
theorem pm_a38_46 : pm_as (pm_cd pm_mm38) 46 = some (.ifCond .eq 8, 3) := by decide +kernel
theorem pm_a38_49 : pm_as (pm_cd pm_mm38) 49 = some (.aload_n 0, 1) := by decide +kernel
theorem pm_a38_50 : pm_as (pm_cd pm_mm38) 50 = some (.iconst 5, 1) := by decide +kernel
theorem pm_a38_51 : pm_as (pm_cd pm_mm38) 51 = some (.putfield 38, 3) := by decide +kernel
theorem pm_a38_54 : pm_as (pm_cd pm_mm38) 54 = some (.return_, 1) := by decide +kernel
theorem pm_a39_0 : pm_as (pm_cd pm_mm39) 0 = some (.iload_n 0, 1) := by decide +kernel
theorem pm_a39_1 : pm_as (pm_cd pm_mm39) 1 = some (.ifCond .ge 25, 3) := by decide +kernel
theorem pm_a39_4 : pm_as (pm_cd pm_mm39) 4 = some (.iload_n 0, 1) := by decide +kernel
theorem pm_a39_5 : pm_as (pm_cd pm_mm39) 5 = some (.ineg, 1) := by decide +kernel
theorem pm_a39_6 : pm_as (pm_cd pm_mm39) 6 = some (.istore_n 2, 1) := by decide +kernel
theorem pm_a39_7 : pm_as (pm_cd pm_mm39) 7 = some (.iload_n 2, 1) := by decide +kernel
theorem pm_a39_8 : pm_as (pm_cd pm_mm39) 8 = some (.iconst 1, 1) := by decide +kernel
theorem pm_a39_9 : pm_as (pm_cd pm_mm39) 9 = some (.if_icmp .le 14, 3) := by decide +kernel
theorem pm_a39_12 : pm_as (pm_cd pm_mm39) 12 = some (.aload_n 1, 1) := by decide +kernel
theorem pm_a39_13 : pm_as (pm_cd pm_mm39) 13 = some (.iconst 0, 1) := by decide +kernel
theorem pm_a39_14 : pm_as (pm_cd pm_mm39) 14 = some (.invokevirtual 153, 3) := by decide +kernel
theorem pm_a39_17 : pm_as (pm_cd pm_mm39) 17 = some (.iinc 2 (-1), 3) := by decide +kernel
theorem pm_a39_20 : pm_as (pm_cd pm_mm39) 20 = some (.goto (-13), 3) := by decide +kernel
theorem pm_a39_23 : pm_as (pm_cd pm_mm39) 23 = some (.goto 27, 3) := by decide +kernel
theorem pm_a39_26 : pm_as (pm_cd pm_mm39) 26 = some (.iload_n 0, 1) := by decide +kernel
theorem pm_a39_27 : pm_as (pm_cd pm_mm39) 27 = some (.sipush 1000, 3) := by decide +kernel
theorem pm_a39_30 : pm_as (pm_cd pm_mm39) 30 = some (.if_icmp .lt 15, 3) := by decide +kernel
theorem pm_a39_33 : pm_as (pm_cd pm_mm39) 33 = some (.iload_n 0, 1) := by decide +kernel
theorem pm_a39_34 : pm_as (pm_cd pm_mm39) 34 = some (.sipush 1000, 3) := by decide +kernel
theorem pm_a39_37 : pm_as (pm_cd pm_mm39) 37 = some (.isub, 1) := by decide +kernel
theorem pm_a39_38 : pm_as (pm_cd pm_mm39) 38 = some (.aload_n 1, 1) := by decide +kernel
theorem pm_a39_39 : pm_as (pm_cd pm_mm39) 39 = some (.invokestatic 156, 3) := by decide +kernel
theorem pm_a39_42 : pm_as (pm_cd pm_mm39) 42 = some (.goto 8, 3) := by decide +kernel
theorem pm_a39_45 : pm_as (pm_cd pm_mm39) 45 = some (.aload_n 1, 1) := by decide +kernel
theorem pm_a39_46 : pm_as (pm_cd pm_mm39) 46 = some (.iload_n 0, 1) := by decide +kernel
theorem pm_a39_47 : pm_as (pm_cd pm_mm39) 47 = some (.invokevirtual 153, 3) := by decide +kernel
theorem pm_a39_50 : pm_as (pm_cd pm_mm39) 50 = some (.return_, 1) := by decide +kernel
theorem pm_a40_0 : pm_as (pm_cd pm_mm40) 0 = some (.aload_n 0, 1) := by decide +kernel
theorem pm_a40_1 : pm_as (pm_cd pm_mm40) 1 = some (.getfield 21, 3) := by decide +kernel
theorem pm_a40_4 : pm_as (pm_cd pm_mm40) 4 = some (.ifCond .lt 38, 3) := by decide +kernel
theorem pm_a40_7 : pm_as (pm_cd pm_mm40) 7 = some (.aload_n 0, 1) := by decide +kernel
theorem pm_a40_8 : pm_as (pm_cd pm_mm40) 8 = some (.getfield 21, 3) := by decide +kernel
theorem pm_a40_11 : pm_as (pm_cd pm_mm40) 11 = some (.aload_n 0, 1) := by decide +kernel
theorem pm_a40_12 : pm_as (pm_cd pm_mm40) 12 = some (.getfield 15, 3) := by decide +kernel
theorem pm_a40_15 : pm_as (pm_cd pm_mm40) 15 = some (.arraylength, 1) := by decide +kernel
theorem pm_a40_16 : pm_as (pm_cd pm_mm40) 16 = some (.if_icmp .ge 26, 3) := by decide +kernel
theorem pm_a40_19 : pm_as (pm_cd pm_mm40) 19 = some (.aload_n 0, 1) := by decide +kernel
theorem pm_a40_20 : pm_as (pm_cd pm_mm40) 20 = some (.getfield 15, 3) := by decide +kernel
theorem pm_a40_23 : pm_as (pm_cd pm_mm40) 23 = some (.aload_n 0, 1) := by decide +kernel
theorem pm_a40_24 : pm_as (pm_cd pm_mm40) 24 = some (.getfield 21, 3) := by decide +kernel
theorem pm_a40_27 : pm_as (pm_cd pm_mm40) 27 = some (.iload_n 1, 1) := by decide +kernel
theorem pm_a40_28 : pm_as (pm_cd pm_mm40) 28 = some (.iastore, 1) := by decide +kernel
theorem pm_a40_29 : pm_as (pm_cd pm_mm40) 29 = some (.aload_n 0, 1) := by decide +kernel
theorem pm_a40_30 : pm_as (pm_cd pm_mm40) 30 = some (.dup, 1) := by decide +kernel
theorem pm_a40_31 : pm_as (pm_cd pm_mm40) 31 = some (.getfield 21, 3) := by decide +kernel
theorem pm_a40_34 : pm_as (pm_cd pm_mm40) 34 = some (.iconst 1, 1) := by decide +kernel
theorem pm_a40_35 : pm_as (pm_cd pm_mm40) 35 = some (.iadd, 1) := by decide +kernel
theorem pm_a40_36 : pm_as (pm_cd pm_mm40) 36 = some (.putfield 21, 3) := by decide +kernel
theorem pm_a40_39 : pm_as (pm_cd pm_mm40) 39 = some (.goto 8, 3) := by decide +kernel
theorem pm_a40_42 : pm_as (pm_cd pm_mm40) 42 = some (.aload_n 0, 1) := by decide +kernel
theorem pm_a40_43 : pm_as (pm_cd pm_mm40) 43 = some (.iconst 1, 1) := by decide +kernel
theorem pm_a40_44 : pm_as (pm_cd pm_mm40) 44 = some (.putfield 25, 3) := by decide +kernel
theorem pm_a40_47 : pm_as (pm_cd pm_mm40) 47 = some (.return_, 1) := by decide +kernel
theorem pm_a41_0 : pm_as (pm_cd pm_mm41) 0 = some (.aload_n 1, 1) := by decide +kernel
theorem pm_a41_1 : pm_as (pm_cd pm_mm41) 1 = some (.iconst 1, 1) := by decide +kernel
theorem pm_a41_2 : pm_as (pm_cd pm_mm41) 2 = some (.invokevirtual 153, 3) := by decide +kernel
theorem pm_a41_5 : pm_as (pm_cd pm_mm41) 5 = some (.aload_n 1, 1) := by decide +kernel
theorem pm_a41_6 : pm_as (pm_cd pm_mm41) 6 = some (.iconst 1, 1) := by decide +kernel
theorem pm_a41_7 : pm_as (pm_cd pm_mm41) 7 = some (.invokevirtual 153, 3) := by decide +kernel
theorem pm_a41_10 : pm_as (pm_cd pm_mm41) 10 = some (.iconst 0, 1) := by decide +kernel
theorem pm_a41_11 : pm_as (pm_cd pm_mm41) 11 = some (.istore_n 2, 1) := by decide +kernel
theorem pm_a41_12 : pm_as (pm_cd pm_mm41) 12 = some (.iload_n 2, 1) := by decide +kernel
theorem pm_a41_13 : pm_as (pm_cd pm_mm41) 13 = some (.iload_n 0, 1) := by decide +kernel
theorem pm_a41_14 : pm_as (pm_cd pm_mm41) 14 = some (.if_icmp .ge 20, 3) := by decide +kernel
theorem pm_a41_17 : pm_as (pm_cd pm_mm41) 17 = some (.aload_n 1, 1) := by decide +kernel
theorem pm_a41_18 : pm_as (pm_cd pm_mm41) 18 = some (.iconst 0, 1) := by decide +kernel
theorem pm_a41_19 : pm_as (pm_cd pm_mm41) 19 = some (.invokevirtual 153, 3) := by decide +kernel
theorem pm_a41_22 : pm_as (pm_cd pm_mm41) 22 = some (.aload_n 1, 1) := by decide +kernel
theorem pm_a41_23 : pm_as (pm_cd pm_mm41) 23 = some (.bipush 11, 2) := by decide +kernel
theorem pm_a41_25 : pm_as (pm_cd pm_mm41) 25 = some (.invokevirtual 153, 3) := by decide +kernel
theorem pm_a41_28 : pm_as (pm_cd pm_mm41) 28 = some (.iinc 2 1, 3) := by decide +kernel
theorem pm_a41_31 : pm_as (pm_cd pm_mm41) 31 = some (.goto (-19), 3) := by decide +kernel
theorem pm_a41_34 : pm_as (pm_cd pm_mm41) 34 = some (.aload_n 1, 1) := by decide +kernel
theorem pm_a41_35 : pm_as (pm_cd pm_mm41) 35 = some (.bipush 10, 2) := by decide +kernel
theorem pm_a41_37 : pm_as (pm_cd pm_mm41) 37 = some (.invokevirtual 153, 3) := by decide +kernel
theorem pm_a41_40 : pm_as (pm_cd pm_mm41) 40 = some (.return_, 1) := by decide +kernel
theorem pm_a42_0 : pm_as (pm_cd pm_mm42) 0 = some (.aload_n 0, 1) := by decide +kernel
theorem pm_a42_1 : pm_as (pm_cd pm_mm42) 1 = some (.dup, 1) := by decide +kernel
theorem pm_a42_2 : pm_as (pm_cd pm_mm42) 2 = some (.getfield 179, 3) := by decide +kernel
theorem pm_a42_5 : pm_as (pm_cd pm_mm42) 5 = some (.iconst 1, 1) := by decide +kernel
theorem pm_a42_6 : pm_as (pm_cd pm_mm42) 6 = some (.iadd, 1) := by decide +kernel
theorem pm_a42_7 : pm_as (pm_cd pm_mm42) 7 = some (.putfield 179, 3) := by decide +kernel
theorem pm_a42_10 : pm_as (pm_cd pm_mm42) 10 = some (.aload_n 0, 1) := by decide +kernel
theorem pm_a42_11 : pm_as (pm_cd pm_mm42) 11 = some (.getfield 179, 3) := by decide +kernel
theorem pm_a42_14 : pm_as (pm_cd pm_mm42) 14 = some (.iconst 1, 1) := by decide +kernel
theorem pm_a42_15 : pm_as (pm_cd pm_mm42) 15 = some (.isub, 1) := by decide +kernel
theorem pm_a42_16 : pm_as (pm_cd pm_mm42) 16 = some (.ireturn, 1) := by decide +kernel
theorem pm_a43_0 : pm_as (pm_cd pm_mm43) 0 = some (.aload_n 0, 1) := by decide +kernel
theorem pm_a43_1 : pm_as (pm_cd pm_mm43) 1 = some (.getfield 76, 3) := by decide +kernel
theorem pm_a43_4 : pm_as (pm_cd pm_mm43) 4 = some (.ireturn, 1) := by decide +kernel
theorem pm_a44_0 : pm_as (pm_cd pm_mm44) 0 = some (.aload_n 0, 1) := by decide +kernel
theorem pm_a44_1 : pm_as (pm_cd pm_mm44) 1 = some (.iload_n 1, 1) := by decide +kernel
theorem pm_a44_2 : pm_as (pm_cd pm_mm44) 2 = some (.invokevirtual 86, 3) := by decide +kernel
theorem pm_a44_5 : pm_as (pm_cd pm_mm44) 5 = some (.astore_n 2, 1) := by decide +kernel
theorem pm_a44_6 : pm_as (pm_cd pm_mm44) 6 = some (.aload_n 2, 1) := by decide +kernel
theorem pm_a44_7 : pm_as (pm_cd pm_mm44) 7 = some (.ifnonnull 7, 3) := by decide +kernel
theorem pm_a44_10 : pm_as (pm_cd pm_mm44) 10 = some (.iconst (-1), 1) := by decide +kernel
theorem pm_a44_11 : pm_as (pm_cd pm_mm44) 11 = some (.goto 7, 3) := by decide +kernel
theorem pm_a44_14 : pm_as (pm_cd pm_mm44) 14 = some (.aload_n 2, 1) := by decide +kernel
theorem pm_a44_15 : pm_as (pm_cd pm_mm44) 15 = some (.getfield 90, 3) := by decide +kernel
theorem pm_a44_18 : pm_as (pm_cd pm_mm44) 18 = some (.ireturn, 1) := by decide +kernel
theorem pm_a45_0 : pm_as (pm_cd pm_mm45) 0 = some (.iload_n 1, 1) := by decide +kernel
theorem pm_a45_1 : pm_as (pm_cd pm_mm45) 1 = some (.ifCond .lt 29, 3) := by decide +kernel
theorem pm_a45_4 : pm_as (pm_cd pm_mm45) 4 = some (.iload_n 1, 1) := by decide +kernel
theorem pm_a45_5 : pm_as (pm_cd pm_mm45) 5 = some (.aload_n 0, 1) := by decide +kernel
theorem pm_a45_6 : pm_as (pm_cd pm_mm45) 6 = some (.getfield 179, 3) := by decide +kernel
theorem pm_a45_9 : pm_as (pm_cd pm_mm45) 9 = some (.if_icmp .ge 21, 3) := by decide +kernel
theorem pm_a45_12 : pm_as (pm_cd pm_mm45) 12 = some (.iload_n 1, 1) := by decide +kernel
theorem pm_a45_13 : pm_as (pm_cd pm_mm45) 13 = some (.aload_n 0, 1) := by decide +kernel
theorem pm_a45_14 : pm_as (pm_cd pm_mm45) 14 = some (.getfield 18, 3) := by decide +kernel
theorem pm_a45_17 : pm_as (pm_cd pm_mm45) 17 = some (.arraylength, 1) := by decide +kernel
theorem pm_a45_18 : pm_as (pm_cd pm_mm45) 18 = some (.if_icmp .ge 12, 3) := by decide +kernel
theorem pm_a45_21 : pm_as (pm_cd pm_mm45) 21 = some (.aload_n 0, 1) := by decide +kernel
theorem pm_a45_22 : pm_as (pm_cd pm_mm45) 22 = some (.getfield 18, 3) := by decide +kernel
theorem pm_a45_25 : pm_as (pm_cd pm_mm45) 25 = some (.iload_n 1, 1) := by decide +kernel
theorem pm_a45_26 : pm_as (pm_cd pm_mm45) 26 = some (.aaload, 1) := by decide +kernel
theorem pm_a45_27 : pm_as (pm_cd pm_mm45) 27 = some (.goto 4, 3) := by decide +kernel
theorem pm_a45_30 : pm_as (pm_cd pm_mm45) 30 = some (.aconst_null, 1) := by decide +kernel
theorem pm_a45_31 : pm_as (pm_cd pm_mm45) 31 = some (.areturn, 1) := by decide +kernel
theorem pm_a46_0 : pm_as (pm_cd pm_mm46) 0 = some (.aload_n 0, 1) := by decide +kernel
theorem pm_a46_1 : pm_as (pm_cd pm_mm46) 1 = some (.iload_n 1, 1) := by decide +kernel
theorem pm_a46_2 : pm_as (pm_cd pm_mm46) 2 = some (.invokevirtual 86, 3) := by decide +kernel
theorem pm_a46_5 : pm_as (pm_cd pm_mm46) 5 = some (.astore_n 3, 1) := by decide +kernel
theorem pm_a46_6 : pm_as (pm_cd pm_mm46) 6 = some (.aload_n 3, 1) := by decide +kernel
theorem pm_a46_7 : pm_as (pm_cd pm_mm46) 7 = some (.ifnonnull 7, 3) := by decide +kernel
theorem pm_a46_10 : pm_as (pm_cd pm_mm46) 10 = some (.iconst (-1), 1) := by decide +kernel
theorem pm_a46_11 : pm_as (pm_cd pm_mm46) 11 = some (.goto 8, 3) := by decide +kernel
theorem pm_a46_14 : pm_as (pm_cd pm_mm46) 14 = some (.aload_n 3, 1) := by decide +kernel
theorem pm_a46_15 : pm_as (pm_cd pm_mm46) 15 = some (.iload_n 2, 1) := by decide +kernel
theorem pm_a46_16 : pm_as (pm_cd pm_mm46) 16 = some (.invokevirtual 91, 3) := by decide +kernel
theorem pm_a46_19 : pm_as (pm_cd pm_mm46) 19 = some (.ireturn, 1) := by decide +kernel
theorem pm_a47_0 : pm_as (pm_cd pm_mm47) 0 = some (.iload_n 1, 1) := by decide +kernel
theorem pm_a47_1 : pm_as (pm_cd pm_mm47) 1 = some (.ifCond .lt 29, 3) := by decide +kernel
theorem pm_a47_4 : pm_as (pm_cd pm_mm47) 4 = some (.iload_n 1, 1) := by decide +kernel
theorem pm_a47_5 : pm_as (pm_cd pm_mm47) 5 = some (.aload_n 0, 1) := by decide +kernel
theorem pm_a47_6 : pm_as (pm_cd pm_mm47) 6 = some (.getfield 21, 3) := by decide +kernel
theorem pm_a47_9 : pm_as (pm_cd pm_mm47) 9 = some (.if_icmp .ge 21, 3) := by decide +kernel
theorem pm_a47_12 : pm_as (pm_cd pm_mm47) 12 = some (.iload_n 1, 1) := by decide +kernel
theorem pm_a47_13 : pm_as (pm_cd pm_mm47) 13 = some (.aload_n 0, 1) := by decide +kernel
theorem pm_a47_14 : pm_as (pm_cd pm_mm47) 14 = some (.getfield 15, 3) := by decide +kernel
theorem pm_a47_17 : pm_as (pm_cd pm_mm47) 17 = some (.arraylength, 1) := by decide +kernel
theorem pm_a47_18 : pm_as (pm_cd pm_mm47) 18 = some (.if_icmp .ge 12, 3) := by decide +kernel
theorem pm_a47_21 : pm_as (pm_cd pm_mm47) 21 = some (.aload_n 0, 1) := by decide +kernel
theorem pm_a47_22 : pm_as (pm_cd pm_mm47) 22 = some (.getfield 15, 3) := by decide +kernel
theorem pm_a47_25 : pm_as (pm_cd pm_mm47) 25 = some (.iload_n 1, 1) := by decide +kernel
theorem pm_a47_26 : pm_as (pm_cd pm_mm47) 26 = some (.iaload, 1) := by decide +kernel
theorem pm_a47_27 : pm_as (pm_cd pm_mm47) 27 = some (.goto 4, 3) := by decide +kernel
theorem pm_a47_30 : pm_as (pm_cd pm_mm47) 30 = some (.iconst (-1), 1) := by decide +kernel
theorem pm_a47_31 : pm_as (pm_cd pm_mm47) 31 = some (.ireturn, 1) := by decide +kernel
theorem pm_a48_0 : pm_as (pm_cd pm_mm48) 0 = some (.aload_n 0, 1) := by decide +kernel
theorem pm_a48_1 : pm_as (pm_cd pm_mm48) 1 = some (.iload_n 1, 1) := by decide +kernel
theorem pm_a48_2 : pm_as (pm_cd pm_mm48) 2 = some (.invokevirtual 86, 3) := by decide +kernel
theorem pm_a48_5 : pm_as (pm_cd pm_mm48) 5 = some (.astore_n 3, 1) := by decide +kernel
theorem pm_a48_6 : pm_as (pm_cd pm_mm48) 6 = some (.aload_n 3, 1) := by decide +kernel
theorem pm_a48_7 : pm_as (pm_cd pm_mm48) 7 = some (.ifnonnull 7, 3) := by decide +kernel
theorem pm_a48_10 : pm_as (pm_cd pm_mm48) 10 = some (.iconst (-1), 1) := by decide +kernel
theorem pm_a48_11 : pm_as (pm_cd pm_mm48) 11 = some (.goto 12, 3) := by decide +kernel
theorem pm_a48_14 : pm_as (pm_cd pm_mm48) 14 = some (.aload_n 0, 1) := by decide +kernel
theorem pm_a48_15 : pm_as (pm_cd pm_mm48) 15 = some (.getfield 48, 3) := by decide +kernel
theorem pm_a48_18 : pm_as (pm_cd pm_mm48) 18 = some (.aload_n 3, 1) := by decide +kernel
theorem pm_a48_19 : pm_as (pm_cd pm_mm48) 19 = some (.iload_n 2, 1) := by decide +kernel
theorem pm_a48_20 : pm_as (pm_cd pm_mm48) 20 = some (.invokevirtual 95, 3) := by decide +kernel
theorem pm_a48_23 : pm_as (pm_cd pm_mm48) 23 = some (.ireturn, 1) := by decide +kernel
theorem pm_a49_0 : pm_as (pm_cd pm_mm49) 0 = some (.aload_n 0, 1) := by decide +kernel
theorem pm_a49_1 : pm_as (pm_cd pm_mm49) 1 = some (.iconst 0, 1) := by decide +kernel
theorem pm_a49_2 : pm_as (pm_cd pm_mm49) 2 = some (.putfield 15, 3) := by decide +kernel
theorem pm_a49_5 : pm_as (pm_cd pm_mm49) 5 = some (.aload_n 0, 1) := by decide +kernel
theorem pm_a49_6 : pm_as (pm_cd pm_mm49) 6 = some (.iconst 0, 1) := by decide +kernel
theorem pm_a49_7 : pm_as (pm_cd pm_mm49) 7 = some (.putfield 19, 3) := by decide +kernel
theorem pm_a49_10 : pm_as (pm_cd pm_mm49) 10 = some (.aload_n 0, 1) := by decide +kernel
theorem pm_a49_11 : pm_as (pm_cd pm_mm49) 11 = some (.iload_n 2, 1) := by decide +kernel
theorem pm_a49_12 : pm_as (pm_cd pm_mm49) 12 = some (.putfield 22, 3) := by decide +kernel
theorem pm_a49_15 : pm_as (pm_cd pm_mm49) 15 = some (.aload_n 0, 1) := by decide +kernel
theorem pm_a49_16 : pm_as (pm_cd pm_mm49) 16 = some (.iconst 0, 1) := by decide +kernel
theorem pm_a49_17 : pm_as (pm_cd pm_mm49) 17 = some (.putfield 25, 3) := by decide +kernel
theorem pm_a49_20 : pm_as (pm_cd pm_mm49) 20 = some (.aload_n 0, 1) := by decide +kernel
theorem pm_a49_21 : pm_as (pm_cd pm_mm49) 21 = some (.iconst (-1), 1) := by decide +kernel
theorem pm_a49_22 : pm_as (pm_cd pm_mm49) 22 = some (.putfield 28, 3) := by decide +kernel
theorem pm_a49_25 : pm_as (pm_cd pm_mm49) 25 = some (.iconst 0, 1) := by decide +kernel
theorem pm_a49_26 : pm_as (pm_cd pm_mm49) 26 = some (.istore_n 3, 1) := by decide +kernel
theorem pm_a49_27 : pm_as (pm_cd pm_mm49) 27 = some (.iload_n 3, 1) := by decide +kernel
theorem pm_a49_28 : pm_as (pm_cd pm_mm49) 28 = some (.aload_n 1, 1) := by decide +kernel
theorem pm_a49_29 : pm_as (pm_cd pm_mm49) 29 = some (.getfield 31, 3) := by decide +kernel
theorem pm_a49_32 : pm_as (pm_cd pm_mm49) 32 = some (.if_icmp .ge 26, 3) := by decide +kernel
theorem pm_a49_35 : pm_as (pm_cd pm_mm49) 35 = some (.aload_n 0, 1) := by decide +kernel
theorem pm_a49_36 : pm_as (pm_cd pm_mm49) 36 = some (.getfield 28, 3) := by decide +kernel
theorem pm_a49_39 : pm_as (pm_cd pm_mm49) 39 = some (.iconst (-1), 1) := by decide +kernel
theorem pm_a49_40 : pm_as (pm_cd pm_mm49) 40 = some (.if_icmp .ne 18, 3) := by decide +kernel
theorem pm_a49_43 : pm_as (pm_cd pm_mm49) 43 = some (.aload_n 0, 1) := by decide +kernel
theorem pm_a49_44 : pm_as (pm_cd pm_mm49) 44 = some (.aload_n 1, 1) := by decide +kernel
theorem pm_a49_45 : pm_as (pm_cd pm_mm49) 45 = some (.iload_n 3, 1) := by decide +kernel
theorem pm_a49_46 : pm_as (pm_cd pm_mm49) 46 = some (.invokevirtual 36, 3) := by decide +kernel
theorem pm_a49_49 : pm_as (pm_cd pm_mm49) 49 = some (.invokevirtual 40, 3) := by decide +kernel
theorem pm_a49_52 : pm_as (pm_cd pm_mm49) 52 = some (.iinc 3 1, 3) := by decide +kernel
theorem pm_a49_55 : pm_as (pm_cd pm_mm49) 55 = some (.goto (-28), 3) := by decide +kernel
theorem pm_a49_58 : pm_as (pm_cd pm_mm49) 58 = some (.aload_n 0, 1) := by decide +kernel
theorem pm_a49_59 : pm_as (pm_cd pm_mm49) 59 = some (.getfield 22, 3) := by decide +kernel
theorem pm_a49_62 : pm_as (pm_cd pm_mm49) 62 = some (.aload_n 0, 1) := by decide +kernel
theorem pm_a49_63 : pm_as (pm_cd pm_mm49) 63 = some (.getfield 25, 3) := by decide +kernel
theorem pm_a49_66 : pm_as (pm_cd pm_mm49) 66 = some (.if_icmp .ne 15, 3) := by decide +kernel
theorem pm_a49_69 : pm_as (pm_cd pm_mm49) 69 = some (.aload_n 0, 1) := by decide +kernel
theorem pm_a49_70 : pm_as (pm_cd pm_mm49) 70 = some (.getfield 28, 3) := by decide +kernel
theorem pm_a49_73 : pm_as (pm_cd pm_mm49) 73 = some (.iconst (-1), 1) := by decide +kernel
theorem pm_a49_74 : pm_as (pm_cd pm_mm49) 74 = some (.if_icmp .ne 7, 3) := by decide +kernel
theorem pm_a49_77 : pm_as (pm_cd pm_mm49) 77 = some (.iconst 0, 1) := by decide +kernel
theorem pm_a49_78 : pm_as (pm_cd pm_mm49) 78 = some (.goto 7, 3) := by decide +kernel
theorem pm_a49_81 : pm_as (pm_cd pm_mm49) 81 = some (.aload_n 0, 1) := by decide +kernel
theorem pm_a49_82 : pm_as (pm_cd pm_mm49) 82 = some (.getfield 28, 3) := by decide +kernel
theorem pm_a49_85 : pm_as (pm_cd pm_mm49) 85 = some (.ireturn, 1) := by decide +kernel
theorem pm_a50_0 : pm_as (pm_cd pm_mm50) 0 = some (.aload_n 0, 1) := by decide +kernel
theorem pm_a50_1 : pm_as (pm_cd pm_mm50) 1 = some (.iload_n 1, 1) := by decide +kernel
theorem pm_a50_2 : pm_as (pm_cd pm_mm50) 2 = some (.invokevirtual 44, 3) := by decide +kernel
theorem pm_a50_5 : pm_as (pm_cd pm_mm50) 5 = some (.ifCond .eq 7, 3) := by decide +kernel
theorem pm_a50_8 : pm_as (pm_cd pm_mm50) 8 = some (.iconst 4, 1) := by decide +kernel
theorem pm_a50_9 : pm_as (pm_cd pm_mm50) 9 = some (.goto 4, 3) := by decide +kernel
theorem pm_a50_12 : pm_as (pm_cd pm_mm50) 12 = some (.iconst 0, 1) := by decide +kernel
theorem pm_a50_13 : pm_as (pm_cd pm_mm50) 13 = some (.istore_n 2, 1) := by decide +kernel
theorem pm_a50_14 : pm_as (pm_cd pm_mm50) 14 = some (.iload_n 2, 1) := by decide +kernel
theorem pm_a50_15 : pm_as (pm_cd pm_mm50) 15 = some (.ifCond .eq 9, 3) := by decide +kernel
theorem pm_a50_18 : pm_as (pm_cd pm_mm50) 18 = some (.aload_n 0, 1) := by decide +kernel
theorem pm_a50_19 : pm_as (pm_cd pm_mm50) 19 = some (.bipush 40, 2) := by decide +kernel
theorem pm_a50_21 : pm_as (pm_cd pm_mm50) 21 = some (.invokevirtual 48, 3) := by decide +kernel
theorem pm_a50_24 : pm_as (pm_cd pm_mm50) 24 = some (.iload_n 1, 1) := by decide +kernel
theorem pm_a50_25 : pm_as (pm_cd pm_mm50) 25 = some (.ifCond .ne 13, 3) := by decide +kernel
theorem pm_a50_28 : pm_as (pm_cd pm_mm50) 28 = some (.aload_n 0, 1) := by decide +kernel
theorem pm_a50_29 : pm_as (pm_cd pm_mm50) 29 = some (.iconst 0, 1) := by decide +kernel
theorem pm_a50_30 : pm_as (pm_cd pm_mm50) 30 = some (.iload_n 2, 1) := by decide +kernel
theorem pm_a50_31 : pm_as (pm_cd pm_mm50) 31 = some (.ior, 1) := by decide +kernel
theorem pm_a50_32 : pm_as (pm_cd pm_mm50) 32 = some (.invokevirtual 51, 3) := by decide +kernel
theorem pm_a50_35 : pm_as (pm_cd pm_mm50) 35 = some (.goto 57, 3) := by decide +kernel
theorem pm_a50_38 : pm_as (pm_cd pm_mm50) 38 = some (.iload_n 1, 1) := by decide +kernel
theorem pm_a50_39 : pm_as (pm_cd pm_mm50) 39 = some (.iconst 1, 1) := by decide +kernel
theorem pm_a50_40 : pm_as (pm_cd pm_mm50) 40 = some (.if_icmp .ne 43, 3) := by decide +kernel
theorem pm_a50_43 : pm_as (pm_cd pm_mm50) 43 = some (.aload_n 0, 1) := by decide +kernel
theorem pm_a50_44 : pm_as (pm_cd pm_mm50) 44 = some (.bipush 92, 2) := by decide +kernel
theorem pm_a50_46 : pm_as (pm_cd pm_mm50) 46 = some (.invokevirtual 48, 3) := by decide +kernel
theorem pm_a50_49 : pm_as (pm_cd pm_mm50) 49 = some (.aload_n 0, 1) := by decide +kernel
theorem pm_a50_50 : pm_as (pm_cd pm_mm50) 50 = some (.aload_n 0, 1) := by decide +kernel
theorem pm_a50_51 : pm_as (pm_cd pm_mm50) 51 = some (.getfield 19, 3) := by decide +kernel
theorem pm_a50_54 : pm_as (pm_cd pm_mm50) 54 = some (.invokevirtual 54, 3) := by decide +kernel
theorem pm_a50_57 : pm_as (pm_cd pm_mm50) 57 = some (.aload_n 0, 1) := by decide +kernel
theorem pm_a50_58 : pm_as (pm_cd pm_mm50) 58 = some (.bipush 46, 2) := by decide +kernel
theorem pm_a50_60 : pm_as (pm_cd pm_mm50) 60 = some (.invokevirtual 48, 3) := by decide +kernel
theorem pm_a50_63 : pm_as (pm_cd pm_mm50) 63 = some (.aload_n 0, 1) := by decide +kernel
theorem pm_a50_64 : pm_as (pm_cd pm_mm50) 64 = some (.dup, 1) := by decide +kernel
theorem pm_a50_65 : pm_as (pm_cd pm_mm50) 65 = some (.getfield 19, 3) := by decide +kernel
theorem pm_a50_68 : pm_as (pm_cd pm_mm50) 68 = some (.iconst 1, 1) := by decide +kernel
theorem pm_a50_69 : pm_as (pm_cd pm_mm50) 69 = some (.iadd, 1) := by decide +kernel
theorem pm_a50_70 : pm_as (pm_cd pm_mm50) 70 = some (.putfield 19, 3) := by decide +kernel
theorem pm_a50_73 : pm_as (pm_cd pm_mm50) 73 = some (.aload_n 0, 1) := by decide +kernel
theorem pm_a50_74 : pm_as (pm_cd pm_mm50) 74 = some (.iconst 2, 1) := by decide +kernel
theorem pm_a50_75 : pm_as (pm_cd pm_mm50) 75 = some (.iload_n 2, 1) := by decide +kernel
theorem pm_a50_76 : pm_as (pm_cd pm_mm50) 76 = some (.ior, 1) := by decide +kernel
theorem pm_a50_77 : pm_as (pm_cd pm_mm50) 77 = some (.invokevirtual 51, 3) := by decide +kernel
theorem pm_a50_80 : pm_as (pm_cd pm_mm50) 80 = some (.goto 12, 3) := by decide +kernel
theorem pm_a50_83 : pm_as (pm_cd pm_mm50) 83 = some (.aload_n 0, 1) := by decide +kernel
theorem pm_a50_84 : pm_as (pm_cd pm_mm50) 84 = some (.iload_n 1, 1) := by decide +kernel
theorem pm_a50_85 : pm_as (pm_cd pm_mm50) 85 = some (.invokevirtual 57, 3) := by decide +kernel
theorem pm_a50_88 : pm_as (pm_cd pm_mm50) 88 = some (.aload_n 0, 1) := by decide +kernel
theorem pm_a50_89 : pm_as (pm_cd pm_mm50) 89 = some (.invokevirtual 60, 3) := by decide +kernel
theorem pm_a50_92 : pm_as (pm_cd pm_mm50) 92 = some (.return_, 1) := by decide +kernel
theorem pm_a51_0 : pm_as (pm_cd pm_mm51) 0 = some (.aload_n 0, 1) := by decide +kernel
theorem pm_a51_1 : pm_as (pm_cd pm_mm51) 1 = some (.getfield 15, 3) := by decide +kernel
theorem pm_a51_4 : pm_as (pm_cd pm_mm51) 4 = some (.ifCond .le 15, 3) := by decide +kernel
theorem pm_a51_7 : pm_as (pm_cd pm_mm51) 7 = some (.aload_n 0, 1) := by decide +kernel
theorem pm_a51_8 : pm_as (pm_cd pm_mm51) 8 = some (.getfield 15, 3) := by decide +kernel
theorem pm_a51_11 : pm_as (pm_cd pm_mm51) 11 = some (.aload_n 0, 1) := by decide +kernel
theorem pm_a51_12 : pm_as (pm_cd pm_mm51) 12 = some (.getfield 9, 3) := by decide +kernel
theorem pm_a51_15 : pm_as (pm_cd pm_mm51) 15 = some (.arraylength, 1) := by decide +kernel
theorem pm_a51_16 : pm_as (pm_cd pm_mm51) 16 = some (.if_icmp .le 5, 3) := by decide +kernel
theorem pm_a51_19 : pm_as (pm_cd pm_mm51) 19 = some (.iconst 0, 1) := by decide +kernel
theorem pm_a51_20 : pm_as (pm_cd pm_mm51) 20 = some (.ireturn, 1) := by decide +kernel
theorem pm_a51_21 : pm_as (pm_cd pm_mm51) 21 = some (.aload_n 0, 1) := by decide +kernel
theorem pm_a51_22 : pm_as (pm_cd pm_mm51) 22 = some (.getfield 9, 3) := by decide +kernel
theorem pm_a51_25 : pm_as (pm_cd pm_mm51) 25 = some (.aload_n 0, 1) := by decide +kernel
theorem pm_a51_26 : pm_as (pm_cd pm_mm51) 26 = some (.getfield 15, 3) := by decide +kernel
theorem pm_a51_29 : pm_as (pm_cd pm_mm51) 29 = some (.iconst 1, 1) := by decide +kernel
theorem pm_a51_30 : pm_as (pm_cd pm_mm51) 30 = some (.isub, 1) := by decide +kernel
theorem pm_a51_31 : pm_as (pm_cd pm_mm51) 31 = some (.iaload, 1) := by decide +kernel
theorem pm_a51_32 : pm_as (pm_cd pm_mm51) 32 = some (.bipush (-5), 2) := by decide +kernel
theorem pm_a51_34 : pm_as (pm_cd pm_mm51) 34 = some (.iand, 1) := by decide +kernel
theorem pm_a51_35 : pm_as (pm_cd pm_mm51) 35 = some (.istore_n 2, 1) := by decide +kernel
theorem pm_a51_36 : pm_as (pm_cd pm_mm51) 36 = some (.iload_n 2, 1) := by decide +kernel
theorem pm_a51_37 : pm_as (pm_cd pm_mm51) 37 = some (.ifCond .ne 8, 3) := by decide +kernel
theorem pm_a51_40 : pm_as (pm_cd pm_mm51) 40 = some (.iload_n 1, 1) := by decide +kernel
theorem pm_a51_41 : pm_as (pm_cd pm_mm51) 41 = some (.iconst 1, 1) := by decide +kernel
theorem pm_a51_42 : pm_as (pm_cd pm_mm51) 42 = some (.if_icmp .eq 17, 3) := by decide +kernel
theorem pm_a51_45 : pm_as (pm_cd pm_mm51) 45 = some (.iload_n 2, 1) := by decide +kernel
theorem pm_a51_46 : pm_as (pm_cd pm_mm51) 46 = some (.iconst 1, 1) := by decide +kernel
theorem pm_a51_47 : pm_as (pm_cd pm_mm51) 47 = some (.if_icmp .ne 16, 3) := by decide +kernel
theorem pm_a51_50 : pm_as (pm_cd pm_mm51) 50 = some (.iload_n 1, 1) := by decide +kernel
theorem pm_a51_51 : pm_as (pm_cd pm_mm51) 51 = some (.iconst 1, 1) := by decide +kernel
theorem pm_a51_52 : pm_as (pm_cd pm_mm51) 52 = some (.if_icmp .eq 7, 3) := by decide +kernel
theorem pm_a51_55 : pm_as (pm_cd pm_mm51) 55 = some (.iload_n 1, 1) := by decide +kernel
theorem pm_a51_56 : pm_as (pm_cd pm_mm51) 56 = some (.ifCond .ne 7, 3) := by decide +kernel
theorem pm_a51_59 : pm_as (pm_cd pm_mm51) 59 = some (.iconst 1, 1) := by decide +kernel
theorem pm_a51_60 : pm_as (pm_cd pm_mm51) 60 = some (.goto 4, 3) := by decide +kernel
theorem pm_a51_63 : pm_as (pm_cd pm_mm51) 63 = some (.iconst 0, 1) := by decide +kernel
theorem pm_a51_64 : pm_as (pm_cd pm_mm51) 64 = some (.ireturn, 1) := by decide +kernel
theorem pm_a52_0 : pm_as (pm_cd pm_mm52) 0 = some (.aload_n 0, 1) := by decide +kernel
theorem pm_a52_1 : pm_as (pm_cd pm_mm52) 1 = some (.getfield 25, 3) := by decide +kernel
theorem pm_a52_4 : pm_as (pm_cd pm_mm52) 4 = some (.aload_n 0, 1) := by decide +kernel
theorem pm_a52_5 : pm_as (pm_cd pm_mm52) 5 = some (.getfield 22, 3) := by decide +kernel
theorem pm_a52_8 : pm_as (pm_cd pm_mm52) 8 = some (.if_icmp .ne 8, 3) := by decide +kernel
theorem pm_a52_11 : pm_as (pm_cd pm_mm52) 11 = some (.aload_n 0, 1) := by decide +kernel
theorem pm_a52_12 : pm_as (pm_cd pm_mm52) 12 = some (.iload_n 1, 1) := by decide +kernel
theorem pm_a52_13 : pm_as (pm_cd pm_mm52) 13 = some (.putfield 28, 3) := by decide +kernel
theorem pm_a52_16 : pm_as (pm_cd pm_mm52) 16 = some (.aload_n 0, 1) := by decide +kernel
theorem pm_a52_17 : pm_as (pm_cd pm_mm52) 17 = some (.dup, 1) := by decide +kernel
theorem pm_a52_18 : pm_as (pm_cd pm_mm52) 18 = some (.getfield 25, 3) := by decide +kernel
theorem pm_a52_21 : pm_as (pm_cd pm_mm52) 21 = some (.iconst 1, 1) := by decide +kernel
theorem pm_a52_22 : pm_as (pm_cd pm_mm52) 22 = some (.iadd, 1) := by decide +kernel
theorem pm_a52_23 : pm_as (pm_cd pm_mm52) 23 = some (.putfield 25, 3) := by decide +kernel
theorem pm_a52_26 : pm_as (pm_cd pm_mm52) 26 = some (.return_, 1) := by decide +kernel
theorem pm_a53_0 : pm_as (pm_cd pm_mm53) 0 = some (.aload_n 0, 1) := by decide +kernel
theorem pm_a53_1 : pm_as (pm_cd pm_mm53) 1 = some (.getfield 15, 3) := by decide +kernel
theorem pm_a53_4 : pm_as (pm_cd pm_mm53) 4 = some (.ifCond .lt 35, 3) := by decide +kernel
theorem pm_a53_7 : pm_as (pm_cd pm_mm53) 7 = some (.aload_n 0, 1) := by decide +kernel
theorem pm_a53_8 : pm_as (pm_cd pm_mm53) 8 = some (.getfield 15, 3) := by decide +kernel
theorem pm_a53_11 : pm_as (pm_cd pm_mm53) 11 = some (.aload_n 0, 1) := by decide +kernel
theorem pm_a53_12 : pm_as (pm_cd pm_mm53) 12 = some (.getfield 9, 3) := by decide +kernel
theorem pm_a53_15 : pm_as (pm_cd pm_mm53) 15 = some (.arraylength, 1) := by decide +kernel
theorem pm_a53_16 : pm_as (pm_cd pm_mm53) 16 = some (.if_icmp .ge 23, 3) := by decide +kernel
theorem pm_a53_19 : pm_as (pm_cd pm_mm53) 19 = some (.aload_n 0, 1) := by decide +kernel
theorem pm_a53_20 : pm_as (pm_cd pm_mm53) 20 = some (.getfield 9, 3) := by decide +kernel
theorem pm_a53_23 : pm_as (pm_cd pm_mm53) 23 = some (.aload_n 0, 1) := by decide +kernel
theorem pm_a53_24 : pm_as (pm_cd pm_mm53) 24 = some (.getfield 15, 3) := by decide +kernel
theorem pm_a53_27 : pm_as (pm_cd pm_mm53) 27 = some (.iload_n 1, 1) := by decide +kernel
theorem pm_a53_28 : pm_as (pm_cd pm_mm53) 28 = some (.iastore, 1) := by decide +kernel
theorem pm_a53_29 : pm_as (pm_cd pm_mm53) 29 = some (.aload_n 0, 1) := by decide +kernel
theorem pm_a53_30 : pm_as (pm_cd pm_mm53) 30 = some (.dup, 1) := by decide +kernel
theorem pm_a53_31 : pm_as (pm_cd pm_mm53) 31 = some (.getfield 15, 3) := by decide +kernel
theorem pm_a53_34 : pm_as (pm_cd pm_mm53) 34 = some (.iconst 1, 1) := by decide +kernel
theorem pm_a53_35 : pm_as (pm_cd pm_mm53) 35 = some (.iadd, 1) := by decide +kernel
theorem pm_a53_36 : pm_as (pm_cd pm_mm53) 36 = some (.putfield 15, 3) := by decide +kernel
theorem pm_a53_39 : pm_as (pm_cd pm_mm53) 39 = some (.return_, 1) := by decide +kernel
theorem pm_a54_0 : pm_as (pm_cd pm_mm54) 0 = some (.iload_n 1, 1) := by decide +kernel
theorem pm_a54_1 : pm_as (pm_cd pm_mm54) 1 = some (.bipush 26, 2) := by decide +kernel
theorem pm_a54_3 : pm_as (pm_cd pm_mm54) 3 = some (.if_icmp .lt 16, 3) := by decide +kernel
theorem pm_a54_6 : pm_as (pm_cd pm_mm54) 6 = some (.aload_n 0, 1) := by decide +kernel
theorem pm_a54_7 : pm_as (pm_cd pm_mm54) 7 = some (.bipush 97, 2) := by decide +kernel
theorem pm_a54_9 : pm_as (pm_cd pm_mm54) 9 = some (.iload_n 1, 1) := by decide +kernel
theorem pm_a54_10 : pm_as (pm_cd pm_mm54) 10 = some (.bipush 26, 2) := by decide +kernel
theorem pm_a54_12 : pm_as (pm_cd pm_mm54) 12 = some (.idiv, 1) := by decide +kernel
theorem pm_a54_13 : pm_as (pm_cd pm_mm54) 13 = some (.iadd, 1) := by decide +kernel
theorem pm_a54_14 : pm_as (pm_cd pm_mm54) 14 = some (.iconst 1, 1) := by decide +kernel
theorem pm_a54_15 : pm_as (pm_cd pm_mm54) 15 = some (.isub, 1) := by decide +kernel
theorem pm_a54_16 : pm_as (pm_cd pm_mm54) 16 = some (.invokevirtual 48, 3) := by decide +kernel
theorem pm_a54_19 : pm_as (pm_cd pm_mm54) 19 = some (.aload_n 0, 1) := by decide +kernel
theorem pm_a54_20 : pm_as (pm_cd pm_mm54) 20 = some (.bipush 97, 2) := by decide +kernel
theorem pm_a54_22 : pm_as (pm_cd pm_mm54) 22 = some (.iload_n 1, 1) := by decide +kernel
theorem pm_a54_23 : pm_as (pm_cd pm_mm54) 23 = some (.bipush 26, 2) := by decide +kernel
theorem pm_a54_25 : pm_as (pm_cd pm_mm54) 25 = some (.irem, 1) := by decide +kernel
theorem pm_a54_26 : pm_as (pm_cd pm_mm54) 26 = some (.iadd, 1) := by decide +kernel
theorem pm_a54_27 : pm_as (pm_cd pm_mm54) 27 = some (.invokevirtual 48, 3) := by decide +kernel
theorem pm_a54_30 : pm_as (pm_cd pm_mm54) 30 = some (.return_, 1) := by decide +kernel
theorem pm_a55_0 : pm_as (pm_cd pm_mm55) 0 = some (.iload_n 1, 1) := by decide +kernel
theorem pm_a55_1 : pm_as (pm_cd pm_mm55) 1 = some (.bipush 10, 2) := by decide +kernel
theorem pm_a55_3 : pm_as (pm_cd pm_mm55) 3 = some (.if_icmp .lt 21, 3) := by decide +kernel
theorem pm_a55_6 : pm_as (pm_cd pm_mm55) 6 = some (.aload_n 0, 1) := by decide +kernel
theorem pm_a55_7 : pm_as (pm_cd pm_mm55) 7 = some (.aload_n 0, 1) := by decide +kernel
theorem pm_a55_8 : pm_as (pm_cd pm_mm55) 8 = some (.getfield 19, 3) := by decide +kernel
theorem pm_a55_11 : pm_as (pm_cd pm_mm55) 11 = some (.iconst 1, 1) := by decide +kernel
theorem pm_a55_12 : pm_as (pm_cd pm_mm55) 12 = some (.isub, 1) := by decide +kernel
theorem pm_a55_13 : pm_as (pm_cd pm_mm55) 13 = some (.iload_n 1, 1) := by decide +kernel
theorem pm_a55_14 : pm_as (pm_cd pm_mm55) 14 = some (.bipush 10, 2) := by decide +kernel
theorem pm_a55_16 : pm_as (pm_cd pm_mm55) 16 = some (.isub, 1) := by decide +kernel
theorem pm_a55_17 : pm_as (pm_cd pm_mm55) 17 = some (.isub, 1) := by decide +kernel
theorem pm_a55_18 : pm_as (pm_cd pm_mm55) 18 = some (.invokevirtual 54, 3) := by decide +kernel
theorem pm_a55_21 : pm_as (pm_cd pm_mm55) 21 = some (.goto 26, 3) := by decide +kernel
theorem pm_a55_24 : pm_as (pm_cd pm_mm55) 24 = some (.iload_n 1, 1) := by decide +kernel
theorem pm_a55_25 : pm_as (pm_cd pm_mm55) 25 = some (.iconst 2, 1) := by decide +kernel
theorem pm_a55_26 : pm_as (pm_cd pm_mm55) 26 = some (.if_icmp .lt 21, 3) := by decide +kernel
theorem pm_a55_29 : pm_as (pm_cd pm_mm55) 29 = some (.iload_n 1, 1) := by decide +kernel
theorem pm_a55_30 : pm_as (pm_cd pm_mm55) 30 = some (.bipush 6, 2) := by decide +kernel
theorem pm_a55_32 : pm_as (pm_cd pm_mm55) 32 = some (.if_icmp .gt 15, 3) := by decide +kernel
theorem pm_a55_35 : pm_as (pm_cd pm_mm55) 35 = some (.aload_n 0, 1) := by decide +kernel
theorem pm_a55_36 : pm_as (pm_cd pm_mm55) 36 = some (.ldc 69, 2) := by decide +kernel
theorem pm_a55_38 : pm_as (pm_cd pm_mm55) 38 = some (.iload_n 1, 1) := by decide +kernel
theorem pm_a55_39 : pm_as (pm_cd pm_mm55) 39 = some (.iconst 2, 1) := by decide +kernel
theorem pm_a55_40 : pm_as (pm_cd pm_mm55) 40 = some (.isub, 1) := by decide +kernel
theorem pm_a55_41 : pm_as (pm_cd pm_mm55) 41 = some (.invokevirtual 71, 3) := by decide +kernel
theorem pm_a55_44 : pm_as (pm_cd pm_mm55) 44 = some (.invokevirtual 48, 3) := by decide +kernel
theorem pm_a55_47 : pm_as (pm_cd pm_mm55) 47 = some (.return_, 1) := by decide +kernel
theorem pm_a56_0 : pm_as (pm_cd pm_mm56) 0 = some (.aload_n 0, 1) := by decide +kernel
theorem pm_a56_1 : pm_as (pm_cd pm_mm56) 1 = some (.getfield 15, 3) := by decide +kernel
theorem pm_a56_4 : pm_as (pm_cd pm_mm56) 4 = some (.aload_n 0, 1) := by decide +kernel
theorem pm_a56_5 : pm_as (pm_cd pm_mm56) 5 = some (.getfield 9, 3) := by decide +kernel
theorem pm_a56_8 : pm_as (pm_cd pm_mm56) 8 = some (.arraylength, 1) := by decide +kernel
theorem pm_a56_9 : pm_as (pm_cd pm_mm56) 9 = some (.invokestatic 63, 3) := by decide +kernel
theorem pm_a56_12 : pm_as (pm_cd pm_mm56) 12 = some (.iconst 1, 1) := by decide +kernel
theorem pm_a56_13 : pm_as (pm_cd pm_mm56) 13 = some (.isub, 1) := by decide +kernel
theorem pm_a56_14 : pm_as (pm_cd pm_mm56) 14 = some (.istore_n 1, 1) := by decide +kernel
theorem pm_a56_15 : pm_as (pm_cd pm_mm56) 15 = some (.iload_n 1, 1) := by decide +kernel
theorem pm_a56_16 : pm_as (pm_cd pm_mm56) 16 = some (.ifCond .lt 77, 3) := by decide +kernel
theorem pm_a56_19 : pm_as (pm_cd pm_mm56) 19 = some (.aload_n 0, 1) := by decide +kernel
theorem pm_a56_20 : pm_as (pm_cd pm_mm56) 20 = some (.getfield 9, 3) := by decide +kernel
theorem pm_a56_23 : pm_as (pm_cd pm_mm56) 23 = some (.iload_n 1, 1) := by decide +kernel
theorem pm_a56_24 : pm_as (pm_cd pm_mm56) 24 = some (.iaload, 1) := by decide +kernel
theorem pm_a56_25 : pm_as (pm_cd pm_mm56) 25 = some (.bipush (-5), 2) := by decide +kernel
theorem pm_a56_27 : pm_as (pm_cd pm_mm56) 27 = some (.iand, 1) := by decide +kernel
theorem pm_a56_28 : pm_as (pm_cd pm_mm56) 28 = some (.istore_n 2, 1) := by decide +kernel
theorem pm_a56_29 : pm_as (pm_cd pm_mm56) 29 = some (.iload_n 2, 1) := by decide +kernel
theorem pm_a56_30 : pm_as (pm_cd pm_mm56) 30 = some (.ifCond .ne 20, 3) := by decide +kernel
theorem pm_a56_33 : pm_as (pm_cd pm_mm56) 33 = some (.aload_n 0, 1) := by decide +kernel
theorem pm_a56_34 : pm_as (pm_cd pm_mm56) 34 = some (.bipush 32, 2) := by decide +kernel
theorem pm_a56_36 : pm_as (pm_cd pm_mm56) 36 = some (.invokevirtual 48, 3) := by decide +kernel
theorem pm_a56_39 : pm_as (pm_cd pm_mm56) 39 = some (.aload_n 0, 1) := by decide +kernel
theorem pm_a56_40 : pm_as (pm_cd pm_mm56) 40 = some (.getfield 9, 3) := by decide +kernel
theorem pm_a56_43 : pm_as (pm_cd pm_mm56) 43 = some (.iload_n 1, 1) := by decide +kernel
theorem pm_a56_44 : pm_as (pm_cd pm_mm56) 44 = some (.dup2, 1) := by decide +kernel
theorem pm_a56_45 : pm_as (pm_cd pm_mm56) 45 = some (.iaload, 1) := by decide +kernel
theorem pm_a56_46 : pm_as (pm_cd pm_mm56) 46 = some (.iconst 1, 1) := by decide +kernel
theorem pm_a56_47 : pm_as (pm_cd pm_mm56) 47 = some (.ior, 1) := by decide +kernel
theorem pm_a56_48 : pm_as (pm_cd pm_mm56) 48 = some (.iastore, 1) := by decide +kernel
theorem pm_a56_49 : pm_as (pm_cd pm_mm56) 49 = some (.return_, 1) := by decide +kernel
theorem pm_a56_50 : pm_as (pm_cd pm_mm56) 50 = some (.iload_n 2, 1) := by decide +kernel
theorem pm_a56_51 : pm_as (pm_cd pm_mm56) 51 = some (.iconst 2, 1) := by decide +kernel
theorem pm_a56_52 : pm_as (pm_cd pm_mm56) 52 = some (.if_icmp .ne 13, 3) := by decide +kernel
theorem pm_a56_55 : pm_as (pm_cd pm_mm56) 55 = some (.aload_n 0, 1) := by decide +kernel
theorem pm_a56_56 : pm_as (pm_cd pm_mm56) 56 = some (.dup, 1) := by decide +kernel
theorem pm_a56_57 : pm_as (pm_cd pm_mm56) 57 = some (.getfield 19, 3) := by decide +kernel
theorem pm_a56_60 : pm_as (pm_cd pm_mm56) 60 = some (.iconst 1, 1) := by decide +kernel
theorem pm_a56_61 : pm_as (pm_cd pm_mm56) 61 = some (.isub, 1) := by decide +kernel
theorem pm_a56_62 : pm_as (pm_cd pm_mm56) 62 = some (.putfield 19, 3) := by decide +kernel
theorem pm_a56_65 : pm_as (pm_cd pm_mm56) 65 = some (.aload_n 0, 1) := by decide +kernel
theorem pm_a56_66 : pm_as (pm_cd pm_mm56) 66 = some (.getfield 9, 3) := by decide +kernel
theorem pm_a56_69 : pm_as (pm_cd pm_mm56) 69 = some (.iload_n 1, 1) := by decide +kernel
theorem pm_a56_70 : pm_as (pm_cd pm_mm56) 70 = some (.iaload, 1) := by decide +kernel
theorem pm_a56_71 : pm_as (pm_cd pm_mm56) 71 = some (.iconst 4, 1) := by decide +kernel
theorem pm_a56_72 : pm_as (pm_cd pm_mm56) 72 = some (.iand, 1) := by decide +kernel
theorem pm_a56_73 : pm_as (pm_cd pm_mm56) 73 = some (.ifCond .eq 9, 3) := by decide +kernel
theorem pm_a56_76 : pm_as (pm_cd pm_mm56) 76 = some (.aload_n 0, 1) := by decide +kernel
theorem pm_a56_77 : pm_as (pm_cd pm_mm56) 77 = some (.bipush 41, 2) := by decide +kernel
theorem pm_a56_79 : pm_as (pm_cd pm_mm56) 79 = some (.invokevirtual 48, 3) := by decide +kernel
theorem pm_a56_82 : pm_as (pm_cd pm_mm56) 82 = some (.aload_n 0, 1) := by decide +kernel
theorem pm_a56_83 : pm_as (pm_cd pm_mm56) 83 = some (.iload_n 1, 1) := by decide +kernel
theorem pm_a56_84 : pm_as (pm_cd pm_mm56) 84 = some (.putfield 15, 3) := by decide +kernel
theorem pm_a56_87 : pm_as (pm_cd pm_mm56) 87 = some (.iinc 1 (-1), 3) := by decide +kernel
theorem pm_a56_90 : pm_as (pm_cd pm_mm56) 90 = some (.goto (-75), 3) := by decide +kernel
theorem pm_a56_93 : pm_as (pm_cd pm_mm56) 93 = some (.return_, 1) := by decide +kernel
theorem pm_a57_0 : pm_as (pm_cd pm_mm57) 0 = some (.aload_n 0, 1) := by decide +kernel
theorem pm_a57_1 : pm_as (pm_cd pm_mm57) 1 = some (.iload_n 1, 1) := by decide +kernel
theorem pm_a57_2 : pm_as (pm_cd pm_mm57) 2 = some (.invokevirtual 86, 3) := by decide +kernel
theorem pm_a57_5 : pm_as (pm_cd pm_mm57) 5 = some (.astore_n 3, 1) := by decide +kernel
theorem pm_a57_6 : pm_as (pm_cd pm_mm57) 6 = some (.aload_n 0, 1) := by decide +kernel
theorem pm_a57_7 : pm_as (pm_cd pm_mm57) 7 = some (.iload_n 2, 1) := by decide +kernel
theorem pm_a57_8 : pm_as (pm_cd pm_mm57) 8 = some (.invokevirtual 86, 3) := by decide +kernel
theorem pm_a57_11 : pm_as (pm_cd pm_mm57) 11 = some (.astore 4, 2) := by decide +kernel
theorem pm_a57_13 : pm_as (pm_cd pm_mm57) 13 = some (.aload_n 3, 1) := by decide +kernel
theorem pm_a57_14 : pm_as (pm_cd pm_mm57) 14 = some (.ifnull 8, 3) := by decide +kernel
theorem pm_a57_17 : pm_as (pm_cd pm_mm57) 17 = some (.aload 4, 2) := by decide +kernel
theorem pm_a57_19 : pm_as (pm_cd pm_mm57) 19 = some (.ifnonnull 5, 3) := by decide +kernel
theorem pm_a57_22 : pm_as (pm_cd pm_mm57) 22 = some (.iconst (-1), 1) := by decide +kernel
theorem pm_a57_23 : pm_as (pm_cd pm_mm57) 23 = some (.ireturn, 1) := by decide +kernel
theorem pm_a57_24 : pm_as (pm_cd pm_mm57) 24 = some (.aload_n 0, 1) := by decide +kernel
theorem pm_a57_25 : pm_as (pm_cd pm_mm57) 25 = some (.invokevirtual 68, 3) := by decide +kernel
theorem pm_a57_28 : pm_as (pm_cd pm_mm57) 28 = some (.astore 5, 2) := by decide +kernel
theorem pm_a57_30 : pm_as (pm_cd pm_mm57) 30 = some (.aload 5, 2) := by decide +kernel
theorem pm_a57_32 : pm_as (pm_cd pm_mm57) 32 = some (.ifnonnull 6, 3) := by decide +kernel
theorem pm_a57_35 : pm_as (pm_cd pm_mm57) 35 = some (.bipush (-3), 2) := by decide +kernel
theorem pm_a57_37 : pm_as (pm_cd pm_mm57) 37 = some (.ireturn, 1) := by decide +kernel
theorem pm_a57_38 : pm_as (pm_cd pm_mm57) 38 = some (.aload 5, 2) := by decide +kernel
theorem pm_a57_40 : pm_as (pm_cd pm_mm57) 40 = some (.iconst 0, 1) := by decide +kernel
theorem pm_a57_41 : pm_as (pm_cd pm_mm57) 41 = some (.invokevirtual 99, 3) := by decide +kernel
theorem pm_a57_44 : pm_as (pm_cd pm_mm57) 44 = some (.aload 5, 2) := by decide +kernel
theorem pm_a57_46 : pm_as (pm_cd pm_mm57) 46 = some (.aload_n 3, 1) := by decide +kernel
theorem pm_a57_47 : pm_as (pm_cd pm_mm57) 47 = some (.invokevirtual 102, 3) := by decide +kernel
theorem pm_a57_50 : pm_as (pm_cd pm_mm57) 50 = some (.aload 5, 2) := by decide +kernel
theorem pm_a57_52 : pm_as (pm_cd pm_mm57) 52 = some (.aload 4, 2) := by decide +kernel
theorem pm_a57_54 : pm_as (pm_cd pm_mm57) 54 = some (.invokevirtual 102, 3) := by decide +kernel
theorem pm_a57_57 : pm_as (pm_cd pm_mm57) 57 = some (.aload 5, 2) := by decide +kernel
theorem pm_a57_59 : pm_as (pm_cd pm_mm57) 59 = some (.getfield 106, 3) := by decide +kernel
theorem pm_a57_62 : pm_as (pm_cd pm_mm57) 62 = some (.ifCond .eq 8, 3) := by decide +kernel
theorem pm_a57_65 : pm_as (pm_cd pm_mm57) 65 = some (.bipush (-3), 2) := by decide +kernel
theorem pm_a57_67 : pm_as (pm_cd pm_mm57) 67 = some (.goto 7, 3) := by decide +kernel
theorem pm_a57_70 : pm_as (pm_cd pm_mm57) 70 = some (.aload_n 0, 1) := by decide +kernel
theorem pm_a57_71 : pm_as (pm_cd pm_mm57) 71 = some (.invokevirtual 79, 3) := by decide +kernel
theorem pm_a57_74 : pm_as (pm_cd pm_mm57) 74 = some (.ireturn, 1) := by decide +kernel
theorem pm_a58_0 : pm_as (pm_cd pm_mm58) 0 = some (.aload_n 0, 1) := by decide +kernel
theorem pm_a58_1 : pm_as (pm_cd pm_mm58) 1 = some (.aload_n 1, 1) := by decide +kernel
theorem pm_a58_2 : pm_as (pm_cd pm_mm58) 2 = some (.iconst 0, 1) := by decide +kernel
theorem pm_a58_3 : pm_as (pm_cd pm_mm58) 3 = some (.aload_n 1, 1) := by decide +kernel
theorem pm_a58_4 : pm_as (pm_cd pm_mm58) 4 = some (.getfield 21, 3) := by decide +kernel
theorem pm_a58_7 : pm_as (pm_cd pm_mm58) 7 = some (.invokevirtual 35, 3) := by decide +kernel
theorem pm_a58_10 : pm_as (pm_cd pm_mm58) 10 = some (.return_, 1) := by decide +kernel
theorem pm_a59_0 : pm_as (pm_cd pm_mm59) 0 = some (.iload_n 2, 1) := by decide +kernel
theorem pm_a59_1 : pm_as (pm_cd pm_mm59) 1 = some (.ifCond .lt 20, 3) := by decide +kernel
theorem pm_a59_4 : pm_as (pm_cd pm_mm59) 4 = some (.iload_n 2, 1) := by decide +kernel
theorem pm_a59_5 : pm_as (pm_cd pm_mm59) 5 = some (.iload_n 3, 1) := by decide +kernel
theorem pm_a59_6 : pm_as (pm_cd pm_mm59) 6 = some (.if_icmp .gt 15, 3) := by decide +kernel
theorem pm_a59_9 : pm_as (pm_cd pm_mm59) 9 = some (.iload_n 3, 1) := by decide +kernel
theorem pm_a59_10 : pm_as (pm_cd pm_mm59) 10 = some (.aload_n 1, 1) := by decide +kernel
theorem pm_a59_11 : pm_as (pm_cd pm_mm59) 11 = some (.getfield 21, 3) := by decide +kernel
theorem pm_a59_14 : pm_as (pm_cd pm_mm59) 14 = some (.if_icmp .gt 7, 3) := by decide +kernel
theorem pm_a59_17 : pm_as (pm_cd pm_mm59) 17 = some (.iconst 1, 1) := by decide +kernel
theorem pm_a59_18 : pm_as (pm_cd pm_mm59) 18 = some (.goto 4, 3) := by decide +kernel
theorem pm_a59_21 : pm_as (pm_cd pm_mm59) 21 = some (.iconst 0, 1) := by decide +kernel
theorem pm_a59_22 : pm_as (pm_cd pm_mm59) 22 = some (.istore 4, 2) := by decide +kernel
theorem pm_a59_24 : pm_as (pm_cd pm_mm59) 24 = some (.iload 4, 2) := by decide +kernel
theorem pm_a59_26 : pm_as (pm_cd pm_mm59) 26 = some (.ifCond .eq 19, 3) := by decide +kernel
theorem pm_a59_29 : pm_as (pm_cd pm_mm59) 29 = some (.iload_n 3, 1) := by decide +kernel
theorem pm_a59_30 : pm_as (pm_cd pm_mm59) 30 = some (.iload_n 2, 1) := by decide +kernel
theorem pm_a59_31 : pm_as (pm_cd pm_mm59) 31 = some (.isub, 1) := by decide +kernel
theorem pm_a59_32 : pm_as (pm_cd pm_mm59) 32 = some (.aload_n 0, 1) := by decide +kernel
theorem pm_a59_33 : pm_as (pm_cd pm_mm59) 33 = some (.getfield 15, 3) := by decide +kernel
theorem pm_a59_36 : pm_as (pm_cd pm_mm59) 36 = some (.arraylength, 1) := by decide +kernel
theorem pm_a59_37 : pm_as (pm_cd pm_mm59) 37 = some (.aload_n 0, 1) := by decide +kernel
theorem pm_a59_38 : pm_as (pm_cd pm_mm59) 38 = some (.getfield 21, 3) := by decide +kernel
theorem pm_a59_41 : pm_as (pm_cd pm_mm59) 41 = some (.isub, 1) := by decide +kernel
theorem pm_a59_42 : pm_as (pm_cd pm_mm59) 42 = some (.if_icmp .le 9, 3) := by decide +kernel
theorem pm_a59_45 : pm_as (pm_cd pm_mm59) 45 = some (.aload_n 0, 1) := by decide +kernel
theorem pm_a59_46 : pm_as (pm_cd pm_mm59) 46 = some (.iconst 1, 1) := by decide +kernel
theorem pm_a59_47 : pm_as (pm_cd pm_mm59) 47 = some (.putfield 25, 3) := by decide +kernel
theorem pm_a59_50 : pm_as (pm_cd pm_mm59) 50 = some (.return_, 1) := by decide +kernel
theorem pm_a59_51 : pm_as (pm_cd pm_mm59) 51 = some (.aload_n 1, 1) := by decide +kernel
theorem pm_a59_52 : pm_as (pm_cd pm_mm59) 52 = some (.getfield 15, 3) := by decide +kernel
theorem pm_a59_55 : pm_as (pm_cd pm_mm59) 55 = some (.iload_n 2, 1) := by decide +kernel
theorem pm_a59_56 : pm_as (pm_cd pm_mm59) 56 = some (.aload_n 0, 1) := by decide +kernel
theorem pm_a59_57 : pm_as (pm_cd pm_mm59) 57 = some (.getfield 15, 3) := by decide +kernel
theorem pm_a59_60 : pm_as (pm_cd pm_mm59) 60 = some (.aload_n 0, 1) := by decide +kernel
theorem pm_a59_61 : pm_as (pm_cd pm_mm59) 61 = some (.getfield 21, 3) := by decide +kernel
theorem pm_a59_64 : pm_as (pm_cd pm_mm59) 64 = some (.iload_n 3, 1) := by decide +kernel
theorem pm_a59_65 : pm_as (pm_cd pm_mm59) 65 = some (.iload_n 2, 1) := by decide +kernel
theorem pm_a59_66 : pm_as (pm_cd pm_mm59) 66 = some (.isub, 1) := by decide +kernel
theorem pm_a59_67 : pm_as (pm_cd pm_mm59) 67 = some (.invokestatic 29, 3) := by decide +kernel
theorem pm_a59_70 : pm_as (pm_cd pm_mm59) 70 = some (.aload_n 0, 1) := by decide +kernel
theorem pm_a59_71 : pm_as (pm_cd pm_mm59) 71 = some (.dup, 1) := by decide +kernel
theorem pm_a59_72 : pm_as (pm_cd pm_mm59) 72 = some (.getfield 21, 3) := by decide +kernel
theorem pm_a59_75 : pm_as (pm_cd pm_mm59) 75 = some (.iload_n 3, 1) := by decide +kernel
theorem pm_a59_76 : pm_as (pm_cd pm_mm59) 76 = some (.iload_n 2, 1) := by decide +kernel
theorem pm_a59_77 : pm_as (pm_cd pm_mm59) 77 = some (.isub, 1) := by decide +kernel
theorem pm_a59_78 : pm_as (pm_cd pm_mm59) 78 = some (.iadd, 1) := by decide +kernel
theorem pm_a59_79 : pm_as (pm_cd pm_mm59) 79 = some (.putfield 21, 3) := by decide +kernel
theorem pm_a59_82 : pm_as (pm_cd pm_mm59) 82 = some (.return_, 1) := by decide +kernel
theorem pm_a60_0 : pm_as (pm_cd pm_mm60) 0 = some (.aload_n 0, 1) := by decide +kernel
theorem pm_a60_1 : pm_as (pm_cd pm_mm60) 1 = some (.iload_n 1, 1) := by decide +kernel
theorem pm_a60_2 : pm_as (pm_cd pm_mm60) 2 = some (.invokevirtual 86, 3) := by decide +kernel
theorem pm_a60_5 : pm_as (pm_cd pm_mm60) 5 = some (.astore_n 2, 1) := by decide +kernel
theorem pm_a60_6 : pm_as (pm_cd pm_mm60) 6 = some (.aload_n 2, 1) := by decide +kernel
theorem pm_a60_7 : pm_as (pm_cd pm_mm60) 7 = some (.ifnonnull 5, 3) := by decide +kernel
theorem pm_a60_10 : pm_as (pm_cd pm_mm60) 10 = some (.iconst (-1), 1) := by decide +kernel
theorem pm_a60_11 : pm_as (pm_cd pm_mm60) 11 = some (.ireturn, 1) := by decide +kernel
theorem pm_a60_12 : pm_as (pm_cd pm_mm60) 12 = some (.aload_n 0, 1) := by decide +kernel
theorem pm_a60_13 : pm_as (pm_cd pm_mm60) 13 = some (.invokevirtual 68, 3) := by decide +kernel
theorem pm_a60_16 : pm_as (pm_cd pm_mm60) 16 = some (.astore_n 3, 1) := by decide +kernel
theorem pm_a60_17 : pm_as (pm_cd pm_mm60) 17 = some (.aload_n 3, 1) := by decide +kernel
theorem pm_a60_18 : pm_as (pm_cd pm_mm60) 18 = some (.ifnonnull 6, 3) := by decide +kernel
theorem pm_a60_21 : pm_as (pm_cd pm_mm60) 21 = some (.bipush (-3), 2) := by decide +kernel
theorem pm_a60_23 : pm_as (pm_cd pm_mm60) 23 = some (.ireturn, 1) := by decide +kernel
theorem pm_a60_24 : pm_as (pm_cd pm_mm60) 24 = some (.aload_n 3, 1) := by decide +kernel
theorem pm_a60_25 : pm_as (pm_cd pm_mm60) 25 = some (.aload_n 2, 1) := by decide +kernel
theorem pm_a60_26 : pm_as (pm_cd pm_mm60) 26 = some (.invokevirtual 102, 3) := by decide +kernel
theorem pm_a60_29 : pm_as (pm_cd pm_mm60) 29 = some (.aload_n 0, 1) := by decide +kernel
theorem pm_a60_30 : pm_as (pm_cd pm_mm60) 30 = some (.invokevirtual 79, 3) := by decide +kernel
theorem pm_a60_33 : pm_as (pm_cd pm_mm60) 33 = some (.ireturn, 1) := by decide +kernel
theorem pm_a61_0 : pm_as (pm_cd pm_mm61) 0 = some (.aload_n 0, 1) := by decide +kernel
theorem pm_a61_1 : pm_as (pm_cd pm_mm61) 1 = some (.iload_n 1, 1) := by decide +kernel
theorem pm_a61_2 : pm_as (pm_cd pm_mm61) 2 = some (.invokevirtual 86, 3) := by decide +kernel
theorem pm_a61_5 : pm_as (pm_cd pm_mm61) 5 = some (.astore_n 3, 1) := by decide +kernel
theorem pm_a61_6 : pm_as (pm_cd pm_mm61) 6 = some (.aload_n 0, 1) := by decide +kernel
theorem pm_a61_7 : pm_as (pm_cd pm_mm61) 7 = some (.iload_n 2, 1) := by decide +kernel
theorem pm_a61_8 : pm_as (pm_cd pm_mm61) 8 = some (.invokevirtual 86, 3) := by decide +kernel
theorem pm_a61_11 : pm_as (pm_cd pm_mm61) 11 = some (.astore 4, 2) := by decide +kernel
theorem pm_a61_13 : pm_as (pm_cd pm_mm61) 13 = some (.aload_n 3, 1) := by decide +kernel
theorem pm_a61_14 : pm_as (pm_cd pm_mm61) 14 = some (.ifnull 8, 3) := by decide +kernel
theorem pm_a61_17 : pm_as (pm_cd pm_mm61) 17 = some (.aload 4, 2) := by decide +kernel
theorem pm_a61_19 : pm_as (pm_cd pm_mm61) 19 = some (.ifnonnull 5, 3) := by decide +kernel
theorem pm_a61_22 : pm_as (pm_cd pm_mm61) 22 = some (.iconst (-1), 1) := by decide +kernel
theorem pm_a61_23 : pm_as (pm_cd pm_mm61) 23 = some (.ireturn, 1) := by decide +kernel
theorem pm_a61_24 : pm_as (pm_cd pm_mm61) 24 = some (.aload_n 3, 1) := by decide +kernel
theorem pm_a61_25 : pm_as (pm_cd pm_mm61) 25 = some (.aload 4, 2) := by decide +kernel
theorem pm_a61_27 : pm_as (pm_cd pm_mm61) 27 = some (.invokevirtual 110, 3) := by decide +kernel
theorem pm_a61_30 : pm_as (pm_cd pm_mm61) 30 = some (.ifCond .eq 7, 3) := by decide +kernel
theorem pm_a61_33 : pm_as (pm_cd pm_mm61) 33 = some (.iconst 1, 1) := by decide +kernel
theorem pm_a61_34 : pm_as (pm_cd pm_mm61) 34 = some (.goto 4, 3) := by decide +kernel
theorem pm_a61_37 : pm_as (pm_cd pm_mm61) 37 = some (.iconst 0, 1) := by decide +kernel
theorem pm_a61_38 : pm_as (pm_cd pm_mm61) 38 = some (.ireturn, 1) := by decide +kernel
theorem pm_a62_0 : pm_as (pm_cd pm_mm62) 0 = some (.aload_n 0, 1) := by decide +kernel
theorem pm_a62_1 : pm_as (pm_cd pm_mm62) 1 = some (.getfield 21, 3) := by decide +kernel
theorem pm_a62_4 : pm_as (pm_cd pm_mm62) 4 = some (.aload_n 1, 1) := by decide +kernel
theorem pm_a62_5 : pm_as (pm_cd pm_mm62) 5 = some (.getfield 21, 3) := by decide +kernel
theorem pm_a62_8 : pm_as (pm_cd pm_mm62) 8 = some (.if_icmp .eq 5, 3) := by decide +kernel
theorem pm_a62_11 : pm_as (pm_cd pm_mm62) 11 = some (.iconst 0, 1) := by decide +kernel
theorem pm_a62_12 : pm_as (pm_cd pm_mm62) 12 = some (.ireturn, 1) := by decide +kernel
theorem pm_a62_13 : pm_as (pm_cd pm_mm62) 13 = some (.iconst 0, 1) := by decide +kernel
theorem pm_a62_14 : pm_as (pm_cd pm_mm62) 14 = some (.istore_n 2, 1) := by decide +kernel
theorem pm_a62_15 : pm_as (pm_cd pm_mm62) 15 = some (.iload_n 2, 1) := by decide +kernel
theorem pm_a62_16 : pm_as (pm_cd pm_mm62) 16 = some (.aload_n 0, 1) := by decide +kernel
theorem pm_a62_17 : pm_as (pm_cd pm_mm62) 17 = some (.getfield 21, 3) := by decide +kernel
theorem pm_a62_20 : pm_as (pm_cd pm_mm62) 20 = some (.if_icmp .ge 24, 3) := by decide +kernel
theorem pm_a62_23 : pm_as (pm_cd pm_mm62) 23 = some (.aload_n 0, 1) := by decide +kernel
theorem pm_a62_24 : pm_as (pm_cd pm_mm62) 24 = some (.iload_n 2, 1) := by decide +kernel
theorem pm_a62_25 : pm_as (pm_cd pm_mm62) 25 = some (.invokevirtual 39, 3) := by decide +kernel
theorem pm_a62_28 : pm_as (pm_cd pm_mm62) 28 = some (.aload_n 1, 1) := by decide +kernel
theorem pm_a62_29 : pm_as (pm_cd pm_mm62) 29 = some (.iload_n 2, 1) := by decide +kernel
theorem pm_a62_30 : pm_as (pm_cd pm_mm62) 30 = some (.invokevirtual 39, 3) := by decide +kernel
theorem pm_a62_33 : pm_as (pm_cd pm_mm62) 33 = some (.if_icmp .eq 5, 3) := by decide +kernel
theorem pm_a62_36 : pm_as (pm_cd pm_mm62) 36 = some (.iconst 0, 1) := by decide +kernel
theorem pm_a62_37 : pm_as (pm_cd pm_mm62) 37 = some (.ireturn, 1) := by decide +kernel
theorem pm_a62_38 : pm_as (pm_cd pm_mm62) 38 = some (.iinc 2 1, 3) := by decide +kernel
theorem pm_a62_41 : pm_as (pm_cd pm_mm62) 41 = some (.goto (-26), 3) := by decide +kernel
theorem pm_a62_44 : pm_as (pm_cd pm_mm62) 44 = some (.iconst 1, 1) := by decide +kernel
theorem pm_a62_45 : pm_as (pm_cd pm_mm62) 45 = some (.ireturn, 1) := by decide +kernel
theorem pm_a63_0 : pm_as (pm_cd pm_mm63) 0 = some (.aload_n 0, 1) := by decide +kernel
theorem pm_a63_1 : pm_as (pm_cd pm_mm63) 1 = some (.iload_n 1, 1) := by decide +kernel
theorem pm_a63_2 : pm_as (pm_cd pm_mm63) 2 = some (.invokevirtual 86, 3) := by decide +kernel
theorem pm_a63_5 : pm_as (pm_cd pm_mm63) 5 = some (.astore_n 3, 1) := by decide +kernel
theorem pm_a63_6 : pm_as (pm_cd pm_mm63) 6 = some (.aload_n 3, 1) := by decide +kernel
theorem pm_a63_7 : pm_as (pm_cd pm_mm63) 7 = some (.ifnull 10, 3) := by decide +kernel
theorem pm_a63_10 : pm_as (pm_cd pm_mm63) 10 = some (.iload_n 2, 1) := by decide +kernel
theorem pm_a63_11 : pm_as (pm_cd pm_mm63) 11 = some (.invokestatic 114, 3) := by decide +kernel
theorem pm_a63_14 : pm_as (pm_cd pm_mm63) 14 = some (.ifCond .ne 7, 3) := by decide +kernel
theorem pm_a63_17 : pm_as (pm_cd pm_mm63) 17 = some (.iconst (-1), 1) := by decide +kernel
theorem pm_a63_18 : pm_as (pm_cd pm_mm63) 18 = some (.goto 12, 3) := by decide +kernel
theorem pm_a63_21 : pm_as (pm_cd pm_mm63) 21 = some (.aload_n 0, 1) := by decide +kernel
theorem pm_a63_22 : pm_as (pm_cd pm_mm63) 22 = some (.getfield 57, 3) := by decide +kernel
theorem pm_a63_25 : pm_as (pm_cd pm_mm63) 25 = some (.aload_n 3, 1) := by decide +kernel
theorem pm_a63_26 : pm_as (pm_cd pm_mm63) 26 = some (.iload_n 2, 1) := by decide +kernel
theorem pm_a63_27 : pm_as (pm_cd pm_mm63) 27 = some (.invokevirtual 118, 3) := by decide +kernel
theorem pm_a63_30 : pm_as (pm_cd pm_mm63) 30 = some (.ireturn, 1) := by decide +kernel
theorem pm_a64_0 : pm_as (pm_cd pm_mm64) 0 = some (.iload_n 0, 1) := by decide +kernel
theorem pm_a64_1 : pm_as (pm_cd pm_mm64) 1 = some (.ifCond .lt 12, 3) := by decide +kernel
theorem pm_a64_4 : pm_as (pm_cd pm_mm64) 4 = some (.iload_n 0, 1) := by decide +kernel
theorem pm_a64_5 : pm_as (pm_cd pm_mm64) 5 = some (.iconst 3, 1) := by decide +kernel
theorem pm_a64_6 : pm_as (pm_cd pm_mm64) 6 = some (.if_icmp .gt 7, 3) := by decide +kernel
theorem pm_a64_9 : pm_as (pm_cd pm_mm64) 9 = some (.iconst 1, 1) := by decide +kernel
theorem pm_a64_10 : pm_as (pm_cd pm_mm64) 10 = some (.goto 4, 3) := by decide +kernel
theorem pm_a64_13 : pm_as (pm_cd pm_mm64) 13 = some (.iconst 0, 1) := by decide +kernel
theorem pm_a64_14 : pm_as (pm_cd pm_mm64) 14 = some (.ireturn, 1) := by decide +kernel
theorem pm_a65_0 : pm_as (pm_cd pm_mm65) 0 = some (.aload_n 0, 1) := by decide +kernel
theorem pm_a65_1 : pm_as (pm_cd pm_mm65) 1 = some (.aload_n 1, 1) := by decide +kernel
theorem pm_a65_2 : pm_as (pm_cd pm_mm65) 2 = some (.iload_n 2, 1) := by decide +kernel
theorem pm_a65_3 : pm_as (pm_cd pm_mm65) 3 = some (.invokevirtual 45, 3) := by decide +kernel
theorem pm_a65_6 : pm_as (pm_cd pm_mm65) 6 = some (.istore_n 3, 1) := by decide +kernel
theorem pm_a65_7 : pm_as (pm_cd pm_mm65) 7 = some (.iload_n 3, 1) := by decide +kernel
theorem pm_a65_8 : pm_as (pm_cd pm_mm65) 8 = some (.ifCond .ge 5, 3) := by decide +kernel
theorem pm_a65_11 : pm_as (pm_cd pm_mm65) 11 = some (.iconst 0, 1) := by decide +kernel
theorem pm_a65_12 : pm_as (pm_cd pm_mm65) 12 = some (.ireturn, 1) := by decide +kernel
theorem pm_a65_13 : pm_as (pm_cd pm_mm65) 13 = some (.aload_n 1, 1) := by decide +kernel
theorem pm_a65_14 : pm_as (pm_cd pm_mm65) 14 = some (.iload_n 3, 1) := by decide +kernel
theorem pm_a65_15 : pm_as (pm_cd pm_mm65) 15 = some (.invokevirtual 48, 3) := by decide +kernel
theorem pm_a65_18 : pm_as (pm_cd pm_mm65) 18 = some (.istore 4, 2) := by decide +kernel
theorem pm_a65_20 : pm_as (pm_cd pm_mm65) 20 = some (.aload_n 0, 1) := by decide +kernel
theorem pm_a65_21 : pm_as (pm_cd pm_mm65) 21 = some (.getfield 20, 3) := by decide +kernel
theorem pm_a65_24 : pm_as (pm_cd pm_mm65) 24 = some (.aload_n 1, 1) := by decide +kernel
theorem pm_a65_25 : pm_as (pm_cd pm_mm65) 25 = some (.iload_n 3, 1) := by decide +kernel
theorem pm_a65_26 : pm_as (pm_cd pm_mm65) 26 = some (.iload 4, 2) := by decide +kernel
theorem pm_a65_28 : pm_as (pm_cd pm_mm65) 28 = some (.invokevirtual 52, 3) := by decide +kernel
theorem pm_a65_31 : pm_as (pm_cd pm_mm65) 31 = some (.aload_n 0, 1) := by decide +kernel
theorem pm_a65_32 : pm_as (pm_cd pm_mm65) 32 = some (.getfield 14, 3) := by decide +kernel
theorem pm_a65_35 : pm_as (pm_cd pm_mm65) 35 = some (.invokevirtual 58, 3) := by decide +kernel
theorem pm_a65_38 : pm_as (pm_cd pm_mm65) 38 = some (.iload_n 2, 1) := by decide +kernel
theorem pm_a65_39 : pm_as (pm_cd pm_mm65) 39 = some (.iconst 3, 1) := by decide +kernel
theorem pm_a65_40 : pm_as (pm_cd pm_mm65) 40 = some (.if_icmp .ne 26, 3) := by decide +kernel
theorem pm_a65_43 : pm_as (pm_cd pm_mm65) 43 = some (.aload_n 0, 1) := by decide +kernel
theorem pm_a65_44 : pm_as (pm_cd pm_mm65) 44 = some (.aload_n 1, 1) := by decide +kernel
theorem pm_a65_45 : pm_as (pm_cd pm_mm65) 45 = some (.iload_n 3, 1) := by decide +kernel
theorem pm_a65_46 : pm_as (pm_cd pm_mm65) 46 = some (.iconst 2, 1) := by decide +kernel
theorem pm_a65_47 : pm_as (pm_cd pm_mm65) 47 = some (.iadd, 1) := by decide +kernel
theorem pm_a65_48 : pm_as (pm_cd pm_mm65) 48 = some (.aload_n 0, 1) := by decide +kernel
theorem pm_a65_49 : pm_as (pm_cd pm_mm65) 49 = some (.getfield 20, 3) := by decide +kernel
theorem pm_a65_52 : pm_as (pm_cd pm_mm65) 52 = some (.iload_n 3, 1) := by decide +kernel
theorem pm_a65_53 : pm_as (pm_cd pm_mm65) 53 = some (.iconst 2, 1) := by decide +kernel
theorem pm_a65_54 : pm_as (pm_cd pm_mm65) 54 = some (.iadd, 1) := by decide +kernel
theorem pm_a65_55 : pm_as (pm_cd pm_mm65) 55 = some (.invokevirtual 61, 3) := by decide +kernel
theorem pm_a65_58 : pm_as (pm_cd pm_mm65) 58 = some (.iload 4, 2) := by decide +kernel
theorem pm_a65_60 : pm_as (pm_cd pm_mm65) 60 = some (.invokevirtual 64, 3) := by decide +kernel
theorem pm_a65_63 : pm_as (pm_cd pm_mm65) 63 = some (.goto 11, 3) := by decide +kernel
theorem pm_a65_66 : pm_as (pm_cd pm_mm65) 66 = some (.aload_n 0, 1) := by decide +kernel
theorem pm_a65_67 : pm_as (pm_cd pm_mm65) 67 = some (.aload_n 1, 1) := by decide +kernel
theorem pm_a65_68 : pm_as (pm_cd pm_mm65) 68 = some (.iload_n 3, 1) := by decide +kernel
theorem pm_a65_69 : pm_as (pm_cd pm_mm65) 69 = some (.iload 4, 2) := by decide +kernel
theorem pm_a65_71 : pm_as (pm_cd pm_mm65) 71 = some (.invokevirtual 68, 3) := by decide +kernel
theorem pm_a65_74 : pm_as (pm_cd pm_mm65) 74 = some (.aload_n 1, 1) := by decide +kernel
theorem pm_a65_75 : pm_as (pm_cd pm_mm65) 75 = some (.iload_n 3, 1) := by decide +kernel
theorem pm_a65_76 : pm_as (pm_cd pm_mm65) 76 = some (.iload 4, 2) := by decide +kernel
theorem pm_a65_78 : pm_as (pm_cd pm_mm65) 78 = some (.aload_n 0, 1) := by decide +kernel
theorem pm_a65_79 : pm_as (pm_cd pm_mm65) 79 = some (.getfield 14, 3) := by decide +kernel
theorem pm_a65_82 : pm_as (pm_cd pm_mm65) 82 = some (.invokevirtual 71, 3) := by decide +kernel
theorem pm_a65_85 : pm_as (pm_cd pm_mm65) 85 = some (.ifCond .eq 7, 3) := by decide +kernel
theorem pm_a65_88 : pm_as (pm_cd pm_mm65) 88 = some (.iconst 1, 1) := by decide +kernel
theorem pm_a65_89 : pm_as (pm_cd pm_mm65) 89 = some (.goto 5, 3) := by decide +kernel
theorem pm_a65_92 : pm_as (pm_cd pm_mm65) 92 = some (.bipush (-3), 2) := by decide +kernel
theorem pm_a65_94 : pm_as (pm_cd pm_mm65) 94 = some (.ireturn, 1) := by decide +kernel
theorem pm_a66_0 : pm_as (pm_cd pm_mm66) 0 = some (.iload_n 2, 1) := by decide +kernel
theorem pm_a66_1 : pm_as (pm_cd pm_mm66) 1 = some (.tableswitch 45 0 2 #[27, 33, 39], 27) := by decide +kernel
theorem pm_a66_28 : pm_as (pm_cd pm_mm66) 28 = some (.aload_n 0, 1) := by decide +kernel
theorem pm_a66_29 : pm_as (pm_cd pm_mm66) 29 = some (.aload_n 1, 1) := by decide +kernel
theorem pm_a66_30 : pm_as (pm_cd pm_mm66) 30 = some (.invokevirtual 32, 3) := by decide +kernel
theorem pm_a66_33 : pm_as (pm_cd pm_mm66) 33 = some (.ireturn, 1) := by decide +kernel
theorem pm_a66_34 : pm_as (pm_cd pm_mm66) 34 = some (.aload_n 0, 1) := by decide +kernel
theorem pm_a66_35 : pm_as (pm_cd pm_mm66) 35 = some (.aload_n 1, 1) := by decide +kernel
theorem pm_a66_36 : pm_as (pm_cd pm_mm66) 36 = some (.invokevirtual 36, 3) := by decide +kernel
theorem pm_a66_39 : pm_as (pm_cd pm_mm66) 39 = some (.ireturn, 1) := by decide +kernel
theorem pm_a66_40 : pm_as (pm_cd pm_mm66) 40 = some (.aload_n 0, 1) := by decide +kernel
theorem pm_a66_41 : pm_as (pm_cd pm_mm66) 41 = some (.aload_n 1, 1) := by decide +kernel
theorem pm_a66_42 : pm_as (pm_cd pm_mm66) 42 = some (.invokevirtual 39, 3) := by decide +kernel
theorem pm_a66_45 : pm_as (pm_cd pm_mm66) 45 = some (.ireturn, 1) := by decide +kernel
theorem pm_a66_46 : pm_as (pm_cd pm_mm66) 46 = some (.aload_n 0, 1) := by decide +kernel
theorem pm_a66_47 : pm_as (pm_cd pm_mm66) 47 = some (.aload_n 1, 1) := by decide +kernel
theorem pm_a66_48 : pm_as (pm_cd pm_mm66) 48 = some (.invokevirtual 42, 3) := by decide +kernel
theorem pm_a66_51 : pm_as (pm_cd pm_mm66) 51 = some (.ireturn, 1) := by decide +kernel
theorem pm_a67_0 : pm_as (pm_cd pm_mm67) 0 = some (.iconst 0, 1) := by decide +kernel
theorem pm_a67_1 : pm_as (pm_cd pm_mm67) 1 = some (.istore_n 2, 1) := by decide +kernel
theorem pm_a67_2 : pm_as (pm_cd pm_mm67) 2 = some (.iload_n 2, 1) := by decide +kernel
theorem pm_a67_3 : pm_as (pm_cd pm_mm67) 3 = some (.aload_n 1, 1) := by decide +kernel
theorem pm_a67_4 : pm_as (pm_cd pm_mm67) 4 = some (.getfield 24, 3) := by decide +kernel
theorem pm_a67_7 : pm_as (pm_cd pm_mm67) 7 = some (.if_icmp .ge 20, 3) := by decide +kernel
theorem pm_a67_10 : pm_as (pm_cd pm_mm67) 10 = some (.aload_n 1, 1) := by decide +kernel
theorem pm_a67_11 : pm_as (pm_cd pm_mm67) 11 = some (.iload_n 2, 1) := by decide +kernel
theorem pm_a67_12 : pm_as (pm_cd pm_mm67) 12 = some (.invokestatic 28, 3) := by decide +kernel
theorem pm_a67_15 : pm_as (pm_cd pm_mm67) 15 = some (.iconst (-1), 1) := by decide +kernel
theorem pm_a67_16 : pm_as (pm_cd pm_mm67) 16 = some (.if_icmp .eq 5, 3) := by decide +kernel
theorem pm_a67_19 : pm_as (pm_cd pm_mm67) 19 = some (.iload_n 2, 1) := by decide +kernel
theorem pm_a67_20 : pm_as (pm_cd pm_mm67) 20 = some (.ireturn, 1) := by decide +kernel
theorem pm_a67_21 : pm_as (pm_cd pm_mm67) 21 = some (.iinc 2 1, 3) := by decide +kernel
theorem pm_a67_24 : pm_as (pm_cd pm_mm67) 24 = some (.goto (-22), 3) := by decide +kernel
theorem pm_a67_27 : pm_as (pm_cd pm_mm67) 27 = some (.bipush (-4), 2) := by decide +kernel
theorem pm_a67_29 : pm_as (pm_cd pm_mm67) 29 = some (.ireturn, 1) := by decide +kernel
theorem pm_a68_0 : pm_as (pm_cd pm_mm68) 0 = some (.aload_n 0, 1) := by decide +kernel
theorem pm_a68_1 : pm_as (pm_cd pm_mm68) 1 = some (.iload_n 1, 1) := by decide +kernel
theorem pm_a68_2 : pm_as (pm_cd pm_mm68) 2 = some (.invokevirtual 75, 3) := by decide +kernel
theorem pm_a68_5 : pm_as (pm_cd pm_mm68) 5 = some (.ifCond .eq 5, 3) := by decide +kernel
theorem pm_a68_8 : pm_as (pm_cd pm_mm68) 8 = some (.iconst (-1), 1) := by decide +kernel
theorem pm_a68_9 : pm_as (pm_cd pm_mm68) 9 = some (.ireturn, 1) := by decide +kernel
theorem pm_a68_10 : pm_as (pm_cd pm_mm68) 10 = some (.aload_n 0, 1) := by decide +kernel
theorem pm_a68_11 : pm_as (pm_cd pm_mm68) 11 = some (.iload_n 1, 1) := by decide +kernel
theorem pm_a68_12 : pm_as (pm_cd pm_mm68) 12 = some (.iconst 1, 1) := by decide +kernel
theorem pm_a68_13 : pm_as (pm_cd pm_mm68) 13 = some (.iadd, 1) := by decide +kernel
theorem pm_a68_14 : pm_as (pm_cd pm_mm68) 14 = some (.invokevirtual 75, 3) := by decide +kernel
theorem pm_a68_17 : pm_as (pm_cd pm_mm68) 17 = some (.istore_n 2, 1) := by decide +kernel
theorem pm_a68_18 : pm_as (pm_cd pm_mm68) 18 = some (.iload_n 2, 1) := by decide +kernel
theorem pm_a68_19 : pm_as (pm_cd pm_mm68) 19 = some (.iconst 1, 1) := by decide +kernel
theorem pm_a68_20 : pm_as (pm_cd pm_mm68) 20 = some (.if_icmp .eq 8, 3) := by decide +kernel
theorem pm_a68_23 : pm_as (pm_cd pm_mm68) 23 = some (.iload_n 2, 1) := by decide +kernel
theorem pm_a68_24 : pm_as (pm_cd pm_mm68) 24 = some (.iconst 4, 1) := by decide +kernel
theorem pm_a68_25 : pm_as (pm_cd pm_mm68) 25 = some (.if_icmp .ne 5, 3) := by decide +kernel
theorem pm_a68_28 : pm_as (pm_cd pm_mm68) 28 = some (.iload_n 2, 1) := by decide +kernel
theorem pm_a68_29 : pm_as (pm_cd pm_mm68) 29 = some (.ireturn, 1) := by decide +kernel
theorem pm_a68_30 : pm_as (pm_cd pm_mm68) 30 = some (.iload_n 2, 1) := by decide +kernel
theorem pm_a68_31 : pm_as (pm_cd pm_mm68) 31 = some (.ifCond .eq 5, 3) := by decide +kernel
theorem pm_a68_34 : pm_as (pm_cd pm_mm68) 34 = some (.iconst (-1), 1) := by decide +kernel
theorem pm_a68_35 : pm_as (pm_cd pm_mm68) 35 = some (.ireturn, 1) := by decide +kernel
theorem pm_a68_36 : pm_as (pm_cd pm_mm68) 36 = some (.aload_n 0, 1) := by decide +kernel
theorem pm_a68_37 : pm_as (pm_cd pm_mm68) 37 = some (.iload_n 1, 1) := by decide +kernel
theorem pm_a68_38 : pm_as (pm_cd pm_mm68) 38 = some (.iconst 2, 1) := by decide +kernel
theorem pm_a68_39 : pm_as (pm_cd pm_mm68) 39 = some (.iadd, 1) := by decide +kernel
theorem pm_a68_40 : pm_as (pm_cd pm_mm68) 40 = some (.invokevirtual 75, 3) := by decide +kernel
theorem pm_a68_43 : pm_as (pm_cd pm_mm68) 43 = some (.istore_n 3, 1) := by decide +kernel
theorem pm_a68_44 : pm_as (pm_cd pm_mm68) 44 = some (.iload_n 3, 1) := by decide +kernel
theorem pm_a68_45 : pm_as (pm_cd pm_mm68) 45 = some (.iconst 3, 1) := by decide +kernel
theorem pm_a68_46 : pm_as (pm_cd pm_mm68) 46 = some (.if_icmp .ne 5, 3) := by decide +kernel
theorem pm_a68_49 : pm_as (pm_cd pm_mm68) 49 = some (.iconst 3, 1) := by decide +kernel
theorem pm_a68_50 : pm_as (pm_cd pm_mm68) 50 = some (.ireturn, 1) := by decide +kernel
theorem pm_a68_51 : pm_as (pm_cd pm_mm68) 51 = some (.iload_n 3, 1) := by decide +kernel
theorem pm_a68_52 : pm_as (pm_cd pm_mm68) 52 = some (.ifCond .ne 18, 3) := by decide +kernel
theorem pm_a68_55 : pm_as (pm_cd pm_mm68) 55 = some (.aload_n 0, 1) := by decide +kernel
theorem pm_a68_56 : pm_as (pm_cd pm_mm68) 56 = some (.iload_n 1, 1) := by decide +kernel
theorem pm_a68_57 : pm_as (pm_cd pm_mm68) 57 = some (.iconst 3, 1) := by decide +kernel
theorem pm_a68_58 : pm_as (pm_cd pm_mm68) 58 = some (.iadd, 1) := by decide +kernel
theorem pm_a68_59 : pm_as (pm_cd pm_mm68) 59 = some (.invokevirtual 75, 3) := by decide +kernel
theorem pm_a68_62 : pm_as (pm_cd pm_mm68) 62 = some (.iconst 2, 1) := by decide +kernel
theorem pm_a68_63 : pm_as (pm_cd pm_mm68) 63 = some (.if_icmp .ne 7, 3) := by decide +kernel
theorem pm_a68_66 : pm_as (pm_cd pm_mm68) 66 = some (.iconst 2, 1) := by decide +kernel
theorem pm_a68_67 : pm_as (pm_cd pm_mm68) 67 = some (.goto 4, 3) := by decide +kernel
theorem pm_a68_70 : pm_as (pm_cd pm_mm68) 70 = some (.iconst (-1), 1) := by decide +kernel
theorem pm_a68_71 : pm_as (pm_cd pm_mm68) 71 = some (.ireturn, 1) := by decide +kernel
theorem pm_a69_0 : pm_as (pm_cd pm_mm69) 0 = some (.aload_n 0, 1) := by decide +kernel
theorem pm_a69_1 : pm_as (pm_cd pm_mm69) 1 = some (.getfield 20, 3) := by decide +kernel
theorem pm_a69_4 : pm_as (pm_cd pm_mm69) 4 = some (.aload_n 1, 1) := by decide +kernel
theorem pm_a69_5 : pm_as (pm_cd pm_mm69) 5 = some (.iconst 0, 1) := by decide +kernel
theorem pm_a69_6 : pm_as (pm_cd pm_mm69) 6 = some (.aload_n 1, 1) := by decide +kernel
theorem pm_a69_7 : pm_as (pm_cd pm_mm69) 7 = some (.getfield 24, 3) := by decide +kernel
theorem pm_a69_10 : pm_as (pm_cd pm_mm69) 10 = some (.invokevirtual 52, 3) := by decide +kernel
theorem pm_a69_13 : pm_as (pm_cd pm_mm69) 13 = some (.bipush (-4), 2) := by decide +kernel
theorem pm_a69_15 : pm_as (pm_cd pm_mm69) 15 = some (.istore_n 2, 1) := by decide +kernel
theorem pm_a69_16 : pm_as (pm_cd pm_mm69) 16 = some (.iconst 0, 1) := by decide +kernel
theorem pm_a69_17 : pm_as (pm_cd pm_mm69) 17 = some (.istore_n 3, 1) := by decide +kernel
theorem pm_a69_18 : pm_as (pm_cd pm_mm69) 18 = some (.iload_n 3, 1) := by decide +kernel
theorem pm_a69_19 : pm_as (pm_cd pm_mm69) 19 = some (.aload_n 1, 1) := by decide +kernel
theorem pm_a69_20 : pm_as (pm_cd pm_mm69) 20 = some (.getfield 24, 3) := by decide +kernel
theorem pm_a69_23 : pm_as (pm_cd pm_mm69) 23 = some (.if_icmp .ge 38, 3) := by decide +kernel
theorem pm_a69_26 : pm_as (pm_cd pm_mm69) 26 = some (.aload_n 1, 1) := by decide +kernel
theorem pm_a69_27 : pm_as (pm_cd pm_mm69) 27 = some (.iload_n 3, 1) := by decide +kernel
theorem pm_a69_28 : pm_as (pm_cd pm_mm69) 28 = some (.invokestatic 28, 3) := by decide +kernel
theorem pm_a69_31 : pm_as (pm_cd pm_mm69) 31 = some (.iconst (-1), 1) := by decide +kernel
theorem pm_a69_32 : pm_as (pm_cd pm_mm69) 32 = some (.if_icmp .eq 23, 3) := by decide +kernel
theorem pm_a69_35 : pm_as (pm_cd pm_mm69) 35 = some (.iload_n 2, 1) := by decide +kernel
theorem pm_a69_36 : pm_as (pm_cd pm_mm69) 36 = some (.ifCond .lt 17, 3) := by decide +kernel
theorem pm_a69_39 : pm_as (pm_cd pm_mm69) 39 = some (.iload_n 3, 1) := by decide +kernel
theorem pm_a69_40 : pm_as (pm_cd pm_mm69) 40 = some (.aload_n 0, 1) := by decide +kernel
theorem pm_a69_41 : pm_as (pm_cd pm_mm69) 41 = some (.getfield 20, 3) := by decide +kernel
theorem pm_a69_44 : pm_as (pm_cd pm_mm69) 44 = some (.iload_n 2, 1) := by decide +kernel
theorem pm_a69_45 : pm_as (pm_cd pm_mm69) 45 = some (.invokevirtual 61, 3) := by decide +kernel
theorem pm_a69_48 : pm_as (pm_cd pm_mm69) 48 = some (.if_icmp .lt 5, 3) := by decide +kernel
theorem pm_a69_51 : pm_as (pm_cd pm_mm69) 51 = some (.iload_n 2, 1) := by decide +kernel
theorem pm_a69_52 : pm_as (pm_cd pm_mm69) 52 = some (.ireturn, 1) := by decide +kernel
theorem pm_a69_53 : pm_as (pm_cd pm_mm69) 53 = some (.iload_n 3, 1) := by decide +kernel
theorem pm_a69_54 : pm_as (pm_cd pm_mm69) 54 = some (.istore_n 2, 1) := by decide +kernel
theorem pm_a69_55 : pm_as (pm_cd pm_mm69) 55 = some (.iinc 3 1, 3) := by decide +kernel
theorem pm_a69_58 : pm_as (pm_cd pm_mm69) 58 = some (.goto (-40), 3) := by decide +kernel
theorem pm_a69_61 : pm_as (pm_cd pm_mm69) 61 = some (.iload_n 2, 1) := by decide +kernel
theorem pm_a69_62 : pm_as (pm_cd pm_mm69) 62 = some (.ireturn, 1) := by decide +kernel
theorem pm_a70_0 : pm_as (pm_cd pm_mm70) 0 = some (.iload_n 3, 1) := by decide +kernel
theorem pm_a70_1 : pm_as (pm_cd pm_mm70) 1 = some (.aload_n 0, 1) := by decide +kernel
theorem pm_a70_2 : pm_as (pm_cd pm_mm70) 2 = some (.getfield 11, 3) := by decide +kernel
theorem pm_a70_5 : pm_as (pm_cd pm_mm70) 5 = some (.arraylength, 1) := by decide +kernel
theorem pm_a70_6 : pm_as (pm_cd pm_mm70) 6 = some (.invokestatic 20, 3) := by decide +kernel
theorem pm_a70_9 : pm_as (pm_cd pm_mm70) 9 = some (.iconst 1, 1) := by decide +kernel
theorem pm_a70_10 : pm_as (pm_cd pm_mm70) 10 = some (.isub, 1) := by decide +kernel
theorem pm_a70_11 : pm_as (pm_cd pm_mm70) 11 = some (.istore 4, 2) := by decide +kernel
theorem pm_a70_13 : pm_as (pm_cd pm_mm70) 13 = some (.iload 4, 2) := by decide +kernel
theorem pm_a70_15 : pm_as (pm_cd pm_mm70) 15 = some (.istore 5, 2) := by decide +kernel
theorem pm_a70_17 : pm_as (pm_cd pm_mm70) 17 = some (.iload 5, 2) := by decide +kernel
theorem pm_a70_19 : pm_as (pm_cd pm_mm70) 19 = some (.iload_n 2, 1) := by decide +kernel
theorem pm_a70_20 : pm_as (pm_cd pm_mm70) 20 = some (.iconst 0, 1) := by decide +kernel
theorem pm_a70_21 : pm_as (pm_cd pm_mm70) 21 = some (.invokestatic 26, 3) := by decide +kernel
theorem pm_a70_24 : pm_as (pm_cd pm_mm70) 24 = some (.if_icmp .lt 28, 3) := by decide +kernel
theorem pm_a70_27 : pm_as (pm_cd pm_mm70) 27 = some (.aload_n 0, 1) := by decide +kernel
theorem pm_a70_28 : pm_as (pm_cd pm_mm70) 28 = some (.getfield 11, 3) := by decide +kernel
theorem pm_a70_31 : pm_as (pm_cd pm_mm70) 31 = some (.iload 5, 2) := by decide +kernel
theorem pm_a70_33 : pm_as (pm_cd pm_mm70) 33 = some (.aload_n 0, 1) := by decide +kernel
theorem pm_a70_34 : pm_as (pm_cd pm_mm70) 34 = some (.aload_n 1, 1) := by decide +kernel
theorem pm_a70_35 : pm_as (pm_cd pm_mm70) 35 = some (.iload 5, 2) := by decide +kernel
theorem pm_a70_37 : pm_as (pm_cd pm_mm70) 37 = some (.invokevirtual 29, 3) := by decide +kernel
theorem pm_a70_40 : pm_as (pm_cd pm_mm70) 40 = some (.iload 5, 2) := by decide +kernel
theorem pm_a70_42 : pm_as (pm_cd pm_mm70) 42 = some (.invokevirtual 35, 3) := by decide +kernel
theorem pm_a70_45 : pm_as (pm_cd pm_mm70) 45 = some (.iastore, 1) := by decide +kernel
theorem pm_a70_46 : pm_as (pm_cd pm_mm70) 46 = some (.iinc 5 (-1), 3) := by decide +kernel
theorem pm_a70_49 : pm_as (pm_cd pm_mm70) 49 = some (.goto (-32), 3) := by decide +kernel
theorem pm_a70_52 : pm_as (pm_cd pm_mm70) 52 = some (.aload_n 0, 1) := by decide +kernel
theorem pm_a70_53 : pm_as (pm_cd pm_mm70) 53 = some (.iload_n 2, 1) := by decide +kernel
theorem pm_a70_54 : pm_as (pm_cd pm_mm70) 54 = some (.iconst 0, 1) := by decide +kernel
theorem pm_a70_55 : pm_as (pm_cd pm_mm70) 55 = some (.invokevirtual 38, 3) := by decide +kernel
theorem pm_a70_58 : pm_as (pm_cd pm_mm70) 58 = some (.iload_n 2, 1) := by decide +kernel
theorem pm_a70_59 : pm_as (pm_cd pm_mm70) 59 = some (.istore 5, 2) := by decide +kernel
theorem pm_a70_61 : pm_as (pm_cd pm_mm70) 61 = some (.iload 5, 2) := by decide +kernel
theorem pm_a70_63 : pm_as (pm_cd pm_mm70) 63 = some (.iload 4, 2) := by decide +kernel
theorem pm_a70_65 : pm_as (pm_cd pm_mm70) 65 = some (.if_icmp .gt 21, 3) := by decide +kernel
theorem pm_a70_68 : pm_as (pm_cd pm_mm70) 68 = some (.aload_n 0, 1) := by decide +kernel
theorem pm_a70_69 : pm_as (pm_cd pm_mm70) 69 = some (.aload_n 1, 1) := by decide +kernel
theorem pm_a70_70 : pm_as (pm_cd pm_mm70) 70 = some (.iload 5, 2) := by decide +kernel
theorem pm_a70_72 : pm_as (pm_cd pm_mm70) 72 = some (.invokevirtual 29, 3) := by decide +kernel
theorem pm_a70_75 : pm_as (pm_cd pm_mm70) 75 = some (.iload 5, 2) := by decide +kernel
theorem pm_a70_77 : pm_as (pm_cd pm_mm70) 77 = some (.invokevirtual 42, 3) := by decide +kernel
theorem pm_a70_80 : pm_as (pm_cd pm_mm70) 80 = some (.iinc 5 1, 3) := by decide +kernel
theorem pm_a70_83 : pm_as (pm_cd pm_mm70) 83 = some (.goto (-22), 3) := by decide +kernel
theorem pm_a70_86 : pm_as (pm_cd pm_mm70) 86 = some (.return_, 1) := by decide +kernel
theorem pm_a71_0 : pm_as (pm_cd pm_mm71) 0 = some (.iload_n 1, 1) := by decide +kernel
theorem pm_a71_1 : pm_as (pm_cd pm_mm71) 1 = some (.iconst 1, 1) := by decide +kernel
theorem pm_a71_2 : pm_as (pm_cd pm_mm71) 2 = some (.if_icmp .ne 11, 3) := by decide +kernel
theorem pm_a71_5 : pm_as (pm_cd pm_mm71) 5 = some (.aload_n 0, 1) := by decide +kernel
theorem pm_a71_6 : pm_as (pm_cd pm_mm71) 6 = some (.iload_n 2, 1) := by decide +kernel
theorem pm_a71_7 : pm_as (pm_cd pm_mm71) 7 = some (.iconst 1, 1) := by decide +kernel
theorem pm_a71_8 : pm_as (pm_cd pm_mm71) 8 = some (.iadd, 1) := by decide +kernel
theorem pm_a71_9 : pm_as (pm_cd pm_mm71) 9 = some (.invokevirtual 56, 3) := by decide +kernel
theorem pm_a71_12 : pm_as (pm_cd pm_mm71) 12 = some (.ireturn, 1) := by decide +kernel
theorem pm_a71_13 : pm_as (pm_cd pm_mm71) 13 = some (.iload_n 1, 1) := by decide +kernel
theorem pm_a71_14 : pm_as (pm_cd pm_mm71) 14 = some (.ifCond .ne 17, 3) := by decide +kernel
theorem pm_a71_17 : pm_as (pm_cd pm_mm71) 17 = some (.aload_n 0, 1) := by decide +kernel
theorem pm_a71_18 : pm_as (pm_cd pm_mm71) 18 = some (.aload_n 0, 1) := by decide +kernel
theorem pm_a71_19 : pm_as (pm_cd pm_mm71) 19 = some (.iload_n 2, 1) := by decide +kernel
theorem pm_a71_20 : pm_as (pm_cd pm_mm71) 20 = some (.iconst 1, 1) := by decide +kernel
theorem pm_a71_21 : pm_as (pm_cd pm_mm71) 21 = some (.iadd, 1) := by decide +kernel
theorem pm_a71_22 : pm_as (pm_cd pm_mm71) 22 = some (.invokevirtual 56, 3) := by decide +kernel
theorem pm_a71_25 : pm_as (pm_cd pm_mm71) 25 = some (.invokevirtual 56, 3) := by decide +kernel
theorem pm_a71_28 : pm_as (pm_cd pm_mm71) 28 = some (.goto 6, 3) := by decide +kernel
theorem pm_a71_31 : pm_as (pm_cd pm_mm71) 31 = some (.iload_n 2, 1) := by decide +kernel
theorem pm_a71_32 : pm_as (pm_cd pm_mm71) 32 = some (.iconst 1, 1) := by decide +kernel
theorem pm_a71_33 : pm_as (pm_cd pm_mm71) 33 = some (.iadd, 1) := by decide +kernel
theorem pm_a71_34 : pm_as (pm_cd pm_mm71) 34 = some (.ireturn, 1) := by decide +kernel
theorem pm_a72_0 : pm_as (pm_cd pm_mm72) 0 = some (.iload_n 1, 1) := by decide +kernel
theorem pm_a72_1 : pm_as (pm_cd pm_mm72) 1 = some (.ifCond .lt 21, 3) := by decide +kernel
theorem pm_a72_4 : pm_as (pm_cd pm_mm72) 4 = some (.iload_n 1, 1) := by decide +kernel
theorem pm_a72_5 : pm_as (pm_cd pm_mm72) 5 = some (.aload_n 0, 1) := by decide +kernel
theorem pm_a72_6 : pm_as (pm_cd pm_mm72) 6 = some (.getfield 11, 3) := by decide +kernel
theorem pm_a72_9 : pm_as (pm_cd pm_mm72) 9 = some (.arraylength, 1) := by decide +kernel
theorem pm_a72_10 : pm_as (pm_cd pm_mm72) 10 = some (.if_icmp .ge 12, 3) := by decide +kernel
theorem pm_a72_13 : pm_as (pm_cd pm_mm72) 13 = some (.aload_n 0, 1) := by decide +kernel
theorem pm_a72_14 : pm_as (pm_cd pm_mm72) 14 = some (.getfield 11, 3) := by decide +kernel
theorem pm_a72_17 : pm_as (pm_cd pm_mm72) 17 = some (.iload_n 1, 1) := by decide +kernel
theorem pm_a72_18 : pm_as (pm_cd pm_mm72) 18 = some (.iaload, 1) := by decide +kernel
theorem pm_a72_19 : pm_as (pm_cd pm_mm72) 19 = some (.goto 4, 3) := by decide +kernel
theorem pm_a72_22 : pm_as (pm_cd pm_mm72) 22 = some (.iload_n 1, 1) := by decide +kernel
theorem pm_a72_23 : pm_as (pm_cd pm_mm72) 23 = some (.ireturn, 1) := by decide +kernel
theorem pm_a73_0 : pm_as (pm_cd pm_mm73) 0 = some (.iload_n 1, 1) := by decide +kernel
theorem pm_a73_1 : pm_as (pm_cd pm_mm73) 1 = some (.ifCond .lt 19, 3) := by decide +kernel
theorem pm_a73_4 : pm_as (pm_cd pm_mm73) 4 = some (.iload_n 1, 1) := by decide +kernel
theorem pm_a73_5 : pm_as (pm_cd pm_mm73) 5 = some (.aload_n 0, 1) := by decide +kernel
theorem pm_a73_6 : pm_as (pm_cd pm_mm73) 6 = some (.getfield 17, 3) := by decide +kernel
theorem pm_a73_9 : pm_as (pm_cd pm_mm73) 9 = some (.arraylength, 1) := by decide +kernel
theorem pm_a73_10 : pm_as (pm_cd pm_mm73) 10 = some (.if_icmp .ge 10, 3) := by decide +kernel
theorem pm_a73_13 : pm_as (pm_cd pm_mm73) 13 = some (.aload_n 0, 1) := by decide +kernel
theorem pm_a73_14 : pm_as (pm_cd pm_mm73) 14 = some (.getfield 17, 3) := by decide +kernel
theorem pm_a73_17 : pm_as (pm_cd pm_mm73) 17 = some (.iload_n 1, 1) := by decide +kernel
theorem pm_a73_18 : pm_as (pm_cd pm_mm73) 18 = some (.iload_n 2, 1) := by decide +kernel
theorem pm_a73_19 : pm_as (pm_cd pm_mm73) 19 = some (.iastore, 1) := by decide +kernel
theorem pm_a73_20 : pm_as (pm_cd pm_mm73) 20 = some (.return_, 1) := by decide +kernel
theorem pm_a74_0 : pm_as (pm_cd pm_mm74) 0 = some (.iload_n 1, 1) := by decide +kernel
theorem pm_a74_1 : pm_as (pm_cd pm_mm74) 1 = some (.iconst 1, 1) := by decide +kernel
theorem pm_a74_2 : pm_as (pm_cd pm_mm74) 2 = some (.if_icmp .ne 20, 3) := by decide +kernel
theorem pm_a74_5 : pm_as (pm_cd pm_mm74) 5 = some (.aload_n 0, 1) := by decide +kernel
theorem pm_a74_6 : pm_as (pm_cd pm_mm74) 6 = some (.iload_n 2, 1) := by decide +kernel
theorem pm_a74_7 : pm_as (pm_cd pm_mm74) 7 = some (.iconst 1, 1) := by decide +kernel
theorem pm_a74_8 : pm_as (pm_cd pm_mm74) 8 = some (.iadd, 1) := by decide +kernel
theorem pm_a74_9 : pm_as (pm_cd pm_mm74) 9 = some (.aload_n 0, 1) := by decide +kernel
theorem pm_a74_10 : pm_as (pm_cd pm_mm74) 10 = some (.iload_n 2, 1) := by decide +kernel
theorem pm_a74_11 : pm_as (pm_cd pm_mm74) 11 = some (.invokevirtual 45, 3) := by decide +kernel
theorem pm_a74_14 : pm_as (pm_cd pm_mm74) 14 = some (.iconst 1, 1) := by decide +kernel
theorem pm_a74_15 : pm_as (pm_cd pm_mm74) 15 = some (.iadd, 1) := by decide +kernel
theorem pm_a74_16 : pm_as (pm_cd pm_mm74) 16 = some (.invokevirtual 38, 3) := by decide +kernel
theorem pm_a74_19 : pm_as (pm_cd pm_mm74) 19 = some (.goto 35, 3) := by decide +kernel
theorem pm_a74_22 : pm_as (pm_cd pm_mm74) 22 = some (.iload_n 1, 1) := by decide +kernel
theorem pm_a74_23 : pm_as (pm_cd pm_mm74) 23 = some (.ifCond .ne 31, 3) := by decide +kernel
theorem pm_a74_26 : pm_as (pm_cd pm_mm74) 26 = some (.aload_n 0, 1) := by decide +kernel
theorem pm_a74_27 : pm_as (pm_cd pm_mm74) 27 = some (.iload_n 2, 1) := by decide +kernel
theorem pm_a74_28 : pm_as (pm_cd pm_mm74) 28 = some (.iconst 1, 1) := by decide +kernel
theorem pm_a74_29 : pm_as (pm_cd pm_mm74) 29 = some (.iadd, 1) := by decide +kernel
theorem pm_a74_30 : pm_as (pm_cd pm_mm74) 30 = some (.aload_n 0, 1) := by decide +kernel
theorem pm_a74_31 : pm_as (pm_cd pm_mm74) 31 = some (.iload_n 2, 1) := by decide +kernel
theorem pm_a74_32 : pm_as (pm_cd pm_mm74) 32 = some (.invokevirtual 45, 3) := by decide +kernel
theorem pm_a74_35 : pm_as (pm_cd pm_mm74) 35 = some (.invokevirtual 38, 3) := by decide +kernel
theorem pm_a74_38 : pm_as (pm_cd pm_mm74) 38 = some (.aload_n 0, 1) := by decide +kernel
theorem pm_a74_39 : pm_as (pm_cd pm_mm74) 39 = some (.aload_n 0, 1) := by decide +kernel
theorem pm_a74_40 : pm_as (pm_cd pm_mm74) 40 = some (.iload_n 2, 1) := by decide +kernel
theorem pm_a74_41 : pm_as (pm_cd pm_mm74) 41 = some (.iconst 1, 1) := by decide +kernel
theorem pm_a74_42 : pm_as (pm_cd pm_mm74) 42 = some (.iadd, 1) := by decide +kernel
theorem pm_a74_43 : pm_as (pm_cd pm_mm74) 43 = some (.invokevirtual 56, 3) := by decide +kernel
theorem pm_a74_46 : pm_as (pm_cd pm_mm74) 46 = some (.aload_n 0, 1) := by decide +kernel
theorem pm_a74_47 : pm_as (pm_cd pm_mm74) 47 = some (.iload_n 2, 1) := by decide +kernel
theorem pm_a74_48 : pm_as (pm_cd pm_mm74) 48 = some (.invokevirtual 45, 3) := by decide +kernel
theorem pm_a74_51 : pm_as (pm_cd pm_mm74) 51 = some (.invokevirtual 38, 3) := by decide +kernel
theorem pm_a74_54 : pm_as (pm_cd pm_mm74) 54 = some (.return_, 1) := by decide +kernel
theorem pm_a75_0 : pm_as (pm_cd pm_mm75) 0 = some (.iload_n 1, 1) := by decide +kernel
theorem pm_a75_1 : pm_as (pm_cd pm_mm75) 1 = some (.ifCond .lt 21, 3) := by decide +kernel
theorem pm_a75_4 : pm_as (pm_cd pm_mm75) 4 = some (.iload_n 1, 1) := by decide +kernel
theorem pm_a75_5 : pm_as (pm_cd pm_mm75) 5 = some (.aload_n 0, 1) := by decide +kernel
theorem pm_a75_6 : pm_as (pm_cd pm_mm75) 6 = some (.getfield 17, 3) := by decide +kernel
theorem pm_a75_9 : pm_as (pm_cd pm_mm75) 9 = some (.arraylength, 1) := by decide +kernel
theorem pm_a75_10 : pm_as (pm_cd pm_mm75) 10 = some (.if_icmp .ge 12, 3) := by decide +kernel
theorem pm_a75_13 : pm_as (pm_cd pm_mm75) 13 = some (.aload_n 0, 1) := by decide +kernel
theorem pm_a75_14 : pm_as (pm_cd pm_mm75) 14 = some (.getfield 17, 3) := by decide +kernel
theorem pm_a75_17 : pm_as (pm_cd pm_mm75) 17 = some (.iload_n 1, 1) := by decide +kernel
theorem pm_a75_18 : pm_as (pm_cd pm_mm75) 18 = some (.iaload, 1) := by decide +kernel
theorem pm_a75_19 : pm_as (pm_cd pm_mm75) 19 = some (.goto 4, 3) := by decide +kernel
theorem pm_a75_22 : pm_as (pm_cd pm_mm75) 22 = some (.iconst 0, 1) := by decide +kernel
theorem pm_a75_23 : pm_as (pm_cd pm_mm75) 23 = some (.ireturn, 1) := by decide +kernel
theorem pm_a76_0 : pm_as (pm_cd pm_mm76) 0 = some (.iconst 0, 1) := by decide +kernel
theorem pm_a76_1 : pm_as (pm_cd pm_mm76) 1 = some (.istore_n 2, 1) := by decide +kernel
theorem pm_a76_2 : pm_as (pm_cd pm_mm76) 2 = some (.iload_n 2, 1) := by decide +kernel
theorem pm_a76_3 : pm_as (pm_cd pm_mm76) 3 = some (.aload_n 1, 1) := by decide +kernel
theorem pm_a76_4 : pm_as (pm_cd pm_mm76) 4 = some (.getfield 24, 3) := by decide +kernel
theorem pm_a76_7 : pm_as (pm_cd pm_mm76) 7 = some (.if_icmp .ge 28, 3) := by decide +kernel
theorem pm_a76_10 : pm_as (pm_cd pm_mm76) 10 = some (.aload_n 1, 1) := by decide +kernel
theorem pm_a76_11 : pm_as (pm_cd pm_mm76) 11 = some (.iload_n 2, 1) := by decide +kernel
theorem pm_a76_12 : pm_as (pm_cd pm_mm76) 12 = some (.invokevirtual 75, 3) := by decide +kernel
theorem pm_a76_15 : pm_as (pm_cd pm_mm76) 15 = some (.ifCond .ne 20, 3) := by decide +kernel
theorem pm_a76_18 : pm_as (pm_cd pm_mm76) 18 = some (.aload_n 1, 1) := by decide +kernel
theorem pm_a76_19 : pm_as (pm_cd pm_mm76) 19 = some (.iload_n 2, 1) := by decide +kernel
theorem pm_a76_20 : pm_as (pm_cd pm_mm76) 20 = some (.invokestatic 28, 3) := by decide +kernel
theorem pm_a76_23 : pm_as (pm_cd pm_mm76) 23 = some (.iconst (-1), 1) := by decide +kernel
theorem pm_a76_24 : pm_as (pm_cd pm_mm76) 24 = some (.if_icmp .eq 5, 3) := by decide +kernel
theorem pm_a76_27 : pm_as (pm_cd pm_mm76) 27 = some (.iload_n 2, 1) := by decide +kernel
theorem pm_a76_28 : pm_as (pm_cd pm_mm76) 28 = some (.ireturn, 1) := by decide +kernel
theorem pm_a76_29 : pm_as (pm_cd pm_mm76) 29 = some (.iinc 2 1, 3) := by decide +kernel
theorem pm_a76_32 : pm_as (pm_cd pm_mm76) 32 = some (.goto (-30), 3) := by decide +kernel
theorem pm_a76_35 : pm_as (pm_cd pm_mm76) 35 = some (.bipush (-4), 2) := by decide +kernel
theorem pm_a76_37 : pm_as (pm_cd pm_mm76) 37 = some (.ireturn, 1) := by decide +kernel
theorem pm_a77_0 : pm_as (pm_cd pm_mm77) 0 = some (.aload_n 0, 1) := by decide +kernel
theorem pm_a77_1 : pm_as (pm_cd pm_mm77) 1 = some (.getfield 20, 3) := by decide +kernel
theorem pm_a77_4 : pm_as (pm_cd pm_mm77) 4 = some (.aload_n 1, 1) := by decide +kernel
theorem pm_a77_5 : pm_as (pm_cd pm_mm77) 5 = some (.iconst 0, 1) := by decide +kernel
theorem pm_a77_6 : pm_as (pm_cd pm_mm77) 6 = some (.aload_n 1, 1) := by decide +kernel
theorem pm_a77_7 : pm_as (pm_cd pm_mm77) 7 = some (.getfield 24, 3) := by decide +kernel
theorem pm_a77_10 : pm_as (pm_cd pm_mm77) 10 = some (.invokevirtual 52, 3) := by decide +kernel
theorem pm_a77_13 : pm_as (pm_cd pm_mm77) 13 = some (.iconst 0, 1) := by decide +kernel
theorem pm_a77_14 : pm_as (pm_cd pm_mm77) 14 = some (.istore_n 2, 1) := by decide +kernel
theorem pm_a77_15 : pm_as (pm_cd pm_mm77) 15 = some (.iload_n 2, 1) := by decide +kernel
theorem pm_a77_16 : pm_as (pm_cd pm_mm77) 16 = some (.aload_n 1, 1) := by decide +kernel
theorem pm_a77_17 : pm_as (pm_cd pm_mm77) 17 = some (.getfield 24, 3) := by decide +kernel
theorem pm_a77_20 : pm_as (pm_cd pm_mm77) 20 = some (.if_icmp .ge 20, 3) := by decide +kernel
theorem pm_a77_23 : pm_as (pm_cd pm_mm77) 23 = some (.aload_n 0, 1) := by decide +kernel
theorem pm_a77_24 : pm_as (pm_cd pm_mm77) 24 = some (.aload_n 1, 1) := by decide +kernel
theorem pm_a77_25 : pm_as (pm_cd pm_mm77) 25 = some (.iload_n 2, 1) := by decide +kernel
theorem pm_a77_26 : pm_as (pm_cd pm_mm77) 26 = some (.invokevirtual 78, 3) := by decide +kernel
theorem pm_a77_29 : pm_as (pm_cd pm_mm77) 29 = some (.ifCond .eq 5, 3) := by decide +kernel
theorem pm_a77_32 : pm_as (pm_cd pm_mm77) 32 = some (.iload_n 2, 1) := by decide +kernel
theorem pm_a77_33 : pm_as (pm_cd pm_mm77) 33 = some (.ireturn, 1) := by decide +kernel
theorem pm_a77_34 : pm_as (pm_cd pm_mm77) 34 = some (.iinc 2 1, 3) := by decide +kernel
theorem pm_a77_37 : pm_as (pm_cd pm_mm77) 37 = some (.goto (-22), 3) := by decide +kernel
theorem pm_a77_40 : pm_as (pm_cd pm_mm77) 40 = some (.bipush (-4), 2) := by decide +kernel
theorem pm_a77_42 : pm_as (pm_cd pm_mm77) 42 = some (.ireturn, 1) := by decide +kernel
theorem pm_a78_0 : pm_as (pm_cd pm_mm78) 0 = some (.aload_n 1, 1) := by decide +kernel
theorem pm_a78_1 : pm_as (pm_cd pm_mm78) 1 = some (.iload_n 2, 1) := by decide +kernel
theorem pm_a78_2 : pm_as (pm_cd pm_mm78) 2 = some (.invokevirtual 75, 3) := by decide +kernel
theorem pm_a78_5 : pm_as (pm_cd pm_mm78) 5 = some (.iconst 1, 1) := by decide +kernel
theorem pm_a78_6 : pm_as (pm_cd pm_mm78) 6 = some (.if_icmp .ne 13, 3) := by decide +kernel
theorem pm_a78_9 : pm_as (pm_cd pm_mm78) 9 = some (.aload_n 1, 1) := by decide +kernel
theorem pm_a78_10 : pm_as (pm_cd pm_mm78) 10 = some (.iload_n 2, 1) := by decide +kernel
theorem pm_a78_11 : pm_as (pm_cd pm_mm78) 11 = some (.iconst 1, 1) := by decide +kernel
theorem pm_a78_12 : pm_as (pm_cd pm_mm78) 12 = some (.iadd, 1) := by decide +kernel
theorem pm_a78_13 : pm_as (pm_cd pm_mm78) 13 = some (.invokevirtual 75, 3) := by decide +kernel
theorem pm_a78_16 : pm_as (pm_cd pm_mm78) 16 = some (.ifCond .eq 5, 3) := by decide +kernel
theorem pm_a78_19 : pm_as (pm_cd pm_mm78) 19 = some (.iconst 0, 1) := by decide +kernel
theorem pm_a78_20 : pm_as (pm_cd pm_mm78) 20 = some (.ireturn, 1) := by decide +kernel
theorem pm_a78_21 : pm_as (pm_cd pm_mm78) 21 = some (.aload_n 0, 1) := by decide +kernel
theorem pm_a78_22 : pm_as (pm_cd pm_mm78) 22 = some (.getfield 20, 3) := by decide +kernel
theorem pm_a78_25 : pm_as (pm_cd pm_mm78) 25 = some (.iload_n 2, 1) := by decide +kernel
theorem pm_a78_26 : pm_as (pm_cd pm_mm78) 26 = some (.iconst 2, 1) := by decide +kernel
theorem pm_a78_27 : pm_as (pm_cd pm_mm78) 27 = some (.iadd, 1) := by decide +kernel
theorem pm_a78_28 : pm_as (pm_cd pm_mm78) 28 = some (.invokevirtual 61, 3) := by decide +kernel
theorem pm_a78_31 : pm_as (pm_cd pm_mm78) 31 = some (.istore_n 3, 1) := by decide +kernel
theorem pm_a78_32 : pm_as (pm_cd pm_mm78) 32 = some (.aload_n 1, 1) := by decide +kernel
theorem pm_a78_33 : pm_as (pm_cd pm_mm78) 33 = some (.iload_n 3, 1) := by decide +kernel
theorem pm_a78_34 : pm_as (pm_cd pm_mm78) 34 = some (.invokevirtual 75, 3) := by decide +kernel
theorem pm_a78_37 : pm_as (pm_cd pm_mm78) 37 = some (.bipush 10, 2) := by decide +kernel
theorem pm_a78_39 : pm_as (pm_cd pm_mm78) 39 = some (.if_icmp .ne 27, 3) := by decide +kernel
theorem pm_a78_42 : pm_as (pm_cd pm_mm78) 42 = some (.aload_n 0, 1) := by decide +kernel
theorem pm_a78_43 : pm_as (pm_cd pm_mm78) 43 = some (.aload_n 1, 1) := by decide +kernel
theorem pm_a78_44 : pm_as (pm_cd pm_mm78) 44 = some (.iload_n 2, 1) := by decide +kernel
theorem pm_a78_45 : pm_as (pm_cd pm_mm78) 45 = some (.iconst 2, 1) := by decide +kernel
theorem pm_a78_46 : pm_as (pm_cd pm_mm78) 46 = some (.iadd, 1) := by decide +kernel
theorem pm_a78_47 : pm_as (pm_cd pm_mm78) 47 = some (.iload_n 3, 1) := by decide +kernel
theorem pm_a78_48 : pm_as (pm_cd pm_mm78) 48 = some (.aload_n 0, 1) := by decide +kernel
theorem pm_a78_49 : pm_as (pm_cd pm_mm78) 49 = some (.getfield 20, 3) := by decide +kernel
theorem pm_a78_52 : pm_as (pm_cd pm_mm78) 52 = some (.iload_n 2, 1) := by decide +kernel
theorem pm_a78_53 : pm_as (pm_cd pm_mm78) 53 = some (.invokevirtual 82, 3) := by decide +kernel
theorem pm_a78_56 : pm_as (pm_cd pm_mm78) 56 = some (.invokevirtual 85, 3) := by decide +kernel
theorem pm_a78_59 : pm_as (pm_cd pm_mm78) 59 = some (.ifCond .ne 7, 3) := by decide +kernel
theorem pm_a78_62 : pm_as (pm_cd pm_mm78) 62 = some (.iconst 1, 1) := by decide +kernel
theorem pm_a78_63 : pm_as (pm_cd pm_mm78) 63 = some (.goto 4, 3) := by decide +kernel
theorem pm_a78_66 : pm_as (pm_cd pm_mm78) 66 = some (.iconst 0, 1) := by decide +kernel
theorem pm_a78_67 : pm_as (pm_cd pm_mm78) 67 = some (.ireturn, 1) := by decide +kernel
theorem pm_a79_0 : pm_as (pm_cd pm_mm79) 0 = some (.iload_n 2, 1) := by decide +kernel
theorem pm_a79_1 : pm_as (pm_cd pm_mm79) 1 = some (.istore 5, 2) := by decide +kernel
theorem pm_a79_3 : pm_as (pm_cd pm_mm79) 3 = some (.iload 5, 2) := by decide +kernel
theorem pm_a79_5 : pm_as (pm_cd pm_mm79) 5 = some (.iload_n 3, 1) := by decide +kernel
theorem pm_a79_6 : pm_as (pm_cd pm_mm79) 6 = some (.if_icmp .ge 42, 3) := by decide +kernel
theorem pm_a79_9 : pm_as (pm_cd pm_mm79) 9 = some (.aload_n 1, 1) := by decide +kernel
theorem pm_a79_10 : pm_as (pm_cd pm_mm79) 10 = some (.iload 5, 2) := by decide +kernel
theorem pm_a79_12 : pm_as (pm_cd pm_mm79) 12 = some (.invokevirtual 75, 3) := by decide +kernel
theorem pm_a79_15 : pm_as (pm_cd pm_mm79) 15 = some (.istore 6, 2) := by decide +kernel
theorem pm_a79_17 : pm_as (pm_cd pm_mm79) 17 = some (.iload 6, 2) := by decide +kernel
theorem pm_a79_19 : pm_as (pm_cd pm_mm79) 19 = some (.bipush 10, 2) := by decide +kernel
theorem pm_a79_21 : pm_as (pm_cd pm_mm79) 21 = some (.if_icmp .lt 21, 3) := by decide +kernel
theorem pm_a79_24 : pm_as (pm_cd pm_mm79) 24 = some (.aload_n 0, 1) := by decide +kernel
theorem pm_a79_25 : pm_as (pm_cd pm_mm79) 25 = some (.getfield 20, 3) := by decide +kernel
theorem pm_a79_28 : pm_as (pm_cd pm_mm79) 28 = some (.iload 6, 2) := by decide +kernel
theorem pm_a79_30 : pm_as (pm_cd pm_mm79) 30 = some (.iload 5, 2) := by decide +kernel
theorem pm_a79_32 : pm_as (pm_cd pm_mm79) 32 = some (.invokevirtual 89, 3) := by decide +kernel
theorem pm_a79_35 : pm_as (pm_cd pm_mm79) 35 = some (.iload 4, 2) := by decide +kernel
theorem pm_a79_37 : pm_as (pm_cd pm_mm79) 37 = some (.if_icmp .ne 5, 3) := by decide +kernel
theorem pm_a79_40 : pm_as (pm_cd pm_mm79) 40 = some (.iconst 1, 1) := by decide +kernel
theorem pm_a79_41 : pm_as (pm_cd pm_mm79) 41 = some (.ireturn, 1) := by decide +kernel
theorem pm_a79_42 : pm_as (pm_cd pm_mm79) 42 = some (.iinc 5 1, 3) := by decide +kernel
theorem pm_a79_45 : pm_as (pm_cd pm_mm79) 45 = some (.goto (-42), 3) := by decide +kernel
theorem pm_a79_48 : pm_as (pm_cd pm_mm79) 48 = some (.iconst 0, 1) := by decide +kernel
theorem pm_a79_49 : pm_as (pm_cd pm_mm79) 49 = some (.ireturn, 1) := by decide +kernel
theorem pm_a80_0 : pm_as (pm_cd pm_mm80) 0 = some (.aload_n 0, 1) := by decide +kernel
theorem pm_a80_1 : pm_as (pm_cd pm_mm80) 1 = some (.iload_n 2, 1) := by decide +kernel
theorem pm_a80_2 : pm_as (pm_cd pm_mm80) 2 = some (.invokevirtual 45, 3) := by decide +kernel
theorem pm_a80_5 : pm_as (pm_cd pm_mm80) 5 = some (.iconst 1, 1) := by decide +kernel
theorem pm_a80_6 : pm_as (pm_cd pm_mm80) 6 = some (.isub, 1) := by decide +kernel
theorem pm_a80_7 : pm_as (pm_cd pm_mm80) 7 = some (.iload_n 1, 1) := by decide +kernel
theorem pm_a80_8 : pm_as (pm_cd pm_mm80) 8 = some (.bipush 10, 2) := by decide +kernel
theorem pm_a80_10 : pm_as (pm_cd pm_mm80) 10 = some (.isub, 1) := by decide +kernel
theorem pm_a80_11 : pm_as (pm_cd pm_mm80) 11 = some (.isub, 1) := by decide +kernel
theorem pm_a80_12 : pm_as (pm_cd pm_mm80) 12 = some (.ireturn, 1) := by decide +kernel
theorem pm_a81_0 : pm_as (pm_cd pm_mm81) 0 = some (.iconst 1, 1) := by decide +kernel
theorem pm_a81_1 : pm_as (pm_cd pm_mm81) 1 = some (.istore_n 2, 1) := by decide +kernel
theorem pm_a81_2 : pm_as (pm_cd pm_mm81) 2 = some (.iload_n 1, 1) := by decide +kernel
theorem pm_a81_3 : pm_as (pm_cd pm_mm81) 3 = some (.istore_n 3, 1) := by decide +kernel
theorem pm_a81_4 : pm_as (pm_cd pm_mm81) 4 = some (.iload_n 2, 1) := by decide +kernel
theorem pm_a81_5 : pm_as (pm_cd pm_mm81) 5 = some (.ifCond .le 44, 3) := by decide +kernel
theorem pm_a81_8 : pm_as (pm_cd pm_mm81) 8 = some (.iload_n 3, 1) := by decide +kernel
theorem pm_a81_9 : pm_as (pm_cd pm_mm81) 9 = some (.aload_n 0, 1) := by decide +kernel
theorem pm_a81_10 : pm_as (pm_cd pm_mm81) 10 = some (.getfield 21, 3) := by decide +kernel
theorem pm_a81_13 : pm_as (pm_cd pm_mm81) 13 = some (.if_icmp .ge 36, 3) := by decide +kernel
theorem pm_a81_16 : pm_as (pm_cd pm_mm81) 16 = some (.aload_n 0, 1) := by decide +kernel
theorem pm_a81_17 : pm_as (pm_cd pm_mm81) 17 = some (.iload_n 3, 1) := by decide +kernel
theorem pm_a81_18 : pm_as (pm_cd pm_mm81) 18 = some (.invokevirtual 39, 3) := by decide +kernel
theorem pm_a81_21 : pm_as (pm_cd pm_mm81) 21 = some (.istore 4, 2) := by decide +kernel
theorem pm_a81_23 : pm_as (pm_cd pm_mm81) 23 = some (.iload 4, 2) := by decide +kernel
theorem pm_a81_25 : pm_as (pm_cd pm_mm81) 25 = some (.ifCond .ne 9, 3) := by decide +kernel
theorem pm_a81_28 : pm_as (pm_cd pm_mm81) 28 = some (.iinc 2 1, 3) := by decide +kernel
theorem pm_a81_31 : pm_as (pm_cd pm_mm81) 31 = some (.goto 12, 3) := by decide +kernel
theorem pm_a81_34 : pm_as (pm_cd pm_mm81) 34 = some (.iload 4, 2) := by decide +kernel
theorem pm_a81_36 : pm_as (pm_cd pm_mm81) 36 = some (.iconst 1, 1) := by decide +kernel
theorem pm_a81_37 : pm_as (pm_cd pm_mm81) 37 = some (.if_icmp .eq 6, 3) := by decide +kernel
theorem pm_a81_40 : pm_as (pm_cd pm_mm81) 40 = some (.iinc 2 (-1), 3) := by decide +kernel
theorem pm_a81_43 : pm_as (pm_cd pm_mm81) 43 = some (.iinc 3 1, 3) := by decide +kernel
theorem pm_a81_46 : pm_as (pm_cd pm_mm81) 46 = some (.goto (-42), 3) := by decide +kernel
theorem pm_a81_49 : pm_as (pm_cd pm_mm81) 49 = some (.iload_n 3, 1) := by decide +kernel
theorem pm_a81_50 : pm_as (pm_cd pm_mm81) 50 = some (.ireturn, 1) := by decide +kernel
theorem pm_a82_0 : pm_as (pm_cd pm_mm82) 0 = some (.iload_n 2, 1) := by decide +kernel
theorem pm_a82_1 : pm_as (pm_cd pm_mm82) 1 = some (.istore 5, 2) := by decide +kernel
theorem pm_a82_3 : pm_as (pm_cd pm_mm82) 3 = some (.iload 5, 2) := by decide +kernel
theorem pm_a82_5 : pm_as (pm_cd pm_mm82) 5 = some (.iload_n 3, 1) := by decide +kernel
theorem pm_a82_6 : pm_as (pm_cd pm_mm82) 6 = some (.if_icmp .ge 99, 3) := by decide +kernel
