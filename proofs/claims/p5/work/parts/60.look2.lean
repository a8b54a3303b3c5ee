/-! every instruction of the class, by its place -/
theorem pm_a82_9 : pm_as (pm_cd pm_mm82) 9 = some (.aload_n 0, 1) := by decide +kernel
theorem pm_a82_10 : pm_as (pm_cd pm_mm82) 10 = some (.getfield 14, 3) := by decide +kernel
theorem pm_a82_13 : pm_as (pm_cd pm_mm82) 13 = some (.getfield 102, 3) := by decide +kernel
theorem pm_a82_16 : pm_as (pm_cd pm_mm82) 16 = some (.ifCond .ne 89, 3) := by decide +kernel
theorem pm_a82_19 : pm_as (pm_cd pm_mm82) 19 = some (.aload_n 1, 1) := by decide +kernel
theorem pm_a82_20 : pm_as (pm_cd pm_mm82) 20 = some (.iload 5, 2) := by decide +kernel
theorem pm_a82_22 : pm_as (pm_cd pm_mm82) 22 = some (.invokevirtual 75, 3) := by decide +kernel
theorem pm_a82_25 : pm_as (pm_cd pm_mm82) 25 = some (.istore 6, 2) := by decide +kernel
theorem pm_a82_27 : pm_as (pm_cd pm_mm82) 27 = some (.iload 6, 2) := by decide +kernel
theorem pm_a82_29 : pm_as (pm_cd pm_mm82) 29 = some (.bipush 10, 2) := by decide +kernel
theorem pm_a82_31 : pm_as (pm_cd pm_mm82) 31 = some (.if_icmp .lt 17, 3) := by decide +kernel
theorem pm_a82_34 : pm_as (pm_cd pm_mm82) 34 = some (.aload_n 0, 1) := by decide +kernel
theorem pm_a82_35 : pm_as (pm_cd pm_mm82) 35 = some (.getfield 20, 3) := by decide +kernel
theorem pm_a82_38 : pm_as (pm_cd pm_mm82) 38 = some (.iload 6, 2) := by decide +kernel
theorem pm_a82_40 : pm_as (pm_cd pm_mm82) 40 = some (.iload 5, 2) := by decide +kernel
theorem pm_a82_42 : pm_as (pm_cd pm_mm82) 42 = some (.invokevirtual 89, 3) := by decide +kernel
theorem pm_a82_45 : pm_as (pm_cd pm_mm82) 45 = some (.goto 4, 3) := by decide +kernel
theorem pm_a82_48 : pm_as (pm_cd pm_mm82) 48 = some (.iconst 1, 1) := by decide +kernel
theorem pm_a82_49 : pm_as (pm_cd pm_mm82) 49 = some (.istore 7, 2) := by decide +kernel
theorem pm_a82_51 : pm_as (pm_cd pm_mm82) 51 = some (.iload 7, 2) := by decide +kernel
theorem pm_a82_53 : pm_as (pm_cd pm_mm82) 53 = some (.ifCond .ne 25, 3) := by decide +kernel
theorem pm_a82_56 : pm_as (pm_cd pm_mm82) 56 = some (.aload_n 0, 1) := by decide +kernel
theorem pm_a82_57 : pm_as (pm_cd pm_mm82) 57 = some (.aload_n 1, 1) := by decide +kernel
theorem pm_a82_58 : pm_as (pm_cd pm_mm82) 58 = some (.iload_n 3, 1) := by decide +kernel
theorem pm_a82_59 : pm_as (pm_cd pm_mm82) 59 = some (.iload 4, 2) := by decide +kernel
theorem pm_a82_61 : pm_as (pm_cd pm_mm82) 61 = some (.aload_n 0, 1) := by decide +kernel
theorem pm_a82_62 : pm_as (pm_cd pm_mm82) 62 = some (.getfield 20, 3) := by decide +kernel
theorem pm_a82_65 : pm_as (pm_cd pm_mm82) 65 = some (.iload 5, 2) := by decide +kernel
theorem pm_a82_67 : pm_as (pm_cd pm_mm82) 67 = some (.invokevirtual 82, 3) := by decide +kernel
theorem pm_a82_70 : pm_as (pm_cd pm_mm82) 70 = some (.iconst 1, 1) := by decide +kernel
theorem pm_a82_71 : pm_as (pm_cd pm_mm82) 71 = some (.isub, 1) := by decide +kernel
theorem pm_a82_72 : pm_as (pm_cd pm_mm82) 72 = some (.invokevirtual 106, 3) := by decide +kernel
theorem pm_a82_75 : pm_as (pm_cd pm_mm82) 75 = some (.goto 24, 3) := by decide +kernel
theorem pm_a82_78 : pm_as (pm_cd pm_mm82) 78 = some (.aload_n 0, 1) := by decide +kernel
theorem pm_a82_79 : pm_as (pm_cd pm_mm82) 79 = some (.getfield 14, 3) := by decide +kernel
theorem pm_a82_82 : pm_as (pm_cd pm_mm82) 82 = some (.iload 7, 2) := by decide +kernel
theorem pm_a82_84 : pm_as (pm_cd pm_mm82) 84 = some (.ifCond .ge 10, 3) := by decide +kernel
theorem pm_a82_87 : pm_as (pm_cd pm_mm82) 87 = some (.iload 6, 2) := by decide +kernel
theorem pm_a82_89 : pm_as (pm_cd pm_mm82) 89 = some (.iconst 1, 1) := by decide +kernel
theorem pm_a82_90 : pm_as (pm_cd pm_mm82) 90 = some (.isub, 1) := by decide +kernel
theorem pm_a82_91 : pm_as (pm_cd pm_mm82) 91 = some (.goto 5, 3) := by decide +kernel
theorem pm_a82_94 : pm_as (pm_cd pm_mm82) 94 = some (.iload 6, 2) := by decide +kernel
theorem pm_a82_96 : pm_as (pm_cd pm_mm82) 96 = some (.invokevirtual 99, 3) := by decide +kernel
theorem pm_a82_99 : pm_as (pm_cd pm_mm82) 99 = some (.iinc 5 1, 3) := by decide +kernel
theorem pm_a82_102 : pm_as (pm_cd pm_mm82) 102 = some (.goto (-99), 3) := by decide +kernel
theorem pm_a82_105 : pm_as (pm_cd pm_mm82) 105 = some (.return_, 1) := by decide +kernel
theorem pm_a83_0 : pm_as (pm_cd pm_mm83) 0 = some (.iload_n 2, 1) := by decide +kernel
theorem pm_a83_1 : pm_as (pm_cd pm_mm83) 1 = some (.istore 5, 2) := by decide +kernel
theorem pm_a83_3 : pm_as (pm_cd pm_mm83) 3 = some (.iload 5, 2) := by decide +kernel
theorem pm_a83_5 : pm_as (pm_cd pm_mm83) 5 = some (.iload_n 3, 1) := by decide +kernel
theorem pm_a83_6 : pm_as (pm_cd pm_mm83) 6 = some (.if_icmp .ge 77, 3) := by decide +kernel
theorem pm_a83_9 : pm_as (pm_cd pm_mm83) 9 = some (.aload_n 0, 1) := by decide +kernel
theorem pm_a83_10 : pm_as (pm_cd pm_mm83) 10 = some (.getfield 14, 3) := by decide +kernel
theorem pm_a83_13 : pm_as (pm_cd pm_mm83) 13 = some (.getfield 102, 3) := by decide +kernel
theorem pm_a83_16 : pm_as (pm_cd pm_mm83) 16 = some (.ifCond .ne 67, 3) := by decide +kernel
theorem pm_a83_19 : pm_as (pm_cd pm_mm83) 19 = some (.aload_n 1, 1) := by decide +kernel
theorem pm_a83_20 : pm_as (pm_cd pm_mm83) 20 = some (.iload 5, 2) := by decide +kernel
theorem pm_a83_22 : pm_as (pm_cd pm_mm83) 22 = some (.invokevirtual 75, 3) := by decide +kernel
theorem pm_a83_25 : pm_as (pm_cd pm_mm83) 25 = some (.istore 6, 2) := by decide +kernel
theorem pm_a83_27 : pm_as (pm_cd pm_mm83) 27 = some (.iload 6, 2) := by decide +kernel
theorem pm_a83_29 : pm_as (pm_cd pm_mm83) 29 = some (.bipush 10, 2) := by decide +kernel
theorem pm_a83_31 : pm_as (pm_cd pm_mm83) 31 = some (.if_icmp .lt 21, 3) := by decide +kernel
theorem pm_a83_34 : pm_as (pm_cd pm_mm83) 34 = some (.aload_n 0, 1) := by decide +kernel
theorem pm_a83_35 : pm_as (pm_cd pm_mm83) 35 = some (.getfield 20, 3) := by decide +kernel
theorem pm_a83_38 : pm_as (pm_cd pm_mm83) 38 = some (.iload 6, 2) := by decide +kernel
theorem pm_a83_40 : pm_as (pm_cd pm_mm83) 40 = some (.iload 5, 2) := by decide +kernel
theorem pm_a83_42 : pm_as (pm_cd pm_mm83) 42 = some (.invokevirtual 89, 3) := by decide +kernel
theorem pm_a83_45 : pm_as (pm_cd pm_mm83) 45 = some (.ifCond .ge 7, 3) := by decide +kernel
theorem pm_a83_48 : pm_as (pm_cd pm_mm83) 48 = some (.iconst 1, 1) := by decide +kernel
theorem pm_a83_49 : pm_as (pm_cd pm_mm83) 49 = some (.goto 4, 3) := by decide +kernel
theorem pm_a83_52 : pm_as (pm_cd pm_mm83) 52 = some (.iconst 0, 1) := by decide +kernel
theorem pm_a83_53 : pm_as (pm_cd pm_mm83) 53 = some (.istore 7, 2) := by decide +kernel
theorem pm_a83_55 : pm_as (pm_cd pm_mm83) 55 = some (.aload_n 0, 1) := by decide +kernel
theorem pm_a83_56 : pm_as (pm_cd pm_mm83) 56 = some (.getfield 14, 3) := by decide +kernel
theorem pm_a83_59 : pm_as (pm_cd pm_mm83) 59 = some (.iload 7, 2) := by decide +kernel
theorem pm_a83_61 : pm_as (pm_cd pm_mm83) 61 = some (.ifCond .eq 11, 3) := by decide +kernel
theorem pm_a83_64 : pm_as (pm_cd pm_mm83) 64 = some (.iload 6, 2) := by decide +kernel
theorem pm_a83_66 : pm_as (pm_cd pm_mm83) 66 = some (.iload 4, 2) := by decide +kernel
theorem pm_a83_68 : pm_as (pm_cd pm_mm83) 68 = some (.iadd, 1) := by decide +kernel
theorem pm_a83_69 : pm_as (pm_cd pm_mm83) 69 = some (.goto 5, 3) := by decide +kernel
theorem pm_a83_72 : pm_as (pm_cd pm_mm83) 72 = some (.iload 6, 2) := by decide +kernel
theorem pm_a83_74 : pm_as (pm_cd pm_mm83) 74 = some (.invokevirtual 99, 3) := by decide +kernel
theorem pm_a83_77 : pm_as (pm_cd pm_mm83) 77 = some (.iinc 5 1, 3) := by decide +kernel
theorem pm_a83_80 : pm_as (pm_cd pm_mm83) 80 = some (.goto (-77), 3) := by decide +kernel
theorem pm_a83_83 : pm_as (pm_cd pm_mm83) 83 = some (.return_, 1) := by decide +kernel
theorem pm_a84_0 : pm_as (pm_cd pm_mm84) 0 = some (.aload_n 1, 1) := by decide +kernel
theorem pm_a84_1 : pm_as (pm_cd pm_mm84) 1 = some (.iload_n 2, 1) := by decide +kernel
theorem pm_a84_2 : pm_as (pm_cd pm_mm84) 2 = some (.invokestatic 28, 3) := by decide +kernel
theorem pm_a84_5 : pm_as (pm_cd pm_mm84) 5 = some (.tableswitch 92 1 4 #[31, 92, 68, 53], 31) := by decide +kernel
theorem pm_a84_36 : pm_as (pm_cd pm_mm84) 36 = some (.aload_n 0, 1) := by decide +kernel
theorem pm_a84_37 : pm_as (pm_cd pm_mm84) 37 = some (.aload_n 1, 1) := by decide +kernel
theorem pm_a84_38 : pm_as (pm_cd pm_mm84) 38 = some (.iload_n 2, 1) := by decide +kernel
theorem pm_a84_39 : pm_as (pm_cd pm_mm84) 39 = some (.iconst 2, 1) := by decide +kernel
theorem pm_a84_40 : pm_as (pm_cd pm_mm84) 40 = some (.iadd, 1) := by decide +kernel
theorem pm_a84_41 : pm_as (pm_cd pm_mm84) 41 = some (.aload_n 0, 1) := by decide +kernel
theorem pm_a84_42 : pm_as (pm_cd pm_mm84) 42 = some (.getfield 20, 3) := by decide +kernel
theorem pm_a84_45 : pm_as (pm_cd pm_mm84) 45 = some (.iload_n 2, 1) := by decide +kernel
theorem pm_a84_46 : pm_as (pm_cd pm_mm84) 46 = some (.iconst 2, 1) := by decide +kernel
theorem pm_a84_47 : pm_as (pm_cd pm_mm84) 47 = some (.iadd, 1) := by decide +kernel
theorem pm_a84_48 : pm_as (pm_cd pm_mm84) 48 = some (.invokevirtual 61, 3) := by decide +kernel
theorem pm_a84_51 : pm_as (pm_cd pm_mm84) 51 = some (.iload_n 3, 1) := by decide +kernel
theorem pm_a84_52 : pm_as (pm_cd pm_mm84) 52 = some (.invokevirtual 64, 3) := by decide +kernel
theorem pm_a84_55 : pm_as (pm_cd pm_mm84) 55 = some (.goto 51, 3) := by decide +kernel
theorem pm_a84_58 : pm_as (pm_cd pm_mm84) 58 = some (.aload_n 0, 1) := by decide +kernel
theorem pm_a84_59 : pm_as (pm_cd pm_mm84) 59 = some (.getfield 14, 3) := by decide +kernel
theorem pm_a84_62 : pm_as (pm_cd pm_mm84) 62 = some (.aload_n 1, 1) := by decide +kernel
theorem pm_a84_63 : pm_as (pm_cd pm_mm84) 63 = some (.iload_n 2, 1) := by decide +kernel
theorem pm_a84_64 : pm_as (pm_cd pm_mm84) 64 = some (.iconst 2, 1) := by decide +kernel
theorem pm_a84_65 : pm_as (pm_cd pm_mm84) 65 = some (.iadd, 1) := by decide +kernel
theorem pm_a84_66 : pm_as (pm_cd pm_mm84) 66 = some (.iload_n 3, 1) := by decide +kernel
theorem pm_a84_67 : pm_as (pm_cd pm_mm84) 67 = some (.invokevirtual 93, 3) := by decide +kernel
theorem pm_a84_70 : pm_as (pm_cd pm_mm84) 70 = some (.goto 36, 3) := by decide +kernel
theorem pm_a84_73 : pm_as (pm_cd pm_mm84) 73 = some (.aload_n 0, 1) := by decide +kernel
theorem pm_a84_74 : pm_as (pm_cd pm_mm84) 74 = some (.getfield 14, 3) := by decide +kernel
theorem pm_a84_77 : pm_as (pm_cd pm_mm84) 77 = some (.aload_n 1, 1) := by decide +kernel
theorem pm_a84_78 : pm_as (pm_cd pm_mm84) 78 = some (.iload_n 2, 1) := by decide +kernel
theorem pm_a84_79 : pm_as (pm_cd pm_mm84) 79 = some (.iconst 3, 1) := by decide +kernel
theorem pm_a84_80 : pm_as (pm_cd pm_mm84) 80 = some (.iadd, 1) := by decide +kernel
theorem pm_a84_81 : pm_as (pm_cd pm_mm84) 81 = some (.aload_n 0, 1) := by decide +kernel
theorem pm_a84_82 : pm_as (pm_cd pm_mm84) 82 = some (.getfield 20, 3) := by decide +kernel
theorem pm_a84_85 : pm_as (pm_cd pm_mm84) 85 = some (.iload_n 2, 1) := by decide +kernel
theorem pm_a84_86 : pm_as (pm_cd pm_mm84) 86 = some (.iconst 3, 1) := by decide +kernel
theorem pm_a84_87 : pm_as (pm_cd pm_mm84) 87 = some (.iadd, 1) := by decide +kernel
theorem pm_a84_88 : pm_as (pm_cd pm_mm84) 88 = some (.invokevirtual 61, 3) := by decide +kernel
theorem pm_a84_91 : pm_as (pm_cd pm_mm84) 91 = some (.invokevirtual 93, 3) := by decide +kernel
theorem pm_a84_94 : pm_as (pm_cd pm_mm84) 94 = some (.goto 12, 3) := by decide +kernel
theorem pm_a84_97 : pm_as (pm_cd pm_mm84) 97 = some (.aload_n 0, 1) := by decide +kernel
theorem pm_a84_98 : pm_as (pm_cd pm_mm84) 98 = some (.aload_n 1, 1) := by decide +kernel
theorem pm_a84_99 : pm_as (pm_cd pm_mm84) 99 = some (.iload_n 2, 1) := by decide +kernel
theorem pm_a84_100 : pm_as (pm_cd pm_mm84) 100 = some (.iconst 4, 1) := by decide +kernel
theorem pm_a84_101 : pm_as (pm_cd pm_mm84) 101 = some (.iadd, 1) := by decide +kernel
theorem pm_a84_102 : pm_as (pm_cd pm_mm84) 102 = some (.iload_n 3, 1) := by decide +kernel
theorem pm_a84_103 : pm_as (pm_cd pm_mm84) 103 = some (.invokevirtual 96, 3) := by decide +kernel
theorem pm_a84_106 : pm_as (pm_cd pm_mm84) 106 = some (.return_, 1) := by decide +kernel
theorem pm_a85_0 : pm_as (pm_cd pm_mm85) 0 = some (.aload_n 0, 1) := by decide +kernel
theorem pm_a85_1 : pm_as (pm_cd pm_mm85) 1 = some (.getfield 20, 3) := by decide +kernel
theorem pm_a85_4 : pm_as (pm_cd pm_mm85) 4 = some (.iload_n 2, 1) := by decide +kernel
theorem pm_a85_5 : pm_as (pm_cd pm_mm85) 5 = some (.invokevirtual 61, 3) := by decide +kernel
theorem pm_a85_8 : pm_as (pm_cd pm_mm85) 8 = some (.istore 4, 2) := by decide +kernel
theorem pm_a85_10 : pm_as (pm_cd pm_mm85) 10 = some (.aload_n 0, 1) := by decide +kernel
theorem pm_a85_11 : pm_as (pm_cd pm_mm85) 11 = some (.getfield 20, 3) := by decide +kernel
theorem pm_a85_14 : pm_as (pm_cd pm_mm85) 14 = some (.iload 4, 2) := by decide +kernel
theorem pm_a85_16 : pm_as (pm_cd pm_mm85) 16 = some (.invokevirtual 61, 3) := by decide +kernel
theorem pm_a85_19 : pm_as (pm_cd pm_mm85) 19 = some (.istore 5, 2) := by decide +kernel
theorem pm_a85_21 : pm_as (pm_cd pm_mm85) 21 = some (.aload_n 0, 1) := by decide +kernel
theorem pm_a85_22 : pm_as (pm_cd pm_mm85) 22 = some (.getfield 14, 3) := by decide +kernel
theorem pm_a85_25 : pm_as (pm_cd pm_mm85) 25 = some (.iconst 0, 1) := by decide +kernel
theorem pm_a85_26 : pm_as (pm_cd pm_mm85) 26 = some (.invokevirtual 99, 3) := by decide +kernel
theorem pm_a85_29 : pm_as (pm_cd pm_mm85) 29 = some (.aload_n 0, 1) := by decide +kernel
theorem pm_a85_30 : pm_as (pm_cd pm_mm85) 30 = some (.getfield 14, 3) := by decide +kernel
theorem pm_a85_33 : pm_as (pm_cd pm_mm85) 33 = some (.iconst 0, 1) := by decide +kernel
theorem pm_a85_34 : pm_as (pm_cd pm_mm85) 34 = some (.invokevirtual 99, 3) := by decide +kernel
theorem pm_a85_37 : pm_as (pm_cd pm_mm85) 37 = some (.aload_n 0, 1) := by decide +kernel
theorem pm_a85_38 : pm_as (pm_cd pm_mm85) 38 = some (.getfield 14, 3) := by decide +kernel
theorem pm_a85_41 : pm_as (pm_cd pm_mm85) 41 = some (.aload_n 1, 1) := by decide +kernel
theorem pm_a85_42 : pm_as (pm_cd pm_mm85) 42 = some (.iload_n 2, 1) := by decide +kernel
theorem pm_a85_43 : pm_as (pm_cd pm_mm85) 43 = some (.iload 4, 2) := by decide +kernel
theorem pm_a85_45 : pm_as (pm_cd pm_mm85) 45 = some (.invokevirtual 93, 3) := by decide +kernel
theorem pm_a85_48 : pm_as (pm_cd pm_mm85) 48 = some (.aload_n 0, 1) := by decide +kernel
theorem pm_a85_49 : pm_as (pm_cd pm_mm85) 49 = some (.getfield 14, 3) := by decide +kernel
theorem pm_a85_52 : pm_as (pm_cd pm_mm85) 52 = some (.aload_n 1, 1) := by decide +kernel
theorem pm_a85_53 : pm_as (pm_cd pm_mm85) 53 = some (.iload 5, 2) := by decide +kernel
theorem pm_a85_55 : pm_as (pm_cd pm_mm85) 55 = some (.iload_n 3, 1) := by decide +kernel
theorem pm_a85_56 : pm_as (pm_cd pm_mm85) 56 = some (.invokevirtual 93, 3) := by decide +kernel
theorem pm_a85_59 : pm_as (pm_cd pm_mm85) 59 = some (.aload_n 0, 1) := by decide +kernel
theorem pm_a85_60 : pm_as (pm_cd pm_mm85) 60 = some (.getfield 14, 3) := by decide +kernel
theorem pm_a85_63 : pm_as (pm_cd pm_mm85) 63 = some (.iconst 0, 1) := by decide +kernel
theorem pm_a85_64 : pm_as (pm_cd pm_mm85) 64 = some (.invokevirtual 99, 3) := by decide +kernel
theorem pm_a85_67 : pm_as (pm_cd pm_mm85) 67 = some (.aload_n 0, 1) := by decide +kernel
theorem pm_a85_68 : pm_as (pm_cd pm_mm85) 68 = some (.getfield 14, 3) := by decide +kernel
theorem pm_a85_71 : pm_as (pm_cd pm_mm85) 71 = some (.aload_n 1, 1) := by decide +kernel
theorem pm_a85_72 : pm_as (pm_cd pm_mm85) 72 = some (.iload 4, 2) := by decide +kernel
theorem pm_a85_74 : pm_as (pm_cd pm_mm85) 74 = some (.iload 5, 2) := by decide +kernel
theorem pm_a85_76 : pm_as (pm_cd pm_mm85) 76 = some (.invokevirtual 93, 3) := by decide +kernel
theorem pm_a85_79 : pm_as (pm_cd pm_mm85) 79 = some (.aload_n 0, 1) := by decide +kernel
theorem pm_a85_80 : pm_as (pm_cd pm_mm85) 80 = some (.getfield 14, 3) := by decide +kernel
theorem pm_a85_83 : pm_as (pm_cd pm_mm85) 83 = some (.aload_n 1, 1) := by decide +kernel
theorem pm_a85_84 : pm_as (pm_cd pm_mm85) 84 = some (.iload 5, 2) := by decide +kernel
theorem pm_a85_86 : pm_as (pm_cd pm_mm85) 86 = some (.iload_n 3, 1) := by decide +kernel
theorem pm_a85_87 : pm_as (pm_cd pm_mm85) 87 = some (.invokevirtual 93, 3) := by decide +kernel
theorem pm_a85_90 : pm_as (pm_cd pm_mm85) 90 = some (.return_, 1) := by decide +kernel
theorem pm_a86_0 : pm_as (pm_cd pm_mm86) 0 = some (.iload_n 1, 1) := by decide +kernel
theorem pm_a86_1 : pm_as (pm_cd pm_mm86) 1 = some (.ifCond .lt 20, 3) := by decide +kernel
theorem pm_a86_4 : pm_as (pm_cd pm_mm86) 4 = some (.iload_n 1, 1) := by decide +kernel
theorem pm_a86_5 : pm_as (pm_cd pm_mm86) 5 = some (.iload_n 2, 1) := by decide +kernel
theorem pm_a86_6 : pm_as (pm_cd pm_mm86) 6 = some (.if_icmp .gt 15, 3) := by decide +kernel
theorem pm_a86_9 : pm_as (pm_cd pm_mm86) 9 = some (.iload_n 2, 1) := by decide +kernel
theorem pm_a86_10 : pm_as (pm_cd pm_mm86) 10 = some (.aload_n 0, 1) := by decide +kernel
theorem pm_a86_11 : pm_as (pm_cd pm_mm86) 11 = some (.getfield 21, 3) := by decide +kernel
theorem pm_a86_14 : pm_as (pm_cd pm_mm86) 14 = some (.if_icmp .gt 7, 3) := by decide +kernel
theorem pm_a86_17 : pm_as (pm_cd pm_mm86) 17 = some (.iconst 1, 1) := by decide +kernel
theorem pm_a86_18 : pm_as (pm_cd pm_mm86) 18 = some (.goto 4, 3) := by decide +kernel
theorem pm_a86_21 : pm_as (pm_cd pm_mm86) 21 = some (.iconst 0, 1) := by decide +kernel
theorem pm_a86_22 : pm_as (pm_cd pm_mm86) 22 = some (.istore 4, 2) := by decide +kernel
theorem pm_a86_24 : pm_as (pm_cd pm_mm86) 24 = some (.aload_n 0, 1) := by decide +kernel
theorem pm_a86_25 : pm_as (pm_cd pm_mm86) 25 = some (.getfield 21, 3) := by decide +kernel
theorem pm_a86_28 : pm_as (pm_cd pm_mm86) 28 = some (.iload_n 2, 1) := by decide +kernel
theorem pm_a86_29 : pm_as (pm_cd pm_mm86) 29 = some (.iload_n 1, 1) := by decide +kernel
theorem pm_a86_30 : pm_as (pm_cd pm_mm86) 30 = some (.isub, 1) := by decide +kernel
theorem pm_a86_31 : pm_as (pm_cd pm_mm86) 31 = some (.isub, 1) := by decide +kernel
theorem pm_a86_32 : pm_as (pm_cd pm_mm86) 32 = some (.aload_n 3, 1) := by decide +kernel
theorem pm_a86_33 : pm_as (pm_cd pm_mm86) 33 = some (.getfield 21, 3) := by decide +kernel
theorem pm_a86_36 : pm_as (pm_cd pm_mm86) 36 = some (.iadd, 1) := by decide +kernel
theorem pm_a86_37 : pm_as (pm_cd pm_mm86) 37 = some (.istore 5, 2) := by decide +kernel
theorem pm_a86_39 : pm_as (pm_cd pm_mm86) 39 = some (.iload 4, 2) := by decide +kernel
theorem pm_a86_41 : pm_as (pm_cd pm_mm86) 41 = some (.ifCond .eq 20, 3) := by decide +kernel
theorem pm_a86_44 : pm_as (pm_cd pm_mm86) 44 = some (.aload_n 3, 1) := by decide +kernel
theorem pm_a86_45 : pm_as (pm_cd pm_mm86) 45 = some (.getfield 25, 3) := by decide +kernel
theorem pm_a86_48 : pm_as (pm_cd pm_mm86) 48 = some (.ifCond .ne 13, 3) := by decide +kernel
theorem pm_a86_51 : pm_as (pm_cd pm_mm86) 51 = some (.iload 5, 2) := by decide +kernel
theorem pm_a86_53 : pm_as (pm_cd pm_mm86) 53 = some (.aload_n 0, 1) := by decide +kernel
theorem pm_a86_54 : pm_as (pm_cd pm_mm86) 54 = some (.getfield 15, 3) := by decide +kernel
theorem pm_a86_57 : pm_as (pm_cd pm_mm86) 57 = some (.arraylength, 1) := by decide +kernel
theorem pm_a86_58 : pm_as (pm_cd pm_mm86) 58 = some (.if_icmp .le 5, 3) := by decide +kernel
theorem pm_a86_61 : pm_as (pm_cd pm_mm86) 61 = some (.iconst 0, 1) := by decide +kernel
theorem pm_a86_62 : pm_as (pm_cd pm_mm86) 62 = some (.ireturn, 1) := by decide +kernel
theorem pm_a86_63 : pm_as (pm_cd pm_mm86) 63 = some (.aload_n 0, 1) := by decide +kernel
theorem pm_a86_64 : pm_as (pm_cd pm_mm86) 64 = some (.getfield 15, 3) := by decide +kernel
theorem pm_a86_67 : pm_as (pm_cd pm_mm86) 67 = some (.iload_n 2, 1) := by decide +kernel
theorem pm_a86_68 : pm_as (pm_cd pm_mm86) 68 = some (.aload_n 0, 1) := by decide +kernel
theorem pm_a86_69 : pm_as (pm_cd pm_mm86) 69 = some (.getfield 15, 3) := by decide +kernel
theorem pm_a86_72 : pm_as (pm_cd pm_mm86) 72 = some (.iload_n 1, 1) := by decide +kernel
theorem pm_a86_73 : pm_as (pm_cd pm_mm86) 73 = some (.aload_n 3, 1) := by decide +kernel
theorem pm_a86_74 : pm_as (pm_cd pm_mm86) 74 = some (.getfield 21, 3) := by decide +kernel
theorem pm_a86_77 : pm_as (pm_cd pm_mm86) 77 = some (.iadd, 1) := by decide +kernel
theorem pm_a86_78 : pm_as (pm_cd pm_mm86) 78 = some (.aload_n 0, 1) := by decide +kernel
theorem pm_a86_79 : pm_as (pm_cd pm_mm86) 79 = some (.getfield 21, 3) := by decide +kernel
theorem pm_a86_82 : pm_as (pm_cd pm_mm86) 82 = some (.iload_n 2, 1) := by decide +kernel
theorem pm_a86_83 : pm_as (pm_cd pm_mm86) 83 = some (.isub, 1) := by decide +kernel
theorem pm_a86_84 : pm_as (pm_cd pm_mm86) 84 = some (.invokestatic 29, 3) := by decide +kernel
theorem pm_a86_87 : pm_as (pm_cd pm_mm86) 87 = some (.aload_n 3, 1) := by decide +kernel
theorem pm_a86_88 : pm_as (pm_cd pm_mm86) 88 = some (.getfield 15, 3) := by decide +kernel
theorem pm_a86_91 : pm_as (pm_cd pm_mm86) 91 = some (.iconst 0, 1) := by decide +kernel
theorem pm_a86_92 : pm_as (pm_cd pm_mm86) 92 = some (.aload_n 0, 1) := by decide +kernel
theorem pm_a86_93 : pm_as (pm_cd pm_mm86) 93 = some (.getfield 15, 3) := by decide +kernel
theorem pm_a86_96 : pm_as (pm_cd pm_mm86) 96 = some (.iload_n 1, 1) := by decide +kernel
theorem pm_a86_97 : pm_as (pm_cd pm_mm86) 97 = some (.aload_n 3, 1) := by decide +kernel
theorem pm_a86_98 : pm_as (pm_cd pm_mm86) 98 = some (.getfield 21, 3) := by decide +kernel
theorem pm_a86_101 : pm_as (pm_cd pm_mm86) 101 = some (.invokestatic 29, 3) := by decide +kernel
theorem pm_a86_104 : pm_as (pm_cd pm_mm86) 104 = some (.aload_n 0, 1) := by decide +kernel
theorem pm_a86_105 : pm_as (pm_cd pm_mm86) 105 = some (.iload 5, 2) := by decide +kernel
theorem pm_a86_107 : pm_as (pm_cd pm_mm86) 107 = some (.putfield 21, 3) := by decide +kernel
theorem pm_a86_110 : pm_as (pm_cd pm_mm86) 110 = some (.iconst 1, 1) := by decide +kernel
theorem pm_a86_111 : pm_as (pm_cd pm_mm86) 111 = some (.ireturn, 1) := by decide +kernel
theorem pm_a87_0 : pm_as (pm_cd pm_mm87) 0 = some (.aload_n 0, 1) := by decide +kernel
theorem pm_a87_1 : pm_as (pm_cd pm_mm87) 1 = some (.iload_n 1, 1) := by decide +kernel
theorem pm_a87_2 : pm_as (pm_cd pm_mm87) 2 = some (.invokevirtual 86, 3) := by decide +kernel
theorem pm_a87_5 : pm_as (pm_cd pm_mm87) 5 = some (.astore 4, 2) := by decide +kernel
theorem pm_a87_7 : pm_as (pm_cd pm_mm87) 7 = some (.aload 4, 2) := by decide +kernel
theorem pm_a87_9 : pm_as (pm_cd pm_mm87) 9 = some (.ifnull 17, 3) := by decide +kernel
theorem pm_a87_12 : pm_as (pm_cd pm_mm87) 12 = some (.iload_n 2, 1) := by decide +kernel
theorem pm_a87_13 : pm_as (pm_cd pm_mm87) 13 = some (.invokestatic 114, 3) := by decide +kernel
theorem pm_a87_16 : pm_as (pm_cd pm_mm87) 16 = some (.ifCond .eq 10, 3) := by decide +kernel
theorem pm_a87_19 : pm_as (pm_cd pm_mm87) 19 = some (.iload_n 3, 1) := by decide +kernel
theorem pm_a87_20 : pm_as (pm_cd pm_mm87) 20 = some (.invokestatic 121, 3) := by decide +kernel
theorem pm_a87_23 : pm_as (pm_cd pm_mm87) 23 = some (.ifCond .ne 5, 3) := by decide +kernel
theorem pm_a87_26 : pm_as (pm_cd pm_mm87) 26 = some (.iconst (-1), 1) := by decide +kernel
theorem pm_a87_27 : pm_as (pm_cd pm_mm87) 27 = some (.ireturn, 1) := by decide +kernel
theorem pm_a87_28 : pm_as (pm_cd pm_mm87) 28 = some (.aload_n 0, 1) := by decide +kernel
theorem pm_a87_29 : pm_as (pm_cd pm_mm87) 29 = some (.iconst 0, 1) := by decide +kernel
theorem pm_a87_30 : pm_as (pm_cd pm_mm87) 30 = some (.putfield 124, 3) := by decide +kernel
theorem pm_a87_33 : pm_as (pm_cd pm_mm87) 33 = some (.aload_n 0, 1) := by decide +kernel
theorem pm_a87_34 : pm_as (pm_cd pm_mm87) 34 = some (.iconst 1, 1) := by decide +kernel
theorem pm_a87_35 : pm_as (pm_cd pm_mm87) 35 = some (.putfield 127, 3) := by decide +kernel
theorem pm_a87_38 : pm_as (pm_cd pm_mm87) 38 = some (.iconst 0, 1) := by decide +kernel
theorem pm_a87_39 : pm_as (pm_cd pm_mm87) 39 = some (.istore 5, 2) := by decide +kernel
theorem pm_a87_41 : pm_as (pm_cd pm_mm87) 41 = some (.iload 5, 2) := by decide +kernel
theorem pm_a87_43 : pm_as (pm_cd pm_mm87) 43 = some (.iload_n 3, 1) := by decide +kernel
theorem pm_a87_44 : pm_as (pm_cd pm_mm87) 44 = some (.if_icmp .ge 62, 3) := by decide +kernel
theorem pm_a87_47 : pm_as (pm_cd pm_mm87) 47 = some (.aload_n 0, 1) := by decide +kernel
theorem pm_a87_48 : pm_as (pm_cd pm_mm87) 48 = some (.getfield 57, 3) := by decide +kernel
theorem pm_a87_51 : pm_as (pm_cd pm_mm87) 51 = some (.aload 4, 2) := by decide +kernel
theorem pm_a87_53 : pm_as (pm_cd pm_mm87) 53 = some (.iload_n 2, 1) := by decide +kernel
theorem pm_a87_54 : pm_as (pm_cd pm_mm87) 54 = some (.invokevirtual 118, 3) := by decide +kernel
theorem pm_a87_57 : pm_as (pm_cd pm_mm87) 57 = some (.istore 6, 2) := by decide +kernel
theorem pm_a87_59 : pm_as (pm_cd pm_mm87) 59 = some (.iload 6, 2) := by decide +kernel
theorem pm_a87_61 : pm_as (pm_cd pm_mm87) 61 = some (.iconst 1, 1) := by decide +kernel
theorem pm_a87_62 : pm_as (pm_cd pm_mm87) 62 = some (.if_icmp .eq 22, 3) := by decide +kernel
theorem pm_a87_65 : pm_as (pm_cd pm_mm87) 65 = some (.aload_n 0, 1) := by decide +kernel
theorem pm_a87_66 : pm_as (pm_cd pm_mm87) 66 = some (.iload 6, 2) := by decide +kernel
theorem pm_a87_68 : pm_as (pm_cd pm_mm87) 68 = some (.bipush (-3), 2) := by decide +kernel
theorem pm_a87_70 : pm_as (pm_cd pm_mm87) 70 = some (.if_icmp .ne 7, 3) := by decide +kernel
theorem pm_a87_73 : pm_as (pm_cd pm_mm87) 73 = some (.iconst 2, 1) := by decide +kernel
theorem pm_a87_74 : pm_as (pm_cd pm_mm87) 74 = some (.goto 4, 3) := by decide +kernel
theorem pm_a87_77 : pm_as (pm_cd pm_mm87) 77 = some (.iconst 0, 1) := by decide +kernel
theorem pm_a87_78 : pm_as (pm_cd pm_mm87) 78 = some (.putfield 127, 3) := by decide +kernel
theorem pm_a87_81 : pm_as (pm_cd pm_mm87) 81 = some (.iload 5, 2) := by decide +kernel
theorem pm_a87_83 : pm_as (pm_cd pm_mm87) 83 = some (.ireturn, 1) := by decide +kernel
theorem pm_a87_84 : pm_as (pm_cd pm_mm87) 84 = some (.aload_n 0, 1) := by decide +kernel
theorem pm_a87_85 : pm_as (pm_cd pm_mm87) 85 = some (.aload_n 0, 1) := by decide +kernel
theorem pm_a87_86 : pm_as (pm_cd pm_mm87) 86 = some (.getfield 124, 3) := by decide +kernel
theorem pm_a87_89 : pm_as (pm_cd pm_mm87) 89 = some (.aload 4, 2) := by decide +kernel
theorem pm_a87_91 : pm_as (pm_cd pm_mm87) 91 = some (.getfield 90, 3) := by decide +kernel
theorem pm_a87_94 : pm_as (pm_cd pm_mm87) 94 = some (.invokestatic 130, 3) := by decide +kernel
theorem pm_a87_97 : pm_as (pm_cd pm_mm87) 97 = some (.putfield 124, 3) := by decide +kernel
theorem pm_a87_100 : pm_as (pm_cd pm_mm87) 100 = some (.iinc 5 1, 3) := by decide +kernel
theorem pm_a87_103 : pm_as (pm_cd pm_mm87) 103 = some (.goto (-62), 3) := by decide +kernel
theorem pm_a87_106 : pm_as (pm_cd pm_mm87) 106 = some (.iload_n 3, 1) := by decide +kernel
theorem pm_a87_107 : pm_as (pm_cd pm_mm87) 107 = some (.ireturn, 1) := by decide +kernel
theorem pm_a88_0 : pm_as (pm_cd pm_mm88) 0 = some (.iload_n 0, 1) := by decide +kernel
theorem pm_a88_1 : pm_as (pm_cd pm_mm88) 1 = some (.ifCond .lt 14, 3) := by decide +kernel
theorem pm_a88_4 : pm_as (pm_cd pm_mm88) 4 = some (.iload_n 0, 1) := by decide +kernel
theorem pm_a88_5 : pm_as (pm_cd pm_mm88) 5 = some (.sipush 200, 3) := by decide +kernel
theorem pm_a88_8 : pm_as (pm_cd pm_mm88) 8 = some (.if_icmp .gt 7, 3) := by decide +kernel
theorem pm_a88_11 : pm_as (pm_cd pm_mm88) 11 = some (.iconst 1, 1) := by decide +kernel
theorem pm_a88_12 : pm_as (pm_cd pm_mm88) 12 = some (.goto 4, 3) := by decide +kernel
theorem pm_a88_15 : pm_as (pm_cd pm_mm88) 15 = some (.iconst 0, 1) := by decide +kernel
theorem pm_a88_16 : pm_as (pm_cd pm_mm88) 16 = some (.ireturn, 1) := by decide +kernel
theorem pm_a89_0 : pm_as (pm_cd pm_mm89) 0 = some (.iload_n 1, 1) := by decide +kernel
theorem pm_a89_1 : pm_as (pm_cd pm_mm89) 1 = some (.lookupswitch 37 #[(0, 27), (1, 32)], 27) := by decide +kernel
theorem pm_a89_28 : pm_as (pm_cd pm_mm89) 28 = some (.aload_n 0, 1) := by decide +kernel
theorem pm_a89_29 : pm_as (pm_cd pm_mm89) 29 = some (.getfield 127, 3) := by decide +kernel
theorem pm_a89_32 : pm_as (pm_cd pm_mm89) 32 = some (.ireturn, 1) := by decide +kernel
theorem pm_a89_33 : pm_as (pm_cd pm_mm89) 33 = some (.aload_n 0, 1) := by decide +kernel
theorem pm_a89_34 : pm_as (pm_cd pm_mm89) 34 = some (.getfield 124, 3) := by decide +kernel
theorem pm_a89_37 : pm_as (pm_cd pm_mm89) 37 = some (.ireturn, 1) := by decide +kernel
theorem pm_a89_38 : pm_as (pm_cd pm_mm89) 38 = some (.iconst (-1), 1) := by decide +kernel
theorem pm_a89_39 : pm_as (pm_cd pm_mm89) 39 = some (.ireturn, 1) := by decide +kernel
theorem pm_a90_0 : pm_as (pm_cd pm_mm90) 0 = some (.aload_n 0, 1) := by decide +kernel
theorem pm_a90_1 : pm_as (pm_cd pm_mm90) 1 = some (.iload_n 1, 1) := by decide +kernel
theorem pm_a90_2 : pm_as (pm_cd pm_mm90) 2 = some (.invokevirtual 86, 3) := by decide +kernel
theorem pm_a90_5 : pm_as (pm_cd pm_mm90) 5 = some (.astore_n 3, 1) := by decide +kernel
theorem pm_a90_6 : pm_as (pm_cd pm_mm90) 6 = some (.aload_n 3, 1) := by decide +kernel
theorem pm_a90_7 : pm_as (pm_cd pm_mm90) 7 = some (.ifnull 10, 3) := by decide +kernel
theorem pm_a90_10 : pm_as (pm_cd pm_mm90) 10 = some (.iload_n 2, 1) := by decide +kernel
theorem pm_a90_11 : pm_as (pm_cd pm_mm90) 11 = some (.invokestatic 114, 3) := by decide +kernel
theorem pm_a90_14 : pm_as (pm_cd pm_mm90) 14 = some (.ifCond .ne 7, 3) := by decide +kernel
theorem pm_a90_17 : pm_as (pm_cd pm_mm90) 17 = some (.iconst (-1), 1) := by decide +kernel
theorem pm_a90_18 : pm_as (pm_cd pm_mm90) 18 = some (.goto 12, 3) := by decide +kernel
theorem pm_a90_21 : pm_as (pm_cd pm_mm90) 21 = some (.aload_n 0, 1) := by decide +kernel
theorem pm_a90_22 : pm_as (pm_cd pm_mm90) 22 = some (.getfield 57, 3) := by decide +kernel
theorem pm_a90_25 : pm_as (pm_cd pm_mm90) 25 = some (.aload_n 3, 1) := by decide +kernel
theorem pm_a90_26 : pm_as (pm_cd pm_mm90) 26 = some (.iload_n 2, 1) := by decide +kernel
theorem pm_a90_27 : pm_as (pm_cd pm_mm90) 27 = some (.invokevirtual 136, 3) := by decide +kernel
theorem pm_a90_30 : pm_as (pm_cd pm_mm90) 30 = some (.ireturn, 1) := by decide +kernel
theorem pm_a91_0 : pm_as (pm_cd pm_mm91) 0 = some (.aload_n 0, 1) := by decide +kernel
theorem pm_a91_1 : pm_as (pm_cd pm_mm91) 1 = some (.iload_n 1, 1) := by decide +kernel
theorem pm_a91_2 : pm_as (pm_cd pm_mm91) 2 = some (.invokevirtual 86, 3) := by decide +kernel
theorem pm_a91_5 : pm_as (pm_cd pm_mm91) 5 = some (.astore_n 2, 1) := by decide +kernel
theorem pm_a91_6 : pm_as (pm_cd pm_mm91) 6 = some (.aload_n 2, 1) := by decide +kernel
theorem pm_a91_7 : pm_as (pm_cd pm_mm91) 7 = some (.ifnonnull 7, 3) := by decide +kernel
theorem pm_a91_10 : pm_as (pm_cd pm_mm91) 10 = some (.iconst (-1), 1) := by decide +kernel
theorem pm_a91_11 : pm_as (pm_cd pm_mm91) 11 = some (.goto 11, 3) := by decide +kernel
theorem pm_a91_14 : pm_as (pm_cd pm_mm91) 14 = some (.aload_n 0, 1) := by decide +kernel
theorem pm_a91_15 : pm_as (pm_cd pm_mm91) 15 = some (.getfield 57, 3) := by decide +kernel
theorem pm_a91_18 : pm_as (pm_cd pm_mm91) 18 = some (.aload_n 2, 1) := by decide +kernel
theorem pm_a91_19 : pm_as (pm_cd pm_mm91) 19 = some (.invokevirtual 139, 3) := by decide +kernel
theorem pm_a91_22 : pm_as (pm_cd pm_mm91) 22 = some (.ireturn, 1) := by decide +kernel
theorem pm_a92_0 : pm_as (pm_cd pm_mm92) 0 = some (.iconst 0, 1) := by decide +kernel
theorem pm_a92_1 : pm_as (pm_cd pm_mm92) 1 = some (.istore_n 2, 1) := by decide +kernel
theorem pm_a92_2 : pm_as (pm_cd pm_mm92) 2 = some (.iconst 0, 1) := by decide +kernel
theorem pm_a92_3 : pm_as (pm_cd pm_mm92) 3 = some (.istore_n 3, 1) := by decide +kernel
theorem pm_a92_4 : pm_as (pm_cd pm_mm92) 4 = some (.iload_n 3, 1) := by decide +kernel
theorem pm_a92_5 : pm_as (pm_cd pm_mm92) 5 = some (.aload_n 1, 1) := by decide +kernel
theorem pm_a92_6 : pm_as (pm_cd pm_mm92) 6 = some (.getfield 24, 3) := by decide +kernel
theorem pm_a92_9 : pm_as (pm_cd pm_mm92) 9 = some (.if_icmp .ge 21, 3) := by decide +kernel
theorem pm_a92_12 : pm_as (pm_cd pm_mm92) 12 = some (.aload_n 1, 1) := by decide +kernel
theorem pm_a92_13 : pm_as (pm_cd pm_mm92) 13 = some (.iload_n 3, 1) := by decide +kernel
theorem pm_a92_14 : pm_as (pm_cd pm_mm92) 14 = some (.invokestatic 28, 3) := by decide +kernel
theorem pm_a92_17 : pm_as (pm_cd pm_mm92) 17 = some (.iconst (-1), 1) := by decide +kernel
theorem pm_a92_18 : pm_as (pm_cd pm_mm92) 18 = some (.if_icmp .eq 6, 3) := by decide +kernel
theorem pm_a92_21 : pm_as (pm_cd pm_mm92) 21 = some (.iinc 2 1, 3) := by decide +kernel
theorem pm_a92_24 : pm_as (pm_cd pm_mm92) 24 = some (.iinc 3 1, 3) := by decide +kernel
theorem pm_a92_27 : pm_as (pm_cd pm_mm92) 27 = some (.goto (-23), 3) := by decide +kernel
theorem pm_a92_30 : pm_as (pm_cd pm_mm92) 30 = some (.iload_n 2, 1) := by decide +kernel
theorem pm_a92_31 : pm_as (pm_cd pm_mm92) 31 = some (.ireturn, 1) := by decide +kernel
theorem pm_a93_0 : pm_as (pm_cd pm_mm93) 0 = some (.aload_n 0, 1) := by decide +kernel
theorem pm_a93_1 : pm_as (pm_cd pm_mm93) 1 = some (.iload_n 1, 1) := by decide +kernel
theorem pm_a93_2 : pm_as (pm_cd pm_mm93) 2 = some (.invokevirtual 86, 3) := by decide +kernel
theorem pm_a93_5 : pm_as (pm_cd pm_mm93) 5 = some (.astore_n 2, 1) := by decide +kernel
theorem pm_a93_6 : pm_as (pm_cd pm_mm93) 6 = some (.aload_n 2, 1) := by decide +kernel
theorem pm_a93_7 : pm_as (pm_cd pm_mm93) 7 = some (.ifnonnull 5, 3) := by decide +kernel
theorem pm_a93_10 : pm_as (pm_cd pm_mm93) 10 = some (.iconst (-1), 1) := by decide +kernel
theorem pm_a93_11 : pm_as (pm_cd pm_mm93) 11 = some (.ireturn, 1) := by decide +kernel
theorem pm_a93_12 : pm_as (pm_cd pm_mm93) 12 = some (.aload_n 0, 1) := by decide +kernel
theorem pm_a93_13 : pm_as (pm_cd pm_mm93) 13 = some (.invokevirtual 68, 3) := by decide +kernel
theorem pm_a93_16 : pm_as (pm_cd pm_mm93) 16 = some (.astore_n 3, 1) := by decide +kernel
theorem pm_a93_17 : pm_as (pm_cd pm_mm93) 17 = some (.aload_n 3, 1) := by decide +kernel
theorem pm_a93_18 : pm_as (pm_cd pm_mm93) 18 = some (.ifnonnull 6, 3) := by decide +kernel
theorem pm_a93_21 : pm_as (pm_cd pm_mm93) 21 = some (.bipush (-3), 2) := by decide +kernel
theorem pm_a93_23 : pm_as (pm_cd pm_mm93) 23 = some (.ireturn, 1) := by decide +kernel
theorem pm_a93_24 : pm_as (pm_cd pm_mm93) 24 = some (.aload_n 0, 1) := by decide +kernel
theorem pm_a93_25 : pm_as (pm_cd pm_mm93) 25 = some (.getfield 142, 3) := by decide +kernel
theorem pm_a93_28 : pm_as (pm_cd pm_mm93) 28 = some (.ifnonnull 18, 3) := by decide +kernel
theorem pm_a93_31 : pm_as (pm_cd pm_mm93) 31 = some (.aload_n 0, 1) := by decide +kernel
theorem pm_a93_32 : pm_as (pm_cd pm_mm93) 32 = some (.new 146, 3) := by decide +kernel
theorem pm_a93_35 : pm_as (pm_cd pm_mm93) 35 = some (.dup, 1) := by decide +kernel
theorem pm_a93_36 : pm_as (pm_cd pm_mm93) 36 = some (.aload_n 0, 1) := by decide +kernel
theorem pm_a93_37 : pm_as (pm_cd pm_mm93) 37 = some (.getfield 32, 3) := by decide +kernel
theorem pm_a93_40 : pm_as (pm_cd pm_mm93) 40 = some (.invokespecial 148, 3) := by decide +kernel
theorem pm_a93_43 : pm_as (pm_cd pm_mm93) 43 = some (.putfield 142, 3) := by decide +kernel
theorem pm_a93_46 : pm_as (pm_cd pm_mm93) 46 = some (.aload_n 0, 1) := by decide +kernel
theorem pm_a93_47 : pm_as (pm_cd pm_mm93) 47 = some (.getfield 142, 3) := by decide +kernel
theorem pm_a93_50 : pm_as (pm_cd pm_mm93) 50 = some (.aload_n 2, 1) := by decide +kernel
theorem pm_a93_51 : pm_as (pm_cd pm_mm93) 51 = some (.aload_n 3, 1) := by decide +kernel
theorem pm_a93_52 : pm_as (pm_cd pm_mm93) 52 = some (.invokevirtual 149, 3) := by decide +kernel
theorem pm_a93_55 : pm_as (pm_cd pm_mm93) 55 = some (.ifCond .eq 10, 3) := by decide +kernel
theorem pm_a93_58 : pm_as (pm_cd pm_mm93) 58 = some (.aload_n 0, 1) := by decide +kernel
theorem pm_a93_59 : pm_as (pm_cd pm_mm93) 59 = some (.invokevirtual 79, 3) := by decide +kernel
theorem pm_a93_62 : pm_as (pm_cd pm_mm93) 62 = some (.goto 5, 3) := by decide +kernel
theorem pm_a93_65 : pm_as (pm_cd pm_mm93) 65 = some (.bipush (-3), 2) := by decide +kernel
theorem pm_a93_67 : pm_as (pm_cd pm_mm93) 67 = some (.ireturn, 1) := by decide +kernel
theorem pm_a94_0 : pm_as (pm_cd pm_mm94) 0 = some (.aload_n 0, 1) := by decide +kernel
theorem pm_a94_1 : pm_as (pm_cd pm_mm94) 1 = some (.invokespecial 3, 3) := by decide +kernel
theorem pm_a94_4 : pm_as (pm_cd pm_mm94) 4 = some (.aload_n 0, 1) := by decide +kernel
theorem pm_a94_5 : pm_as (pm_cd pm_mm94) 5 = some (.sipush 1500, 3) := by decide +kernel
theorem pm_a94_8 : pm_as (pm_cd pm_mm94) 8 = some (.newarray .int, 2) := by decide +kernel
theorem pm_a94_10 : pm_as (pm_cd pm_mm94) 10 = some (.putfield 11, 3) := by decide +kernel
theorem pm_a94_13 : pm_as (pm_cd pm_mm94) 13 = some (.aload_n 0, 1) := by decide +kernel
theorem pm_a94_14 : pm_as (pm_cd pm_mm94) 14 = some (.sipush 503, 3) := by decide +kernel
theorem pm_a94_17 : pm_as (pm_cd pm_mm94) 17 = some (.newarray .int, 2) := by decide +kernel
theorem pm_a94_19 : pm_as (pm_cd pm_mm94) 19 = some (.putfield 15, 3) := by decide +kernel
theorem pm_a94_22 : pm_as (pm_cd pm_mm94) 22 = some (.aload_n 0, 1) := by decide +kernel
theorem pm_a94_23 : pm_as (pm_cd pm_mm94) 23 = some (.new 18, 3) := by decide +kernel
theorem pm_a94_26 : pm_as (pm_cd pm_mm94) 26 = some (.dup, 1) := by decide +kernel
theorem pm_a94_27 : pm_as (pm_cd pm_mm94) 27 = some (.sipush 502, 3) := by decide +kernel
theorem pm_a94_30 : pm_as (pm_cd pm_mm94) 30 = some (.invokespecial 20, 3) := by decide +kernel
theorem pm_a94_33 : pm_as (pm_cd pm_mm94) 33 = some (.putfield 23, 3) := by decide +kernel
theorem pm_a94_36 : pm_as (pm_cd pm_mm94) 36 = some (.aload_n 0, 1) := by decide +kernel
theorem pm_a94_37 : pm_as (pm_cd pm_mm94) 37 = some (.new 18, 3) := by decide +kernel
theorem pm_a94_40 : pm_as (pm_cd pm_mm94) 40 = some (.dup, 1) := by decide +kernel
theorem pm_a94_41 : pm_as (pm_cd pm_mm94) 41 = some (.sipush 500, 3) := by decide +kernel
theorem pm_a94_44 : pm_as (pm_cd pm_mm94) 44 = some (.invokespecial 20, 3) := by decide +kernel
theorem pm_a94_47 : pm_as (pm_cd pm_mm94) 47 = some (.putfield 27, 3) := by decide +kernel
theorem pm_a94_50 : pm_as (pm_cd pm_mm94) 50 = some (.aload_n 0, 1) := by decide +kernel
theorem pm_a94_51 : pm_as (pm_cd pm_mm94) 51 = some (.aload_n 1, 1) := by decide +kernel
theorem pm_a94_52 : pm_as (pm_cd pm_mm94) 52 = some (.putfield 30, 3) := by decide +kernel
theorem pm_a94_55 : pm_as (pm_cd pm_mm94) 55 = some (.return_, 1) := by decide +kernel
theorem pm_a95_0 : pm_as (pm_cd pm_mm95) 0 = some (.aload_n 0, 1) := by decide +kernel
theorem pm_a95_1 : pm_as (pm_cd pm_mm95) 1 = some (.sipush 1500, 3) := by decide +kernel
theorem pm_a95_4 : pm_as (pm_cd pm_mm95) 4 = some (.putfield 34, 3) := by decide +kernel
theorem pm_a95_7 : pm_as (pm_cd pm_mm95) 7 = some (.iconst 1, 1) := by decide +kernel
theorem pm_a95_8 : pm_as (pm_cd pm_mm95) 8 = some (.istore_n 3, 1) := by decide +kernel
theorem pm_a95_9 : pm_as (pm_cd pm_mm95) 9 = some (.aload_n 1, 1) := by decide +kernel
theorem pm_a95_10 : pm_as (pm_cd pm_mm95) 10 = some (.getfield 38, 3) := by decide +kernel
theorem pm_a95_13 : pm_as (pm_cd pm_mm95) 13 = some (.iconst 1, 1) := by decide +kernel
theorem pm_a95_14 : pm_as (pm_cd pm_mm95) 14 = some (.isub, 1) := by decide +kernel
theorem pm_a95_15 : pm_as (pm_cd pm_mm95) 15 = some (.istore 4, 2) := by decide +kernel
theorem pm_a95_17 : pm_as (pm_cd pm_mm95) 17 = some (.iload 4, 2) := by decide +kernel
theorem pm_a95_19 : pm_as (pm_cd pm_mm95) 19 = some (.ifCond .lt 41, 3) := by decide +kernel
theorem pm_a95_22 : pm_as (pm_cd pm_mm95) 22 = some (.iload_n 3, 1) := by decide +kernel
theorem pm_a95_23 : pm_as (pm_cd pm_mm95) 23 = some (.ifCond .eq 37, 3) := by decide +kernel
theorem pm_a95_26 : pm_as (pm_cd pm_mm95) 26 = some (.aload_n 1, 1) := by decide +kernel
theorem pm_a95_27 : pm_as (pm_cd pm_mm95) 27 = some (.iload 4, 2) := by decide +kernel
theorem pm_a95_29 : pm_as (pm_cd pm_mm95) 29 = some (.invokevirtual 41, 3) := by decide +kernel
theorem pm_a95_32 : pm_as (pm_cd pm_mm95) 32 = some (.istore 5, 2) := by decide +kernel
theorem pm_a95_34 : pm_as (pm_cd pm_mm95) 34 = some (.iload 5, 2) := by decide +kernel
theorem pm_a95_36 : pm_as (pm_cd pm_mm95) 36 = some (.iconst 1, 1) := by decide +kernel
theorem pm_a95_37 : pm_as (pm_cd pm_mm95) 37 = some (.if_icmp .ne 10, 3) := by decide +kernel
theorem pm_a95_40 : pm_as (pm_cd pm_mm95) 40 = some (.aload_n 0, 1) := by decide +kernel
theorem pm_a95_41 : pm_as (pm_cd pm_mm95) 41 = some (.invokevirtual 45, 3) := by decide +kernel
theorem pm_a95_44 : pm_as (pm_cd pm_mm95) 44 = some (.goto 9, 3) := by decide +kernel
theorem pm_a95_47 : pm_as (pm_cd pm_mm95) 47 = some (.aload_n 0, 1) := by decide +kernel
theorem pm_a95_48 : pm_as (pm_cd pm_mm95) 48 = some (.iload 5, 2) := by decide +kernel
theorem pm_a95_50 : pm_as (pm_cd pm_mm95) 50 = some (.invokevirtual 49, 3) := by decide +kernel
theorem pm_a95_53 : pm_as (pm_cd pm_mm95) 53 = some (.istore_n 3, 1) := by decide +kernel
theorem pm_a95_54 : pm_as (pm_cd pm_mm95) 54 = some (.iinc 4 (-1), 3) := by decide +kernel
theorem pm_a95_57 : pm_as (pm_cd pm_mm95) 57 = some (.goto (-40), 3) := by decide +kernel
theorem pm_a95_60 : pm_as (pm_cd pm_mm95) 60 = some (.aload_n 0, 1) := by decide +kernel
theorem pm_a95_61 : pm_as (pm_cd pm_mm95) 61 = some (.getfield 34, 3) := by decide +kernel
theorem pm_a95_64 : pm_as (pm_cd pm_mm95) 64 = some (.istore 4, 2) := by decide +kernel
theorem pm_a95_66 : pm_as (pm_cd pm_mm95) 66 = some (.iload 4, 2) := by decide +kernel
theorem pm_a95_68 : pm_as (pm_cd pm_mm95) 68 = some (.sipush 1500, 3) := by decide +kernel
theorem pm_a95_71 : pm_as (pm_cd pm_mm95) 71 = some (.if_icmp .ge 30, 3) := by decide +kernel
theorem pm_a95_74 : pm_as (pm_cd pm_mm95) 74 = some (.iload_n 3, 1) := by decide +kernel
theorem pm_a95_75 : pm_as (pm_cd pm_mm95) 75 = some (.ifCond .eq 26, 3) := by decide +kernel
theorem pm_a95_78 : pm_as (pm_cd pm_mm95) 78 = some (.aload_n 2, 1) := by decide +kernel
theorem pm_a95_79 : pm_as (pm_cd pm_mm95) 79 = some (.getfield 53, 3) := by decide +kernel
theorem pm_a95_82 : pm_as (pm_cd pm_mm95) 82 = some (.ifCond .ne 19, 3) := by decide +kernel
theorem pm_a95_85 : pm_as (pm_cd pm_mm95) 85 = some (.aload_n 2, 1) := by decide +kernel
theorem pm_a95_86 : pm_as (pm_cd pm_mm95) 86 = some (.aload_n 0, 1) := by decide +kernel
theorem pm_a95_87 : pm_as (pm_cd pm_mm95) 87 = some (.iload 4, 2) := by decide +kernel
theorem pm_a95_89 : pm_as (pm_cd pm_mm95) 89 = some (.invokevirtual 57, 3) := by decide +kernel
theorem pm_a95_92 : pm_as (pm_cd pm_mm95) 92 = some (.invokevirtual 60, 3) := by decide +kernel
theorem pm_a95_95 : pm_as (pm_cd pm_mm95) 95 = some (.iinc 4 1, 3) := by decide +kernel
theorem pm_a95_98 : pm_as (pm_cd pm_mm95) 98 = some (.goto (-32), 3) := by decide +kernel
theorem pm_a95_101 : pm_as (pm_cd pm_mm95) 101 = some (.iload_n 3, 1) := by decide +kernel
theorem pm_a95_102 : pm_as (pm_cd pm_mm95) 102 = some (.ifCond .eq 14, 3) := by decide +kernel
theorem pm_a95_105 : pm_as (pm_cd pm_mm95) 105 = some (.aload_n 2, 1) := by decide +kernel
theorem pm_a95_106 : pm_as (pm_cd pm_mm95) 106 = some (.getfield 53, 3) := by decide +kernel
theorem pm_a95_109 : pm_as (pm_cd pm_mm95) 109 = some (.ifCond .ne 7, 3) := by decide +kernel
theorem pm_a95_112 : pm_as (pm_cd pm_mm95) 112 = some (.iconst 1, 1) := by decide +kernel
theorem pm_a95_113 : pm_as (pm_cd pm_mm95) 113 = some (.goto 4, 3) := by decide +kernel
theorem pm_a95_116 : pm_as (pm_cd pm_mm95) 116 = some (.iconst 0, 1) := by decide +kernel
theorem pm_a95_117 : pm_as (pm_cd pm_mm95) 117 = some (.ireturn, 1) := by decide +kernel
theorem pm_a96_0 : pm_as (pm_cd pm_mm96) 0 = some (.aload_n 0, 1) := by decide +kernel
theorem pm_a96_1 : pm_as (pm_cd pm_mm96) 1 = some (.invokevirtual 63, 3) := by decide +kernel
theorem pm_a96_4 : pm_as (pm_cd pm_mm96) 4 = some (.aload_n 0, 1) := by decide +kernel
theorem pm_a96_5 : pm_as (pm_cd pm_mm96) 5 = some (.getfield 23, 3) := by decide +kernel
theorem pm_a96_8 : pm_as (pm_cd pm_mm96) 8 = some (.getfield 53, 3) := by decide +kernel
theorem pm_a96_11 : pm_as (pm_cd pm_mm96) 11 = some (.ifCond .eq 5, 3) := by decide +kernel
theorem pm_a96_14 : pm_as (pm_cd pm_mm96) 14 = some (.iconst 0, 1) := by decide +kernel
theorem pm_a96_15 : pm_as (pm_cd pm_mm96) 15 = some (.ireturn, 1) := by decide +kernel
theorem pm_a96_16 : pm_as (pm_cd pm_mm96) 16 = some (.aload_n 0, 1) := by decide +kernel
theorem pm_a96_17 : pm_as (pm_cd pm_mm96) 17 = some (.getfield 30, 3) := by decide +kernel
theorem pm_a96_20 : pm_as (pm_cd pm_mm96) 20 = some (.aload_n 0, 1) := by decide +kernel
theorem pm_a96_21 : pm_as (pm_cd pm_mm96) 21 = some (.getfield 23, 3) := by decide +kernel
theorem pm_a96_24 : pm_as (pm_cd pm_mm96) 24 = some (.iconst 0, 1) := by decide +kernel
theorem pm_a96_25 : pm_as (pm_cd pm_mm96) 25 = some (.aload_n 0, 1) := by decide +kernel
theorem pm_a96_26 : pm_as (pm_cd pm_mm96) 26 = some (.getfield 23, 3) := by decide +kernel
theorem pm_a96_29 : pm_as (pm_cd pm_mm96) 29 = some (.getfield 38, 3) := by decide +kernel
theorem pm_a96_32 : pm_as (pm_cd pm_mm96) 32 = some (.invokevirtual 66, 3) := by decide +kernel
theorem pm_a96_35 : pm_as (pm_cd pm_mm96) 35 = some (.aload_n 0, 1) := by decide +kernel
theorem pm_a96_36 : pm_as (pm_cd pm_mm96) 36 = some (.invokevirtual 72, 3) := by decide +kernel
theorem pm_a96_39 : pm_as (pm_cd pm_mm96) 39 = some (.aload_n 0, 1) := by decide +kernel
theorem pm_a96_40 : pm_as (pm_cd pm_mm96) 40 = some (.invokevirtual 75, 3) := by decide +kernel
theorem pm_a96_43 : pm_as (pm_cd pm_mm96) 43 = some (.aload_n 0, 1) := by decide +kernel
theorem pm_a96_44 : pm_as (pm_cd pm_mm96) 44 = some (.getfield 27, 3) := by decide +kernel
theorem pm_a96_47 : pm_as (pm_cd pm_mm96) 47 = some (.getfield 53, 3) := by decide +kernel
theorem pm_a96_50 : pm_as (pm_cd pm_mm96) 50 = some (.ifCond .ne 7, 3) := by decide +kernel
theorem pm_a96_53 : pm_as (pm_cd pm_mm96) 53 = some (.iconst 1, 1) := by decide +kernel
theorem pm_a96_54 : pm_as (pm_cd pm_mm96) 54 = some (.goto 4, 3) := by decide +kernel
theorem pm_a96_57 : pm_as (pm_cd pm_mm96) 57 = some (.iconst 0, 1) := by decide +kernel
theorem pm_a96_58 : pm_as (pm_cd pm_mm96) 58 = some (.istore_n 1, 1) := by decide +kernel
theorem pm_a96_59 : pm_as (pm_cd pm_mm96) 59 = some (.aload_n 0, 1) := by decide +kernel
theorem pm_a96_60 : pm_as (pm_cd pm_mm96) 60 = some (.getfield 27, 3) := by decide +kernel
theorem pm_a96_63 : pm_as (pm_cd pm_mm96) 63 = some (.getfield 38, 3) := by decide +kernel
theorem pm_a96_66 : pm_as (pm_cd pm_mm96) 66 = some (.iconst 1, 1) := by decide +kernel
theorem pm_a96_67 : pm_as (pm_cd pm_mm96) 67 = some (.isub, 1) := by decide +kernel
theorem pm_a96_68 : pm_as (pm_cd pm_mm96) 68 = some (.istore_n 2, 1) := by decide +kernel
theorem pm_a96_69 : pm_as (pm_cd pm_mm96) 69 = some (.iload_n 2, 1) := by decide +kernel
theorem pm_a96_70 : pm_as (pm_cd pm_mm96) 70 = some (.ifCond .lt 26, 3) := by decide +kernel
theorem pm_a96_73 : pm_as (pm_cd pm_mm96) 73 = some (.iload_n 1, 1) := by decide +kernel
theorem pm_a96_74 : pm_as (pm_cd pm_mm96) 74 = some (.ifCond .eq 22, 3) := by decide +kernel
theorem pm_a96_77 : pm_as (pm_cd pm_mm96) 77 = some (.aload_n 0, 1) := by decide +kernel
theorem pm_a96_78 : pm_as (pm_cd pm_mm96) 78 = some (.aload_n 0, 1) := by decide +kernel
theorem pm_a96_79 : pm_as (pm_cd pm_mm96) 79 = some (.getfield 27, 3) := by decide +kernel
theorem pm_a96_82 : pm_as (pm_cd pm_mm96) 82 = some (.iload_n 2, 1) := by decide +kernel
theorem pm_a96_83 : pm_as (pm_cd pm_mm96) 83 = some (.invokevirtual 41, 3) := by decide +kernel
theorem pm_a96_86 : pm_as (pm_cd pm_mm96) 86 = some (.invokevirtual 49, 3) := by decide +kernel
theorem pm_a96_89 : pm_as (pm_cd pm_mm96) 89 = some (.istore_n 1, 1) := by decide +kernel
theorem pm_a96_90 : pm_as (pm_cd pm_mm96) 90 = some (.iinc 2 (-1), 3) := by decide +kernel
theorem pm_a96_93 : pm_as (pm_cd pm_mm96) 93 = some (.goto (-24), 3) := by decide +kernel
theorem pm_a96_96 : pm_as (pm_cd pm_mm96) 96 = some (.iload_n 1, 1) := by decide +kernel
theorem pm_a96_97 : pm_as (pm_cd pm_mm96) 97 = some (.ireturn, 1) := by decide +kernel
theorem pm_a97_0 : pm_as (pm_cd pm_mm97) 0 = some (.aload_n 0, 1) := by decide +kernel
theorem pm_a97_1 : pm_as (pm_cd pm_mm97) 1 = some (.getfield 23, 3) := by decide +kernel
theorem pm_a97_4 : pm_as (pm_cd pm_mm97) 4 = some (.invokevirtual 78, 3) := by decide +kernel
theorem pm_a97_7 : pm_as (pm_cd pm_mm97) 7 = some (.iconst 1, 1) := by decide +kernel
theorem pm_a97_8 : pm_as (pm_cd pm_mm97) 8 = some (.istore_n 1, 1) := by decide +kernel
theorem pm_a97_9 : pm_as (pm_cd pm_mm97) 9 = some (.iload_n 1, 1) := by decide +kernel
theorem pm_a97_10 : pm_as (pm_cd pm_mm97) 10 = some (.ifCond .le 65, 3) := by decide +kernel
theorem pm_a97_13 : pm_as (pm_cd pm_mm97) 13 = some (.aload_n 0, 1) := by decide +kernel
theorem pm_a97_14 : pm_as (pm_cd pm_mm97) 14 = some (.getfield 34, 3) := by decide +kernel
theorem pm_a97_17 : pm_as (pm_cd pm_mm97) 17 = some (.sipush 1500, 3) := by decide +kernel
theorem pm_a97_20 : pm_as (pm_cd pm_mm97) 20 = some (.if_icmp .ge 55, 3) := by decide +kernel
theorem pm_a97_23 : pm_as (pm_cd pm_mm97) 23 = some (.aload_n 0, 1) := by decide +kernel
theorem pm_a97_24 : pm_as (pm_cd pm_mm97) 24 = some (.getfield 23, 3) := by decide +kernel
theorem pm_a97_27 : pm_as (pm_cd pm_mm97) 27 = some (.getfield 53, 3) := by decide +kernel
theorem pm_a97_30 : pm_as (pm_cd pm_mm97) 30 = some (.ifCond .ne 45, 3) := by decide +kernel
theorem pm_a97_33 : pm_as (pm_cd pm_mm97) 33 = some (.aload_n 0, 1) := by decide +kernel
theorem pm_a97_34 : pm_as (pm_cd pm_mm97) 34 = some (.aload_n 0, 1) := by decide +kernel
theorem pm_a97_35 : pm_as (pm_cd pm_mm97) 35 = some (.getfield 34, 3) := by decide +kernel
theorem pm_a97_38 : pm_as (pm_cd pm_mm97) 38 = some (.invokevirtual 57, 3) := by decide +kernel
theorem pm_a97_41 : pm_as (pm_cd pm_mm97) 41 = some (.istore_n 2, 1) := by decide +kernel
theorem pm_a97_42 : pm_as (pm_cd pm_mm97) 42 = some (.iload_n 1, 1) := by decide +kernel
theorem pm_a97_43 : pm_as (pm_cd pm_mm97) 43 = some (.iload_n 2, 1) := by decide +kernel
theorem pm_a97_44 : pm_as (pm_cd pm_mm97) 44 = some (.ifCond .ne 7, 3) := by decide +kernel
theorem pm_a97_47 : pm_as (pm_cd pm_mm97) 47 = some (.iconst 1, 1) := by decide +kernel
theorem pm_a97_48 : pm_as (pm_cd pm_mm97) 48 = some (.goto 4, 3) := by decide +kernel
theorem pm_a97_51 : pm_as (pm_cd pm_mm97) 51 = some (.iconst (-1), 1) := by decide +kernel
theorem pm_a97_52 : pm_as (pm_cd pm_mm97) 52 = some (.iadd, 1) := by decide +kernel
theorem pm_a97_53 : pm_as (pm_cd pm_mm97) 53 = some (.istore_n 1, 1) := by decide +kernel
theorem pm_a97_54 : pm_as (pm_cd pm_mm97) 54 = some (.aload_n 0, 1) := by decide +kernel
theorem pm_a97_55 : pm_as (pm_cd pm_mm97) 55 = some (.getfield 23, 3) := by decide +kernel
theorem pm_a97_58 : pm_as (pm_cd pm_mm97) 58 = some (.iload_n 2, 1) := by decide +kernel
theorem pm_a97_59 : pm_as (pm_cd pm_mm97) 59 = some (.invokevirtual 60, 3) := by decide +kernel
theorem pm_a97_62 : pm_as (pm_cd pm_mm97) 62 = some (.aload_n 0, 1) := by decide +kernel
theorem pm_a97_63 : pm_as (pm_cd pm_mm97) 63 = some (.dup, 1) := by decide +kernel
theorem pm_a97_64 : pm_as (pm_cd pm_mm97) 64 = some (.getfield 34, 3) := by decide +kernel
theorem pm_a97_67 : pm_as (pm_cd pm_mm97) 67 = some (.iconst 1, 1) := by decide +kernel
theorem pm_a97_68 : pm_as (pm_cd pm_mm97) 68 = some (.iadd, 1) := by decide +kernel
theorem pm_a97_69 : pm_as (pm_cd pm_mm97) 69 = some (.putfield 34, 3) := by decide +kernel
theorem pm_a97_72 : pm_as (pm_cd pm_mm97) 72 = some (.goto (-63), 3) := by decide +kernel
theorem pm_a97_75 : pm_as (pm_cd pm_mm97) 75 = some (.return_, 1) := by decide +kernel
theorem pm_a98_0 : pm_as (pm_cd pm_mm98) 0 = some (.iload_n 1, 1) := by decide +kernel
theorem pm_a98_1 : pm_as (pm_cd pm_mm98) 1 = some (.ifCond .lt 21, 3) := by decide +kernel
theorem pm_a98_4 : pm_as (pm_cd pm_mm98) 4 = some (.iload_n 1, 1) := by decide +kernel
theorem pm_a98_5 : pm_as (pm_cd pm_mm98) 5 = some (.aload_n 0, 1) := by decide +kernel
theorem pm_a98_6 : pm_as (pm_cd pm_mm98) 6 = some (.getfield 11, 3) := by decide +kernel
theorem pm_a98_9 : pm_as (pm_cd pm_mm98) 9 = some (.arraylength, 1) := by decide +kernel
theorem pm_a98_10 : pm_as (pm_cd pm_mm98) 10 = some (.if_icmp .ge 12, 3) := by decide +kernel
theorem pm_a98_13 : pm_as (pm_cd pm_mm98) 13 = some (.aload_n 0, 1) := by decide +kernel
theorem pm_a98_14 : pm_as (pm_cd pm_mm98) 14 = some (.getfield 11, 3) := by decide +kernel
theorem pm_a98_17 : pm_as (pm_cd pm_mm98) 17 = some (.iload_n 1, 1) := by decide +kernel
theorem pm_a98_18 : pm_as (pm_cd pm_mm98) 18 = some (.iaload, 1) := by decide +kernel
theorem pm_a98_19 : pm_as (pm_cd pm_mm98) 19 = some (.goto 4, 3) := by decide +kernel
theorem pm_a98_22 : pm_as (pm_cd pm_mm98) 22 = some (.iconst (-1), 1) := by decide +kernel
theorem pm_a98_23 : pm_as (pm_cd pm_mm98) 23 = some (.ireturn, 1) := by decide +kernel
theorem pm_a99_0 : pm_as (pm_cd pm_mm99) 0 = some (.iconst 0, 1) := by decide +kernel
theorem pm_a99_1 : pm_as (pm_cd pm_mm99) 1 = some (.istore_n 1, 1) := by decide +kernel
theorem pm_a99_2 : pm_as (pm_cd pm_mm99) 2 = some (.iconst 0, 1) := by decide +kernel
theorem pm_a99_3 : pm_as (pm_cd pm_mm99) 3 = some (.istore_n 2, 1) := by decide +kernel
theorem pm_a99_4 : pm_as (pm_cd pm_mm99) 4 = some (.iload_n 2, 1) := by decide +kernel
theorem pm_a99_5 : pm_as (pm_cd pm_mm99) 5 = some (.aload_n 0, 1) := by decide +kernel
theorem pm_a99_6 : pm_as (pm_cd pm_mm99) 6 = some (.getfield 23, 3) := by decide +kernel
theorem pm_a99_9 : pm_as (pm_cd pm_mm99) 9 = some (.getfield 38, 3) := by decide +kernel
theorem pm_a99_12 : pm_as (pm_cd pm_mm99) 12 = some (.if_icmp .ge 57, 3) := by decide +kernel
theorem pm_a99_15 : pm_as (pm_cd pm_mm99) 15 = some (.iload_n 2, 1) := by decide +kernel
theorem pm_a99_16 : pm_as (pm_cd pm_mm99) 16 = some (.iconst 1, 1) := by decide +kernel
theorem pm_a99_17 : pm_as (pm_cd pm_mm99) 17 = some (.iadd, 1) := by decide +kernel
theorem pm_a99_18 : pm_as (pm_cd pm_mm99) 18 = some (.aload_n 0, 1) := by decide +kernel
theorem pm_a99_19 : pm_as (pm_cd pm_mm99) 19 = some (.getfield 15, 3) := by decide +kernel
theorem pm_a99_22 : pm_as (pm_cd pm_mm99) 22 = some (.arraylength, 1) := by decide +kernel
theorem pm_a99_23 : pm_as (pm_cd pm_mm99) 23 = some (.if_icmp .ge 46, 3) := by decide +kernel
theorem pm_a99_26 : pm_as (pm_cd pm_mm99) 26 = some (.aload_n 0, 1) := by decide +kernel
theorem pm_a99_27 : pm_as (pm_cd pm_mm99) 27 = some (.getfield 15, 3) := by decide +kernel
theorem pm_a99_30 : pm_as (pm_cd pm_mm99) 30 = some (.iload_n 2, 1) := by decide +kernel
theorem pm_a99_31 : pm_as (pm_cd pm_mm99) 31 = some (.iload_n 1, 1) := by decide +kernel
theorem pm_a99_32 : pm_as (pm_cd pm_mm99) 32 = some (.iastore, 1) := by decide +kernel
theorem pm_a99_33 : pm_as (pm_cd pm_mm99) 33 = some (.iload_n 1, 1) := by decide +kernel
theorem pm_a99_34 : pm_as (pm_cd pm_mm99) 34 = some (.aload_n 0, 1) := by decide +kernel
theorem pm_a99_35 : pm_as (pm_cd pm_mm99) 35 = some (.getfield 23, 3) := by decide +kernel
theorem pm_a99_38 : pm_as (pm_cd pm_mm99) 38 = some (.iload_n 2, 1) := by decide +kernel
theorem pm_a99_39 : pm_as (pm_cd pm_mm99) 39 = some (.invokevirtual 41, 3) := by decide +kernel
theorem pm_a99_42 : pm_as (pm_cd pm_mm99) 42 = some (.bipush 10, 2) := by decide +kernel
theorem pm_a99_44 : pm_as (pm_cd pm_mm99) 44 = some (.if_icmp .ne 7, 3) := by decide +kernel
theorem pm_a99_47 : pm_as (pm_cd pm_mm99) 47 = some (.iconst 1, 1) := by decide +kernel
theorem pm_a99_48 : pm_as (pm_cd pm_mm99) 48 = some (.goto 4, 3) := by decide +kernel
theorem pm_a99_51 : pm_as (pm_cd pm_mm99) 51 = some (.iconst 0, 1) := by decide +kernel
theorem pm_a99_52 : pm_as (pm_cd pm_mm99) 52 = some (.iadd, 1) := by decide +kernel
theorem pm_a99_53 : pm_as (pm_cd pm_mm99) 53 = some (.istore_n 1, 1) := by decide +kernel
theorem pm_a99_54 : pm_as (pm_cd pm_mm99) 54 = some (.aload_n 0, 1) := by decide +kernel
theorem pm_a99_55 : pm_as (pm_cd pm_mm99) 55 = some (.getfield 15, 3) := by decide +kernel
theorem pm_a99_58 : pm_as (pm_cd pm_mm99) 58 = some (.iload_n 2, 1) := by decide +kernel
theorem pm_a99_59 : pm_as (pm_cd pm_mm99) 59 = some (.iconst 1, 1) := by decide +kernel
theorem pm_a99_60 : pm_as (pm_cd pm_mm99) 60 = some (.iadd, 1) := by decide +kernel
theorem pm_a99_61 : pm_as (pm_cd pm_mm99) 61 = some (.iload_n 1, 1) := by decide +kernel
theorem pm_a99_62 : pm_as (pm_cd pm_mm99) 62 = some (.iastore, 1) := by decide +kernel
theorem pm_a99_63 : pm_as (pm_cd pm_mm99) 63 = some (.iinc 2 1, 3) := by decide +kernel
theorem pm_a99_66 : pm_as (pm_cd pm_mm99) 66 = some (.goto (-62), 3) := by decide +kernel
theorem pm_a99_69 : pm_as (pm_cd pm_mm99) 69 = some (.return_, 1) := by decide +kernel
theorem pm_a100_0 : pm_as (pm_cd pm_mm100) 0 = some (.aload_n 0, 1) := by decide +kernel
theorem pm_a100_1 : pm_as (pm_cd pm_mm100) 1 = some (.getfield 27, 3) := by decide +kernel
theorem pm_a100_4 : pm_as (pm_cd pm_mm100) 4 = some (.invokevirtual 78, 3) := by decide +kernel
theorem pm_a100_7 : pm_as (pm_cd pm_mm100) 7 = some (.iconst 0, 1) := by decide +kernel
theorem pm_a100_8 : pm_as (pm_cd pm_mm100) 8 = some (.istore_n 1, 1) := by decide +kernel
theorem pm_a100_9 : pm_as (pm_cd pm_mm100) 9 = some (.iload_n 1, 1) := by decide +kernel
theorem pm_a100_10 : pm_as (pm_cd pm_mm100) 10 = some (.aload_n 0, 1) := by decide +kernel
theorem pm_a100_11 : pm_as (pm_cd pm_mm100) 11 = some (.getfield 23, 3) := by decide +kernel
theorem pm_a100_14 : pm_as (pm_cd pm_mm100) 14 = some (.getfield 38, 3) := by decide +kernel
theorem pm_a100_17 : pm_as (pm_cd pm_mm100) 17 = some (.if_icmp .ge 174, 3) := by decide +kernel
theorem pm_a100_20 : pm_as (pm_cd pm_mm100) 20 = some (.aload_n 0, 1) := by decide +kernel
theorem pm_a100_21 : pm_as (pm_cd pm_mm100) 21 = some (.getfield 27, 3) := by decide +kernel
theorem pm_a100_24 : pm_as (pm_cd pm_mm100) 24 = some (.getfield 53, 3) := by decide +kernel
theorem pm_a100_27 : pm_as (pm_cd pm_mm100) 27 = some (.ifCond .ne 164, 3) := by decide +kernel
theorem pm_a100_30 : pm_as (pm_cd pm_mm100) 30 = some (.aload_n 0, 1) := by decide +kernel
theorem pm_a100_31 : pm_as (pm_cd pm_mm100) 31 = some (.getfield 30, 3) := by decide +kernel
theorem pm_a100_34 : pm_as (pm_cd pm_mm100) 34 = some (.iload_n 1, 1) := by decide +kernel
theorem pm_a100_35 : pm_as (pm_cd pm_mm100) 35 = some (.invokevirtual 81, 3) := by decide +kernel
theorem pm_a100_38 : pm_as (pm_cd pm_mm100) 38 = some (.iload_n 1, 1) := by decide +kernel
theorem pm_a100_39 : pm_as (pm_cd pm_mm100) 39 = some (.iconst 1, 1) := by decide +kernel
theorem pm_a100_40 : pm_as (pm_cd pm_mm100) 40 = some (.iadd, 1) := by decide +kernel
theorem pm_a100_41 : pm_as (pm_cd pm_mm100) 41 = some (.invokestatic 84, 3) := by decide +kernel
theorem pm_a100_44 : pm_as (pm_cd pm_mm100) 44 = some (.istore_n 2, 1) := by decide +kernel
theorem pm_a100_45 : pm_as (pm_cd pm_mm100) 45 = some (.aload_n 0, 1) := by decide +kernel
theorem pm_a100_46 : pm_as (pm_cd pm_mm100) 46 = some (.iload_n 1, 1) := by decide +kernel
theorem pm_a100_47 : pm_as (pm_cd pm_mm100) 47 = some (.iload_n 2, 1) := by decide +kernel
theorem pm_a100_48 : pm_as (pm_cd pm_mm100) 48 = some (.invokevirtual 90, 3) := by decide +kernel
theorem pm_a100_51 : pm_as (pm_cd pm_mm100) 51 = some (.ifCond .ne 28, 3) := by decide +kernel
theorem pm_a100_54 : pm_as (pm_cd pm_mm100) 54 = some (.aload_n 0, 1) := by decide +kernel
theorem pm_a100_55 : pm_as (pm_cd pm_mm100) 55 = some (.getfield 27, 3) := by decide +kernel
theorem pm_a100_58 : pm_as (pm_cd pm_mm100) 58 = some (.iconst 0, 1) := by decide +kernel
theorem pm_a100_59 : pm_as (pm_cd pm_mm100) 59 = some (.invokevirtual 60, 3) := by decide +kernel
theorem pm_a100_62 : pm_as (pm_cd pm_mm100) 62 = some (.aload_n 0, 1) := by decide +kernel
theorem pm_a100_63 : pm_as (pm_cd pm_mm100) 63 = some (.getfield 27, 3) := by decide +kernel
theorem pm_a100_66 : pm_as (pm_cd pm_mm100) 66 = some (.iconst 3, 1) := by decide +kernel
theorem pm_a100_67 : pm_as (pm_cd pm_mm100) 67 = some (.invokevirtual 60, 3) := by decide +kernel
theorem pm_a100_70 : pm_as (pm_cd pm_mm100) 70 = some (.aload_n 0, 1) := by decide +kernel
theorem pm_a100_71 : pm_as (pm_cd pm_mm100) 71 = some (.iload_n 1, 1) := by decide +kernel
theorem pm_a100_72 : pm_as (pm_cd pm_mm100) 72 = some (.iload_n 2, 1) := by decide +kernel
theorem pm_a100_73 : pm_as (pm_cd pm_mm100) 73 = some (.invokevirtual 94, 3) := by decide +kernel
theorem pm_a100_76 : pm_as (pm_cd pm_mm100) 76 = some (.goto 110, 3) := by decide +kernel
theorem pm_a100_79 : pm_as (pm_cd pm_mm100) 79 = some (.aload_n 0, 1) := by decide +kernel
theorem pm_a100_80 : pm_as (pm_cd pm_mm100) 80 = some (.getfield 23, 3) := by decide +kernel
theorem pm_a100_83 : pm_as (pm_cd pm_mm100) 83 = some (.iload_n 1, 1) := by decide +kernel
theorem pm_a100_84 : pm_as (pm_cd pm_mm100) 84 = some (.invokevirtual 41, 3) := by decide +kernel
theorem pm_a100_87 : pm_as (pm_cd pm_mm100) 87 = some (.ifCond .eq 14, 3) := by decide +kernel
theorem pm_a100_90 : pm_as (pm_cd pm_mm100) 90 = some (.aload_n 0, 1) := by decide +kernel
theorem pm_a100_91 : pm_as (pm_cd pm_mm100) 91 = some (.getfield 27, 3) := by decide +kernel
theorem pm_a100_94 : pm_as (pm_cd pm_mm100) 94 = some (.iconst 4, 1) := by decide +kernel
theorem pm_a100_95 : pm_as (pm_cd pm_mm100) 95 = some (.invokevirtual 60, 3) := by decide +kernel
theorem pm_a100_98 : pm_as (pm_cd pm_mm100) 98 = some (.goto 88, 3) := by decide +kernel
theorem pm_a100_101 : pm_as (pm_cd pm_mm100) 101 = some (.aload_n 0, 1) := by decide +kernel
theorem pm_a100_102 : pm_as (pm_cd pm_mm100) 102 = some (.getfield 23, 3) := by decide +kernel
theorem pm_a100_105 : pm_as (pm_cd pm_mm100) 105 = some (.iload_n 2, 1) := by decide +kernel
theorem pm_a100_106 : pm_as (pm_cd pm_mm100) 106 = some (.iconst 1, 1) := by decide +kernel
theorem pm_a100_107 : pm_as (pm_cd pm_mm100) 107 = some (.isub, 1) := by decide +kernel
theorem pm_a100_108 : pm_as (pm_cd pm_mm100) 108 = some (.invokevirtual 41, 3) := by decide +kernel
theorem pm_a100_111 : pm_as (pm_cd pm_mm100) 111 = some (.bipush 10, 2) := by decide +kernel
theorem pm_a100_113 : pm_as (pm_cd pm_mm100) 113 = some (.if_icmp .ne 45, 3) := by decide +kernel
theorem pm_a100_116 : pm_as (pm_cd pm_mm100) 116 = some (.aload_n 0, 1) := by decide +kernel
theorem pm_a100_117 : pm_as (pm_cd pm_mm100) 117 = some (.getfield 30, 3) := by decide +kernel
theorem pm_a100_120 : pm_as (pm_cd pm_mm100) 120 = some (.iload_n 1, 1) := by decide +kernel
theorem pm_a100_121 : pm_as (pm_cd pm_mm100) 121 = some (.iconst 1, 1) := by decide +kernel
theorem pm_a100_122 : pm_as (pm_cd pm_mm100) 122 = some (.iadd, 1) := by decide +kernel
theorem pm_a100_123 : pm_as (pm_cd pm_mm100) 123 = some (.invokevirtual 81, 3) := by decide +kernel
theorem pm_a100_126 : pm_as (pm_cd pm_mm100) 126 = some (.iload_n 2, 1) := by decide +kernel
theorem pm_a100_127 : pm_as (pm_cd pm_mm100) 127 = some (.iconst 1, 1) := by decide +kernel
theorem pm_a100_128 : pm_as (pm_cd pm_mm100) 128 = some (.isub, 1) := by decide +kernel
theorem pm_a100_129 : pm_as (pm_cd pm_mm100) 129 = some (.if_icmp .ne 29, 3) := by decide +kernel
theorem pm_a100_132 : pm_as (pm_cd pm_mm100) 132 = some (.aload_n 0, 1) := by decide +kernel
theorem pm_a100_133 : pm_as (pm_cd pm_mm100) 133 = some (.iload_n 1, 1) := by decide +kernel
theorem pm_a100_134 : pm_as (pm_cd pm_mm100) 134 = some (.iconst 1, 1) := by decide +kernel
theorem pm_a100_135 : pm_as (pm_cd pm_mm100) 135 = some (.iadd, 1) := by decide +kernel
theorem pm_a100_136 : pm_as (pm_cd pm_mm100) 136 = some (.iload_n 2, 1) := by decide +kernel
theorem pm_a100_137 : pm_as (pm_cd pm_mm100) 137 = some (.iconst 1, 1) := by decide +kernel
theorem pm_a100_138 : pm_as (pm_cd pm_mm100) 138 = some (.isub, 1) := by decide +kernel
theorem pm_a100_139 : pm_as (pm_cd pm_mm100) 139 = some (.invokevirtual 90, 3) := by decide +kernel
theorem pm_a100_142 : pm_as (pm_cd pm_mm100) 142 = some (.ifCond .ne 16, 3) := by decide +kernel
theorem pm_a100_145 : pm_as (pm_cd pm_mm100) 145 = some (.aload_n 0, 1) := by decide +kernel
theorem pm_a100_146 : pm_as (pm_cd pm_mm100) 146 = some (.iload_n 1, 1) := by decide +kernel
theorem pm_a100_147 : pm_as (pm_cd pm_mm100) 147 = some (.iconst 1, 1) := by decide +kernel
theorem pm_a100_148 : pm_as (pm_cd pm_mm100) 148 = some (.iadd, 1) := by decide +kernel
theorem pm_a100_149 : pm_as (pm_cd pm_mm100) 149 = some (.iload_n 2, 1) := by decide +kernel
theorem pm_a100_150 : pm_as (pm_cd pm_mm100) 150 = some (.iconst 1, 1) := by decide +kernel
theorem pm_a100_151 : pm_as (pm_cd pm_mm100) 151 = some (.isub, 1) := by decide +kernel
theorem pm_a100_152 : pm_as (pm_cd pm_mm100) 152 = some (.invokevirtual 94, 3) := by decide +kernel
theorem pm_a100_155 : pm_as (pm_cd pm_mm100) 155 = some (.goto 31, 3) := by decide +kernel
theorem pm_a100_158 : pm_as (pm_cd pm_mm100) 158 = some (.aload_n 0, 1) := by decide +kernel
theorem pm_a100_159 : pm_as (pm_cd pm_mm100) 159 = some (.getfield 27, 3) := by decide +kernel
theorem pm_a100_162 : pm_as (pm_cd pm_mm100) 162 = some (.iconst 0, 1) := by decide +kernel
theorem pm_a100_163 : pm_as (pm_cd pm_mm100) 163 = some (.invokevirtual 60, 3) := by decide +kernel
theorem pm_a100_166 : pm_as (pm_cd pm_mm100) 166 = some (.aload_n 0, 1) := by decide +kernel
theorem pm_a100_167 : pm_as (pm_cd pm_mm100) 167 = some (.getfield 27, 3) := by decide +kernel
theorem pm_a100_170 : pm_as (pm_cd pm_mm100) 170 = some (.iconst 0, 1) := by decide +kernel
theorem pm_a100_171 : pm_as (pm_cd pm_mm100) 171 = some (.invokevirtual 60, 3) := by decide +kernel
theorem pm_a100_174 : pm_as (pm_cd pm_mm100) 174 = some (.aload_n 0, 1) := by decide +kernel
theorem pm_a100_175 : pm_as (pm_cd pm_mm100) 175 = some (.getfield 27, 3) := by decide +kernel
theorem pm_a100_178 : pm_as (pm_cd pm_mm100) 178 = some (.iconst 2, 1) := by decide +kernel
theorem pm_a100_179 : pm_as (pm_cd pm_mm100) 179 = some (.invokevirtual 60, 3) := by decide +kernel
theorem pm_a100_182 : pm_as (pm_cd pm_mm100) 182 = some (.iload_n 1, 1) := by decide +kernel
theorem pm_a100_183 : pm_as (pm_cd pm_mm100) 183 = some (.iconst 1, 1) := by decide +kernel
theorem pm_a100_184 : pm_as (pm_cd pm_mm100) 184 = some (.iadd, 1) := by decide +kernel
theorem pm_a100_185 : pm_as (pm_cd pm_mm100) 185 = some (.istore_n 2, 1) := by decide +kernel
theorem pm_a100_186 : pm_as (pm_cd pm_mm100) 186 = some (.iload_n 2, 1) := by decide +kernel
theorem pm_a100_187 : pm_as (pm_cd pm_mm100) 187 = some (.istore_n 1, 1) := by decide +kernel
theorem pm_a100_188 : pm_as (pm_cd pm_mm100) 188 = some (.goto (-179), 3) := by decide +kernel
theorem pm_a100_191 : pm_as (pm_cd pm_mm100) 191 = some (.return_, 1) := by decide +kernel
theorem pm_a101_0 : pm_as (pm_cd pm_mm101) 0 = some (.iload_n 1, 1) := by decide +kernel
theorem pm_a101_1 : pm_as (pm_cd pm_mm101) 1 = some (.ifCond .lt 36, 3) := by decide +kernel
theorem pm_a101_4 : pm_as (pm_cd pm_mm101) 4 = some (.iload_n 1, 1) := by decide +kernel
theorem pm_a101_5 : pm_as (pm_cd pm_mm101) 5 = some (.iload_n 2, 1) := by decide +kernel
theorem pm_a101_6 : pm_as (pm_cd pm_mm101) 6 = some (.if_icmp .gt 31, 3) := by decide +kernel
theorem pm_a101_9 : pm_as (pm_cd pm_mm101) 9 = some (.iload_n 2, 1) := by decide +kernel
theorem pm_a101_10 : pm_as (pm_cd pm_mm101) 10 = some (.aload_n 0, 1) := by decide +kernel
theorem pm_a101_11 : pm_as (pm_cd pm_mm101) 11 = some (.getfield 15, 3) := by decide +kernel
theorem pm_a101_14 : pm_as (pm_cd pm_mm101) 14 = some (.arraylength, 1) := by decide +kernel
theorem pm_a101_15 : pm_as (pm_cd pm_mm101) 15 = some (.if_icmp .ge 22, 3) := by decide +kernel
theorem pm_a101_18 : pm_as (pm_cd pm_mm101) 18 = some (.aload_n 0, 1) := by decide +kernel
theorem pm_a101_19 : pm_as (pm_cd pm_mm101) 19 = some (.getfield 15, 3) := by decide +kernel
theorem pm_a101_22 : pm_as (pm_cd pm_mm101) 22 = some (.iload_n 2, 1) := by decide +kernel
theorem pm_a101_23 : pm_as (pm_cd pm_mm101) 23 = some (.iaload, 1) := by decide +kernel
theorem pm_a101_24 : pm_as (pm_cd pm_mm101) 24 = some (.aload_n 0, 1) := by decide +kernel
theorem pm_a101_25 : pm_as (pm_cd pm_mm101) 25 = some (.getfield 15, 3) := by decide +kernel
theorem pm_a101_28 : pm_as (pm_cd pm_mm101) 28 = some (.iload_n 1, 1) := by decide +kernel
theorem pm_a101_29 : pm_as (pm_cd pm_mm101) 29 = some (.iaload, 1) := by decide +kernel
theorem pm_a101_30 : pm_as (pm_cd pm_mm101) 30 = some (.if_icmp .le 7, 3) := by decide +kernel
theorem pm_a101_33 : pm_as (pm_cd pm_mm101) 33 = some (.iconst 1, 1) := by decide +kernel
theorem pm_a101_34 : pm_as (pm_cd pm_mm101) 34 = some (.goto 4, 3) := by decide +kernel
theorem pm_a101_37 : pm_as (pm_cd pm_mm101) 37 = some (.iconst 0, 1) := by decide +kernel
theorem pm_a101_38 : pm_as (pm_cd pm_mm101) 38 = some (.ireturn, 1) := by decide +kernel
theorem pm_a102_0 : pm_as (pm_cd pm_mm102) 0 = some (.iload_n 1, 1) := by decide +kernel
theorem pm_a102_1 : pm_as (pm_cd pm_mm102) 1 = some (.istore_n 3, 1) := by decide +kernel
theorem pm_a102_2 : pm_as (pm_cd pm_mm102) 2 = some (.iload_n 3, 1) := by decide +kernel
theorem pm_a102_3 : pm_as (pm_cd pm_mm102) 3 = some (.iload_n 2, 1) := by decide +kernel
theorem pm_a102_4 : pm_as (pm_cd pm_mm102) 4 = some (.if_icmp .ge 42, 3) := by decide +kernel
theorem pm_a102_7 : pm_as (pm_cd pm_mm102) 7 = some (.aload_n 0, 1) := by decide +kernel
theorem pm_a102_8 : pm_as (pm_cd pm_mm102) 8 = some (.getfield 23, 3) := by decide +kernel
theorem pm_a102_11 : pm_as (pm_cd pm_mm102) 11 = some (.iload_n 3, 1) := by decide +kernel
theorem pm_a102_12 : pm_as (pm_cd pm_mm102) 12 = some (.invokevirtual 41, 3) := by decide +kernel
theorem pm_a102_15 : pm_as (pm_cd pm_mm102) 15 = some (.istore 4, 2) := by decide +kernel
theorem pm_a102_17 : pm_as (pm_cd pm_mm102) 17 = some (.aload_n 0, 1) := by decide +kernel
theorem pm_a102_18 : pm_as (pm_cd pm_mm102) 18 = some (.getfield 27, 3) := by decide +kernel
theorem pm_a102_21 : pm_as (pm_cd pm_mm102) 21 = some (.iload 4, 2) := by decide +kernel
theorem pm_a102_23 : pm_as (pm_cd pm_mm102) 23 = some (.bipush 10, 2) := by decide +kernel
theorem pm_a102_25 : pm_as (pm_cd pm_mm102) 25 = some (.if_icmp .le 10, 3) := by decide +kernel
theorem pm_a102_28 : pm_as (pm_cd pm_mm102) 28 = some (.iload 4, 2) := by decide +kernel
theorem pm_a102_30 : pm_as (pm_cd pm_mm102) 30 = some (.iconst 1, 1) := by decide +kernel
theorem pm_a102_31 : pm_as (pm_cd pm_mm102) 31 = some (.isub, 1) := by decide +kernel
theorem pm_a102_32 : pm_as (pm_cd pm_mm102) 32 = some (.goto 5, 3) := by decide +kernel
theorem pm_a102_35 : pm_as (pm_cd pm_mm102) 35 = some (.iload 4, 2) := by decide +kernel
theorem pm_a102_37 : pm_as (pm_cd pm_mm102) 37 = some (.invokevirtual 60, 3) := by decide +kernel
theorem pm_a102_40 : pm_as (pm_cd pm_mm102) 40 = some (.iinc 3 1, 3) := by decide +kernel
theorem pm_a102_43 : pm_as (pm_cd pm_mm102) 43 = some (.goto (-41), 3) := by decide +kernel
theorem pm_a102_46 : pm_as (pm_cd pm_mm102) 46 = some (.return_, 1) := by decide +kernel
theorem pm_a103_0 : pm_as (pm_cd pm_mm103) 0 = some (.aload_n 0, 1) := by decide +kernel
theorem pm_a103_1 : pm_as (pm_cd pm_mm103) 1 = some (.getfield 34, 3) := by decide +kernel
theorem pm_a103_4 : pm_as (pm_cd pm_mm103) 4 = some (.ifCond .le 15, 3) := by decide +kernel
theorem pm_a103_7 : pm_as (pm_cd pm_mm103) 7 = some (.aload_n 0, 1) := by decide +kernel
theorem pm_a103_8 : pm_as (pm_cd pm_mm103) 8 = some (.getfield 34, 3) := by decide +kernel
theorem pm_a103_11 : pm_as (pm_cd pm_mm103) 11 = some (.aload_n 0, 1) := by decide +kernel
theorem pm_a103_12 : pm_as (pm_cd pm_mm103) 12 = some (.getfield 11, 3) := by decide +kernel
theorem pm_a103_15 : pm_as (pm_cd pm_mm103) 15 = some (.arraylength, 1) := by decide +kernel
theorem pm_a103_16 : pm_as (pm_cd pm_mm103) 16 = some (.if_icmp .le 5, 3) := by decide +kernel
theorem pm_a103_19 : pm_as (pm_cd pm_mm103) 19 = some (.iconst 0, 1) := by decide +kernel
theorem pm_a103_20 : pm_as (pm_cd pm_mm103) 20 = some (.ireturn, 1) := by decide +kernel
theorem pm_a103_21 : pm_as (pm_cd pm_mm103) 21 = some (.aload_n 0, 1) := by decide +kernel
theorem pm_a103_22 : pm_as (pm_cd pm_mm103) 22 = some (.dup, 1) := by decide +kernel
theorem pm_a103_23 : pm_as (pm_cd pm_mm103) 23 = some (.getfield 34, 3) := by decide +kernel
theorem pm_a103_26 : pm_as (pm_cd pm_mm103) 26 = some (.iconst 1, 1) := by decide +kernel
theorem pm_a103_27 : pm_as (pm_cd pm_mm103) 27 = some (.isub, 1) := by decide +kernel
theorem pm_a103_28 : pm_as (pm_cd pm_mm103) 28 = some (.putfield 34, 3) := by decide +kernel
theorem pm_a103_31 : pm_as (pm_cd pm_mm103) 31 = some (.aload_n 0, 1) := by decide +kernel
theorem pm_a103_32 : pm_as (pm_cd pm_mm103) 32 = some (.getfield 11, 3) := by decide +kernel
theorem pm_a103_35 : pm_as (pm_cd pm_mm103) 35 = some (.aload_n 0, 1) := by decide +kernel
theorem pm_a103_36 : pm_as (pm_cd pm_mm103) 36 = some (.getfield 34, 3) := by decide +kernel
theorem pm_a103_39 : pm_as (pm_cd pm_mm103) 39 = some (.iload_n 1, 1) := by decide +kernel
theorem pm_a103_40 : pm_as (pm_cd pm_mm103) 40 = some (.iastore, 1) := by decide +kernel
theorem pm_a103_41 : pm_as (pm_cd pm_mm103) 41 = some (.iconst 1, 1) := by decide +kernel
theorem pm_a103_42 : pm_as (pm_cd pm_mm103) 42 = some (.ireturn, 1) := by decide +kernel
theorem pm_a104_0 : pm_as (pm_cd pm_mm104) 0 = some (.aload_n 0, 1) := by decide +kernel
theorem pm_a104_1 : pm_as (pm_cd pm_mm104) 1 = some (.iload_n 1, 1) := by decide +kernel
theorem pm_a104_2 : pm_as (pm_cd pm_mm104) 2 = some (.invokevirtual 86, 3) := by decide +kernel
theorem pm_a104_5 : pm_as (pm_cd pm_mm104) 5 = some (.astore_n 2, 1) := by decide +kernel
theorem pm_a104_6 : pm_as (pm_cd pm_mm104) 6 = some (.aload_n 2, 1) := by decide +kernel
theorem pm_a104_7 : pm_as (pm_cd pm_mm104) 7 = some (.ifnonnull 7, 3) := by decide +kernel
theorem pm_a104_10 : pm_as (pm_cd pm_mm104) 10 = some (.iconst (-1), 1) := by decide +kernel
theorem pm_a104_11 : pm_as (pm_cd pm_mm104) 11 = some (.goto 7, 3) := by decide +kernel
theorem pm_a104_14 : pm_as (pm_cd pm_mm104) 14 = some (.aload_n 2, 1) := by decide +kernel
theorem pm_a104_15 : pm_as (pm_cd pm_mm104) 15 = some (.invokestatic 153, 3) := by decide +kernel
theorem pm_a104_18 : pm_as (pm_cd pm_mm104) 18 = some (.ireturn, 1) := by decide +kernel
theorem pm_a105_0 : pm_as (pm_cd pm_mm105) 0 = some (.aload_n 0, 1) := by decide +kernel
theorem pm_a105_1 : pm_as (pm_cd pm_mm105) 1 = some (.iconst 0, 1) := by decide +kernel
theorem pm_a105_2 : pm_as (pm_cd pm_mm105) 2 = some (.invokevirtual 91, 3) := by decide +kernel
theorem pm_a105_5 : pm_as (pm_cd pm_mm105) 5 = some (.iconst 1, 1) := by decide +kernel
theorem pm_a105_6 : pm_as (pm_cd pm_mm105) 6 = some (.if_icmp .eq 12, 3) := by decide +kernel
theorem pm_a105_9 : pm_as (pm_cd pm_mm105) 9 = some (.aload_n 0, 1) := by decide +kernel
theorem pm_a105_10 : pm_as (pm_cd pm_mm105) 10 = some (.iconst 0, 1) := by decide +kernel
theorem pm_a105_11 : pm_as (pm_cd pm_mm105) 11 = some (.iconst 5, 1) := by decide +kernel
theorem pm_a105_12 : pm_as (pm_cd pm_mm105) 12 = some (.bipush 6, 2) := by decide +kernel
theorem pm_a105_14 : pm_as (pm_cd pm_mm105) 14 = some (.invokestatic 188, 3) := by decide +kernel
theorem pm_a105_17 : pm_as (pm_cd pm_mm105) 17 = some (.ireturn, 1) := by decide +kernel
theorem pm_a105_18 : pm_as (pm_cd pm_mm105) 18 = some (.aload_n 0, 1) := by decide +kernel
theorem pm_a105_19 : pm_as (pm_cd pm_mm105) 19 = some (.iconst 1, 1) := by decide +kernel
theorem pm_a105_20 : pm_as (pm_cd pm_mm105) 20 = some (.invokevirtual 91, 3) := by decide +kernel
theorem pm_a105_23 : pm_as (pm_cd pm_mm105) 23 = some (.iconst 1, 1) := by decide +kernel
theorem pm_a105_24 : pm_as (pm_cd pm_mm105) 24 = some (.if_icmp .ne 13, 3) := by decide +kernel
theorem pm_a105_27 : pm_as (pm_cd pm_mm105) 27 = some (.aload_n 0, 1) := by decide +kernel
theorem pm_a105_28 : pm_as (pm_cd pm_mm105) 28 = some (.iconst 2, 1) := by decide +kernel
theorem pm_a105_29 : pm_as (pm_cd pm_mm105) 29 = some (.bipush 11, 2) := by decide +kernel
theorem pm_a105_31 : pm_as (pm_cd pm_mm105) 31 = some (.bipush 10, 2) := by decide +kernel
theorem pm_a105_33 : pm_as (pm_cd pm_mm105) 33 = some (.invokestatic 188, 3) := by decide +kernel
theorem pm_a105_36 : pm_as (pm_cd pm_mm105) 36 = some (.ireturn, 1) := by decide +kernel
theorem pm_a105_37 : pm_as (pm_cd pm_mm105) 37 = some (.aload_n 0, 1) := by decide +kernel
theorem pm_a105_38 : pm_as (pm_cd pm_mm105) 38 = some (.iconst 1, 1) := by decide +kernel
theorem pm_a105_39 : pm_as (pm_cd pm_mm105) 39 = some (.invokevirtual 91, 3) := by decide +kernel
theorem pm_a105_42 : pm_as (pm_cd pm_mm105) 42 = some (.bipush 10, 2) := by decide +kernel
theorem pm_a105_44 : pm_as (pm_cd pm_mm105) 44 = some (.if_icmp .ne 7, 3) := by decide +kernel
theorem pm_a105_47 : pm_as (pm_cd pm_mm105) 47 = some (.iconst 1, 1) := by decide +kernel
theorem pm_a105_48 : pm_as (pm_cd pm_mm105) 48 = some (.goto 5, 3) := by decide +kernel
theorem pm_a105_51 : pm_as (pm_cd pm_mm105) 51 = some (.bipush (-4), 2) := by decide +kernel
theorem pm_a105_53 : pm_as (pm_cd pm_mm105) 53 = some (.ireturn, 1) := by decide +kernel
theorem pm_a106_0 : pm_as (pm_cd pm_mm106) 0 = some (.iload_n 1, 1) := by decide +kernel
theorem pm_a106_1 : pm_as (pm_cd pm_mm106) 1 = some (.istore 4, 2) := by decide +kernel
theorem pm_a106_3 : pm_as (pm_cd pm_mm106) 3 = some (.iload 4, 2) := by decide +kernel
theorem pm_a106_5 : pm_as (pm_cd pm_mm106) 5 = some (.aload_n 0, 1) := by decide +kernel
theorem pm_a106_6 : pm_as (pm_cd pm_mm106) 6 = some (.getfield 90, 3) := by decide +kernel
theorem pm_a106_9 : pm_as (pm_cd pm_mm106) 9 = some (.if_icmp .ge 30, 3) := by decide +kernel
theorem pm_a106_12 : pm_as (pm_cd pm_mm106) 12 = some (.aload_n 0, 1) := by decide +kernel
theorem pm_a106_13 : pm_as (pm_cd pm_mm106) 13 = some (.iload 4, 2) := by decide +kernel
theorem pm_a106_15 : pm_as (pm_cd pm_mm106) 15 = some (.invokevirtual 91, 3) := by decide +kernel
theorem pm_a106_18 : pm_as (pm_cd pm_mm106) 18 = some (.ifCond .ne 21, 3) := by decide +kernel
theorem pm_a106_21 : pm_as (pm_cd pm_mm106) 21 = some (.aload_n 0, 1) := by decide +kernel
theorem pm_a106_22 : pm_as (pm_cd pm_mm106) 22 = some (.iload 4, 2) := by decide +kernel
theorem pm_a106_24 : pm_as (pm_cd pm_mm106) 24 = some (.iconst 1, 1) := by decide +kernel
theorem pm_a106_25 : pm_as (pm_cd pm_mm106) 25 = some (.iadd, 1) := by decide +kernel
theorem pm_a106_26 : pm_as (pm_cd pm_mm106) 26 = some (.invokevirtual 91, 3) := by decide +kernel
theorem pm_a106_29 : pm_as (pm_cd pm_mm106) 29 = some (.iload_n 2, 1) := by decide +kernel
theorem pm_a106_30 : pm_as (pm_cd pm_mm106) 30 = some (.if_icmp .ne 9, 3) := by decide +kernel
theorem pm_a106_33 : pm_as (pm_cd pm_mm106) 33 = some (.iinc 4 2, 3) := by decide +kernel
theorem pm_a106_36 : pm_as (pm_cd pm_mm106) 36 = some (.goto (-33), 3) := by decide +kernel
theorem pm_a106_39 : pm_as (pm_cd pm_mm106) 39 = some (.aload_n 0, 1) := by decide +kernel
theorem pm_a106_40 : pm_as (pm_cd pm_mm106) 40 = some (.iload 4, 2) := by decide +kernel
theorem pm_a106_42 : pm_as (pm_cd pm_mm106) 42 = some (.invokevirtual 91, 3) := by decide +kernel
theorem pm_a106_45 : pm_as (pm_cd pm_mm106) 45 = some (.iload_n 3, 1) := by decide +kernel
theorem pm_a106_46 : pm_as (pm_cd pm_mm106) 46 = some (.if_icmp .ne 23, 3) := by decide +kernel
theorem pm_a106_49 : pm_as (pm_cd pm_mm106) 49 = some (.iload 4, 2) := by decide +kernel
theorem pm_a106_51 : pm_as (pm_cd pm_mm106) 51 = some (.iconst 1, 1) := by decide +kernel
theorem pm_a106_52 : pm_as (pm_cd pm_mm106) 52 = some (.iadd, 1) := by decide +kernel
theorem pm_a106_53 : pm_as (pm_cd pm_mm106) 53 = some (.aload_n 0, 1) := by decide +kernel
theorem pm_a106_54 : pm_as (pm_cd pm_mm106) 54 = some (.getfield 90, 3) := by decide +kernel
theorem pm_a106_57 : pm_as (pm_cd pm_mm106) 57 = some (.if_icmp .ne 12, 3) := by decide +kernel
theorem pm_a106_60 : pm_as (pm_cd pm_mm106) 60 = some (.iload 4, 2) := by decide +kernel
theorem pm_a106_62 : pm_as (pm_cd pm_mm106) 62 = some (.iload_n 1, 1) := by decide +kernel
theorem pm_a106_63 : pm_as (pm_cd pm_mm106) 63 = some (.isub, 1) := by decide +kernel
theorem pm_a106_64 : pm_as (pm_cd pm_mm106) 64 = some (.iconst 2, 1) := by decide +kernel
theorem pm_a106_65 : pm_as (pm_cd pm_mm106) 65 = some (.idiv, 1) := by decide +kernel
theorem pm_a106_66 : pm_as (pm_cd pm_mm106) 66 = some (.goto 5, 3) := by decide +kernel
theorem pm_a106_69 : pm_as (pm_cd pm_mm106) 69 = some (.bipush (-4), 2) := by decide +kernel
theorem pm_a106_71 : pm_as (pm_cd pm_mm106) 71 = some (.ireturn, 1) := by decide +kernel
theorem pm_a107_0 : pm_as (pm_cd pm_mm107) 0 = some (.aload_n 0, 1) := by decide +kernel
theorem pm_a107_1 : pm_as (pm_cd pm_mm107) 1 = some (.iload_n 1, 1) := by decide +kernel
theorem pm_a107_2 : pm_as (pm_cd pm_mm107) 2 = some (.invokevirtual 86, 3) := by decide +kernel
theorem pm_a107_5 : pm_as (pm_cd pm_mm107) 5 = some (.astore_n 3, 1) := by decide +kernel
theorem pm_a107_6 : pm_as (pm_cd pm_mm107) 6 = some (.aload_n 3, 1) := by decide +kernel
theorem pm_a107_7 : pm_as (pm_cd pm_mm107) 7 = some (.ifnull 10, 3) := by decide +kernel
theorem pm_a107_10 : pm_as (pm_cd pm_mm107) 10 = some (.iload_n 2, 1) := by decide +kernel
theorem pm_a107_11 : pm_as (pm_cd pm_mm107) 11 = some (.invokestatic 121, 3) := by decide +kernel
theorem pm_a107_14 : pm_as (pm_cd pm_mm107) 14 = some (.ifCond .ne 5, 3) := by decide +kernel
theorem pm_a107_17 : pm_as (pm_cd pm_mm107) 17 = some (.iconst (-1), 1) := by decide +kernel
theorem pm_a107_18 : pm_as (pm_cd pm_mm107) 18 = some (.ireturn, 1) := by decide +kernel
theorem pm_a107_19 : pm_as (pm_cd pm_mm107) 19 = some (.aload_n 0, 1) := by decide +kernel
theorem pm_a107_20 : pm_as (pm_cd pm_mm107) 20 = some (.aload_n 3, 1) := by decide +kernel
theorem pm_a107_21 : pm_as (pm_cd pm_mm107) 21 = some (.invokevirtual 156, 3) := by decide +kernel
theorem pm_a107_24 : pm_as (pm_cd pm_mm107) 24 = some (.aload_n 0, 1) := by decide +kernel
theorem pm_a107_25 : pm_as (pm_cd pm_mm107) 25 = some (.getfield 25, 3) := by decide +kernel
theorem pm_a107_28 : pm_as (pm_cd pm_mm107) 28 = some (.getfield 106, 3) := by decide +kernel
theorem pm_a107_31 : pm_as (pm_cd pm_mm107) 31 = some (.ifCond .eq 8, 3) := by decide +kernel
theorem pm_a107_34 : pm_as (pm_cd pm_mm107) 34 = some (.bipush (-3), 2) := by decide +kernel
theorem pm_a107_36 : pm_as (pm_cd pm_mm107) 36 = some (.goto 4, 3) := by decide +kernel
theorem pm_a107_39 : pm_as (pm_cd pm_mm107) 39 = some (.iconst 1, 1) := by decide +kernel
theorem pm_a107_40 : pm_as (pm_cd pm_mm107) 40 = some (.istore 4, 2) := by decide +kernel
theorem pm_a107_42 : pm_as (pm_cd pm_mm107) 42 = some (.iconst 0, 1) := by decide +kernel
theorem pm_a107_43 : pm_as (pm_cd pm_mm107) 43 = some (.istore 5, 2) := by decide +kernel
theorem pm_a107_45 : pm_as (pm_cd pm_mm107) 45 = some (.iload 5, 2) := by decide +kernel
theorem pm_a107_47 : pm_as (pm_cd pm_mm107) 47 = some (.iload_n 2, 1) := by decide +kernel
theorem pm_a107_48 : pm_as (pm_cd pm_mm107) 48 = some (.if_icmp .ge 29, 3) := by decide +kernel
theorem pm_a107_51 : pm_as (pm_cd pm_mm107) 51 = some (.iload 4, 2) := by decide +kernel
theorem pm_a107_53 : pm_as (pm_cd pm_mm107) 53 = some (.iconst 1, 1) := by decide +kernel
theorem pm_a107_54 : pm_as (pm_cd pm_mm107) 54 = some (.if_icmp .ne 23, 3) := by decide +kernel
theorem pm_a107_57 : pm_as (pm_cd pm_mm107) 57 = some (.aload_n 0, 1) := by decide +kernel
theorem pm_a107_58 : pm_as (pm_cd pm_mm107) 58 = some (.getfield 57, 3) := by decide +kernel
theorem pm_a107_61 : pm_as (pm_cd pm_mm107) 61 = some (.aload_n 0, 1) := by decide +kernel
theorem pm_a107_62 : pm_as (pm_cd pm_mm107) 62 = some (.getfield 25, 3) := by decide +kernel
theorem pm_a107_65 : pm_as (pm_cd pm_mm107) 65 = some (.iconst 0, 1) := by decide +kernel
theorem pm_a107_66 : pm_as (pm_cd pm_mm107) 66 = some (.invokevirtual 118, 3) := by decide +kernel
theorem pm_a107_69 : pm_as (pm_cd pm_mm107) 69 = some (.istore 4, 2) := by decide +kernel
theorem pm_a107_71 : pm_as (pm_cd pm_mm107) 71 = some (.iinc 5 1, 3) := by decide +kernel
theorem pm_a107_74 : pm_as (pm_cd pm_mm107) 74 = some (.goto (-29), 3) := by decide +kernel
theorem pm_a107_77 : pm_as (pm_cd pm_mm107) 77 = some (.iload 4, 2) := by decide +kernel
theorem pm_a107_79 : pm_as (pm_cd pm_mm107) 79 = some (.bipush (-3), 2) := by decide +kernel
theorem pm_a107_81 : pm_as (pm_cd pm_mm107) 81 = some (.if_icmp .ne 6, 3) := by decide +kernel
theorem pm_a107_84 : pm_as (pm_cd pm_mm107) 84 = some (.bipush (-3), 2) := by decide +kernel
theorem pm_a107_86 : pm_as (pm_cd pm_mm107) 86 = some (.ireturn, 1) := by decide +kernel
theorem pm_a107_87 : pm_as (pm_cd pm_mm107) 87 = some (.aload_n 0, 1) := by decide +kernel
theorem pm_a107_88 : pm_as (pm_cd pm_mm107) 88 = some (.getfield 57, 3) := by decide +kernel
theorem pm_a107_91 : pm_as (pm_cd pm_mm107) 91 = some (.aload_n 0, 1) := by decide +kernel
theorem pm_a107_92 : pm_as (pm_cd pm_mm107) 92 = some (.getfield 25, 3) := by decide +kernel
theorem pm_a107_95 : pm_as (pm_cd pm_mm107) 95 = some (.iconst 0, 1) := by decide +kernel
theorem pm_a107_96 : pm_as (pm_cd pm_mm107) 96 = some (.invokevirtual 136, 3) := by decide +kernel
theorem pm_a107_99 : pm_as (pm_cd pm_mm107) 99 = some (.bipush (-4), 2) := by decide +kernel
theorem pm_a107_101 : pm_as (pm_cd pm_mm107) 101 = some (.if_icmp .ne 13, 3) := by decide +kernel
theorem pm_a107_104 : pm_as (pm_cd pm_mm107) 104 = some (.aload_n 0, 1) := by decide +kernel
theorem pm_a107_105 : pm_as (pm_cd pm_mm107) 105 = some (.getfield 25, 3) := by decide +kernel
theorem pm_a107_108 : pm_as (pm_cd pm_mm107) 108 = some (.invokestatic 153, 3) := by decide +kernel
theorem pm_a107_111 : pm_as (pm_cd pm_mm107) 111 = some (.goto 5, 3) := by decide +kernel
theorem pm_a107_114 : pm_as (pm_cd pm_mm107) 114 = some (.bipush (-2), 2) := by decide +kernel
theorem pm_a107_116 : pm_as (pm_cd pm_mm107) 116 = some (.ireturn, 1) := by decide +kernel
theorem pm_a108_0 : pm_as (pm_cd pm_mm108) 0 = some (.aload_n 0, 1) := by decide +kernel
theorem pm_a108_1 : pm_as (pm_cd pm_mm108) 1 = some (.getfield 25, 3) := by decide +kernel
theorem pm_a108_4 : pm_as (pm_cd pm_mm108) 4 = some (.invokevirtual 185, 3) := by decide +kernel
theorem pm_a108_7 : pm_as (pm_cd pm_mm108) 7 = some (.aload_n 0, 1) := by decide +kernel
theorem pm_a108_8 : pm_as (pm_cd pm_mm108) 8 = some (.getfield 25, 3) := by decide +kernel
theorem pm_a108_11 : pm_as (pm_cd pm_mm108) 11 = some (.iconst 0, 1) := by decide +kernel
theorem pm_a108_12 : pm_as (pm_cd pm_mm108) 12 = some (.invokevirtual 99, 3) := by decide +kernel
theorem pm_a108_15 : pm_as (pm_cd pm_mm108) 15 = some (.aload_n 0, 1) := by decide +kernel
theorem pm_a108_16 : pm_as (pm_cd pm_mm108) 16 = some (.getfield 25, 3) := by decide +kernel
theorem pm_a108_19 : pm_as (pm_cd pm_mm108) 19 = some (.iconst 0, 1) := by decide +kernel
theorem pm_a108_20 : pm_as (pm_cd pm_mm108) 20 = some (.invokevirtual 99, 3) := by decide +kernel
theorem pm_a108_23 : pm_as (pm_cd pm_mm108) 23 = some (.aload_n 0, 1) := by decide +kernel
theorem pm_a108_24 : pm_as (pm_cd pm_mm108) 24 = some (.getfield 25, 3) := by decide +kernel
theorem pm_a108_27 : pm_as (pm_cd pm_mm108) 27 = some (.aload_n 1, 1) := by decide +kernel
theorem pm_a108_28 : pm_as (pm_cd pm_mm108) 28 = some (.invokevirtual 102, 3) := by decide +kernel
theorem pm_a108_31 : pm_as (pm_cd pm_mm108) 31 = some (.aload_n 0, 1) := by decide +kernel
theorem pm_a108_32 : pm_as (pm_cd pm_mm108) 32 = some (.getfield 25, 3) := by decide +kernel
theorem pm_a108_35 : pm_as (pm_cd pm_mm108) 35 = some (.iconst 5, 1) := by decide +kernel
theorem pm_a108_36 : pm_as (pm_cd pm_mm108) 36 = some (.invokevirtual 99, 3) := by decide +kernel
theorem pm_a108_39 : pm_as (pm_cd pm_mm108) 39 = some (.aload_n 0, 1) := by decide +kernel
theorem pm_a108_40 : pm_as (pm_cd pm_mm108) 40 = some (.getfield 25, 3) := by decide +kernel
theorem pm_a108_43 : pm_as (pm_cd pm_mm108) 43 = some (.bipush 6, 2) := by decide +kernel
theorem pm_a108_45 : pm_as (pm_cd pm_mm108) 45 = some (.invokevirtual 99, 3) := by decide +kernel
theorem pm_a108_48 : pm_as (pm_cd pm_mm108) 48 = some (.return_, 1) := by decide +kernel
theorem pm_a109_0 : pm_as (pm_cd pm_mm109) 0 = some (.aload_n 0, 1) := by decide +kernel
theorem pm_a109_1 : pm_as (pm_cd pm_mm109) 1 = some (.iload_n 1, 1) := by decide +kernel
theorem pm_a109_2 : pm_as (pm_cd pm_mm109) 2 = some (.invokevirtual 86, 3) := by decide +kernel
theorem pm_a109_5 : pm_as (pm_cd pm_mm109) 5 = some (.astore_n 2, 1) := by decide +kernel
theorem pm_a109_6 : pm_as (pm_cd pm_mm109) 6 = some (.aload_n 2, 1) := by decide +kernel
theorem pm_a109_7 : pm_as (pm_cd pm_mm109) 7 = some (.ifnonnull 5, 3) := by decide +kernel
theorem pm_a109_10 : pm_as (pm_cd pm_mm109) 10 = some (.iconst (-1), 1) := by decide +kernel
theorem pm_a109_11 : pm_as (pm_cd pm_mm109) 11 = some (.ireturn, 1) := by decide +kernel
theorem pm_a109_12 : pm_as (pm_cd pm_mm109) 12 = some (.aload_n 0, 1) := by decide +kernel
theorem pm_a109_13 : pm_as (pm_cd pm_mm109) 13 = some (.getfield 159, 3) := by decide +kernel
theorem pm_a109_16 : pm_as (pm_cd pm_mm109) 16 = some (.ifnonnull 18, 3) := by decide +kernel
theorem pm_a109_19 : pm_as (pm_cd pm_mm109) 19 = some (.aload_n 0, 1) := by decide +kernel
theorem pm_a109_20 : pm_as (pm_cd pm_mm109) 20 = some (.new 163, 3) := by decide +kernel
theorem pm_a109_23 : pm_as (pm_cd pm_mm109) 23 = some (.dup, 1) := by decide +kernel
theorem pm_a109_24 : pm_as (pm_cd pm_mm109) 24 = some (.aload_n 0, 1) := by decide +kernel
theorem pm_a109_25 : pm_as (pm_cd pm_mm109) 25 = some (.getfield 32, 3) := by decide +kernel
theorem pm_a109_28 : pm_as (pm_cd pm_mm109) 28 = some (.invokespecial 165, 3) := by decide +kernel
theorem pm_a109_31 : pm_as (pm_cd pm_mm109) 31 = some (.putfield 159, 3) := by decide +kernel
theorem pm_a109_34 : pm_as (pm_cd pm_mm109) 34 = some (.aload_n 0, 1) := by decide +kernel
theorem pm_a109_35 : pm_as (pm_cd pm_mm109) 35 = some (.getfield 159, 3) := by decide +kernel
theorem pm_a109_38 : pm_as (pm_cd pm_mm109) 38 = some (.aload_n 2, 1) := by decide +kernel
theorem pm_a109_39 : pm_as (pm_cd pm_mm109) 39 = some (.invokevirtual 166, 3) := by decide +kernel
theorem pm_a109_42 : pm_as (pm_cd pm_mm109) 42 = some (.ireturn, 1) := by decide +kernel
theorem pm_a110_0 : pm_as (pm_cd pm_mm110) 0 = some (.aload_n 0, 1) := by decide +kernel
theorem pm_a110_1 : pm_as (pm_cd pm_mm110) 1 = some (.invokespecial 3, 3) := by decide +kernel
theorem pm_a110_4 : pm_as (pm_cd pm_mm110) 4 = some (.aload_n 0, 1) := by decide +kernel
theorem pm_a110_5 : pm_as (pm_cd pm_mm110) 5 = some (.sipush 2800, 3) := by decide +kernel
theorem pm_a110_8 : pm_as (pm_cd pm_mm110) 8 = some (.newarray .int, 2) := by decide +kernel
theorem pm_a110_10 : pm_as (pm_cd pm_mm110) 10 = some (.putfield 11, 3) := by decide +kernel
theorem pm_a110_13 : pm_as (pm_cd pm_mm110) 13 = some (.aload_n 0, 1) := by decide +kernel
theorem pm_a110_14 : pm_as (pm_cd pm_mm110) 14 = some (.sipush 2800, 3) := by decide +kernel
theorem pm_a110_17 : pm_as (pm_cd pm_mm110) 17 = some (.newarray .int, 2) := by decide +kernel
theorem pm_a110_19 : pm_as (pm_cd pm_mm110) 19 = some (.putfield 15, 3) := by decide +kernel
theorem pm_a110_22 : pm_as (pm_cd pm_mm110) 22 = some (.aload_n 0, 1) := by decide +kernel
theorem pm_a110_23 : pm_as (pm_cd pm_mm110) 23 = some (.sipush 2800, 3) := by decide +kernel
theorem pm_a110_26 : pm_as (pm_cd pm_mm110) 26 = some (.newarray .int, 2) := by decide +kernel
theorem pm_a110_28 : pm_as (pm_cd pm_mm110) 28 = some (.putfield 18, 3) := by decide +kernel
theorem pm_a110_31 : pm_as (pm_cd pm_mm110) 31 = some (.aload_n 0, 1) := by decide +kernel
theorem pm_a110_32 : pm_as (pm_cd pm_mm110) 32 = some (.sipush 2800, 3) := by decide +kernel
theorem pm_a110_35 : pm_as (pm_cd pm_mm110) 35 = some (.newarray .int, 2) := by decide +kernel
theorem pm_a110_37 : pm_as (pm_cd pm_mm110) 37 = some (.putfield 21, 3) := by decide +kernel
theorem pm_a110_40 : pm_as (pm_cd pm_mm110) 40 = some (.aload_n 0, 1) := by decide +kernel
theorem pm_a110_41 : pm_as (pm_cd pm_mm110) 41 = some (.sipush 2800, 3) := by decide +kernel
theorem pm_a110_44 : pm_as (pm_cd pm_mm110) 44 = some (.newarray .int, 2) := by decide +kernel
theorem pm_a110_46 : pm_as (pm_cd pm_mm110) 46 = some (.putfield 24, 3) := by decide +kernel
theorem pm_a110_49 : pm_as (pm_cd pm_mm110) 49 = some (.aload_n 0, 1) := by decide +kernel
theorem pm_a110_50 : pm_as (pm_cd pm_mm110) 50 = some (.sipush 500, 3) := by decide +kernel
theorem pm_a110_53 : pm_as (pm_cd pm_mm110) 53 = some (.newarray .int, 2) := by decide +kernel
theorem pm_a110_55 : pm_as (pm_cd pm_mm110) 55 = some (.putfield 27, 3) := by decide +kernel
theorem pm_a110_58 : pm_as (pm_cd pm_mm110) 58 = some (.aload_n 0, 1) := by decide +kernel
theorem pm_a110_59 : pm_as (pm_cd pm_mm110) 59 = some (.sipush 501, 3) := by decide +kernel
theorem pm_a110_62 : pm_as (pm_cd pm_mm110) 62 = some (.newarray .int, 2) := by decide +kernel
theorem pm_a110_64 : pm_as (pm_cd pm_mm110) 64 = some (.putfield 30, 3) := by decide +kernel
theorem pm_a110_67 : pm_as (pm_cd pm_mm110) 67 = some (.aload_n 0, 1) := by decide +kernel
theorem pm_a110_68 : pm_as (pm_cd pm_mm110) 68 = some (.new 33, 3) := by decide +kernel
theorem pm_a110_71 : pm_as (pm_cd pm_mm110) 71 = some (.dup, 1) := by decide +kernel
theorem pm_a110_72 : pm_as (pm_cd pm_mm110) 72 = some (.sipush 500, 3) := by decide +kernel
theorem pm_a110_75 : pm_as (pm_cd pm_mm110) 75 = some (.invokespecial 35, 3) := by decide +kernel
theorem pm_a110_78 : pm_as (pm_cd pm_mm110) 78 = some (.putfield 38, 3) := by decide +kernel
theorem pm_a110_81 : pm_as (pm_cd pm_mm110) 81 = some (.aload_n 0, 1) := by decide +kernel
theorem pm_a110_82 : pm_as (pm_cd pm_mm110) 82 = some (.new 33, 3) := by decide +kernel
theorem pm_a110_85 : pm_as (pm_cd pm_mm110) 85 = some (.dup, 1) := by decide +kernel
theorem pm_a110_86 : pm_as (pm_cd pm_mm110) 86 = some (.sipush 500, 3) := by decide +kernel
theorem pm_a110_89 : pm_as (pm_cd pm_mm110) 89 = some (.invokespecial 35, 3) := by decide +kernel
theorem pm_a110_92 : pm_as (pm_cd pm_mm110) 92 = some (.putfield 42, 3) := by decide +kernel
theorem pm_a110_95 : pm_as (pm_cd pm_mm110) 95 = some (.aload_n 0, 1) := by decide +kernel
theorem pm_a110_96 : pm_as (pm_cd pm_mm110) 96 = some (.aload_n 1, 1) := by decide +kernel
theorem pm_a110_97 : pm_as (pm_cd pm_mm110) 97 = some (.putfield 45, 3) := by decide +kernel
theorem pm_a110_100 : pm_as (pm_cd pm_mm110) 100 = some (.return_, 1) := by decide +kernel
theorem pm_a111_0 : pm_as (pm_cd pm_mm111) 0 = some (.aload_n 0, 1) := by decide +kernel
theorem pm_a111_1 : pm_as (pm_cd pm_mm111) 1 = some (.iconst 0, 1) := by decide +kernel
theorem pm_a111_2 : pm_as (pm_cd pm_mm111) 2 = some (.putfield 49, 3) := by decide +kernel
theorem pm_a111_5 : pm_as (pm_cd pm_mm111) 5 = some (.aload_n 0, 1) := by decide +kernel
theorem pm_a111_6 : pm_as (pm_cd pm_mm111) 6 = some (.iconst 0, 1) := by decide +kernel
theorem pm_a111_7 : pm_as (pm_cd pm_mm111) 7 = some (.putfield 53, 3) := by decide +kernel
theorem pm_a111_10 : pm_as (pm_cd pm_mm111) 10 = some (.aload_n 0, 1) := by decide +kernel
theorem pm_a111_11 : pm_as (pm_cd pm_mm111) 11 = some (.getfield 45, 3) := by decide +kernel
theorem pm_a111_14 : pm_as (pm_cd pm_mm111) 14 = some (.aload_n 1, 1) := by decide +kernel
theorem pm_a111_15 : pm_as (pm_cd pm_mm111) 15 = some (.iconst 0, 1) := by decide +kernel
theorem pm_a111_16 : pm_as (pm_cd pm_mm111) 16 = some (.aload_n 1, 1) := by decide +kernel
theorem pm_a111_17 : pm_as (pm_cd pm_mm111) 17 = some (.getfield 56, 3) := by decide +kernel
theorem pm_a111_20 : pm_as (pm_cd pm_mm111) 20 = some (.invokevirtual 59, 3) := by decide +kernel
theorem pm_a111_23 : pm_as (pm_cd pm_mm111) 23 = some (.aload_n 0, 1) := by decide +kernel
theorem pm_a111_24 : pm_as (pm_cd pm_mm111) 24 = some (.invokevirtual 65, 3) := by decide +kernel
theorem pm_a111_27 : pm_as (pm_cd pm_mm111) 27 = some (.istore_n 2, 1) := by decide +kernel
theorem pm_a111_28 : pm_as (pm_cd pm_mm111) 28 = some (.aload_n 0, 1) := by decide +kernel
theorem pm_a111_29 : pm_as (pm_cd pm_mm111) 29 = some (.aload_n 0, 1) := by decide +kernel
theorem pm_a111_30 : pm_as (pm_cd pm_mm111) 30 = some (.invokevirtual 65, 3) := by decide +kernel
theorem pm_a111_33 : pm_as (pm_cd pm_mm111) 33 = some (.putfield 69, 3) := by decide +kernel
theorem pm_a111_36 : pm_as (pm_cd pm_mm111) 36 = some (.aload_n 0, 1) := by decide +kernel
theorem pm_a111_37 : pm_as (pm_cd pm_mm111) 37 = some (.iload_n 2, 1) := by decide +kernel
theorem pm_a111_38 : pm_as (pm_cd pm_mm111) 38 = some (.invokevirtual 72, 3) := by decide +kernel
theorem pm_a111_41 : pm_as (pm_cd pm_mm111) 41 = some (.iconst 0, 1) := by decide +kernel
theorem pm_a111_42 : pm_as (pm_cd pm_mm111) 42 = some (.istore_n 3, 1) := by decide +kernel
theorem pm_a111_43 : pm_as (pm_cd pm_mm111) 43 = some (.iload_n 3, 1) := by decide +kernel
theorem pm_a111_44 : pm_as (pm_cd pm_mm111) 44 = some (.aload_n 1, 1) := by decide +kernel
theorem pm_a111_45 : pm_as (pm_cd pm_mm111) 45 = some (.getfield 56, 3) := by decide +kernel
theorem pm_a111_48 : pm_as (pm_cd pm_mm111) 48 = some (.if_icmp .ge 23, 3) := by decide +kernel
theorem pm_a111_51 : pm_as (pm_cd pm_mm111) 51 = some (.aload_n 0, 1) := by decide +kernel
theorem pm_a111_52 : pm_as (pm_cd pm_mm111) 52 = some (.aload_n 1, 1) := by decide +kernel
theorem pm_a111_53 : pm_as (pm_cd pm_mm111) 53 = some (.iload_n 3, 1) := by decide +kernel
theorem pm_a111_54 : pm_as (pm_cd pm_mm111) 54 = some (.invokevirtual 75, 3) := by decide +kernel
theorem pm_a111_57 : pm_as (pm_cd pm_mm111) 57 = some (.iload_n 3, 1) := by decide +kernel
theorem pm_a111_58 : pm_as (pm_cd pm_mm111) 58 = some (.aload_n 0, 1) := by decide +kernel
theorem pm_a111_59 : pm_as (pm_cd pm_mm111) 59 = some (.invokevirtual 79, 3) := by decide +kernel
theorem pm_a111_62 : pm_as (pm_cd pm_mm111) 62 = some (.invokevirtual 82, 3) := by decide +kernel
theorem pm_a111_65 : pm_as (pm_cd pm_mm111) 65 = some (.iinc 3 1, 3) := by decide +kernel
theorem pm_a111_68 : pm_as (pm_cd pm_mm111) 68 = some (.goto (-25), 3) := by decide +kernel
theorem pm_a111_71 : pm_as (pm_cd pm_mm111) 71 = some (.aload_n 0, 1) := by decide +kernel
theorem pm_a111_72 : pm_as (pm_cd pm_mm111) 72 = some (.invokevirtual 86, 3) := by decide +kernel
theorem pm_a111_75 : pm_as (pm_cd pm_mm111) 75 = some (.ifCond .eq 6, 3) := by decide +kernel
theorem pm_a111_78 : pm_as (pm_cd pm_mm111) 78 = some (.bipush (-4), 2) := by decide +kernel
theorem pm_a111_80 : pm_as (pm_cd pm_mm111) 80 = some (.ireturn, 1) := by decide +kernel
theorem pm_a111_81 : pm_as (pm_cd pm_mm111) 81 = some (.aload_n 0, 1) := by decide +kernel
theorem pm_a111_82 : pm_as (pm_cd pm_mm111) 82 = some (.iload_n 2, 1) := by decide +kernel
theorem pm_a111_83 : pm_as (pm_cd pm_mm111) 83 = some (.invokevirtual 90, 3) := by decide +kernel
theorem pm_a111_86 : pm_as (pm_cd pm_mm111) 86 = some (.aload_n 0, 1) := by decide +kernel
theorem pm_a111_87 : pm_as (pm_cd pm_mm111) 87 = some (.getfield 38, 3) := by decide +kernel
theorem pm_a111_90 : pm_as (pm_cd pm_mm111) 90 = some (.getfield 93, 3) := by decide +kernel
theorem pm_a111_93 : pm_as (pm_cd pm_mm111) 93 = some (.ifCond .eq 6, 3) := by decide +kernel
theorem pm_a111_96 : pm_as (pm_cd pm_mm111) 96 = some (.bipush (-3), 2) := by decide +kernel
theorem pm_a111_98 : pm_as (pm_cd pm_mm111) 98 = some (.ireturn, 1) := by decide +kernel
theorem pm_a111_99 : pm_as (pm_cd pm_mm111) 99 = some (.aload_n 0, 1) := by decide +kernel
theorem pm_a111_100 : pm_as (pm_cd pm_mm111) 100 = some (.getfield 42, 3) := by decide +kernel
theorem pm_a111_103 : pm_as (pm_cd pm_mm111) 103 = some (.invokevirtual 97, 3) := by decide +kernel
theorem pm_a111_106 : pm_as (pm_cd pm_mm111) 106 = some (.aload_n 0, 1) := by decide +kernel
theorem pm_a111_107 : pm_as (pm_cd pm_mm111) 107 = some (.getfield 42, 3) := by decide +kernel
theorem pm_a111_110 : pm_as (pm_cd pm_mm111) 110 = some (.aload_n 0, 1) := by decide +kernel
theorem pm_a111_111 : pm_as (pm_cd pm_mm111) 111 = some (.getfield 38, 3) := by decide +kernel
theorem pm_a111_114 : pm_as (pm_cd pm_mm111) 114 = some (.invokevirtual 100, 3) := by decide +kernel
theorem pm_a111_117 : pm_as (pm_cd pm_mm111) 117 = some (.aload_n 0, 1) := by decide +kernel
theorem pm_a111_118 : pm_as (pm_cd pm_mm111) 118 = some (.getfield 42, 3) := by decide +kernel
theorem pm_a111_121 : pm_as (pm_cd pm_mm111) 121 = some (.getfield 56, 3) := by decide +kernel
theorem pm_a111_124 : pm_as (pm_cd pm_mm111) 124 = some (.ireturn, 1) := by decide +kernel
theorem pm_a112_0 : pm_as (pm_cd pm_mm112) 0 = some (.aload_n 0, 1) := by decide +kernel
theorem pm_a112_1 : pm_as (pm_cd pm_mm112) 1 = some (.iconst (-1), 1) := by decide +kernel
theorem pm_a112_2 : pm_as (pm_cd pm_mm112) 2 = some (.iconst (-1), 1) := by decide +kernel
theorem pm_a112_3 : pm_as (pm_cd pm_mm112) 3 = some (.invokevirtual 127, 3) := by decide +kernel
theorem pm_a112_6 : pm_as (pm_cd pm_mm112) 6 = some (.ireturn, 1) := by decide +kernel
theorem pm_a113_0 : pm_as (pm_cd pm_mm113) 0 = some (.aload_n 0, 1) := by decide +kernel
theorem pm_a113_1 : pm_as (pm_cd pm_mm113) 1 = some (.getfield 49, 3) := by decide +kernel
theorem pm_a113_4 : pm_as (pm_cd pm_mm113) 4 = some (.sipush 2799, 3) := by decide +kernel
theorem pm_a113_7 : pm_as (pm_cd pm_mm113) 7 = some (.invokestatic 144, 3) := by decide +kernel
theorem pm_a113_10 : pm_as (pm_cd pm_mm113) 10 = some (.istore_n 3, 1) := by decide +kernel
theorem pm_a113_11 : pm_as (pm_cd pm_mm113) 11 = some (.aload_n 0, 1) := by decide +kernel
theorem pm_a113_12 : pm_as (pm_cd pm_mm113) 12 = some (.getfield 11, 3) := by decide +kernel
theorem pm_a113_15 : pm_as (pm_cd pm_mm113) 15 = some (.iload_n 3, 1) := by decide +kernel
theorem pm_a113_16 : pm_as (pm_cd pm_mm113) 16 = some (.iload_n 1, 1) := by decide +kernel
theorem pm_a113_17 : pm_as (pm_cd pm_mm113) 17 = some (.invokestatic 130, 3) := by decide +kernel
theorem pm_a113_20 : pm_as (pm_cd pm_mm113) 20 = some (.aload_n 0, 1) := by decide +kernel
theorem pm_a113_21 : pm_as (pm_cd pm_mm113) 21 = some (.getfield 15, 3) := by decide +kernel
theorem pm_a113_24 : pm_as (pm_cd pm_mm113) 24 = some (.iload_n 3, 1) := by decide +kernel
theorem pm_a113_25 : pm_as (pm_cd pm_mm113) 25 = some (.iload_n 2, 1) := by decide +kernel
theorem pm_a113_26 : pm_as (pm_cd pm_mm113) 26 = some (.invokestatic 130, 3) := by decide +kernel
theorem pm_a113_29 : pm_as (pm_cd pm_mm113) 29 = some (.aload_n 0, 1) := by decide +kernel
theorem pm_a113_30 : pm_as (pm_cd pm_mm113) 30 = some (.getfield 18, 3) := by decide +kernel
theorem pm_a113_33 : pm_as (pm_cd pm_mm113) 33 = some (.iload_n 3, 1) := by decide +kernel
theorem pm_a113_34 : pm_as (pm_cd pm_mm113) 34 = some (.iload_n 3, 1) := by decide +kernel
theorem pm_a113_35 : pm_as (pm_cd pm_mm113) 35 = some (.invokestatic 130, 3) := by decide +kernel
theorem pm_a113_38 : pm_as (pm_cd pm_mm113) 38 = some (.aload_n 0, 1) := by decide +kernel
theorem pm_a113_39 : pm_as (pm_cd pm_mm113) 39 = some (.iload_n 3, 1) := by decide +kernel
theorem pm_a113_40 : pm_as (pm_cd pm_mm113) 40 = some (.iconst 1, 1) := by decide +kernel
theorem pm_a113_41 : pm_as (pm_cd pm_mm113) 41 = some (.iadd, 1) := by decide +kernel
theorem pm_a113_42 : pm_as (pm_cd pm_mm113) 42 = some (.putfield 49, 3) := by decide +kernel
theorem pm_a113_45 : pm_as (pm_cd pm_mm113) 45 = some (.iload_n 3, 1) := by decide +kernel
theorem pm_a113_46 : pm_as (pm_cd pm_mm113) 46 = some (.ireturn, 1) := by decide +kernel
theorem pm_a114_0 : pm_as (pm_cd pm_mm114) 0 = some (.iload_n 1, 1) := by decide +kernel
theorem pm_a114_1 : pm_as (pm_cd pm_mm114) 1 = some (.ifCond .lt 13, 3) := by decide +kernel
theorem pm_a114_4 : pm_as (pm_cd pm_mm114) 4 = some (.iload_n 1, 1) := by decide +kernel
theorem pm_a114_5 : pm_as (pm_cd pm_mm114) 5 = some (.aload_n 0, 1) := by decide +kernel
theorem pm_a114_6 : pm_as (pm_cd pm_mm114) 6 = some (.arraylength, 1) := by decide +kernel
theorem pm_a114_7 : pm_as (pm_cd pm_mm114) 7 = some (.if_icmp .ge 7, 3) := by decide +kernel
theorem pm_a114_10 : pm_as (pm_cd pm_mm114) 10 = some (.aload_n 0, 1) := by decide +kernel
theorem pm_a114_11 : pm_as (pm_cd pm_mm114) 11 = some (.iload_n 1, 1) := by decide +kernel
theorem pm_a114_12 : pm_as (pm_cd pm_mm114) 12 = some (.iload_n 2, 1) := by decide +kernel
theorem pm_a114_13 : pm_as (pm_cd pm_mm114) 13 = some (.iastore, 1) := by decide +kernel
theorem pm_a114_14 : pm_as (pm_cd pm_mm114) 14 = some (.return_, 1) := by decide +kernel
theorem pm_a115_0 : pm_as (pm_cd pm_mm115) 0 = some (.aload_n 0, 1) := by decide +kernel
theorem pm_a115_1 : pm_as (pm_cd pm_mm115) 1 = some (.getfield 53, 3) := by decide +kernel
theorem pm_a115_4 : pm_as (pm_cd pm_mm115) 4 = some (.ifCond .lt 35, 3) := by decide +kernel
theorem pm_a115_7 : pm_as (pm_cd pm_mm115) 7 = some (.aload_n 0, 1) := by decide +kernel
theorem pm_a115_8 : pm_as (pm_cd pm_mm115) 8 = some (.getfield 53, 3) := by decide +kernel
theorem pm_a115_11 : pm_as (pm_cd pm_mm115) 11 = some (.aload_n 0, 1) := by decide +kernel
theorem pm_a115_12 : pm_as (pm_cd pm_mm115) 12 = some (.getfield 30, 3) := by decide +kernel
theorem pm_a115_15 : pm_as (pm_cd pm_mm115) 15 = some (.arraylength, 1) := by decide +kernel
theorem pm_a115_16 : pm_as (pm_cd pm_mm115) 16 = some (.if_icmp .ge 23, 3) := by decide +kernel
theorem pm_a115_19 : pm_as (pm_cd pm_mm115) 19 = some (.aload_n 0, 1) := by decide +kernel
theorem pm_a115_20 : pm_as (pm_cd pm_mm115) 20 = some (.getfield 30, 3) := by decide +kernel
theorem pm_a115_23 : pm_as (pm_cd pm_mm115) 23 = some (.aload_n 0, 1) := by decide +kernel
theorem pm_a115_24 : pm_as (pm_cd pm_mm115) 24 = some (.getfield 53, 3) := by decide +kernel
theorem pm_a115_27 : pm_as (pm_cd pm_mm115) 27 = some (.iload_n 1, 1) := by decide +kernel
theorem pm_a115_28 : pm_as (pm_cd pm_mm115) 28 = some (.iastore, 1) := by decide +kernel
theorem pm_a115_29 : pm_as (pm_cd pm_mm115) 29 = some (.aload_n 0, 1) := by decide +kernel
theorem pm_a115_30 : pm_as (pm_cd pm_mm115) 30 = some (.dup, 1) := by decide +kernel
theorem pm_a115_31 : pm_as (pm_cd pm_mm115) 31 = some (.getfield 53, 3) := by decide +kernel
theorem pm_a115_34 : pm_as (pm_cd pm_mm115) 34 = some (.iconst 1, 1) := by decide +kernel
theorem pm_a115_35 : pm_as (pm_cd pm_mm115) 35 = some (.iadd, 1) := by decide +kernel
theorem pm_a115_36 : pm_as (pm_cd pm_mm115) 36 = some (.putfield 53, 3) := by decide +kernel
theorem pm_a115_39 : pm_as (pm_cd pm_mm115) 39 = some (.return_, 1) := by decide +kernel
theorem pm_a116_0 : pm_as (pm_cd pm_mm116) 0 = some (.aload_n 0, 1) := by decide +kernel
theorem pm_a116_1 : pm_as (pm_cd pm_mm116) 1 = some (.getfield 53, 3) := by decide +kernel
theorem pm_a116_4 : pm_as (pm_cd pm_mm116) 4 = some (.ifCond .le 15, 3) := by decide +kernel
theorem pm_a116_7 : pm_as (pm_cd pm_mm116) 7 = some (.aload_n 0, 1) := by decide +kernel
theorem pm_a116_8 : pm_as (pm_cd pm_mm116) 8 = some (.getfield 53, 3) := by decide +kernel
theorem pm_a116_11 : pm_as (pm_cd pm_mm116) 11 = some (.aload_n 0, 1) := by decide +kernel
theorem pm_a116_12 : pm_as (pm_cd pm_mm116) 12 = some (.getfield 30, 3) := by decide +kernel
theorem pm_a116_15 : pm_as (pm_cd pm_mm116) 15 = some (.arraylength, 1) := by decide +kernel
theorem pm_a116_16 : pm_as (pm_cd pm_mm116) 16 = some (.if_icmp .le 5, 3) := by decide +kernel
theorem pm_a116_19 : pm_as (pm_cd pm_mm116) 19 = some (.iconst 0, 1) := by decide +kernel
theorem pm_a116_20 : pm_as (pm_cd pm_mm116) 20 = some (.ireturn, 1) := by decide +kernel
theorem pm_a116_21 : pm_as (pm_cd pm_mm116) 21 = some (.aload_n 0, 1) := by decide +kernel
theorem pm_a116_22 : pm_as (pm_cd pm_mm116) 22 = some (.dup, 1) := by decide +kernel
theorem pm_a116_23 : pm_as (pm_cd pm_mm116) 23 = some (.getfield 53, 3) := by decide +kernel
theorem pm_a116_26 : pm_as (pm_cd pm_mm116) 26 = some (.iconst 1, 1) := by decide +kernel
theorem pm_a116_27 : pm_as (pm_cd pm_mm116) 27 = some (.isub, 1) := by decide +kernel
theorem pm_a116_28 : pm_as (pm_cd pm_mm116) 28 = some (.putfield 53, 3) := by decide +kernel
theorem pm_a116_31 : pm_as (pm_cd pm_mm116) 31 = some (.aload_n 0, 1) := by decide +kernel
theorem pm_a116_32 : pm_as (pm_cd pm_mm116) 32 = some (.getfield 30, 3) := by decide +kernel
theorem pm_a116_35 : pm_as (pm_cd pm_mm116) 35 = some (.aload_n 0, 1) := by decide +kernel
theorem pm_a116_36 : pm_as (pm_cd pm_mm116) 36 = some (.getfield 53, 3) := by decide +kernel
theorem pm_a116_39 : pm_as (pm_cd pm_mm116) 39 = some (.iaload, 1) := by decide +kernel
theorem pm_a116_40 : pm_as (pm_cd pm_mm116) 40 = some (.ireturn, 1) := by decide +kernel
theorem pm_a117_0 : pm_as (pm_cd pm_mm117) 0 = some (.iload_n 1, 1) := by decide +kernel
theorem pm_a117_1 : pm_as (pm_cd pm_mm117) 1 = some (.ifCond .ne 11, 3) := by decide +kernel
theorem pm_a117_4 : pm_as (pm_cd pm_mm117) 4 = some (.aload_n 0, 1) := by decide +kernel
theorem pm_a117_5 : pm_as (pm_cd pm_mm117) 5 = some (.iload_n 3, 1) := by decide +kernel
theorem pm_a117_6 : pm_as (pm_cd pm_mm117) 6 = some (.invokevirtual 104, 3) := by decide +kernel
theorem pm_a117_9 : pm_as (pm_cd pm_mm117) 9 = some (.goto 68, 3) := by decide +kernel
theorem pm_a117_12 : pm_as (pm_cd pm_mm117) 12 = some (.iload_n 1, 1) := by decide +kernel
theorem pm_a117_13 : pm_as (pm_cd pm_mm117) 13 = some (.iconst 1, 1) := by decide +kernel
theorem pm_a117_14 : pm_as (pm_cd pm_mm117) 14 = some (.if_icmp .ne 23, 3) := by decide +kernel
theorem pm_a117_17 : pm_as (pm_cd pm_mm117) 17 = some (.aload_n 0, 1) := by decide +kernel
theorem pm_a117_18 : pm_as (pm_cd pm_mm117) 18 = some (.iload_n 3, 1) := by decide +kernel
theorem pm_a117_19 : pm_as (pm_cd pm_mm117) 19 = some (.aload_n 0, 1) := by decide +kernel
theorem pm_a117_20 : pm_as (pm_cd pm_mm117) 20 = some (.aload_n 0, 1) := by decide +kernel
theorem pm_a117_21 : pm_as (pm_cd pm_mm117) 21 = some (.getfield 45, 3) := by decide +kernel
theorem pm_a117_24 : pm_as (pm_cd pm_mm117) 24 = some (.iload_n 2, 1) := by decide +kernel
theorem pm_a117_25 : pm_as (pm_cd pm_mm117) 25 = some (.invokevirtual 107, 3) := by decide +kernel
theorem pm_a117_28 : pm_as (pm_cd pm_mm117) 28 = some (.invokevirtual 110, 3) := by decide +kernel
theorem pm_a117_31 : pm_as (pm_cd pm_mm117) 31 = some (.invokevirtual 113, 3) := by decide +kernel
theorem pm_a117_34 : pm_as (pm_cd pm_mm117) 34 = some (.goto 43, 3) := by decide +kernel
theorem pm_a117_37 : pm_as (pm_cd pm_mm117) 37 = some (.iload_n 1, 1) := by decide +kernel
theorem pm_a117_38 : pm_as (pm_cd pm_mm117) 38 = some (.bipush 10, 2) := by decide +kernel
theorem pm_a117_40 : pm_as (pm_cd pm_mm117) 40 = some (.if_icmp .lt 27, 3) := by decide +kernel
theorem pm_a117_43 : pm_as (pm_cd pm_mm117) 43 = some (.aload_n 0, 1) := by decide +kernel
theorem pm_a117_44 : pm_as (pm_cd pm_mm117) 44 = some (.iload_n 3, 1) := by decide +kernel
theorem pm_a117_45 : pm_as (pm_cd pm_mm117) 45 = some (.aload_n 0, 1) := by decide +kernel
theorem pm_a117_46 : pm_as (pm_cd pm_mm117) 46 = some (.getfield 27, 3) := by decide +kernel
theorem pm_a117_49 : pm_as (pm_cd pm_mm117) 49 = some (.aload_n 0, 1) := by decide +kernel
theorem pm_a117_50 : pm_as (pm_cd pm_mm117) 50 = some (.getfield 45, 3) := by decide +kernel
theorem pm_a117_53 : pm_as (pm_cd pm_mm117) 53 = some (.iload_n 1, 1) := by decide +kernel
theorem pm_a117_54 : pm_as (pm_cd pm_mm117) 54 = some (.iload_n 2, 1) := by decide +kernel
theorem pm_a117_55 : pm_as (pm_cd pm_mm117) 55 = some (.invokevirtual 117, 3) := by decide +kernel
theorem pm_a117_58 : pm_as (pm_cd pm_mm117) 58 = some (.invokestatic 121, 3) := by decide +kernel
theorem pm_a117_61 : pm_as (pm_cd pm_mm117) 61 = some (.invokevirtual 113, 3) := by decide +kernel
theorem pm_a117_64 : pm_as (pm_cd pm_mm117) 64 = some (.goto 13, 3) := by decide +kernel
theorem pm_a117_67 : pm_as (pm_cd pm_mm117) 67 = some (.aload_n 0, 1) := by decide +kernel
theorem pm_a117_68 : pm_as (pm_cd pm_mm117) 68 = some (.iload_n 3, 1) := by decide +kernel
theorem pm_a117_69 : pm_as (pm_cd pm_mm117) 69 = some (.aload_n 0, 1) := by decide +kernel
theorem pm_a117_70 : pm_as (pm_cd pm_mm117) 70 = some (.iload_n 1, 1) := by decide +kernel
theorem pm_a117_71 : pm_as (pm_cd pm_mm117) 71 = some (.invokevirtual 124, 3) := by decide +kernel
theorem pm_a117_74 : pm_as (pm_cd pm_mm117) 74 = some (.invokevirtual 113, 3) := by decide +kernel
theorem pm_a117_77 : pm_as (pm_cd pm_mm117) 77 = some (.return_, 1) := by decide +kernel
theorem pm_a118_0 : pm_as (pm_cd pm_mm118) 0 = some (.aload_n 0, 1) := by decide +kernel
theorem pm_a118_1 : pm_as (pm_cd pm_mm118) 1 = some (.invokevirtual 65, 3) := by decide +kernel
theorem pm_a118_4 : pm_as (pm_cd pm_mm118) 4 = some (.istore_n 2, 1) := by decide +kernel
theorem pm_a118_5 : pm_as (pm_cd pm_mm118) 5 = some (.aload_n 0, 1) := by decide +kernel
theorem pm_a118_6 : pm_as (pm_cd pm_mm118) 6 = some (.iload_n 2, 1) := by decide +kernel
theorem pm_a118_7 : pm_as (pm_cd pm_mm118) 7 = some (.invokevirtual 72, 3) := by decide +kernel
theorem pm_a118_10 : pm_as (pm_cd pm_mm118) 10 = some (.aload_n 0, 1) := by decide +kernel
theorem pm_a118_11 : pm_as (pm_cd pm_mm118) 11 = some (.aload_n 0, 1) := by decide +kernel
theorem pm_a118_12 : pm_as (pm_cd pm_mm118) 12 = some (.iload_n 2, 1) := by decide +kernel
theorem pm_a118_13 : pm_as (pm_cd pm_mm118) 13 = some (.iload_n 1, 1) := by decide +kernel
theorem pm_a118_14 : pm_as (pm_cd pm_mm118) 14 = some (.invokevirtual 127, 3) := by decide +kernel
theorem pm_a118_17 : pm_as (pm_cd pm_mm118) 17 = some (.invokevirtual 72, 3) := by decide +kernel
theorem pm_a118_20 : pm_as (pm_cd pm_mm118) 20 = some (.return_, 1) := by decide +kernel
theorem pm_a119_0 : pm_as (pm_cd pm_mm119) 0 = some (.aload_n 0, 1) := by decide +kernel
theorem pm_a119_1 : pm_as (pm_cd pm_mm119) 1 = some (.invokevirtual 65, 3) := by decide +kernel
theorem pm_a119_4 : pm_as (pm_cd pm_mm119) 4 = some (.istore_n 2, 1) := by decide +kernel
theorem pm_a119_5 : pm_as (pm_cd pm_mm119) 5 = some (.aload_n 0, 1) := by decide +kernel
theorem pm_a119_6 : pm_as (pm_cd pm_mm119) 6 = some (.invokevirtual 65, 3) := by decide +kernel
theorem pm_a119_9 : pm_as (pm_cd pm_mm119) 9 = some (.istore_n 3, 1) := by decide +kernel
theorem pm_a119_10 : pm_as (pm_cd pm_mm119) 10 = some (.aload_n 0, 1) := by decide +kernel
theorem pm_a119_11 : pm_as (pm_cd pm_mm119) 11 = some (.getfield 27, 3) := by decide +kernel
theorem pm_a119_14 : pm_as (pm_cd pm_mm119) 14 = some (.iload_n 1, 1) := by decide +kernel
theorem pm_a119_15 : pm_as (pm_cd pm_mm119) 15 = some (.iload_n 2, 1) := by decide +kernel
theorem pm_a119_16 : pm_as (pm_cd pm_mm119) 16 = some (.invokestatic 130, 3) := by decide +kernel
theorem pm_a119_19 : pm_as (pm_cd pm_mm119) 19 = some (.aload_n 0, 1) := by decide +kernel
theorem pm_a119_20 : pm_as (pm_cd pm_mm119) 20 = some (.iload_n 3, 1) := by decide +kernel
theorem pm_a119_21 : pm_as (pm_cd pm_mm119) 21 = some (.invokevirtual 72, 3) := by decide +kernel
theorem pm_a119_24 : pm_as (pm_cd pm_mm119) 24 = some (.aload_n 0, 1) := by decide +kernel
theorem pm_a119_25 : pm_as (pm_cd pm_mm119) 25 = some (.iload_n 2, 1) := by decide +kernel
theorem pm_a119_26 : pm_as (pm_cd pm_mm119) 26 = some (.iload_n 3, 1) := by decide +kernel
theorem pm_a119_27 : pm_as (pm_cd pm_mm119) 27 = some (.invokevirtual 127, 3) := by decide +kernel
theorem pm_a119_30 : pm_as (pm_cd pm_mm119) 30 = some (.ireturn, 1) := by decide +kernel
theorem pm_a120_0 : pm_as (pm_cd pm_mm120) 0 = some (.aload_n 0, 1) := by decide +kernel
theorem pm_a120_1 : pm_as (pm_cd pm_mm120) 1 = some (.iload_n 1, 1) := by decide +kernel
theorem pm_a120_2 : pm_as (pm_cd pm_mm120) 2 = some (.iload_n 2, 1) := by decide +kernel
theorem pm_a120_3 : pm_as (pm_cd pm_mm120) 3 = some (.iconst 0, 1) := by decide +kernel
theorem pm_a120_4 : pm_as (pm_cd pm_mm120) 4 = some (.invokevirtual 149, 3) := by decide +kernel
theorem pm_a120_7 : pm_as (pm_cd pm_mm120) 7 = some (.istore_n 3, 1) := by decide +kernel
theorem pm_a120_8 : pm_as (pm_cd pm_mm120) 8 = some (.iconst 0, 1) := by decide +kernel
theorem pm_a120_9 : pm_as (pm_cd pm_mm120) 9 = some (.istore 4, 2) := by decide +kernel
theorem pm_a120_11 : pm_as (pm_cd pm_mm120) 11 = some (.iload 4, 2) := by decide +kernel
theorem pm_a120_13 : pm_as (pm_cd pm_mm120) 13 = some (.iload_n 3, 1) := by decide +kernel
theorem pm_a120_14 : pm_as (pm_cd pm_mm120) 14 = some (.if_icmp .ge 84, 3) := by decide +kernel
theorem pm_a120_17 : pm_as (pm_cd pm_mm120) 17 = some (.iload 4, 2) := by decide +kernel
theorem pm_a120_19 : pm_as (pm_cd pm_mm120) 19 = some (.sipush 2800, 3) := by decide +kernel
theorem pm_a120_22 : pm_as (pm_cd pm_mm120) 22 = some (.if_icmp .ge 76, 3) := by decide +kernel
theorem pm_a120_25 : pm_as (pm_cd pm_mm120) 25 = some (.aload_n 0, 1) := by decide +kernel
theorem pm_a120_26 : pm_as (pm_cd pm_mm120) 26 = some (.getfield 21, 3) := by decide +kernel
theorem pm_a120_29 : pm_as (pm_cd pm_mm120) 29 = some (.iload 4, 2) := by decide +kernel
theorem pm_a120_31 : pm_as (pm_cd pm_mm120) 31 = some (.invokestatic 121, 3) := by decide +kernel
theorem pm_a120_34 : pm_as (pm_cd pm_mm120) 34 = some (.istore 5, 2) := by decide +kernel
theorem pm_a120_36 : pm_as (pm_cd pm_mm120) 36 = some (.aload_n 0, 1) := by decide +kernel
theorem pm_a120_37 : pm_as (pm_cd pm_mm120) 37 = some (.iload 5, 2) := by decide +kernel
theorem pm_a120_39 : pm_as (pm_cd pm_mm120) 39 = some (.invokevirtual 152, 3) := by decide +kernel
theorem pm_a120_42 : pm_as (pm_cd pm_mm120) 42 = some (.istore 6, 2) := by decide +kernel
theorem pm_a120_44 : pm_as (pm_cd pm_mm120) 44 = some (.aload_n 0, 1) := by decide +kernel
theorem pm_a120_45 : pm_as (pm_cd pm_mm120) 45 = some (.aload_n 0, 1) := by decide +kernel
theorem pm_a120_46 : pm_as (pm_cd pm_mm120) 46 = some (.getfield 11, 3) := by decide +kernel
theorem pm_a120_49 : pm_as (pm_cd pm_mm120) 49 = some (.iload 5, 2) := by decide +kernel
theorem pm_a120_51 : pm_as (pm_cd pm_mm120) 51 = some (.invokestatic 121, 3) := by decide +kernel
theorem pm_a120_54 : pm_as (pm_cd pm_mm120) 54 = some (.aload_n 0, 1) := by decide +kernel
theorem pm_a120_55 : pm_as (pm_cd pm_mm120) 55 = some (.getfield 11, 3) := by decide +kernel
theorem pm_a120_58 : pm_as (pm_cd pm_mm120) 58 = some (.iload 6, 2) := by decide +kernel
theorem pm_a120_60 : pm_as (pm_cd pm_mm120) 60 = some (.invokestatic 121, 3) := by decide +kernel
theorem pm_a120_63 : pm_as (pm_cd pm_mm120) 63 = some (.iload_n 3, 1) := by decide +kernel
theorem pm_a120_64 : pm_as (pm_cd pm_mm120) 64 = some (.invokevirtual 149, 3) := by decide +kernel
theorem pm_a120_67 : pm_as (pm_cd pm_mm120) 67 = some (.istore_n 3, 1) := by decide +kernel
theorem pm_a120_68 : pm_as (pm_cd pm_mm120) 68 = some (.aload_n 0, 1) := by decide +kernel
theorem pm_a120_69 : pm_as (pm_cd pm_mm120) 69 = some (.aload_n 0, 1) := by decide +kernel
theorem pm_a120_70 : pm_as (pm_cd pm_mm120) 70 = some (.getfield 15, 3) := by decide +kernel
theorem pm_a120_73 : pm_as (pm_cd pm_mm120) 73 = some (.iload 5, 2) := by decide +kernel
theorem pm_a120_75 : pm_as (pm_cd pm_mm120) 75 = some (.invokestatic 121, 3) := by decide +kernel
theorem pm_a120_78 : pm_as (pm_cd pm_mm120) 78 = some (.aload_n 0, 1) := by decide +kernel
theorem pm_a120_79 : pm_as (pm_cd pm_mm120) 79 = some (.getfield 15, 3) := by decide +kernel
theorem pm_a120_82 : pm_as (pm_cd pm_mm120) 82 = some (.iload 6, 2) := by decide +kernel
theorem pm_a120_84 : pm_as (pm_cd pm_mm120) 84 = some (.invokestatic 121, 3) := by decide +kernel
theorem pm_a120_87 : pm_as (pm_cd pm_mm120) 87 = some (.iload_n 3, 1) := by decide +kernel
theorem pm_a120_88 : pm_as (pm_cd pm_mm120) 88 = some (.invokevirtual 149, 3) := by decide +kernel
theorem pm_a120_91 : pm_as (pm_cd pm_mm120) 91 = some (.istore_n 3, 1) := by decide +kernel
theorem pm_a120_92 : pm_as (pm_cd pm_mm120) 92 = some (.iinc 4 1, 3) := by decide +kernel
theorem pm_a120_95 : pm_as (pm_cd pm_mm120) 95 = some (.goto (-84), 3) := by decide +kernel
theorem pm_a120_98 : pm_as (pm_cd pm_mm120) 98 = some (.return_, 1) := by decide +kernel
theorem pm_a121_0 : pm_as (pm_cd pm_mm121) 0 = some (.aload_n 0, 1) := by decide +kernel
theorem pm_a121_1 : pm_as (pm_cd pm_mm121) 1 = some (.iload_n 1, 1) := by decide +kernel
theorem pm_a121_2 : pm_as (pm_cd pm_mm121) 2 = some (.invokevirtual 152, 3) := by decide +kernel
theorem pm_a121_5 : pm_as (pm_cd pm_mm121) 5 = some (.istore 4, 2) := by decide +kernel
theorem pm_a121_7 : pm_as (pm_cd pm_mm121) 7 = some (.aload_n 0, 1) := by decide +kernel
theorem pm_a121_8 : pm_as (pm_cd pm_mm121) 8 = some (.iload_n 2, 1) := by decide +kernel
theorem pm_a121_9 : pm_as (pm_cd pm_mm121) 9 = some (.invokevirtual 152, 3) := by decide +kernel
theorem pm_a121_12 : pm_as (pm_cd pm_mm121) 12 = some (.istore 5, 2) := by decide +kernel
theorem pm_a121_14 : pm_as (pm_cd pm_mm121) 14 = some (.iload 4, 2) := by decide +kernel
theorem pm_a121_16 : pm_as (pm_cd pm_mm121) 16 = some (.iload 5, 2) := by decide +kernel
theorem pm_a121_18 : pm_as (pm_cd pm_mm121) 18 = some (.if_icmp .ne 5, 3) := by decide +kernel
theorem pm_a121_21 : pm_as (pm_cd pm_mm121) 21 = some (.iload_n 3, 1) := by decide +kernel
theorem pm_a121_22 : pm_as (pm_cd pm_mm121) 22 = some (.ireturn, 1) := by decide +kernel
theorem pm_a121_23 : pm_as (pm_cd pm_mm121) 23 = some (.aload_n 0, 1) := by decide +kernel
theorem pm_a121_24 : pm_as (pm_cd pm_mm121) 24 = some (.iload 4, 2) := by decide +kernel
theorem pm_a121_26 : pm_as (pm_cd pm_mm121) 26 = some (.invokevirtual 155, 3) := by decide +kernel
theorem pm_a121_29 : pm_as (pm_cd pm_mm121) 29 = some (.ifCond .eq 31, 3) := by decide +kernel
theorem pm_a121_32 : pm_as (pm_cd pm_mm121) 32 = some (.aload_n 0, 1) := by decide +kernel
theorem pm_a121_33 : pm_as (pm_cd pm_mm121) 33 = some (.iload 5, 2) := by decide +kernel
theorem pm_a121_35 : pm_as (pm_cd pm_mm121) 35 = some (.invokevirtual 155, 3) := by decide +kernel
theorem pm_a121_38 : pm_as (pm_cd pm_mm121) 38 = some (.ifCond .eq 22, 3) := by decide +kernel
theorem pm_a121_41 : pm_as (pm_cd pm_mm121) 41 = some (.aload_n 0, 1) := by decide +kernel
theorem pm_a121_42 : pm_as (pm_cd pm_mm121) 42 = some (.getfield 18, 3) := by decide +kernel
theorem pm_a121_45 : pm_as (pm_cd pm_mm121) 45 = some (.iload 4, 2) := by decide +kernel
theorem pm_a121_47 : pm_as (pm_cd pm_mm121) 47 = some (.iload 5, 2) := by decide +kernel
theorem pm_a121_49 : pm_as (pm_cd pm_mm121) 49 = some (.invokestatic 130, 3) := by decide +kernel
theorem pm_a121_52 : pm_as (pm_cd pm_mm121) 52 = some (.aload_n 0, 1) := by decide +kernel
theorem pm_a121_53 : pm_as (pm_cd pm_mm121) 53 = some (.iload 4, 2) := by decide +kernel
theorem pm_a121_55 : pm_as (pm_cd pm_mm121) 55 = some (.iload_n 3, 1) := by decide +kernel
theorem pm_a121_56 : pm_as (pm_cd pm_mm121) 56 = some (.invokevirtual 159, 3) := by decide +kernel
theorem pm_a121_59 : pm_as (pm_cd pm_mm121) 59 = some (.ireturn, 1) := by decide +kernel
theorem pm_a121_60 : pm_as (pm_cd pm_mm121) 60 = some (.aload_n 0, 1) := by decide +kernel
theorem pm_a121_61 : pm_as (pm_cd pm_mm121) 61 = some (.iload 4, 2) := by decide +kernel
theorem pm_a121_63 : pm_as (pm_cd pm_mm121) 63 = some (.invokevirtual 155, 3) := by decide +kernel
theorem pm_a121_66 : pm_as (pm_cd pm_mm121) 66 = some (.ifCond .eq 17, 3) := by decide +kernel
theorem pm_a121_69 : pm_as (pm_cd pm_mm121) 69 = some (.aload_n 0, 1) := by decide +kernel
theorem pm_a121_70 : pm_as (pm_cd pm_mm121) 70 = some (.getfield 18, 3) := by decide +kernel
theorem pm_a121_73 : pm_as (pm_cd pm_mm121) 73 = some (.iload 5, 2) := by decide +kernel
theorem pm_a121_75 : pm_as (pm_cd pm_mm121) 75 = some (.iload 4, 2) := by decide +kernel
theorem pm_a121_77 : pm_as (pm_cd pm_mm121) 77 = some (.invokestatic 130, 3) := by decide +kernel
theorem pm_a121_80 : pm_as (pm_cd pm_mm121) 80 = some (.goto 14, 3) := by decide +kernel
theorem pm_a121_83 : pm_as (pm_cd pm_mm121) 83 = some (.aload_n 0, 1) := by decide +kernel
theorem pm_a121_84 : pm_as (pm_cd pm_mm121) 84 = some (.getfield 18, 3) := by decide +kernel
theorem pm_a121_87 : pm_as (pm_cd pm_mm121) 87 = some (.iload 4, 2) := by decide +kernel
theorem pm_a121_89 : pm_as (pm_cd pm_mm121) 89 = some (.iload 5, 2) := by decide +kernel
theorem pm_a121_91 : pm_as (pm_cd pm_mm121) 91 = some (.invokestatic 130, 3) := by decide +kernel
theorem pm_a121_94 : pm_as (pm_cd pm_mm121) 94 = some (.iload_n 3, 1) := by decide +kernel
theorem pm_a121_95 : pm_as (pm_cd pm_mm121) 95 = some (.ireturn, 1) := by decide +kernel
theorem pm_a122_0 : pm_as (pm_cd pm_mm122) 0 = some (.iload_n 1, 1) := by decide +kernel
theorem pm_a122_1 : pm_as (pm_cd pm_mm122) 1 = some (.istore_n 2, 1) := by decide +kernel
theorem pm_a122_2 : pm_as (pm_cd pm_mm122) 2 = some (.iconst 0, 1) := by decide +kernel
theorem pm_a122_3 : pm_as (pm_cd pm_mm122) 3 = some (.istore_n 3, 1) := by decide +kernel
theorem pm_a122_4 : pm_as (pm_cd pm_mm122) 4 = some (.iload_n 3, 1) := by decide +kernel
theorem pm_a122_5 : pm_as (pm_cd pm_mm122) 5 = some (.sipush 2800, 3) := by decide +kernel
theorem pm_a122_8 : pm_as (pm_cd pm_mm122) 8 = some (.if_icmp .ge 53, 3) := by decide +kernel
theorem pm_a122_11 : pm_as (pm_cd pm_mm122) 11 = some (.aload_n 0, 1) := by decide +kernel
theorem pm_a122_12 : pm_as (pm_cd pm_mm122) 12 = some (.getfield 18, 3) := by decide +kernel
theorem pm_a122_15 : pm_as (pm_cd pm_mm122) 15 = some (.iload_n 2, 1) := by decide +kernel
theorem pm_a122_16 : pm_as (pm_cd pm_mm122) 16 = some (.invokestatic 121, 3) := by decide +kernel
theorem pm_a122_19 : pm_as (pm_cd pm_mm122) 19 = some (.iload_n 2, 1) := by decide +kernel
theorem pm_a122_20 : pm_as (pm_cd pm_mm122) 20 = some (.if_icmp .eq 41, 3) := by decide +kernel
theorem pm_a122_23 : pm_as (pm_cd pm_mm122) 23 = some (.aload_n 0, 1) := by decide +kernel
theorem pm_a122_24 : pm_as (pm_cd pm_mm122) 24 = some (.getfield 18, 3) := by decide +kernel
theorem pm_a122_27 : pm_as (pm_cd pm_mm122) 27 = some (.iload_n 2, 1) := by decide +kernel
theorem pm_a122_28 : pm_as (pm_cd pm_mm122) 28 = some (.aload_n 0, 1) := by decide +kernel
theorem pm_a122_29 : pm_as (pm_cd pm_mm122) 29 = some (.getfield 18, 3) := by decide +kernel
theorem pm_a122_32 : pm_as (pm_cd pm_mm122) 32 = some (.aload_n 0, 1) := by decide +kernel
theorem pm_a122_33 : pm_as (pm_cd pm_mm122) 33 = some (.getfield 18, 3) := by decide +kernel
theorem pm_a122_36 : pm_as (pm_cd pm_mm122) 36 = some (.iload_n 2, 1) := by decide +kernel
theorem pm_a122_37 : pm_as (pm_cd pm_mm122) 37 = some (.invokestatic 121, 3) := by decide +kernel
theorem pm_a122_40 : pm_as (pm_cd pm_mm122) 40 = some (.invokestatic 121, 3) := by decide +kernel
theorem pm_a122_43 : pm_as (pm_cd pm_mm122) 43 = some (.invokestatic 130, 3) := by decide +kernel
theorem pm_a122_46 : pm_as (pm_cd pm_mm122) 46 = some (.aload_n 0, 1) := by decide +kernel
theorem pm_a122_47 : pm_as (pm_cd pm_mm122) 47 = some (.getfield 18, 3) := by decide +kernel
theorem pm_a122_50 : pm_as (pm_cd pm_mm122) 50 = some (.iload_n 2, 1) := by decide +kernel
theorem pm_a122_51 : pm_as (pm_cd pm_mm122) 51 = some (.invokestatic 121, 3) := by decide +kernel
theorem pm_a122_54 : pm_as (pm_cd pm_mm122) 54 = some (.istore_n 2, 1) := by decide +kernel
theorem pm_a122_55 : pm_as (pm_cd pm_mm122) 55 = some (.iinc 3 1, 3) := by decide +kernel
theorem pm_a122_58 : pm_as (pm_cd pm_mm122) 58 = some (.goto (-54), 3) := by decide +kernel
theorem pm_a122_61 : pm_as (pm_cd pm_mm122) 61 = some (.iload_n 2, 1) := by decide +kernel
theorem pm_a122_62 : pm_as (pm_cd pm_mm122) 62 = some (.ireturn, 1) := by decide +kernel
theorem pm_a123_0 : pm_as (pm_cd pm_mm123) 0 = some (.iload_n 1, 1) := by decide +kernel
theorem pm_a123_1 : pm_as (pm_cd pm_mm123) 1 = some (.ifCond .lt 15, 3) := by decide +kernel
theorem pm_a123_4 : pm_as (pm_cd pm_mm123) 4 = some (.iload_n 1, 1) := by decide +kernel
theorem pm_a123_5 : pm_as (pm_cd pm_mm123) 5 = some (.aload_n 0, 1) := by decide +kernel
theorem pm_a123_6 : pm_as (pm_cd pm_mm123) 6 = some (.arraylength, 1) := by decide +kernel
theorem pm_a123_7 : pm_as (pm_cd pm_mm123) 7 = some (.if_icmp .ge 9, 3) := by decide +kernel
theorem pm_a123_10 : pm_as (pm_cd pm_mm123) 10 = some (.aload_n 0, 1) := by decide +kernel
theorem pm_a123_11 : pm_as (pm_cd pm_mm123) 11 = some (.iload_n 1, 1) := by decide +kernel
theorem pm_a123_12 : pm_as (pm_cd pm_mm123) 12 = some (.iaload, 1) := by decide +kernel
theorem pm_a123_13 : pm_as (pm_cd pm_mm123) 13 = some (.goto 4, 3) := by decide +kernel
theorem pm_a123_16 : pm_as (pm_cd pm_mm123) 16 = some (.iconst 0, 1) := by decide +kernel
theorem pm_a123_17 : pm_as (pm_cd pm_mm123) 17 = some (.ireturn, 1) := by decide +kernel
theorem pm_a124_0 : pm_as (pm_cd pm_mm124) 0 = some (.aload_n 0, 1) := by decide +kernel
theorem pm_a124_1 : pm_as (pm_cd pm_mm124) 1 = some (.getfield 11, 3) := by decide +kernel
theorem pm_a124_4 : pm_as (pm_cd pm_mm124) 4 = some (.iload_n 1, 1) := by decide +kernel
theorem pm_a124_5 : pm_as (pm_cd pm_mm124) 5 = some (.invokestatic 121, 3) := by decide +kernel
theorem pm_a124_8 : pm_as (pm_cd pm_mm124) 8 = some (.iconst (-1), 1) := by decide +kernel
theorem pm_a124_9 : pm_as (pm_cd pm_mm124) 9 = some (.if_icmp .eq 7, 3) := by decide +kernel
theorem pm_a124_12 : pm_as (pm_cd pm_mm124) 12 = some (.iconst 1, 1) := by decide +kernel
theorem pm_a124_13 : pm_as (pm_cd pm_mm124) 13 = some (.goto 4, 3) := by decide +kernel
theorem pm_a124_16 : pm_as (pm_cd pm_mm124) 16 = some (.iconst 0, 1) := by decide +kernel
theorem pm_a124_17 : pm_as (pm_cd pm_mm124) 17 = some (.ireturn, 1) := by decide +kernel
theorem pm_a125_0 : pm_as (pm_cd pm_mm125) 0 = some (.iload_n 2, 1) := by decide +kernel
theorem pm_a125_1 : pm_as (pm_cd pm_mm125) 1 = some (.ifCond .lt 10, 3) := by decide +kernel
theorem pm_a125_4 : pm_as (pm_cd pm_mm125) 4 = some (.iload_n 2, 1) := by decide +kernel
theorem pm_a125_5 : pm_as (pm_cd pm_mm125) 5 = some (.sipush 2800, 3) := by decide +kernel
theorem pm_a125_8 : pm_as (pm_cd pm_mm125) 8 = some (.if_icmp .lt 5, 3) := by decide +kernel
theorem pm_a125_11 : pm_as (pm_cd pm_mm125) 11 = some (.iload_n 2, 1) := by decide +kernel
theorem pm_a125_12 : pm_as (pm_cd pm_mm125) 12 = some (.ireturn, 1) := by decide +kernel
theorem pm_a125_13 : pm_as (pm_cd pm_mm125) 13 = some (.aload_n 0, 1) := by decide +kernel
theorem pm_a125_14 : pm_as (pm_cd pm_mm125) 14 = some (.getfield 21, 3) := by decide +kernel
theorem pm_a125_17 : pm_as (pm_cd pm_mm125) 17 = some (.iload_n 2, 1) := by decide +kernel
theorem pm_a125_18 : pm_as (pm_cd pm_mm125) 18 = some (.iload_n 1, 1) := by decide +kernel
theorem pm_a125_19 : pm_as (pm_cd pm_mm125) 19 = some (.invokestatic 130, 3) := by decide +kernel
theorem pm_a125_22 : pm_as (pm_cd pm_mm125) 22 = some (.iload_n 2, 1) := by decide +kernel
theorem pm_a125_23 : pm_as (pm_cd pm_mm125) 23 = some (.iconst 1, 1) := by decide +kernel
theorem pm_a125_24 : pm_as (pm_cd pm_mm125) 24 = some (.iadd, 1) := by decide +kernel
theorem pm_a125_25 : pm_as (pm_cd pm_mm125) 25 = some (.ireturn, 1) := by decide +kernel
theorem pm_a126_0 : pm_as (pm_cd pm_mm126) 0 = some (.iload_n 1, 1) := by decide +kernel
theorem pm_a126_1 : pm_as (pm_cd pm_mm126) 1 = some (.tableswitch 79 2 5 #[31, 48, 61, 70], 31) := by decide +kernel
theorem pm_a126_32 : pm_as (pm_cd pm_mm126) 32 = some (.aload_n 0, 1) := by decide +kernel
theorem pm_a126_33 : pm_as (pm_cd pm_mm126) 33 = some (.aload_n 0, 1) := by decide +kernel
theorem pm_a126_34 : pm_as (pm_cd pm_mm126) 34 = some (.invokevirtual 65, 3) := by decide +kernel
theorem pm_a126_37 : pm_as (pm_cd pm_mm126) 37 = some (.aload_n 0, 1) := by decide +kernel
theorem pm_a126_38 : pm_as (pm_cd pm_mm126) 38 = some (.invokevirtual 65, 3) := by decide +kernel
theorem pm_a126_41 : pm_as (pm_cd pm_mm126) 41 = some (.aload_n 0, 1) := by decide +kernel
theorem pm_a126_42 : pm_as (pm_cd pm_mm126) 42 = some (.invokevirtual 65, 3) := by decide +kernel
theorem pm_a126_45 : pm_as (pm_cd pm_mm126) 45 = some (.invokevirtual 134, 3) := by decide +kernel
theorem pm_a126_48 : pm_as (pm_cd pm_mm126) 48 = some (.ireturn, 1) := by decide +kernel
theorem pm_a126_49 : pm_as (pm_cd pm_mm126) 49 = some (.aload_n 0, 1) := by decide +kernel
theorem pm_a126_50 : pm_as (pm_cd pm_mm126) 50 = some (.aload_n 0, 1) := by decide +kernel
theorem pm_a126_51 : pm_as (pm_cd pm_mm126) 51 = some (.invokevirtual 65, 3) := by decide +kernel
theorem pm_a126_54 : pm_as (pm_cd pm_mm126) 54 = some (.aload_n 0, 1) := by decide +kernel
theorem pm_a126_55 : pm_as (pm_cd pm_mm126) 55 = some (.invokevirtual 65, 3) := by decide +kernel
theorem pm_a126_58 : pm_as (pm_cd pm_mm126) 58 = some (.invokevirtual 138, 3) := by decide +kernel
theorem pm_a126_61 : pm_as (pm_cd pm_mm126) 61 = some (.ireturn, 1) := by decide +kernel
theorem pm_a126_62 : pm_as (pm_cd pm_mm126) 62 = some (.aload_n 0, 1) := by decide +kernel
theorem pm_a126_63 : pm_as (pm_cd pm_mm126) 63 = some (.aload_n 0, 1) := by decide +kernel
theorem pm_a126_64 : pm_as (pm_cd pm_mm126) 64 = some (.invokevirtual 65, 3) := by decide +kernel
theorem pm_a126_67 : pm_as (pm_cd pm_mm126) 67 = some (.invokevirtual 141, 3) := by decide +kernel
theorem pm_a126_70 : pm_as (pm_cd pm_mm126) 70 = some (.ireturn, 1) := by decide +kernel
theorem pm_a126_71 : pm_as (pm_cd pm_mm126) 71 = some (.aload_n 0, 1) := by decide +kernel
theorem pm_a126_72 : pm_as (pm_cd pm_mm126) 72 = some (.aload_n 0, 1) := by decide +kernel
theorem pm_a126_73 : pm_as (pm_cd pm_mm126) 73 = some (.getfield 69, 3) := by decide +kernel
theorem pm_a126_76 : pm_as (pm_cd pm_mm126) 76 = some (.invokevirtual 141, 3) := by decide +kernel
theorem pm_a126_79 : pm_as (pm_cd pm_mm126) 79 = some (.ireturn, 1) := by decide +kernel
theorem pm_a126_80 : pm_as (pm_cd pm_mm126) 80 = some (.aload_n 0, 1) := by decide +kernel
theorem pm_a126_81 : pm_as (pm_cd pm_mm126) 81 = some (.getfield 69, 3) := by decide +kernel
theorem pm_a126_84 : pm_as (pm_cd pm_mm126) 84 = some (.ireturn, 1) := by decide +kernel
theorem pm_a127_0 : pm_as (pm_cd pm_mm127) 0 = some (.aload_n 0, 1) := by decide +kernel
theorem pm_a127_1 : pm_as (pm_cd pm_mm127) 1 = some (.iload_n 1, 1) := by decide +kernel
theorem pm_a127_2 : pm_as (pm_cd pm_mm127) 2 = some (.aload_n 0, 1) := by decide +kernel
theorem pm_a127_3 : pm_as (pm_cd pm_mm127) 3 = some (.iload_n 2, 1) := by decide +kernel
theorem pm_a127_4 : pm_as (pm_cd pm_mm127) 4 = some (.iload_n 3, 1) := by decide +kernel
theorem pm_a127_5 : pm_as (pm_cd pm_mm127) 5 = some (.invokevirtual 127, 3) := by decide +kernel
theorem pm_a127_8 : pm_as (pm_cd pm_mm127) 8 = some (.invokevirtual 127, 3) := by decide +kernel
theorem pm_a127_11 : pm_as (pm_cd pm_mm127) 11 = some (.istore 4, 2) := by decide +kernel
theorem pm_a127_13 : pm_as (pm_cd pm_mm127) 13 = some (.aload_n 0, 1) := by decide +kernel
theorem pm_a127_14 : pm_as (pm_cd pm_mm127) 14 = some (.iload 4, 2) := by decide +kernel
theorem pm_a127_16 : pm_as (pm_cd pm_mm127) 16 = some (.aload_n 0, 1) := by decide +kernel
theorem pm_a127_17 : pm_as (pm_cd pm_mm127) 17 = some (.aload_n 0, 1) := by decide +kernel
theorem pm_a127_18 : pm_as (pm_cd pm_mm127) 18 = some (.iload_n 1, 1) := by decide +kernel
theorem pm_a127_19 : pm_as (pm_cd pm_mm127) 19 = some (.iload_n 2, 1) := by decide +kernel
theorem pm_a127_20 : pm_as (pm_cd pm_mm127) 20 = some (.invokevirtual 127, 3) := by decide +kernel
theorem pm_a127_23 : pm_as (pm_cd pm_mm127) 23 = some (.aload_n 0, 1) := by decide +kernel
theorem pm_a127_24 : pm_as (pm_cd pm_mm127) 24 = some (.iload_n 1, 1) := by decide +kernel
theorem pm_a127_25 : pm_as (pm_cd pm_mm127) 25 = some (.iload_n 3, 1) := by decide +kernel
theorem pm_a127_26 : pm_as (pm_cd pm_mm127) 26 = some (.invokevirtual 127, 3) := by decide +kernel
theorem pm_a127_29 : pm_as (pm_cd pm_mm127) 29 = some (.invokevirtual 127, 3) := by decide +kernel
theorem pm_a127_32 : pm_as (pm_cd pm_mm127) 32 = some (.invokevirtual 127, 3) := by decide +kernel
theorem pm_a127_35 : pm_as (pm_cd pm_mm127) 35 = some (.ireturn, 1) := by decide +kernel
theorem pm_a128_0 : pm_as (pm_cd pm_mm128) 0 = some (.aload_n 0, 1) := by decide +kernel
theorem pm_a128_1 : pm_as (pm_cd pm_mm128) 1 = some (.iload_n 1, 1) := by decide +kernel
theorem pm_a128_2 : pm_as (pm_cd pm_mm128) 2 = some (.aload_n 0, 1) := by decide +kernel
theorem pm_a128_3 : pm_as (pm_cd pm_mm128) 3 = some (.iload_n 2, 1) := by decide +kernel
theorem pm_a128_4 : pm_as (pm_cd pm_mm128) 4 = some (.iload_n 1, 1) := by decide +kernel
theorem pm_a128_5 : pm_as (pm_cd pm_mm128) 5 = some (.invokevirtual 127, 3) := by decide +kernel
theorem pm_a128_8 : pm_as (pm_cd pm_mm128) 8 = some (.invokevirtual 127, 3) := by decide +kernel
theorem pm_a128_11 : pm_as (pm_cd pm_mm128) 11 = some (.ireturn, 1) := by decide +kernel
theorem pm_a129_0 : pm_as (pm_cd pm_mm129) 0 = some (.aload_n 0, 1) := by decide +kernel
theorem pm_a129_1 : pm_as (pm_cd pm_mm129) 1 = some (.iload_n 1, 1) := by decide +kernel
theorem pm_a129_2 : pm_as (pm_cd pm_mm129) 2 = some (.iload_n 1, 1) := by decide +kernel
theorem pm_a129_3 : pm_as (pm_cd pm_mm129) 3 = some (.invokevirtual 127, 3) := by decide +kernel
theorem pm_a129_6 : pm_as (pm_cd pm_mm129) 6 = some (.ireturn, 1) := by decide +kernel
theorem pm_a130_0 : pm_as (pm_cd pm_mm130) 0 = some (.aload_n 0, 1) := by decide +kernel
theorem pm_a130_1 : pm_as (pm_cd pm_mm130) 1 = some (.invokevirtual 162, 3) := by decide +kernel
theorem pm_a130_4 : pm_as (pm_cd pm_mm130) 4 = some (.iconst 0, 1) := by decide +kernel
theorem pm_a130_5 : pm_as (pm_cd pm_mm130) 5 = some (.istore_n 1, 1) := by decide +kernel
theorem pm_a130_6 : pm_as (pm_cd pm_mm130) 6 = some (.iconst 0, 1) := by decide +kernel
theorem pm_a130_7 : pm_as (pm_cd pm_mm130) 7 = some (.istore_n 2, 1) := by decide +kernel
theorem pm_a130_8 : pm_as (pm_cd pm_mm130) 8 = some (.iconst 0, 1) := by decide +kernel
theorem pm_a130_9 : pm_as (pm_cd pm_mm130) 9 = some (.istore_n 3, 1) := by decide +kernel
theorem pm_a130_10 : pm_as (pm_cd pm_mm130) 10 = some (.iload_n 3, 1) := by decide +kernel
theorem pm_a130_11 : pm_as (pm_cd pm_mm130) 11 = some (.aload_n 0, 1) := by decide +kernel
theorem pm_a130_12 : pm_as (pm_cd pm_mm130) 12 = some (.getfield 49, 3) := by decide +kernel
theorem pm_a130_15 : pm_as (pm_cd pm_mm130) 15 = some (.if_icmp .ge 43, 3) := by decide +kernel
theorem pm_a130_18 : pm_as (pm_cd pm_mm130) 18 = some (.aload_n 0, 1) := by decide +kernel
theorem pm_a130_19 : pm_as (pm_cd pm_mm130) 19 = some (.iload_n 3, 1) := by decide +kernel
theorem pm_a130_20 : pm_as (pm_cd pm_mm130) 20 = some (.invokevirtual 152, 3) := by decide +kernel
theorem pm_a130_23 : pm_as (pm_cd pm_mm130) 23 = some (.iload_n 3, 1) := by decide +kernel
theorem pm_a130_24 : pm_as (pm_cd pm_mm130) 24 = some (.if_icmp .ne 28, 3) := by decide +kernel
theorem pm_a130_27 : pm_as (pm_cd pm_mm130) 27 = some (.iinc 1 1, 3) := by decide +kernel
theorem pm_a130_30 : pm_as (pm_cd pm_mm130) 30 = some (.aload_n 0, 1) := by decide +kernel
theorem pm_a130_31 : pm_as (pm_cd pm_mm130) 31 = some (.getfield 24, 3) := by decide +kernel
theorem pm_a130_34 : pm_as (pm_cd pm_mm130) 34 = some (.iload_n 3, 1) := by decide +kernel
theorem pm_a130_35 : pm_as (pm_cd pm_mm130) 35 = some (.invokestatic 121, 3) := by decide +kernel
theorem pm_a130_38 : pm_as (pm_cd pm_mm130) 38 = some (.ifCond .ne 12, 3) := by decide +kernel
theorem pm_a130_41 : pm_as (pm_cd pm_mm130) 41 = some (.aload_n 0, 1) := by decide +kernel
theorem pm_a130_42 : pm_as (pm_cd pm_mm130) 42 = some (.iload_n 3, 1) := by decide +kernel
theorem pm_a130_43 : pm_as (pm_cd pm_mm130) 43 = some (.iload_n 2, 1) := by decide +kernel
theorem pm_a130_44 : pm_as (pm_cd pm_mm130) 44 = some (.invokevirtual 159, 3) := by decide +kernel
theorem pm_a130_47 : pm_as (pm_cd pm_mm130) 47 = some (.goto 4, 3) := by decide +kernel
theorem pm_a130_50 : pm_as (pm_cd pm_mm130) 50 = some (.iload_n 2, 1) := by decide +kernel
theorem pm_a130_51 : pm_as (pm_cd pm_mm130) 51 = some (.istore_n 2, 1) := by decide +kernel
theorem pm_a130_52 : pm_as (pm_cd pm_mm130) 52 = some (.iinc 3 1, 3) := by decide +kernel
theorem pm_a130_55 : pm_as (pm_cd pm_mm130) 55 = some (.goto (-45), 3) := by decide +kernel
theorem pm_a130_58 : pm_as (pm_cd pm_mm130) 58 = some (.iconst 0, 1) := by decide +kernel
theorem pm_a130_59 : pm_as (pm_cd pm_mm130) 59 = some (.istore_n 3, 1) := by decide +kernel
theorem pm_a130_60 : pm_as (pm_cd pm_mm130) 60 = some (.iload_n 3, 1) := by decide +kernel
theorem pm_a130_61 : pm_as (pm_cd pm_mm130) 61 = some (.iload_n 2, 1) := by decide +kernel
theorem pm_a130_62 : pm_as (pm_cd pm_mm130) 62 = some (.if_icmp .ge 73, 3) := by decide +kernel
theorem pm_a130_65 : pm_as (pm_cd pm_mm130) 65 = some (.iload_n 3, 1) := by decide +kernel
theorem pm_a130_66 : pm_as (pm_cd pm_mm130) 66 = some (.sipush 2800, 3) := by decide +kernel
theorem pm_a130_69 : pm_as (pm_cd pm_mm130) 69 = some (.if_icmp .ge 66, 3) := by decide +kernel
theorem pm_a130_72 : pm_as (pm_cd pm_mm130) 72 = some (.aload_n 0, 1) := by decide +kernel
theorem pm_a130_73 : pm_as (pm_cd pm_mm130) 73 = some (.getfield 21, 3) := by decide +kernel
theorem pm_a130_76 : pm_as (pm_cd pm_mm130) 76 = some (.iload_n 3, 1) := by decide +kernel
theorem pm_a130_77 : pm_as (pm_cd pm_mm130) 77 = some (.invokestatic 121, 3) := by decide +kernel
theorem pm_a130_80 : pm_as (pm_cd pm_mm130) 80 = some (.istore 4, 2) := by decide +kernel
theorem pm_a130_82 : pm_as (pm_cd pm_mm130) 82 = some (.aload_n 0, 1) := by decide +kernel
theorem pm_a130_83 : pm_as (pm_cd pm_mm130) 83 = some (.iload 4, 2) := by decide +kernel
theorem pm_a130_85 : pm_as (pm_cd pm_mm130) 85 = some (.invokevirtual 155, 3) := by decide +kernel
theorem pm_a130_88 : pm_as (pm_cd pm_mm130) 88 = some (.ifCond .eq 41, 3) := by decide +kernel
theorem pm_a130_91 : pm_as (pm_cd pm_mm130) 91 = some (.aload_n 0, 1) := by decide +kernel
theorem pm_a130_92 : pm_as (pm_cd pm_mm130) 92 = some (.aload_n 0, 1) := by decide +kernel
theorem pm_a130_93 : pm_as (pm_cd pm_mm130) 93 = some (.aload_n 0, 1) := by decide +kernel
theorem pm_a130_94 : pm_as (pm_cd pm_mm130) 94 = some (.getfield 11, 3) := by decide +kernel
theorem pm_a130_97 : pm_as (pm_cd pm_mm130) 97 = some (.iload 4, 2) := by decide +kernel
theorem pm_a130_99 : pm_as (pm_cd pm_mm130) 99 = some (.invokestatic 121, 3) := by decide +kernel
theorem pm_a130_102 : pm_as (pm_cd pm_mm130) 102 = some (.invokevirtual 152, 3) := by decide +kernel
theorem pm_a130_105 : pm_as (pm_cd pm_mm130) 105 = some (.iload_n 2, 1) := by decide +kernel
theorem pm_a130_106 : pm_as (pm_cd pm_mm130) 106 = some (.invokevirtual 165, 3) := by decide +kernel
theorem pm_a130_109 : pm_as (pm_cd pm_mm130) 109 = some (.istore_n 2, 1) := by decide +kernel
theorem pm_a130_110 : pm_as (pm_cd pm_mm130) 110 = some (.aload_n 0, 1) := by decide +kernel
theorem pm_a130_111 : pm_as (pm_cd pm_mm130) 111 = some (.aload_n 0, 1) := by decide +kernel
theorem pm_a130_112 : pm_as (pm_cd pm_mm130) 112 = some (.aload_n 0, 1) := by decide +kernel
theorem pm_a130_113 : pm_as (pm_cd pm_mm130) 113 = some (.getfield 15, 3) := by decide +kernel
theorem pm_a130_116 : pm_as (pm_cd pm_mm130) 116 = some (.iload 4, 2) := by decide +kernel
theorem pm_a130_118 : pm_as (pm_cd pm_mm130) 118 = some (.invokestatic 121, 3) := by decide +kernel
theorem pm_a130_121 : pm_as (pm_cd pm_mm130) 121 = some (.invokevirtual 152, 3) := by decide +kernel
theorem pm_a130_124 : pm_as (pm_cd pm_mm130) 124 = some (.iload_n 2, 1) := by decide +kernel
theorem pm_a130_125 : pm_as (pm_cd pm_mm130) 125 = some (.invokevirtual 165, 3) := by decide +kernel
theorem pm_a130_128 : pm_as (pm_cd pm_mm130) 128 = some (.istore_n 2, 1) := by decide +kernel
theorem pm_a130_129 : pm_as (pm_cd pm_mm130) 129 = some (.iinc 3 1, 3) := by decide +kernel
theorem pm_a130_132 : pm_as (pm_cd pm_mm130) 132 = some (.goto (-72), 3) := by decide +kernel
theorem pm_a130_135 : pm_as (pm_cd pm_mm130) 135 = some (.iload_n 2, 1) := by decide +kernel
theorem pm_a130_136 : pm_as (pm_cd pm_mm130) 136 = some (.iload_n 1, 1) := by decide +kernel
theorem pm_a130_137 : pm_as (pm_cd pm_mm130) 137 = some (.if_icmp .ge 7, 3) := by decide +kernel
theorem pm_a130_140 : pm_as (pm_cd pm_mm130) 140 = some (.iconst 1, 1) := by decide +kernel
theorem pm_a130_141 : pm_as (pm_cd pm_mm130) 141 = some (.goto 4, 3) := by decide +kernel
theorem pm_a130_144 : pm_as (pm_cd pm_mm130) 144 = some (.iconst 0, 1) := by decide +kernel
theorem pm_a130_145 : pm_as (pm_cd pm_mm130) 145 = some (.ireturn, 1) := by decide +kernel
theorem pm_a131_0 : pm_as (pm_cd pm_mm131) 0 = some (.aload_n 0, 1) := by decide +kernel
theorem pm_a131_1 : pm_as (pm_cd pm_mm131) 1 = some (.invokevirtual 168, 3) := by decide +kernel
theorem pm_a131_4 : pm_as (pm_cd pm_mm131) 4 = some (.iconst 0, 1) := by decide +kernel
theorem pm_a131_5 : pm_as (pm_cd pm_mm131) 5 = some (.istore_n 1, 1) := by decide +kernel
theorem pm_a131_6 : pm_as (pm_cd pm_mm131) 6 = some (.iload_n 1, 1) := by decide +kernel
theorem pm_a131_7 : pm_as (pm_cd pm_mm131) 7 = some (.aload_n 0, 1) := by decide +kernel
theorem pm_a131_8 : pm_as (pm_cd pm_mm131) 8 = some (.getfield 49, 3) := by decide +kernel
theorem pm_a131_11 : pm_as (pm_cd pm_mm131) 11 = some (.if_icmp .ge 58, 3) := by decide +kernel
theorem pm_a131_14 : pm_as (pm_cd pm_mm131) 14 = some (.aload_n 0, 1) := by decide +kernel
theorem pm_a131_15 : pm_as (pm_cd pm_mm131) 15 = some (.iload_n 1, 1) := by decide +kernel
theorem pm_a131_16 : pm_as (pm_cd pm_mm131) 16 = some (.invokevirtual 152, 3) := by decide +kernel
theorem pm_a131_19 : pm_as (pm_cd pm_mm131) 19 = some (.iload_n 1, 1) := by decide +kernel
theorem pm_a131_20 : pm_as (pm_cd pm_mm131) 20 = some (.if_icmp .ne 43, 3) := by decide +kernel
theorem pm_a131_23 : pm_as (pm_cd pm_mm131) 23 = some (.aload_n 0, 1) := by decide +kernel
theorem pm_a131_24 : pm_as (pm_cd pm_mm131) 24 = some (.iload_n 1, 1) := by decide +kernel
theorem pm_a131_25 : pm_as (pm_cd pm_mm131) 25 = some (.invokevirtual 155, 3) := by decide +kernel
theorem pm_a131_28 : pm_as (pm_cd pm_mm131) 28 = some (.ifCond .eq 35, 3) := by decide +kernel
theorem pm_a131_31 : pm_as (pm_cd pm_mm131) 31 = some (.aload_n 0, 1) := by decide +kernel
theorem pm_a131_32 : pm_as (pm_cd pm_mm131) 32 = some (.aload_n 0, 1) := by decide +kernel
theorem pm_a131_33 : pm_as (pm_cd pm_mm131) 33 = some (.aload_n 0, 1) := by decide +kernel
theorem pm_a131_34 : pm_as (pm_cd pm_mm131) 34 = some (.getfield 11, 3) := by decide +kernel
theorem pm_a131_37 : pm_as (pm_cd pm_mm131) 37 = some (.iload_n 1, 1) := by decide +kernel
theorem pm_a131_38 : pm_as (pm_cd pm_mm131) 38 = some (.invokestatic 121, 3) := by decide +kernel
theorem pm_a131_41 : pm_as (pm_cd pm_mm131) 41 = some (.invokevirtual 152, 3) := by decide +kernel
theorem pm_a131_44 : pm_as (pm_cd pm_mm131) 44 = some (.invokevirtual 171, 3) := by decide +kernel
theorem pm_a131_47 : pm_as (pm_cd pm_mm131) 47 = some (.aload_n 0, 1) := by decide +kernel
theorem pm_a131_48 : pm_as (pm_cd pm_mm131) 48 = some (.aload_n 0, 1) := by decide +kernel
theorem pm_a131_49 : pm_as (pm_cd pm_mm131) 49 = some (.aload_n 0, 1) := by decide +kernel
theorem pm_a131_50 : pm_as (pm_cd pm_mm131) 50 = some (.getfield 15, 3) := by decide +kernel
theorem pm_a131_53 : pm_as (pm_cd pm_mm131) 53 = some (.iload_n 1, 1) := by decide +kernel
theorem pm_a131_54 : pm_as (pm_cd pm_mm131) 54 = some (.invokestatic 121, 3) := by decide +kernel
theorem pm_a131_57 : pm_as (pm_cd pm_mm131) 57 = some (.invokevirtual 152, 3) := by decide +kernel
theorem pm_a131_60 : pm_as (pm_cd pm_mm131) 60 = some (.invokevirtual 171, 3) := by decide +kernel
theorem pm_a131_63 : pm_as (pm_cd pm_mm131) 63 = some (.iinc 1 1, 3) := by decide +kernel
theorem pm_a131_66 : pm_as (pm_cd pm_mm131) 66 = some (.goto (-60), 3) := by decide +kernel
theorem pm_a131_69 : pm_as (pm_cd pm_mm131) 69 = some (.return_, 1) := by decide +kernel
theorem pm_a132_0 : pm_as (pm_cd pm_mm132) 0 = some (.iconst 0, 1) := by decide +kernel
theorem pm_a132_1 : pm_as (pm_cd pm_mm132) 1 = some (.istore_n 1, 1) := by decide +kernel
theorem pm_a132_2 : pm_as (pm_cd pm_mm132) 2 = some (.iload_n 1, 1) := by decide +kernel
theorem pm_a132_3 : pm_as (pm_cd pm_mm132) 3 = some (.sipush 2800, 3) := by decide +kernel
theorem pm_a132_6 : pm_as (pm_cd pm_mm132) 6 = some (.if_icmp .ge 18, 3) := by decide +kernel
theorem pm_a132_9 : pm_as (pm_cd pm_mm132) 9 = some (.aload_n 0, 1) := by decide +kernel
theorem pm_a132_10 : pm_as (pm_cd pm_mm132) 10 = some (.getfield 24, 3) := by decide +kernel
theorem pm_a132_13 : pm_as (pm_cd pm_mm132) 13 = some (.iload_n 1, 1) := by decide +kernel
theorem pm_a132_14 : pm_as (pm_cd pm_mm132) 14 = some (.iconst 0, 1) := by decide +kernel
theorem pm_a132_15 : pm_as (pm_cd pm_mm132) 15 = some (.invokestatic 130, 3) := by decide +kernel
theorem pm_a132_18 : pm_as (pm_cd pm_mm132) 18 = some (.iinc 1 1, 3) := by decide +kernel
theorem pm_a132_21 : pm_as (pm_cd pm_mm132) 21 = some (.goto (-19), 3) := by decide +kernel
theorem pm_a132_24 : pm_as (pm_cd pm_mm132) 24 = some (.return_, 1) := by decide +kernel
theorem pm_a133_0 : pm_as (pm_cd pm_mm133) 0 = some (.aload_n 0, 1) := by decide +kernel
theorem pm_a133_1 : pm_as (pm_cd pm_mm133) 1 = some (.getfield 24, 3) := by decide +kernel
theorem pm_a133_4 : pm_as (pm_cd pm_mm133) 4 = some (.iload_n 1, 1) := by decide +kernel
theorem pm_a133_5 : pm_as (pm_cd pm_mm133) 5 = some (.aload_n 0, 1) := by decide +kernel
theorem pm_a133_6 : pm_as (pm_cd pm_mm133) 6 = some (.getfield 24, 3) := by decide +kernel
theorem pm_a133_9 : pm_as (pm_cd pm_mm133) 9 = some (.iload_n 1, 1) := by decide +kernel
theorem pm_a133_10 : pm_as (pm_cd pm_mm133) 10 = some (.invokestatic 121, 3) := by decide +kernel
theorem pm_a133_13 : pm_as (pm_cd pm_mm133) 13 = some (.iconst 1, 1) := by decide +kernel
theorem pm_a133_14 : pm_as (pm_cd pm_mm133) 14 = some (.iadd, 1) := by decide +kernel
theorem pm_a133_15 : pm_as (pm_cd pm_mm133) 15 = some (.invokestatic 130, 3) := by decide +kernel
theorem pm_a133_18 : pm_as (pm_cd pm_mm133) 18 = some (.return_, 1) := by decide +kernel
theorem pm_a134_0 : pm_as (pm_cd pm_mm134) 0 = some (.aload_n 0, 1) := by decide +kernel
theorem pm_a134_1 : pm_as (pm_cd pm_mm134) 1 = some (.getfield 24, 3) := by decide +kernel
theorem pm_a134_4 : pm_as (pm_cd pm_mm134) 4 = some (.iload_n 1, 1) := by decide +kernel
theorem pm_a134_5 : pm_as (pm_cd pm_mm134) 5 = some (.aload_n 0, 1) := by decide +kernel
theorem pm_a134_6 : pm_as (pm_cd pm_mm134) 6 = some (.getfield 24, 3) := by decide +kernel
theorem pm_a134_9 : pm_as (pm_cd pm_mm134) 9 = some (.iload_n 1, 1) := by decide +kernel
theorem pm_a134_10 : pm_as (pm_cd pm_mm134) 10 = some (.invokestatic 121, 3) := by decide +kernel
theorem pm_a134_13 : pm_as (pm_cd pm_mm134) 13 = some (.iconst 1, 1) := by decide +kernel
theorem pm_a134_14 : pm_as (pm_cd pm_mm134) 14 = some (.isub, 1) := by decide +kernel
theorem pm_a134_15 : pm_as (pm_cd pm_mm134) 15 = some (.invokestatic 130, 3) := by decide +kernel
theorem pm_a134_18 : pm_as (pm_cd pm_mm134) 18 = some (.aload_n 0, 1) := by decide +kernel
theorem pm_a134_19 : pm_as (pm_cd pm_mm134) 19 = some (.getfield 24, 3) := by decide +kernel
theorem pm_a134_22 : pm_as (pm_cd pm_mm134) 22 = some (.iload_n 1, 1) := by decide +kernel
theorem pm_a134_23 : pm_as (pm_cd pm_mm134) 23 = some (.invokestatic 121, 3) := by decide +kernel
theorem pm_a134_26 : pm_as (pm_cd pm_mm134) 26 = some (.ifCond .ne 12, 3) := by decide +kernel
theorem pm_a134_29 : pm_as (pm_cd pm_mm134) 29 = some (.aload_n 0, 1) := by decide +kernel
theorem pm_a134_30 : pm_as (pm_cd pm_mm134) 30 = some (.iload_n 1, 1) := by decide +kernel
theorem pm_a134_31 : pm_as (pm_cd pm_mm134) 31 = some (.iload_n 2, 1) := by decide +kernel
theorem pm_a134_32 : pm_as (pm_cd pm_mm134) 32 = some (.invokevirtual 159, 3) := by decide +kernel
theorem pm_a134_35 : pm_as (pm_cd pm_mm134) 35 = some (.goto 4, 3) := by decide +kernel
theorem pm_a134_38 : pm_as (pm_cd pm_mm134) 38 = some (.iload_n 2, 1) := by decide +kernel
theorem pm_a134_39 : pm_as (pm_cd pm_mm134) 39 = some (.ireturn, 1) := by decide +kernel
theorem pm_a135_0 : pm_as (pm_cd pm_mm135) 0 = some (.aload_n 0, 1) := by decide +kernel
theorem pm_a135_1 : pm_as (pm_cd pm_mm135) 1 = some (.invokevirtual 168, 3) := by decide +kernel
theorem pm_a135_4 : pm_as (pm_cd pm_mm135) 4 = some (.aload_n 0, 1) := by decide +kernel
theorem pm_a135_5 : pm_as (pm_cd pm_mm135) 5 = some (.getfield 38, 3) := by decide +kernel
theorem pm_a135_8 : pm_as (pm_cd pm_mm135) 8 = some (.invokevirtual 97, 3) := by decide +kernel
theorem pm_a135_11 : pm_as (pm_cd pm_mm135) 11 = some (.aload_n 0, 1) := by decide +kernel
theorem pm_a135_12 : pm_as (pm_cd pm_mm135) 12 = some (.iconst 0, 1) := by decide +kernel
theorem pm_a135_13 : pm_as (pm_cd pm_mm135) 13 = some (.putfield 53, 3) := by decide +kernel
theorem pm_a135_16 : pm_as (pm_cd pm_mm135) 16 = some (.aload_n 0, 1) := by decide +kernel
theorem pm_a135_17 : pm_as (pm_cd pm_mm135) 17 = some (.iload_n 1, 1) := by decide +kernel
theorem pm_a135_18 : pm_as (pm_cd pm_mm135) 18 = some (.invokevirtual 72, 3) := by decide +kernel
theorem pm_a135_21 : pm_as (pm_cd pm_mm135) 21 = some (.iconst 0, 1) := by decide +kernel
theorem pm_a135_22 : pm_as (pm_cd pm_mm135) 22 = some (.istore_n 2, 1) := by decide +kernel
theorem pm_a135_23 : pm_as (pm_cd pm_mm135) 23 = some (.iconst 0, 1) := by decide +kernel
theorem pm_a135_24 : pm_as (pm_cd pm_mm135) 24 = some (.istore_n 3, 1) := by decide +kernel
theorem pm_a135_25 : pm_as (pm_cd pm_mm135) 25 = some (.iload_n 3, 1) := by decide +kernel
theorem pm_a135_26 : pm_as (pm_cd pm_mm135) 26 = some (.sipush 500, 3) := by decide +kernel
theorem pm_a135_29 : pm_as (pm_cd pm_mm135) 29 = some (.if_icmp .gt 123, 3) := by decide +kernel
theorem pm_a135_32 : pm_as (pm_cd pm_mm135) 32 = some (.aload_n 0, 1) := by decide +kernel
theorem pm_a135_33 : pm_as (pm_cd pm_mm135) 33 = some (.getfield 53, 3) := by decide +kernel
theorem pm_a135_36 : pm_as (pm_cd pm_mm135) 36 = some (.ifCond .le 116, 3) := by decide +kernel
theorem pm_a135_39 : pm_as (pm_cd pm_mm135) 39 = some (.aload_n 0, 1) := by decide +kernel
theorem pm_a135_40 : pm_as (pm_cd pm_mm135) 40 = some (.getfield 38, 3) := by decide +kernel
theorem pm_a135_43 : pm_as (pm_cd pm_mm135) 43 = some (.getfield 93, 3) := by decide +kernel
theorem pm_a135_46 : pm_as (pm_cd pm_mm135) 46 = some (.ifCond .ne 106, 3) := by decide +kernel
theorem pm_a135_49 : pm_as (pm_cd pm_mm135) 49 = some (.aload_n 0, 1) := by decide +kernel
theorem pm_a135_50 : pm_as (pm_cd pm_mm135) 50 = some (.aload_n 0, 1) := by decide +kernel
theorem pm_a135_51 : pm_as (pm_cd pm_mm135) 51 = some (.invokevirtual 79, 3) := by decide +kernel
theorem pm_a135_54 : pm_as (pm_cd pm_mm135) 54 = some (.invokevirtual 152, 3) := by decide +kernel
theorem pm_a135_57 : pm_as (pm_cd pm_mm135) 57 = some (.istore 4, 2) := by decide +kernel
theorem pm_a135_59 : pm_as (pm_cd pm_mm135) 59 = some (.aload_n 0, 1) := by decide +kernel
theorem pm_a135_60 : pm_as (pm_cd pm_mm135) 60 = some (.iload 4, 2) := by decide +kernel
theorem pm_a135_62 : pm_as (pm_cd pm_mm135) 62 = some (.invokevirtual 155, 3) := by decide +kernel
theorem pm_a135_65 : pm_as (pm_cd pm_mm135) 65 = some (.ifCond .eq 40, 3) := by decide +kernel
theorem pm_a135_68 : pm_as (pm_cd pm_mm135) 68 = some (.aload_n 0, 1) := by decide +kernel
theorem pm_a135_69 : pm_as (pm_cd pm_mm135) 69 = some (.getfield 38, 3) := by decide +kernel
theorem pm_a135_72 : pm_as (pm_cd pm_mm135) 72 = some (.iconst 0, 1) := by decide +kernel
theorem pm_a135_73 : pm_as (pm_cd pm_mm135) 73 = some (.invokevirtual 174, 3) := by decide +kernel
theorem pm_a135_76 : pm_as (pm_cd pm_mm135) 76 = some (.aload_n 0, 1) := by decide +kernel
theorem pm_a135_77 : pm_as (pm_cd pm_mm135) 77 = some (.aload_n 0, 1) := by decide +kernel
theorem pm_a135_78 : pm_as (pm_cd pm_mm135) 78 = some (.getfield 15, 3) := by decide +kernel
theorem pm_a135_81 : pm_as (pm_cd pm_mm135) 81 = some (.iload 4, 2) := by decide +kernel
theorem pm_a135_83 : pm_as (pm_cd pm_mm135) 83 = some (.invokestatic 121, 3) := by decide +kernel
theorem pm_a135_86 : pm_as (pm_cd pm_mm135) 86 = some (.invokevirtual 72, 3) := by decide +kernel
theorem pm_a135_89 : pm_as (pm_cd pm_mm135) 89 = some (.aload_n 0, 1) := by decide +kernel
theorem pm_a135_90 : pm_as (pm_cd pm_mm135) 90 = some (.aload_n 0, 1) := by decide +kernel
theorem pm_a135_91 : pm_as (pm_cd pm_mm135) 91 = some (.getfield 11, 3) := by decide +kernel
theorem pm_a135_94 : pm_as (pm_cd pm_mm135) 94 = some (.iload 4, 2) := by decide +kernel
theorem pm_a135_96 : pm_as (pm_cd pm_mm135) 96 = some (.invokestatic 121, 3) := by decide +kernel
theorem pm_a135_99 : pm_as (pm_cd pm_mm135) 99 = some (.invokevirtual 72, 3) := by decide +kernel
theorem pm_a135_102 : pm_as (pm_cd pm_mm135) 102 = some (.goto 44, 3) := by decide +kernel
theorem pm_a135_105 : pm_as (pm_cd pm_mm135) 105 = some (.aload_n 0, 1) := by decide +kernel
theorem pm_a135_106 : pm_as (pm_cd pm_mm135) 106 = some (.getfield 24, 3) := by decide +kernel
theorem pm_a135_109 : pm_as (pm_cd pm_mm135) 109 = some (.iload 4, 2) := by decide +kernel
theorem pm_a135_111 : pm_as (pm_cd pm_mm135) 111 = some (.invokestatic 121, 3) := by decide +kernel
theorem pm_a135_114 : pm_as (pm_cd pm_mm135) 114 = some (.ifCond .ne 16, 3) := by decide +kernel
theorem pm_a135_117 : pm_as (pm_cd pm_mm135) 117 = some (.iinc 2 1, 3) := by decide +kernel
theorem pm_a135_120 : pm_as (pm_cd pm_mm135) 120 = some (.aload_n 0, 1) := by decide +kernel
theorem pm_a135_121 : pm_as (pm_cd pm_mm135) 121 = some (.getfield 24, 3) := by decide +kernel
theorem pm_a135_124 : pm_as (pm_cd pm_mm135) 124 = some (.iload 4, 2) := by decide +kernel
theorem pm_a135_126 : pm_as (pm_cd pm_mm135) 126 = some (.iload_n 2, 1) := by decide +kernel
theorem pm_a135_127 : pm_as (pm_cd pm_mm135) 127 = some (.invokestatic 130, 3) := by decide +kernel
theorem pm_a135_130 : pm_as (pm_cd pm_mm135) 130 = some (.aload_n 0, 1) := by decide +kernel
theorem pm_a135_131 : pm_as (pm_cd pm_mm135) 131 = some (.getfield 38, 3) := by decide +kernel
theorem pm_a135_134 : pm_as (pm_cd pm_mm135) 134 = some (.aload_n 0, 1) := by decide +kernel
theorem pm_a135_135 : pm_as (pm_cd pm_mm135) 135 = some (.getfield 24, 3) := by decide +kernel
theorem pm_a135_138 : pm_as (pm_cd pm_mm135) 138 = some (.iload 4, 2) := by decide +kernel
theorem pm_a135_140 : pm_as (pm_cd pm_mm135) 140 = some (.invokestatic 121, 3) := by decide +kernel
theorem pm_a135_143 : pm_as (pm_cd pm_mm135) 143 = some (.invokevirtual 174, 3) := by decide +kernel
theorem pm_a135_146 : pm_as (pm_cd pm_mm135) 146 = some (.iinc 3 1, 3) := by decide +kernel
theorem pm_a135_149 : pm_as (pm_cd pm_mm135) 149 = some (.goto (-124), 3) := by decide +kernel
theorem pm_a135_152 : pm_as (pm_cd pm_mm135) 152 = some (.return_, 1) := by decide +kernel
theorem pm_a136_0 : pm_as (pm_cd pm_mm136) 0 = some (.aload_n 0, 1) := by decide +kernel
theorem pm_a136_1 : pm_as (pm_cd pm_mm136) 1 = some (.getfield 159, 3) := by decide +kernel
theorem pm_a136_4 : pm_as (pm_cd pm_mm136) 4 = some (.ifnonnull 7, 3) := by decide +kernel
theorem pm_a136_7 : pm_as (pm_cd pm_mm136) 7 = some (.iconst (-1), 1) := by decide +kernel
theorem pm_a136_8 : pm_as (pm_cd pm_mm136) 8 = some (.goto 14, 3) := by decide +kernel
theorem pm_a136_11 : pm_as (pm_cd pm_mm136) 11 = some (.aload_n 0, 1) := by decide +kernel
theorem pm_a136_12 : pm_as (pm_cd pm_mm136) 12 = some (.getfield 159, 3) := by decide +kernel
theorem pm_a136_15 : pm_as (pm_cd pm_mm136) 15 = some (.getfield 169, 3) := by decide +kernel
theorem pm_a136_18 : pm_as (pm_cd pm_mm136) 18 = some (.iload_n 1, 1) := by decide +kernel
theorem pm_a136_19 : pm_as (pm_cd pm_mm136) 19 = some (.invokevirtual 91, 3) := by decide +kernel
theorem pm_a136_22 : pm_as (pm_cd pm_mm136) 22 = some (.ireturn, 1) := by decide +kernel
theorem pm_a137_0 : pm_as (pm_cd pm_mm137) 0 = some (.aload_n 0, 1) := by decide +kernel
theorem pm_a137_1 : pm_as (pm_cd pm_mm137) 1 = some (.iload_n 1, 1) := by decide +kernel
theorem pm_a137_2 : pm_as (pm_cd pm_mm137) 2 = some (.invokevirtual 86, 3) := by decide +kernel
theorem pm_a137_5 : pm_as (pm_cd pm_mm137) 5 = some (.astore_n 3, 1) := by decide +kernel
theorem pm_a137_6 : pm_as (pm_cd pm_mm137) 6 = some (.aload_n 3, 1) := by decide +kernel
theorem pm_a137_7 : pm_as (pm_cd pm_mm137) 7 = some (.ifnonnull 5, 3) := by decide +kernel
theorem pm_a137_10 : pm_as (pm_cd pm_mm137) 10 = some (.iconst (-1), 1) := by decide +kernel
theorem pm_a137_11 : pm_as (pm_cd pm_mm137) 11 = some (.ireturn, 1) := by decide +kernel
theorem pm_a137_12 : pm_as (pm_cd pm_mm137) 12 = some (.iload_n 2, 1) := by decide +kernel
theorem pm_a137_13 : pm_as (pm_cd pm_mm137) 13 = some (.tableswitch 113 0 4 #[35, 44, 59, 77, 93], 35) := by decide +kernel
theorem pm_a137_48 : pm_as (pm_cd pm_mm137) 48 = some (.aload_n 0, 1) := by decide +kernel
theorem pm_a137_49 : pm_as (pm_cd pm_mm137) 49 = some (.getfield 32, 3) := by decide +kernel
theorem pm_a137_52 : pm_as (pm_cd pm_mm137) 52 = some (.aload_n 3, 1) := by decide +kernel
theorem pm_a137_53 : pm_as (pm_cd pm_mm137) 53 = some (.invokevirtual 172, 3) := by decide +kernel
theorem pm_a137_56 : pm_as (pm_cd pm_mm137) 56 = some (.ireturn, 1) := by decide +kernel
theorem pm_a137_57 : pm_as (pm_cd pm_mm137) 57 = some (.aload_n 3, 1) := by decide +kernel
theorem pm_a137_58 : pm_as (pm_cd pm_mm137) 58 = some (.iconst 1, 1) := by decide +kernel
theorem pm_a137_59 : pm_as (pm_cd pm_mm137) 59 = some (.iconst 1, 1) := by decide +kernel
theorem pm_a137_60 : pm_as (pm_cd pm_mm137) 60 = some (.invokevirtual 175, 3) := by decide +kernel
theorem pm_a137_63 : pm_as (pm_cd pm_mm137) 63 = some (.ifCond .eq 7, 3) := by decide +kernel
theorem pm_a137_66 : pm_as (pm_cd pm_mm137) 66 = some (.iconst 1, 1) := by decide +kernel
theorem pm_a137_67 : pm_as (pm_cd pm_mm137) 67 = some (.goto 4, 3) := by decide +kernel
theorem pm_a137_70 : pm_as (pm_cd pm_mm137) 70 = some (.iconst 0, 1) := by decide +kernel
theorem pm_a137_71 : pm_as (pm_cd pm_mm137) 71 = some (.ireturn, 1) := by decide +kernel
theorem pm_a137_72 : pm_as (pm_cd pm_mm137) 72 = some (.aload_n 3, 1) := by decide +kernel
theorem pm_a137_73 : pm_as (pm_cd pm_mm137) 73 = some (.bipush 10, 2) := by decide +kernel
theorem pm_a137_75 : pm_as (pm_cd pm_mm137) 75 = some (.sipush 510, 3) := by decide +kernel
theorem pm_a137_78 : pm_as (pm_cd pm_mm137) 78 = some (.invokevirtual 175, 3) := by decide +kernel
theorem pm_a137_81 : pm_as (pm_cd pm_mm137) 81 = some (.ifCond .eq 7, 3) := by decide +kernel
theorem pm_a137_84 : pm_as (pm_cd pm_mm137) 84 = some (.iconst 1, 1) := by decide +kernel
theorem pm_a137_85 : pm_as (pm_cd pm_mm137) 85 = some (.goto 4, 3) := by decide +kernel
theorem pm_a137_88 : pm_as (pm_cd pm_mm137) 88 = some (.iconst 0, 1) := by decide +kernel
theorem pm_a137_89 : pm_as (pm_cd pm_mm137) 89 = some (.ireturn, 1) := by decide +kernel
theorem pm_a137_90 : pm_as (pm_cd pm_mm137) 90 = some (.aload_n 3, 1) := by decide +kernel
theorem pm_a137_91 : pm_as (pm_cd pm_mm137) 91 = some (.iconst 2, 1) := by decide +kernel
theorem pm_a137_92 : pm_as (pm_cd pm_mm137) 92 = some (.bipush 6, 2) := by decide +kernel
theorem pm_a137_94 : pm_as (pm_cd pm_mm137) 94 = some (.invokevirtual 175, 3) := by decide +kernel
theorem pm_a137_97 : pm_as (pm_cd pm_mm137) 97 = some (.ifCond .eq 7, 3) := by decide +kernel
theorem pm_a137_100 : pm_as (pm_cd pm_mm137) 100 = some (.iconst 1, 1) := by decide +kernel
theorem pm_a137_101 : pm_as (pm_cd pm_mm137) 101 = some (.goto 4, 3) := by decide +kernel
theorem pm_a137_104 : pm_as (pm_cd pm_mm137) 104 = some (.iconst 0, 1) := by decide +kernel
theorem pm_a137_105 : pm_as (pm_cd pm_mm137) 105 = some (.ireturn, 1) := by decide +kernel
theorem pm_a137_106 : pm_as (pm_cd pm_mm137) 106 = some (.aload_n 0, 1) := by decide +kernel
theorem pm_a137_107 : pm_as (pm_cd pm_mm137) 107 = some (.getfield 57, 3) := by decide +kernel
theorem pm_a137_110 : pm_as (pm_cd pm_mm137) 110 = some (.aload_n 3, 1) := by decide +kernel
theorem pm_a137_111 : pm_as (pm_cd pm_mm137) 111 = some (.iconst 0, 1) := by decide +kernel
theorem pm_a137_112 : pm_as (pm_cd pm_mm137) 112 = some (.invokevirtual 136, 3) := by decide +kernel
theorem pm_a137_115 : pm_as (pm_cd pm_mm137) 115 = some (.bipush (-4), 2) := by decide +kernel
theorem pm_a137_117 : pm_as (pm_cd pm_mm137) 117 = some (.if_icmp .ne 7, 3) := by decide +kernel
theorem pm_a137_120 : pm_as (pm_cd pm_mm137) 120 = some (.iconst 1, 1) := by decide +kernel
theorem pm_a137_121 : pm_as (pm_cd pm_mm137) 121 = some (.goto 4, 3) := by decide +kernel
theorem pm_a137_124 : pm_as (pm_cd pm_mm137) 124 = some (.iconst 0, 1) := by decide +kernel
theorem pm_a137_125 : pm_as (pm_cd pm_mm137) 125 = some (.ireturn, 1) := by decide +kernel
theorem pm_a137_126 : pm_as (pm_cd pm_mm137) 126 = some (.iconst (-1), 1) := by decide +kernel
theorem pm_a137_127 : pm_as (pm_cd pm_mm137) 127 = some (.ireturn, 1) := by decide +kernel
theorem pm_a138_0 : pm_as (pm_cd pm_mm138) 0 = some (.aload_n 0, 1) := by decide +kernel
theorem pm_a138_1 : pm_as (pm_cd pm_mm138) 1 = some (.aload_n 1, 1) := by decide +kernel
theorem pm_a138_2 : pm_as (pm_cd pm_mm138) 2 = some (.iconst 0, 1) := by decide +kernel
theorem pm_a138_3 : pm_as (pm_cd pm_mm138) 3 = some (.aload_n 1, 1) := by decide +kernel
theorem pm_a138_4 : pm_as (pm_cd pm_mm138) 4 = some (.getfield 48, 3) := by decide +kernel
theorem pm_a138_7 : pm_as (pm_cd pm_mm138) 7 = some (.invokevirtual 52, 3) := by decide +kernel
theorem pm_a138_10 : pm_as (pm_cd pm_mm138) 10 = some (.iconst 0, 1) := by decide +kernel
theorem pm_a138_11 : pm_as (pm_cd pm_mm138) 11 = some (.istore_n 2, 1) := by decide +kernel
theorem pm_a138_12 : pm_as (pm_cd pm_mm138) 12 = some (.iconst 0, 1) := by decide +kernel
theorem pm_a138_13 : pm_as (pm_cd pm_mm138) 13 = some (.istore_n 3, 1) := by decide +kernel
theorem pm_a138_14 : pm_as (pm_cd pm_mm138) 14 = some (.iload_n 3, 1) := by decide +kernel
theorem pm_a138_15 : pm_as (pm_cd pm_mm138) 15 = some (.aload_n 1, 1) := by decide +kernel
theorem pm_a138_16 : pm_as (pm_cd pm_mm138) 16 = some (.getfield 48, 3) := by decide +kernel
theorem pm_a138_19 : pm_as (pm_cd pm_mm138) 19 = some (.if_icmp .ge 19, 3) := by decide +kernel
theorem pm_a138_22 : pm_as (pm_cd pm_mm138) 22 = some (.iload_n 2, 1) := by decide +kernel
theorem pm_a138_23 : pm_as (pm_cd pm_mm138) 23 = some (.aload_n 0, 1) := by decide +kernel
theorem pm_a138_24 : pm_as (pm_cd pm_mm138) 24 = some (.iload_n 3, 1) := by decide +kernel
theorem pm_a138_25 : pm_as (pm_cd pm_mm138) 25 = some (.invokevirtual 45, 3) := by decide +kernel
theorem pm_a138_28 : pm_as (pm_cd pm_mm138) 28 = some (.invokestatic 26, 3) := by decide +kernel
theorem pm_a138_31 : pm_as (pm_cd pm_mm138) 31 = some (.istore_n 2, 1) := by decide +kernel
theorem pm_a138_32 : pm_as (pm_cd pm_mm138) 32 = some (.iinc 3 1, 3) := by decide +kernel
theorem pm_a138_35 : pm_as (pm_cd pm_mm138) 35 = some (.goto (-21), 3) := by decide +kernel
theorem pm_a138_38 : pm_as (pm_cd pm_mm138) 38 = some (.iload_n 2, 1) := by decide +kernel
theorem pm_a138_39 : pm_as (pm_cd pm_mm138) 39 = some (.ireturn, 1) := by decide +kernel
theorem pm_a139_0 : pm_as (pm_cd pm_mm139) 0 = some (.iconst 0, 1) := by decide +kernel
theorem pm_a139_1 : pm_as (pm_cd pm_mm139) 1 = some (.istore_n 3, 1) := by decide +kernel
theorem pm_a139_2 : pm_as (pm_cd pm_mm139) 2 = some (.iload_n 3, 1) := by decide +kernel
theorem pm_a139_3 : pm_as (pm_cd pm_mm139) 3 = some (.aload_n 0, 1) := by decide +kernel
theorem pm_a139_4 : pm_as (pm_cd pm_mm139) 4 = some (.getfield 21, 3) := by decide +kernel
theorem pm_a139_7 : pm_as (pm_cd pm_mm139) 7 = some (.if_icmp .ge 29, 3) := by decide +kernel
theorem pm_a139_10 : pm_as (pm_cd pm_mm139) 10 = some (.aload_n 0, 1) := by decide +kernel
theorem pm_a139_11 : pm_as (pm_cd pm_mm139) 11 = some (.iload_n 3, 1) := by decide +kernel
theorem pm_a139_12 : pm_as (pm_cd pm_mm139) 12 = some (.invokevirtual 39, 3) := by decide +kernel
theorem pm_a139_15 : pm_as (pm_cd pm_mm139) 15 = some (.iload_n 1, 1) := by decide +kernel
theorem pm_a139_16 : pm_as (pm_cd pm_mm139) 16 = some (.if_icmp .lt 14, 3) := by decide +kernel
theorem pm_a139_19 : pm_as (pm_cd pm_mm139) 19 = some (.aload_n 0, 1) := by decide +kernel
theorem pm_a139_20 : pm_as (pm_cd pm_mm139) 20 = some (.iload_n 3, 1) := by decide +kernel
theorem pm_a139_21 : pm_as (pm_cd pm_mm139) 21 = some (.invokevirtual 39, 3) := by decide +kernel
theorem pm_a139_24 : pm_as (pm_cd pm_mm139) 24 = some (.iload_n 2, 1) := by decide +kernel
theorem pm_a139_25 : pm_as (pm_cd pm_mm139) 25 = some (.if_icmp .gt 5, 3) := by decide +kernel
theorem pm_a139_28 : pm_as (pm_cd pm_mm139) 28 = some (.iconst 1, 1) := by decide +kernel
theorem pm_a139_29 : pm_as (pm_cd pm_mm139) 29 = some (.ireturn, 1) := by decide +kernel
theorem pm_a139_30 : pm_as (pm_cd pm_mm139) 30 = some (.iinc 3 1, 3) := by decide +kernel
theorem pm_a139_33 : pm_as (pm_cd pm_mm139) 33 = some (.goto (-31), 3) := by decide +kernel
theorem pm_a139_36 : pm_as (pm_cd pm_mm139) 36 = some (.iconst 0, 1) := by decide +kernel
theorem pm_a139_37 : pm_as (pm_cd pm_mm139) 37 = some (.ireturn, 1) := by decide +kernel
theorem pm_a140_0 : pm_as (pm_cd pm_mm140) 0 = some (.aload_n 0, 1) := by decide +kernel
theorem pm_a140_1 : pm_as (pm_cd pm_mm140) 1 = some (.getfield 179, 3) := by decide +kernel
theorem pm_a140_4 : pm_as (pm_cd pm_mm140) 4 = some (.ifCond .ne 6, 3) := by decide +kernel
theorem pm_a140_7 : pm_as (pm_cd pm_mm140) 7 = some (.bipush (-4), 2) := by decide +kernel
theorem pm_a140_9 : pm_as (pm_cd pm_mm140) 9 = some (.ireturn, 1) := by decide +kernel
theorem pm_a140_10 : pm_as (pm_cd pm_mm140) 10 = some (.aload_n 0, 1) := by decide +kernel
theorem pm_a140_11 : pm_as (pm_cd pm_mm140) 11 = some (.dup, 1) := by decide +kernel
theorem pm_a140_12 : pm_as (pm_cd pm_mm140) 12 = some (.getfield 179, 3) := by decide +kernel
theorem pm_a140_15 : pm_as (pm_cd pm_mm140) 15 = some (.iconst 1, 1) := by decide +kernel
theorem pm_a140_16 : pm_as (pm_cd pm_mm140) 16 = some (.isub, 1) := by decide +kernel
theorem pm_a140_17 : pm_as (pm_cd pm_mm140) 17 = some (.putfield 179, 3) := by decide +kernel
theorem pm_a140_20 : pm_as (pm_cd pm_mm140) 20 = some (.aload_n 0, 1) := by decide +kernel
theorem pm_a140_21 : pm_as (pm_cd pm_mm140) 21 = some (.getfield 179, 3) := by decide +kernel
theorem pm_a140_24 : pm_as (pm_cd pm_mm140) 24 = some (.ireturn, 1) := by decide +kernel
theorem pm_a141_0 : pm_as (pm_cd pm_mm141) 0 = some (.iload_n 1, 1) := by decide +kernel
theorem pm_a141_1 : pm_as (pm_cd pm_mm141) 1 = some (.tableswitch 45 0 2 #[27, 32, 40], 27) := by decide +kernel
theorem pm_a141_28 : pm_as (pm_cd pm_mm141) 28 = some (.aload_n 0, 1) := by decide +kernel
theorem pm_a141_29 : pm_as (pm_cd pm_mm141) 29 = some (.getfield 179, 3) := by decide +kernel
theorem pm_a141_32 : pm_as (pm_cd pm_mm141) 32 = some (.ireturn, 1) := by decide +kernel
theorem pm_a141_33 : pm_as (pm_cd pm_mm141) 33 = some (.aload_n 0, 1) := by decide +kernel
theorem pm_a141_34 : pm_as (pm_cd pm_mm141) 34 = some (.getfield 10, 3) := by decide +kernel
theorem pm_a141_37 : pm_as (pm_cd pm_mm141) 37 = some (.getfield 61, 3) := by decide +kernel
theorem pm_a141_40 : pm_as (pm_cd pm_mm141) 40 = some (.ireturn, 1) := by decide +kernel
theorem pm_a141_41 : pm_as (pm_cd pm_mm141) 41 = some (.aload_n 0, 1) := by decide +kernel
theorem pm_a141_42 : pm_as (pm_cd pm_mm141) 42 = some (.invokevirtual 182, 3) := by decide +kernel
theorem pm_a141_45 : pm_as (pm_cd pm_mm141) 45 = some (.ireturn, 1) := by decide +kernel
theorem pm_a141_46 : pm_as (pm_cd pm_mm141) 46 = some (.iconst (-1), 1) := by decide +kernel
theorem pm_a141_47 : pm_as (pm_cd pm_mm141) 47 = some (.ireturn, 1) := by decide +kernel
theorem pm_a142_0 : pm_as (pm_cd pm_mm142) 0 = some (.iconst 0, 1) := by decide +kernel
theorem pm_a142_1 : pm_as (pm_cd pm_mm142) 1 = some (.istore_n 1, 1) := by decide +kernel
theorem pm_a142_2 : pm_as (pm_cd pm_mm142) 2 = some (.iconst 0, 1) := by decide +kernel
theorem pm_a142_3 : pm_as (pm_cd pm_mm142) 3 = some (.istore_n 2, 1) := by decide +kernel
theorem pm_a142_4 : pm_as (pm_cd pm_mm142) 4 = some (.iload_n 2, 1) := by decide +kernel
theorem pm_a142_5 : pm_as (pm_cd pm_mm142) 5 = some (.aload_n 0, 1) := by decide +kernel
theorem pm_a142_6 : pm_as (pm_cd pm_mm142) 6 = some (.getfield 179, 3) := by decide +kernel
theorem pm_a142_9 : pm_as (pm_cd pm_mm142) 9 = some (.if_icmp .ge 30, 3) := by decide +kernel
theorem pm_a142_12 : pm_as (pm_cd pm_mm142) 12 = some (.aload_n 0, 1) := by decide +kernel
theorem pm_a142_13 : pm_as (pm_cd pm_mm142) 13 = some (.iload_n 2, 1) := by decide +kernel
theorem pm_a142_14 : pm_as (pm_cd pm_mm142) 14 = some (.invokevirtual 86, 3) := by decide +kernel
theorem pm_a142_17 : pm_as (pm_cd pm_mm142) 17 = some (.astore_n 3, 1) := by decide +kernel
theorem pm_a142_18 : pm_as (pm_cd pm_mm142) 18 = some (.iload_n 1, 1) := by decide +kernel
theorem pm_a142_19 : pm_as (pm_cd pm_mm142) 19 = some (.aload_n 3, 1) := by decide +kernel
theorem pm_a142_20 : pm_as (pm_cd pm_mm142) 20 = some (.ifnonnull 7, 3) := by decide +kernel
theorem pm_a142_23 : pm_as (pm_cd pm_mm142) 23 = some (.iconst 0, 1) := by decide +kernel
theorem pm_a142_24 : pm_as (pm_cd pm_mm142) 24 = some (.goto 7, 3) := by decide +kernel
theorem pm_a142_27 : pm_as (pm_cd pm_mm142) 27 = some (.aload_n 3, 1) := by decide +kernel
theorem pm_a142_28 : pm_as (pm_cd pm_mm142) 28 = some (.getfield 90, 3) := by decide +kernel
theorem pm_a142_31 : pm_as (pm_cd pm_mm142) 31 = some (.iadd, 1) := by decide +kernel
theorem pm_a142_32 : pm_as (pm_cd pm_mm142) 32 = some (.istore_n 1, 1) := by decide +kernel
theorem pm_a142_33 : pm_as (pm_cd pm_mm142) 33 = some (.iinc 2 1, 3) := by decide +kernel
theorem pm_a142_36 : pm_as (pm_cd pm_mm142) 36 = some (.goto (-32), 3) := by decide +kernel
theorem pm_a142_39 : pm_as (pm_cd pm_mm142) 39 = some (.iload_n 1, 1) := by decide +kernel
theorem pm_a142_40 : pm_as (pm_cd pm_mm142) 40 = some (.ireturn, 1) := by decide +kernel
theorem pm_a215_0 : pm_as (pm_cd pm_mm215) 0 = some (.aload_n 0, 1) := by decide +kernel
theorem pm_a215_1 : pm_as (pm_cd pm_mm215) 1 = some (.iload_n 1, 1) := by decide +kernel
theorem pm_a215_2 : pm_as (pm_cd pm_mm215) 2 = some (.iconst 0, 1) := by decide +kernel
theorem pm_a215_3 : pm_as (pm_cd pm_mm215) 3 = some (.invokevirtual 633, 3) := by decide +kernel
theorem pm_a215_6 : pm_as (pm_cd pm_mm215) 6 = some (.ireturn, 1) := by decide +kernel
theorem pm_a216_0 : pm_as (pm_cd pm_mm216) 0 = some (.aload_n 0, 1) := by decide +kernel
theorem pm_a216_1 : pm_as (pm_cd pm_mm216) 1 = some (.invokevirtual 492, 3) := by decide +kernel
theorem pm_a216_4 : pm_as (pm_cd pm_mm216) 4 = some (.ifCond .eq 19, 3) := by decide +kernel
theorem pm_a216_7 : pm_as (pm_cd pm_mm216) 7 = some (.aload_n 0, 1) := by decide +kernel
theorem pm_a216_8 : pm_as (pm_cd pm_mm216) 8 = some (.getfield 9, 3) := by decide +kernel
theorem pm_a216_11 : pm_as (pm_cd pm_mm216) 11 = some (.iload_n 1, 1) := by decide +kernel
theorem pm_a216_12 : pm_as (pm_cd pm_mm216) 12 = some (.iload_n 2, 1) := by decide +kernel
theorem pm_a216_13 : pm_as (pm_cd pm_mm216) 13 = some (.aload_n 0, 1) := by decide +kernel
theorem pm_a216_14 : pm_as (pm_cd pm_mm216) 14 = some (.invokevirtual 505, 3) := by decide +kernel
theorem pm_a216_17 : pm_as (pm_cd pm_mm216) 17 = some (.invokestatic 637, 3) := by decide +kernel
theorem pm_a216_20 : pm_as (pm_cd pm_mm216) 20 = some (.goto 16, 3) := by decide +kernel
theorem pm_a216_23 : pm_as (pm_cd pm_mm216) 23 = some (.aload_n 0, 1) := by decide +kernel
theorem pm_a216_24 : pm_as (pm_cd pm_mm216) 24 = some (.getfield 9, 3) := by decide +kernel
theorem pm_a216_27 : pm_as (pm_cd pm_mm216) 27 = some (.iload_n 1, 1) := by decide +kernel
theorem pm_a216_28 : pm_as (pm_cd pm_mm216) 28 = some (.iload_n 2, 1) := by decide +kernel
theorem pm_a216_29 : pm_as (pm_cd pm_mm216) 29 = some (.aload_n 0, 1) := by decide +kernel
theorem pm_a216_30 : pm_as (pm_cd pm_mm216) 30 = some (.invokevirtual 505, 3) := by decide +kernel
theorem pm_a216_33 : pm_as (pm_cd pm_mm216) 33 = some (.invokestatic 640, 3) := by decide +kernel
theorem pm_a216_36 : pm_as (pm_cd pm_mm216) 36 = some (.ireturn, 1) := by decide +kernel
theorem pm_a217_0 : pm_as (pm_cd pm_mm217) 0 = some (.getstatic 38, 3) := by decide +kernel
theorem pm_a217_3 : pm_as (pm_cd pm_mm217) 3 = some (.ifCond .eq 14, 3) := by decide +kernel
theorem pm_a217_6 : pm_as (pm_cd pm_mm217) 6 = some (.aload_n 0, 1) := by decide +kernel
theorem pm_a217_7 : pm_as (pm_cd pm_mm217) 7 = some (.getfield 15, 3) := by decide +kernel
theorem pm_a217_10 : pm_as (pm_cd pm_mm217) 10 = some (.ifCond .ne 7, 3) := by decide +kernel
theorem pm_a217_13 : pm_as (pm_cd pm_mm217) 13 = some (.iconst 1, 1) := by decide +kernel
theorem pm_a217_14 : pm_as (pm_cd pm_mm217) 14 = some (.goto 4, 3) := by decide +kernel
theorem pm_a217_17 : pm_as (pm_cd pm_mm217) 17 = some (.iconst 0, 1) := by decide +kernel
theorem pm_a217_18 : pm_as (pm_cd pm_mm217) 18 = some (.ireturn, 1) := by decide +kernel
theorem pm_a218_0 : pm_as (pm_cd pm_mm218) 0 = some (.aload_n 0, 1) := by decide +kernel
theorem pm_a218_1 : pm_as (pm_cd pm_mm218) 1 = some (.getfield 9, 3) := by decide +kernel
theorem pm_a218_4 : pm_as (pm_cd pm_mm218) 4 = some (.arraylength, 1) := by decide +kernel
theorem pm_a218_5 : pm_as (pm_cd pm_mm218) 5 = some (.aload_n 0, 1) := by decide +kernel
theorem pm_a218_6 : pm_as (pm_cd pm_mm218) 6 = some (.invokevirtual 335, 3) := by decide +kernel
theorem pm_a218_9 : pm_as (pm_cd pm_mm218) 9 = some (.ishr, 1) := by decide +kernel
theorem pm_a218_10 : pm_as (pm_cd pm_mm218) 10 = some (.ireturn, 1) := by decide +kernel
theorem pm_a219_0 : pm_as (pm_cd pm_mm219) 0 = some (.getstatic 38, 3) := by decide +kernel
theorem pm_a219_3 : pm_as (pm_cd pm_mm219) 3 = some (.ifCond .eq 10, 3) := by decide +kernel
theorem pm_a219_6 : pm_as (pm_cd pm_mm219) 6 = some (.aload_n 0, 1) := by decide +kernel
theorem pm_a219_7 : pm_as (pm_cd pm_mm219) 7 = some (.getfield 15, 3) := by decide +kernel
theorem pm_a219_10 : pm_as (pm_cd pm_mm219) 10 = some (.goto 4, 3) := by decide +kernel
theorem pm_a219_13 : pm_as (pm_cd pm_mm219) 13 = some (.iconst 1, 1) := by decide +kernel
theorem pm_a219_14 : pm_as (pm_cd pm_mm219) 14 = some (.ireturn, 1) := by decide +kernel
theorem pm_a220_0 : pm_as (pm_cd pm_mm220) 0 = some (.iload_n 1, 1) := by decide +kernel
theorem pm_a220_1 : pm_as (pm_cd pm_mm220) 1 = some (.invokestatic 88, 3) := by decide +kernel
theorem pm_a220_4 : pm_as (pm_cd pm_mm220) 4 = some (.ifCond .ne 5, 3) := by decide +kernel
theorem pm_a220_7 : pm_as (pm_cd pm_mm220) 7 = some (.iconst (-1), 1) := by decide +kernel
theorem pm_a220_8 : pm_as (pm_cd pm_mm220) 8 = some (.ireturn, 1) := by decide +kernel
theorem pm_a220_9 : pm_as (pm_cd pm_mm220) 9 = some (.iload_n 2, 1) := by decide +kernel
theorem pm_a220_10 : pm_as (pm_cd pm_mm220) 10 = some (.iconst 0, 1) := by decide +kernel
theorem pm_a220_11 : pm_as (pm_cd pm_mm220) 11 = some (.invokestatic 92, 3) := by decide +kernel
theorem pm_a220_14 : pm_as (pm_cd pm_mm220) 14 = some (.istore_n 2, 1) := by decide +kernel
theorem pm_a220_15 : pm_as (pm_cd pm_mm220) 15 = some (.iload_n 3, 1) := by decide +kernel
theorem pm_a220_16 : pm_as (pm_cd pm_mm220) 16 = some (.aload_n 0, 1) := by decide +kernel
theorem pm_a220_17 : pm_as (pm_cd pm_mm220) 17 = some (.arraylength, 1) := by decide +kernel
theorem pm_a220_18 : pm_as (pm_cd pm_mm220) 18 = some (.invokestatic 38, 3) := by decide +kernel
theorem pm_a220_21 : pm_as (pm_cd pm_mm220) 21 = some (.istore_n 3, 1) := by decide +kernel
theorem pm_a220_22 : pm_as (pm_cd pm_mm220) 22 = some (.iload_n 2, 1) := by decide +kernel
theorem pm_a220_23 : pm_as (pm_cd pm_mm220) 23 = some (.iload_n 3, 1) := by decide +kernel
theorem pm_a220_24 : pm_as (pm_cd pm_mm220) 24 = some (.if_icmp .lt 5, 3) := by decide +kernel
theorem pm_a220_27 : pm_as (pm_cd pm_mm220) 27 = some (.iconst (-1), 1) := by decide +kernel
theorem pm_a220_28 : pm_as (pm_cd pm_mm220) 28 = some (.ireturn, 1) := by decide +kernel
theorem pm_a220_29 : pm_as (pm_cd pm_mm220) 29 = some (.aload_n 0, 1) := by decide +kernel
theorem pm_a220_30 : pm_as (pm_cd pm_mm220) 30 = some (.iload_n 1, 1) := by decide +kernel
theorem pm_a220_31 : pm_as (pm_cd pm_mm220) 31 = some (.iload_n 2, 1) := by decide +kernel
theorem pm_a220_32 : pm_as (pm_cd pm_mm220) 32 = some (.iload_n 3, 1) := by decide +kernel
theorem pm_a220_33 : pm_as (pm_cd pm_mm220) 33 = some (.invokestatic 95, 3) := by decide +kernel
theorem pm_a220_36 : pm_as (pm_cd pm_mm220) 36 = some (.ireturn, 1) := by decide +kernel
theorem pm_a221_0 : pm_as (pm_cd pm_mm221) 0 = some (.iload_n 0, 1) := by decide +kernel
theorem pm_a221_1 : pm_as (pm_cd pm_mm221) 1 = some (.ifCond .lt 14, 3) := by decide +kernel
theorem pm_a221_4 : pm_as (pm_cd pm_mm221) 4 = some (.iload_n 0, 1) := by decide +kernel
theorem pm_a221_5 : pm_as (pm_cd pm_mm221) 5 = some (.sipush 255, 3) := by decide +kernel
theorem pm_a221_8 : pm_as (pm_cd pm_mm221) 8 = some (.if_icmp .gt 7, 3) := by decide +kernel
theorem pm_a221_11 : pm_as (pm_cd pm_mm221) 11 = some (.iconst 1, 1) := by decide +kernel
theorem pm_a221_12 : pm_as (pm_cd pm_mm221) 12 = some (.goto 4, 3) := by decide +kernel
theorem pm_a221_15 : pm_as (pm_cd pm_mm221) 15 = some (.iconst 0, 1) := by decide +kernel
theorem pm_a221_16 : pm_as (pm_cd pm_mm221) 16 = some (.ireturn, 1) := by decide +kernel
theorem pm_a222_0 : pm_as (pm_cd pm_mm222) 0 = some (.iload_n 1, 1) := by decide +kernel
theorem pm_a222_1 : pm_as (pm_cd pm_mm222) 1 = some (.i2b, 1) := by decide +kernel
theorem pm_a222_2 : pm_as (pm_cd pm_mm222) 2 = some (.istore 4, 2) := by decide +kernel
theorem pm_a222_4 : pm_as (pm_cd pm_mm222) 4 = some (.iload_n 2, 1) := by decide +kernel
theorem pm_a222_5 : pm_as (pm_cd pm_mm222) 5 = some (.istore 5, 2) := by decide +kernel
theorem pm_a222_7 : pm_as (pm_cd pm_mm222) 7 = some (.iload 5, 2) := by decide +kernel
theorem pm_a222_9 : pm_as (pm_cd pm_mm222) 9 = some (.iload_n 3, 1) := by decide +kernel
theorem pm_a222_10 : pm_as (pm_cd pm_mm222) 10 = some (.if_icmp .ge 21, 3) := by decide +kernel
theorem pm_a222_13 : pm_as (pm_cd pm_mm222) 13 = some (.aload_n 0, 1) := by decide +kernel
theorem pm_a222_14 : pm_as (pm_cd pm_mm222) 14 = some (.iload 5, 2) := by decide +kernel
theorem pm_a222_16 : pm_as (pm_cd pm_mm222) 16 = some (.baload, 1) := by decide +kernel
theorem pm_a222_17 : pm_as (pm_cd pm_mm222) 17 = some (.iload 4, 2) := by decide +kernel
theorem pm_a222_19 : pm_as (pm_cd pm_mm222) 19 = some (.if_icmp .ne 6, 3) := by decide +kernel
theorem pm_a222_22 : pm_as (pm_cd pm_mm222) 22 = some (.iload 5, 2) := by decide +kernel
theorem pm_a222_24 : pm_as (pm_cd pm_mm222) 24 = some (.ireturn, 1) := by decide +kernel
theorem pm_a222_25 : pm_as (pm_cd pm_mm222) 25 = some (.iinc 5 1, 3) := by decide +kernel
theorem pm_a222_28 : pm_as (pm_cd pm_mm222) 28 = some (.goto (-21), 3) := by decide +kernel
theorem pm_a222_31 : pm_as (pm_cd pm_mm222) 31 = some (.iconst (-1), 1) := by decide +kernel
theorem pm_a222_32 : pm_as (pm_cd pm_mm222) 32 = some (.ireturn, 1) := by decide +kernel
theorem pm_a223_0 : pm_as (pm_cd pm_mm223) 0 = some (.aload_n 0, 1) := by decide +kernel
theorem pm_a223_1 : pm_as (pm_cd pm_mm223) 1 = some (.invokevirtual 492, 3) := by decide +kernel
theorem pm_a223_4 : pm_as (pm_cd pm_mm223) 4 = some (.ifCond .eq 12, 3) := by decide +kernel
theorem pm_a223_7 : pm_as (pm_cd pm_mm223) 7 = some (.aload_n 0, 1) := by decide +kernel
theorem pm_a223_8 : pm_as (pm_cd pm_mm223) 8 = some (.getfield 9, 3) := by decide +kernel
theorem pm_a223_11 : pm_as (pm_cd pm_mm223) 11 = some (.iload_n 1, 1) := by decide +kernel
theorem pm_a223_12 : pm_as (pm_cd pm_mm223) 12 = some (.invokestatic 495, 3) := by decide +kernel
theorem pm_a223_15 : pm_as (pm_cd pm_mm223) 15 = some (.ireturn, 1) := by decide +kernel
theorem pm_a223_16 : pm_as (pm_cd pm_mm223) 16 = some (.aload_n 0, 1) := by decide +kernel
theorem pm_a223_17 : pm_as (pm_cd pm_mm223) 17 = some (.getfield 9, 3) := by decide +kernel
theorem pm_a223_20 : pm_as (pm_cd pm_mm223) 20 = some (.iload_n 1, 1) := by decide +kernel
theorem pm_a223_21 : pm_as (pm_cd pm_mm223) 21 = some (.invokestatic 498, 3) := by decide +kernel
theorem pm_a223_24 : pm_as (pm_cd pm_mm223) 24 = some (.ireturn, 1) := by decide +kernel
theorem pm_a224_0 : pm_as (pm_cd pm_mm224) 0 = some (.iload_n 1, 1) := by decide +kernel
theorem pm_a224_1 : pm_as (pm_cd pm_mm224) 1 = some (.aload_n 0, 1) := by decide +kernel
theorem pm_a224_2 : pm_as (pm_cd pm_mm224) 2 = some (.arraylength, 1) := by decide +kernel
theorem pm_a224_3 : pm_as (pm_cd pm_mm224) 3 = some (.invokestatic 9, 3) := by decide +kernel
theorem pm_a224_6 : pm_as (pm_cd pm_mm224) 6 = some (.aload_n 0, 1) := by decide +kernel
theorem pm_a224_7 : pm_as (pm_cd pm_mm224) 7 = some (.iload_n 1, 1) := by decide +kernel
theorem pm_a224_8 : pm_as (pm_cd pm_mm224) 8 = some (.baload, 1) := by decide +kernel
theorem pm_a224_9 : pm_as (pm_cd pm_mm224) 9 = some (.sipush 255, 3) := by decide +kernel
theorem pm_a224_12 : pm_as (pm_cd pm_mm224) 12 = some (.iand, 1) := by decide +kernel
theorem pm_a224_13 : pm_as (pm_cd pm_mm224) 13 = some (.i2c, 1) := by decide +kernel
theorem pm_a224_14 : pm_as (pm_cd pm_mm224) 14 = some (.ireturn, 1) := by decide +kernel
theorem pm_a225_0 : pm_as (pm_cd pm_mm225) 0 = some (.iload_n 0, 1) := by decide +kernel
theorem pm_a225_1 : pm_as (pm_cd pm_mm225) 1 = some (.iload_n 1, 1) := by decide +kernel
theorem pm_a225_2 : pm_as (pm_cd pm_mm225) 2 = some (.getstatic 1053, 3) := by decide +kernel
theorem pm_a225_5 : pm_as (pm_cd pm_mm225) 5 = some (.invokestatic 1059, 3) := by decide +kernel
theorem pm_a225_8 : pm_as (pm_cd pm_mm225) 8 = some (.pop, 1) := by decide +kernel
theorem pm_a225_9 : pm_as (pm_cd pm_mm225) 9 = some (.return_, 1) := by decide +kernel
theorem pm_a226_0 : pm_as (pm_cd pm_mm226) 0 = some (.iload_n 0, 1) := by decide +kernel
theorem pm_a226_1 : pm_as (pm_cd pm_mm226) 1 = some (.ifCond .lt 8, 3) := by decide +kernel
theorem pm_a226_4 : pm_as (pm_cd pm_mm226) 4 = some (.iload_n 0, 1) := by decide +kernel
theorem pm_a226_5 : pm_as (pm_cd pm_mm226) 5 = some (.iload_n 1, 1) := by decide +kernel
theorem pm_a226_6 : pm_as (pm_cd pm_mm226) 6 = some (.if_icmp .lt 10, 3) := by decide +kernel
theorem pm_a226_9 : pm_as (pm_cd pm_mm226) 9 = some (.aload_n 2, 1) := by decide +kernel
theorem pm_a226_10 : pm_as (pm_cd pm_mm226) 10 = some (.iload_n 0, 1) := by decide +kernel
theorem pm_a226_11 : pm_as (pm_cd pm_mm226) 11 = some (.iload_n 1, 1) := by decide +kernel
theorem pm_a226_12 : pm_as (pm_cd pm_mm226) 12 = some (.invokestatic 95, 3) := by decide +kernel
theorem pm_a226_15 : pm_as (pm_cd pm_mm226) 15 = some (.athrow, 1) := by decide +kernel
theorem pm_a226_16 : pm_as (pm_cd pm_mm226) 16 = some (.iload_n 0, 1) := by decide +kernel
theorem pm_a226_17 : pm_as (pm_cd pm_mm226) 17 = some (.ireturn, 1) := by decide +kernel
