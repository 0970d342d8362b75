set_option maxRecDepth 20000 in
theorem ggX7_init_Jx4a65c_add_9ea2d : GoodIn wsX7_init wsJx4a65c_add_9ea2d := goodIn_r _ [50, 51, 52, 20, 53, 54, 55, 56, 6, 57, 58, 59, 60, 61, 62, 63, 64, 65, 19, 66, 67, 43, 68, 69, 70, 71, 72, 73, 74, 75, 76, 77, 78, 79, 80, 81, 82, 83, 84, 85, 86, 87, 88, 89, 90, 91, 92, 42, 44, 93, 94, 95, 96, 97, 98, 99] (by decide +kernel) (by decide +kernel)
set_option maxRecDepth 20000 in
theorem gX7_init_Jx4a65c_add_9ea2d : GoodIn wsX7_init (wsV RX7 34 RJx4a65c yJx4a65c_add_9ea2d wsJx4a65c_add_9ea2d) := goodIn_app (goodIn_of _ (by decide +kernel)) ggX7_init_Jx4a65c_add_9ea2d
theorem dX7_init_0 : decode cX7_init 0 = .ok (.aload_n 0, 1) := by decide +kernel
theorem dX7_init_1 : decode cX7_init 1 = .ok (.invokespecial 1, 3) := by decide +kernel
theorem dX7_init_4 : decode cX7_init 4 = .ok (.aload_n 0, 1) := by decide +kernel
theorem dX7_init_5 : decode cX7_init 5 = .ok (.new 7, 3) := by decide +kernel
theorem dX7_init_8 : decode cX7_init 8 = .ok (.dup, 1) := by decide +kernel
theorem dX7_init_9 : decode cX7_init 9 = .ok (.invokespecial 9, 3) := by decide +kernel
theorem dX7_init_12 : decode cX7_init 12 = .ok (.putfield 10, 3) := by decide +kernel
theorem dX7_init_15 : decode cX7_init 15 = .ok (.aload_n 0, 1) := by decide +kernel
theorem dX7_init_16 : decode cX7_init 16 = .ok (.bipush 100, 2) := by decide +kernel
theorem dX7_init_18 : decode cX7_init 18 = .ok (.newarray .int, 2) := by decide +kernel
theorem dX7_init_20 : decode cX7_init 20 = .ok (.putfield 16, 3) := by decide +kernel
theorem dX7_init_23 : decode cX7_init 23 = .ok (.aload_n 0, 1) := by decide +kernel
theorem dX7_init_24 : decode cX7_init 24 = .ok (.bipush 100, 2) := by decide +kernel
theorem dX7_init_26 : decode cX7_init 26 = .ok (.newarray .int, 2) := by decide +kernel
theorem dX7_init_28 : decode cX7_init 28 = .ok (.putfield 20, 3) := by decide +kernel
theorem dX7_init_31 : decode cX7_init 31 = .ok (.aload_n 0, 1) := by decide +kernel
theorem dX7_init_32 : decode cX7_init 32 = .ok (.bipush 100, 2) := by decide +kernel
theorem dX7_init_34 : decode cX7_init 34 = .ok (.newarray .int, 2) := by decide +kernel
theorem dX7_init_36 : decode cX7_init 36 = .ok (.putfield 23, 3) := by decide +kernel
theorem dX7_init_39 : decode cX7_init 39 = .ok (.aload_n 0, 1) := by decide +kernel
theorem dX7_init_40 : decode cX7_init 40 = .ok (.bipush 100, 2) := by decide +kernel
theorem dX7_init_42 : decode cX7_init 42 = .ok (.newarray .int, 2) := by decide +kernel
theorem dX7_init_44 : decode cX7_init 44 = .ok (.putfield 26, 3) := by decide +kernel
theorem dX7_init_47 : decode cX7_init 47 = .ok (.bipush 11, 2) := by decide +kernel
theorem dX7_init_49 : decode cX7_init 49 = .ok (.newarray .int, 2) := by decide +kernel
theorem dX7_init_51 : decode cX7_init 51 = .ok (.dup, 1) := by decide +kernel
theorem dX7_init_52 : decode cX7_init 52 = .ok (.iconst 0, 1) := by decide +kernel
theorem dX7_init_53 : decode cX7_init 53 = .ok (.iconst 0, 1) := by decide +kernel
theorem dX7_init_54 : decode cX7_init 54 = .ok (.iastore, 1) := by decide +kernel
theorem dX7_init_55 : decode cX7_init 55 = .ok (.dup, 1) := by decide +kernel
theorem dX7_init_56 : decode cX7_init 56 = .ok (.iconst 1, 1) := by decide +kernel
theorem dX7_init_57 : decode cX7_init 57 = .ok (.iconst 1, 1) := by decide +kernel
theorem dX7_init_58 : decode cX7_init 58 = .ok (.iastore, 1) := by decide +kernel
theorem dX7_init_59 : decode cX7_init 59 = .ok (.dup, 1) := by decide +kernel
theorem dX7_init_60 : decode cX7_init 60 = .ok (.iconst 2, 1) := by decide +kernel
theorem dX7_init_61 : decode cX7_init 61 = .ok (.iconst 1, 1) := by decide +kernel
theorem dX7_init_62 : decode cX7_init 62 = .ok (.iastore, 1) := by decide +kernel
theorem dX7_init_63 : decode cX7_init 63 = .ok (.dup, 1) := by decide +kernel
theorem dX7_init_64 : decode cX7_init 64 = .ok (.iconst 3, 1) := by decide +kernel
theorem dX7_init_65 : decode cX7_init 65 = .ok (.iconst 2, 1) := by decide +kernel
theorem dX7_init_66 : decode cX7_init 66 = .ok (.iastore, 1) := by decide +kernel
theorem dX7_init_67 : decode cX7_init 67 = .ok (.dup, 1) := by decide +kernel
theorem dX7_init_68 : decode cX7_init 68 = .ok (.iconst 4, 1) := by decide +kernel
theorem dX7_init_69 : decode cX7_init 69 = .ok (.iconst 2, 1) := by decide +kernel
theorem dX7_init_70 : decode cX7_init 70 = .ok (.iastore, 1) := by decide +kernel
theorem dX7_init_71 : decode cX7_init 71 = .ok (.dup, 1) := by decide +kernel
theorem dX7_init_72 : decode cX7_init 72 = .ok (.iconst 5, 1) := by decide +kernel
theorem dX7_init_73 : decode cX7_init 73 = .ok (.iconst 4, 1) := by decide +kernel
theorem dX7_init_74 : decode cX7_init 74 = .ok (.iastore, 1) := by decide +kernel
theorem dX7_init_75 : decode cX7_init 75 = .ok (.dup, 1) := by decide +kernel
theorem dX7_init_76 : decode cX7_init 76 = .ok (.bipush 6, 2) := by decide +kernel
theorem dX7_init_78 : decode cX7_init 78 = .ok (.iconst 4, 1) := by decide +kernel
theorem dX7_init_79 : decode cX7_init 79 = .ok (.iastore, 1) := by decide +kernel
theorem dX7_init_80 : decode cX7_init 80 = .ok (.dup, 1) := by decide +kernel
theorem dX7_init_81 : decode cX7_init 81 = .ok (.bipush 7, 2) := by decide +kernel
theorem dX7_init_83 : decode cX7_init 83 = .ok (.bipush 8, 2) := by decide +kernel
theorem dX7_init_85 : decode cX7_init 85 = .ok (.iastore, 1) := by decide +kernel
theorem dX7_init_86 : decode cX7_init 86 = .ok (.dup, 1) := by decide +kernel
theorem dX7_init_87 : decode cX7_init 87 = .ok (.bipush 8, 2) := by decide +kernel
theorem dX7_init_89 : decode cX7_init 89 = .ok (.bipush 8, 2) := by decide +kernel
theorem dX7_init_91 : decode cX7_init 91 = .ok (.iastore, 1) := by decide +kernel
theorem dX7_init_92 : decode cX7_init 92 = .ok (.dup, 1) := by decide +kernel
theorem dX7_init_93 : decode cX7_init 93 = .ok (.bipush 9, 2) := by decide +kernel
theorem dX7_init_95 : decode cX7_init 95 = .ok (.iconst 4, 1) := by decide +kernel
theorem dX7_init_96 : decode cX7_init 96 = .ok (.iastore, 1) := by decide +kernel
theorem dX7_init_97 : decode cX7_init 97 = .ok (.dup, 1) := by decide +kernel
theorem dX7_init_98 : decode cX7_init 98 = .ok (.bipush 10, 2) := by decide +kernel
theorem dX7_init_100 : decode cX7_init 100 = .ok (.bipush 8, 2) := by decide +kernel
theorem dX7_init_102 : decode cX7_init 102 = .ok (.iastore, 1) := by decide +kernel
theorem dX7_init_103 : decode cX7_init 103 = .ok (.astore_n 1, 1) := by decide +kernel
theorem dX7_init_104 : decode cX7_init 104 = .ok (.iconst 0, 1) := by decide +kernel
theorem dX7_init_105 : decode cX7_init 105 = .ok (.istore_n 2, 1) := by decide +kernel
theorem dX7_init_106 : decode cX7_init 106 = .ok (.iload_n 2, 1) := by decide +kernel
theorem dX7_init_107 : decode cX7_init 107 = .ok (.bipush 11, 2) := by decide +kernel
theorem dX7_init_109 : decode cX7_init 109 = .ok (.if_icmp .ge 30, 3) := by decide +kernel
theorem dX7_init_112 : decode cX7_init 112 = .ok (.aload_n 0, 1) := by decide +kernel
theorem dX7_init_113 : decode cX7_init 113 = .ok (.getfield 10, 3) := by decide +kernel
theorem dX7_init_116 : decode cX7_init 116 = .ok (.new 29, 3) := by decide +kernel
theorem dX7_init_119 : decode cX7_init 119 = .ok (.dup, 1) := by decide +kernel
theorem dX7_init_120 : decode cX7_init 120 = .ok (.iconst 0, 1) := by decide +kernel
theorem dX7_init_121 : decode cX7_init 121 = .ok (.iconst 0, 1) := by decide +kernel
theorem dX7_init_122 : decode cX7_init 122 = .ok (.iconst 0, 1) := by decide +kernel
theorem dX7_init_123 : decode cX7_init 123 = .ok (.aload_n 1, 1) := by decide +kernel
theorem dX7_init_124 : decode cX7_init 124 = .ok (.iload_n 2, 1) := by decide +kernel
theorem dX7_init_125 : decode cX7_init 125 = .ok (.iaload, 1) := by decide +kernel
theorem dX7_init_126 : decode cX7_init 126 = .ok (.invokespecial 31, 3) := by decide +kernel
theorem dX7_init_129 : decode cX7_init 129 = .ok (.invokevirtual 34, 3) := by decide +kernel
theorem dX7_init_132 : decode cX7_init 132 = .ok (.pop, 1) := by decide +kernel
theorem dX7_init_133 : decode cX7_init 133 = .ok (.iinc 2 1, 3) := by decide +kernel
theorem dX7_init_136 : decode cX7_init 136 = .ok (.goto (-30), 3) := by decide +kernel
theorem dX7_init_139 : decode cX7_init 139 = .ok (.return_, 1) := by decide +kernel
set_option maxRecDepth 20000 in
theorem ggX7_there_Jx4a65c_size_8abf5 : GoodIn wsX7_there wsJx4a65c_size_8abf5 := goodIn_r _ [6, 7, 16, 17, 18] (by decide +kernel) (by decide +kernel)
set_option maxRecDepth 20000 in
theorem gX7_there_Jx4a65c_size_8abf5 : GoodIn wsX7_there (wsV RX7 38 RJx4a65c yJx4a65c_size_8abf5 wsJx4a65c_size_8abf5) := goodIn_app (goodIn_of _ (by decide +kernel)) ggX7_there_Jx4a65c_size_8abf5
theorem dX7_there_0 : decode cX7_there 0 = .ok (.iload_n 1, 1) := by decide +kernel
theorem dX7_there_1 : decode cX7_there 1 = .ok (.ifCond .lt 18, 3) := by decide +kernel
theorem dX7_there_4 : decode cX7_there 4 = .ok (.iload_n 1, 1) := by decide +kernel
theorem dX7_there_5 : decode cX7_there 5 = .ok (.aload_n 0, 1) := by decide +kernel
theorem dX7_there_6 : decode cX7_there 6 = .ok (.getfield 10, 3) := by decide +kernel
theorem dX7_there_9 : decode cX7_there 9 = .ok (.invokevirtual 38, 3) := by decide +kernel
theorem dX7_there_12 : decode cX7_there 12 = .ok (.if_icmp .ge 7, 3) := by decide +kernel
theorem dX7_there_15 : decode cX7_there 15 = .ok (.iconst 1, 1) := by decide +kernel
theorem dX7_there_16 : decode cX7_there 16 = .ok (.goto 4, 3) := by decide +kernel
theorem dX7_there_19 : decode cX7_there 19 = .ok (.iconst 0, 1) := by decide +kernel
theorem dX7_there_20 : decode cX7_there 20 = .ok (.ireturn, 1) := by decide +kernel
set_option maxRecDepth 20000 in
theorem ggX7_open_X7_there : GoodIn wsX7_open wsX7_there := goodIn_r _ [8, 1, 9, 10, 11, 12, 13, 14, 38, 39, 40, 41, 42, 43, 44, 45, 53, 54, 55] (by decide +kernel) (by decide +kernel)
set_option maxRecDepth 20000 in
theorem gX7_open_X7_there : GoodIn wsX7_open (wsV RX7 42 RX7 yX7_there wsX7_there) := goodIn_app (goodIn_of _ (by decide +kernel)) ggX7_open_X7_there
set_option maxRecDepth 20000 in
theorem ggX7_open_Jx4a65c_get_915e3 : GoodIn wsX7_open wsJx4a65c_get_915e3 := goodIn_r _ [18, 14, 19, 20, 21, 22, 23, 24, 25, 26, 27, 28, 29, 12, 30, 31, 53, 54, 55] (by decide +kernel) (by decide +kernel)
set_option maxRecDepth 20000 in
theorem gX7_open_Jx4a65c_get_915e3 : GoodIn wsX7_open (wsV RX7 46 RJx4a65c yJx4a65c_get_915e3 wsJx4a65c_get_915e3) := goodIn_app (goodIn_of _ (by decide +kernel)) ggX7_open_Jx4a65c_get_915e3
set_option maxRecDepth 20000 in
theorem ggX7_open_X6_record : GoodIn wsX7_open wsX6_record := goodIn_r _ [36, 37, 46, 47, 48, 49, 50, 51, 52] (by decide +kernel) (by decide +kernel)
set_option maxRecDepth 20000 in
theorem gX7_open_X6_record : GoodIn wsX7_open (wsV RX7 50 RX6 yX6_record wsX6_record) := goodIn_app (goodIn_of _ (by decide +kernel)) ggX7_open_X6_record
theorem dX7_open_0 : decode cX7_open 0 = .ok (.aload_n 0, 1) := by decide +kernel
theorem dX7_open_1 : decode cX7_open 1 = .ok (.iload_n 1, 1) := by decide +kernel
theorem dX7_open_2 : decode cX7_open 2 = .ok (.invokevirtual 42, 3) := by decide +kernel
theorem dX7_open_5 : decode cX7_open 5 = .ok (.ifCond .eq 17, 3) := by decide +kernel
theorem dX7_open_8 : decode cX7_open 8 = .ok (.aload_n 0, 1) := by decide +kernel
theorem dX7_open_9 : decode cX7_open 9 = .ok (.getfield 10, 3) := by decide +kernel
theorem dX7_open_12 : decode cX7_open 12 = .ok (.iload_n 1, 1) := by decide +kernel
theorem dX7_open_13 : decode cX7_open 13 = .ok (.invokevirtual 46, 3) := by decide +kernel
theorem dX7_open_16 : decode cX7_open 16 = .ok (.checkcast 29, 3) := by decide +kernel
theorem dX7_open_19 : decode cX7_open 19 = .ok (.goto 4, 3) := by decide +kernel
theorem dX7_open_22 : decode cX7_open 22 = .ok (.aconst_null, 1) := by decide +kernel
theorem dX7_open_23 : decode cX7_open 23 = .ok (.astore_n 2, 1) := by decide +kernel
theorem dX7_open_24 : decode cX7_open 24 = .ok (.aload_n 2, 1) := by decide +kernel
theorem dX7_open_25 : decode cX7_open 25 = .ok (.ifnull 21, 3) := by decide +kernel
theorem dX7_open_28 : decode cX7_open 28 = .ok (.aload_n 2, 1) := by decide +kernel
theorem dX7_open_29 : decode cX7_open 29 = .ok (.invokevirtual 50, 3) := by decide +kernel
theorem dX7_open_32 : decode cX7_open 32 = .ok (.ifCond .eq 14, 3) := by decide +kernel
theorem dX7_open_35 : decode cX7_open 35 = .ok (.aload_n 2, 1) := by decide +kernel
theorem dX7_open_36 : decode cX7_open 36 = .ok (.getfield 54, 3) := by decide +kernel
theorem dX7_open_39 : decode cX7_open 39 = .ok (.ifCond .ne 7, 3) := by decide +kernel
theorem dX7_open_42 : decode cX7_open 42 = .ok (.aload_n 2, 1) := by decide +kernel
theorem dX7_open_43 : decode cX7_open 43 = .ok (.goto 4, 3) := by decide +kernel
theorem dX7_open_46 : decode cX7_open 46 = .ok (.aconst_null, 1) := by decide +kernel
theorem dX7_open_47 : decode cX7_open 47 = .ok (.areturn, 1) := by decide +kernel
set_option maxRecDepth 20000 in
theorem ggX7_made_Jx4a65c_add_9ea2d : GoodIn wsX7_made wsJx4a65c_add_9ea2d := goodIn_r _ [6, 7, 8, 9, 10, 11, 12, 13, 5, 14, 15, 16, 17, 18, 19, 20, 21, 22, 23, 24, 25, 26, 27, 28, 29, 30, 31, 32, 33, 34, 35, 36, 37, 38, 39, 40, 41, 42, 43, 44, 45, 46, 47, 48, 49, 50, 51, 52, 53, 54, 55, 56, 57, 70, 71, 72] (by decide +kernel) (by decide +kernel)
set_option maxRecDepth 20000 in
theorem gX7_made_Jx4a65c_add_9ea2d : GoodIn wsX7_made (wsV RX7 34 RJx4a65c yJx4a65c_add_9ea2d wsJx4a65c_add_9ea2d) := goodIn_app (goodIn_of _ (by decide +kernel)) ggX7_made_Jx4a65c_add_9ea2d
set_option maxRecDepth 20000 in
theorem ggX7_made_Jx4a65c_size_8abf5 : GoodIn wsX7_made wsJx4a65c_size_8abf5 := goodIn_r _ [61, 10, 70, 71, 72] (by decide +kernel) (by decide +kernel)
set_option maxRecDepth 20000 in
theorem gX7_made_Jx4a65c_size_8abf5 : GoodIn wsX7_made (wsV RX7 38 RJx4a65c yJx4a65c_size_8abf5 wsJx4a65c_size_8abf5) := goodIn_app (goodIn_of _ (by decide +kernel)) ggX7_made_Jx4a65c_size_8abf5
theorem dX7_made_0 : decode cX7_made 0 = .ok (.aload_n 0, 1) := by decide +kernel
theorem dX7_made_1 : decode cX7_made 1 = .ok (.getfield 10, 3) := by decide +kernel
theorem dX7_made_4 : decode cX7_made 4 = .ok (.aload_n 1, 1) := by decide +kernel
theorem dX7_made_5 : decode cX7_made 5 = .ok (.invokevirtual 34, 3) := by decide +kernel
theorem dX7_made_8 : decode cX7_made 8 = .ok (.pop, 1) := by decide +kernel
theorem dX7_made_9 : decode cX7_made 9 = .ok (.aload_n 0, 1) := by decide +kernel
theorem dX7_made_10 : decode cX7_made 10 = .ok (.getfield 10, 3) := by decide +kernel
theorem dX7_made_13 : decode cX7_made 13 = .ok (.invokevirtual 38, 3) := by decide +kernel
theorem dX7_made_16 : decode cX7_made 16 = .ok (.iconst 1, 1) := by decide +kernel
theorem dX7_made_17 : decode cX7_made 17 = .ok (.isub, 1) := by decide +kernel
theorem dX7_made_18 : decode cX7_made 18 = .ok (.ireturn, 1) := by decide +kernel
set_option maxRecDepth 20000 in
theorem ggX7_known_Jx4a65c_size_8abf5 : GoodIn wsX7_known wsJx4a65c_size_8abf5 := goodIn_r _ [10, 11, 44, 45, 46] (by decide +kernel) (by decide +kernel)
set_option maxRecDepth 20000 in
theorem gX7_known_Jx4a65c_size_8abf5 : GoodIn wsX7_known (wsV RX7 38 RJx4a65c yJx4a65c_size_8abf5 wsJx4a65c_size_8abf5) := goodIn_app (goodIn_of _ (by decide +kernel)) ggX7_known_Jx4a65c_size_8abf5
set_option maxRecDepth 20000 in
theorem ggX7_known_Jx4a65c_get_915e3 : GoodIn wsX7_known wsJx4a65c_get_915e3 := goodIn_r _ [15, 11, 16, 17, 18, 19, 20, 21, 22, 23, 24, 25, 26, 9, 27, 28, 44, 45, 46] (by decide +kernel) (by decide +kernel)
set_option maxRecDepth 20000 in
theorem gX7_known_Jx4a65c_get_915e3 : GoodIn wsX7_known (wsV RX7 46 RJx4a65c yJx4a65c_get_915e3 wsJx4a65c_get_915e3) := goodIn_app (goodIn_of _ (by decide +kernel)) ggX7_known_Jx4a65c_get_915e3
theorem dX7_known_0 : decode cX7_known 0 = .ok (.iconst 0, 1) := by decide +kernel
theorem dX7_known_1 : decode cX7_known 1 = .ok (.istore 4, 2) := by decide +kernel
theorem dX7_known_3 : decode cX7_known 3 = .ok (.iload 4, 2) := by decide +kernel
theorem dX7_known_5 : decode cX7_known 5 = .ok (.aload_n 0, 1) := by decide +kernel
theorem dX7_known_6 : decode cX7_known 6 = .ok (.getfield 10, 3) := by decide +kernel
theorem dX7_known_9 : decode cX7_known 9 = .ok (.invokevirtual 38, 3) := by decide +kernel
theorem dX7_known_12 : decode cX7_known 12 = .ok (.if_icmp .ge 53, 3) := by decide +kernel
theorem dX7_known_15 : decode cX7_known 15 = .ok (.aload_n 0, 1) := by decide +kernel
theorem dX7_known_16 : decode cX7_known 16 = .ok (.getfield 10, 3) := by decide +kernel
theorem dX7_known_19 : decode cX7_known 19 = .ok (.iload 4, 2) := by decide +kernel
theorem dX7_known_21 : decode cX7_known 21 = .ok (.invokevirtual 46, 3) := by decide +kernel
theorem dX7_known_24 : decode cX7_known 24 = .ok (.checkcast 29, 3) := by decide +kernel
theorem dX7_known_27 : decode cX7_known 27 = .ok (.astore 5, 2) := by decide +kernel
theorem dX7_known_29 : decode cX7_known 29 = .ok (.aload 5, 2) := by decide +kernel
theorem dX7_known_31 : decode cX7_known 31 = .ok (.getfield 58, 3) := by decide +kernel
theorem dX7_known_34 : decode cX7_known 34 = .ok (.iload_n 1, 1) := by decide +kernel
theorem dX7_known_35 : decode cX7_known 35 = .ok (.if_icmp .ne 24, 3) := by decide +kernel
theorem dX7_known_38 : decode cX7_known 38 = .ok (.aload 5, 2) := by decide +kernel
theorem dX7_known_40 : decode cX7_known 40 = .ok (.getfield 62, 3) := by decide +kernel
theorem dX7_known_43 : decode cX7_known 43 = .ok (.iload_n 2, 1) := by decide +kernel
theorem dX7_known_44 : decode cX7_known 44 = .ok (.if_icmp .ne 15, 3) := by decide +kernel
theorem dX7_known_47 : decode cX7_known 47 = .ok (.aload 5, 2) := by decide +kernel
theorem dX7_known_49 : decode cX7_known 49 = .ok (.getfield 65, 3) := by decide +kernel
theorem dX7_known_52 : decode cX7_known 52 = .ok (.iload_n 3, 1) := by decide +kernel
theorem dX7_known_53 : decode cX7_known 53 = .ok (.if_icmp .ne 6, 3) := by decide +kernel
theorem dX7_known_56 : decode cX7_known 56 = .ok (.iload 4, 2) := by decide +kernel
theorem dX7_known_58 : decode cX7_known 58 = .ok (.ireturn, 1) := by decide +kernel
theorem dX7_known_59 : decode cX7_known 59 = .ok (.iinc 4 1, 3) := by decide +kernel
theorem dX7_known_62 : decode cX7_known 62 = .ok (.goto (-59), 3) := by decide +kernel
theorem dX7_known_65 : decode cX7_known 65 = .ok (.iconst (-1), 1) := by decide +kernel
theorem dX7_known_66 : decode cX7_known 66 = .ok (.ireturn, 1) := by decide +kernel
set_option maxRecDepth 20000 in
theorem ggX7_pointer_X7_there : GoodIn wsX7_pointer wsX7_there := goodIn_r _ [9, 1, 10, 11, 12, 13, 14, 15, 126, 127, 128, 129, 130, 131, 132, 133, 141, 142, 143] (by decide +kernel) (by decide +kernel)
set_option maxRecDepth 20000 in
theorem gX7_pointer_X7_there : GoodIn wsX7_pointer (wsV RX7 42 RX7 yX7_there wsX7_there) := goodIn_app (goodIn_of _ (by decide +kernel)) ggX7_pointer_X7_there
set_option maxRecDepth 20000 in
theorem ggX7_pointer_X7_known : GoodIn wsX7_pointer wsX7_known := goodIn_r _ [19, 1, 20, 21, 22, 23, 10, 11, 12, 13, 14, 15, 24, 25, 26, 27, 28, 29, 30, 31, 32, 33, 34, 35, 36, 37, 38, 39, 40, 126, 127, 128, 129, 130, 131, 132, 133, 134, 135, 136, 137, 138, 139, 140, 141, 142, 143] (by decide +kernel) (by decide +kernel)
set_option maxRecDepth 20000 in
theorem gX7_pointer_X7_known : GoodIn wsX7_pointer (wsV RX7 68 RX7 yX7_known wsX7_known) := goodIn_app (goodIn_of _ (by decide +kernel)) ggX7_pointer_X7_known
set_option maxRecDepth 20000 in
theorem ggX7_pointer_Jx4a65c_size_8abf5 : GoodIn wsX7_pointer wsJx4a65c_size_8abf5 := goodIn_r _ [14, 15, 141, 142, 143] (by decide +kernel) (by decide +kernel)
set_option maxRecDepth 20000 in
theorem gX7_pointer_Jx4a65c_size_8abf5 : GoodIn wsX7_pointer (wsV RX7 38 RJx4a65c yJx4a65c_size_8abf5 wsJx4a65c_size_8abf5) := goodIn_app (goodIn_of _ (by decide +kernel)) ggX7_pointer_Jx4a65c_size_8abf5
set_option maxRecDepth 20000 in
theorem ggX7_pointer_X6_init : GoodIn wsX7_pointer wsX6_init := goodIn_r _ [43, 44, 45, 46, 47, 48, 13, 49, 50, 51, 52, 53, 54, 55, 56, 57, 58, 59, 60, 61, 62, 40, 63, 64, 65, 66, 67, 68, 69, 70, 71, 72, 141, 142, 143, 134, 135, 136, 137, 138, 139, 140] (by decide +kernel) (by decide +kernel)
set_option maxRecDepth 20000 in
theorem gX7_pointer_X6_init : GoodIn wsX7_pointer (wsX6_init) := ggX7_pointer_X6_init
set_option maxRecDepth 20000 in
theorem ggX7_pointer_X7_made : GoodIn wsX7_pointer wsX7_made := goodIn_r _ [76, 1, 77, 78, 79, 13, 80, 81, 82, 40, 15, 83, 84, 85, 86, 87, 88, 89, 90, 91, 92, 93, 94, 62, 95, 96, 56, 97, 98, 99, 100, 101, 102, 103, 104, 105, 106, 107, 108, 109, 110, 111, 112, 113, 114, 115, 116, 117, 118, 119, 120, 121, 55, 57, 122, 123, 124, 125, 10, 11, 12, 14, 126, 127, 128, 129, 130, 131, 132, 133, 141, 142, 143] (by decide +kernel) (by decide +kernel)
set_option maxRecDepth 20000 in
theorem gX7_pointer_X7_made : GoodIn wsX7_pointer (wsV RX7 72 RX7 yX7_made wsX7_made) := goodIn_app (goodIn_of _ (by decide +kernel)) ggX7_pointer_X7_made
theorem dX7_pointer_0 : decode cX7_pointer 0 = .ok (.aload_n 0, 1) := by decide +kernel
theorem dX7_pointer_1 : decode cX7_pointer 1 = .ok (.iload_n 1, 1) := by decide +kernel
theorem dX7_pointer_2 : decode cX7_pointer 2 = .ok (.invokevirtual 42, 3) := by decide +kernel
theorem dX7_pointer_5 : decode cX7_pointer 5 = .ok (.ifCond .ne 5, 3) := by decide +kernel
theorem dX7_pointer_8 : decode cX7_pointer 8 = .ok (.iconst (-1), 1) := by decide +kernel
theorem dX7_pointer_9 : decode cX7_pointer 9 = .ok (.ireturn, 1) := by decide +kernel
theorem dX7_pointer_10 : decode cX7_pointer 10 = .ok (.aload_n 0, 1) := by decide +kernel
theorem dX7_pointer_11 : decode cX7_pointer 11 = .ok (.iconst 1, 1) := by decide +kernel
theorem dX7_pointer_12 : decode cX7_pointer 12 = .ok (.iload_n 1, 1) := by decide +kernel
theorem dX7_pointer_13 : decode cX7_pointer 13 = .ok (.iconst 0, 1) := by decide +kernel
theorem dX7_pointer_14 : decode cX7_pointer 14 = .ok (.invokevirtual 68, 3) := by decide +kernel
theorem dX7_pointer_17 : decode cX7_pointer 17 = .ok (.istore_n 2, 1) := by decide +kernel
theorem dX7_pointer_18 : decode cX7_pointer 18 = .ok (.iload_n 2, 1) := by decide +kernel
theorem dX7_pointer_19 : decode cX7_pointer 19 = .ok (.ifCond .lt 5, 3) := by decide +kernel
theorem dX7_pointer_22 : decode cX7_pointer 22 = .ok (.iload_n 2, 1) := by decide +kernel
theorem dX7_pointer_23 : decode cX7_pointer 23 = .ok (.ireturn, 1) := by decide +kernel
theorem dX7_pointer_24 : decode cX7_pointer 24 = .ok (.aload_n 0, 1) := by decide +kernel
theorem dX7_pointer_25 : decode cX7_pointer 25 = .ok (.getfield 10, 3) := by decide +kernel
theorem dX7_pointer_28 : decode cX7_pointer 28 = .ok (.invokevirtual 38, 3) := by decide +kernel
theorem dX7_pointer_31 : decode cX7_pointer 31 = .ok (.sipush 300, 3) := by decide +kernel
theorem dX7_pointer_34 : decode cX7_pointer 34 = .ok (.if_icmp .ne 8, 3) := by decide +kernel
theorem dX7_pointer_37 : decode cX7_pointer 37 = .ok (.bipush (-2), 2) := by decide +kernel
theorem dX7_pointer_39 : decode cX7_pointer 39 = .ok (.goto 18, 3) := by decide +kernel
theorem dX7_pointer_42 : decode cX7_pointer 42 = .ok (.aload_n 0, 1) := by decide +kernel
theorem dX7_pointer_43 : decode cX7_pointer 43 = .ok (.new 29, 3) := by decide +kernel
theorem dX7_pointer_46 : decode cX7_pointer 46 = .ok (.dup, 1) := by decide +kernel
theorem dX7_pointer_47 : decode cX7_pointer 47 = .ok (.iconst 1, 1) := by decide +kernel
theorem dX7_pointer_48 : decode cX7_pointer 48 = .ok (.iload_n 1, 1) := by decide +kernel
theorem dX7_pointer_49 : decode cX7_pointer 49 = .ok (.iconst 0, 1) := by decide +kernel
theorem dX7_pointer_50 : decode cX7_pointer 50 = .ok (.iconst 4, 1) := by decide +kernel
theorem dX7_pointer_51 : decode cX7_pointer 51 = .ok (.invokespecial 31, 3) := by decide +kernel
theorem dX7_pointer_54 : decode cX7_pointer 54 = .ok (.invokevirtual 72, 3) := by decide +kernel
theorem dX7_pointer_57 : decode cX7_pointer 57 = .ok (.ireturn, 1) := by decide +kernel
set_option maxRecDepth 20000 in
theorem ggX7_array_X7_there : GoodIn wsX7_array wsX7_there := goodIn_r _ [13, 3, 14, 15, 16, 17, 18, 19, 143, 144, 145, 146, 147, 148, 149, 150, 158, 159, 160] (by decide +kernel) (by decide +kernel)
set_option maxRecDepth 20000 in
theorem gX7_array_X7_there : GoodIn wsX7_array (wsV RX7 42 RX7 yX7_there wsX7_there) := goodIn_app (goodIn_of _ (by decide +kernel)) ggX7_array_X7_there
set_option maxRecDepth 20000 in
theorem ggX7_array_X7_sized : GoodIn wsX7_array wsX7_sized := goodIn_r _ [23, 3, 7, 24, 25, 26, 27, 17, 28, 19, 29, 30, 31, 32, 33, 34, 35, 36, 37, 38, 39, 40, 41, 42, 43, 44, 6, 45, 46, 143, 144, 145, 146, 147, 148, 149, 150, 151, 152, 153, 154, 155, 156, 157, 158, 159, 160] (by decide +kernel) (by decide +kernel)
set_option maxRecDepth 20000 in
theorem gX7_array_X7_sized : GoodIn wsX7_array (wsV RX7 77 RX7 yX7_sized wsX7_sized) := goodIn_app (goodIn_of _ (by decide +kernel)) ggX7_array_X7_sized
set_option maxRecDepth 20000 in
theorem ggX7_array_X7_size : GoodIn wsX7_array wsX7_size := goodIn_r _ [50, 3, 7, 51, 9, 10, 11, 12, 13, 14, 15, 16, 17, 18, 19, 25, 26, 27, 28, 29, 30, 31, 32, 33, 34, 35, 36, 37, 38, 39, 40, 41, 143, 144, 145, 146, 147, 148, 149, 150, 151, 152, 153, 154, 155, 156, 157, 158, 159, 160] (by decide +kernel) (by decide +kernel)
set_option maxRecDepth 20000 in
theorem gX7_array_X7_size : GoodIn wsX7_array (wsV RX7 80 RX7 yX7_size wsX7_size) := goodIn_app (goodIn_of _ (by decide +kernel)) ggX7_array_X7_size
set_option maxRecDepth 20000 in
theorem ggX7_array_X7_known : GoodIn wsX7_array wsX7_known := goodIn_r _ [55, 3, 7, 56, 57, 58, 14, 15, 16, 17, 18, 19, 25, 26, 27, 28, 29, 30, 31, 32, 33, 34, 35, 36, 37, 38, 39, 40, 41, 143, 144, 145, 146, 147, 148, 149, 150, 151, 152, 153, 154, 155, 156, 157, 158, 159, 160] (by decide +kernel) (by decide +kernel)
set_option maxRecDepth 20000 in
theorem gX7_array_X7_known : GoodIn wsX7_array (wsV RX7 68 RX7 yX7_known wsX7_known) := goodIn_app (goodIn_of _ (by decide +kernel)) ggX7_array_X7_known
set_option maxRecDepth 20000 in
theorem ggX7_array_Jx4a65c_size_8abf5 : GoodIn wsX7_array wsJx4a65c_size_8abf5 := goodIn_r _ [18, 19, 158, 159, 160] (by decide +kernel) (by decide +kernel)
set_option maxRecDepth 20000 in
theorem gX7_array_Jx4a65c_size_8abf5 : GoodIn wsX7_array (wsV RX7 38 RJx4a65c yJx4a65c_size_8abf5 wsJx4a65c_size_8abf5) := goodIn_app (goodIn_of _ (by decide +kernel)) ggX7_array_Jx4a65c_size_8abf5
set_option maxRecDepth 20000 in
theorem ggX7_array_X6_init : GoodIn wsX7_array wsX6_init := goodIn_r _ [61, 62, 63, 64, 65, 66, 17, 67, 46, 68, 69, 70, 71, 72, 73, 74, 75, 76, 77, 78, 79, 41, 80, 81, 82, 83, 84, 85, 86, 87, 88, 89, 158, 159, 160, 151, 152, 153, 154, 155, 156, 157] (by decide +kernel) (by decide +kernel)
set_option maxRecDepth 20000 in
theorem gX7_array_X6_init : GoodIn wsX7_array (wsX6_init) := ggX7_array_X6_init
set_option maxRecDepth 20000 in
theorem ggX7_array_Jx4a65c_get_915e3 : GoodIn wsX7_array wsJx4a65c_get_915e3 := goodIn_r _ [28, 19, 29, 30, 31, 32, 33, 34, 35, 36, 37, 38, 39, 17, 40, 41, 158, 159, 160] (by decide +kernel) (by decide +kernel)
set_option maxRecDepth 20000 in
theorem gX7_array_Jx4a65c_get_915e3 : GoodIn wsX7_array (wsV RX7 46 RJx4a65c yJx4a65c_get_915e3 wsJx4a65c_get_915e3) := goodIn_app (goodIn_of _ (by decide +kernel)) ggX7_array_Jx4a65c_get_915e3
set_option maxRecDepth 20000 in
theorem ggX7_array_X7_made : GoodIn wsX7_array wsX7_made := goodIn_r _ [93, 3, 94, 95, 96, 17, 97, 98, 99, 41, 19, 100, 101, 102, 103, 104, 105, 106, 107, 108, 109, 110, 111, 79, 112, 113, 73, 114, 115, 116, 117, 118, 119, 120, 121, 122, 123, 124, 125, 126, 127, 128, 129, 130, 131, 132, 133, 134, 135, 136, 137, 138, 72, 74, 139, 140, 141, 142, 14, 15, 16, 18, 143, 144, 145, 146, 147, 148, 149, 150, 158, 159, 160] (by decide +kernel) (by decide +kernel)
set_option maxRecDepth 20000 in
theorem gX7_array_X7_made : GoodIn wsX7_array (wsV RX7 72 RX7 yX7_made wsX7_made) := goodIn_app (goodIn_of _ (by decide +kernel)) ggX7_array_X7_made
theorem dX7_array_0 : decode cX7_array 0 = .ok (.aload_n 0, 1) := by decide +kernel
theorem dX7_array_1 : decode cX7_array 1 = .ok (.iload_n 1, 1) := by decide +kernel
theorem dX7_array_2 : decode cX7_array 2 = .ok (.invokevirtual 42, 3) := by decide +kernel
theorem dX7_array_5 : decode cX7_array 5 = .ok (.ifCond .eq 14, 3) := by decide +kernel
theorem dX7_array_8 : decode cX7_array 8 = .ok (.iload_n 2, 1) := by decide +kernel
theorem dX7_array_9 : decode cX7_array 9 = .ok (.iconst 1, 1) := by decide +kernel
theorem dX7_array_10 : decode cX7_array 10 = .ok (.if_icmp .lt 9, 3) := by decide +kernel
theorem dX7_array_13 : decode cX7_array 13 = .ok (.iload_n 2, 1) := by decide +kernel
theorem dX7_array_14 : decode cX7_array 14 = .ok (.ldc 76, 2) := by decide +kernel
theorem dX7_array_16 : decode cX7_array 16 = .ok (.if_icmp .le 5, 3) := by decide +kernel
theorem dX7_array_19 : decode cX7_array 19 = .ok (.iconst (-1), 1) := by decide +kernel
theorem dX7_array_20 : decode cX7_array 20 = .ok (.ireturn, 1) := by decide +kernel
theorem dX7_array_21 : decode cX7_array 21 = .ok (.aload_n 0, 1) := by decide +kernel
theorem dX7_array_22 : decode cX7_array 22 = .ok (.iload_n 1, 1) := by decide +kernel
theorem dX7_array_23 : decode cX7_array 23 = .ok (.invokevirtual 77, 3) := by decide +kernel
theorem dX7_array_26 : decode cX7_array 26 = .ok (.ifCond .ne 6, 3) := by decide +kernel
theorem dX7_array_29 : decode cX7_array 29 = .ok (.bipush (-2), 2) := by decide +kernel
theorem dX7_array_31 : decode cX7_array 31 = .ok (.ireturn, 1) := by decide +kernel
theorem dX7_array_32 : decode cX7_array 32 = .ok (.iload_n 2, 1) := by decide +kernel
theorem dX7_array_33 : decode cX7_array 33 = .ok (.i2l, 1) := by decide +kernel
theorem dX7_array_34 : decode cX7_array 34 = .ok (.aload_n 0, 1) := by decide +kernel
theorem dX7_array_35 : decode cX7_array 35 = .ok (.iload_n 1, 1) := by decide +kernel
theorem dX7_array_36 : decode cX7_array 36 = .ok (.invokevirtual 80, 3) := by decide +kernel
theorem dX7_array_39 : decode cX7_array 39 = .ok (.i2l, 1) := by decide +kernel
theorem dX7_array_40 : decode cX7_array 40 = .ok (.lmul, 1) := by decide +kernel
theorem dX7_array_41 : decode cX7_array 41 = .ok (.ldc2_w 83, 3) := by decide +kernel
theorem dX7_array_44 : decode cX7_array 44 = .ok (.lcmp, 1) := by decide +kernel
theorem dX7_array_45 : decode cX7_array 45 = .ok (.ifCond .le 6, 3) := by decide +kernel
theorem dX7_array_48 : decode cX7_array 48 = .ok (.bipush (-3), 2) := by decide +kernel
theorem dX7_array_50 : decode cX7_array 50 = .ok (.ireturn, 1) := by decide +kernel
theorem dX7_array_51 : decode cX7_array 51 = .ok (.aload_n 0, 1) := by decide +kernel
theorem dX7_array_52 : decode cX7_array 52 = .ok (.iconst 2, 1) := by decide +kernel
theorem dX7_array_53 : decode cX7_array 53 = .ok (.iload_n 1, 1) := by decide +kernel
theorem dX7_array_54 : decode cX7_array 54 = .ok (.iload_n 2, 1) := by decide +kernel
theorem dX7_array_55 : decode cX7_array 55 = .ok (.invokevirtual 68, 3) := by decide +kernel
theorem dX7_array_58 : decode cX7_array 58 = .ok (.istore_n 3, 1) := by decide +kernel
theorem dX7_array_59 : decode cX7_array 59 = .ok (.iload_n 3, 1) := by decide +kernel
theorem dX7_array_60 : decode cX7_array 60 = .ok (.ifCond .lt 5, 3) := by decide +kernel
theorem dX7_array_63 : decode cX7_array 63 = .ok (.iload_n 3, 1) := by decide +kernel
theorem dX7_array_64 : decode cX7_array 64 = .ok (.ireturn, 1) := by decide +kernel
theorem dX7_array_65 : decode cX7_array 65 = .ok (.aload_n 0, 1) := by decide +kernel
theorem dX7_array_66 : decode cX7_array 66 = .ok (.getfield 10, 3) := by decide +kernel
theorem dX7_array_69 : decode cX7_array 69 = .ok (.invokevirtual 38, 3) := by decide +kernel
theorem dX7_array_72 : decode cX7_array 72 = .ok (.sipush 300, 3) := by decide +kernel
theorem dX7_array_75 : decode cX7_array 75 = .ok (.if_icmp .ne 6, 3) := by decide +kernel
theorem dX7_array_78 : decode cX7_array 78 = .ok (.bipush (-4), 2) := by decide +kernel
theorem dX7_array_80 : decode cX7_array 80 = .ok (.ireturn, 1) := by decide +kernel
theorem dX7_array_81 : decode cX7_array 81 = .ok (.new 29, 3) := by decide +kernel
theorem dX7_array_84 : decode cX7_array 84 = .ok (.dup, 1) := by decide +kernel
theorem dX7_array_85 : decode cX7_array 85 = .ok (.iconst 2, 1) := by decide +kernel
theorem dX7_array_86 : decode cX7_array 86 = .ok (.iload_n 1, 1) := by decide +kernel
theorem dX7_array_87 : decode cX7_array 87 = .ok (.iload_n 2, 1) := by decide +kernel
theorem dX7_array_88 : decode cX7_array 88 = .ok (.iload_n 2, 1) := by decide +kernel
theorem dX7_array_89 : decode cX7_array 89 = .ok (.aload_n 0, 1) := by decide +kernel
theorem dX7_array_90 : decode cX7_array 90 = .ok (.iload_n 1, 1) := by decide +kernel
theorem dX7_array_91 : decode cX7_array 91 = .ok (.invokevirtual 80, 3) := by decide +kernel
theorem dX7_array_94 : decode cX7_array 94 = .ok (.imul, 1) := by decide +kernel
theorem dX7_array_95 : decode cX7_array 95 = .ok (.invokespecial 31, 3) := by decide +kernel
theorem dX7_array_98 : decode cX7_array 98 = .ok (.astore 4, 2) := by decide +kernel
theorem dX7_array_100 : decode cX7_array 100 = .ok (.aload 4, 2) := by decide +kernel
theorem dX7_array_102 : decode cX7_array 102 = .ok (.aload_n 0, 1) := by decide +kernel
theorem dX7_array_103 : decode cX7_array 103 = .ok (.getfield 10, 3) := by decide +kernel
theorem dX7_array_106 : decode cX7_array 106 = .ok (.iload_n 1, 1) := by decide +kernel
theorem dX7_array_107 : decode cX7_array 107 = .ok (.invokevirtual 46, 3) := by decide +kernel
theorem dX7_array_110 : decode cX7_array 110 = .ok (.checkcast 29, 3) := by decide +kernel
theorem dX7_array_113 : decode cX7_array 113 = .ok (.getfield 85, 3) := by decide +kernel
theorem dX7_array_116 : decode cX7_array 116 = .ok (.putfield 85, 3) := by decide +kernel
theorem dX7_array_119 : decode cX7_array 119 = .ok (.aload_n 0, 1) := by decide +kernel
theorem dX7_array_120 : decode cX7_array 120 = .ok (.aload 4, 2) := by decide +kernel
theorem dX7_array_122 : decode cX7_array 122 = .ok (.invokevirtual 72, 3) := by decide +kernel
theorem dX7_array_125 : decode cX7_array 125 = .ok (.ireturn, 1) := by decide +kernel
set_option maxRecDepth 20000 in
theorem ggX7_sized_Jx4a65c_get_915e3 : GoodIn wsX7_sized wsJx4a65c_get_915e3 := goodIn_r _ [8, 9, 10, 11, 12, 13, 14, 15, 16, 17, 18, 19, 20, 7, 21, 22, 44, 45, 46] (by decide +kernel) (by decide +kernel)
set_option maxRecDepth 20000 in
theorem gX7_sized_Jx4a65c_get_915e3 : GoodIn wsX7_sized (wsV RX7 46 RJx4a65c yJx4a65c_get_915e3 wsJx4a65c_get_915e3) := goodIn_app (goodIn_of _ (by decide +kernel)) ggX7_sized_Jx4a65c_get_915e3
set_option maxRecDepth 20000 in
theorem ggX7_sized_X6_record : GoodIn wsX7_sized wsX6_record := goodIn_r _ [27, 28, 37, 38, 39, 40, 41, 42, 43] (by decide +kernel) (by decide +kernel)
set_option maxRecDepth 20000 in
theorem gX7_sized_X6_record : GoodIn wsX7_sized (wsV RX7 50 RX6 yX6_record wsX6_record) := goodIn_app (goodIn_of _ (by decide +kernel)) ggX7_sized_X6_record
theorem dX7_sized_0 : decode cX7_sized 0 = .ok (.iload_n 1, 1) := by decide +kernel
theorem dX7_sized_1 : decode cX7_sized 1 = .ok (.ifCond .le 41, 3) := by decide +kernel
theorem dX7_sized_4 : decode cX7_sized 4 = .ok (.aload_n 0, 1) := by decide +kernel
theorem dX7_sized_5 : decode cX7_sized 5 = .ok (.getfield 10, 3) := by decide +kernel
theorem dX7_sized_8 : decode cX7_sized 8 = .ok (.iload_n 1, 1) := by decide +kernel
theorem dX7_sized_9 : decode cX7_sized 9 = .ok (.invokevirtual 46, 3) := by decide +kernel
theorem dX7_sized_12 : decode cX7_sized 12 = .ok (.checkcast 29, 3) := by decide +kernel
theorem dX7_sized_15 : decode cX7_sized 15 = .ok (.invokevirtual 50, 3) := by decide +kernel
theorem dX7_sized_18 : decode cX7_sized 18 = .ok (.ifCond .eq 20, 3) := by decide +kernel
theorem dX7_sized_21 : decode cX7_sized 21 = .ok (.aload_n 0, 1) := by decide +kernel
theorem dX7_sized_22 : decode cX7_sized 22 = .ok (.getfield 10, 3) := by decide +kernel
theorem dX7_sized_25 : decode cX7_sized 25 = .ok (.iload_n 1, 1) := by decide +kernel
theorem dX7_sized_26 : decode cX7_sized 26 = .ok (.invokevirtual 46, 3) := by decide +kernel
theorem dX7_sized_29 : decode cX7_sized 29 = .ok (.checkcast 29, 3) := by decide +kernel
theorem dX7_sized_32 : decode cX7_sized 32 = .ok (.getfield 54, 3) := by decide +kernel
theorem dX7_sized_35 : decode cX7_sized 35 = .ok (.ifCond .eq 7, 3) := by decide +kernel
theorem dX7_sized_38 : decode cX7_sized 38 = .ok (.iconst 1, 1) := by decide +kernel
theorem dX7_sized_39 : decode cX7_sized 39 = .ok (.goto 4, 3) := by decide +kernel
theorem dX7_sized_42 : decode cX7_sized 42 = .ok (.iconst 0, 1) := by decide +kernel
theorem dX7_sized_43 : decode cX7_sized 43 = .ok (.ireturn, 1) := by decide +kernel
set_option maxRecDepth 20000 in
theorem ggX7_record_Jx4a65c_size_8abf5 : GoodIn wsX7_record wsJx4a65c_size_8abf5 := goodIn_r _ [9, 10, 113, 114, 115] (by decide +kernel) (by decide +kernel)
set_option maxRecDepth 20000 in
theorem gX7_record_Jx4a65c_size_8abf5 : GoodIn wsX7_record (wsV RX7 38 RJx4a65c yJx4a65c_size_8abf5 wsJx4a65c_size_8abf5) := goodIn_app (goodIn_of _ (by decide +kernel)) ggX7_record_Jx4a65c_size_8abf5
set_option maxRecDepth 20000 in
theorem ggX7_record_X6_init : GoodIn wsX7_record wsX6_init := goodIn_r _ [13, 14, 15, 16, 17, 18, 8, 19, 20, 21, 22, 23, 24, 25, 26, 27, 28, 29, 30, 31, 32, 33, 34, 35, 36, 37, 38, 39, 40, 41, 42, 43, 113, 114, 115, 106, 107, 108, 109, 110, 111, 112] (by decide +kernel) (by decide +kernel)
set_option maxRecDepth 20000 in
theorem gX7_record_X6_init : GoodIn wsX7_record (wsX6_init) := ggX7_record_X6_init
set_option maxRecDepth 20000 in
theorem ggX7_record_X7_made : GoodIn wsX7_record wsX7_made := goodIn_r _ [48, 1, 49, 50, 51, 8, 52, 53, 54, 33, 10, 55, 56, 57, 58, 59, 60, 61, 62, 63, 64, 65, 66, 32, 67, 68, 26, 69, 70, 71, 72, 73, 74, 75, 76, 77, 78, 79, 80, 81, 82, 83, 84, 85, 86, 87, 88, 89, 90, 91, 92, 93, 25, 27, 94, 95, 96, 97, 5, 6, 7, 9, 98, 99, 100, 101, 102, 103, 104, 105, 113, 114, 115] (by decide +kernel) (by decide +kernel)
set_option maxRecDepth 20000 in
theorem gX7_record_X7_made : GoodIn wsX7_record (wsV RX7 72 RX7 yX7_made wsX7_made) := goodIn_app (goodIn_of _ (by decide +kernel)) ggX7_record_X7_made
theorem dX7_record_0 : decode cX7_record 0 = .ok (.iload_n 1, 1) := by decide +kernel
theorem dX7_record_1 : decode cX7_record 1 = .ok (.ifCond .eq 10, 3) := by decide +kernel
theorem dX7_record_4 : decode cX7_record 4 = .ok (.iload_n 1, 1) := by decide +kernel
theorem dX7_record_5 : decode cX7_record 5 = .ok (.iconst 1, 1) := by decide +kernel
theorem dX7_record_6 : decode cX7_record 6 = .ok (.if_icmp .eq 5, 3) := by decide +kernel
theorem dX7_record_9 : decode cX7_record 9 = .ok (.iconst (-1), 1) := by decide +kernel
theorem dX7_record_10 : decode cX7_record 10 = .ok (.ireturn, 1) := by decide +kernel
theorem dX7_record_11 : decode cX7_record 11 = .ok (.aload_n 0, 1) := by decide +kernel
theorem dX7_record_12 : decode cX7_record 12 = .ok (.getfield 10, 3) := by decide +kernel
theorem dX7_record_15 : decode cX7_record 15 = .ok (.invokevirtual 38, 3) := by decide +kernel
theorem dX7_record_18 : decode cX7_record 18 = .ok (.sipush 300, 3) := by decide +kernel
theorem dX7_record_21 : decode cX7_record 21 = .ok (.if_icmp .ne 8, 3) := by decide +kernel
theorem dX7_record_24 : decode cX7_record 24 = .ok (.bipush (-2), 2) := by decide +kernel
theorem dX7_record_26 : decode cX7_record 26 = .ok (.goto 20, 3) := by decide +kernel
theorem dX7_record_29 : decode cX7_record 29 = .ok (.aload_n 0, 1) := by decide +kernel
theorem dX7_record_30 : decode cX7_record 30 = .ok (.new 29, 3) := by decide +kernel
theorem dX7_record_33 : decode cX7_record 33 = .ok (.dup, 1) := by decide +kernel
theorem dX7_record_34 : decode cX7_record 34 = .ok (.iconst 3, 1) := by decide +kernel
theorem dX7_record_35 : decode cX7_record 35 = .ok (.iload_n 1, 1) := by decide +kernel
theorem dX7_record_36 : decode cX7_record 36 = .ok (.iadd, 1) := by decide +kernel
theorem dX7_record_37 : decode cX7_record 37 = .ok (.iconst 0, 1) := by decide +kernel
theorem dX7_record_38 : decode cX7_record 38 = .ok (.iconst 0, 1) := by decide +kernel
theorem dX7_record_39 : decode cX7_record 39 = .ok (.iconst 0, 1) := by decide +kernel
theorem dX7_record_40 : decode cX7_record 40 = .ok (.invokespecial 31, 3) := by decide +kernel
theorem dX7_record_43 : decode cX7_record 43 = .ok (.invokevirtual 72, 3) := by decide +kernel
theorem dX7_record_46 : decode cX7_record 46 = .ok (.ireturn, 1) := by decide +kernel
theorem dX7_up_0 : decode cX7_up 0 = .ok (.iload_n 1, 1) := by decide +kernel
theorem dX7_up_1 : decode cX7_up 1 = .ok (.ifCond .ne 7, 3) := by decide +kernel
theorem dX7_up_4 : decode cX7_up 4 = .ok (.iload_n 0, 1) := by decide +kernel
theorem dX7_up_5 : decode cX7_up 5 = .ok (.goto 12, 3) := by decide +kernel
theorem dX7_up_8 : decode cX7_up 8 = .ok (.iload_n 0, 1) := by decide +kernel
theorem dX7_up_9 : decode cX7_up 9 = .ok (.iload_n 1, 1) := by decide +kernel
theorem dX7_up_10 : decode cX7_up 10 = .ok (.iadd, 1) := by decide +kernel
theorem dX7_up_11 : decode cX7_up 11 = .ok (.iconst 1, 1) := by decide +kernel
theorem dX7_up_12 : decode cX7_up 12 = .ok (.isub, 1) := by decide +kernel
theorem dX7_up_13 : decode cX7_up 13 = .ok (.iload_n 1, 1) := by decide +kernel
theorem dX7_up_14 : decode cX7_up 14 = .ok (.idiv, 1) := by decide +kernel
theorem dX7_up_15 : decode cX7_up 15 = .ok (.iload_n 1, 1) := by decide +kernel
theorem dX7_up_16 : decode cX7_up 16 = .ok (.imul, 1) := by decide +kernel
theorem dX7_up_17 : decode cX7_up 17 = .ok (.ireturn, 1) := by decide +kernel
set_option maxRecDepth 20000 in
theorem ggX7_lay_Jx4a65c_size_8abf5 : GoodIn wsX7_lay wsJx4a65c_size_8abf5 := goodIn_r _ [22, 23, 71, 72, 73] (by decide +kernel) (by decide +kernel)
set_option maxRecDepth 20000 in
theorem gX7_lay_Jx4a65c_size_8abf5 : GoodIn wsX7_lay (wsV RX7 38 RJx4a65c yJx4a65c_size_8abf5 wsJx4a65c_size_8abf5) := goodIn_app (goodIn_of _ (by decide +kernel)) ggX7_lay_Jx4a65c_size_8abf5
set_option maxRecDepth 20000 in
theorem ggX7_lay_Jx4a65c_get_915e3 : GoodIn wsX7_lay wsJx4a65c_get_915e3 := goodIn_r _ [27, 23, 28, 29, 30, 31, 32, 33, 34, 35, 36, 37, 38, 21, 39, 40, 71, 72, 73] (by decide +kernel) (by decide +kernel)
set_option maxRecDepth 20000 in
theorem gX7_lay_Jx4a65c_get_915e3 : GoodIn wsX7_lay (wsV RX7 46 RJx4a65c yJx4a65c_get_915e3 wsJx4a65c_get_915e3) := goodIn_app (goodIn_of _ (by decide +kernel)) ggX7_lay_Jx4a65c_get_915e3
set_option maxRecDepth 20000 in
theorem ggX7_lay_X7_up : GoodIn wsX7_lay wsX7_up := goodIn_r _ [44] (by decide +kernel) (by decide +kernel)
set_option maxRecDepth 20000 in
theorem gX7_lay_X7_up : GoodIn wsX7_lay (va_wsS RX7 106 yX7_up wsX7_up) := goodIn_app (goodIn_of _ (by decide +kernel)) ggX7_lay_X7_up
set_option maxRecDepth 20000 in
theorem ggX7_lay_X7_put : GoodIn wsX7_lay wsX7_put := goodIn_r _ [48, 49, 1, 50, 51, 52, 53, 54, 55, 56, 57, 58, 59, 60] (by decide +kernel) (by decide +kernel)
set_option maxRecDepth 20000 in
theorem gX7_lay_X7_put : GoodIn wsX7_lay (wsV RX7 110 RX7 yX7_put wsX7_put) := goodIn_app (goodIn_of _ (by decide +kernel)) ggX7_lay_X7_put
theorem dX7_lay_0 : decode cX7_lay 0 = .ok (.aload_n 0, 1) := by decide +kernel
theorem dX7_lay_1 : decode cX7_lay 1 = .ok (.iconst 0, 1) := by decide +kernel
theorem dX7_lay_2 : decode cX7_lay 2 = .ok (.putfield 88, 3) := by decide +kernel
theorem dX7_lay_5 : decode cX7_lay 5 = .ok (.aload_n 0, 1) := by decide +kernel
theorem dX7_lay_6 : decode cX7_lay 6 = .ok (.iconst 0, 1) := by decide +kernel
theorem dX7_lay_7 : decode cX7_lay 7 = .ok (.putfield 91, 3) := by decide +kernel
theorem dX7_lay_10 : decode cX7_lay 10 = .ok (.aload_n 0, 1) := by decide +kernel
theorem dX7_lay_11 : decode cX7_lay 11 = .ok (.iconst 0, 1) := by decide +kernel
theorem dX7_lay_12 : decode cX7_lay 12 = .ok (.putfield 94, 3) := by decide +kernel
theorem dX7_lay_15 : decode cX7_lay 15 = .ok (.iconst (-1), 1) := by decide +kernel
theorem dX7_lay_16 : decode cX7_lay 16 = .ok (.istore_n 2, 1) := by decide +kernel
theorem dX7_lay_17 : decode cX7_lay 17 = .ok (.iconst 0, 1) := by decide +kernel
theorem dX7_lay_18 : decode cX7_lay 18 = .ok (.istore_n 3, 1) := by decide +kernel
theorem dX7_lay_19 : decode cX7_lay 19 = .ok (.iconst 0, 1) := by decide +kernel
theorem dX7_lay_20 : decode cX7_lay 20 = .ok (.istore 4, 2) := by decide +kernel
theorem dX7_lay_22 : decode cX7_lay 22 = .ok (.iload 4, 2) := by decide +kernel
theorem dX7_lay_24 : decode cX7_lay 24 = .ok (.aload_n 1, 1) := by decide +kernel
theorem dX7_lay_25 : decode cX7_lay 25 = .ok (.getfield 95, 3) := by decide +kernel
theorem dX7_lay_28 : decode cX7_lay 28 = .ok (.invokevirtual 38, 3) := by decide +kernel
theorem dX7_lay_31 : decode cX7_lay 31 = .ok (.if_icmp .ge 240, 3) := by decide +kernel
theorem dX7_lay_34 : decode cX7_lay 34 = .ok (.aload_n 1, 1) := by decide +kernel
theorem dX7_lay_35 : decode cX7_lay 35 = .ok (.getfield 95, 3) := by decide +kernel
theorem dX7_lay_38 : decode cX7_lay 38 = .ok (.iload 4, 2) := by decide +kernel
theorem dX7_lay_40 : decode cX7_lay 40 = .ok (.invokevirtual 46, 3) := by decide +kernel
theorem dX7_lay_43 : decode cX7_lay 43 = .ok (.checkcast 98, 3) := by decide +kernel
theorem dX7_lay_46 : decode cX7_lay 46 = .ok (.astore 5, 2) := by decide +kernel
