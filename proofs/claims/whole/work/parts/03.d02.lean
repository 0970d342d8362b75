theorem dX4_field_79 : decode cX4_field 79 = .ok (.aload 4, 2) := by decide +kernel
theorem dX4_field_81 : decode cX4_field 81 = .ok (.getfield 52, 3) := by decide +kernel
theorem dX4_field_84 : decode cX4_field 84 = .ok (.aload 4, 2) := by decide +kernel
theorem dX4_field_86 : decode cX4_field 86 = .ok (.getfield 60, 3) := by decide +kernel
theorem dX4_field_89 : decode cX4_field 89 = .ok (.invokevirtual 82, 3) := by decide +kernel
theorem dX4_field_92 : decode cX4_field 92 = .ok (.aload_n 3, 1) := by decide +kernel
theorem dX4_field_93 : decode cX4_field 93 = .ok (.new 86, 3) := by decide +kernel
theorem dX4_field_96 : decode cX4_field 96 = .ok (.dup, 1) := by decide +kernel
theorem dX4_field_97 : decode cX4_field 97 = .ok (.iload 5, 2) := by decide +kernel
theorem dX4_field_99 : decode cX4_field 99 = .ok (.iload_n 2, 1) := by decide +kernel
theorem dX4_field_100 : decode cX4_field 100 = .ok (.iconst 0, 1) := by decide +kernel
theorem dX4_field_101 : decode cX4_field 101 = .ok (.iconst 0, 1) := by decide +kernel
theorem dX4_field_102 : decode cX4_field 102 = .ok (.invokespecial 88, 3) := by decide +kernel
theorem dX4_field_105 : decode cX4_field 105 = .ok (.invokevirtual 91, 3) := by decide +kernel
theorem dX4_field_108 : decode cX4_field 108 = .ok (.ireturn, 1) := by decide +kernel
set_option maxRecDepth 20000 in
theorem ggX4_bits_X4_openRecordAt : GoodIn wsX4_bits wsX4_openRecordAt := goodIn_r _ [8, 9, 10, 11, 7, 12, 13, 14, 15, 16, 17, 18, 19, 20, 21, 22, 23, 24, 25, 26, 27, 28, 29, 30, 31, 32, 33, 34, 35, 36, 37, 38, 39, 40, 41, 42, 146, 147, 148, 149, 150, 151, 152, 153, 158, 159, 160, 161] (by decide +kernel) (by decide +kernel)
set_option maxRecDepth 20000 in
theorem gX4_bits_X4_openRecordAt : GoodIn wsX4_bits (wsV RX4 68 RX4 yX4_openRecordAt wsX4_openRecordAt) := goodIn_app (goodIn_of _ (by decide +kernel)) ggX4_bits_X4_openRecordAt
set_option maxRecDepth 20000 in
theorem ggX4_bits_X4_isBitFieldType : GoodIn wsX4_bits wsX4_isBitFieldType := goodIn_r _ [45] (by decide +kernel) (by decide +kernel)
set_option maxRecDepth 20000 in
theorem gX4_bits_X4_isBitFieldType : GoodIn wsX4_bits (va_wsS RX4 94 yX4_isBitFieldType wsX4_isBitFieldType) := goodIn_app (goodIn_of _ (by decide +kernel)) ggX4_bits_X4_isBitFieldType
set_option maxRecDepth 20000 in
theorem ggX4_bits_X0_hasAllMembers : GoodIn wsX4_bits wsX0_hasAllMembers := goodIn_r _ [50, 51, 52, 21, 22, 23, 24, 25, 146, 147, 148, 149, 150, 151, 152, 153, 159, 160, 161] (by decide +kernel) (by decide +kernel)
set_option maxRecDepth 20000 in
theorem gX4_bits_X0_hasAllMembers : GoodIn wsX4_bits (wsV RX4 72 RX0 yX0_hasAllMembers wsX0_hasAllMembers) := goodIn_app (goodIn_of _ (by decide +kernel)) ggX4_bits_X0_hasAllMembers
set_option maxRecDepth 20000 in
theorem ggX4_bits_X0_beginUnit : GoodIn wsX4_bits wsX0_beginUnit := goodIn_r _ [56, 57, 58, 59, 60, 61, 62, 49, 63, 64, 65, 66, 7, 67, 68, 69, 70, 71, 72, 73, 74, 75, 76, 77, 146, 147, 148, 149, 150, 151, 152, 153, 162, 163, 164, 165, 166] (by decide +kernel) (by decide +kernel)
set_option maxRecDepth 20000 in
theorem gX4_bits_X0_beginUnit : GoodIn wsX4_bits (wsV RX4 101 RX0 yX0_beginUnit wsX0_beginUnit) := goodIn_app (goodIn_of _ (by decide +kernel)) ggX4_bits_X0_beginUnit
set_option maxRecDepth 20000 in
theorem ggX4_bits_X0_takeBits : GoodIn wsX4_bits wsX0_takeBits := goodIn_r _ [81, 59, 64, 146, 147, 148, 149, 150, 151, 152, 153] (by decide +kernel) (by decide +kernel)
set_option maxRecDepth 20000 in
theorem gX4_bits_X0_takeBits : GoodIn wsX4_bits (wsV RX4 104 RX0 yX0_takeBits wsX0_takeBits) := goodIn_app (goodIn_of _ (by decide +kernel)) ggX4_bits_X0_takeBits
set_option maxRecDepth 20000 in
theorem ggX4_bits_X1_init : GoodIn wsX4_bits wsX1_init := goodIn_r _ [84, 85, 86, 87, 88, 89, 90, 91, 154, 155, 156, 157] (by decide +kernel) (by decide +kernel)
set_option maxRecDepth 20000 in
theorem gX4_bits_X1_init : GoodIn wsX4_bits (wsX1_init) := ggX4_bits_X1_init
set_option maxRecDepth 20000 in
theorem ggX4_bits_X0_enter : GoodIn wsX4_bits wsX0_enter := goodIn_r _ [95, 51, 96, 97, 98, 23, 99, 100, 101, 42, 25, 102, 103, 104, 105, 106, 107, 108, 109, 110, 111, 112, 113, 114, 115, 73, 74, 75, 116, 117, 118, 119, 120, 121, 122, 123, 124, 125, 126, 127, 128, 129, 130, 131, 132, 133, 134, 135, 136, 137, 138, 139, 140, 141, 142, 143, 144, 145, 52, 21, 22, 24, 146, 147, 148, 149, 150, 151, 152, 153, 159, 160, 161] (by decide +kernel) (by decide +kernel)
set_option maxRecDepth 20000 in
theorem gX4_bits_X0_enter : GoodIn wsX4_bits (wsV RX4 91 RX0 yX0_enter wsX0_enter) := goodIn_app (goodIn_of _ (by decide +kernel)) ggX4_bits_X0_enter
theorem dX4_bits_0 : decode cX4_bits 0 = .ok (.aload_n 0, 1) := by decide +kernel
theorem dX4_bits_1 : decode cX4_bits 1 = .ok (.iload_n 1, 1) := by decide +kernel
theorem dX4_bits_2 : decode cX4_bits 2 = .ok (.invokevirtual 68, 3) := by decide +kernel
theorem dX4_bits_5 : decode cX4_bits 5 = .ok (.astore 5, 2) := by decide +kernel
theorem dX4_bits_7 : decode cX4_bits 7 = .ok (.aload 5, 2) := by decide +kernel
theorem dX4_bits_9 : decode cX4_bits 9 = .ok (.ifnonnull 5, 3) := by decide +kernel
theorem dX4_bits_12 : decode cX4_bits 12 = .ok (.iconst (-1), 1) := by decide +kernel
theorem dX4_bits_13 : decode cX4_bits 13 = .ok (.ireturn, 1) := by decide +kernel
theorem dX4_bits_14 : decode cX4_bits 14 = .ok (.iload_n 2, 1) := by decide +kernel
theorem dX4_bits_15 : decode cX4_bits 15 = .ok (.invokestatic 94, 3) := by decide +kernel
theorem dX4_bits_18 : decode cX4_bits 18 = .ok (.ifCond .eq 14, 3) := by decide +kernel
theorem dX4_bits_21 : decode cX4_bits 21 = .ok (.iload_n 3, 1) := by decide +kernel
theorem dX4_bits_22 : decode cX4_bits 22 = .ok (.iconst 1, 1) := by decide +kernel
theorem dX4_bits_23 : decode cX4_bits 23 = .ok (.if_icmp .lt 9, 3) := by decide +kernel
theorem dX4_bits_26 : decode cX4_bits 26 = .ok (.iload_n 3, 1) := by decide +kernel
theorem dX4_bits_27 : decode cX4_bits 27 = .ok (.bipush 32, 2) := by decide +kernel
theorem dX4_bits_29 : decode cX4_bits 29 = .ok (.if_icmp .le 6, 3) := by decide +kernel
theorem dX4_bits_32 : decode cX4_bits 32 = .ok (.bipush (-2), 2) := by decide +kernel
theorem dX4_bits_34 : decode cX4_bits 34 = .ok (.ireturn, 1) := by decide +kernel
theorem dX4_bits_35 : decode cX4_bits 35 = .ok (.iload 4, 2) := by decide +kernel
theorem dX4_bits_37 : decode cX4_bits 37 = .ok (.ifCond .eq 14, 3) := by decide +kernel
theorem dX4_bits_40 : decode cX4_bits 40 = .ok (.aload 5, 2) := by decide +kernel
theorem dX4_bits_42 : decode cX4_bits 42 = .ok (.invokevirtual 72, 3) := by decide +kernel
theorem dX4_bits_45 : decode cX4_bits 45 = .ok (.ifCond .eq 6, 3) := by decide +kernel
theorem dX4_bits_48 : decode cX4_bits 48 = .ok (.bipush (-3), 2) := by decide +kernel
theorem dX4_bits_50 : decode cX4_bits 50 = .ok (.ireturn, 1) := by decide +kernel
theorem dX4_bits_51 : decode cX4_bits 51 = .ok (.iload_n 3, 1) := by decide +kernel
theorem dX4_bits_52 : decode cX4_bits 52 = .ok (.aload 5, 2) := by decide +kernel
theorem dX4_bits_54 : decode cX4_bits 54 = .ok (.getfield 98, 3) := by decide +kernel
theorem dX4_bits_57 : decode cX4_bits 57 = .ok (.if_icmp .le 14, 3) := by decide +kernel
theorem dX4_bits_60 : decode cX4_bits 60 = .ok (.aload 5, 2) := by decide +kernel
theorem dX4_bits_62 : decode cX4_bits 62 = .ok (.invokevirtual 101, 3) := by decide +kernel
theorem dX4_bits_65 : decode cX4_bits 65 = .ok (.ifCond .ne 6, 3) := by decide +kernel
theorem dX4_bits_68 : decode cX4_bits 68 = .ok (.bipush (-4), 2) := by decide +kernel
theorem dX4_bits_70 : decode cX4_bits 70 = .ok (.ireturn, 1) := by decide +kernel
theorem dX4_bits_71 : decode cX4_bits 71 = .ok (.aload 5, 2) := by decide +kernel
theorem dX4_bits_73 : decode cX4_bits 73 = .ok (.iload_n 3, 1) := by decide +kernel
theorem dX4_bits_74 : decode cX4_bits 74 = .ok (.invokevirtual 104, 3) := by decide +kernel
theorem dX4_bits_77 : decode cX4_bits 77 = .ok (.istore 6, 2) := by decide +kernel
theorem dX4_bits_79 : decode cX4_bits 79 = .ok (.iload 4, 2) := by decide +kernel
theorem dX4_bits_81 : decode cX4_bits 81 = .ok (.ifCond .ne 6, 3) := by decide +kernel
theorem dX4_bits_84 : decode cX4_bits 84 = .ok (.bipush 100, 2) := by decide +kernel
theorem dX4_bits_86 : decode cX4_bits 86 = .ok (.ireturn, 1) := by decide +kernel
theorem dX4_bits_87 : decode cX4_bits 87 = .ok (.aload 5, 2) := by decide +kernel
theorem dX4_bits_89 : decode cX4_bits 89 = .ok (.new 86, 3) := by decide +kernel
theorem dX4_bits_92 : decode cX4_bits 92 = .ok (.dup, 1) := by decide +kernel
theorem dX4_bits_93 : decode cX4_bits 93 = .ok (.aload 5, 2) := by decide +kernel
theorem dX4_bits_95 : decode cX4_bits 95 = .ok (.getfield 107, 3) := by decide +kernel
theorem dX4_bits_98 : decode cX4_bits 98 = .ok (.iload_n 2, 1) := by decide +kernel
theorem dX4_bits_99 : decode cX4_bits 99 = .ok (.iload 6, 2) := by decide +kernel
theorem dX4_bits_101 : decode cX4_bits 101 = .ok (.iload_n 3, 1) := by decide +kernel
theorem dX4_bits_102 : decode cX4_bits 102 = .ok (.invokespecial 88, 3) := by decide +kernel
theorem dX4_bits_105 : decode cX4_bits 105 = .ok (.invokevirtual 91, 3) := by decide +kernel
theorem dX4_bits_108 : decode cX4_bits 108 = .ok (.ireturn, 1) := by decide +kernel
set_option maxRecDepth 20000 in
theorem ggX4_separate_X4_openRecordAt : GoodIn wsX4_separate wsX4_openRecordAt := goodIn_r _ [5, 6, 7, 8, 4, 9, 10, 11, 12, 13, 14, 15, 16, 17, 18, 19, 20, 21, 22, 23, 24, 25, 26, 27, 28, 29, 30, 31, 32, 33, 34, 35, 36, 37, 38, 39, 46, 47, 48, 49, 50, 51, 52, 53, 54, 55, 56, 57] (by decide +kernel) (by decide +kernel)
set_option maxRecDepth 20000 in
theorem gX4_separate_X4_openRecordAt : GoodIn wsX4_separate (wsV RX4 68 RX4 yX4_openRecordAt wsX4_openRecordAt) := goodIn_app (goodIn_of _ (by decide +kernel)) ggX4_separate_X4_openRecordAt
set_option maxRecDepth 20000 in
theorem ggX4_separate_X0_endUnit : GoodIn wsX4_separate wsX0_endUnit := goodIn_r _ [44, 45, 46, 47, 48, 49, 50, 51, 52, 53] (by decide +kernel) (by decide +kernel)
set_option maxRecDepth 20000 in
theorem gX4_separate_X0_endUnit : GoodIn wsX4_separate (wsV RX4 79 RX0 yX0_endUnit wsX0_endUnit) := goodIn_app (goodIn_of _ (by decide +kernel)) ggX4_separate_X0_endUnit
theorem dX4_separate_0 : decode cX4_separate 0 = .ok (.aload_n 0, 1) := by decide +kernel
theorem dX4_separate_1 : decode cX4_separate 1 = .ok (.iload_n 1, 1) := by decide +kernel
theorem dX4_separate_2 : decode cX4_separate 2 = .ok (.invokevirtual 68, 3) := by decide +kernel
theorem dX4_separate_5 : decode cX4_separate 5 = .ok (.astore_n 2, 1) := by decide +kernel
theorem dX4_separate_6 : decode cX4_separate 6 = .ok (.aload_n 2, 1) := by decide +kernel
theorem dX4_separate_7 : decode cX4_separate 7 = .ok (.ifnonnull 5, 3) := by decide +kernel
theorem dX4_separate_10 : decode cX4_separate 10 = .ok (.iconst 0, 1) := by decide +kernel
theorem dX4_separate_11 : decode cX4_separate 11 = .ok (.ireturn, 1) := by decide +kernel
theorem dX4_separate_12 : decode cX4_separate 12 = .ok (.aload_n 2, 1) := by decide +kernel
theorem dX4_separate_13 : decode cX4_separate 13 = .ok (.invokevirtual 79, 3) := by decide +kernel
theorem dX4_separate_16 : decode cX4_separate 16 = .ok (.iconst 1, 1) := by decide +kernel
theorem dX4_separate_17 : decode cX4_separate 17 = .ok (.ireturn, 1) := by decide +kernel
set_option maxRecDepth 20000 in
theorem ggX4_finish_X4_openRecordAt : GoodIn wsX4_finish wsX4_openRecordAt := goodIn_r _ [10, 11, 12, 13, 9, 14, 15, 16, 17, 18, 19, 20, 21, 22, 23, 24, 25, 26, 27, 28, 29, 30, 31, 32, 33, 34, 35, 36, 37, 38, 39, 40, 41, 42, 43, 44, 52, 53, 54, 55, 56, 57, 58, 59, 65, 66, 67, 68] (by decide +kernel) (by decide +kernel)
set_option maxRecDepth 20000 in
theorem gX4_finish_X4_openRecordAt : GoodIn wsX4_finish (wsV RX4 68 RX4 yX4_openRecordAt wsX4_openRecordAt) := goodIn_app (goodIn_of _ (by decide +kernel)) ggX4_finish_X4_openRecordAt
set_option maxRecDepth 20000 in
theorem ggX4_finish_Jx4a65c_isEmpty_aae02 : GoodIn wsX4_finish wsJx4a65c_isEmpty_aae02 := goodIn_r _ [48, 27, 66, 67, 68] (by decide +kernel) (by decide +kernel)
set_option maxRecDepth 20000 in
theorem gX4_finish_Jx4a65c_isEmpty_aae02 : GoodIn wsX4_finish (wsV RX4 113 RJx4a65c yJx4a65c_isEmpty_aae02 wsJx4a65c_isEmpty_aae02) := goodIn_app (goodIn_of _ (by decide +kernel)) ggX4_finish_Jx4a65c_isEmpty_aae02
set_option maxRecDepth 20000 in
theorem ggX4_finish_X4_roundUp : GoodIn wsX4_finish wsX4_roundUp := goodIn_r _ [51] (by decide +kernel) (by decide +kernel)
set_option maxRecDepth 20000 in
theorem gX4_finish_X4_roundUp : GoodIn wsX4_finish (va_wsS RX4 120 yX4_roundUp wsX4_roundUp) := goodIn_app (goodIn_of _ (by decide +kernel)) ggX4_finish_X4_roundUp
theorem dX4_finish_0 : decode cX4_finish 0 = .ok (.aload_n 0, 1) := by decide +kernel
theorem dX4_finish_1 : decode cX4_finish 1 = .ok (.iload_n 1, 1) := by decide +kernel
theorem dX4_finish_2 : decode cX4_finish 2 = .ok (.invokevirtual 68, 3) := by decide +kernel
theorem dX4_finish_5 : decode cX4_finish 5 = .ok (.astore_n 2, 1) := by decide +kernel
theorem dX4_finish_6 : decode cX4_finish 6 = .ok (.aload_n 2, 1) := by decide +kernel
theorem dX4_finish_7 : decode cX4_finish 7 = .ok (.ifnonnull 5, 3) := by decide +kernel
theorem dX4_finish_10 : decode cX4_finish 10 = .ok (.iconst (-1), 1) := by decide +kernel
theorem dX4_finish_11 : decode cX4_finish 11 = .ok (.ireturn, 1) := by decide +kernel
theorem dX4_finish_12 : decode cX4_finish 12 = .ok (.aload_n 2, 1) := by decide +kernel
theorem dX4_finish_13 : decode cX4_finish 13 = .ok (.getfield 110, 3) := by decide +kernel
theorem dX4_finish_16 : decode cX4_finish 16 = .ok (.invokevirtual 113, 3) := by decide +kernel
theorem dX4_finish_19 : decode cX4_finish 19 = .ok (.ifCond .eq 6, 3) := by decide +kernel
theorem dX4_finish_22 : decode cX4_finish 22 = .ok (.bipush (-2), 2) := by decide +kernel
theorem dX4_finish_24 : decode cX4_finish 24 = .ok (.ireturn, 1) := by decide +kernel
theorem dX4_finish_25 : decode cX4_finish 25 = .ok (.aload_n 2, 1) := by decide +kernel
theorem dX4_finish_26 : decode cX4_finish 26 = .ok (.getfield 116, 3) := by decide +kernel
theorem dX4_finish_29 : decode cX4_finish 29 = .ok (.aload_n 2, 1) := by decide +kernel
theorem dX4_finish_30 : decode cX4_finish 30 = .ok (.getfield 119, 3) := by decide +kernel
theorem dX4_finish_33 : decode cX4_finish 33 = .ok (.invokestatic 120, 3) := by decide +kernel
theorem dX4_finish_36 : decode cX4_finish 36 = .ok (.istore_n 3, 1) := by decide +kernel
theorem dX4_finish_37 : decode cX4_finish 37 = .ok (.iload_n 3, 1) := by decide +kernel
theorem dX4_finish_38 : decode cX4_finish 38 = .ok (.ldc 51, 2) := by decide +kernel
theorem dX4_finish_40 : decode cX4_finish 40 = .ok (.if_icmp .le 6, 3) := by decide +kernel
theorem dX4_finish_43 : decode cX4_finish 43 = .ok (.bipush (-3), 2) := by decide +kernel
theorem dX4_finish_45 : decode cX4_finish 45 = .ok (.ireturn, 1) := by decide +kernel
theorem dX4_finish_46 : decode cX4_finish 46 = .ok (.aload_n 2, 1) := by decide +kernel
theorem dX4_finish_47 : decode cX4_finish 47 = .ok (.iload_n 3, 1) := by decide +kernel
theorem dX4_finish_48 : decode cX4_finish 48 = .ok (.putfield 123, 3) := by decide +kernel
theorem dX4_finish_51 : decode cX4_finish 51 = .ok (.aload_n 2, 1) := by decide +kernel
theorem dX4_finish_52 : decode cX4_finish 52 = .ok (.iconst 0, 1) := by decide +kernel
theorem dX4_finish_53 : decode cX4_finish 53 = .ok (.putfield 124, 3) := by decide +kernel
theorem dX4_finish_56 : decode cX4_finish 56 = .ok (.iload_n 3, 1) := by decide +kernel
theorem dX4_finish_57 : decode cX4_finish 57 = .ok (.ireturn, 1) := by decide +kernel
set_option maxRecDepth 20000 in
theorem ggX4_types_Jx4a65c_size_8abf5 : GoodIn wsX4_types wsJx4a65c_size_8abf5 := goodIn_r _ [6, 7, 9, 10, 11] (by decide +kernel) (by decide +kernel)
set_option maxRecDepth 20000 in
theorem gX4_types_Jx4a65c_size_8abf5 : GoodIn wsX4_types (wsV RX4 128 RJx4a65c yJx4a65c_size_8abf5 wsJx4a65c_size_8abf5) := goodIn_app (goodIn_of _ (by decide +kernel)) ggX4_types_Jx4a65c_size_8abf5
theorem dX4_types_0 : decode cX4_types 0 = .ok (.aload_n 0, 1) := by decide +kernel
theorem dX4_types_1 : decode cX4_types 1 = .ok (.getfield 10, 3) := by decide +kernel
theorem dX4_types_4 : decode cX4_types 4 = .ok (.invokevirtual 128, 3) := by decide +kernel
theorem dX4_types_7 : decode cX4_types 7 = .ok (.ireturn, 1) := by decide +kernel
set_option maxRecDepth 20000 in
theorem ggX4_size_X4_typeAt : GoodIn wsX4_size wsX4_typeAt := goodIn_r _ [6, 7, 8, 9, 10, 11, 12, 13, 14, 15, 16, 17, 18, 19, 20, 21, 22, 23, 24, 25, 26, 27, 28, 29, 30, 31, 45, 46, 47, 48] (by decide +kernel) (by decide +kernel)
set_option maxRecDepth 20000 in
theorem gX4_size_X4_typeAt : GoodIn wsX4_size (wsV RX4 35 RX4 yX4_typeAt wsX4_typeAt) := goodIn_app (goodIn_of _ (by decide +kernel)) ggX4_size_X4_typeAt
theorem dX4_size_0 : decode cX4_size 0 = .ok (.aload_n 0, 1) := by decide +kernel
theorem dX4_size_1 : decode cX4_size 1 = .ok (.iload_n 1, 1) := by decide +kernel
theorem dX4_size_2 : decode cX4_size 2 = .ok (.invokevirtual 35, 3) := by decide +kernel
theorem dX4_size_5 : decode cX4_size 5 = .ok (.astore_n 2, 1) := by decide +kernel
theorem dX4_size_6 : decode cX4_size 6 = .ok (.aload_n 2, 1) := by decide +kernel
theorem dX4_size_7 : decode cX4_size 7 = .ok (.ifnonnull 7, 3) := by decide +kernel
theorem dX4_size_10 : decode cX4_size 10 = .ok (.iconst (-1), 1) := by decide +kernel
theorem dX4_size_11 : decode cX4_size 11 = .ok (.goto 7, 3) := by decide +kernel
theorem dX4_size_14 : decode cX4_size 14 = .ok (.aload_n 2, 1) := by decide +kernel
theorem dX4_size_15 : decode cX4_size 15 = .ok (.getfield 52, 3) := by decide +kernel
theorem dX4_size_18 : decode cX4_size 18 = .ok (.ireturn, 1) := by decide +kernel
set_option maxRecDepth 20000 in
theorem ggX4_align_X4_typeAt : GoodIn wsX4_align wsX4_typeAt := goodIn_r _ [6, 7, 8, 9, 10, 11, 12, 13, 14, 15, 16, 17, 18, 19, 20, 21, 22, 23, 24, 25, 26, 27, 28, 29, 30, 31, 45, 46, 47, 48] (by decide +kernel) (by decide +kernel)
set_option maxRecDepth 20000 in
theorem gX4_align_X4_typeAt : GoodIn wsX4_align (wsV RX4 35 RX4 yX4_typeAt wsX4_typeAt) := goodIn_app (goodIn_of _ (by decide +kernel)) ggX4_align_X4_typeAt
theorem dX4_align_0 : decode cX4_align 0 = .ok (.aload_n 0, 1) := by decide +kernel
theorem dX4_align_1 : decode cX4_align 1 = .ok (.iload_n 1, 1) := by decide +kernel
theorem dX4_align_2 : decode cX4_align 2 = .ok (.invokevirtual 35, 3) := by decide +kernel
theorem dX4_align_5 : decode cX4_align 5 = .ok (.astore_n 2, 1) := by decide +kernel
theorem dX4_align_6 : decode cX4_align 6 = .ok (.aload_n 2, 1) := by decide +kernel
theorem dX4_align_7 : decode cX4_align 7 = .ok (.ifnonnull 7, 3) := by decide +kernel
theorem dX4_align_10 : decode cX4_align 10 = .ok (.iconst (-1), 1) := by decide +kernel
theorem dX4_align_11 : decode cX4_align 11 = .ok (.goto 7, 3) := by decide +kernel
theorem dX4_align_14 : decode cX4_align 14 = .ok (.aload_n 2, 1) := by decide +kernel
theorem dX4_align_15 : decode cX4_align 15 = .ok (.getfield 60, 3) := by decide +kernel
theorem dX4_align_18 : decode cX4_align 18 = .ok (.ireturn, 1) := by decide +kernel
set_option maxRecDepth 20000 in
theorem ggX4_members_X4_recordAt : GoodIn wsX4_members wsX4_recordAt := goodIn_r _ [5, 6, 7, 8, 9, 4, 10, 11, 12, 13, 14, 15, 16, 17, 18, 19, 20, 21, 22, 23, 24, 25, 26, 27, 28, 29, 30, 31, 32, 33, 34, 35, 44, 45, 46, 47] (by decide +kernel) (by decide +kernel)
set_option maxRecDepth 20000 in
theorem gX4_members_X4_recordAt : GoodIn wsX4_members (wsV RX4 132 RX4 yX4_recordAt wsX4_recordAt) := goodIn_app (goodIn_of _ (by decide +kernel)) ggX4_members_X4_recordAt
set_option maxRecDepth 20000 in
theorem ggX4_members_Jx4a65c_size_8abf5 : GoodIn wsX4_members wsJx4a65c_size_8abf5 := goodIn_r _ [17, 18, 45, 46, 47] (by decide +kernel) (by decide +kernel)
set_option maxRecDepth 20000 in
theorem gX4_members_Jx4a65c_size_8abf5 : GoodIn wsX4_members (wsV RX4 128 RJx4a65c yJx4a65c_size_8abf5 wsJx4a65c_size_8abf5) := goodIn_app (goodIn_of _ (by decide +kernel)) ggX4_members_Jx4a65c_size_8abf5
theorem dX4_members_0 : decode cX4_members 0 = .ok (.aload_n 0, 1) := by decide +kernel
theorem dX4_members_1 : decode cX4_members 1 = .ok (.iload_n 1, 1) := by decide +kernel
theorem dX4_members_2 : decode cX4_members 2 = .ok (.invokevirtual 132, 3) := by decide +kernel
theorem dX4_members_5 : decode cX4_members 5 = .ok (.astore_n 2, 1) := by decide +kernel
theorem dX4_members_6 : decode cX4_members 6 = .ok (.aload_n 2, 1) := by decide +kernel
theorem dX4_members_7 : decode cX4_members 7 = .ok (.ifnonnull 7, 3) := by decide +kernel
theorem dX4_members_10 : decode cX4_members 10 = .ok (.iconst (-1), 1) := by decide +kernel
theorem dX4_members_11 : decode cX4_members 11 = .ok (.goto 10, 3) := by decide +kernel
theorem dX4_members_14 : decode cX4_members 14 = .ok (.aload_n 2, 1) := by decide +kernel
theorem dX4_members_15 : decode cX4_members 15 = .ok (.getfield 110, 3) := by decide +kernel
theorem dX4_members_18 : decode cX4_members 18 = .ok (.invokevirtual 128, 3) := by decide +kernel
theorem dX4_members_21 : decode cX4_members 21 = .ok (.ireturn, 1) := by decide +kernel
set_option maxRecDepth 20000 in
theorem ggX4_member_X4_recordAt : GoodIn wsX4_member wsX4_recordAt := goodIn_r _ [6, 7, 8, 9, 10, 5, 11, 12, 13, 14, 15, 16, 17, 18, 19, 20, 21, 22, 23, 24, 25, 26, 27, 28, 29, 30, 31, 32, 33, 34, 35, 36, 49, 50, 51, 52] (by decide +kernel) (by decide +kernel)
set_option maxRecDepth 20000 in
theorem gX4_member_X4_recordAt : GoodIn wsX4_member (wsV RX4 132 RX4 yX4_recordAt wsX4_recordAt) := goodIn_app (goodIn_of _ (by decide +kernel)) ggX4_member_X4_recordAt
set_option maxRecDepth 20000 in
theorem ggX4_member_Jx4a65c_size_8abf5 : GoodIn wsX4_member wsJx4a65c_size_8abf5 := goodIn_r _ [18, 19, 50, 51, 52] (by decide +kernel) (by decide +kernel)
set_option maxRecDepth 20000 in
theorem gX4_member_Jx4a65c_size_8abf5 : GoodIn wsX4_member (wsV RX4 128 RJx4a65c yJx4a65c_size_8abf5 wsJx4a65c_size_8abf5) := goodIn_app (goodIn_of _ (by decide +kernel)) ggX4_member_Jx4a65c_size_8abf5
set_option maxRecDepth 20000 in
theorem ggX4_member_Jx4a65c_get_915e3 : GoodIn wsX4_member wsJx4a65c_get_915e3 := goodIn_r _ [23, 19, 24, 25, 26, 27, 28, 29, 30, 31, 32, 33, 34, 17, 35, 36, 50, 51, 52] (by decide +kernel) (by decide +kernel)
set_option maxRecDepth 20000 in
theorem gX4_member_Jx4a65c_get_915e3 : GoodIn wsX4_member (wsV RX4 135 RJx4a65c yJx4a65c_get_915e3 wsJx4a65c_get_915e3) := goodIn_app (goodIn_of _ (by decide +kernel)) ggX4_member_Jx4a65c_get_915e3
theorem dX4_member_0 : decode cX4_member 0 = .ok (.aload_n 0, 1) := by decide +kernel
theorem dX4_member_1 : decode cX4_member 1 = .ok (.iload_n 1, 1) := by decide +kernel
theorem dX4_member_2 : decode cX4_member 2 = .ok (.invokevirtual 132, 3) := by decide +kernel
theorem dX4_member_5 : decode cX4_member 5 = .ok (.astore 4, 2) := by decide +kernel
theorem dX4_member_7 : decode cX4_member 7 = .ok (.aload 4, 2) := by decide +kernel
theorem dX4_member_9 : decode cX4_member 9 = .ok (.ifnull 19, 3) := by decide +kernel
theorem dX4_member_12 : decode cX4_member 12 = .ok (.iload_n 2, 1) := by decide +kernel
theorem dX4_member_13 : decode cX4_member 13 = .ok (.ifCond .lt 15, 3) := by decide +kernel
theorem dX4_member_16 : decode cX4_member 16 = .ok (.iload_n 2, 1) := by decide +kernel
theorem dX4_member_17 : decode cX4_member 17 = .ok (.aload 4, 2) := by decide +kernel
theorem dX4_member_19 : decode cX4_member 19 = .ok (.getfield 110, 3) := by decide +kernel
theorem dX4_member_22 : decode cX4_member 22 = .ok (.invokevirtual 128, 3) := by decide +kernel
theorem dX4_member_25 : decode cX4_member 25 = .ok (.if_icmp .lt 5, 3) := by decide +kernel
theorem dX4_member_28 : decode cX4_member 28 = .ok (.iconst (-1), 1) := by decide +kernel
theorem dX4_member_29 : decode cX4_member 29 = .ok (.ireturn, 1) := by decide +kernel
theorem dX4_member_30 : decode cX4_member 30 = .ok (.aload 4, 2) := by decide +kernel
theorem dX4_member_32 : decode cX4_member 32 = .ok (.getfield 110, 3) := by decide +kernel
theorem dX4_member_35 : decode cX4_member 35 = .ok (.iload_n 2, 1) := by decide +kernel
theorem dX4_member_36 : decode cX4_member 36 = .ok (.invokevirtual 135, 3) := by decide +kernel
theorem dX4_member_39 : decode cX4_member 39 = .ok (.checkcast 86, 3) := by decide +kernel
theorem dX4_member_42 : decode cX4_member 42 = .ok (.astore 5, 2) := by decide +kernel
theorem dX4_member_44 : decode cX4_member 44 = .ok (.iload_n 3, 1) := by decide +kernel
theorem dX4_member_45 : decode cX4_member 45 = .ok (.tableswitch 55 0 3 #[31, 37, 43, 49], 31) := by decide +kernel
theorem dX4_member_76 : decode cX4_member 76 = .ok (.aload 5, 2) := by decide +kernel
theorem dX4_member_78 : decode cX4_member 78 = .ok (.getfield 139, 3) := by decide +kernel
theorem dX4_member_81 : decode cX4_member 81 = .ok (.ireturn, 1) := by decide +kernel
theorem dX4_member_82 : decode cX4_member 82 = .ok (.aload 5, 2) := by decide +kernel
theorem dX4_member_84 : decode cX4_member 84 = .ok (.getfield 142, 3) := by decide +kernel
theorem dX4_member_87 : decode cX4_member 87 = .ok (.ireturn, 1) := by decide +kernel
theorem dX4_member_88 : decode cX4_member 88 = .ok (.aload 5, 2) := by decide +kernel
theorem dX4_member_90 : decode cX4_member 90 = .ok (.getfield 145, 3) := by decide +kernel
theorem dX4_member_93 : decode cX4_member 93 = .ok (.ireturn, 1) := by decide +kernel
theorem dX4_member_94 : decode cX4_member 94 = .ok (.aload 5, 2) := by decide +kernel
theorem dX4_member_96 : decode cX4_member 96 = .ok (.getfield 148, 3) := by decide +kernel
theorem dX4_member_99 : decode cX4_member 99 = .ok (.ireturn, 1) := by decide +kernel
theorem dX4_member_100 : decode cX4_member 100 = .ok (.iconst (-1), 1) := by decide +kernel
theorem dX4_member_101 : decode cX4_member 101 = .ok (.ireturn, 1) := by decide +kernel
set_option maxRecDepth 20000 in
theorem ggX4_isFull_Jx4a65c_size_8abf5 : GoodIn wsX4_isFull wsJx4a65c_size_8abf5 := goodIn_r _ [6, 7, 9, 10, 11] (by decide +kernel) (by decide +kernel)
set_option maxRecDepth 20000 in
theorem gX4_isFull_Jx4a65c_size_8abf5 : GoodIn wsX4_isFull (wsV RX4 128 RJx4a65c yJx4a65c_size_8abf5 wsJx4a65c_size_8abf5) := goodIn_app (goodIn_of _ (by decide +kernel)) ggX4_isFull_Jx4a65c_size_8abf5
theorem dX4_isFull_0 : decode cX4_isFull 0 = .ok (.aload_n 0, 1) := by decide +kernel
theorem dX4_isFull_1 : decode cX4_isFull 1 = .ok (.getfield 10, 3) := by decide +kernel
theorem dX4_isFull_4 : decode cX4_isFull 4 = .ok (.invokevirtual 128, 3) := by decide +kernel
theorem dX4_isFull_7 : decode cX4_isFull 7 = .ok (.sipush 300, 3) := by decide +kernel
theorem dX4_isFull_10 : decode cX4_isFull 10 = .ok (.if_icmp .lt 7, 3) := by decide +kernel
theorem dX4_isFull_13 : decode cX4_isFull 13 = .ok (.iconst 1, 1) := by decide +kernel
theorem dX4_isFull_14 : decode cX4_isFull 14 = .ok (.goto 4, 3) := by decide +kernel
theorem dX4_isFull_17 : decode cX4_isFull 17 = .ok (.iconst 0, 1) := by decide +kernel
theorem dX4_isFull_18 : decode cX4_isFull 18 = .ok (.ireturn, 1) := by decide +kernel
set_option maxRecDepth 20000 in
theorem ggX4_enter_Jx4a65c_add_9ea2d : GoodIn wsX4_enter wsJx4a65c_add_9ea2d := goodIn_r _ [6, 7, 8, 9, 10, 11, 12, 13, 5, 14, 15, 16, 17, 18, 19, 20, 21, 22, 23, 24, 25, 26, 27, 28, 29, 30, 31, 32, 33, 34, 35, 36, 37, 38, 39, 40, 41, 42, 43, 44, 45, 46, 47, 48, 49, 50, 51, 52, 53, 54, 55, 56, 57, 63, 64, 65] (by decide +kernel) (by decide +kernel)
set_option maxRecDepth 20000 in
theorem gX4_enter_Jx4a65c_add_9ea2d : GoodIn wsX4_enter (wsV RX4 31 RJx4a65c yJx4a65c_add_9ea2d wsJx4a65c_add_9ea2d) := goodIn_app (goodIn_of _ (by decide +kernel)) ggX4_enter_Jx4a65c_add_9ea2d
set_option maxRecDepth 20000 in
theorem ggX4_enter_Jx4a65c_size_8abf5 : GoodIn wsX4_enter wsJx4a65c_size_8abf5 := goodIn_r _ [61, 10, 63, 64, 65] (by decide +kernel) (by decide +kernel)
set_option maxRecDepth 20000 in
theorem gX4_enter_Jx4a65c_size_8abf5 : GoodIn wsX4_enter (wsV RX4 128 RJx4a65c yJx4a65c_size_8abf5 wsJx4a65c_size_8abf5) := goodIn_app (goodIn_of _ (by decide +kernel)) ggX4_enter_Jx4a65c_size_8abf5
theorem dX4_enter_0 : decode cX4_enter 0 = .ok (.aload_n 0, 1) := by decide +kernel
theorem dX4_enter_1 : decode cX4_enter 1 = .ok (.getfield 10, 3) := by decide +kernel
theorem dX4_enter_4 : decode cX4_enter 4 = .ok (.aload_n 1, 1) := by decide +kernel
theorem dX4_enter_5 : decode cX4_enter 5 = .ok (.invokevirtual 31, 3) := by decide +kernel
theorem dX4_enter_8 : decode cX4_enter 8 = .ok (.pop, 1) := by decide +kernel
theorem dX4_enter_9 : decode cX4_enter 9 = .ok (.aload_n 0, 1) := by decide +kernel
theorem dX4_enter_10 : decode cX4_enter 10 = .ok (.getfield 10, 3) := by decide +kernel
theorem dX4_enter_13 : decode cX4_enter 13 = .ok (.invokevirtual 128, 3) := by decide +kernel
theorem dX4_enter_16 : decode cX4_enter 16 = .ok (.iconst 1, 1) := by decide +kernel
theorem dX4_enter_17 : decode cX4_enter 17 = .ok (.isub, 1) := by decide +kernel
theorem dX4_enter_18 : decode cX4_enter 18 = .ok (.ireturn, 1) := by decide +kernel
set_option maxRecDepth 20000 in
theorem ggX4_typeAt_Jx4a65c_size_8abf5 : GoodIn wsX4_typeAt wsJx4a65c_size_8abf5 := goodIn_r _ [7, 8, 27, 28, 29] (by decide +kernel) (by decide +kernel)
set_option maxRecDepth 20000 in
theorem gX4_typeAt_Jx4a65c_size_8abf5 : GoodIn wsX4_typeAt (wsV RX4 128 RJx4a65c yJx4a65c_size_8abf5 wsJx4a65c_size_8abf5) := goodIn_app (goodIn_of _ (by decide +kernel)) ggX4_typeAt_Jx4a65c_size_8abf5
set_option maxRecDepth 20000 in
theorem ggX4_typeAt_Jx4a65c_get_915e3 : GoodIn wsX4_typeAt wsJx4a65c_get_915e3 := goodIn_r _ [12, 8, 13, 14, 15, 16, 17, 18, 19, 20, 21, 22, 23, 6, 24, 25, 27, 28, 29] (by decide +kernel) (by decide +kernel)
set_option maxRecDepth 20000 in
theorem gX4_typeAt_Jx4a65c_get_915e3 : GoodIn wsX4_typeAt (wsV RX4 135 RJx4a65c yJx4a65c_get_915e3 wsJx4a65c_get_915e3) := goodIn_app (goodIn_of _ (by decide +kernel)) ggX4_typeAt_Jx4a65c_get_915e3
theorem dX4_typeAt_0 : decode cX4_typeAt 0 = .ok (.iload_n 1, 1) := by decide +kernel
theorem dX4_typeAt_1 : decode cX4_typeAt 1 = .ok (.ifCond .lt 14, 3) := by decide +kernel
theorem dX4_typeAt_4 : decode cX4_typeAt 4 = .ok (.iload_n 1, 1) := by decide +kernel
theorem dX4_typeAt_5 : decode cX4_typeAt 5 = .ok (.aload_n 0, 1) := by decide +kernel
theorem dX4_typeAt_6 : decode cX4_typeAt 6 = .ok (.getfield 10, 3) := by decide +kernel
theorem dX4_typeAt_9 : decode cX4_typeAt 9 = .ok (.invokevirtual 128, 3) := by decide +kernel
theorem dX4_typeAt_12 : decode cX4_typeAt 12 = .ok (.if_icmp .lt 7, 3) := by decide +kernel
theorem dX4_typeAt_15 : decode cX4_typeAt 15 = .ok (.aconst_null, 1) := by decide +kernel
theorem dX4_typeAt_16 : decode cX4_typeAt 16 = .ok (.goto 14, 3) := by decide +kernel
theorem dX4_typeAt_19 : decode cX4_typeAt 19 = .ok (.aload_n 0, 1) := by decide +kernel
theorem dX4_typeAt_20 : decode cX4_typeAt 20 = .ok (.getfield 10, 3) := by decide +kernel
theorem dX4_typeAt_23 : decode cX4_typeAt 23 = .ok (.iload_n 1, 1) := by decide +kernel
theorem dX4_typeAt_24 : decode cX4_typeAt 24 = .ok (.invokevirtual 135, 3) := by decide +kernel
theorem dX4_typeAt_27 : decode cX4_typeAt 27 = .ok (.checkcast 53, 3) := by decide +kernel
theorem dX4_typeAt_30 : decode cX4_typeAt 30 = .ok (.areturn, 1) := by decide +kernel
set_option maxRecDepth 20000 in
theorem ggX4_recordAt_X4_typeAt : GoodIn wsX4_recordAt wsX4_typeAt := goodIn_r _ [6, 7, 8, 9, 10, 11, 12, 13, 14, 15, 16, 17, 18, 19, 20, 21, 22, 23, 24, 25, 26, 27, 28, 29, 30, 31, 32, 33, 34, 35] (by decide +kernel) (by decide +kernel)
set_option maxRecDepth 20000 in
theorem gX4_recordAt_X4_typeAt : GoodIn wsX4_recordAt (wsV RX4 35 RX4 yX4_typeAt wsX4_typeAt) := goodIn_app (goodIn_of _ (by decide +kernel)) ggX4_recordAt_X4_typeAt
theorem dX4_recordAt_0 : decode cX4_recordAt 0 = .ok (.aload_n 0, 1) := by decide +kernel
theorem dX4_recordAt_1 : decode cX4_recordAt 1 = .ok (.iload_n 1, 1) := by decide +kernel
theorem dX4_recordAt_2 : decode cX4_recordAt 2 = .ok (.invokevirtual 35, 3) := by decide +kernel
theorem dX4_recordAt_5 : decode cX4_recordAt 5 = .ok (.astore_n 3, 1) := by decide +kernel
theorem dX4_recordAt_6 : decode cX4_recordAt 6 = .ok (.aload_n 3, 1) := by decide +kernel
theorem dX4_recordAt_7 : decode cX4_recordAt 7 = .ok (.instanceof 63, 3) := by decide +kernel
theorem dX4_recordAt_10 : decode cX4_recordAt 10 = .ok (.ifCond .eq 12, 3) := by decide +kernel
theorem dX4_recordAt_13 : decode cX4_recordAt 13 = .ok (.aload_n 3, 1) := by decide +kernel
theorem dX4_recordAt_14 : decode cX4_recordAt 14 = .ok (.checkcast 63, 3) := by decide +kernel
theorem dX4_recordAt_17 : decode cX4_recordAt 17 = .ok (.astore_n 2, 1) := by decide +kernel
theorem dX4_recordAt_18 : decode cX4_recordAt 18 = .ok (.aload_n 2, 1) := by decide +kernel
theorem dX4_recordAt_19 : decode cX4_recordAt 19 = .ok (.goto 4, 3) := by decide +kernel
theorem dX4_recordAt_22 : decode cX4_recordAt 22 = .ok (.aconst_null, 1) := by decide +kernel
theorem dX4_recordAt_23 : decode cX4_recordAt 23 = .ok (.areturn, 1) := by decide +kernel
set_option maxRecDepth 20000 in
theorem ggX4_openRecordAt_X4_recordAt : GoodIn wsX4_openRecordAt wsX4_recordAt := goodIn_r _ [5, 6, 7, 8, 9, 4, 10, 11, 12, 13, 14, 15, 16, 17, 18, 19, 20, 21, 22, 23, 24, 25, 26, 27, 28, 29, 30, 31, 32, 33, 34, 35, 44, 45, 46, 47] (by decide +kernel) (by decide +kernel)
set_option maxRecDepth 20000 in
theorem gX4_openRecordAt_X4_recordAt : GoodIn wsX4_openRecordAt (wsV RX4 132 RX4 yX4_recordAt wsX4_recordAt) := goodIn_app (goodIn_of _ (by decide +kernel)) ggX4_openRecordAt_X4_recordAt
theorem dX4_openRecordAt_0 : decode cX4_openRecordAt 0 = .ok (.aload_n 0, 1) := by decide +kernel
theorem dX4_openRecordAt_1 : decode cX4_openRecordAt 1 = .ok (.iload_n 1, 1) := by decide +kernel
theorem dX4_openRecordAt_2 : decode cX4_openRecordAt 2 = .ok (.invokevirtual 132, 3) := by decide +kernel
theorem dX4_openRecordAt_5 : decode cX4_openRecordAt 5 = .ok (.astore_n 2, 1) := by decide +kernel
theorem dX4_openRecordAt_6 : decode cX4_openRecordAt 6 = .ok (.aload_n 2, 1) := by decide +kernel
theorem dX4_openRecordAt_7 : decode cX4_openRecordAt 7 = .ok (.ifnull 14, 3) := by decide +kernel
theorem dX4_openRecordAt_10 : decode cX4_openRecordAt 10 = .ok (.aload_n 2, 1) := by decide +kernel
theorem dX4_openRecordAt_11 : decode cX4_openRecordAt 11 = .ok (.getfield 124, 3) := by decide +kernel
theorem dX4_openRecordAt_14 : decode cX4_openRecordAt 14 = .ok (.ifCond .eq 7, 3) := by decide +kernel
theorem dX4_openRecordAt_17 : decode cX4_openRecordAt 17 = .ok (.aload_n 2, 1) := by decide +kernel
theorem dX4_openRecordAt_18 : decode cX4_openRecordAt 18 = .ok (.goto 4, 3) := by decide +kernel
theorem dX4_openRecordAt_21 : decode cX4_openRecordAt 21 = .ok (.aconst_null, 1) := by decide +kernel
theorem dX4_openRecordAt_22 : decode cX4_openRecordAt 22 = .ok (.areturn, 1) := by decide +kernel
set_option maxRecDepth 20000 in
theorem ggX4_find_Jx4a65c_size_8abf5 : GoodIn wsX4_find wsJx4a65c_size_8abf5 := goodIn_r _ [7, 8, 35, 36, 37] (by decide +kernel) (by decide +kernel)
set_option maxRecDepth 20000 in
theorem gX4_find_Jx4a65c_size_8abf5 : GoodIn wsX4_find (wsV RX4 128 RJx4a65c yJx4a65c_size_8abf5 wsJx4a65c_size_8abf5) := goodIn_app (goodIn_of _ (by decide +kernel)) ggX4_find_Jx4a65c_size_8abf5
set_option maxRecDepth 20000 in
theorem ggX4_find_Jx4a65c_get_915e3 : GoodIn wsX4_find wsJx4a65c_get_915e3 := goodIn_r _ [12, 8, 13, 14, 15, 16, 17, 18, 19, 20, 21, 22, 23, 6, 24, 25, 35, 36, 37] (by decide +kernel) (by decide +kernel)
set_option maxRecDepth 20000 in
theorem gX4_find_Jx4a65c_get_915e3 : GoodIn wsX4_find (wsV RX4 135 RJx4a65c yJx4a65c_get_915e3 wsJx4a65c_get_915e3) := goodIn_app (goodIn_of _ (by decide +kernel)) ggX4_find_Jx4a65c_get_915e3
set_option maxRecDepth 20000 in
theorem ggX4_find_X2_isMadeFrom : GoodIn wsX4_find wsX2_isMadeFrom := goodIn_r _ [30, 31, 32, 33, 38, 39, 40, 41, 42] (by decide +kernel) (by decide +kernel)
set_option maxRecDepth 20000 in
theorem gX4_find_X2_isMadeFrom : GoodIn wsX4_find (wsV RX4 151 RX2 yX2_isMadeFrom wsX2_isMadeFrom) := goodIn_app (goodIn_of _ (by decide +kernel)) ggX4_find_X2_isMadeFrom
theorem dX4_find_0 : decode cX4_find 0 = .ok (.iconst 0, 1) := by decide +kernel
theorem dX4_find_1 : decode cX4_find 1 = .ok (.istore 4, 2) := by decide +kernel
theorem dX4_find_3 : decode cX4_find 3 = .ok (.iload 4, 2) := by decide +kernel
theorem dX4_find_5 : decode cX4_find 5 = .ok (.aload_n 0, 1) := by decide +kernel
theorem dX4_find_6 : decode cX4_find 6 = .ok (.getfield 10, 3) := by decide +kernel
theorem dX4_find_9 : decode cX4_find 9 = .ok (.invokevirtual 128, 3) := by decide +kernel
theorem dX4_find_12 : decode cX4_find 12 = .ok (.if_icmp .ge 49, 3) := by decide +kernel
theorem dX4_find_15 : decode cX4_find 15 = .ok (.aload_n 0, 1) := by decide +kernel
theorem dX4_find_16 : decode cX4_find 16 = .ok (.getfield 10, 3) := by decide +kernel
theorem dX4_find_19 : decode cX4_find 19 = .ok (.iload 4, 2) := by decide +kernel
theorem dX4_find_21 : decode cX4_find 21 = .ok (.invokevirtual 135, 3) := by decide +kernel
theorem dX4_find_24 : decode cX4_find 24 = .ok (.astore 6, 2) := by decide +kernel
theorem dX4_find_26 : decode cX4_find 26 = .ok (.aload 6, 2) := by decide +kernel
theorem dX4_find_28 : decode cX4_find 28 = .ok (.instanceof 20, 3) := by decide +kernel
theorem dX4_find_31 : decode cX4_find 31 = .ok (.ifCond .eq 24, 3) := by decide +kernel
theorem dX4_find_34 : decode cX4_find 34 = .ok (.aload 6, 2) := by decide +kernel
theorem dX4_find_36 : decode cX4_find 36 = .ok (.checkcast 20, 3) := by decide +kernel
theorem dX4_find_39 : decode cX4_find 39 = .ok (.astore 5, 2) := by decide +kernel
theorem dX4_find_41 : decode cX4_find 41 = .ok (.aload 5, 2) := by decide +kernel
theorem dX4_find_43 : decode cX4_find 43 = .ok (.iload_n 1, 1) := by decide +kernel
theorem dX4_find_44 : decode cX4_find 44 = .ok (.iload_n 2, 1) := by decide +kernel
theorem dX4_find_45 : decode cX4_find 45 = .ok (.iload_n 3, 1) := by decide +kernel
theorem dX4_find_46 : decode cX4_find 46 = .ok (.invokevirtual 151, 3) := by decide +kernel
theorem dX4_find_49 : decode cX4_find 49 = .ok (.ifCond .eq 6, 3) := by decide +kernel
theorem dX4_find_52 : decode cX4_find 52 = .ok (.iload 4, 2) := by decide +kernel
theorem dX4_find_54 : decode cX4_find 54 = .ok (.ireturn, 1) := by decide +kernel
theorem dX4_find_55 : decode cX4_find 55 = .ok (.iinc 4 1, 3) := by decide +kernel
theorem dX4_find_58 : decode cX4_find 58 = .ok (.goto (-55), 3) := by decide +kernel
theorem dX4_find_61 : decode cX4_find 61 = .ok (.iconst (-1), 1) := by decide +kernel
theorem dX4_find_62 : decode cX4_find 62 = .ok (.ireturn, 1) := by decide +kernel
theorem dX4_isBitFieldType_0 : decode cX4_isBitFieldType 0 = .ok (.iload_n 0, 1) := by decide +kernel
theorem dX4_isBitFieldType_1 : decode cX4_isBitFieldType 1 = .ok (.iconst 5, 1) := by decide +kernel
theorem dX4_isBitFieldType_2 : decode cX4_isBitFieldType 2 = .ok (.if_icmp .eq 9, 3) := by decide +kernel
theorem dX4_isBitFieldType_5 : decode cX4_isBitFieldType 5 = .ok (.iload_n 0, 1) := by decide +kernel
theorem dX4_isBitFieldType_6 : decode cX4_isBitFieldType 6 = .ok (.bipush 6, 2) := by decide +kernel
theorem dX4_isBitFieldType_8 : decode cX4_isBitFieldType 8 = .ok (.if_icmp .ne 7, 3) := by decide +kernel
theorem dX4_isBitFieldType_11 : decode cX4_isBitFieldType 11 = .ok (.iconst 1, 1) := by decide +kernel
theorem dX4_isBitFieldType_12 : decode cX4_isBitFieldType 12 = .ok (.goto 4, 3) := by decide +kernel
theorem dX4_isBitFieldType_15 : decode cX4_isBitFieldType 15 = .ok (.iconst 0, 1) := by decide +kernel
theorem dX4_isBitFieldType_16 : decode cX4_isBitFieldType 16 = .ok (.ireturn, 1) := by decide +kernel
theorem dX4_roundUp_0 : decode cX4_roundUp 0 = .ok (.iload_n 1, 1) := by decide +kernel
theorem dX4_roundUp_1 : decode cX4_roundUp 1 = .ok (.ifCond .gt 5, 3) := by decide +kernel
theorem dX4_roundUp_4 : decode cX4_roundUp 4 = .ok (.iload_n 0, 1) := by decide +kernel
theorem dX4_roundUp_5 : decode cX4_roundUp 5 = .ok (.ireturn, 1) := by decide +kernel
theorem dX4_roundUp_6 : decode cX4_roundUp 6 = .ok (.iload_n 0, 1) := by decide +kernel
theorem dX4_roundUp_7 : decode cX4_roundUp 7 = .ok (.iload_n 1, 1) := by decide +kernel
theorem dX4_roundUp_8 : decode cX4_roundUp 8 = .ok (.irem, 1) := by decide +kernel
theorem dX4_roundUp_9 : decode cX4_roundUp 9 = .ok (.istore_n 2, 1) := by decide +kernel
theorem dX4_roundUp_10 : decode cX4_roundUp 10 = .ok (.iload_n 2, 1) := by decide +kernel
theorem dX4_roundUp_11 : decode cX4_roundUp 11 = .ok (.ifCond .ne 7, 3) := by decide +kernel
theorem dX4_roundUp_14 : decode cX4_roundUp 14 = .ok (.iload_n 0, 1) := by decide +kernel
theorem dX4_roundUp_15 : decode cX4_roundUp 15 = .ok (.goto 8, 3) := by decide +kernel
theorem dX4_roundUp_18 : decode cX4_roundUp 18 = .ok (.iload_n 0, 1) := by decide +kernel
theorem dX4_roundUp_19 : decode cX4_roundUp 19 = .ok (.iload_n 1, 1) := by decide +kernel
theorem dX4_roundUp_20 : decode cX4_roundUp 20 = .ok (.iadd, 1) := by decide +kernel
theorem dX4_roundUp_21 : decode cX4_roundUp 21 = .ok (.iload_n 2, 1) := by decide +kernel
theorem dX4_roundUp_22 : decode cX4_roundUp 22 = .ok (.isub, 1) := by decide +kernel
theorem dX4_roundUp_23 : decode cX4_roundUp 23 = .ok (.ireturn, 1) := by decide +kernel
theorem dX5_init_0 : decode cX5_init 0 = .ok (.aload_n 0, 1) := by decide +kernel
theorem dX5_init_1 : decode cX5_init 1 = .ok (.invokespecial 1, 3) := by decide +kernel
theorem dX5_init_4 : decode cX5_init 4 = .ok (.aload_n 0, 1) := by decide +kernel
theorem dX5_init_5 : decode cX5_init 5 = .ok (.iload_n 1, 1) := by decide +kernel
theorem dX5_init_6 : decode cX5_init 6 = .ok (.putfield 7, 3) := by decide +kernel
theorem dX5_init_9 : decode cX5_init 9 = .ok (.aload_n 0, 1) := by decide +kernel
theorem dX5_init_10 : decode cX5_init 10 = .ok (.iload_n 2, 1) := by decide +kernel
theorem dX5_init_11 : decode cX5_init 11 = .ok (.putfield 13, 3) := by decide +kernel
theorem dX5_init_14 : decode cX5_init 14 = .ok (.aload_n 0, 1) := by decide +kernel
theorem dX5_init_15 : decode cX5_init 15 = .ok (.iload_n 3, 1) := by decide +kernel
theorem dX5_init_16 : decode cX5_init 16 = .ok (.putfield 16, 3) := by decide +kernel
theorem dX5_init_19 : decode cX5_init 19 = .ok (.return_, 1) := by decide +kernel
set_option maxRecDepth 20000 in
theorem ggX6_init_Jx4a65c_init_da8c8 : GoodIn wsX6_init wsJx4a65c_init_da8c8 := goodIn_r _ [19, 20, 21, 22, 23, 24, 25, 26, 27, 28, 29, 30, 31, 2, 3, 32, 33, 34] (by decide +kernel) (by decide +kernel)
set_option maxRecDepth 20000 in
theorem gX6_init_Jx4a65c_init_da8c8 : GoodIn wsX6_init (wsJx4a65c_init_da8c8) := ggX6_init_Jx4a65c_init_da8c8
theorem dX6_init_0 : decode cX6_init 0 = .ok (.aload_n 0, 1) := by decide +kernel
theorem dX6_init_1 : decode cX6_init 1 = .ok (.invokespecial 1, 3) := by decide +kernel
theorem dX6_init_4 : decode cX6_init 4 = .ok (.aload_n 0, 1) := by decide +kernel
theorem dX6_init_5 : decode cX6_init 5 = .ok (.new 7, 3) := by decide +kernel
theorem dX6_init_8 : decode cX6_init 8 = .ok (.dup, 1) := by decide +kernel
theorem dX6_init_9 : decode cX6_init 9 = .ok (.invokespecial 9, 3) := by decide +kernel
theorem dX6_init_12 : decode cX6_init 12 = .ok (.putfield 10, 3) := by decide +kernel
theorem dX6_init_15 : decode cX6_init 15 = .ok (.aload_n 0, 1) := by decide +kernel
theorem dX6_init_16 : decode cX6_init 16 = .ok (.iload_n 1, 1) := by decide +kernel
theorem dX6_init_17 : decode cX6_init 17 = .ok (.putfield 16, 3) := by decide +kernel
theorem dX6_init_20 : decode cX6_init 20 = .ok (.aload_n 0, 1) := by decide +kernel
theorem dX6_init_21 : decode cX6_init 21 = .ok (.iload_n 2, 1) := by decide +kernel
theorem dX6_init_22 : decode cX6_init 22 = .ok (.putfield 20, 3) := by decide +kernel
theorem dX6_init_25 : decode cX6_init 25 = .ok (.aload_n 0, 1) := by decide +kernel
theorem dX6_init_26 : decode cX6_init 26 = .ok (.iload_n 3, 1) := by decide +kernel
theorem dX6_init_27 : decode cX6_init 27 = .ok (.putfield 23, 3) := by decide +kernel
theorem dX6_init_30 : decode cX6_init 30 = .ok (.aload_n 0, 1) := by decide +kernel
theorem dX6_init_31 : decode cX6_init 31 = .ok (.iload 4, 2) := by decide +kernel
theorem dX6_init_33 : decode cX6_init 33 = .ok (.putfield 26, 3) := by decide +kernel
theorem dX6_init_36 : decode cX6_init 36 = .ok (.aload_n 0, 1) := by decide +kernel
theorem dX6_init_37 : decode cX6_init 37 = .ok (.iload 4, 2) := by decide +kernel
theorem dX6_init_39 : decode cX6_init 39 = .ok (.iconst 4, 1) := by decide +kernel
theorem dX6_init_40 : decode cX6_init 40 = .ok (.invokestatic 29, 3) := by decide +kernel
theorem dX6_init_43 : decode cX6_init 43 = .ok (.putfield 35, 3) := by decide +kernel
theorem dX6_init_46 : decode cX6_init 46 = .ok (.return_, 1) := by decide +kernel
theorem dX6_record_0 : decode cX6_record 0 = .ok (.aload_n 0, 1) := by decide +kernel
theorem dX6_record_1 : decode cX6_record 1 = .ok (.getfield 16, 3) := by decide +kernel
theorem dX6_record_4 : decode cX6_record 4 = .ok (.iconst 2, 1) := by decide +kernel
theorem dX6_record_5 : decode cX6_record 5 = .ok (.if_icmp .le 7, 3) := by decide +kernel
theorem dX6_record_8 : decode cX6_record 8 = .ok (.iconst 1, 1) := by decide +kernel
theorem dX6_record_9 : decode cX6_record 9 = .ok (.goto 4, 3) := by decide +kernel
theorem dX6_record_12 : decode cX6_record 12 = .ok (.iconst 0, 1) := by decide +kernel
theorem dX6_record_13 : decode cX6_record 13 = .ok (.ireturn, 1) := by decide +kernel
set_option maxRecDepth 20000 in
theorem ggX7_init_Jx4a65c_init_da8c8 : GoodIn wsX7_init wsJx4a65c_init_da8c8 := goodIn_r _ [18, 19, 20, 21, 22, 23, 24, 25, 26, 27, 28, 29, 30, 2, 3, 97, 98, 99] (by decide +kernel) (by decide +kernel)
set_option maxRecDepth 20000 in
theorem gX7_init_Jx4a65c_init_da8c8 : GoodIn wsX7_init (wsJx4a65c_init_da8c8) := ggX7_init_Jx4a65c_init_da8c8
set_option maxRecDepth 20000 in
theorem ggX7_init_X6_init : GoodIn wsX7_init wsX6_init := goodIn_r _ [33, 34, 2, 3, 35, 5, 6, 36, 37, 38, 39, 40, 41, 42, 43, 44, 45, 46, 17, 18, 19, 20, 21, 22, 23, 24, 25, 26, 27, 28, 29, 30, 97, 98, 99, 108, 109, 110, 111, 112, 113, 114] (by decide +kernel) (by decide +kernel)
set_option maxRecDepth 20000 in
theorem gX7_init_X6_init : GoodIn wsX7_init (wsX6_init) := ggX7_init_X6_init
