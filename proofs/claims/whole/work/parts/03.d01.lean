set_option maxRecDepth 20000 in
theorem ggX0_init_X3_init : GoodIn wsX0_init wsX3_init := goodIn_r _ [10, 11, 12, 13, 14, 15, 31, 32, 33, 34, 35, 36, 37, 38, 42, 43, 44, 45, 46] (by decide +kernel) (by decide +kernel)
set_option maxRecDepth 20000 in
theorem gX0_init_X3_init : GoodIn wsX0_init (wsX3_init) := ggX0_init_X3_init
set_option maxRecDepth 20000 in
theorem ggX0_init_Jx4a65c_init_da8c8 : GoodIn wsX0_init wsJx4a65c_init_da8c8 := goodIn_r _ [18, 19, 20, 21, 22, 23, 24, 25, 26, 27, 28, 29, 30, 12, 13, 39, 40, 41] (by decide +kernel) (by decide +kernel)
set_option maxRecDepth 20000 in
theorem gX0_init_Jx4a65c_init_da8c8 : GoodIn wsX0_init (wsJx4a65c_init_da8c8) := ggX0_init_Jx4a65c_init_da8c8
theorem dX0_init_0 : decode cX0_init 0 = .ok (.aload_n 0, 1) := by decide +kernel
theorem dX0_init_1 : decode cX0_init 1 = .ok (.iconst 0, 1) := by decide +kernel
theorem dX0_init_2 : decode cX0_init 2 = .ok (.iconst 0, 1) := by decide +kernel
theorem dX0_init_3 : decode cX0_init 3 = .ok (.invokespecial 3, 3) := by decide +kernel
theorem dX0_init_6 : decode cX0_init 6 = .ok (.aload_n 0, 1) := by decide +kernel
theorem dX0_init_7 : decode cX0_init 7 = .ok (.iload_n 1, 1) := by decide +kernel
theorem dX0_init_8 : decode cX0_init 8 = .ok (.putfield 9, 3) := by decide +kernel
theorem dX0_init_11 : decode cX0_init 11 = .ok (.aload_n 0, 1) := by decide +kernel
theorem dX0_init_12 : decode cX0_init 12 = .ok (.new 15, 3) := by decide +kernel
theorem dX0_init_15 : decode cX0_init 15 = .ok (.dup, 1) := by decide +kernel
theorem dX0_init_16 : decode cX0_init 16 = .ok (.invokespecial 17, 3) := by decide +kernel
theorem dX0_init_19 : decode cX0_init 19 = .ok (.putfield 20, 3) := by decide +kernel
theorem dX0_init_22 : decode cX0_init 22 = .ok (.aload_n 0, 1) := by decide +kernel
theorem dX0_init_23 : decode cX0_init 23 = .ok (.iconst 1, 1) := by decide +kernel
theorem dX0_init_24 : decode cX0_init 24 = .ok (.putfield 24, 3) := by decide +kernel
theorem dX0_init_27 : decode cX0_init 27 = .ok (.return_, 1) := by decide +kernel
set_option maxRecDepth 20000 in
theorem ggX0_hasAllMembers_Jx4a65c_size_8abf5 : GoodIn wsX0_hasAllMembers wsJx4a65c_size_8abf5 := goodIn_r _ [6, 7, 16, 17, 18] (by decide +kernel) (by decide +kernel)
set_option maxRecDepth 20000 in
theorem gX0_hasAllMembers_Jx4a65c_size_8abf5 : GoodIn wsX0_hasAllMembers (wsV RX0 27 RJx4a65c yJx4a65c_size_8abf5 wsJx4a65c_size_8abf5) := goodIn_app (goodIn_of _ (by decide +kernel)) ggX0_hasAllMembers_Jx4a65c_size_8abf5
theorem dX0_hasAllMembers_0 : decode cX0_hasAllMembers 0 = .ok (.aload_n 0, 1) := by decide +kernel
theorem dX0_hasAllMembers_1 : decode cX0_hasAllMembers 1 = .ok (.getfield 20, 3) := by decide +kernel
theorem dX0_hasAllMembers_4 : decode cX0_hasAllMembers 4 = .ok (.invokevirtual 27, 3) := by decide +kernel
theorem dX0_hasAllMembers_7 : decode cX0_hasAllMembers 7 = .ok (.bipush 100, 2) := by decide +kernel
theorem dX0_hasAllMembers_9 : decode cX0_hasAllMembers 9 = .ok (.if_icmp .lt 7, 3) := by decide +kernel
theorem dX0_hasAllMembers_12 : decode cX0_hasAllMembers 12 = .ok (.iconst 1, 1) := by decide +kernel
theorem dX0_hasAllMembers_13 : decode cX0_hasAllMembers 13 = .ok (.goto 4, 3) := by decide +kernel
theorem dX0_hasAllMembers_16 : decode cX0_hasAllMembers 16 = .ok (.iconst 0, 1) := by decide +kernel
theorem dX0_hasAllMembers_17 : decode cX0_hasAllMembers 17 = .ok (.ireturn, 1) := by decide +kernel
set_option maxRecDepth 20000 in
theorem ggX0_enter_Jx4a65c_add_9ea2d : GoodIn wsX0_enter wsJx4a65c_add_9ea2d := goodIn_r _ [6, 7, 8, 9, 10, 11, 12, 13, 5, 14, 15, 16, 17, 18, 19, 20, 21, 22, 23, 24, 25, 26, 27, 28, 29, 30, 31, 32, 33, 34, 35, 36, 37, 38, 39, 40, 41, 42, 43, 44, 45, 46, 47, 48, 49, 50, 51, 52, 53, 54, 55, 56, 57, 70, 71, 72] (by decide +kernel) (by decide +kernel)
set_option maxRecDepth 20000 in
theorem gX0_enter_Jx4a65c_add_9ea2d : GoodIn wsX0_enter (wsV RX0 31 RJx4a65c yJx4a65c_add_9ea2d wsJx4a65c_add_9ea2d) := goodIn_app (goodIn_of _ (by decide +kernel)) ggX0_enter_Jx4a65c_add_9ea2d
set_option maxRecDepth 20000 in
theorem ggX0_enter_Jx4a65c_size_8abf5 : GoodIn wsX0_enter wsJx4a65c_size_8abf5 := goodIn_r _ [61, 10, 70, 71, 72] (by decide +kernel) (by decide +kernel)
set_option maxRecDepth 20000 in
theorem gX0_enter_Jx4a65c_size_8abf5 : GoodIn wsX0_enter (wsV RX0 27 RJx4a65c yJx4a65c_size_8abf5 wsJx4a65c_size_8abf5) := goodIn_app (goodIn_of _ (by decide +kernel)) ggX0_enter_Jx4a65c_size_8abf5
theorem dX0_enter_0 : decode cX0_enter 0 = .ok (.aload_n 0, 1) := by decide +kernel
theorem dX0_enter_1 : decode cX0_enter 1 = .ok (.getfield 20, 3) := by decide +kernel
theorem dX0_enter_4 : decode cX0_enter 4 = .ok (.aload_n 1, 1) := by decide +kernel
theorem dX0_enter_5 : decode cX0_enter 5 = .ok (.invokevirtual 31, 3) := by decide +kernel
theorem dX0_enter_8 : decode cX0_enter 8 = .ok (.pop, 1) := by decide +kernel
theorem dX0_enter_9 : decode cX0_enter 9 = .ok (.aload_n 0, 1) := by decide +kernel
theorem dX0_enter_10 : decode cX0_enter 10 = .ok (.getfield 20, 3) := by decide +kernel
theorem dX0_enter_13 : decode cX0_enter 13 = .ok (.invokevirtual 27, 3) := by decide +kernel
theorem dX0_enter_16 : decode cX0_enter 16 = .ok (.iconst 1, 1) := by decide +kernel
theorem dX0_enter_17 : decode cX0_enter 17 = .ok (.isub, 1) := by decide +kernel
theorem dX0_enter_18 : decode cX0_enter 18 = .ok (.ireturn, 1) := by decide +kernel
set_option maxRecDepth 20000 in
theorem ggX0_placeFor_X4_roundUp : GoodIn wsX0_placeFor wsX4_roundUp := goodIn_r _ [5] (by decide +kernel) (by decide +kernel)
set_option maxRecDepth 20000 in
theorem gX0_placeFor_X4_roundUp_n39 : GoodIn wsX0_placeFor (wsX4_roundUp) := ggX0_placeFor_X4_roundUp
theorem dX0_placeFor_0 : decode cX0_placeFor 0 = .ok (.aload_n 0, 1) := by decide +kernel
theorem dX0_placeFor_1 : decode cX0_placeFor 1 = .ok (.getfield 9, 3) := by decide +kernel
theorem dX0_placeFor_4 : decode cX0_placeFor 4 = .ok (.ifCond .eq 7, 3) := by decide +kernel
theorem dX0_placeFor_7 : decode cX0_placeFor 7 = .ok (.iconst 0, 1) := by decide +kernel
theorem dX0_placeFor_8 : decode cX0_placeFor 8 = .ok (.goto 11, 3) := by decide +kernel
theorem dX0_placeFor_11 : decode cX0_placeFor 11 = .ok (.aload_n 0, 1) := by decide +kernel
theorem dX0_placeFor_12 : decode cX0_placeFor 12 = .ok (.getfield 35, 3) := by decide +kernel
theorem dX0_placeFor_15 : decode cX0_placeFor 15 = .ok (.iload_n 1, 1) := by decide +kernel
theorem dX0_placeFor_16 : decode cX0_placeFor 16 = .ok (.invokestatic 39, 3) := by decide +kernel
theorem dX0_placeFor_19 : decode cX0_placeFor 19 = .ok (.ireturn, 1) := by decide +kernel
theorem dX0_occupy_0 : decode cX0_occupy 0 = .ok (.aload_n 0, 1) := by decide +kernel
theorem dX0_occupy_1 : decode cX0_occupy 1 = .ok (.aload_n 0, 1) := by decide +kernel
theorem dX0_occupy_2 : decode cX0_occupy 2 = .ok (.getfield 35, 3) := by decide +kernel
theorem dX0_occupy_5 : decode cX0_occupy 5 = .ok (.iload_n 1, 1) := by decide +kernel
theorem dX0_occupy_6 : decode cX0_occupy 6 = .ok (.iload_n 2, 1) := by decide +kernel
theorem dX0_occupy_7 : decode cX0_occupy 7 = .ok (.iadd, 1) := by decide +kernel
theorem dX0_occupy_8 : decode cX0_occupy 8 = .ok (.invokestatic 43, 3) := by decide +kernel
theorem dX0_occupy_11 : decode cX0_occupy 11 = .ok (.putfield 35, 3) := by decide +kernel
theorem dX0_occupy_14 : decode cX0_occupy 14 = .ok (.aload_n 0, 1) := by decide +kernel
theorem dX0_occupy_15 : decode cX0_occupy 15 = .ok (.aload_n 0, 1) := by decide +kernel
theorem dX0_occupy_16 : decode cX0_occupy 16 = .ok (.getfield 48, 3) := by decide +kernel
theorem dX0_occupy_19 : decode cX0_occupy 19 = .ok (.iload_n 3, 1) := by decide +kernel
theorem dX0_occupy_20 : decode cX0_occupy 20 = .ok (.invokestatic 43, 3) := by decide +kernel
theorem dX0_occupy_23 : decode cX0_occupy 23 = .ok (.putfield 48, 3) := by decide +kernel
theorem dX0_occupy_26 : decode cX0_occupy 26 = .ok (.return_, 1) := by decide +kernel
theorem dX0_endUnit_0 : decode cX0_endUnit 0 = .ok (.aload_n 0, 1) := by decide +kernel
theorem dX0_endUnit_1 : decode cX0_endUnit 1 = .ok (.iconst 0, 1) := by decide +kernel
theorem dX0_endUnit_2 : decode cX0_endUnit 2 = .ok (.putfield 51, 3) := by decide +kernel
theorem dX0_endUnit_5 : decode cX0_endUnit 5 = .ok (.return_, 1) := by decide +kernel
set_option maxRecDepth 20000 in
theorem ggX0_beginUnit_X0_placeFor : GoodIn wsX0_beginUnit wsX0_placeFor := goodIn_r _ [8, 9, 10, 11, 12, 13, 24, 25, 26, 27, 28, 29, 30, 31] (by decide +kernel) (by decide +kernel)
set_option maxRecDepth 20000 in
theorem gX0_beginUnit_X0_placeFor : GoodIn wsX0_beginUnit (wsV RX0 54 RX0 yX0_placeFor wsX0_placeFor) := goodIn_app (goodIn_of _ (by decide +kernel)) ggX0_beginUnit_X0_placeFor
set_option maxRecDepth 20000 in
theorem ggX0_beginUnit_X0_occupy : GoodIn wsX0_beginUnit wsX0_occupy := goodIn_r _ [17, 10, 18, 19, 20, 21, 22, 23, 24, 25, 26, 27, 28, 29, 30, 31, 32, 33, 34, 35, 36] (by decide +kernel) (by decide +kernel)
set_option maxRecDepth 20000 in
theorem gX0_beginUnit_X0_occupy : GoodIn wsX0_beginUnit (wsV RX0 59 RX0 yX0_occupy wsX0_occupy) := goodIn_app (goodIn_of _ (by decide +kernel)) ggX0_beginUnit_X0_occupy
theorem dX0_beginUnit_0 : decode cX0_beginUnit 0 = .ok (.aload_n 0, 1) := by decide +kernel
theorem dX0_beginUnit_1 : decode cX0_beginUnit 1 = .ok (.iconst 4, 1) := by decide +kernel
theorem dX0_beginUnit_2 : decode cX0_beginUnit 2 = .ok (.invokevirtual 54, 3) := by decide +kernel
theorem dX0_beginUnit_5 : decode cX0_beginUnit 5 = .ok (.istore_n 1, 1) := by decide +kernel
theorem dX0_beginUnit_6 : decode cX0_beginUnit 6 = .ok (.iload_n 1, 1) := by decide +kernel
theorem dX0_beginUnit_7 : decode cX0_beginUnit 7 = .ok (.iconst 4, 1) := by decide +kernel
theorem dX0_beginUnit_8 : decode cX0_beginUnit 8 = .ok (.iadd, 1) := by decide +kernel
theorem dX0_beginUnit_9 : decode cX0_beginUnit 9 = .ok (.ldc 58, 2) := by decide +kernel
theorem dX0_beginUnit_11 : decode cX0_beginUnit 11 = .ok (.if_icmp .le 5, 3) := by decide +kernel
theorem dX0_beginUnit_14 : decode cX0_beginUnit 14 = .ok (.iconst 0, 1) := by decide +kernel
theorem dX0_beginUnit_15 : decode cX0_beginUnit 15 = .ok (.ireturn, 1) := by decide +kernel
theorem dX0_beginUnit_16 : decode cX0_beginUnit 16 = .ok (.aload_n 0, 1) := by decide +kernel
theorem dX0_beginUnit_17 : decode cX0_beginUnit 17 = .ok (.iload_n 1, 1) := by decide +kernel
theorem dX0_beginUnit_18 : decode cX0_beginUnit 18 = .ok (.iconst 4, 1) := by decide +kernel
theorem dX0_beginUnit_19 : decode cX0_beginUnit 19 = .ok (.iconst 4, 1) := by decide +kernel
theorem dX0_beginUnit_20 : decode cX0_beginUnit 20 = .ok (.invokevirtual 59, 3) := by decide +kernel
theorem dX0_beginUnit_23 : decode cX0_beginUnit 23 = .ok (.aload_n 0, 1) := by decide +kernel
theorem dX0_beginUnit_24 : decode cX0_beginUnit 24 = .ok (.iload_n 1, 1) := by decide +kernel
theorem dX0_beginUnit_25 : decode cX0_beginUnit 25 = .ok (.putfield 63, 3) := by decide +kernel
theorem dX0_beginUnit_28 : decode cX0_beginUnit 28 = .ok (.aload_n 0, 1) := by decide +kernel
theorem dX0_beginUnit_29 : decode cX0_beginUnit 29 = .ok (.bipush 32, 2) := by decide +kernel
theorem dX0_beginUnit_31 : decode cX0_beginUnit 31 = .ok (.putfield 51, 3) := by decide +kernel
theorem dX0_beginUnit_34 : decode cX0_beginUnit 34 = .ok (.iconst 1, 1) := by decide +kernel
theorem dX0_beginUnit_35 : decode cX0_beginUnit 35 = .ok (.ireturn, 1) := by decide +kernel
theorem dX0_takeBits_0 : decode cX0_takeBits 0 = .ok (.bipush 32, 2) := by decide +kernel
theorem dX0_takeBits_2 : decode cX0_takeBits 2 = .ok (.aload_n 0, 1) := by decide +kernel
theorem dX0_takeBits_3 : decode cX0_takeBits 3 = .ok (.getfield 51, 3) := by decide +kernel
theorem dX0_takeBits_6 : decode cX0_takeBits 6 = .ok (.isub, 1) := by decide +kernel
theorem dX0_takeBits_7 : decode cX0_takeBits 7 = .ok (.istore_n 2, 1) := by decide +kernel
theorem dX0_takeBits_8 : decode cX0_takeBits 8 = .ok (.aload_n 0, 1) := by decide +kernel
theorem dX0_takeBits_9 : decode cX0_takeBits 9 = .ok (.aload_n 0, 1) := by decide +kernel
theorem dX0_takeBits_10 : decode cX0_takeBits 10 = .ok (.getfield 9, 3) := by decide +kernel
theorem dX0_takeBits_13 : decode cX0_takeBits 13 = .ok (.ifCond .eq 7, 3) := by decide +kernel
theorem dX0_takeBits_16 : decode cX0_takeBits 16 = .ok (.iconst 0, 1) := by decide +kernel
theorem dX0_takeBits_17 : decode cX0_takeBits 17 = .ok (.goto 9, 3) := by decide +kernel
theorem dX0_takeBits_20 : decode cX0_takeBits 20 = .ok (.aload_n 0, 1) := by decide +kernel
theorem dX0_takeBits_21 : decode cX0_takeBits 21 = .ok (.getfield 51, 3) := by decide +kernel
theorem dX0_takeBits_24 : decode cX0_takeBits 24 = .ok (.iload_n 1, 1) := by decide +kernel
theorem dX0_takeBits_25 : decode cX0_takeBits 25 = .ok (.isub, 1) := by decide +kernel
theorem dX0_takeBits_26 : decode cX0_takeBits 26 = .ok (.putfield 51, 3) := by decide +kernel
theorem dX0_takeBits_29 : decode cX0_takeBits 29 = .ok (.iload_n 2, 1) := by decide +kernel
theorem dX0_takeBits_30 : decode cX0_takeBits 30 = .ok (.ireturn, 1) := by decide +kernel
theorem dX1_init_0 : decode cX1_init 0 = .ok (.aload_n 0, 1) := by decide +kernel
theorem dX1_init_1 : decode cX1_init 1 = .ok (.invokespecial 1, 3) := by decide +kernel
theorem dX1_init_4 : decode cX1_init 4 = .ok (.aload_n 0, 1) := by decide +kernel
theorem dX1_init_5 : decode cX1_init 5 = .ok (.iload_n 1, 1) := by decide +kernel
theorem dX1_init_6 : decode cX1_init 6 = .ok (.putfield 7, 3) := by decide +kernel
theorem dX1_init_9 : decode cX1_init 9 = .ok (.aload_n 0, 1) := by decide +kernel
theorem dX1_init_10 : decode cX1_init 10 = .ok (.iload_n 2, 1) := by decide +kernel
theorem dX1_init_11 : decode cX1_init 11 = .ok (.putfield 13, 3) := by decide +kernel
theorem dX1_init_14 : decode cX1_init 14 = .ok (.aload_n 0, 1) := by decide +kernel
theorem dX1_init_15 : decode cX1_init 15 = .ok (.iload_n 3, 1) := by decide +kernel
theorem dX1_init_16 : decode cX1_init 16 = .ok (.putfield 16, 3) := by decide +kernel
theorem dX1_init_19 : decode cX1_init 19 = .ok (.aload_n 0, 1) := by decide +kernel
theorem dX1_init_20 : decode cX1_init 20 = .ok (.iload 4, 2) := by decide +kernel
theorem dX1_init_22 : decode cX1_init 22 = .ok (.putfield 19, 3) := by decide +kernel
theorem dX1_init_25 : decode cX1_init 25 = .ok (.return_, 1) := by decide +kernel
set_option maxRecDepth 20000 in
theorem ggX2_init_X3_init : GoodIn wsX2_init wsX3_init := goodIn_r _ [7, 8, 9, 10, 11, 12, 18, 19, 20, 21, 22, 23, 24, 25, 13, 14, 15, 16, 17] (by decide +kernel) (by decide +kernel)
set_option maxRecDepth 20000 in
theorem gX2_init_X3_init : GoodIn wsX2_init (wsX3_init) := ggX2_init_X3_init
theorem dX2_init_0 : decode cX2_init 0 = .ok (.aload_n 0, 1) := by decide +kernel
theorem dX2_init_1 : decode cX2_init 1 = .ok (.iload 4, 2) := by decide +kernel
theorem dX2_init_3 : decode cX2_init 3 = .ok (.iload 5, 2) := by decide +kernel
theorem dX2_init_5 : decode cX2_init 5 = .ok (.invokespecial 1, 3) := by decide +kernel
theorem dX2_init_8 : decode cX2_init 8 = .ok (.aload_n 0, 1) := by decide +kernel
theorem dX2_init_9 : decode cX2_init 9 = .ok (.iload_n 1, 1) := by decide +kernel
theorem dX2_init_10 : decode cX2_init 10 = .ok (.putfield 7, 3) := by decide +kernel
theorem dX2_init_13 : decode cX2_init 13 = .ok (.aload_n 0, 1) := by decide +kernel
theorem dX2_init_14 : decode cX2_init 14 = .ok (.iload_n 2, 1) := by decide +kernel
theorem dX2_init_15 : decode cX2_init 15 = .ok (.putfield 13, 3) := by decide +kernel
theorem dX2_init_18 : decode cX2_init 18 = .ok (.aload_n 0, 1) := by decide +kernel
theorem dX2_init_19 : decode cX2_init 19 = .ok (.iload_n 3, 1) := by decide +kernel
theorem dX2_init_20 : decode cX2_init 20 = .ok (.putfield 16, 3) := by decide +kernel
theorem dX2_init_23 : decode cX2_init 23 = .ok (.return_, 1) := by decide +kernel
theorem dX2_isMadeFrom_0 : decode cX2_isMadeFrom 0 = .ok (.aload_n 0, 1) := by decide +kernel
theorem dX2_isMadeFrom_1 : decode cX2_isMadeFrom 1 = .ok (.getfield 7, 3) := by decide +kernel
theorem dX2_isMadeFrom_4 : decode cX2_isMadeFrom 4 = .ok (.iload_n 1, 1) := by decide +kernel
theorem dX2_isMadeFrom_5 : decode cX2_isMadeFrom 5 = .ok (.if_icmp .ne 23, 3) := by decide +kernel
theorem dX2_isMadeFrom_8 : decode cX2_isMadeFrom 8 = .ok (.aload_n 0, 1) := by decide +kernel
theorem dX2_isMadeFrom_9 : decode cX2_isMadeFrom 9 = .ok (.getfield 13, 3) := by decide +kernel
theorem dX2_isMadeFrom_12 : decode cX2_isMadeFrom 12 = .ok (.iload_n 2, 1) := by decide +kernel
theorem dX2_isMadeFrom_13 : decode cX2_isMadeFrom 13 = .ok (.if_icmp .ne 15, 3) := by decide +kernel
theorem dX2_isMadeFrom_16 : decode cX2_isMadeFrom 16 = .ok (.aload_n 0, 1) := by decide +kernel
theorem dX2_isMadeFrom_17 : decode cX2_isMadeFrom 17 = .ok (.getfield 16, 3) := by decide +kernel
theorem dX2_isMadeFrom_20 : decode cX2_isMadeFrom 20 = .ok (.iload_n 3, 1) := by decide +kernel
theorem dX2_isMadeFrom_21 : decode cX2_isMadeFrom 21 = .ok (.if_icmp .ne 7, 3) := by decide +kernel
theorem dX2_isMadeFrom_24 : decode cX2_isMadeFrom 24 = .ok (.iconst 1, 1) := by decide +kernel
theorem dX2_isMadeFrom_25 : decode cX2_isMadeFrom 25 = .ok (.goto 4, 3) := by decide +kernel
theorem dX2_isMadeFrom_28 : decode cX2_isMadeFrom 28 = .ok (.iconst 0, 1) := by decide +kernel
theorem dX2_isMadeFrom_29 : decode cX2_isMadeFrom 29 = .ok (.ireturn, 1) := by decide +kernel
theorem dX3_init_0 : decode cX3_init 0 = .ok (.aload_n 0, 1) := by decide +kernel
theorem dX3_init_1 : decode cX3_init 1 = .ok (.invokespecial 1, 3) := by decide +kernel
theorem dX3_init_4 : decode cX3_init 4 = .ok (.aload_n 0, 1) := by decide +kernel
theorem dX3_init_5 : decode cX3_init 5 = .ok (.iload_n 1, 1) := by decide +kernel
theorem dX3_init_6 : decode cX3_init 6 = .ok (.putfield 7, 3) := by decide +kernel
theorem dX3_init_9 : decode cX3_init 9 = .ok (.aload_n 0, 1) := by decide +kernel
theorem dX3_init_10 : decode cX3_init 10 = .ok (.iload_n 2, 1) := by decide +kernel
theorem dX3_init_11 : decode cX3_init 11 = .ok (.putfield 13, 3) := by decide +kernel
theorem dX3_init_14 : decode cX3_init 14 = .ok (.return_, 1) := by decide +kernel
set_option maxRecDepth 20000 in
theorem ggX4_init_Jx4a65c_init_da8c8 : GoodIn wsX4_init wsJx4a65c_init_da8c8 := goodIn_r _ [18, 19, 20, 21, 22, 23, 24, 25, 26, 27, 28, 29, 30, 2, 3, 94, 95, 96] (by decide +kernel) (by decide +kernel)
set_option maxRecDepth 20000 in
theorem gX4_init_Jx4a65c_init_da8c8 : GoodIn wsX4_init (wsJx4a65c_init_da8c8) := ggX4_init_Jx4a65c_init_da8c8
set_option maxRecDepth 20000 in
theorem ggX4_init_X2_init : GoodIn wsX4_init wsX2_init := goodIn_r _ [33, 34, 35, 36, 37, 38, 39, 40, 41, 2, 3, 42, 43, 98, 99, 100, 101, 102, 103, 104, 105, 106, 107, 108, 109, 110] (by decide +kernel) (by decide +kernel)
set_option maxRecDepth 20000 in
theorem gX4_init_X2_init : GoodIn wsX4_init (wsX2_init) := ggX4_init_X2_init
set_option maxRecDepth 20000 in
theorem ggX4_init_Jx4a65c_add_9ea2d : GoodIn wsX4_init wsJx4a65c_add_9ea2d := goodIn_r _ [47, 48, 49, 20, 50, 51, 52, 53, 6, 54, 55, 56, 57, 58, 59, 60, 61, 62, 19, 63, 64, 14, 65, 66, 67, 68, 69, 70, 71, 72, 73, 74, 75, 76, 77, 78, 79, 80, 81, 82, 83, 84, 85, 86, 87, 88, 89, 13, 15, 90, 91, 92, 93, 94, 95, 96] (by decide +kernel) (by decide +kernel)
set_option maxRecDepth 20000 in
theorem gX4_init_Jx4a65c_add_9ea2d : GoodIn wsX4_init (wsV RX4 31 RJx4a65c yJx4a65c_add_9ea2d wsJx4a65c_add_9ea2d) := goodIn_app (goodIn_of _ (by decide +kernel)) ggX4_init_Jx4a65c_add_9ea2d
theorem dX4_init_0 : decode cX4_init 0 = .ok (.aload_n 0, 1) := by decide +kernel
theorem dX4_init_1 : decode cX4_init 1 = .ok (.invokespecial 1, 3) := by decide +kernel
theorem dX4_init_4 : decode cX4_init 4 = .ok (.aload_n 0, 1) := by decide +kernel
theorem dX4_init_5 : decode cX4_init 5 = .ok (.new 7, 3) := by decide +kernel
theorem dX4_init_8 : decode cX4_init 8 = .ok (.dup, 1) := by decide +kernel
theorem dX4_init_9 : decode cX4_init 9 = .ok (.invokespecial 9, 3) := by decide +kernel
theorem dX4_init_12 : decode cX4_init 12 = .ok (.putfield 10, 3) := by decide +kernel
theorem dX4_init_15 : decode cX4_init 15 = .ok (.iconst 0, 1) := by decide +kernel
theorem dX4_init_16 : decode cX4_init 16 = .ok (.istore_n 1, 1) := by decide +kernel
theorem dX4_init_17 : decode cX4_init 17 = .ok (.iload_n 1, 1) := by decide +kernel
theorem dX4_init_18 : decode cX4_init 18 = .ok (.getstatic 16, 3) := by decide +kernel
theorem dX4_init_21 : decode cX4_init 21 = .ok (.arraylength, 1) := by decide +kernel
theorem dX4_init_22 : decode cX4_init 22 = .ok (.if_icmp .ge 39, 3) := by decide +kernel
theorem dX4_init_25 : decode cX4_init 25 = .ok (.getstatic 16, 3) := by decide +kernel
theorem dX4_init_28 : decode cX4_init 28 = .ok (.iload_n 1, 1) := by decide +kernel
theorem dX4_init_29 : decode cX4_init 29 = .ok (.iaload, 1) := by decide +kernel
theorem dX4_init_30 : decode cX4_init 30 = .ok (.istore_n 2, 1) := by decide +kernel
theorem dX4_init_31 : decode cX4_init 31 = .ok (.aload_n 0, 1) := by decide +kernel
theorem dX4_init_32 : decode cX4_init 32 = .ok (.getfield 10, 3) := by decide +kernel
theorem dX4_init_35 : decode cX4_init 35 = .ok (.new 20, 3) := by decide +kernel
theorem dX4_init_38 : decode cX4_init 38 = .ok (.dup, 1) := by decide +kernel
theorem dX4_init_39 : decode cX4_init 39 = .ok (.iconst 0, 1) := by decide +kernel
theorem dX4_init_40 : decode cX4_init 40 = .ok (.iconst (-1), 1) := by decide +kernel
theorem dX4_init_41 : decode cX4_init 41 = .ok (.iconst 0, 1) := by decide +kernel
theorem dX4_init_42 : decode cX4_init 42 = .ok (.iload_n 2, 1) := by decide +kernel
theorem dX4_init_43 : decode cX4_init 43 = .ok (.iload_n 2, 1) := by decide +kernel
theorem dX4_init_44 : decode cX4_init 44 = .ok (.iconst 4, 1) := by decide +kernel
theorem dX4_init_45 : decode cX4_init 45 = .ok (.invokestatic 22, 3) := by decide +kernel
theorem dX4_init_48 : decode cX4_init 48 = .ok (.invokespecial 28, 3) := by decide +kernel
theorem dX4_init_51 : decode cX4_init 51 = .ok (.invokevirtual 31, 3) := by decide +kernel
theorem dX4_init_54 : decode cX4_init 54 = .ok (.pop, 1) := by decide +kernel
theorem dX4_init_55 : decode cX4_init 55 = .ok (.iinc 1 1, 3) := by decide +kernel
theorem dX4_init_58 : decode cX4_init 58 = .ok (.goto (-41), 3) := by decide +kernel
theorem dX4_init_61 : decode cX4_init 61 = .ok (.return_, 1) := by decide +kernel
set_option maxRecDepth 20000 in
theorem ggX4_pointer_X4_typeAt : GoodIn wsX4_pointer wsX4_typeAt := goodIn_r _ [8, 9, 10, 11, 12, 13, 14, 15, 16, 17, 18, 19, 20, 21, 22, 23, 24, 25, 26, 27, 28, 29, 30, 31, 32, 33, 124, 125, 126, 127] (by decide +kernel) (by decide +kernel)
set_option maxRecDepth 20000 in
theorem gX4_pointer_X4_typeAt : GoodIn wsX4_pointer (wsV RX4 35 RX4 yX4_typeAt wsX4_typeAt) := goodIn_app (goodIn_of _ (by decide +kernel)) ggX4_pointer_X4_typeAt
set_option maxRecDepth 20000 in
theorem ggX4_pointer_X4_find : GoodIn wsX4_pointer wsX4_find := goodIn_r _ [37, 9, 38, 11, 12, 13, 14, 15, 16, 17, 18, 19, 20, 21, 22, 23, 24, 25, 26, 27, 28, 29, 30, 31, 32, 33, 39, 40, 41, 3, 42, 43, 44, 45, 124, 125, 126, 127, 119, 120, 121, 122, 123] (by decide +kernel) (by decide +kernel)
set_option maxRecDepth 20000 in
theorem gX4_pointer_X4_find : GoodIn wsX4_pointer (wsV RX4 39 RX4 yX4_find wsX4_find) := goodIn_app (goodIn_of _ (by decide +kernel)) ggX4_pointer_X4_find
set_option maxRecDepth 20000 in
theorem ggX4_pointer_X4_isFull : GoodIn wsX4_pointer wsX4_isFull := goodIn_r _ [49, 9, 11, 12, 13, 14, 15, 16, 124, 125, 126, 127] (by decide +kernel) (by decide +kernel)
set_option maxRecDepth 20000 in
theorem gX4_pointer_X4_isFull : GoodIn wsX4_pointer (wsV RX4 43 RX4 yX4_isFull wsX4_isFull) := goodIn_app (goodIn_of _ (by decide +kernel)) ggX4_pointer_X4_isFull
set_option maxRecDepth 20000 in
theorem ggX4_pointer_X2_init : GoodIn wsX4_pointer wsX2_init := goodIn_r _ [52, 43, 44, 45, 53, 54, 55, 56, 57, 58, 59, 60, 61, 119, 120, 121, 122, 123, 128, 129, 130, 131, 132, 133, 134, 135] (by decide +kernel) (by decide +kernel)
set_option maxRecDepth 20000 in
theorem gX4_pointer_X2_init : GoodIn wsX4_pointer (wsX2_init) := ggX4_pointer_X2_init
set_option maxRecDepth 20000 in
theorem ggX4_pointer_X4_enter : GoodIn wsX4_pointer wsX4_enter := goodIn_r _ [65, 9, 66, 67, 68, 14, 69, 70, 71, 33, 16, 72, 73, 74, 75, 76, 77, 78, 79, 80, 81, 82, 83, 84, 85, 86, 87, 88, 89, 90, 91, 92, 93, 94, 95, 96, 97, 98, 99, 100, 101, 102, 103, 104, 105, 106, 107, 108, 109, 110, 111, 112, 113, 114, 115, 116, 117, 118, 11, 12, 13, 15, 124, 125, 126, 127] (by decide +kernel) (by decide +kernel)
set_option maxRecDepth 20000 in
theorem gX4_pointer_X4_enter : GoodIn wsX4_pointer (wsV RX4 47 RX4 yX4_enter wsX4_enter) := goodIn_app (goodIn_of _ (by decide +kernel)) ggX4_pointer_X4_enter
theorem dX4_pointer_0 : decode cX4_pointer 0 = .ok (.aload_n 0, 1) := by decide +kernel
theorem dX4_pointer_1 : decode cX4_pointer 1 = .ok (.iload_n 1, 1) := by decide +kernel
theorem dX4_pointer_2 : decode cX4_pointer 2 = .ok (.invokevirtual 35, 3) := by decide +kernel
theorem dX4_pointer_5 : decode cX4_pointer 5 = .ok (.ifnonnull 5, 3) := by decide +kernel
theorem dX4_pointer_8 : decode cX4_pointer 8 = .ok (.iconst (-1), 1) := by decide +kernel
theorem dX4_pointer_9 : decode cX4_pointer 9 = .ok (.ireturn, 1) := by decide +kernel
theorem dX4_pointer_10 : decode cX4_pointer 10 = .ok (.aload_n 0, 1) := by decide +kernel
theorem dX4_pointer_11 : decode cX4_pointer 11 = .ok (.iconst 1, 1) := by decide +kernel
theorem dX4_pointer_12 : decode cX4_pointer 12 = .ok (.iload_n 1, 1) := by decide +kernel
theorem dX4_pointer_13 : decode cX4_pointer 13 = .ok (.iconst 0, 1) := by decide +kernel
theorem dX4_pointer_14 : decode cX4_pointer 14 = .ok (.invokevirtual 39, 3) := by decide +kernel
theorem dX4_pointer_17 : decode cX4_pointer 17 = .ok (.istore_n 2, 1) := by decide +kernel
theorem dX4_pointer_18 : decode cX4_pointer 18 = .ok (.iload_n 2, 1) := by decide +kernel
theorem dX4_pointer_19 : decode cX4_pointer 19 = .ok (.iconst (-1), 1) := by decide +kernel
theorem dX4_pointer_20 : decode cX4_pointer 20 = .ok (.if_icmp .eq 5, 3) := by decide +kernel
theorem dX4_pointer_23 : decode cX4_pointer 23 = .ok (.iload_n 2, 1) := by decide +kernel
theorem dX4_pointer_24 : decode cX4_pointer 24 = .ok (.ireturn, 1) := by decide +kernel
theorem dX4_pointer_25 : decode cX4_pointer 25 = .ok (.aload_n 0, 1) := by decide +kernel
theorem dX4_pointer_26 : decode cX4_pointer 26 = .ok (.invokevirtual 43, 3) := by decide +kernel
theorem dX4_pointer_29 : decode cX4_pointer 29 = .ok (.ifCond .eq 6, 3) := by decide +kernel
theorem dX4_pointer_32 : decode cX4_pointer 32 = .ok (.bipush (-2), 2) := by decide +kernel
theorem dX4_pointer_34 : decode cX4_pointer 34 = .ok (.ireturn, 1) := by decide +kernel
theorem dX4_pointer_35 : decode cX4_pointer 35 = .ok (.aload_n 0, 1) := by decide +kernel
theorem dX4_pointer_36 : decode cX4_pointer 36 = .ok (.new 20, 3) := by decide +kernel
theorem dX4_pointer_39 : decode cX4_pointer 39 = .ok (.dup, 1) := by decide +kernel
theorem dX4_pointer_40 : decode cX4_pointer 40 = .ok (.iconst 1, 1) := by decide +kernel
theorem dX4_pointer_41 : decode cX4_pointer 41 = .ok (.iload_n 1, 1) := by decide +kernel
theorem dX4_pointer_42 : decode cX4_pointer 42 = .ok (.iconst 0, 1) := by decide +kernel
theorem dX4_pointer_43 : decode cX4_pointer 43 = .ok (.iconst 4, 1) := by decide +kernel
theorem dX4_pointer_44 : decode cX4_pointer 44 = .ok (.iconst 4, 1) := by decide +kernel
theorem dX4_pointer_45 : decode cX4_pointer 45 = .ok (.invokespecial 28, 3) := by decide +kernel
theorem dX4_pointer_48 : decode cX4_pointer 48 = .ok (.invokevirtual 47, 3) := by decide +kernel
theorem dX4_pointer_51 : decode cX4_pointer 51 = .ok (.ireturn, 1) := by decide +kernel
set_option maxRecDepth 20000 in
theorem ggX4_array_X4_typeAt : GoodIn wsX4_array wsX4_typeAt := goodIn_r _ [12, 13, 14, 15, 16, 17, 18, 19, 20, 21, 22, 23, 24, 25, 26, 27, 28, 29, 30, 31, 32, 33, 34, 35, 36, 37, 136, 137, 138, 139] (by decide +kernel) (by decide +kernel)
set_option maxRecDepth 20000 in
theorem gX4_array_X4_typeAt : GoodIn wsX4_array (wsV RX4 35 RX4 yX4_typeAt wsX4_typeAt) := goodIn_app (goodIn_of _ (by decide +kernel)) ggX4_array_X4_typeAt
set_option maxRecDepth 20000 in
theorem ggX4_array_X4_find : GoodIn wsX4_array wsX4_find := goodIn_r _ [41, 13, 42, 15, 16, 17, 18, 19, 20, 21, 22, 23, 24, 25, 26, 27, 28, 29, 30, 31, 32, 33, 34, 35, 36, 37, 43, 44, 45, 6, 46, 47, 48, 49, 136, 137, 138, 139, 131, 132, 133, 134, 135] (by decide +kernel) (by decide +kernel)
set_option maxRecDepth 20000 in
theorem gX4_array_X4_find : GoodIn wsX4_array (wsV RX4 39 RX4 yX4_find wsX4_find) := goodIn_app (goodIn_of _ (by decide +kernel)) ggX4_array_X4_find
set_option maxRecDepth 20000 in
theorem ggX4_array_X4_isFull : GoodIn wsX4_array wsX4_isFull := goodIn_r _ [53, 13, 15, 16, 17, 18, 19, 20, 136, 137, 138, 139] (by decide +kernel) (by decide +kernel)
set_option maxRecDepth 20000 in
theorem gX4_array_X4_isFull : GoodIn wsX4_array (wsV RX4 43 RX4 yX4_isFull wsX4_isFull) := goodIn_app (goodIn_of _ (by decide +kernel)) ggX4_array_X4_isFull
set_option maxRecDepth 20000 in
theorem ggX4_array_X2_init : GoodIn wsX4_array wsX2_init := goodIn_r _ [56, 47, 48, 49, 57, 58, 59, 60, 61, 62, 63, 64, 65, 131, 132, 133, 134, 135, 123, 124, 125, 126, 127, 128, 129, 130] (by decide +kernel) (by decide +kernel)
set_option maxRecDepth 20000 in
theorem gX4_array_X2_init : GoodIn wsX4_array (wsX2_init) := ggX4_array_X2_init
set_option maxRecDepth 20000 in
theorem ggX4_array_X4_enter : GoodIn wsX4_array wsX4_enter := goodIn_r _ [69, 13, 70, 71, 72, 18, 73, 74, 75, 37, 20, 76, 77, 78, 79, 80, 81, 82, 83, 84, 85, 86, 87, 88, 89, 90, 91, 92, 93, 94, 95, 96, 97, 98, 99, 100, 101, 102, 103, 104, 105, 106, 107, 108, 109, 110, 111, 112, 113, 114, 115, 116, 117, 118, 119, 120, 121, 122, 15, 16, 17, 19, 136, 137, 138, 139] (by decide +kernel) (by decide +kernel)
set_option maxRecDepth 20000 in
theorem gX4_array_X4_enter : GoodIn wsX4_array (wsV RX4 47 RX4 yX4_enter wsX4_enter) := goodIn_app (goodIn_of _ (by decide +kernel)) ggX4_array_X4_enter
theorem dX4_array_0 : decode cX4_array 0 = .ok (.aload_n 0, 1) := by decide +kernel
theorem dX4_array_1 : decode cX4_array 1 = .ok (.iload_n 1, 1) := by decide +kernel
theorem dX4_array_2 : decode cX4_array 2 = .ok (.invokevirtual 35, 3) := by decide +kernel
theorem dX4_array_5 : decode cX4_array 5 = .ok (.astore_n 3, 1) := by decide +kernel
theorem dX4_array_6 : decode cX4_array 6 = .ok (.aload_n 3, 1) := by decide +kernel
theorem dX4_array_7 : decode cX4_array 7 = .ok (.ifnull 14, 3) := by decide +kernel
theorem dX4_array_10 : decode cX4_array 10 = .ok (.iload_n 2, 1) := by decide +kernel
theorem dX4_array_11 : decode cX4_array 11 = .ok (.iconst 1, 1) := by decide +kernel
theorem dX4_array_12 : decode cX4_array 12 = .ok (.if_icmp .lt 9, 3) := by decide +kernel
theorem dX4_array_15 : decode cX4_array 15 = .ok (.iload_n 2, 1) := by decide +kernel
theorem dX4_array_16 : decode cX4_array 16 = .ok (.ldc 51, 2) := by decide +kernel
theorem dX4_array_18 : decode cX4_array 18 = .ok (.if_icmp .le 5, 3) := by decide +kernel
theorem dX4_array_21 : decode cX4_array 21 = .ok (.iconst (-1), 1) := by decide +kernel
theorem dX4_array_22 : decode cX4_array 22 = .ok (.ireturn, 1) := by decide +kernel
theorem dX4_array_23 : decode cX4_array 23 = .ok (.aload_n 3, 1) := by decide +kernel
theorem dX4_array_24 : decode cX4_array 24 = .ok (.getfield 52, 3) := by decide +kernel
theorem dX4_array_27 : decode cX4_array 27 = .ok (.ifCond .ne 6, 3) := by decide +kernel
theorem dX4_array_30 : decode cX4_array 30 = .ok (.bipush (-2), 2) := by decide +kernel
theorem dX4_array_32 : decode cX4_array 32 = .ok (.ireturn, 1) := by decide +kernel
theorem dX4_array_33 : decode cX4_array 33 = .ok (.aload_n 3, 1) := by decide +kernel
theorem dX4_array_34 : decode cX4_array 34 = .ok (.getfield 52, 3) := by decide +kernel
theorem dX4_array_37 : decode cX4_array 37 = .ok (.i2l, 1) := by decide +kernel
theorem dX4_array_38 : decode cX4_array 38 = .ok (.iload_n 2, 1) := by decide +kernel
theorem dX4_array_39 : decode cX4_array 39 = .ok (.i2l, 1) := by decide +kernel
theorem dX4_array_40 : decode cX4_array 40 = .ok (.lmul, 1) := by decide +kernel
theorem dX4_array_41 : decode cX4_array 41 = .ok (.lstore 4, 2) := by decide +kernel
theorem dX4_array_43 : decode cX4_array 43 = .ok (.lload 4, 2) := by decide +kernel
theorem dX4_array_45 : decode cX4_array 45 = .ok (.ldc2_w 58, 3) := by decide +kernel
theorem dX4_array_48 : decode cX4_array 48 = .ok (.lcmp, 1) := by decide +kernel
theorem dX4_array_49 : decode cX4_array 49 = .ok (.ifCond .le 6, 3) := by decide +kernel
theorem dX4_array_52 : decode cX4_array 52 = .ok (.bipush (-3), 2) := by decide +kernel
theorem dX4_array_54 : decode cX4_array 54 = .ok (.ireturn, 1) := by decide +kernel
theorem dX4_array_55 : decode cX4_array 55 = .ok (.aload_n 0, 1) := by decide +kernel
theorem dX4_array_56 : decode cX4_array 56 = .ok (.iconst 2, 1) := by decide +kernel
theorem dX4_array_57 : decode cX4_array 57 = .ok (.iload_n 1, 1) := by decide +kernel
theorem dX4_array_58 : decode cX4_array 58 = .ok (.iload_n 2, 1) := by decide +kernel
theorem dX4_array_59 : decode cX4_array 59 = .ok (.invokevirtual 39, 3) := by decide +kernel
theorem dX4_array_62 : decode cX4_array 62 = .ok (.istore 6, 2) := by decide +kernel
theorem dX4_array_64 : decode cX4_array 64 = .ok (.iload 6, 2) := by decide +kernel
theorem dX4_array_66 : decode cX4_array 66 = .ok (.iconst (-1), 1) := by decide +kernel
theorem dX4_array_67 : decode cX4_array 67 = .ok (.if_icmp .eq 6, 3) := by decide +kernel
theorem dX4_array_70 : decode cX4_array 70 = .ok (.iload 6, 2) := by decide +kernel
theorem dX4_array_72 : decode cX4_array 72 = .ok (.ireturn, 1) := by decide +kernel
theorem dX4_array_73 : decode cX4_array 73 = .ok (.aload_n 0, 1) := by decide +kernel
theorem dX4_array_74 : decode cX4_array 74 = .ok (.invokevirtual 43, 3) := by decide +kernel
theorem dX4_array_77 : decode cX4_array 77 = .ok (.ifCond .eq 6, 3) := by decide +kernel
theorem dX4_array_80 : decode cX4_array 80 = .ok (.bipush (-4), 2) := by decide +kernel
theorem dX4_array_82 : decode cX4_array 82 = .ok (.ireturn, 1) := by decide +kernel
theorem dX4_array_83 : decode cX4_array 83 = .ok (.aload_n 0, 1) := by decide +kernel
theorem dX4_array_84 : decode cX4_array 84 = .ok (.new 20, 3) := by decide +kernel
theorem dX4_array_87 : decode cX4_array 87 = .ok (.dup, 1) := by decide +kernel
theorem dX4_array_88 : decode cX4_array 88 = .ok (.iconst 2, 1) := by decide +kernel
theorem dX4_array_89 : decode cX4_array 89 = .ok (.iload_n 1, 1) := by decide +kernel
theorem dX4_array_90 : decode cX4_array 90 = .ok (.iload_n 2, 1) := by decide +kernel
theorem dX4_array_91 : decode cX4_array 91 = .ok (.lload 4, 2) := by decide +kernel
theorem dX4_array_93 : decode cX4_array 93 = .ok (.l2i, 1) := by decide +kernel
theorem dX4_array_94 : decode cX4_array 94 = .ok (.aload_n 3, 1) := by decide +kernel
theorem dX4_array_95 : decode cX4_array 95 = .ok (.getfield 60, 3) := by decide +kernel
theorem dX4_array_98 : decode cX4_array 98 = .ok (.invokespecial 28, 3) := by decide +kernel
theorem dX4_array_101 : decode cX4_array 101 = .ok (.invokevirtual 47, 3) := by decide +kernel
theorem dX4_array_104 : decode cX4_array 104 = .ok (.ireturn, 1) := by decide +kernel
set_option maxRecDepth 20000 in
theorem ggX4_record_X4_isFull : GoodIn wsX4_record wsX4_isFull := goodIn_r _ [8, 9, 10, 11, 12, 13, 14, 15, 112, 113, 114, 115] (by decide +kernel) (by decide +kernel)
set_option maxRecDepth 20000 in
theorem gX4_record_X4_isFull : GoodIn wsX4_record (wsV RX4 43 RX4 yX4_isFull wsX4_isFull) := goodIn_app (goodIn_of _ (by decide +kernel)) ggX4_record_X4_isFull
set_option maxRecDepth 20000 in
theorem ggX4_record_X0_init : GoodIn wsX4_record wsX0_init := goodIn_r _ [18, 19, 20, 21, 13, 22, 23, 24, 25, 26, 27, 28, 29, 30, 31, 32, 33, 34, 35, 36, 37, 38, 39, 40, 41, 42, 43, 44, 45, 46, 47, 104, 105, 106, 107, 108, 109, 110, 111, 113, 114, 115, 116, 117, 118, 119, 120] (by decide +kernel) (by decide +kernel)
set_option maxRecDepth 20000 in
theorem gX4_record_X0_init : GoodIn wsX4_record (wsX0_init) := ggX4_record_X0_init
set_option maxRecDepth 20000 in
theorem ggX4_record_X4_enter : GoodIn wsX4_record wsX4_enter := goodIn_r _ [51, 9, 52, 53, 54, 13, 55, 56, 57, 37, 15, 58, 59, 60, 61, 62, 63, 64, 65, 66, 67, 68, 69, 36, 70, 71, 72, 73, 74, 75, 76, 77, 78, 79, 80, 81, 82, 83, 84, 85, 86, 87, 88, 89, 90, 91, 92, 93, 94, 95, 96, 97, 98, 99, 100, 101, 102, 103, 10, 11, 12, 14, 112, 113, 114, 115] (by decide +kernel) (by decide +kernel)
set_option maxRecDepth 20000 in
theorem gX4_record_X4_enter : GoodIn wsX4_record (wsV RX4 47 RX4 yX4_enter wsX4_enter) := goodIn_app (goodIn_of _ (by decide +kernel)) ggX4_record_X4_enter
theorem dX4_record_0 : decode cX4_record 0 = .ok (.iload_n 1, 1) := by decide +kernel
theorem dX4_record_1 : decode cX4_record 1 = .ok (.ifCond .eq 10, 3) := by decide +kernel
theorem dX4_record_4 : decode cX4_record 4 = .ok (.iload_n 1, 1) := by decide +kernel
theorem dX4_record_5 : decode cX4_record 5 = .ok (.iconst 1, 1) := by decide +kernel
theorem dX4_record_6 : decode cX4_record 6 = .ok (.if_icmp .eq 5, 3) := by decide +kernel
theorem dX4_record_9 : decode cX4_record 9 = .ok (.iconst (-1), 1) := by decide +kernel
theorem dX4_record_10 : decode cX4_record 10 = .ok (.ireturn, 1) := by decide +kernel
theorem dX4_record_11 : decode cX4_record 11 = .ok (.aload_n 0, 1) := by decide +kernel
theorem dX4_record_12 : decode cX4_record 12 = .ok (.invokevirtual 43, 3) := by decide +kernel
theorem dX4_record_15 : decode cX4_record 15 = .ok (.ifCond .eq 6, 3) := by decide +kernel
theorem dX4_record_18 : decode cX4_record 18 = .ok (.bipush (-2), 2) := by decide +kernel
theorem dX4_record_20 : decode cX4_record 20 = .ok (.ireturn, 1) := by decide +kernel
theorem dX4_record_21 : decode cX4_record 21 = .ok (.aload_n 0, 1) := by decide +kernel
theorem dX4_record_22 : decode cX4_record 22 = .ok (.new 63, 3) := by decide +kernel
theorem dX4_record_25 : decode cX4_record 25 = .ok (.dup, 1) := by decide +kernel
theorem dX4_record_26 : decode cX4_record 26 = .ok (.iload_n 1, 1) := by decide +kernel
theorem dX4_record_27 : decode cX4_record 27 = .ok (.iconst 1, 1) := by decide +kernel
theorem dX4_record_28 : decode cX4_record 28 = .ok (.if_icmp .ne 7, 3) := by decide +kernel
theorem dX4_record_31 : decode cX4_record 31 = .ok (.iconst 1, 1) := by decide +kernel
theorem dX4_record_32 : decode cX4_record 32 = .ok (.goto 4, 3) := by decide +kernel
theorem dX4_record_35 : decode cX4_record 35 = .ok (.iconst 0, 1) := by decide +kernel
theorem dX4_record_36 : decode cX4_record 36 = .ok (.invokespecial 65, 3) := by decide +kernel
theorem dX4_record_39 : decode cX4_record 39 = .ok (.invokevirtual 47, 3) := by decide +kernel
theorem dX4_record_42 : decode cX4_record 42 = .ok (.ireturn, 1) := by decide +kernel
set_option maxRecDepth 20000 in
theorem ggX4_field_X4_openRecordAt : GoodIn wsX4_field wsX4_openRecordAt := goodIn_r _ [11, 12, 13, 14, 10, 15, 16, 17, 18, 19, 20, 21, 22, 23, 24, 25, 26, 27, 28, 29, 30, 31, 32, 33, 34, 35, 36, 37, 38, 39, 40, 41, 42, 43, 44, 45, 140, 141, 142, 143, 144, 145, 146, 147, 157, 158, 159, 160] (by decide +kernel) (by decide +kernel)
set_option maxRecDepth 20000 in
theorem gX4_field_X4_openRecordAt : GoodIn wsX4_field (wsV RX4 68 RX4 yX4_openRecordAt wsX4_openRecordAt) := goodIn_app (goodIn_of _ (by decide +kernel)) ggX4_field_X4_openRecordAt
set_option maxRecDepth 20000 in
theorem ggX4_field_X4_typeAt : GoodIn wsX4_field wsX4_typeAt := goodIn_r _ [20, 21, 22, 23, 24, 25, 26, 27, 28, 29, 30, 31, 32, 33, 34, 35, 36, 37, 38, 39, 40, 41, 42, 43, 44, 45, 157, 158, 159, 160] (by decide +kernel) (by decide +kernel)
set_option maxRecDepth 20000 in
theorem gX4_field_X4_typeAt : GoodIn wsX4_field (wsV RX4 35 RX4 yX4_typeAt wsX4_typeAt) := goodIn_app (goodIn_of _ (by decide +kernel)) ggX4_field_X4_typeAt
set_option maxRecDepth 20000 in
theorem ggX4_field_X0_hasAllMembers : GoodIn wsX4_field wsX0_hasAllMembers := goodIn_r _ [50, 51, 52, 24, 25, 26, 27, 28, 140, 141, 142, 143, 144, 145, 146, 147, 158, 159, 160] (by decide +kernel) (by decide +kernel)
set_option maxRecDepth 20000 in
theorem gX4_field_X0_hasAllMembers : GoodIn wsX4_field (wsV RX4 72 RX0 yX0_hasAllMembers wsX0_hasAllMembers) := goodIn_app (goodIn_of _ (by decide +kernel)) ggX4_field_X0_hasAllMembers
set_option maxRecDepth 20000 in
theorem ggX4_field_X0_placeFor : GoodIn wsX4_field wsX0_placeFor := goodIn_r _ [56, 57, 58, 59, 10, 60, 140, 141, 142, 143, 144, 145, 146, 147] (by decide +kernel) (by decide +kernel)
set_option maxRecDepth 20000 in
theorem gX4_field_X0_placeFor : GoodIn wsX4_field (wsV RX4 75 RX0 yX0_placeFor wsX0_placeFor) := goodIn_app (goodIn_of _ (by decide +kernel)) ggX4_field_X0_placeFor
set_option maxRecDepth 20000 in
theorem ggX4_field_X0_endUnit : GoodIn wsX4_field wsX0_endUnit := goodIn_r _ [64, 65, 140, 141, 142, 143, 144, 145, 146, 147] (by decide +kernel) (by decide +kernel)
set_option maxRecDepth 20000 in
theorem gX4_field_X0_endUnit : GoodIn wsX4_field (wsV RX4 79 RX0 yX0_endUnit wsX0_endUnit) := goodIn_app (goodIn_of _ (by decide +kernel)) ggX4_field_X0_endUnit
set_option maxRecDepth 20000 in
theorem ggX4_field_X0_occupy : GoodIn wsX4_field wsX0_occupy := goodIn_r _ [69, 58, 70, 71, 72, 73, 74, 75, 140, 141, 142, 143, 144, 145, 146, 147, 148, 149, 150, 151, 152] (by decide +kernel) (by decide +kernel)
set_option maxRecDepth 20000 in
theorem gX4_field_X0_occupy : GoodIn wsX4_field (wsV RX4 82 RX0 yX0_occupy wsX0_occupy) := goodIn_app (goodIn_of _ (by decide +kernel)) ggX4_field_X0_occupy
set_option maxRecDepth 20000 in
theorem ggX4_field_X1_init : GoodIn wsX4_field wsX1_init := goodIn_r _ [78, 79, 80, 81, 82, 83, 84, 85, 153, 154, 155, 156] (by decide +kernel) (by decide +kernel)
set_option maxRecDepth 20000 in
theorem gX4_field_X1_init : GoodIn wsX4_field (wsX1_init) := ggX4_field_X1_init
set_option maxRecDepth 20000 in
theorem ggX4_field_X0_enter : GoodIn wsX4_field wsX0_enter := goodIn_r _ [89, 51, 90, 91, 92, 26, 93, 94, 95, 45, 28, 96, 97, 98, 99, 100, 101, 102, 103, 104, 105, 106, 107, 108, 109, 71, 72, 73, 110, 111, 112, 113, 114, 115, 116, 117, 118, 119, 120, 121, 122, 123, 124, 125, 126, 127, 128, 129, 130, 131, 132, 133, 134, 135, 136, 137, 138, 139, 52, 24, 25, 27, 140, 141, 142, 143, 144, 145, 146, 147, 158, 159, 160] (by decide +kernel) (by decide +kernel)
set_option maxRecDepth 20000 in
theorem gX4_field_X0_enter : GoodIn wsX4_field (wsV RX4 91 RX0 yX0_enter wsX0_enter) := goodIn_app (goodIn_of _ (by decide +kernel)) ggX4_field_X0_enter
theorem dX4_field_0 : decode cX4_field 0 = .ok (.aload_n 0, 1) := by decide +kernel
theorem dX4_field_1 : decode cX4_field 1 = .ok (.iload_n 1, 1) := by decide +kernel
theorem dX4_field_2 : decode cX4_field 2 = .ok (.invokevirtual 68, 3) := by decide +kernel
theorem dX4_field_5 : decode cX4_field 5 = .ok (.astore_n 3, 1) := by decide +kernel
theorem dX4_field_6 : decode cX4_field 6 = .ok (.aload_n 0, 1) := by decide +kernel
theorem dX4_field_7 : decode cX4_field 7 = .ok (.iload_n 2, 1) := by decide +kernel
theorem dX4_field_8 : decode cX4_field 8 = .ok (.invokevirtual 35, 3) := by decide +kernel
theorem dX4_field_11 : decode cX4_field 11 = .ok (.astore 4, 2) := by decide +kernel
theorem dX4_field_13 : decode cX4_field 13 = .ok (.aload_n 3, 1) := by decide +kernel
theorem dX4_field_14 : decode cX4_field 14 = .ok (.ifnull 8, 3) := by decide +kernel
theorem dX4_field_17 : decode cX4_field 17 = .ok (.aload 4, 2) := by decide +kernel
theorem dX4_field_19 : decode cX4_field 19 = .ok (.ifnonnull 5, 3) := by decide +kernel
theorem dX4_field_22 : decode cX4_field 22 = .ok (.iconst (-1), 1) := by decide +kernel
theorem dX4_field_23 : decode cX4_field 23 = .ok (.ireturn, 1) := by decide +kernel
theorem dX4_field_24 : decode cX4_field 24 = .ok (.aload 4, 2) := by decide +kernel
theorem dX4_field_26 : decode cX4_field 26 = .ok (.getfield 52, 3) := by decide +kernel
theorem dX4_field_29 : decode cX4_field 29 = .ok (.ifCond .ne 6, 3) := by decide +kernel
theorem dX4_field_32 : decode cX4_field 32 = .ok (.bipush (-2), 2) := by decide +kernel
theorem dX4_field_34 : decode cX4_field 34 = .ok (.ireturn, 1) := by decide +kernel
theorem dX4_field_35 : decode cX4_field 35 = .ok (.aload_n 3, 1) := by decide +kernel
theorem dX4_field_36 : decode cX4_field 36 = .ok (.invokevirtual 72, 3) := by decide +kernel
theorem dX4_field_39 : decode cX4_field 39 = .ok (.ifCond .eq 6, 3) := by decide +kernel
theorem dX4_field_42 : decode cX4_field 42 = .ok (.bipush (-3), 2) := by decide +kernel
theorem dX4_field_44 : decode cX4_field 44 = .ok (.ireturn, 1) := by decide +kernel
theorem dX4_field_45 : decode cX4_field 45 = .ok (.aload_n 3, 1) := by decide +kernel
theorem dX4_field_46 : decode cX4_field 46 = .ok (.aload 4, 2) := by decide +kernel
theorem dX4_field_48 : decode cX4_field 48 = .ok (.getfield 60, 3) := by decide +kernel
theorem dX4_field_51 : decode cX4_field 51 = .ok (.invokevirtual 75, 3) := by decide +kernel
theorem dX4_field_54 : decode cX4_field 54 = .ok (.istore 5, 2) := by decide +kernel
theorem dX4_field_56 : decode cX4_field 56 = .ok (.iload 5, 2) := by decide +kernel
theorem dX4_field_58 : decode cX4_field 58 = .ok (.aload 4, 2) := by decide +kernel
theorem dX4_field_60 : decode cX4_field 60 = .ok (.getfield 52, 3) := by decide +kernel
theorem dX4_field_63 : decode cX4_field 63 = .ok (.iadd, 1) := by decide +kernel
theorem dX4_field_64 : decode cX4_field 64 = .ok (.ldc 51, 2) := by decide +kernel
theorem dX4_field_66 : decode cX4_field 66 = .ok (.if_icmp .le 6, 3) := by decide +kernel
theorem dX4_field_69 : decode cX4_field 69 = .ok (.bipush (-4), 2) := by decide +kernel
theorem dX4_field_71 : decode cX4_field 71 = .ok (.ireturn, 1) := by decide +kernel
theorem dX4_field_72 : decode cX4_field 72 = .ok (.aload_n 3, 1) := by decide +kernel
theorem dX4_field_73 : decode cX4_field 73 = .ok (.invokevirtual 79, 3) := by decide +kernel
theorem dX4_field_76 : decode cX4_field 76 = .ok (.aload_n 3, 1) := by decide +kernel
theorem dX4_field_77 : decode cX4_field 77 = .ok (.iload 5, 2) := by decide +kernel
