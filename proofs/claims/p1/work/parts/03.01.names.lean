theorem dX0_enter_58 : decode cX0_enter 58 = .ok (.aload_n 0, 1) := by decide +kernel
theorem dX0_enter_59 : decode cX0_enter 59 = .ok (.getfield 59, 3) := by decide +kernel
theorem dX0_enter_62 : decode cX0_enter 62 = .ok (.iload 4, 2) := by decide +kernel
theorem dX0_enter_64 : decode cX0_enter 64 = .ok (.iastore, 1) := by decide +kernel
theorem dX0_enter_65 : decode cX0_enter 65 = .ok (.aload_n 0, 1) := by decide +kernel
theorem dX0_enter_66 : decode cX0_enter 66 = .ok (.getfield 34, 3) := by decide +kernel
theorem dX0_enter_69 : decode cX0_enter 69 = .ok (.aload_n 0, 1) := by decide +kernel
theorem dX0_enter_70 : decode cX0_enter 70 = .ok (.getfield 59, 3) := by decide +kernel
theorem dX0_enter_73 : decode cX0_enter 73 = .ok (.iload 4, 2) := by decide +kernel
theorem dX0_enter_75 : decode cX0_enter 75 = .ok (.iastore, 1) := by decide +kernel
theorem dX0_enter_76 : decode cX0_enter 76 = .ok (.aload_n 0, 1) := by decide +kernel
theorem dX0_enter_77 : decode cX0_enter 77 = .ok (.dup, 1) := by decide +kernel
theorem dX0_enter_78 : decode cX0_enter 78 = .ok (.getfield 59, 3) := by decide +kernel
theorem dX0_enter_81 : decode cX0_enter 81 = .ok (.dup_x1, 1) := by decide +kernel
theorem dX0_enter_82 : decode cX0_enter 82 = .ok (.iconst 1, 1) := by decide +kernel
theorem dX0_enter_83 : decode cX0_enter 83 = .ok (.iadd, 1) := by decide +kernel
theorem dX0_enter_84 : decode cX0_enter 84 = .ok (.putfield 59, 3) := by decide +kernel
theorem dX0_enter_87 : decode cX0_enter 87 = .ok (.ireturn, 1) := by decide +kernel
set_option maxRecDepth 20000 in
theorem ggX0_canSwitchToMore_X0_isSwitch : GoodIn wsX0_canSwitchToMore wsX0_isSwitch := goodIn_r _ [8] (by decide +kernel) (by decide +kernel)
set_option maxRecDepth 20000 in
theorem gX0_canSwitchToMore_X0_isSwitch : GoodIn wsX0_canSwitchToMore (va_wsS RX0 65 yX0_isSwitch wsX0_isSwitch) := goodIn_app (goodIn_of _ (by decide +kernel)) ggX0_canSwitchToMore_X0_isSwitch
theorem dX0_canSwitchToMore_0 : decode cX0_canSwitchToMore 0 = .ok (.aload_n 0, 1) := by decide +kernel
theorem dX0_canSwitchToMore_1 : decode cX0_canSwitchToMore 1 = .ok (.getfield 59, 3) := by decide +kernel
theorem dX0_canSwitchToMore_4 : decode cX0_canSwitchToMore 4 = .ok (.iconst 1, 1) := by decide +kernel
theorem dX0_canSwitchToMore_5 : decode cX0_canSwitchToMore 5 = .ok (.isub, 1) := by decide +kernel
theorem dX0_canSwitchToMore_6 : decode cX0_canSwitchToMore 6 = .ok (.istore_n 1, 1) := by decide +kernel
theorem dX0_canSwitchToMore_7 : decode cX0_canSwitchToMore 7 = .ok (.iload_n 1, 1) := by decide +kernel
theorem dX0_canSwitchToMore_8 : decode cX0_canSwitchToMore 8 = .ok (.ifCond .lt 37, 3) := by decide +kernel
theorem dX0_canSwitchToMore_11 : decode cX0_canSwitchToMore 11 = .ok (.aload_n 0, 1) := by decide +kernel
theorem dX0_canSwitchToMore_12 : decode cX0_canSwitchToMore 12 = .ok (.getfield 19, 3) := by decide +kernel
theorem dX0_canSwitchToMore_15 : decode cX0_canSwitchToMore 15 = .ok (.iload_n 1, 1) := by decide +kernel
theorem dX0_canSwitchToMore_16 : decode cX0_canSwitchToMore 16 = .ok (.iaload, 1) := by decide +kernel
theorem dX0_canSwitchToMore_17 : decode cX0_canSwitchToMore 17 = .ok (.invokestatic 65, 3) := by decide +kernel
theorem dX0_canSwitchToMore_20 : decode cX0_canSwitchToMore 20 = .ok (.ifCond .eq 25, 3) := by decide +kernel
theorem dX0_canSwitchToMore_23 : decode cX0_canSwitchToMore 23 = .ok (.aload_n 0, 1) := by decide +kernel
theorem dX0_canSwitchToMore_24 : decode cX0_canSwitchToMore 24 = .ok (.getfield 34, 3) := by decide +kernel
theorem dX0_canSwitchToMore_27 : decode cX0_canSwitchToMore 27 = .ok (.iload_n 1, 1) := by decide +kernel
theorem dX0_canSwitchToMore_28 : decode cX0_canSwitchToMore 28 = .ok (.iaload, 1) := by decide +kernel
theorem dX0_canSwitchToMore_29 : decode cX0_canSwitchToMore 29 = .ok (.aload_n 0, 1) := by decide +kernel
theorem dX0_canSwitchToMore_30 : decode cX0_canSwitchToMore 30 = .ok (.getfield 31, 3) := by decide +kernel
theorem dX0_canSwitchToMore_33 : decode cX0_canSwitchToMore 33 = .ok (.iload_n 1, 1) := by decide +kernel
theorem dX0_canSwitchToMore_34 : decode cX0_canSwitchToMore 34 = .ok (.iaload, 1) := by decide +kernel
theorem dX0_canSwitchToMore_35 : decode cX0_canSwitchToMore 35 = .ok (.isub, 1) := by decide +kernel
theorem dX0_canSwitchToMore_36 : decode cX0_canSwitchToMore 36 = .ok (.bipush 50, 2) := by decide +kernel
theorem dX0_canSwitchToMore_38 : decode cX0_canSwitchToMore 38 = .ok (.if_icmp .ge 7, 3) := by decide +kernel
theorem dX0_canSwitchToMore_41 : decode cX0_canSwitchToMore 41 = .ok (.iconst 1, 1) := by decide +kernel
theorem dX0_canSwitchToMore_42 : decode cX0_canSwitchToMore 42 = .ok (.goto 4, 3) := by decide +kernel
theorem dX0_canSwitchToMore_45 : decode cX0_canSwitchToMore 45 = .ok (.iconst 0, 1) := by decide +kernel
theorem dX0_canSwitchToMore_46 : decode cX0_canSwitchToMore 46 = .ok (.ireturn, 1) := by decide +kernel
theorem dX0_enterRow_0 : decode cX0_enterRow 0 = .ok (.iconst 4, 1) := by decide +kernel
theorem dX0_enterRow_1 : decode cX0_enterRow 1 = .ok (.aload_n 0, 1) := by decide +kernel
theorem dX0_enterRow_2 : decode cX0_enterRow 2 = .ok (.getfield 62, 3) := by decide +kernel
theorem dX0_enterRow_5 : decode cX0_enterRow 5 = .ok (.imul, 1) := by decide +kernel
theorem dX0_enterRow_6 : decode cX0_enterRow 6 = .ok (.istore 5, 2) := by decide +kernel
theorem dX0_enterRow_8 : decode cX0_enterRow 8 = .ok (.aload_n 0, 1) := by decide +kernel
theorem dX0_enterRow_9 : decode cX0_enterRow 9 = .ok (.getfield 37, 3) := by decide +kernel
theorem dX0_enterRow_12 : decode cX0_enterRow 12 = .ok (.iload 5, 2) := by decide +kernel
theorem dX0_enterRow_14 : decode cX0_enterRow 14 = .ok (.iload_n 1, 1) := by decide +kernel
theorem dX0_enterRow_15 : decode cX0_enterRow 15 = .ok (.iastore, 1) := by decide +kernel
theorem dX0_enterRow_16 : decode cX0_enterRow 16 = .ok (.aload_n 0, 1) := by decide +kernel
theorem dX0_enterRow_17 : decode cX0_enterRow 17 = .ok (.getfield 37, 3) := by decide +kernel
theorem dX0_enterRow_20 : decode cX0_enterRow 20 = .ok (.iload 5, 2) := by decide +kernel
theorem dX0_enterRow_22 : decode cX0_enterRow 22 = .ok (.iconst 1, 1) := by decide +kernel
theorem dX0_enterRow_23 : decode cX0_enterRow 23 = .ok (.iadd, 1) := by decide +kernel
theorem dX0_enterRow_24 : decode cX0_enterRow 24 = .ok (.iload_n 2, 1) := by decide +kernel
theorem dX0_enterRow_25 : decode cX0_enterRow 25 = .ok (.iastore, 1) := by decide +kernel
theorem dX0_enterRow_26 : decode cX0_enterRow 26 = .ok (.aload_n 0, 1) := by decide +kernel
theorem dX0_enterRow_27 : decode cX0_enterRow 27 = .ok (.getfield 37, 3) := by decide +kernel
theorem dX0_enterRow_30 : decode cX0_enterRow 30 = .ok (.iload 5, 2) := by decide +kernel
theorem dX0_enterRow_32 : decode cX0_enterRow 32 = .ok (.iconst 2, 1) := by decide +kernel
theorem dX0_enterRow_33 : decode cX0_enterRow 33 = .ok (.iadd, 1) := by decide +kernel
theorem dX0_enterRow_34 : decode cX0_enterRow 34 = .ok (.iload_n 3, 1) := by decide +kernel
theorem dX0_enterRow_35 : decode cX0_enterRow 35 = .ok (.iastore, 1) := by decide +kernel
theorem dX0_enterRow_36 : decode cX0_enterRow 36 = .ok (.aload_n 0, 1) := by decide +kernel
theorem dX0_enterRow_37 : decode cX0_enterRow 37 = .ok (.getfield 37, 3) := by decide +kernel
theorem dX0_enterRow_40 : decode cX0_enterRow 40 = .ok (.iload 5, 2) := by decide +kernel
theorem dX0_enterRow_42 : decode cX0_enterRow 42 = .ok (.iconst 3, 1) := by decide +kernel
theorem dX0_enterRow_43 : decode cX0_enterRow 43 = .ok (.iadd, 1) := by decide +kernel
theorem dX0_enterRow_44 : decode cX0_enterRow 44 = .ok (.iload 4, 2) := by decide +kernel
theorem dX0_enterRow_46 : decode cX0_enterRow 46 = .ok (.iastore, 1) := by decide +kernel
theorem dX0_enterRow_47 : decode cX0_enterRow 47 = .ok (.aload_n 0, 1) := by decide +kernel
theorem dX0_enterRow_48 : decode cX0_enterRow 48 = .ok (.dup, 1) := by decide +kernel
theorem dX0_enterRow_49 : decode cX0_enterRow 49 = .ok (.getfield 62, 3) := by decide +kernel
theorem dX0_enterRow_52 : decode cX0_enterRow 52 = .ok (.iconst 1, 1) := by decide +kernel
theorem dX0_enterRow_53 : decode cX0_enterRow 53 = .ok (.iadd, 1) := by decide +kernel
theorem dX0_enterRow_54 : decode cX0_enterRow 54 = .ok (.putfield 62, 3) := by decide +kernel
theorem dX0_enterRow_57 : decode cX0_enterRow 57 = .ok (.aload_n 0, 1) := by decide +kernel
theorem dX0_enterRow_58 : decode cX0_enterRow 58 = .ok (.getfield 62, 3) := by decide +kernel
theorem dX0_enterRow_61 : decode cX0_enterRow 61 = .ok (.ireturn, 1) := by decide +kernel
theorem dX0_isOpcode_0 : decode cX0_isOpcode 0 = .ok (.iload_n 0, 1) := by decide +kernel
theorem dX0_isOpcode_1 : decode cX0_isOpcode 1 = .ok (.ifCond .lt 9, 3) := by decide +kernel
theorem dX0_isOpcode_4 : decode cX0_isOpcode 4 = .ok (.iload_n 0, 1) := by decide +kernel
theorem dX0_isOpcode_5 : decode cX0_isOpcode 5 = .ok (.bipush 18, 2) := by decide +kernel
theorem dX0_isOpcode_7 : decode cX0_isOpcode 7 = .ok (.if_icmp .le 54, 3) := by decide +kernel
theorem dX0_isOpcode_10 : decode cX0_isOpcode 10 = .ok (.iload_n 0, 1) := by decide +kernel
theorem dX0_isOpcode_11 : decode cX0_isOpcode 11 = .ok (.bipush 20, 2) := by decide +kernel
theorem dX0_isOpcode_13 : decode cX0_isOpcode 13 = .ok (.if_icmp .lt 9, 3) := by decide +kernel
theorem dX0_isOpcode_16 : decode cX0_isOpcode 16 = .ok (.iload_n 0, 1) := by decide +kernel
theorem dX0_isOpcode_17 : decode cX0_isOpcode 17 = .ok (.bipush 25, 2) := by decide +kernel
theorem dX0_isOpcode_19 : decode cX0_isOpcode 19 = .ok (.if_icmp .le 42, 3) := by decide +kernel
theorem dX0_isOpcode_22 : decode cX0_isOpcode 22 = .ok (.iload_n 0, 1) := by decide +kernel
theorem dX0_isOpcode_23 : decode cX0_isOpcode 23 = .ok (.bipush 46, 2) := by decide +kernel
theorem dX0_isOpcode_25 : decode cX0_isOpcode 25 = .ok (.if_icmp .lt 9, 3) := by decide +kernel
theorem dX0_isOpcode_28 : decode cX0_isOpcode 28 = .ok (.iload_n 0, 1) := by decide +kernel
theorem dX0_isOpcode_29 : decode cX0_isOpcode 29 = .ok (.bipush 58, 2) := by decide +kernel
theorem dX0_isOpcode_31 : decode cX0_isOpcode 31 = .ok (.if_icmp .le 30, 3) := by decide +kernel
theorem dX0_isOpcode_34 : decode cX0_isOpcode 34 = .ok (.iload_n 0, 1) := by decide +kernel
theorem dX0_isOpcode_35 : decode cX0_isOpcode 35 = .ok (.bipush 79, 2) := by decide +kernel
theorem dX0_isOpcode_37 : decode cX0_isOpcode 37 = .ok (.if_icmp .lt 10, 3) := by decide +kernel
theorem dX0_isOpcode_40 : decode cX0_isOpcode 40 = .ok (.iload_n 0, 1) := by decide +kernel
theorem dX0_isOpcode_41 : decode cX0_isOpcode 41 = .ok (.sipush 195, 3) := by decide +kernel
theorem dX0_isOpcode_44 : decode cX0_isOpcode 44 = .ok (.if_icmp .le 17, 3) := by decide +kernel
theorem dX0_isOpcode_47 : decode cX0_isOpcode 47 = .ok (.iload_n 0, 1) := by decide +kernel
theorem dX0_isOpcode_48 : decode cX0_isOpcode 48 = .ok (.sipush 197, 3) := by decide +kernel
theorem dX0_isOpcode_51 : decode cX0_isOpcode 51 = .ok (.if_icmp .lt 14, 3) := by decide +kernel
theorem dX0_isOpcode_54 : decode cX0_isOpcode 54 = .ok (.iload_n 0, 1) := by decide +kernel
theorem dX0_isOpcode_55 : decode cX0_isOpcode 55 = .ok (.sipush 199, 3) := by decide +kernel
theorem dX0_isOpcode_58 : decode cX0_isOpcode 58 = .ok (.if_icmp .gt 7, 3) := by decide +kernel
theorem dX0_isOpcode_61 : decode cX0_isOpcode 61 = .ok (.iconst 1, 1) := by decide +kernel
theorem dX0_isOpcode_62 : decode cX0_isOpcode 62 = .ok (.goto 4, 3) := by decide +kernel
theorem dX0_isOpcode_65 : decode cX0_isOpcode 65 = .ok (.iconst 0, 1) := by decide +kernel
theorem dX0_isOpcode_66 : decode cX0_isOpcode 66 = .ok (.ireturn, 1) := by decide +kernel
theorem dX0_isOfLocal_0 : decode cX0_isOfLocal 0 = .ok (.iload_n 0, 1) := by decide +kernel
theorem dX0_isOfLocal_1 : decode cX0_isOfLocal 1 = .ok (.bipush 21, 2) := by decide +kernel
theorem dX0_isOfLocal_3 : decode cX0_isOfLocal 3 = .ok (.if_icmp .lt 9, 3) := by decide +kernel
theorem dX0_isOfLocal_6 : decode cX0_isOfLocal 6 = .ok (.iload_n 0, 1) := by decide +kernel
theorem dX0_isOfLocal_7 : decode cX0_isOfLocal 7 = .ok (.bipush 25, 2) := by decide +kernel
theorem dX0_isOfLocal_9 : decode cX0_isOfLocal 9 = .ok (.if_icmp .le 29, 3) := by decide +kernel
theorem dX0_isOfLocal_12 : decode cX0_isOfLocal 12 = .ok (.iload_n 0, 1) := by decide +kernel
theorem dX0_isOfLocal_13 : decode cX0_isOfLocal 13 = .ok (.bipush 54, 2) := by decide +kernel
theorem dX0_isOfLocal_15 : decode cX0_isOfLocal 15 = .ok (.if_icmp .lt 9, 3) := by decide +kernel
theorem dX0_isOfLocal_18 : decode cX0_isOfLocal 18 = .ok (.iload_n 0, 1) := by decide +kernel
theorem dX0_isOfLocal_19 : decode cX0_isOfLocal 19 = .ok (.bipush 58, 2) := by decide +kernel
theorem dX0_isOfLocal_21 : decode cX0_isOfLocal 21 = .ok (.if_icmp .le 17, 3) := by decide +kernel
theorem dX0_isOfLocal_24 : decode cX0_isOfLocal 24 = .ok (.iload_n 0, 1) := by decide +kernel
theorem dX0_isOfLocal_25 : decode cX0_isOfLocal 25 = .ok (.sipush 132, 3) := by decide +kernel
theorem dX0_isOfLocal_28 : decode cX0_isOfLocal 28 = .ok (.if_icmp .eq 10, 3) := by decide +kernel
theorem dX0_isOfLocal_31 : decode cX0_isOfLocal 31 = .ok (.iload_n 0, 1) := by decide +kernel
theorem dX0_isOfLocal_32 : decode cX0_isOfLocal 32 = .ok (.sipush 169, 3) := by decide +kernel
theorem dX0_isOfLocal_35 : decode cX0_isOfLocal 35 = .ok (.if_icmp .ne 7, 3) := by decide +kernel
theorem dX0_isOfLocal_38 : decode cX0_isOfLocal 38 = .ok (.iconst 1, 1) := by decide +kernel
theorem dX0_isOfLocal_39 : decode cX0_isOfLocal 39 = .ok (.goto 4, 3) := by decide +kernel
theorem dX0_isOfLocal_42 : decode cX0_isOfLocal 42 = .ok (.iconst 0, 1) := by decide +kernel
theorem dX0_isOfLocal_43 : decode cX0_isOfLocal 43 = .ok (.ireturn, 1) := by decide +kernel
theorem dX0_isJump_0 : decode cX0_isJump 0 = .ok (.iload_n 0, 1) := by decide +kernel
theorem dX0_isJump_1 : decode cX0_isJump 1 = .ok (.sipush 153, 3) := by decide +kernel
theorem dX0_isJump_4 : decode cX0_isJump 4 = .ok (.if_icmp .lt 10, 3) := by decide +kernel
theorem dX0_isJump_7 : decode cX0_isJump 7 = .ok (.iload_n 0, 1) := by decide +kernel
theorem dX0_isJump_8 : decode cX0_isJump 8 = .ok (.sipush 168, 3) := by decide +kernel
theorem dX0_isJump_11 : decode cX0_isJump 11 = .ok (.if_icmp .le 17, 3) := by decide +kernel
theorem dX0_isJump_14 : decode cX0_isJump 14 = .ok (.iload_n 0, 1) := by decide +kernel
theorem dX0_isJump_15 : decode cX0_isJump 15 = .ok (.sipush 198, 3) := by decide +kernel
theorem dX0_isJump_18 : decode cX0_isJump 18 = .ok (.if_icmp .eq 10, 3) := by decide +kernel
theorem dX0_isJump_21 : decode cX0_isJump 21 = .ok (.iload_n 0, 1) := by decide +kernel
theorem dX0_isJump_22 : decode cX0_isJump 22 = .ok (.sipush 199, 3) := by decide +kernel
theorem dX0_isJump_25 : decode cX0_isJump 25 = .ok (.if_icmp .ne 7, 3) := by decide +kernel
theorem dX0_isJump_28 : decode cX0_isJump 28 = .ok (.iconst 1, 1) := by decide +kernel
theorem dX0_isJump_29 : decode cX0_isJump 29 = .ok (.goto 4, 3) := by decide +kernel
theorem dX0_isJump_32 : decode cX0_isJump 32 = .ok (.iconst 0, 1) := by decide +kernel
theorem dX0_isJump_33 : decode cX0_isJump 33 = .ok (.ireturn, 1) := by decide +kernel
theorem dX0_isSwitch_0 : decode cX0_isSwitch 0 = .ok (.iload_n 0, 1) := by decide +kernel
theorem dX0_isSwitch_1 : decode cX0_isSwitch 1 = .ok (.sipush 170, 3) := by decide +kernel
theorem dX0_isSwitch_4 : decode cX0_isSwitch 4 = .ok (.if_icmp .eq 10, 3) := by decide +kernel
theorem dX0_isSwitch_7 : decode cX0_isSwitch 7 = .ok (.iload_n 0, 1) := by decide +kernel
theorem dX0_isSwitch_8 : decode cX0_isSwitch 8 = .ok (.sipush 171, 3) := by decide +kernel
theorem dX0_isSwitch_11 : decode cX0_isSwitch 11 = .ok (.if_icmp .ne 7, 3) := by decide +kernel
theorem dX0_isSwitch_14 : decode cX0_isSwitch 14 = .ok (.iconst 1, 1) := by decide +kernel
theorem dX0_isSwitch_15 : decode cX0_isSwitch 15 = .ok (.goto 4, 3) := by decide +kernel
theorem dX0_isSwitch_18 : decode cX0_isSwitch 18 = .ok (.iconst 0, 1) := by decide +kernel
theorem dX0_isSwitch_19 : decode cX0_isSwitch 19 = .ok (.ireturn, 1) := by decide +kernel
theorem dX0_isSound_0 : decode cX0_isSound 0 = .ok (.aload_n 0, 1) := by decide +kernel
theorem dX0_isSound_1 : decode cX0_isSound 1 = .ok (.getfield 59, 3) := by decide +kernel
theorem dX0_isSound_4 : decode cX0_isSound 4 = .ok (.ifCond .le 18, 3) := by decide +kernel
theorem dX0_isSound_7 : decode cX0_isSound 7 = .ok (.aload_n 0, 1) := by decide +kernel
theorem dX0_isSound_8 : decode cX0_isSound 8 = .ok (.invokevirtual 75, 3) := by decide +kernel
theorem dX0_isSound_11 : decode cX0_isSound 11 = .ok (.aload_n 0, 1) := by decide +kernel
theorem dX0_isSound_12 : decode cX0_isSound 12 = .ok (.getfield 50, 3) := by decide +kernel
theorem dX0_isSound_15 : decode cX0_isSound 15 = .ok (.if_icmp .gt 7, 3) := by decide +kernel
theorem dX0_isSound_18 : decode cX0_isSound 18 = .ok (.iconst 1, 1) := by decide +kernel
theorem dX0_isSound_19 : decode cX0_isSound 19 = .ok (.goto 4, 3) := by decide +kernel
theorem dX0_isSound_22 : decode cX0_isSound 22 = .ok (.iconst 0, 1) := by decide +kernel
theorem dX0_isSound_23 : decode cX0_isSound 23 = .ok (.istore_n 1, 1) := by decide +kernel
theorem dX0_isSound_24 : decode cX0_isSound 24 = .ok (.iconst 0, 1) := by decide +kernel
theorem dX0_isSound_25 : decode cX0_isSound 25 = .ok (.istore_n 2, 1) := by decide +kernel
theorem dX0_isSound_26 : decode cX0_isSound 26 = .ok (.iload_n 2, 1) := by decide +kernel
theorem dX0_isSound_27 : decode cX0_isSound 27 = .ok (.aload_n 0, 1) := by decide +kernel
theorem dX0_isSound_28 : decode cX0_isSound 28 = .ok (.getfield 59, 3) := by decide +kernel
theorem dX0_isSound_31 : decode cX0_isSound 31 = .ok (.if_icmp .ge 19, 3) := by decide +kernel
theorem dX0_isSound_34 : decode cX0_isSound 34 = .ok (.iload_n 1, 1) := by decide +kernel
theorem dX0_isSound_35 : decode cX0_isSound 35 = .ok (.ifCond .eq 15, 3) := by decide +kernel
theorem dX0_isSound_38 : decode cX0_isSound 38 = .ok (.aload_n 0, 1) := by decide +kernel
theorem dX0_isSound_39 : decode cX0_isSound 39 = .ok (.iload_n 2, 1) := by decide +kernel
theorem dX0_isSound_40 : decode cX0_isSound 40 = .ok (.invokevirtual 79, 3) := by decide +kernel
theorem dX0_isSound_43 : decode cX0_isSound 43 = .ok (.istore_n 1, 1) := by decide +kernel
theorem dX0_isSound_44 : decode cX0_isSound 44 = .ok (.iinc 2 1, 3) := by decide +kernel
theorem dX0_isSound_47 : decode cX0_isSound 47 = .ok (.goto (-21), 3) := by decide +kernel
theorem dX0_isSound_50 : decode cX0_isSound 50 = .ok (.iconst 0, 1) := by decide +kernel
theorem dX0_isSound_51 : decode cX0_isSound 51 = .ok (.istore_n 2, 1) := by decide +kernel
theorem dX0_isSound_52 : decode cX0_isSound 52 = .ok (.iload_n 2, 1) := by decide +kernel
theorem dX0_isSound_53 : decode cX0_isSound 53 = .ok (.aload_n 0, 1) := by decide +kernel
theorem dX0_isSound_54 : decode cX0_isSound 54 = .ok (.getfield 62, 3) := by decide +kernel
theorem dX0_isSound_57 : decode cX0_isSound 57 = .ok (.if_icmp .ge 19, 3) := by decide +kernel
theorem dX0_isSound_60 : decode cX0_isSound 60 = .ok (.iload_n 1, 1) := by decide +kernel
theorem dX0_isSound_61 : decode cX0_isSound 61 = .ok (.ifCond .eq 15, 3) := by decide +kernel
theorem dX0_isSound_64 : decode cX0_isSound 64 = .ok (.aload_n 0, 1) := by decide +kernel
theorem dX0_isSound_65 : decode cX0_isSound 65 = .ok (.iload_n 2, 1) := by decide +kernel
theorem dX0_isSound_66 : decode cX0_isSound 66 = .ok (.invokevirtual 82, 3) := by decide +kernel
theorem dX0_isSound_69 : decode cX0_isSound 69 = .ok (.istore_n 1, 1) := by decide +kernel
theorem dX0_isSound_70 : decode cX0_isSound 70 = .ok (.iinc 2 1, 3) := by decide +kernel
theorem dX0_isSound_73 : decode cX0_isSound 73 = .ok (.goto (-21), 3) := by decide +kernel
theorem dX0_isSound_76 : decode cX0_isSound 76 = .ok (.iload_n 1, 1) := by decide +kernel
theorem dX0_isSound_77 : decode cX0_isSound 77 = .ok (.ireturn, 1) := by decide +kernel
theorem dX1_init_0 : decode cX1_init 0 = .ok (.aload_n 0, 1) := by decide +kernel
theorem dX1_init_1 : decode cX1_init 1 = .ok (.invokespecial 3, 3) := by decide +kernel
theorem dX1_init_4 : decode cX1_init 4 = .ok (.aload_n 0, 1) := by decide +kernel
theorem dX1_init_5 : decode cX1_init 5 = .ok (.bipush 16, 2) := by decide +kernel
theorem dX1_init_7 : decode cX1_init 7 = .ok (.newarray .int, 2) := by decide +kernel
theorem dX1_init_9 : decode cX1_init 9 = .ok (.putfield 9, 3) := by decide +kernel
theorem dX1_init_12 : decode cX1_init 12 = .ok (.aload_n 0, 1) := by decide +kernel
theorem dX1_init_13 : decode cX1_init 13 = .ok (.bipush 16, 2) := by decide +kernel
theorem dX1_init_15 : decode cX1_init 15 = .ok (.newarray .int, 2) := by decide +kernel
theorem dX1_init_17 : decode cX1_init 17 = .ok (.putfield 15, 3) := by decide +kernel
theorem dX1_init_20 : decode cX1_init 20 = .ok (.aload_n 0, 1) := by decide +kernel
theorem dX1_init_21 : decode cX1_init 21 = .ok (.bipush 16, 2) := by decide +kernel
theorem dX1_init_23 : decode cX1_init 23 = .ok (.newarray .int, 2) := by decide +kernel
theorem dX1_init_25 : decode cX1_init 25 = .ok (.putfield 18, 3) := by decide +kernel
theorem dX1_init_28 : decode cX1_init 28 = .ok (.aload_n 0, 1) := by decide +kernel
theorem dX1_init_29 : decode cX1_init 29 = .ok (.bipush 16, 2) := by decide +kernel
theorem dX1_init_31 : decode cX1_init 31 = .ok (.newarray .int, 2) := by decide +kernel
theorem dX1_init_33 : decode cX1_init 33 = .ok (.putfield 21, 3) := by decide +kernel
theorem dX1_init_36 : decode cX1_init 36 = .ok (.aload_n 0, 1) := by decide +kernel
theorem dX1_init_37 : decode cX1_init 37 = .ok (.bipush 16, 2) := by decide +kernel
theorem dX1_init_39 : decode cX1_init 39 = .ok (.newarray .int, 2) := by decide +kernel
theorem dX1_init_41 : decode cX1_init 41 = .ok (.putfield 24, 3) := by decide +kernel
theorem dX1_init_44 : decode cX1_init 44 = .ok (.aload_n 0, 1) := by decide +kernel
theorem dX1_init_45 : decode cX1_init 45 = .ok (.getfield 21, 3) := by decide +kernel
theorem dX1_init_48 : decode cX1_init 48 = .ok (.iconst 0, 1) := by decide +kernel
theorem dX1_init_49 : decode cX1_init 49 = .ok (.iconst (-1), 1) := by decide +kernel
theorem dX1_init_50 : decode cX1_init 50 = .ok (.iastore, 1) := by decide +kernel
theorem dX1_init_51 : decode cX1_init 51 = .ok (.aload_n 0, 1) := by decide +kernel
theorem dX1_init_52 : decode cX1_init 52 = .ok (.iconst 1, 1) := by decide +kernel
theorem dX1_init_53 : decode cX1_init 53 = .ok (.putfield 27, 3) := by decide +kernel
theorem dX1_init_56 : decode cX1_init 56 = .ok (.return_, 1) := by decide +kernel
theorem dX1_clear_0 : decode cX1_clear 0 = .ok (.aload_n 0, 1) := by decide +kernel
theorem dX1_clear_1 : decode cX1_clear 1 = .ok (.getfield 21, 3) := by decide +kernel
theorem dX1_clear_4 : decode cX1_clear 4 = .ok (.iconst 0, 1) := by decide +kernel
theorem dX1_clear_5 : decode cX1_clear 5 = .ok (.iconst (-1), 1) := by decide +kernel
theorem dX1_clear_6 : decode cX1_clear 6 = .ok (.iastore, 1) := by decide +kernel
theorem dX1_clear_7 : decode cX1_clear 7 = .ok (.aload_n 0, 1) := by decide +kernel
theorem dX1_clear_8 : decode cX1_clear 8 = .ok (.iconst 1, 1) := by decide +kernel
theorem dX1_clear_9 : decode cX1_clear 9 = .ok (.putfield 27, 3) := by decide +kernel
theorem dX1_clear_12 : decode cX1_clear 12 = .ok (.return_, 1) := by decide +kernel
set_option maxRecDepth 20000 in
theorem ggX2_init_X5_init : GoodIn wsX2_init wsX5_init := goodIn_r _ [18, 19, 2, 3, 20, 21, 22, 37, 38, 39, 40, 41, 42, 43, 44, 45, 46] (by decide +kernel) (by decide +kernel)
set_option maxRecDepth 20000 in
theorem gX2_init_X5_init : GoodIn wsX2_init (wsX5_init) := ggX2_init_X5_init
set_option maxRecDepth 20000 in
theorem ggX2_init_X6_init : GoodIn wsX2_init wsX6_init := goodIn_r _ [25, 26, 2, 3, 27, 28, 29, 30, 47, 48, 49, 50] (by decide +kernel) (by decide +kernel)
set_option maxRecDepth 20000 in
theorem gX2_init_X6_init : GoodIn wsX2_init (wsX6_init) := ggX2_init_X6_init
theorem dX2_init_0 : decode cX2_init 0 = .ok (.aload_n 0, 1) := by decide +kernel
theorem dX2_init_1 : decode cX2_init 1 = .ok (.invokespecial 3, 3) := by decide +kernel
theorem dX2_init_4 : decode cX2_init 4 = .ok (.aload_n 0, 1) := by decide +kernel
theorem dX2_init_5 : decode cX2_init 5 = .ok (.aload_n 1, 1) := by decide +kernel
theorem dX2_init_6 : decode cX2_init 6 = .ok (.putfield 9, 3) := by decide +kernel
theorem dX2_init_9 : decode cX2_init 9 = .ok (.aload_n 0, 1) := by decide +kernel
theorem dX2_init_10 : decode cX2_init 10 = .ok (.aload_n 3, 1) := by decide +kernel
theorem dX2_init_11 : decode cX2_init 11 = .ok (.putfield 15, 3) := by decide +kernel
theorem dX2_init_14 : decode cX2_init 14 = .ok (.aload_n 0, 1) := by decide +kernel
theorem dX2_init_15 : decode cX2_init 15 = .ok (.aload 4, 2) := by decide +kernel
theorem dX2_init_17 : decode cX2_init 17 = .ok (.putfield 19, 3) := by decide +kernel
theorem dX2_init_20 : decode cX2_init 20 = .ok (.aload_n 0, 1) := by decide +kernel
theorem dX2_init_21 : decode cX2_init 21 = .ok (.aload 5, 2) := by decide +kernel
theorem dX2_init_23 : decode cX2_init 23 = .ok (.putfield 23, 3) := by decide +kernel
theorem dX2_init_26 : decode cX2_init 26 = .ok (.aload_n 0, 1) := by decide +kernel
theorem dX2_init_27 : decode cX2_init 27 = .ok (.new 27, 3) := by decide +kernel
theorem dX2_init_30 : decode cX2_init 30 = .ok (.dup, 1) := by decide +kernel
theorem dX2_init_31 : decode cX2_init 31 = .ok (.aload_n 1, 1) := by decide +kernel
theorem dX2_init_32 : decode cX2_init 32 = .ok (.invokespecial 29, 3) := by decide +kernel
theorem dX2_init_35 : decode cX2_init 35 = .ok (.putfield 32, 3) := by decide +kernel
theorem dX2_init_38 : decode cX2_init 38 = .ok (.aload_n 0, 1) := by decide +kernel
theorem dX2_init_39 : decode cX2_init 39 = .ok (.new 36, 3) := by decide +kernel
theorem dX2_init_42 : decode cX2_init 42 = .ok (.dup, 1) := by decide +kernel
theorem dX2_init_43 : decode cX2_init 43 = .ok (.aload_n 1, 1) := by decide +kernel
theorem dX2_init_44 : decode cX2_init 44 = .ok (.aload_n 2, 1) := by decide +kernel
theorem dX2_init_45 : decode cX2_init 45 = .ok (.aload_n 3, 1) := by decide +kernel
theorem dX2_init_46 : decode cX2_init 46 = .ok (.aload_n 0, 1) := by decide +kernel
theorem dX2_init_47 : decode cX2_init 47 = .ok (.getfield 32, 3) := by decide +kernel
theorem dX2_init_50 : decode cX2_init 50 = .ok (.invokespecial 38, 3) := by decide +kernel
theorem dX2_init_53 : decode cX2_init 53 = .ok (.putfield 41, 3) := by decide +kernel
theorem dX2_init_56 : decode cX2_init 56 = .ok (.return_, 1) := by decide +kernel
set_option maxRecDepth 20000 in
theorem ggX3_init_J7_fill_53178 : GoodIn wsX3_init wsJ7_fill_53178 := goodIn_r _ [22] (by decide +kernel) (by decide +kernel)
set_option maxRecDepth 20000 in
theorem gX3_init_J7_fill_53178 : GoodIn wsX3_init (va_wsS RX3 57 yJ7_fill_53178 wsJ7_fill_53178) := goodIn_app (goodIn_of _ (by decide +kernel)) ggX3_init_J7_fill_53178
theorem dX3_init_0 : decode cX3_init 0 = .ok (.aload_n 0, 1) := by decide +kernel
theorem dX3_init_1 : decode cX3_init 1 = .ok (.invokespecial 3, 3) := by decide +kernel
theorem dX3_init_4 : decode cX3_init 4 = .ok (.aload_n 0, 1) := by decide +kernel
theorem dX3_init_5 : decode cX3_init 5 = .ok (.sipush 1024, 3) := by decide +kernel
theorem dX3_init_8 : decode cX3_init 8 = .ok (.newarray .int, 2) := by decide +kernel
theorem dX3_init_10 : decode cX3_init 10 = .ok (.putfield 9, 3) := by decide +kernel
theorem dX3_init_13 : decode cX3_init 13 = .ok (.aload_n 0, 1) := by decide +kernel
theorem dX3_init_14 : decode cX3_init 14 = .ok (.bipush 32, 2) := by decide +kernel
theorem dX3_init_16 : decode cX3_init 16 = .ok (.newarray .int, 2) := by decide +kernel
theorem dX3_init_18 : decode cX3_init 18 = .ok (.putfield 15, 3) := by decide +kernel
theorem dX3_init_21 : decode cX3_init 21 = .ok (.aload_n 0, 1) := by decide +kernel
theorem dX3_init_22 : decode cX3_init 22 = .ok (.bipush 32, 2) := by decide +kernel
theorem dX3_init_24 : decode cX3_init 24 = .ok (.newarray .int, 2) := by decide +kernel
theorem dX3_init_26 : decode cX3_init 26 = .ok (.putfield 18, 3) := by decide +kernel
theorem dX3_init_29 : decode cX3_init 29 = .ok (.aload_n 0, 1) := by decide +kernel
theorem dX3_init_30 : decode cX3_init 30 = .ok (.bipush 32, 2) := by decide +kernel
theorem dX3_init_32 : decode cX3_init 32 = .ok (.newarray .int, 2) := by decide +kernel
theorem dX3_init_34 : decode cX3_init 34 = .ok (.putfield 21, 3) := by decide +kernel
theorem dX3_init_37 : decode cX3_init 37 = .ok (.aload_n 0, 1) := by decide +kernel
theorem dX3_init_38 : decode cX3_init 38 = .ok (.bipush 32, 2) := by decide +kernel
theorem dX3_init_40 : decode cX3_init 40 = .ok (.newarray .int, 2) := by decide +kernel
theorem dX3_init_42 : decode cX3_init 42 = .ok (.putfield 24, 3) := by decide +kernel
theorem dX3_init_45 : decode cX3_init 45 = .ok (.aload_n 0, 1) := by decide +kernel
theorem dX3_init_46 : decode cX3_init 46 = .ok (.sipush 256, 3) := by decide +kernel
theorem dX3_init_49 : decode cX3_init 49 = .ok (.newarray .int, 2) := by decide +kernel
theorem dX3_init_51 : decode cX3_init 51 = .ok (.putfield 27, 3) := by decide +kernel
theorem dX3_init_54 : decode cX3_init 54 = .ok (.aload_n 0, 1) := by decide +kernel
theorem dX3_init_55 : decode cX3_init 55 = .ok (.bipush 32, 2) := by decide +kernel
theorem dX3_init_57 : decode cX3_init 57 = .ok (.newarray .int, 2) := by decide +kernel
theorem dX3_init_59 : decode cX3_init 59 = .ok (.putfield 30, 3) := by decide +kernel
theorem dX3_init_62 : decode cX3_init 62 = .ok (.aload_n 0, 1) := by decide +kernel
theorem dX3_init_63 : decode cX3_init 63 = .ok (.bipush 32, 2) := by decide +kernel
theorem dX3_init_65 : decode cX3_init 65 = .ok (.newarray .int, 2) := by decide +kernel
theorem dX3_init_67 : decode cX3_init 67 = .ok (.putfield 33, 3) := by decide +kernel
theorem dX3_init_70 : decode cX3_init 70 = .ok (.aload_n 0, 1) := by decide +kernel
theorem dX3_init_71 : decode cX3_init 71 = .ok (.iconst (-1), 1) := by decide +kernel
theorem dX3_init_72 : decode cX3_init 72 = .ok (.putfield 36, 3) := by decide +kernel
theorem dX3_init_75 : decode cX3_init 75 = .ok (.aload_n 0, 1) := by decide +kernel
theorem dX3_init_76 : decode cX3_init 76 = .ok (.iconst (-1), 1) := by decide +kernel
theorem dX3_init_77 : decode cX3_init 77 = .ok (.putfield 40, 3) := by decide +kernel
theorem dX3_init_80 : decode cX3_init 80 = .ok (.aload_n 0, 1) := by decide +kernel
theorem dX3_init_81 : decode cX3_init 81 = .ok (.bipush 32, 2) := by decide +kernel
theorem dX3_init_83 : decode cX3_init 83 = .ok (.newarray .int, 2) := by decide +kernel
theorem dX3_init_85 : decode cX3_init 85 = .ok (.putfield 43, 3) := by decide +kernel
theorem dX3_init_88 : decode cX3_init 88 = .ok (.aload_n 0, 1) := by decide +kernel
theorem dX3_init_89 : decode cX3_init 89 = .ok (.bipush 32, 2) := by decide +kernel
theorem dX3_init_91 : decode cX3_init 91 = .ok (.newarray .int, 2) := by decide +kernel
theorem dX3_init_93 : decode cX3_init 93 = .ok (.putfield 46, 3) := by decide +kernel
theorem dX3_init_96 : decode cX3_init 96 = .ok (.aload_n 0, 1) := by decide +kernel
theorem dX3_init_97 : decode cX3_init 97 = .ok (.aload_n 1, 1) := by decide +kernel
theorem dX3_init_98 : decode cX3_init 98 = .ok (.putfield 49, 3) := by decide +kernel
theorem dX3_init_101 : decode cX3_init 101 = .ok (.aload_n 0, 1) := by decide +kernel
theorem dX3_init_102 : decode cX3_init 102 = .ok (.aload_n 2, 1) := by decide +kernel
theorem dX3_init_103 : decode cX3_init 103 = .ok (.putfield 53, 3) := by decide +kernel
theorem dX3_init_106 : decode cX3_init 106 = .ok (.aload_n 0, 1) := by decide +kernel
theorem dX3_init_107 : decode cX3_init 107 = .ok (.getfield 27, 3) := by decide +kernel
theorem dX3_init_110 : decode cX3_init 110 = .ok (.iconst (-1), 1) := by decide +kernel
theorem dX3_init_111 : decode cX3_init 111 = .ok (.invokestatic 57, 3) := by decide +kernel
theorem dX3_init_114 : decode cX3_init 114 = .ok (.return_, 1) := by decide +kernel
set_option maxRecDepth 20000 in
theorem ggX3_clear_J7_fill_53178 : GoodIn wsX3_clear wsJ7_fill_53178 := goodIn_r _ [10] (by decide +kernel) (by decide +kernel)
set_option maxRecDepth 20000 in
theorem gX3_clear_J7_fill_53178 : GoodIn wsX3_clear (va_wsS RX3 57 yJ7_fill_53178 wsJ7_fill_53178) := goodIn_app (goodIn_of _ (by decide +kernel)) ggX3_clear_J7_fill_53178
theorem dX3_clear_0 : decode cX3_clear 0 = .ok (.aload_n 0, 1) := by decide +kernel
theorem dX3_clear_1 : decode cX3_clear 1 = .ok (.iload_n 1, 1) := by decide +kernel
theorem dX3_clear_2 : decode cX3_clear 2 = .ok (.putfield 63, 3) := by decide +kernel
theorem dX3_clear_5 : decode cX3_clear 5 = .ok (.aload_n 0, 1) := by decide +kernel
theorem dX3_clear_6 : decode cX3_clear 6 = .ok (.iload_n 1, 1) := by decide +kernel
theorem dX3_clear_7 : decode cX3_clear 7 = .ok (.iload_n 2, 1) := by decide +kernel
theorem dX3_clear_8 : decode cX3_clear 8 = .ok (.iadd, 1) := by decide +kernel
theorem dX3_clear_9 : decode cX3_clear 9 = .ok (.putfield 66, 3) := by decide +kernel
theorem dX3_clear_12 : decode cX3_clear 12 = .ok (.aload_n 0, 1) := by decide +kernel
theorem dX3_clear_13 : decode cX3_clear 13 = .ok (.iconst 0, 1) := by decide +kernel
theorem dX3_clear_14 : decode cX3_clear 14 = .ok (.putfield 69, 3) := by decide +kernel
theorem dX3_clear_17 : decode cX3_clear 17 = .ok (.aload_n 0, 1) := by decide +kernel
theorem dX3_clear_18 : decode cX3_clear 18 = .ok (.iconst (-1), 1) := by decide +kernel
theorem dX3_clear_19 : decode cX3_clear 19 = .ok (.putfield 36, 3) := by decide +kernel
theorem dX3_clear_22 : decode cX3_clear 22 = .ok (.aload_n 0, 1) := by decide +kernel
theorem dX3_clear_23 : decode cX3_clear 23 = .ok (.iconst (-1), 1) := by decide +kernel
theorem dX3_clear_24 : decode cX3_clear 24 = .ok (.putfield 40, 3) := by decide +kernel
theorem dX3_clear_27 : decode cX3_clear 27 = .ok (.aload_n 0, 1) := by decide +kernel
theorem dX3_clear_28 : decode cX3_clear 28 = .ok (.getfield 27, 3) := by decide +kernel
theorem dX3_clear_31 : decode cX3_clear 31 = .ok (.iconst (-1), 1) := by decide +kernel
theorem dX3_clear_32 : decode cX3_clear 32 = .ok (.invokestatic 57, 3) := by decide +kernel
theorem dX3_clear_35 : decode cX3_clear 35 = .ok (.return_, 1) := by decide +kernel
theorem dX3_isAnyAwaited_0 : decode cX3_isAnyAwaited 0 = .ok (.aload_n 0, 1) := by decide +kernel
theorem dX3_isAnyAwaited_1 : decode cX3_isAnyAwaited 1 = .ok (.getfield 36, 3) := by decide +kernel
theorem dX3_isAnyAwaited_4 : decode cX3_isAnyAwaited 4 = .ok (.iconst (-1), 1) := by decide +kernel
theorem dX3_isAnyAwaited_5 : decode cX3_isAnyAwaited 5 = .ok (.if_icmp .eq 7, 3) := by decide +kernel
theorem dX3_isAnyAwaited_8 : decode cX3_isAnyAwaited 8 = .ok (.iconst 1, 1) := by decide +kernel
theorem dX3_isAnyAwaited_9 : decode cX3_isAnyAwaited 9 = .ok (.goto 4, 3) := by decide +kernel
theorem dX3_isAnyAwaited_12 : decode cX3_isAnyAwaited 12 = .ok (.iconst 0, 1) := by decide +kernel
theorem dX3_isAnyAwaited_13 : decode cX3_isAnyAwaited 13 = .ok (.ireturn, 1) := by decide +kernel
theorem dX3_factOf_0 : decode cX3_factOf 0 = .ok (.iload_n 1, 1) := by decide +kernel
theorem dX3_factOf_1 : decode cX3_factOf 1 = .ok (.ifCond .lt 11, 3) := by decide +kernel
theorem dX3_factOf_4 : decode cX3_factOf 4 = .ok (.iload_n 1, 1) := by decide +kernel
theorem dX3_factOf_5 : decode cX3_factOf 5 = .ok (.aload_n 0, 1) := by decide +kernel
theorem dX3_factOf_6 : decode cX3_factOf 6 = .ok (.getfield 69, 3) := by decide +kernel
theorem dX3_factOf_9 : decode cX3_factOf 9 = .ok (.if_icmp .lt 5, 3) := by decide +kernel
theorem dX3_factOf_12 : decode cX3_factOf 12 = .ok (.iconst (-1), 1) := by decide +kernel
theorem dX3_factOf_13 : decode cX3_factOf 13 = .ok (.ireturn, 1) := by decide +kernel
theorem dX3_factOf_14 : decode cX3_factOf 14 = .ok (.aload_n 0, 1) := by decide +kernel
theorem dX3_factOf_15 : decode cX3_factOf 15 = .ok (.getfield 43, 3) := by decide +kernel
theorem dX3_factOf_18 : decode cX3_factOf 18 = .ok (.iload_n 1, 1) := by decide +kernel
theorem dX3_factOf_19 : decode cX3_factOf 19 = .ok (.iaload, 1) := by decide +kernel
theorem dX3_factOf_20 : decode cX3_factOf 20 = .ok (.istore_n 3, 1) := by decide +kernel
theorem dX3_factOf_21 : decode cX3_factOf 21 = .ok (.iload_n 2, 1) := by decide +kernel
theorem dX3_factOf_22 : decode cX3_factOf 22 = .ok (.tableswitch 55 0 2 #[26, 33, 48], 26) := by decide +kernel
theorem dX3_factOf_48 : decode cX3_factOf 48 = .ok (.aload_n 0, 1) := by decide +kernel
theorem dX3_factOf_49 : decode cX3_factOf 49 = .ok (.getfield 15, 3) := by decide +kernel
theorem dX3_factOf_52 : decode cX3_factOf 52 = .ok (.iload_n 3, 1) := by decide +kernel
theorem dX3_factOf_53 : decode cX3_factOf 53 = .ok (.iaload, 1) := by decide +kernel
theorem dX3_factOf_54 : decode cX3_factOf 54 = .ok (.ireturn, 1) := by decide +kernel
theorem dX3_factOf_55 : decode cX3_factOf 55 = .ok (.aload_n 0, 1) := by decide +kernel
theorem dX3_factOf_56 : decode cX3_factOf 56 = .ok (.getfield 53, 3) := by decide +kernel
theorem dX3_factOf_59 : decode cX3_factOf 59 = .ok (.getfield 123, 3) := by decide +kernel
theorem dX3_factOf_62 : decode cX3_factOf 62 = .ok (.aload_n 0, 1) := by decide +kernel
theorem dX3_factOf_63 : decode cX3_factOf 63 = .ok (.getfield 18, 3) := by decide +kernel
theorem dX3_factOf_66 : decode cX3_factOf 66 = .ok (.iload_n 3, 1) := by decide +kernel
theorem dX3_factOf_67 : decode cX3_factOf 67 = .ok (.iaload, 1) := by decide +kernel
theorem dX3_factOf_68 : decode cX3_factOf 68 = .ok (.iaload, 1) := by decide +kernel
theorem dX3_factOf_69 : decode cX3_factOf 69 = .ok (.ireturn, 1) := by decide +kernel
theorem dX3_factOf_70 : decode cX3_factOf 70 = .ok (.aload_n 0, 1) := by decide +kernel
theorem dX3_factOf_71 : decode cX3_factOf 71 = .ok (.getfield 21, 3) := by decide +kernel
theorem dX3_factOf_74 : decode cX3_factOf 74 = .ok (.iload_n 3, 1) := by decide +kernel
theorem dX3_factOf_75 : decode cX3_factOf 75 = .ok (.iaload, 1) := by decide +kernel
theorem dX3_factOf_76 : decode cX3_factOf 76 = .ok (.ireturn, 1) := by decide +kernel
theorem dX3_factOf_77 : decode cX3_factOf 77 = .ok (.aload_n 0, 1) := by decide +kernel
theorem dX3_factOf_78 : decode cX3_factOf 78 = .ok (.getfield 24, 3) := by decide +kernel
theorem dX3_factOf_81 : decode cX3_factOf 81 = .ok (.iload_n 3, 1) := by decide +kernel
theorem dX3_factOf_82 : decode cX3_factOf 82 = .ok (.iaload, 1) := by decide +kernel
theorem dX3_factOf_83 : decode cX3_factOf 83 = .ok (.ireturn, 1) := by decide +kernel
theorem dX3_addressOf_0 : decode cX3_addressOf 0 = .ok (.iload_n 1, 1) := by decide +kernel
theorem dX3_addressOf_1 : decode cX3_addressOf 1 = .ok (.ifCond .lt 15, 3) := by decide +kernel
theorem dX3_addressOf_4 : decode cX3_addressOf 4 = .ok (.iload_n 1, 1) := by decide +kernel
theorem dX3_addressOf_5 : decode cX3_addressOf 5 = .ok (.aload_n 0, 1) := by decide +kernel
theorem dX3_addressOf_6 : decode cX3_addressOf 6 = .ok (.getfield 69, 3) := by decide +kernel
theorem dX3_addressOf_9 : decode cX3_addressOf 9 = .ok (.if_icmp .ge 7, 3) := by decide +kernel
theorem dX3_addressOf_12 : decode cX3_addressOf 12 = .ok (.iload_n 2, 1) := by decide +kernel
theorem dX3_addressOf_13 : decode cX3_addressOf 13 = .ok (.ifCond .ge 5, 3) := by decide +kernel
theorem dX3_addressOf_16 : decode cX3_addressOf 16 = .ok (.iconst (-1), 1) := by decide +kernel
theorem dX3_addressOf_17 : decode cX3_addressOf 17 = .ok (.ireturn, 1) := by decide +kernel
theorem dX3_addressOf_18 : decode cX3_addressOf 18 = .ok (.aload_n 0, 1) := by decide +kernel
theorem dX3_addressOf_19 : decode cX3_addressOf 19 = .ok (.getfield 18, 3) := by decide +kernel
theorem dX3_addressOf_22 : decode cX3_addressOf 22 = .ok (.aload_n 0, 1) := by decide +kernel
theorem dX3_addressOf_23 : decode cX3_addressOf 23 = .ok (.getfield 43, 3) := by decide +kernel
theorem dX3_addressOf_26 : decode cX3_addressOf 26 = .ok (.iload_n 1, 1) := by decide +kernel
theorem dX3_addressOf_27 : decode cX3_addressOf 27 = .ok (.iaload, 1) := by decide +kernel
theorem dX3_addressOf_28 : decode cX3_addressOf 28 = .ok (.iaload, 1) := by decide +kernel
theorem dX3_addressOf_29 : decode cX3_addressOf 29 = .ok (.istore_n 3, 1) := by decide +kernel
theorem dX3_addressOf_30 : decode cX3_addressOf 30 = .ok (.iload_n 2, 1) := by decide +kernel
theorem dX3_addressOf_31 : decode cX3_addressOf 31 = .ok (.aload_n 0, 1) := by decide +kernel
theorem dX3_addressOf_32 : decode cX3_addressOf 32 = .ok (.getfield 53, 3) := by decide +kernel
theorem dX3_addressOf_35 : decode cX3_addressOf 35 = .ok (.getfield 123, 3) := by decide +kernel
theorem dX3_addressOf_38 : decode cX3_addressOf 38 = .ok (.iload_n 3, 1) := by decide +kernel
theorem dX3_addressOf_39 : decode cX3_addressOf 39 = .ok (.iaload, 1) := by decide +kernel
theorem dX3_addressOf_40 : decode cX3_addressOf 40 = .ok (.if_icmp .ge 15, 3) := by decide +kernel
theorem dX3_addressOf_43 : decode cX3_addressOf 43 = .ok (.aload_n 0, 1) := by decide +kernel
theorem dX3_addressOf_44 : decode cX3_addressOf 44 = .ok (.getfield 53, 3) := by decide +kernel
theorem dX3_addressOf_47 : decode cX3_addressOf 47 = .ok (.iload_n 3, 1) := by decide +kernel
theorem dX3_addressOf_48 : decode cX3_addressOf 48 = .ok (.iload_n 2, 1) := by decide +kernel
theorem dX3_addressOf_49 : decode cX3_addressOf 49 = .ok (.invokevirtual 126, 3) := by decide +kernel
theorem dX3_addressOf_52 : decode cX3_addressOf 52 = .ok (.goto 4, 3) := by decide +kernel
theorem dX3_addressOf_55 : decode cX3_addressOf 55 = .ok (.iconst (-1), 1) := by decide +kernel
theorem dX3_addressOf_56 : decode cX3_addressOf 56 = .ok (.ireturn, 1) := by decide +kernel
theorem dX3_placeOf_0 : decode cX3_placeOf 0 = .ok (.iload_n 1, 1) := by decide +kernel
theorem dX3_placeOf_1 : decode cX3_placeOf 1 = .ok (.ifCond .lt 15, 3) := by decide +kernel
theorem dX3_placeOf_4 : decode cX3_placeOf 4 = .ok (.iload_n 1, 1) := by decide +kernel
theorem dX3_placeOf_5 : decode cX3_placeOf 5 = .ok (.aload_n 0, 1) := by decide +kernel
theorem dX3_placeOf_6 : decode cX3_placeOf 6 = .ok (.getfield 69, 3) := by decide +kernel
theorem dX3_placeOf_9 : decode cX3_placeOf 9 = .ok (.if_icmp .ge 7, 3) := by decide +kernel
theorem dX3_placeOf_12 : decode cX3_placeOf 12 = .ok (.iload_n 2, 1) := by decide +kernel
theorem dX3_placeOf_13 : decode cX3_placeOf 13 = .ok (.ifCond .ge 5, 3) := by decide +kernel
theorem dX3_placeOf_16 : decode cX3_placeOf 16 = .ok (.iconst (-1), 1) := by decide +kernel
theorem dX3_placeOf_17 : decode cX3_placeOf 17 = .ok (.ireturn, 1) := by decide +kernel
theorem dX3_placeOf_18 : decode cX3_placeOf 18 = .ok (.aload_n 0, 1) := by decide +kernel
theorem dX3_placeOf_19 : decode cX3_placeOf 19 = .ok (.getfield 43, 3) := by decide +kernel
theorem dX3_placeOf_22 : decode cX3_placeOf 22 = .ok (.iload_n 1, 1) := by decide +kernel
theorem dX3_placeOf_23 : decode cX3_placeOf 23 = .ok (.iaload, 1) := by decide +kernel
theorem dX3_placeOf_24 : decode cX3_placeOf 24 = .ok (.istore_n 3, 1) := by decide +kernel
theorem dX3_placeOf_25 : decode cX3_placeOf 25 = .ok (.iload_n 2, 1) := by decide +kernel
theorem dX3_placeOf_26 : decode cX3_placeOf 26 = .ok (.aload_n 0, 1) := by decide +kernel
theorem dX3_placeOf_27 : decode cX3_placeOf 27 = .ok (.getfield 63, 3) := by decide +kernel
theorem dX3_placeOf_30 : decode cX3_placeOf 30 = .ok (.aload_n 0, 1) := by decide +kernel
theorem dX3_placeOf_31 : decode cX3_placeOf 31 = .ok (.getfield 21, 3) := by decide +kernel
theorem dX3_placeOf_34 : decode cX3_placeOf 34 = .ok (.iload_n 3, 1) := by decide +kernel
theorem dX3_placeOf_35 : decode cX3_placeOf 35 = .ok (.iaload, 1) := by decide +kernel
theorem dX3_placeOf_36 : decode cX3_placeOf 36 = .ok (.iadd, 1) := by decide +kernel
theorem dX3_placeOf_37 : decode cX3_placeOf 37 = .ok (.if_icmp .ge 19, 3) := by decide +kernel
theorem dX3_placeOf_40 : decode cX3_placeOf 40 = .ok (.aload_n 0, 1) := by decide +kernel
theorem dX3_placeOf_41 : decode cX3_placeOf 41 = .ok (.getfield 9, 3) := by decide +kernel
theorem dX3_placeOf_44 : decode cX3_placeOf 44 = .ok (.iload_n 3, 1) := by decide +kernel
theorem dX3_placeOf_45 : decode cX3_placeOf 45 = .ok (.aload_n 0, 1) := by decide +kernel
theorem dX3_placeOf_46 : decode cX3_placeOf 46 = .ok (.getfield 66, 3) := by decide +kernel
theorem dX3_placeOf_49 : decode cX3_placeOf 49 = .ok (.imul, 1) := by decide +kernel
theorem dX3_placeOf_50 : decode cX3_placeOf 50 = .ok (.iload_n 2, 1) := by decide +kernel
theorem dX3_placeOf_51 : decode cX3_placeOf 51 = .ok (.iadd, 1) := by decide +kernel
theorem dX3_placeOf_52 : decode cX3_placeOf 52 = .ok (.iaload, 1) := by decide +kernel
theorem dX3_placeOf_53 : decode cX3_placeOf 53 = .ok (.goto 4, 3) := by decide +kernel
theorem dX3_placeOf_56 : decode cX3_placeOf 56 = .ok (.iconst (-1), 1) := by decide +kernel
theorem dX3_placeOf_57 : decode cX3_placeOf 57 = .ok (.ireturn, 1) := by decide +kernel
theorem dX4_init_0 : decode cX4_init 0 = .ok (.aload_n 0, 1) := by decide +kernel
theorem dX4_init_1 : decode cX4_init 1 = .ok (.invokespecial 3, 3) := by decide +kernel
theorem dX4_init_4 : decode cX4_init 4 = .ok (.aload_n 0, 1) := by decide +kernel
theorem dX4_init_5 : decode cX4_init 5 = .ok (.bipush 100, 2) := by decide +kernel
theorem dX4_init_7 : decode cX4_init 7 = .ok (.newarray .int, 2) := by decide +kernel
theorem dX4_init_9 : decode cX4_init 9 = .ok (.putfield 9, 3) := by decide +kernel
theorem dX4_init_12 : decode cX4_init 12 = .ok (.aload_n 0, 1) := by decide +kernel
theorem dX4_init_13 : decode cX4_init 13 = .ok (.bipush 100, 2) := by decide +kernel
theorem dX4_init_15 : decode cX4_init 15 = .ok (.newarray .int, 2) := by decide +kernel
theorem dX4_init_17 : decode cX4_init 17 = .ok (.putfield 15, 3) := by decide +kernel
theorem dX4_init_20 : decode cX4_init 20 = .ok (.aload_n 0, 1) := by decide +kernel
theorem dX4_init_21 : decode cX4_init 21 = .ok (.bipush 100, 2) := by decide +kernel
theorem dX4_init_23 : decode cX4_init 23 = .ok (.newarray .int, 2) := by decide +kernel
theorem dX4_init_25 : decode cX4_init 25 = .ok (.putfield 18, 3) := by decide +kernel
theorem dX4_init_28 : decode cX4_init 28 = .ok (.aload_n 0, 1) := by decide +kernel
theorem dX4_init_29 : decode cX4_init 29 = .ok (.bipush 100, 2) := by decide +kernel
theorem dX4_init_31 : decode cX4_init 31 = .ok (.newarray .int, 2) := by decide +kernel
theorem dX4_init_33 : decode cX4_init 33 = .ok (.putfield 21, 3) := by decide +kernel
theorem dX4_init_36 : decode cX4_init 36 = .ok (.aload_n 0, 1) := by decide +kernel
theorem dX4_init_37 : decode cX4_init 37 = .ok (.bipush 100, 2) := by decide +kernel
theorem dX4_init_39 : decode cX4_init 39 = .ok (.newarray .boolean, 2) := by decide +kernel
theorem dX4_init_41 : decode cX4_init 41 = .ok (.putfield 24, 3) := by decide +kernel
theorem dX4_init_44 : decode cX4_init 44 = .ok (.aload_n 0, 1) := by decide +kernel
theorem dX4_init_45 : decode cX4_init 45 = .ok (.sipush 2000, 3) := by decide +kernel
theorem dX4_init_48 : decode cX4_init 48 = .ok (.newarray .int, 2) := by decide +kernel
theorem dX4_init_50 : decode cX4_init 50 = .ok (.putfield 28, 3) := by decide +kernel
theorem dX4_init_53 : decode cX4_init 53 = .ok (.aload_n 0, 1) := by decide +kernel
theorem dX4_init_54 : decode cX4_init 54 = .ok (.bipush 100, 2) := by decide +kernel
theorem dX4_init_56 : decode cX4_init 56 = .ok (.newarray .int, 2) := by decide +kernel
theorem dX4_init_58 : decode cX4_init 58 = .ok (.putfield 31, 3) := by decide +kernel
theorem dX4_init_61 : decode cX4_init 61 = .ok (.return_, 1) := by decide +kernel
theorem dX4_enterField_0 : decode cX4_enterField 0 = .ok (.aload_n 0, 1) := by decide +kernel
theorem dX4_enterField_1 : decode cX4_enterField 1 = .ok (.getfield 9, 3) := by decide +kernel
theorem dX4_enterField_4 : decode cX4_enterField 4 = .ok (.aload_n 0, 1) := by decide +kernel
theorem dX4_enterField_5 : decode cX4_enterField 5 = .ok (.getfield 34, 3) := by decide +kernel
theorem dX4_enterField_8 : decode cX4_enterField 8 = .ok (.iload_n 1, 1) := by decide +kernel
theorem dX4_enterField_9 : decode cX4_enterField 9 = .ok (.iastore, 1) := by decide +kernel
theorem dX4_enterField_10 : decode cX4_enterField 10 = .ok (.aload_n 0, 1) := by decide +kernel
theorem dX4_enterField_11 : decode cX4_enterField 11 = .ok (.getfield 15, 3) := by decide +kernel
theorem dX4_enterField_14 : decode cX4_enterField 14 = .ok (.aload_n 0, 1) := by decide +kernel
theorem dX4_enterField_15 : decode cX4_enterField 15 = .ok (.getfield 34, 3) := by decide +kernel
theorem dX4_enterField_18 : decode cX4_enterField 18 = .ok (.iload_n 2, 1) := by decide +kernel
theorem dX4_enterField_19 : decode cX4_enterField 19 = .ok (.iastore, 1) := by decide +kernel
theorem dX4_enterField_20 : decode cX4_enterField 20 = .ok (.aload_n 0, 1) := by decide +kernel
theorem dX4_enterField_21 : decode cX4_enterField 21 = .ok (.dup, 1) := by decide +kernel
theorem dX4_enterField_22 : decode cX4_enterField 22 = .ok (.getfield 34, 3) := by decide +kernel
theorem dX4_enterField_25 : decode cX4_enterField 25 = .ok (.dup_x1, 1) := by decide +kernel
theorem dX4_enterField_26 : decode cX4_enterField 26 = .ok (.iconst 1, 1) := by decide +kernel
theorem dX4_enterField_27 : decode cX4_enterField 27 = .ok (.iadd, 1) := by decide +kernel
theorem dX4_enterField_28 : decode cX4_enterField 28 = .ok (.putfield 34, 3) := by decide +kernel
theorem dX4_enterField_31 : decode cX4_enterField 31 = .ok (.ireturn, 1) := by decide +kernel
theorem dX4_enterShape_0 : decode cX4_enterShape 0 = .ok (.aload_n 0, 1) := by decide +kernel
theorem dX4_enterShape_1 : decode cX4_enterShape 1 = .ok (.getfield 18, 3) := by decide +kernel
theorem dX4_enterShape_4 : decode cX4_enterShape 4 = .ok (.aload_n 0, 1) := by decide +kernel
theorem dX4_enterShape_5 : decode cX4_enterShape 5 = .ok (.getfield 38, 3) := by decide +kernel
theorem dX4_enterShape_8 : decode cX4_enterShape 8 = .ok (.iload_n 1, 1) := by decide +kernel
theorem dX4_enterShape_9 : decode cX4_enterShape 9 = .ok (.iastore, 1) := by decide +kernel
theorem dX4_enterShape_10 : decode cX4_enterShape 10 = .ok (.aload_n 0, 1) := by decide +kernel
theorem dX4_enterShape_11 : decode cX4_enterShape 11 = .ok (.getfield 21, 3) := by decide +kernel
theorem dX4_enterShape_14 : decode cX4_enterShape 14 = .ok (.aload_n 0, 1) := by decide +kernel
theorem dX4_enterShape_15 : decode cX4_enterShape 15 = .ok (.getfield 38, 3) := by decide +kernel
theorem dX4_enterShape_18 : decode cX4_enterShape 18 = .ok (.iload_n 2, 1) := by decide +kernel
theorem dX4_enterShape_19 : decode cX4_enterShape 19 = .ok (.iastore, 1) := by decide +kernel
theorem dX4_enterShape_20 : decode cX4_enterShape 20 = .ok (.aload_n 0, 1) := by decide +kernel
theorem dX4_enterShape_21 : decode cX4_enterShape 21 = .ok (.getfield 24, 3) := by decide +kernel
theorem dX4_enterShape_24 : decode cX4_enterShape 24 = .ok (.aload_n 0, 1) := by decide +kernel
theorem dX4_enterShape_25 : decode cX4_enterShape 25 = .ok (.getfield 38, 3) := by decide +kernel
theorem dX4_enterShape_28 : decode cX4_enterShape 28 = .ok (.iload_n 3, 1) := by decide +kernel
theorem dX4_enterShape_29 : decode cX4_enterShape 29 = .ok (.bastore, 1) := by decide +kernel
theorem dX4_enterShape_30 : decode cX4_enterShape 30 = .ok (.aload_n 0, 1) := by decide +kernel
theorem dX4_enterShape_31 : decode cX4_enterShape 31 = .ok (.dup, 1) := by decide +kernel
theorem dX4_enterShape_32 : decode cX4_enterShape 32 = .ok (.getfield 38, 3) := by decide +kernel
theorem dX4_enterShape_35 : decode cX4_enterShape 35 = .ok (.dup_x1, 1) := by decide +kernel
theorem dX4_enterShape_36 : decode cX4_enterShape 36 = .ok (.iconst 1, 1) := by decide +kernel
theorem dX4_enterShape_37 : decode cX4_enterShape 37 = .ok (.iadd, 1) := by decide +kernel
theorem dX4_enterShape_38 : decode cX4_enterShape 38 = .ok (.putfield 38, 3) := by decide +kernel
theorem dX4_enterShape_41 : decode cX4_enterShape 41 = .ok (.ireturn, 1) := by decide +kernel
theorem dX4_canTakeMore_0 : decode cX4_canTakeMore 0 = .ok (.aload_n 0, 1) := by decide +kernel
theorem dX4_canTakeMore_1 : decode cX4_canTakeMore 1 = .ok (.getfield 38, 3) := by decide +kernel
theorem dX4_canTakeMore_4 : decode cX4_canTakeMore 4 = .ok (.ifCond .le 23, 3) := by decide +kernel
theorem dX4_canTakeMore_7 : decode cX4_canTakeMore 7 = .ok (.aload_n 0, 1) := by decide +kernel
theorem dX4_canTakeMore_8 : decode cX4_canTakeMore 8 = .ok (.getfield 31, 3) := by decide +kernel
theorem dX4_canTakeMore_11 : decode cX4_canTakeMore 11 = .ok (.aload_n 0, 1) := by decide +kernel
theorem dX4_canTakeMore_12 : decode cX4_canTakeMore 12 = .ok (.getfield 38, 3) := by decide +kernel
theorem dX4_canTakeMore_15 : decode cX4_canTakeMore 15 = .ok (.iconst 1, 1) := by decide +kernel
theorem dX4_canTakeMore_16 : decode cX4_canTakeMore 16 = .ok (.isub, 1) := by decide +kernel
theorem dX4_canTakeMore_17 : decode cX4_canTakeMore 17 = .ok (.iaload, 1) := by decide +kernel
theorem dX4_canTakeMore_18 : decode cX4_canTakeMore 18 = .ok (.bipush 20, 2) := by decide +kernel
theorem dX4_canTakeMore_20 : decode cX4_canTakeMore 20 = .ok (.if_icmp .ge 7, 3) := by decide +kernel
theorem dX4_canTakeMore_23 : decode cX4_canTakeMore 23 = .ok (.iconst 1, 1) := by decide +kernel
theorem dX4_canTakeMore_24 : decode cX4_canTakeMore 24 = .ok (.goto 4, 3) := by decide +kernel
theorem dX4_canTakeMore_27 : decode cX4_canTakeMore 27 = .ok (.iconst 0, 1) := by decide +kernel
theorem dX4_canTakeMore_28 : decode cX4_canTakeMore 28 = .ok (.ireturn, 1) := by decide +kernel
theorem dX5_init_0 : decode cX5_init 0 = .ok (.aload_n 0, 1) := by decide +kernel
theorem dX5_init_1 : decode cX5_init 1 = .ok (.invokespecial 3, 3) := by decide +kernel
theorem dX5_init_4 : decode cX5_init 4 = .ok (.aload_n 0, 1) := by decide +kernel
theorem dX5_init_5 : decode cX5_init 5 = .ok (.sipush 400, 3) := by decide +kernel
theorem dX5_init_8 : decode cX5_init 8 = .ok (.newarray .int, 2) := by decide +kernel
theorem dX5_init_10 : decode cX5_init 10 = .ok (.putfield 9, 3) := by decide +kernel
theorem dX5_init_13 : decode cX5_init 13 = .ok (.aload_n 0, 1) := by decide +kernel
theorem dX5_init_14 : decode cX5_init 14 = .ok (.aload_n 1, 1) := by decide +kernel
theorem dX5_init_15 : decode cX5_init 15 = .ok (.putfield 15, 3) := by decide +kernel
theorem dX5_init_18 : decode cX5_init 18 = .ok (.return_, 1) := by decide +kernel
theorem dX6_init_0 : decode cX6_init 0 = .ok (.aload_n 0, 1) := by decide +kernel
theorem dX6_init_1 : decode cX6_init 1 = .ok (.invokespecial 3, 3) := by decide +kernel
theorem dX6_init_4 : decode cX6_init 4 = .ok (.aload_n 0, 1) := by decide +kernel
theorem dX6_init_5 : decode cX6_init 5 = .ok (.aload_n 1, 1) := by decide +kernel
theorem dX6_init_6 : decode cX6_init 6 = .ok (.putfield 9, 3) := by decide +kernel
theorem dX6_init_9 : decode cX6_init 9 = .ok (.aload_n 0, 1) := by decide +kernel
theorem dX6_init_10 : decode cX6_init 10 = .ok (.aload_n 2, 1) := by decide +kernel
theorem dX6_init_11 : decode cX6_init 11 = .ok (.putfield 15, 3) := by decide +kernel
theorem dX6_init_14 : decode cX6_init 14 = .ok (.aload_n 0, 1) := by decide +kernel
theorem dX6_init_15 : decode cX6_init 15 = .ok (.aload_n 3, 1) := by decide +kernel
theorem dX6_init_16 : decode cX6_init 16 = .ok (.putfield 19, 3) := by decide +kernel
theorem dX6_init_19 : decode cX6_init 19 = .ok (.aload_n 0, 1) := by decide +kernel
theorem dX6_init_20 : decode cX6_init 20 = .ok (.aload 4, 2) := by decide +kernel
theorem dX6_init_22 : decode cX6_init 22 = .ok (.putfield 23, 3) := by decide +kernel
theorem dX6_init_25 : decode cX6_init 25 = .ok (.return_, 1) := by decide +kernel
theorem dX7_init_0 : decode cX7_init 0 = .ok (.aload_n 0, 1) := by decide +kernel
theorem dX7_init_1 : decode cX7_init 1 = .ok (.invokespecial 3, 3) := by decide +kernel
theorem dX7_init_4 : decode cX7_init 4 = .ok (.aload_n 0, 1) := by decide +kernel
theorem dX7_init_5 : decode cX7_init 5 = .ok (.sipush 200, 3) := by decide +kernel
theorem dX7_init_8 : decode cX7_init 8 = .ok (.newarray .int, 2) := by decide +kernel
theorem dX7_init_10 : decode cX7_init 10 = .ok (.putfield 9, 3) := by decide +kernel
theorem dX7_init_13 : decode cX7_init 13 = .ok (.aload_n 0, 1) := by decide +kernel
theorem dX7_init_14 : decode cX7_init 14 = .ok (.sipush 200, 3) := by decide +kernel
theorem dX7_init_17 : decode cX7_init 17 = .ok (.newarray .boolean, 2) := by decide +kernel
theorem dX7_init_19 : decode cX7_init 19 = .ok (.putfield 15, 3) := by decide +kernel
theorem dX7_init_22 : decode cX7_init 22 = .ok (.aload_n 0, 1) := by decide +kernel
theorem dX7_init_23 : decode cX7_init 23 = .ok (.getfield 15, 3) := by decide +kernel
theorem dX7_init_26 : decode cX7_init 26 = .ok (.iconst 2, 1) := by decide +kernel
theorem dX7_init_27 : decode cX7_init 27 = .ok (.iconst 1, 1) := by decide +kernel
theorem dX7_init_28 : decode cX7_init 28 = .ok (.bastore, 1) := by decide +kernel
theorem dX7_init_29 : decode cX7_init 29 = .ok (.aload_n 0, 1) := by decide +kernel
theorem dX7_init_30 : decode cX7_init 30 = .ok (.getfield 15, 3) := by decide +kernel
theorem dX7_init_33 : decode cX7_init 33 = .ok (.iconst 3, 1) := by decide +kernel
theorem dX7_init_34 : decode cX7_init 34 = .ok (.iconst 1, 1) := by decide +kernel
theorem dX7_init_35 : decode cX7_init 35 = .ok (.bastore, 1) := by decide +kernel
theorem dX7_init_36 : decode cX7_init 36 = .ok (.aload_n 0, 1) := by decide +kernel
theorem dX7_init_37 : decode cX7_init 37 = .ok (.iconst 4, 1) := by decide +kernel
theorem dX7_init_38 : decode cX7_init 38 = .ok (.putfield 19, 3) := by decide +kernel
theorem dX7_init_41 : decode cX7_init 41 = .ok (.return_, 1) := by decide +kernel
theorem dX7_enter_0 : decode cX7_enter 0 = .ok (.aload_n 0, 1) := by decide +kernel
theorem dX7_enter_1 : decode cX7_enter 1 = .ok (.getfield 9, 3) := by decide +kernel
theorem dX7_enter_4 : decode cX7_enter 4 = .ok (.aload_n 0, 1) := by decide +kernel
theorem dX7_enter_5 : decode cX7_enter 5 = .ok (.getfield 19, 3) := by decide +kernel
theorem dX7_enter_8 : decode cX7_enter 8 = .ok (.iload_n 1, 1) := by decide +kernel
theorem dX7_enter_9 : decode cX7_enter 9 = .ok (.iastore, 1) := by decide +kernel
theorem dX7_enter_10 : decode cX7_enter 10 = .ok (.aload_n 0, 1) := by decide +kernel
theorem dX7_enter_11 : decode cX7_enter 11 = .ok (.getfield 15, 3) := by decide +kernel
theorem dX7_enter_14 : decode cX7_enter 14 = .ok (.aload_n 0, 1) := by decide +kernel
theorem dX7_enter_15 : decode cX7_enter 15 = .ok (.getfield 19, 3) := by decide +kernel
theorem dX7_enter_18 : decode cX7_enter 18 = .ok (.iload_n 2, 1) := by decide +kernel
theorem dX7_enter_19 : decode cX7_enter 19 = .ok (.bastore, 1) := by decide +kernel
theorem dX7_enter_20 : decode cX7_enter 20 = .ok (.aload_n 0, 1) := by decide +kernel
theorem dX7_enter_21 : decode cX7_enter 21 = .ok (.dup, 1) := by decide +kernel
theorem dX7_enter_22 : decode cX7_enter 22 = .ok (.getfield 19, 3) := by decide +kernel
theorem dX7_enter_25 : decode cX7_enter 25 = .ok (.dup_x1, 1) := by decide +kernel
theorem dX7_enter_26 : decode cX7_enter 26 = .ok (.iconst 1, 1) := by decide +kernel
theorem dX7_enter_27 : decode cX7_enter 27 = .ok (.iadd, 1) := by decide +kernel
theorem dX7_enter_28 : decode cX7_enter 28 = .ok (.putfield 19, 3) := by decide +kernel
theorem dX7_enter_31 : decode cX7_enter 31 = .ok (.ireturn, 1) := by decide +kernel
theorem dX7_isClass_0 : decode cX7_isClass 0 = .ok (.iload_n 1, 1) := by decide +kernel
theorem dX7_isClass_1 : decode cX7_isClass 1 = .ok (.ifCond .lt 15, 3) := by decide +kernel
theorem dX7_isClass_4 : decode cX7_isClass 4 = .ok (.iload_n 1, 1) := by decide +kernel
theorem dX7_isClass_5 : decode cX7_isClass 5 = .ok (.aload_n 0, 1) := by decide +kernel
theorem dX7_isClass_6 : decode cX7_isClass 6 = .ok (.getfield 19, 3) := by decide +kernel
theorem dX7_isClass_9 : decode cX7_isClass 9 = .ok (.if_icmp .ge 7, 3) := by decide +kernel
theorem dX7_isClass_12 : decode cX7_isClass 12 = .ok (.iconst 1, 1) := by decide +kernel
theorem dX7_isClass_13 : decode cX7_isClass 13 = .ok (.goto 4, 3) := by decide +kernel
theorem dX7_isClass_16 : decode cX7_isClass 16 = .ok (.iconst 0, 1) := by decide +kernel
theorem dX7_isClass_17 : decode cX7_isClass 17 = .ok (.ireturn, 1) := by decide +kernel
set_option maxRecDepth 20000 in
theorem ggX7_isType_X7_dimensionsOf : GoodIn wsX7_isType wsX7_dimensionsOf := goodIn_r _ [7] (by decide +kernel) (by decide +kernel)
set_option maxRecDepth 20000 in
theorem gX7_isType_X7_dimensionsOf : GoodIn wsX7_isType (va_wsS RX7 24 yX7_dimensionsOf wsX7_dimensionsOf) := goodIn_app (goodIn_of _ (by decide +kernel)) ggX7_isType_X7_dimensionsOf
theorem dX7_isType_0 : decode cX7_isType 0 = .ok (.iload_n 1, 1) := by decide +kernel
theorem dX7_isType_1 : decode cX7_isType 1 = .ok (.ldc 23, 2) := by decide +kernel
theorem dX7_isType_3 : decode cX7_isType 3 = .ok (.iand, 1) := by decide +kernel
theorem dX7_isType_4 : decode cX7_isType 4 = .ok (.istore_n 2, 1) := by decide +kernel
theorem dX7_isType_5 : decode cX7_isType 5 = .ok (.iload_n 1, 1) := by decide +kernel
theorem dX7_isType_6 : decode cX7_isType 6 = .ok (.ifCond .lt 31, 3) := by decide +kernel
theorem dX7_isType_9 : decode cX7_isType 9 = .ok (.iload_n 1, 1) := by decide +kernel
theorem dX7_isType_10 : decode cX7_isType 10 = .ok (.invokestatic 24, 3) := by decide +kernel
theorem dX7_isType_13 : decode cX7_isType 13 = .ok (.sipush 255, 3) := by decide +kernel
theorem dX7_isType_16 : decode cX7_isType 16 = .ok (.if_icmp .gt 21, 3) := by decide +kernel
theorem dX7_isType_19 : decode cX7_isType 19 = .ok (.iload_n 2, 1) := by decide +kernel
theorem dX7_isType_20 : decode cX7_isType 20 = .ok (.aload_n 0, 1) := by decide +kernel
theorem dX7_isType_21 : decode cX7_isType 21 = .ok (.getfield 19, 3) := by decide +kernel
theorem dX7_isType_24 : decode cX7_isType 24 = .ok (.if_icmp .lt 9, 3) := by decide +kernel
theorem dX7_isType_27 : decode cX7_isType 27 = .ok (.iload_n 2, 1) := by decide +kernel
theorem dX7_isType_28 : decode cX7_isType 28 = .ok (.ldc 28, 2) := by decide +kernel
theorem dX7_isType_30 : decode cX7_isType 30 = .ok (.if_icmp .lt 7, 3) := by decide +kernel
theorem dX7_isType_33 : decode cX7_isType 33 = .ok (.iconst 1, 1) := by decide +kernel
theorem dX7_isType_34 : decode cX7_isType 34 = .ok (.goto 4, 3) := by decide +kernel
theorem dX7_isType_37 : decode cX7_isType 37 = .ok (.iconst 0, 1) := by decide +kernel
theorem dX7_isType_38 : decode cX7_isType 38 = .ok (.ireturn, 1) := by decide +kernel
set_option maxRecDepth 20000 in
theorem ggX7_isReference_X7_isType : GoodIn wsX7_isReference wsX7_isType := goodIn_r _ [5, 6, 7, 8, 9, 10, 4, 11, 16, 17, 18] (by decide +kernel) (by decide +kernel)
set_option maxRecDepth 20000 in
theorem gX7_isReference_X7_isType : GoodIn wsX7_isReference (wsV RX7 29 RX7 yX7_isType wsX7_isType) := goodIn_app (goodIn_of _ (by decide +kernel)) ggX7_isReference_X7_isType
set_option maxRecDepth 20000 in
theorem ggX7_isReference_X7_isPrimitive : GoodIn wsX7_isReference wsX7_isPrimitive := goodIn_r _ [14, 8, 15] (by decide +kernel) (by decide +kernel)
set_option maxRecDepth 20000 in
theorem gX7_isReference_X7_isPrimitive : GoodIn wsX7_isReference (va_wsS RX7 33 yX7_isPrimitive wsX7_isPrimitive) := goodIn_app (goodIn_of _ (by decide +kernel)) ggX7_isReference_X7_isPrimitive
theorem dX7_isReference_0 : decode cX7_isReference 0 = .ok (.aload_n 0, 1) := by decide +kernel
theorem dX7_isReference_1 : decode cX7_isReference 1 = .ok (.iload_n 1, 1) := by decide +kernel
theorem dX7_isReference_2 : decode cX7_isReference 2 = .ok (.invokevirtual 29, 3) := by decide +kernel
theorem dX7_isReference_5 : decode cX7_isReference 5 = .ok (.ifCond .eq 14, 3) := by decide +kernel
theorem dX7_isReference_8 : decode cX7_isReference 8 = .ok (.iload_n 1, 1) := by decide +kernel
theorem dX7_isReference_9 : decode cX7_isReference 9 = .ok (.invokestatic 33, 3) := by decide +kernel
theorem dX7_isReference_12 : decode cX7_isReference 12 = .ok (.ifCond .ne 7, 3) := by decide +kernel
theorem dX7_isReference_15 : decode cX7_isReference 15 = .ok (.iconst 1, 1) := by decide +kernel
theorem dX7_isReference_16 : decode cX7_isReference 16 = .ok (.goto 4, 3) := by decide +kernel
theorem dX7_isReference_19 : decode cX7_isReference 19 = .ok (.iconst 0, 1) := by decide +kernel
theorem dX7_isReference_20 : decode cX7_isReference 20 = .ok (.ireturn, 1) := by decide +kernel
set_option maxRecDepth 20000 in
theorem ggX7_isResult_X7_isType : GoodIn wsX7_isResult wsX7_isType := goodIn_r _ [5, 6, 7, 8, 9, 10, 4, 11, 12, 13, 14] (by decide +kernel) (by decide +kernel)
set_option maxRecDepth 20000 in
theorem gX7_isResult_X7_isType : GoodIn wsX7_isResult (wsV RX7 29 RX7 yX7_isType wsX7_isType) := goodIn_app (goodIn_of _ (by decide +kernel)) ggX7_isResult_X7_isType
theorem dX7_isResult_0 : decode cX7_isResult 0 = .ok (.iload_n 1, 1) := by decide +kernel
theorem dX7_isResult_1 : decode cX7_isResult 1 = .ok (.iconst (-1), 1) := by decide +kernel
theorem dX7_isResult_2 : decode cX7_isResult 2 = .ok (.if_icmp .eq 11, 3) := by decide +kernel
theorem dX7_isResult_5 : decode cX7_isResult 5 = .ok (.aload_n 0, 1) := by decide +kernel
theorem dX7_isResult_6 : decode cX7_isResult 6 = .ok (.iload_n 1, 1) := by decide +kernel
theorem dX7_isResult_7 : decode cX7_isResult 7 = .ok (.invokevirtual 29, 3) := by decide +kernel
theorem dX7_isResult_10 : decode cX7_isResult 10 = .ok (.ifCond .eq 7, 3) := by decide +kernel
theorem dX7_isResult_13 : decode cX7_isResult 13 = .ok (.iconst 1, 1) := by decide +kernel
theorem dX7_isResult_14 : decode cX7_isResult 14 = .ok (.goto 4, 3) := by decide +kernel
theorem dX7_isResult_17 : decode cX7_isResult 17 = .ok (.iconst 0, 1) := by decide +kernel
theorem dX7_isResult_18 : decode cX7_isResult 18 = .ok (.ireturn, 1) := by decide +kernel
theorem dX7_isPrimitive_0 : decode cX7_isPrimitive 0 = .ok (.iload_n 0, 1) := by decide +kernel
theorem dX7_isPrimitive_1 : decode cX7_isPrimitive 1 = .ok (.ldc 28, 2) := by decide +kernel
theorem dX7_isPrimitive_3 : decode cX7_isPrimitive 3 = .ok (.if_icmp .lt 13, 3) := by decide +kernel
theorem dX7_isPrimitive_6 : decode cX7_isPrimitive 6 = .ok (.iload_n 0, 1) := by decide +kernel
theorem dX7_isPrimitive_7 : decode cX7_isPrimitive 7 = .ok (.ldc 36, 2) := by decide +kernel
theorem dX7_isPrimitive_9 : decode cX7_isPrimitive 9 = .ok (.if_icmp .ge 7, 3) := by decide +kernel
theorem dX7_isPrimitive_12 : decode cX7_isPrimitive 12 = .ok (.iconst 1, 1) := by decide +kernel
theorem dX7_isPrimitive_13 : decode cX7_isPrimitive 13 = .ok (.goto 4, 3) := by decide +kernel
theorem dX7_isPrimitive_16 : decode cX7_isPrimitive 16 = .ok (.iconst 0, 1) := by decide +kernel
theorem dX7_isPrimitive_17 : decode cX7_isPrimitive 17 = .ok (.ireturn, 1) := by decide +kernel
theorem dX7_dimensionsOf_0 : decode cX7_dimensionsOf 0 = .ok (.iload_n 0, 1) := by decide +kernel
theorem dX7_dimensionsOf_1 : decode cX7_dimensionsOf 1 = .ok (.bipush 16, 2) := by decide +kernel
theorem dX7_dimensionsOf_3 : decode cX7_dimensionsOf 3 = .ok (.iushr, 1) := by decide +kernel
theorem dX7_dimensionsOf_4 : decode cX7_dimensionsOf 4 = .ok (.ireturn, 1) := by decide +kernel
theorem dX7_widthOf_0 : decode cX7_widthOf 0 = .ok (.iload_n 0, 1) := by decide +kernel
theorem dX7_widthOf_1 : decode cX7_widthOf 1 = .ok (.ldc 23, 2) := by decide +kernel
theorem dX7_widthOf_3 : decode cX7_widthOf 3 = .ok (.if_icmp .eq 9, 3) := by decide +kernel
theorem dX7_widthOf_6 : decode cX7_widthOf 6 = .ok (.iload_n 0, 1) := by decide +kernel
theorem dX7_widthOf_7 : decode cX7_widthOf 7 = .ok (.ldc 37, 2) := by decide +kernel
theorem dX7_widthOf_9 : decode cX7_widthOf 9 = .ok (.if_icmp .ne 7, 3) := by decide +kernel
theorem dX7_widthOf_12 : decode cX7_widthOf 12 = .ok (.iconst 2, 1) := by decide +kernel
theorem dX7_widthOf_13 : decode cX7_widthOf 13 = .ok (.goto 4, 3) := by decide +kernel
theorem dX7_widthOf_16 : decode cX7_widthOf 16 = .ok (.iconst 1, 1) := by decide +kernel
theorem dX7_widthOf_17 : decode cX7_widthOf 17 = .ok (.ireturn, 1) := by decide +kernel
set_option maxRecDepth 20000 in
theorem ggX7_mayStand_X7_isPrimitive : GoodIn wsX7_mayStand wsX7_isPrimitive := goodIn_r _ [5, 6, 7] (by decide +kernel) (by decide +kernel)
set_option maxRecDepth 20000 in
theorem gX7_mayStand_X7_isPrimitive : GoodIn wsX7_mayStand (va_wsS RX7 33 yX7_isPrimitive wsX7_isPrimitive) := goodIn_app (goodIn_of _ (by decide +kernel)) ggX7_mayStand_X7_isPrimitive
set_option maxRecDepth 20000 in
theorem ggX7_mayStand_X7_dimensionsOf : GoodIn wsX7_mayStand wsX7_dimensionsOf := goodIn_r _ [10] (by decide +kernel) (by decide +kernel)
set_option maxRecDepth 20000 in
theorem gX7_mayStand_X7_dimensionsOf : GoodIn wsX7_mayStand (va_wsS RX7 24 yX7_dimensionsOf wsX7_dimensionsOf) := goodIn_app (goodIn_of _ (by decide +kernel)) ggX7_mayStand_X7_dimensionsOf
set_option maxRecDepth 20000 in
theorem ggX7_mayStand_X7_mayClassStand : GoodIn wsX7_mayStand wsX7_mayClassStand := goodIn_r _ [14, 15, 16, 17, 18, 19, 20] (by decide +kernel) (by decide +kernel)
set_option maxRecDepth 20000 in
theorem gX7_mayStand_X7_mayClassStand : GoodIn wsX7_mayStand (wsV RX7 38 RX7 yX7_mayClassStand wsX7_mayClassStand) := goodIn_app (goodIn_of _ (by decide +kernel)) ggX7_mayStand_X7_mayClassStand
theorem dX7_mayStand_0 : decode cX7_mayStand 0 = .ok (.iload_n 1, 1) := by decide +kernel
theorem dX7_mayStand_1 : decode cX7_mayStand 1 = .ok (.iload_n 2, 1) := by decide +kernel
theorem dX7_mayStand_2 : decode cX7_mayStand 2 = .ok (.if_icmp .ne 5, 3) := by decide +kernel
theorem dX7_mayStand_5 : decode cX7_mayStand 5 = .ok (.iconst 1, 1) := by decide +kernel
theorem dX7_mayStand_6 : decode cX7_mayStand 6 = .ok (.ireturn, 1) := by decide +kernel
theorem dX7_mayStand_7 : decode cX7_mayStand 7 = .ok (.iload_n 1, 1) := by decide +kernel
theorem dX7_mayStand_8 : decode cX7_mayStand 8 = .ok (.invokestatic 33, 3) := by decide +kernel
theorem dX7_mayStand_11 : decode cX7_mayStand 11 = .ok (.ifCond .ne 10, 3) := by decide +kernel
theorem dX7_mayStand_14 : decode cX7_mayStand 14 = .ok (.iload_n 2, 1) := by decide +kernel
theorem dX7_mayStand_15 : decode cX7_mayStand 15 = .ok (.invokestatic 33, 3) := by decide +kernel
theorem dX7_mayStand_18 : decode cX7_mayStand 18 = .ok (.ifCond .eq 5, 3) := by decide +kernel
theorem dX7_mayStand_21 : decode cX7_mayStand 21 = .ok (.iconst 0, 1) := by decide +kernel
theorem dX7_mayStand_22 : decode cX7_mayStand 22 = .ok (.ireturn, 1) := by decide +kernel
theorem dX7_mayStand_23 : decode cX7_mayStand 23 = .ok (.iload_n 2, 1) := by decide +kernel
theorem dX7_mayStand_24 : decode cX7_mayStand 24 = .ok (.ldc 23, 2) := by decide +kernel
theorem dX7_mayStand_26 : decode cX7_mayStand 26 = .ok (.iand, 1) := by decide +kernel
theorem dX7_mayStand_27 : decode cX7_mayStand 27 = .ok (.istore_n 3, 1) := by decide +kernel
theorem dX7_mayStand_28 : decode cX7_mayStand 28 = .ok (.iload_n 1, 1) := by decide +kernel
theorem dX7_mayStand_29 : decode cX7_mayStand 29 = .ok (.invokestatic 24, 3) := by decide +kernel
theorem dX7_mayStand_32 : decode cX7_mayStand 32 = .ok (.iload_n 2, 1) := by decide +kernel
theorem dX7_mayStand_33 : decode cX7_mayStand 33 = .ok (.invokestatic 24, 3) := by decide +kernel
theorem dX7_mayStand_36 : decode cX7_mayStand 36 = .ok (.isub, 1) := by decide +kernel
theorem dX7_mayStand_37 : decode cX7_mayStand 37 = .ok (.istore 4, 2) := by decide +kernel
theorem dX7_mayStand_39 : decode cX7_mayStand 39 = .ok (.iload 4, 2) := by decide +kernel
theorem dX7_mayStand_41 : decode cX7_mayStand 41 = .ok (.ifCond .le 23, 3) := by decide +kernel
theorem dX7_mayStand_44 : decode cX7_mayStand 44 = .ok (.iload_n 3, 1) := by decide +kernel
theorem dX7_mayStand_45 : decode cX7_mayStand 45 = .ok (.ifCond .eq 13, 3) := by decide +kernel
theorem dX7_mayStand_48 : decode cX7_mayStand 48 = .ok (.iload_n 3, 1) := by decide +kernel
theorem dX7_mayStand_49 : decode cX7_mayStand 49 = .ok (.iconst 2, 1) := by decide +kernel
theorem dX7_mayStand_50 : decode cX7_mayStand 50 = .ok (.if_icmp .eq 8, 3) := by decide +kernel
theorem dX7_mayStand_53 : decode cX7_mayStand 53 = .ok (.iload_n 3, 1) := by decide +kernel
theorem dX7_mayStand_54 : decode cX7_mayStand 54 = .ok (.iconst 3, 1) := by decide +kernel
theorem dX7_mayStand_55 : decode cX7_mayStand 55 = .ok (.if_icmp .ne 7, 3) := by decide +kernel
theorem dX7_mayStand_58 : decode cX7_mayStand 58 = .ok (.iconst 1, 1) := by decide +kernel
theorem dX7_mayStand_59 : decode cX7_mayStand 59 = .ok (.goto 4, 3) := by decide +kernel
theorem dX7_mayStand_62 : decode cX7_mayStand 62 = .ok (.iconst 0, 1) := by decide +kernel
theorem dX7_mayStand_63 : decode cX7_mayStand 63 = .ok (.ireturn, 1) := by decide +kernel
theorem dX7_mayStand_64 : decode cX7_mayStand 64 = .ok (.iload 4, 2) := by decide +kernel
theorem dX7_mayStand_66 : decode cX7_mayStand 66 = .ok (.ifCond .ne 19, 3) := by decide +kernel
theorem dX7_mayStand_69 : decode cX7_mayStand 69 = .ok (.aload_n 0, 1) := by decide +kernel
theorem dX7_mayStand_70 : decode cX7_mayStand 70 = .ok (.iload_n 1, 1) := by decide +kernel
theorem dX7_mayStand_71 : decode cX7_mayStand 71 = .ok (.ldc 23, 2) := by decide +kernel
theorem dX7_mayStand_73 : decode cX7_mayStand 73 = .ok (.iand, 1) := by decide +kernel
theorem dX7_mayStand_74 : decode cX7_mayStand 74 = .ok (.iload_n 3, 1) := by decide +kernel
theorem dX7_mayStand_75 : decode cX7_mayStand 75 = .ok (.invokevirtual 38, 3) := by decide +kernel
theorem dX7_mayStand_78 : decode cX7_mayStand 78 = .ok (.ifCond .eq 7, 3) := by decide +kernel
theorem dX7_mayStand_81 : decode cX7_mayStand 81 = .ok (.iconst 1, 1) := by decide +kernel
theorem dX7_mayStand_82 : decode cX7_mayStand 82 = .ok (.goto 4, 3) := by decide +kernel
theorem dX7_mayStand_85 : decode cX7_mayStand 85 = .ok (.iconst 0, 1) := by decide +kernel
theorem dX7_mayStand_86 : decode cX7_mayStand 86 = .ok (.ireturn, 1) := by decide +kernel
theorem dX7_mayClassStand_0 : decode cX7_mayClassStand 0 = .ok (.iload_n 1, 1) := by decide +kernel
theorem dX7_mayClassStand_1 : decode cX7_mayClassStand 1 = .ok (.aload_n 0, 1) := by decide +kernel
theorem dX7_mayClassStand_2 : decode cX7_mayClassStand 2 = .ok (.getfield 19, 3) := by decide +kernel
theorem dX7_mayClassStand_5 : decode cX7_mayClassStand 5 = .ok (.if_icmp .ge 11, 3) := by decide +kernel
theorem dX7_mayClassStand_8 : decode cX7_mayClassStand 8 = .ok (.iload_n 2, 1) := by decide +kernel
theorem dX7_mayClassStand_9 : decode cX7_mayClassStand 9 = .ok (.aload_n 0, 1) := by decide +kernel
theorem dX7_mayClassStand_10 : decode cX7_mayClassStand 10 = .ok (.getfield 19, 3) := by decide +kernel
theorem dX7_mayClassStand_13 : decode cX7_mayClassStand 13 = .ok (.if_icmp .lt 5, 3) := by decide +kernel
theorem dX7_mayClassStand_16 : decode cX7_mayClassStand 16 = .ok (.iconst 0, 1) := by decide +kernel
theorem dX7_mayClassStand_17 : decode cX7_mayClassStand 17 = .ok (.ireturn, 1) := by decide +kernel
theorem dX7_mayClassStand_18 : decode cX7_mayClassStand 18 = .ok (.iload_n 2, 1) := by decide +kernel
theorem dX7_mayClassStand_19 : decode cX7_mayClassStand 19 = .ok (.ifCond .eq 12, 3) := by decide +kernel
theorem dX7_mayClassStand_22 : decode cX7_mayClassStand 22 = .ok (.aload_n 0, 1) := by decide +kernel
theorem dX7_mayClassStand_23 : decode cX7_mayClassStand 23 = .ok (.getfield 15, 3) := by decide +kernel
theorem dX7_mayClassStand_26 : decode cX7_mayClassStand 26 = .ok (.iload_n 2, 1) := by decide +kernel
theorem dX7_mayClassStand_27 : decode cX7_mayClassStand 27 = .ok (.baload, 1) := by decide +kernel
theorem dX7_mayClassStand_28 : decode cX7_mayClassStand 28 = .ok (.ifCond .eq 5, 3) := by decide +kernel
theorem dX7_mayClassStand_31 : decode cX7_mayClassStand 31 = .ok (.iconst 1, 1) := by decide +kernel
theorem dX7_mayClassStand_32 : decode cX7_mayClassStand 32 = .ok (.ireturn, 1) := by decide +kernel
theorem dX7_mayClassStand_33 : decode cX7_mayClassStand 33 = .ok (.iload_n 1, 1) := by decide +kernel
theorem dX7_mayClassStand_34 : decode cX7_mayClassStand 34 = .ok (.istore_n 3, 1) := by decide +kernel
theorem dX7_mayClassStand_35 : decode cX7_mayClassStand 35 = .ok (.iconst 0, 1) := by decide +kernel
theorem dX7_mayClassStand_36 : decode cX7_mayClassStand 36 = .ok (.istore 4, 2) := by decide +kernel
theorem dX7_mayClassStand_38 : decode cX7_mayClassStand 38 = .ok (.iload 4, 2) := by decide +kernel
theorem dX7_mayClassStand_40 : decode cX7_mayClassStand 40 = .ok (.sipush 200, 3) := by decide +kernel
theorem dX7_mayClassStand_43 : decode cX7_mayClassStand 43 = .ok (.if_icmp .ge 21, 3) := by decide +kernel
theorem dX7_mayClassStand_46 : decode cX7_mayClassStand 46 = .ok (.iload_n 3, 1) := by decide +kernel
theorem dX7_mayClassStand_47 : decode cX7_mayClassStand 47 = .ok (.iload_n 2, 1) := by decide +kernel
theorem dX7_mayClassStand_48 : decode cX7_mayClassStand 48 = .ok (.if_icmp .le 16, 3) := by decide +kernel
theorem dX7_mayClassStand_51 : decode cX7_mayClassStand 51 = .ok (.aload_n 0, 1) := by decide +kernel
theorem dX7_mayClassStand_52 : decode cX7_mayClassStand 52 = .ok (.getfield 9, 3) := by decide +kernel
theorem dX7_mayClassStand_55 : decode cX7_mayClassStand 55 = .ok (.iload_n 3, 1) := by decide +kernel
theorem dX7_mayClassStand_56 : decode cX7_mayClassStand 56 = .ok (.iaload, 1) := by decide +kernel
theorem dX7_mayClassStand_57 : decode cX7_mayClassStand 57 = .ok (.istore_n 3, 1) := by decide +kernel
theorem dX7_mayClassStand_58 : decode cX7_mayClassStand 58 = .ok (.iinc 4 1, 3) := by decide +kernel
theorem dX7_mayClassStand_61 : decode cX7_mayClassStand 61 = .ok (.goto (-23), 3) := by decide +kernel
theorem dX7_mayClassStand_64 : decode cX7_mayClassStand 64 = .ok (.iload_n 3, 1) := by decide +kernel
theorem dX7_mayClassStand_65 : decode cX7_mayClassStand 65 = .ok (.iload_n 2, 1) := by decide +kernel
theorem dX7_mayClassStand_66 : decode cX7_mayClassStand 66 = .ok (.if_icmp .ne 7, 3) := by decide +kernel
theorem dX7_mayClassStand_69 : decode cX7_mayClassStand 69 = .ok (.iconst 1, 1) := by decide +kernel
theorem dX7_mayClassStand_70 : decode cX7_mayClassStand 70 = .ok (.goto 4, 3) := by decide +kernel
theorem dX7_mayClassStand_73 : decode cX7_mayClassStand 73 = .ok (.iconst 0, 1) := by decide +kernel
theorem dX7_mayClassStand_74 : decode cX7_mayClassStand 74 = .ok (.ireturn, 1) := by decide +kernel
set_option maxRecDepth 20000 in
theorem ggX7_sharedOf_X7_dimensionsOf : GoodIn wsX7_sharedOf wsX7_dimensionsOf := goodIn_r _ [8] (by decide +kernel) (by decide +kernel)
set_option maxRecDepth 20000 in
theorem gX7_sharedOf_X7_dimensionsOf : GoodIn wsX7_sharedOf (va_wsS RX7 24 yX7_dimensionsOf wsX7_dimensionsOf) := goodIn_app (goodIn_of _ (by decide +kernel)) ggX7_sharedOf_X7_dimensionsOf
theorem dX7_sharedOf_0 : decode cX7_sharedOf 0 = .ok (.iload_n 1, 1) := by decide +kernel
theorem dX7_sharedOf_1 : decode cX7_sharedOf 1 = .ok (.iload_n 2, 1) := by decide +kernel
theorem dX7_sharedOf_2 : decode cX7_sharedOf 2 = .ok (.if_icmp .ne 5, 3) := by decide +kernel
theorem dX7_sharedOf_5 : decode cX7_sharedOf 5 = .ok (.iload_n 1, 1) := by decide +kernel
theorem dX7_sharedOf_6 : decode cX7_sharedOf 6 = .ok (.ireturn, 1) := by decide +kernel
theorem dX7_sharedOf_7 : decode cX7_sharedOf 7 = .ok (.iload_n 1, 1) := by decide +kernel
theorem dX7_sharedOf_8 : decode cX7_sharedOf 8 = .ok (.ldc 23, 2) := by decide +kernel
theorem dX7_sharedOf_10 : decode cX7_sharedOf 10 = .ok (.iand, 1) := by decide +kernel
theorem dX7_sharedOf_11 : decode cX7_sharedOf 11 = .ok (.istore_n 3, 1) := by decide +kernel
theorem dX7_sharedOf_12 : decode cX7_sharedOf 12 = .ok (.iload_n 2, 1) := by decide +kernel
theorem dX7_sharedOf_13 : decode cX7_sharedOf 13 = .ok (.ldc 23, 2) := by decide +kernel
theorem dX7_sharedOf_15 : decode cX7_sharedOf 15 = .ok (.iand, 1) := by decide +kernel
theorem dX7_sharedOf_16 : decode cX7_sharedOf 16 = .ok (.istore 4, 2) := by decide +kernel
theorem dX7_sharedOf_18 : decode cX7_sharedOf 18 = .ok (.iload_n 1, 1) := by decide +kernel
theorem dX7_sharedOf_19 : decode cX7_sharedOf 19 = .ok (.invokestatic 24, 3) := by decide +kernel
theorem dX7_sharedOf_22 : decode cX7_sharedOf 22 = .ok (.istore 5, 2) := by decide +kernel
theorem dX7_sharedOf_24 : decode cX7_sharedOf 24 = .ok (.iload_n 2, 1) := by decide +kernel
theorem dX7_sharedOf_25 : decode cX7_sharedOf 25 = .ok (.invokestatic 24, 3) := by decide +kernel
theorem dX7_sharedOf_28 : decode cX7_sharedOf 28 = .ok (.istore 6, 2) := by decide +kernel
theorem dX7_sharedOf_30 : decode cX7_sharedOf 30 = .ok (.iload 5, 2) := by decide +kernel
theorem dX7_sharedOf_32 : decode cX7_sharedOf 32 = .ok (.iload 6, 2) := by decide +kernel
theorem dX7_sharedOf_34 : decode cX7_sharedOf 34 = .ok (.if_icmp .ne 20, 3) := by decide +kernel
theorem dX7_sharedOf_37 : decode cX7_sharedOf 37 = .ok (.iload_n 3, 1) := by decide +kernel
theorem dX7_sharedOf_38 : decode cX7_sharedOf 38 = .ok (.aload_n 0, 1) := by decide +kernel
theorem dX7_sharedOf_39 : decode cX7_sharedOf 39 = .ok (.getfield 19, 3) := by decide +kernel
theorem dX7_sharedOf_42 : decode cX7_sharedOf 42 = .ok (.if_icmp .ge 12, 3) := by decide +kernel
theorem dX7_sharedOf_45 : decode cX7_sharedOf 45 = .ok (.iload 4, 2) := by decide +kernel
theorem dX7_sharedOf_47 : decode cX7_sharedOf 47 = .ok (.aload_n 0, 1) := by decide +kernel
theorem dX7_sharedOf_48 : decode cX7_sharedOf 48 = .ok (.getfield 19, 3) := by decide +kernel
theorem dX7_sharedOf_51 : decode cX7_sharedOf 51 = .ok (.if_icmp .lt 56, 3) := by decide +kernel
theorem dX7_sharedOf_54 : decode cX7_sharedOf 54 = .ok (.iload_n 3, 1) := by decide +kernel
theorem dX7_sharedOf_55 : decode cX7_sharedOf 55 = .ok (.ldc 28, 2) := by decide +kernel
theorem dX7_sharedOf_57 : decode cX7_sharedOf 57 = .ok (.if_icmp .ge 8, 3) := by decide +kernel
theorem dX7_sharedOf_60 : decode cX7_sharedOf 60 = .ok (.iload 5, 2) := by decide +kernel
theorem dX7_sharedOf_62 : decode cX7_sharedOf 62 = .ok (.goto 7, 3) := by decide +kernel
theorem dX7_sharedOf_65 : decode cX7_sharedOf 65 = .ok (.iload 5, 2) := by decide +kernel
theorem dX7_sharedOf_67 : decode cX7_sharedOf 67 = .ok (.iconst 1, 1) := by decide +kernel
theorem dX7_sharedOf_68 : decode cX7_sharedOf 68 = .ok (.isub, 1) := by decide +kernel
theorem dX7_sharedOf_69 : decode cX7_sharedOf 69 = .ok (.istore 7, 2) := by decide +kernel
theorem dX7_sharedOf_71 : decode cX7_sharedOf 71 = .ok (.iload 4, 2) := by decide +kernel
theorem dX7_sharedOf_73 : decode cX7_sharedOf 73 = .ok (.ldc 28, 2) := by decide +kernel
theorem dX7_sharedOf_75 : decode cX7_sharedOf 75 = .ok (.if_icmp .ge 8, 3) := by decide +kernel
theorem dX7_sharedOf_78 : decode cX7_sharedOf 78 = .ok (.iload 6, 2) := by decide +kernel
theorem dX7_sharedOf_80 : decode cX7_sharedOf 80 = .ok (.goto 7, 3) := by decide +kernel
theorem dX7_sharedOf_83 : decode cX7_sharedOf 83 = .ok (.iload 6, 2) := by decide +kernel
theorem dX7_sharedOf_85 : decode cX7_sharedOf 85 = .ok (.iconst 1, 1) := by decide +kernel
theorem dX7_sharedOf_86 : decode cX7_sharedOf 86 = .ok (.isub, 1) := by decide +kernel
theorem dX7_sharedOf_87 : decode cX7_sharedOf 87 = .ok (.istore 8, 2) := by decide +kernel
theorem dX7_sharedOf_89 : decode cX7_sharedOf 89 = .ok (.iload 7, 2) := by decide +kernel
theorem dX7_sharedOf_91 : decode cX7_sharedOf 91 = .ok (.iload 8, 2) := by decide +kernel
theorem dX7_sharedOf_93 : decode cX7_sharedOf 93 = .ok (.if_icmp .ge 8, 3) := by decide +kernel
theorem dX7_sharedOf_96 : decode cX7_sharedOf 96 = .ok (.iload 7, 2) := by decide +kernel
theorem dX7_sharedOf_98 : decode cX7_sharedOf 98 = .ok (.goto 5, 3) := by decide +kernel
theorem dX7_sharedOf_101 : decode cX7_sharedOf 101 = .ok (.iload 8, 2) := by decide +kernel
theorem dX7_sharedOf_103 : decode cX7_sharedOf 103 = .ok (.bipush 16, 2) := by decide +kernel
theorem dX7_sharedOf_105 : decode cX7_sharedOf 105 = .ok (.ishl, 1) := by decide +kernel
theorem dX7_sharedOf_106 : decode cX7_sharedOf 106 = .ok (.ireturn, 1) := by decide +kernel
theorem dX7_sharedOf_107 : decode cX7_sharedOf 107 = .ok (.iconst 0, 1) := by decide +kernel
theorem dX7_sharedOf_108 : decode cX7_sharedOf 108 = .ok (.istore 7, 2) := by decide +kernel
theorem dX7_sharedOf_110 : decode cX7_sharedOf 110 = .ok (.iload 7, 2) := by decide +kernel
theorem dX7_sharedOf_112 : decode cX7_sharedOf 112 = .ok (.sipush 400, 3) := by decide +kernel
theorem dX7_sharedOf_115 : decode cX7_sharedOf 115 = .ok (.if_icmp .ge 40, 3) := by decide +kernel
theorem dX7_sharedOf_118 : decode cX7_sharedOf 118 = .ok (.iload_n 3, 1) := by decide +kernel
theorem dX7_sharedOf_119 : decode cX7_sharedOf 119 = .ok (.iload 4, 2) := by decide +kernel
theorem dX7_sharedOf_121 : decode cX7_sharedOf 121 = .ok (.if_icmp .eq 34, 3) := by decide +kernel
theorem dX7_sharedOf_124 : decode cX7_sharedOf 124 = .ok (.iload_n 3, 1) := by decide +kernel
theorem dX7_sharedOf_125 : decode cX7_sharedOf 125 = .ok (.iload 4, 2) := by decide +kernel
theorem dX7_sharedOf_127 : decode cX7_sharedOf 127 = .ok (.if_icmp .le 13, 3) := by decide +kernel
theorem dX7_sharedOf_130 : decode cX7_sharedOf 130 = .ok (.aload_n 0, 1) := by decide +kernel
theorem dX7_sharedOf_131 : decode cX7_sharedOf 131 = .ok (.getfield 9, 3) := by decide +kernel
theorem dX7_sharedOf_134 : decode cX7_sharedOf 134 = .ok (.iload_n 3, 1) := by decide +kernel
theorem dX7_sharedOf_135 : decode cX7_sharedOf 135 = .ok (.iaload, 1) := by decide +kernel
theorem dX7_sharedOf_136 : decode cX7_sharedOf 136 = .ok (.istore_n 3, 1) := by decide +kernel
theorem dX7_sharedOf_137 : decode cX7_sharedOf 137 = .ok (.goto 12, 3) := by decide +kernel
theorem dX7_sharedOf_140 : decode cX7_sharedOf 140 = .ok (.aload_n 0, 1) := by decide +kernel
theorem dX7_sharedOf_141 : decode cX7_sharedOf 141 = .ok (.getfield 9, 3) := by decide +kernel
theorem dX7_sharedOf_144 : decode cX7_sharedOf 144 = .ok (.iload 4, 2) := by decide +kernel
theorem dX7_sharedOf_146 : decode cX7_sharedOf 146 = .ok (.iaload, 1) := by decide +kernel
theorem dX7_sharedOf_147 : decode cX7_sharedOf 147 = .ok (.istore 4, 2) := by decide +kernel
theorem dX7_sharedOf_149 : decode cX7_sharedOf 149 = .ok (.iinc 7 1, 3) := by decide +kernel
theorem dX7_sharedOf_152 : decode cX7_sharedOf 152 = .ok (.goto (-42), 3) := by decide +kernel
theorem dX7_sharedOf_155 : decode cX7_sharedOf 155 = .ok (.iload 5, 2) := by decide +kernel
theorem dX7_sharedOf_157 : decode cX7_sharedOf 157 = .ok (.bipush 16, 2) := by decide +kernel
theorem dX7_sharedOf_159 : decode cX7_sharedOf 159 = .ok (.ishl, 1) := by decide +kernel
theorem dX7_sharedOf_160 : decode cX7_sharedOf 160 = .ok (.iload_n 3, 1) := by decide +kernel
theorem dX7_sharedOf_161 : decode cX7_sharedOf 161 = .ok (.iadd, 1) := by decide +kernel
theorem dX7_sharedOf_162 : decode cX7_sharedOf 162 = .ok (.ireturn, 1) := by decide +kernel
set_option maxRecDepth 20000 in
theorem ggX8_init_X7_init : GoodIn wsX8_init wsX7_init := goodIn_r _ [30, 31, 2, 3, 32, 33, 34, 35, 36, 122, 123, 124] (by decide +kernel) (by decide +kernel)
set_option maxRecDepth 20000 in
theorem gX8_init_X7_init : GoodIn wsX8_init (wsX7_init) := ggX8_init_X7_init
set_option maxRecDepth 20000 in
theorem ggX8_init_X4_init : GoodIn wsX8_init wsX4_init := goodIn_r _ [38, 39, 2, 3, 32, 40, 41, 42, 43, 34, 44, 45, 46, 131, 132, 133, 134, 135, 136, 137, 138, 139] (by decide +kernel) (by decide +kernel)
set_option maxRecDepth 20000 in
theorem gX8_init_X4_init_n18 : GoodIn wsX8_init (wsX4_init) := ggX8_init_X4_init
set_option maxRecDepth 20000 in
theorem ggX8_init_X0_init : GoodIn wsX8_init wsX0_init := goodIn_r _ [48, 49, 2, 3, 50, 32, 51, 52, 53, 54, 55, 56, 57, 58, 34, 59, 140, 141, 142, 143, 144, 145, 146, 147, 148, 149, 150, 151, 152, 153, 154, 155, 156] (by decide +kernel) (by decide +kernel)
set_option maxRecDepth 20000 in
theorem gX8_init_X0_init_n25 : GoodIn wsX8_init (wsX0_init) := ggX8_init_X0_init
set_option maxRecDepth 20000 in
theorem ggX8_init_X1_init : GoodIn wsX8_init wsX1_init := goodIn_r _ [62, 63, 2, 3, 32, 64, 65, 66, 67, 68, 69, 157, 158, 159, 160, 161, 162] (by decide +kernel) (by decide +kernel)
set_option maxRecDepth 20000 in
theorem gX8_init_X1_init : GoodIn wsX8_init (wsX1_init) := ggX8_init_X1_init
set_option maxRecDepth 20000 in
theorem ggX8_init_X3_init : GoodIn wsX8_init wsX3_init := goodIn_r _ [72, 73, 2, 3, 32, 74, 75, 76, 77, 78, 79, 80, 81, 82, 83, 84, 85, 86, 87, 88, 89, 90, 91, 163, 164, 165, 166, 167, 168, 169, 170, 171, 172, 173, 174, 175, 176, 177, 178, 179] (by decide +kernel) (by decide +kernel)
set_option maxRecDepth 20000 in
theorem gX8_init_X3_init : GoodIn wsX8_init (wsX3_init) := ggX8_init_X3_init
set_option maxRecDepth 20000 in
theorem ggX8_init_X2_init : GoodIn wsX8_init wsX2_init := goodIn_r _ [94, 95, 2, 3, 96, 97, 98, 99, 100, 101, 102, 103, 104, 105, 106, 107, 108, 109, 110, 111, 32, 112, 113, 114, 115, 116, 117, 118, 119, 120, 121, 180, 181, 182, 183, 184, 185, 186, 187, 188, 189, 190, 191, 192, 193, 194, 195, 196, 197, 198, 199] (by decide +kernel) (by decide +kernel)
set_option maxRecDepth 20000 in
theorem gX8_init_X2_init : GoodIn wsX8_init (wsX2_init) := ggX8_init_X2_init
theorem dX8_init_0 : decode cX8_init 0 = .ok (.aload_n 0, 1) := by decide +kernel
theorem dX8_init_1 : decode cX8_init 1 = .ok (.invokespecial 1, 3) := by decide +kernel
theorem dX8_init_4 : decode cX8_init 4 = .ok (.aload_n 0, 1) := by decide +kernel
theorem dX8_init_5 : decode cX8_init 5 = .ok (.new 7, 3) := by decide +kernel
theorem dX8_init_8 : decode cX8_init 8 = .ok (.dup, 1) := by decide +kernel
theorem dX8_init_9 : decode cX8_init 9 = .ok (.invokespecial 9, 3) := by decide +kernel
theorem dX8_init_12 : decode cX8_init 12 = .ok (.putfield 10, 3) := by decide +kernel
theorem dX8_init_15 : decode cX8_init 15 = .ok (.aload_n 0, 1) := by decide +kernel
theorem dX8_init_16 : decode cX8_init 16 = .ok (.new 16, 3) := by decide +kernel
theorem dX8_init_19 : decode cX8_init 19 = .ok (.dup, 1) := by decide +kernel
theorem dX8_init_20 : decode cX8_init 20 = .ok (.invokespecial 18, 3) := by decide +kernel
theorem dX8_init_23 : decode cX8_init 23 = .ok (.putfield 19, 3) := by decide +kernel
theorem dX8_init_26 : decode cX8_init 26 = .ok (.aload_n 0, 1) := by decide +kernel
theorem dX8_init_27 : decode cX8_init 27 = .ok (.new 23, 3) := by decide +kernel
theorem dX8_init_30 : decode cX8_init 30 = .ok (.dup, 1) := by decide +kernel
theorem dX8_init_31 : decode cX8_init 31 = .ok (.invokespecial 25, 3) := by decide +kernel
theorem dX8_init_34 : decode cX8_init 34 = .ok (.putfield 26, 3) := by decide +kernel
theorem dX8_init_37 : decode cX8_init 37 = .ok (.aload_n 0, 1) := by decide +kernel
theorem dX8_init_38 : decode cX8_init 38 = .ok (.new 30, 3) := by decide +kernel
theorem dX8_init_41 : decode cX8_init 41 = .ok (.dup, 1) := by decide +kernel
theorem dX8_init_42 : decode cX8_init 42 = .ok (.invokespecial 32, 3) := by decide +kernel
theorem dX8_init_45 : decode cX8_init 45 = .ok (.putfield 33, 3) := by decide +kernel
theorem dX8_init_48 : decode cX8_init 48 = .ok (.aload_n 0, 1) := by decide +kernel
theorem dX8_init_49 : decode cX8_init 49 = .ok (.new 37, 3) := by decide +kernel
theorem dX8_init_52 : decode cX8_init 52 = .ok (.dup, 1) := by decide +kernel
theorem dX8_init_53 : decode cX8_init 53 = .ok (.aload_n 0, 1) := by decide +kernel
theorem dX8_init_54 : decode cX8_init 54 = .ok (.getfield 10, 3) := by decide +kernel
theorem dX8_init_57 : decode cX8_init 57 = .ok (.aload_n 0, 1) := by decide +kernel
theorem dX8_init_58 : decode cX8_init 58 = .ok (.getfield 33, 3) := by decide +kernel
theorem dX8_init_61 : decode cX8_init 61 = .ok (.invokespecial 39, 3) := by decide +kernel
theorem dX8_init_64 : decode cX8_init 64 = .ok (.putfield 42, 3) := by decide +kernel
theorem dX8_init_67 : decode cX8_init 67 = .ok (.aload_n 0, 1) := by decide +kernel
theorem dX8_init_68 : decode cX8_init 68 = .ok (.new 46, 3) := by decide +kernel
theorem dX8_init_71 : decode cX8_init 71 = .ok (.dup, 1) := by decide +kernel
theorem dX8_init_72 : decode cX8_init 72 = .ok (.aload_n 0, 1) := by decide +kernel
theorem dX8_init_73 : decode cX8_init 73 = .ok (.getfield 10, 3) := by decide +kernel
theorem dX8_init_76 : decode cX8_init 76 = .ok (.aload_n 0, 1) := by decide +kernel
theorem dX8_init_77 : decode cX8_init 77 = .ok (.getfield 19, 3) := by decide +kernel
theorem dX8_init_80 : decode cX8_init 80 = .ok (.aload_n 0, 1) := by decide +kernel
theorem dX8_init_81 : decode cX8_init 81 = .ok (.getfield 26, 3) := by decide +kernel
theorem dX8_init_84 : decode cX8_init 84 = .ok (.aload_n 0, 1) := by decide +kernel
theorem dX8_init_85 : decode cX8_init 85 = .ok (.getfield 33, 3) := by decide +kernel
theorem dX8_init_88 : decode cX8_init 88 = .ok (.aload_n 0, 1) := by decide +kernel
theorem dX8_init_89 : decode cX8_init 89 = .ok (.getfield 42, 3) := by decide +kernel
theorem dX8_init_92 : decode cX8_init 92 = .ok (.invokespecial 48, 3) := by decide +kernel
theorem dX8_init_95 : decode cX8_init 95 = .ok (.putfield 51, 3) := by decide +kernel
theorem dX8_init_98 : decode cX8_init 98 = .ok (.return_, 1) := by decide +kernel
set_option maxRecDepth 20000 in
theorem ggX8_add_X7_isClass : GoodIn wsX8_add wsX7_isClass := goodIn_r _ [10, 11, 24, 25, 26] (by decide +kernel) (by decide +kernel)
set_option maxRecDepth 20000 in
theorem gX8_add_X7_isClass : GoodIn wsX8_add (wsV RX8 55 RX7 yX7_isClass wsX7_isClass) := goodIn_app (goodIn_of _ (by decide +kernel)) ggX8_add_X7_isClass
set_option maxRecDepth 20000 in
theorem ggX8_add_X7_enter : GoodIn wsX8_add wsX7_enter := goodIn_r _ [15, 16, 11, 17, 24, 25, 26] (by decide +kernel) (by decide +kernel)
set_option maxRecDepth 20000 in
theorem gX8_add_X7_enter : GoodIn wsX8_add (wsV RX8 79 RX7 yX7_enter wsX7_enter) := goodIn_app (goodIn_of _ (by decide +kernel)) ggX8_add_X7_enter
theorem dX8_add_0 : decode cX8_add 0 = .ok (.aload_n 0, 1) := by decide +kernel
theorem dX8_add_1 : decode cX8_add 1 = .ok (.getfield 10, 3) := by decide +kernel
theorem dX8_add_4 : decode cX8_add 4 = .ok (.iload_n 1, 1) := by decide +kernel
theorem dX8_add_5 : decode cX8_add 5 = .ok (.invokevirtual 55, 3) := by decide +kernel
theorem dX8_add_8 : decode cX8_add 8 = .ok (.ifCond .eq 23, 3) := by decide +kernel
theorem dX8_add_11 : decode cX8_add 11 = .ok (.aload_n 0, 1) := by decide +kernel
theorem dX8_add_12 : decode cX8_add 12 = .ok (.getfield 10, 3) := by decide +kernel
theorem dX8_add_15 : decode cX8_add 15 = .ok (.getfield 59, 3) := by decide +kernel
theorem dX8_add_18 : decode cX8_add 18 = .ok (.iload_n 1, 1) := by decide +kernel
theorem dX8_add_19 : decode cX8_add 19 = .ok (.baload, 1) := by decide +kernel
theorem dX8_add_20 : decode cX8_add 20 = .ok (.ifCond .ne 11, 3) := by decide +kernel
theorem dX8_add_23 : decode cX8_add 23 = .ok (.iload_n 2, 1) := by decide +kernel
theorem dX8_add_24 : decode cX8_add 24 = .ok (.ifCond .eq 17, 3) := by decide +kernel
theorem dX8_add_27 : decode cX8_add 27 = .ok (.iload_n 1, 1) := by decide +kernel
theorem dX8_add_28 : decode cX8_add 28 = .ok (.ifCond .eq 13, 3) := by decide +kernel
theorem dX8_add_31 : decode cX8_add 31 = .ok (.new 63, 3) := by decide +kernel
theorem dX8_add_34 : decode cX8_add 34 = .ok (.dup, 1) := by decide +kernel
theorem dX8_add_35 : decode cX8_add 35 = .ok (.ldc 65, 2) := by decide +kernel
theorem dX8_add_37 : decode cX8_add 37 = .ok (.invokespecial 67, 3) := by decide +kernel
theorem dX8_add_40 : decode cX8_add 40 = .ok (.athrow, 1) := by decide +kernel
theorem dX8_add_41 : decode cX8_add 41 = .ok (.aload_n 0, 1) := by decide +kernel
theorem dX8_add_42 : decode cX8_add 42 = .ok (.getfield 10, 3) := by decide +kernel
theorem dX8_add_45 : decode cX8_add 45 = .ok (.getfield 70, 3) := by decide +kernel
theorem dX8_add_48 : decode cX8_add 48 = .ok (.sipush 200, 3) := by decide +kernel
theorem dX8_add_51 : decode cX8_add 51 = .ok (.if_icmp .lt 13, 3) := by decide +kernel
theorem dX8_add_54 : decode cX8_add 54 = .ok (.new 74, 3) := by decide +kernel
theorem dX8_add_57 : decode cX8_add 57 = .ok (.dup, 1) := by decide +kernel
theorem dX8_add_58 : decode cX8_add 58 = .ok (.ldc 76, 2) := by decide +kernel
theorem dX8_add_60 : decode cX8_add 60 = .ok (.invokespecial 78, 3) := by decide +kernel
theorem dX8_add_63 : decode cX8_add 63 = .ok (.athrow, 1) := by decide +kernel
theorem dX8_add_64 : decode cX8_add 64 = .ok (.aload_n 0, 1) := by decide +kernel
theorem dX8_add_65 : decode cX8_add 65 = .ok (.getfield 10, 3) := by decide +kernel
theorem dX8_add_68 : decode cX8_add 68 = .ok (.iload_n 1, 1) := by decide +kernel
theorem dX8_add_69 : decode cX8_add 69 = .ok (.iload_n 2, 1) := by decide +kernel
theorem dX8_add_70 : decode cX8_add 70 = .ok (.invokevirtual 79, 3) := by decide +kernel
theorem dX8_add_73 : decode cX8_add 73 = .ok (.ireturn, 1) := by decide +kernel
set_option maxRecDepth 20000 in
theorem ggX8_field_X7_isClass : GoodIn wsX8_field wsX7_isClass := goodIn_r _ [11, 12, 45, 46, 47] (by decide +kernel) (by decide +kernel)
set_option maxRecDepth 20000 in
theorem gX8_field_X7_isClass : GoodIn wsX8_field (wsV RX8 55 RX7 yX7_isClass wsX7_isClass) := goodIn_app (goodIn_of _ (by decide +kernel)) ggX8_field_X7_isClass
set_option maxRecDepth 20000 in
theorem ggX8_field_X7_isType : GoodIn wsX8_field wsX7_isType := goodIn_r _ [16, 17, 12, 18, 19, 20, 10, 21, 45, 46, 47] (by decide +kernel) (by decide +kernel)
set_option maxRecDepth 20000 in
theorem gX8_field_X7_isType : GoodIn wsX8_field (wsV RX8 83 RX7 yX7_isType wsX7_isType) := goodIn_app (goodIn_of _ (by decide +kernel)) ggX8_field_X7_isType
set_option maxRecDepth 20000 in
theorem ggX8_field_X4_enterField : GoodIn wsX8_field wsX4_enterField := goodIn_r _ [26, 27, 28, 29, 36, 37, 38, 39, 40, 41, 42, 43, 44] (by decide +kernel) (by decide +kernel)
set_option maxRecDepth 20000 in
theorem gX8_field_X4_enterField : GoodIn wsX8_field (wsV RX8 93 RX4 yX4_enterField wsX4_enterField) := goodIn_app (goodIn_of _ (by decide +kernel)) ggX8_field_X4_enterField
theorem dX8_field_0 : decode cX8_field 0 = .ok (.aload_n 0, 1) := by decide +kernel
theorem dX8_field_1 : decode cX8_field 1 = .ok (.getfield 10, 3) := by decide +kernel
theorem dX8_field_4 : decode cX8_field 4 = .ok (.iload_n 1, 1) := by decide +kernel
theorem dX8_field_5 : decode cX8_field 5 = .ok (.invokevirtual 55, 3) := by decide +kernel
theorem dX8_field_8 : decode cX8_field 8 = .ok (.ifCond .eq 14, 3) := by decide +kernel
theorem dX8_field_11 : decode cX8_field 11 = .ok (.aload_n 0, 1) := by decide +kernel
theorem dX8_field_12 : decode cX8_field 12 = .ok (.getfield 10, 3) := by decide +kernel
theorem dX8_field_15 : decode cX8_field 15 = .ok (.iload_n 2, 1) := by decide +kernel
theorem dX8_field_16 : decode cX8_field 16 = .ok (.invokevirtual 83, 3) := by decide +kernel
theorem dX8_field_19 : decode cX8_field 19 = .ok (.ifCond .ne 13, 3) := by decide +kernel
theorem dX8_field_22 : decode cX8_field 22 = .ok (.new 63, 3) := by decide +kernel
theorem dX8_field_25 : decode cX8_field 25 = .ok (.dup, 1) := by decide +kernel
theorem dX8_field_26 : decode cX8_field 26 = .ok (.ldc 86, 2) := by decide +kernel
theorem dX8_field_28 : decode cX8_field 28 = .ok (.invokespecial 67, 3) := by decide +kernel
theorem dX8_field_31 : decode cX8_field 31 = .ok (.athrow, 1) := by decide +kernel
theorem dX8_field_32 : decode cX8_field 32 = .ok (.aload_n 0, 1) := by decide +kernel
theorem dX8_field_33 : decode cX8_field 33 = .ok (.getfield 19, 3) := by decide +kernel
theorem dX8_field_36 : decode cX8_field 36 = .ok (.getfield 88, 3) := by decide +kernel
theorem dX8_field_39 : decode cX8_field 39 = .ok (.bipush 100, 2) := by decide +kernel
theorem dX8_field_41 : decode cX8_field 41 = .ok (.if_icmp .lt 13, 3) := by decide +kernel
theorem dX8_field_44 : decode cX8_field 44 = .ok (.new 74, 3) := by decide +kernel
theorem dX8_field_47 : decode cX8_field 47 = .ok (.dup, 1) := by decide +kernel
theorem dX8_field_48 : decode cX8_field 48 = .ok (.ldc 91, 2) := by decide +kernel
theorem dX8_field_50 : decode cX8_field 50 = .ok (.invokespecial 78, 3) := by decide +kernel
theorem dX8_field_53 : decode cX8_field 53 = .ok (.athrow, 1) := by decide +kernel
theorem dX8_field_54 : decode cX8_field 54 = .ok (.aload_n 0, 1) := by decide +kernel
theorem dX8_field_55 : decode cX8_field 55 = .ok (.getfield 19, 3) := by decide +kernel
theorem dX8_field_58 : decode cX8_field 58 = .ok (.iload_n 1, 1) := by decide +kernel
theorem dX8_field_59 : decode cX8_field 59 = .ok (.iload_n 2, 1) := by decide +kernel
theorem dX8_field_60 : decode cX8_field 60 = .ok (.invokevirtual 93, 3) := by decide +kernel
theorem dX8_field_63 : decode cX8_field 63 = .ok (.ireturn, 1) := by decide +kernel
set_option maxRecDepth 20000 in
theorem ggX8_shape_X7_isClass : GoodIn wsX8_shape wsX7_isClass := goodIn_r _ [11, 12, 41, 42, 43] (by decide +kernel) (by decide +kernel)
set_option maxRecDepth 20000 in
theorem gX8_shape_X7_isClass : GoodIn wsX8_shape (wsV RX8 55 RX7 yX7_isClass wsX7_isClass) := goodIn_app (goodIn_of _ (by decide +kernel)) ggX8_shape_X7_isClass
set_option maxRecDepth 20000 in
theorem ggX8_shape_X7_isResult : GoodIn wsX8_shape wsX7_isResult := goodIn_r _ [16, 17, 18, 19, 10, 20, 21, 12, 22, 23, 24, 25, 41, 42, 43] (by decide +kernel) (by decide +kernel)
set_option maxRecDepth 20000 in
theorem gX8_shape_X7_isResult : GoodIn wsX8_shape (wsV RX8 97 RX7 yX7_isResult wsX7_isResult) := goodIn_app (goodIn_of _ (by decide +kernel)) ggX8_shape_X7_isResult
set_option maxRecDepth 20000 in
theorem ggX8_shape_X4_enterShape : GoodIn wsX8_shape wsX4_enterShape := goodIn_r _ [30, 31, 32, 33, 34, 44, 45, 46, 47, 48, 49, 50, 51, 52] (by decide +kernel) (by decide +kernel)
set_option maxRecDepth 20000 in
theorem gX8_shape_X4_enterShape : GoodIn wsX8_shape (wsV RX8 109 RX4 yX4_enterShape wsX4_enterShape) := goodIn_app (goodIn_of _ (by decide +kernel)) ggX8_shape_X4_enterShape
theorem dX8_shape_0 : decode cX8_shape 0 = .ok (.aload_n 0, 1) := by decide +kernel
theorem dX8_shape_1 : decode cX8_shape 1 = .ok (.getfield 10, 3) := by decide +kernel
theorem dX8_shape_4 : decode cX8_shape 4 = .ok (.iload_n 1, 1) := by decide +kernel
theorem dX8_shape_5 : decode cX8_shape 5 = .ok (.invokevirtual 55, 3) := by decide +kernel
theorem dX8_shape_8 : decode cX8_shape 8 = .ok (.ifCond .eq 14, 3) := by decide +kernel
theorem dX8_shape_11 : decode cX8_shape 11 = .ok (.aload_n 0, 1) := by decide +kernel
theorem dX8_shape_12 : decode cX8_shape 12 = .ok (.getfield 10, 3) := by decide +kernel
theorem dX8_shape_15 : decode cX8_shape 15 = .ok (.iload_n 2, 1) := by decide +kernel
theorem dX8_shape_16 : decode cX8_shape 16 = .ok (.invokevirtual 97, 3) := by decide +kernel
theorem dX8_shape_19 : decode cX8_shape 19 = .ok (.ifCond .ne 13, 3) := by decide +kernel
theorem dX8_shape_22 : decode cX8_shape 22 = .ok (.new 63, 3) := by decide +kernel
theorem dX8_shape_25 : decode cX8_shape 25 = .ok (.dup, 1) := by decide +kernel
theorem dX8_shape_26 : decode cX8_shape 26 = .ok (.ldc 100, 2) := by decide +kernel
theorem dX8_shape_28 : decode cX8_shape 28 = .ok (.invokespecial 67, 3) := by decide +kernel
theorem dX8_shape_31 : decode cX8_shape 31 = .ok (.athrow, 1) := by decide +kernel
theorem dX8_shape_32 : decode cX8_shape 32 = .ok (.iload_n 3, 1) := by decide +kernel
theorem dX8_shape_33 : decode cX8_shape 33 = .ok (.ifCond .eq 30, 3) := by decide +kernel
theorem dX8_shape_36 : decode cX8_shape 36 = .ok (.iload_n 2, 1) := by decide +kernel
theorem dX8_shape_37 : decode cX8_shape 37 = .ok (.iconst (-1), 1) := by decide +kernel
theorem dX8_shape_38 : decode cX8_shape 38 = .ok (.if_icmp .ne 15, 3) := by decide +kernel
theorem dX8_shape_41 : decode cX8_shape 41 = .ok (.aload_n 0, 1) := by decide +kernel
theorem dX8_shape_42 : decode cX8_shape 42 = .ok (.getfield 10, 3) := by decide +kernel
theorem dX8_shape_45 : decode cX8_shape 45 = .ok (.getfield 59, 3) := by decide +kernel
theorem dX8_shape_48 : decode cX8_shape 48 = .ok (.iload_n 1, 1) := by decide +kernel
theorem dX8_shape_49 : decode cX8_shape 49 = .ok (.baload, 1) := by decide +kernel
theorem dX8_shape_50 : decode cX8_shape 50 = .ok (.ifCond .eq 13, 3) := by decide +kernel
theorem dX8_shape_53 : decode cX8_shape 53 = .ok (.new 63, 3) := by decide +kernel
theorem dX8_shape_56 : decode cX8_shape 56 = .ok (.dup, 1) := by decide +kernel
theorem dX8_shape_57 : decode cX8_shape 57 = .ok (.ldc 102, 2) := by decide +kernel
theorem dX8_shape_59 : decode cX8_shape 59 = .ok (.invokespecial 67, 3) := by decide +kernel
theorem dX8_shape_62 : decode cX8_shape 62 = .ok (.athrow, 1) := by decide +kernel
theorem dX8_shape_63 : decode cX8_shape 63 = .ok (.aload_n 0, 1) := by decide +kernel
theorem dX8_shape_64 : decode cX8_shape 64 = .ok (.getfield 19, 3) := by decide +kernel
theorem dX8_shape_67 : decode cX8_shape 67 = .ok (.getfield 104, 3) := by decide +kernel
theorem dX8_shape_70 : decode cX8_shape 70 = .ok (.bipush 100, 2) := by decide +kernel
theorem dX8_shape_72 : decode cX8_shape 72 = .ok (.if_icmp .lt 13, 3) := by decide +kernel
theorem dX8_shape_75 : decode cX8_shape 75 = .ok (.new 74, 3) := by decide +kernel
theorem dX8_shape_78 : decode cX8_shape 78 = .ok (.dup, 1) := by decide +kernel
theorem dX8_shape_79 : decode cX8_shape 79 = .ok (.ldc 107, 2) := by decide +kernel
theorem dX8_shape_81 : decode cX8_shape 81 = .ok (.invokespecial 78, 3) := by decide +kernel
theorem dX8_shape_84 : decode cX8_shape 84 = .ok (.athrow, 1) := by decide +kernel
theorem dX8_shape_85 : decode cX8_shape 85 = .ok (.aload_n 0, 1) := by decide +kernel
theorem dX8_shape_86 : decode cX8_shape 86 = .ok (.getfield 19, 3) := by decide +kernel
theorem dX8_shape_89 : decode cX8_shape 89 = .ok (.iload_n 1, 1) := by decide +kernel
theorem dX8_shape_90 : decode cX8_shape 90 = .ok (.iload_n 2, 1) := by decide +kernel
theorem dX8_shape_91 : decode cX8_shape 91 = .ok (.iload_n 3, 1) := by decide +kernel
theorem dX8_shape_92 : decode cX8_shape 92 = .ok (.invokevirtual 109, 3) := by decide +kernel
theorem dX8_shape_95 : decode cX8_shape 95 = .ok (.ireturn, 1) := by decide +kernel
set_option maxRecDepth 20000 in
theorem ggX8_takes_X7_isType : GoodIn wsX8_takes wsX7_isType := goodIn_r _ [11, 12, 13, 14, 15, 16, 10, 17, 36, 37, 38] (by decide +kernel) (by decide +kernel)
set_option maxRecDepth 20000 in
theorem gX8_takes_X7_isType : GoodIn wsX8_takes (wsV RX8 83 RX7 yX7_isType wsX7_isType) := goodIn_app (goodIn_of _ (by decide +kernel)) ggX8_takes_X7_isType
set_option maxRecDepth 20000 in
theorem ggX8_takes_X4_canTakeMore : GoodIn wsX8_takes wsX4_canTakeMore := goodIn_r _ [22, 23, 24, 39, 40, 41, 42, 43, 44, 45, 46, 47] (by decide +kernel) (by decide +kernel)
set_option maxRecDepth 20000 in
theorem gX8_takes_X4_canTakeMore : GoodIn wsX8_takes (wsV RX8 115 RX4 yX4_canTakeMore wsX4_canTakeMore) := goodIn_app (goodIn_of _ (by decide +kernel)) ggX8_takes_X4_canTakeMore
theorem dX8_takes_0 : decode cX8_takes 0 = .ok (.aload_n 0, 1) := by decide +kernel
theorem dX8_takes_1 : decode cX8_takes 1 = .ok (.getfield 10, 3) := by decide +kernel
theorem dX8_takes_4 : decode cX8_takes 4 = .ok (.iload_n 1, 1) := by decide +kernel
theorem dX8_takes_5 : decode cX8_takes 5 = .ok (.invokevirtual 83, 3) := by decide +kernel
theorem dX8_takes_8 : decode cX8_takes 8 = .ok (.ifCond .ne 13, 3) := by decide +kernel
theorem dX8_takes_11 : decode cX8_takes 11 = .ok (.new 63, 3) := by decide +kernel
theorem dX8_takes_14 : decode cX8_takes 14 = .ok (.dup, 1) := by decide +kernel
theorem dX8_takes_15 : decode cX8_takes 15 = .ok (.ldc 113, 2) := by decide +kernel
theorem dX8_takes_17 : decode cX8_takes 17 = .ok (.invokespecial 67, 3) := by decide +kernel
theorem dX8_takes_20 : decode cX8_takes 20 = .ok (.athrow, 1) := by decide +kernel
theorem dX8_takes_21 : decode cX8_takes 21 = .ok (.aload_n 0, 1) := by decide +kernel
theorem dX8_takes_22 : decode cX8_takes 22 = .ok (.getfield 19, 3) := by decide +kernel
theorem dX8_takes_25 : decode cX8_takes 25 = .ok (.invokevirtual 115, 3) := by decide +kernel
theorem dX8_takes_28 : decode cX8_takes 28 = .ok (.ifCond .ne 13, 3) := by decide +kernel
theorem dX8_takes_31 : decode cX8_takes 31 = .ok (.new 74, 3) := by decide +kernel
theorem dX8_takes_34 : decode cX8_takes 34 = .ok (.dup, 1) := by decide +kernel
theorem dX8_takes_35 : decode cX8_takes 35 = .ok (.ldc 119, 2) := by decide +kernel
theorem dX8_takes_37 : decode cX8_takes 37 = .ok (.invokespecial 78, 3) := by decide +kernel
theorem dX8_takes_40 : decode cX8_takes 40 = .ok (.athrow, 1) := by decide +kernel
theorem dX8_takes_41 : decode cX8_takes 41 = .ok (.aload_n 0, 1) := by decide +kernel
theorem dX8_takes_42 : decode cX8_takes 42 = .ok (.getfield 19, 3) := by decide +kernel
theorem dX8_takes_45 : decode cX8_takes 45 = .ok (.iload_n 1, 1) := by decide +kernel
theorem dX8_takes_46 : decode cX8_takes 46 = .ok (.invokevirtual 121, 3) := by decide +kernel
theorem dX8_takes_49 : decode cX8_takes 49 = .ok (.ireturn, 1) := by decide +kernel
set_option maxRecDepth 20000 in
theorem ggX8_method_X7_isClass : GoodIn wsX8_method wsX7_isClass := goodIn_r _ [9, 10, 43, 44, 45] (by decide +kernel) (by decide +kernel)
set_option maxRecDepth 20000 in
theorem gX8_method_X7_isClass : GoodIn wsX8_method (wsV RX8 55 RX7 yX7_isClass wsX7_isClass) := goodIn_app (goodIn_of _ (by decide +kernel)) ggX8_method_X7_isClass
set_option maxRecDepth 20000 in
theorem ggX8_method_X7_isResult : GoodIn wsX8_method wsX7_isResult := goodIn_r _ [14, 15, 16, 17, 8, 18, 19, 10, 20, 21, 22, 23, 43, 44, 45] (by decide +kernel) (by decide +kernel)
set_option maxRecDepth 20000 in
theorem gX8_method_X7_isResult : GoodIn wsX8_method (wsV RX8 97 RX7 yX7_isResult wsX7_isResult) := goodIn_app (goodIn_of _ (by decide +kernel)) ggX8_method_X7_isResult
set_option maxRecDepth 20000 in
theorem ggX8_method_X0_begin : GoodIn wsX8_method wsX0_begin := goodIn_r _ [28, 29, 30, 31, 32, 33, 34, 35, 36, 46, 47, 48, 49, 50, 51, 52, 53, 54, 55, 56, 57, 58, 59, 60, 61, 62] (by decide +kernel) (by decide +kernel)
set_option maxRecDepth 20000 in
theorem gX8_method_X0_begin : GoodIn wsX8_method (wsV RX8 129 RX0 yX0_begin wsX0_begin) := goodIn_app (goodIn_of _ (by decide +kernel)) ggX8_method_X0_begin
theorem dX8_method_0 : decode cX8_method 0 = .ok (.aload_n 0, 1) := by decide +kernel
theorem dX8_method_1 : decode cX8_method 1 = .ok (.getfield 10, 3) := by decide +kernel
theorem dX8_method_4 : decode cX8_method 4 = .ok (.iload_n 1, 1) := by decide +kernel
theorem dX8_method_5 : decode cX8_method 5 = .ok (.invokevirtual 55, 3) := by decide +kernel
theorem dX8_method_8 : decode cX8_method 8 = .ok (.ifCond .eq 23, 3) := by decide +kernel
theorem dX8_method_11 : decode cX8_method 11 = .ok (.iload_n 2, 1) := by decide +kernel
theorem dX8_method_12 : decode cX8_method 12 = .ok (.ifCond .lt 19, 3) := by decide +kernel
theorem dX8_method_15 : decode cX8_method 15 = .ok (.iload_n 2, 1) := by decide +kernel
theorem dX8_method_16 : decode cX8_method 16 = .ok (.iconst 2, 1) := by decide +kernel
theorem dX8_method_17 : decode cX8_method 17 = .ok (.if_icmp .gt 14, 3) := by decide +kernel
theorem dX8_method_20 : decode cX8_method 20 = .ok (.aload_n 0, 1) := by decide +kernel
theorem dX8_method_21 : decode cX8_method 21 = .ok (.getfield 10, 3) := by decide +kernel
theorem dX8_method_24 : decode cX8_method 24 = .ok (.iload_n 3, 1) := by decide +kernel
theorem dX8_method_25 : decode cX8_method 25 = .ok (.invokevirtual 97, 3) := by decide +kernel
theorem dX8_method_28 : decode cX8_method 28 = .ok (.ifCond .ne 13, 3) := by decide +kernel
theorem dX8_method_31 : decode cX8_method 31 = .ok (.new 63, 3) := by decide +kernel
theorem dX8_method_34 : decode cX8_method 34 = .ok (.dup, 1) := by decide +kernel
theorem dX8_method_35 : decode cX8_method 35 = .ok (.ldc 125, 2) := by decide +kernel
theorem dX8_method_37 : decode cX8_method 37 = .ok (.invokespecial 67, 3) := by decide +kernel
theorem dX8_method_40 : decode cX8_method 40 = .ok (.athrow, 1) := by decide +kernel
theorem dX8_method_41 : decode cX8_method 41 = .ok (.iload_n 2, 1) := by decide +kernel
theorem dX8_method_42 : decode cX8_method 42 = .ok (.iconst 2, 1) := by decide +kernel
theorem dX8_method_43 : decode cX8_method 43 = .ok (.if_icmp .ne 30, 3) := by decide +kernel
theorem dX8_method_46 : decode cX8_method 46 = .ok (.iload_n 3, 1) := by decide +kernel
theorem dX8_method_47 : decode cX8_method 47 = .ok (.iconst (-1), 1) := by decide +kernel
theorem dX8_method_48 : decode cX8_method 48 = .ok (.if_icmp .ne 15, 3) := by decide +kernel
theorem dX8_method_51 : decode cX8_method 51 = .ok (.aload_n 0, 1) := by decide +kernel
theorem dX8_method_52 : decode cX8_method 52 = .ok (.getfield 10, 3) := by decide +kernel
theorem dX8_method_55 : decode cX8_method 55 = .ok (.getfield 59, 3) := by decide +kernel
theorem dX8_method_58 : decode cX8_method 58 = .ok (.iload_n 1, 1) := by decide +kernel
theorem dX8_method_59 : decode cX8_method 59 = .ok (.baload, 1) := by decide +kernel
theorem dX8_method_60 : decode cX8_method 60 = .ok (.ifCond .eq 13, 3) := by decide +kernel
theorem dX8_method_63 : decode cX8_method 63 = .ok (.new 63, 3) := by decide +kernel
theorem dX8_method_66 : decode cX8_method 66 = .ok (.dup, 1) := by decide +kernel
theorem dX8_method_67 : decode cX8_method 67 = .ok (.ldc 102, 2) := by decide +kernel
theorem dX8_method_69 : decode cX8_method 69 = .ok (.invokespecial 67, 3) := by decide +kernel
theorem dX8_method_72 : decode cX8_method 72 = .ok (.athrow, 1) := by decide +kernel
theorem dX8_method_73 : decode cX8_method 73 = .ok (.iload 4, 2) := by decide +kernel
theorem dX8_method_75 : decode cX8_method 75 = .ok (.ifCond .lt 24, 3) := by decide +kernel
theorem dX8_method_78 : decode cX8_method 78 = .ok (.iload 4, 2) := by decide +kernel
theorem dX8_method_80 : decode cX8_method 80 = .ok (.sipush 200, 3) := by decide +kernel
theorem dX8_method_83 : decode cX8_method 83 = .ok (.if_icmp .gt 16, 3) := by decide +kernel
theorem dX8_method_86 : decode cX8_method 86 = .ok (.iload 5, 2) := by decide +kernel
theorem dX8_method_88 : decode cX8_method 88 = .ok (.ifCond .lt 11, 3) := by decide +kernel
theorem dX8_method_91 : decode cX8_method 91 = .ok (.iload 5, 2) := by decide +kernel
theorem dX8_method_93 : decode cX8_method 93 = .ok (.sipush 200, 3) := by decide +kernel
theorem dX8_method_96 : decode cX8_method 96 = .ok (.if_icmp .le 13, 3) := by decide +kernel
theorem dX8_method_99 : decode cX8_method 99 = .ok (.new 63, 3) := by decide +kernel
theorem dX8_method_102 : decode cX8_method 102 = .ok (.dup, 1) := by decide +kernel
theorem dX8_method_103 : decode cX8_method 103 = .ok (.ldc 127, 2) := by decide +kernel
theorem dX8_method_105 : decode cX8_method 105 = .ok (.invokespecial 67, 3) := by decide +kernel
theorem dX8_method_108 : decode cX8_method 108 = .ok (.athrow, 1) := by decide +kernel
theorem dX8_method_109 : decode cX8_method 109 = .ok (.aload_n 0, 1) := by decide +kernel
theorem dX8_method_110 : decode cX8_method 110 = .ok (.getfield 26, 3) := by decide +kernel
theorem dX8_method_113 : decode cX8_method 113 = .ok (.iload_n 1, 1) := by decide +kernel
theorem dX8_method_114 : decode cX8_method 114 = .ok (.iload_n 2, 1) := by decide +kernel
theorem dX8_method_115 : decode cX8_method 115 = .ok (.iload_n 3, 1) := by decide +kernel
theorem dX8_method_116 : decode cX8_method 116 = .ok (.iload 4, 2) := by decide +kernel
theorem dX8_method_118 : decode cX8_method 118 = .ok (.iload 5, 2) := by decide +kernel
theorem dX8_method_120 : decode cX8_method 120 = .ok (.invokevirtual 129, 3) := by decide +kernel
theorem dX8_method_123 : decode cX8_method 123 = .ok (.iconst 0, 1) := by decide +kernel
theorem dX8_method_124 : decode cX8_method 124 = .ok (.ireturn, 1) := by decide +kernel
set_option maxRecDepth 20000 in
theorem ggX8_argument_X7_isType : GoodIn wsX8_argument wsX7_isType := goodIn_r _ [11, 12, 13, 14, 15, 16, 10, 17, 48, 49, 50] (by decide +kernel) (by decide +kernel)
set_option maxRecDepth 20000 in
theorem gX8_argument_X7_isType : GoodIn wsX8_argument (wsV RX8 83 RX7 yX7_isType wsX7_isType) := goodIn_app (goodIn_of _ (by decide +kernel)) ggX8_argument_X7_isType
set_option maxRecDepth 20000 in
theorem ggX8_argument_X0_takeMore : GoodIn wsX8_argument wsX0_takeMore := goodIn_r _ [22, 23, 24, 31, 32, 33, 34, 35, 36, 37, 38, 39, 40, 41, 42, 43, 44, 45, 46, 47] (by decide +kernel) (by decide +kernel)
set_option maxRecDepth 20000 in
theorem gX8_argument_X0_takeMore : GoodIn wsX8_argument (wsV RX8 138 RX0 yX0_takeMore wsX0_takeMore) := goodIn_app (goodIn_of _ (by decide +kernel)) ggX8_argument_X0_takeMore
theorem dX8_argument_0 : decode cX8_argument 0 = .ok (.aload_n 0, 1) := by decide +kernel
theorem dX8_argument_1 : decode cX8_argument 1 = .ok (.getfield 10, 3) := by decide +kernel
theorem dX8_argument_4 : decode cX8_argument 4 = .ok (.iload_n 1, 1) := by decide +kernel
theorem dX8_argument_5 : decode cX8_argument 5 = .ok (.invokevirtual 83, 3) := by decide +kernel
theorem dX8_argument_8 : decode cX8_argument 8 = .ok (.ifCond .ne 13, 3) := by decide +kernel
theorem dX8_argument_11 : decode cX8_argument 11 = .ok (.new 63, 3) := by decide +kernel
theorem dX8_argument_14 : decode cX8_argument 14 = .ok (.dup, 1) := by decide +kernel
theorem dX8_argument_15 : decode cX8_argument 15 = .ok (.ldc 113, 2) := by decide +kernel
theorem dX8_argument_17 : decode cX8_argument 17 = .ok (.invokespecial 67, 3) := by decide +kernel
theorem dX8_argument_20 : decode cX8_argument 20 = .ok (.athrow, 1) := by decide +kernel
theorem dX8_argument_21 : decode cX8_argument 21 = .ok (.aload_n 0, 1) := by decide +kernel
theorem dX8_argument_22 : decode cX8_argument 22 = .ok (.getfield 26, 3) := by decide +kernel
theorem dX8_argument_25 : decode cX8_argument 25 = .ok (.getfield 133, 3) := by decide +kernel
theorem dX8_argument_28 : decode cX8_argument 28 = .ok (.bipush 20, 2) := by decide +kernel
theorem dX8_argument_30 : decode cX8_argument 30 = .ok (.if_icmp .lt 13, 3) := by decide +kernel
theorem dX8_argument_33 : decode cX8_argument 33 = .ok (.new 74, 3) := by decide +kernel
theorem dX8_argument_36 : decode cX8_argument 36 = .ok (.dup, 1) := by decide +kernel
theorem dX8_argument_37 : decode cX8_argument 37 = .ok (.ldc 136, 2) := by decide +kernel
theorem dX8_argument_39 : decode cX8_argument 39 = .ok (.invokespecial 78, 3) := by decide +kernel
theorem dX8_argument_42 : decode cX8_argument 42 = .ok (.athrow, 1) := by decide +kernel
theorem dX8_argument_43 : decode cX8_argument 43 = .ok (.aload_n 0, 1) := by decide +kernel
theorem dX8_argument_44 : decode cX8_argument 44 = .ok (.getfield 26, 3) := by decide +kernel
theorem dX8_argument_47 : decode cX8_argument 47 = .ok (.iload_n 1, 1) := by decide +kernel
theorem dX8_argument_48 : decode cX8_argument 48 = .ok (.invokevirtual 138, 3) := by decide +kernel
theorem dX8_argument_51 : decode cX8_argument 51 = .ok (.ireturn, 1) := by decide +kernel
set_option maxRecDepth 20000 in
theorem ggX8_put_X8_isInstruction : GoodIn wsX8_put wsX8_isInstruction := goodIn_r _ [10, 11, 12, 13, 14, 15, 16, 17, 18, 19, 20, 21, 22, 23, 24, 25, 26, 27, 28, 29, 30, 31, 32, 33, 34, 9, 35, 36, 37, 38, 39, 40, 41, 42, 43, 44, 45, 46, 47, 48, 49, 50, 51, 52, 53, 54, 55, 66, 67, 68, 69, 70, 71, 89, 90, 91, 92, 93, 94, 95, 96, 97, 98, 99, 100] (by decide +kernel) (by decide +kernel)
set_option maxRecDepth 20000 in
theorem gX8_put_X8_isInstruction : GoodIn wsX8_put (wsV RX8 139 RX8 yX8_isInstruction wsX8_isInstruction) := goodIn_app (goodIn_of _ (by decide +kernel)) ggX8_put_X8_isInstruction
set_option maxRecDepth 20000 in
theorem ggX8_put_X0_enter : GoodIn wsX8_put wsX0_enter := goodIn_r _ [59, 60, 61, 62, 63, 64, 65, 72, 73, 74, 75, 76, 77, 78, 79, 80, 81, 82, 83, 84, 85, 86, 87, 88] (by decide +kernel) (by decide +kernel)
set_option maxRecDepth 20000 in
theorem gX8_put_X0_enter : GoodIn wsX8_put (wsV RX8 148 RX0 yX0_enter wsX0_enter) := goodIn_app (goodIn_of _ (by decide +kernel)) ggX8_put_X0_enter
theorem dX8_put_0 : decode cX8_put 0 = .ok (.aload_n 0, 1) := by decide +kernel
theorem dX8_put_1 : decode cX8_put 1 = .ok (.iload_n 1, 1) := by decide +kernel
theorem dX8_put_2 : decode cX8_put 2 = .ok (.iload_n 2, 1) := by decide +kernel
theorem dX8_put_3 : decode cX8_put 3 = .ok (.iload_n 3, 1) := by decide +kernel
theorem dX8_put_4 : decode cX8_put 4 = .ok (.invokevirtual 139, 3) := by decide +kernel
theorem dX8_put_7 : decode cX8_put 7 = .ok (.ifCond .ne 13, 3) := by decide +kernel
theorem dX8_put_10 : decode cX8_put 10 = .ok (.new 63, 3) := by decide +kernel
theorem dX8_put_13 : decode cX8_put 13 = .ok (.dup, 1) := by decide +kernel
theorem dX8_put_14 : decode cX8_put 14 = .ok (.ldc 143, 2) := by decide +kernel
theorem dX8_put_16 : decode cX8_put 16 = .ok (.invokespecial 67, 3) := by decide +kernel
theorem dX8_put_19 : decode cX8_put 19 = .ok (.athrow, 1) := by decide +kernel
theorem dX8_put_20 : decode cX8_put 20 = .ok (.aload_n 0, 1) := by decide +kernel
theorem dX8_put_21 : decode cX8_put 21 = .ok (.getfield 26, 3) := by decide +kernel
theorem dX8_put_24 : decode cX8_put 24 = .ok (.getfield 145, 3) := by decide +kernel
theorem dX8_put_27 : decode cX8_put 27 = .ok (.sipush 1000, 3) := by decide +kernel
theorem dX8_put_30 : decode cX8_put 30 = .ok (.if_icmp .lt 13, 3) := by decide +kernel
theorem dX8_put_33 : decode cX8_put 33 = .ok (.new 74, 3) := by decide +kernel
theorem dX8_put_36 : decode cX8_put 36 = .ok (.dup, 1) := by decide +kernel
theorem dX8_put_37 : decode cX8_put 37 = .ok (.ldc 146, 2) := by decide +kernel
theorem dX8_put_39 : decode cX8_put 39 = .ok (.invokespecial 78, 3) := by decide +kernel
theorem dX8_put_42 : decode cX8_put 42 = .ok (.athrow, 1) := by decide +kernel
theorem dX8_put_43 : decode cX8_put 43 = .ok (.aload_n 0, 1) := by decide +kernel
theorem dX8_put_44 : decode cX8_put 44 = .ok (.getfield 26, 3) := by decide +kernel
theorem dX8_put_47 : decode cX8_put 47 = .ok (.iload_n 1, 1) := by decide +kernel
theorem dX8_put_48 : decode cX8_put 48 = .ok (.iload_n 2, 1) := by decide +kernel
theorem dX8_put_49 : decode cX8_put 49 = .ok (.iload_n 3, 1) := by decide +kernel
theorem dX8_put_50 : decode cX8_put 50 = .ok (.invokevirtual 148, 3) := by decide +kernel
theorem dX8_put_53 : decode cX8_put 53 = .ok (.ireturn, 1) := by decide +kernel
set_option maxRecDepth 20000 in
theorem ggX8_to_X0_canSwitchToMore : GoodIn wsX8_to wsX0_canSwitchToMore := goodIn_r _ [10, 11, 12, 13, 14, 15, 16, 9, 17, 48, 49, 50, 51, 52, 53, 54, 55, 56, 57, 58, 59, 60, 61, 62, 63, 64] (by decide +kernel) (by decide +kernel)
set_option maxRecDepth 20000 in
theorem gX8_to_X0_canSwitchToMore : GoodIn wsX8_to (wsV RX8 153 RX0 yX0_canSwitchToMore wsX0_canSwitchToMore) := goodIn_app (goodIn_of _ (by decide +kernel)) ggX8_to_X0_canSwitchToMore
theorem dX8_to_0 : decode cX8_to 0 = .ok (.iload_n 1, 1) := by decide +kernel
theorem dX8_to_1 : decode cX8_to 1 = .ok (.ifCond .ge 13, 3) := by decide +kernel
theorem dX8_to_4 : decode cX8_to 4 = .ok (.new 63, 3) := by decide +kernel
theorem dX8_to_7 : decode cX8_to 7 = .ok (.dup, 1) := by decide +kernel
theorem dX8_to_8 : decode cX8_to 8 = .ok (.ldc 151, 2) := by decide +kernel
theorem dX8_to_10 : decode cX8_to 10 = .ok (.invokespecial 67, 3) := by decide +kernel
theorem dX8_to_13 : decode cX8_to 13 = .ok (.athrow, 1) := by decide +kernel
theorem dX8_to_14 : decode cX8_to 14 = .ok (.aload_n 0, 1) := by decide +kernel
theorem dX8_to_15 : decode cX8_to 15 = .ok (.getfield 26, 3) := by decide +kernel
theorem dX8_to_18 : decode cX8_to 18 = .ok (.invokevirtual 153, 3) := by decide +kernel
theorem dX8_to_21 : decode cX8_to 21 = .ok (.ifCond .ne 13, 3) := by decide +kernel
theorem dX8_to_24 : decode cX8_to 24 = .ok (.new 74, 3) := by decide +kernel
theorem dX8_to_27 : decode cX8_to 27 = .ok (.dup, 1) := by decide +kernel
theorem dX8_to_28 : decode cX8_to 28 = .ok (.ldc 156, 2) := by decide +kernel
theorem dX8_to_30 : decode cX8_to 30 = .ok (.invokespecial 78, 3) := by decide +kernel
theorem dX8_to_33 : decode cX8_to 33 = .ok (.athrow, 1) := by decide +kernel
theorem dX8_to_34 : decode cX8_to 34 = .ok (.aload_n 0, 1) := by decide +kernel
theorem dX8_to_35 : decode cX8_to 35 = .ok (.getfield 26, 3) := by decide +kernel
theorem dX8_to_38 : decode cX8_to 38 = .ok (.iload_n 1, 1) := by decide +kernel
theorem dX8_to_39 : decode cX8_to 39 = .ok (.invokevirtual 158, 3) := by decide +kernel
theorem dX8_to_42 : decode cX8_to 42 = .ok (.ireturn, 1) := by decide +kernel
set_option maxRecDepth 20000 in
theorem ggX8_row_X7_isClass : GoodIn wsX8_row wsX7_isClass := goodIn_r _ [11, 12, 43, 44, 45] (by decide +kernel) (by decide +kernel)
set_option maxRecDepth 20000 in
theorem gX8_row_X7_isClass : GoodIn wsX8_row (wsV RX8 55 RX7 yX7_isClass wsX7_isClass) := goodIn_app (goodIn_of _ (by decide +kernel)) ggX8_row_X7_isClass
set_option maxRecDepth 20000 in
theorem ggX8_row_X0_enterRow : GoodIn wsX8_row wsX0_enterRow := goodIn_r _ [17, 18, 19, 26, 27, 28, 29, 30, 31, 32, 33, 34, 35, 36, 37, 38, 39, 40, 41, 42] (by decide +kernel) (by decide +kernel)
set_option maxRecDepth 20000 in
theorem gX8_row_X0_enterRow : GoodIn wsX8_row (wsV RX8 168 RX0 yX0_enterRow wsX0_enterRow) := goodIn_app (goodIn_of _ (by decide +kernel)) ggX8_row_X0_enterRow
theorem dX8_row_0 : decode cX8_row 0 = .ok (.iload_n 1, 1) := by decide +kernel
theorem dX8_row_1 : decode cX8_row 1 = .ok (.ifCond .lt 29, 3) := by decide +kernel
theorem dX8_row_4 : decode cX8_row 4 = .ok (.iload_n 2, 1) := by decide +kernel
theorem dX8_row_5 : decode cX8_row 5 = .ok (.ifCond .lt 25, 3) := by decide +kernel
theorem dX8_row_8 : decode cX8_row 8 = .ok (.iload_n 3, 1) := by decide +kernel
theorem dX8_row_9 : decode cX8_row 9 = .ok (.ifCond .lt 21, 3) := by decide +kernel
theorem dX8_row_12 : decode cX8_row 12 = .ok (.iload 4, 2) := by decide +kernel
theorem dX8_row_14 : decode cX8_row 14 = .ok (.iconst (-1), 1) := by decide +kernel
theorem dX8_row_15 : decode cX8_row 15 = .ok (.if_icmp .eq 25, 3) := by decide +kernel
theorem dX8_row_18 : decode cX8_row 18 = .ok (.aload_n 0, 1) := by decide +kernel
theorem dX8_row_19 : decode cX8_row 19 = .ok (.getfield 10, 3) := by decide +kernel
theorem dX8_row_22 : decode cX8_row 22 = .ok (.iload 4, 2) := by decide +kernel
theorem dX8_row_24 : decode cX8_row 24 = .ok (.invokevirtual 55, 3) := by decide +kernel
theorem dX8_row_27 : decode cX8_row 27 = .ok (.ifCond .ne 13, 3) := by decide +kernel
theorem dX8_row_30 : decode cX8_row 30 = .ok (.new 63, 3) := by decide +kernel
theorem dX8_row_33 : decode cX8_row 33 = .ok (.dup, 1) := by decide +kernel
theorem dX8_row_34 : decode cX8_row 34 = .ok (.ldc 161, 2) := by decide +kernel
theorem dX8_row_36 : decode cX8_row 36 = .ok (.invokespecial 67, 3) := by decide +kernel
theorem dX8_row_39 : decode cX8_row 39 = .ok (.athrow, 1) := by decide +kernel
theorem dX8_row_40 : decode cX8_row 40 = .ok (.aload_n 0, 1) := by decide +kernel
theorem dX8_row_41 : decode cX8_row 41 = .ok (.getfield 26, 3) := by decide +kernel
theorem dX8_row_44 : decode cX8_row 44 = .ok (.getfield 163, 3) := by decide +kernel
theorem dX8_row_47 : decode cX8_row 47 = .ok (.bipush 50, 2) := by decide +kernel
theorem dX8_row_49 : decode cX8_row 49 = .ok (.if_icmp .lt 13, 3) := by decide +kernel
theorem dX8_row_52 : decode cX8_row 52 = .ok (.new 74, 3) := by decide +kernel
theorem dX8_row_55 : decode cX8_row 55 = .ok (.dup, 1) := by decide +kernel
theorem dX8_row_56 : decode cX8_row 56 = .ok (.ldc 166, 2) := by decide +kernel
