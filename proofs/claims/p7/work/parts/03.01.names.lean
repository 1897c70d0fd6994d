theorem goodIn_t {big : List Cond} (ck : List (List Cond)) (hc : big = ck.flatten) (ws : List Cond) (ps : List (Nat × Nat)) (hp : ws = ps.filterMap (fun p => (ck[p.1]?).bind (fun c => c[p.2]?))) (h : ws.all goodWord = true) : GoodIn big ws := by
  intro w hw
  have h1 := List.all_eq_true.mp h w hw
  rw [hp] at hw
  obtain ⟨p, -, hi⟩ := List.mem_filterMap.mp hw
  obtain ⟨c, hk, hi⟩ := Option.bind_eq_some_iff.mp hi
  rw [hc]
  exact ⟨List.mem_flatten.mpr ⟨c, List.mem_of_getElem? hk, List.mem_of_getElem? hi⟩, good_of_word h1⟩
theorem dX0_enter_58 : decode cX0_enter 58 = .ok (.aload_n 0, 1) := by decide +kernel
theorem dX0_enter_59 : decode cX0_enter 59 = .ok (.getfield 59, 3) := by decide +kernel
theorem dX0_enter_62 : decode cX0_enter 62 = .ok (.iload 4, 2) := by decide +kernel
theorem dX0_enter_64 : decode cX0_enter 64 = .ok (.iastore, 1) := by decide +kernel
theorem dX0_enter_65 : decode cX0_enter 65 = .ok (.aload_n 0, 1) := by decide +kernel
theorem dX0_enter_66 : decode cX0_enter 66 = .ok (.getfield 34, 3) := by decide +kernel
theorem dX0_enter_69 : decode cX0_enter 69 = .ok (.aload_n 0, 1) := by decide +kernel
theorem dX0_enter_70 : decode cX0_enter 70 = .ok (.getfield 59, 3) := by decide +kernel
theorem dX0_enter_73 : decode cX0_enter 73 = .ok (.iload 4, 2) := by decide +kernel
theorem dX0_enter_75 : decode cX0_enter 75 = .ok (.iastore, 1) := by decide +kernel
theorem dX0_enter_76 : decode cX0_enter 76 = .ok (.aload_n 0, 1) := by decide +kernel
theorem dX0_enter_77 : decode cX0_enter 77 = .ok (.dup, 1) := by decide +kernel
theorem dX0_enter_78 : decode cX0_enter 78 = .ok (.getfield 59, 3) := by decide +kernel
theorem dX0_enter_81 : decode cX0_enter 81 = .ok (.dup_x1, 1) := by decide +kernel
theorem dX0_enter_82 : decode cX0_enter 82 = .ok (.iconst 1, 1) := by decide +kernel
theorem dX0_enter_83 : decode cX0_enter 83 = .ok (.iadd, 1) := by decide +kernel
theorem dX0_enter_84 : decode cX0_enter 84 = .ok (.putfield 59, 3) := by decide +kernel
theorem dX0_enter_87 : decode cX0_enter 87 = .ok (.ireturn, 1) := by decide +kernel
set_option maxRecDepth 20000 in
theorem ggX0_canSwitchToMore_X0_isSwitch : GoodIn wsX0_canSwitchToMore wsX0_isSwitch := goodIn_r _ [8] rfl (by decide +kernel)
set_option maxRecDepth 20000 in
theorem gX0_canSwitchToMore_X0_isSwitch : GoodIn wsX0_canSwitchToMore (va_wsS RX0 65 yX0_isSwitch wsX0_isSwitch) := goodIn_app (goodIn_of _ (by decide +kernel)) ggX0_canSwitchToMore_X0_isSwitch
theorem dX0_canSwitchToMore_0 : decode cX0_canSwitchToMore 0 = .ok (.aload_n 0, 1) := by decide +kernel
theorem dX0_canSwitchToMore_1 : decode cX0_canSwitchToMore 1 = .ok (.getfield 59, 3) := by decide +kernel
theorem dX0_canSwitchToMore_4 : decode cX0_canSwitchToMore 4 = .ok (.iconst 1, 1) := by decide +kernel
theorem dX0_canSwitchToMore_5 : decode cX0_canSwitchToMore 5 = .ok (.isub, 1) := by decide +kernel
theorem dX0_canSwitchToMore_6 : decode cX0_canSwitchToMore 6 = .ok (.istore_n 1, 1) := by decide +kernel
theorem dX0_canSwitchToMore_7 : decode cX0_canSwitchToMore 7 = .ok (.iload_n 1, 1) := by decide +kernel
theorem dX0_canSwitchToMore_8 : decode cX0_canSwitchToMore 8 = .ok (.ifCond .lt 37, 3) := by decide +kernel
theorem dX0_canSwitchToMore_11 : decode cX0_canSwitchToMore 11 = .ok (.aload_n 0, 1) := by decide +kernel
theorem dX0_canSwitchToMore_12 : decode cX0_canSwitchToMore 12 = .ok (.getfield 19, 3) := by decide +kernel
theorem dX0_canSwitchToMore_15 : decode cX0_canSwitchToMore 15 = .ok (.iload_n 1, 1) := by decide +kernel
theorem dX0_canSwitchToMore_16 : decode cX0_canSwitchToMore 16 = .ok (.iaload, 1) := by decide +kernel
theorem dX0_canSwitchToMore_17 : decode cX0_canSwitchToMore 17 = .ok (.invokestatic 65, 3) := by decide +kernel
theorem dX0_canSwitchToMore_20 : decode cX0_canSwitchToMore 20 = .ok (.ifCond .eq 25, 3) := by decide +kernel
theorem dX0_canSwitchToMore_23 : decode cX0_canSwitchToMore 23 = .ok (.aload_n 0, 1) := by decide +kernel
theorem dX0_canSwitchToMore_24 : decode cX0_canSwitchToMore 24 = .ok (.getfield 34, 3) := by decide +kernel
theorem dX0_canSwitchToMore_27 : decode cX0_canSwitchToMore 27 = .ok (.iload_n 1, 1) := by decide +kernel
theorem dX0_canSwitchToMore_28 : decode cX0_canSwitchToMore 28 = .ok (.iaload, 1) := by decide +kernel
theorem dX0_canSwitchToMore_29 : decode cX0_canSwitchToMore 29 = .ok (.aload_n 0, 1) := by decide +kernel
theorem dX0_canSwitchToMore_30 : decode cX0_canSwitchToMore 30 = .ok (.getfield 31, 3) := by decide +kernel
theorem dX0_canSwitchToMore_33 : decode cX0_canSwitchToMore 33 = .ok (.iload_n 1, 1) := by decide +kernel
theorem dX0_canSwitchToMore_34 : decode cX0_canSwitchToMore 34 = .ok (.iaload, 1) := by decide +kernel
theorem dX0_canSwitchToMore_35 : decode cX0_canSwitchToMore 35 = .ok (.isub, 1) := by decide +kernel
theorem dX0_canSwitchToMore_36 : decode cX0_canSwitchToMore 36 = .ok (.bipush 50, 2) := by decide +kernel
theorem dX0_canSwitchToMore_38 : decode cX0_canSwitchToMore 38 = .ok (.if_icmp .ge 7, 3) := by decide +kernel
theorem dX0_canSwitchToMore_41 : decode cX0_canSwitchToMore 41 = .ok (.iconst 1, 1) := by decide +kernel
theorem dX0_canSwitchToMore_42 : decode cX0_canSwitchToMore 42 = .ok (.goto 4, 3) := by decide +kernel
theorem dX0_canSwitchToMore_45 : decode cX0_canSwitchToMore 45 = .ok (.iconst 0, 1) := by decide +kernel
theorem dX0_canSwitchToMore_46 : decode cX0_canSwitchToMore 46 = .ok (.ireturn, 1) := by decide +kernel
set_option maxRecDepth 20000 in
theorem ggX0_switchToMore_J7_copyOf_59c91 : GoodIn wsX0_switchToMore wsJ7_copyOf_59c91 := goodIn_r _ [8, 9, 10, 11, 12, 13, 14, 15, 16, 17, 18, 19, 20, 21, 22, 23] rfl (by decide +kernel)
set_option maxRecDepth 20000 in
theorem gX0_switchToMore_J7_copyOf_59c91 : GoodIn wsX0_switchToMore (va_wsS RX0 69 yJ7_copyOf_59c91 wsJ7_copyOf_59c91) := goodIn_app (goodIn_of _ (by decide +kernel)) ggX0_switchToMore_J7_copyOf_59c91
theorem dX0_switchToMore_0 : decode cX0_switchToMore 0 = .ok (.aload_n 0, 1) := by decide +kernel
theorem dX0_switchToMore_1 : decode cX0_switchToMore 1 = .ok (.getfield 59, 3) := by decide +kernel
theorem dX0_switchToMore_4 : decode cX0_switchToMore 4 = .ok (.iconst 1, 1) := by decide +kernel
theorem dX0_switchToMore_5 : decode cX0_switchToMore 5 = .ok (.isub, 1) := by decide +kernel
theorem dX0_switchToMore_6 : decode cX0_switchToMore 6 = .ok (.istore_n 2, 1) := by decide +kernel
theorem dX0_switchToMore_7 : decode cX0_switchToMore 7 = .ok (.aload_n 0, 1) := by decide +kernel
theorem dX0_switchToMore_8 : decode cX0_switchToMore 8 = .ok (.getfield 34, 3) := by decide +kernel
theorem dX0_switchToMore_11 : decode cX0_switchToMore 11 = .ok (.iload_n 2, 1) := by decide +kernel
theorem dX0_switchToMore_12 : decode cX0_switchToMore 12 = .ok (.iaload, 1) := by decide +kernel
theorem dX0_switchToMore_13 : decode cX0_switchToMore 13 = .ok (.istore_n 3, 1) := by decide +kernel
theorem dX0_switchToMore_14 : decode cX0_switchToMore 14 = .ok (.iload_n 3, 1) := by decide +kernel
theorem dX0_switchToMore_15 : decode cX0_switchToMore 15 = .ok (.aload_n 0, 1) := by decide +kernel
theorem dX0_switchToMore_16 : decode cX0_switchToMore 16 = .ok (.getfield 28, 3) := by decide +kernel
theorem dX0_switchToMore_19 : decode cX0_switchToMore 19 = .ok (.arraylength, 1) := by decide +kernel
theorem dX0_switchToMore_20 : decode cX0_switchToMore 20 = .ok (.if_icmp .lt 21, 3) := by decide +kernel
theorem dX0_switchToMore_23 : decode cX0_switchToMore 23 = .ok (.aload_n 0, 1) := by decide +kernel
theorem dX0_switchToMore_24 : decode cX0_switchToMore 24 = .ok (.aload_n 0, 1) := by decide +kernel
theorem dX0_switchToMore_25 : decode cX0_switchToMore 25 = .ok (.getfield 28, 3) := by decide +kernel
theorem dX0_switchToMore_28 : decode cX0_switchToMore 28 = .ok (.iconst 2, 1) := by decide +kernel
theorem dX0_switchToMore_29 : decode cX0_switchToMore 29 = .ok (.aload_n 0, 1) := by decide +kernel
theorem dX0_switchToMore_30 : decode cX0_switchToMore 30 = .ok (.getfield 28, 3) := by decide +kernel
theorem dX0_switchToMore_33 : decode cX0_switchToMore 33 = .ok (.arraylength, 1) := by decide +kernel
theorem dX0_switchToMore_34 : decode cX0_switchToMore 34 = .ok (.imul, 1) := by decide +kernel
theorem dX0_switchToMore_35 : decode cX0_switchToMore 35 = .ok (.invokestatic 69, 3) := by decide +kernel
theorem dX0_switchToMore_38 : decode cX0_switchToMore 38 = .ok (.putfield 28, 3) := by decide +kernel
theorem dX0_switchToMore_41 : decode cX0_switchToMore 41 = .ok (.aload_n 0, 1) := by decide +kernel
theorem dX0_switchToMore_42 : decode cX0_switchToMore 42 = .ok (.getfield 28, 3) := by decide +kernel
theorem dX0_switchToMore_45 : decode cX0_switchToMore 45 = .ok (.iload_n 3, 1) := by decide +kernel
theorem dX0_switchToMore_46 : decode cX0_switchToMore 46 = .ok (.iload_n 1, 1) := by decide +kernel
theorem dX0_switchToMore_47 : decode cX0_switchToMore 47 = .ok (.iastore, 1) := by decide +kernel
theorem dX0_switchToMore_48 : decode cX0_switchToMore 48 = .ok (.aload_n 0, 1) := by decide +kernel
theorem dX0_switchToMore_49 : decode cX0_switchToMore 49 = .ok (.getfield 34, 3) := by decide +kernel
theorem dX0_switchToMore_52 : decode cX0_switchToMore 52 = .ok (.iload_n 2, 1) := by decide +kernel
theorem dX0_switchToMore_53 : decode cX0_switchToMore 53 = .ok (.iload_n 3, 1) := by decide +kernel
theorem dX0_switchToMore_54 : decode cX0_switchToMore 54 = .ok (.iconst 1, 1) := by decide +kernel
theorem dX0_switchToMore_55 : decode cX0_switchToMore 55 = .ok (.iadd, 1) := by decide +kernel
theorem dX0_switchToMore_56 : decode cX0_switchToMore 56 = .ok (.iastore, 1) := by decide +kernel
theorem dX0_switchToMore_57 : decode cX0_switchToMore 57 = .ok (.iload_n 3, 1) := by decide +kernel
theorem dX0_switchToMore_58 : decode cX0_switchToMore 58 = .ok (.iconst 1, 1) := by decide +kernel
theorem dX0_switchToMore_59 : decode cX0_switchToMore 59 = .ok (.iadd, 1) := by decide +kernel
theorem dX0_switchToMore_60 : decode cX0_switchToMore 60 = .ok (.aload_n 0, 1) := by decide +kernel
theorem dX0_switchToMore_61 : decode cX0_switchToMore 61 = .ok (.getfield 31, 3) := by decide +kernel
theorem dX0_switchToMore_64 : decode cX0_switchToMore 64 = .ok (.iload_n 2, 1) := by decide +kernel
theorem dX0_switchToMore_65 : decode cX0_switchToMore 65 = .ok (.iaload, 1) := by decide +kernel
theorem dX0_switchToMore_66 : decode cX0_switchToMore 66 = .ok (.isub, 1) := by decide +kernel
theorem dX0_switchToMore_67 : decode cX0_switchToMore 67 = .ok (.ireturn, 1) := by decide +kernel
theorem dX0_enterRow_0 : decode cX0_enterRow 0 = .ok (.iconst 4, 1) := by decide +kernel
theorem dX0_enterRow_1 : decode cX0_enterRow 1 = .ok (.aload_n 0, 1) := by decide +kernel
theorem dX0_enterRow_2 : decode cX0_enterRow 2 = .ok (.getfield 62, 3) := by decide +kernel
theorem dX0_enterRow_5 : decode cX0_enterRow 5 = .ok (.imul, 1) := by decide +kernel
theorem dX0_enterRow_6 : decode cX0_enterRow 6 = .ok (.istore 5, 2) := by decide +kernel
theorem dX0_enterRow_8 : decode cX0_enterRow 8 = .ok (.aload_n 0, 1) := by decide +kernel
theorem dX0_enterRow_9 : decode cX0_enterRow 9 = .ok (.getfield 37, 3) := by decide +kernel
theorem dX0_enterRow_12 : decode cX0_enterRow 12 = .ok (.iload 5, 2) := by decide +kernel
theorem dX0_enterRow_14 : decode cX0_enterRow 14 = .ok (.iload_n 1, 1) := by decide +kernel
theorem dX0_enterRow_15 : decode cX0_enterRow 15 = .ok (.iastore, 1) := by decide +kernel
theorem dX0_enterRow_16 : decode cX0_enterRow 16 = .ok (.aload_n 0, 1) := by decide +kernel
theorem dX0_enterRow_17 : decode cX0_enterRow 17 = .ok (.getfield 37, 3) := by decide +kernel
theorem dX0_enterRow_20 : decode cX0_enterRow 20 = .ok (.iload 5, 2) := by decide +kernel
theorem dX0_enterRow_22 : decode cX0_enterRow 22 = .ok (.iconst 1, 1) := by decide +kernel
theorem dX0_enterRow_23 : decode cX0_enterRow 23 = .ok (.iadd, 1) := by decide +kernel
theorem dX0_enterRow_24 : decode cX0_enterRow 24 = .ok (.iload_n 2, 1) := by decide +kernel
theorem dX0_enterRow_25 : decode cX0_enterRow 25 = .ok (.iastore, 1) := by decide +kernel
theorem dX0_enterRow_26 : decode cX0_enterRow 26 = .ok (.aload_n 0, 1) := by decide +kernel
theorem dX0_enterRow_27 : decode cX0_enterRow 27 = .ok (.getfield 37, 3) := by decide +kernel
theorem dX0_enterRow_30 : decode cX0_enterRow 30 = .ok (.iload 5, 2) := by decide +kernel
theorem dX0_enterRow_32 : decode cX0_enterRow 32 = .ok (.iconst 2, 1) := by decide +kernel
theorem dX0_enterRow_33 : decode cX0_enterRow 33 = .ok (.iadd, 1) := by decide +kernel
theorem dX0_enterRow_34 : decode cX0_enterRow 34 = .ok (.iload_n 3, 1) := by decide +kernel
theorem dX0_enterRow_35 : decode cX0_enterRow 35 = .ok (.iastore, 1) := by decide +kernel
theorem dX0_enterRow_36 : decode cX0_enterRow 36 = .ok (.aload_n 0, 1) := by decide +kernel
theorem dX0_enterRow_37 : decode cX0_enterRow 37 = .ok (.getfield 37, 3) := by decide +kernel
theorem dX0_enterRow_40 : decode cX0_enterRow 40 = .ok (.iload 5, 2) := by decide +kernel
theorem dX0_enterRow_42 : decode cX0_enterRow 42 = .ok (.iconst 3, 1) := by decide +kernel
theorem dX0_enterRow_43 : decode cX0_enterRow 43 = .ok (.iadd, 1) := by decide +kernel
theorem dX0_enterRow_44 : decode cX0_enterRow 44 = .ok (.iload 4, 2) := by decide +kernel
theorem dX0_enterRow_46 : decode cX0_enterRow 46 = .ok (.iastore, 1) := by decide +kernel
theorem dX0_enterRow_47 : decode cX0_enterRow 47 = .ok (.aload_n 0, 1) := by decide +kernel
theorem dX0_enterRow_48 : decode cX0_enterRow 48 = .ok (.dup, 1) := by decide +kernel
theorem dX0_enterRow_49 : decode cX0_enterRow 49 = .ok (.getfield 62, 3) := by decide +kernel
theorem dX0_enterRow_52 : decode cX0_enterRow 52 = .ok (.iconst 1, 1) := by decide +kernel
theorem dX0_enterRow_53 : decode cX0_enterRow 53 = .ok (.iadd, 1) := by decide +kernel
theorem dX0_enterRow_54 : decode cX0_enterRow 54 = .ok (.putfield 62, 3) := by decide +kernel
theorem dX0_enterRow_57 : decode cX0_enterRow 57 = .ok (.aload_n 0, 1) := by decide +kernel
theorem dX0_enterRow_58 : decode cX0_enterRow 58 = .ok (.getfield 62, 3) := by decide +kernel
theorem dX0_enterRow_61 : decode cX0_enterRow 61 = .ok (.ireturn, 1) := by decide +kernel
theorem dX0_isOpcode_0 : decode cX0_isOpcode 0 = .ok (.iload_n 0, 1) := by decide +kernel
theorem dX0_isOpcode_1 : decode cX0_isOpcode 1 = .ok (.ifCond .lt 9, 3) := by decide +kernel
theorem dX0_isOpcode_4 : decode cX0_isOpcode 4 = .ok (.iload_n 0, 1) := by decide +kernel
theorem dX0_isOpcode_5 : decode cX0_isOpcode 5 = .ok (.bipush 18, 2) := by decide +kernel
theorem dX0_isOpcode_7 : decode cX0_isOpcode 7 = .ok (.if_icmp .le 54, 3) := by decide +kernel
theorem dX0_isOpcode_10 : decode cX0_isOpcode 10 = .ok (.iload_n 0, 1) := by decide +kernel
theorem dX0_isOpcode_11 : decode cX0_isOpcode 11 = .ok (.bipush 20, 2) := by decide +kernel
theorem dX0_isOpcode_13 : decode cX0_isOpcode 13 = .ok (.if_icmp .lt 9, 3) := by decide +kernel
theorem dX0_isOpcode_16 : decode cX0_isOpcode 16 = .ok (.iload_n 0, 1) := by decide +kernel
theorem dX0_isOpcode_17 : decode cX0_isOpcode 17 = .ok (.bipush 25, 2) := by decide +kernel
theorem dX0_isOpcode_19 : decode cX0_isOpcode 19 = .ok (.if_icmp .le 42, 3) := by decide +kernel
theorem dX0_isOpcode_22 : decode cX0_isOpcode 22 = .ok (.iload_n 0, 1) := by decide +kernel
theorem dX0_isOpcode_23 : decode cX0_isOpcode 23 = .ok (.bipush 46, 2) := by decide +kernel
theorem dX0_isOpcode_25 : decode cX0_isOpcode 25 = .ok (.if_icmp .lt 9, 3) := by decide +kernel
theorem dX0_isOpcode_28 : decode cX0_isOpcode 28 = .ok (.iload_n 0, 1) := by decide +kernel
theorem dX0_isOpcode_29 : decode cX0_isOpcode 29 = .ok (.bipush 58, 2) := by decide +kernel
theorem dX0_isOpcode_31 : decode cX0_isOpcode 31 = .ok (.if_icmp .le 30, 3) := by decide +kernel
theorem dX0_isOpcode_34 : decode cX0_isOpcode 34 = .ok (.iload_n 0, 1) := by decide +kernel
theorem dX0_isOpcode_35 : decode cX0_isOpcode 35 = .ok (.bipush 79, 2) := by decide +kernel
theorem dX0_isOpcode_37 : decode cX0_isOpcode 37 = .ok (.if_icmp .lt 10, 3) := by decide +kernel
theorem dX0_isOpcode_40 : decode cX0_isOpcode 40 = .ok (.iload_n 0, 1) := by decide +kernel
theorem dX0_isOpcode_41 : decode cX0_isOpcode 41 = .ok (.sipush 195, 3) := by decide +kernel
theorem dX0_isOpcode_44 : decode cX0_isOpcode 44 = .ok (.if_icmp .le 17, 3) := by decide +kernel
theorem dX0_isOpcode_47 : decode cX0_isOpcode 47 = .ok (.iload_n 0, 1) := by decide +kernel
theorem dX0_isOpcode_48 : decode cX0_isOpcode 48 = .ok (.sipush 197, 3) := by decide +kernel
theorem dX0_isOpcode_51 : decode cX0_isOpcode 51 = .ok (.if_icmp .lt 14, 3) := by decide +kernel
theorem dX0_isOpcode_54 : decode cX0_isOpcode 54 = .ok (.iload_n 0, 1) := by decide +kernel
theorem dX0_isOpcode_55 : decode cX0_isOpcode 55 = .ok (.sipush 199, 3) := by decide +kernel
theorem dX0_isOpcode_58 : decode cX0_isOpcode 58 = .ok (.if_icmp .gt 7, 3) := by decide +kernel
theorem dX0_isOpcode_61 : decode cX0_isOpcode 61 = .ok (.iconst 1, 1) := by decide +kernel
theorem dX0_isOpcode_62 : decode cX0_isOpcode 62 = .ok (.goto 4, 3) := by decide +kernel
theorem dX0_isOpcode_65 : decode cX0_isOpcode 65 = .ok (.iconst 0, 1) := by decide +kernel
theorem dX0_isOpcode_66 : decode cX0_isOpcode 66 = .ok (.ireturn, 1) := by decide +kernel
theorem dX0_isOfLocal_0 : decode cX0_isOfLocal 0 = .ok (.iload_n 0, 1) := by decide +kernel
theorem dX0_isOfLocal_1 : decode cX0_isOfLocal 1 = .ok (.bipush 21, 2) := by decide +kernel
theorem dX0_isOfLocal_3 : decode cX0_isOfLocal 3 = .ok (.if_icmp .lt 9, 3) := by decide +kernel
theorem dX0_isOfLocal_6 : decode cX0_isOfLocal 6 = .ok (.iload_n 0, 1) := by decide +kernel
theorem dX0_isOfLocal_7 : decode cX0_isOfLocal 7 = .ok (.bipush 25, 2) := by decide +kernel
theorem dX0_isOfLocal_9 : decode cX0_isOfLocal 9 = .ok (.if_icmp .le 29, 3) := by decide +kernel
theorem dX0_isOfLocal_12 : decode cX0_isOfLocal 12 = .ok (.iload_n 0, 1) := by decide +kernel
theorem dX0_isOfLocal_13 : decode cX0_isOfLocal 13 = .ok (.bipush 54, 2) := by decide +kernel
theorem dX0_isOfLocal_15 : decode cX0_isOfLocal 15 = .ok (.if_icmp .lt 9, 3) := by decide +kernel
theorem dX0_isOfLocal_18 : decode cX0_isOfLocal 18 = .ok (.iload_n 0, 1) := by decide +kernel
theorem dX0_isOfLocal_19 : decode cX0_isOfLocal 19 = .ok (.bipush 58, 2) := by decide +kernel
theorem dX0_isOfLocal_21 : decode cX0_isOfLocal 21 = .ok (.if_icmp .le 17, 3) := by decide +kernel
theorem dX0_isOfLocal_24 : decode cX0_isOfLocal 24 = .ok (.iload_n 0, 1) := by decide +kernel
theorem dX0_isOfLocal_25 : decode cX0_isOfLocal 25 = .ok (.sipush 132, 3) := by decide +kernel
theorem dX0_isOfLocal_28 : decode cX0_isOfLocal 28 = .ok (.if_icmp .eq 10, 3) := by decide +kernel
theorem dX0_isOfLocal_31 : decode cX0_isOfLocal 31 = .ok (.iload_n 0, 1) := by decide +kernel
theorem dX0_isOfLocal_32 : decode cX0_isOfLocal 32 = .ok (.sipush 169, 3) := by decide +kernel
theorem dX0_isOfLocal_35 : decode cX0_isOfLocal 35 = .ok (.if_icmp .ne 7, 3) := by decide +kernel
theorem dX0_isOfLocal_38 : decode cX0_isOfLocal 38 = .ok (.iconst 1, 1) := by decide +kernel
theorem dX0_isOfLocal_39 : decode cX0_isOfLocal 39 = .ok (.goto 4, 3) := by decide +kernel
theorem dX0_isOfLocal_42 : decode cX0_isOfLocal 42 = .ok (.iconst 0, 1) := by decide +kernel
theorem dX0_isOfLocal_43 : decode cX0_isOfLocal 43 = .ok (.ireturn, 1) := by decide +kernel
theorem dX0_isOfWideLocal_0 : decode cX0_isOfWideLocal 0 = .ok (.iload_n 0, 1) := by decide +kernel
theorem dX0_isOfWideLocal_1 : decode cX0_isOfWideLocal 1 = .ok (.bipush 22, 2) := by decide +kernel
theorem dX0_isOfWideLocal_3 : decode cX0_isOfWideLocal 3 = .ok (.if_icmp .eq 21, 3) := by decide +kernel
theorem dX0_isOfWideLocal_6 : decode cX0_isOfWideLocal 6 = .ok (.iload_n 0, 1) := by decide +kernel
theorem dX0_isOfWideLocal_7 : decode cX0_isOfWideLocal 7 = .ok (.bipush 24, 2) := by decide +kernel
theorem dX0_isOfWideLocal_9 : decode cX0_isOfWideLocal 9 = .ok (.if_icmp .eq 15, 3) := by decide +kernel
theorem dX0_isOfWideLocal_12 : decode cX0_isOfWideLocal 12 = .ok (.iload_n 0, 1) := by decide +kernel
theorem dX0_isOfWideLocal_13 : decode cX0_isOfWideLocal 13 = .ok (.bipush 55, 2) := by decide +kernel
theorem dX0_isOfWideLocal_15 : decode cX0_isOfWideLocal 15 = .ok (.if_icmp .eq 9, 3) := by decide +kernel
theorem dX0_isOfWideLocal_18 : decode cX0_isOfWideLocal 18 = .ok (.iload_n 0, 1) := by decide +kernel
theorem dX0_isOfWideLocal_19 : decode cX0_isOfWideLocal 19 = .ok (.bipush 57, 2) := by decide +kernel
theorem dX0_isOfWideLocal_21 : decode cX0_isOfWideLocal 21 = .ok (.if_icmp .ne 7, 3) := by decide +kernel
theorem dX0_isOfWideLocal_24 : decode cX0_isOfWideLocal 24 = .ok (.iconst 1, 1) := by decide +kernel
theorem dX0_isOfWideLocal_25 : decode cX0_isOfWideLocal 25 = .ok (.goto 4, 3) := by decide +kernel
theorem dX0_isOfWideLocal_28 : decode cX0_isOfWideLocal 28 = .ok (.iconst 0, 1) := by decide +kernel
theorem dX0_isOfWideLocal_29 : decode cX0_isOfWideLocal 29 = .ok (.ireturn, 1) := by decide +kernel
theorem dX0_isJump_0 : decode cX0_isJump 0 = .ok (.iload_n 0, 1) := by decide +kernel
theorem dX0_isJump_1 : decode cX0_isJump 1 = .ok (.sipush 153, 3) := by decide +kernel
theorem dX0_isJump_4 : decode cX0_isJump 4 = .ok (.if_icmp .lt 10, 3) := by decide +kernel
theorem dX0_isJump_7 : decode cX0_isJump 7 = .ok (.iload_n 0, 1) := by decide +kernel
theorem dX0_isJump_8 : decode cX0_isJump 8 = .ok (.sipush 168, 3) := by decide +kernel
theorem dX0_isJump_11 : decode cX0_isJump 11 = .ok (.if_icmp .le 17, 3) := by decide +kernel
theorem dX0_isJump_14 : decode cX0_isJump 14 = .ok (.iload_n 0, 1) := by decide +kernel
theorem dX0_isJump_15 : decode cX0_isJump 15 = .ok (.sipush 198, 3) := by decide +kernel
theorem dX0_isJump_18 : decode cX0_isJump 18 = .ok (.if_icmp .eq 10, 3) := by decide +kernel
theorem dX0_isJump_21 : decode cX0_isJump 21 = .ok (.iload_n 0, 1) := by decide +kernel
theorem dX0_isJump_22 : decode cX0_isJump 22 = .ok (.sipush 199, 3) := by decide +kernel
theorem dX0_isJump_25 : decode cX0_isJump 25 = .ok (.if_icmp .ne 7, 3) := by decide +kernel
theorem dX0_isJump_28 : decode cX0_isJump 28 = .ok (.iconst 1, 1) := by decide +kernel
theorem dX0_isJump_29 : decode cX0_isJump 29 = .ok (.goto 4, 3) := by decide +kernel
theorem dX0_isJump_32 : decode cX0_isJump 32 = .ok (.iconst 0, 1) := by decide +kernel
theorem dX0_isJump_33 : decode cX0_isJump 33 = .ok (.ireturn, 1) := by decide +kernel
theorem dX0_isSwitch_0 : decode cX0_isSwitch 0 = .ok (.iload_n 0, 1) := by decide +kernel
theorem dX0_isSwitch_1 : decode cX0_isSwitch 1 = .ok (.sipush 170, 3) := by decide +kernel
theorem dX0_isSwitch_4 : decode cX0_isSwitch 4 = .ok (.if_icmp .eq 10, 3) := by decide +kernel
theorem dX0_isSwitch_7 : decode cX0_isSwitch 7 = .ok (.iload_n 0, 1) := by decide +kernel
theorem dX0_isSwitch_8 : decode cX0_isSwitch 8 = .ok (.sipush 171, 3) := by decide +kernel
theorem dX0_isSwitch_11 : decode cX0_isSwitch 11 = .ok (.if_icmp .ne 7, 3) := by decide +kernel
theorem dX0_isSwitch_14 : decode cX0_isSwitch 14 = .ok (.iconst 1, 1) := by decide +kernel
theorem dX0_isSwitch_15 : decode cX0_isSwitch 15 = .ok (.goto 4, 3) := by decide +kernel
theorem dX0_isSwitch_18 : decode cX0_isSwitch 18 = .ok (.iconst 0, 1) := by decide +kernel
theorem dX0_isSwitch_19 : decode cX0_isSwitch 19 = .ok (.ireturn, 1) := by decide +kernel
set_option maxRecDepth 20000 in
theorem ggX0_isSound_X0_argumentPlaces : GoodIn wsX0_isSound wsX0_argumentPlaces := goodIn_r _ [8, 9, 10, 11, 12, 13, 14, 15, 16, 17, 44, 45, 46, 47, 48, 49, 50, 51, 52, 53, 54, 55, 56, 57, 58, 59, 60] rfl (by decide +kernel)
set_option maxRecDepth 20000 in
theorem gX0_isSound_X0_argumentPlaces : GoodIn wsX0_isSound (wsV RX0 75 RX0 yX0_argumentPlaces wsX0_argumentPlaces) := goodIn_app (goodIn_of _ (by decide +kernel)) ggX0_isSound_X0_argumentPlaces
set_option maxRecDepth 20000 in
theorem ggX0_isSound_X0_isSoundAt : GoodIn wsX0_isSound wsX0_isSoundAt := goodIn_r _ [21, 22, 23, 2, 1, 24, 25, 26, 27, 28, 7, 29, 30, 31, 32, 33, 34, 35, 36, 37, 38, 44, 45, 46, 47, 48, 49, 50, 51, 52, 53, 54, 55, 56, 57, 58, 59, 60] rfl (by decide +kernel)
set_option maxRecDepth 20000 in
theorem gX0_isSound_X0_isSoundAt : GoodIn wsX0_isSound (wsV RX0 79 RX0 yX0_isSoundAt wsX0_isSoundAt) := goodIn_app (goodIn_of _ (by decide +kernel)) ggX0_isSound_X0_isSoundAt
set_option maxRecDepth 20000 in
theorem ggX0_isSound_X0_isSoundRow : GoodIn wsX0_isSound wsX0_isSoundRow := goodIn_r _ [42, 43, 1, 44, 45, 46, 47, 48, 49, 50, 51, 52, 53, 54, 55, 56, 57, 58, 59, 60] rfl (by decide +kernel)
set_option maxRecDepth 20000 in
theorem gX0_isSound_X0_isSoundRow : GoodIn wsX0_isSound (wsV RX0 82 RX0 yX0_isSoundRow wsX0_isSoundRow) := goodIn_app (goodIn_of _ (by decide +kernel)) ggX0_isSound_X0_isSoundRow
theorem dX0_isSound_0 : decode cX0_isSound 0 = .ok (.aload_n 0, 1) := by decide +kernel
theorem dX0_isSound_1 : decode cX0_isSound 1 = .ok (.getfield 59, 3) := by decide +kernel
theorem dX0_isSound_4 : decode cX0_isSound 4 = .ok (.ifCond .le 18, 3) := by decide +kernel
theorem dX0_isSound_7 : decode cX0_isSound 7 = .ok (.aload_n 0, 1) := by decide +kernel
theorem dX0_isSound_8 : decode cX0_isSound 8 = .ok (.invokevirtual 75, 3) := by decide +kernel
theorem dX0_isSound_11 : decode cX0_isSound 11 = .ok (.aload_n 0, 1) := by decide +kernel
theorem dX0_isSound_12 : decode cX0_isSound 12 = .ok (.getfield 50, 3) := by decide +kernel
theorem dX0_isSound_15 : decode cX0_isSound 15 = .ok (.if_icmp .gt 7, 3) := by decide +kernel
theorem dX0_isSound_18 : decode cX0_isSound 18 = .ok (.iconst 1, 1) := by decide +kernel
theorem dX0_isSound_19 : decode cX0_isSound 19 = .ok (.goto 4, 3) := by decide +kernel
theorem dX0_isSound_22 : decode cX0_isSound 22 = .ok (.iconst 0, 1) := by decide +kernel
theorem dX0_isSound_23 : decode cX0_isSound 23 = .ok (.istore_n 1, 1) := by decide +kernel
theorem dX0_isSound_24 : decode cX0_isSound 24 = .ok (.iconst 0, 1) := by decide +kernel
theorem dX0_isSound_25 : decode cX0_isSound 25 = .ok (.istore_n 2, 1) := by decide +kernel
theorem dX0_isSound_26 : decode cX0_isSound 26 = .ok (.iload_n 2, 1) := by decide +kernel
theorem dX0_isSound_27 : decode cX0_isSound 27 = .ok (.aload_n 0, 1) := by decide +kernel
theorem dX0_isSound_28 : decode cX0_isSound 28 = .ok (.getfield 59, 3) := by decide +kernel
theorem dX0_isSound_31 : decode cX0_isSound 31 = .ok (.if_icmp .ge 19, 3) := by decide +kernel
theorem dX0_isSound_34 : decode cX0_isSound 34 = .ok (.iload_n 1, 1) := by decide +kernel
theorem dX0_isSound_35 : decode cX0_isSound 35 = .ok (.ifCond .eq 15, 3) := by decide +kernel
theorem dX0_isSound_38 : decode cX0_isSound 38 = .ok (.aload_n 0, 1) := by decide +kernel
theorem dX0_isSound_39 : decode cX0_isSound 39 = .ok (.iload_n 2, 1) := by decide +kernel
theorem dX0_isSound_40 : decode cX0_isSound 40 = .ok (.invokevirtual 79, 3) := by decide +kernel
theorem dX0_isSound_43 : decode cX0_isSound 43 = .ok (.istore_n 1, 1) := by decide +kernel
theorem dX0_isSound_44 : decode cX0_isSound 44 = .ok (.iinc 2 1, 3) := by decide +kernel
theorem dX0_isSound_47 : decode cX0_isSound 47 = .ok (.goto (-21), 3) := by decide +kernel
theorem dX0_isSound_50 : decode cX0_isSound 50 = .ok (.iconst 0, 1) := by decide +kernel
theorem dX0_isSound_51 : decode cX0_isSound 51 = .ok (.istore_n 2, 1) := by decide +kernel
theorem dX0_isSound_52 : decode cX0_isSound 52 = .ok (.iload_n 2, 1) := by decide +kernel
theorem dX0_isSound_53 : decode cX0_isSound 53 = .ok (.aload_n 0, 1) := by decide +kernel
theorem dX0_isSound_54 : decode cX0_isSound 54 = .ok (.getfield 62, 3) := by decide +kernel
theorem dX0_isSound_57 : decode cX0_isSound 57 = .ok (.if_icmp .ge 19, 3) := by decide +kernel
theorem dX0_isSound_60 : decode cX0_isSound 60 = .ok (.iload_n 1, 1) := by decide +kernel
theorem dX0_isSound_61 : decode cX0_isSound 61 = .ok (.ifCond .eq 15, 3) := by decide +kernel
theorem dX0_isSound_64 : decode cX0_isSound 64 = .ok (.aload_n 0, 1) := by decide +kernel
theorem dX0_isSound_65 : decode cX0_isSound 65 = .ok (.iload_n 2, 1) := by decide +kernel
theorem dX0_isSound_66 : decode cX0_isSound 66 = .ok (.invokevirtual 82, 3) := by decide +kernel
theorem dX0_isSound_69 : decode cX0_isSound 69 = .ok (.istore_n 1, 1) := by decide +kernel
theorem dX0_isSound_70 : decode cX0_isSound 70 = .ok (.iinc 2 1, 3) := by decide +kernel
theorem dX0_isSound_73 : decode cX0_isSound 73 = .ok (.goto (-21), 3) := by decide +kernel
theorem dX0_isSound_76 : decode cX0_isSound 76 = .ok (.iload_n 1, 1) := by decide +kernel
theorem dX0_isSound_77 : decode cX0_isSound 77 = .ok (.ireturn, 1) := by decide +kernel
set_option maxRecDepth 20000 in
theorem ggX0_argumentPlaces_X7_widthOf : GoodIn wsX0_argumentPlaces wsX7_widthOf := goodIn_r _ [7, 8, 9] rfl (by decide +kernel)
set_option maxRecDepth 20000 in
theorem gX0_argumentPlaces_X7_widthOf : GoodIn wsX0_argumentPlaces (va_wsS RX0 85 yX7_widthOf wsX7_widthOf) := goodIn_app (goodIn_of _ (by decide +kernel)) ggX0_argumentPlaces_X7_widthOf
theorem dX0_argumentPlaces_0 : decode cX0_argumentPlaces 0 = .ok (.aload_n 0, 1) := by decide +kernel
theorem dX0_argumentPlaces_1 : decode cX0_argumentPlaces 1 = .ok (.getfield 47, 3) := by decide +kernel
theorem dX0_argumentPlaces_4 : decode cX0_argumentPlaces 4 = .ok (.ifCond .ne 7, 3) := by decide +kernel
theorem dX0_argumentPlaces_7 : decode cX0_argumentPlaces 7 = .ok (.iconst 0, 1) := by decide +kernel
theorem dX0_argumentPlaces_8 : decode cX0_argumentPlaces 8 = .ok (.goto 4, 3) := by decide +kernel
theorem dX0_argumentPlaces_11 : decode cX0_argumentPlaces 11 = .ok (.iconst 1, 1) := by decide +kernel
theorem dX0_argumentPlaces_12 : decode cX0_argumentPlaces 12 = .ok (.istore_n 1, 1) := by decide +kernel
theorem dX0_argumentPlaces_13 : decode cX0_argumentPlaces 13 = .ok (.iconst 0, 1) := by decide +kernel
theorem dX0_argumentPlaces_14 : decode cX0_argumentPlaces 14 = .ok (.istore_n 2, 1) := by decide +kernel
theorem dX0_argumentPlaces_15 : decode cX0_argumentPlaces 15 = .ok (.iload_n 2, 1) := by decide +kernel
theorem dX0_argumentPlaces_16 : decode cX0_argumentPlaces 16 = .ok (.aload_n 0, 1) := by decide +kernel
theorem dX0_argumentPlaces_17 : decode cX0_argumentPlaces 17 = .ok (.getfield 56, 3) := by decide +kernel
theorem dX0_argumentPlaces_20 : decode cX0_argumentPlaces 20 = .ok (.if_icmp .ge 21, 3) := by decide +kernel
theorem dX0_argumentPlaces_23 : decode cX0_argumentPlaces 23 = .ok (.iload_n 1, 1) := by decide +kernel
theorem dX0_argumentPlaces_24 : decode cX0_argumentPlaces 24 = .ok (.aload_n 0, 1) := by decide +kernel
theorem dX0_argumentPlaces_25 : decode cX0_argumentPlaces 25 = .ok (.getfield 15, 3) := by decide +kernel
theorem dX0_argumentPlaces_28 : decode cX0_argumentPlaces 28 = .ok (.iload_n 2, 1) := by decide +kernel
theorem dX0_argumentPlaces_29 : decode cX0_argumentPlaces 29 = .ok (.iaload, 1) := by decide +kernel
theorem dX0_argumentPlaces_30 : decode cX0_argumentPlaces 30 = .ok (.invokestatic 85, 3) := by decide +kernel
theorem dX0_argumentPlaces_33 : decode cX0_argumentPlaces 33 = .ok (.iadd, 1) := by decide +kernel
theorem dX0_argumentPlaces_34 : decode cX0_argumentPlaces 34 = .ok (.istore_n 1, 1) := by decide +kernel
theorem dX0_argumentPlaces_35 : decode cX0_argumentPlaces 35 = .ok (.iinc 2 1, 3) := by decide +kernel
theorem dX0_argumentPlaces_38 : decode cX0_argumentPlaces 38 = .ok (.goto (-23), 3) := by decide +kernel
theorem dX0_argumentPlaces_41 : decode cX0_argumentPlaces 41 = .ok (.iload_n 1, 1) := by decide +kernel
theorem dX0_argumentPlaces_42 : decode cX0_argumentPlaces 42 = .ok (.ireturn, 1) := by decide +kernel
set_option maxRecDepth 20000 in
theorem ggX0_isSoundAt_X0_isOfLocal : GoodIn wsX0_isSoundAt wsX0_isOfLocal := goodIn_r _ [11] rfl (by decide +kernel)
set_option maxRecDepth 20000 in
theorem gX0_isSoundAt_X0_isOfLocal : GoodIn wsX0_isSoundAt (va_wsS RX0 91 yX0_isOfLocal wsX0_isOfLocal) := goodIn_app (goodIn_of _ (by decide +kernel)) ggX0_isSoundAt_X0_isOfLocal
set_option maxRecDepth 20000 in
theorem ggX0_isSoundAt_X0_isOfWideLocal : GoodIn wsX0_isSoundAt wsX0_isOfWideLocal := goodIn_r _ [14] rfl (by decide +kernel)
set_option maxRecDepth 20000 in
theorem gX0_isSoundAt_X0_isOfWideLocal : GoodIn wsX0_isSoundAt (va_wsS RX0 94 yX0_isOfWideLocal wsX0_isOfWideLocal) := goodIn_app (goodIn_of _ (by decide +kernel)) ggX0_isSoundAt_X0_isOfWideLocal
set_option maxRecDepth 20000 in
theorem ggX0_isSoundAt_X0_isJump : GoodIn wsX0_isSoundAt wsX0_isJump := goodIn_r _ [17] rfl (by decide +kernel)
set_option maxRecDepth 20000 in
theorem gX0_isSoundAt_X0_isJump : GoodIn wsX0_isSoundAt (va_wsS RX0 97 yX0_isJump wsX0_isJump) := goodIn_app (goodIn_of _ (by decide +kernel)) ggX0_isSoundAt_X0_isJump
set_option maxRecDepth 20000 in
theorem ggX0_isSoundAt_X0_isSwitch : GoodIn wsX0_isSoundAt wsX0_isSwitch := goodIn_r _ [20] rfl (by decide +kernel)
set_option maxRecDepth 20000 in
theorem gX0_isSoundAt_X0_isSwitch : GoodIn wsX0_isSoundAt (va_wsS RX0 65 yX0_isSwitch wsX0_isSwitch) := goodIn_app (goodIn_of _ (by decide +kernel)) ggX0_isSoundAt_X0_isSwitch
theorem dX0_isSoundAt_0 : decode cX0_isSoundAt 0 = .ok (.aload_n 0, 1) := by decide +kernel
theorem dX0_isSoundAt_1 : decode cX0_isSoundAt 1 = .ok (.getfield 19, 3) := by decide +kernel
theorem dX0_isSoundAt_4 : decode cX0_isSoundAt 4 = .ok (.iload_n 1, 1) := by decide +kernel
theorem dX0_isSoundAt_5 : decode cX0_isSoundAt 5 = .ok (.iaload, 1) := by decide +kernel
theorem dX0_isSoundAt_6 : decode cX0_isSoundAt 6 = .ok (.istore_n 2, 1) := by decide +kernel
theorem dX0_isSoundAt_7 : decode cX0_isSoundAt 7 = .ok (.iload_n 2, 1) := by decide +kernel
theorem dX0_isSoundAt_8 : decode cX0_isSoundAt 8 = .ok (.invokestatic 91, 3) := by decide +kernel
theorem dX0_isSoundAt_11 : decode cX0_isSoundAt 11 = .ok (.ifCond .eq 38, 3) := by decide +kernel
theorem dX0_isSoundAt_14 : decode cX0_isSoundAt 14 = .ok (.aload_n 0, 1) := by decide +kernel
theorem dX0_isSoundAt_15 : decode cX0_isSoundAt 15 = .ok (.getfield 22, 3) := by decide +kernel
theorem dX0_isSoundAt_18 : decode cX0_isSoundAt 18 = .ok (.iload_n 1, 1) := by decide +kernel
theorem dX0_isSoundAt_19 : decode cX0_isSoundAt 19 = .ok (.iaload, 1) := by decide +kernel
theorem dX0_isSoundAt_20 : decode cX0_isSoundAt 20 = .ok (.iload_n 2, 1) := by decide +kernel
theorem dX0_isSoundAt_21 : decode cX0_isSoundAt 21 = .ok (.invokestatic 94, 3) := by decide +kernel
theorem dX0_isSoundAt_24 : decode cX0_isSoundAt 24 = .ok (.ifCond .eq 12, 3) := by decide +kernel
theorem dX0_isSoundAt_27 : decode cX0_isSoundAt 27 = .ok (.aload_n 0, 1) := by decide +kernel
theorem dX0_isSoundAt_28 : decode cX0_isSoundAt 28 = .ok (.getfield 50, 3) := by decide +kernel
theorem dX0_isSoundAt_31 : decode cX0_isSoundAt 31 = .ok (.iconst 1, 1) := by decide +kernel
theorem dX0_isSoundAt_32 : decode cX0_isSoundAt 32 = .ok (.isub, 1) := by decide +kernel
theorem dX0_isSoundAt_33 : decode cX0_isSoundAt 33 = .ok (.goto 7, 3) := by decide +kernel
theorem dX0_isSoundAt_36 : decode cX0_isSoundAt 36 = .ok (.aload_n 0, 1) := by decide +kernel
theorem dX0_isSoundAt_37 : decode cX0_isSoundAt 37 = .ok (.getfield 50, 3) := by decide +kernel
theorem dX0_isSoundAt_40 : decode cX0_isSoundAt 40 = .ok (.if_icmp .ge 7, 3) := by decide +kernel
theorem dX0_isSoundAt_43 : decode cX0_isSoundAt 43 = .ok (.iconst 1, 1) := by decide +kernel
theorem dX0_isSoundAt_44 : decode cX0_isSoundAt 44 = .ok (.goto 4, 3) := by decide +kernel
theorem dX0_isSoundAt_47 : decode cX0_isSoundAt 47 = .ok (.iconst 0, 1) := by decide +kernel
theorem dX0_isSoundAt_48 : decode cX0_isSoundAt 48 = .ok (.ireturn, 1) := by decide +kernel
theorem dX0_isSoundAt_49 : decode cX0_isSoundAt 49 = .ok (.iload_n 2, 1) := by decide +kernel
theorem dX0_isSoundAt_50 : decode cX0_isSoundAt 50 = .ok (.invokestatic 97, 3) := by decide +kernel
theorem dX0_isSoundAt_53 : decode cX0_isSoundAt 53 = .ok (.ifCond .eq 22, 3) := by decide +kernel
theorem dX0_isSoundAt_56 : decode cX0_isSoundAt 56 = .ok (.aload_n 0, 1) := by decide +kernel
theorem dX0_isSoundAt_57 : decode cX0_isSoundAt 57 = .ok (.getfield 22, 3) := by decide +kernel
theorem dX0_isSoundAt_60 : decode cX0_isSoundAt 60 = .ok (.iload_n 1, 1) := by decide +kernel
theorem dX0_isSoundAt_61 : decode cX0_isSoundAt 61 = .ok (.iaload, 1) := by decide +kernel
theorem dX0_isSoundAt_62 : decode cX0_isSoundAt 62 = .ok (.aload_n 0, 1) := by decide +kernel
theorem dX0_isSoundAt_63 : decode cX0_isSoundAt 63 = .ok (.getfield 59, 3) := by decide +kernel
theorem dX0_isSoundAt_66 : decode cX0_isSoundAt 66 = .ok (.if_icmp .ge 7, 3) := by decide +kernel
theorem dX0_isSoundAt_69 : decode cX0_isSoundAt 69 = .ok (.iconst 1, 1) := by decide +kernel
theorem dX0_isSoundAt_70 : decode cX0_isSoundAt 70 = .ok (.goto 4, 3) := by decide +kernel
theorem dX0_isSoundAt_73 : decode cX0_isSoundAt 73 = .ok (.iconst 0, 1) := by decide +kernel
theorem dX0_isSoundAt_74 : decode cX0_isSoundAt 74 = .ok (.ireturn, 1) := by decide +kernel
theorem dX0_isSoundAt_75 : decode cX0_isSoundAt 75 = .ok (.iload_n 2, 1) := by decide +kernel
theorem dX0_isSoundAt_76 : decode cX0_isSoundAt 76 = .ok (.invokestatic 65, 3) := by decide +kernel
theorem dX0_isSoundAt_79 : decode cX0_isSoundAt 79 = .ok (.ifCond .ne 5, 3) := by decide +kernel
theorem dX0_isSoundAt_82 : decode cX0_isSoundAt 82 = .ok (.iconst 1, 1) := by decide +kernel
theorem dX0_isSoundAt_83 : decode cX0_isSoundAt 83 = .ok (.ireturn, 1) := by decide +kernel
theorem dX0_isSoundAt_84 : decode cX0_isSoundAt 84 = .ok (.aload_n 0, 1) := by decide +kernel
theorem dX0_isSoundAt_85 : decode cX0_isSoundAt 85 = .ok (.getfield 31, 3) := by decide +kernel
theorem dX0_isSoundAt_88 : decode cX0_isSoundAt 88 = .ok (.iload_n 1, 1) := by decide +kernel
theorem dX0_isSoundAt_89 : decode cX0_isSoundAt 89 = .ok (.iaload, 1) := by decide +kernel
theorem dX0_isSoundAt_90 : decode cX0_isSoundAt 90 = .ok (.aload_n 0, 1) := by decide +kernel
theorem dX0_isSoundAt_91 : decode cX0_isSoundAt 91 = .ok (.getfield 34, 3) := by decide +kernel
theorem dX0_isSoundAt_94 : decode cX0_isSoundAt 94 = .ok (.iload_n 1, 1) := by decide +kernel
theorem dX0_isSoundAt_95 : decode cX0_isSoundAt 95 = .ok (.iaload, 1) := by decide +kernel
theorem dX0_isSoundAt_96 : decode cX0_isSoundAt 96 = .ok (.if_icmp .ge 7, 3) := by decide +kernel
theorem dX0_isSoundAt_99 : decode cX0_isSoundAt 99 = .ok (.iconst 1, 1) := by decide +kernel
theorem dX0_isSoundAt_100 : decode cX0_isSoundAt 100 = .ok (.goto 4, 3) := by decide +kernel
theorem dX0_isSoundAt_103 : decode cX0_isSoundAt 103 = .ok (.iconst 0, 1) := by decide +kernel
theorem dX0_isSoundAt_104 : decode cX0_isSoundAt 104 = .ok (.istore_n 3, 1) := by decide +kernel
theorem dX0_isSoundAt_105 : decode cX0_isSoundAt 105 = .ok (.aload_n 0, 1) := by decide +kernel
theorem dX0_isSoundAt_106 : decode cX0_isSoundAt 106 = .ok (.getfield 31, 3) := by decide +kernel
theorem dX0_isSoundAt_109 : decode cX0_isSoundAt 109 = .ok (.iload_n 1, 1) := by decide +kernel
theorem dX0_isSoundAt_110 : decode cX0_isSoundAt 110 = .ok (.iaload, 1) := by decide +kernel
theorem dX0_isSoundAt_111 : decode cX0_isSoundAt 111 = .ok (.istore 4, 2) := by decide +kernel
theorem dX0_isSoundAt_113 : decode cX0_isSoundAt 113 = .ok (.iload 4, 2) := by decide +kernel
theorem dX0_isSoundAt_115 : decode cX0_isSoundAt 115 = .ok (.aload_n 0, 1) := by decide +kernel
theorem dX0_isSoundAt_116 : decode cX0_isSoundAt 116 = .ok (.getfield 34, 3) := by decide +kernel
theorem dX0_isSoundAt_119 : decode cX0_isSoundAt 119 = .ok (.iload_n 1, 1) := by decide +kernel
theorem dX0_isSoundAt_120 : decode cX0_isSoundAt 120 = .ok (.iaload, 1) := by decide +kernel
theorem dX0_isSoundAt_121 : decode cX0_isSoundAt 121 = .ok (.if_icmp .ge 33, 3) := by decide +kernel
theorem dX0_isSoundAt_124 : decode cX0_isSoundAt 124 = .ok (.iload_n 3, 1) := by decide +kernel
theorem dX0_isSoundAt_125 : decode cX0_isSoundAt 125 = .ok (.ifCond .eq 21, 3) := by decide +kernel
theorem dX0_isSoundAt_128 : decode cX0_isSoundAt 128 = .ok (.aload_n 0, 1) := by decide +kernel
theorem dX0_isSoundAt_129 : decode cX0_isSoundAt 129 = .ok (.getfield 28, 3) := by decide +kernel
theorem dX0_isSoundAt_132 : decode cX0_isSoundAt 132 = .ok (.iload 4, 2) := by decide +kernel
theorem dX0_isSoundAt_134 : decode cX0_isSoundAt 134 = .ok (.iaload, 1) := by decide +kernel
theorem dX0_isSoundAt_135 : decode cX0_isSoundAt 135 = .ok (.aload_n 0, 1) := by decide +kernel
theorem dX0_isSoundAt_136 : decode cX0_isSoundAt 136 = .ok (.getfield 59, 3) := by decide +kernel
theorem dX0_isSoundAt_139 : decode cX0_isSoundAt 139 = .ok (.if_icmp .ge 7, 3) := by decide +kernel
theorem dX0_isSoundAt_142 : decode cX0_isSoundAt 142 = .ok (.iconst 1, 1) := by decide +kernel
theorem dX0_isSoundAt_143 : decode cX0_isSoundAt 143 = .ok (.goto 4, 3) := by decide +kernel
theorem dX0_isSoundAt_146 : decode cX0_isSoundAt 146 = .ok (.iconst 0, 1) := by decide +kernel
theorem dX0_isSoundAt_147 : decode cX0_isSoundAt 147 = .ok (.istore_n 3, 1) := by decide +kernel
theorem dX0_isSoundAt_148 : decode cX0_isSoundAt 148 = .ok (.iinc 4 1, 3) := by decide +kernel
theorem dX0_isSoundAt_151 : decode cX0_isSoundAt 151 = .ok (.goto (-38), 3) := by decide +kernel
theorem dX0_isSoundAt_154 : decode cX0_isSoundAt 154 = .ok (.iload_n 3, 1) := by decide +kernel
theorem dX0_isSoundAt_155 : decode cX0_isSoundAt 155 = .ok (.ireturn, 1) := by decide +kernel
theorem dX0_isSoundRow_0 : decode cX0_isSoundRow 0 = .ok (.aload_n 0, 1) := by decide +kernel
theorem dX0_isSoundRow_1 : decode cX0_isSoundRow 1 = .ok (.getfield 37, 3) := by decide +kernel
theorem dX0_isSoundRow_4 : decode cX0_isSoundRow 4 = .ok (.iconst 4, 1) := by decide +kernel
theorem dX0_isSoundRow_5 : decode cX0_isSoundRow 5 = .ok (.iload_n 1, 1) := by decide +kernel
theorem dX0_isSoundRow_6 : decode cX0_isSoundRow 6 = .ok (.imul, 1) := by decide +kernel
theorem dX0_isSoundRow_7 : decode cX0_isSoundRow 7 = .ok (.iaload, 1) := by decide +kernel
theorem dX0_isSoundRow_8 : decode cX0_isSoundRow 8 = .ok (.istore_n 2, 1) := by decide +kernel
theorem dX0_isSoundRow_9 : decode cX0_isSoundRow 9 = .ok (.aload_n 0, 1) := by decide +kernel
theorem dX0_isSoundRow_10 : decode cX0_isSoundRow 10 = .ok (.getfield 37, 3) := by decide +kernel
theorem dX0_isSoundRow_13 : decode cX0_isSoundRow 13 = .ok (.iconst 4, 1) := by decide +kernel
theorem dX0_isSoundRow_14 : decode cX0_isSoundRow 14 = .ok (.iload_n 1, 1) := by decide +kernel
theorem dX0_isSoundRow_15 : decode cX0_isSoundRow 15 = .ok (.imul, 1) := by decide +kernel
theorem dX0_isSoundRow_16 : decode cX0_isSoundRow 16 = .ok (.iconst 1, 1) := by decide +kernel
theorem dX0_isSoundRow_17 : decode cX0_isSoundRow 17 = .ok (.iadd, 1) := by decide +kernel
theorem dX0_isSoundRow_18 : decode cX0_isSoundRow 18 = .ok (.iaload, 1) := by decide +kernel
theorem dX0_isSoundRow_19 : decode cX0_isSoundRow 19 = .ok (.istore_n 3, 1) := by decide +kernel
theorem dX0_isSoundRow_20 : decode cX0_isSoundRow 20 = .ok (.aload_n 0, 1) := by decide +kernel
theorem dX0_isSoundRow_21 : decode cX0_isSoundRow 21 = .ok (.getfield 37, 3) := by decide +kernel
theorem dX0_isSoundRow_24 : decode cX0_isSoundRow 24 = .ok (.iconst 4, 1) := by decide +kernel
theorem dX0_isSoundRow_25 : decode cX0_isSoundRow 25 = .ok (.iload_n 1, 1) := by decide +kernel
theorem dX0_isSoundRow_26 : decode cX0_isSoundRow 26 = .ok (.imul, 1) := by decide +kernel
theorem dX0_isSoundRow_27 : decode cX0_isSoundRow 27 = .ok (.iconst 2, 1) := by decide +kernel
theorem dX0_isSoundRow_28 : decode cX0_isSoundRow 28 = .ok (.iadd, 1) := by decide +kernel
theorem dX0_isSoundRow_29 : decode cX0_isSoundRow 29 = .ok (.iaload, 1) := by decide +kernel
theorem dX0_isSoundRow_30 : decode cX0_isSoundRow 30 = .ok (.istore 4, 2) := by decide +kernel
theorem dX0_isSoundRow_32 : decode cX0_isSoundRow 32 = .ok (.iload_n 2, 1) := by decide +kernel
theorem dX0_isSoundRow_33 : decode cX0_isSoundRow 33 = .ok (.aload_n 0, 1) := by decide +kernel
theorem dX0_isSoundRow_34 : decode cX0_isSoundRow 34 = .ok (.getfield 59, 3) := by decide +kernel
theorem dX0_isSoundRow_37 : decode cX0_isSoundRow 37 = .ok (.if_icmp .ge 29, 3) := by decide +kernel
theorem dX0_isSoundRow_40 : decode cX0_isSoundRow 40 = .ok (.iload_n 3, 1) := by decide +kernel
theorem dX0_isSoundRow_41 : decode cX0_isSoundRow 41 = .ok (.aload_n 0, 1) := by decide +kernel
theorem dX0_isSoundRow_42 : decode cX0_isSoundRow 42 = .ok (.getfield 59, 3) := by decide +kernel
theorem dX0_isSoundRow_45 : decode cX0_isSoundRow 45 = .ok (.if_icmp .gt 21, 3) := by decide +kernel
theorem dX0_isSoundRow_48 : decode cX0_isSoundRow 48 = .ok (.iload_n 2, 1) := by decide +kernel
theorem dX0_isSoundRow_49 : decode cX0_isSoundRow 49 = .ok (.iload_n 3, 1) := by decide +kernel
theorem dX0_isSoundRow_50 : decode cX0_isSoundRow 50 = .ok (.if_icmp .ge 16, 3) := by decide +kernel
theorem dX0_isSoundRow_53 : decode cX0_isSoundRow 53 = .ok (.iload 4, 2) := by decide +kernel
theorem dX0_isSoundRow_55 : decode cX0_isSoundRow 55 = .ok (.aload_n 0, 1) := by decide +kernel
theorem dX0_isSoundRow_56 : decode cX0_isSoundRow 56 = .ok (.getfield 59, 3) := by decide +kernel
theorem dX0_isSoundRow_59 : decode cX0_isSoundRow 59 = .ok (.if_icmp .ge 7, 3) := by decide +kernel
theorem dX0_isSoundRow_62 : decode cX0_isSoundRow 62 = .ok (.iconst 1, 1) := by decide +kernel
theorem dX0_isSoundRow_63 : decode cX0_isSoundRow 63 = .ok (.goto 4, 3) := by decide +kernel
theorem dX0_isSoundRow_66 : decode cX0_isSoundRow 66 = .ok (.iconst 0, 1) := by decide +kernel
theorem dX0_isSoundRow_67 : decode cX0_isSoundRow 67 = .ok (.ireturn, 1) := by decide +kernel
set_option maxRecDepth 20000 in
theorem ggX0_markTargets_X0_isJump : GoodIn wsX0_markTargets wsX0_isJump := goodIn_r _ [12] rfl (by decide +kernel)
set_option maxRecDepth 20000 in
theorem gX0_markTargets_X0_isJump : GoodIn wsX0_markTargets (va_wsS RX0 97 yX0_isJump wsX0_isJump) := goodIn_app (goodIn_of _ (by decide +kernel)) ggX0_markTargets_X0_isJump
theorem dX0_markTargets_0 : decode cX0_markTargets 0 = .ok (.iconst 0, 1) := by decide +kernel
theorem dX0_markTargets_1 : decode cX0_markTargets 1 = .ok (.istore_n 1, 1) := by decide +kernel
theorem dX0_markTargets_2 : decode cX0_markTargets 2 = .ok (.iload_n 1, 1) := by decide +kernel
theorem dX0_markTargets_3 : decode cX0_markTargets 3 = .ok (.aload_n 0, 1) := by decide +kernel
theorem dX0_markTargets_4 : decode cX0_markTargets 4 = .ok (.getfield 59, 3) := by decide +kernel
theorem dX0_markTargets_7 : decode cX0_markTargets 7 = .ok (.if_icmp .ge 38, 3) := by decide +kernel
theorem dX0_markTargets_10 : decode cX0_markTargets 10 = .ok (.aload_n 0, 1) := by decide +kernel
theorem dX0_markTargets_11 : decode cX0_markTargets 11 = .ok (.getfield 40, 3) := by decide +kernel
theorem dX0_markTargets_14 : decode cX0_markTargets 14 = .ok (.iload_n 1, 1) := by decide +kernel
theorem dX0_markTargets_15 : decode cX0_markTargets 15 = .ok (.iload_n 1, 1) := by decide +kernel
theorem dX0_markTargets_16 : decode cX0_markTargets 16 = .ok (.ifCond .eq 17, 3) := by decide +kernel
theorem dX0_markTargets_19 : decode cX0_markTargets 19 = .ok (.aload_n 0, 1) := by decide +kernel
theorem dX0_markTargets_20 : decode cX0_markTargets 20 = .ok (.getfield 19, 3) := by decide +kernel
theorem dX0_markTargets_23 : decode cX0_markTargets 23 = .ok (.iload_n 1, 1) := by decide +kernel
theorem dX0_markTargets_24 : decode cX0_markTargets 24 = .ok (.iconst 1, 1) := by decide +kernel
theorem dX0_markTargets_25 : decode cX0_markTargets 25 = .ok (.isub, 1) := by decide +kernel
theorem dX0_markTargets_26 : decode cX0_markTargets 26 = .ok (.iaload, 1) := by decide +kernel
theorem dX0_markTargets_27 : decode cX0_markTargets 27 = .ok (.sipush 168, 3) := by decide +kernel
theorem dX0_markTargets_30 : decode cX0_markTargets 30 = .ok (.if_icmp .ne 7, 3) := by decide +kernel
theorem dX0_markTargets_33 : decode cX0_markTargets 33 = .ok (.iconst 1, 1) := by decide +kernel
theorem dX0_markTargets_34 : decode cX0_markTargets 34 = .ok (.goto 4, 3) := by decide +kernel
theorem dX0_markTargets_37 : decode cX0_markTargets 37 = .ok (.iconst 0, 1) := by decide +kernel
theorem dX0_markTargets_38 : decode cX0_markTargets 38 = .ok (.bastore, 1) := by decide +kernel
theorem dX0_markTargets_39 : decode cX0_markTargets 39 = .ok (.iinc 1 1, 3) := by decide +kernel
theorem dX0_markTargets_42 : decode cX0_markTargets 42 = .ok (.goto (-40), 3) := by decide +kernel
theorem dX0_markTargets_45 : decode cX0_markTargets 45 = .ok (.iconst 0, 1) := by decide +kernel
theorem dX0_markTargets_46 : decode cX0_markTargets 46 = .ok (.istore_n 1, 1) := by decide +kernel
theorem dX0_markTargets_47 : decode cX0_markTargets 47 = .ok (.iload_n 1, 1) := by decide +kernel
theorem dX0_markTargets_48 : decode cX0_markTargets 48 = .ok (.aload_n 0, 1) := by decide +kernel
theorem dX0_markTargets_49 : decode cX0_markTargets 49 = .ok (.getfield 59, 3) := by decide +kernel
theorem dX0_markTargets_52 : decode cX0_markTargets 52 = .ok (.if_icmp .ge 33, 3) := by decide +kernel
theorem dX0_markTargets_55 : decode cX0_markTargets 55 = .ok (.aload_n 0, 1) := by decide +kernel
theorem dX0_markTargets_56 : decode cX0_markTargets 56 = .ok (.getfield 19, 3) := by decide +kernel
theorem dX0_markTargets_59 : decode cX0_markTargets 59 = .ok (.iload_n 1, 1) := by decide +kernel
theorem dX0_markTargets_60 : decode cX0_markTargets 60 = .ok (.iaload, 1) := by decide +kernel
theorem dX0_markTargets_61 : decode cX0_markTargets 61 = .ok (.invokestatic 97, 3) := by decide +kernel
theorem dX0_markTargets_64 : decode cX0_markTargets 64 = .ok (.ifCond .eq 15, 3) := by decide +kernel
theorem dX0_markTargets_67 : decode cX0_markTargets 67 = .ok (.aload_n 0, 1) := by decide +kernel
theorem dX0_markTargets_68 : decode cX0_markTargets 68 = .ok (.getfield 40, 3) := by decide +kernel
theorem dX0_markTargets_71 : decode cX0_markTargets 71 = .ok (.aload_n 0, 1) := by decide +kernel
theorem dX0_markTargets_72 : decode cX0_markTargets 72 = .ok (.getfield 22, 3) := by decide +kernel
theorem dX0_markTargets_75 : decode cX0_markTargets 75 = .ok (.iload_n 1, 1) := by decide +kernel
theorem dX0_markTargets_76 : decode cX0_markTargets 76 = .ok (.iaload, 1) := by decide +kernel
theorem dX0_markTargets_77 : decode cX0_markTargets 77 = .ok (.iconst 1, 1) := by decide +kernel
theorem dX0_markTargets_78 : decode cX0_markTargets 78 = .ok (.bastore, 1) := by decide +kernel
theorem dX0_markTargets_79 : decode cX0_markTargets 79 = .ok (.iinc 1 1, 3) := by decide +kernel
theorem dX0_markTargets_82 : decode cX0_markTargets 82 = .ok (.goto (-35), 3) := by decide +kernel
theorem dX0_markTargets_85 : decode cX0_markTargets 85 = .ok (.iconst 0, 1) := by decide +kernel
theorem dX0_markTargets_86 : decode cX0_markTargets 86 = .ok (.istore_n 1, 1) := by decide +kernel
theorem dX0_markTargets_87 : decode cX0_markTargets 87 = .ok (.iload_n 1, 1) := by decide +kernel
theorem dX0_markTargets_88 : decode cX0_markTargets 88 = .ok (.aload_n 0, 1) := by decide +kernel
theorem dX0_markTargets_89 : decode cX0_markTargets 89 = .ok (.getfield 34, 3) := by decide +kernel
theorem dX0_markTargets_92 : decode cX0_markTargets 92 = .ok (.aload_n 0, 1) := by decide +kernel
theorem dX0_markTargets_93 : decode cX0_markTargets 93 = .ok (.getfield 59, 3) := by decide +kernel
theorem dX0_markTargets_96 : decode cX0_markTargets 96 = .ok (.iconst 1, 1) := by decide +kernel
theorem dX0_markTargets_97 : decode cX0_markTargets 97 = .ok (.isub, 1) := by decide +kernel
theorem dX0_markTargets_98 : decode cX0_markTargets 98 = .ok (.iaload, 1) := by decide +kernel
theorem dX0_markTargets_99 : decode cX0_markTargets 99 = .ok (.if_icmp .ge 21, 3) := by decide +kernel
theorem dX0_markTargets_102 : decode cX0_markTargets 102 = .ok (.aload_n 0, 1) := by decide +kernel
theorem dX0_markTargets_103 : decode cX0_markTargets 103 = .ok (.getfield 40, 3) := by decide +kernel
theorem dX0_markTargets_106 : decode cX0_markTargets 106 = .ok (.aload_n 0, 1) := by decide +kernel
theorem dX0_markTargets_107 : decode cX0_markTargets 107 = .ok (.getfield 28, 3) := by decide +kernel
theorem dX0_markTargets_110 : decode cX0_markTargets 110 = .ok (.iload_n 1, 1) := by decide +kernel
theorem dX0_markTargets_111 : decode cX0_markTargets 111 = .ok (.iaload, 1) := by decide +kernel
theorem dX0_markTargets_112 : decode cX0_markTargets 112 = .ok (.iconst 1, 1) := by decide +kernel
theorem dX0_markTargets_113 : decode cX0_markTargets 113 = .ok (.bastore, 1) := by decide +kernel
theorem dX0_markTargets_114 : decode cX0_markTargets 114 = .ok (.iinc 1 1, 3) := by decide +kernel
theorem dX0_markTargets_117 : decode cX0_markTargets 117 = .ok (.goto (-30), 3) := by decide +kernel
theorem dX0_markTargets_120 : decode cX0_markTargets 120 = .ok (.iconst 0, 1) := by decide +kernel
theorem dX0_markTargets_121 : decode cX0_markTargets 121 = .ok (.istore_n 1, 1) := by decide +kernel
theorem dX0_markTargets_122 : decode cX0_markTargets 122 = .ok (.iload_n 1, 1) := by decide +kernel
theorem dX0_markTargets_123 : decode cX0_markTargets 123 = .ok (.aload_n 0, 1) := by decide +kernel
theorem dX0_markTargets_124 : decode cX0_markTargets 124 = .ok (.getfield 62, 3) := by decide +kernel
theorem dX0_markTargets_127 : decode cX0_markTargets 127 = .ok (.if_icmp .ge 25, 3) := by decide +kernel
theorem dX0_markTargets_130 : decode cX0_markTargets 130 = .ok (.aload_n 0, 1) := by decide +kernel
theorem dX0_markTargets_131 : decode cX0_markTargets 131 = .ok (.getfield 40, 3) := by decide +kernel
theorem dX0_markTargets_134 : decode cX0_markTargets 134 = .ok (.aload_n 0, 1) := by decide +kernel
theorem dX0_markTargets_135 : decode cX0_markTargets 135 = .ok (.getfield 37, 3) := by decide +kernel
theorem dX0_markTargets_138 : decode cX0_markTargets 138 = .ok (.iconst 4, 1) := by decide +kernel
theorem dX0_markTargets_139 : decode cX0_markTargets 139 = .ok (.iload_n 1, 1) := by decide +kernel
theorem dX0_markTargets_140 : decode cX0_markTargets 140 = .ok (.imul, 1) := by decide +kernel
theorem dX0_markTargets_141 : decode cX0_markTargets 141 = .ok (.iconst 2, 1) := by decide +kernel
theorem dX0_markTargets_142 : decode cX0_markTargets 142 = .ok (.iadd, 1) := by decide +kernel
theorem dX0_markTargets_143 : decode cX0_markTargets 143 = .ok (.iaload, 1) := by decide +kernel
theorem dX0_markTargets_144 : decode cX0_markTargets 144 = .ok (.iconst 1, 1) := by decide +kernel
theorem dX0_markTargets_145 : decode cX0_markTargets 145 = .ok (.bastore, 1) := by decide +kernel
theorem dX0_markTargets_146 : decode cX0_markTargets 146 = .ok (.iinc 1 1, 3) := by decide +kernel
theorem dX0_markTargets_149 : decode cX0_markTargets 149 = .ok (.goto (-27), 3) := by decide +kernel
theorem dX0_markTargets_152 : decode cX0_markTargets 152 = .ok (.return_, 1) := by decide +kernel
theorem dX1_init_0 : decode cX1_init 0 = .ok (.aload_n 0, 1) := by decide +kernel
theorem dX1_init_1 : decode cX1_init 1 = .ok (.invokespecial 3, 3) := by decide +kernel
theorem dX1_init_4 : decode cX1_init 4 = .ok (.aload_n 0, 1) := by decide +kernel
theorem dX1_init_5 : decode cX1_init 5 = .ok (.bipush 16, 2) := by decide +kernel
theorem dX1_init_7 : decode cX1_init 7 = .ok (.newarray .int, 2) := by decide +kernel
theorem dX1_init_9 : decode cX1_init 9 = .ok (.putfield 9, 3) := by decide +kernel
theorem dX1_init_12 : decode cX1_init 12 = .ok (.aload_n 0, 1) := by decide +kernel
theorem dX1_init_13 : decode cX1_init 13 = .ok (.bipush 16, 2) := by decide +kernel
theorem dX1_init_15 : decode cX1_init 15 = .ok (.newarray .int, 2) := by decide +kernel
theorem dX1_init_17 : decode cX1_init 17 = .ok (.putfield 15, 3) := by decide +kernel
theorem dX1_init_20 : decode cX1_init 20 = .ok (.aload_n 0, 1) := by decide +kernel
theorem dX1_init_21 : decode cX1_init 21 = .ok (.bipush 16, 2) := by decide +kernel
theorem dX1_init_23 : decode cX1_init 23 = .ok (.newarray .int, 2) := by decide +kernel
theorem dX1_init_25 : decode cX1_init 25 = .ok (.putfield 18, 3) := by decide +kernel
theorem dX1_init_28 : decode cX1_init 28 = .ok (.aload_n 0, 1) := by decide +kernel
theorem dX1_init_29 : decode cX1_init 29 = .ok (.bipush 16, 2) := by decide +kernel
theorem dX1_init_31 : decode cX1_init 31 = .ok (.newarray .int, 2) := by decide +kernel
theorem dX1_init_33 : decode cX1_init 33 = .ok (.putfield 21, 3) := by decide +kernel
theorem dX1_init_36 : decode cX1_init 36 = .ok (.aload_n 0, 1) := by decide +kernel
theorem dX1_init_37 : decode cX1_init 37 = .ok (.bipush 16, 2) := by decide +kernel
theorem dX1_init_39 : decode cX1_init 39 = .ok (.newarray .int, 2) := by decide +kernel
theorem dX1_init_41 : decode cX1_init 41 = .ok (.putfield 24, 3) := by decide +kernel
theorem dX1_init_44 : decode cX1_init 44 = .ok (.aload_n 0, 1) := by decide +kernel
theorem dX1_init_45 : decode cX1_init 45 = .ok (.getfield 21, 3) := by decide +kernel
theorem dX1_init_48 : decode cX1_init 48 = .ok (.iconst 0, 1) := by decide +kernel
theorem dX1_init_49 : decode cX1_init 49 = .ok (.iconst (-1), 1) := by decide +kernel
theorem dX1_init_50 : decode cX1_init 50 = .ok (.iastore, 1) := by decide +kernel
theorem dX1_init_51 : decode cX1_init 51 = .ok (.aload_n 0, 1) := by decide +kernel
theorem dX1_init_52 : decode cX1_init 52 = .ok (.iconst 1, 1) := by decide +kernel
theorem dX1_init_53 : decode cX1_init 53 = .ok (.putfield 27, 3) := by decide +kernel
theorem dX1_init_56 : decode cX1_init 56 = .ok (.return_, 1) := by decide +kernel
theorem dX1_clear_0 : decode cX1_clear 0 = .ok (.aload_n 0, 1) := by decide +kernel
theorem dX1_clear_1 : decode cX1_clear 1 = .ok (.getfield 21, 3) := by decide +kernel
theorem dX1_clear_4 : decode cX1_clear 4 = .ok (.iconst 0, 1) := by decide +kernel
theorem dX1_clear_5 : decode cX1_clear 5 = .ok (.iconst (-1), 1) := by decide +kernel
theorem dX1_clear_6 : decode cX1_clear 6 = .ok (.iastore, 1) := by decide +kernel
theorem dX1_clear_7 : decode cX1_clear 7 = .ok (.aload_n 0, 1) := by decide +kernel
theorem dX1_clear_8 : decode cX1_clear 8 = .ok (.iconst 1, 1) := by decide +kernel
theorem dX1_clear_9 : decode cX1_clear 9 = .ok (.putfield 27, 3) := by decide +kernel
theorem dX1_clear_12 : decode cX1_clear 12 = .ok (.return_, 1) := by decide +kernel
theorem dX1_before_0 : decode cX1_before 0 = .ok (.iload_n 1, 1) := by decide +kernel
theorem dX1_before_1 : decode cX1_before 1 = .ok (.istore_n 3, 1) := by decide +kernel
theorem dX1_before_2 : decode cX1_before 2 = .ok (.iconst 0, 1) := by decide +kernel
theorem dX1_before_3 : decode cX1_before 3 = .ok (.istore 4, 2) := by decide +kernel
theorem dX1_before_5 : decode cX1_before 5 = .ok (.iload 4, 2) := by decide +kernel
theorem dX1_before_7 : decode cX1_before 7 = .ok (.bipush 16, 2) := by decide +kernel
theorem dX1_before_9 : decode cX1_before 9 = .ok (.if_icmp .ge 42, 3) := by decide +kernel
theorem dX1_before_12 : decode cX1_before 12 = .ok (.aload_n 0, 1) := by decide +kernel
theorem dX1_before_13 : decode cX1_before 13 = .ok (.getfield 18, 3) := by decide +kernel
theorem dX1_before_16 : decode cX1_before 16 = .ok (.iload_n 3, 1) := by decide +kernel
theorem dX1_before_17 : decode cX1_before 17 = .ok (.iaload, 1) := by decide +kernel
theorem dX1_before_18 : decode cX1_before 18 = .ok (.ifCond .le 33, 3) := by decide +kernel
theorem dX1_before_21 : decode cX1_before 21 = .ok (.aload_n 0, 1) := by decide +kernel
theorem dX1_before_22 : decode cX1_before 22 = .ok (.getfield 15, 3) := by decide +kernel
theorem dX1_before_25 : decode cX1_before 25 = .ok (.iload_n 3, 1) := by decide +kernel
theorem dX1_before_26 : decode cX1_before 26 = .ok (.iaload, 1) := by decide +kernel
theorem dX1_before_27 : decode cX1_before 27 = .ok (.iload_n 2, 1) := by decide +kernel
theorem dX1_before_28 : decode cX1_before 28 = .ok (.if_icmp .ne 10, 3) := by decide +kernel
theorem dX1_before_31 : decode cX1_before 31 = .ok (.aload_n 0, 1) := by decide +kernel
theorem dX1_before_32 : decode cX1_before 32 = .ok (.getfield 9, 3) := by decide +kernel
theorem dX1_before_35 : decode cX1_before 35 = .ok (.iload_n 3, 1) := by decide +kernel
theorem dX1_before_36 : decode cX1_before 36 = .ok (.iaload, 1) := by decide +kernel
theorem dX1_before_37 : decode cX1_before 37 = .ok (.ireturn, 1) := by decide +kernel
theorem dX1_before_38 : decode cX1_before 38 = .ok (.aload_n 0, 1) := by decide +kernel
theorem dX1_before_39 : decode cX1_before 39 = .ok (.getfield 9, 3) := by decide +kernel
theorem dX1_before_42 : decode cX1_before 42 = .ok (.iload_n 3, 1) := by decide +kernel
theorem dX1_before_43 : decode cX1_before 43 = .ok (.iaload, 1) := by decide +kernel
theorem dX1_before_44 : decode cX1_before 44 = .ok (.istore_n 3, 1) := by decide +kernel
theorem dX1_before_45 : decode cX1_before 45 = .ok (.iinc 4 1, 3) := by decide +kernel
theorem dX1_before_48 : decode cX1_before 48 = .ok (.goto (-43), 3) := by decide +kernel
theorem dX1_before_51 : decode cX1_before 51 = .ok (.iconst (-1), 1) := by decide +kernel
theorem dX1_before_52 : decode cX1_before 52 = .ok (.ireturn, 1) := by decide +kernel
set_option maxRecDepth 20000 in
theorem ggX1_with_X1_makeRoom : GoodIn wsX1_with wsX1_makeRoom := goodIn_r _ [11, 2, 5, 3, 6, 1, 4, 12, 13, 14, 15, 16, 17, 18, 19, 20, 21, 22, 23, 24, 25, 26, 27, 28, 29, 30, 31, 32, 33, 34, 35, 36] rfl (by decide +kernel)
set_option maxRecDepth 20000 in
theorem gX1_with_X1_makeRoom : GoodIn wsX1_with (wsV RX1 31 RX1 yX1_makeRoom wsX1_makeRoom) := goodIn_app (goodIn_of _ (by decide +kernel)) ggX1_with_X1_makeRoom
theorem dX1_with_0 : decode cX1_with 0 = .ok (.aload_n 0, 1) := by decide +kernel
theorem dX1_with_1 : decode cX1_with 1 = .ok (.getfield 21, 3) := by decide +kernel
theorem dX1_with_4 : decode cX1_with 4 = .ok (.iload_n 1, 1) := by decide +kernel
theorem dX1_with_5 : decode cX1_with 5 = .ok (.iaload, 1) := by decide +kernel
theorem dX1_with_6 : decode cX1_with 6 = .ok (.istore_n 3, 1) := by decide +kernel
theorem dX1_with_7 : decode cX1_with 7 = .ok (.iconst 0, 1) := by decide +kernel
theorem dX1_with_8 : decode cX1_with 8 = .ok (.istore 4, 2) := by decide +kernel
theorem dX1_with_10 : decode cX1_with 10 = .ok (.iload 4, 2) := by decide +kernel
theorem dX1_with_12 : decode cX1_with 12 = .ok (.aload_n 0, 1) := by decide +kernel
theorem dX1_with_13 : decode cX1_with 13 = .ok (.getfield 27, 3) := by decide +kernel
theorem dX1_with_16 : decode cX1_with 16 = .ok (.if_icmp .ge 33, 3) := by decide +kernel
theorem dX1_with_19 : decode cX1_with 19 = .ok (.iload_n 3, 1) := by decide +kernel
theorem dX1_with_20 : decode cX1_with 20 = .ok (.iconst (-1), 1) := by decide +kernel
theorem dX1_with_21 : decode cX1_with 21 = .ok (.if_icmp .eq 28, 3) := by decide +kernel
theorem dX1_with_24 : decode cX1_with 24 = .ok (.aload_n 0, 1) := by decide +kernel
theorem dX1_with_25 : decode cX1_with 25 = .ok (.getfield 15, 3) := by decide +kernel
theorem dX1_with_28 : decode cX1_with 28 = .ok (.iload_n 3, 1) := by decide +kernel
theorem dX1_with_29 : decode cX1_with 29 = .ok (.iaload, 1) := by decide +kernel
theorem dX1_with_30 : decode cX1_with 30 = .ok (.iload_n 2, 1) := by decide +kernel
theorem dX1_with_31 : decode cX1_with 31 = .ok (.if_icmp .ne 5, 3) := by decide +kernel
theorem dX1_with_34 : decode cX1_with 34 = .ok (.iload_n 3, 1) := by decide +kernel
theorem dX1_with_35 : decode cX1_with 35 = .ok (.ireturn, 1) := by decide +kernel
theorem dX1_with_36 : decode cX1_with 36 = .ok (.aload_n 0, 1) := by decide +kernel
theorem dX1_with_37 : decode cX1_with 37 = .ok (.getfield 24, 3) := by decide +kernel
theorem dX1_with_40 : decode cX1_with 40 = .ok (.iload_n 3, 1) := by decide +kernel
theorem dX1_with_41 : decode cX1_with 41 = .ok (.iaload, 1) := by decide +kernel
theorem dX1_with_42 : decode cX1_with 42 = .ok (.istore_n 3, 1) := by decide +kernel
theorem dX1_with_43 : decode cX1_with 43 = .ok (.iinc 4 1, 3) := by decide +kernel
theorem dX1_with_46 : decode cX1_with 46 = .ok (.goto (-36), 3) := by decide +kernel
theorem dX1_with_49 : decode cX1_with 49 = .ok (.aload_n 0, 1) := by decide +kernel
theorem dX1_with_50 : decode cX1_with 50 = .ok (.invokevirtual 31, 3) := by decide +kernel
theorem dX1_with_53 : decode cX1_with 53 = .ok (.aload_n 0, 1) := by decide +kernel
theorem dX1_with_54 : decode cX1_with 54 = .ok (.getfield 9, 3) := by decide +kernel
theorem dX1_with_57 : decode cX1_with 57 = .ok (.aload_n 0, 1) := by decide +kernel
theorem dX1_with_58 : decode cX1_with 58 = .ok (.getfield 27, 3) := by decide +kernel
theorem dX1_with_61 : decode cX1_with 61 = .ok (.iload_n 1, 1) := by decide +kernel
theorem dX1_with_62 : decode cX1_with 62 = .ok (.iastore, 1) := by decide +kernel
theorem dX1_with_63 : decode cX1_with 63 = .ok (.aload_n 0, 1) := by decide +kernel
theorem dX1_with_64 : decode cX1_with 64 = .ok (.getfield 15, 3) := by decide +kernel
theorem dX1_with_67 : decode cX1_with 67 = .ok (.aload_n 0, 1) := by decide +kernel
theorem dX1_with_68 : decode cX1_with 68 = .ok (.getfield 27, 3) := by decide +kernel
theorem dX1_with_71 : decode cX1_with 71 = .ok (.iload_n 2, 1) := by decide +kernel
theorem dX1_with_72 : decode cX1_with 72 = .ok (.iastore, 1) := by decide +kernel
theorem dX1_with_73 : decode cX1_with 73 = .ok (.aload_n 0, 1) := by decide +kernel
theorem dX1_with_74 : decode cX1_with 74 = .ok (.getfield 18, 3) := by decide +kernel
theorem dX1_with_77 : decode cX1_with 77 = .ok (.aload_n 0, 1) := by decide +kernel
theorem dX1_with_78 : decode cX1_with 78 = .ok (.getfield 27, 3) := by decide +kernel
theorem dX1_with_81 : decode cX1_with 81 = .ok (.aload_n 0, 1) := by decide +kernel
theorem dX1_with_82 : decode cX1_with 82 = .ok (.getfield 18, 3) := by decide +kernel
theorem dX1_with_85 : decode cX1_with 85 = .ok (.iload_n 1, 1) := by decide +kernel
theorem dX1_with_86 : decode cX1_with 86 = .ok (.iaload, 1) := by decide +kernel
theorem dX1_with_87 : decode cX1_with 87 = .ok (.iconst 1, 1) := by decide +kernel
theorem dX1_with_88 : decode cX1_with 88 = .ok (.iadd, 1) := by decide +kernel
theorem dX1_with_89 : decode cX1_with 89 = .ok (.iastore, 1) := by decide +kernel
theorem dX1_with_90 : decode cX1_with 90 = .ok (.aload_n 0, 1) := by decide +kernel
theorem dX1_with_91 : decode cX1_with 91 = .ok (.getfield 21, 3) := by decide +kernel
theorem dX1_with_94 : decode cX1_with 94 = .ok (.aload_n 0, 1) := by decide +kernel
theorem dX1_with_95 : decode cX1_with 95 = .ok (.getfield 27, 3) := by decide +kernel
theorem dX1_with_98 : decode cX1_with 98 = .ok (.iconst (-1), 1) := by decide +kernel
theorem dX1_with_99 : decode cX1_with 99 = .ok (.iastore, 1) := by decide +kernel
theorem dX1_with_100 : decode cX1_with 100 = .ok (.aload_n 0, 1) := by decide +kernel
theorem dX1_with_101 : decode cX1_with 101 = .ok (.getfield 24, 3) := by decide +kernel
theorem dX1_with_104 : decode cX1_with 104 = .ok (.aload_n 0, 1) := by decide +kernel
theorem dX1_with_105 : decode cX1_with 105 = .ok (.getfield 27, 3) := by decide +kernel
theorem dX1_with_108 : decode cX1_with 108 = .ok (.aload_n 0, 1) := by decide +kernel
theorem dX1_with_109 : decode cX1_with 109 = .ok (.getfield 21, 3) := by decide +kernel
theorem dX1_with_112 : decode cX1_with 112 = .ok (.iload_n 1, 1) := by decide +kernel
theorem dX1_with_113 : decode cX1_with 113 = .ok (.iaload, 1) := by decide +kernel
theorem dX1_with_114 : decode cX1_with 114 = .ok (.iastore, 1) := by decide +kernel
theorem dX1_with_115 : decode cX1_with 115 = .ok (.aload_n 0, 1) := by decide +kernel
theorem dX1_with_116 : decode cX1_with 116 = .ok (.getfield 21, 3) := by decide +kernel
theorem dX1_with_119 : decode cX1_with 119 = .ok (.iload_n 1, 1) := by decide +kernel
theorem dX1_with_120 : decode cX1_with 120 = .ok (.aload_n 0, 1) := by decide +kernel
theorem dX1_with_121 : decode cX1_with 121 = .ok (.getfield 27, 3) := by decide +kernel
theorem dX1_with_124 : decode cX1_with 124 = .ok (.iastore, 1) := by decide +kernel
theorem dX1_with_125 : decode cX1_with 125 = .ok (.aload_n 0, 1) := by decide +kernel
theorem dX1_with_126 : decode cX1_with 126 = .ok (.dup, 1) := by decide +kernel
theorem dX1_with_127 : decode cX1_with 127 = .ok (.getfield 27, 3) := by decide +kernel
theorem dX1_with_130 : decode cX1_with 130 = .ok (.dup_x1, 1) := by decide +kernel
theorem dX1_with_131 : decode cX1_with 131 = .ok (.iconst 1, 1) := by decide +kernel
theorem dX1_with_132 : decode cX1_with 132 = .ok (.iadd, 1) := by decide +kernel
theorem dX1_with_133 : decode cX1_with 133 = .ok (.putfield 27, 3) := by decide +kernel
theorem dX1_with_136 : decode cX1_with 136 = .ok (.ireturn, 1) := by decide +kernel
set_option maxRecDepth 20000 in
theorem ggX1_makeRoom_J7_copyOf_59c91 : GoodIn wsX1_makeRoom wsJ7_copyOf_59c91 := goodIn_r _ [10, 11, 12, 13, 14, 15, 16, 17, 18, 19, 20, 21, 22, 23, 24, 25] rfl (by decide +kernel)
set_option maxRecDepth 20000 in
theorem gX1_makeRoom_J7_copyOf_59c91 : GoodIn wsX1_makeRoom (va_wsS RX1 34 yJ7_copyOf_59c91 wsJ7_copyOf_59c91) := goodIn_app (goodIn_of _ (by decide +kernel)) ggX1_makeRoom_J7_copyOf_59c91
theorem dX1_makeRoom_0 : decode cX1_makeRoom 0 = .ok (.aload_n 0, 1) := by decide +kernel
theorem dX1_makeRoom_1 : decode cX1_makeRoom 1 = .ok (.getfield 27, 3) := by decide +kernel
theorem dX1_makeRoom_4 : decode cX1_makeRoom 4 = .ok (.aload_n 0, 1) := by decide +kernel
theorem dX1_makeRoom_5 : decode cX1_makeRoom 5 = .ok (.getfield 9, 3) := by decide +kernel
theorem dX1_makeRoom_8 : decode cX1_makeRoom 8 = .ok (.arraylength, 1) := by decide +kernel
theorem dX1_makeRoom_9 : decode cX1_makeRoom 9 = .ok (.if_icmp .ge 4, 3) := by decide +kernel
theorem dX1_makeRoom_12 : decode cX1_makeRoom 12 = .ok (.return_, 1) := by decide +kernel
theorem dX1_makeRoom_13 : decode cX1_makeRoom 13 = .ok (.iconst 2, 1) := by decide +kernel
theorem dX1_makeRoom_14 : decode cX1_makeRoom 14 = .ok (.aload_n 0, 1) := by decide +kernel
theorem dX1_makeRoom_15 : decode cX1_makeRoom 15 = .ok (.getfield 27, 3) := by decide +kernel
theorem dX1_makeRoom_18 : decode cX1_makeRoom 18 = .ok (.imul, 1) := by decide +kernel
theorem dX1_makeRoom_19 : decode cX1_makeRoom 19 = .ok (.istore_n 1, 1) := by decide +kernel
theorem dX1_makeRoom_20 : decode cX1_makeRoom 20 = .ok (.aload_n 0, 1) := by decide +kernel
theorem dX1_makeRoom_21 : decode cX1_makeRoom 21 = .ok (.aload_n 0, 1) := by decide +kernel
theorem dX1_makeRoom_22 : decode cX1_makeRoom 22 = .ok (.getfield 9, 3) := by decide +kernel
theorem dX1_makeRoom_25 : decode cX1_makeRoom 25 = .ok (.iload_n 1, 1) := by decide +kernel
theorem dX1_makeRoom_26 : decode cX1_makeRoom 26 = .ok (.invokestatic 34, 3) := by decide +kernel
theorem dX1_makeRoom_29 : decode cX1_makeRoom 29 = .ok (.putfield 9, 3) := by decide +kernel
theorem dX1_makeRoom_32 : decode cX1_makeRoom 32 = .ok (.aload_n 0, 1) := by decide +kernel
theorem dX1_makeRoom_33 : decode cX1_makeRoom 33 = .ok (.aload_n 0, 1) := by decide +kernel
theorem dX1_makeRoom_34 : decode cX1_makeRoom 34 = .ok (.getfield 15, 3) := by decide +kernel
theorem dX1_makeRoom_37 : decode cX1_makeRoom 37 = .ok (.iload_n 1, 1) := by decide +kernel
theorem dX1_makeRoom_38 : decode cX1_makeRoom 38 = .ok (.invokestatic 34, 3) := by decide +kernel
theorem dX1_makeRoom_41 : decode cX1_makeRoom 41 = .ok (.putfield 15, 3) := by decide +kernel
theorem dX1_makeRoom_44 : decode cX1_makeRoom 44 = .ok (.aload_n 0, 1) := by decide +kernel
theorem dX1_makeRoom_45 : decode cX1_makeRoom 45 = .ok (.aload_n 0, 1) := by decide +kernel
theorem dX1_makeRoom_46 : decode cX1_makeRoom 46 = .ok (.getfield 18, 3) := by decide +kernel
theorem dX1_makeRoom_49 : decode cX1_makeRoom 49 = .ok (.iload_n 1, 1) := by decide +kernel
theorem dX1_makeRoom_50 : decode cX1_makeRoom 50 = .ok (.invokestatic 34, 3) := by decide +kernel
theorem dX1_makeRoom_53 : decode cX1_makeRoom 53 = .ok (.putfield 18, 3) := by decide +kernel
theorem dX1_makeRoom_56 : decode cX1_makeRoom 56 = .ok (.aload_n 0, 1) := by decide +kernel
theorem dX1_makeRoom_57 : decode cX1_makeRoom 57 = .ok (.aload_n 0, 1) := by decide +kernel
theorem dX1_makeRoom_58 : decode cX1_makeRoom 58 = .ok (.getfield 21, 3) := by decide +kernel
theorem dX1_makeRoom_61 : decode cX1_makeRoom 61 = .ok (.iload_n 1, 1) := by decide +kernel
theorem dX1_makeRoom_62 : decode cX1_makeRoom 62 = .ok (.invokestatic 34, 3) := by decide +kernel
theorem dX1_makeRoom_65 : decode cX1_makeRoom 65 = .ok (.putfield 21, 3) := by decide +kernel
theorem dX1_makeRoom_68 : decode cX1_makeRoom 68 = .ok (.aload_n 0, 1) := by decide +kernel
theorem dX1_makeRoom_69 : decode cX1_makeRoom 69 = .ok (.aload_n 0, 1) := by decide +kernel
theorem dX1_makeRoom_70 : decode cX1_makeRoom 70 = .ok (.getfield 24, 3) := by decide +kernel
theorem dX1_makeRoom_73 : decode cX1_makeRoom 73 = .ok (.iload_n 1, 1) := by decide +kernel
theorem dX1_makeRoom_74 : decode cX1_makeRoom 74 = .ok (.invokestatic 34, 3) := by decide +kernel
theorem dX1_makeRoom_77 : decode cX1_makeRoom 77 = .ok (.putfield 24, 3) := by decide +kernel
theorem dX1_makeRoom_80 : decode cX1_makeRoom 80 = .ok (.return_, 1) := by decide +kernel
theorem dX1_addressAt_0 : decode cX1_addressAt 0 = .ok (.iload_n 1, 1) := by decide +kernel
theorem dX1_addressAt_1 : decode cX1_addressAt 1 = .ok (.istore_n 3, 1) := by decide +kernel
theorem dX1_addressAt_2 : decode cX1_addressAt 2 = .ok (.iconst 0, 1) := by decide +kernel
theorem dX1_addressAt_3 : decode cX1_addressAt 3 = .ok (.istore 4, 2) := by decide +kernel
theorem dX1_addressAt_5 : decode cX1_addressAt 5 = .ok (.iload 4, 2) := by decide +kernel
theorem dX1_addressAt_7 : decode cX1_addressAt 7 = .ok (.bipush 16, 2) := by decide +kernel
theorem dX1_addressAt_9 : decode cX1_addressAt 9 = .ok (.if_icmp .ge 28, 3) := by decide +kernel
theorem dX1_addressAt_12 : decode cX1_addressAt 12 = .ok (.aload_n 0, 1) := by decide +kernel
theorem dX1_addressAt_13 : decode cX1_addressAt 13 = .ok (.getfield 18, 3) := by decide +kernel
theorem dX1_addressAt_16 : decode cX1_addressAt 16 = .ok (.iload_n 3, 1) := by decide +kernel
theorem dX1_addressAt_17 : decode cX1_addressAt 17 = .ok (.iaload, 1) := by decide +kernel
theorem dX1_addressAt_18 : decode cX1_addressAt 18 = .ok (.iload_n 2, 1) := by decide +kernel
theorem dX1_addressAt_19 : decode cX1_addressAt 19 = .ok (.iconst 1, 1) := by decide +kernel
theorem dX1_addressAt_20 : decode cX1_addressAt 20 = .ok (.iadd, 1) := by decide +kernel
theorem dX1_addressAt_21 : decode cX1_addressAt 21 = .ok (.if_icmp .le 16, 3) := by decide +kernel
theorem dX1_addressAt_24 : decode cX1_addressAt 24 = .ok (.aload_n 0, 1) := by decide +kernel
theorem dX1_addressAt_25 : decode cX1_addressAt 25 = .ok (.getfield 9, 3) := by decide +kernel
theorem dX1_addressAt_28 : decode cX1_addressAt 28 = .ok (.iload_n 3, 1) := by decide +kernel
theorem dX1_addressAt_29 : decode cX1_addressAt 29 = .ok (.iaload, 1) := by decide +kernel
theorem dX1_addressAt_30 : decode cX1_addressAt 30 = .ok (.istore_n 3, 1) := by decide +kernel
theorem dX1_addressAt_31 : decode cX1_addressAt 31 = .ok (.iinc 4 1, 3) := by decide +kernel
theorem dX1_addressAt_34 : decode cX1_addressAt 34 = .ok (.goto (-29), 3) := by decide +kernel
theorem dX1_addressAt_37 : decode cX1_addressAt 37 = .ok (.aload_n 0, 1) := by decide +kernel
theorem dX1_addressAt_38 : decode cX1_addressAt 38 = .ok (.getfield 15, 3) := by decide +kernel
theorem dX1_addressAt_41 : decode cX1_addressAt 41 = .ok (.iload_n 3, 1) := by decide +kernel
theorem dX1_addressAt_42 : decode cX1_addressAt 42 = .ok (.iaload, 1) := by decide +kernel
theorem dX1_addressAt_43 : decode cX1_addressAt 43 = .ok (.ireturn, 1) := by decide +kernel
theorem dX1_isBefore_0 : decode cX1_isBefore 0 = .ok (.iload_n 1, 1) := by decide +kernel
theorem dX1_isBefore_1 : decode cX1_isBefore 1 = .ok (.istore_n 3, 1) := by decide +kernel
theorem dX1_isBefore_2 : decode cX1_isBefore 2 = .ok (.iload_n 2, 1) := by decide +kernel
theorem dX1_isBefore_3 : decode cX1_isBefore 3 = .ok (.istore 4, 2) := by decide +kernel
theorem dX1_isBefore_5 : decode cX1_isBefore 5 = .ok (.iconst 0, 1) := by decide +kernel
theorem dX1_isBefore_6 : decode cX1_isBefore 6 = .ok (.istore 5, 2) := by decide +kernel
theorem dX1_isBefore_8 : decode cX1_isBefore 8 = .ok (.iload 5, 2) := by decide +kernel
theorem dX1_isBefore_10 : decode cX1_isBefore 10 = .ok (.bipush 16, 2) := by decide +kernel
theorem dX1_isBefore_12 : decode cX1_isBefore 12 = .ok (.if_icmp .ge 32, 3) := by decide +kernel
theorem dX1_isBefore_15 : decode cX1_isBefore 15 = .ok (.aload_n 0, 1) := by decide +kernel
theorem dX1_isBefore_16 : decode cX1_isBefore 16 = .ok (.getfield 18, 3) := by decide +kernel
theorem dX1_isBefore_19 : decode cX1_isBefore 19 = .ok (.iload_n 3, 1) := by decide +kernel
theorem dX1_isBefore_20 : decode cX1_isBefore 20 = .ok (.iaload, 1) := by decide +kernel
theorem dX1_isBefore_21 : decode cX1_isBefore 21 = .ok (.aload_n 0, 1) := by decide +kernel
theorem dX1_isBefore_22 : decode cX1_isBefore 22 = .ok (.getfield 18, 3) := by decide +kernel
theorem dX1_isBefore_25 : decode cX1_isBefore 25 = .ok (.iload 4, 2) := by decide +kernel
theorem dX1_isBefore_27 : decode cX1_isBefore 27 = .ok (.iaload, 1) := by decide +kernel
theorem dX1_isBefore_28 : decode cX1_isBefore 28 = .ok (.if_icmp .le 16, 3) := by decide +kernel
theorem dX1_isBefore_31 : decode cX1_isBefore 31 = .ok (.aload_n 0, 1) := by decide +kernel
theorem dX1_isBefore_32 : decode cX1_isBefore 32 = .ok (.getfield 9, 3) := by decide +kernel
theorem dX1_isBefore_35 : decode cX1_isBefore 35 = .ok (.iload_n 3, 1) := by decide +kernel
theorem dX1_isBefore_36 : decode cX1_isBefore 36 = .ok (.iaload, 1) := by decide +kernel
theorem dX1_isBefore_37 : decode cX1_isBefore 37 = .ok (.istore_n 3, 1) := by decide +kernel
theorem dX1_isBefore_38 : decode cX1_isBefore 38 = .ok (.iinc 5 1, 3) := by decide +kernel
theorem dX1_isBefore_41 : decode cX1_isBefore 41 = .ok (.goto (-33), 3) := by decide +kernel
theorem dX1_isBefore_44 : decode cX1_isBefore 44 = .ok (.iconst 0, 1) := by decide +kernel
theorem dX1_isBefore_45 : decode cX1_isBefore 45 = .ok (.istore 5, 2) := by decide +kernel
theorem dX1_isBefore_47 : decode cX1_isBefore 47 = .ok (.iload 5, 2) := by decide +kernel
theorem dX1_isBefore_49 : decode cX1_isBefore 49 = .ok (.bipush 16, 2) := by decide +kernel
theorem dX1_isBefore_51 : decode cX1_isBefore 51 = .ok (.if_icmp .ge 34, 3) := by decide +kernel
theorem dX1_isBefore_54 : decode cX1_isBefore 54 = .ok (.aload_n 0, 1) := by decide +kernel
theorem dX1_isBefore_55 : decode cX1_isBefore 55 = .ok (.getfield 18, 3) := by decide +kernel
theorem dX1_isBefore_58 : decode cX1_isBefore 58 = .ok (.iload 4, 2) := by decide +kernel
theorem dX1_isBefore_60 : decode cX1_isBefore 60 = .ok (.iaload, 1) := by decide +kernel
theorem dX1_isBefore_61 : decode cX1_isBefore 61 = .ok (.aload_n 0, 1) := by decide +kernel
theorem dX1_isBefore_62 : decode cX1_isBefore 62 = .ok (.getfield 18, 3) := by decide +kernel
theorem dX1_isBefore_65 : decode cX1_isBefore 65 = .ok (.iload_n 3, 1) := by decide +kernel
theorem dX1_isBefore_66 : decode cX1_isBefore 66 = .ok (.iaload, 1) := by decide +kernel
theorem dX1_isBefore_67 : decode cX1_isBefore 67 = .ok (.if_icmp .le 18, 3) := by decide +kernel
theorem dX1_isBefore_70 : decode cX1_isBefore 70 = .ok (.aload_n 0, 1) := by decide +kernel
theorem dX1_isBefore_71 : decode cX1_isBefore 71 = .ok (.getfield 9, 3) := by decide +kernel
theorem dX1_isBefore_74 : decode cX1_isBefore 74 = .ok (.iload 4, 2) := by decide +kernel
theorem dX1_isBefore_76 : decode cX1_isBefore 76 = .ok (.iaload, 1) := by decide +kernel
theorem dX1_isBefore_77 : decode cX1_isBefore 77 = .ok (.istore 4, 2) := by decide +kernel
theorem dX1_isBefore_79 : decode cX1_isBefore 79 = .ok (.iinc 5 1, 3) := by decide +kernel
theorem dX1_isBefore_82 : decode cX1_isBefore 82 = .ok (.goto (-35), 3) := by decide +kernel
theorem dX1_isBefore_85 : decode cX1_isBefore 85 = .ok (.iload_n 3, 1) := by decide +kernel
theorem dX1_isBefore_86 : decode cX1_isBefore 86 = .ok (.iload 4, 2) := by decide +kernel
theorem dX1_isBefore_88 : decode cX1_isBefore 88 = .ok (.if_icmp .ne 24, 3) := by decide +kernel
theorem dX1_isBefore_91 : decode cX1_isBefore 91 = .ok (.aload_n 0, 1) := by decide +kernel
theorem dX1_isBefore_92 : decode cX1_isBefore 92 = .ok (.getfield 18, 3) := by decide +kernel
theorem dX1_isBefore_95 : decode cX1_isBefore 95 = .ok (.iload_n 1, 1) := by decide +kernel
theorem dX1_isBefore_96 : decode cX1_isBefore 96 = .ok (.iaload, 1) := by decide +kernel
theorem dX1_isBefore_97 : decode cX1_isBefore 97 = .ok (.aload_n 0, 1) := by decide +kernel
theorem dX1_isBefore_98 : decode cX1_isBefore 98 = .ok (.getfield 18, 3) := by decide +kernel
theorem dX1_isBefore_101 : decode cX1_isBefore 101 = .ok (.iload_n 2, 1) := by decide +kernel
theorem dX1_isBefore_102 : decode cX1_isBefore 102 = .ok (.iaload, 1) := by decide +kernel
theorem dX1_isBefore_103 : decode cX1_isBefore 103 = .ok (.if_icmp .ge 7, 3) := by decide +kernel
theorem dX1_isBefore_106 : decode cX1_isBefore 106 = .ok (.iconst 1, 1) := by decide +kernel
theorem dX1_isBefore_107 : decode cX1_isBefore 107 = .ok (.goto 4, 3) := by decide +kernel
theorem dX1_isBefore_110 : decode cX1_isBefore 110 = .ok (.iconst 0, 1) := by decide +kernel
theorem dX1_isBefore_111 : decode cX1_isBefore 111 = .ok (.ireturn, 1) := by decide +kernel
theorem dX1_isBefore_112 : decode cX1_isBefore 112 = .ok (.iconst 0, 1) := by decide +kernel
theorem dX1_isBefore_113 : decode cX1_isBefore 113 = .ok (.istore 5, 2) := by decide +kernel
theorem dX1_isBefore_115 : decode cX1_isBefore 115 = .ok (.iload 5, 2) := by decide +kernel
theorem dX1_isBefore_117 : decode cX1_isBefore 117 = .ok (.bipush 16, 2) := by decide +kernel
theorem dX1_isBefore_119 : decode cX1_isBefore 119 = .ok (.if_icmp .ge 41, 3) := by decide +kernel
theorem dX1_isBefore_122 : decode cX1_isBefore 122 = .ok (.aload_n 0, 1) := by decide +kernel
theorem dX1_isBefore_123 : decode cX1_isBefore 123 = .ok (.getfield 9, 3) := by decide +kernel
theorem dX1_isBefore_126 : decode cX1_isBefore 126 = .ok (.iload_n 3, 1) := by decide +kernel
theorem dX1_isBefore_127 : decode cX1_isBefore 127 = .ok (.iaload, 1) := by decide +kernel
theorem dX1_isBefore_128 : decode cX1_isBefore 128 = .ok (.aload_n 0, 1) := by decide +kernel
theorem dX1_isBefore_129 : decode cX1_isBefore 129 = .ok (.getfield 9, 3) := by decide +kernel
theorem dX1_isBefore_132 : decode cX1_isBefore 132 = .ok (.iload 4, 2) := by decide +kernel
theorem dX1_isBefore_134 : decode cX1_isBefore 134 = .ok (.iaload, 1) := by decide +kernel
theorem dX1_isBefore_135 : decode cX1_isBefore 135 = .ok (.if_icmp .eq 25, 3) := by decide +kernel
theorem dX1_isBefore_138 : decode cX1_isBefore 138 = .ok (.aload_n 0, 1) := by decide +kernel
theorem dX1_isBefore_139 : decode cX1_isBefore 139 = .ok (.getfield 9, 3) := by decide +kernel
theorem dX1_isBefore_142 : decode cX1_isBefore 142 = .ok (.iload_n 3, 1) := by decide +kernel
theorem dX1_isBefore_143 : decode cX1_isBefore 143 = .ok (.iaload, 1) := by decide +kernel
theorem dX1_isBefore_144 : decode cX1_isBefore 144 = .ok (.istore_n 3, 1) := by decide +kernel
theorem dX1_isBefore_145 : decode cX1_isBefore 145 = .ok (.aload_n 0, 1) := by decide +kernel
theorem dX1_isBefore_146 : decode cX1_isBefore 146 = .ok (.getfield 9, 3) := by decide +kernel
theorem dX1_isBefore_149 : decode cX1_isBefore 149 = .ok (.iload 4, 2) := by decide +kernel
theorem dX1_isBefore_151 : decode cX1_isBefore 151 = .ok (.iaload, 1) := by decide +kernel
theorem dX1_isBefore_152 : decode cX1_isBefore 152 = .ok (.istore 4, 2) := by decide +kernel
theorem dX1_isBefore_154 : decode cX1_isBefore 154 = .ok (.iinc 5 1, 3) := by decide +kernel
theorem dX1_isBefore_157 : decode cX1_isBefore 157 = .ok (.goto (-42), 3) := by decide +kernel
theorem dX1_isBefore_160 : decode cX1_isBefore 160 = .ok (.aload_n 0, 1) := by decide +kernel
theorem dX1_isBefore_161 : decode cX1_isBefore 161 = .ok (.getfield 15, 3) := by decide +kernel
theorem dX1_isBefore_164 : decode cX1_isBefore 164 = .ok (.iload_n 3, 1) := by decide +kernel
theorem dX1_isBefore_165 : decode cX1_isBefore 165 = .ok (.iaload, 1) := by decide +kernel
theorem dX1_isBefore_166 : decode cX1_isBefore 166 = .ok (.aload_n 0, 1) := by decide +kernel
theorem dX1_isBefore_167 : decode cX1_isBefore 167 = .ok (.getfield 15, 3) := by decide +kernel
theorem dX1_isBefore_170 : decode cX1_isBefore 170 = .ok (.iload 4, 2) := by decide +kernel
theorem dX1_isBefore_172 : decode cX1_isBefore 172 = .ok (.iaload, 1) := by decide +kernel
theorem dX1_isBefore_173 : decode cX1_isBefore 173 = .ok (.if_icmp .ge 7, 3) := by decide +kernel
theorem dX1_isBefore_176 : decode cX1_isBefore 176 = .ok (.iconst 1, 1) := by decide +kernel
theorem dX1_isBefore_177 : decode cX1_isBefore 177 = .ok (.goto 4, 3) := by decide +kernel
theorem dX1_isBefore_180 : decode cX1_isBefore 180 = .ok (.iconst 0, 1) := by decide +kernel
theorem dX1_isBefore_181 : decode cX1_isBefore 181 = .ok (.ireturn, 1) := by decide +kernel
set_option maxRecDepth 20000 in
theorem ggX2_init_X5_init : GoodIn wsX2_init wsX5_init := goodIn_r _ [18, 19, 2, 3, 20, 21, 22, 37, 38, 39, 40, 41, 42, 43, 44, 45, 46] rfl (by decide +kernel)
set_option maxRecDepth 20000 in
theorem gX2_init_X5_init : GoodIn wsX2_init (wsX5_init) := ggX2_init_X5_init
set_option maxRecDepth 20000 in
theorem ggX2_init_X6_init : GoodIn wsX2_init wsX6_init := goodIn_r _ [25, 26, 2, 3, 27, 28, 29, 30, 47, 48, 49, 50] rfl (by decide +kernel)
set_option maxRecDepth 20000 in
theorem gX2_init_X6_init : GoodIn wsX2_init (wsX6_init) := ggX2_init_X6_init
theorem dX2_init_0 : decode cX2_init 0 = .ok (.aload_n 0, 1) := by decide +kernel
theorem dX2_init_1 : decode cX2_init 1 = .ok (.invokespecial 3, 3) := by decide +kernel
theorem dX2_init_4 : decode cX2_init 4 = .ok (.aload_n 0, 1) := by decide +kernel
theorem dX2_init_5 : decode cX2_init 5 = .ok (.aload_n 1, 1) := by decide +kernel
theorem dX2_init_6 : decode cX2_init 6 = .ok (.putfield 9, 3) := by decide +kernel
theorem dX2_init_9 : decode cX2_init 9 = .ok (.aload_n 0, 1) := by decide +kernel
theorem dX2_init_10 : decode cX2_init 10 = .ok (.aload_n 3, 1) := by decide +kernel
theorem dX2_init_11 : decode cX2_init 11 = .ok (.putfield 15, 3) := by decide +kernel
theorem dX2_init_14 : decode cX2_init 14 = .ok (.aload_n 0, 1) := by decide +kernel
theorem dX2_init_15 : decode cX2_init 15 = .ok (.aload 4, 2) := by decide +kernel
theorem dX2_init_17 : decode cX2_init 17 = .ok (.putfield 19, 3) := by decide +kernel
theorem dX2_init_20 : decode cX2_init 20 = .ok (.aload_n 0, 1) := by decide +kernel
theorem dX2_init_21 : decode cX2_init 21 = .ok (.aload 5, 2) := by decide +kernel
theorem dX2_init_23 : decode cX2_init 23 = .ok (.putfield 23, 3) := by decide +kernel
theorem dX2_init_26 : decode cX2_init 26 = .ok (.aload_n 0, 1) := by decide +kernel
theorem dX2_init_27 : decode cX2_init 27 = .ok (.new 27, 3) := by decide +kernel
theorem dX2_init_30 : decode cX2_init 30 = .ok (.dup, 1) := by decide +kernel
theorem dX2_init_31 : decode cX2_init 31 = .ok (.aload_n 1, 1) := by decide +kernel
theorem dX2_init_32 : decode cX2_init 32 = .ok (.invokespecial 29, 3) := by decide +kernel
theorem dX2_init_35 : decode cX2_init 35 = .ok (.putfield 32, 3) := by decide +kernel
theorem dX2_init_38 : decode cX2_init 38 = .ok (.aload_n 0, 1) := by decide +kernel
theorem dX2_init_39 : decode cX2_init 39 = .ok (.new 36, 3) := by decide +kernel
theorem dX2_init_42 : decode cX2_init 42 = .ok (.dup, 1) := by decide +kernel
theorem dX2_init_43 : decode cX2_init 43 = .ok (.aload_n 1, 1) := by decide +kernel
theorem dX2_init_44 : decode cX2_init 44 = .ok (.aload_n 2, 1) := by decide +kernel
theorem dX2_init_45 : decode cX2_init 45 = .ok (.aload_n 3, 1) := by decide +kernel
theorem dX2_init_46 : decode cX2_init 46 = .ok (.aload_n 0, 1) := by decide +kernel
theorem dX2_init_47 : decode cX2_init 47 = .ok (.getfield 32, 3) := by decide +kernel
theorem dX2_init_50 : decode cX2_init 50 = .ok (.invokespecial 38, 3) := by decide +kernel
theorem dX2_init_53 : decode cX2_init 53 = .ok (.putfield 41, 3) := by decide +kernel
theorem dX2_init_56 : decode cX2_init 56 = .ok (.return_, 1) := by decide +kernel
def ckX2_begin : List (List Cond) := [[.code yX2_begin cX2_begin 1 (some .boolean)], wsX2_begin_r1, wsX2_begin_r2, wsX2_begin_r3, wsX2_begin_r4, wsX2_begin_r5, wsX2_begin_r6, wsX20, wsX50, wsX00, wsX30, wsX70]
theorem ckX2_beginl : wsX2_begin = ckX2_begin.flatten := by
  simp only [wsX2_begin, ckX2_begin, List.flatten_cons, List.flatten_nil, List.append_assoc, List.append_nil, List.cons_append, List.nil_append]
set_option maxRecDepth 20000 in
theorem ggX2_begin_X5_begin : GoodIn wsX2_begin wsX5_begin := goodIn_t ckX2_begin ckX2_beginl _ [(1, 6), (1, 7), (1, 8), (1, 9), (1, 10), (1, 11), (1, 12), (1, 13), (1, 14), (1, 15), (1, 16), (1, 17), (1, 18), (1, 19), (1, 20), (1, 21), (1, 22), (1, 23), (2, 0), (2, 1), (2, 2), (1, 5), (2, 3), (2, 4), (2, 5), (2, 6), (2, 7), (2, 8), (2, 9), (2, 10), (2, 11), (2, 12), (9, 0), (9, 1), (9, 2), (9, 3), (9, 4), (9, 5), (9, 6), (9, 7), (9, 8), (9, 9), (9, 10), (9, 11), (9, 12), (9, 13), (9, 14), (9, 15), (9, 16), (8, 0), (8, 1), (8, 2), (8, 3), (8, 4), (8, 5), (8, 6), (8, 7), (8, 8), (8, 9)] rfl (by decide +kernel)
set_option maxRecDepth 20000 in
theorem gX2_begin_X5_begin : GoodIn wsX2_begin (wsV RX2 45 RX5 yX5_begin wsX5_begin) := goodIn_app (goodIn_of _ (by decide +kernel)) ggX2_begin_X5_begin
set_option maxRecDepth 20000 in
theorem ggX2_begin_X2_comeTo : GoodIn wsX2_begin wsX2_comeTo := goodIn_t ckX2_begin ckX2_beginl _ [(2, 17), (2, 18), (1, 0), (2, 19), (2, 20), (2, 21), (2, 22), (2, 23), (3, 0), (3, 1), (3, 2), (3, 3), (3, 4), (3, 5), (3, 6), (3, 7), (3, 8), (3, 9), (3, 10), (3, 11), (3, 12), (3, 13), (3, 14), (3, 15), (3, 16), (3, 17), (3, 18), (3, 19), (3, 20), (1, 17), (3, 21), (3, 22), (3, 23), (4, 0), (4, 1), (2, 11), (4, 2), (1, 22), (4, 3), (4, 4), (4, 5), (4, 6), (4, 7), (4, 8), (4, 9), (4, 10), (4, 11), (4, 12), (4, 13), (4, 14), (4, 15), (4, 16), (4, 17), (4, 18), (4, 19), (4, 20), (4, 21), (4, 22), (4, 23), (5, 0), (5, 1), (5, 2), (5, 3), (5, 4), (5, 5), (5, 6), (5, 7), (5, 8), (5, 9), (5, 10), (5, 11), (5, 12), (5, 13), (5, 14), (5, 15), (5, 16), (5, 17), (5, 18), (5, 19), (5, 20), (5, 21), (5, 22), (5, 23), (6, 0), (6, 1), (7, 0), (7, 1), (7, 2), (7, 3), (7, 4), (7, 5), (8, 0), (8, 1), (8, 2), (8, 3), (8, 4), (8, 5), (8, 6), (8, 7), (8, 8), (8, 9), (10, 0), (10, 1), (10, 2), (10, 3), (10, 4), (10, 5), (10, 6), (10, 7), (10, 8), (10, 9), (10, 10), (10, 11), (10, 12), (10, 13), (10, 14), (10, 15), (10, 16), (11, 0), (11, 1), (11, 2)] rfl (by decide +kernel)
set_option maxRecDepth 20000 in
theorem gX2_begin_X2_comeTo : GoodIn wsX2_begin (wsV RX2 51 RX2 yX2_comeTo wsX2_comeTo) := goodIn_app (goodIn_of _ (by decide +kernel)) ggX2_begin_X2_comeTo
theorem dX2_begin_0 : decode cX2_begin 0 = .ok (.aload_n 0, 1) := by decide +kernel
theorem dX2_begin_1 : decode cX2_begin 1 = .ok (.getfield 32, 3) := by decide +kernel
theorem dX2_begin_4 : decode cX2_begin 4 = .ok (.aload_n 0, 1) := by decide +kernel
theorem dX2_begin_5 : decode cX2_begin 5 = .ok (.getfield 15, 3) := by decide +kernel
theorem dX2_begin_8 : decode cX2_begin 8 = .ok (.invokevirtual 45, 3) := by decide +kernel
theorem dX2_begin_11 : decode cX2_begin 11 = .ok (.aload_n 0, 1) := by decide +kernel
theorem dX2_begin_12 : decode cX2_begin 12 = .ok (.iconst 0, 1) := by decide +kernel
theorem dX2_begin_13 : decode cX2_begin 13 = .ok (.iconst 0, 1) := by decide +kernel
theorem dX2_begin_14 : decode cX2_begin 14 = .ok (.invokevirtual 51, 3) := by decide +kernel
theorem dX2_begin_17 : decode cX2_begin 17 = .ok (.aload_n 0, 1) := by decide +kernel
theorem dX2_begin_18 : decode cX2_begin 18 = .ok (.getfield 32, 3) := by decide +kernel
theorem dX2_begin_21 : decode cX2_begin 21 = .ok (.getfield 55, 3) := by decide +kernel
theorem dX2_begin_24 : decode cX2_begin 24 = .ok (.ifCond .ne 7, 3) := by decide +kernel
theorem dX2_begin_27 : decode cX2_begin 27 = .ok (.iconst 1, 1) := by decide +kernel
theorem dX2_begin_28 : decode cX2_begin 28 = .ok (.goto 4, 3) := by decide +kernel
theorem dX2_begin_31 : decode cX2_begin 31 = .ok (.iconst 0, 1) := by decide +kernel
theorem dX2_begin_32 : decode cX2_begin 32 = .ok (.ireturn, 1) := by decide +kernel
def ckX2_follow : List (List Cond) := [[.code yX2_follow cX2_follow 7 (some .boolean)], wsX2_follow_r1, wsX2_follow_r2, wsX2_follow_r3, wsX2_follow_r4, wsX2_follow_r5, wsX2_follow_r6, wsX2_follow_r7, wsX2_follow_r8, wsX2_follow_r9, wsX2_follow_r10, wsX2_follow_r11, wsX2_follow_r12, wsX2_follow_r13, wsX2_follow_r14, wsX2_follow_r15, wsX20, wsX30, wsX00, wsX50, wsX70, wsX60, wsX40, wsX10]
theorem ckX2_followl : wsX2_follow = ckX2_follow.flatten := by
  simp only [wsX2_follow, ckX2_follow, List.flatten_cons, List.flatten_nil, List.append_assoc, List.append_nil, List.cons_append, List.nil_append]
set_option maxRecDepth 20000 in
theorem ggX2_follow_X5_bring : GoodIn wsX2_follow wsX5_bring := goodIn_t ckX2_follow ckX2_followl _ [(1, 8), (1, 9), (1, 10), (1, 11), (1, 12), (1, 13), (1, 14), (1, 15), (1, 16), (1, 17), (19, 0), (19, 1), (19, 2), (19, 3), (19, 4), (19, 5), (19, 6), (19, 7), (19, 8), (19, 9), (17, 0), (17, 1), (17, 2), (17, 3), (17, 4), (17, 5), (17, 6), (17, 7), (17, 8), (17, 9), (17, 10), (17, 11), (17, 12), (17, 13), (17, 14), (17, 15), (17, 16)] rfl (by decide +kernel)
set_option maxRecDepth 20000 in
theorem gX2_follow_X5_bring : GoodIn wsX2_follow (wsV RX2 68 RX5 yX5_bring wsX5_bring) := goodIn_app (goodIn_of _ (by decide +kernel)) ggX2_follow_X5_bring
set_option maxRecDepth 20000 in
theorem ggX2_follow_X2_isHandlerNext : GoodIn wsX2_follow wsX2_isHandlerNext := goodIn_t ckX2_follow ckX2_followl _ [(1, 22), (1, 2), (1, 1), (16, 0), (16, 1), (16, 2), (16, 3), (16, 4), (16, 5), (18, 0), (18, 1), (18, 2), (18, 3), (18, 4), (18, 5), (18, 6), (18, 7), (18, 8), (18, 9), (18, 10), (18, 11), (18, 12), (18, 13), (18, 14), (18, 15), (18, 16), (19, 0), (19, 1), (19, 2), (19, 3), (19, 4), (19, 5), (19, 6), (19, 7), (19, 8), (19, 9)] rfl (by decide +kernel)
set_option maxRecDepth 20000 in
theorem gX2_follow_X2_isHandlerNext : GoodIn wsX2_follow (wsV RX2 81 RX2 yX2_isHandlerNext wsX2_isHandlerNext) := goodIn_app (goodIn_of _ (by decide +kernel)) ggX2_follow_X2_isHandlerNext
set_option maxRecDepth 20000 in
theorem ggX2_follow_X2_comeToHandler : GoodIn wsX2_follow wsX2_comeToHandler := goodIn_t ckX2_follow ckX2_followl _ [(2, 2), (1, 2), (1, 1), (2, 3), (2, 4), (2, 5), (2, 6), (2, 7), (2, 8), (2, 9), (2, 10), (2, 11), (2, 12), (2, 13), (2, 14), (2, 15), (2, 16), (2, 17), (2, 18), (2, 19), (2, 20), (2, 21), (2, 22), (2, 23), (3, 0), (3, 1), (3, 2), (3, 3), (3, 4), (3, 5), (3, 6), (1, 21), (3, 7), (1, 0), (3, 8), (3, 9), (3, 10), (3, 11), (3, 12), (3, 13), (3, 14), (3, 15), (3, 16), (3, 17), (3, 18), (3, 19), (3, 20), (3, 21), (3, 22), (3, 23), (4, 0), (4, 1), (4, 2), (4, 3), (4, 4), (4, 5), (4, 6), (4, 7), (4, 8), (4, 9), (4, 10), (4, 11), (4, 12), (4, 13), (4, 14), (4, 15), (4, 16), (4, 17), (4, 18), (4, 19), (4, 20), (4, 21), (4, 22), (4, 23), (5, 0), (5, 1), (5, 2), (5, 3), (5, 4), (5, 5), (5, 6), (5, 7), (5, 8), (5, 9), (5, 10), (1, 15), (1, 16), (1, 17), (5, 11), (5, 12), (5, 13), (5, 14), (5, 15), (5, 16), (5, 17), (5, 18), (5, 19), (5, 20), (5, 21), (5, 22), (5, 23), (6, 0), (6, 1), (6, 2), (6, 3), (6, 4), (6, 5), (6, 6), (16, 0), (16, 1), (16, 2), (16, 3), (16, 4), (16, 5), (18, 0), (18, 1), (18, 2), (18, 3), (18, 4), (18, 5), (18, 6), (18, 7), (18, 8), (18, 9), (18, 10), (18, 11), (18, 12), (18, 13), (18, 14), (18, 15), (18, 16), (19, 0), (19, 1), (19, 2), (19, 3), (19, 4), (19, 5), (19, 6), (19, 7), (19, 8), (19, 9), (20, 0), (20, 1), (20, 2), (17, 0), (17, 1), (17, 2), (17, 3), (17, 4), (17, 5), (17, 6), (17, 7), (17, 8), (17, 9), (17, 10), (17, 11), (17, 12), (17, 13), (17, 14), (17, 15), (17, 16)] rfl (by decide +kernel)
set_option maxRecDepth 20000 in
theorem gX2_follow_X2_comeToHandler : GoodIn wsX2_follow (wsV RX2 85 RX2 yX2_comeToHandler wsX2_comeToHandler) := goodIn_app (goodIn_of _ (by decide +kernel)) ggX2_follow_X2_comeToHandler
set_option maxRecDepth 20000 in
theorem ggX2_follow_X6_step : GoodIn wsX2_follow wsX6_step := goodIn_t ckX2_follow ckX2_followl _ [(6, 11), (6, 12), (6, 13), (6, 14), (6, 15), (6, 16), (6, 10), (6, 17), (6, 18), (6, 19), (6, 20), (6, 21), (6, 22), (1, 7), (6, 23), (7, 0), (3, 2), (2, 7), (3, 3), (2, 10), (2, 11), (2, 12), (2, 13), (2, 14), (7, 1), (7, 2), (7, 3), (7, 4), (1, 10), (7, 5), (7, 6), (1, 13), (7, 7), (7, 8), (7, 9), (7, 10), (7, 11), (7, 12), (7, 13), (7, 14), (7, 15), (7, 16), (7, 17), (7, 18), (7, 19), (1, 9), (7, 20), (7, 21), (7, 22), (7, 23), (8, 0), (8, 1), (8, 2), (8, 3), (8, 4), (8, 5), (8, 6), (8, 7), (8, 8), (8, 9), (8, 10), (8, 11), (8, 12), (8, 13), (8, 14), (8, 15), (8, 16), (8, 17), (8, 18), (8, 19), (8, 20), (8, 21), (8, 22), (8, 23), (9, 0), (9, 1), (9, 2), (9, 3), (9, 4), (9, 5), (9, 6), (9, 7), (1, 12), (9, 8), (9, 9), (9, 10), (9, 11), (9, 12), (9, 13), (9, 14), (9, 15), (9, 16), (9, 17), (9, 18), (9, 19), (9, 20), (9, 21), (9, 22), (9, 23), (2, 5), (2, 6), (2, 8), (2, 9), (2, 15), (2, 16), (2, 17), (2, 18), (2, 19), (2, 20), (2, 21), (2, 22), (2, 23), (3, 0), (10, 0), (10, 1), (10, 2), (10, 3), (10, 4), (10, 5), (10, 6), (10, 7), (10, 8), (10, 9), (10, 10), (10, 11), (10, 12), (10, 13), (10, 14), (10, 15), (10, 16), (10, 17), (10, 18), (10, 19), (10, 20), (10, 21), (10, 22), (10, 23), (11, 0), (11, 1), (11, 2), (11, 3), (11, 4), (11, 5), (11, 6), (11, 7), (11, 8), (11, 9), (11, 10), (11, 11), (11, 12), (11, 13), (11, 14), (11, 15), (11, 16), (11, 17), (11, 18), (11, 19), (11, 20), (11, 21), (11, 22), (11, 23), (12, 0), (12, 1), (12, 2), (12, 3), (12, 4), (12, 5), (12, 6), (12, 7), (12, 8), (12, 9), (12, 10), (12, 11), (12, 12), (12, 13), (12, 14), (12, 15), (12, 16), (12, 17), (12, 18), (12, 19), (12, 20), (12, 21), (12, 22), (12, 23), (13, 0), (13, 1), (13, 2), (13, 3), (13, 4), (13, 5), (13, 6), (13, 7), (13, 8), (13, 9), (13, 10), (13, 11), (13, 12), (13, 13), (13, 14), (13, 15), (13, 16), (21, 0), (21, 1), (21, 2), (21, 3), (18, 0), (18, 1), (18, 2), (18, 3), (18, 4), (18, 5), (18, 6), (18, 7), (18, 8), (18, 9), (18, 10), (18, 11), (18, 12), (18, 13), (18, 14), (18, 15), (18, 16), (19, 0), (19, 1), (19, 2), (19, 3), (19, 4), (19, 5), (19, 6), (19, 7), (19, 8), (19, 9), (20, 0), (20, 1), (20, 2), (22, 0), (22, 1), (22, 2), (22, 3), (22, 4), (22, 5), (22, 6), (22, 7), (22, 8)] rfl (by decide +kernel)
set_option maxRecDepth 20000 in
theorem gX2_follow_X6_step : GoodIn wsX2_follow (wsV RX2 91 RX6 yX6_step wsX6_step) := goodIn_app (goodIn_of _ (by decide +kernel)) ggX2_follow_X6_step
set_option maxRecDepth 20000 in
theorem ggX2_follow_X2_goesOn : GoodIn wsX2_follow wsX2_goesOn := goodIn_t ckX2_follow ckX2_followl _ [(13, 20), (1, 2), (1, 1), (13, 21), (13, 22), (13, 23), (1, 21), (14, 0), (14, 1), (14, 2), (14, 3), (14, 4), (14, 5), (14, 6), (14, 7), (14, 8), (14, 9), (14, 10), (14, 11), (14, 12), (14, 13), (14, 14), (14, 15), (14, 16), (14, 17), (14, 18), (14, 19), (14, 20), (14, 21), (5, 16), (5, 17), (5, 18), (5, 19), (5, 20), (5, 21), (5, 22), (5, 23), (6, 0), (6, 1), (6, 2), (6, 3), (6, 4), (6, 5), (6, 6), (1, 15), (1, 16), (1, 17), (3, 4), (3, 5), (3, 6), (3, 7), (1, 0), (3, 8), (3, 9), (3, 10), (3, 11), (3, 12), (3, 13), (3, 14), (3, 15), (3, 16), (3, 17), (3, 18), (3, 19), (3, 20), (3, 21), (3, 22), (3, 23), (4, 0), (4, 1), (4, 2), (4, 3), (4, 4), (4, 5), (4, 6), (4, 7), (4, 8), (4, 9), (2, 7), (4, 10), (4, 11), (4, 12), (4, 13), (4, 14), (2, 9), (2, 22), (2, 13), (3, 0), (2, 15), (2, 16), (2, 17), (4, 15), (4, 16), (4, 17), (4, 18), (4, 19), (4, 20), (4, 21), (4, 22), (4, 23), (5, 0), (5, 1), (5, 2), (5, 3), (5, 4), (5, 5), (5, 6), (5, 7), (5, 8), (5, 9), (5, 10), (5, 11), (5, 12), (5, 13), (5, 14), (5, 15), (14, 22), (7, 17), (7, 18), (1, 7), (7, 19), (1, 9), (1, 13), (14, 23), (15, 0), (15, 1), (15, 2), (15, 3), (15, 4), (11, 17), (15, 5), (16, 0), (16, 1), (16, 2), (16, 3), (16, 4), (16, 5), (18, 0), (18, 1), (18, 2), (18, 3), (18, 4), (18, 5), (18, 6), (18, 7), (18, 8), (18, 9), (18, 10), (18, 11), (18, 12), (18, 13), (18, 14), (18, 15), (18, 16), (19, 0), (19, 1), (19, 2), (19, 3), (19, 4), (19, 5), (19, 6), (19, 7), (19, 8), (19, 9), (23, 0), (23, 1), (23, 2), (23, 3), (23, 4), (23, 5), (17, 0), (17, 1), (17, 2), (17, 3), (17, 4), (17, 5), (17, 6), (17, 7), (17, 8), (17, 9), (17, 10), (17, 11), (17, 12), (17, 13), (17, 14), (17, 15), (17, 16), (20, 0), (20, 1), (20, 2)] rfl (by decide +kernel)
set_option maxRecDepth 20000 in
theorem gX2_follow_X2_goesOn : GoodIn wsX2_follow (wsV RX2 95 RX2 yX2_goesOn wsX2_goesOn) := goodIn_app (goodIn_of _ (by decide +kernel)) ggX2_follow_X2_goesOn
theorem dX2_follow_0 : decode cX2_follow 0 = .ok (.aload_n 0, 1) := by decide +kernel
theorem dX2_follow_1 : decode cX2_follow 1 = .ok (.getfield 23, 3) := by decide +kernel
theorem dX2_follow_4 : decode cX2_follow 4 = .ok (.getfield 59, 3) := by decide +kernel
theorem dX2_follow_7 : decode cX2_follow 7 = .ok (.iload_n 1, 1) := by decide +kernel
theorem dX2_follow_8 : decode cX2_follow 8 = .ok (.iaload, 1) := by decide +kernel
theorem dX2_follow_9 : decode cX2_follow 9 = .ok (.istore_n 2, 1) := by decide +kernel
theorem dX2_follow_10 : decode cX2_follow 10 = .ok (.aload_n 0, 1) := by decide +kernel
theorem dX2_follow_11 : decode cX2_follow 11 = .ok (.getfield 23, 3) := by decide +kernel
theorem dX2_follow_14 : decode cX2_follow 14 = .ok (.getfield 65, 3) := by decide +kernel
theorem dX2_follow_17 : decode cX2_follow 17 = .ok (.iload_n 1, 1) := by decide +kernel
theorem dX2_follow_18 : decode cX2_follow 18 = .ok (.iaload, 1) := by decide +kernel
theorem dX2_follow_19 : decode cX2_follow 19 = .ok (.istore_n 3, 1) := by decide +kernel
theorem dX2_follow_20 : decode cX2_follow 20 = .ok (.aload_n 0, 1) := by decide +kernel
theorem dX2_follow_21 : decode cX2_follow 21 = .ok (.getfield 32, 3) := by decide +kernel
theorem dX2_follow_24 : decode cX2_follow 24 = .ok (.aload_n 0, 1) := by decide +kernel
theorem dX2_follow_25 : decode cX2_follow 25 = .ok (.getfield 23, 3) := by decide +kernel
theorem dX2_follow_28 : decode cX2_follow 28 = .ok (.iload_n 1, 1) := by decide +kernel
theorem dX2_follow_29 : decode cX2_follow 29 = .ok (.invokevirtual 68, 3) := by decide +kernel
theorem dX2_follow_32 : decode cX2_follow 32 = .ok (.iconst 1, 1) := by decide +kernel
theorem dX2_follow_33 : decode cX2_follow 33 = .ok (.istore 4, 2) := by decide +kernel
theorem dX2_follow_35 : decode cX2_follow 35 = .ok (.iconst 0, 1) := by decide +kernel
theorem dX2_follow_36 : decode cX2_follow 36 = .ok (.istore 5, 2) := by decide +kernel
theorem dX2_follow_38 : decode cX2_follow 38 = .ok (.iload 5, 2) := by decide +kernel
theorem dX2_follow_40 : decode cX2_follow 40 = .ok (.aload_n 0, 1) := by decide +kernel
theorem dX2_follow_41 : decode cX2_follow 41 = .ok (.getfield 15, 3) := by decide +kernel
theorem dX2_follow_44 : decode cX2_follow 44 = .ok (.getfield 72, 3) := by decide +kernel
theorem dX2_follow_47 : decode cX2_follow 47 = .ok (.if_icmp .ge 107, 3) := by decide +kernel
theorem dX2_follow_50 : decode cX2_follow 50 = .ok (.iload 4, 2) := by decide +kernel
theorem dX2_follow_52 : decode cX2_follow 52 = .ok (.ifCond .eq 102, 3) := by decide +kernel
theorem dX2_follow_55 : decode cX2_follow 55 = .ok (.iconst 0, 1) := by decide +kernel
theorem dX2_follow_56 : decode cX2_follow 56 = .ok (.istore 6, 2) := by decide +kernel
theorem dX2_follow_58 : decode cX2_follow 58 = .ok (.iload 6, 2) := by decide +kernel
theorem dX2_follow_60 : decode cX2_follow 60 = .ok (.aload_n 0, 1) := by decide +kernel
theorem dX2_follow_61 : decode cX2_follow 61 = .ok (.getfield 15, 3) := by decide +kernel
theorem dX2_follow_64 : decode cX2_follow 64 = .ok (.getfield 78, 3) := by decide +kernel
theorem dX2_follow_67 : decode cX2_follow 67 = .ok (.if_icmp .ge 36, 3) := by decide +kernel
theorem dX2_follow_70 : decode cX2_follow 70 = .ok (.aload_n 0, 1) := by decide +kernel
theorem dX2_follow_71 : decode cX2_follow 71 = .ok (.getfield 32, 3) := by decide +kernel
theorem dX2_follow_74 : decode cX2_follow 74 = .ok (.getfield 55, 3) := by decide +kernel
theorem dX2_follow_77 : decode cX2_follow 77 = .ok (.ifCond .ne 26, 3) := by decide +kernel
theorem dX2_follow_80 : decode cX2_follow 80 = .ok (.aload_n 0, 1) := by decide +kernel
theorem dX2_follow_81 : decode cX2_follow 81 = .ok (.iload 6, 2) := by decide +kernel
theorem dX2_follow_83 : decode cX2_follow 83 = .ok (.iload_n 3, 1) := by decide +kernel
theorem dX2_follow_84 : decode cX2_follow 84 = .ok (.invokevirtual 81, 3) := by decide +kernel
theorem dX2_follow_87 : decode cX2_follow 87 = .ok (.ifCond .eq 10, 3) := by decide +kernel
theorem dX2_follow_90 : decode cX2_follow 90 = .ok (.aload_n 0, 1) := by decide +kernel
theorem dX2_follow_91 : decode cX2_follow 91 = .ok (.iload 6, 2) := by decide +kernel
theorem dX2_follow_93 : decode cX2_follow 93 = .ok (.iload_n 2, 1) := by decide +kernel
theorem dX2_follow_94 : decode cX2_follow 94 = .ok (.invokevirtual 85, 3) := by decide +kernel
theorem dX2_follow_97 : decode cX2_follow 97 = .ok (.iinc 6 1, 3) := by decide +kernel
theorem dX2_follow_100 : decode cX2_follow 100 = .ok (.goto (-42), 3) := by decide +kernel
theorem dX2_follow_103 : decode cX2_follow 103 = .ok (.aload_n 0, 1) := by decide +kernel
theorem dX2_follow_104 : decode cX2_follow 104 = .ok (.getfield 32, 3) := by decide +kernel
theorem dX2_follow_107 : decode cX2_follow 107 = .ok (.iconst 0, 1) := by decide +kernel
theorem dX2_follow_108 : decode cX2_follow 108 = .ok (.putfield 88, 3) := by decide +kernel
theorem dX2_follow_111 : decode cX2_follow 111 = .ok (.aload_n 0, 1) := by decide +kernel
theorem dX2_follow_112 : decode cX2_follow 112 = .ok (.getfield 41, 3) := by decide +kernel
theorem dX2_follow_115 : decode cX2_follow 115 = .ok (.iload_n 3, 1) := by decide +kernel
theorem dX2_follow_116 : decode cX2_follow 116 = .ok (.invokevirtual 91, 3) := by decide +kernel
theorem dX2_follow_119 : decode cX2_follow 119 = .ok (.aload_n 0, 1) := by decide +kernel
theorem dX2_follow_120 : decode cX2_follow 120 = .ok (.getfield 32, 3) := by decide +kernel
theorem dX2_follow_123 : decode cX2_follow 123 = .ok (.getfield 55, 3) := by decide +kernel
theorem dX2_follow_126 : decode cX2_follow 126 = .ok (.ifCond .ne 16, 3) := by decide +kernel
theorem dX2_follow_129 : decode cX2_follow 129 = .ok (.aload_n 0, 1) := by decide +kernel
theorem dX2_follow_130 : decode cX2_follow 130 = .ok (.iload_n 3, 1) := by decide +kernel
theorem dX2_follow_131 : decode cX2_follow 131 = .ok (.iload_n 2, 1) := by decide +kernel
theorem dX2_follow_132 : decode cX2_follow 132 = .ok (.invokevirtual 95, 3) := by decide +kernel
theorem dX2_follow_135 : decode cX2_follow 135 = .ok (.ifCond .eq 7, 3) := by decide +kernel
theorem dX2_follow_138 : decode cX2_follow 138 = .ok (.iconst 1, 1) := by decide +kernel
theorem dX2_follow_139 : decode cX2_follow 139 = .ok (.goto 4, 3) := by decide +kernel
theorem dX2_follow_142 : decode cX2_follow 142 = .ok (.iconst 0, 1) := by decide +kernel
theorem dX2_follow_143 : decode cX2_follow 143 = .ok (.istore 4, 2) := by decide +kernel
theorem dX2_follow_145 : decode cX2_follow 145 = .ok (.iinc 3 1, 3) := by decide +kernel
theorem dX2_follow_148 : decode cX2_follow 148 = .ok (.iinc 5 1, 3) := by decide +kernel
theorem dX2_follow_151 : decode cX2_follow 151 = .ok (.goto (-113), 3) := by decide +kernel
theorem dX2_follow_154 : decode cX2_follow 154 = .ok (.aload_n 0, 1) := by decide +kernel
theorem dX2_follow_155 : decode cX2_follow 155 = .ok (.getfield 32, 3) := by decide +kernel
theorem dX2_follow_158 : decode cX2_follow 158 = .ok (.getfield 55, 3) := by decide +kernel
theorem dX2_follow_161 : decode cX2_follow 161 = .ok (.ifCond .ne 7, 3) := by decide +kernel
theorem dX2_follow_164 : decode cX2_follow 164 = .ok (.iconst 1, 1) := by decide +kernel
theorem dX2_follow_165 : decode cX2_follow 165 = .ok (.goto 4, 3) := by decide +kernel
theorem dX2_follow_168 : decode cX2_follow 168 = .ok (.iconst 0, 1) := by decide +kernel
theorem dX2_follow_169 : decode cX2_follow 169 = .ok (.ireturn, 1) := by decide +kernel
theorem dX2_isInDoubt_0 : decode cX2_isInDoubt 0 = .ok (.aload_n 0, 1) := by decide +kernel
theorem dX2_isInDoubt_1 : decode cX2_isInDoubt 1 = .ok (.getfield 32, 3) := by decide +kernel
theorem dX2_isInDoubt_4 : decode cX2_isInDoubt 4 = .ok (.iconst 1, 1) := by decide +kernel
theorem dX2_isInDoubt_5 : decode cX2_isInDoubt 5 = .ok (.putfield 98, 3) := by decide +kernel
theorem dX2_isInDoubt_8 : decode cX2_isInDoubt 8 = .ok (.aload_n 0, 1) := by decide +kernel
theorem dX2_isInDoubt_9 : decode cX2_isInDoubt 9 = .ok (.getfield 32, 3) := by decide +kernel
theorem dX2_isInDoubt_12 : decode cX2_isInDoubt 12 = .ok (.getfield 101, 3) := by decide +kernel
theorem dX2_isInDoubt_15 : decode cX2_isInDoubt 15 = .ok (.ireturn, 1) := by decide +kernel
theorem dX2_isHandlerNext_0 : decode cX2_isHandlerNext 0 = .ok (.aload_n 0, 1) := by decide +kernel
theorem dX2_isHandlerNext_1 : decode cX2_isHandlerNext 1 = .ok (.getfield 15, 3) := by decide +kernel
theorem dX2_isHandlerNext_4 : decode cX2_isHandlerNext 4 = .ok (.getfield 104, 3) := by decide +kernel
theorem dX2_isHandlerNext_7 : decode cX2_isHandlerNext 7 = .ok (.iconst 4, 1) := by decide +kernel
theorem dX2_isHandlerNext_8 : decode cX2_isHandlerNext 8 = .ok (.iload_n 1, 1) := by decide +kernel
theorem dX2_isHandlerNext_9 : decode cX2_isHandlerNext 9 = .ok (.imul, 1) := by decide +kernel
theorem dX2_isHandlerNext_10 : decode cX2_isHandlerNext 10 = .ok (.iaload, 1) := by decide +kernel
theorem dX2_isHandlerNext_11 : decode cX2_isHandlerNext 11 = .ok (.istore_n 3, 1) := by decide +kernel
theorem dX2_isHandlerNext_12 : decode cX2_isHandlerNext 12 = .ok (.iload_n 3, 1) := by decide +kernel
theorem dX2_isHandlerNext_13 : decode cX2_isHandlerNext 13 = .ok (.iload_n 2, 1) := by decide +kernel
theorem dX2_isHandlerNext_14 : decode cX2_isHandlerNext 14 = .ok (.if_icmp .gt 39, 3) := by decide +kernel
theorem dX2_isHandlerNext_17 : decode cX2_isHandlerNext 17 = .ok (.iload_n 2, 1) := by decide +kernel
theorem dX2_isHandlerNext_18 : decode cX2_isHandlerNext 18 = .ok (.aload_n 0, 1) := by decide +kernel
theorem dX2_isHandlerNext_19 : decode cX2_isHandlerNext 19 = .ok (.getfield 15, 3) := by decide +kernel
theorem dX2_isHandlerNext_22 : decode cX2_isHandlerNext 22 = .ok (.getfield 104, 3) := by decide +kernel
theorem dX2_isHandlerNext_25 : decode cX2_isHandlerNext 25 = .ok (.iconst 4, 1) := by decide +kernel
theorem dX2_isHandlerNext_26 : decode cX2_isHandlerNext 26 = .ok (.iload_n 1, 1) := by decide +kernel
theorem dX2_isHandlerNext_27 : decode cX2_isHandlerNext 27 = .ok (.imul, 1) := by decide +kernel
theorem dX2_isHandlerNext_28 : decode cX2_isHandlerNext 28 = .ok (.iconst 1, 1) := by decide +kernel
theorem dX2_isHandlerNext_29 : decode cX2_isHandlerNext 29 = .ok (.iadd, 1) := by decide +kernel
theorem dX2_isHandlerNext_30 : decode cX2_isHandlerNext 30 = .ok (.iaload, 1) := by decide +kernel
theorem dX2_isHandlerNext_31 : decode cX2_isHandlerNext 31 = .ok (.if_icmp .ge 22, 3) := by decide +kernel
theorem dX2_isHandlerNext_34 : decode cX2_isHandlerNext 34 = .ok (.aload_n 0, 1) := by decide +kernel
theorem dX2_isHandlerNext_35 : decode cX2_isHandlerNext 35 = .ok (.getfield 32, 3) := by decide +kernel
theorem dX2_isHandlerNext_38 : decode cX2_isHandlerNext 38 = .ok (.getfield 88, 3) := by decide +kernel
theorem dX2_isHandlerNext_41 : decode cX2_isHandlerNext 41 = .ok (.ifCond .ne 8, 3) := by decide +kernel
theorem dX2_isHandlerNext_44 : decode cX2_isHandlerNext 44 = .ok (.iload_n 3, 1) := by decide +kernel
theorem dX2_isHandlerNext_45 : decode cX2_isHandlerNext 45 = .ok (.iload_n 2, 1) := by decide +kernel
theorem dX2_isHandlerNext_46 : decode cX2_isHandlerNext 46 = .ok (.if_icmp .ne 7, 3) := by decide +kernel
theorem dX2_isHandlerNext_49 : decode cX2_isHandlerNext 49 = .ok (.iconst 1, 1) := by decide +kernel
theorem dX2_isHandlerNext_50 : decode cX2_isHandlerNext 50 = .ok (.goto 4, 3) := by decide +kernel
theorem dX2_isHandlerNext_53 : decode cX2_isHandlerNext 53 = .ok (.iconst 0, 1) := by decide +kernel
theorem dX2_isHandlerNext_54 : decode cX2_isHandlerNext 54 = .ok (.ireturn, 1) := by decide +kernel
set_option maxRecDepth 20000 in
theorem ggX2_comeToHandler_X7_mayStand : GoodIn wsX2_comeToHandler wsX7_mayStand := goodIn_r _ [8, 9, 10, 11, 7, 12, 13, 14, 15, 16, 17, 18, 19, 20, 21, 22, 23, 24, 141, 142, 143] rfl (by decide +kernel)
set_option maxRecDepth 20000 in
theorem gX2_comeToHandler_X7_mayStand : GoodIn wsX2_comeToHandler (wsV RX2 113 RX7 yX7_mayStand wsX7_mayStand) := goodIn_app (goodIn_of _ (by decide +kernel)) ggX2_comeToHandler_X7_mayStand
set_option maxRecDepth 20000 in
theorem ggX2_comeToHandler_X7_placeOf : GoodIn wsX2_comeToHandler wsX7_placeOf := goodIn_r _ [27, 10, 11, 7, 12, 13, 14] rfl (by decide +kernel)
set_option maxRecDepth 20000 in
theorem gX2_comeToHandler_X7_placeOf : GoodIn wsX2_comeToHandler (va_wsS RX2 124 yX7_placeOf wsX7_placeOf) := goodIn_app (goodIn_of _ (by decide +kernel)) ggX2_comeToHandler_X7_placeOf
def ckX2_comeToHandler : List (List Cond) := [[.code yX2_comeToHandler cX2_comeToHandler 8 none], wsX2_comeToHandler_r1, wsX2_comeToHandler_r2, wsX2_comeToHandler_r3, wsX2_comeToHandler_r4, wsX2_comeToHandler_r5, wsX20, wsX00, wsX50, wsX70, wsX30]
theorem ckX2_comeToHandlerl : wsX2_comeToHandler = ckX2_comeToHandler.flatten := by
  simp only [wsX2_comeToHandler, ckX2_comeToHandler, List.flatten_cons, List.flatten_nil, List.append_assoc, List.append_nil, List.cons_append, List.nil_append]
set_option maxRecDepth 20000 in
theorem ggX2_comeToHandler_X2_comeTo : GoodIn wsX2_comeToHandler wsX2_comeTo := goodIn_t ckX2_comeToHandler ckX2_comeToHandlerl _ [(2, 7), (2, 8), (1, 1), (2, 9), (2, 10), (2, 11), (2, 12), (2, 13), (2, 14), (2, 15), (2, 16), (2, 17), (2, 18), (2, 19), (2, 20), (2, 21), (2, 22), (2, 23), (3, 0), (3, 1), (3, 2), (3, 3), (3, 4), (3, 5), (3, 6), (3, 7), (3, 8), (3, 9), (3, 10), (1, 6), (3, 11), (3, 12), (3, 13), (3, 14), (3, 15), (1, 8), (1, 21), (1, 12), (1, 23), (1, 14), (1, 15), (1, 16), (3, 16), (3, 17), (3, 18), (3, 19), (3, 20), (3, 21), (3, 22), (3, 23), (4, 0), (4, 1), (4, 2), (4, 3), (4, 4), (4, 5), (4, 6), (4, 7), (4, 8), (4, 9), (4, 10), (4, 11), (4, 12), (4, 13), (4, 14), (4, 15), (4, 16), (4, 17), (4, 18), (4, 19), (4, 20), (4, 21), (4, 22), (4, 23), (5, 0), (5, 1), (5, 2), (5, 3), (5, 4), (5, 5), (5, 6), (5, 7), (5, 8), (5, 9), (5, 10), (6, 0), (6, 1), (6, 2), (6, 3), (6, 4), (6, 5), (8, 0), (8, 1), (8, 2), (8, 3), (8, 4), (8, 5), (8, 6), (8, 7), (8, 8), (8, 9), (10, 0), (10, 1), (10, 2), (10, 3), (10, 4), (10, 5), (10, 6), (10, 7), (10, 8), (10, 9), (10, 10), (10, 11), (10, 12), (10, 13), (10, 14), (10, 15), (10, 16), (9, 0), (9, 1), (9, 2)] rfl (by decide +kernel)
set_option maxRecDepth 20000 in
theorem gX2_comeToHandler_X2_comeTo : GoodIn wsX2_comeToHandler (wsV RX2 51 RX2 yX2_comeTo wsX2_comeTo) := goodIn_app (goodIn_of _ (by decide +kernel)) ggX2_comeToHandler_X2_comeTo
theorem dX2_comeToHandler_0 : decode cX2_comeToHandler 0 = .ok (.aload_n 0, 1) := by decide +kernel
theorem dX2_comeToHandler_1 : decode cX2_comeToHandler 1 = .ok (.getfield 15, 3) := by decide +kernel
theorem dX2_comeToHandler_4 : decode cX2_comeToHandler 4 = .ok (.getfield 104, 3) := by decide +kernel
theorem dX2_comeToHandler_7 : decode cX2_comeToHandler 7 = .ok (.iconst 4, 1) := by decide +kernel
theorem dX2_comeToHandler_8 : decode cX2_comeToHandler 8 = .ok (.iload_n 1, 1) := by decide +kernel
theorem dX2_comeToHandler_9 : decode cX2_comeToHandler 9 = .ok (.imul, 1) := by decide +kernel
theorem dX2_comeToHandler_10 : decode cX2_comeToHandler 10 = .ok (.iconst 3, 1) := by decide +kernel
theorem dX2_comeToHandler_11 : decode cX2_comeToHandler 11 = .ok (.iadd, 1) := by decide +kernel
theorem dX2_comeToHandler_12 : decode cX2_comeToHandler 12 = .ok (.iaload, 1) := by decide +kernel
theorem dX2_comeToHandler_13 : decode cX2_comeToHandler 13 = .ok (.istore_n 3, 1) := by decide +kernel
theorem dX2_comeToHandler_14 : decode cX2_comeToHandler 14 = .ok (.iload_n 3, 1) := by decide +kernel
theorem dX2_comeToHandler_15 : decode cX2_comeToHandler 15 = .ok (.iconst (-1), 1) := by decide +kernel
theorem dX2_comeToHandler_16 : decode cX2_comeToHandler 16 = .ok (.if_icmp .ne 7, 3) := by decide +kernel
theorem dX2_comeToHandler_19 : decode cX2_comeToHandler 19 = .ok (.iconst 1, 1) := by decide +kernel
theorem dX2_comeToHandler_20 : decode cX2_comeToHandler 20 = .ok (.goto 4, 3) := by decide +kernel
theorem dX2_comeToHandler_23 : decode cX2_comeToHandler 23 = .ok (.iload_n 3, 1) := by decide +kernel
theorem dX2_comeToHandler_24 : decode cX2_comeToHandler 24 = .ok (.istore 4, 2) := by decide +kernel
theorem dX2_comeToHandler_26 : decode cX2_comeToHandler 26 = .ok (.aload_n 0, 1) := by decide +kernel
theorem dX2_comeToHandler_27 : decode cX2_comeToHandler 27 = .ok (.getfield 32, 3) := by decide +kernel
theorem dX2_comeToHandler_30 : decode cX2_comeToHandler 30 = .ok (.getfield 107, 3) := by decide +kernel
theorem dX2_comeToHandler_33 : decode cX2_comeToHandler 33 = .ok (.istore 5, 2) := by decide +kernel
theorem dX2_comeToHandler_35 : decode cX2_comeToHandler 35 = .ok (.iload 5, 2) := by decide +kernel
theorem dX2_comeToHandler_37 : decode cX2_comeToHandler 37 = .ok (.aload_n 0, 1) := by decide +kernel
theorem dX2_comeToHandler_38 : decode cX2_comeToHandler 38 = .ok (.getfield 32, 3) := by decide +kernel
theorem dX2_comeToHandler_41 : decode cX2_comeToHandler 41 = .ok (.getfield 110, 3) := by decide +kernel
theorem dX2_comeToHandler_44 : decode cX2_comeToHandler 44 = .ok (.if_icmp .ge 16, 3) := by decide +kernel
theorem dX2_comeToHandler_47 : decode cX2_comeToHandler 47 = .ok (.aload_n 0, 1) := by decide +kernel
theorem dX2_comeToHandler_48 : decode cX2_comeToHandler 48 = .ok (.getfield 9, 3) := by decide +kernel
theorem dX2_comeToHandler_51 : decode cX2_comeToHandler 51 = .ok (.iload 4, 2) := by decide +kernel
theorem dX2_comeToHandler_53 : decode cX2_comeToHandler 53 = .ok (.iconst 1, 1) := by decide +kernel
theorem dX2_comeToHandler_54 : decode cX2_comeToHandler 54 = .ok (.invokevirtual 113, 3) := by decide +kernel
theorem dX2_comeToHandler_57 : decode cX2_comeToHandler 57 = .ok (.ifCond .ne 12, 3) := by decide +kernel
theorem dX2_comeToHandler_60 : decode cX2_comeToHandler 60 = .ok (.aload_n 0, 1) := by decide +kernel
theorem dX2_comeToHandler_61 : decode cX2_comeToHandler 61 = .ok (.getfield 32, 3) := by decide +kernel
theorem dX2_comeToHandler_64 : decode cX2_comeToHandler 64 = .ok (.iconst 1, 1) := by decide +kernel
theorem dX2_comeToHandler_65 : decode cX2_comeToHandler 65 = .ok (.putfield 55, 3) := by decide +kernel
theorem dX2_comeToHandler_68 : decode cX2_comeToHandler 68 = .ok (.return_, 1) := by decide +kernel
theorem dX2_comeToHandler_69 : decode cX2_comeToHandler 69 = .ok (.aload_n 0, 1) := by decide +kernel
theorem dX2_comeToHandler_70 : decode cX2_comeToHandler 70 = .ok (.getfield 32, 3) := by decide +kernel
theorem dX2_comeToHandler_73 : decode cX2_comeToHandler 73 = .ok (.getfield 118, 3) := by decide +kernel
theorem dX2_comeToHandler_76 : decode cX2_comeToHandler 76 = .ok (.istore 6, 2) := by decide +kernel
theorem dX2_comeToHandler_78 : decode cX2_comeToHandler 78 = .ok (.aload_n 0, 1) := by decide +kernel
theorem dX2_comeToHandler_79 : decode cX2_comeToHandler 79 = .ok (.getfield 32, 3) := by decide +kernel
theorem dX2_comeToHandler_82 : decode cX2_comeToHandler 82 = .ok (.getfield 121, 3) := by decide +kernel
theorem dX2_comeToHandler_85 : decode cX2_comeToHandler 85 = .ok (.iload 5, 2) := by decide +kernel
theorem dX2_comeToHandler_87 : decode cX2_comeToHandler 87 = .ok (.iaload, 1) := by decide +kernel
theorem dX2_comeToHandler_88 : decode cX2_comeToHandler 88 = .ok (.istore 7, 2) := by decide +kernel
theorem dX2_comeToHandler_90 : decode cX2_comeToHandler 90 = .ok (.aload_n 0, 1) := by decide +kernel
theorem dX2_comeToHandler_91 : decode cX2_comeToHandler 91 = .ok (.getfield 32, 3) := by decide +kernel
theorem dX2_comeToHandler_94 : decode cX2_comeToHandler 94 = .ok (.getfield 121, 3) := by decide +kernel
theorem dX2_comeToHandler_97 : decode cX2_comeToHandler 97 = .ok (.iload 5, 2) := by decide +kernel
theorem dX2_comeToHandler_99 : decode cX2_comeToHandler 99 = .ok (.iload 4, 2) := by decide +kernel
theorem dX2_comeToHandler_101 : decode cX2_comeToHandler 101 = .ok (.invokestatic 124, 3) := by decide +kernel
theorem dX2_comeToHandler_104 : decode cX2_comeToHandler 104 = .ok (.iastore, 1) := by decide +kernel
theorem dX2_comeToHandler_105 : decode cX2_comeToHandler 105 = .ok (.aload_n 0, 1) := by decide +kernel
theorem dX2_comeToHandler_106 : decode cX2_comeToHandler 106 = .ok (.getfield 32, 3) := by decide +kernel
theorem dX2_comeToHandler_109 : decode cX2_comeToHandler 109 = .ok (.iload 5, 2) := by decide +kernel
theorem dX2_comeToHandler_111 : decode cX2_comeToHandler 111 = .ok (.iconst 1, 1) := by decide +kernel
theorem dX2_comeToHandler_112 : decode cX2_comeToHandler 112 = .ok (.iadd, 1) := by decide +kernel
theorem dX2_comeToHandler_113 : decode cX2_comeToHandler 113 = .ok (.putfield 118, 3) := by decide +kernel
theorem dX2_comeToHandler_116 : decode cX2_comeToHandler 116 = .ok (.aload_n 0, 1) := by decide +kernel
theorem dX2_comeToHandler_117 : decode cX2_comeToHandler 117 = .ok (.aload_n 0, 1) := by decide +kernel
theorem dX2_comeToHandler_118 : decode cX2_comeToHandler 118 = .ok (.getfield 15, 3) := by decide +kernel
theorem dX2_comeToHandler_121 : decode cX2_comeToHandler 121 = .ok (.getfield 104, 3) := by decide +kernel
theorem dX2_comeToHandler_124 : decode cX2_comeToHandler 124 = .ok (.iconst 4, 1) := by decide +kernel
theorem dX2_comeToHandler_125 : decode cX2_comeToHandler 125 = .ok (.iload_n 1, 1) := by decide +kernel
theorem dX2_comeToHandler_126 : decode cX2_comeToHandler 126 = .ok (.imul, 1) := by decide +kernel
theorem dX2_comeToHandler_127 : decode cX2_comeToHandler 127 = .ok (.iconst 2, 1) := by decide +kernel
theorem dX2_comeToHandler_128 : decode cX2_comeToHandler 128 = .ok (.iadd, 1) := by decide +kernel
theorem dX2_comeToHandler_129 : decode cX2_comeToHandler 129 = .ok (.iaload, 1) := by decide +kernel
theorem dX2_comeToHandler_130 : decode cX2_comeToHandler 130 = .ok (.iload_n 2, 1) := by decide +kernel
theorem dX2_comeToHandler_131 : decode cX2_comeToHandler 131 = .ok (.invokevirtual 51, 3) := by decide +kernel
theorem dX2_comeToHandler_134 : decode cX2_comeToHandler 134 = .ok (.aload_n 0, 1) := by decide +kernel
theorem dX2_comeToHandler_135 : decode cX2_comeToHandler 135 = .ok (.getfield 32, 3) := by decide +kernel
theorem dX2_comeToHandler_138 : decode cX2_comeToHandler 138 = .ok (.getfield 121, 3) := by decide +kernel
theorem dX2_comeToHandler_141 : decode cX2_comeToHandler 141 = .ok (.iload 5, 2) := by decide +kernel
theorem dX2_comeToHandler_143 : decode cX2_comeToHandler 143 = .ok (.iload 7, 2) := by decide +kernel
theorem dX2_comeToHandler_145 : decode cX2_comeToHandler 145 = .ok (.iastore, 1) := by decide +kernel
theorem dX2_comeToHandler_146 : decode cX2_comeToHandler 146 = .ok (.aload_n 0, 1) := by decide +kernel
theorem dX2_comeToHandler_147 : decode cX2_comeToHandler 147 = .ok (.getfield 32, 3) := by decide +kernel
theorem dX2_comeToHandler_150 : decode cX2_comeToHandler 150 = .ok (.iload 6, 2) := by decide +kernel
theorem dX2_comeToHandler_152 : decode cX2_comeToHandler 152 = .ok (.putfield 118, 3) := by decide +kernel
theorem dX2_comeToHandler_155 : decode cX2_comeToHandler 155 = .ok (.return_, 1) := by decide +kernel
def ckX2_comeTo : List (List Cond) := [[.code yX2_comeTo cX2_comeTo 4 none], wsX2_comeTo_r1, wsX2_comeTo_r2, wsX2_comeTo_r3, wsX2_comeTo_r4, wsX20, wsX50, wsX30, wsX70]
theorem ckX2_comeTol : wsX2_comeTo = ckX2_comeTo.flatten := by
  simp only [wsX2_comeTo, ckX2_comeTo, List.flatten_cons, List.flatten_nil, List.append_assoc, List.append_nil, List.cons_append, List.nil_append]
set_option maxRecDepth 20000 in
theorem ggX2_comeTo_X3_find : GoodIn wsX2_comeTo wsX3_find := goodIn_t ckX2_comeTo ckX2_comeTol _ [(1, 6), (1, 7), (1, 8), (1, 9), (1, 10), (1, 11), (1, 12), (1, 13), (1, 5), (1, 14), (7, 0), (7, 1), (7, 2), (7, 3), (7, 4), (7, 5), (7, 6), (7, 7), (7, 8), (7, 9), (7, 10), (7, 11), (7, 12), (7, 13), (7, 14), (7, 15), (7, 16)] rfl (by decide +kernel)
set_option maxRecDepth 20000 in
theorem gX2_comeTo_X3_find : GoodIn wsX2_comeTo (wsV RX2 128 RX3 yX3_find wsX3_find) := goodIn_app (goodIn_of _ (by decide +kernel)) ggX2_comeTo_X3_find
set_option maxRecDepth 20000 in
theorem ggX2_comeTo_X3_join : GoodIn wsX2_comeTo wsX3_join := goodIn_t ckX2_comeTo ckX2_comeTol _ [(1, 18), (1, 19), (1, 20), (1, 21), (1, 22), (1, 23), (2, 0), (2, 1), (2, 2), (2, 3), (2, 4), (2, 5), (2, 6), (2, 7), (2, 8), (2, 9), (2, 10), (2, 11), (2, 12), (2, 13), (2, 14), (2, 15), (2, 16), (2, 17), (2, 18), (2, 19), (1, 5), (2, 20), (2, 21), (2, 22), (2, 23), (3, 0), (3, 1), (3, 2), (3, 3), (6, 0), (6, 1), (6, 2), (6, 3), (6, 4), (6, 5), (6, 6), (6, 7), (6, 8), (6, 9), (7, 0), (7, 1), (7, 2), (7, 3), (7, 4), (7, 5), (7, 6), (7, 7), (7, 8), (7, 9), (7, 10), (7, 11), (7, 12), (7, 13), (7, 14), (7, 15), (7, 16), (8, 0), (8, 1), (8, 2)] rfl (by decide +kernel)
set_option maxRecDepth 20000 in
theorem gX2_comeTo_X3_join : GoodIn wsX2_comeTo (wsV RX2 132 RX3 yX3_join wsX3_join) := goodIn_app (goodIn_of _ (by decide +kernel)) ggX2_comeTo_X3_join
set_option maxRecDepth 20000 in
theorem ggX2_comeTo_X3_isFull : GoodIn wsX2_comeTo wsX3_isFull := goodIn_t ckX2_comeTo ckX2_comeTol _ [(3, 7), (1, 8), (1, 22), (7, 0), (7, 1), (7, 2), (7, 3), (7, 4), (7, 5), (7, 6), (7, 7), (7, 8), (7, 9), (7, 10), (7, 11), (7, 12), (7, 13), (7, 14), (7, 15), (7, 16)] rfl (by decide +kernel)
set_option maxRecDepth 20000 in
theorem gX2_comeTo_X3_isFull : GoodIn wsX2_comeTo (wsV RX2 136 RX3 yX3_isFull wsX3_isFull) := goodIn_app (goodIn_of _ (by decide +kernel)) ggX2_comeTo_X3_isFull
set_option maxRecDepth 20000 in
theorem ggX2_comeTo_X3_open : GoodIn wsX2_comeTo wsX3_open := goodIn_t ckX2_comeTo ckX2_comeTol _ [(3, 11), (1, 8), (1, 9), (1, 10), (1, 20), (1, 19), (1, 21), (1, 11), (1, 7), (1, 23), (1, 22), (3, 12), (3, 13), (3, 14), (3, 15), (3, 1), (3, 16), (3, 17), (3, 18), (1, 5), (3, 19), (3, 20), (3, 21), (3, 22), (3, 23), (4, 0), (4, 1), (4, 2), (4, 3), (4, 4), (4, 5), (4, 6), (4, 7), (4, 8), (4, 9), (4, 10), (4, 11), (1, 12), (1, 13), (1, 14), (2, 21), (2, 22), (2, 23), (3, 0), (3, 2), (3, 3), (7, 0), (7, 1), (7, 2), (7, 3), (7, 4), (7, 5), (7, 6), (7, 7), (7, 8), (7, 9), (7, 10), (7, 11), (7, 12), (7, 13), (7, 14), (7, 15), (7, 16), (6, 0), (6, 1), (6, 2), (6, 3), (6, 4), (6, 5), (6, 6), (6, 7), (6, 8), (6, 9)] rfl (by decide +kernel)
set_option maxRecDepth 20000 in
theorem gX2_comeTo_X3_open : GoodIn wsX2_comeTo (wsV RX2 140 RX3 yX3_open wsX3_open) := goodIn_app (goodIn_of _ (by decide +kernel)) ggX2_comeTo_X3_open
theorem dX2_comeTo_0 : decode cX2_comeTo 0 = .ok (.iload_n 2, 1) := by decide +kernel
theorem dX2_comeTo_1 : decode cX2_comeTo 1 = .ok (.iconst (-1), 1) := by decide +kernel
theorem dX2_comeTo_2 : decode cX2_comeTo 2 = .ok (.if_icmp .ne 7, 3) := by decide +kernel
theorem dX2_comeTo_5 : decode cX2_comeTo 5 = .ok (.iconst (-1), 1) := by decide +kernel
theorem dX2_comeTo_6 : decode cX2_comeTo 6 = .ok (.goto 12, 3) := by decide +kernel
theorem dX2_comeTo_9 : decode cX2_comeTo 9 = .ok (.aload_n 0, 1) := by decide +kernel
theorem dX2_comeTo_10 : decode cX2_comeTo 10 = .ok (.getfield 23, 3) := by decide +kernel
theorem dX2_comeTo_13 : decode cX2_comeTo 13 = .ok (.iload_n 1, 1) := by decide +kernel
theorem dX2_comeTo_14 : decode cX2_comeTo 14 = .ok (.iload_n 2, 1) := by decide +kernel
theorem dX2_comeTo_15 : decode cX2_comeTo 15 = .ok (.invokevirtual 128, 3) := by decide +kernel
theorem dX2_comeTo_18 : decode cX2_comeTo 18 = .ok (.istore_n 3, 1) := by decide +kernel
theorem dX2_comeTo_19 : decode cX2_comeTo 19 = .ok (.iload_n 3, 1) := by decide +kernel
theorem dX2_comeTo_20 : decode cX2_comeTo 20 = .ok (.ifCond .lt 43, 3) := by decide +kernel
theorem dX2_comeTo_23 : decode cX2_comeTo 23 = .ok (.aload_n 0, 1) := by decide +kernel
theorem dX2_comeTo_24 : decode cX2_comeTo 24 = .ok (.getfield 32, 3) := by decide +kernel
theorem dX2_comeTo_27 : decode cX2_comeTo 27 = .ok (.aload_n 0, 1) := by decide +kernel
theorem dX2_comeTo_28 : decode cX2_comeTo 28 = .ok (.getfield 32, 3) := by decide +kernel
theorem dX2_comeTo_31 : decode cX2_comeTo 31 = .ok (.getfield 55, 3) := by decide +kernel
theorem dX2_comeTo_34 : decode cX2_comeTo 34 = .ok (.ifCond .ne 18, 3) := by decide +kernel
theorem dX2_comeTo_37 : decode cX2_comeTo 37 = .ok (.aload_n 0, 1) := by decide +kernel
theorem dX2_comeTo_38 : decode cX2_comeTo 38 = .ok (.getfield 23, 3) := by decide +kernel
theorem dX2_comeTo_41 : decode cX2_comeTo 41 = .ok (.iload_n 3, 1) := by decide +kernel
theorem dX2_comeTo_42 : decode cX2_comeTo 42 = .ok (.aload_n 0, 1) := by decide +kernel
theorem dX2_comeTo_43 : decode cX2_comeTo 43 = .ok (.getfield 32, 3) := by decide +kernel
theorem dX2_comeTo_46 : decode cX2_comeTo 46 = .ok (.invokevirtual 132, 3) := by decide +kernel
theorem dX2_comeTo_49 : decode cX2_comeTo 49 = .ok (.ifCond .ne 7, 3) := by decide +kernel
theorem dX2_comeTo_52 : decode cX2_comeTo 52 = .ok (.iconst 1, 1) := by decide +kernel
theorem dX2_comeTo_53 : decode cX2_comeTo 53 = .ok (.goto 4, 3) := by decide +kernel
theorem dX2_comeTo_56 : decode cX2_comeTo 56 = .ok (.iconst 0, 1) := by decide +kernel
theorem dX2_comeTo_57 : decode cX2_comeTo 57 = .ok (.putfield 55, 3) := by decide +kernel
theorem dX2_comeTo_60 : decode cX2_comeTo 60 = .ok (.goto 42, 3) := by decide +kernel
theorem dX2_comeTo_63 : decode cX2_comeTo 63 = .ok (.iload_n 2, 1) := by decide +kernel
theorem dX2_comeTo_64 : decode cX2_comeTo 64 = .ok (.iconst (-1), 1) := by decide +kernel
theorem dX2_comeTo_65 : decode cX2_comeTo 65 = .ok (.if_icmp .eq 13, 3) := by decide +kernel
theorem dX2_comeTo_68 : decode cX2_comeTo 68 = .ok (.aload_n 0, 1) := by decide +kernel
theorem dX2_comeTo_69 : decode cX2_comeTo 69 = .ok (.getfield 23, 3) := by decide +kernel
theorem dX2_comeTo_72 : decode cX2_comeTo 72 = .ok (.invokevirtual 136, 3) := by decide +kernel
theorem dX2_comeTo_75 : decode cX2_comeTo 75 = .ok (.ifCond .eq 14, 3) := by decide +kernel
theorem dX2_comeTo_78 : decode cX2_comeTo 78 = .ok (.aload_n 0, 1) := by decide +kernel
theorem dX2_comeTo_79 : decode cX2_comeTo 79 = .ok (.getfield 32, 3) := by decide +kernel
theorem dX2_comeTo_82 : decode cX2_comeTo 82 = .ok (.iconst 1, 1) := by decide +kernel
theorem dX2_comeTo_83 : decode cX2_comeTo 83 = .ok (.putfield 55, 3) := by decide +kernel
theorem dX2_comeTo_86 : decode cX2_comeTo 86 = .ok (.goto 16, 3) := by decide +kernel
theorem dX2_comeTo_89 : decode cX2_comeTo 89 = .ok (.aload_n 0, 1) := by decide +kernel
theorem dX2_comeTo_90 : decode cX2_comeTo 90 = .ok (.getfield 23, 3) := by decide +kernel
theorem dX2_comeTo_93 : decode cX2_comeTo 93 = .ok (.iload_n 1, 1) := by decide +kernel
theorem dX2_comeTo_94 : decode cX2_comeTo 94 = .ok (.iload_n 2, 1) := by decide +kernel
theorem dX2_comeTo_95 : decode cX2_comeTo 95 = .ok (.aload_n 0, 1) := by decide +kernel
theorem dX2_comeTo_96 : decode cX2_comeTo 96 = .ok (.getfield 32, 3) := by decide +kernel
theorem dX2_comeTo_99 : decode cX2_comeTo 99 = .ok (.invokevirtual 140, 3) := by decide +kernel
theorem dX2_comeTo_102 : decode cX2_comeTo 102 = .ok (.return_, 1) := by decide +kernel
def ckX2_goesOn : List (List Cond) := [[.code yX2_goesOn cX2_goesOn 5 (some .boolean)], wsX2_goesOn_r1, wsX2_goesOn_r2, wsX2_goesOn_r3, wsX2_goesOn_r4, wsX2_goesOn_r5, wsX2_goesOn_r6, wsX20, wsX00, wsX50, wsX10, wsX30, wsX70]
theorem ckX2_goesOnl : wsX2_goesOn = ckX2_goesOn.flatten := by
  simp only [wsX2_goesOn, ckX2_goesOn, List.flatten_cons, List.flatten_nil, List.append_assoc, List.append_nil, List.cons_append, List.nil_append]
set_option maxRecDepth 20000 in
theorem ggX2_goesOn_X2_wayDown : GoodIn wsX2_goesOn wsX2_wayDown := goodIn_t ckX2_goesOn ckX2_goesOnl _ [(1, 6), (1, 0), (1, 7), (1, 8), (1, 9), (1, 10), (1, 11), (1, 12), (1, 13), (1, 14), (1, 15), (1, 16), (1, 17), (1, 18), (1, 19), (1, 20), (1, 21), (1, 22), (1, 23), (2, 0), (2, 1), (2, 2), (2, 3), (2, 4), (2, 5), (2, 6), (2, 7), (2, 8), (2, 9), (2, 10), (2, 11), (2, 12), (2, 13), (2, 14), (2, 15), (2, 16), (2, 17), (2, 18), (2, 19), (2, 20), (2, 21), (7, 0), (7, 1), (7, 2), (7, 3), (7, 4), (7, 5), (8, 0), (8, 1), (8, 2), (8, 3), (8, 4), (8, 5), (8, 6), (8, 7), (8, 8), (8, 9), (8, 10), (8, 11), (8, 12), (8, 13), (8, 14), (8, 15), (8, 16), (10, 0), (10, 1), (10, 2), (10, 3), (10, 4), (10, 5)] rfl (by decide +kernel)
set_option maxRecDepth 20000 in
theorem gX2_goesOn_X2_wayDown : GoodIn wsX2_goesOn (wsV RX2 150 RX2 yX2_wayDown wsX2_wayDown) := goodIn_app (goodIn_of _ (by decide +kernel)) ggX2_goesOn_X2_wayDown
set_option maxRecDepth 20000 in
theorem ggX2_goesOn_X2_comeTo : GoodIn wsX2_goesOn wsX2_comeTo := goodIn_t ckX2_goesOn ckX2_goesOnl _ [(3, 1), (3, 2), (1, 1), (3, 3), (3, 4), (3, 5), (3, 6), (3, 7), (3, 8), (3, 9), (3, 10), (3, 11), (3, 12), (3, 13), (3, 14), (3, 15), (3, 16), (3, 17), (3, 18), (3, 19), (3, 20), (3, 21), (3, 22), (3, 23), (4, 0), (4, 1), (4, 2), (4, 3), (4, 4), (4, 5), (4, 6), (4, 7), (4, 8), (4, 9), (4, 10), (4, 11), (4, 12), (4, 13), (4, 14), (4, 15), (4, 16), (4, 17), (4, 18), (4, 19), (4, 20), (4, 21), (4, 22), (4, 23), (5, 0), (5, 1), (5, 2), (5, 3), (5, 4), (5, 5), (5, 6), (5, 7), (5, 8), (5, 9), (5, 10), (5, 11), (5, 12), (5, 13), (2, 19), (2, 20), (2, 21), (5, 14), (5, 15), (5, 16), (5, 17), (5, 18), (2, 4), (2, 5), (2, 6), (2, 7), (2, 8), (2, 9), (2, 10), (2, 11), (2, 12), (2, 13), (2, 14), (2, 15), (2, 16), (2, 17), (2, 18), (7, 0), (7, 1), (7, 2), (7, 3), (7, 4), (7, 5), (9, 0), (9, 1), (9, 2), (9, 3), (9, 4), (9, 5), (9, 6), (9, 7), (9, 8), (9, 9), (11, 0), (11, 1), (11, 2), (11, 3), (11, 4), (11, 5), (11, 6), (11, 7), (11, 8), (11, 9), (11, 10), (11, 11), (11, 12), (11, 13), (11, 14), (11, 15), (11, 16), (12, 0), (12, 1), (12, 2)] rfl (by decide +kernel)
set_option maxRecDepth 20000 in
theorem gX2_goesOn_X2_comeTo : GoodIn wsX2_goesOn (wsV RX2 51 RX2 yX2_comeTo wsX2_comeTo) := goodIn_app (goodIn_of _ (by decide +kernel)) ggX2_goesOn_X2_comeTo
set_option maxRecDepth 20000 in
theorem ggX2_goesOn_X5_localAt : GoodIn wsX2_goesOn wsX5_localAt := goodIn_t ckX2_goesOn ckX2_goesOnl _ [(5, 23), (6, 0), (6, 1), (9, 0), (9, 1), (9, 2), (9, 3), (9, 4), (9, 5), (9, 6), (9, 7), (9, 8), (9, 9)] rfl (by decide +kernel)
set_option maxRecDepth 20000 in
theorem gX2_goesOn_X5_localAt : GoodIn wsX2_goesOn (wsV RX2 153 RX5 yX5_localAt wsX5_localAt) := goodIn_app (goodIn_of _ (by decide +kernel)) ggX2_goesOn_X5_localAt
set_option maxRecDepth 20000 in
theorem ggX2_goesOn_X2_wayBack : GoodIn wsX2_goesOn wsX2_wayBack := goodIn_t ckX2_goesOn ckX2_goesOnl _ [(6, 5), (1, 1), (1, 7), (5, 19), (5, 20), (5, 21), (5, 22), (5, 23), (6, 0), (6, 1), (1, 8), (1, 9), (1, 10), (1, 11), (1, 12), (1, 13), (1, 14), (1, 15), (7, 0), (7, 1), (7, 2), (7, 3), (7, 4), (7, 5), (9, 0), (9, 1), (9, 2), (9, 3), (9, 4), (9, 5), (9, 6), (9, 7), (9, 8), (9, 9), (10, 0), (10, 1), (10, 2), (10, 3), (10, 4), (10, 5)] rfl (by decide +kernel)
set_option maxRecDepth 20000 in
theorem gX2_goesOn_X2_wayBack : GoodIn wsX2_goesOn (wsV RX2 156 RX2 yX2_wayBack wsX2_wayBack) := goodIn_app (goodIn_of _ (by decide +kernel)) ggX2_goesOn_X2_wayBack
set_option maxRecDepth 20000 in
theorem ggX2_goesOn_X0_isJump : GoodIn wsX2_goesOn wsX0_isJump := goodIn_r _ [130] rfl (by decide +kernel)
set_option maxRecDepth 20000 in
theorem gX2_goesOn_X0_isJump : GoodIn wsX2_goesOn (va_wsS RX2 168 yX0_isJump wsX0_isJump) := goodIn_app (goodIn_of _ (by decide +kernel)) ggX2_goesOn_X0_isJump
theorem dX2_goesOn_0 : decode cX2_goesOn 0 = .ok (.aload_n 0, 1) := by decide +kernel
theorem dX2_goesOn_1 : decode cX2_goesOn 1 = .ok (.getfield 15, 3) := by decide +kernel
theorem dX2_goesOn_4 : decode cX2_goesOn 4 = .ok (.getfield 144, 3) := by decide +kernel
theorem dX2_goesOn_7 : decode cX2_goesOn 7 = .ok (.iload_n 1, 1) := by decide +kernel
theorem dX2_goesOn_8 : decode cX2_goesOn 8 = .ok (.iaload, 1) := by decide +kernel
theorem dX2_goesOn_9 : decode cX2_goesOn 9 = .ok (.istore_n 3, 1) := by decide +kernel
theorem dX2_goesOn_10 : decode cX2_goesOn 10 = .ok (.iload_n 3, 1) := by decide +kernel
theorem dX2_goesOn_11 : decode cX2_goesOn 11 = .ok (.sipush 168, 3) := by decide +kernel
theorem dX2_goesOn_14 : decode cX2_goesOn 14 = .ok (.if_icmp .ne 26, 3) := by decide +kernel
theorem dX2_goesOn_17 : decode cX2_goesOn 17 = .ok (.aload_n 0, 1) := by decide +kernel
theorem dX2_goesOn_18 : decode cX2_goesOn 18 = .ok (.aload_n 0, 1) := by decide +kernel
theorem dX2_goesOn_19 : decode cX2_goesOn 19 = .ok (.getfield 15, 3) := by decide +kernel
theorem dX2_goesOn_22 : decode cX2_goesOn 22 = .ok (.getfield 147, 3) := by decide +kernel
theorem dX2_goesOn_25 : decode cX2_goesOn 25 = .ok (.iload_n 1, 1) := by decide +kernel
theorem dX2_goesOn_26 : decode cX2_goesOn 26 = .ok (.iaload, 1) := by decide +kernel
theorem dX2_goesOn_27 : decode cX2_goesOn 27 = .ok (.aload_n 0, 1) := by decide +kernel
theorem dX2_goesOn_28 : decode cX2_goesOn 28 = .ok (.iload_n 1, 1) := by decide +kernel
theorem dX2_goesOn_29 : decode cX2_goesOn 29 = .ok (.iconst 1, 1) := by decide +kernel
theorem dX2_goesOn_30 : decode cX2_goesOn 30 = .ok (.iadd, 1) := by decide +kernel
theorem dX2_goesOn_31 : decode cX2_goesOn 31 = .ok (.iload_n 2, 1) := by decide +kernel
theorem dX2_goesOn_32 : decode cX2_goesOn 32 = .ok (.invokevirtual 150, 3) := by decide +kernel
theorem dX2_goesOn_35 : decode cX2_goesOn 35 = .ok (.invokevirtual 51, 3) := by decide +kernel
theorem dX2_goesOn_38 : decode cX2_goesOn 38 = .ok (.iconst 0, 1) := by decide +kernel
theorem dX2_goesOn_39 : decode cX2_goesOn 39 = .ok (.ireturn, 1) := by decide +kernel
theorem dX2_goesOn_40 : decode cX2_goesOn 40 = .ok (.iload_n 3, 1) := by decide +kernel
theorem dX2_goesOn_41 : decode cX2_goesOn 41 = .ok (.sipush 169, 3) := by decide +kernel
theorem dX2_goesOn_44 : decode cX2_goesOn 44 = .ok (.if_icmp .ne 41, 3) := by decide +kernel
theorem dX2_goesOn_47 : decode cX2_goesOn 47 = .ok (.aload_n 0, 1) := by decide +kernel
theorem dX2_goesOn_48 : decode cX2_goesOn 48 = .ok (.aload_n 0, 1) := by decide +kernel
theorem dX2_goesOn_49 : decode cX2_goesOn 49 = .ok (.getfield 32, 3) := by decide +kernel
theorem dX2_goesOn_52 : decode cX2_goesOn 52 = .ok (.aload_n 0, 1) := by decide +kernel
theorem dX2_goesOn_53 : decode cX2_goesOn 53 = .ok (.getfield 15, 3) := by decide +kernel
theorem dX2_goesOn_56 : decode cX2_goesOn 56 = .ok (.getfield 147, 3) := by decide +kernel
theorem dX2_goesOn_59 : decode cX2_goesOn 59 = .ok (.iload_n 1, 1) := by decide +kernel
theorem dX2_goesOn_60 : decode cX2_goesOn 60 = .ok (.iaload, 1) := by decide +kernel
theorem dX2_goesOn_61 : decode cX2_goesOn 61 = .ok (.invokevirtual 153, 3) := by decide +kernel
theorem dX2_goesOn_64 : decode cX2_goesOn 64 = .ok (.iconst 4, 1) := by decide +kernel
theorem dX2_goesOn_65 : decode cX2_goesOn 65 = .ok (.ishr, 1) := by decide +kernel
theorem dX2_goesOn_66 : decode cX2_goesOn 66 = .ok (.aload_n 0, 1) := by decide +kernel
theorem dX2_goesOn_67 : decode cX2_goesOn 67 = .ok (.aload_n 0, 1) := by decide +kernel
theorem dX2_goesOn_68 : decode cX2_goesOn 68 = .ok (.getfield 15, 3) := by decide +kernel
theorem dX2_goesOn_71 : decode cX2_goesOn 71 = .ok (.getfield 147, 3) := by decide +kernel
theorem dX2_goesOn_74 : decode cX2_goesOn 74 = .ok (.iload_n 1, 1) := by decide +kernel
theorem dX2_goesOn_75 : decode cX2_goesOn 75 = .ok (.iaload, 1) := by decide +kernel
theorem dX2_goesOn_76 : decode cX2_goesOn 76 = .ok (.iload_n 2, 1) := by decide +kernel
theorem dX2_goesOn_77 : decode cX2_goesOn 77 = .ok (.invokevirtual 156, 3) := by decide +kernel
theorem dX2_goesOn_80 : decode cX2_goesOn 80 = .ok (.invokevirtual 51, 3) := by decide +kernel
theorem dX2_goesOn_83 : decode cX2_goesOn 83 = .ok (.iconst 0, 1) := by decide +kernel
theorem dX2_goesOn_84 : decode cX2_goesOn 84 = .ok (.ireturn, 1) := by decide +kernel
theorem dX2_goesOn_85 : decode cX2_goesOn 85 = .ok (.aload_n 0, 1) := by decide +kernel
theorem dX2_goesOn_86 : decode cX2_goesOn 86 = .ok (.getfield 15, 3) := by decide +kernel
theorem dX2_goesOn_89 : decode cX2_goesOn 89 = .ok (.getfield 159, 3) := by decide +kernel
theorem dX2_goesOn_92 : decode cX2_goesOn 92 = .ok (.iload_n 1, 1) := by decide +kernel
theorem dX2_goesOn_93 : decode cX2_goesOn 93 = .ok (.iaload, 1) := by decide +kernel
theorem dX2_goesOn_94 : decode cX2_goesOn 94 = .ok (.istore 4, 2) := by decide +kernel
theorem dX2_goesOn_96 : decode cX2_goesOn 96 = .ok (.iload 4, 2) := by decide +kernel
theorem dX2_goesOn_98 : decode cX2_goesOn 98 = .ok (.aload_n 0, 1) := by decide +kernel
theorem dX2_goesOn_99 : decode cX2_goesOn 99 = .ok (.getfield 15, 3) := by decide +kernel
theorem dX2_goesOn_102 : decode cX2_goesOn 102 = .ok (.getfield 162, 3) := by decide +kernel
theorem dX2_goesOn_105 : decode cX2_goesOn 105 = .ok (.iload_n 1, 1) := by decide +kernel
theorem dX2_goesOn_106 : decode cX2_goesOn 106 = .ok (.iaload, 1) := by decide +kernel
theorem dX2_goesOn_107 : decode cX2_goesOn 107 = .ok (.if_icmp .ge 34, 3) := by decide +kernel
theorem dX2_goesOn_110 : decode cX2_goesOn 110 = .ok (.aload_n 0, 1) := by decide +kernel
theorem dX2_goesOn_111 : decode cX2_goesOn 111 = .ok (.getfield 32, 3) := by decide +kernel
theorem dX2_goesOn_114 : decode cX2_goesOn 114 = .ok (.getfield 55, 3) := by decide +kernel
theorem dX2_goesOn_117 : decode cX2_goesOn 117 = .ok (.ifCond .ne 24, 3) := by decide +kernel
theorem dX2_goesOn_120 : decode cX2_goesOn 120 = .ok (.aload_n 0, 1) := by decide +kernel
theorem dX2_goesOn_121 : decode cX2_goesOn 121 = .ok (.aload_n 0, 1) := by decide +kernel
theorem dX2_goesOn_122 : decode cX2_goesOn 122 = .ok (.getfield 15, 3) := by decide +kernel
theorem dX2_goesOn_125 : decode cX2_goesOn 125 = .ok (.getfield 165, 3) := by decide +kernel
theorem dX2_goesOn_128 : decode cX2_goesOn 128 = .ok (.iload 4, 2) := by decide +kernel
theorem dX2_goesOn_130 : decode cX2_goesOn 130 = .ok (.iaload, 1) := by decide +kernel
theorem dX2_goesOn_131 : decode cX2_goesOn 131 = .ok (.iload_n 2, 1) := by decide +kernel
theorem dX2_goesOn_132 : decode cX2_goesOn 132 = .ok (.invokevirtual 51, 3) := by decide +kernel
theorem dX2_goesOn_135 : decode cX2_goesOn 135 = .ok (.iinc 4 1, 3) := by decide +kernel
theorem dX2_goesOn_138 : decode cX2_goesOn 138 = .ok (.goto (-42), 3) := by decide +kernel
theorem dX2_goesOn_141 : decode cX2_goesOn 141 = .ok (.iload_n 3, 1) := by decide +kernel
theorem dX2_goesOn_142 : decode cX2_goesOn 142 = .ok (.invokestatic 168, 3) := by decide +kernel
theorem dX2_goesOn_145 : decode cX2_goesOn 145 = .ok (.ifCond .eq 17, 3) := by decide +kernel
theorem dX2_goesOn_148 : decode cX2_goesOn 148 = .ok (.aload_n 0, 1) := by decide +kernel
theorem dX2_goesOn_149 : decode cX2_goesOn 149 = .ok (.aload_n 0, 1) := by decide +kernel
theorem dX2_goesOn_150 : decode cX2_goesOn 150 = .ok (.getfield 15, 3) := by decide +kernel
theorem dX2_goesOn_153 : decode cX2_goesOn 153 = .ok (.getfield 147, 3) := by decide +kernel
theorem dX2_goesOn_156 : decode cX2_goesOn 156 = .ok (.iload_n 1, 1) := by decide +kernel
theorem dX2_goesOn_157 : decode cX2_goesOn 157 = .ok (.iaload, 1) := by decide +kernel
theorem dX2_goesOn_158 : decode cX2_goesOn 158 = .ok (.iload_n 2, 1) := by decide +kernel
theorem dX2_goesOn_159 : decode cX2_goesOn 159 = .ok (.invokevirtual 51, 3) := by decide +kernel
theorem dX2_goesOn_162 : decode cX2_goesOn 162 = .ok (.iload_n 3, 1) := by decide +kernel
theorem dX2_goesOn_163 : decode cX2_goesOn 163 = .ok (.sipush 167, 3) := by decide +kernel
theorem dX2_goesOn_166 : decode cX2_goesOn 166 = .ok (.if_icmp .eq 34, 3) := by decide +kernel
theorem dX2_goesOn_169 : decode cX2_goesOn 169 = .ok (.iload_n 3, 1) := by decide +kernel
theorem dX2_goesOn_170 : decode cX2_goesOn 170 = .ok (.sipush 170, 3) := by decide +kernel
theorem dX2_goesOn_173 : decode cX2_goesOn 173 = .ok (.if_icmp .lt 10, 3) := by decide +kernel
theorem dX2_goesOn_176 : decode cX2_goesOn 176 = .ok (.iload_n 3, 1) := by decide +kernel
theorem dX2_goesOn_177 : decode cX2_goesOn 177 = .ok (.sipush 177, 3) := by decide +kernel
theorem dX2_goesOn_180 : decode cX2_goesOn 180 = .ok (.if_icmp .le 20, 3) := by decide +kernel
theorem dX2_goesOn_183 : decode cX2_goesOn 183 = .ok (.iload_n 3, 1) := by decide +kernel
theorem dX2_goesOn_184 : decode cX2_goesOn 184 = .ok (.sipush 191, 3) := by decide +kernel
theorem dX2_goesOn_187 : decode cX2_goesOn 187 = .ok (.if_icmp .eq 13, 3) := by decide +kernel
theorem dX2_goesOn_190 : decode cX2_goesOn 190 = .ok (.aload_n 0, 1) := by decide +kernel
theorem dX2_goesOn_191 : decode cX2_goesOn 191 = .ok (.getfield 32, 3) := by decide +kernel
theorem dX2_goesOn_194 : decode cX2_goesOn 194 = .ok (.getfield 55, 3) := by decide +kernel
theorem dX2_goesOn_197 : decode cX2_goesOn 197 = .ok (.ifCond .eq 5, 3) := by decide +kernel
theorem dX2_goesOn_200 : decode cX2_goesOn 200 = .ok (.iconst 0, 1) := by decide +kernel
theorem dX2_goesOn_201 : decode cX2_goesOn 201 = .ok (.ireturn, 1) := by decide +kernel
theorem dX2_goesOn_202 : decode cX2_goesOn 202 = .ok (.iload_n 1, 1) := by decide +kernel
theorem dX2_goesOn_203 : decode cX2_goesOn 203 = .ok (.iconst 1, 1) := by decide +kernel
theorem dX2_goesOn_204 : decode cX2_goesOn 204 = .ok (.iadd, 1) := by decide +kernel
theorem dX2_goesOn_205 : decode cX2_goesOn 205 = .ok (.aload_n 0, 1) := by decide +kernel
theorem dX2_goesOn_206 : decode cX2_goesOn 206 = .ok (.getfield 15, 3) := by decide +kernel
theorem dX2_goesOn_209 : decode cX2_goesOn 209 = .ok (.getfield 72, 3) := by decide +kernel
theorem dX2_goesOn_212 : decode cX2_goesOn 212 = .ok (.if_icmp .lt 13, 3) := by decide +kernel
theorem dX2_goesOn_215 : decode cX2_goesOn 215 = .ok (.aload_n 0, 1) := by decide +kernel
theorem dX2_goesOn_216 : decode cX2_goesOn 216 = .ok (.getfield 32, 3) := by decide +kernel
theorem dX2_goesOn_219 : decode cX2_goesOn 219 = .ok (.iconst 1, 1) := by decide +kernel
theorem dX2_goesOn_220 : decode cX2_goesOn 220 = .ok (.putfield 55, 3) := by decide +kernel
theorem dX2_goesOn_223 : decode cX2_goesOn 223 = .ok (.iconst 0, 1) := by decide +kernel
