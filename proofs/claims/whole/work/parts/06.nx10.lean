theorem dX1_init_0 : decode cX1_init 0 = .ok (.aload_n 0, 1) := by decide +kernel
theorem dX1_init_1 : decode cX1_init 1 = .ok (.invokespecial 3, 3) := by decide +kernel
theorem dX1_init_4 : decode cX1_init 4 = .ok (.return_, 1) := by decide +kernel
set_option maxRecDepth 20000 in
theorem ggX1_becomeLeaving_X1_become : GoodIn wsX1_becomeLeaving wsX1_become := goodIn_r _ [5, 6, 7, 8, 9, 10, 11, 12, 13, 14, 15] (by decide +kernel) (by decide +kernel)
set_option maxRecDepth 20000 in
theorem gX1_becomeLeaving_X1_become : GoodIn wsX1_becomeLeaving (wsV RX1 9 RX1 yX1_become wsX1_become) := goodIn_app (goodIn_of _ (by decide +kernel)) ggX1_becomeLeaving_X1_become
theorem dX1_becomeLeaving_0 : decode cX1_becomeLeaving 0 = .ok (.aload_n 0, 1) := by decide +kernel
theorem dX1_becomeLeaving_1 : decode cX1_becomeLeaving 1 = .ok (.iconst (-1), 1) := by decide +kernel
theorem dX1_becomeLeaving_2 : decode cX1_becomeLeaving 2 = .ok (.iconst (-1), 1) := by decide +kernel
theorem dX1_becomeLeaving_3 : decode cX1_becomeLeaving 3 = .ok (.iconst (-1), 1) := by decide +kernel
theorem dX1_becomeLeaving_4 : decode cX1_becomeLeaving 4 = .ok (.iload_n 1, 1) := by decide +kernel
theorem dX1_becomeLeaving_5 : decode cX1_becomeLeaving 5 = .ok (.iload_n 2, 1) := by decide +kernel
theorem dX1_becomeLeaving_6 : decode cX1_becomeLeaving 6 = .ok (.invokevirtual 9, 3) := by decide +kernel
theorem dX1_becomeLeaving_9 : decode cX1_becomeLeaving 9 = .ok (.return_, 1) := by decide +kernel
set_option maxRecDepth 20000 in
theorem ggX1_becomeIfBetter_X1_become : GoodIn wsX1_becomeIfBetter wsX1_become := goodIn_r _ [7, 8, 9, 10, 1, 2, 11, 12, 13, 14, 15] (by decide +kernel) (by decide +kernel)
set_option maxRecDepth 20000 in
theorem gX1_becomeIfBetter_X1_become : GoodIn wsX1_becomeIfBetter (wsV RX1 9 RX1 yX1_become wsX1_become) := goodIn_app (goodIn_of _ (by decide +kernel)) ggX1_becomeIfBetter_X1_become
theorem dX1_becomeIfBetter_0 : decode cX1_becomeIfBetter 0 = .ok (.iload 4, 2) := by decide +kernel
theorem dX1_becomeIfBetter_2 : decode cX1_becomeIfBetter 2 = .ok (.aload_n 0, 1) := by decide +kernel
theorem dX1_becomeIfBetter_3 : decode cX1_becomeIfBetter 3 = .ok (.getfield 15, 3) := by decide +kernel
theorem dX1_becomeIfBetter_6 : decode cX1_becomeIfBetter 6 = .ok (.if_icmp .gt 21, 3) := by decide +kernel
theorem dX1_becomeIfBetter_9 : decode cX1_becomeIfBetter 9 = .ok (.iload 4, 2) := by decide +kernel
theorem dX1_becomeIfBetter_11 : decode cX1_becomeIfBetter 11 = .ok (.aload_n 0, 1) := by decide +kernel
theorem dX1_becomeIfBetter_12 : decode cX1_becomeIfBetter 12 = .ok (.getfield 15, 3) := by decide +kernel
theorem dX1_becomeIfBetter_15 : decode cX1_becomeIfBetter 15 = .ok (.if_icmp .ne 23, 3) := by decide +kernel
theorem dX1_becomeIfBetter_18 : decode cX1_becomeIfBetter 18 = .ok (.iload 5, 2) := by decide +kernel
theorem dX1_becomeIfBetter_20 : decode cX1_becomeIfBetter 20 = .ok (.aload_n 0, 1) := by decide +kernel
theorem dX1_becomeIfBetter_21 : decode cX1_becomeIfBetter 21 = .ok (.getfield 19, 3) := by decide +kernel
theorem dX1_becomeIfBetter_24 : decode cX1_becomeIfBetter 24 = .ok (.if_icmp .le 14, 3) := by decide +kernel
theorem dX1_becomeIfBetter_27 : decode cX1_becomeIfBetter 27 = .ok (.aload_n 0, 1) := by decide +kernel
theorem dX1_becomeIfBetter_28 : decode cX1_becomeIfBetter 28 = .ok (.iload_n 1, 1) := by decide +kernel
theorem dX1_becomeIfBetter_29 : decode cX1_becomeIfBetter 29 = .ok (.iload_n 2, 1) := by decide +kernel
theorem dX1_becomeIfBetter_30 : decode cX1_becomeIfBetter 30 = .ok (.iload_n 3, 1) := by decide +kernel
theorem dX1_becomeIfBetter_31 : decode cX1_becomeIfBetter 31 = .ok (.iload 4, 2) := by decide +kernel
theorem dX1_becomeIfBetter_33 : decode cX1_becomeIfBetter 33 = .ok (.iload 5, 2) := by decide +kernel
theorem dX1_becomeIfBetter_35 : decode cX1_becomeIfBetter 35 = .ok (.invokevirtual 9, 3) := by decide +kernel
theorem dX1_becomeIfBetter_38 : decode cX1_becomeIfBetter 38 = .ok (.return_, 1) := by decide +kernel
theorem dX1_become_0 : decode cX1_become 0 = .ok (.aload_n 0, 1) := by decide +kernel
theorem dX1_become_1 : decode cX1_become 1 = .ok (.iload_n 1, 1) := by decide +kernel
theorem dX1_become_2 : decode cX1_become 2 = .ok (.putfield 22, 3) := by decide +kernel
theorem dX1_become_5 : decode cX1_become 5 = .ok (.aload_n 0, 1) := by decide +kernel
theorem dX1_become_6 : decode cX1_become 6 = .ok (.iload_n 2, 1) := by decide +kernel
theorem dX1_become_7 : decode cX1_become 7 = .ok (.putfield 25, 3) := by decide +kernel
theorem dX1_become_10 : decode cX1_become 10 = .ok (.aload_n 0, 1) := by decide +kernel
theorem dX1_become_11 : decode cX1_become 11 = .ok (.iload_n 3, 1) := by decide +kernel
theorem dX1_become_12 : decode cX1_become 12 = .ok (.putfield 28, 3) := by decide +kernel
theorem dX1_become_15 : decode cX1_become 15 = .ok (.aload_n 0, 1) := by decide +kernel
theorem dX1_become_16 : decode cX1_become 16 = .ok (.iload 4, 2) := by decide +kernel
theorem dX1_become_18 : decode cX1_become 18 = .ok (.putfield 15, 3) := by decide +kernel
theorem dX1_become_21 : decode cX1_become 21 = .ok (.aload_n 0, 1) := by decide +kernel
theorem dX1_become_22 : decode cX1_become 22 = .ok (.iload 5, 2) := by decide +kernel
theorem dX1_become_24 : decode cX1_become 24 = .ok (.putfield 19, 3) := by decide +kernel
theorem dX1_become_27 : decode cX1_become 27 = .ok (.return_, 1) := by decide +kernel
theorem dX1_moveNumber_0 : decode cX1_moveNumber 0 = .ok (.iload_n 1, 1) := by decide +kernel
theorem dX1_moveNumber_1 : decode cX1_moveNumber 1 = .ok (.lookupswitch 37 #[(0, 27), (1, 32)], 27) := by decide +kernel
theorem dX1_moveNumber_28 : decode cX1_moveNumber 28 = .ok (.aload_n 0, 1) := by decide +kernel
theorem dX1_moveNumber_29 : decode cX1_moveNumber 29 = .ok (.getfield 22, 3) := by decide +kernel
theorem dX1_moveNumber_32 : decode cX1_moveNumber 32 = .ok (.ireturn, 1) := by decide +kernel
theorem dX1_moveNumber_33 : decode cX1_moveNumber 33 = .ok (.aload_n 0, 1) := by decide +kernel
theorem dX1_moveNumber_34 : decode cX1_moveNumber 34 = .ok (.getfield 25, 3) := by decide +kernel
theorem dX1_moveNumber_37 : decode cX1_moveNumber 37 = .ok (.ireturn, 1) := by decide +kernel
theorem dX1_moveNumber_38 : decode cX1_moveNumber 38 = .ok (.aload_n 0, 1) := by decide +kernel
theorem dX1_moveNumber_39 : decode cX1_moveNumber 39 = .ok (.getfield 28, 3) := by decide +kernel
theorem dX1_moveNumber_42 : decode cX1_moveNumber 42 = .ok (.ireturn, 1) := by decide +kernel
