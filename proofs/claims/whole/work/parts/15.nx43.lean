theorem dX4_pass_49 : decode cX4_pass 49 = .ok (.invokevirtual 93, 3) := by decide +kernel
theorem dX4_pass_52 : decode cX4_pass 52 = .ok (.iinc 2 1, 3) := by decide +kernel
theorem dX4_pass_55 : decode cX4_pass 55 = .ok (.goto (-12), 3) := by decide +kernel
theorem dX4_pass_58 : decode cX4_pass 58 = .ok (.aload_n 0, 1) := by decide +kernel
theorem dX4_pass_59 : decode cX4_pass 59 = .ok (.iconst 5, 1) := by decide +kernel
theorem dX4_pass_60 : decode cX4_pass 60 = .ok (.invokevirtual 73, 3) := by decide +kernel
theorem dX4_pass_63 : decode cX4_pass 63 = .ok (.ireturn, 1) := by decide +kernel
set_option maxRecDepth 20000 in
theorem ggX4_field_X4_isField : GoodIn wsX4_field wsX4_isField := goodIn_r _ [7, 8, 9, 10, 6, 11, 20, 21, 22, 23, 24, 25, 26] (by decide +kernel) (by decide +kernel)
set_option maxRecDepth 20000 in
theorem gX4_field_X4_isField : GoodIn wsX4_field (wsV RX4 50 RX4 yX4_isField wsX4_isField) := goodIn_app (goodIn_of _ (by decide +kernel)) ggX4_field_X4_isField
set_option maxRecDepth 20000 in
theorem ggX4_field_X4_isIn : GoodIn wsX4_field wsX4_isIn := goodIn_r _ [11] (by decide +kernel) (by decide +kernel)
set_option maxRecDepth 20000 in
theorem gX4_field_X4_isIn : GoodIn wsX4_field (va_wsS RX4 42 yX4_isIn wsX4_isIn) := goodIn_app (goodIn_of _ (by decide +kernel)) ggX4_field_X4_isIn
set_option maxRecDepth 20000 in
theorem ggX4_field_X4_at : GoodIn wsX4_field wsX4_at := goodIn_r _ [15, 8, 20, 21, 22, 23, 24, 25, 26] (by decide +kernel) (by decide +kernel)
set_option maxRecDepth 20000 in
theorem gX4_field_X4_at : GoodIn wsX4_field (wsV RX4 54 RX4 yX4_at wsX4_at) := goodIn_app (goodIn_of _ (by decide +kernel)) ggX4_field_X4_at
set_option maxRecDepth 20000 in
theorem ggX4_field_X4_fail : GoodIn wsX4_field wsX4_fail := goodIn_r _ [19, 1, 20, 21, 22, 23, 24, 25, 26] (by decide +kernel) (by decide +kernel)
set_option maxRecDepth 20000 in
theorem gX4_field_X4_fail : GoodIn wsX4_field (wsV RX4 46 RX4 yX4_fail wsX4_fail) := goodIn_app (goodIn_of _ (by decide +kernel)) ggX4_field_X4_fail
theorem dX4_field_0 : decode cX4_field 0 = .ok (.aload_n 0, 1) := by decide +kernel
theorem dX4_field_1 : decode cX4_field 1 = .ok (.iconst 0, 1) := by decide +kernel
theorem dX4_field_2 : decode cX4_field 2 = .ok (.putfield 38, 3) := by decide +kernel
theorem dX4_field_5 : decode cX4_field 5 = .ok (.aload_n 0, 1) := by decide +kernel
theorem dX4_field_6 : decode cX4_field 6 = .ok (.iload_n 1, 1) := by decide +kernel
theorem dX4_field_7 : decode cX4_field 7 = .ok (.iload_n 2, 1) := by decide +kernel
theorem dX4_field_8 : decode cX4_field 8 = .ok (.invokevirtual 50, 3) := by decide +kernel
theorem dX4_field_11 : decode cX4_field 11 = .ok (.ifCond .eq 29, 3) := by decide +kernel
theorem dX4_field_14 : decode cX4_field 14 = .ok (.iload_n 3, 1) := by decide +kernel
theorem dX4_field_15 : decode cX4_field 15 = .ok (.iconst 0, 1) := by decide +kernel
theorem dX4_field_16 : decode cX4_field 16 = .ok (.bipush 11, 2) := by decide +kernel
theorem dX4_field_18 : decode cX4_field 18 = .ok (.invokestatic 42, 3) := by decide +kernel
theorem dX4_field_21 : decode cX4_field 21 = .ok (.ifCond .eq 19, 3) := by decide +kernel
theorem dX4_field_24 : decode cX4_field 24 = .ok (.aload_n 0, 1) := by decide +kernel
theorem dX4_field_25 : decode cX4_field 25 = .ok (.getfield 16, 3) := by decide +kernel
theorem dX4_field_28 : decode cX4_field 28 = .ok (.aload_n 0, 1) := by decide +kernel
theorem dX4_field_29 : decode cX4_field 29 = .ok (.iload_n 1, 1) := by decide +kernel
theorem dX4_field_30 : decode cX4_field 30 = .ok (.iload_n 2, 1) := by decide +kernel
theorem dX4_field_31 : decode cX4_field 31 = .ok (.invokevirtual 54, 3) := by decide +kernel
theorem dX4_field_34 : decode cX4_field 34 = .ok (.iload_n 3, 1) := by decide +kernel
theorem dX4_field_35 : decode cX4_field 35 = .ok (.iadd, 1) := by decide +kernel
theorem dX4_field_36 : decode cX4_field 36 = .ok (.iaload, 1) := by decide +kernel
theorem dX4_field_37 : decode cX4_field 37 = .ok (.goto 8, 3) := by decide +kernel
theorem dX4_field_40 : decode cX4_field 40 = .ok (.aload_n 0, 1) := by decide +kernel
theorem dX4_field_41 : decode cX4_field 41 = .ok (.iconst 1, 1) := by decide +kernel
theorem dX4_field_42 : decode cX4_field 42 = .ok (.invokevirtual 46, 3) := by decide +kernel
theorem dX4_field_45 : decode cX4_field 45 = .ok (.ireturn, 1) := by decide +kernel
set_option maxRecDepth 20000 in
theorem ggX4_counted_X4_sum : GoodIn wsX4_counted wsX4_sum := goodIn_r _ [6, 7, 8, 9, 10, 5, 11, 1, 12, 13, 14, 15, 16, 17, 18] (by decide +kernel) (by decide +kernel)
set_option maxRecDepth 20000 in
theorem gX4_counted_X4_sum : GoodIn wsX4_counted (wsV RX4 73 RX4 yX4_sum wsX4_sum) := goodIn_app (goodIn_of _ (by decide +kernel)) ggX4_counted_X4_sum
theorem dX4_counted_0 : decode cX4_counted 0 = .ok (.iload_n 1, 1) := by decide +kernel
theorem dX4_counted_1 : decode cX4_counted 1 = .ok (.iconst 3, 1) := by decide +kernel
theorem dX4_counted_2 : decode cX4_counted 2 = .ok (.if_icmp .ge 10, 3) := by decide +kernel
theorem dX4_counted_5 : decode cX4_counted 5 = .ok (.aload_n 0, 1) := by decide +kernel
theorem dX4_counted_6 : decode cX4_counted 6 = .ok (.getfield 9, 3) := by decide +kernel
theorem dX4_counted_9 : decode cX4_counted 9 = .ok (.iload_n 1, 1) := by decide +kernel
theorem dX4_counted_10 : decode cX4_counted 10 = .ok (.iaload, 1) := by decide +kernel
theorem dX4_counted_11 : decode cX4_counted 11 = .ok (.ireturn, 1) := by decide +kernel
theorem dX4_counted_12 : decode cX4_counted 12 = .ok (.iload_n 1, 1) := by decide +kernel
theorem dX4_counted_13 : decode cX4_counted 13 = .ok (.iconst 3, 1) := by decide +kernel
theorem dX4_counted_14 : decode cX4_counted 14 = .ok (.if_icmp .ne 11, 3) := by decide +kernel
theorem dX4_counted_17 : decode cX4_counted 17 = .ok (.aload_n 0, 1) := by decide +kernel
theorem dX4_counted_18 : decode cX4_counted 18 = .ok (.iconst 5, 1) := by decide +kernel
theorem dX4_counted_19 : decode cX4_counted 19 = .ok (.invokevirtual 73, 3) := by decide +kernel
theorem dX4_counted_22 : decode cX4_counted 22 = .ok (.goto 24, 3) := by decide +kernel
theorem dX4_counted_25 : decode cX4_counted 25 = .ok (.iload_n 1, 1) := by decide +kernel
theorem dX4_counted_26 : decode cX4_counted 26 = .ok (.iconst 4, 1) := by decide +kernel
theorem dX4_counted_27 : decode cX4_counted 27 = .ok (.if_icmp .ne 11, 3) := by decide +kernel
theorem dX4_counted_30 : decode cX4_counted 30 = .ok (.aload_n 0, 1) := by decide +kernel
theorem dX4_counted_31 : decode cX4_counted 31 = .ok (.iconst 0, 1) := by decide +kernel
theorem dX4_counted_32 : decode cX4_counted 32 = .ok (.invokevirtual 73, 3) := by decide +kernel
theorem dX4_counted_35 : decode cX4_counted 35 = .ok (.goto 11, 3) := by decide +kernel
theorem dX4_counted_38 : decode cX4_counted 38 = .ok (.aload_n 0, 1) := by decide +kernel
theorem dX4_counted_39 : decode cX4_counted 39 = .ok (.getfield 9, 3) := by decide +kernel
theorem dX4_counted_42 : decode cX4_counted 42 = .ok (.iload_n 1, 1) := by decide +kernel
theorem dX4_counted_43 : decode cX4_counted 43 = .ok (.iconst 2, 1) := by decide +kernel
theorem dX4_counted_44 : decode cX4_counted 44 = .ok (.isub, 1) := by decide +kernel
theorem dX4_counted_45 : decode cX4_counted 45 = .ok (.iaload, 1) := by decide +kernel
theorem dX4_counted_46 : decode cX4_counted 46 = .ok (.ireturn, 1) := by decide +kernel
set_option maxRecDepth 20000 in
theorem ggX4_count_X4_isIn : GoodIn wsX4_count wsX4_isIn := goodIn_r _ [5] (by decide +kernel) (by decide +kernel)
set_option maxRecDepth 20000 in
theorem gX4_count_X4_isIn : GoodIn wsX4_count (va_wsS RX4 42 yX4_isIn wsX4_isIn) := goodIn_app (goodIn_of _ (by decide +kernel)) ggX4_count_X4_isIn
set_option maxRecDepth 20000 in
theorem ggX4_count_X4_counted : GoodIn wsX4_count wsX4_counted := goodIn_r _ [9, 10, 11, 12, 13, 4, 14, 15, 16, 17, 18, 19, 24, 25, 26, 27, 28, 29, 30] (by decide +kernel) (by decide +kernel)
set_option maxRecDepth 20000 in
theorem gX4_count_X4_counted : GoodIn wsX4_count (wsV RX4 96 RX4 yX4_counted wsX4_counted) := goodIn_app (goodIn_of _ (by decide +kernel)) ggX4_count_X4_counted
set_option maxRecDepth 20000 in
theorem ggX4_count_X4_fail : GoodIn wsX4_count wsX4_fail := goodIn_r _ [23, 1, 24, 25, 26, 27, 28, 29, 30] (by decide +kernel) (by decide +kernel)
set_option maxRecDepth 20000 in
theorem gX4_count_X4_fail : GoodIn wsX4_count (wsV RX4 46 RX4 yX4_fail wsX4_fail) := goodIn_app (goodIn_of _ (by decide +kernel)) ggX4_count_X4_fail
theorem dX4_count_0 : decode cX4_count 0 = .ok (.aload_n 0, 1) := by decide +kernel
theorem dX4_count_1 : decode cX4_count 1 = .ok (.iconst 0, 1) := by decide +kernel
theorem dX4_count_2 : decode cX4_count 2 = .ok (.putfield 38, 3) := by decide +kernel
theorem dX4_count_5 : decode cX4_count 5 = .ok (.iload_n 1, 1) := by decide +kernel
theorem dX4_count_6 : decode cX4_count 6 = .ok (.iconst 0, 1) := by decide +kernel
theorem dX4_count_7 : decode cX4_count 7 = .ok (.bipush 8, 2) := by decide +kernel
theorem dX4_count_9 : decode cX4_count 9 = .ok (.invokestatic 42, 3) := by decide +kernel
theorem dX4_count_12 : decode cX4_count 12 = .ok (.ifCond .eq 11, 3) := by decide +kernel
theorem dX4_count_15 : decode cX4_count 15 = .ok (.aload_n 0, 1) := by decide +kernel
theorem dX4_count_16 : decode cX4_count 16 = .ok (.iload_n 1, 1) := by decide +kernel
theorem dX4_count_17 : decode cX4_count 17 = .ok (.invokevirtual 96, 3) := by decide +kernel
theorem dX4_count_20 : decode cX4_count 20 = .ok (.goto 8, 3) := by decide +kernel
theorem dX4_count_23 : decode cX4_count 23 = .ok (.aload_n 0, 1) := by decide +kernel
theorem dX4_count_24 : decode cX4_count 24 = .ok (.iconst 1, 1) := by decide +kernel
theorem dX4_count_25 : decode cX4_count 25 = .ok (.invokevirtual 46, 3) := by decide +kernel
theorem dX4_count_28 : decode cX4_count 28 = .ok (.ireturn, 1) := by decide +kernel
set_option maxRecDepth 20000 in
theorem ggX4_weather_X4_isIn : GoodIn wsX4_weather wsX4_isIn := goodIn_r _ [6] (by decide +kernel) (by decide +kernel)
set_option maxRecDepth 20000 in
theorem gX4_weather_X4_isIn : GoodIn wsX4_weather (va_wsS RX4 42 yX4_isIn wsX4_isIn) := goodIn_app (goodIn_of _ (by decide +kernel)) ggX4_weather_X4_isIn
set_option maxRecDepth 20000 in
theorem ggX4_weather_X4_fail : GoodIn wsX4_weather wsX4_fail := goodIn_r _ [10, 1, 11, 12, 13, 14, 15, 16, 17] (by decide +kernel) (by decide +kernel)
set_option maxRecDepth 20000 in
theorem gX4_weather_X4_fail : GoodIn wsX4_weather (wsV RX4 46 RX4 yX4_fail wsX4_fail) := goodIn_app (goodIn_of _ (by decide +kernel)) ggX4_weather_X4_fail
theorem dX4_weather_0 : decode cX4_weather 0 = .ok (.aload_n 0, 1) := by decide +kernel
theorem dX4_weather_1 : decode cX4_weather 1 = .ok (.iconst 0, 1) := by decide +kernel
theorem dX4_weather_2 : decode cX4_weather 2 = .ok (.putfield 38, 3) := by decide +kernel
theorem dX4_weather_5 : decode cX4_weather 5 = .ok (.iload_n 1, 1) := by decide +kernel
theorem dX4_weather_6 : decode cX4_weather 6 = .ok (.iconst 0, 1) := by decide +kernel
theorem dX4_weather_7 : decode cX4_weather 7 = .ok (.bipush 29, 2) := by decide +kernel
theorem dX4_weather_9 : decode cX4_weather 9 = .ok (.invokestatic 42, 3) := by decide +kernel
theorem dX4_weather_12 : decode cX4_weather 12 = .ok (.ifCond .eq 25, 3) := by decide +kernel
theorem dX4_weather_15 : decode cX4_weather 15 = .ok (.iload_n 2, 1) := by decide +kernel
theorem dX4_weather_16 : decode cX4_weather 16 = .ok (.iconst 0, 1) := by decide +kernel
theorem dX4_weather_17 : decode cX4_weather 17 = .ok (.iconst 2, 1) := by decide +kernel
theorem dX4_weather_18 : decode cX4_weather 18 = .ok (.invokestatic 42, 3) := by decide +kernel
theorem dX4_weather_21 : decode cX4_weather 21 = .ok (.ifCond .eq 16, 3) := by decide +kernel
theorem dX4_weather_24 : decode cX4_weather 24 = .ok (.aload_n 0, 1) := by decide +kernel
theorem dX4_weather_25 : decode cX4_weather 25 = .ok (.getfield 19, 3) := by decide +kernel
theorem dX4_weather_28 : decode cX4_weather 28 = .ok (.iconst 3, 1) := by decide +kernel
theorem dX4_weather_29 : decode cX4_weather 29 = .ok (.iload_n 1, 1) := by decide +kernel
theorem dX4_weather_30 : decode cX4_weather 30 = .ok (.imul, 1) := by decide +kernel
theorem dX4_weather_31 : decode cX4_weather 31 = .ok (.iload_n 2, 1) := by decide +kernel
theorem dX4_weather_32 : decode cX4_weather 32 = .ok (.iadd, 1) := by decide +kernel
theorem dX4_weather_33 : decode cX4_weather 33 = .ok (.iaload, 1) := by decide +kernel
theorem dX4_weather_34 : decode cX4_weather 34 = .ok (.goto 8, 3) := by decide +kernel
theorem dX4_weather_37 : decode cX4_weather 37 = .ok (.aload_n 0, 1) := by decide +kernel
theorem dX4_weather_38 : decode cX4_weather 38 = .ok (.iconst 1, 1) := by decide +kernel
theorem dX4_weather_39 : decode cX4_weather 39 = .ok (.invokevirtual 46, 3) := by decide +kernel
theorem dX4_weather_42 : decode cX4_weather 42 = .ok (.ireturn, 1) := by decide +kernel
set_option maxRecDepth 20000 in
theorem ggX4_keep_X4_many : GoodIn wsX4_keep wsX4_many := goodIn_r _ [13, 1, 14, 15, 16, 17, 18, 19, 20] (by decide +kernel) (by decide +kernel)
set_option maxRecDepth 20000 in
theorem gX4_keep_X4_many : GoodIn wsX4_keep (wsV RX4 69 RX4 yX4_many wsX4_many) := goodIn_app (goodIn_of _ (by decide +kernel)) ggX4_keep_X4_many
theorem dX4_keep_0 : decode cX4_keep 0 = .ok (.aload_n 0, 1) := by decide +kernel
theorem dX4_keep_1 : decode cX4_keep 1 = .ok (.getfield 9, 3) := by decide +kernel
theorem dX4_keep_4 : decode cX4_keep 4 = .ok (.iconst 0, 1) := by decide +kernel
theorem dX4_keep_5 : decode cX4_keep 5 = .ok (.aload_n 0, 1) := by decide +kernel
theorem dX4_keep_6 : decode cX4_keep 6 = .ok (.getfield 22, 3) := by decide +kernel
theorem dX4_keep_9 : decode cX4_keep 9 = .ok (.iconst 0, 1) := by decide +kernel
theorem dX4_keep_10 : decode cX4_keep 10 = .ok (.bipush 7, 2) := by decide +kernel
theorem dX4_keep_12 : decode cX4_keep 12 = .ok (.invokestatic 32, 3) := by decide +kernel
theorem dX4_keep_15 : decode cX4_keep 15 = .ok (.aload_n 0, 1) := by decide +kernel
theorem dX4_keep_16 : decode cX4_keep 16 = .ok (.getfield 16, 3) := by decide +kernel
theorem dX4_keep_19 : decode cX4_keep 19 = .ok (.iconst 0, 1) := by decide +kernel
theorem dX4_keep_20 : decode cX4_keep 20 = .ok (.aload_n 0, 1) := by decide +kernel
theorem dX4_keep_21 : decode cX4_keep 21 = .ok (.getfield 25, 3) := by decide +kernel
theorem dX4_keep_24 : decode cX4_keep 24 = .ok (.iconst 0, 1) := by decide +kernel
theorem dX4_keep_25 : decode cX4_keep 25 = .ok (.bipush 12, 2) := by decide +kernel
theorem dX4_keep_27 : decode cX4_keep 27 = .ok (.aload_n 0, 1) := by decide +kernel
theorem dX4_keep_28 : decode cX4_keep 28 = .ok (.invokevirtual 69, 3) := by decide +kernel
theorem dX4_keep_31 : decode cX4_keep 31 = .ok (.imul, 1) := by decide +kernel
theorem dX4_keep_32 : decode cX4_keep 32 = .ok (.invokestatic 32, 3) := by decide +kernel
theorem dX4_keep_35 : decode cX4_keep 35 = .ok (.return_, 1) := by decide +kernel
set_option maxRecDepth 20000 in
theorem ggX4_bringBack_X4_many : GoodIn wsX4_bringBack wsX4_many := goodIn_r _ [13, 2, 14, 15, 16, 17, 18, 19, 20] (by decide +kernel) (by decide +kernel)
set_option maxRecDepth 20000 in
theorem gX4_bringBack_X4_many : GoodIn wsX4_bringBack (wsV RX4 69 RX4 yX4_many wsX4_many) := goodIn_app (goodIn_of _ (by decide +kernel)) ggX4_bringBack_X4_many
theorem dX4_bringBack_0 : decode cX4_bringBack 0 = .ok (.aload_n 0, 1) := by decide +kernel
theorem dX4_bringBack_1 : decode cX4_bringBack 1 = .ok (.getfield 22, 3) := by decide +kernel
theorem dX4_bringBack_4 : decode cX4_bringBack 4 = .ok (.iconst 0, 1) := by decide +kernel
theorem dX4_bringBack_5 : decode cX4_bringBack 5 = .ok (.aload_n 0, 1) := by decide +kernel
theorem dX4_bringBack_6 : decode cX4_bringBack 6 = .ok (.getfield 9, 3) := by decide +kernel
theorem dX4_bringBack_9 : decode cX4_bringBack 9 = .ok (.iconst 0, 1) := by decide +kernel
theorem dX4_bringBack_10 : decode cX4_bringBack 10 = .ok (.bipush 7, 2) := by decide +kernel
theorem dX4_bringBack_12 : decode cX4_bringBack 12 = .ok (.invokestatic 32, 3) := by decide +kernel
theorem dX4_bringBack_15 : decode cX4_bringBack 15 = .ok (.aload_n 0, 1) := by decide +kernel
theorem dX4_bringBack_16 : decode cX4_bringBack 16 = .ok (.getfield 25, 3) := by decide +kernel
theorem dX4_bringBack_19 : decode cX4_bringBack 19 = .ok (.iconst 0, 1) := by decide +kernel
theorem dX4_bringBack_20 : decode cX4_bringBack 20 = .ok (.aload_n 0, 1) := by decide +kernel
theorem dX4_bringBack_21 : decode cX4_bringBack 21 = .ok (.getfield 16, 3) := by decide +kernel
theorem dX4_bringBack_24 : decode cX4_bringBack 24 = .ok (.iconst 0, 1) := by decide +kernel
theorem dX4_bringBack_25 : decode cX4_bringBack 25 = .ok (.bipush 12, 2) := by decide +kernel
theorem dX4_bringBack_27 : decode cX4_bringBack 27 = .ok (.aload_n 0, 1) := by decide +kernel
theorem dX4_bringBack_28 : decode cX4_bringBack 28 = .ok (.invokevirtual 69, 3) := by decide +kernel
theorem dX4_bringBack_31 : decode cX4_bringBack 31 = .ok (.imul, 1) := by decide +kernel
theorem dX4_bringBack_32 : decode cX4_bringBack 32 = .ok (.invokestatic 32, 3) := by decide +kernel
theorem dX4_bringBack_35 : decode cX4_bringBack 35 = .ok (.return_, 1) := by decide +kernel
set_option maxRecDepth 20000 in
theorem ggX4_foresee_X4_isIn : GoodIn wsX4_foresee wsX4_isIn := goodIn_r _ [7] (by decide +kernel) (by decide +kernel)
set_option maxRecDepth 20000 in
theorem gX4_foresee_X4_isIn : GoodIn wsX4_foresee (va_wsS RX4 42 yX4_isIn wsX4_isIn) := goodIn_app (goodIn_of _ (by decide +kernel)) ggX4_foresee_X4_isIn
set_option maxRecDepth 20000 in
theorem ggX4_foresee_X4_fail : GoodIn wsX4_foresee wsX4_fail := goodIn_r _ [11, 1, 71, 72, 73, 74, 75, 76, 77] (by decide +kernel) (by decide +kernel)
set_option maxRecDepth 20000 in
theorem gX4_foresee_X4_fail : GoodIn wsX4_foresee (wsV RX4 46 RX4 yX4_fail wsX4_fail) := goodIn_app (goodIn_of _ (by decide +kernel)) ggX4_foresee_X4_fail
set_option maxRecDepth 20000 in
theorem ggX4_foresee_X4_keep : GoodIn wsX4_foresee wsX4_keep := goodIn_r _ [15, 2, 3, 16, 17, 18, 19, 20, 21, 22, 23, 24, 6, 25, 71, 72, 73, 74, 75, 76, 77] (by decide +kernel) (by decide +kernel)
set_option maxRecDepth 20000 in
theorem gX4_foresee_X4_keep : GoodIn wsX4_foresee (wsV RX4 99 RX4 yX4_keep wsX4_keep) := goodIn_app (goodIn_of _ (by decide +kernel)) ggX4_foresee_X4_keep
set_option maxRecDepth 20000 in
theorem ggX4_foresee_X4_dayOn : GoodIn wsX4_foresee wsX4_dayOn := goodIn_r _ [29, 2, 30, 20, 31, 32, 33, 34, 35, 36, 37, 38, 22, 23, 24, 6, 25, 39, 40, 41, 42, 43, 44, 45, 46, 47, 48, 49, 50, 51, 52, 53, 54, 4, 5, 7, 55, 56, 57, 58, 59, 60, 61, 62, 71, 72, 73, 74, 75, 76, 77] (by decide +kernel) (by decide +kernel)
set_option maxRecDepth 20000 in
theorem gX4_foresee_X4_dayOn : GoodIn wsX4_foresee (wsV RX4 93 RX4 yX4_dayOn wsX4_dayOn) := goodIn_app (goodIn_of _ (by decide +kernel)) ggX4_foresee_X4_dayOn
set_option maxRecDepth 20000 in
theorem ggX4_foresee_X4_sum : GoodIn wsX4_foresee wsX4_sum := goodIn_r _ [66, 20, 22, 23, 24, 6, 25, 2, 71, 72, 73, 74, 75, 76, 77] (by decide +kernel) (by decide +kernel)
set_option maxRecDepth 20000 in
theorem gX4_foresee_X4_sum : GoodIn wsX4_foresee (wsV RX4 73 RX4 yX4_sum wsX4_sum) := goodIn_app (goodIn_of _ (by decide +kernel)) ggX4_foresee_X4_sum
set_option maxRecDepth 20000 in
theorem ggX4_foresee_X4_bringBack : GoodIn wsX4_foresee wsX4_bringBack := goodIn_r _ [70, 3, 2, 16, 17, 18, 19, 21, 20, 22, 23, 24, 6, 25, 71, 72, 73, 74, 75, 76, 77] (by decide +kernel) (by decide +kernel)
set_option maxRecDepth 20000 in
theorem gX4_foresee_X4_bringBack : GoodIn wsX4_foresee (wsV RX4 102 RX4 yX4_bringBack wsX4_bringBack) := goodIn_app (goodIn_of _ (by decide +kernel)) ggX4_foresee_X4_bringBack
theorem dX4_foresee_0 : decode cX4_foresee 0 = .ok (.aload_n 0, 1) := by decide +kernel
theorem dX4_foresee_1 : decode cX4_foresee 1 = .ok (.iconst 0, 1) := by decide +kernel
theorem dX4_foresee_2 : decode cX4_foresee 2 = .ok (.putfield 38, 3) := by decide +kernel
theorem dX4_foresee_5 : decode cX4_foresee 5 = .ok (.iload_n 1, 1) := by decide +kernel
theorem dX4_foresee_6 : decode cX4_foresee 6 = .ok (.iconst 1, 1) := by decide +kernel
theorem dX4_foresee_7 : decode cX4_foresee 7 = .ok (.bipush 20, 2) := by decide +kernel
theorem dX4_foresee_9 : decode cX4_foresee 9 = .ok (.invokestatic 42, 3) := by decide +kernel
theorem dX4_foresee_12 : decode cX4_foresee 12 = .ok (.ifCond .ne 9, 3) := by decide +kernel
theorem dX4_foresee_15 : decode cX4_foresee 15 = .ok (.aload_n 0, 1) := by decide +kernel
theorem dX4_foresee_16 : decode cX4_foresee 16 = .ok (.iconst 1, 1) := by decide +kernel
theorem dX4_foresee_17 : decode cX4_foresee 17 = .ok (.invokevirtual 46, 3) := by decide +kernel
theorem dX4_foresee_20 : decode cX4_foresee 20 = .ok (.ireturn, 1) := by decide +kernel
theorem dX4_foresee_21 : decode cX4_foresee 21 = .ok (.iload_n 2, 1) := by decide +kernel
theorem dX4_foresee_22 : decode cX4_foresee 22 = .ok (.iconst 0, 1) := by decide +kernel
theorem dX4_foresee_23 : decode cX4_foresee 23 = .ok (.iconst 3, 1) := by decide +kernel
theorem dX4_foresee_24 : decode cX4_foresee 24 = .ok (.invokestatic 42, 3) := by decide +kernel
theorem dX4_foresee_27 : decode cX4_foresee 27 = .ok (.ifCond .ne 9, 3) := by decide +kernel
theorem dX4_foresee_30 : decode cX4_foresee 30 = .ok (.aload_n 0, 1) := by decide +kernel
theorem dX4_foresee_31 : decode cX4_foresee 31 = .ok (.iconst 2, 1) := by decide +kernel
theorem dX4_foresee_32 : decode cX4_foresee 32 = .ok (.invokevirtual 46, 3) := by decide +kernel
theorem dX4_foresee_35 : decode cX4_foresee 35 = .ok (.ireturn, 1) := by decide +kernel
theorem dX4_foresee_36 : decode cX4_foresee 36 = .ok (.aload_n 0, 1) := by decide +kernel
theorem dX4_foresee_37 : decode cX4_foresee 37 = .ok (.getfield 9, 3) := by decide +kernel
theorem dX4_foresee_40 : decode cX4_foresee 40 = .ok (.iconst 2, 1) := by decide +kernel
theorem dX4_foresee_41 : decode cX4_foresee 41 = .ok (.iaload, 1) := by decide +kernel
theorem dX4_foresee_42 : decode cX4_foresee 42 = .ok (.iload_n 1, 1) := by decide +kernel
theorem dX4_foresee_43 : decode cX4_foresee 43 = .ok (.iadd, 1) := by decide +kernel
theorem dX4_foresee_44 : decode cX4_foresee 44 = .ok (.sipush 2000, 3) := by decide +kernel
theorem dX4_foresee_47 : decode cX4_foresee 47 = .ok (.if_icmp .le 9, 3) := by decide +kernel
theorem dX4_foresee_50 : decode cX4_foresee 50 = .ok (.aload_n 0, 1) := by decide +kernel
theorem dX4_foresee_51 : decode cX4_foresee 51 = .ok (.iconst 3, 1) := by decide +kernel
theorem dX4_foresee_52 : decode cX4_foresee 52 = .ok (.invokevirtual 46, 3) := by decide +kernel
theorem dX4_foresee_55 : decode cX4_foresee 55 = .ok (.ireturn, 1) := by decide +kernel
theorem dX4_foresee_56 : decode cX4_foresee 56 = .ok (.aload_n 0, 1) := by decide +kernel
theorem dX4_foresee_57 : decode cX4_foresee 57 = .ok (.invokevirtual 99, 3) := by decide +kernel
theorem dX4_foresee_60 : decode cX4_foresee 60 = .ok (.iconst 0, 1) := by decide +kernel
theorem dX4_foresee_61 : decode cX4_foresee 61 = .ok (.istore_n 3, 1) := by decide +kernel
theorem dX4_foresee_62 : decode cX4_foresee 62 = .ok (.iload_n 3, 1) := by decide +kernel
theorem dX4_foresee_63 : decode cX4_foresee 63 = .ok (.iload_n 1, 1) := by decide +kernel
theorem dX4_foresee_64 : decode cX4_foresee 64 = .ok (.if_icmp .ge 13, 3) := by decide +kernel
theorem dX4_foresee_67 : decode cX4_foresee 67 = .ok (.aload_n 0, 1) := by decide +kernel
theorem dX4_foresee_68 : decode cX4_foresee 68 = .ok (.invokevirtual 93, 3) := by decide +kernel
theorem dX4_foresee_71 : decode cX4_foresee 71 = .ok (.iinc 3 1, 3) := by decide +kernel
theorem dX4_foresee_74 : decode cX4_foresee 74 = .ok (.goto (-12), 3) := by decide +kernel
theorem dX4_foresee_77 : decode cX4_foresee 77 = .ok (.iload_n 2, 1) := by decide +kernel
theorem dX4_foresee_78 : decode cX4_foresee 78 = .ok (.ifCond .ne 11, 3) := by decide +kernel
theorem dX4_foresee_81 : decode cX4_foresee 81 = .ok (.aload_n 0, 1) := by decide +kernel
theorem dX4_foresee_82 : decode cX4_foresee 82 = .ok (.iconst 5, 1) := by decide +kernel
theorem dX4_foresee_83 : decode cX4_foresee 83 = .ok (.invokevirtual 73, 3) := by decide +kernel
theorem dX4_foresee_86 : decode cX4_foresee 86 = .ok (.goto 43, 3) := by decide +kernel
theorem dX4_foresee_89 : decode cX4_foresee 89 = .ok (.iload_n 2, 1) := by decide +kernel
theorem dX4_foresee_90 : decode cX4_foresee 90 = .ok (.iconst 1, 1) := by decide +kernel
theorem dX4_foresee_91 : decode cX4_foresee 91 = .ok (.if_icmp .ne 12, 3) := by decide +kernel
theorem dX4_foresee_94 : decode cX4_foresee 94 = .ok (.aload_n 0, 1) := by decide +kernel
theorem dX4_foresee_95 : decode cX4_foresee 95 = .ok (.bipush 7, 2) := by decide +kernel
theorem dX4_foresee_97 : decode cX4_foresee 97 = .ok (.invokevirtual 73, 3) := by decide +kernel
theorem dX4_foresee_100 : decode cX4_foresee 100 = .ok (.goto 29, 3) := by decide +kernel
theorem dX4_foresee_103 : decode cX4_foresee 103 = .ok (.iload_n 2, 1) := by decide +kernel
theorem dX4_foresee_104 : decode cX4_foresee 104 = .ok (.iconst 2, 1) := by decide +kernel
theorem dX4_foresee_105 : decode cX4_foresee 105 = .ok (.if_icmp .ne 19, 3) := by decide +kernel
theorem dX4_foresee_108 : decode cX4_foresee 108 = .ok (.aload_n 0, 1) := by decide +kernel
theorem dX4_foresee_109 : decode cX4_foresee 109 = .ok (.getfield 9, 3) := by decide +kernel
theorem dX4_foresee_112 : decode cX4_foresee 112 = .ok (.iconst 3, 1) := by decide +kernel
theorem dX4_foresee_113 : decode cX4_foresee 113 = .ok (.iaload, 1) := by decide +kernel
theorem dX4_foresee_114 : decode cX4_foresee 114 = .ok (.aload_n 0, 1) := by decide +kernel
theorem dX4_foresee_115 : decode cX4_foresee 115 = .ok (.getfield 22, 3) := by decide +kernel
theorem dX4_foresee_118 : decode cX4_foresee 118 = .ok (.iconst 3, 1) := by decide +kernel
theorem dX4_foresee_119 : decode cX4_foresee 119 = .ok (.iaload, 1) := by decide +kernel
theorem dX4_foresee_120 : decode cX4_foresee 120 = .ok (.isub, 1) := by decide +kernel
theorem dX4_foresee_121 : decode cX4_foresee 121 = .ok (.goto 8, 3) := by decide +kernel
theorem dX4_foresee_124 : decode cX4_foresee 124 = .ok (.aload_n 0, 1) := by decide +kernel
theorem dX4_foresee_125 : decode cX4_foresee 125 = .ok (.iconst 0, 1) := by decide +kernel
theorem dX4_foresee_126 : decode cX4_foresee 126 = .ok (.invokevirtual 73, 3) := by decide +kernel
theorem dX4_foresee_129 : decode cX4_foresee 129 = .ok (.istore_n 3, 1) := by decide +kernel
theorem dX4_foresee_130 : decode cX4_foresee 130 = .ok (.aload_n 0, 1) := by decide +kernel
theorem dX4_foresee_131 : decode cX4_foresee 131 = .ok (.invokevirtual 102, 3) := by decide +kernel
theorem dX4_foresee_134 : decode cX4_foresee 134 = .ok (.iload_n 3, 1) := by decide +kernel
theorem dX4_foresee_135 : decode cX4_foresee 135 = .ok (.ireturn, 1) := by decide +kernel
set_option maxRecDepth 20000 in
theorem ggX4_worth_X4_dayOn : GoodIn wsX4_worth wsX4_dayOn := goodIn_r _ [5, 6, 7, 8, 9, 10, 11, 12, 13, 14, 15, 16, 17, 18, 19, 4, 20, 21, 22, 23, 24, 25, 26, 27, 28, 29, 30, 31, 32, 33, 34, 35, 36, 37, 38, 39, 40, 41, 42, 43, 44, 45, 46, 47, 62, 63, 64, 65, 66, 67, 68] (by decide +kernel) (by decide +kernel)
set_option maxRecDepth 20000 in
theorem gX4_worth_X4_dayOn : GoodIn wsX4_worth (wsV RX4 93 RX4 yX4_dayOn wsX4_dayOn) := goodIn_app (goodIn_of _ (by decide +kernel)) ggX4_worth_X4_dayOn
set_option maxRecDepth 20000 in
theorem ggX4_worth_X4_sum : GoodIn wsX4_worth wsX4_sum := goodIn_r _ [51, 8, 17, 18, 19, 4, 20, 6, 62, 63, 64, 65, 66, 67, 68] (by decide +kernel) (by decide +kernel)
set_option maxRecDepth 20000 in
theorem gX4_worth_X4_sum : GoodIn wsX4_worth (wsV RX4 73 RX4 yX4_sum wsX4_sum) := goodIn_app (goodIn_of _ (by decide +kernel)) ggX4_worth_X4_sum
set_option maxRecDepth 20000 in
theorem ggX4_worth_X4_bringBack : GoodIn wsX4_worth wsX4_bringBack := goodIn_r _ [55, 56, 6, 57, 58, 59, 60, 61, 8, 17, 18, 19, 4, 20, 62, 63, 64, 65, 66, 67, 68] (by decide +kernel) (by decide +kernel)
set_option maxRecDepth 20000 in
theorem gX4_worth_X4_bringBack : GoodIn wsX4_worth (wsV RX4 102 RX4 yX4_bringBack wsX4_bringBack) := goodIn_app (goodIn_of _ (by decide +kernel)) ggX4_worth_X4_bringBack
theorem dX4_worth_0 : decode cX4_worth 0 = .ok (.iconst 0, 1) := by decide +kernel
theorem dX4_worth_1 : decode cX4_worth 1 = .ok (.istore_n 2, 1) := by decide +kernel
theorem dX4_worth_2 : decode cX4_worth 2 = .ok (.iload_n 2, 1) := by decide +kernel
theorem dX4_worth_3 : decode cX4_worth 3 = .ok (.iload_n 1, 1) := by decide +kernel
theorem dX4_worth_4 : decode cX4_worth 4 = .ok (.if_icmp .ge 13, 3) := by decide +kernel
theorem dX4_worth_7 : decode cX4_worth 7 = .ok (.aload_n 0, 1) := by decide +kernel
theorem dX4_worth_8 : decode cX4_worth 8 = .ok (.invokevirtual 93, 3) := by decide +kernel
theorem dX4_worth_11 : decode cX4_worth 11 = .ok (.iinc 2 1, 3) := by decide +kernel
theorem dX4_worth_14 : decode cX4_worth 14 = .ok (.goto (-12), 3) := by decide +kernel
theorem dX4_worth_17 : decode cX4_worth 17 = .ok (.sipush 10000, 3) := by decide +kernel
theorem dX4_worth_20 : decode cX4_worth 20 = .ok (.aload_n 0, 1) := by decide +kernel
theorem dX4_worth_21 : decode cX4_worth 21 = .ok (.iconst 5, 1) := by decide +kernel
theorem dX4_worth_22 : decode cX4_worth 22 = .ok (.invokevirtual 73, 3) := by decide +kernel
theorem dX4_worth_25 : decode cX4_worth 25 = .ok (.imul, 1) := by decide +kernel
theorem dX4_worth_26 : decode cX4_worth 26 = .ok (.aload_n 0, 1) := by decide +kernel
theorem dX4_worth_27 : decode cX4_worth 27 = .ok (.bipush 7, 2) := by decide +kernel
theorem dX4_worth_29 : decode cX4_worth 29 = .ok (.invokevirtual 73, 3) := by decide +kernel
theorem dX4_worth_32 : decode cX4_worth 32 = .ok (.iadd, 1) := by decide +kernel
theorem dX4_worth_33 : decode cX4_worth 33 = .ok (.istore_n 2, 1) := by decide +kernel
theorem dX4_worth_34 : decode cX4_worth 34 = .ok (.aload_n 0, 1) := by decide +kernel
theorem dX4_worth_35 : decode cX4_worth 35 = .ok (.invokevirtual 102, 3) := by decide +kernel
theorem dX4_worth_38 : decode cX4_worth 38 = .ok (.iload_n 2, 1) := by decide +kernel
theorem dX4_worth_39 : decode cX4_worth 39 = .ok (.ireturn, 1) := by decide +kernel
set_option maxRecDepth 20000 in
theorem ggX4_advise_X4_isIn : GoodIn wsX4_advise wsX4_isIn := goodIn_r _ [7] (by decide +kernel) (by decide +kernel)
set_option maxRecDepth 20000 in
theorem gX4_advise_X4_isIn : GoodIn wsX4_advise (va_wsS RX4 42 yX4_isIn wsX4_isIn) := goodIn_app (goodIn_of _ (by decide +kernel)) ggX4_advise_X4_isIn
set_option maxRecDepth 20000 in
theorem ggX4_advise_X4_fail : GoodIn wsX4_advise wsX4_fail := goodIn_r _ [11, 1, 75, 76, 77, 78, 79, 80, 81] (by decide +kernel) (by decide +kernel)
set_option maxRecDepth 20000 in
theorem gX4_advise_X4_fail : GoodIn wsX4_advise (wsV RX4 46 RX4 yX4_fail wsX4_fail) := goodIn_app (goodIn_of _ (by decide +kernel)) ggX4_advise_X4_fail
set_option maxRecDepth 20000 in
theorem ggX4_advise_X4_keep : GoodIn wsX4_advise wsX4_keep := goodIn_r _ [15, 2, 16, 17, 18, 19, 20, 3, 21, 22, 23, 24, 6, 25, 75, 76, 77, 78, 79, 80, 81] (by decide +kernel) (by decide +kernel)
set_option maxRecDepth 20000 in
theorem gX4_advise_X4_keep : GoodIn wsX4_advise (wsV RX4 99 RX4 yX4_keep wsX4_keep) := goodIn_app (goodIn_of _ (by decide +kernel)) ggX4_advise_X4_keep
set_option maxRecDepth 20000 in
theorem ggX4_advise_X4_worth : GoodIn wsX4_advise wsX4_worth := goodIn_r _ [29, 30, 31, 32, 6, 33, 2, 34, 3, 35, 36, 37, 38, 39, 40, 41, 42, 22, 23, 24, 25, 43, 44, 45, 46, 47, 48, 49, 50, 51, 52, 53, 54, 55, 56, 57, 58, 4, 5, 7, 59, 60, 61, 62, 63, 64, 65, 66, 67, 68, 69, 70, 71, 72, 73, 74, 16, 17, 18, 19, 20, 21, 75, 76, 77, 78, 79, 80, 81] (by decide +kernel) (by decide +kernel)
set_option maxRecDepth 20000 in
theorem gX4_advise_X4_worth : GoodIn wsX4_advise (wsV RX4 105 RX4 yX4_worth wsX4_worth) := goodIn_app (goodIn_of _ (by decide +kernel)) ggX4_advise_X4_worth
set_option maxRecDepth 20000 in
theorem ggX4_advise_X4_many : GoodIn wsX4_advise wsX4_many := goodIn_r _ [25, 2, 75, 76, 77, 78, 79, 80, 81] (by decide +kernel) (by decide +kernel)
set_option maxRecDepth 20000 in
theorem gX4_advise_X4_many : GoodIn wsX4_advise (wsV RX4 69 RX4 yX4_many wsX4_many) := goodIn_app (goodIn_of _ (by decide +kernel)) ggX4_advise_X4_many
theorem dX4_advise_0 : decode cX4_advise 0 = .ok (.aload_n 0, 1) := by decide +kernel
theorem dX4_advise_1 : decode cX4_advise 1 = .ok (.iconst 0, 1) := by decide +kernel
theorem dX4_advise_2 : decode cX4_advise 2 = .ok (.putfield 38, 3) := by decide +kernel
theorem dX4_advise_5 : decode cX4_advise 5 = .ok (.iload_n 1, 1) := by decide +kernel
theorem dX4_advise_6 : decode cX4_advise 6 = .ok (.iconst 1, 1) := by decide +kernel
theorem dX4_advise_7 : decode cX4_advise 7 = .ok (.bipush 10, 2) := by decide +kernel
theorem dX4_advise_9 : decode cX4_advise 9 = .ok (.invokestatic 42, 3) := by decide +kernel
theorem dX4_advise_12 : decode cX4_advise 12 = .ok (.ifCond .ne 9, 3) := by decide +kernel
theorem dX4_advise_15 : decode cX4_advise 15 = .ok (.aload_n 0, 1) := by decide +kernel
theorem dX4_advise_16 : decode cX4_advise 16 = .ok (.iconst 1, 1) := by decide +kernel
theorem dX4_advise_17 : decode cX4_advise 17 = .ok (.invokevirtual 46, 3) := by decide +kernel
theorem dX4_advise_20 : decode cX4_advise 20 = .ok (.ireturn, 1) := by decide +kernel
theorem dX4_advise_21 : decode cX4_advise 21 = .ok (.iload_n 2, 1) := by decide +kernel
theorem dX4_advise_22 : decode cX4_advise 22 = .ok (.iconst 0, 1) := by decide +kernel
theorem dX4_advise_23 : decode cX4_advise 23 = .ok (.iconst 2, 1) := by decide +kernel
theorem dX4_advise_24 : decode cX4_advise 24 = .ok (.invokestatic 42, 3) := by decide +kernel
theorem dX4_advise_27 : decode cX4_advise 27 = .ok (.ifCond .ne 9, 3) := by decide +kernel
theorem dX4_advise_30 : decode cX4_advise 30 = .ok (.aload_n 0, 1) := by decide +kernel
theorem dX4_advise_31 : decode cX4_advise 31 = .ok (.iconst 2, 1) := by decide +kernel
theorem dX4_advise_32 : decode cX4_advise 32 = .ok (.invokevirtual 46, 3) := by decide +kernel
theorem dX4_advise_35 : decode cX4_advise 35 = .ok (.ireturn, 1) := by decide +kernel
theorem dX4_advise_36 : decode cX4_advise 36 = .ok (.aload_n 0, 1) := by decide +kernel
theorem dX4_advise_37 : decode cX4_advise 37 = .ok (.getfield 9, 3) := by decide +kernel
theorem dX4_advise_40 : decode cX4_advise 40 = .ok (.iconst 2, 1) := by decide +kernel
theorem dX4_advise_41 : decode cX4_advise 41 = .ok (.iaload, 1) := by decide +kernel
theorem dX4_advise_42 : decode cX4_advise 42 = .ok (.iload_n 1, 1) := by decide +kernel
theorem dX4_advise_43 : decode cX4_advise 43 = .ok (.iadd, 1) := by decide +kernel
theorem dX4_advise_44 : decode cX4_advise 44 = .ok (.sipush 2000, 3) := by decide +kernel
theorem dX4_advise_47 : decode cX4_advise 47 = .ok (.if_icmp .le 9, 3) := by decide +kernel
theorem dX4_advise_50 : decode cX4_advise 50 = .ok (.aload_n 0, 1) := by decide +kernel
theorem dX4_advise_51 : decode cX4_advise 51 = .ok (.iconst 3, 1) := by decide +kernel
theorem dX4_advise_52 : decode cX4_advise 52 = .ok (.invokevirtual 46, 3) := by decide +kernel
theorem dX4_advise_55 : decode cX4_advise 55 = .ok (.ireturn, 1) := by decide +kernel
theorem dX4_advise_56 : decode cX4_advise 56 = .ok (.aload_n 0, 1) := by decide +kernel
theorem dX4_advise_57 : decode cX4_advise 57 = .ok (.invokevirtual 99, 3) := by decide +kernel
theorem dX4_advise_60 : decode cX4_advise 60 = .ok (.aload_n 0, 1) := by decide +kernel
theorem dX4_advise_61 : decode cX4_advise 61 = .ok (.iload_n 1, 1) := by decide +kernel
theorem dX4_advise_62 : decode cX4_advise 62 = .ok (.invokevirtual 105, 3) := by decide +kernel
theorem dX4_advise_65 : decode cX4_advise 65 = .ok (.istore_n 3, 1) := by decide +kernel
theorem dX4_advise_66 : decode cX4_advise 66 = .ok (.iconst (-1), 1) := by decide +kernel
theorem dX4_advise_67 : decode cX4_advise 67 = .ok (.istore 4, 2) := by decide +kernel
theorem dX4_advise_69 : decode cX4_advise 69 = .ok (.iconst (-1), 1) := by decide +kernel
theorem dX4_advise_70 : decode cX4_advise 70 = .ok (.istore 5, 2) := by decide +kernel
theorem dX4_advise_72 : decode cX4_advise 72 = .ok (.iconst 0, 1) := by decide +kernel
theorem dX4_advise_73 : decode cX4_advise 73 = .ok (.istore 6, 2) := by decide +kernel
theorem dX4_advise_75 : decode cX4_advise 75 = .ok (.iload 6, 2) := by decide +kernel
theorem dX4_advise_77 : decode cX4_advise 77 = .ok (.aload_n 0, 1) := by decide +kernel
theorem dX4_advise_78 : decode cX4_advise 78 = .ok (.invokevirtual 69, 3) := by decide +kernel
theorem dX4_advise_81 : decode cX4_advise 81 = .ok (.if_icmp .ge 76, 3) := by decide +kernel
theorem dX4_advise_84 : decode cX4_advise 84 = .ok (.iconst 0, 1) := by decide +kernel
theorem dX4_advise_85 : decode cX4_advise 85 = .ok (.istore 7, 2) := by decide +kernel
theorem dX4_advise_87 : decode cX4_advise 87 = .ok (.iload 7, 2) := by decide +kernel
theorem dX4_advise_89 : decode cX4_advise 89 = .ok (.aload_n 0, 1) := by decide +kernel
theorem dX4_advise_90 : decode cX4_advise 90 = .ok (.getfield 16, 3) := by decide +kernel
theorem dX4_advise_93 : decode cX4_advise 93 = .ok (.bipush 12, 2) := by decide +kernel
theorem dX4_advise_95 : decode cX4_advise 95 = .ok (.iload 6, 2) := by decide +kernel
theorem dX4_advise_97 : decode cX4_advise 97 = .ok (.imul, 1) := by decide +kernel
theorem dX4_advise_98 : decode cX4_advise 98 = .ok (.iconst 1, 1) := by decide +kernel
theorem dX4_advise_99 : decode cX4_advise 99 = .ok (.iadd, 1) := by decide +kernel
theorem dX4_advise_100 : decode cX4_advise 100 = .ok (.iaload, 1) := by decide +kernel
theorem dX4_advise_101 : decode cX4_advise 101 = .ok (.if_icmp .gt 50, 3) := by decide +kernel
theorem dX4_advise_104 : decode cX4_advise 104 = .ok (.aload_n 0, 1) := by decide +kernel
theorem dX4_advise_105 : decode cX4_advise 105 = .ok (.getfield 16, 3) := by decide +kernel
theorem dX4_advise_108 : decode cX4_advise 108 = .ok (.bipush 12, 2) := by decide +kernel
theorem dX4_advise_110 : decode cX4_advise 110 = .ok (.iload 6, 2) := by decide +kernel
theorem dX4_advise_112 : decode cX4_advise 112 = .ok (.imul, 1) := by decide +kernel
theorem dX4_advise_113 : decode cX4_advise 113 = .ok (.iconst 3, 1) := by decide +kernel
theorem dX4_advise_114 : decode cX4_advise 114 = .ok (.iadd, 1) := by decide +kernel
theorem dX4_advise_115 : decode cX4_advise 115 = .ok (.iload 7, 2) := by decide +kernel
theorem dX4_advise_117 : decode cX4_advise 117 = .ok (.iastore, 1) := by decide +kernel
theorem dX4_advise_118 : decode cX4_advise 118 = .ok (.aload_n 0, 1) := by decide +kernel
theorem dX4_advise_119 : decode cX4_advise 119 = .ok (.iload_n 1, 1) := by decide +kernel
theorem dX4_advise_120 : decode cX4_advise 120 = .ok (.invokevirtual 105, 3) := by decide +kernel
theorem dX4_advise_123 : decode cX4_advise 123 = .ok (.istore 8, 2) := by decide +kernel
theorem dX4_advise_125 : decode cX4_advise 125 = .ok (.iload 8, 2) := by decide +kernel
theorem dX4_advise_127 : decode cX4_advise 127 = .ok (.iload_n 3, 1) := by decide +kernel
theorem dX4_advise_128 : decode cX4_advise 128 = .ok (.if_icmp .gt 6, 3) := by decide +kernel
theorem dX4_advise_131 : decode cX4_advise 131 = .ok (.goto 14, 3) := by decide +kernel
theorem dX4_advise_134 : decode cX4_advise 134 = .ok (.iload 8, 2) := by decide +kernel
theorem dX4_advise_136 : decode cX4_advise 136 = .ok (.istore_n 3, 1) := by decide +kernel
theorem dX4_advise_137 : decode cX4_advise 137 = .ok (.iload 6, 2) := by decide +kernel
theorem dX4_advise_139 : decode cX4_advise 139 = .ok (.istore 4, 2) := by decide +kernel
theorem dX4_advise_141 : decode cX4_advise 141 = .ok (.iload 7, 2) := by decide +kernel
theorem dX4_advise_143 : decode cX4_advise 143 = .ok (.istore 5, 2) := by decide +kernel
theorem dX4_advise_145 : decode cX4_advise 145 = .ok (.iinc 7 10, 3) := by decide +kernel
theorem dX4_advise_148 : decode cX4_advise 148 = .ok (.goto (-61), 3) := by decide +kernel
theorem dX4_advise_151 : decode cX4_advise 151 = .ok (.iinc 6 1, 3) := by decide +kernel
theorem dX4_advise_154 : decode cX4_advise 154 = .ok (.goto (-79), 3) := by decide +kernel
theorem dX4_advise_157 : decode cX4_advise 157 = .ok (.iload 4, 2) := by decide +kernel
theorem dX4_advise_159 : decode cX4_advise 159 = .ok (.iconst (-1), 1) := by decide +kernel
theorem dX4_advise_160 : decode cX4_advise 160 = .ok (.if_icmp .ne 7, 3) := by decide +kernel
theorem dX4_advise_163 : decode cX4_advise 163 = .ok (.iconst (-1), 1) := by decide +kernel
theorem dX4_advise_164 : decode cX4_advise 164 = .ok (.goto 38, 3) := by decide +kernel
theorem dX4_advise_167 : decode cX4_advise 167 = .ok (.iload_n 2, 1) := by decide +kernel
theorem dX4_advise_168 : decode cX4_advise 168 = .ok (.ifCond .ne 15, 3) := by decide +kernel
theorem dX4_advise_171 : decode cX4_advise 171 = .ok (.iload 4, 2) := by decide +kernel
theorem dX4_advise_173 : decode cX4_advise 173 = .ok (.aload_n 0, 1) := by decide +kernel
theorem dX4_advise_174 : decode cX4_advise 174 = .ok (.getfield 9, 3) := by decide +kernel
theorem dX4_advise_177 : decode cX4_advise 177 = .ok (.iconst 1, 1) := by decide +kernel
theorem dX4_advise_178 : decode cX4_advise 178 = .ok (.iaload, 1) := by decide +kernel
theorem dX4_advise_179 : decode cX4_advise 179 = .ok (.idiv, 1) := by decide +kernel
theorem dX4_advise_180 : decode cX4_advise 180 = .ok (.goto 22, 3) := by decide +kernel
theorem dX4_advise_183 : decode cX4_advise 183 = .ok (.iload_n 2, 1) := by decide +kernel
theorem dX4_advise_184 : decode cX4_advise 184 = .ok (.iconst 1, 1) := by decide +kernel
theorem dX4_advise_185 : decode cX4_advise 185 = .ok (.if_icmp .ne 15, 3) := by decide +kernel
theorem dX4_advise_188 : decode cX4_advise 188 = .ok (.iload 4, 2) := by decide +kernel
theorem dX4_advise_190 : decode cX4_advise 190 = .ok (.aload_n 0, 1) := by decide +kernel
theorem dX4_advise_191 : decode cX4_advise 191 = .ok (.getfield 9, 3) := by decide +kernel
theorem dX4_advise_194 : decode cX4_advise 194 = .ok (.iconst 1, 1) := by decide +kernel
theorem dX4_advise_195 : decode cX4_advise 195 = .ok (.iaload, 1) := by decide +kernel
theorem dX4_advise_196 : decode cX4_advise 196 = .ok (.irem, 1) := by decide +kernel
theorem dX4_advise_197 : decode cX4_advise 197 = .ok (.goto 5, 3) := by decide +kernel
theorem dX4_advise_200 : decode cX4_advise 200 = .ok (.iload 5, 2) := by decide +kernel
theorem dX4_advise_202 : decode cX4_advise 202 = .ok (.ireturn, 1) := by decide +kernel
set_option maxRecDepth 20000 in
theorem ggX4_depth_X4_sum : GoodIn wsX4_depth wsX4_sum := goodIn_r _ [6, 7, 8, 9, 10, 5, 11, 12, 13, 14, 15, 16, 17, 18, 19] (by decide +kernel) (by decide +kernel)
set_option maxRecDepth 20000 in
theorem gX4_depth_X4_sum : GoodIn wsX4_depth (wsV RX4 73 RX4 yX4_sum wsX4_sum) := goodIn_app (goodIn_of _ (by decide +kernel)) ggX4_depth_X4_sum
set_option maxRecDepth 20000 in
theorem ggX4_depth_X4_many : GoodIn wsX4_depth wsX4_many := goodIn_r _ [11, 12, 13, 14, 15, 16, 17, 18, 19] (by decide +kernel) (by decide +kernel)
set_option maxRecDepth 20000 in
theorem gX4_depth_X4_many : GoodIn wsX4_depth (wsV RX4 69 RX4 yX4_many wsX4_many) := goodIn_app (goodIn_of _ (by decide +kernel)) ggX4_depth_X4_many
theorem dX4_depth_0 : decode cX4_depth 0 = .ok (.aload_n 0, 1) := by decide +kernel
theorem dX4_depth_1 : decode cX4_depth 1 = .ok (.iconst 0, 1) := by decide +kernel
theorem dX4_depth_2 : decode cX4_depth 2 = .ok (.putfield 38, 3) := by decide +kernel
theorem dX4_depth_5 : decode cX4_depth 5 = .ok (.aload_n 0, 1) := by decide +kernel
