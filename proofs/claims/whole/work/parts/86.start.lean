set_option maxRecDepth 100000 in
theorem st_str {s : State} {b : Nat} (hts0 : ∀ w ∈ lw_tbl, w.before #[Value.ref b] s = true) (hgv : ∀ w ∈ flatC (Jvm.Cond.and given_1 narrow_1), w.before #[Value.ref b] s = true) : ∀ q ∈ zStr, ∃ sa, vk_R RX3 q.1 q.2 sa s := by
  have key : ∀ (n : Nat) (tx : String), (Cond.stringRef RX3 n tx).before #[Value.ref b] s = true → (Cond.exactly (.string RX3 n) "java/lang/String").before #[Value.ref b] s = true → ∃ sa, vk_R RX3 n tx sa s := by
    intro n tx h1 h2
    obtain ⟨a, -, -, -, e1, -⟩ := Cond.exactly_spec h2
    exact ⟨a, vk_R.of h1 e1⟩
  intro q hq
  unfold zStr at hq
  simp only [List.mem_cons, List.not_mem_nil, or_false] at hq
  rcases hq with rfl | rfl | rfl | rfl | rfl | rfl | rfl | rfl | rfl | rfl | rfl | rfl | rfl | rfl | rfl | rfl | rfl | rfl | rfl | rfl | rfl
  · exact key 41 "h or w is not 2 to 8" (hts0 (.stringRef RX3 41 "h or w is not 2 to 8") (List.mem_append_right _ (List.mem_of_getElem? (i := 265) (by decide +kernel)))) (hgv (.exactly (.string RX3 41) "java/lang/String") (List.mem_of_getElem? (i := 27) (by decide +kernel)))
  · exact key 66 "there is no such field" (hts0 (.stringRef RX3 66 "there is no such field") (List.mem_append_right _ (List.mem_of_getElem? (i := 314) (by decide +kernel)))) (hgv (.exactly (.string RX3 66) "java/lang/String") (List.mem_of_getElem? (i := 51) (by decide +kernel)))
  · exact key 69 "bank is not 20 to 120, or seepage is not 0 to 9" (hts0 (.stringRef RX3 69 "bank is not 20 to 120, or seepage is not 0 to 9") (List.mem_append_right _ (List.mem_of_getElem? (i := 321) (by decide +kernel)))) (hgv (.exactly (.string RX3 69) "java/lang/String") (List.mem_of_getElem? (i := 78) (by decide +kernel)))
  · exact key 90 "stone is not 0 to the bank" (hts0 (.stringRef RX3 90 "stone is not 0 to the bank") (List.mem_append_right _ (List.mem_of_getElem? (i := 336) (by decide +kernel)))) (hgv (.exactly (.string RX3 90) "java/lang/String") (List.mem_of_getElem? (i := 131) (by decide +kernel)))
  · exact key 96 "side is not -1 to 1" (hts0 (.stringRef RX3 96 "side is not -1 to 1") (List.mem_append_right _ (List.mem_of_getElem? (i := 347) (by decide +kernel)))) (hgv (.exactly (.string RX3 96) "java/lang/String") (List.mem_of_getElem? (i := 164) (by decide +kernel)))
  · exact key 101 "there is no such column" (hts0 (.stringRef RX3 101 "there is no such column") (List.mem_append_right _ (List.mem_of_getElem? (i := 355) (by decide +kernel)))) (hgv (.exactly (.string RX3 101) "java/lang/String") (List.mem_of_getElem? (i := 191) (by decide +kernel)))
  · exact key 103 "share is not 0 to 9" (hts0 (.stringRef RX3 103 "share is not 0 to 9") (List.mem_append_right _ (List.mem_of_getElem? (i := 356) (by decide +kernel)))) (hgv (.exactly (.string RX3 103) "java/lang/String") (List.mem_of_getElem? (i := 223) (by decide +kernel)))
  · exact key 108 "day is not 0 to 29" (hts0 (.stringRef RX3 108 "day is not 0 to 29") (List.mem_append_right _ (List.mem_of_getElem? (i := 364) (by decide +kernel)))) (hgv (.exactly (.string RX3 108) "java/lang/String") (List.mem_of_getElem? (i := 252) (by decide +kernel)))
  · exact key 110 "rain is not 0 to 60, spring not 0 to 400, or draught not 0 to 20" (hts0 (.stringRef RX3 110 "rain is not 0 to 60, spring not 0 to 400, or draught not 0 to 20") (List.mem_append_right _ (List.mem_of_getElem? (i := 365) (by decide +kernel)))) (hgv (.exactly (.string RX3 110) "java/lang/String") (List.mem_of_getElem? (i := 281) (by decide +kernel)))
  · exact key 121 "age is not 0 to 20" (hts0 (.stringRef RX3 121 "age is not 0 to 20") (List.mem_append_right _ (List.mem_of_getElem? (i := 374) (by decide +kernel)))) (hgv (.exactly (.string RX3 121) "java/lang/String") (List.mem_of_getElem? (i := 357) (by decide +kernel)))
  · exact key 131 "the field is not fallow, or its depth is greater than 40" (hts0 (.stringRef RX3 131 "the field is not fallow, or its depth is greater than 40") (List.mem_append_right _ (List.mem_of_getElem? (i := 384) (by decide +kernel)))) (hgv (.exactly (.string RX3 131) "java/lang/String") (List.mem_of_getElem? (i := 388) (by decide +kernel)))
  · exact key 140 "the field is fallow, or the age of the crop is less than 40" (hts0 (.stringRef RX3 140 "the field is fallow, or the age of the crop is less than 40") (List.mem_append_right _ (List.mem_of_getElem? (i := 398) (by decide +kernel)))) (hgv (.exactly (.string RX3 140) "java/lang/String") (List.mem_of_getElem? (i := 458) (by decide +kernel)))
  · exact key 149 "days is not 1 to 60" (hts0 (.stringRef RX3 149 "days is not 1 to 60") (List.mem_append_right _ (List.mem_of_getElem? (i := 407) (by decide +kernel)))) (hgv (.exactly (.string RX3 149) "java/lang/String") (List.mem_of_getElem? (i := 532) (by decide +kernel)))
  · exact key 154 "the day would be greater than 2000" (hts0 (.stringRef RX3 154 "the day would be greater than 2000") (List.mem_append_right _ (List.mem_of_getElem? (i := 408) (by decide +kernel)))) (hgv (.exactly (.string RX3 154) "java/lang/String") (List.mem_of_getElem? (i := 567) (by decide +kernel)))
  · exact key 160 "there is no such field, or what is not 0 to 11" (hts0 (.stringRef RX3 160 "there is no such field, or what is not 0 to 11") (List.mem_append_right _ (List.mem_of_getElem? (i := 463) (by decide +kernel)))) (hgv (.exactly (.string RX3 160) "java/lang/String") (List.mem_of_getElem? (i := 618) (by decide +kernel)))
  · exact key 165 "what is not 0 to 8" (hts0 (.stringRef RX3 165 "what is not 0 to 8") (List.mem_append_right _ (List.mem_of_getElem? (i := 471) (by decide +kernel)))) (hgv (.exactly (.string RX3 165) "java/lang/String") (List.mem_of_getElem? (i := 682) (by decide +kernel)))
  · exact key 170 "day is not 0 to 29, or what is not 0 to 2" (hts0 (.stringRef RX3 170 "day is not 0 to 29, or what is not 0 to 2") (List.mem_append_right _ (List.mem_of_getElem? (i := 479) (by decide +kernel)))) (hgv (.exactly (.string RX3 170) "java/lang/String") (List.mem_of_getElem? (i := 719) (by decide +kernel)))
  · exact key 175 "days is not 1 to 20" (hts0 (.stringRef RX3 175 "days is not 1 to 20") (List.mem_append_right _ (List.mem_of_getElem? (i := 487) (by decide +kernel)))) (hgv (.exactly (.string RX3 175) "java/lang/String") (List.mem_of_getElem? (i := 780) (by decide +kernel)))
  · exact key 177 "what is not 0 to 3" (hts0 (.stringRef RX3 177 "what is not 0 to 3") (List.mem_append_right _ (List.mem_of_getElem? (i := 488) (by decide +kernel)))) (hgv (.exactly (.string RX3 177) "java/lang/String") (List.mem_of_getElem? (i := 820) (by decide +kernel)))
  · exact key 186 "days is not 1 to 10" (hts0 (.stringRef RX3 186 "days is not 1 to 10") (List.mem_append_right _ (List.mem_of_getElem? (i := 514) (by decide +kernel)))) (hgv (.exactly (.string RX3 186) "java/lang/String") (List.mem_of_getElem? (i := 860) (by decide +kernel)))
  · exact key 188 "what is not 0 to 2" (hts0 (.stringRef RX3 188 "what is not 0 to 2") (List.mem_append_right _ (List.mem_of_getElem? (i := 515) (by decide +kernel)))) (hgv (.exactly (.string RX3 188) "java/lang/String") (List.mem_of_getElem? (i := 902) (by decide +kernel)))
set_option maxRecDepth 100000 in
theorem st_zSt {s : State} {b : Nat} (hts0 : ∀ w ∈ lw_tbl, w.before #[Value.ref b] s = true) (hgv : ∀ w ∈ flatC (Jvm.Cond.and given_1 narrow_1), w.before #[Value.ref b] s = true) : zSt (lawA s) s s.heap ∧ zNc s ∧ zN s := by
  refine ⟨⟨vx_Zqof (hts0 (.laysStatic Bundle.tN "UNASSIGNED_STACK" Bundle.steD) (List.mem_append_right _ (List.mem_of_getElem? (i := 251) (by decide +kernel)))) (hts0 (.initialized Bundle.tN) (List.mem_append_right _ (List.mem_of_getElem? (i := 8) (by decide +kernel)))) (hgv (.isRef (.static Bundle.tN "UNASSIGNED_STACK" Bundle.steD)) (List.mem_of_getElem? (i := 4) (by decide +kernel))) (fun a h => Nat.not_le.mpr h), vx_Zqof (hts0 (.laysStatic Bundle.tN "SUPPRESSED_SENTINEL" Bundle.listD) (List.mem_append_right _ (List.mem_of_getElem? (i := 253) (by decide +kernel)))) (hts0 (.initialized Bundle.tN) (List.mem_append_right _ (List.mem_of_getElem? (i := 8) (by decide +kernel)))) (hgv (.isRef (.static Bundle.tN "SUPPRESSED_SENTINEL" Bundle.listD)) (List.mem_of_getElem? (i := 5) (by decide +kernel))) (fun a h => Nat.not_le.mpr h), st_str hts0 hgv, fun Y hY => ?_, fun X hX => ?_⟩, fun q hq => ?_, ?_, ?_⟩
  · unfold zCh at hY
    simp only [List.mem_cons, List.not_mem_nil, or_false] at hY
    rcases hY with rfl | rfl | rfl
    · exact va_Nw.of rfl (hts0 (.declares (Bundle.initS "java/lang/RuntimeException")) (List.mem_append_right _ (List.mem_of_getElem? (i := 228) (by decide +kernel))))
    · exact va_Nw.of rfl (hts0 (.declares (Bundle.initS "java/lang/Exception")) (List.mem_append_right _ (List.mem_of_getElem? (i := 230) (by decide +kernel))))
    · exact va_Nw.of rfl (hts0 (.declares (Bundle.initS Bundle.tN)) (List.mem_append_right _ (List.mem_of_getElem? (i := 232) (by decide +kernel))))
  · unfold zEx at hX
    simp only [List.mem_cons, List.not_mem_nil, or_false] at hX
    rcases hX with rfl | rfl | rfl
    · exact va_Nw.of rfl (hts0 (.castable "java/lang/IllegalArgumentException" "java/lang/IllegalArgumentException") (List.mem_append_right _ (List.mem_of_getElem? (i := 226) (by decide +kernel))))
    · exact va_Nw.of rfl (hts0 (.castable "java/lang/IndexOutOfBoundsException" "java/lang/IndexOutOfBoundsException") (List.mem_append_right _ (List.mem_of_getElem? (i := 307) (by decide +kernel))))
    · exact va_Nw.of rfl (hts0 (.castable "java/lang/IllegalStateException" "java/lang/IllegalStateException") (List.mem_append_right _ (List.mem_of_getElem? (i := 377) (by decide +kernel))))
  · unfold zNcs at hq
    simp only [List.mem_cons, List.not_mem_nil, or_false] at hq
    rcases hq with rfl | rfl | rfl | rfl
    · exact va_Nc.of (hgv (.not (.castable "java/lang/IllegalArgumentException" "java/lang/IndexOutOfBoundsException")) (List.mem_of_getElem? (i := 18) (by decide +kernel)))
    · exact va_Nc.of (hgv (.not (.castable "java/lang/IndexOutOfBoundsException" "java/lang/IllegalArgumentException")) (List.mem_of_getElem? (i := 11) (by decide +kernel)))
    · exact va_Nc.of (hgv (.not (.castable "java/lang/IllegalStateException" "java/lang/IndexOutOfBoundsException")) (List.mem_of_getElem? (i := 19) (by decide +kernel)))
    · exact va_Nc.of (hgv (.not (.castable "java/lang/IllegalStateException" "java/lang/IllegalArgumentException")) (List.mem_of_getElem? (i := 12) (by decide +kernel)))
  · exact va_Nw.of rfl (hts0 (.methodLinkNest RX2 155 yX3_isWithin "PaddyTerraces") (List.mem_append_right _ (List.mem_of_getElem? (i := 455) (by decide +kernel))))
  · exact va_Nw.of rfl (hts0 (.methodLinkNest RX3 30 yX1_init "PaddyTerraces") (List.mem_append_right _ (List.mem_of_getElem? (i := 135) (by decide +kernel))))
theorem st_arr {s : State} {b : Nat} {ty : FieldType} (hn : ∀ C, ty ≠ .object C) (h : (Cond.arrayClass ty).before #[Value.ref b] s = true) : ∃ cA : ClassId, ArrOfT s cA ty ∧ va_RA s cA ty := by
  obtain ⟨cA, kA, comp, h1, h2, h3⟩ := Cond.arrayClass_spec h
  refine ⟨cA, fun n z => ⟨fun k h => (by cases h), kA, h2, comp, h3⟩, ?_⟩
  cases ty with
  | object C => exact absurd rfl (hn C)
  | _ => exact h1
