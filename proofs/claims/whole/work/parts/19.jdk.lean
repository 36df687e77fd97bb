/-! the JDK's texts: length, charAt of the two constants; by program (wip/whole/gen19.py) -/
abbrev m_JS_length : Mt := (⟨"java/lang/String", "length", "()I"⟩, prog_13_method_54_code, 1, (some .int), [])
theorem tc_JS_length : InT (.code m_JS_length.1 m_JS_length.2.1 m_JS_length.2.2.1 m_JS_length.2.2.2.1) := ⟨List.mem_append_right _ (List.mem_of_getElem? (i := 193) (by decide +kernel)), rfl⟩
theorem tm_JS_length : InT (.instanceMethod m_JS_length.1) := ⟨List.mem_append_right _ (List.mem_of_getElem? (i := 191) (by decide +kernel)), rfl⟩
theorem ts_JS_length : InT (.selects m_JS_length.1.cls m_JS_length.1 m_JS_length.1) := ⟨List.mem_append_right _ (List.mem_of_getElem? (i := 192) (by decide +kernel)), rfl⟩
theorem cal_JS_length : Cal m_JS_length 0 := ⟨Or.inl ⟨tc_JS_length, rfl⟩, by decide +kernel, ⟨by decide, by decide⟩, by decide +kernel, by decide⟩
theorem d_JS_length_0 : decode m_JS_length.2.1 0 = .ok (.aload_n 0, 1) := by decide +kernel
theorem d_JS_length_1 : decode m_JS_length.2.1 1 = .ok (.getfield 9, 3) := by decide +kernel
theorem d_JS_length_4 : decode m_JS_length.2.1 4 = .ok (.arraylength, 1) := by decide +kernel
theorem d_JS_length_5 : decode m_JS_length.2.1 5 = .ok (.aload_n 0, 1) := by decide +kernel
theorem d_JS_length_6 : decode m_JS_length.2.1 6 = .ok (.invokevirtual 335, 3) := by decide +kernel
theorem d_JS_length_9 : decode m_JS_length.2.1 9 = .ok (.ishr, 1) := by decide +kernel
theorem d_JS_length_10 : decode m_JS_length.2.1 10 = .ok (.ireturn, 1) := by decide +kernel
abbrev m_JS_coder : Mt := (⟨"java/lang/String", "coder", "()B"⟩, prog_13_method_152_code, 1, (some .byte), [])
theorem tc_JS_coder : InT (.code m_JS_coder.1 m_JS_coder.2.1 m_JS_coder.2.2.1 m_JS_coder.2.2.2.1) := ⟨List.mem_append_right _ (List.mem_of_getElem? (i := 197) (by decide +kernel)), rfl⟩
theorem tm_JS_coder : InT (.instanceMethod m_JS_coder.1) := ⟨List.mem_append_right _ (List.mem_of_getElem? (i := 195) (by decide +kernel)), rfl⟩
theorem ts_JS_coder : InT (.selects m_JS_coder.1.cls m_JS_coder.1 m_JS_coder.1) := ⟨List.mem_append_right _ (List.mem_of_getElem? (i := 196) (by decide +kernel)), rfl⟩
theorem cal_JS_coder : Cal m_JS_coder 0 := ⟨Or.inl ⟨tc_JS_coder, rfl⟩, by decide +kernel, ⟨by decide, by decide⟩, by decide +kernel, by decide⟩
theorem d_JS_coder_0 : decode m_JS_coder.2.1 0 = .ok (.getstatic 38, 3) := by decide +kernel
theorem d_JS_coder_3 : decode m_JS_coder.2.1 3 = .ok (.ifCond .eq 10, 3) := by decide +kernel
theorem d_JS_coder_6 : decode m_JS_coder.2.1 6 = .ok (.aload_n 0, 1) := by decide +kernel
theorem d_JS_coder_7 : decode m_JS_coder.2.1 7 = .ok (.getfield 15, 3) := by decide +kernel
theorem d_JS_coder_10 : decode m_JS_coder.2.1 10 = .ok (.goto 4, 3) := by decide +kernel
theorem d_JS_coder_13 : decode m_JS_coder.2.1 13 = .ok (.iconst 1, 1) := by decide +kernel
theorem d_JS_coder_14 : decode m_JS_coder.2.1 14 = .ok (.ireturn, 1) := by decide +kernel
abbrev m_JS_charAt : Mt := (⟨"java/lang/String", "charAt", "(I)C"⟩, prog_13_method_56_code, 2, (some .char), [])
theorem tc_JS_charAt : InT (.code m_JS_charAt.1 m_JS_charAt.2.1 m_JS_charAt.2.2.1 m_JS_charAt.2.2.2.1) := ⟨List.mem_append_right _ (List.mem_of_getElem? (i := 535) (by decide +kernel)), rfl⟩
theorem tm_JS_charAt : InT (.instanceMethod m_JS_charAt.1) := ⟨List.mem_append_right _ (List.mem_of_getElem? (i := 533) (by decide +kernel)), rfl⟩
theorem ts_JS_charAt : InT (.selects m_JS_charAt.1.cls m_JS_charAt.1 m_JS_charAt.1) := ⟨List.mem_append_right _ (List.mem_of_getElem? (i := 534) (by decide +kernel)), rfl⟩
theorem cal_JS_charAt : Cal m_JS_charAt 1 := ⟨Or.inl ⟨tc_JS_charAt, rfl⟩, by decide +kernel, ⟨by decide, by decide⟩, by decide +kernel, by decide⟩
theorem d_JS_charAt_0 : decode m_JS_charAt.2.1 0 = .ok (.aload_n 0, 1) := by decide +kernel
theorem d_JS_charAt_1 : decode m_JS_charAt.2.1 1 = .ok (.invokevirtual 492, 3) := by decide +kernel
theorem d_JS_charAt_4 : decode m_JS_charAt.2.1 4 = .ok (.ifCond .eq 12, 3) := by decide +kernel
theorem d_JS_charAt_7 : decode m_JS_charAt.2.1 7 = .ok (.aload_n 0, 1) := by decide +kernel
theorem d_JS_charAt_8 : decode m_JS_charAt.2.1 8 = .ok (.getfield 9, 3) := by decide +kernel
theorem d_JS_charAt_11 : decode m_JS_charAt.2.1 11 = .ok (.iload_n 1, 1) := by decide +kernel
theorem d_JS_charAt_12 : decode m_JS_charAt.2.1 12 = .ok (.invokestatic 495, 3) := by decide +kernel
theorem d_JS_charAt_15 : decode m_JS_charAt.2.1 15 = .ok (.ireturn, 1) := by decide +kernel
theorem d_JS_charAt_16 : decode m_JS_charAt.2.1 16 = .ok (.aload_n 0, 1) := by decide +kernel
theorem d_JS_charAt_17 : decode m_JS_charAt.2.1 17 = .ok (.getfield 9, 3) := by decide +kernel
theorem d_JS_charAt_20 : decode m_JS_charAt.2.1 20 = .ok (.iload_n 1, 1) := by decide +kernel
theorem d_JS_charAt_21 : decode m_JS_charAt.2.1 21 = .ok (.invokestatic 498, 3) := by decide +kernel
theorem d_JS_charAt_24 : decode m_JS_charAt.2.1 24 = .ok (.ireturn, 1) := by decide +kernel
abbrev m_JS_isLatin1 : Mt := (⟨"java/lang/String", "isLatin1", "()Z"⟩, prog_13_method_154_code, 1, (some .boolean), [])
theorem tc_JS_isLatin1 : InT (.code m_JS_isLatin1.1 m_JS_isLatin1.2.1 m_JS_isLatin1.2.2.1 m_JS_isLatin1.2.2.2.1) := ⟨List.mem_append_right _ (List.mem_of_getElem? (i := 539) (by decide +kernel)), rfl⟩
theorem tm_JS_isLatin1 : InT (.instanceMethod m_JS_isLatin1.1) := ⟨List.mem_append_right _ (List.mem_of_getElem? (i := 537) (by decide +kernel)), rfl⟩
theorem ts_JS_isLatin1 : InT (.selects m_JS_isLatin1.1.cls m_JS_isLatin1.1 m_JS_isLatin1.1) := ⟨List.mem_append_right _ (List.mem_of_getElem? (i := 538) (by decide +kernel)), rfl⟩
theorem cal_JS_isLatin1 : Cal m_JS_isLatin1 0 := ⟨Or.inl ⟨tc_JS_isLatin1, rfl⟩, by decide +kernel, ⟨by decide, by decide⟩, by decide +kernel, by decide⟩
theorem d_JS_isLatin1_0 : decode m_JS_isLatin1.2.1 0 = .ok (.getstatic 38, 3) := by decide +kernel
theorem d_JS_isLatin1_3 : decode m_JS_isLatin1.2.1 3 = .ok (.ifCond .eq 14, 3) := by decide +kernel
theorem d_JS_isLatin1_6 : decode m_JS_isLatin1.2.1 6 = .ok (.aload_n 0, 1) := by decide +kernel
theorem d_JS_isLatin1_7 : decode m_JS_isLatin1.2.1 7 = .ok (.getfield 15, 3) := by decide +kernel
theorem d_JS_isLatin1_10 : decode m_JS_isLatin1.2.1 10 = .ok (.ifCond .ne 7, 3) := by decide +kernel
theorem d_JS_isLatin1_13 : decode m_JS_isLatin1.2.1 13 = .ok (.iconst 1, 1) := by decide +kernel
theorem d_JS_isLatin1_14 : decode m_JS_isLatin1.2.1 14 = .ok (.goto 4, 3) := by decide +kernel
theorem d_JS_isLatin1_17 : decode m_JS_isLatin1.2.1 17 = .ok (.iconst 0, 1) := by decide +kernel
theorem d_JS_isLatin1_18 : decode m_JS_isLatin1.2.1 18 = .ok (.ireturn, 1) := by decide +kernel
abbrev m_JL_charAt : Mt := (⟨"java/lang/StringLatin1", "charAt", "([BI)C"⟩, prog_14_method_2_code, 2, (some .char), [])
theorem tc_JL_charAt : InT (.code m_JL_charAt.1 m_JL_charAt.2.1 m_JL_charAt.2.2.1 m_JL_charAt.2.2.2.1) := ⟨List.mem_append_right _ (List.mem_of_getElem? (i := 542) (by decide +kernel)), rfl⟩
theorem tm_JL_charAt : InT (.static m_JL_charAt.1) := ⟨List.mem_append_right _ (List.mem_of_getElem? (i := 541) (by decide +kernel)), rfl⟩
theorem cal_JL_charAt : Cal m_JL_charAt 2 := ⟨Or.inl ⟨tc_JL_charAt, rfl⟩, by decide +kernel, ⟨by decide, by decide⟩, by decide +kernel, by decide⟩
theorem d_JL_charAt_0 : decode m_JL_charAt.2.1 0 = .ok (.iload_n 1, 1) := by decide +kernel
theorem d_JL_charAt_1 : decode m_JL_charAt.2.1 1 = .ok (.aload_n 0, 1) := by decide +kernel
theorem d_JL_charAt_2 : decode m_JL_charAt.2.1 2 = .ok (.arraylength, 1) := by decide +kernel
theorem d_JL_charAt_3 : decode m_JL_charAt.2.1 3 = .ok (.invokestatic 9, 3) := by decide +kernel
theorem d_JL_charAt_6 : decode m_JL_charAt.2.1 6 = .ok (.aload_n 0, 1) := by decide +kernel
theorem d_JL_charAt_7 : decode m_JL_charAt.2.1 7 = .ok (.iload_n 1, 1) := by decide +kernel
theorem d_JL_charAt_8 : decode m_JL_charAt.2.1 8 = .ok (.baload, 1) := by decide +kernel
theorem d_JL_charAt_9 : decode m_JL_charAt.2.1 9 = .ok (.sipush 255, 3) := by decide +kernel
theorem d_JL_charAt_12 : decode m_JL_charAt.2.1 12 = .ok (.iand, 1) := by decide +kernel
theorem d_JL_charAt_13 : decode m_JL_charAt.2.1 13 = .ok (.i2c, 1) := by decide +kernel
theorem d_JL_charAt_14 : decode m_JL_charAt.2.1 14 = .ok (.ireturn, 1) := by decide +kernel
abbrev m_JS_checkIndex : Mt := (⟨"java/lang/String", "checkIndex", "(II)V"⟩, prog_13_method_155_code, 2, none, [])
theorem tc_JS_checkIndex : InT (.code m_JS_checkIndex.1 m_JS_checkIndex.2.1 m_JS_checkIndex.2.2.1 m_JS_checkIndex.2.2.2.1) := ⟨List.mem_append_right _ (List.mem_of_getElem? (i := 545) (by decide +kernel)), rfl⟩
theorem tm_JS_checkIndex : InT (.static m_JS_checkIndex.1) := ⟨List.mem_append_right _ (List.mem_of_getElem? (i := 544) (by decide +kernel)), rfl⟩
theorem cal_JS_checkIndex : Cal m_JS_checkIndex 2 := ⟨Or.inl ⟨tc_JS_checkIndex, rfl⟩, by decide +kernel, ⟨by decide, by decide⟩, by decide +kernel, by decide⟩
theorem d_JS_checkIndex_0 : decode m_JS_checkIndex.2.1 0 = .ok (.iload_n 0, 1) := by decide +kernel
theorem d_JS_checkIndex_1 : decode m_JS_checkIndex.2.1 1 = .ok (.iload_n 1, 1) := by decide +kernel
theorem d_JS_checkIndex_2 : decode m_JS_checkIndex.2.1 2 = .ok (.getstatic 1053, 3) := by decide +kernel
theorem d_JS_checkIndex_5 : decode m_JS_checkIndex.2.1 5 = .ok (.invokestatic 1059, 3) := by decide +kernel
theorem d_JS_checkIndex_8 : decode m_JS_checkIndex.2.1 8 = .ok (.pop, 1) := by decide +kernel
theorem d_JS_checkIndex_9 : decode m_JS_checkIndex.2.1 9 = .ok (.return_, 1) := by decide +kernel
abbrev m_JP_checkIndex : Mt := (⟨"jdk/internal/util/Preconditions", "checkIndex", "(IILjava/util/function/BiFunction;)I"⟩, prog_19_method_11_code, 3, (some .int), [])
theorem tc_JP_checkIndex : InT (.code m_JP_checkIndex.1 m_JP_checkIndex.2.1 m_JP_checkIndex.2.2.1 m_JP_checkIndex.2.2.2.1) := ⟨List.mem_append_right _ (List.mem_of_getElem? (i := 550) (by decide +kernel)), rfl⟩
theorem tm_JP_checkIndex : InT (.static m_JP_checkIndex.1) := ⟨List.mem_append_right _ (List.mem_of_getElem? (i := 549) (by decide +kernel)), rfl⟩
theorem cal_JP_checkIndex : Cal m_JP_checkIndex 3 := ⟨Or.inl ⟨tc_JP_checkIndex, rfl⟩, by decide +kernel, ⟨by decide, by decide⟩, by decide +kernel, by decide⟩
theorem d_JP_checkIndex_0 : decode m_JP_checkIndex.2.1 0 = .ok (.iload_n 0, 1) := by decide +kernel
theorem d_JP_checkIndex_1 : decode m_JP_checkIndex.2.1 1 = .ok (.ifCond .lt 8, 3) := by decide +kernel
theorem d_JP_checkIndex_4 : decode m_JP_checkIndex.2.1 4 = .ok (.iload_n 0, 1) := by decide +kernel
theorem d_JP_checkIndex_5 : decode m_JP_checkIndex.2.1 5 = .ok (.iload_n 1, 1) := by decide +kernel
theorem d_JP_checkIndex_6 : decode m_JP_checkIndex.2.1 6 = .ok (.if_icmp .lt 10, 3) := by decide +kernel
theorem d_JP_checkIndex_9 : decode m_JP_checkIndex.2.1 9 = .ok (.aload_n 2, 1) := by decide +kernel
theorem d_JP_checkIndex_10 : decode m_JP_checkIndex.2.1 10 = .ok (.iload_n 0, 1) := by decide +kernel
theorem d_JP_checkIndex_11 : decode m_JP_checkIndex.2.1 11 = .ok (.iload_n 1, 1) := by decide +kernel
theorem d_JP_checkIndex_12 : decode m_JP_checkIndex.2.1 12 = .ok (.invokestatic 95, 3) := by decide +kernel
theorem d_JP_checkIndex_15 : decode m_JP_checkIndex.2.1 15 = .ok (.athrow, 1) := by decide +kernel
theorem d_JP_checkIndex_16 : decode m_JP_checkIndex.2.1 16 = .ok (.iload_n 0, 1) := by decide +kernel
theorem d_JP_checkIndex_17 : decode m_JP_checkIndex.2.1 17 = .ok (.ireturn, 1) := by decide +kernel
theorem lf_JS_9 : InT (.fieldLink "java/lang/String" 9 "java/lang/String" "value" "[B") := ⟨List.mem_append_right _ (List.mem_of_getElem? (i := 1077) (by decide +kernel)), rfl⟩
theorem lf_JS_15 : InT (.fieldLink "java/lang/String" 15 "java/lang/String" "coder" "B") := ⟨List.mem_append_right _ (List.mem_of_getElem? (i := 1078) (by decide +kernel)), rfl⟩
theorem lf_JS_38 : InT (.fieldLink "java/lang/String" 38 "java/lang/String" "COMPACT_STRINGS" "Z") := ⟨List.mem_append_right _ (List.mem_of_getElem? (i := 198) (by decide +kernel)), rfl⟩
theorem lk_JS_335 : InT (.methodLink "java/lang/String" 335 m_JS_coder.1) := ⟨List.mem_append_right _ (List.mem_of_getElem? (i := 194) (by decide +kernel)), rfl⟩
theorem lk_JS_492 : InT (.methodLink "java/lang/String" 492 m_JS_isLatin1.1) := ⟨List.mem_append_right _ (List.mem_of_getElem? (i := 536) (by decide +kernel)), rfl⟩
theorem lk_JS_495 : InT (.methodLink "java/lang/String" 495 m_JL_charAt.1) := ⟨List.mem_append_right _ (List.mem_of_getElem? (i := 540) (by decide +kernel)), rfl⟩
theorem lf_JS_1053 : InT (.fieldLink "java/lang/String" 1053 "jdk/internal/util/Preconditions" "SIOOBE_FORMATTER" "Ljava/util/function/BiFunction;") := ⟨List.mem_append_right _ (List.mem_of_getElem? (i := 546) (by decide +kernel)), rfl⟩
theorem lk_JS_1059 : InT (.methodLink "java/lang/String" 1059 m_JP_checkIndex.1) := ⟨List.mem_append_right _ (List.mem_of_getElem? (i := 548) (by decide +kernel)), rfl⟩
theorem lk_JL_9 : InT (.methodLink "java/lang/StringLatin1" 9 m_JS_checkIndex.1) := ⟨List.mem_append_right _ (List.mem_of_getElem? (i := 543) (by decide +kernel)), rfl⟩
theorem lk_JU_414 : InT (.methodLink "java/lang/StringUTF16" 414 m_JS_checkIndex.1) := ⟨List.mem_append_right _ (List.mem_of_getElem? (i := 560) (by decide +kernel)), rfl⟩
section JDK
variable {d : Nat} {h : mH} {P : mR → mH → Prop}
theorem ep_sioobe {M : Mt} {pc ix : Nat} {lv : List (Nat × Value)} {st : List Value} {r : mR} {h2 : mH} (hd : decode M.2.1 pc = .ok (.getstatic ix, 3)) (hl : InT (.fieldLink M.1.cls ix "jdk/internal/util/Preconditions" "SIOOBE_FORMATTER" "Ljava/util/function/BiFunction;")) (k1 : EvP M d (pc + 3) lv (.null :: st) h (fun r' h' => r' = r ∧ h' = h2)) (k2 : EvP M d (pc + 3) lv (.retAddr 200 :: st) h (fun r' h' => r' = r ∧ h' = h2)) : EvP M d pc lv st h (fun r' h' => r' = r ∧ h' = h2) := by
  obtain ⟨r1, h1, e1, rfl, rfl⟩ := k1
  obtain ⟨r2, h2, e2, rfl, rfl⟩ := k2
  exact ⟨_, _, ev_sioobe hd hl e1 e2, rfl, rfl⟩
theorem js_coder {i : Nat} (hi : i < 2) : EvP m_JS_coder d 0 [(0, .retAddr i)] [] h (Ri 0 h) := by
  refine ep_compact d_JS_coder_0 lf_JS_38 ?_
  refine ep_if_eq (tgt := 13) d_JS_coder_3 (by decide) (fun z => absurd z (by decide)) (fun _ => ?_)
  refine ep_aloadS (j := 0) d_JS_coder_6 rfl rfl ?_
  refine ep_strcoder d_JS_coder_7 hi lf_JS_15 ?_
  refine ep_goto (tgt := 14) d_JS_coder_10 (by decide) ?_
  exact ep_iret d_JS_coder_14 rfl rfl ⟨rfl, rfl⟩
theorem js_latin {i : Nat} (hi : i < 2) : EvP m_JS_isLatin1 d 0 [(0, .retAddr i)] [] h (Ri 1 h) := by
  refine ep_compact d_JS_isLatin1_0 lf_JS_38 ?_
  refine ep_if_eq (tgt := 17) d_JS_isLatin1_3 (by decide) (fun z => absurd z (by decide)) (fun _ => ?_)
  refine ep_aloadS (j := 0) d_JS_isLatin1_6 rfl rfl ?_
  refine ep_strcoder d_JS_isLatin1_7 hi lf_JS_15 ?_
  refine ep_if_ne (tgt := 17) d_JS_isLatin1_10 (by decide) (fun z => absurd rfl z) (fun _ => ?_)
  refine ep_iconst (v := 1) d_JS_isLatin1_13 (by decide) ?_
  refine ep_goto (tgt := 18) d_JS_isLatin1_14 (by decide) ?_
  exact ep_iret d_JS_isLatin1_18 rfl rfl ⟨rfl, rfl⟩
theorem js_shr0 (n : Nat) : nI n >>> ((0 : Int32) &&& 31) = nI n := sb_shr0 _
theorem js_length {i n : Nat} (hi : i < 2) (hn : lenStr.getD i 0 = n) : EvP m_JS_length (d + 1) 0 [(0, .retAddr i)] [] h (Ri (nI n) h) := by
  refine ep_aloadS (j := 0) d_JS_length_0 rfl rfl ?_
  refine ep_strval d_JS_length_1 hi lf_JS_9 ?_
  refine ep_strlen d_JS_length_4 hi hn ?_
  refine ep_aloadS (j := 0) d_JS_length_5 rfl rfl ?_
  refine ep_callVs (As := []) (st := [.int (nI n)]) d_JS_length_6 lk_JS_335 cal_JS_coder tm_JS_coder ts_JS_coder hi rfl rfl (Nat.le_of_ble_eq_true rfl) (Nat.le_of_ble_eq_true rfl) rfl (js_coder hi) (fun r h1 q => ⟨some (.int 0), q.1, ?_⟩)
  obtain ⟨q1, q2⟩ := q
  subst q2
  refine ep_ishr d_JS_length_9 ?_
  exact ep_iret d_JS_length_10 rfl rfl ⟨by rw [js_shr0], rfl⟩
theorem jp_check {v : Value} {j n : Nat} (hv : v = .null ∨ v = .retAddr 200) (hj : j < n) (hn : n < 2 ^ 31) : EvP m_JP_checkIndex d 0 [(0, .int (nI j)), (1, .int (nI n)), (2, v)] [] h (Ri (nI j) h) := by
  refine ep_iload_n (j := 0) d_JP_checkIndex_0 rfl rfl ?_
  refine ep_if_lt (tgt := 9) d_JP_checkIndex_1 (by decide) (fun z => absurd z (nI_pos (by omega))) (fun _ => ?_)
  refine ep_iload_n (j := 0) d_JP_checkIndex_4 rfl rfl ?_
  refine ep_iload_n (j := 1) d_JP_checkIndex_5 rfl rfl ?_
  refine ep_icmp_lt (tgt := 16) d_JP_checkIndex_6 (by decide) (fun _ => ?_) (fun z => absurd (nI_lt hj hn) z)
  refine ep_iload_n (j := 0) d_JP_checkIndex_16 rfl rfl ?_
  exact ep_iret d_JP_checkIndex_17 rfl rfl ⟨rfl, rfl⟩
theorem js_check {j n : Nat} (hj : j < n) (hn : n < 2 ^ 31) : EvP m_JS_checkIndex (d + 1) 0 [(0, .int (nI j)), (1, .int (nI n))] [] h (Rv h) := by
  refine ep_iload_n (j := 0) d_JS_checkIndex_0 rfl rfl ?_
  refine ep_iload_n (j := 1) d_JS_checkIndex_1 rfl rfl ?_
  refine ep_sioobe d_JS_checkIndex_2 lf_JS_1053 ?_ ?_
  · refine ep_callSi (As := [.int (nI j), .int (nI n), .null]) (st := []) d_JS_checkIndex_5 (Or.inl lk_JS_1059) cal_JP_checkIndex tm_JP_checkIndex ti_JP rfl (Nat.le_of_ble_eq_true rfl) (Nat.le_of_ble_eq_true rfl) rfl rfl (jp_check (Or.inl rfl) hj hn) ?_
    refine ep_pop d_JS_checkIndex_8 rfl ?_
    exact ep_vret d_JS_checkIndex_9 rfl ⟨rfl, rfl⟩
  · refine ep_callSi (As := [.int (nI j), .int (nI n), .retAddr 200]) (st := []) d_JS_checkIndex_5 (Or.inl lk_JS_1059) cal_JP_checkIndex tm_JP_checkIndex ti_JP rfl (Nat.le_of_ble_eq_true rfl) (Nat.le_of_ble_eq_true rfl) rfl rfl (jp_check (Or.inr rfl) hj hn) ?_
    refine ep_pop d_JS_checkIndex_8 rfl ?_
    exact ep_vret d_JS_checkIndex_9 rfl ⟨rfl, rfl⟩
/-- the letter of a text constant -/
def stCh (i j : Nat) : Int32 := (bytStr.getD i []).getD j 0
theorem stCh_ok : ∀ i, i < 2 → lenStr.getD i 0 ≤ 8 ∧ ∀ j, j < 8 → j < lenStr.getD i 0 → ((stCh i j &&& 255).toUInt32 % 65536).toInt32 = stCh i j ∧ narrow .char (.int (stCh i j)) = .int (stCh i j) := by decide +kernel
theorem jl_charAt {i j n : Nat} (hi : i < 2) (hn : lenStr.getD i 0 = n) (hj : j < n) : EvP m_JL_charAt (d + 2) 0 [(0, .retAddr (100 + i)), (1, .int (nI j))] [] h (Ri (stCh i j) h) := by
  have hn8 := (stCh_ok i hi).1
  rw [hn] at hn8
  have hc := (stCh_ok i hi).2 j (by omega) (by rw [hn]; exact hj)
  refine ep_iload_n (j := 1) d_JL_charAt_0 rfl rfl ?_
  refine ep_aloadS (j := 0) d_JL_charAt_1 rfl rfl ?_
  refine ep_strlen d_JL_charAt_2 hi hn ?_
  refine ep_callS (As := [.int (nI j), .int (nI n)]) (st := []) d_JL_charAt_3 (Or.inl lk_JL_9) cal_JS_checkIndex tm_JS_checkIndex ti_JS rfl (Nat.le_of_ble_eq_true rfl) (Nat.le_of_ble_eq_true rfl) rfl rfl (js_check hj (by omega)) (fun v h1 q => ?_) (fun x h1 q => nomatch q.1)
  obtain ⟨q1, q2⟩ := q
  cases q1
  subst q2
  refine ep_aloadS (j := 0) d_JL_charAt_6 rfl rfl ?_
  refine ep_iload_n (j := 1) d_JL_charAt_7 rfl rfl ?_
  refine ep_strb d_JL_charAt_8 hi rfl hn hj (by omega) ?_
  refine ep_sipush (v := 255) d_JL_charAt_9 (by decide) ?_
  refine ep_iand d_JL_charAt_12 ?_
  refine ep_i2c (v := stCh i j) d_JL_charAt_13 hc.1 ?_
  exact ep_iret d_JL_charAt_14 rfl hc.2 ⟨rfl, rfl⟩
theorem js_charAt {i j n : Nat} (hi : i < 2) (hn : lenStr.getD i 0 = n) (hj : j < n) : EvP m_JS_charAt (d + 3) 0 [(0, .retAddr i), (1, .int (nI j))] [] h (Ri (stCh i j) h) := by
  have hc := (stCh_ok i hi).2 j (by have := (stCh_ok i hi).1; omega) (by rw [hn]; exact hj)
  refine ep_aloadS (j := 0) d_JS_charAt_0 rfl rfl ?_
  refine ep_callVs (As := []) (st := []) d_JS_charAt_1 lk_JS_492 cal_JS_isLatin1 tm_JS_isLatin1 ts_JS_isLatin1 hi rfl rfl (Nat.le_of_ble_eq_true rfl) (Nat.le_of_ble_eq_true rfl) rfl (js_latin hi) (fun r h1 q => ⟨some (.int 1), q.1, ?_⟩)
  obtain ⟨q1, q2⟩ := q
  subst q2
  refine ep_if_eq (tgt := 16) d_JS_charAt_4 (by decide) (fun z => absurd z (by decide)) (fun _ => ?_)
  refine ep_aloadS (j := 0) d_JS_charAt_7 rfl rfl ?_
  refine ep_strval d_JS_charAt_8 hi lf_JS_9 ?_
  refine ep_iload_n (j := 1) d_JS_charAt_11 rfl rfl ?_
  refine ep_callSi (As := [.retAddr (100 + i), .int (nI j)]) (st := []) d_JS_charAt_12 (Or.inl lk_JS_495) cal_JL_charAt tm_JL_charAt ti_JL rfl (Nat.le_of_ble_eq_true rfl) (Nat.le_of_ble_eq_true rfl) rfl rfl (jl_charAt hi hn hj) ?_
  exact ep_iret d_JS_charAt_15 rfl hc.2 ⟨rfl, rfl⟩
end JDK
