/-! texts' calls as rules, answers yes and no, the static methods of the class; by program (wip/whole/gen20.py) -/
section EX
variable {M N : Mt} {d pc np : Nat} {lv : List (Nat × Value)} {st st0 As : List Value} {h h2 : mH} {P P1 : mR → mH → Prop}
theorem ep_strLen {ix i n : Nat} (hd : decode M.2.1 pc = .ok (.invokevirtual ix, 3)) (hl : InT (.methodLink M.1.cls ix m_JS_length.1)) (hi : i < 2) (hn : lenStr.getD i 0 = n) (hcat : (st.map fun v => v.category).sum ≤ 8) (hst : st0 = .retAddr i :: st) (k : EvP M (d + 2) (pc + 3) lv (.int (nI n) :: st) h P) : EvP M (d + 2) pc lv st0 h P :=
  ep_callVs (As := []) hd hl cal_JS_length tm_JS_length ts_JS_length hi rfl rfl (Nat.le_of_ble_eq_true rfl) hcat (by rw [hst]; rfl) (js_length hi hn) (fun r h1 q => ⟨some (.int (nI n)), q.1, by rw [q.2]; exact k⟩)
theorem ep_strChr {ix i n j : Nat} {x : Int32} (hd : decode M.2.1 pc = .ok (.invokevirtual ix, 3)) (hl : InT (.methodLink M.1.cls ix m_JS_charAt.1)) (hi : i < 2) (hn : lenStr.getD i 0 = n) (hx : x = nI j) (hj : j < n) (hcat : (st.map fun v => v.category).sum ≤ 8) (hst : st0 = .int x :: .retAddr i :: st) (k : EvP M (d + 4) (pc + 3) lv (.int (stCh i j) :: st) h P) : EvP M (d + 4) pc lv st0 h P := by
  subst hx
  exact ep_callVs (As := [.int (nI j)]) hd hl cal_JS_charAt tm_JS_charAt ts_JS_charAt hi rfl rfl (Nat.le_of_ble_eq_true rfl) hcat (by rw [hst]; rfl) (js_charAt hi hn hj) (fun r h1 q => ⟨some (.int (stCh i j)), q.1, by rw [q.2]; exact k⟩)
theorem ep_callVb {ix o ci : Nat} {fs : List Value} {B : Prop} [dB : Decidable B] (hd : decode M.2.1 pc = .ok (.invokevirtual ix, 3)) (hl : InT (.methodLink M.1.cls ix N.1)) (hN : Cal N np) (hm : InT (.instanceMethod N.1)) (hs : InT (.selects N.1.cls N.1 N.1)) (ho : h[o]? = some (.inl (ci, fs))) (hci : (vCl[ci]?).map (fun q => q.1) = some N.1.cls) (hnp : As.length = np) (hal : ((Value.ref o :: As).map fun v => v.category).sum ≤ N.2.2.1) (hcat : (st.map fun v => v.category).sum ≤ 8) (hst : st0 = As.reverse ++ .ref o :: st) (hh : M.2.2.2.2 = [])
    (ev : EvP N d 0 (lv_args 0 (.ref o :: As)) [] h (Ri (if B then 1 else 0) h2)) (k1 : B → EvP M (d + 1) (pc + 3) lv (.int 1 :: st) h2 P) (k2 : ¬ B → EvP M (d + 1) (pc + 3) lv (.int 0 :: st) h2 P) : EvP M (d + 1) pc lv st0 h P := by
  refine ep_callVi hd hl hN hm hs ho hci hnp hal hcat hst hh ev ?_
  by_cases q : B
  · rw [if_pos q]; exact k1 q
  · rw [if_neg q]; exact k2 q
theorem ep_callSb {ix : Nat} {B : Prop} [dB : Decidable B] (hd : decode M.2.1 pc = .ok (.invokestatic ix, 3)) (hl : InT (.methodLink M.1.cls ix N.1) ∨ ∃ host, InT (.methodLinkNest M.1.cls ix N.1 host)) (hN : Cal N np) (hm : InT (.static N.1)) (hi : InT (.initialized N.1.cls)) (hnp : As.length = np) (hal : (As.map fun v => v.category).sum ≤ N.2.2.1) (hcat : (st.map fun v => v.category).sum ≤ 8) (hst : st0 = As.reverse ++ st) (hh : M.2.2.2.2 = [])
    (ev : EvP N d 0 (lv_args 0 As) [] h (Ri (if B then 1 else 0) h2)) (k1 : B → EvP M (d + 1) (pc + 3) lv (.int 1 :: st) h2 P) (k2 : ¬ B → EvP M (d + 1) (pc + 3) lv (.int 0 :: st) h2 P) : EvP M (d + 1) pc lv st0 h P := by
  refine ep_callSi hd hl hN hm hi hnp hal hcat hst hh ev ?_
  by_cases q : B
  · rw [if_pos q]; exact k1 q
  · rw [if_neg q]; exact k2 q
end EX
/-- a letter a .. z -/
abbrev smP (x : Int32) : Prop := ¬ x < 97 ∧ ¬ 122 < x
abbrev tyB (x : Int32) : Prop := ¬ x < 33 ∧ ¬ 126 < x
/-- shift of an int's bits to the right, zeros from the left -/
def ush (x : Int32) (k : Int32) : Int32 := (x.toUInt32 >>> (k.toUInt32 &&& Int32.toUInt32 31)).toInt32
/-- how many bytes an ID takes -/
def lenId (x : Int32) : Int32 := if ush x 8 = 0 then 1 else if ush x 16 = 0 then 2 else if ush x 24 = 0 then 3 else 4
theorem lenId_or (x : Int32) : lenId x = 1 ∨ lenId x = 2 ∨ lenId x = 3 ∨ lenId x = 4 := by
  unfold lenId
  split
  · exact Or.inl rfl
  · split
    · exact Or.inr (Or.inl rfl)
    · split
      · exact Or.inr (Or.inr (Or.inl rfl))
      · exact Or.inr (Or.inr (Or.inr rfl))
/-- the bytes of an ID -/
def byId (x : Int32) (k : Int32) : Int32 := ush x k &&& 255
abbrev idP (x : Int32) : Prop := (lenId x = 1 ∧ smP (byId x 0)) ∨ (lenId x = 2 ∧ smP (byId x 0) ∧ smP (byId x 8)) ∨ (lenId x = 3 ∧ smP (byId x 0) ∧ smP (byId x 8) ∧ smP (byId x 16))
/-- the builtin of a letter -/
def bolF (x : Int32) : Int32 := if stCh 0 0 = x then 0 else if stCh 0 1 = x then 1 else if stCh 0 2 = x then 2 else if stCh 0 3 = x then 3 else if stCh 0 4 = x then 4 else if stCh 0 5 = x then 5 else if stCh 0 6 = x then 6 else if stCh 0 7 = x then 7 else -1
section NS
variable {d : Nat} {h : mH}
set_option maxHeartbeats 4000000 in
set_option maxRecDepth 100000 in
theorem N_isTypeable (x : Int32) : EvP m_N_isTypeable (d) 0 [(0, .int x)] [] h (Ri (if tyB x then 1 else 0) h) := by
  refine ep_iload_n (j := 0) d_N_isTypeable_0 rfl rfl ?_
  refine ep_bipush (v := 33) d_N_isTypeable_1 (by decide) ?_
  refine ep_icmp_lt (tgt := 16) d_N_isTypeable_3 (by decide) (fun c3 => ?_) (fun c3 => ?_)
  · refine ep_iconst (v := 0) d_N_isTypeable_16 (by decide) ?_
    exact ep_iret d_N_isTypeable_17 rfl rfl (Ri_of (by simp [tyB, c3]))
  · refine ep_iload_n (j := 0) d_N_isTypeable_6 rfl rfl ?_
    refine ep_bipush (v := 126) d_N_isTypeable_7 (by decide) ?_
    refine ep_icmp_gt (tgt := 16) d_N_isTypeable_9 (by decide) (fun c9 => ?_) (fun c9 => ?_)
    · refine ep_iconst (v := 0) d_N_isTypeable_16 (by decide) ?_
      exact ep_iret d_N_isTypeable_17 rfl rfl (Ri_of (by simp [tyB, c3, c9]))
    · refine ep_iconst (v := 1) d_N_isTypeable_12 (by decide) ?_
      refine ep_goto (tgt := 17) d_N_isTypeable_13 (by decide) ?_
      exact ep_iret d_N_isTypeable_17 rfl rfl (Ri_of (by simp [tyB, c3, c9]))
set_option maxHeartbeats 4000000 in
set_option maxRecDepth 100000 in
theorem N_isSmallLetter (x : Int32) : EvP m_N_isSmallLetter (d) 0 [(0, .int x)] [] h (Ri (if smP x then 1 else 0) h) := by
  refine ep_iload_n (j := 0) d_N_isSmallLetter_0 rfl rfl ?_
  refine ep_bipush (v := 97) d_N_isSmallLetter_1 (by decide) ?_
  refine ep_icmp_lt (tgt := 16) d_N_isSmallLetter_3 (by decide) (fun c3 => ?_) (fun c3 => ?_)
  · refine ep_iconst (v := 0) d_N_isSmallLetter_16 (by decide) ?_
    exact ep_iret d_N_isSmallLetter_17 rfl rfl (Ri_of (by simp [smP, c3]))
  · refine ep_iload_n (j := 0) d_N_isSmallLetter_6 rfl rfl ?_
    refine ep_bipush (v := 122) d_N_isSmallLetter_7 (by decide) ?_
    refine ep_icmp_gt (tgt := 16) d_N_isSmallLetter_9 (by decide) (fun c9 => ?_) (fun c9 => ?_)
    · refine ep_iconst (v := 0) d_N_isSmallLetter_16 (by decide) ?_
      exact ep_iret d_N_isSmallLetter_17 rfl rfl (Ri_of (by simp [smP, c3, c9]))
    · refine ep_iconst (v := 1) d_N_isSmallLetter_12 (by decide) ?_
      refine ep_goto (tgt := 17) d_N_isSmallLetter_13 (by decide) ?_
      exact ep_iret d_N_isSmallLetter_17 rfl rfl (Ri_of (by simp [smP, c3, c9]))
set_option maxHeartbeats 4000000 in
set_option maxRecDepth 100000 in
theorem N_lengthOfId (x : Int32) : EvP m_N_lengthOfId (d) 0 [(0, .int x)] [] h (Ri (lenId x) h) := by
  refine ep_iconst (v := 1) d_N_lengthOfId_0 (by decide) ?_
  refine ep_istore_n (lv' := [(0, .int x), (1, .int 1)]) [1, 0] d_N_lengthOfId_1 rfl (by decide) rfl ?_
  refine ep_iload_n (j := 1) d_N_lengthOfId_2 rfl rfl ?_
  refine ep_iconst (v := 4) d_N_lengthOfId_3 (by decide) ?_
  refine ep_icmp_ge (tgt := 22) d_N_lengthOfId_4 (by decide) (fun z => absurd z (by decide)) (fun _ => ?_)
  refine ep_iload_n (j := 0) d_N_lengthOfId_7 rfl rfl ?_
  refine ep_bipush (v := 8) d_N_lengthOfId_8 (by decide) ?_
  refine ep_iload_n (j := 1) d_N_lengthOfId_10 rfl rfl ?_
  refine ep_imul d_N_lengthOfId_11 ?_
  refine ep_cg (y := 8) (by decide) ?_
  refine ep_iushr d_N_lengthOfId_12 ?_
  refine ep_cg (y := ush x 8) rfl ?_
  refine ep_if_eq (tgt := 22) d_N_lengthOfId_13 (by decide) (fun c13 => ?_) (fun c13 => ?_)
  · refine ep_iload_n (j := 1) d_N_lengthOfId_22 rfl rfl ?_
    exact ep_iret d_N_lengthOfId_23 rfl rfl (Ri_of (by simp [lenId, c13]))
  · refine ep_iinc (v := 2) (j := 1) (lv' := [(0, .int x), (1, .int 2)]) [1, 0] d_N_lengthOfId_16 rfl (by decide) (by decide) rfl ?_
    refine ep_goto (tgt := 2) d_N_lengthOfId_19 (by decide) ?_
    refine ep_iload_n (j := 1) d_N_lengthOfId_2 rfl rfl ?_
    refine ep_iconst (v := 4) d_N_lengthOfId_3 (by decide) ?_
    refine ep_icmp_ge (tgt := 22) d_N_lengthOfId_4 (by decide) (fun z => absurd z (by decide)) (fun _ => ?_)
    refine ep_iload_n (j := 0) d_N_lengthOfId_7 rfl rfl ?_
    refine ep_bipush (v := 8) d_N_lengthOfId_8 (by decide) ?_
    refine ep_iload_n (j := 1) d_N_lengthOfId_10 rfl rfl ?_
    refine ep_imul d_N_lengthOfId_11 ?_
    refine ep_cg (y := 16) (by decide) ?_
    refine ep_iushr d_N_lengthOfId_12 ?_
    refine ep_cg (y := ush x 16) rfl ?_
    refine ep_if_eq (tgt := 22) d_N_lengthOfId_13 (by decide) (fun c13_ => ?_) (fun c13_ => ?_)
    · refine ep_iload_n (j := 1) d_N_lengthOfId_22 rfl rfl ?_
      exact ep_iret d_N_lengthOfId_23 rfl rfl (Ri_of (by simp [lenId, c13, c13_]))
    · refine ep_iinc (v := 3) (j := 1) (lv' := [(0, .int x), (1, .int 3)]) [1, 0] d_N_lengthOfId_16 rfl (by decide) (by decide) rfl ?_
      refine ep_goto (tgt := 2) d_N_lengthOfId_19 (by decide) ?_
      refine ep_iload_n (j := 1) d_N_lengthOfId_2 rfl rfl ?_
      refine ep_iconst (v := 4) d_N_lengthOfId_3 (by decide) ?_
      refine ep_icmp_ge (tgt := 22) d_N_lengthOfId_4 (by decide) (fun z => absurd z (by decide)) (fun _ => ?_)
      refine ep_iload_n (j := 0) d_N_lengthOfId_7 rfl rfl ?_
      refine ep_bipush (v := 8) d_N_lengthOfId_8 (by decide) ?_
      refine ep_iload_n (j := 1) d_N_lengthOfId_10 rfl rfl ?_
      refine ep_imul d_N_lengthOfId_11 ?_
      refine ep_cg (y := 24) (by decide) ?_
      refine ep_iushr d_N_lengthOfId_12 ?_
      refine ep_cg (y := ush x 24) rfl ?_
      refine ep_if_eq (tgt := 22) d_N_lengthOfId_13 (by decide) (fun c13__ => ?_) (fun c13__ => ?_)
      · refine ep_iload_n (j := 1) d_N_lengthOfId_22 rfl rfl ?_
        exact ep_iret d_N_lengthOfId_23 rfl rfl (Ri_of (by simp [lenId, c13, c13_, c13__]))
      · refine ep_iinc (v := 4) (j := 1) (lv' := [(0, .int x), (1, .int 4)]) [1, 0] d_N_lengthOfId_16 rfl (by decide) (by decide) rfl ?_
        refine ep_goto (tgt := 2) d_N_lengthOfId_19 (by decide) ?_
        refine ep_iload_n (j := 1) d_N_lengthOfId_2 rfl rfl ?_
        refine ep_iconst (v := 4) d_N_lengthOfId_3 (by decide) ?_
        refine ep_icmp_ge (tgt := 22) d_N_lengthOfId_4 (by decide) (fun _ => ?_) (fun z => absurd (by decide) z)
        refine ep_iload_n (j := 1) d_N_lengthOfId_22 rfl rfl ?_
        exact ep_iret d_N_lengthOfId_23 rfl rfl (Ri_of (by simp [lenId, c13, c13_, c13__]))
set_option maxHeartbeats 4000000 in
set_option maxRecDepth 100000 in
theorem N_isId (x : Int32) : EvP m_N_isId (d + 1) 0 [(0, .int x)] [] h (Ri (if idP x then 1 else 0) h) := by
  refine ep_iload_n (j := 0) d_N_isId_0 rfl rfl ?_
  refine ep_callSi (As := [.int x]) (st := []) d_N_isId_1 (Or.inl lk_N_132) cal_N_lengthOfId tm_N_lengthOfId ti_N rfl (Nat.le_of_ble_eq_true rfl) (Nat.le_of_ble_eq_true rfl) rfl rfl (N_lengthOfId x) ?_
  rcases lenId_or x with e | e | e | e
  · refine ep_cg (y := 1) e ?_
    refine ep_istore_n (lv' := [(0, .int x), (1, .int 1)]) [1, 0] d_N_isId_4 rfl (by decide) rfl ?_
    refine ep_iload_n (j := 1) d_N_isId_5 rfl rfl ?_
    refine ep_iconst (v := 3) d_N_isId_6 (by decide) ?_
    refine ep_icmp_le (tgt := 12) d_N_isId_7 (by decide) (fun _ => ?_) (fun z => absurd (by decide) z)
    refine ep_iconst (v := 0) d_N_isId_12 (by decide) ?_
    refine ep_istore_n (lv' := [(0, .int x), (1, .int 1), (2, .int 0)]) [1, 2, 0] d_N_isId_13 rfl (by decide) rfl ?_
    refine ep_iload_n (j := 2) d_N_isId_14 rfl rfl ?_
    refine ep_iload_n (j := 1) d_N_isId_15 rfl rfl ?_
    refine ep_icmp_ge (tgt := 43) d_N_isId_16 (by decide) (fun z => absurd z (by decide)) (fun _ => ?_)
    refine ep_iload_n (j := 0) d_N_isId_19 rfl rfl ?_
    refine ep_bipush (v := 8) d_N_isId_20 (by decide) ?_
    refine ep_iload_n (j := 2) d_N_isId_22 rfl rfl ?_
    refine ep_imul d_N_isId_23 ?_
    refine ep_cg (y := 0) (by decide) ?_
    refine ep_iushr d_N_isId_24 ?_
    refine ep_sipush (v := 255) d_N_isId_25 (by decide) ?_
    refine ep_iand d_N_isId_28 ?_
    refine ep_cg (y := byId x 0) rfl ?_
    refine ep_callSb (As := [.int (byId x 0)]) (st := []) d_N_isId_29 (Or.inl lk_N_135) cal_N_isSmallLetter tm_N_isSmallLetter ti_N rfl (Nat.le_of_ble_eq_true rfl) (Nat.le_of_ble_eq_true rfl) rfl rfl (N_isSmallLetter _) (fun b29 => ?_) (fun b29 => ?_)
    · refine ep_if_ne (tgt := 37) d_N_isId_32 (by decide) (fun _ => ?_) (fun z => absurd z (by decide))
      refine ep_iinc (v := 1) (j := 2) (lv' := [(0, .int x), (1, .int 1), (2, .int 1)]) [1, 2, 0] d_N_isId_37 rfl (by decide) (by decide) rfl ?_
      refine ep_goto (tgt := 14) d_N_isId_40 (by decide) ?_
      refine ep_iload_n (j := 2) d_N_isId_14 rfl rfl ?_
      refine ep_iload_n (j := 1) d_N_isId_15 rfl rfl ?_
      refine ep_icmp_ge (tgt := 43) d_N_isId_16 (by decide) (fun _ => ?_) (fun z => absurd (by decide) z)
      refine ep_iconst (v := 1) d_N_isId_43 (by decide) ?_
      exact ep_iret d_N_isId_44 rfl rfl (Ri_of (by simp [idP, e, b29]))
    · refine ep_if_ne (tgt := 37) d_N_isId_32 (by decide) (fun z => absurd (by decide) z) (fun _ => ?_)
      refine ep_iconst (v := 0) d_N_isId_35 (by decide) ?_
      exact ep_iret d_N_isId_36 rfl rfl (Ri_of (by simp [idP, e, b29]))
  · refine ep_cg (y := 2) e ?_
    refine ep_istore_n (lv' := [(0, .int x), (1, .int 2)]) [1, 0] d_N_isId_4 rfl (by decide) rfl ?_
    refine ep_iload_n (j := 1) d_N_isId_5 rfl rfl ?_
    refine ep_iconst (v := 3) d_N_isId_6 (by decide) ?_
    refine ep_icmp_le (tgt := 12) d_N_isId_7 (by decide) (fun _ => ?_) (fun z => absurd (by decide) z)
    refine ep_iconst (v := 0) d_N_isId_12 (by decide) ?_
    refine ep_istore_n (lv' := [(0, .int x), (1, .int 2), (2, .int 0)]) [1, 2, 0] d_N_isId_13 rfl (by decide) rfl ?_
    refine ep_iload_n (j := 2) d_N_isId_14 rfl rfl ?_
    refine ep_iload_n (j := 1) d_N_isId_15 rfl rfl ?_
    refine ep_icmp_ge (tgt := 43) d_N_isId_16 (by decide) (fun z => absurd z (by decide)) (fun _ => ?_)
    refine ep_iload_n (j := 0) d_N_isId_19 rfl rfl ?_
    refine ep_bipush (v := 8) d_N_isId_20 (by decide) ?_
    refine ep_iload_n (j := 2) d_N_isId_22 rfl rfl ?_
    refine ep_imul d_N_isId_23 ?_
    refine ep_cg (y := 0) (by decide) ?_
    refine ep_iushr d_N_isId_24 ?_
    refine ep_sipush (v := 255) d_N_isId_25 (by decide) ?_
    refine ep_iand d_N_isId_28 ?_
    refine ep_cg (y := byId x 0) rfl ?_
    refine ep_callSb (As := [.int (byId x 0)]) (st := []) d_N_isId_29 (Or.inl lk_N_135) cal_N_isSmallLetter tm_N_isSmallLetter ti_N rfl (Nat.le_of_ble_eq_true rfl) (Nat.le_of_ble_eq_true rfl) rfl rfl (N_isSmallLetter _) (fun b29 => ?_) (fun b29 => ?_)
    · refine ep_if_ne (tgt := 37) d_N_isId_32 (by decide) (fun _ => ?_) (fun z => absurd z (by decide))
      refine ep_iinc (v := 1) (j := 2) (lv' := [(0, .int x), (1, .int 2), (2, .int 1)]) [1, 2, 0] d_N_isId_37 rfl (by decide) (by decide) rfl ?_
      refine ep_goto (tgt := 14) d_N_isId_40 (by decide) ?_
      refine ep_iload_n (j := 2) d_N_isId_14 rfl rfl ?_
      refine ep_iload_n (j := 1) d_N_isId_15 rfl rfl ?_
      refine ep_icmp_ge (tgt := 43) d_N_isId_16 (by decide) (fun z => absurd z (by decide)) (fun _ => ?_)
      refine ep_iload_n (j := 0) d_N_isId_19 rfl rfl ?_
      refine ep_bipush (v := 8) d_N_isId_20 (by decide) ?_
      refine ep_iload_n (j := 2) d_N_isId_22 rfl rfl ?_
      refine ep_imul d_N_isId_23 ?_
      refine ep_cg (y := 8) (by decide) ?_
      refine ep_iushr d_N_isId_24 ?_
      refine ep_sipush (v := 255) d_N_isId_25 (by decide) ?_
      refine ep_iand d_N_isId_28 ?_
      refine ep_cg (y := byId x 8) rfl ?_
      refine ep_callSb (As := [.int (byId x 8)]) (st := []) d_N_isId_29 (Or.inl lk_N_135) cal_N_isSmallLetter tm_N_isSmallLetter ti_N rfl (Nat.le_of_ble_eq_true rfl) (Nat.le_of_ble_eq_true rfl) rfl rfl (N_isSmallLetter _) (fun b29_ => ?_) (fun b29_ => ?_)
      · refine ep_if_ne (tgt := 37) d_N_isId_32 (by decide) (fun _ => ?_) (fun z => absurd z (by decide))
        refine ep_iinc (v := 2) (j := 2) (lv' := [(0, .int x), (1, .int 2), (2, .int 2)]) [1, 2, 0] d_N_isId_37 rfl (by decide) (by decide) rfl ?_
        refine ep_goto (tgt := 14) d_N_isId_40 (by decide) ?_
        refine ep_iload_n (j := 2) d_N_isId_14 rfl rfl ?_
        refine ep_iload_n (j := 1) d_N_isId_15 rfl rfl ?_
        refine ep_icmp_ge (tgt := 43) d_N_isId_16 (by decide) (fun _ => ?_) (fun z => absurd (by decide) z)
        refine ep_iconst (v := 1) d_N_isId_43 (by decide) ?_
        exact ep_iret d_N_isId_44 rfl rfl (Ri_of (by simp [idP, e, b29, b29_]))
      · refine ep_if_ne (tgt := 37) d_N_isId_32 (by decide) (fun z => absurd (by decide) z) (fun _ => ?_)
        refine ep_iconst (v := 0) d_N_isId_35 (by decide) ?_
        exact ep_iret d_N_isId_36 rfl rfl (Ri_of (by simp [idP, e, b29, b29_]))
    · refine ep_if_ne (tgt := 37) d_N_isId_32 (by decide) (fun z => absurd (by decide) z) (fun _ => ?_)
      refine ep_iconst (v := 0) d_N_isId_35 (by decide) ?_
      exact ep_iret d_N_isId_36 rfl rfl (Ri_of (by simp [idP, e, b29]))
  · refine ep_cg (y := 3) e ?_
    refine ep_istore_n (lv' := [(0, .int x), (1, .int 3)]) [1, 0] d_N_isId_4 rfl (by decide) rfl ?_
    refine ep_iload_n (j := 1) d_N_isId_5 rfl rfl ?_
    refine ep_iconst (v := 3) d_N_isId_6 (by decide) ?_
    refine ep_icmp_le (tgt := 12) d_N_isId_7 (by decide) (fun _ => ?_) (fun z => absurd (by decide) z)
    refine ep_iconst (v := 0) d_N_isId_12 (by decide) ?_
    refine ep_istore_n (lv' := [(0, .int x), (1, .int 3), (2, .int 0)]) [1, 2, 0] d_N_isId_13 rfl (by decide) rfl ?_
    refine ep_iload_n (j := 2) d_N_isId_14 rfl rfl ?_
    refine ep_iload_n (j := 1) d_N_isId_15 rfl rfl ?_
    refine ep_icmp_ge (tgt := 43) d_N_isId_16 (by decide) (fun z => absurd z (by decide)) (fun _ => ?_)
    refine ep_iload_n (j := 0) d_N_isId_19 rfl rfl ?_
    refine ep_bipush (v := 8) d_N_isId_20 (by decide) ?_
    refine ep_iload_n (j := 2) d_N_isId_22 rfl rfl ?_
    refine ep_imul d_N_isId_23 ?_
    refine ep_cg (y := 0) (by decide) ?_
    refine ep_iushr d_N_isId_24 ?_
    refine ep_sipush (v := 255) d_N_isId_25 (by decide) ?_
    refine ep_iand d_N_isId_28 ?_
    refine ep_cg (y := byId x 0) rfl ?_
    refine ep_callSb (As := [.int (byId x 0)]) (st := []) d_N_isId_29 (Or.inl lk_N_135) cal_N_isSmallLetter tm_N_isSmallLetter ti_N rfl (Nat.le_of_ble_eq_true rfl) (Nat.le_of_ble_eq_true rfl) rfl rfl (N_isSmallLetter _) (fun b29 => ?_) (fun b29 => ?_)
    · refine ep_if_ne (tgt := 37) d_N_isId_32 (by decide) (fun _ => ?_) (fun z => absurd z (by decide))
      refine ep_iinc (v := 1) (j := 2) (lv' := [(0, .int x), (1, .int 3), (2, .int 1)]) [1, 2, 0] d_N_isId_37 rfl (by decide) (by decide) rfl ?_
      refine ep_goto (tgt := 14) d_N_isId_40 (by decide) ?_
      refine ep_iload_n (j := 2) d_N_isId_14 rfl rfl ?_
      refine ep_iload_n (j := 1) d_N_isId_15 rfl rfl ?_
      refine ep_icmp_ge (tgt := 43) d_N_isId_16 (by decide) (fun z => absurd z (by decide)) (fun _ => ?_)
      refine ep_iload_n (j := 0) d_N_isId_19 rfl rfl ?_
      refine ep_bipush (v := 8) d_N_isId_20 (by decide) ?_
      refine ep_iload_n (j := 2) d_N_isId_22 rfl rfl ?_
      refine ep_imul d_N_isId_23 ?_
      refine ep_cg (y := 8) (by decide) ?_
      refine ep_iushr d_N_isId_24 ?_
      refine ep_sipush (v := 255) d_N_isId_25 (by decide) ?_
      refine ep_iand d_N_isId_28 ?_
      refine ep_cg (y := byId x 8) rfl ?_
      refine ep_callSb (As := [.int (byId x 8)]) (st := []) d_N_isId_29 (Or.inl lk_N_135) cal_N_isSmallLetter tm_N_isSmallLetter ti_N rfl (Nat.le_of_ble_eq_true rfl) (Nat.le_of_ble_eq_true rfl) rfl rfl (N_isSmallLetter _) (fun b29_ => ?_) (fun b29_ => ?_)
      · refine ep_if_ne (tgt := 37) d_N_isId_32 (by decide) (fun _ => ?_) (fun z => absurd z (by decide))
        refine ep_iinc (v := 2) (j := 2) (lv' := [(0, .int x), (1, .int 3), (2, .int 2)]) [1, 2, 0] d_N_isId_37 rfl (by decide) (by decide) rfl ?_
        refine ep_goto (tgt := 14) d_N_isId_40 (by decide) ?_
        refine ep_iload_n (j := 2) d_N_isId_14 rfl rfl ?_
        refine ep_iload_n (j := 1) d_N_isId_15 rfl rfl ?_
        refine ep_icmp_ge (tgt := 43) d_N_isId_16 (by decide) (fun z => absurd z (by decide)) (fun _ => ?_)
        refine ep_iload_n (j := 0) d_N_isId_19 rfl rfl ?_
        refine ep_bipush (v := 8) d_N_isId_20 (by decide) ?_
        refine ep_iload_n (j := 2) d_N_isId_22 rfl rfl ?_
        refine ep_imul d_N_isId_23 ?_
        refine ep_cg (y := 16) (by decide) ?_
        refine ep_iushr d_N_isId_24 ?_
        refine ep_sipush (v := 255) d_N_isId_25 (by decide) ?_
        refine ep_iand d_N_isId_28 ?_
        refine ep_cg (y := byId x 16) rfl ?_
        refine ep_callSb (As := [.int (byId x 16)]) (st := []) d_N_isId_29 (Or.inl lk_N_135) cal_N_isSmallLetter tm_N_isSmallLetter ti_N rfl (Nat.le_of_ble_eq_true rfl) (Nat.le_of_ble_eq_true rfl) rfl rfl (N_isSmallLetter _) (fun b29__ => ?_) (fun b29__ => ?_)
        · refine ep_if_ne (tgt := 37) d_N_isId_32 (by decide) (fun _ => ?_) (fun z => absurd z (by decide))
          refine ep_iinc (v := 3) (j := 2) (lv' := [(0, .int x), (1, .int 3), (2, .int 3)]) [1, 2, 0] d_N_isId_37 rfl (by decide) (by decide) rfl ?_
          refine ep_goto (tgt := 14) d_N_isId_40 (by decide) ?_
          refine ep_iload_n (j := 2) d_N_isId_14 rfl rfl ?_
          refine ep_iload_n (j := 1) d_N_isId_15 rfl rfl ?_
          refine ep_icmp_ge (tgt := 43) d_N_isId_16 (by decide) (fun _ => ?_) (fun z => absurd (by decide) z)
          refine ep_iconst (v := 1) d_N_isId_43 (by decide) ?_
          exact ep_iret d_N_isId_44 rfl rfl (Ri_of (by simp [idP, e, b29, b29_, b29__]))
        · refine ep_if_ne (tgt := 37) d_N_isId_32 (by decide) (fun z => absurd (by decide) z) (fun _ => ?_)
          refine ep_iconst (v := 0) d_N_isId_35 (by decide) ?_
          exact ep_iret d_N_isId_36 rfl rfl (Ri_of (by simp [idP, e, b29, b29_, b29__]))
      · refine ep_if_ne (tgt := 37) d_N_isId_32 (by decide) (fun z => absurd (by decide) z) (fun _ => ?_)
        refine ep_iconst (v := 0) d_N_isId_35 (by decide) ?_
        exact ep_iret d_N_isId_36 rfl rfl (Ri_of (by simp [idP, e, b29, b29_]))
    · refine ep_if_ne (tgt := 37) d_N_isId_32 (by decide) (fun z => absurd (by decide) z) (fun _ => ?_)
      refine ep_iconst (v := 0) d_N_isId_35 (by decide) ?_
      exact ep_iret d_N_isId_36 rfl rfl (Ri_of (by simp [idP, e, b29]))
  · refine ep_cg (y := 4) e ?_
    refine ep_istore_n (lv' := [(0, .int x), (1, .int 4)]) [1, 0] d_N_isId_4 rfl (by decide) rfl ?_
    refine ep_iload_n (j := 1) d_N_isId_5 rfl rfl ?_
    refine ep_iconst (v := 3) d_N_isId_6 (by decide) ?_
    refine ep_icmp_le (tgt := 12) d_N_isId_7 (by decide) (fun z => absurd z (by decide)) (fun _ => ?_)
    refine ep_iconst (v := 0) d_N_isId_10 (by decide) ?_
    exact ep_iret d_N_isId_11 rfl rfl (Ri_of (by simp [idP, e]))
set_option maxHeartbeats 4000000 in
set_option maxRecDepth 100000 in
theorem N_builtinOfLetter (x : Int32) : EvP m_N_builtinOfLetter (d + 4) 0 [(0, .int x)] [] h (Ri (bolF x) h) := by
  refine ep_iconst (v := 0) d_N_builtinOfLetter_0 (by decide) ?_
  refine ep_istore_n (lv' := [(0, .int x), (1, .int 0)]) [1, 0] d_N_builtinOfLetter_1 rfl (by decide) rfl ?_
  refine ep_iload_n (j := 1) d_N_builtinOfLetter_2 rfl rfl ?_
  refine ep_ldcS (i := 0) (tx := "vbcsijlx") d_N_builtinOfLetter_3 (by decide +kernel) ?_
  refine ep_strLen (i := 0) (n := 8) (st := [.int 0]) d_N_builtinOfLetter_5 lk_N_140 (by decide) rfl (Nat.le_of_ble_eq_true rfl) rfl ?_
  refine ep_cg (y := 8) (by decide +kernel) ?_
  refine ep_icmp_ge (tgt := 29) d_N_builtinOfLetter_8 (by decide) (fun z => absurd z (by decide)) (fun _ => ?_)
  refine ep_ldcS (i := 0) (tx := "vbcsijlx") d_N_builtinOfLetter_11 (by decide +kernel) ?_
  refine ep_iload_n (j := 1) d_N_builtinOfLetter_13 rfl rfl ?_
  refine ep_strChr (i := 0) (n := 8) (j := 0) (st := []) d_N_builtinOfLetter_14 lk_N_145 (by decide) rfl (by decide +kernel) (by decide) (Nat.le_of_ble_eq_true rfl) rfl ?_
  refine ep_iload_n (j := 0) d_N_builtinOfLetter_17 rfl rfl ?_
  refine ep_icmp_ne (tgt := 23) d_N_builtinOfLetter_18 (by decide) (fun c18 => ?_) (fun c18 => ?_)
  · refine ep_iinc (v := 1) (j := 1) (lv' := [(0, .int x), (1, .int 1)]) [1, 0] d_N_builtinOfLetter_23 rfl (by decide) (by decide) rfl ?_
    refine ep_goto (tgt := 2) d_N_builtinOfLetter_26 (by decide) ?_
    refine ep_iload_n (j := 1) d_N_builtinOfLetter_2 rfl rfl ?_
    refine ep_ldcS (i := 0) (tx := "vbcsijlx") d_N_builtinOfLetter_3 (by decide +kernel) ?_
    refine ep_strLen (i := 0) (n := 8) (st := [.int 1]) d_N_builtinOfLetter_5 lk_N_140 (by decide) rfl (Nat.le_of_ble_eq_true rfl) rfl ?_
    refine ep_cg (y := 8) (by decide +kernel) ?_
    refine ep_icmp_ge (tgt := 29) d_N_builtinOfLetter_8 (by decide) (fun z => absurd z (by decide)) (fun _ => ?_)
    refine ep_ldcS (i := 0) (tx := "vbcsijlx") d_N_builtinOfLetter_11 (by decide +kernel) ?_
    refine ep_iload_n (j := 1) d_N_builtinOfLetter_13 rfl rfl ?_
    refine ep_strChr (i := 0) (n := 8) (j := 1) (st := []) d_N_builtinOfLetter_14 lk_N_145 (by decide) rfl (by decide +kernel) (by decide) (Nat.le_of_ble_eq_true rfl) rfl ?_
    refine ep_iload_n (j := 0) d_N_builtinOfLetter_17 rfl rfl ?_
    refine ep_icmp_ne (tgt := 23) d_N_builtinOfLetter_18 (by decide) (fun c18_ => ?_) (fun c18_ => ?_)
    · refine ep_iinc (v := 2) (j := 1) (lv' := [(0, .int x), (1, .int 2)]) [1, 0] d_N_builtinOfLetter_23 rfl (by decide) (by decide) rfl ?_
      refine ep_goto (tgt := 2) d_N_builtinOfLetter_26 (by decide) ?_
      refine ep_iload_n (j := 1) d_N_builtinOfLetter_2 rfl rfl ?_
      refine ep_ldcS (i := 0) (tx := "vbcsijlx") d_N_builtinOfLetter_3 (by decide +kernel) ?_
      refine ep_strLen (i := 0) (n := 8) (st := [.int 2]) d_N_builtinOfLetter_5 lk_N_140 (by decide) rfl (Nat.le_of_ble_eq_true rfl) rfl ?_
      refine ep_cg (y := 8) (by decide +kernel) ?_
      refine ep_icmp_ge (tgt := 29) d_N_builtinOfLetter_8 (by decide) (fun z => absurd z (by decide)) (fun _ => ?_)
      refine ep_ldcS (i := 0) (tx := "vbcsijlx") d_N_builtinOfLetter_11 (by decide +kernel) ?_
      refine ep_iload_n (j := 1) d_N_builtinOfLetter_13 rfl rfl ?_
      refine ep_strChr (i := 0) (n := 8) (j := 2) (st := []) d_N_builtinOfLetter_14 lk_N_145 (by decide) rfl (by decide +kernel) (by decide) (Nat.le_of_ble_eq_true rfl) rfl ?_
      refine ep_iload_n (j := 0) d_N_builtinOfLetter_17 rfl rfl ?_
      refine ep_icmp_ne (tgt := 23) d_N_builtinOfLetter_18 (by decide) (fun c18__ => ?_) (fun c18__ => ?_)
      · refine ep_iinc (v := 3) (j := 1) (lv' := [(0, .int x), (1, .int 3)]) [1, 0] d_N_builtinOfLetter_23 rfl (by decide) (by decide) rfl ?_
        refine ep_goto (tgt := 2) d_N_builtinOfLetter_26 (by decide) ?_
        refine ep_iload_n (j := 1) d_N_builtinOfLetter_2 rfl rfl ?_
        refine ep_ldcS (i := 0) (tx := "vbcsijlx") d_N_builtinOfLetter_3 (by decide +kernel) ?_
        refine ep_strLen (i := 0) (n := 8) (st := [.int 3]) d_N_builtinOfLetter_5 lk_N_140 (by decide) rfl (Nat.le_of_ble_eq_true rfl) rfl ?_
        refine ep_cg (y := 8) (by decide +kernel) ?_
        refine ep_icmp_ge (tgt := 29) d_N_builtinOfLetter_8 (by decide) (fun z => absurd z (by decide)) (fun _ => ?_)
        refine ep_ldcS (i := 0) (tx := "vbcsijlx") d_N_builtinOfLetter_11 (by decide +kernel) ?_
        refine ep_iload_n (j := 1) d_N_builtinOfLetter_13 rfl rfl ?_
        refine ep_strChr (i := 0) (n := 8) (j := 3) (st := []) d_N_builtinOfLetter_14 lk_N_145 (by decide) rfl (by decide +kernel) (by decide) (Nat.le_of_ble_eq_true rfl) rfl ?_
        refine ep_iload_n (j := 0) d_N_builtinOfLetter_17 rfl rfl ?_
        refine ep_icmp_ne (tgt := 23) d_N_builtinOfLetter_18 (by decide) (fun c18___ => ?_) (fun c18___ => ?_)
        · refine ep_iinc (v := 4) (j := 1) (lv' := [(0, .int x), (1, .int 4)]) [1, 0] d_N_builtinOfLetter_23 rfl (by decide) (by decide) rfl ?_
          refine ep_goto (tgt := 2) d_N_builtinOfLetter_26 (by decide) ?_
          refine ep_iload_n (j := 1) d_N_builtinOfLetter_2 rfl rfl ?_
          refine ep_ldcS (i := 0) (tx := "vbcsijlx") d_N_builtinOfLetter_3 (by decide +kernel) ?_
          refine ep_strLen (i := 0) (n := 8) (st := [.int 4]) d_N_builtinOfLetter_5 lk_N_140 (by decide) rfl (Nat.le_of_ble_eq_true rfl) rfl ?_
          refine ep_cg (y := 8) (by decide +kernel) ?_
          refine ep_icmp_ge (tgt := 29) d_N_builtinOfLetter_8 (by decide) (fun z => absurd z (by decide)) (fun _ => ?_)
          refine ep_ldcS (i := 0) (tx := "vbcsijlx") d_N_builtinOfLetter_11 (by decide +kernel) ?_
          refine ep_iload_n (j := 1) d_N_builtinOfLetter_13 rfl rfl ?_
          refine ep_strChr (i := 0) (n := 8) (j := 4) (st := []) d_N_builtinOfLetter_14 lk_N_145 (by decide) rfl (by decide +kernel) (by decide) (Nat.le_of_ble_eq_true rfl) rfl ?_
          refine ep_iload_n (j := 0) d_N_builtinOfLetter_17 rfl rfl ?_
          refine ep_icmp_ne (tgt := 23) d_N_builtinOfLetter_18 (by decide) (fun c18____ => ?_) (fun c18____ => ?_)
          · refine ep_iinc (v := 5) (j := 1) (lv' := [(0, .int x), (1, .int 5)]) [1, 0] d_N_builtinOfLetter_23 rfl (by decide) (by decide) rfl ?_
            refine ep_goto (tgt := 2) d_N_builtinOfLetter_26 (by decide) ?_
            refine ep_iload_n (j := 1) d_N_builtinOfLetter_2 rfl rfl ?_
            refine ep_ldcS (i := 0) (tx := "vbcsijlx") d_N_builtinOfLetter_3 (by decide +kernel) ?_
            refine ep_strLen (i := 0) (n := 8) (st := [.int 5]) d_N_builtinOfLetter_5 lk_N_140 (by decide) rfl (Nat.le_of_ble_eq_true rfl) rfl ?_
            refine ep_cg (y := 8) (by decide +kernel) ?_
            refine ep_icmp_ge (tgt := 29) d_N_builtinOfLetter_8 (by decide) (fun z => absurd z (by decide)) (fun _ => ?_)
            refine ep_ldcS (i := 0) (tx := "vbcsijlx") d_N_builtinOfLetter_11 (by decide +kernel) ?_
            refine ep_iload_n (j := 1) d_N_builtinOfLetter_13 rfl rfl ?_
            refine ep_strChr (i := 0) (n := 8) (j := 5) (st := []) d_N_builtinOfLetter_14 lk_N_145 (by decide) rfl (by decide +kernel) (by decide) (Nat.le_of_ble_eq_true rfl) rfl ?_
            refine ep_iload_n (j := 0) d_N_builtinOfLetter_17 rfl rfl ?_
            refine ep_icmp_ne (tgt := 23) d_N_builtinOfLetter_18 (by decide) (fun c18_____ => ?_) (fun c18_____ => ?_)
            · refine ep_iinc (v := 6) (j := 1) (lv' := [(0, .int x), (1, .int 6)]) [1, 0] d_N_builtinOfLetter_23 rfl (by decide) (by decide) rfl ?_
              refine ep_goto (tgt := 2) d_N_builtinOfLetter_26 (by decide) ?_
              refine ep_iload_n (j := 1) d_N_builtinOfLetter_2 rfl rfl ?_
              refine ep_ldcS (i := 0) (tx := "vbcsijlx") d_N_builtinOfLetter_3 (by decide +kernel) ?_
              refine ep_strLen (i := 0) (n := 8) (st := [.int 6]) d_N_builtinOfLetter_5 lk_N_140 (by decide) rfl (Nat.le_of_ble_eq_true rfl) rfl ?_
              refine ep_cg (y := 8) (by decide +kernel) ?_
              refine ep_icmp_ge (tgt := 29) d_N_builtinOfLetter_8 (by decide) (fun z => absurd z (by decide)) (fun _ => ?_)
              refine ep_ldcS (i := 0) (tx := "vbcsijlx") d_N_builtinOfLetter_11 (by decide +kernel) ?_
              refine ep_iload_n (j := 1) d_N_builtinOfLetter_13 rfl rfl ?_
              refine ep_strChr (i := 0) (n := 8) (j := 6) (st := []) d_N_builtinOfLetter_14 lk_N_145 (by decide) rfl (by decide +kernel) (by decide) (Nat.le_of_ble_eq_true rfl) rfl ?_
              refine ep_iload_n (j := 0) d_N_builtinOfLetter_17 rfl rfl ?_
              refine ep_icmp_ne (tgt := 23) d_N_builtinOfLetter_18 (by decide) (fun c18______ => ?_) (fun c18______ => ?_)
              · refine ep_iinc (v := 7) (j := 1) (lv' := [(0, .int x), (1, .int 7)]) [1, 0] d_N_builtinOfLetter_23 rfl (by decide) (by decide) rfl ?_
                refine ep_goto (tgt := 2) d_N_builtinOfLetter_26 (by decide) ?_
                refine ep_iload_n (j := 1) d_N_builtinOfLetter_2 rfl rfl ?_
                refine ep_ldcS (i := 0) (tx := "vbcsijlx") d_N_builtinOfLetter_3 (by decide +kernel) ?_
                refine ep_strLen (i := 0) (n := 8) (st := [.int 7]) d_N_builtinOfLetter_5 lk_N_140 (by decide) rfl (Nat.le_of_ble_eq_true rfl) rfl ?_
                refine ep_cg (y := 8) (by decide +kernel) ?_
                refine ep_icmp_ge (tgt := 29) d_N_builtinOfLetter_8 (by decide) (fun z => absurd z (by decide)) (fun _ => ?_)
                refine ep_ldcS (i := 0) (tx := "vbcsijlx") d_N_builtinOfLetter_11 (by decide +kernel) ?_
                refine ep_iload_n (j := 1) d_N_builtinOfLetter_13 rfl rfl ?_
                refine ep_strChr (i := 0) (n := 8) (j := 7) (st := []) d_N_builtinOfLetter_14 lk_N_145 (by decide) rfl (by decide +kernel) (by decide) (Nat.le_of_ble_eq_true rfl) rfl ?_
                refine ep_iload_n (j := 0) d_N_builtinOfLetter_17 rfl rfl ?_
                refine ep_icmp_ne (tgt := 23) d_N_builtinOfLetter_18 (by decide) (fun c18_______ => ?_) (fun c18_______ => ?_)
                · refine ep_iinc (v := 8) (j := 1) (lv' := [(0, .int x), (1, .int 8)]) [1, 0] d_N_builtinOfLetter_23 rfl (by decide) (by decide) rfl ?_
                  refine ep_goto (tgt := 2) d_N_builtinOfLetter_26 (by decide) ?_
                  refine ep_iload_n (j := 1) d_N_builtinOfLetter_2 rfl rfl ?_
                  refine ep_ldcS (i := 0) (tx := "vbcsijlx") d_N_builtinOfLetter_3 (by decide +kernel) ?_
                  refine ep_strLen (i := 0) (n := 8) (st := [.int 8]) d_N_builtinOfLetter_5 lk_N_140 (by decide) rfl (Nat.le_of_ble_eq_true rfl) rfl ?_
                  refine ep_cg (y := 8) (by decide +kernel) ?_
                  refine ep_icmp_ge (tgt := 29) d_N_builtinOfLetter_8 (by decide) (fun _ => ?_) (fun z => absurd (by decide) z)
                  refine ep_iconst (v := (-1)) d_N_builtinOfLetter_29 (by decide) ?_
                  exact ep_iret d_N_builtinOfLetter_30 rfl rfl (Ri_of (by simp [bolF, c18, c18_, c18__, c18___, c18____, c18_____, c18______, c18_______]))
                · refine ep_iload_n (j := 1) d_N_builtinOfLetter_21 rfl rfl ?_
                  exact ep_iret d_N_builtinOfLetter_22 rfl rfl (Ri_of (by simp [bolF, c18, c18_, c18__, c18___, c18____, c18_____, c18______, c18_______]))
              · refine ep_iload_n (j := 1) d_N_builtinOfLetter_21 rfl rfl ?_
                exact ep_iret d_N_builtinOfLetter_22 rfl rfl (Ri_of (by simp [bolF, c18, c18_, c18__, c18___, c18____, c18_____, c18______]))
            · refine ep_iload_n (j := 1) d_N_builtinOfLetter_21 rfl rfl ?_
              exact ep_iret d_N_builtinOfLetter_22 rfl rfl (Ri_of (by simp [bolF, c18, c18_, c18__, c18___, c18____, c18_____]))
          · refine ep_iload_n (j := 1) d_N_builtinOfLetter_21 rfl rfl ?_
            exact ep_iret d_N_builtinOfLetter_22 rfl rfl (Ri_of (by simp [bolF, c18, c18_, c18__, c18___, c18____]))
        · refine ep_iload_n (j := 1) d_N_builtinOfLetter_21 rfl rfl ?_
          exact ep_iret d_N_builtinOfLetter_22 rfl rfl (Ri_of (by simp [bolF, c18, c18_, c18__, c18___]))
      · refine ep_iload_n (j := 1) d_N_builtinOfLetter_21 rfl rfl ?_
        exact ep_iret d_N_builtinOfLetter_22 rfl rfl (Ri_of (by simp [bolF, c18, c18_, c18__]))
    · refine ep_iload_n (j := 1) d_N_builtinOfLetter_21 rfl rfl ?_
      exact ep_iret d_N_builtinOfLetter_22 rfl rfl (Ri_of (by simp [bolF, c18, c18_]))
  · refine ep_iload_n (j := 1) d_N_builtinOfLetter_21 rfl rfl ?_
    exact ep_iret d_N_builtinOfLetter_22 rfl rfl (Ri_of (by simp [bolF, c18]))
end NS
