/-! the reference: statics, nodes, and the small methods of its reading; by program (wip/whole/gen41.py) -/
theorem bI_f (b : Bool) : fldOk .boolean (.int (bI b)) = true := by cases b <;> rfl
section MG
variable {d : Nat} {h : mH}
set_option maxHeartbeats 4000000 in
set_option maxRecDepth 100000 in
theorem M_isDigit (x : Int32) : EvP m_M_isDigit d 0 [(0, .int x)] [] h (Ri (if dgP x then 1 else 0) h) := by
  refine ep_iload_n (j := 0) d_M_isDigit_0 rfl rfl ?_
  refine ep_bipush (v := 48) d_M_isDigit_1 (by decide) ?_
  refine ep_icmp_lt (tgt := 16) d_M_isDigit_3 (by decide) (fun c3 => ?_) (fun c3 => ?_)
  · refine ep_iconst (v := 0) d_M_isDigit_16 (by decide) ?_
    exact ep_iret d_M_isDigit_17 rfl rfl (⟨by simp [dgP, c3], rfl⟩)
  · refine ep_iload_n (j := 0) d_M_isDigit_6 rfl rfl ?_
    refine ep_bipush (v := 57) d_M_isDigit_7 (by decide) ?_
    refine ep_icmp_gt (tgt := 16) d_M_isDigit_9 (by decide) (fun c9 => ?_) (fun c9 => ?_)
    · refine ep_iconst (v := 0) d_M_isDigit_16 (by decide) ?_
      exact ep_iret d_M_isDigit_17 rfl rfl (⟨by simp [dgP, c3, c9], rfl⟩)
    · refine ep_iconst (v := 1) d_M_isDigit_12 (by decide) ?_
      refine ep_goto (tgt := 17) d_M_isDigit_13 (by decide) ?_
      exact ep_iret d_M_isDigit_17 rfl rfl (⟨by simp [dgP, c3, c9], rfl⟩)
set_option maxHeartbeats 4000000 in
set_option maxRecDepth 100000 in
theorem M_value36 (x : Int32) : EvP m_M_value36 (d + 1) 0 [(0, .int x)] [] h (Ri (digF x 36) h) := by
  refine ep_iload_n (j := 0) d_M_value36_0 rfl rfl ?_
  refine ep_callSb (As := [.int x]) (st := []) d_M_value36_1 (Or.inl lk_M_178) cal_M_isDigit tm_M_isDigit ti_M rfl (Nat.le_of_ble_eq_true rfl) (Nat.le_of_ble_eq_true rfl) rfl rfl (M_isDigit x) (fun b1 => ?_) (fun b1 => ?_)
  · refine ep_if_eq (tgt := 14) d_M_value36_4 (by decide) (fun z => absurd z (by decide)) (fun _ => ?_)
    refine ep_iload_n (j := 0) d_M_value36_7 rfl rfl ?_
    refine ep_bipush (v := 48) d_M_value36_8 (by decide) ?_
    refine ep_isub d_M_value36_10 ?_
    refine ep_goto (tgt := 37) d_M_value36_11 (by decide) ?_
    exact ep_iret d_M_value36_37 rfl rfl (⟨congrArg (fun z => Sum.inl (some (Value.int z))) (by unfold digF; rw [if_pos b1]), rfl⟩)
  · refine ep_if_eq (tgt := 14) d_M_value36_4 (by decide) (fun _ => ?_) (fun z => absurd (by decide) z)
    refine ep_iload_n (j := 0) d_M_value36_14 rfl rfl ?_
    refine ep_bipush (v := 65) d_M_value36_15 (by decide) ?_
    refine ep_icmp_lt (tgt := 36) d_M_value36_17 (by decide) (fun c17 => ?_) (fun c17 => ?_)
    · refine ep_iconst (v := (-1)) d_M_value36_36 (by decide) ?_
      exact ep_iret d_M_value36_37 rfl rfl (⟨congrArg (fun z => Sum.inl (some (Value.int z))) (by unfold digF; rw [if_neg b1, if_neg (fun u => u.2.1 c17)]), rfl⟩)
    · refine ep_iload_n (j := 0) d_M_value36_20 rfl rfl ?_
      refine ep_bipush (v := 90) d_M_value36_21 (by decide) ?_
      refine ep_icmp_gt (tgt := 36) d_M_value36_23 (by decide) (fun c23 => ?_) (fun c23 => ?_)
      · refine ep_iconst (v := (-1)) d_M_value36_36 (by decide) ?_
        exact ep_iret d_M_value36_37 rfl rfl (⟨congrArg (fun z => Sum.inl (some (Value.int z))) (by unfold digF; rw [if_neg b1, if_neg (fun u => u.2.2 c23)]), rfl⟩)
      · refine ep_iload_n (j := 0) d_M_value36_26 rfl rfl ?_
        refine ep_bipush (v := 65) d_M_value36_27 (by decide) ?_
        refine ep_isub d_M_value36_29 ?_
        refine ep_bipush (v := 10) d_M_value36_30 (by decide) ?_
        refine ep_iadd d_M_value36_32 ?_
        refine ep_goto (tgt := 37) d_M_value36_33 (by decide) ?_
        exact ep_iret d_M_value36_37 rfl rfl (⟨congrArg (fun z => Sum.inl (some (Value.int z))) (by unfold digF; rw [if_neg b1, if_pos ⟨rfl, c17, c23⟩]), rfl⟩)
set_option maxHeartbeats 4000000 in
set_option maxRecDepth 100000 in
theorem M_letter (x : Int32) : EvP m_M_letter d 0 [(0, .int x)] [] h (Ri (ltM x) h) := by
  refine ep_iload_n (j := 0) d_M_letter_0 rfl rfl ?_
  refine ep_if_ne (tgt := 9) d_M_letter_1 (by decide) (fun c1 => ?_) (fun c1 => ?_)
  · refine ep_iload_n (j := 0) d_M_letter_9 rfl rfl ?_
    refine ep_iconst (v := 1) d_M_letter_10 (by decide) ?_
    refine ep_icmp_ne (tgt := 19) d_M_letter_11 (by decide) (fun c11 => ?_) (fun c11 => ?_)
    · refine ep_iload_n (j := 0) d_M_letter_19 rfl rfl ?_
      refine ep_iconst (v := 2) d_M_letter_20 (by decide) ?_
      refine ep_icmp_ne (tgt := 29) d_M_letter_21 (by decide) (fun c21 => ?_) (fun c21 => ?_)
      · refine ep_iload_n (j := 0) d_M_letter_29 rfl rfl ?_
        refine ep_iconst (v := 3) d_M_letter_30 (by decide) ?_
        refine ep_icmp_ne (tgt := 39) d_M_letter_31 (by decide) (fun c31 => ?_) (fun c31 => ?_)
        · refine ep_iload_n (j := 0) d_M_letter_39 rfl rfl ?_
          refine ep_iconst (v := 4) d_M_letter_40 (by decide) ?_
          refine ep_icmp_ne (tgt := 49) d_M_letter_41 (by decide) (fun c41 => ?_) (fun c41 => ?_)
          · refine ep_iload_n (j := 0) d_M_letter_49 rfl rfl ?_
            refine ep_iconst (v := 5) d_M_letter_50 (by decide) ?_
            refine ep_icmp_ne (tgt := 59) d_M_letter_51 (by decide) (fun c51 => ?_) (fun c51 => ?_)
            · refine ep_iload_n (j := 0) d_M_letter_59 rfl rfl ?_
              refine ep_bipush (v := 6) d_M_letter_60 (by decide) ?_
              refine ep_icmp_ne (tgt := 70) d_M_letter_62 (by decide) (fun c62 => ?_) (fun c62 => ?_)
              · refine ep_bipush (v := 120) d_M_letter_70 (by decide) ?_
                exact ep_iret d_M_letter_72 rfl rfl (⟨by simp [ltM, c1, c11, c21, c31, c41, c51, c62], rfl⟩)
              · refine ep_bipush (v := 108) d_M_letter_65 (by decide) ?_
                refine ep_goto (tgt := 72) d_M_letter_67 (by decide) ?_
                exact ep_iret d_M_letter_72 rfl rfl (⟨by simp [ltM, c1, c11, c21, c31, c41, c51, c62], rfl⟩)
            · refine ep_bipush (v := 106) d_M_letter_54 (by decide) ?_
              refine ep_goto (tgt := 72) d_M_letter_56 (by decide) ?_
              exact ep_iret d_M_letter_72 rfl rfl (⟨by simp [ltM, c1, c11, c21, c31, c41, c51], rfl⟩)
          · refine ep_bipush (v := 105) d_M_letter_44 (by decide) ?_
            refine ep_goto (tgt := 72) d_M_letter_46 (by decide) ?_
            exact ep_iret d_M_letter_72 rfl rfl (⟨by simp [ltM, c1, c11, c21, c31, c41], rfl⟩)
        · refine ep_bipush (v := 115) d_M_letter_34 (by decide) ?_
          refine ep_goto (tgt := 72) d_M_letter_36 (by decide) ?_
          exact ep_iret d_M_letter_72 rfl rfl (⟨by simp [ltM, c1, c11, c21, c31], rfl⟩)
      · refine ep_bipush (v := 99) d_M_letter_24 (by decide) ?_
        refine ep_goto (tgt := 72) d_M_letter_26 (by decide) ?_
        exact ep_iret d_M_letter_72 rfl rfl (⟨by simp [ltM, c1, c11, c21], rfl⟩)
    · refine ep_bipush (v := 98) d_M_letter_14 (by decide) ?_
      refine ep_goto (tgt := 72) d_M_letter_16 (by decide) ?_
      exact ep_iret d_M_letter_72 rfl rfl (⟨by simp [ltM, c1, c11], rfl⟩)
  · refine ep_bipush (v := 118) d_M_letter_4 (by decide) ?_
    refine ep_goto (tgt := 72) d_M_letter_6 (by decide) ?_
    exact ep_iret d_M_letter_72 rfl rfl (⟨by simp [ltM, c1], rfl⟩)
set_option maxHeartbeats 4000000 in
set_option maxRecDepth 100000 in
theorem M_sign36 (x : Int32) : EvP m_M_sign36 d 0 [(0, .int x)] [] h (Ri (d36 x) h) := by
  refine ep_iload_n (j := 0) d_M_sign36_0 rfl rfl ?_
  refine ep_bipush (v := 10) d_M_sign36_1 (by decide) ?_
  refine ep_icmp_ge (tgt := 13) d_M_sign36_3 (by decide) (fun c3 => ?_) (fun c3 => ?_)
  · refine ep_bipush (v := 65) d_M_sign36_13 (by decide) ?_
    refine ep_iload_n (j := 0) d_M_sign36_15 rfl rfl ?_
    refine ep_iadd d_M_sign36_16 ?_
    refine ep_bipush (v := 10) d_M_sign36_17 (by decide) ?_
    refine ep_isub d_M_sign36_19 ?_
    exact ep_iret d_M_sign36_20 rfl rfl (⟨by simp [d36, c3], rfl⟩)
  · refine ep_bipush (v := 48) d_M_sign36_6 (by decide) ?_
    refine ep_iload_n (j := 0) d_M_sign36_8 rfl rfl ?_
    refine ep_iadd d_M_sign36_9 ?_
    refine ep_goto (tgt := 20) d_M_sign36_10 (by decide) ?_
    exact ep_iret d_M_sign36_20 rfl rfl (⟨by simp [d36, c3], rfl⟩)
def bof (x : Int32) : Nat → Int32 → Int32
  | 0, k => k
  | n + 1, k => bof x n (if ltM (nI (7 - n)) = x then nI (7 - n) else k)
set_option maxHeartbeats 4000000 in
set_option maxRecDepth 100000 in
theorem M_builtinOf_8 (x k : Int32) : EvP m_M_builtinOf (d + 1) 4 [(0, .int x), (1, .int k), (2, .int 8)] [] h (Ri (bof x 0 k) h) := by
  refine ep_iload_n (j := 2) d_M_builtinOf_4 rfl rfl ?_
  refine ep_bipush (v := 8) d_M_builtinOf_5 (by decide) ?_
  refine ep_icmp_ge (tgt := 30) d_M_builtinOf_7 (by decide) (fun _ => ?_) (fun z => absurd (by decide) z)
  refine ep_iload_n (j := 1) d_M_builtinOf_30 rfl rfl ?_
  exact ep_iret d_M_builtinOf_31 rfl rfl (⟨rfl, rfl⟩)
set_option maxHeartbeats 4000000 in
set_option maxRecDepth 100000 in
theorem M_builtinOf_7 (x k : Int32) : EvP m_M_builtinOf (d + 1) 4 [(0, .int x), (1, .int k), (2, .int 7)] [] h (Ri (bof x 1 k) h) := by
  refine ep_iload_n (j := 2) d_M_builtinOf_4 rfl rfl ?_
  refine ep_bipush (v := 8) d_M_builtinOf_5 (by decide) ?_
  refine ep_icmp_ge (tgt := 30) d_M_builtinOf_7 (by decide) (fun z => absurd z (by decide)) (fun _ => ?_)
  refine ep_iload_n (j := 2) d_M_builtinOf_10 rfl rfl ?_
  refine ep_callSi (As := [.int 7]) (st := []) d_M_builtinOf_11 (Or.inl lk_M_127) cal_M_letter tm_M_letter ti_M rfl (Nat.le_of_ble_eq_true rfl) (Nat.le_of_ble_eq_true rfl) rfl rfl (M_letter 7) ?_
  refine ep_join (pc2 := 23) (lv2 := [(0, .int x), (1, .int k), (2, .int 7)]) (st2 := [.int (if ltM 7 = x then 7 else k)]) ?_ (fun k23 => ?_)
  · refine ep_istore_n (lv' := [(0, .int x), (1, .int (if ltM 7 = x then 7 else k)), (2, .int 7)]) [1, 0, 2] d_M_builtinOf_23 rfl (by decide) rfl ?_
    refine ep_iinc (v := 8) (j := 2) (lv' := [(0, .int x), (1, .int (if ltM 7 = x then 7 else k)), (2, .int 8)]) [1, 2, 0] d_M_builtinOf_24 rfl (by decide) (by decide) rfl ?_
    refine ep_goto (tgt := 4) d_M_builtinOf_27 (by decide) ?_
    exact M_builtinOf_8 x _
  · refine ep_iload_n (j := 0) d_M_builtinOf_14 rfl rfl ?_
    refine ep_icmp_ne (tgt := 22) d_M_builtinOf_15 (by decide) (fun c15 => ?_) (fun c15 => ?_)
    · refine ep_iload_n (j := 1) d_M_builtinOf_22 rfl rfl ?_
      refine ep_cg (y := if ltM 7 = x then 7 else k) (by simp [c15]) ?_
      exact k23
    · refine ep_iload_n (j := 2) d_M_builtinOf_18 rfl rfl ?_
      refine ep_goto (tgt := 23) d_M_builtinOf_19 (by decide) ?_
      refine ep_cg (y := if ltM 7 = x then 7 else k) (by simp [c15]) ?_
      exact k23
set_option maxHeartbeats 4000000 in
set_option maxRecDepth 100000 in
theorem M_builtinOf_6 (x k : Int32) : EvP m_M_builtinOf (d + 1) 4 [(0, .int x), (1, .int k), (2, .int 6)] [] h (Ri (bof x 2 k) h) := by
  refine ep_iload_n (j := 2) d_M_builtinOf_4 rfl rfl ?_
  refine ep_bipush (v := 8) d_M_builtinOf_5 (by decide) ?_
  refine ep_icmp_ge (tgt := 30) d_M_builtinOf_7 (by decide) (fun z => absurd z (by decide)) (fun _ => ?_)
  refine ep_iload_n (j := 2) d_M_builtinOf_10 rfl rfl ?_
  refine ep_callSi (As := [.int 6]) (st := []) d_M_builtinOf_11 (Or.inl lk_M_127) cal_M_letter tm_M_letter ti_M rfl (Nat.le_of_ble_eq_true rfl) (Nat.le_of_ble_eq_true rfl) rfl rfl (M_letter 6) ?_
  refine ep_join (pc2 := 23) (lv2 := [(0, .int x), (1, .int k), (2, .int 6)]) (st2 := [.int (if ltM 6 = x then 6 else k)]) ?_ (fun k23 => ?_)
  · refine ep_istore_n (lv' := [(0, .int x), (1, .int (if ltM 6 = x then 6 else k)), (2, .int 6)]) [1, 0, 2] d_M_builtinOf_23 rfl (by decide) rfl ?_
    refine ep_iinc (v := 7) (j := 2) (lv' := [(0, .int x), (1, .int (if ltM 6 = x then 6 else k)), (2, .int 7)]) [1, 2, 0] d_M_builtinOf_24 rfl (by decide) (by decide) rfl ?_
    refine ep_goto (tgt := 4) d_M_builtinOf_27 (by decide) ?_
    exact M_builtinOf_7 x _
  · refine ep_iload_n (j := 0) d_M_builtinOf_14 rfl rfl ?_
    refine ep_icmp_ne (tgt := 22) d_M_builtinOf_15 (by decide) (fun c15 => ?_) (fun c15 => ?_)
    · refine ep_iload_n (j := 1) d_M_builtinOf_22 rfl rfl ?_
      refine ep_cg (y := if ltM 6 = x then 6 else k) (by simp [c15]) ?_
      exact k23
    · refine ep_iload_n (j := 2) d_M_builtinOf_18 rfl rfl ?_
      refine ep_goto (tgt := 23) d_M_builtinOf_19 (by decide) ?_
      refine ep_cg (y := if ltM 6 = x then 6 else k) (by simp [c15]) ?_
      exact k23
set_option maxHeartbeats 4000000 in
set_option maxRecDepth 100000 in
theorem M_builtinOf_5 (x k : Int32) : EvP m_M_builtinOf (d + 1) 4 [(0, .int x), (1, .int k), (2, .int 5)] [] h (Ri (bof x 3 k) h) := by
  refine ep_iload_n (j := 2) d_M_builtinOf_4 rfl rfl ?_
  refine ep_bipush (v := 8) d_M_builtinOf_5 (by decide) ?_
  refine ep_icmp_ge (tgt := 30) d_M_builtinOf_7 (by decide) (fun z => absurd z (by decide)) (fun _ => ?_)
  refine ep_iload_n (j := 2) d_M_builtinOf_10 rfl rfl ?_
  refine ep_callSi (As := [.int 5]) (st := []) d_M_builtinOf_11 (Or.inl lk_M_127) cal_M_letter tm_M_letter ti_M rfl (Nat.le_of_ble_eq_true rfl) (Nat.le_of_ble_eq_true rfl) rfl rfl (M_letter 5) ?_
  refine ep_join (pc2 := 23) (lv2 := [(0, .int x), (1, .int k), (2, .int 5)]) (st2 := [.int (if ltM 5 = x then 5 else k)]) ?_ (fun k23 => ?_)
  · refine ep_istore_n (lv' := [(0, .int x), (1, .int (if ltM 5 = x then 5 else k)), (2, .int 5)]) [1, 0, 2] d_M_builtinOf_23 rfl (by decide) rfl ?_
    refine ep_iinc (v := 6) (j := 2) (lv' := [(0, .int x), (1, .int (if ltM 5 = x then 5 else k)), (2, .int 6)]) [1, 2, 0] d_M_builtinOf_24 rfl (by decide) (by decide) rfl ?_
    refine ep_goto (tgt := 4) d_M_builtinOf_27 (by decide) ?_
    exact M_builtinOf_6 x _
  · refine ep_iload_n (j := 0) d_M_builtinOf_14 rfl rfl ?_
    refine ep_icmp_ne (tgt := 22) d_M_builtinOf_15 (by decide) (fun c15 => ?_) (fun c15 => ?_)
    · refine ep_iload_n (j := 1) d_M_builtinOf_22 rfl rfl ?_
      refine ep_cg (y := if ltM 5 = x then 5 else k) (by simp [c15]) ?_
      exact k23
    · refine ep_iload_n (j := 2) d_M_builtinOf_18 rfl rfl ?_
      refine ep_goto (tgt := 23) d_M_builtinOf_19 (by decide) ?_
      refine ep_cg (y := if ltM 5 = x then 5 else k) (by simp [c15]) ?_
      exact k23
set_option maxHeartbeats 4000000 in
set_option maxRecDepth 100000 in
theorem M_builtinOf_4 (x k : Int32) : EvP m_M_builtinOf (d + 1) 4 [(0, .int x), (1, .int k), (2, .int 4)] [] h (Ri (bof x 4 k) h) := by
  refine ep_iload_n (j := 2) d_M_builtinOf_4 rfl rfl ?_
  refine ep_bipush (v := 8) d_M_builtinOf_5 (by decide) ?_
  refine ep_icmp_ge (tgt := 30) d_M_builtinOf_7 (by decide) (fun z => absurd z (by decide)) (fun _ => ?_)
  refine ep_iload_n (j := 2) d_M_builtinOf_10 rfl rfl ?_
  refine ep_callSi (As := [.int 4]) (st := []) d_M_builtinOf_11 (Or.inl lk_M_127) cal_M_letter tm_M_letter ti_M rfl (Nat.le_of_ble_eq_true rfl) (Nat.le_of_ble_eq_true rfl) rfl rfl (M_letter 4) ?_
  refine ep_join (pc2 := 23) (lv2 := [(0, .int x), (1, .int k), (2, .int 4)]) (st2 := [.int (if ltM 4 = x then 4 else k)]) ?_ (fun k23 => ?_)
  · refine ep_istore_n (lv' := [(0, .int x), (1, .int (if ltM 4 = x then 4 else k)), (2, .int 4)]) [1, 0, 2] d_M_builtinOf_23 rfl (by decide) rfl ?_
    refine ep_iinc (v := 5) (j := 2) (lv' := [(0, .int x), (1, .int (if ltM 4 = x then 4 else k)), (2, .int 5)]) [1, 2, 0] d_M_builtinOf_24 rfl (by decide) (by decide) rfl ?_
    refine ep_goto (tgt := 4) d_M_builtinOf_27 (by decide) ?_
    exact M_builtinOf_5 x _
  · refine ep_iload_n (j := 0) d_M_builtinOf_14 rfl rfl ?_
    refine ep_icmp_ne (tgt := 22) d_M_builtinOf_15 (by decide) (fun c15 => ?_) (fun c15 => ?_)
    · refine ep_iload_n (j := 1) d_M_builtinOf_22 rfl rfl ?_
      refine ep_cg (y := if ltM 4 = x then 4 else k) (by simp [c15]) ?_
      exact k23
    · refine ep_iload_n (j := 2) d_M_builtinOf_18 rfl rfl ?_
      refine ep_goto (tgt := 23) d_M_builtinOf_19 (by decide) ?_
      refine ep_cg (y := if ltM 4 = x then 4 else k) (by simp [c15]) ?_
      exact k23
set_option maxHeartbeats 4000000 in
set_option maxRecDepth 100000 in
theorem M_builtinOf_3 (x k : Int32) : EvP m_M_builtinOf (d + 1) 4 [(0, .int x), (1, .int k), (2, .int 3)] [] h (Ri (bof x 5 k) h) := by
  refine ep_iload_n (j := 2) d_M_builtinOf_4 rfl rfl ?_
  refine ep_bipush (v := 8) d_M_builtinOf_5 (by decide) ?_
  refine ep_icmp_ge (tgt := 30) d_M_builtinOf_7 (by decide) (fun z => absurd z (by decide)) (fun _ => ?_)
  refine ep_iload_n (j := 2) d_M_builtinOf_10 rfl rfl ?_
  refine ep_callSi (As := [.int 3]) (st := []) d_M_builtinOf_11 (Or.inl lk_M_127) cal_M_letter tm_M_letter ti_M rfl (Nat.le_of_ble_eq_true rfl) (Nat.le_of_ble_eq_true rfl) rfl rfl (M_letter 3) ?_
  refine ep_join (pc2 := 23) (lv2 := [(0, .int x), (1, .int k), (2, .int 3)]) (st2 := [.int (if ltM 3 = x then 3 else k)]) ?_ (fun k23 => ?_)
  · refine ep_istore_n (lv' := [(0, .int x), (1, .int (if ltM 3 = x then 3 else k)), (2, .int 3)]) [1, 0, 2] d_M_builtinOf_23 rfl (by decide) rfl ?_
    refine ep_iinc (v := 4) (j := 2) (lv' := [(0, .int x), (1, .int (if ltM 3 = x then 3 else k)), (2, .int 4)]) [1, 2, 0] d_M_builtinOf_24 rfl (by decide) (by decide) rfl ?_
    refine ep_goto (tgt := 4) d_M_builtinOf_27 (by decide) ?_
    exact M_builtinOf_4 x _
  · refine ep_iload_n (j := 0) d_M_builtinOf_14 rfl rfl ?_
    refine ep_icmp_ne (tgt := 22) d_M_builtinOf_15 (by decide) (fun c15 => ?_) (fun c15 => ?_)
    · refine ep_iload_n (j := 1) d_M_builtinOf_22 rfl rfl ?_
      refine ep_cg (y := if ltM 3 = x then 3 else k) (by simp [c15]) ?_
      exact k23
    · refine ep_iload_n (j := 2) d_M_builtinOf_18 rfl rfl ?_
      refine ep_goto (tgt := 23) d_M_builtinOf_19 (by decide) ?_
      refine ep_cg (y := if ltM 3 = x then 3 else k) (by simp [c15]) ?_
      exact k23
set_option maxHeartbeats 4000000 in
set_option maxRecDepth 100000 in
theorem M_builtinOf_2 (x k : Int32) : EvP m_M_builtinOf (d + 1) 4 [(0, .int x), (1, .int k), (2, .int 2)] [] h (Ri (bof x 6 k) h) := by
  refine ep_iload_n (j := 2) d_M_builtinOf_4 rfl rfl ?_
  refine ep_bipush (v := 8) d_M_builtinOf_5 (by decide) ?_
  refine ep_icmp_ge (tgt := 30) d_M_builtinOf_7 (by decide) (fun z => absurd z (by decide)) (fun _ => ?_)
  refine ep_iload_n (j := 2) d_M_builtinOf_10 rfl rfl ?_
  refine ep_callSi (As := [.int 2]) (st := []) d_M_builtinOf_11 (Or.inl lk_M_127) cal_M_letter tm_M_letter ti_M rfl (Nat.le_of_ble_eq_true rfl) (Nat.le_of_ble_eq_true rfl) rfl rfl (M_letter 2) ?_
  refine ep_join (pc2 := 23) (lv2 := [(0, .int x), (1, .int k), (2, .int 2)]) (st2 := [.int (if ltM 2 = x then 2 else k)]) ?_ (fun k23 => ?_)
  · refine ep_istore_n (lv' := [(0, .int x), (1, .int (if ltM 2 = x then 2 else k)), (2, .int 2)]) [1, 0, 2] d_M_builtinOf_23 rfl (by decide) rfl ?_
    refine ep_iinc (v := 3) (j := 2) (lv' := [(0, .int x), (1, .int (if ltM 2 = x then 2 else k)), (2, .int 3)]) [1, 2, 0] d_M_builtinOf_24 rfl (by decide) (by decide) rfl ?_
    refine ep_goto (tgt := 4) d_M_builtinOf_27 (by decide) ?_
    exact M_builtinOf_3 x _
  · refine ep_iload_n (j := 0) d_M_builtinOf_14 rfl rfl ?_
    refine ep_icmp_ne (tgt := 22) d_M_builtinOf_15 (by decide) (fun c15 => ?_) (fun c15 => ?_)
    · refine ep_iload_n (j := 1) d_M_builtinOf_22 rfl rfl ?_
      refine ep_cg (y := if ltM 2 = x then 2 else k) (by simp [c15]) ?_
      exact k23
    · refine ep_iload_n (j := 2) d_M_builtinOf_18 rfl rfl ?_
      refine ep_goto (tgt := 23) d_M_builtinOf_19 (by decide) ?_
      refine ep_cg (y := if ltM 2 = x then 2 else k) (by simp [c15]) ?_
      exact k23
set_option maxHeartbeats 4000000 in
set_option maxRecDepth 100000 in
theorem M_builtinOf_1 (x k : Int32) : EvP m_M_builtinOf (d + 1) 4 [(0, .int x), (1, .int k), (2, .int 1)] [] h (Ri (bof x 7 k) h) := by
  refine ep_iload_n (j := 2) d_M_builtinOf_4 rfl rfl ?_
  refine ep_bipush (v := 8) d_M_builtinOf_5 (by decide) ?_
  refine ep_icmp_ge (tgt := 30) d_M_builtinOf_7 (by decide) (fun z => absurd z (by decide)) (fun _ => ?_)
  refine ep_iload_n (j := 2) d_M_builtinOf_10 rfl rfl ?_
  refine ep_callSi (As := [.int 1]) (st := []) d_M_builtinOf_11 (Or.inl lk_M_127) cal_M_letter tm_M_letter ti_M rfl (Nat.le_of_ble_eq_true rfl) (Nat.le_of_ble_eq_true rfl) rfl rfl (M_letter 1) ?_
  refine ep_join (pc2 := 23) (lv2 := [(0, .int x), (1, .int k), (2, .int 1)]) (st2 := [.int (if ltM 1 = x then 1 else k)]) ?_ (fun k23 => ?_)
  · refine ep_istore_n (lv' := [(0, .int x), (1, .int (if ltM 1 = x then 1 else k)), (2, .int 1)]) [1, 0, 2] d_M_builtinOf_23 rfl (by decide) rfl ?_
    refine ep_iinc (v := 2) (j := 2) (lv' := [(0, .int x), (1, .int (if ltM 1 = x then 1 else k)), (2, .int 2)]) [1, 2, 0] d_M_builtinOf_24 rfl (by decide) (by decide) rfl ?_
    refine ep_goto (tgt := 4) d_M_builtinOf_27 (by decide) ?_
    exact M_builtinOf_2 x _
  · refine ep_iload_n (j := 0) d_M_builtinOf_14 rfl rfl ?_
    refine ep_icmp_ne (tgt := 22) d_M_builtinOf_15 (by decide) (fun c15 => ?_) (fun c15 => ?_)
    · refine ep_iload_n (j := 1) d_M_builtinOf_22 rfl rfl ?_
      refine ep_cg (y := if ltM 1 = x then 1 else k) (by simp [c15]) ?_
      exact k23
    · refine ep_iload_n (j := 2) d_M_builtinOf_18 rfl rfl ?_
      refine ep_goto (tgt := 23) d_M_builtinOf_19 (by decide) ?_
      refine ep_cg (y := if ltM 1 = x then 1 else k) (by simp [c15]) ?_
      exact k23
set_option maxHeartbeats 4000000 in
set_option maxRecDepth 100000 in
theorem M_builtinOf_0 (x k : Int32) : EvP m_M_builtinOf (d + 1) 4 [(0, .int x), (1, .int k), (2, .int 0)] [] h (Ri (bof x 8 k) h) := by
  refine ep_iload_n (j := 2) d_M_builtinOf_4 rfl rfl ?_
  refine ep_bipush (v := 8) d_M_builtinOf_5 (by decide) ?_
  refine ep_icmp_ge (tgt := 30) d_M_builtinOf_7 (by decide) (fun z => absurd z (by decide)) (fun _ => ?_)
  refine ep_iload_n (j := 2) d_M_builtinOf_10 rfl rfl ?_
  refine ep_callSi (As := [.int 0]) (st := []) d_M_builtinOf_11 (Or.inl lk_M_127) cal_M_letter tm_M_letter ti_M rfl (Nat.le_of_ble_eq_true rfl) (Nat.le_of_ble_eq_true rfl) rfl rfl (M_letter 0) ?_
  refine ep_join (pc2 := 23) (lv2 := [(0, .int x), (1, .int k), (2, .int 0)]) (st2 := [.int (if ltM 0 = x then 0 else k)]) ?_ (fun k23 => ?_)
  · refine ep_istore_n (lv' := [(0, .int x), (1, .int (if ltM 0 = x then 0 else k)), (2, .int 0)]) [1, 0, 2] d_M_builtinOf_23 rfl (by decide) rfl ?_
    refine ep_iinc (v := 1) (j := 2) (lv' := [(0, .int x), (1, .int (if ltM 0 = x then 0 else k)), (2, .int 1)]) [1, 2, 0] d_M_builtinOf_24 rfl (by decide) (by decide) rfl ?_
    refine ep_goto (tgt := 4) d_M_builtinOf_27 (by decide) ?_
    exact M_builtinOf_1 x _
  · refine ep_iload_n (j := 0) d_M_builtinOf_14 rfl rfl ?_
    refine ep_icmp_ne (tgt := 22) d_M_builtinOf_15 (by decide) (fun c15 => ?_) (fun c15 => ?_)
    · refine ep_iload_n (j := 1) d_M_builtinOf_22 rfl rfl ?_
      refine ep_cg (y := if ltM 0 = x then 0 else k) (by simp [c15]) ?_
      exact k23
    · refine ep_iload_n (j := 2) d_M_builtinOf_18 rfl rfl ?_
      refine ep_goto (tgt := 23) d_M_builtinOf_19 (by decide) ?_
      refine ep_cg (y := if ltM 0 = x then 0 else k) (by simp [c15]) ?_
      exact k23
theorem bof_bol (x : Int32) : bof x 8 (-1) = bolF x := by
  have e : ∀ i, i < 8 → stCh 0 i = ltM (nI i) := by decide
  show (if ltM (nI 7) = x then nI 7 else if ltM (nI 6) = x then nI 6 else if ltM (nI 5) = x then nI 5 else if ltM (nI 4) = x then nI 4 else if ltM (nI 3) = x then nI 3 else if ltM (nI 2) = x then nI 2 else if ltM (nI 1) = x then nI 1 else if ltM (nI 0) = x then nI 0 else -1) = bolF x
  unfold bolF
  rw [e 0 (by decide), e 1 (by decide), e 2 (by decide), e 3 (by decide), e 4 (by decide), e 5 (by decide), e 6 (by decide), e 7 (by decide)]
  have v : ltM (nI 0) = 118 ∧ ltM (nI 1) = 98 ∧ ltM (nI 2) = 99 ∧ ltM (nI 3) = 115 ∧ ltM (nI 4) = 105 ∧ ltM (nI 5) = 106 ∧ ltM (nI 6) = 108 ∧ ltM (nI 7) = 120 := by decide
  have n : nI 0 = 0 ∧ nI 1 = 1 ∧ nI 2 = 2 ∧ nI 3 = 3 ∧ nI 4 = 4 ∧ nI 5 = 5 ∧ nI 6 = 6 ∧ nI 7 = 7 := by decide
  rw [v.1, v.2.1, v.2.2.1, v.2.2.2.1, v.2.2.2.2.1, v.2.2.2.2.2.1, v.2.2.2.2.2.2.1, v.2.2.2.2.2.2.2, n.1, n.2.1, n.2.2.1, n.2.2.2.1, n.2.2.2.2.1, n.2.2.2.2.2.1, n.2.2.2.2.2.2.1, n.2.2.2.2.2.2.2]
  by_cases h0 : (118 : Int32) = x
  · subst h0; decide
  by_cases h1 : (98 : Int32) = x
  · subst h1; decide
  by_cases h2 : (99 : Int32) = x
  · subst h2; decide
  by_cases h3 : (115 : Int32) = x
  · subst h3; decide
  by_cases h4 : (105 : Int32) = x
  · subst h4; decide
  by_cases h5 : (106 : Int32) = x
  · subst h5; decide
  by_cases h6 : (108 : Int32) = x
  · subst h6; decide
  by_cases h7 : (120 : Int32) = x
  · subst h7; decide
  rw [if_neg h7, if_neg h6, if_neg h5, if_neg h4, if_neg h3, if_neg h2, if_neg h1, if_neg h0, if_neg h0, if_neg h1, if_neg h2, if_neg h3, if_neg h4, if_neg h5, if_neg h6, if_neg h7]
set_option maxHeartbeats 4000000 in
set_option maxRecDepth 100000 in
theorem M_builtinOf (x : Int32) : EvP m_M_builtinOf (d + 1) 0 [(0, .int x)] [] h (Ri (bolF x) h) := by
  refine ep_iconst (v := (-1)) d_M_builtinOf_0 (by decide) ?_
  refine ep_istore_n (lv' := [(0, .int x), (1, .int (-1))]) [1, 0] d_M_builtinOf_1 rfl (by decide) rfl ?_
  refine ep_iconst (v := 0) d_M_builtinOf_2 (by decide) ?_
  refine ep_istore_n (lv' := [(0, .int x), (1, .int (-1)), (2, .int 0)]) [1, 2, 0] d_M_builtinOf_3 rfl (by decide) rfl ?_
  rw [← bof_bol]
  exact M_builtinOf_0 x (-1)
end MG
