/-! the reference: what a node is; by program (wip/whole/gen60.py) -/
section MPR
variable {d : Nat} {X : Nat × (Nat → Int32)} {cI : Nat → Int32} {cA : Nat → Nat → Int32} {rI : Nat → Int32} {rA : Nat → Nat → Int32} {ol : Int64} {J : mH} {S : CSt} {w : WM}
theorem kN_nd {N : List (List Int32)} {x : Int32} (h : ¬ ndP N x) (w : Nat) : cN N x w = -1 := by
  unfold cN nth
  rw [if_neg h]
  rfl
theorem NI.k0 {N : List (List Int32)} {n : Int32} (ni : NI N n) : 0 ≤ cN N n 0 := by
  have nk := ni.k
  generalize cN N n 0 = k at nk ⊢
  generalize cN N n 1 = v at nk
  generalize cN N n 2 = f at nk
  generalize cN N n 3 = g at nk
  generalize cN N n 4 = x at nk
  generalize cN N n 5 = y at nk
  generalize cN N n 6 = z at nk
  cases nk using NK.cs with
  | wp r _ _ => rcases r with rfl | rfl | rfl <;> decide
  | _ => decide
set_option maxHeartbeats 4000000 in
set_option maxRecDepth 100000 in
theorem M_isScoped (hb : MB rI rA S) (hW : WN S.1) (x : Int32) : EvP m_M_isScoped (d + 1) 0 [(0, .ref 16), (1, .int x)] [] (HC X cI cA rI rA ol J) (Ri (if pfP S.1 x then 1 else 0) (HC X cI cA rI rA ol J)) := by
  by_cases hn : ndP S.1 x
  · have hV := ndP_vd (by have := hW.1; omega) hn
    refine ep_aload_n (j := 0) d_M_isScoped_0 rfl rfl ?_
    refine ep_iload_n (j := 1) d_M_isScoped_1 rfl rfl ?_
    refine ep_callVi (As := [.int x]) (st := []) d_M_isScoped_2 lk_M_59 cal_M_isNode tm_M_isNode ts_M_isNode rfl rfl rfl (Nat.le_of_ble_eq_true rfl) (Nat.le_of_ble_eq_true rfl) rfl rfl (M_isNode hb.1.1 x) ?_
    rw [if_pos hn]
    refine ep_if_eq (tgt := 56) d_M_isScoped_5 (by decide) (fun z => absurd z (by decide)) (fun _ => ?_)
    refine ep_aload_n (j := 0) d_M_isScoped_8 rfl rfl ?_
    refine ep_getf (fi := 3) (v := .ref 17) d_M_isScoped_9 cl5 lf_M_7 (by decide) rfl rfl ?_
    refine ep_aload_n (j := 0) d_M_isScoped_12 rfl rfl ?_
    refine ep_iload_n (j := 1) d_M_isScoped_13 rfl rfl ?_
    refine ep_callVi (As := [.int x]) (st := [.ref 17]) d_M_isScoped_14 lk_M_59 cal_M_isNode tm_M_isNode ts_M_isNode rfl rfl rfl (Nat.le_of_ble_eq_true rfl) (Nat.le_of_ble_eq_true rfl) rfl rfl (M_isNode hb.1.1 x) ?_
    rw [if_pos hn]
    refine ep_if_eq (tgt := 24) d_M_isScoped_17 (by decide) (fun z => absurd z (by decide)) (fun _ => ?_)
    refine ep_iload_n (j := 1) d_M_isScoped_20 rfl rfl ?_
    refine ep_goto (tgt := 25) d_M_isScoped_21 (by decide) ?_
    refine ep_kind (N := S.1) d_M_isScoped_25 hb.1.2 (by have := hW.1; omega) hV ?_
    refine ep_iconst (v := 1) d_M_isScoped_26 (by decide) ?_
    refine ep_icmp_lt (tgt := 56) d_M_isScoped_27 (by decide) (fun c27 => ?_) (fun c27 => ?_)
    · refine ep_iconst (v := 0) d_M_isScoped_56 (by decide) ?_
      exact ep_iret d_M_isScoped_57 rfl rfl (⟨congrArg (fun z => Sum.inl (some (Value.int z))) (by rw [if_neg (fun u => u.1 c27)]), rfl⟩)
    · refine ep_aload_n (j := 0) d_M_isScoped_30 rfl rfl ?_
      refine ep_getf (fi := 3) (v := .ref 17) d_M_isScoped_31 cl5 lf_M_7 (by decide) rfl rfl ?_
      refine ep_aload_n (j := 0) d_M_isScoped_34 rfl rfl ?_
      refine ep_iload_n (j := 1) d_M_isScoped_35 rfl rfl ?_
      refine ep_callVi (As := [.int x]) (st := [.ref 17]) d_M_isScoped_36 lk_M_59 cal_M_isNode tm_M_isNode ts_M_isNode rfl rfl rfl (Nat.le_of_ble_eq_true rfl) (Nat.le_of_ble_eq_true rfl) rfl rfl (M_isNode hb.1.1 x) ?_
      rw [if_pos hn]
      refine ep_if_eq (tgt := 46) d_M_isScoped_39 (by decide) (fun z => absurd z (by decide)) (fun _ => ?_)
      refine ep_iload_n (j := 1) d_M_isScoped_42 rfl rfl ?_
      refine ep_goto (tgt := 47) d_M_isScoped_43 (by decide) ?_
      refine ep_kind (N := S.1) d_M_isScoped_47 hb.1.2 (by have := hW.1; omega) hV ?_
      refine ep_iconst (v := 3) d_M_isScoped_48 (by decide) ?_
      refine ep_icmp_gt (tgt := 56) d_M_isScoped_49 (by decide) (fun c49 => ?_) (fun c49 => ?_)
      · refine ep_iconst (v := 0) d_M_isScoped_56 (by decide) ?_
        exact ep_iret d_M_isScoped_57 rfl rfl (⟨congrArg (fun z => Sum.inl (some (Value.int z))) (by rw [if_neg (fun u => absurd u.2 (Int32.not_le.mpr c49))]), rfl⟩)
      · refine ep_iconst (v := 1) d_M_isScoped_52 (by decide) ?_
        refine ep_goto (tgt := 57) d_M_isScoped_53 (by decide) ?_
        exact ep_iret d_M_isScoped_57 rfl rfl (⟨congrArg (fun z => Sum.inl (some (Value.int z))) (by rw [if_pos ⟨c27, Int32.not_lt.mp c49⟩]), rfl⟩)
  · refine ep_aload_n (j := 0) d_M_isScoped_0 rfl rfl ?_
    refine ep_iload_n (j := 1) d_M_isScoped_1 rfl rfl ?_
    refine ep_callVi (As := [.int x]) (st := []) d_M_isScoped_2 lk_M_59 cal_M_isNode tm_M_isNode ts_M_isNode rfl rfl rfl (Nat.le_of_ble_eq_true rfl) (Nat.le_of_ble_eq_true rfl) rfl rfl (M_isNode hb.1.1 x) ?_
    rw [if_neg hn]
    refine ep_if_eq (tgt := 56) d_M_isScoped_5 (by decide) (fun _ => ?_) (fun z => absurd (by decide) z)
    refine ep_iconst (v := 0) d_M_isScoped_56 (by decide) ?_
    exact ep_iret d_M_isScoped_57 rfl rfl (⟨congrArg (fun z => Sum.inl (some (Value.int z))) (by rw [if_neg (fun u => absurd u.1 (fun q => q (by show cN S.1 x 0 < 1; rw [kN_nd hn]; decide)))]), rfl⟩)
theorem k9_8 {k : Int32} : 8 < k ↔ k ≥ 9 := by
  rw [Int32.lt_iff_toInt_lt, ge_iff_le, Int32.le_iff_toInt_le]
  exact Iff.rfl
set_option maxHeartbeats 4000000 in
set_option maxRecDepth 100000 in
theorem M_isType (hb : MB rI rA S) (hW : WN S.1) (x : Int32) : EvP m_M_isType (d + 1) 0 [(0, .ref 16), (1, .int x)] [] (HC X cI cA rI rA ol J) (Ri (if tyP S.1 x then 1 else 0) (HC X cI cA rI rA ol J)) := by
  by_cases hn : ndP S.1 x
  · have hV := ndP_vd (by have := hW.1; omega) hn
    refine ep_aload_n (j := 0) d_M_isType_0 rfl rfl ?_
    refine ep_iload_n (j := 1) d_M_isType_1 rfl rfl ?_
    refine ep_callVi (As := [.int x]) (st := []) d_M_isType_2 lk_M_59 cal_M_isNode tm_M_isNode ts_M_isNode rfl rfl rfl (Nat.le_of_ble_eq_true rfl) (Nat.le_of_ble_eq_true rfl) rfl rfl (M_isNode hb.1.1 x) ?_
    rw [if_pos hn]
    refine ep_if_eq (tgt := 35) d_M_isType_5 (by decide) (fun z => absurd z (by decide)) (fun _ => ?_)
    refine ep_aload_n (j := 0) d_M_isType_8 rfl rfl ?_
    refine ep_getf (fi := 3) (v := .ref 17) d_M_isType_9 cl5 lf_M_7 (by decide) rfl rfl ?_
    refine ep_aload_n (j := 0) d_M_isType_12 rfl rfl ?_
    refine ep_iload_n (j := 1) d_M_isType_13 rfl rfl ?_
    refine ep_callVi (As := [.int x]) (st := [.ref 17]) d_M_isType_14 lk_M_59 cal_M_isNode tm_M_isNode ts_M_isNode rfl rfl rfl (Nat.le_of_ble_eq_true rfl) (Nat.le_of_ble_eq_true rfl) rfl rfl (M_isNode hb.1.1 x) ?_
    rw [if_pos hn]
    refine ep_if_eq (tgt := 24) d_M_isType_17 (by decide) (fun z => absurd z (by decide)) (fun _ => ?_)
    refine ep_iload_n (j := 1) d_M_isType_20 rfl rfl ?_
    refine ep_goto (tgt := 25) d_M_isType_21 (by decide) ?_
    refine ep_kind (N := S.1) d_M_isType_25 hb.1.2 (by have := hW.1; omega) hV ?_
    refine ep_bipush (v := 9) d_M_isType_26 (by decide) ?_
    refine ep_icmp_ge (tgt := 35) d_M_isType_28 (by decide) (fun c28 => ?_) (fun c28 => ?_)
    · refine ep_iconst (v := 0) d_M_isType_35 (by decide) ?_
      exact ep_iret d_M_isType_36 rfl rfl (⟨congrArg (fun z => Sum.inl (some (Value.int z))) (by rw [if_neg (fun u => u.2 (k9_8.mpr c28))]), rfl⟩)
    · refine ep_iconst (v := 1) d_M_isType_31 (by decide) ?_
      refine ep_goto (tgt := 36) d_M_isType_32 (by decide) ?_
      exact ep_iret d_M_isType_36 rfl rfl (⟨congrArg (fun z => Sum.inl (some (Value.int z))) (by rw [if_pos ⟨Int32.not_lt.mpr (hW.ni hV).k0, fun u => c28 (k9_8.mp u)⟩]), rfl⟩)
  · refine ep_aload_n (j := 0) d_M_isType_0 rfl rfl ?_
    refine ep_iload_n (j := 1) d_M_isType_1 rfl rfl ?_
    refine ep_callVi (As := [.int x]) (st := []) d_M_isType_2 lk_M_59 cal_M_isNode tm_M_isNode ts_M_isNode rfl rfl rfl (Nat.le_of_ble_eq_true rfl) (Nat.le_of_ble_eq_true rfl) rfl rfl (M_isNode hb.1.1 x) ?_
    rw [if_neg hn]
    refine ep_if_eq (tgt := 35) d_M_isType_5 (by decide) (fun _ => ?_) (fun z => absurd (by decide) z)
    refine ep_iconst (v := 0) d_M_isType_35 (by decide) ?_
    exact ep_iret d_M_isType_36 rfl rfl (⟨congrArg (fun z => Sum.inl (some (Value.int z))) (by rw [if_neg (fun u => u.1 (by show cN S.1 x 0 < 0; rw [kN_nd hn]; decide))]), rfl⟩)
set_option maxHeartbeats 4000000 in
set_option maxRecDepth 100000 in
theorem M_isParameter (hb : MB rI rA S) (hW : WN S.1) (x : Int32) : EvP m_M_isParameter (d + 2) 0 [(0, .ref 16), (1, .int x)] [] (HC X cI cA rI rA ol J) (Ri (if prP S.1 x then 1 else 0) (HC X cI cA rI rA ol J)) := by
  by_cases ht : tyP S.1 x
  · have hV := ty_vd (by have := hW.1; omega) ht
    refine ep_aload_n (j := 0) d_M_isParameter_0 rfl rfl ?_
    refine ep_iload_n (j := 1) d_M_isParameter_1 rfl rfl ?_
    refine ep_callVi (As := [.int x]) (st := []) d_M_isParameter_2 lk_M_63 cal_M_isType tm_M_isType ts_M_isType rfl rfl rfl (Nat.le_of_ble_eq_true rfl) (Nat.le_of_ble_eq_true rfl) rfl rfl (M_isType hb hW x) ?_
    rw [if_pos ht]
    refine ep_if_eq (tgt := 54) d_M_isParameter_5 (by decide) (fun z => absurd z (by decide)) (fun _ => ?_)
    refine ep_aload_n (j := 0) d_M_isParameter_8 rfl rfl ?_
    refine ep_getf (fi := 3) (v := .ref 17) d_M_isParameter_9 cl5 lf_M_7 (by decide) rfl rfl ?_
    refine ep_aload_n (j := 0) d_M_isParameter_12 rfl rfl ?_
    refine ep_iload_n (j := 1) d_M_isParameter_13 rfl rfl ?_
    refine ep_callVi (As := [.int x]) (st := [.ref 17]) d_M_isParameter_14 lk_M_63 cal_M_isType tm_M_isType ts_M_isType rfl rfl rfl (Nat.le_of_ble_eq_true rfl) (Nat.le_of_ble_eq_true rfl) rfl rfl (M_isType hb hW x) ?_
    rw [if_pos ht]
    refine ep_if_eq (tgt := 24) d_M_isParameter_17 (by decide) (fun z => absurd z (by decide)) (fun _ => ?_)
    refine ep_iload_n (j := 1) d_M_isParameter_20 rfl rfl ?_
    refine ep_goto (tgt := 25) d_M_isParameter_21 (by decide) ?_
    refine ep_kind (N := S.1) d_M_isParameter_25 hb.1.2 (by have := hW.1; omega) hV ?_
    refine ep_if_ne (tgt := 50) d_M_isParameter_26 (by decide) (fun c26 => ?_) (fun c26 => ?_)
    · refine ep_iconst (v := 1) d_M_isParameter_50 (by decide) ?_
      refine ep_goto (tgt := 55) d_M_isParameter_51 (by decide) ?_
      exact ep_iret d_M_isParameter_55 rfl rfl (⟨congrArg (fun z => Sum.inl (some (Value.int z))) (by rw [if_pos ⟨ht, fun u => c26 u.1⟩]), rfl⟩)
    · refine ep_aload_n (j := 0) d_M_isParameter_29 rfl rfl ?_
      refine ep_getf (fi := 4) (v := .ref 18) d_M_isParameter_30 cl5 lf_M_13 (by decide) rfl rfl ?_
      refine ep_aload_n (j := 0) d_M_isParameter_33 rfl rfl ?_
      refine ep_iload_n (j := 1) d_M_isParameter_34 rfl rfl ?_
      refine ep_callVi (As := [.int x]) (st := [.ref 18]) d_M_isParameter_35 lk_M_63 cal_M_isType tm_M_isType ts_M_isType rfl rfl rfl (Nat.le_of_ble_eq_true rfl) (Nat.le_of_ble_eq_true rfl) rfl rfl (M_isType hb hW x) ?_
      rw [if_pos ht]
      refine ep_if_eq (tgt := 45) d_M_isParameter_38 (by decide) (fun z => absurd z (by decide)) (fun _ => ?_)
      refine ep_iload_n (j := 1) d_M_isParameter_41 rfl rfl ?_
      refine ep_goto (tgt := 46) d_M_isParameter_42 (by decide) ?_
      refine ep_val (N := S.1) d_M_isParameter_46 hb.1.2 (by have := hW.1; omega) hV ?_
      refine ep_if_eq (tgt := 54) d_M_isParameter_47 (by decide) (fun c47 => ?_) (fun c47 => ?_)
      · refine ep_iconst (v := 0) d_M_isParameter_54 (by decide) ?_
        exact ep_iret d_M_isParameter_55 rfl rfl (⟨congrArg (fun z => Sum.inl (some (Value.int z))) (by rw [if_neg (fun u => u.2 ⟨c26, c47⟩)]), rfl⟩)
      · refine ep_iconst (v := 1) d_M_isParameter_50 (by decide) ?_
        refine ep_goto (tgt := 55) d_M_isParameter_51 (by decide) ?_
        exact ep_iret d_M_isParameter_55 rfl rfl (⟨congrArg (fun z => Sum.inl (some (Value.int z))) (by rw [if_pos ⟨ht, fun u => c47 u.2⟩]), rfl⟩)
  · refine ep_aload_n (j := 0) d_M_isParameter_0 rfl rfl ?_
    refine ep_iload_n (j := 1) d_M_isParameter_1 rfl rfl ?_
    refine ep_callVi (As := [.int x]) (st := []) d_M_isParameter_2 lk_M_63 cal_M_isType tm_M_isType ts_M_isType rfl rfl rfl (Nat.le_of_ble_eq_true rfl) (Nat.le_of_ble_eq_true rfl) rfl rfl (M_isType hb hW x) ?_
    rw [if_neg ht]
    refine ep_if_eq (tgt := 54) d_M_isParameter_5 (by decide) (fun _ => ?_) (fun z => absurd (by decide) z)
    refine ep_iconst (v := 0) d_M_isParameter_54 (by decide) ?_
    exact ep_iret d_M_isParameter_55 rfl rfl (⟨congrArg (fun z => Sum.inl (some (Value.int z))) (by rw [if_neg (fun u => ht u.1)]), rfl⟩)
set_option maxHeartbeats 4000000 in
set_option maxRecDepth 100000 in
theorem M_isArgument (hb : MB rI rA S) (hW : WN S.1) (x : Int32) : EvP m_M_isArgument (d + 2) 0 [(0, .ref 16), (1, .int x)] [] (HC X cI cA rI rA ol J) (Ri (if arP S.1 x then 1 else 0) (HC X cI cA rI rA ol J)) := by
  by_cases ht : tyP S.1 x
  · refine ep_aload_n (j := 0) d_M_isArgument_0 rfl rfl ?_
    refine ep_iload_n (j := 1) d_M_isArgument_1 rfl rfl ?_
    refine ep_callVi (As := [.int x]) (st := []) d_M_isArgument_2 lk_M_63 cal_M_isType tm_M_isType ts_M_isType rfl rfl rfl (Nat.le_of_ble_eq_true rfl) (Nat.le_of_ble_eq_true rfl) rfl rfl (M_isType hb hW x) ?_
    rw [if_pos ht]
    refine ep_if_ne (tgt := 39) d_M_isArgument_5 (by decide) (fun _ => ?_) (fun z => absurd z (by decide))
    refine ep_iconst (v := 1) d_M_isArgument_39 (by decide) ?_
    refine ep_goto (tgt := 44) d_M_isArgument_40 (by decide) ?_
    exact ep_iret d_M_isArgument_44 rfl rfl (⟨congrArg (fun z => Sum.inl (some (Value.int z))) (by rw [if_pos (Or.inl ht)]), rfl⟩)
  by_cases hn : ndP S.1 x
  · have hV := ndP_vd (by have := hW.1; omega) hn
    refine ep_aload_n (j := 0) d_M_isArgument_0 rfl rfl ?_
    refine ep_iload_n (j := 1) d_M_isArgument_1 rfl rfl ?_
    refine ep_callVi (As := [.int x]) (st := []) d_M_isArgument_2 lk_M_63 cal_M_isType tm_M_isType ts_M_isType rfl rfl rfl (Nat.le_of_ble_eq_true rfl) (Nat.le_of_ble_eq_true rfl) rfl rfl (M_isType hb hW x) ?_
    rw [if_neg ht]
    refine ep_if_ne (tgt := 39) d_M_isArgument_5 (by decide) (fun z => absurd (by decide) z) (fun _ => ?_)
    refine ep_aload_n (j := 0) d_M_isArgument_8 rfl rfl ?_
    refine ep_iload_n (j := 1) d_M_isArgument_9 rfl rfl ?_
    refine ep_callVi (As := [.int x]) (st := []) d_M_isArgument_10 lk_M_59 cal_M_isNode tm_M_isNode ts_M_isNode rfl rfl rfl (Nat.le_of_ble_eq_true rfl) (Nat.le_of_ble_eq_true rfl) rfl rfl (M_isNode hb.1.1 x) ?_
    rw [if_pos hn]
    refine ep_if_eq (tgt := 43) d_M_isArgument_13 (by decide) (fun z => absurd z (by decide)) (fun _ => ?_)
    refine ep_aload_n (j := 0) d_M_isArgument_16 rfl rfl ?_
    refine ep_getf (fi := 3) (v := .ref 17) d_M_isArgument_17 cl5 lf_M_7 (by decide) rfl rfl ?_
    refine ep_aload_n (j := 0) d_M_isArgument_20 rfl rfl ?_
    refine ep_iload_n (j := 1) d_M_isArgument_21 rfl rfl ?_
    refine ep_callVi (As := [.int x]) (st := [.ref 17]) d_M_isArgument_22 lk_M_59 cal_M_isNode tm_M_isNode ts_M_isNode rfl rfl rfl (Nat.le_of_ble_eq_true rfl) (Nat.le_of_ble_eq_true rfl) rfl rfl (M_isNode hb.1.1 x) ?_
    rw [if_pos hn]
    refine ep_if_eq (tgt := 32) d_M_isArgument_25 (by decide) (fun z => absurd z (by decide)) (fun _ => ?_)
    refine ep_iload_n (j := 1) d_M_isArgument_28 rfl rfl ?_
    refine ep_goto (tgt := 33) d_M_isArgument_29 (by decide) ?_
    refine ep_kind (N := S.1) d_M_isArgument_33 hb.1.2 (by have := hW.1; omega) hV ?_
    refine ep_bipush (v := 9) d_M_isArgument_34 (by decide) ?_
    refine ep_icmp_ne (tgt := 43) d_M_isArgument_36 (by decide) (fun c36 => ?_) (fun c36 => ?_)
    · refine ep_iconst (v := 0) d_M_isArgument_43 (by decide) ?_
      exact ep_iret d_M_isArgument_44 rfl rfl (⟨congrArg (fun z => Sum.inl (some (Value.int z))) (by rw [if_neg (fun u => u.elim ht c36)]), rfl⟩)
    · refine ep_iconst (v := 1) d_M_isArgument_39 (by decide) ?_
      refine ep_goto (tgt := 44) d_M_isArgument_40 (by decide) ?_
      exact ep_iret d_M_isArgument_44 rfl rfl (⟨congrArg (fun z => Sum.inl (some (Value.int z))) (by rw [if_pos (Or.inr c36)]), rfl⟩)
  · refine ep_aload_n (j := 0) d_M_isArgument_0 rfl rfl ?_
    refine ep_iload_n (j := 1) d_M_isArgument_1 rfl rfl ?_
    refine ep_callVi (As := [.int x]) (st := []) d_M_isArgument_2 lk_M_63 cal_M_isType tm_M_isType ts_M_isType rfl rfl rfl (Nat.le_of_ble_eq_true rfl) (Nat.le_of_ble_eq_true rfl) rfl rfl (M_isType hb hW x) ?_
    rw [if_neg ht]
    refine ep_if_ne (tgt := 39) d_M_isArgument_5 (by decide) (fun z => absurd (by decide) z) (fun _ => ?_)
    refine ep_aload_n (j := 0) d_M_isArgument_8 rfl rfl ?_
    refine ep_iload_n (j := 1) d_M_isArgument_9 rfl rfl ?_
    refine ep_callVi (As := [.int x]) (st := []) d_M_isArgument_10 lk_M_59 cal_M_isNode tm_M_isNode ts_M_isNode rfl rfl rfl (Nat.le_of_ble_eq_true rfl) (Nat.le_of_ble_eq_true rfl) rfl rfl (M_isNode hb.1.1 x) ?_
    rw [if_neg hn]
    refine ep_if_eq (tgt := 43) d_M_isArgument_13 (by decide) (fun _ => ?_) (fun z => absurd (by decide) z)
    refine ep_iconst (v := 0) d_M_isArgument_43 (by decide) ?_
    exact ep_iret d_M_isArgument_44 rfl rfl (⟨congrArg (fun z => Sum.inl (some (Value.int z))) (by rw [if_neg (fun u => u.elim ht (fun q => absurd ((kN_nd hn 0).symm.trans q) (by decide)))]), rfl⟩)
abbrev idQ (a b c : Int32) : Prop := smP c ∧ (smP b ∨ (b = 0 ∧ a = 0)) ∧ (smP a ∨ a = 0)
theorem shr_neg {x : Int32} (h : x < 0) : x >>> (16 &&& 31 : Int32) < 0 := by
  have e : (x >>> (16 &&& 31 : Int32)).toBitVec = x.toBitVec.sshiftRight 16 := rfl
  rw [Int32.lt_iff_toInt_lt] at h ⊢
  have h1 : (x.toBitVec.sshiftRight 16).msb = x.toBitVec.msb := BitVec.msb_sshiftRight
  rw [← e] at h1
  rw [BitVec.msb_eq_toInt, BitVec.msb_eq_toInt] at h1
  have h2 : x.toBitVec.toInt < 0 := h
  rw [decide_eq_true h2] at h1
  exact of_decide_eq_true h1
theorem idQ_idP (x : Int32) : idQ (x >>> (16 &&& 31 : Int32)) ((x >>> (8 &&& 31 : Int32)) &&& 255) (x &&& 255) ↔ idP x := by
  have smn : ∀ m : Nat, m < 2 ^ 31 → (smP (nI m) ↔ 97 ≤ m ∧ m ≤ 122) := fun m hm => by
    refine ⟨fun q => ?_, fun q => ?_⟩
    · obtain ⟨e, e1, e2, e3⟩ := sm_nI' q
      have := (nI_eq hm (by omega)).mp e3
      omega
    · rw [show smP (nI m) = (¬ nI m < nI 97 ∧ ¬ nI 122 < nI m) from rfl]
      exact ⟨fun w => absurd ((nI_ltI hm (by omega)).mp w) (by omega), fun w => absurd ((nI_ltI (by omega) hm).mp w) (by omega)⟩
  by_cases hx : x < 0
  · refine ⟨fun q => ?_, fun q => ?_⟩
    · exfalso
      have := shr_neg hx
      rcases q.2.2 with w | w
      · exact w.1 (Int32.lt_trans this (by decide))
      · rw [w] at this; exact absurd this (by decide)
    · exfalso
      rcases idP_cases q with ⟨a, a1, a2, rfl⟩ | ⟨a, b, a1, a2, b1, b2, rfl⟩ | ⟨a, b, c, a1, a2, b1, b2, c1, c2, rfl⟩
      · exact absurd (nI_pos' (n := a) (by omega)) (Int32.not_le.mpr hx)
      · exact absurd (nI_pos' (n := a * 256 + b) (by omega)) (Int32.not_le.mpr hx)
      · exact absurd (nI_pos' (n := (a * 256 + b) * 256 + c) (by omega)) (Int32.not_le.mpr hx)
  · obtain ⟨n, hn, rfl⟩ := nI_of' (Int32.not_lt.mp hx)
    have e16 : nI n >>> (16 &&& 31 : Int32) = nI (n / 2 ^ 16) := pk_shrN hn _ 16 (by decide)
    have e8 : (nI n >>> (8 &&& 31 : Int32)) &&& 255 = nI (n / 2 ^ 8 % 256) := sb_nI hn _ 8 (by decide)
    have e0 : nI n &&& 255 = nI (n % 2 ^ 8) := pk_andN (by omega) 8 (by decide)
    rw [e16, e8, e0]
    have z : ∀ m : Nat, m < 2 ^ 31 → (nI m = 0 ↔ m = 0) := fun m hm => by rw [z_nI hm]
    show (smP (nI (n % 2 ^ 8)) ∧ (smP (nI (n / 2 ^ 8 % 256)) ∨ (nI (n / 2 ^ 8 % 256) = 0 ∧ nI (n / 2 ^ 16) = 0)) ∧ (smP (nI (n / 2 ^ 16)) ∨ nI (n / 2 ^ 16) = 0)) ↔ _
    rw [smn _ (by omega), smn _ (by omega), smn _ (by omega), z _ (by omega), z _ (by omega)]
    refine ⟨fun q => ?_, fun q => ?_⟩
    · obtain ⟨q0, q8, q16⟩ := q
      rcases q16 with q16 | q16
      · rcases q8 with q8 | q8
        · have : n = ((n / 2 ^ 16) * 256 + n / 2 ^ 8 % 256) * 256 + n % 2 ^ 8 := by omega
          rw [this]
          exact idP_3 q16.1 q16.2 q8.1 q8.2 q0.1 q0.2
        · omega
      · rcases q8 with q8 | q8
        · have : n = (n / 2 ^ 8 % 256) * 256 + n % 2 ^ 8 := by omega
          rw [this]
          exact idP_2 q8.1 q8.2 q0.1 q0.2
        · have : n = n % 2 ^ 8 := by omega
          rw [this]
          exact idP_1 q0.1 q0.2
    · rcases idP_cases q with ⟨a, a1, a2, e⟩ | ⟨a, b, a1, a2, b1, b2, e⟩ | ⟨a, b, c, a1, a2, b1, b2, c1, c2, e⟩
      · have := (nI_eq hn (by omega)).mp e
        omega
      · have := (nI_eq hn (by omega)).mp e
        omega
      · have := (nI_eq hn (by omega)).mp e
        omega
theorem ite_10 {p : Prop} [Decidable p] : ((if p then (1 : Int32) else 0) = 0) = ¬ p := by by_cases h : p <;> simp [h]
theorem ite_n {p : Prop} [Decidable p] (h : (if p then (1 : Int32) else 0) = 0) : ¬ p := fun q => by rw [if_pos q] at h; exact absurd h (by decide)
theorem ite_p {p : Prop} [Decidable p] (h : ¬ (if p then (1 : Int32) else 0) = 0) : p := Decidable.not_not.mp fun q => h (if_neg q)
set_option maxHeartbeats 4000000 in
set_option maxRecDepth 100000 in
theorem M_isId (x : Int32) : EvP m_M_isId d 0 [(0, .int x)] [] (HC X cI cA rI rA ol J) (Ri (if idP x then 1 else 0) (HC X cI cA rI rA ol J)) := by
  refine ep_iload_n (j := 0) d_M_isId_0 rfl rfl ?_
  refine ep_bipush (v := 16) d_M_isId_1 (by decide) ?_
  refine ep_ishr d_M_isId_3 ?_
  refine ep_nm (fun a ea => ?_)
  refine ep_istore_n (lv' := [(0, .int x), (1, .int a)]) [1, 0] d_M_isId_4 rfl (by decide) rfl ?_
  refine ep_iload_n (j := 0) d_M_isId_5 rfl rfl ?_
  refine ep_bipush (v := 8) d_M_isId_6 (by decide) ?_
  refine ep_ishr d_M_isId_8 ?_
  refine ep_sipush (v := 255) d_M_isId_9 (by decide) ?_
  refine ep_iand d_M_isId_12 ?_
  refine ep_nm (fun b eb => ?_)
  refine ep_istore_n (lv' := [(0, .int x), (1, .int a), (2, .int b)]) [1, 2, 0] d_M_isId_13 rfl (by decide) rfl ?_
  refine ep_iload_n (j := 0) d_M_isId_14 rfl rfl ?_
  refine ep_sipush (v := 255) d_M_isId_15 (by decide) ?_
  refine ep_iand d_M_isId_18 ?_
  refine ep_nm (fun c ec => ?_)
  refine ep_istore_n (lv' := [(0, .int x), (1, .int a), (2, .int b), (3, .int c)]) [1, 2, 3, 0] d_M_isId_19 rfl (by decide) rfl ?_
  refine ep_join (pc2 := 37) (lv2 := [(0, .int x), (1, .int a), (2, .int b), (3, .int c)]) (st2 := [.int (if smP c then 1 else 0)]) ?_ (fun k37 => ?_)
  · refine ep_istore (lv' := [(0, .int x), (1, .int a), (2, .int b), (3, .int c), (4, .int (if smP c then 1 else 0))]) [1, 2, 3, 4, 0] d_M_isId_37 (by decide) rfl ?_
    refine ep_join (pc2 := 56) (lv2 := [(0, .int x), (1, .int a), (2, .int b), (3, .int c), (4, .int (if smP c then 1 else 0))]) (st2 := [.int (if smP b then 1 else 0)]) ?_ (fun k56 => ?_)
    · refine ep_istore (lv' := [(0, .int x), (1, .int a), (2, .int b), (3, .int c), (4, .int (if smP c then 1 else 0)), (5, .int (if smP b then 1 else 0))]) [1, 2, 3, 4, 5, 0] d_M_isId_56 (by decide) rfl ?_
      refine ep_join (pc2 := 75) (lv2 := [(0, .int x), (1, .int a), (2, .int b), (3, .int c), (4, .int (if smP c then 1 else 0)), (5, .int (if smP b then 1 else 0))]) (st2 := [.int (if smP a then 1 else 0)]) ?_ (fun k75 => ?_)
      · refine ep_istore (lv' := [(0, .int x), (1, .int a), (2, .int b), (3, .int c), (4, .int (if smP c then 1 else 0)), (5, .int (if smP b then 1 else 0)), (6, .int (if smP a then 1 else 0))]) [1, 2, 3, 4, 5, 6, 0] d_M_isId_75 (by decide) rfl ?_
        refine ep_iload (j := 4) d_M_isId_77 rfl ?_
        refine ep_if_eq (tgt := 108) d_M_isId_79 (by decide) (fun c79 => ?_) (fun c79 => ?_)
        · refine ep_iconst (v := 0) d_M_isId_108 (by decide) ?_
          exact ep_iret d_M_isId_109 rfl rfl (⟨congrArg (fun z => Sum.inl (some (Value.int z))) (by rw [if_neg (fun u => by have u := (idQ_idP x).mpr u; rw [← ea, ← eb, ← ec] at u; exact ite_n c79 u.1)]), rfl⟩)
        · refine ep_iload (j := 5) d_M_isId_82 rfl ?_
          refine ep_if_ne (tgt := 95) d_M_isId_84 (by decide) (fun c84 => ?_) (fun c84 => ?_)
          · refine ep_iload (j := 6) d_M_isId_95 rfl ?_
            refine ep_if_ne (tgt := 104) d_M_isId_97 (by decide) (fun c97 => ?_) (fun c97 => ?_)
            · refine ep_iconst (v := 1) d_M_isId_104 (by decide) ?_
              refine ep_goto (tgt := 109) d_M_isId_105 (by decide) ?_
              exact ep_iret d_M_isId_109 rfl rfl (⟨congrArg (fun z => Sum.inl (some (Value.int z))) (by rw [if_pos ((idQ_idP x).mp (by rw [← ea, ← eb, ← ec]; exact ⟨ite_p c79, (Or.inl (ite_p c84)), Or.inl (ite_p c97)⟩))]), rfl⟩)
            · refine ep_iload_n (j := 1) d_M_isId_100 rfl rfl ?_
              refine ep_if_ne (tgt := 108) d_M_isId_101 (by decide) (fun c101 => ?_) (fun c101 => ?_)
              · refine ep_iconst (v := 0) d_M_isId_108 (by decide) ?_
                exact ep_iret d_M_isId_109 rfl rfl (⟨congrArg (fun z => Sum.inl (some (Value.int z))) (by rw [if_neg (fun u => by have u := (idQ_idP x).mpr u; rw [← ea, ← eb, ← ec] at u; exact u.2.2.elim (ite_n c97) c101)]), rfl⟩)
              · refine ep_iconst (v := 1) d_M_isId_104 (by decide) ?_
                refine ep_goto (tgt := 109) d_M_isId_105 (by decide) ?_
                exact ep_iret d_M_isId_109 rfl rfl (⟨congrArg (fun z => Sum.inl (some (Value.int z))) (by rw [if_pos ((idQ_idP x).mp (by rw [← ea, ← eb, ← ec]; exact ⟨ite_p c79, (Or.inl (ite_p c84)), Or.inr c101⟩))]), rfl⟩)
          · refine ep_iload_n (j := 2) d_M_isId_87 rfl rfl ?_
            refine ep_if_ne (tgt := 108) d_M_isId_88 (by decide) (fun c88 => ?_) (fun c88 => ?_)
            · refine ep_iconst (v := 0) d_M_isId_108 (by decide) ?_
              exact ep_iret d_M_isId_109 rfl rfl (⟨congrArg (fun z => Sum.inl (some (Value.int z))) (by rw [if_neg (fun u => by have u := (idQ_idP x).mpr u; rw [← ea, ← eb, ← ec] at u; exact u.2.1.elim (ite_n c84) (fun q => c88 q.1))]), rfl⟩)
            · refine ep_iload_n (j := 1) d_M_isId_91 rfl rfl ?_
              refine ep_if_ne (tgt := 108) d_M_isId_92 (by decide) (fun c92 => ?_) (fun c92 => ?_)
              · refine ep_iconst (v := 0) d_M_isId_108 (by decide) ?_
                exact ep_iret d_M_isId_109 rfl rfl (⟨congrArg (fun z => Sum.inl (some (Value.int z))) (by rw [if_neg (fun u => by have u := (idQ_idP x).mpr u; rw [← ea, ← eb, ← ec] at u; exact u.2.1.elim (ite_n c84) (fun q => c92 q.2))]), rfl⟩)
              · refine ep_iload (j := 6) d_M_isId_95 rfl ?_
                refine ep_if_ne (tgt := 104) d_M_isId_97 (by decide) (fun c97 => ?_) (fun c97 => ?_)
                · refine ep_iconst (v := 1) d_M_isId_104 (by decide) ?_
                  refine ep_goto (tgt := 109) d_M_isId_105 (by decide) ?_
                  exact ep_iret d_M_isId_109 rfl rfl (⟨congrArg (fun z => Sum.inl (some (Value.int z))) (by rw [if_pos ((idQ_idP x).mp (by rw [← ea, ← eb, ← ec]; exact ⟨ite_p c79, (Or.inr ⟨c88, c92⟩), Or.inl (ite_p c97)⟩))]), rfl⟩)
                · refine ep_iload_n (j := 1) d_M_isId_100 rfl rfl ?_
                  refine ep_if_ne (tgt := 108) d_M_isId_101 (by decide) (fun c101 => ?_) (fun c101 => ?_)
                  · refine ep_iconst (v := 0) d_M_isId_108 (by decide) ?_
                    exact ep_iret d_M_isId_109 rfl rfl (⟨congrArg (fun z => Sum.inl (some (Value.int z))) (by rw [if_neg (fun u => by have u := (idQ_idP x).mpr u; rw [← ea, ← eb, ← ec] at u; exact u.2.2.elim (ite_n c97) c101)]), rfl⟩)
                  · refine ep_iconst (v := 1) d_M_isId_104 (by decide) ?_
                    refine ep_goto (tgt := 109) d_M_isId_105 (by decide) ?_
                    exact ep_iret d_M_isId_109 rfl rfl (⟨congrArg (fun z => Sum.inl (some (Value.int z))) (by rw [if_pos ((idQ_idP x).mp (by rw [← ea, ← eb, ← ec]; exact ⟨ite_p c79, (Or.inr ⟨c88, c92⟩), Or.inr c101⟩))]), rfl⟩)
      · refine ep_iload_n (j := 1) d_M_isId_58 rfl rfl ?_
        refine ep_bipush (v := 97) d_M_isId_59 (by decide) ?_
        refine ep_icmp_lt (tgt := 74) d_M_isId_61 (by decide) (fun c61 => ?_) (fun c61 => ?_)
        · refine ep_iconst (v := 0) d_M_isId_74 (by decide) ?_
          refine ep_cg (y := if smP a then 1 else 0) ((if_neg (fun u => u.1 c61)).symm) ?_
          exact k75
        · refine ep_iload_n (j := 1) d_M_isId_64 rfl rfl ?_
          refine ep_bipush (v := 122) d_M_isId_65 (by decide) ?_
          refine ep_icmp_gt (tgt := 74) d_M_isId_67 (by decide) (fun c67 => ?_) (fun c67 => ?_)
          · refine ep_iconst (v := 0) d_M_isId_74 (by decide) ?_
            refine ep_cg (y := if smP a then 1 else 0) ((if_neg (fun u => u.2 c67)).symm) ?_
            exact k75
          · refine ep_iconst (v := 1) d_M_isId_70 (by decide) ?_
            refine ep_goto (tgt := 75) d_M_isId_71 (by decide) ?_
            refine ep_cg (y := if smP a then 1 else 0) ((if_pos ⟨c61, c67⟩).symm) ?_
            exact k75
    · refine ep_iload_n (j := 2) d_M_isId_39 rfl rfl ?_
      refine ep_bipush (v := 97) d_M_isId_40 (by decide) ?_
      refine ep_icmp_lt (tgt := 55) d_M_isId_42 (by decide) (fun c42 => ?_) (fun c42 => ?_)
      · refine ep_iconst (v := 0) d_M_isId_55 (by decide) ?_
        refine ep_cg (y := if smP b then 1 else 0) ((if_neg (fun u => u.1 c42)).symm) ?_
        exact k56
      · refine ep_iload_n (j := 2) d_M_isId_45 rfl rfl ?_
        refine ep_bipush (v := 122) d_M_isId_46 (by decide) ?_
        refine ep_icmp_gt (tgt := 55) d_M_isId_48 (by decide) (fun c48 => ?_) (fun c48 => ?_)
        · refine ep_iconst (v := 0) d_M_isId_55 (by decide) ?_
          refine ep_cg (y := if smP b then 1 else 0) ((if_neg (fun u => u.2 c48)).symm) ?_
          exact k56
        · refine ep_iconst (v := 1) d_M_isId_51 (by decide) ?_
          refine ep_goto (tgt := 56) d_M_isId_52 (by decide) ?_
          refine ep_cg (y := if smP b then 1 else 0) ((if_pos ⟨c42, c48⟩).symm) ?_
          exact k56
  · refine ep_iload_n (j := 3) d_M_isId_20 rfl rfl ?_
    refine ep_bipush (v := 97) d_M_isId_21 (by decide) ?_
    refine ep_icmp_lt (tgt := 36) d_M_isId_23 (by decide) (fun c23 => ?_) (fun c23 => ?_)
    · refine ep_iconst (v := 0) d_M_isId_36 (by decide) ?_
      refine ep_cg (y := if smP c then 1 else 0) ((if_neg (fun u => u.1 c23)).symm) ?_
      exact k37
    · refine ep_iload_n (j := 3) d_M_isId_26 rfl rfl ?_
      refine ep_bipush (v := 122) d_M_isId_27 (by decide) ?_
      refine ep_icmp_gt (tgt := 36) d_M_isId_29 (by decide) (fun c29 => ?_) (fun c29 => ?_)
      · refine ep_iconst (v := 0) d_M_isId_36 (by decide) ?_
        refine ep_cg (y := if smP c then 1 else 0) ((if_neg (fun u => u.2 c29)).symm) ?_
        exact k37
      · refine ep_iconst (v := 1) d_M_isId_32 (by decide) ?_
        refine ep_goto (tgt := 37) d_M_isId_33 (by decide) ?_
        refine ep_cg (y := if smP c then 1 else 0) ((if_pos ⟨c23, c29⟩).symm) ?_
        exact k37
theorem pa_iff {N : List (List Int32)} (hN : N.length ≤ 1000) (x : Int32) : paP N x ↔ (x = -1 ∨ prP N x) := by
  have e : x = -1 → kN N x = -1 := fun q => by
    refine kN_nd (fun u => ?_) 0
    rw [q] at u
    exact absurd u.1 (by decide)
  show ((kN N x = 0 ∧ ¬ cN N x 1 = 0) ∨ (¬ kN N x = 0 ∧ (x = -1 ∨ (¬ kN N x ≤ 0 ∧ ¬ 8 < kN N x)))) ↔ (x = -1 ∨ ((¬ kN N x < 0 ∧ ¬ 8 < kN N x) ∧ ¬ (kN N x = 0 ∧ cN N x 1 = 0)))
  generalize kN N x = k at e ⊢
  by_cases h0 : k = 0
  · subst h0
    have : ¬ x = -1 := fun q => absurd (e q) (by decide)
    refine ⟨fun q => ?_, fun q => ?_⟩
    · rcases q with q | q
      · exact Or.inr ⟨⟨by decide, by decide⟩, fun w => q.2 w.2⟩
      · exact absurd rfl q.1
    · rcases q with q | q
      · exact absurd q this
      · exact Or.inl ⟨rfl, fun w => q.2 ⟨rfl, w⟩⟩
  · refine ⟨fun q => ?_, fun q => ?_⟩
    · rcases q with q | q
      · exact absurd q.1 h0
      · rcases q.2 with w | w
        · exact Or.inl w
        · exact Or.inr ⟨⟨fun z => w.1 (Int32.le_of_lt z), w.2⟩, fun z => h0 z.1⟩
    · rcases q with q | q
      · exact Or.inr ⟨h0, Or.inl q⟩
      · exact Or.inr ⟨h0, Or.inr ⟨fun z => (Int32.lt_or_eq_of_le z).elim q.1.1 h0, q.1.2⟩⟩
theorem ps_log (a b c A B C : Prop) : (((a ∨ A) ∧ (b ∨ B) ∧ (c ∨ C)) ∧ ¬ ((a ∧ ¬ b) ∨ (b ∧ ¬ c))) ↔ ((a ∧ b ∧ c) ∨ (¬ a ∧ b ∧ A ∧ c) ∨ (¬ a ∧ ¬ b ∧ A ∧ B ∧ (c ∨ C))) := by
  by_cases ha : a <;> by_cases hb : b <;> by_cases hc : c <;> simp [ha, hb, hc]
abbrev qsP (N : List (List Int32)) (a b c : Int32) : Prop := (a = -1 ∧ b = -1 ∧ c = -1) ∨ (¬ a = -1 ∧ b = -1 ∧ prP N a ∧ c = -1) ∨ (¬ a = -1 ∧ ¬ b = -1 ∧ prP N a ∧ prP N b ∧ (c = -1 ∨ prP N c))
theorem ps_iff {N : List (List Int32)} (hN : N.length ≤ 1000) (a b c : Int32) : psP N a b c ↔ qsP N a b c := by
  show ((paP N a ∧ paP N b ∧ paP N c) ∧ ¬ ((a = -1 ∧ ¬ b = -1) ∨ (b = -1 ∧ ¬ c = -1))) ↔ _
  rw [pa_iff hN a, pa_iff hN b, pa_iff hN c]
  exact ps_log _ _ _ _ _ _
set_option maxHeartbeats 4000000 in
set_option maxRecDepth 100000 in
theorem M_areParameters (hb : MB rI rA S) (hW : WN S.1) (a b c : Int32) : EvP m_M_areParameters (d + 3) 0 [(0, .ref 16), (1, .int a), (2, .int b), (3, .int c)] [] (HC X cI cA rI rA ol J) (Ri (if psP S.1 a b c then 1 else 0) (HC X cI cA rI rA ol J)) := by
  have hl : S.1.length ≤ 1000 := by have := hW.1; omega
  refine ep_iload_n (j := 1) d_M_areParameters_0 rfl rfl ?_
  refine ep_iconst (v := (-1)) d_M_areParameters_1 (by decide) ?_
  refine ep_icmp_ne (tgt := 21) d_M_areParameters_2 (by decide) (fun c2 => ?_) (fun c2 => ?_)
  · refine ep_iload_n (j := 2) d_M_areParameters_21 rfl rfl ?_
    refine ep_iconst (v := (-1)) d_M_areParameters_22 (by decide) ?_
    refine ep_icmp_ne (tgt := 45) d_M_areParameters_23 (by decide) (fun c23 => ?_) (fun c23 => ?_)
    · refine ep_aload_n (j := 0) d_M_areParameters_45 rfl rfl ?_
      refine ep_iload_n (j := 1) d_M_areParameters_46 rfl rfl ?_
      refine ep_callVb (As := [.int a]) (st := []) d_M_areParameters_47 lk_M_89 cal_M_isParameter tm_M_isParameter ts_M_isParameter rfl rfl rfl (Nat.le_of_ble_eq_true rfl) (Nat.le_of_ble_eq_true rfl) rfl rfl (M_isParameter hb hW a) (fun b47 => ?_) (fun b47 => ?_)
      · refine ep_if_eq (tgt := 78) d_M_areParameters_50 (by decide) (fun z => absurd z (by decide)) (fun _ => ?_)
        refine ep_aload_n (j := 0) d_M_areParameters_53 rfl rfl ?_
        refine ep_iload_n (j := 2) d_M_areParameters_54 rfl rfl ?_
        refine ep_callVb (As := [.int b]) (st := []) d_M_areParameters_55 lk_M_89 cal_M_isParameter tm_M_isParameter ts_M_isParameter rfl rfl rfl (Nat.le_of_ble_eq_true rfl) (Nat.le_of_ble_eq_true rfl) rfl rfl (M_isParameter hb hW b) (fun b55 => ?_) (fun b55 => ?_)
        · refine ep_if_eq (tgt := 78) d_M_areParameters_58 (by decide) (fun z => absurd z (by decide)) (fun _ => ?_)
          refine ep_iload_n (j := 3) d_M_areParameters_61 rfl rfl ?_
          refine ep_iconst (v := (-1)) d_M_areParameters_62 (by decide) ?_
          refine ep_icmp_eq (tgt := 74) d_M_areParameters_63 (by decide) (fun c63 => ?_) (fun c63 => ?_)
          · refine ep_iconst (v := 1) d_M_areParameters_74 (by decide) ?_
            refine ep_goto (tgt := 79) d_M_areParameters_75 (by decide) ?_
            exact ep_iret d_M_areParameters_79 rfl rfl (⟨congrArg (fun z => Sum.inl (some (Value.int z))) (by rw [if_pos ((ps_iff hl _ _ _).mpr (Or.inr (Or.inr ⟨c2, c23, b47, b55, Or.inl c63⟩)))]), rfl⟩)
          · refine ep_aload_n (j := 0) d_M_areParameters_66 rfl rfl ?_
            refine ep_iload_n (j := 3) d_M_areParameters_67 rfl rfl ?_
            refine ep_callVb (As := [.int c]) (st := []) d_M_areParameters_68 lk_M_89 cal_M_isParameter tm_M_isParameter ts_M_isParameter rfl rfl rfl (Nat.le_of_ble_eq_true rfl) (Nat.le_of_ble_eq_true rfl) rfl rfl (M_isParameter hb hW c) (fun b68 => ?_) (fun b68 => ?_)
            · refine ep_if_eq (tgt := 78) d_M_areParameters_71 (by decide) (fun z => absurd z (by decide)) (fun _ => ?_)
              refine ep_iconst (v := 1) d_M_areParameters_74 (by decide) ?_
              refine ep_goto (tgt := 79) d_M_areParameters_75 (by decide) ?_
              exact ep_iret d_M_areParameters_79 rfl rfl (⟨congrArg (fun z => Sum.inl (some (Value.int z))) (by rw [if_pos ((ps_iff hl _ _ _).mpr (Or.inr (Or.inr ⟨c2, c23, b47, b55, Or.inr b68⟩)))]), rfl⟩)
            · refine ep_if_eq (tgt := 78) d_M_areParameters_71 (by decide) (fun _ => ?_) (fun z => absurd (by decide) z)
              refine ep_iconst (v := 0) d_M_areParameters_78 (by decide) ?_
              exact ep_iret d_M_areParameters_79 rfl rfl (⟨congrArg (fun z => Sum.inl (some (Value.int z))) (by rw [if_neg (fun u => ((ps_iff hl _ _ _).mp u).elim (fun u => c2 u.1) (fun u => u.elim (fun u => c23 u.2.1) (fun u => u.2.2.2.2.elim c63 b68)))]), rfl⟩)
        · refine ep_if_eq (tgt := 78) d_M_areParameters_58 (by decide) (fun _ => ?_) (fun z => absurd (by decide) z)
          refine ep_iconst (v := 0) d_M_areParameters_78 (by decide) ?_
          exact ep_iret d_M_areParameters_79 rfl rfl (⟨congrArg (fun z => Sum.inl (some (Value.int z))) (by rw [if_neg (fun u => ((ps_iff hl _ _ _).mp u).elim (fun u => c2 u.1) (fun u => u.elim (fun u => c23 u.2.1) (fun u => b55 u.2.2.2.1)))]), rfl⟩)
      · refine ep_if_eq (tgt := 78) d_M_areParameters_50 (by decide) (fun _ => ?_) (fun z => absurd (by decide) z)
        refine ep_iconst (v := 0) d_M_areParameters_78 (by decide) ?_
        exact ep_iret d_M_areParameters_79 rfl rfl (⟨congrArg (fun z => Sum.inl (some (Value.int z))) (by rw [if_neg (fun u => ((ps_iff hl _ _ _).mp u).elim (fun u => c2 u.1) (fun u => u.elim (fun u => c23 u.2.1) (fun u => b47 u.2.2.1)))]), rfl⟩)
    · refine ep_aload_n (j := 0) d_M_areParameters_26 rfl rfl ?_
      refine ep_iload_n (j := 1) d_M_areParameters_27 rfl rfl ?_
      refine ep_callVb (As := [.int a]) (st := []) d_M_areParameters_28 lk_M_89 cal_M_isParameter tm_M_isParameter ts_M_isParameter rfl rfl rfl (Nat.le_of_ble_eq_true rfl) (Nat.le_of_ble_eq_true rfl) rfl rfl (M_isParameter hb hW a) (fun b28 => ?_) (fun b28 => ?_)
      · refine ep_if_eq (tgt := 43) d_M_areParameters_31 (by decide) (fun z => absurd z (by decide)) (fun _ => ?_)
        refine ep_iload_n (j := 3) d_M_areParameters_34 rfl rfl ?_
        refine ep_iconst (v := (-1)) d_M_areParameters_35 (by decide) ?_
        refine ep_icmp_ne (tgt := 43) d_M_areParameters_36 (by decide) (fun c36 => ?_) (fun c36 => ?_)
        · refine ep_iconst (v := 0) d_M_areParameters_43 (by decide) ?_
          exact ep_iret d_M_areParameters_44 rfl rfl (⟨congrArg (fun z => Sum.inl (some (Value.int z))) (by rw [if_neg (fun u => ((ps_iff hl _ _ _).mp u).elim (fun u => c2 u.1) (fun u => u.elim (fun u => c36 u.2.2.2) (fun u => u.2.1 c23)))]), rfl⟩)
        · refine ep_iconst (v := 1) d_M_areParameters_39 (by decide) ?_
          refine ep_goto (tgt := 44) d_M_areParameters_40 (by decide) ?_
          exact ep_iret d_M_areParameters_44 rfl rfl (⟨congrArg (fun z => Sum.inl (some (Value.int z))) (by rw [if_pos ((ps_iff hl _ _ _).mpr (Or.inr (Or.inl ⟨c2, c23, b28, c36⟩)))]), rfl⟩)
      · refine ep_if_eq (tgt := 43) d_M_areParameters_31 (by decide) (fun _ => ?_) (fun z => absurd (by decide) z)
        refine ep_iconst (v := 0) d_M_areParameters_43 (by decide) ?_
        exact ep_iret d_M_areParameters_44 rfl rfl (⟨congrArg (fun z => Sum.inl (some (Value.int z))) (by rw [if_neg (fun u => ((ps_iff hl _ _ _).mp u).elim (fun u => c2 u.1) (fun u => u.elim (fun u => b28 u.2.2.1) (fun u => u.2.1 c23)))]), rfl⟩)
  · refine ep_iload_n (j := 2) d_M_areParameters_5 rfl rfl ?_
    refine ep_iconst (v := (-1)) d_M_areParameters_6 (by decide) ?_
    refine ep_icmp_ne (tgt := 19) d_M_areParameters_7 (by decide) (fun c7 => ?_) (fun c7 => ?_)
    · refine ep_iconst (v := 0) d_M_areParameters_19 (by decide) ?_
      exact ep_iret d_M_areParameters_20 rfl rfl (⟨congrArg (fun z => Sum.inl (some (Value.int z))) (by rw [if_neg (fun u => ((ps_iff hl _ _ _).mp u).elim (fun u => c7 u.2.1) (fun u => u.elim (fun u => u.1 c2) (fun u => u.1 c2)))]), rfl⟩)
    · refine ep_iload_n (j := 3) d_M_areParameters_10 rfl rfl ?_
      refine ep_iconst (v := (-1)) d_M_areParameters_11 (by decide) ?_
      refine ep_icmp_ne (tgt := 19) d_M_areParameters_12 (by decide) (fun c12 => ?_) (fun c12 => ?_)
      · refine ep_iconst (v := 0) d_M_areParameters_19 (by decide) ?_
        exact ep_iret d_M_areParameters_20 rfl rfl (⟨congrArg (fun z => Sum.inl (some (Value.int z))) (by rw [if_neg (fun u => ((ps_iff hl _ _ _).mp u).elim (fun u => c12 u.2.2) (fun u => u.elim (fun u => u.1 c2) (fun u => u.1 c2)))]), rfl⟩)
      · refine ep_iconst (v := 1) d_M_areParameters_15 (by decide) ?_
        refine ep_goto (tgt := 20) d_M_areParameters_16 (by decide) ?_
        exact ep_iret d_M_areParameters_20 rfl rfl (⟨congrArg (fun z => Sum.inl (some (Value.int z))) (by rw [if_pos ((ps_iff hl _ _ _).mpr (Or.inl ⟨c2, c7, c12⟩))]), rfl⟩)
end MPR
