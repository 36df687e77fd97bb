/-! the adding methods; by program (wip/whole/gen21.py) -/
section NE
variable {d : Nat} {X : Nat × (Nat → Int32)} {cI : Nat → Int32} {cA : Nat → Nat → Int32} {rI : Nat → Int32} {rA : Nat → Nat → Int32} {ol : Int64} {J : mH} {D : Nat} {N : List (List Int32)}
set_option maxHeartbeats 4000000 in
set_option maxRecDepth 100000 in
theorem D_addBuiltin (hN : CN cI cA N) (k : Int32) : EvP m_D_addBuiltin (d + 3) 0 [(0, .ref 2), (1, .int k)] [] (HC X cI cA rI rA ol J) (AP X cI cA rI rA ol J (aBuiltin N k)) := by
  refine ep_iload_n (j := 1) d_D_addBuiltin_0 rfl rfl ?_
  refine ep_if_lt (tgt := 13) d_D_addBuiltin_1 (by decide) (fun c1 => ?_) (fun c1 => ?_)
  · exact ep_throw 0 d_D_addBuiltin_13 d_D_addBuiltin_16 d_D_addBuiltin_17 d_D_addBuiltin_19 d_D_addBuiltin_22 lc_D_37 ti_java_lang_IllegalArgumentException (i := 2) (tx := "no such BUILTIN") (by decide +kernel) at_D_41 (by decide +kernel) (Nat.zero_lt_succ _) (Nat.le_of_ble_eq_true rfl) rfl (AP_x (by first | (simp [aBuiltin, c1]; done) | simp_all [aBuiltin]))
  · refine ep_iload_n (j := 1) d_D_addBuiltin_4 rfl rfl ?_
    refine ep_ldcS (i := 0) (tx := "vbcsijlx") d_D_addBuiltin_5 (by decide +kernel) ?_
    refine ep_strLen (i := 0) (n := 8) (st := [.int k]) d_D_addBuiltin_7 lk_D_31 (by decide) rfl (Nat.le_of_ble_eq_true rfl) rfl ?_
    refine ep_cg (y := 8) (by decide +kernel) ?_
    refine ep_icmp_lt (tgt := 23) d_D_addBuiltin_10 (by decide) (fun c10 => ?_) (fun c10 => ?_)
    · refine ep_aload_n (j := 0) d_D_addBuiltin_23 rfl rfl ?_
      refine ep_iconst (v := 0) d_D_addBuiltin_24 (by decide) ?_
      refine ep_iload_n (j := 1) d_D_addBuiltin_25 rfl rfl ?_
      refine ep_iconst (v := (-1)) d_D_addBuiltin_26 (by decide) ?_
      refine ep_iconst (v := (-1)) d_D_addBuiltin_27 (by decide) ?_
      refine ep_iconst (v := (-1)) d_D_addBuiltin_28 (by decide) ?_
      refine ep_iconst (v := (-1)) d_D_addBuiltin_29 (by decide) ?_
      refine ep_iconst (v := (-1)) d_D_addBuiltin_30 (by decide) ?_
      refine ep_res (res' := addN N 0 k (-1) (-1) (-1) (-1) (-1)) (by first | (simp [aBuiltin, c1, c10]; done) | simp_all [aBuiltin]) ?_
      exact ep_tail (As := [.int 0, .int k, .int (-1), .int (-1), .int (-1), .int (-1), .int (-1)]) d_D_addBuiltin_31 lk_D_42 cal_D_add tm_D_add ts_D_add rfl rfl rfl (Nat.le_of_ble_eq_true rfl) rfl rfl d_D_addBuiltin_34 rfl (D_add hN 0 k (-1) (-1) (-1) (-1) (-1))
    · exact ep_throw 0 d_D_addBuiltin_13 d_D_addBuiltin_16 d_D_addBuiltin_17 d_D_addBuiltin_19 d_D_addBuiltin_22 lc_D_37 ti_java_lang_IllegalArgumentException (i := 2) (tx := "no such BUILTIN") (by decide +kernel) at_D_41 (by decide +kernel) (Nat.zero_lt_succ _) (Nat.le_of_ble_eq_true rfl) rfl (AP_x (by first | (simp [aBuiltin, c1, c10]; done) | simp_all [aBuiltin]))
set_option maxHeartbeats 4000000 in
set_option maxRecDepth 100000 in
theorem D_addName (hN : CN cI cA N) (x : Int32) : EvP m_D_addName (d + 3) 0 [(0, .ref 2), (1, .int x)] [] (HC X cI cA rI rA ol J) (AP X cI cA rI rA ol J (aName N x)) := by
  refine ep_iload_n (j := 1) d_D_addName_0 rfl rfl ?_
  refine ep_callSn (As := [.int x]) (st := []) d_D_addName_1 (Or.inl lk_D_46) cal_D_needId tm_D_needId ti_D rfl (Nat.le_of_ble_eq_true rfl) (Nat.le_of_ble_eq_true rfl) rfl rfl (D_needId x) (fun n_needId => ?_) (fun n_needId => AP_x (by first | (simp [aName, n_needId]; done) | simp_all [aName]))
  refine ep_aload_n (j := 0) d_D_addName_4 rfl rfl ?_
  refine ep_iconst (v := 1) d_D_addName_5 (by decide) ?_
  refine ep_iload_n (j := 1) d_D_addName_6 rfl rfl ?_
  refine ep_iconst (v := (-1)) d_D_addName_7 (by decide) ?_
  refine ep_iconst (v := (-1)) d_D_addName_8 (by decide) ?_
  refine ep_iconst (v := (-1)) d_D_addName_9 (by decide) ?_
  refine ep_iconst (v := (-1)) d_D_addName_10 (by decide) ?_
  refine ep_iconst (v := (-1)) d_D_addName_11 (by decide) ?_
  refine ep_res (res' := addN N 1 x (-1) (-1) (-1) (-1) (-1)) (by first | (simp [aName, n_needId]; done) | simp_all [aName]) ?_
  exact ep_tail (As := [.int 1, .int x, .int (-1), .int (-1), .int (-1), .int (-1), .int (-1)]) d_D_addName_12 lk_D_42 cal_D_add tm_D_add ts_D_add rfl rfl rfl (Nat.le_of_ble_eq_true rfl) rfl rfl d_D_addName_15 rfl (D_add hN 1 x (-1) (-1) (-1) (-1) (-1))
set_option maxHeartbeats 4000000 in
set_option maxRecDepth 100000 in
theorem D_addMember (hN : CN cI cA N) (p x : Int32) : EvP m_D_addMember (d + 3) 0 [(0, .ref 2), (1, .int p), (2, .int x)] [] (HC X cI cA rI rA ol J) (AP X cI cA rI rA ol J (aMember N p x)) := by
  refine ep_aload_n (j := 0) d_D_addMember_0 rfl rfl ?_
  refine ep_iload_n (j := 1) d_D_addMember_1 rfl rfl ?_
  refine ep_callVn (As := [.int p]) (st := []) d_D_addMember_2 lk_D_50 cal_D_needPrefix tm_D_needPrefix ts_D_needPrefix rfl rfl rfl (Nat.le_of_ble_eq_true rfl) (Nat.le_of_ble_eq_true rfl) rfl rfl (D_needPrefix hN p) (fun n_needPrefix => ?_) (fun n_needPrefix => AP_x (by first | (simp [aMember, n_needPrefix]; done) | simp_all [aMember]))
  refine ep_iload_n (j := 2) d_D_addMember_5 rfl rfl ?_
  refine ep_callSn (As := [.int x]) (st := []) d_D_addMember_6 (Or.inl lk_D_46) cal_D_needId tm_D_needId ti_D rfl (Nat.le_of_ble_eq_true rfl) (Nat.le_of_ble_eq_true rfl) rfl rfl (D_needId x) (fun n_needId => ?_) (fun n_needId => AP_x (by first | (simp [aMember, n_needPrefix, n_needId]; done) | simp_all [aMember]))
  refine ep_aload_n (j := 0) d_D_addMember_9 rfl rfl ?_
  refine ep_iconst (v := 2) d_D_addMember_10 (by decide) ?_
  refine ep_iload_n (j := 2) d_D_addMember_11 rfl rfl ?_
  refine ep_iload_n (j := 1) d_D_addMember_12 rfl rfl ?_
  refine ep_iconst (v := (-1)) d_D_addMember_13 (by decide) ?_
  refine ep_iconst (v := (-1)) d_D_addMember_14 (by decide) ?_
  refine ep_iconst (v := (-1)) d_D_addMember_15 (by decide) ?_
  refine ep_iconst (v := (-1)) d_D_addMember_16 (by decide) ?_
  refine ep_res (res' := addN N 2 x p (-1) (-1) (-1) (-1)) (by first | (simp [aMember, n_needPrefix, n_needId]; done) | simp_all [aMember]) ?_
  exact ep_tail (As := [.int 2, .int x, .int p, .int (-1), .int (-1), .int (-1), .int (-1)]) d_D_addMember_17 lk_D_42 cal_D_add tm_D_add ts_D_add rfl rfl rfl (Nat.le_of_ble_eq_true rfl) rfl rfl d_D_addMember_20 rfl (D_add hN 2 x p (-1) (-1) (-1) (-1))
set_option maxHeartbeats 4000000 in
set_option maxRecDepth 100000 in
theorem D_addFilled (hN : CN cI cA N) (f a b c : Int32) : EvP m_D_addFilled (d + 3) 0 [(0, .ref 2), (1, .int f), (2, .int a), (3, .int b), (4, .int c)] [] (HC X cI cA rI rA ol J) (AP X cI cA rI rA ol J (aFilled N f a b c)) := by
  refine ep_aload_n (j := 0) d_D_addFilled_0 rfl rfl ?_
  refine ep_iload_n (j := 1) d_D_addFilled_1 rfl rfl ?_
  refine ep_callVi (As := [.int f]) (st := []) d_D_addFilled_2 lk_D_53 cal_D_kindOf tm_D_kindOf ts_D_kindOf rfl rfl rfl (Nat.le_of_ble_eq_true rfl) (Nat.le_of_ble_eq_true rfl) rfl rfl (D_kindN hN f) ?_
  refine ep_istore (lv' := [(0, .ref 2), (1, .int f), (2, .int a), (3, .int b), (4, .int c), (5, .int (kN N f))]) [1, 2, 3, 4, 5, 0] d_D_addFilled_5 (by decide) rfl ?_
  refine ep_iload (j := 5) d_D_addFilled_7 rfl ?_
  refine ep_iconst (v := 1) d_D_addFilled_9 (by decide) ?_
  refine ep_icmp_eq (tgt := 29) d_D_addFilled_10 (by decide) (fun c10 => ?_) (fun c10 => ?_)
  · refine ep_aload_n (j := 0) d_D_addFilled_29 rfl rfl ?_
    refine ep_iload_n (j := 2) d_D_addFilled_30 rfl rfl ?_
    refine ep_callVb (As := [.int a]) (st := []) d_D_addFilled_31 lk_D_59 cal_D_isArgumentOrNone tm_D_isArgumentOrNone ts_D_isArgumentOrNone rfl rfl rfl (Nat.le_of_ble_eq_true rfl) (Nat.le_of_ble_eq_true rfl) rfl rfl (D_isArgumentOrNone hN a) (fun b31 => ?_) (fun b31 => ?_)
    · refine ep_if_eq (tgt := 58) d_D_addFilled_34 (by decide) (fun z => absurd z (by decide)) (fun _ => ?_)
      refine ep_aload_n (j := 0) d_D_addFilled_37 rfl rfl ?_
      refine ep_iload_n (j := 3) d_D_addFilled_38 rfl rfl ?_
      refine ep_callVb (As := [.int b]) (st := []) d_D_addFilled_39 lk_D_59 cal_D_isArgumentOrNone tm_D_isArgumentOrNone ts_D_isArgumentOrNone rfl rfl rfl (Nat.le_of_ble_eq_true rfl) (Nat.le_of_ble_eq_true rfl) rfl rfl (D_isArgumentOrNone hN b) (fun b39 => ?_) (fun b39 => ?_)
      · refine ep_if_eq (tgt := 58) d_D_addFilled_42 (by decide) (fun z => absurd z (by decide)) (fun _ => ?_)
        refine ep_aload_n (j := 0) d_D_addFilled_45 rfl rfl ?_
        refine ep_iload (j := 4) d_D_addFilled_46 rfl ?_
        refine ep_callVb (As := [.int c]) (st := []) d_D_addFilled_48 lk_D_59 cal_D_isArgumentOrNone tm_D_isArgumentOrNone ts_D_isArgumentOrNone rfl rfl rfl (Nat.le_of_ble_eq_true rfl) (Nat.le_of_ble_eq_true rfl) rfl rfl (D_isArgumentOrNone hN c) (fun b48 => ?_) (fun b48 => ?_)
        · refine ep_if_eq (tgt := 58) d_D_addFilled_51 (by decide) (fun z => absurd z (by decide)) (fun _ => ?_)
          refine ep_iconst (v := 1) d_D_addFilled_54 (by decide) ?_
          refine ep_goto (tgt := 59) d_D_addFilled_55 (by decide) ?_
          refine ep_istore (lv' := [(0, .ref 2), (1, .int f), (2, .int a), (3, .int b), (4, .int c), (5, .int (kN N f)), (6, .int 1)]) [1, 2, 3, 4, 5, 6, 0] d_D_addFilled_59 (by decide) rfl ?_
          refine ep_iload_n (j := 2) d_D_addFilled_61 rfl rfl ?_
          refine ep_iconst (v := (-1)) d_D_addFilled_62 (by decide) ?_
          refine ep_icmp_eq (tgt := 81) d_D_addFilled_63 (by decide) (fun c63 => ?_) (fun c63 => ?_)
          · exact ep_throw 0 d_D_addFilled_81 d_D_addFilled_84 d_D_addFilled_85 d_D_addFilled_87 d_D_addFilled_90 lc_D_37 ti_java_lang_IllegalArgumentException (i := 9) (tx := "no such arguments") (by decide +kernel) at_D_41 (by decide +kernel) (Nat.zero_lt_succ _) (Nat.le_of_ble_eq_true rfl) rfl (AP_x (by first | (simp [aFilled, c10, b31, b39, b48, c63]; done) | simp_all [aFilled]))
          · refine ep_iload (j := 6) d_D_addFilled_66 rfl ?_
            refine ep_if_eq (tgt := 81) d_D_addFilled_68 (by decide) (fun z => absurd z (by decide)) (fun _ => ?_)
            refine ep_iload_n (j := 2) d_D_addFilled_71 rfl rfl ?_
            refine ep_iload_n (j := 3) d_D_addFilled_72 rfl rfl ?_
            refine ep_iload (j := 4) d_D_addFilled_73 rfl ?_
            refine ep_callSb (As := [.int a, .int b, .int c]) (st := []) d_D_addFilled_75 (Or.inl lk_D_63) cal_D_hasGap tm_D_hasGap ti_D rfl (Nat.le_of_ble_eq_true rfl) (Nat.le_of_ble_eq_true rfl) rfl rfl (D_hasGap a b c) (fun b75 => ?_) (fun b75 => ?_)
            · refine ep_if_eq (tgt := 91) d_D_addFilled_78 (by decide) (fun z => absurd z (by decide)) (fun _ => ?_)
              exact ep_throw 0 d_D_addFilled_81 d_D_addFilled_84 d_D_addFilled_85 d_D_addFilled_87 d_D_addFilled_90 lc_D_37 ti_java_lang_IllegalArgumentException (i := 9) (tx := "no such arguments") (by decide +kernel) at_D_41 (by decide +kernel) (Nat.zero_lt_succ _) (Nat.le_of_ble_eq_true rfl) rfl (AP_x (by first | (simp [aFilled, c10, b31, b39, b48, c63, b75]; done) | simp_all [aFilled]))
            · refine ep_if_eq (tgt := 91) d_D_addFilled_78 (by decide) (fun _ => ?_) (fun z => absurd (by decide) z)
              refine ep_aload_n (j := 0) d_D_addFilled_91 rfl rfl ?_
              refine ep_iconst (v := 3) d_D_addFilled_92 (by decide) ?_
              refine ep_iconst (v := 0) d_D_addFilled_93 (by decide) ?_
              refine ep_iload_n (j := 1) d_D_addFilled_94 rfl rfl ?_
              refine ep_iconst (v := (-1)) d_D_addFilled_95 (by decide) ?_
              refine ep_iload_n (j := 2) d_D_addFilled_96 rfl rfl ?_
              refine ep_iload_n (j := 3) d_D_addFilled_97 rfl rfl ?_
              refine ep_iload (j := 4) d_D_addFilled_98 rfl ?_
              refine ep_res (res' := addN N 3 0 f (-1) a b c) (by first | (simp [aFilled, c10, b31, b39, b48, c63, b75]; done) | simp_all [aFilled]) ?_
              exact ep_tail (As := [.int 3, .int 0, .int f, .int (-1), .int a, .int b, .int c]) d_D_addFilled_100 lk_D_42 cal_D_add tm_D_add ts_D_add rfl rfl rfl (Nat.le_of_ble_eq_true rfl) rfl rfl d_D_addFilled_103 rfl (D_add hN 3 0 f (-1) a b c)
        · refine ep_if_eq (tgt := 58) d_D_addFilled_51 (by decide) (fun _ => ?_) (fun z => absurd (by decide) z)
          refine ep_iconst (v := 0) d_D_addFilled_58 (by decide) ?_
          refine ep_istore (lv' := [(0, .ref 2), (1, .int f), (2, .int a), (3, .int b), (4, .int c), (5, .int (kN N f)), (6, .int 0)]) [1, 2, 3, 4, 5, 6, 0] d_D_addFilled_59 (by decide) rfl ?_
          refine ep_iload_n (j := 2) d_D_addFilled_61 rfl rfl ?_
          refine ep_iconst (v := (-1)) d_D_addFilled_62 (by decide) ?_
          refine ep_icmp_eq (tgt := 81) d_D_addFilled_63 (by decide) (fun c63 => ?_) (fun c63 => ?_)
          · exact ep_throw 0 d_D_addFilled_81 d_D_addFilled_84 d_D_addFilled_85 d_D_addFilled_87 d_D_addFilled_90 lc_D_37 ti_java_lang_IllegalArgumentException (i := 9) (tx := "no such arguments") (by decide +kernel) at_D_41 (by decide +kernel) (Nat.zero_lt_succ _) (Nat.le_of_ble_eq_true rfl) rfl (AP_x (by first | (simp [aFilled, c10, b31, b39, b48, c63]; done) | simp_all [aFilled]))
          · refine ep_iload (j := 6) d_D_addFilled_66 rfl ?_
            refine ep_if_eq (tgt := 81) d_D_addFilled_68 (by decide) (fun _ => ?_) (fun z => absurd (by decide) z)
            exact ep_throw 0 d_D_addFilled_81 d_D_addFilled_84 d_D_addFilled_85 d_D_addFilled_87 d_D_addFilled_90 lc_D_37 ti_java_lang_IllegalArgumentException (i := 9) (tx := "no such arguments") (by decide +kernel) at_D_41 (by decide +kernel) (Nat.zero_lt_succ _) (Nat.le_of_ble_eq_true rfl) rfl (AP_x (by first | (simp [aFilled, c10, b31, b39, b48, c63]; done) | simp_all [aFilled]))
      · refine ep_if_eq (tgt := 58) d_D_addFilled_42 (by decide) (fun _ => ?_) (fun z => absurd (by decide) z)
        refine ep_iconst (v := 0) d_D_addFilled_58 (by decide) ?_
        refine ep_istore (lv' := [(0, .ref 2), (1, .int f), (2, .int a), (3, .int b), (4, .int c), (5, .int (kN N f)), (6, .int 0)]) [1, 2, 3, 4, 5, 6, 0] d_D_addFilled_59 (by decide) rfl ?_
        refine ep_iload_n (j := 2) d_D_addFilled_61 rfl rfl ?_
        refine ep_iconst (v := (-1)) d_D_addFilled_62 (by decide) ?_
        refine ep_icmp_eq (tgt := 81) d_D_addFilled_63 (by decide) (fun c63 => ?_) (fun c63 => ?_)
        · exact ep_throw 0 d_D_addFilled_81 d_D_addFilled_84 d_D_addFilled_85 d_D_addFilled_87 d_D_addFilled_90 lc_D_37 ti_java_lang_IllegalArgumentException (i := 9) (tx := "no such arguments") (by decide +kernel) at_D_41 (by decide +kernel) (Nat.zero_lt_succ _) (Nat.le_of_ble_eq_true rfl) rfl (AP_x (by first | (simp [aFilled, c10, b31, b39, c63]; done) | simp_all [aFilled]))
        · refine ep_iload (j := 6) d_D_addFilled_66 rfl ?_
          refine ep_if_eq (tgt := 81) d_D_addFilled_68 (by decide) (fun _ => ?_) (fun z => absurd (by decide) z)
          exact ep_throw 0 d_D_addFilled_81 d_D_addFilled_84 d_D_addFilled_85 d_D_addFilled_87 d_D_addFilled_90 lc_D_37 ti_java_lang_IllegalArgumentException (i := 9) (tx := "no such arguments") (by decide +kernel) at_D_41 (by decide +kernel) (Nat.zero_lt_succ _) (Nat.le_of_ble_eq_true rfl) rfl (AP_x (by first | (simp [aFilled, c10, b31, b39, c63]; done) | simp_all [aFilled]))
    · refine ep_if_eq (tgt := 58) d_D_addFilled_34 (by decide) (fun _ => ?_) (fun z => absurd (by decide) z)
      refine ep_iconst (v := 0) d_D_addFilled_58 (by decide) ?_
      refine ep_istore (lv' := [(0, .ref 2), (1, .int f), (2, .int a), (3, .int b), (4, .int c), (5, .int (kN N f)), (6, .int 0)]) [1, 2, 3, 4, 5, 6, 0] d_D_addFilled_59 (by decide) rfl ?_
      refine ep_iload_n (j := 2) d_D_addFilled_61 rfl rfl ?_
      refine ep_iconst (v := (-1)) d_D_addFilled_62 (by decide) ?_
      refine ep_icmp_eq (tgt := 81) d_D_addFilled_63 (by decide) (fun c63 => ?_) (fun c63 => ?_)
      · exact ep_throw 0 d_D_addFilled_81 d_D_addFilled_84 d_D_addFilled_85 d_D_addFilled_87 d_D_addFilled_90 lc_D_37 ti_java_lang_IllegalArgumentException (i := 9) (tx := "no such arguments") (by decide +kernel) at_D_41 (by decide +kernel) (Nat.zero_lt_succ _) (Nat.le_of_ble_eq_true rfl) rfl (AP_x (by first | (simp [aFilled, c10, b31, c63]; done) | simp_all [aFilled]))
      · refine ep_iload (j := 6) d_D_addFilled_66 rfl ?_
        refine ep_if_eq (tgt := 81) d_D_addFilled_68 (by decide) (fun _ => ?_) (fun z => absurd (by decide) z)
        exact ep_throw 0 d_D_addFilled_81 d_D_addFilled_84 d_D_addFilled_85 d_D_addFilled_87 d_D_addFilled_90 lc_D_37 ti_java_lang_IllegalArgumentException (i := 9) (tx := "no such arguments") (by decide +kernel) at_D_41 (by decide +kernel) (Nat.zero_lt_succ _) (Nat.le_of_ble_eq_true rfl) rfl (AP_x (by first | (simp [aFilled, c10, b31, c63]; done) | simp_all [aFilled]))
  · refine ep_iload (j := 5) d_D_addFilled_13 rfl ?_
    refine ep_iconst (v := 2) d_D_addFilled_15 (by decide) ?_
    refine ep_icmp_eq (tgt := 29) d_D_addFilled_16 (by decide) (fun c16 => ?_) (fun c16 => ?_)
    · refine ep_aload_n (j := 0) d_D_addFilled_29 rfl rfl ?_
      refine ep_iload_n (j := 2) d_D_addFilled_30 rfl rfl ?_
      refine ep_callVb (As := [.int a]) (st := []) d_D_addFilled_31 lk_D_59 cal_D_isArgumentOrNone tm_D_isArgumentOrNone ts_D_isArgumentOrNone rfl rfl rfl (Nat.le_of_ble_eq_true rfl) (Nat.le_of_ble_eq_true rfl) rfl rfl (D_isArgumentOrNone hN a) (fun b31 => ?_) (fun b31 => ?_)
      · refine ep_if_eq (tgt := 58) d_D_addFilled_34 (by decide) (fun z => absurd z (by decide)) (fun _ => ?_)
        refine ep_aload_n (j := 0) d_D_addFilled_37 rfl rfl ?_
        refine ep_iload_n (j := 3) d_D_addFilled_38 rfl rfl ?_
        refine ep_callVb (As := [.int b]) (st := []) d_D_addFilled_39 lk_D_59 cal_D_isArgumentOrNone tm_D_isArgumentOrNone ts_D_isArgumentOrNone rfl rfl rfl (Nat.le_of_ble_eq_true rfl) (Nat.le_of_ble_eq_true rfl) rfl rfl (D_isArgumentOrNone hN b) (fun b39 => ?_) (fun b39 => ?_)
        · refine ep_if_eq (tgt := 58) d_D_addFilled_42 (by decide) (fun z => absurd z (by decide)) (fun _ => ?_)
          refine ep_aload_n (j := 0) d_D_addFilled_45 rfl rfl ?_
          refine ep_iload (j := 4) d_D_addFilled_46 rfl ?_
          refine ep_callVb (As := [.int c]) (st := []) d_D_addFilled_48 lk_D_59 cal_D_isArgumentOrNone tm_D_isArgumentOrNone ts_D_isArgumentOrNone rfl rfl rfl (Nat.le_of_ble_eq_true rfl) (Nat.le_of_ble_eq_true rfl) rfl rfl (D_isArgumentOrNone hN c) (fun b48 => ?_) (fun b48 => ?_)
          · refine ep_if_eq (tgt := 58) d_D_addFilled_51 (by decide) (fun z => absurd z (by decide)) (fun _ => ?_)
            refine ep_iconst (v := 1) d_D_addFilled_54 (by decide) ?_
            refine ep_goto (tgt := 59) d_D_addFilled_55 (by decide) ?_
            refine ep_istore (lv' := [(0, .ref 2), (1, .int f), (2, .int a), (3, .int b), (4, .int c), (5, .int (kN N f)), (6, .int 1)]) [1, 2, 3, 4, 5, 6, 0] d_D_addFilled_59 (by decide) rfl ?_
            refine ep_iload_n (j := 2) d_D_addFilled_61 rfl rfl ?_
            refine ep_iconst (v := (-1)) d_D_addFilled_62 (by decide) ?_
            refine ep_icmp_eq (tgt := 81) d_D_addFilled_63 (by decide) (fun c63 => ?_) (fun c63 => ?_)
            · exact ep_throw 0 d_D_addFilled_81 d_D_addFilled_84 d_D_addFilled_85 d_D_addFilled_87 d_D_addFilled_90 lc_D_37 ti_java_lang_IllegalArgumentException (i := 9) (tx := "no such arguments") (by decide +kernel) at_D_41 (by decide +kernel) (Nat.zero_lt_succ _) (Nat.le_of_ble_eq_true rfl) rfl (AP_x (by first | (simp [aFilled, c10, c16, b31, b39, b48, c63]; done) | simp_all [aFilled]))
            · refine ep_iload (j := 6) d_D_addFilled_66 rfl ?_
              refine ep_if_eq (tgt := 81) d_D_addFilled_68 (by decide) (fun z => absurd z (by decide)) (fun _ => ?_)
              refine ep_iload_n (j := 2) d_D_addFilled_71 rfl rfl ?_
              refine ep_iload_n (j := 3) d_D_addFilled_72 rfl rfl ?_
              refine ep_iload (j := 4) d_D_addFilled_73 rfl ?_
              refine ep_callSb (As := [.int a, .int b, .int c]) (st := []) d_D_addFilled_75 (Or.inl lk_D_63) cal_D_hasGap tm_D_hasGap ti_D rfl (Nat.le_of_ble_eq_true rfl) (Nat.le_of_ble_eq_true rfl) rfl rfl (D_hasGap a b c) (fun b75 => ?_) (fun b75 => ?_)
              · refine ep_if_eq (tgt := 91) d_D_addFilled_78 (by decide) (fun z => absurd z (by decide)) (fun _ => ?_)
                exact ep_throw 0 d_D_addFilled_81 d_D_addFilled_84 d_D_addFilled_85 d_D_addFilled_87 d_D_addFilled_90 lc_D_37 ti_java_lang_IllegalArgumentException (i := 9) (tx := "no such arguments") (by decide +kernel) at_D_41 (by decide +kernel) (Nat.zero_lt_succ _) (Nat.le_of_ble_eq_true rfl) rfl (AP_x (by first | (simp [aFilled, c10, c16, b31, b39, b48, c63, b75]; done) | simp_all [aFilled]))
              · refine ep_if_eq (tgt := 91) d_D_addFilled_78 (by decide) (fun _ => ?_) (fun z => absurd (by decide) z)
                refine ep_aload_n (j := 0) d_D_addFilled_91 rfl rfl ?_
                refine ep_iconst (v := 3) d_D_addFilled_92 (by decide) ?_
                refine ep_iconst (v := 0) d_D_addFilled_93 (by decide) ?_
                refine ep_iload_n (j := 1) d_D_addFilled_94 rfl rfl ?_
                refine ep_iconst (v := (-1)) d_D_addFilled_95 (by decide) ?_
                refine ep_iload_n (j := 2) d_D_addFilled_96 rfl rfl ?_
                refine ep_iload_n (j := 3) d_D_addFilled_97 rfl rfl ?_
                refine ep_iload (j := 4) d_D_addFilled_98 rfl ?_
                refine ep_res (res' := addN N 3 0 f (-1) a b c) (by first | (simp [aFilled, c10, c16, b31, b39, b48, c63, b75]; done) | simp_all [aFilled]) ?_
                exact ep_tail (As := [.int 3, .int 0, .int f, .int (-1), .int a, .int b, .int c]) d_D_addFilled_100 lk_D_42 cal_D_add tm_D_add ts_D_add rfl rfl rfl (Nat.le_of_ble_eq_true rfl) rfl rfl d_D_addFilled_103 rfl (D_add hN 3 0 f (-1) a b c)
          · refine ep_if_eq (tgt := 58) d_D_addFilled_51 (by decide) (fun _ => ?_) (fun z => absurd (by decide) z)
            refine ep_iconst (v := 0) d_D_addFilled_58 (by decide) ?_
            refine ep_istore (lv' := [(0, .ref 2), (1, .int f), (2, .int a), (3, .int b), (4, .int c), (5, .int (kN N f)), (6, .int 0)]) [1, 2, 3, 4, 5, 6, 0] d_D_addFilled_59 (by decide) rfl ?_
            refine ep_iload_n (j := 2) d_D_addFilled_61 rfl rfl ?_
            refine ep_iconst (v := (-1)) d_D_addFilled_62 (by decide) ?_
            refine ep_icmp_eq (tgt := 81) d_D_addFilled_63 (by decide) (fun c63 => ?_) (fun c63 => ?_)
            · exact ep_throw 0 d_D_addFilled_81 d_D_addFilled_84 d_D_addFilled_85 d_D_addFilled_87 d_D_addFilled_90 lc_D_37 ti_java_lang_IllegalArgumentException (i := 9) (tx := "no such arguments") (by decide +kernel) at_D_41 (by decide +kernel) (Nat.zero_lt_succ _) (Nat.le_of_ble_eq_true rfl) rfl (AP_x (by first | (simp [aFilled, c10, c16, b31, b39, b48, c63]; done) | simp_all [aFilled]))
            · refine ep_iload (j := 6) d_D_addFilled_66 rfl ?_
              refine ep_if_eq (tgt := 81) d_D_addFilled_68 (by decide) (fun _ => ?_) (fun z => absurd (by decide) z)
              exact ep_throw 0 d_D_addFilled_81 d_D_addFilled_84 d_D_addFilled_85 d_D_addFilled_87 d_D_addFilled_90 lc_D_37 ti_java_lang_IllegalArgumentException (i := 9) (tx := "no such arguments") (by decide +kernel) at_D_41 (by decide +kernel) (Nat.zero_lt_succ _) (Nat.le_of_ble_eq_true rfl) rfl (AP_x (by first | (simp [aFilled, c10, c16, b31, b39, b48, c63]; done) | simp_all [aFilled]))
        · refine ep_if_eq (tgt := 58) d_D_addFilled_42 (by decide) (fun _ => ?_) (fun z => absurd (by decide) z)
          refine ep_iconst (v := 0) d_D_addFilled_58 (by decide) ?_
          refine ep_istore (lv' := [(0, .ref 2), (1, .int f), (2, .int a), (3, .int b), (4, .int c), (5, .int (kN N f)), (6, .int 0)]) [1, 2, 3, 4, 5, 6, 0] d_D_addFilled_59 (by decide) rfl ?_
          refine ep_iload_n (j := 2) d_D_addFilled_61 rfl rfl ?_
          refine ep_iconst (v := (-1)) d_D_addFilled_62 (by decide) ?_
          refine ep_icmp_eq (tgt := 81) d_D_addFilled_63 (by decide) (fun c63 => ?_) (fun c63 => ?_)
          · exact ep_throw 0 d_D_addFilled_81 d_D_addFilled_84 d_D_addFilled_85 d_D_addFilled_87 d_D_addFilled_90 lc_D_37 ti_java_lang_IllegalArgumentException (i := 9) (tx := "no such arguments") (by decide +kernel) at_D_41 (by decide +kernel) (Nat.zero_lt_succ _) (Nat.le_of_ble_eq_true rfl) rfl (AP_x (by first | (simp [aFilled, c10, c16, b31, b39, c63]; done) | simp_all [aFilled]))
          · refine ep_iload (j := 6) d_D_addFilled_66 rfl ?_
            refine ep_if_eq (tgt := 81) d_D_addFilled_68 (by decide) (fun _ => ?_) (fun z => absurd (by decide) z)
            exact ep_throw 0 d_D_addFilled_81 d_D_addFilled_84 d_D_addFilled_85 d_D_addFilled_87 d_D_addFilled_90 lc_D_37 ti_java_lang_IllegalArgumentException (i := 9) (tx := "no such arguments") (by decide +kernel) at_D_41 (by decide +kernel) (Nat.zero_lt_succ _) (Nat.le_of_ble_eq_true rfl) rfl (AP_x (by first | (simp [aFilled, c10, c16, b31, b39, c63]; done) | simp_all [aFilled]))
      · refine ep_if_eq (tgt := 58) d_D_addFilled_34 (by decide) (fun _ => ?_) (fun z => absurd (by decide) z)
        refine ep_iconst (v := 0) d_D_addFilled_58 (by decide) ?_
        refine ep_istore (lv' := [(0, .ref 2), (1, .int f), (2, .int a), (3, .int b), (4, .int c), (5, .int (kN N f)), (6, .int 0)]) [1, 2, 3, 4, 5, 6, 0] d_D_addFilled_59 (by decide) rfl ?_
        refine ep_iload_n (j := 2) d_D_addFilled_61 rfl rfl ?_
        refine ep_iconst (v := (-1)) d_D_addFilled_62 (by decide) ?_
        refine ep_icmp_eq (tgt := 81) d_D_addFilled_63 (by decide) (fun c63 => ?_) (fun c63 => ?_)
        · exact ep_throw 0 d_D_addFilled_81 d_D_addFilled_84 d_D_addFilled_85 d_D_addFilled_87 d_D_addFilled_90 lc_D_37 ti_java_lang_IllegalArgumentException (i := 9) (tx := "no such arguments") (by decide +kernel) at_D_41 (by decide +kernel) (Nat.zero_lt_succ _) (Nat.le_of_ble_eq_true rfl) rfl (AP_x (by first | (simp [aFilled, c10, c16, b31, c63]; done) | simp_all [aFilled]))
        · refine ep_iload (j := 6) d_D_addFilled_66 rfl ?_
          refine ep_if_eq (tgt := 81) d_D_addFilled_68 (by decide) (fun _ => ?_) (fun z => absurd (by decide) z)
          exact ep_throw 0 d_D_addFilled_81 d_D_addFilled_84 d_D_addFilled_85 d_D_addFilled_87 d_D_addFilled_90 lc_D_37 ti_java_lang_IllegalArgumentException (i := 9) (tx := "no such arguments") (by decide +kernel) at_D_41 (by decide +kernel) (Nat.zero_lt_succ _) (Nat.le_of_ble_eq_true rfl) rfl (AP_x (by first | (simp [aFilled, c10, c16, b31, c63]; done) | simp_all [aFilled]))
    · exact ep_throw 0 d_D_addFilled_19 d_D_addFilled_22 d_D_addFilled_23 d_D_addFilled_25 d_D_addFilled_28 lc_D_37 ti_java_lang_IllegalArgumentException (i := 8) (tx := "no NAME or MEMBER to fill") (by decide +kernel) at_D_41 (by decide +kernel) (Nat.zero_lt_succ _) (Nat.le_of_ble_eq_true rfl) rfl (AP_x (by first | (simp [aFilled, c10, c16]; done) | simp_all [aFilled]))
set_option maxHeartbeats 4000000 in
set_option maxRecDepth 100000 in
theorem D_addWrapped (hN : CN cI cA N) (k x : Int32) : EvP m_D_addWrapped (d + 3) 0 [(0, .ref 2), (1, .int k), (2, .int x)] [] (HC X cI cA rI rA ol J) (AP X cI cA rI rA ol J (aWrapped N k x)) := by
  refine ep_iload_n (j := 1) d_D_addWrapped_0 rfl rfl ?_
  refine ep_iconst (v := 4) d_D_addWrapped_1 (by decide) ?_
  refine ep_icmp_eq (tgt := 26) d_D_addWrapped_2 (by decide) (fun c2 => ?_) (fun c2 => ?_)
  · refine ep_aload_n (j := 0) d_D_addWrapped_26 rfl rfl ?_
    refine ep_iload_n (j := 2) d_D_addWrapped_27 rfl rfl ?_
    refine ep_callVn (As := [.int x]) (st := []) d_D_addWrapped_28 lk_D_71 cal_D_needType tm_D_needType ts_D_needType rfl rfl rfl (Nat.le_of_ble_eq_true rfl) (Nat.le_of_ble_eq_true rfl) rfl rfl (D_needType hN x) (fun n_needType => ?_) (fun n_needType => AP_x (by first | (simp [aWrapped, c2, n_needType]; done) | simp_all [aWrapped]))
    refine ep_iload_n (j := 1) d_D_addWrapped_31 rfl rfl ?_
    refine ep_bipush (v := 6) d_D_addWrapped_32 (by decide) ?_
    refine ep_icmp_ne (tgt := 57) d_D_addWrapped_34 (by decide) (fun c34 => ?_) (fun c34 => ?_)
    · refine ep_aload_n (j := 0) d_D_addWrapped_57 rfl rfl ?_
      refine ep_iload_n (j := 1) d_D_addWrapped_58 rfl rfl ?_
      refine ep_iconst (v := 0) d_D_addWrapped_59 (by decide) ?_
      refine ep_iload_n (j := 2) d_D_addWrapped_60 rfl rfl ?_
      refine ep_iconst (v := (-1)) d_D_addWrapped_61 (by decide) ?_
      refine ep_iconst (v := (-1)) d_D_addWrapped_62 (by decide) ?_
      refine ep_iconst (v := (-1)) d_D_addWrapped_63 (by decide) ?_
      refine ep_iconst (v := (-1)) d_D_addWrapped_64 (by decide) ?_
      refine ep_res (res' := addN N k 0 x (-1) (-1) (-1) (-1)) (by first | (simp [aWrapped, c2, n_needType, c34]; done) | simp_all [aWrapped]) ?_
      exact ep_tail (As := [.int k, .int 0, .int x, .int (-1), .int (-1), .int (-1), .int (-1)]) d_D_addWrapped_65 lk_D_42 cal_D_add tm_D_add ts_D_add rfl rfl rfl (Nat.le_of_ble_eq_true rfl) rfl rfl d_D_addWrapped_68 rfl (D_add hN k 0 x (-1) (-1) (-1) (-1))
    · refine ep_aload_n (j := 0) d_D_addWrapped_37 rfl rfl ?_
      refine ep_iload_n (j := 2) d_D_addWrapped_38 rfl rfl ?_
      refine ep_callVi (As := [.int x]) (st := []) d_D_addWrapped_39 lk_D_53 cal_D_kindOf tm_D_kindOf ts_D_kindOf rfl rfl rfl (Nat.le_of_ble_eq_true rfl) (Nat.le_of_ble_eq_true rfl) rfl rfl (D_kindN hN x) ?_
      refine ep_bipush (v := 6) d_D_addWrapped_42 (by decide) ?_
      refine ep_icmp_ne (tgt := 57) d_D_addWrapped_44 (by decide) (fun c44 => ?_) (fun c44 => ?_)
      · refine ep_aload_n (j := 0) d_D_addWrapped_57 rfl rfl ?_
        refine ep_iload_n (j := 1) d_D_addWrapped_58 rfl rfl ?_
        refine ep_iconst (v := 0) d_D_addWrapped_59 (by decide) ?_
        refine ep_iload_n (j := 2) d_D_addWrapped_60 rfl rfl ?_
        refine ep_iconst (v := (-1)) d_D_addWrapped_61 (by decide) ?_
        refine ep_iconst (v := (-1)) d_D_addWrapped_62 (by decide) ?_
        refine ep_iconst (v := (-1)) d_D_addWrapped_63 (by decide) ?_
        refine ep_iconst (v := (-1)) d_D_addWrapped_64 (by decide) ?_
        refine ep_res (res' := addN N k 0 x (-1) (-1) (-1) (-1)) (by first | (simp [aWrapped, c2, n_needType, c34, c44]; done) | simp_all [aWrapped]) ?_
        exact ep_tail (As := [.int k, .int 0, .int x, .int (-1), .int (-1), .int (-1), .int (-1)]) d_D_addWrapped_65 lk_D_42 cal_D_add tm_D_add ts_D_add rfl rfl rfl (Nat.le_of_ble_eq_true rfl) rfl rfl d_D_addWrapped_68 rfl (D_add hN k 0 x (-1) (-1) (-1) (-1))
      · exact ep_throw 0 d_D_addWrapped_47 d_D_addWrapped_50 d_D_addWrapped_51 d_D_addWrapped_53 d_D_addWrapped_56 lc_D_37 ti_java_lang_IllegalArgumentException (i := 12) (tx := "CONST of CONST") (by decide +kernel) at_D_41 (by decide +kernel) (Nat.zero_lt_succ _) (Nat.le_of_ble_eq_true rfl) rfl (AP_x (by first | (simp [aWrapped, c2, n_needType, c34, c44]; done) | simp_all [aWrapped]))
  · refine ep_iload_n (j := 1) d_D_addWrapped_5 rfl rfl ?_
    refine ep_iconst (v := 5) d_D_addWrapped_6 (by decide) ?_
    refine ep_icmp_eq (tgt := 26) d_D_addWrapped_7 (by decide) (fun c7 => ?_) (fun c7 => ?_)
    · refine ep_aload_n (j := 0) d_D_addWrapped_26 rfl rfl ?_
      refine ep_iload_n (j := 2) d_D_addWrapped_27 rfl rfl ?_
      refine ep_callVn (As := [.int x]) (st := []) d_D_addWrapped_28 lk_D_71 cal_D_needType tm_D_needType ts_D_needType rfl rfl rfl (Nat.le_of_ble_eq_true rfl) (Nat.le_of_ble_eq_true rfl) rfl rfl (D_needType hN x) (fun n_needType => ?_) (fun n_needType => AP_x (by first | (simp [aWrapped, c2, c7, n_needType]; done) | simp_all [aWrapped]))
      refine ep_iload_n (j := 1) d_D_addWrapped_31 rfl rfl ?_
      refine ep_bipush (v := 6) d_D_addWrapped_32 (by decide) ?_
      refine ep_icmp_ne (tgt := 57) d_D_addWrapped_34 (by decide) (fun c34 => ?_) (fun c34 => ?_)
      · refine ep_aload_n (j := 0) d_D_addWrapped_57 rfl rfl ?_
        refine ep_iload_n (j := 1) d_D_addWrapped_58 rfl rfl ?_
        refine ep_iconst (v := 0) d_D_addWrapped_59 (by decide) ?_
        refine ep_iload_n (j := 2) d_D_addWrapped_60 rfl rfl ?_
        refine ep_iconst (v := (-1)) d_D_addWrapped_61 (by decide) ?_
        refine ep_iconst (v := (-1)) d_D_addWrapped_62 (by decide) ?_
        refine ep_iconst (v := (-1)) d_D_addWrapped_63 (by decide) ?_
        refine ep_iconst (v := (-1)) d_D_addWrapped_64 (by decide) ?_
        refine ep_res (res' := addN N k 0 x (-1) (-1) (-1) (-1)) (by first | (simp [aWrapped, c2, c7, n_needType, c34]; done) | simp_all [aWrapped]) ?_
        exact ep_tail (As := [.int k, .int 0, .int x, .int (-1), .int (-1), .int (-1), .int (-1)]) d_D_addWrapped_65 lk_D_42 cal_D_add tm_D_add ts_D_add rfl rfl rfl (Nat.le_of_ble_eq_true rfl) rfl rfl d_D_addWrapped_68 rfl (D_add hN k 0 x (-1) (-1) (-1) (-1))
      · refine ep_aload_n (j := 0) d_D_addWrapped_37 rfl rfl ?_
        refine ep_iload_n (j := 2) d_D_addWrapped_38 rfl rfl ?_
        refine ep_callVi (As := [.int x]) (st := []) d_D_addWrapped_39 lk_D_53 cal_D_kindOf tm_D_kindOf ts_D_kindOf rfl rfl rfl (Nat.le_of_ble_eq_true rfl) (Nat.le_of_ble_eq_true rfl) rfl rfl (D_kindN hN x) ?_
        refine ep_bipush (v := 6) d_D_addWrapped_42 (by decide) ?_
        refine ep_icmp_ne (tgt := 57) d_D_addWrapped_44 (by decide) (fun c44 => ?_) (fun c44 => ?_)
        · refine ep_aload_n (j := 0) d_D_addWrapped_57 rfl rfl ?_
          refine ep_iload_n (j := 1) d_D_addWrapped_58 rfl rfl ?_
          refine ep_iconst (v := 0) d_D_addWrapped_59 (by decide) ?_
          refine ep_iload_n (j := 2) d_D_addWrapped_60 rfl rfl ?_
          refine ep_iconst (v := (-1)) d_D_addWrapped_61 (by decide) ?_
          refine ep_iconst (v := (-1)) d_D_addWrapped_62 (by decide) ?_
          refine ep_iconst (v := (-1)) d_D_addWrapped_63 (by decide) ?_
          refine ep_iconst (v := (-1)) d_D_addWrapped_64 (by decide) ?_
          refine ep_res (res' := addN N k 0 x (-1) (-1) (-1) (-1)) (by first | (simp [aWrapped, c2, c7, n_needType, c34, c44]; done) | simp_all [aWrapped]) ?_
          exact ep_tail (As := [.int k, .int 0, .int x, .int (-1), .int (-1), .int (-1), .int (-1)]) d_D_addWrapped_65 lk_D_42 cal_D_add tm_D_add ts_D_add rfl rfl rfl (Nat.le_of_ble_eq_true rfl) rfl rfl d_D_addWrapped_68 rfl (D_add hN k 0 x (-1) (-1) (-1) (-1))
        · exact ep_throw 0 d_D_addWrapped_47 d_D_addWrapped_50 d_D_addWrapped_51 d_D_addWrapped_53 d_D_addWrapped_56 lc_D_37 ti_java_lang_IllegalArgumentException (i := 12) (tx := "CONST of CONST") (by decide +kernel) at_D_41 (by decide +kernel) (Nat.zero_lt_succ _) (Nat.le_of_ble_eq_true rfl) rfl (AP_x (by first | (simp [aWrapped, c2, c7, n_needType, c34, c44]; done) | simp_all [aWrapped]))
    · refine ep_iload_n (j := 1) d_D_addWrapped_10 rfl rfl ?_
      refine ep_bipush (v := 6) d_D_addWrapped_11 (by decide) ?_
      refine ep_icmp_eq (tgt := 26) d_D_addWrapped_13 (by decide) (fun c13 => ?_) (fun c13 => ?_)
      · refine ep_aload_n (j := 0) d_D_addWrapped_26 rfl rfl ?_
        refine ep_iload_n (j := 2) d_D_addWrapped_27 rfl rfl ?_
        refine ep_callVn (As := [.int x]) (st := []) d_D_addWrapped_28 lk_D_71 cal_D_needType tm_D_needType ts_D_needType rfl rfl rfl (Nat.le_of_ble_eq_true rfl) (Nat.le_of_ble_eq_true rfl) rfl rfl (D_needType hN x) (fun n_needType => ?_) (fun n_needType => AP_x (by first | (simp [aWrapped, c2, c7, c13, n_needType]; done) | simp_all [aWrapped]))
        refine ep_iload_n (j := 1) d_D_addWrapped_31 rfl rfl ?_
        refine ep_bipush (v := 6) d_D_addWrapped_32 (by decide) ?_
        refine ep_icmp_ne (tgt := 57) d_D_addWrapped_34 (by decide) (fun c34 => ?_) (fun c34 => ?_)
        · refine ep_aload_n (j := 0) d_D_addWrapped_57 rfl rfl ?_
          refine ep_iload_n (j := 1) d_D_addWrapped_58 rfl rfl ?_
          refine ep_iconst (v := 0) d_D_addWrapped_59 (by decide) ?_
          refine ep_iload_n (j := 2) d_D_addWrapped_60 rfl rfl ?_
          refine ep_iconst (v := (-1)) d_D_addWrapped_61 (by decide) ?_
          refine ep_iconst (v := (-1)) d_D_addWrapped_62 (by decide) ?_
          refine ep_iconst (v := (-1)) d_D_addWrapped_63 (by decide) ?_
          refine ep_iconst (v := (-1)) d_D_addWrapped_64 (by decide) ?_
          refine ep_res (res' := addN N k 0 x (-1) (-1) (-1) (-1)) (by first | (simp [aWrapped, c2, c7, c13, n_needType, c34]; done) | simp_all [aWrapped]) ?_
          exact ep_tail (As := [.int k, .int 0, .int x, .int (-1), .int (-1), .int (-1), .int (-1)]) d_D_addWrapped_65 lk_D_42 cal_D_add tm_D_add ts_D_add rfl rfl rfl (Nat.le_of_ble_eq_true rfl) rfl rfl d_D_addWrapped_68 rfl (D_add hN k 0 x (-1) (-1) (-1) (-1))
        · refine ep_aload_n (j := 0) d_D_addWrapped_37 rfl rfl ?_
          refine ep_iload_n (j := 2) d_D_addWrapped_38 rfl rfl ?_
          refine ep_callVi (As := [.int x]) (st := []) d_D_addWrapped_39 lk_D_53 cal_D_kindOf tm_D_kindOf ts_D_kindOf rfl rfl rfl (Nat.le_of_ble_eq_true rfl) (Nat.le_of_ble_eq_true rfl) rfl rfl (D_kindN hN x) ?_
          refine ep_bipush (v := 6) d_D_addWrapped_42 (by decide) ?_
          refine ep_icmp_ne (tgt := 57) d_D_addWrapped_44 (by decide) (fun c44 => ?_) (fun c44 => ?_)
          · refine ep_aload_n (j := 0) d_D_addWrapped_57 rfl rfl ?_
            refine ep_iload_n (j := 1) d_D_addWrapped_58 rfl rfl ?_
            refine ep_iconst (v := 0) d_D_addWrapped_59 (by decide) ?_
            refine ep_iload_n (j := 2) d_D_addWrapped_60 rfl rfl ?_
            refine ep_iconst (v := (-1)) d_D_addWrapped_61 (by decide) ?_
            refine ep_iconst (v := (-1)) d_D_addWrapped_62 (by decide) ?_
            refine ep_iconst (v := (-1)) d_D_addWrapped_63 (by decide) ?_
            refine ep_iconst (v := (-1)) d_D_addWrapped_64 (by decide) ?_
            refine ep_res (res' := addN N k 0 x (-1) (-1) (-1) (-1)) (by first | (simp [aWrapped, c2, c7, c13, n_needType, c34, c44]; done) | simp_all [aWrapped]) ?_
            exact ep_tail (As := [.int k, .int 0, .int x, .int (-1), .int (-1), .int (-1), .int (-1)]) d_D_addWrapped_65 lk_D_42 cal_D_add tm_D_add ts_D_add rfl rfl rfl (Nat.le_of_ble_eq_true rfl) rfl rfl d_D_addWrapped_68 rfl (D_add hN k 0 x (-1) (-1) (-1) (-1))
          · exact ep_throw 0 d_D_addWrapped_47 d_D_addWrapped_50 d_D_addWrapped_51 d_D_addWrapped_53 d_D_addWrapped_56 lc_D_37 ti_java_lang_IllegalArgumentException (i := 12) (tx := "CONST of CONST") (by decide +kernel) at_D_41 (by decide +kernel) (Nat.zero_lt_succ _) (Nat.le_of_ble_eq_true rfl) rfl (AP_x (by first | (simp [aWrapped, c2, c7, c13, n_needType, c34, c44]; done) | simp_all [aWrapped]))
      · exact ep_throw 0 d_D_addWrapped_16 d_D_addWrapped_19 d_D_addWrapped_20 d_D_addWrapped_22 d_D_addWrapped_25 lc_D_37 ti_java_lang_IllegalArgumentException (i := 10) (tx := "neither POINTER, REFERENCE nor CONST") (by decide +kernel) at_D_41 (by decide +kernel) (Nat.zero_lt_succ _) (Nat.le_of_ble_eq_true rfl) rfl (AP_x (by first | (simp [aWrapped, c2, c7, c13]; done) | simp_all [aWrapped]))
set_option maxHeartbeats 4000000 in
set_option maxRecDepth 100000 in
theorem D_addArray (hN : CN cI cA N) (x n : Int32) : EvP m_D_addArray (d + 3) 0 [(0, .ref 2), (1, .int x), (2, .int n)] [] (HC X cI cA rI rA ol J) (AP X cI cA rI rA ol J (aArray N x n)) := by
  refine ep_aload_n (j := 0) d_D_addArray_0 rfl rfl ?_
  refine ep_iload_n (j := 1) d_D_addArray_1 rfl rfl ?_
  refine ep_callVn (As := [.int x]) (st := []) d_D_addArray_2 lk_D_71 cal_D_needType tm_D_needType ts_D_needType rfl rfl rfl (Nat.le_of_ble_eq_true rfl) (Nat.le_of_ble_eq_true rfl) rfl rfl (D_needType hN x) (fun n_needType => ?_) (fun n_needType => AP_x (by first | (simp [aArray, n_needType]; done) | simp_all [aArray]))
  refine ep_iload_n (j := 2) d_D_addArray_5 rfl rfl ?_
  refine ep_iconst (v := 1) d_D_addArray_6 (by decide) ?_
  refine ep_icmp_lt (tgt := 17) d_D_addArray_7 (by decide) (fun c7 => ?_) (fun c7 => ?_)
  · exact ep_throw 0 d_D_addArray_17 d_D_addArray_20 d_D_addArray_21 d_D_addArray_23 d_D_addArray_26 lc_D_37 ti_java_lang_IllegalArgumentException (i := 13) (tx := "an ARRAY's number is 1 .. 999") (by decide +kernel) at_D_41 (by decide +kernel) (Nat.zero_lt_succ _) (Nat.le_of_ble_eq_true rfl) rfl (AP_x (by first | (simp [aArray, n_needType, c7]; done) | simp_all [aArray]))
  · refine ep_iload_n (j := 2) d_D_addArray_10 rfl rfl ?_
    refine ep_sipush (v := 999) d_D_addArray_11 (by decide) ?_
    refine ep_icmp_le (tgt := 27) d_D_addArray_14 (by decide) (fun c14 => ?_) (fun c14 => ?_)
    · refine ep_aload_n (j := 0) d_D_addArray_27 rfl rfl ?_
      refine ep_bipush (v := 7) d_D_addArray_28 (by decide) ?_
      refine ep_iload_n (j := 2) d_D_addArray_30 rfl rfl ?_
      refine ep_iload_n (j := 1) d_D_addArray_31 rfl rfl ?_
      refine ep_iconst (v := (-1)) d_D_addArray_32 (by decide) ?_
      refine ep_iconst (v := (-1)) d_D_addArray_33 (by decide) ?_
      refine ep_iconst (v := (-1)) d_D_addArray_34 (by decide) ?_
      refine ep_iconst (v := (-1)) d_D_addArray_35 (by decide) ?_
      refine ep_res (res' := addN N 7 n x (-1) (-1) (-1) (-1)) (by first | (simp [aArray, n_needType, c7, c14]; done) | simp_all [aArray]) ?_
      exact ep_tail (As := [.int 7, .int n, .int x, .int (-1), .int (-1), .int (-1), .int (-1)]) d_D_addArray_36 lk_D_42 cal_D_add tm_D_add ts_D_add rfl rfl rfl (Nat.le_of_ble_eq_true rfl) rfl rfl d_D_addArray_39 rfl (D_add hN 7 n x (-1) (-1) (-1) (-1))
    · exact ep_throw 0 d_D_addArray_17 d_D_addArray_20 d_D_addArray_21 d_D_addArray_23 d_D_addArray_26 lc_D_37 ti_java_lang_IllegalArgumentException (i := 13) (tx := "an ARRAY's number is 1 .. 999") (by decide +kernel) at_D_41 (by decide +kernel) (Nat.zero_lt_succ _) (Nat.le_of_ble_eq_true rfl) rfl (AP_x (by first | (simp [aArray, n_needType, c7, c14]; done) | simp_all [aArray]))
set_option maxHeartbeats 4000000 in
set_option maxRecDepth 100000 in
theorem D_addFunction (hN : CN cI cA N) (g a b c : Int32) : EvP m_D_addFunction (d + 3) 0 [(0, .ref 2), (1, .int g), (2, .int a), (3, .int b), (4, .int c)] [] (HC X cI cA rI rA ol J) (AP X cI cA rI rA ol J (aFunction N g a b c)) := by
  refine ep_aload_n (j := 0) d_D_addFunction_0 rfl rfl ?_
  refine ep_iload_n (j := 1) d_D_addFunction_1 rfl rfl ?_
  refine ep_callVn (As := [.int g]) (st := []) d_D_addFunction_2 lk_D_71 cal_D_needType tm_D_needType ts_D_needType rfl rfl rfl (Nat.le_of_ble_eq_true rfl) (Nat.le_of_ble_eq_true rfl) rfl rfl (D_needType hN g) (fun n_needType => ?_) (fun n_needType => AP_x (by first | (simp [aFunction, n_needType]; done) | simp_all [aFunction]))
  refine ep_aload_n (j := 0) d_D_addFunction_5 rfl rfl ?_
  refine ep_iload_n (j := 2) d_D_addFunction_6 rfl rfl ?_
  refine ep_iload_n (j := 3) d_D_addFunction_7 rfl rfl ?_
  refine ep_iload (j := 4) d_D_addFunction_8 rfl ?_
  refine ep_callVn (As := [.int a, .int b, .int c]) (st := []) d_D_addFunction_10 lk_D_78 cal_D_needParameters tm_D_needParameters ts_D_needParameters rfl rfl rfl (Nat.le_of_ble_eq_true rfl) (Nat.le_of_ble_eq_true rfl) rfl rfl (D_needParameters hN a b c) (fun n_needParameters => ?_) (fun n_needParameters => AP_x (by first | (simp [aFunction, n_needType, n_needParameters]; done) | simp_all [aFunction]))
  refine ep_aload_n (j := 0) d_D_addFunction_13 rfl rfl ?_
  refine ep_bipush (v := 8) d_D_addFunction_14 (by decide) ?_
  refine ep_iconst (v := 0) d_D_addFunction_16 (by decide) ?_
  refine ep_iload_n (j := 1) d_D_addFunction_17 rfl rfl ?_
  refine ep_iconst (v := (-1)) d_D_addFunction_18 (by decide) ?_
  refine ep_iload_n (j := 2) d_D_addFunction_19 rfl rfl ?_
  refine ep_iload_n (j := 3) d_D_addFunction_20 rfl rfl ?_
  refine ep_iload (j := 4) d_D_addFunction_21 rfl ?_
  refine ep_res (res' := addN N 8 0 g (-1) a b c) (by first | (simp [aFunction, n_needType, n_needParameters]; done) | simp_all [aFunction]) ?_
  exact ep_tail (As := [.int 8, .int 0, .int g, .int (-1), .int a, .int b, .int c]) d_D_addFunction_23 lk_D_42 cal_D_add tm_D_add ts_D_add rfl rfl rfl (Nat.le_of_ble_eq_true rfl) rfl rfl d_D_addFunction_26 rfl (D_add hN 8 0 g (-1) a b c)
set_option maxHeartbeats 4000000 in
set_option maxRecDepth 100000 in
theorem D_addLiteral (hN : CN cI cA N) (x v : Int32) : EvP m_D_addLiteral (d + 3) 0 [(0, .ref 2), (1, .int x), (2, .int v)] [] (HC X cI cA rI rA ol J) (AP X cI cA rI rA ol J (aLiteral N x v)) := by
  refine ep_aload_n (j := 0) d_D_addLiteral_0 rfl rfl ?_
  refine ep_iload_n (j := 1) d_D_addLiteral_1 rfl rfl ?_
  refine ep_callVi (As := [.int x]) (st := []) d_D_addLiteral_2 lk_D_53 cal_D_kindOf tm_D_kindOf ts_D_kindOf rfl rfl rfl (Nat.le_of_ble_eq_true rfl) (Nat.le_of_ble_eq_true rfl) rfl rfl (D_kindN hN x) ?_
  refine ep_if_ne (tgt := 17) d_D_addLiteral_5 (by decide) (fun c5 => ?_) (fun c5 => ?_)
  · exact ep_throw 0 d_D_addLiteral_17 d_D_addLiteral_20 d_D_addLiteral_21 d_D_addLiteral_23 d_D_addLiteral_26 lc_D_37 ti_java_lang_IllegalArgumentException (i := 15) (tx := "no BUILTIN other than v") (by decide +kernel) at_D_41 (by decide +kernel) (Nat.zero_lt_succ _) (Nat.le_of_ble_eq_true rfl) rfl (AP_x (by first | (simp [aLiteral, c5]; done) | simp_all [aLiteral]))
  · refine ep_aload_n (j := 0) d_D_addLiteral_8 rfl rfl ?_
    refine ep_iload_n (j := 1) d_D_addLiteral_9 rfl rfl ?_
    refine ep_iconst (v := 1) d_D_addLiteral_10 (by decide) ?_
    refine ep_callVi (As := [.int x, .int 1]) (st := []) d_D_addLiteral_11 lk_D_82 cal_D_cell tm_D_cell ts_D_cell rfl rfl rfl (Nat.le_of_ble_eq_true rfl) (Nat.le_of_ble_eq_true rfl) rfl rfl (D_cellN hN x 1 (by decide +kernel) (by decide)) ?_
    refine ep_if_ne (tgt := 27) d_D_addLiteral_14 (by decide) (fun c14 => ?_) (fun c14 => ?_)
    · refine ep_iload_n (j := 2) d_D_addLiteral_27 rfl rfl ?_
      refine ep_ldc (v := (-999999)) d_D_addLiteral_28 ln_D_88 ?_
      refine ep_icmp_lt (tgt := 39) d_D_addLiteral_30 (by decide) (fun c30 => ?_) (fun c30 => ?_)
      · exact ep_throw 0 d_D_addLiteral_39 d_D_addLiteral_42 d_D_addLiteral_43 d_D_addLiteral_45 d_D_addLiteral_48 lc_D_37 ti_java_lang_IllegalArgumentException (i := 16) (tx := "a LITERAL's number is -999999 .. 999999") (by decide +kernel) at_D_41 (by decide +kernel) (Nat.zero_lt_succ _) (Nat.le_of_ble_eq_true rfl) rfl (AP_x (by first | (simp [aLiteral, c5, c14, c30]; done) | simp_all [aLiteral]))
      · refine ep_iload_n (j := 2) d_D_addLiteral_33 rfl rfl ?_
        refine ep_ldc (v := 999999) d_D_addLiteral_34 ln_D_89 ?_
        refine ep_icmp_le (tgt := 49) d_D_addLiteral_36 (by decide) (fun c36 => ?_) (fun c36 => ?_)
        · refine ep_aload_n (j := 0) d_D_addLiteral_49 rfl rfl ?_
          refine ep_bipush (v := 9) d_D_addLiteral_50 (by decide) ?_
          refine ep_iload_n (j := 2) d_D_addLiteral_52 rfl rfl ?_
          refine ep_iload_n (j := 1) d_D_addLiteral_53 rfl rfl ?_
          refine ep_iconst (v := (-1)) d_D_addLiteral_54 (by decide) ?_
          refine ep_iconst (v := (-1)) d_D_addLiteral_55 (by decide) ?_
          refine ep_iconst (v := (-1)) d_D_addLiteral_56 (by decide) ?_
          refine ep_iconst (v := (-1)) d_D_addLiteral_57 (by decide) ?_
          refine ep_res (res' := addN N 9 v x (-1) (-1) (-1) (-1)) (by first | (simp [aLiteral, c5, c14, c30, c36]; done) | simp_all [aLiteral]) ?_
          exact ep_tail (As := [.int 9, .int v, .int x, .int (-1), .int (-1), .int (-1), .int (-1)]) d_D_addLiteral_58 lk_D_42 cal_D_add tm_D_add ts_D_add rfl rfl rfl (Nat.le_of_ble_eq_true rfl) rfl rfl d_D_addLiteral_61 rfl (D_add hN 9 v x (-1) (-1) (-1) (-1))
        · exact ep_throw 0 d_D_addLiteral_39 d_D_addLiteral_42 d_D_addLiteral_43 d_D_addLiteral_45 d_D_addLiteral_48 lc_D_37 ti_java_lang_IllegalArgumentException (i := 16) (tx := "a LITERAL's number is -999999 .. 999999") (by decide +kernel) at_D_41 (by decide +kernel) (Nat.zero_lt_succ _) (Nat.le_of_ble_eq_true rfl) rfl (AP_x (by first | (simp [aLiteral, c5, c14, c30, c36]; done) | simp_all [aLiteral]))
    · exact ep_throw 0 d_D_addLiteral_17 d_D_addLiteral_20 d_D_addLiteral_21 d_D_addLiteral_23 d_D_addLiteral_26 lc_D_37 ti_java_lang_IllegalArgumentException (i := 15) (tx := "no BUILTIN other than v") (by decide +kernel) at_D_41 (by decide +kernel) (Nat.zero_lt_succ _) (Nat.le_of_ble_eq_true rfl) rfl (AP_x (by first | (simp [aLiteral, c5, c14]; done) | simp_all [aLiteral]))
set_option maxHeartbeats 4000000 in
set_option maxRecDepth 100000 in
theorem D_addEntity (hN : CN cI cA N) (s g a b c : Int32) : EvP m_D_addEntity (d + 3) 0 [(0, .ref 2), (1, .int s), (2, .int g), (3, .int a), (4, .int b), (5, .int c)] [] (HC X cI cA rI rA ol J) (AP X cI cA rI rA ol J (aEntity N s g a b c)) := by
  refine ep_aload_n (j := 0) d_D_addEntity_0 rfl rfl ?_
  refine ep_iload_n (j := 1) d_D_addEntity_1 rfl rfl ?_
  refine ep_callVn (As := [.int s]) (st := []) d_D_addEntity_2 lk_D_50 cal_D_needPrefix tm_D_needPrefix ts_D_needPrefix rfl rfl rfl (Nat.le_of_ble_eq_true rfl) (Nat.le_of_ble_eq_true rfl) rfl rfl (D_needPrefix hN s) (fun n_needPrefix => ?_) (fun n_needPrefix => AP_x (by first | (simp [aEntity, n_needPrefix]; done) | simp_all [aEntity]))
  refine ep_aload_n (j := 0) d_D_addEntity_5 rfl rfl ?_
  refine ep_iload_n (j := 1) d_D_addEntity_6 rfl rfl ?_
  refine ep_callVi (As := [.int s]) (st := []) d_D_addEntity_7 lk_D_53 cal_D_kindOf tm_D_kindOf ts_D_kindOf rfl rfl rfl (Nat.le_of_ble_eq_true rfl) (Nat.le_of_ble_eq_true rfl) rfl rfl (D_kindN hN s) ?_
  refine ep_iconst (v := 3) d_D_addEntity_10 (by decide) ?_
  refine ep_icmp_ne (tgt := 22) d_D_addEntity_11 (by decide) (fun c11 => ?_) (fun c11 => ?_)
  · refine ep_iload_n (j := 2) d_D_addEntity_22 rfl rfl ?_
    refine ep_iconst (v := (-1)) d_D_addEntity_23 (by decide) ?_
    refine ep_icmp_eq (tgt := 37) d_D_addEntity_24 (by decide) (fun c24 => ?_) (fun c24 => ?_)
    · refine ep_aload_n (j := 0) d_D_addEntity_37 rfl rfl ?_
      refine ep_iload_n (j := 3) d_D_addEntity_38 rfl rfl ?_
      refine ep_iload (j := 4) d_D_addEntity_39 rfl ?_
      refine ep_iload (j := 5) d_D_addEntity_41 rfl ?_
      refine ep_callVn (As := [.int a, .int b, .int c]) (st := []) d_D_addEntity_43 lk_D_78 cal_D_needParameters tm_D_needParameters ts_D_needParameters rfl rfl rfl (Nat.le_of_ble_eq_true rfl) (Nat.le_of_ble_eq_true rfl) rfl rfl (D_needParameters hN a b c) (fun n_needParameters => ?_) (fun n_needParameters => AP_x (by first | (simp [aEntity, n_needPrefix, c11, c24, n_needParameters]; done) | simp_all [aEntity]))
      refine ep_aload_n (j := 0) d_D_addEntity_46 rfl rfl ?_
      refine ep_bipush (v := 10) d_D_addEntity_47 (by decide) ?_
      refine ep_iconst (v := 0) d_D_addEntity_49 (by decide) ?_
      refine ep_iload_n (j := 1) d_D_addEntity_50 rfl rfl ?_
      refine ep_iload_n (j := 2) d_D_addEntity_51 rfl rfl ?_
      refine ep_iload_n (j := 3) d_D_addEntity_52 rfl rfl ?_
      refine ep_iload (j := 4) d_D_addEntity_53 rfl ?_
      refine ep_iload (j := 5) d_D_addEntity_55 rfl ?_
      refine ep_res (res' := addN N 10 0 s g a b c) (by first | (simp [aEntity, n_needPrefix, c11, c24, n_needParameters]; done) | simp_all [aEntity]) ?_
      exact ep_tail (As := [.int 10, .int 0, .int s, .int g, .int a, .int b, .int c]) d_D_addEntity_57 lk_D_42 cal_D_add tm_D_add ts_D_add rfl rfl rfl (Nat.le_of_ble_eq_true rfl) rfl rfl d_D_addEntity_60 rfl (D_add hN 10 0 s g a b c)
    · exact ep_throw 0 d_D_addEntity_27 d_D_addEntity_30 d_D_addEntity_31 d_D_addEntity_33 d_D_addEntity_36 lc_D_37 ti_java_lang_IllegalArgumentException (i := 17) (tx := "only a FILLED one gives a type") (by decide +kernel) at_D_41 (by decide +kernel) (Nat.zero_lt_succ _) (Nat.le_of_ble_eq_true rfl) rfl (AP_x (by first | (simp [aEntity, n_needPrefix, c11, c24]; done) | simp_all [aEntity]))
  · refine ep_aload_n (j := 0) d_D_addEntity_14 rfl rfl ?_
    refine ep_iload_n (j := 2) d_D_addEntity_15 rfl rfl ?_
    refine ep_callVn (As := [.int g]) (st := []) d_D_addEntity_16 lk_D_71 cal_D_needType tm_D_needType ts_D_needType rfl rfl rfl (Nat.le_of_ble_eq_true rfl) (Nat.le_of_ble_eq_true rfl) rfl rfl (D_needType hN g) (fun n_needType => ?_) (fun n_needType => AP_x (by first | (simp [aEntity, n_needPrefix, c11, n_needType]; done) | simp_all [aEntity]))
    refine ep_goto (tgt := 37) d_D_addEntity_19 (by decide) ?_
    refine ep_aload_n (j := 0) d_D_addEntity_37 rfl rfl ?_
    refine ep_iload_n (j := 3) d_D_addEntity_38 rfl rfl ?_
    refine ep_iload (j := 4) d_D_addEntity_39 rfl ?_
    refine ep_iload (j := 5) d_D_addEntity_41 rfl ?_
    refine ep_callVn (As := [.int a, .int b, .int c]) (st := []) d_D_addEntity_43 lk_D_78 cal_D_needParameters tm_D_needParameters ts_D_needParameters rfl rfl rfl (Nat.le_of_ble_eq_true rfl) (Nat.le_of_ble_eq_true rfl) rfl rfl (D_needParameters hN a b c) (fun n_needParameters => ?_) (fun n_needParameters => AP_x (by first | (simp [aEntity, n_needPrefix, c11, n_needType, n_needParameters]; done) | simp_all [aEntity]))
    refine ep_aload_n (j := 0) d_D_addEntity_46 rfl rfl ?_
    refine ep_bipush (v := 10) d_D_addEntity_47 (by decide) ?_
    refine ep_iconst (v := 0) d_D_addEntity_49 (by decide) ?_
    refine ep_iload_n (j := 1) d_D_addEntity_50 rfl rfl ?_
    refine ep_iload_n (j := 2) d_D_addEntity_51 rfl rfl ?_
    refine ep_iload_n (j := 3) d_D_addEntity_52 rfl rfl ?_
    refine ep_iload (j := 4) d_D_addEntity_53 rfl ?_
    refine ep_iload (j := 5) d_D_addEntity_55 rfl ?_
    refine ep_res (res' := addN N 10 0 s g a b c) (by first | (simp [aEntity, n_needPrefix, c11, n_needType, n_needParameters]; done) | simp_all [aEntity]) ?_
    exact ep_tail (As := [.int 10, .int 0, .int s, .int g, .int a, .int b, .int c]) d_D_addEntity_57 lk_D_42 cal_D_add tm_D_add ts_D_add rfl rfl rfl (Nat.le_of_ble_eq_true rfl) rfl rfl d_D_addEntity_60 rfl (D_add hN 10 0 s g a b c)
end NE
