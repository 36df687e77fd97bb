/-! the reader: what is read by the types within; by program (wip/whole/gen25.py) -/
section RD
variable {d : Nat} {X : Nat × (Nat → Int32)} {cI : Nat → Int32} {cA : Nat → Nat → Int32} {rI : Nat → Int32} {rA : Nat → Nat → Int32} {ol : Int64} {J : mH} {L : List Int32} {N0 : List (List Int32)} {s : RS}
set_option maxHeartbeats 4000000 in
set_option maxRecDepth 100000 in
theorem R_readLiteral (hR : CR cI cA L N0 s)  : EvP m_R_readLiteral (d + 5) 0 [(0, .ref 13)] [] (HC X cI cA rI rA ol J) (RP X cI cA rI rA ol J L N0 (rLit L s)) := by
  refine ep_aload_n (j := 0) d_R_readLiteral_0 rfl rfl ?_
  refine ep_bipush (v := 76) d_R_readLiteral_1 (by decide) ?_
  refine ep_callVq (As := [.int 76]) (st := []) d_R_readLiteral_3 lk_R_33 cal_R_pass tm_R_pass ts_R_pass rfl rfl rfl (Nat.le_of_ble_eq_true rfl) (Nat.le_of_ble_eq_true rfl) rfl rfl (R_pass hR 76 (by decide)) (fun q1 cI1 cA1 e1 hR1 f1 => ?_) (fun k cI1 cA1 s1 e1 hR1 f1 => RP_x (Fr2.trans Fr2.rfl' f1) (by first | (simp [rLit, rLit2, bnd_i, bnd_x, e1]; done) | simp_all [rLit, rLit2, bnd_i, bnd_x]) hR1)
  have F1 := Fr2.trans Fr2.rfl' f1
  refine ep_aload_n (j := 0) d_R_readLiteral_6 rfl rfl ?_
  refine ep_callVi (As := []) (st := []) d_R_readLiteral_7 lk_R_55 cal_R_next tm_R_next ts_R_next rfl rfl rfl (Nat.le_of_ble_eq_true rfl) (Nat.le_of_ble_eq_true rfl) rfl rfl (R_next hR1) ?_
  refine ep_callSi (As := [.int (nxt L q1)]) (st := []) d_R_readLiteral_10 (Or.inr ⟨_, lk_R_77⟩) cal_N_builtinOfLetter tm_N_builtinOfLetter ti_N rfl (Nat.le_of_ble_eq_true rfl) (Nat.le_of_ble_eq_true rfl) rfl rfl (N_builtinOfLetter _) ?_
  refine ep_istore_n (lv' := [(0, .ref 13), (1, .int (bolF (nxt L q1)))]) [1, 0] d_R_readLiteral_13 rfl (by decide) rfl ?_
  refine ep_iload_n (j := 1) d_R_readLiteral_14 rfl rfl ?_
  refine ep_iconst (v := (-1)) d_R_readLiteral_15 (by decide) ?_
  refine ep_icmp_eq (tgt := 23) d_R_readLiteral_16 (by decide) (fun c16 => ?_) (fun c16 => ?_)
  · refine ep_iconst (v := 0) d_R_readLiteral_23 (by decide) ?_
    exact ep_callSX (As := [.int 0]) (st := []) d_R_readLiteral_24 (Or.inl lk_R_59) cal_R_need tm_R_need ti_R rfl (Nat.le_of_ble_eq_true rfl) (Nat.le_of_ble_eq_true rfl) rfl rfl R_need0 (RP_x F1 (by first | (simp [rLit, rLit2, bnd_i, bnd_x, e1, c16]; done) | simp_all [rLit, rLit2, bnd_i, bnd_x]) hR1)
  · refine ep_iconst (v := 1) d_R_readLiteral_19 (by decide) ?_
    refine ep_goto (tgt := 24) d_R_readLiteral_20 (by decide) ?_
    refine ep_callSv (As := [.int 1]) (st := []) d_R_readLiteral_24 (Or.inl lk_R_59) cal_R_need tm_R_need ti_R rfl (Nat.le_of_ble_eq_true rfl) (Nat.le_of_ble_eq_true rfl) rfl rfl R_need1 ?_
    refine ep_adv (o := 0) (s := q1) d_R_readLiteral_27 d_R_readLiteral_28 d_R_readLiteral_29 d_R_readLiteral_32 d_R_readLiteral_33 d_R_readLiteral_34 rfl rfl hR1 (nxt_lt (fun z => c16 (by rw [z]; decide))) (fun cI2 hR2 f2 => ?_)
    have F2 := Fr2.trans F1 f2
    refine ep_aload_n (j := 0) d_R_readLiteral_37 rfl rfl ?_
    refine ep_getf (fi := 1) (v := .ref 2) d_R_readLiteral_38 cl1 lf_R_18 (by decide) rfl rfl ?_
    refine ep_iload_n (j := 1) d_R_readLiteral_41 rfl rfl ?_
    refine ep_callVq (As := [.int (bolF (nxt L q1))]) (st := []) d_R_readLiteral_42 lk_R_80 cal_D_addBuiltin tm_D_addBuiltin ts_D_addBuiltin rfl rfl rfl (Nat.le_of_ble_eq_true rfl) (Nat.le_of_ble_eq_true rfl) rfl rfl (RA_Builtin hR2 (bolF (nxt L q1))) (fun q3 cI3 cA3 e3 hR3 f3 => ?_) (fun k cI3 cA3 s3 e3 hR3 f3 => RP_x (Fr2.trans F2 f3) (by first | (simp [rLit, rLit2, bnd_i, bnd_x, e1, c16, e3]; done) | simp_all [rLit, rLit2, bnd_i, bnd_x]) hR3)
    have F3 := Fr2.trans F2 f3
    refine ep_istore_n (lv' := [(0, .ref 13), (1, .int (bolF (nxt L q1))), (2, .int q3.1)]) [1, 2, 0] d_R_readLiteral_45 rfl (by decide) rfl ?_
    refine ep_aload_n (j := 0) d_R_readLiteral_46 rfl rfl ?_
    refine ep_callVi (As := []) (st := []) d_R_readLiteral_47 lk_R_55 cal_R_next tm_R_next ts_R_next rfl rfl rfl (Nat.le_of_ble_eq_true rfl) (Nat.le_of_ble_eq_true rfl) rfl rfl (R_next hR3) ?_
    refine ep_bipush (v := 110) d_R_readLiteral_50 (by decide) ?_
    refine ep_icmp_ne (tgt := 59) d_R_readLiteral_52 (by decide) (fun c52 => ?_) (fun c52 => ?_)
    · refine ep_iconst (v := 0) d_R_readLiteral_59 (by decide) ?_
      refine ep_istore_n (lv' := [(0, .ref 13), (1, .int (bolF (nxt L q1))), (2, .int q3.1), (3, .int 0)]) [1, 2, 3, 0] d_R_readLiteral_60 rfl (by decide) rfl ?_
      refine ep_iload_n (j := 3) d_R_readLiteral_61 rfl rfl ?_
      refine ep_if_eq (tgt := 75) d_R_readLiteral_62 (by decide) (fun _ => ?_) (fun z => absurd (by decide) z)
      refine ep_aload_n (j := 0) d_R_readLiteral_75 rfl rfl ?_
      refine ep_bipush (v := 10) d_R_readLiteral_76 (by decide) ?_
      refine ep_bipush (v := 6) d_R_readLiteral_78 (by decide) ?_
      refine ep_callVq (As := [.int 10, .int 6]) (st := []) d_R_readLiteral_80 lk_R_112 cal_R_readNumber tm_R_readNumber ts_R_readNumber rfl rfl rfl (Nat.le_of_ble_eq_true rfl) (Nat.le_of_ble_eq_true rfl) rfl rfl (R_readNumber hR3 10 6 (m := 6) (by decide +kernel) (by decide)) (fun q4 cI4 cA4 e4 hR4 f4 => ?_) (fun k cI4 cA4 s4 e4 hR4 f4 => RP_x (Fr2.trans F3 f4) (by first | (simp [rLit, rLit2, bnd_i, bnd_x, e1, c16, e3, c52, e4]; done) | simp_all [rLit, rLit2, bnd_i, bnd_x]) hR4)
      have F4 := Fr2.trans F3 f4
      refine ep_istore (lv' := [(0, .ref 13), (1, .int (bolF (nxt L q1))), (2, .int q3.1), (3, .int 0), (4, .int q4.1)]) [1, 2, 3, 4, 0] d_R_readLiteral_83 (by decide) rfl ?_
      refine ep_iload_n (j := 3) d_R_readLiteral_85 rfl rfl ?_
      refine ep_if_eq (tgt := 94) d_R_readLiteral_86 (by decide) (fun _ => ?_) (fun z => absurd (by decide) z)
      refine ep_iconst (v := 1) d_R_readLiteral_94 (by decide) ?_
      refine ep_goto (tgt := 99) d_R_readLiteral_95 (by decide) ?_
      refine ep_callSv (As := [.int 1]) (st := []) d_R_readLiteral_99 (Or.inl lk_R_59) cal_R_need tm_R_need ti_R rfl (Nat.le_of_ble_eq_true rfl) (Nat.le_of_ble_eq_true rfl) rfl rfl R_need1 ?_
      refine ep_aload_n (j := 0) d_R_readLiteral_102 rfl rfl ?_
      refine ep_bipush (v := 69) d_R_readLiteral_103 (by decide) ?_
      refine ep_callVq (As := [.int 69]) (st := []) d_R_readLiteral_105 lk_R_33 cal_R_pass tm_R_pass ts_R_pass rfl rfl rfl (Nat.le_of_ble_eq_true rfl) (Nat.le_of_ble_eq_true rfl) rfl rfl (R_pass hR4 69 (by decide)) (fun q5 cI5 cA5 e5 hR5 f5 => ?_) (fun k cI5 cA5 s5 e5 hR5 f5 => RP_x (Fr2.trans F4 f5) (by first | (simp [rLit, rLit2, bnd_i, bnd_x, e1, c16, e3, c52, e4, e5]; done) | simp_all [rLit, rLit2, bnd_i, bnd_x]) hR5)
      have F5 := Fr2.trans F4 f5
      refine ep_aload_n (j := 0) d_R_readLiteral_108 rfl rfl ?_
      refine ep_getf (fi := 1) (v := .ref 2) d_R_readLiteral_109 cl1 lf_R_18 (by decide) rfl rfl ?_
      refine ep_iload_n (j := 2) d_R_readLiteral_112 rfl rfl ?_
      refine ep_iload_n (j := 3) d_R_readLiteral_113 rfl rfl ?_
      refine ep_if_eq (tgt := 123) d_R_readLiteral_114 (by decide) (fun _ => ?_) (fun z => absurd (by decide) z)
      refine ep_iload (j := 4) d_R_readLiteral_123 rfl ?_
      refine ep_callVq (As := [.int q3.1, .int q4.1]) (st := []) d_R_readLiteral_125 lk_R_152 cal_D_addLiteral tm_D_addLiteral ts_D_addLiteral rfl rfl rfl (Nat.le_of_ble_eq_true rfl) (Nat.le_of_ble_eq_true rfl) rfl rfl (RA_Literal hR5 q3.1 q4.1) (fun q6 cI6 cA6 e6 hR6 f6 => ?_) (fun k cI6 cA6 s6 e6 hR6 f6 => RP_x (Fr2.trans F5 f6) (by first | (simp [rLit, rLit2, bnd_i, bnd_x, e1, c16, e3, c52, e4, e5, e6]; done) | simp_all [rLit, rLit2, bnd_i, bnd_x]) hR6)
      have F6 := Fr2.trans F5 f6
      exact ep_iret d_R_readLiteral_128 rfl rfl (RP_ok (f := fun q : Int32 × RS => some (.int q.1)) (q := (q6.1, q6.2)) F6 (by first | (simp [rLit, rLit2, bnd_i, bnd_x, e1, c16, e3, c52, e4, e5, e6]; done) | simp_all [rLit, rLit2, bnd_i, bnd_x]) hR6)
    · refine ep_iconst (v := 1) d_R_readLiteral_55 (by decide) ?_
      refine ep_goto (tgt := 60) d_R_readLiteral_56 (by decide) ?_
      refine ep_istore_n (lv' := [(0, .ref 13), (1, .int (bolF (nxt L q1))), (2, .int q3.1), (3, .int 1)]) [1, 2, 3, 0] d_R_readLiteral_60 rfl (by decide) rfl ?_
      refine ep_iload_n (j := 3) d_R_readLiteral_61 rfl rfl ?_
      refine ep_if_eq (tgt := 75) d_R_readLiteral_62 (by decide) (fun z => absurd z (by decide)) (fun _ => ?_)
      refine ep_adv (o := 0) (s := q3.2) d_R_readLiteral_65 d_R_readLiteral_66 d_R_readLiteral_67 d_R_readLiteral_70 d_R_readLiteral_71 d_R_readLiteral_72 rfl rfl hR3 (nxt_lt (fun z => by rw [z] at c52; revert c52; decide)) (fun cI7 hR7 f7 => ?_)
      have F7 := Fr2.trans F3 f7
      refine ep_aload_n (j := 0) d_R_readLiteral_75 rfl rfl ?_
      refine ep_bipush (v := 10) d_R_readLiteral_76 (by decide) ?_
      refine ep_bipush (v := 6) d_R_readLiteral_78 (by decide) ?_
      refine ep_callVq (As := [.int 10, .int 6]) (st := []) d_R_readLiteral_80 lk_R_112 cal_R_readNumber tm_R_readNumber ts_R_readNumber rfl rfl rfl (Nat.le_of_ble_eq_true rfl) (Nat.le_of_ble_eq_true rfl) rfl rfl (R_readNumber hR7 10 6 (m := 6) (by decide +kernel) (by decide)) (fun q8 cI8 cA8 e8 hR8 f8 => ?_) (fun k cI8 cA8 s8 e8 hR8 f8 => RP_x (Fr2.trans F7 f8) (by first | (simp [rLit, rLit2, bnd_i, bnd_x, e1, c16, e3, c52, e8]; done) | simp_all [rLit, rLit2, bnd_i, bnd_x]) hR8)
      have F8 := Fr2.trans F7 f8
      refine ep_istore (lv' := [(0, .ref 13), (1, .int (bolF (nxt L q1))), (2, .int q3.1), (3, .int 1), (4, .int q8.1)]) [1, 2, 3, 4, 0] d_R_readLiteral_83 (by decide) rfl ?_
      refine ep_iload_n (j := 3) d_R_readLiteral_85 rfl rfl ?_
      refine ep_if_eq (tgt := 94) d_R_readLiteral_86 (by decide) (fun z => absurd z (by decide)) (fun _ => ?_)
      refine ep_iload (j := 4) d_R_readLiteral_89 rfl ?_
      refine ep_if_eq (tgt := 98) d_R_readLiteral_91 (by decide) (fun c91 => ?_) (fun c91 => ?_)
      · refine ep_iconst (v := 0) d_R_readLiteral_98 (by decide) ?_
        exact ep_callSX (As := [.int 0]) (st := []) d_R_readLiteral_99 (Or.inl lk_R_59) cal_R_need tm_R_need ti_R rfl (Nat.le_of_ble_eq_true rfl) (Nat.le_of_ble_eq_true rfl) rfl rfl R_need0 (RP_x F8 (by first | (simp [rLit, rLit2, bnd_i, bnd_x, e1, c16, e3, c52, e8, c91]; done) | simp_all [rLit, rLit2, bnd_i, bnd_x]) hR8)
      · refine ep_iconst (v := 1) d_R_readLiteral_94 (by decide) ?_
        refine ep_goto (tgt := 99) d_R_readLiteral_95 (by decide) ?_
        refine ep_callSv (As := [.int 1]) (st := []) d_R_readLiteral_99 (Or.inl lk_R_59) cal_R_need tm_R_need ti_R rfl (Nat.le_of_ble_eq_true rfl) (Nat.le_of_ble_eq_true rfl) rfl rfl R_need1 ?_
        refine ep_aload_n (j := 0) d_R_readLiteral_102 rfl rfl ?_
        refine ep_bipush (v := 69) d_R_readLiteral_103 (by decide) ?_
        refine ep_callVq (As := [.int 69]) (st := []) d_R_readLiteral_105 lk_R_33 cal_R_pass tm_R_pass ts_R_pass rfl rfl rfl (Nat.le_of_ble_eq_true rfl) (Nat.le_of_ble_eq_true rfl) rfl rfl (R_pass hR8 69 (by decide)) (fun q9 cI9 cA9 e9 hR9 f9 => ?_) (fun k cI9 cA9 s9 e9 hR9 f9 => RP_x (Fr2.trans F8 f9) (by first | (simp [rLit, rLit2, bnd_i, bnd_x, e1, c16, e3, c52, e8, c91, e9]; done) | simp_all [rLit, rLit2, bnd_i, bnd_x]) hR9)
        have F9 := Fr2.trans F8 f9
        refine ep_aload_n (j := 0) d_R_readLiteral_108 rfl rfl ?_
        refine ep_getf (fi := 1) (v := .ref 2) d_R_readLiteral_109 cl1 lf_R_18 (by decide) rfl rfl ?_
        refine ep_iload_n (j := 2) d_R_readLiteral_112 rfl rfl ?_
        refine ep_iload_n (j := 3) d_R_readLiteral_113 rfl rfl ?_
        refine ep_if_eq (tgt := 123) d_R_readLiteral_114 (by decide) (fun z => absurd z (by decide)) (fun _ => ?_)
        refine ep_iload (j := 4) d_R_readLiteral_117 rfl ?_
        refine ep_ineg d_R_readLiteral_119 ?_
        refine ep_goto (tgt := 125) d_R_readLiteral_120 (by decide) ?_
        refine ep_callVq (As := [.int q3.1, .int (-q8.1)]) (st := []) d_R_readLiteral_125 lk_R_152 cal_D_addLiteral tm_D_addLiteral ts_D_addLiteral rfl rfl rfl (Nat.le_of_ble_eq_true rfl) (Nat.le_of_ble_eq_true rfl) rfl rfl (RA_Literal hR9 q3.1 (-q8.1)) (fun q10 cI10 cA10 e10 hR10 f10 => ?_) (fun k cI10 cA10 s10 e10 hR10 f10 => RP_x (Fr2.trans F9 f10) (by first | (simp [rLit, rLit2, bnd_i, bnd_x, e1, c16, e3, c52, e8, c91, e9, e10]; done) | simp_all [rLit, rLit2, bnd_i, bnd_x]) hR10)
        have F10 := Fr2.trans F9 f10
        exact ep_iret d_R_readLiteral_128 rfl rfl (RP_ok (f := fun q : Int32 × RS => some (.int q.1)) (q := (q10.1, q10.2)) F10 (by first | (simp [rLit, rLit2, bnd_i, bnd_x, e1, c16, e3, c52, e8, c91, e9, e10]; done) | simp_all [rLit, rLit2, bnd_i, bnd_x]) hR10)
set_option maxHeartbeats 4000000 in
set_option maxRecDepth 100000 in
theorem R_readArgument (hR : CR cI cA L N0 s) {l : Int32} {rec : RS → Ex (Int32 × RS)} (hrec : ∀ cI cA s, CR cI cA L N0 s → EvP m_R_readType (d + 6) 0 [(0, .ref 13), (1, .int l)] [] (HC X cI cA rI rA ol J) (RP X cI cA rI rA ol J L N0 (rec s))) : EvP m_R_readArgument (d + 7) 0 [(0, .ref 13), (1, .int l)] [] (HC X cI cA rI rA ol J) (RP X cI cA rI rA ol J L N0 (rArg L rec s)) := by
  refine ep_aload_n (j := 0) d_R_readArgument_0 rfl rfl ?_
  refine ep_callVi (As := []) (st := []) d_R_readArgument_1 lk_R_55 cal_R_next tm_R_next ts_R_next rfl rfl rfl (Nat.le_of_ble_eq_true rfl) (Nat.le_of_ble_eq_true rfl) rfl rfl (R_next hR) ?_
  refine ep_bipush (v := 76) d_R_readArgument_4 (by decide) ?_
  refine ep_icmp_ne (tgt := 16) d_R_readArgument_6 (by decide) (fun c6 => ?_) (fun c6 => ?_)
  · refine ep_aload_n (j := 0) d_R_readArgument_16 rfl rfl ?_
    refine ep_iload_n (j := 1) d_R_readArgument_17 rfl rfl ?_
    refine ep_callVq (As := [.int l]) (st := []) d_R_readArgument_18 lk_R_45 cal_R_readType tm_R_readType ts_R_readType rfl rfl rfl (Nat.le_of_ble_eq_true rfl) (Nat.le_of_ble_eq_true rfl) rfl rfl ((hrec _ _ _ hR).up (by omega)) (fun q1 cI1 cA1 e1 hR1 f1 => ?_) (fun k cI1 cA1 s1 e1 hR1 f1 => RP_x (Fr2.trans Fr2.rfl' f1) (by first | (simp [rArg, bnd_i, bnd_x, c6, e1]; done) | simp_all [rArg, bnd_i, bnd_x]) hR1)
    have F1 := Fr2.trans Fr2.rfl' f1
    exact ep_iret d_R_readArgument_21 rfl rfl (RP_ok (f := fun q : Int32 × RS => some (.int q.1)) (q := (q1.1, q1.2)) F1 (by first | (simp [rArg, bnd_i, bnd_x, c6, e1]; done) | simp_all [rArg, bnd_i, bnd_x]) hR1)
  · refine ep_aload_n (j := 0) d_R_readArgument_9 rfl rfl ?_
    refine ep_callVq (As := []) (st := []) d_R_readArgument_10 lk_R_149 cal_R_readLiteral tm_R_readLiteral ts_R_readLiteral rfl rfl rfl (Nat.le_of_ble_eq_true rfl) (Nat.le_of_ble_eq_true rfl) rfl rfl (R_readLiteral hR) (fun q2 cI2 cA2 e2 hR2 f2 => ?_) (fun k cI2 cA2 s2 e2 hR2 f2 => RP_x (Fr2.trans Fr2.rfl' f2) (by first | (simp [rArg, bnd_i, bnd_x, c6, e2]; done) | simp_all [rArg, bnd_i, bnd_x]) hR2)
    have F2 := Fr2.trans Fr2.rfl' f2
    refine ep_goto (tgt := 21) d_R_readArgument_13 (by decide) ?_
    exact ep_iret d_R_readArgument_21 rfl rfl (RP_ok (f := fun q : Int32 × RS => some (.int q.1)) (q := (q2.1, q2.2)) F2 (by first | (simp [rArg, bnd_i, bnd_x, c6, e2]; done) | simp_all [rArg, bnd_i, bnd_x]) hR2)
set_option maxHeartbeats 4000000 in
set_option maxRecDepth 100000 in
theorem R_readFilled (hR : CR cI cA L N0 s) {l : Int32} {rec : RS → Ex (Int32 × RS)} (hrec : ∀ cI cA s, CR cI cA L N0 s → EvP m_R_readType (d + 6) 0 [(0, .ref 13), (1, .int (l + 1))] [] (HC X cI cA rI rA ol J) (RP X cI cA rI rA ol J L N0 (rec s))) (n : Int32) : EvP m_R_readFilled (d + 8) 0 [(0, .ref 13), (1, .int n), (2, .int l)] [] (HC X cI cA rI rA ol J) (RP X cI cA rI rA ol J L N0 (rFill L rec n s)) := by
  refine ep_aload_n (j := 0) d_R_readFilled_0 rfl rfl ?_
  refine ep_bipush (v := 73) d_R_readFilled_1 (by decide) ?_
  refine ep_callVq (As := [.int 73]) (st := []) d_R_readFilled_3 lk_R_33 cal_R_pass tm_R_pass ts_R_pass rfl rfl rfl (Nat.le_of_ble_eq_true rfl) (Nat.le_of_ble_eq_true rfl) rfl rfl (R_pass hR 73 (by decide)) (fun q1 cI1 cA1 e1 hR1 f1 => ?_) (fun k cI1 cA1 s1 e1 hR1 f1 => RP_x (Fr2.trans Fr2.rfl' f1) (by first | (simp [rFill, rArg', bnd_i, bnd_x, e1]; done) | simp_all [rFill, rArg', bnd_i, bnd_x]) hR1)
  have F1 := Fr2.trans Fr2.rfl' f1
  refine ep_aload_n (j := 0) d_R_readFilled_6 rfl rfl ?_
  refine ep_iload_n (j := 2) d_R_readFilled_7 rfl rfl ?_
  refine ep_iconst (v := 1) d_R_readFilled_8 (by decide) ?_
  refine ep_iadd d_R_readFilled_9 ?_
  refine ep_callVq (As := [.int (l + 1)]) (st := []) d_R_readFilled_10 lk_R_143 cal_R_readArgument tm_R_readArgument ts_R_readArgument rfl rfl rfl (Nat.le_of_ble_eq_true rfl) (Nat.le_of_ble_eq_true rfl) rfl rfl ((R_readArgument hR1 hrec).up (by omega)) (fun q2 cI2 cA2 e2 hR2 f2 => ?_) (fun k cI2 cA2 s2 e2 hR2 f2 => RP_x (Fr2.trans F1 f2) (by first | (simp [rFill, rArg', bnd_i, bnd_x, e1, e2]; done) | simp_all [rFill, rArg', bnd_i, bnd_x]) hR2)
  have F2 := Fr2.trans F1 f2
  refine ep_istore_n (lv' := [(0, .ref 13), (1, .int n), (2, .int l), (3, .int q2.1)]) [1, 2, 3, 0] d_R_readFilled_13 rfl (by decide) rfl ?_
  refine ep_aload_n (j := 0) d_R_readFilled_14 rfl rfl ?_
  refine ep_callVi (As := []) (st := []) d_R_readFilled_15 lk_R_55 cal_R_next tm_R_next ts_R_next rfl rfl rfl (Nat.le_of_ble_eq_true rfl) (Nat.le_of_ble_eq_true rfl) rfl rfl (R_next hR2) ?_
  refine ep_bipush (v := 69) d_R_readFilled_18 (by decide) ?_
  refine ep_icmp_ne (tgt := 27) d_R_readFilled_20 (by decide) (fun c20 => ?_) (fun c20 => ?_)
  · refine ep_aload_n (j := 0) d_R_readFilled_27 rfl rfl ?_
    refine ep_iload_n (j := 2) d_R_readFilled_28 rfl rfl ?_
    refine ep_iconst (v := 1) d_R_readFilled_29 (by decide) ?_
    refine ep_iadd d_R_readFilled_30 ?_
    refine ep_callVq (As := [.int (l + 1)]) (st := []) d_R_readFilled_31 lk_R_143 cal_R_readArgument tm_R_readArgument ts_R_readArgument rfl rfl rfl (Nat.le_of_ble_eq_true rfl) (Nat.le_of_ble_eq_true rfl) rfl rfl ((R_readArgument hR2 hrec).up (by omega)) (fun q3 cI3 cA3 e3 hR3 f3 => ?_) (fun k cI3 cA3 s3 e3 hR3 f3 => RP_x (Fr2.trans F2 f3) (by first | (simp [rFill, rArg', bnd_i, bnd_x, e1, e2, c20, e3]; done) | simp_all [rFill, rArg', bnd_i, bnd_x]) hR3)
    have F3 := Fr2.trans F2 f3
    refine ep_istore (lv' := [(0, .ref 13), (1, .int n), (2, .int l), (3, .int q2.1), (4, .int q3.1)]) [1, 2, 3, 4, 0] d_R_readFilled_34 (by decide) rfl ?_
    refine ep_aload_n (j := 0) d_R_readFilled_36 rfl rfl ?_
    refine ep_callVi (As := []) (st := []) d_R_readFilled_37 lk_R_55 cal_R_next tm_R_next ts_R_next rfl rfl rfl (Nat.le_of_ble_eq_true rfl) (Nat.le_of_ble_eq_true rfl) rfl rfl (R_next hR3) ?_
    refine ep_bipush (v := 69) d_R_readFilled_40 (by decide) ?_
    refine ep_icmp_ne (tgt := 49) d_R_readFilled_42 (by decide) (fun c42 => ?_) (fun c42 => ?_)
    · refine ep_aload_n (j := 0) d_R_readFilled_49 rfl rfl ?_
      refine ep_iload_n (j := 2) d_R_readFilled_50 rfl rfl ?_
      refine ep_iconst (v := 1) d_R_readFilled_51 (by decide) ?_
      refine ep_iadd d_R_readFilled_52 ?_
      refine ep_callVq (As := [.int (l + 1)]) (st := []) d_R_readFilled_53 lk_R_143 cal_R_readArgument tm_R_readArgument ts_R_readArgument rfl rfl rfl (Nat.le_of_ble_eq_true rfl) (Nat.le_of_ble_eq_true rfl) rfl rfl ((R_readArgument hR3 hrec).up (by omega)) (fun q4 cI4 cA4 e4 hR4 f4 => ?_) (fun k cI4 cA4 s4 e4 hR4 f4 => RP_x (Fr2.trans F3 f4) (by first | (simp [rFill, rArg', bnd_i, bnd_x, e1, e2, c20, e3, c42, e4]; done) | simp_all [rFill, rArg', bnd_i, bnd_x]) hR4)
      have F4 := Fr2.trans F3 f4
      refine ep_istore (lv' := [(0, .ref 13), (1, .int n), (2, .int l), (3, .int q2.1), (4, .int q3.1), (5, .int q4.1)]) [1, 2, 3, 4, 5, 0] d_R_readFilled_56 (by decide) rfl ?_
      refine ep_aload_n (j := 0) d_R_readFilled_58 rfl rfl ?_
      refine ep_bipush (v := 69) d_R_readFilled_59 (by decide) ?_
      refine ep_callVq (As := [.int 69]) (st := []) d_R_readFilled_61 lk_R_33 cal_R_pass tm_R_pass ts_R_pass rfl rfl rfl (Nat.le_of_ble_eq_true rfl) (Nat.le_of_ble_eq_true rfl) rfl rfl (R_pass hR4 69 (by decide)) (fun q5 cI5 cA5 e5 hR5 f5 => ?_) (fun k cI5 cA5 s5 e5 hR5 f5 => RP_x (Fr2.trans F4 f5) (by first | (simp [rFill, rArg', bnd_i, bnd_x, e1, e2, c20, e3, c42, e4, e5]; done) | simp_all [rFill, rArg', bnd_i, bnd_x]) hR5)
      have F5 := Fr2.trans F4 f5
      refine ep_aload_n (j := 0) d_R_readFilled_64 rfl rfl ?_
      refine ep_getf (fi := 1) (v := .ref 2) d_R_readFilled_65 cl1 lf_R_18 (by decide) rfl rfl ?_
      refine ep_iload_n (j := 1) d_R_readFilled_68 rfl rfl ?_
      refine ep_iload_n (j := 3) d_R_readFilled_69 rfl rfl ?_
      refine ep_iload (j := 4) d_R_readFilled_70 rfl ?_
      refine ep_iload (j := 5) d_R_readFilled_72 rfl ?_
      refine ep_callVq (As := [.int n, .int q2.1, .int q3.1, .int q4.1]) (st := []) d_R_readFilled_74 lk_R_146 cal_D_addFilled tm_D_addFilled ts_D_addFilled rfl rfl rfl (Nat.le_of_ble_eq_true rfl) (Nat.le_of_ble_eq_true rfl) rfl rfl (RA_Filled hR5 n q2.1 q3.1 q4.1) (fun q6 cI6 cA6 e6 hR6 f6 => ?_) (fun k cI6 cA6 s6 e6 hR6 f6 => RP_x (Fr2.trans F5 f6) (by first | (simp [rFill, rArg', bnd_i, bnd_x, e1, e2, c20, e3, c42, e4, e5, e6]; done) | simp_all [rFill, rArg', bnd_i, bnd_x]) hR6)
      have F6 := Fr2.trans F5 f6
      exact ep_iret d_R_readFilled_77 rfl rfl (RP_ok (f := fun q : Int32 × RS => some (.int q.1)) (q := (q6.1, q6.2)) F6 (by first | (simp [rFill, rArg', bnd_i, bnd_x, e1, e2, c20, e3, c42, e4, e5, e6]; done) | simp_all [rFill, rArg', bnd_i, bnd_x]) hR6)
    · refine ep_iconst (v := (-1)) d_R_readFilled_45 (by decide) ?_
      refine ep_goto (tgt := 56) d_R_readFilled_46 (by decide) ?_
      refine ep_istore (lv' := [(0, .ref 13), (1, .int n), (2, .int l), (3, .int q2.1), (4, .int q3.1), (5, .int (-1))]) [1, 2, 3, 4, 5, 0] d_R_readFilled_56 (by decide) rfl ?_
      refine ep_aload_n (j := 0) d_R_readFilled_58 rfl rfl ?_
      refine ep_bipush (v := 69) d_R_readFilled_59 (by decide) ?_
      refine ep_callVq (As := [.int 69]) (st := []) d_R_readFilled_61 lk_R_33 cal_R_pass tm_R_pass ts_R_pass rfl rfl rfl (Nat.le_of_ble_eq_true rfl) (Nat.le_of_ble_eq_true rfl) rfl rfl (R_pass hR3 69 (by decide)) (fun q7 cI7 cA7 e7 hR7 f7 => ?_) (fun k cI7 cA7 s7 e7 hR7 f7 => RP_x (Fr2.trans F3 f7) (by first | (simp [rFill, rArg', bnd_i, bnd_x, e1, e2, c20, e3, c42, e7]; done) | simp_all [rFill, rArg', bnd_i, bnd_x]) hR7)
      have F7 := Fr2.trans F3 f7
      refine ep_aload_n (j := 0) d_R_readFilled_64 rfl rfl ?_
      refine ep_getf (fi := 1) (v := .ref 2) d_R_readFilled_65 cl1 lf_R_18 (by decide) rfl rfl ?_
      refine ep_iload_n (j := 1) d_R_readFilled_68 rfl rfl ?_
      refine ep_iload_n (j := 3) d_R_readFilled_69 rfl rfl ?_
      refine ep_iload (j := 4) d_R_readFilled_70 rfl ?_
      refine ep_iload (j := 5) d_R_readFilled_72 rfl ?_
      refine ep_callVq (As := [.int n, .int q2.1, .int q3.1, .int (-1)]) (st := []) d_R_readFilled_74 lk_R_146 cal_D_addFilled tm_D_addFilled ts_D_addFilled rfl rfl rfl (Nat.le_of_ble_eq_true rfl) (Nat.le_of_ble_eq_true rfl) rfl rfl (RA_Filled hR7 n q2.1 q3.1 (-1)) (fun q8 cI8 cA8 e8 hR8 f8 => ?_) (fun k cI8 cA8 s8 e8 hR8 f8 => RP_x (Fr2.trans F7 f8) (by first | (simp [rFill, rArg', bnd_i, bnd_x, e1, e2, c20, e3, c42, e7, e8]; done) | simp_all [rFill, rArg', bnd_i, bnd_x]) hR8)
      have F8 := Fr2.trans F7 f8
      exact ep_iret d_R_readFilled_77 rfl rfl (RP_ok (f := fun q : Int32 × RS => some (.int q.1)) (q := (q8.1, q8.2)) F8 (by first | (simp [rFill, rArg', bnd_i, bnd_x, e1, e2, c20, e3, c42, e7, e8]; done) | simp_all [rFill, rArg', bnd_i, bnd_x]) hR8)
  · refine ep_iconst (v := (-1)) d_R_readFilled_23 (by decide) ?_
    refine ep_goto (tgt := 34) d_R_readFilled_24 (by decide) ?_
    refine ep_istore (lv' := [(0, .ref 13), (1, .int n), (2, .int l), (3, .int q2.1), (4, .int (-1))]) [1, 2, 3, 4, 0] d_R_readFilled_34 (by decide) rfl ?_
    refine ep_aload_n (j := 0) d_R_readFilled_36 rfl rfl ?_
    refine ep_callVi (As := []) (st := []) d_R_readFilled_37 lk_R_55 cal_R_next tm_R_next ts_R_next rfl rfl rfl (Nat.le_of_ble_eq_true rfl) (Nat.le_of_ble_eq_true rfl) rfl rfl (R_next hR2) ?_
    refine ep_bipush (v := 69) d_R_readFilled_40 (by decide) ?_
    refine ep_icmp_ne (tgt := 49) d_R_readFilled_42 (by decide) (fun c42 => ?_) (fun c42 => ?_)
    · refine ep_aload_n (j := 0) d_R_readFilled_49 rfl rfl ?_
      refine ep_iload_n (j := 2) d_R_readFilled_50 rfl rfl ?_
      refine ep_iconst (v := 1) d_R_readFilled_51 (by decide) ?_
      refine ep_iadd d_R_readFilled_52 ?_
      refine ep_callVq (As := [.int (l + 1)]) (st := []) d_R_readFilled_53 lk_R_143 cal_R_readArgument tm_R_readArgument ts_R_readArgument rfl rfl rfl (Nat.le_of_ble_eq_true rfl) (Nat.le_of_ble_eq_true rfl) rfl rfl ((R_readArgument hR2 hrec).up (by omega)) (fun q9 cI9 cA9 e9 hR9 f9 => ?_) (fun k cI9 cA9 s9 e9 hR9 f9 => RP_x (Fr2.trans F2 f9) (by first | (simp [rFill, rArg', bnd_i, bnd_x, e1, e2, c20, c42, e9]; done) | simp_all [rFill, rArg', bnd_i, bnd_x]) hR9)
      have F9 := Fr2.trans F2 f9
      refine ep_istore (lv' := [(0, .ref 13), (1, .int n), (2, .int l), (3, .int q2.1), (4, .int (-1)), (5, .int q9.1)]) [1, 2, 3, 4, 5, 0] d_R_readFilled_56 (by decide) rfl ?_
      refine ep_aload_n (j := 0) d_R_readFilled_58 rfl rfl ?_
      refine ep_bipush (v := 69) d_R_readFilled_59 (by decide) ?_
      refine ep_callVq (As := [.int 69]) (st := []) d_R_readFilled_61 lk_R_33 cal_R_pass tm_R_pass ts_R_pass rfl rfl rfl (Nat.le_of_ble_eq_true rfl) (Nat.le_of_ble_eq_true rfl) rfl rfl (R_pass hR9 69 (by decide)) (fun q10 cI10 cA10 e10 hR10 f10 => ?_) (fun k cI10 cA10 s10 e10 hR10 f10 => RP_x (Fr2.trans F9 f10) (by first | (simp [rFill, rArg', bnd_i, bnd_x, e1, e2, c20, c42, e9, e10]; done) | simp_all [rFill, rArg', bnd_i, bnd_x]) hR10)
      have F10 := Fr2.trans F9 f10
      refine ep_aload_n (j := 0) d_R_readFilled_64 rfl rfl ?_
      refine ep_getf (fi := 1) (v := .ref 2) d_R_readFilled_65 cl1 lf_R_18 (by decide) rfl rfl ?_
      refine ep_iload_n (j := 1) d_R_readFilled_68 rfl rfl ?_
      refine ep_iload_n (j := 3) d_R_readFilled_69 rfl rfl ?_
      refine ep_iload (j := 4) d_R_readFilled_70 rfl ?_
      refine ep_iload (j := 5) d_R_readFilled_72 rfl ?_
      refine ep_callVq (As := [.int n, .int q2.1, .int (-1), .int q9.1]) (st := []) d_R_readFilled_74 lk_R_146 cal_D_addFilled tm_D_addFilled ts_D_addFilled rfl rfl rfl (Nat.le_of_ble_eq_true rfl) (Nat.le_of_ble_eq_true rfl) rfl rfl (RA_Filled hR10 n q2.1 (-1) q9.1) (fun q11 cI11 cA11 e11 hR11 f11 => ?_) (fun k cI11 cA11 s11 e11 hR11 f11 => RP_x (Fr2.trans F10 f11) (by first | (simp [rFill, rArg', bnd_i, bnd_x, e1, e2, c20, c42, e9, e10, e11]; done) | simp_all [rFill, rArg', bnd_i, bnd_x]) hR11)
      have F11 := Fr2.trans F10 f11
      exact ep_iret d_R_readFilled_77 rfl rfl (RP_ok (f := fun q : Int32 × RS => some (.int q.1)) (q := (q11.1, q11.2)) F11 (by first | (simp [rFill, rArg', bnd_i, bnd_x, e1, e2, c20, c42, e9, e10, e11]; done) | simp_all [rFill, rArg', bnd_i, bnd_x]) hR11)
    · refine ep_iconst (v := (-1)) d_R_readFilled_45 (by decide) ?_
      refine ep_goto (tgt := 56) d_R_readFilled_46 (by decide) ?_
      refine ep_istore (lv' := [(0, .ref 13), (1, .int n), (2, .int l), (3, .int q2.1), (4, .int (-1)), (5, .int (-1))]) [1, 2, 3, 4, 5, 0] d_R_readFilled_56 (by decide) rfl ?_
      refine ep_aload_n (j := 0) d_R_readFilled_58 rfl rfl ?_
      refine ep_bipush (v := 69) d_R_readFilled_59 (by decide) ?_
      refine ep_callVq (As := [.int 69]) (st := []) d_R_readFilled_61 lk_R_33 cal_R_pass tm_R_pass ts_R_pass rfl rfl rfl (Nat.le_of_ble_eq_true rfl) (Nat.le_of_ble_eq_true rfl) rfl rfl (R_pass hR2 69 (by decide)) (fun q12 cI12 cA12 e12 hR12 f12 => ?_) (fun k cI12 cA12 s12 e12 hR12 f12 => RP_x (Fr2.trans F2 f12) (by first | (simp [rFill, rArg', bnd_i, bnd_x, e1, e2, c20, c42, e12]; done) | simp_all [rFill, rArg', bnd_i, bnd_x]) hR12)
      have F12 := Fr2.trans F2 f12
      refine ep_aload_n (j := 0) d_R_readFilled_64 rfl rfl ?_
      refine ep_getf (fi := 1) (v := .ref 2) d_R_readFilled_65 cl1 lf_R_18 (by decide) rfl rfl ?_
      refine ep_iload_n (j := 1) d_R_readFilled_68 rfl rfl ?_
      refine ep_iload_n (j := 3) d_R_readFilled_69 rfl rfl ?_
      refine ep_iload (j := 4) d_R_readFilled_70 rfl ?_
      refine ep_iload (j := 5) d_R_readFilled_72 rfl ?_
      refine ep_callVq (As := [.int n, .int q2.1, .int (-1), .int (-1)]) (st := []) d_R_readFilled_74 lk_R_146 cal_D_addFilled tm_D_addFilled ts_D_addFilled rfl rfl rfl (Nat.le_of_ble_eq_true rfl) (Nat.le_of_ble_eq_true rfl) rfl rfl (RA_Filled hR12 n q2.1 (-1) (-1)) (fun q13 cI13 cA13 e13 hR13 f13 => ?_) (fun k cI13 cA13 s13 e13 hR13 f13 => RP_x (Fr2.trans F12 f13) (by first | (simp [rFill, rArg', bnd_i, bnd_x, e1, e2, c20, c42, e12, e13]; done) | simp_all [rFill, rArg', bnd_i, bnd_x]) hR13)
      have F13 := Fr2.trans F12 f13
      exact ep_iret d_R_readFilled_77 rfl rfl (RP_ok (f := fun q : Int32 × RS => some (.int q.1)) (q := (q13.1, q13.2)) F13 (by first | (simp [rFill, rArg', bnd_i, bnd_x, e1, e2, c20, c42, e12, e13]; done) | simp_all [rFill, rArg', bnd_i, bnd_x]) hR13)
set_option maxHeartbeats 4000000 in
set_option maxRecDepth 100000 in
theorem R_readNestedStart (hR : CR cI cA L N0 s)  : EvP m_R_readNestedStart (d + 4) 0 [(0, .ref 13)] [] (HC X cI cA rI rA ol J) (RP X cI cA rI rA ol J L N0 (rStart L s)) := by
  refine ep_aload_n (j := 0) d_R_readNestedStart_0 rfl rfl ?_
  refine ep_callVi (As := []) (st := []) d_R_readNestedStart_1 lk_R_55 cal_R_next tm_R_next ts_R_next rfl rfl rfl (Nat.le_of_ble_eq_true rfl) (Nat.le_of_ble_eq_true rfl) rfl rfl (R_next hR) ?_
  refine ep_bipush (v := 83) d_R_readNestedStart_4 (by decide) ?_
  refine ep_icmp_ne (tgt := 14) d_R_readNestedStart_6 (by decide) (fun c6 => ?_) (fun c6 => ?_)
  · refine ep_aload_n (j := 0) d_R_readNestedStart_14 rfl rfl ?_
    refine ep_getf (fi := 1) (v := .ref 2) d_R_readNestedStart_15 cl1 lf_R_18 (by decide) rfl rfl ?_
    refine ep_aload_n (j := 0) d_R_readNestedStart_18 rfl rfl ?_
    refine ep_callVq (As := []) (st := [.ref 2]) d_R_readNestedStart_19 lk_R_125 cal_R_readId tm_R_readId ts_R_readId rfl rfl rfl (Nat.le_of_ble_eq_true rfl) (Nat.le_of_ble_eq_true rfl) rfl rfl (R_readId hR) (fun q1 cI1 cA1 e1 hR1 f1 => ?_) (fun k cI1 cA1 s1 e1 hR1 f1 => RP_x (Fr2.trans Fr2.rfl' f1) (by first | (simp [rStart, bnd_i, bnd_x, c6, e1]; done) | simp_all [rStart, bnd_i, bnd_x]) hR1)
    have F1 := Fr2.trans Fr2.rfl' f1
    refine ep_callVq (As := [.int q1.1]) (st := []) d_R_readNestedStart_22 lk_R_128 cal_D_addName tm_D_addName ts_D_addName rfl rfl rfl (Nat.le_of_ble_eq_true rfl) (Nat.le_of_ble_eq_true rfl) rfl rfl (RA_Name hR1 q1.1) (fun q2 cI2 cA2 e2 hR2 f2 => ?_) (fun k cI2 cA2 s2 e2 hR2 f2 => RP_x (Fr2.trans F1 f2) (by first | (simp [rStart, bnd_i, bnd_x, c6, e1, e2]; done) | simp_all [rStart, bnd_i, bnd_x]) hR2)
    have F2 := Fr2.trans F1 f2
    refine ep_istore_n (lv' := [(0, .ref 13), (1, .int q2.1)]) [1, 0] d_R_readNestedStart_25 rfl (by decide) rfl ?_
    refine ep_aload_n (j := 0) d_R_readNestedStart_26 rfl rfl ?_
    refine ep_getf (fi := 0) (v := .ref 14) d_R_readNestedStart_27 cl1 lf_R_12 (by decide) rfl rfl ?_
    refine ep_iload_n (j := 1) d_R_readNestedStart_30 rfl rfl ?_
    refine ep_callVt (As := [.int q2.1]) (st := []) d_R_readNestedStart_31 lk_R_89 cal_W_add tm_W_add ts_W_add rfl rfl rfl (Nat.le_of_ble_eq_true rfl) (Nat.le_of_ble_eq_true rfl) rfl rfl (T_add hR2 q2.1) (fun b3 cI3 cA3 hR3 f3 => ?_)
    have F3 := Fr2.trans F2 f3
    refine ep_pop d_R_readNestedStart_34 rfl ?_
    refine ep_iload_n (j := 1) d_R_readNestedStart_35 rfl rfl ?_
    exact ep_iret d_R_readNestedStart_36 rfl rfl (RP_ok (f := fun q : Int32 × RS => some (.int q.1)) (q := (q2.1, tad q2.2 q2.1)) F3 (by first | (simp [rStart, bnd_i, bnd_x, c6, e1, e2]; done) | simp_all [rStart, bnd_i, bnd_x]) hR3)
  · refine ep_aload_n (j := 0) d_R_readNestedStart_9 rfl rfl ?_
    refine ep_callVq (As := []) (st := []) d_R_readNestedStart_10 lk_R_93 cal_R_readTold tm_R_readTold ts_R_readTold rfl rfl rfl (Nat.le_of_ble_eq_true rfl) (Nat.le_of_ble_eq_true rfl) rfl rfl (R_readTold hR) (fun q4 cI4 cA4 e4 hR4 f4 => ?_) (fun k cI4 cA4 s4 e4 hR4 f4 => RP_x (Fr2.trans Fr2.rfl' f4) (by first | (simp [rStart, bnd_i, bnd_x, c6, e4]; done) | simp_all [rStart, bnd_i, bnd_x]) hR4)
    have F4 := Fr2.trans Fr2.rfl' f4
    exact ep_iret d_R_readNestedStart_13 rfl rfl (RP_ok (f := fun q : Int32 × RS => some (.int q.1)) (q := (q4.1, q4.2)) F4 (by first | (simp [rStart, bnd_i, bnd_x, c6, e4]; done) | simp_all [rStart, bnd_i, bnd_x]) hR4)
set_option maxHeartbeats 4000000 in
set_option maxRecDepth 100000 in
theorem R_readNestedStep (hR : CR cI cA L N0 s) {l : Int32} {rec : RS → Ex (Int32 × RS)} (hrec : ∀ cI cA s, CR cI cA L N0 s → EvP m_R_readType (d + 6) 0 [(0, .ref 13), (1, .int (l + 1))] [] (HC X cI cA rI rA ol J) (RP X cI cA rI rA ol J L N0 (rec s))) (n : Int32) : EvP m_R_readNestedStep (d + 9) 0 [(0, .ref 13), (1, .int n), (2, .int l)] [] (HC X cI cA rI rA ol J) (RP X cI cA rI rA ol J L N0 (rStep L rec n s)) := by
  refine ep_aload_n (j := 0) d_R_readNestedStep_0 rfl rfl ?_
  refine ep_callVi (As := []) (st := []) d_R_readNestedStep_1 lk_R_55 cal_R_next tm_R_next ts_R_next rfl rfl rfl (Nat.le_of_ble_eq_true rfl) (Nat.le_of_ble_eq_true rfl) rfl rfl (R_next hR) ?_
  refine ep_bipush (v := 73) d_R_readNestedStep_4 (by decide) ?_
  refine ep_icmp_ne (tgt := 18) d_R_readNestedStep_6 (by decide) (fun c6 => ?_) (fun c6 => ?_)
  · refine ep_aload_n (j := 0) d_R_readNestedStep_18 rfl rfl ?_
    refine ep_getf (fi := 1) (v := .ref 2) d_R_readNestedStep_19 cl1 lf_R_18 (by decide) rfl rfl ?_
    refine ep_iload_n (j := 1) d_R_readNestedStep_22 rfl rfl ?_
    refine ep_aload_n (j := 0) d_R_readNestedStep_23 rfl rfl ?_
    refine ep_callVq (As := []) (st := [.int n, .ref 2]) d_R_readNestedStep_24 lk_R_125 cal_R_readId tm_R_readId ts_R_readId rfl rfl rfl (Nat.le_of_ble_eq_true rfl) (Nat.le_of_ble_eq_true rfl) rfl rfl (R_readId hR) (fun q1 cI1 cA1 e1 hR1 f1 => ?_) (fun k cI1 cA1 s1 e1 hR1 f1 => RP_x (Fr2.trans Fr2.rfl' f1) (by first | (simp [rStep, bnd_i, bnd_x, c6, e1]; done) | simp_all [rStep, bnd_i, bnd_x]) hR1)
    have F1 := Fr2.trans Fr2.rfl' f1
    refine ep_callVq (As := [.int n, .int q1.1]) (st := []) d_R_readNestedStep_27 lk_R_140 cal_D_addMember tm_D_addMember ts_D_addMember rfl rfl rfl (Nat.le_of_ble_eq_true rfl) (Nat.le_of_ble_eq_true rfl) rfl rfl (RA_Member hR1 n q1.1) (fun q2 cI2 cA2 e2 hR2 f2 => ?_) (fun k cI2 cA2 s2 e2 hR2 f2 => RP_x (Fr2.trans F1 f2) (by first | (simp [rStep, bnd_i, bnd_x, c6, e1, e2]; done) | simp_all [rStep, bnd_i, bnd_x]) hR2)
    have F2 := Fr2.trans F1 f2
    exact ep_iret d_R_readNestedStep_30 rfl rfl (RP_ok (f := fun q : Int32 × RS => some (.int q.1)) (q := (q2.1, q2.2)) F2 (by first | (simp [rStep, bnd_i, bnd_x, c6, e1, e2]; done) | simp_all [rStep, bnd_i, bnd_x]) hR2)
  · refine ep_aload_n (j := 0) d_R_readNestedStep_9 rfl rfl ?_
    refine ep_iload_n (j := 1) d_R_readNestedStep_10 rfl rfl ?_
    refine ep_iload_n (j := 2) d_R_readNestedStep_11 rfl rfl ?_
    refine ep_callVq (As := [.int n, .int l]) (st := []) d_R_readNestedStep_12 lk_R_96 cal_R_readFilled tm_R_readFilled ts_R_readFilled rfl rfl rfl (Nat.le_of_ble_eq_true rfl) (Nat.le_of_ble_eq_true rfl) rfl rfl ((R_readFilled hR hrec n).up (by omega)) (fun q3 cI3 cA3 e3 hR3 f3 => ?_) (fun k cI3 cA3 s3 e3 hR3 f3 => RP_x (Fr2.trans Fr2.rfl' f3) (by first | (simp [rStep, bnd_i, bnd_x, c6, e3]; done) | simp_all [rStep, bnd_i, bnd_x]) hR3)
    have F3 := Fr2.trans Fr2.rfl' f3
    refine ep_goto (tgt := 30) d_R_readNestedStep_15 (by decide) ?_
    exact ep_iret d_R_readNestedStep_30 rfl rfl (RP_ok (f := fun q : Int32 × RS => some (.int q.1)) (q := (q3.1, q3.2)) F3 (by first | (simp [rStep, bnd_i, bnd_x, c6, e3]; done) | simp_all [rStep, bnd_i, bnd_x]) hR3)
def rNestE (L : List Int32) (n : Int32) (s : RS) : Ex (Int32 × RS) := bnd (rPass L 69 s) fun s5 => if kN s5.1 n = 2 ∨ kN s5.1 (cN s5.1 n 2) = 2 then .inr (n, s5) else .inl 0
set_option maxHeartbeats 4000000 in
set_option maxRecDepth 100000 in
theorem R_nest_t (hR : CR cI cA L N0 s) (l n : Int32) (i : Nat) : EvP m_R_readNested (d + 3) 57 [(0, .ref 13), (1, .int l), (2, .int n), (3, .int (nI i))] [] (HC X cI cA rI rA ol J) (RP X cI cA rI rA ol J L N0 (rNestE L n s)) := by
  refine ep_aload_n (j := 0) d_R_readNested_57 rfl rfl ?_
  refine ep_bipush (v := 69) d_R_readNested_58 (by decide) ?_
  refine ep_callVq (As := [.int 69]) (st := []) d_R_readNested_60 lk_R_33 cal_R_pass tm_R_pass ts_R_pass rfl rfl rfl (Nat.le_of_ble_eq_true rfl) (Nat.le_of_ble_eq_true rfl) rfl rfl (R_pass hR 69 (by decide)) (fun q1 cI1 cA1 e1 hR1 f1 => ?_) (fun k cI1 cA1 s1 e1 hR1 f1 => RP_x (Fr2.trans Fr2.rfl' f1) (by first | (simp [rNestE, bnd_i, bnd_x, e1]; done) | simp_all [rNestE, bnd_i, bnd_x]) hR1)
  have F1 := Fr2.trans Fr2.rfl' f1
  refine ep_aload_n (j := 0) d_R_readNested_63 rfl rfl ?_
  refine ep_getf (fi := 1) (v := .ref 2) d_R_readNested_64 cl1 lf_R_18 (by decide) rfl rfl ?_
  refine ep_iload_n (j := 2) d_R_readNested_67 rfl rfl ?_
  refine ep_callVi (As := [.int n]) (st := []) d_R_readNested_68 lk_R_40 cal_D_kindOf tm_D_kindOf ts_D_kindOf rfl rfl rfl (Nat.le_of_ble_eq_true rfl) (Nat.le_of_ble_eq_true rfl) rfl rfl (D_kindN hR1.1 _) ?_
  refine ep_iconst (v := 2) d_R_readNested_71 (by decide) ?_
  refine ep_icmp_eq (tgt := 95) d_R_readNested_72 (by decide) (fun c72 => ?_) (fun c72 => ?_)
  · refine ep_iconst (v := 1) d_R_readNested_95 (by decide) ?_
    refine ep_goto (tgt := 100) d_R_readNested_96 (by decide) ?_
    refine ep_callSv (As := [.int 1]) (st := []) d_R_readNested_100 (Or.inl lk_R_59) cal_R_need tm_R_need ti_R rfl (Nat.le_of_ble_eq_true rfl) (Nat.le_of_ble_eq_true rfl) rfl rfl R_need1 ?_
    refine ep_iload_n (j := 2) d_R_readNested_103 rfl rfl ?_
    exact ep_iret d_R_readNested_104 rfl rfl (RP_ok (f := fun q : Int32 × RS => some (.int q.1)) (q := (n, q1)) F1 (by first | (simp [rNestE, bnd_i, bnd_x, e1, c72]; done) | simp_all [rNestE, bnd_i, bnd_x]) hR1)
  · refine ep_aload_n (j := 0) d_R_readNested_75 rfl rfl ?_
    refine ep_getf (fi := 1) (v := .ref 2) d_R_readNested_76 cl1 lf_R_18 (by decide) rfl rfl ?_
    refine ep_aload_n (j := 0) d_R_readNested_79 rfl rfl ?_
    refine ep_getf (fi := 1) (v := .ref 2) d_R_readNested_80 cl1 lf_R_18 (by decide) rfl rfl ?_
    refine ep_iload_n (j := 2) d_R_readNested_83 rfl rfl ?_
    refine ep_iconst (v := 2) d_R_readNested_84 (by decide) ?_
    refine ep_callVi (As := [.int n, .int 2]) (st := [.ref 2]) d_R_readNested_85 lk_R_137 cal_D_cell tm_D_cell ts_D_cell rfl rfl rfl (Nat.le_of_ble_eq_true rfl) (Nat.le_of_ble_eq_true rfl) rfl rfl (D_cellN hR1.1 _ 2 (by decide +kernel) (by decide)) ?_
    refine ep_callVi (As := [.int (cN q1.1 n 2)]) (st := []) d_R_readNested_88 lk_R_40 cal_D_kindOf tm_D_kindOf ts_D_kindOf rfl rfl rfl (Nat.le_of_ble_eq_true rfl) (Nat.le_of_ble_eq_true rfl) rfl rfl (D_kindN hR1.1 _) ?_
    refine ep_iconst (v := 2) d_R_readNested_91 (by decide) ?_
    refine ep_icmp_ne (tgt := 99) d_R_readNested_92 (by decide) (fun c92 => ?_) (fun c92 => ?_)
    · refine ep_iconst (v := 0) d_R_readNested_99 (by decide) ?_
      exact ep_callSX (As := [.int 0]) (st := []) d_R_readNested_100 (Or.inl lk_R_59) cal_R_need tm_R_need ti_R rfl (Nat.le_of_ble_eq_true rfl) (Nat.le_of_ble_eq_true rfl) rfl rfl R_need0 (RP_x F1 (by first | (simp [rNestE, bnd_i, bnd_x, e1, c72, c92]; done) | simp_all [rNestE, bnd_i, bnd_x]) hR1)
    · refine ep_iconst (v := 1) d_R_readNested_95 (by decide) ?_
      refine ep_goto (tgt := 100) d_R_readNested_96 (by decide) ?_
      refine ep_callSv (As := [.int 1]) (st := []) d_R_readNested_100 (Or.inl lk_R_59) cal_R_need tm_R_need ti_R rfl (Nat.le_of_ble_eq_true rfl) (Nat.le_of_ble_eq_true rfl) rfl rfl R_need1 ?_
      refine ep_iload_n (j := 2) d_R_readNested_103 rfl rfl ?_
      exact ep_iret d_R_readNested_104 rfl rfl (RP_ok (f := fun q : Int32 × RS => some (.int q.1)) (q := (n, q1)) F1 (by first | (simp [rNestE, bnd_i, bnd_x, e1, c72, c92]; done) | simp_all [rNestE, bnd_i, bnd_x]) hR1)
set_option maxHeartbeats 4000000 in
set_option maxRecDepth 100000 in
theorem R_nest_l {l : Int32} {rec : RS → Ex (Int32 × RS)} (hrec : ∀ cI cA s, CR cI cA L N0 s → EvP m_R_readType (d + 6) 0 [(0, .ref 13), (1, .int (l + 1))] [] (HC X cI cA rI rA ol J) (RP X cI cA rI rA ol J L N0 (rec s))) : ∀ (k i : Nat) (n : Int32) (cI : Nat → Int32) (cA : Nat → Nat → Int32) (s : RS), CR cI cA L N0 s → i + k = 120 → EvP m_R_readNested (d + 10) 20 [(0, .ref 13), (1, .int l), (2, .int n), (3, .int (nI i))] [] (HC X cI cA rI rA ol J) (RP X cI cA rI rA ol J L N0 (bnd (rSteps L rec k n s) fun c => rNestE L c.1 c.2)) := by
  intro k
  induction k with
  | zero =>
    intro i n cI cA s hR hk
    refine ep_iload_n (j := 3) d_R_readNested_20 rfl rfl ?_
    refine ep_bipush (v := 120) d_R_readNested_21 (by decide) ?_
    refine ep_icmp_ge (tgt := 57) d_R_readNested_23 (by decide) (fun _ => ?_) (fun z => absurd (by rw [show i = 120 from by omega, nI_120]; exact Int32.le_refl _) z)
    exact R_nest_t hR l n i
  | succ k ih =>
    intro i n cI cA s hR hk
    refine ep_iload_n (j := 3) d_R_readNested_20 rfl rfl ?_
    refine ep_bipush (v := 120) d_R_readNested_21 (by decide) ?_
    refine ep_icmp_ge (tgt := 57) d_R_readNested_23 (by decide) (fun z => absurd z (by rw [← nI_120]; exact nI_ge (by omega) (by omega))) (fun _ => ?_)
    refine ep_aload_n (j := 0) d_R_readNested_26 rfl rfl ?_
    refine ep_callVi (As := []) (st := []) d_R_readNested_27 lk_R_55 cal_R_next tm_R_next ts_R_next rfl rfl rfl (Nat.le_of_ble_eq_true rfl) (Nat.le_of_ble_eq_true rfl) rfl rfl (R_next hR) ?_
    refine ep_bipush (v := 69) d_R_readNested_30 (by decide) ?_
    refine ep_icmp_eq (tgt := 57) d_R_readNested_32 (by decide) (fun c32 => ?_) (fun c32 => ?_)
    · refine ep_res (res' := rNestE L n s) (by simp [rSteps, c32, bnd_i]) ?_
      exact R_nest_t hR l n i
    · refine ep_aload_n (j := 0) d_R_readNested_35 rfl rfl ?_
      refine ep_getf (fi := 0) (v := .ref 14) d_R_readNested_36 cl1 lf_R_12 (by decide) rfl rfl ?_
      refine ep_iload_n (j := 2) d_R_readNested_39 rfl rfl ?_
      refine ep_callVt (As := [.int n]) (st := []) d_R_readNested_40 lk_R_89 cal_W_add tm_W_add ts_W_add rfl rfl rfl (Nat.le_of_ble_eq_true rfl) (Nat.le_of_ble_eq_true rfl) rfl rfl (T_add hR n) (fun b1 cI1 cA1 hR1 f1 => ?_)
      have F1 := Fr2.trans Fr2.rfl' f1
      refine ep_pop d_R_readNested_43 rfl ?_
      refine ep_aload_n (j := 0) d_R_readNested_44 rfl rfl ?_
      refine ep_iload_n (j := 2) d_R_readNested_45 rfl rfl ?_
      refine ep_iload_n (j := 1) d_R_readNested_46 rfl rfl ?_
      refine ep_callVq (As := [.int n, .int l]) (st := []) d_R_readNested_47 lk_R_134 cal_R_readNestedStep tm_R_readNestedStep ts_R_readNestedStep rfl rfl rfl (Nat.le_of_ble_eq_true rfl) (Nat.le_of_ble_eq_true rfl) rfl rfl ((R_readNestedStep hR1 hrec n).up (by omega)) (fun q2 cI2 cA2 e2 hR2 f2 => ?_) (fun k cI2 cA2 s2 e2 hR2 f2 => RP_x (Fr2.trans F1 f2) (by first | (simp [rSteps, bnd_i, bnd_x, c32, e2]; done) | simp_all [rSteps, bnd_i, bnd_x]) hR2)
      have F2 := Fr2.trans F1 f2
      refine ep_istore_n (lv' := [(0, .ref 13), (1, .int l), (2, .int q2.1), (3, .int (nI i))]) [1, 2, 0, 3] d_R_readNested_50 rfl (by decide) rfl ?_
      refine ep_iinc (v := (nI (i + 1))) (j := 3) (lv' := [(0, .ref 13), (1, .int l), (2, .int q2.1), (3, .int (nI (i + 1)))]) [1, 2, 3, 0] d_R_readNested_51 rfl (nI_1 i) (by decide) rfl ?_
      refine ep_goto (tgt := 20) d_R_readNested_54 (by decide) ?_
      refine ep_res (res' := bnd (rSteps L rec k q2.1 q2.2) fun c => rNestE L c.1 c.2) (by simp [rSteps, c32, e2, bnd_i]) ?_
      exact (ih (i + 1) _ _ _ _ hR2 (by omega)).mono (fun r h2 q => RP_fr F2 q)
set_option maxHeartbeats 4000000 in
set_option maxRecDepth 100000 in
theorem R_readNested (hR : CR cI cA L N0 s) {l : Int32} {rec : RS → Ex (Int32 × RS)} (hrec : ∀ cI cA s, CR cI cA L N0 s → EvP m_R_readType (d + 6) 0 [(0, .ref 13), (1, .int (l + 1))] [] (HC X cI cA rI rA ol J) (RP X cI cA rI rA ol J L N0 (rec s))) : EvP m_R_readNested (d + 10) 0 [(0, .ref 13), (1, .int l)] [] (HC X cI cA rI rA ol J) (RP X cI cA rI rA ol J L N0 (rNest L rec s)) := by
  refine ep_aload_n (j := 0) d_R_readNested_0 rfl rfl ?_
  refine ep_bipush (v := 78) d_R_readNested_1 (by decide) ?_
  refine ep_callVq (As := [.int 78]) (st := []) d_R_readNested_3 lk_R_33 cal_R_pass tm_R_pass ts_R_pass rfl rfl rfl (Nat.le_of_ble_eq_true rfl) (Nat.le_of_ble_eq_true rfl) rfl rfl (R_pass hR 78 (by decide)) (fun q1 cI1 cA1 e1 hR1 f1 => ?_) (fun k cI1 cA1 s1 e1 hR1 f1 => RP_x (Fr2.trans Fr2.rfl' f1) (by first | (simp [rNest, bnd_i, bnd_x, e1]; done) | simp_all [rNest, bnd_i, bnd_x]) hR1)
  have F1 := Fr2.trans Fr2.rfl' f1
  refine ep_aload_n (j := 0) d_R_readNested_6 rfl rfl ?_
  refine ep_callVq (As := []) (st := []) d_R_readNested_7 lk_R_131 cal_R_readNestedStart tm_R_readNestedStart ts_R_readNestedStart rfl rfl rfl (Nat.le_of_ble_eq_true rfl) (Nat.le_of_ble_eq_true rfl) rfl rfl (R_readNestedStart hR1) (fun q2 cI2 cA2 e2 hR2 f2 => ?_) (fun k cI2 cA2 s2 e2 hR2 f2 => RP_x (Fr2.trans F1 f2) (by first | (simp [rNest, bnd_i, bnd_x, e1, e2]; done) | simp_all [rNest, bnd_i, bnd_x]) hR2)
  have F2 := Fr2.trans F1 f2
  refine ep_istore_n (lv' := [(0, .ref 13), (1, .int l), (2, .int q2.1)]) [1, 2, 0] d_R_readNested_10 rfl (by decide) rfl ?_
  refine ep_aload_n (j := 0) d_R_readNested_11 rfl rfl ?_
  refine ep_iload_n (j := 2) d_R_readNested_12 rfl rfl ?_
  refine ep_iload_n (j := 1) d_R_readNested_13 rfl rfl ?_
  refine ep_callVq (As := [.int q2.1, .int l]) (st := []) d_R_readNested_14 lk_R_134 cal_R_readNestedStep tm_R_readNestedStep ts_R_readNestedStep rfl rfl rfl (Nat.le_of_ble_eq_true rfl) (Nat.le_of_ble_eq_true rfl) rfl rfl ((R_readNestedStep hR2 hrec q2.1).up (by omega)) (fun q3 cI3 cA3 e3 hR3 f3 => ?_) (fun k cI3 cA3 s3 e3 hR3 f3 => RP_x (Fr2.trans F2 f3) (by first | (simp [rNest, bnd_i, bnd_x, e1, e2, e3]; done) | simp_all [rNest, bnd_i, bnd_x]) hR3)
  have F3 := Fr2.trans F2 f3
  refine ep_istore_n (lv' := [(0, .ref 13), (1, .int l), (2, .int q3.1)]) [1, 2, 0] d_R_readNested_17 rfl (by decide) rfl ?_
  refine ep_iconst (v := 1) d_R_readNested_18 (by decide) ?_
  refine ep_istore_n (lv' := [(0, .ref 13), (1, .int l), (2, .int q3.1), (3, .int 1)]) [1, 2, 3, 0] d_R_readNested_19 rfl (by decide) rfl ?_
  refine ep_res (res' := bnd (rSteps L rec 119 q3.1 q3.2) fun c => rNestE L c.1 c.2) (by simp [rNest, rNestE, bnd_i, e1, e2, e3]) ?_
  exact (R_nest_l hrec 119 1 _ _ _ _ hR3 (by omega)).mono (fun r h2 q => RP_fr F3 q)
set_option maxHeartbeats 4000000 in
set_option maxRecDepth 100000 in
theorem R_readScoped (hR : CR cI cA L N0 s) {l : Int32} {rec : RS → Ex (Int32 × RS)} (hrec : ∀ cI cA s, CR cI cA L N0 s → EvP m_R_readType (d + 6) 0 [(0, .ref 13), (1, .int (l + 1))] [] (HC X cI cA rI rA ol J) (RP X cI cA rI rA ol J L N0 (rec s))) : EvP m_R_readScoped (d + 11) 0 [(0, .ref 13), (1, .int l)] [] (HC X cI cA rI rA ol J) (RP X cI cA rI rA ol J L N0 (rScop L rec s)) := by
  refine ep_aload_n (j := 0) d_R_readScoped_0 rfl rfl ?_
  refine ep_callVi (As := []) (st := []) d_R_readScoped_1 lk_R_55 cal_R_next tm_R_next ts_R_next rfl rfl rfl (Nat.le_of_ble_eq_true rfl) (Nat.le_of_ble_eq_true rfl) rfl rfl (R_next hR) ?_
  refine ep_bipush (v := 78) d_R_readScoped_4 (by decide) ?_
  refine ep_icmp_ne (tgt := 15) d_R_readScoped_6 (by decide) (fun c6 => ?_) (fun c6 => ?_)
  · refine ep_aload_n (j := 0) d_R_readScoped_15 rfl rfl ?_
    refine ep_getf (fi := 1) (v := .ref 2) d_R_readScoped_16 cl1 lf_R_18 (by decide) rfl rfl ?_
    refine ep_aload_n (j := 0) d_R_readScoped_19 rfl rfl ?_
    refine ep_callVq (As := []) (st := [.ref 2]) d_R_readScoped_20 lk_R_125 cal_R_readId tm_R_readId ts_R_readId rfl rfl rfl (Nat.le_of_ble_eq_true rfl) (Nat.le_of_ble_eq_true rfl) rfl rfl (R_readId hR) (fun q1 cI1 cA1 e1 hR1 f1 => ?_) (fun k cI1 cA1 s1 e1 hR1 f1 => RP_x (Fr2.trans Fr2.rfl' f1) (by first | (simp [rScop, bnd_i, bnd_x, c6, e1]; done) | simp_all [rScop, bnd_i, bnd_x]) hR1)
    have F1 := Fr2.trans Fr2.rfl' f1
    refine ep_callVq (As := [.int q1.1]) (st := []) d_R_readScoped_23 lk_R_128 cal_D_addName tm_D_addName ts_D_addName rfl rfl rfl (Nat.le_of_ble_eq_true rfl) (Nat.le_of_ble_eq_true rfl) rfl rfl (RA_Name hR1 q1.1) (fun q2 cI2 cA2 e2 hR2 f2 => ?_) (fun k cI2 cA2 s2 e2 hR2 f2 => RP_x (Fr2.trans F1 f2) (by first | (simp [rScop, bnd_i, bnd_x, c6, e1, e2]; done) | simp_all [rScop, bnd_i, bnd_x]) hR2)
    have F2 := Fr2.trans F1 f2
    refine ep_istore_n (lv' := [(0, .ref 13), (1, .int l), (2, .int q2.1)]) [1, 2, 0] d_R_readScoped_26 rfl (by decide) rfl ?_
    refine ep_aload_n (j := 0) d_R_readScoped_27 rfl rfl ?_
    refine ep_callVi (As := []) (st := []) d_R_readScoped_28 lk_R_55 cal_R_next tm_R_next ts_R_next rfl rfl rfl (Nat.le_of_ble_eq_true rfl) (Nat.le_of_ble_eq_true rfl) rfl rfl (R_next hR2) ?_
    refine ep_bipush (v := 73) d_R_readScoped_31 (by decide) ?_
    refine ep_icmp_eq (tgt := 38) d_R_readScoped_33 (by decide) (fun c33 => ?_) (fun c33 => ?_)
    · refine ep_aload_n (j := 0) d_R_readScoped_38 rfl rfl ?_
      refine ep_getf (fi := 0) (v := .ref 14) d_R_readScoped_39 cl1 lf_R_12 (by decide) rfl rfl ?_
      refine ep_iload_n (j := 2) d_R_readScoped_42 rfl rfl ?_
      refine ep_callVt (As := [.int q2.1]) (st := []) d_R_readScoped_43 lk_R_89 cal_W_add tm_W_add ts_W_add rfl rfl rfl (Nat.le_of_ble_eq_true rfl) (Nat.le_of_ble_eq_true rfl) rfl rfl (T_add hR2 q2.1) (fun b3 cI3 cA3 hR3 f3 => ?_)
      have F3 := Fr2.trans F2 f3
      refine ep_pop d_R_readScoped_46 rfl ?_
      refine ep_aload_n (j := 0) d_R_readScoped_47 rfl rfl ?_
      refine ep_iload_n (j := 2) d_R_readScoped_48 rfl rfl ?_
      refine ep_iload_n (j := 1) d_R_readScoped_49 rfl rfl ?_
      refine ep_callVq (As := [.int q2.1, .int l]) (st := []) d_R_readScoped_50 lk_R_96 cal_R_readFilled tm_R_readFilled ts_R_readFilled rfl rfl rfl (Nat.le_of_ble_eq_true rfl) (Nat.le_of_ble_eq_true rfl) rfl rfl ((R_readFilled hR3 hrec q2.1).up (by omega)) (fun q4 cI4 cA4 e4 hR4 f4 => ?_) (fun k cI4 cA4 s4 e4 hR4 f4 => RP_x (Fr2.trans F3 f4) (by first | (simp [rScop, bnd_i, bnd_x, c6, e1, e2, c33, e4]; done) | simp_all [rScop, bnd_i, bnd_x]) hR4)
      have F4 := Fr2.trans F3 f4
      exact ep_iret d_R_readScoped_53 rfl rfl (RP_ok (f := fun q : Int32 × RS => some (.int q.1)) (q := (q4.1, q4.2)) F4 (by first | (simp [rScop, bnd_i, bnd_x, c6, e1, e2, c33, e4]; done) | simp_all [rScop, bnd_i, bnd_x]) hR4)
    · refine ep_iload_n (j := 2) d_R_readScoped_36 rfl rfl ?_
      exact ep_iret d_R_readScoped_37 rfl rfl (RP_ok (f := fun q : Int32 × RS => some (.int q.1)) (q := (q2.1, q2.2)) F2 (by first | (simp [rScop, bnd_i, bnd_x, c6, e1, e2, c33]; done) | simp_all [rScop, bnd_i, bnd_x]) hR2)
  · refine ep_aload_n (j := 0) d_R_readScoped_9 rfl rfl ?_
    refine ep_iload_n (j := 1) d_R_readScoped_10 rfl rfl ?_
    refine ep_callVq (As := [.int l]) (st := []) d_R_readScoped_11 lk_R_122 cal_R_readNested tm_R_readNested ts_R_readNested rfl rfl rfl (Nat.le_of_ble_eq_true rfl) (Nat.le_of_ble_eq_true rfl) rfl rfl ((R_readNested hR hrec).up (by omega)) (fun q5 cI5 cA5 e5 hR5 f5 => ?_) (fun k cI5 cA5 s5 e5 hR5 f5 => RP_x (Fr2.trans Fr2.rfl' f5) (by first | (simp [rScop, bnd_i, bnd_x, c6, e5]; done) | simp_all [rScop, bnd_i, bnd_x]) hR5)
    have F5 := Fr2.trans Fr2.rfl' f5
    exact ep_iret d_R_readScoped_14 rfl rfl (RP_ok (f := fun q : Int32 × RS => some (.int q.1)) (q := (q5.1, q5.2)) F5 (by first | (simp [rScop, bnd_i, bnd_x, c6, e5]; done) | simp_all [rScop, bnd_i, bnd_x]) hR5)
set_option maxHeartbeats 4000000 in
set_option maxRecDepth 100000 in
theorem R_readWrapped (hR : CR cI cA L N0 s) {l : Int32} {rec : RS → Ex (Int32 × RS)} (hrec : ∀ cI cA s, CR cI cA L N0 s → EvP m_R_readType (d + 6) 0 [(0, .ref 13), (1, .int (l + 1))] [] (HC X cI cA rI rA ol J) (RP X cI cA rI rA ol J L N0 (rec s))) (k : Int32) (hlt : s.2.2 < L.length) : EvP m_R_readWrapped (d + 7) 0 [(0, .ref 13), (1, .int k), (2, .int l)] [] (HC X cI cA rI rA ol J) (RP X cI cA rI rA ol J L N0 (rWrap rec k s)) := by
  refine ep_adv (o := 0) (s := s) d_R_readWrapped_0 d_R_readWrapped_1 d_R_readWrapped_2 d_R_readWrapped_5 d_R_readWrapped_6 d_R_readWrapped_7 rfl rfl hR hlt (fun cI1 hR1 f1 => ?_)
  have F1 := Fr2.trans Fr2.rfl' f1
  refine ep_aload_n (j := 0) d_R_readWrapped_10 rfl rfl ?_
  refine ep_getf (fi := 1) (v := .ref 2) d_R_readWrapped_11 cl1 lf_R_18 (by decide) rfl rfl ?_
  refine ep_iload_n (j := 1) d_R_readWrapped_14 rfl rfl ?_
  refine ep_aload_n (j := 0) d_R_readWrapped_15 rfl rfl ?_
  refine ep_iload_n (j := 2) d_R_readWrapped_16 rfl rfl ?_
  refine ep_iconst (v := 1) d_R_readWrapped_17 (by decide) ?_
  refine ep_iadd d_R_readWrapped_18 ?_
  refine ep_callVq (As := [.int (l + 1)]) (st := [.int k, .ref 2]) d_R_readWrapped_19 lk_R_45 cal_R_readType tm_R_readType ts_R_readType rfl rfl rfl (Nat.le_of_ble_eq_true rfl) (Nat.le_of_ble_eq_true rfl) rfl rfl ((hrec _ _ _ hR1).up (by omega)) (fun q2 cI2 cA2 e2 hR2 f2 => ?_) (fun k cI2 cA2 s2 e2 hR2 f2 => RP_x (Fr2.trans F1 f2) (by first | (simp [rWrap, bnd_i, bnd_x, e2]; done) | simp_all [rWrap, bnd_i, bnd_x]) hR2)
  have F2 := Fr2.trans F1 f2
  refine ep_callVq (As := [.int k, .int q2.1]) (st := []) d_R_readWrapped_22 lk_R_109 cal_D_addWrapped tm_D_addWrapped ts_D_addWrapped rfl rfl rfl (Nat.le_of_ble_eq_true rfl) (Nat.le_of_ble_eq_true rfl) rfl rfl (RA_Wrapped hR2 k q2.1) (fun q3 cI3 cA3 e3 hR3 f3 => ?_) (fun k cI3 cA3 s3 e3 hR3 f3 => RP_x (Fr2.trans F2 f3) (by first | (simp [rWrap, bnd_i, bnd_x, e2, e3]; done) | simp_all [rWrap, bnd_i, bnd_x]) hR3)
  have F3 := Fr2.trans F2 f3
  exact ep_iret d_R_readWrapped_25 rfl rfl (RP_ok (f := fun q : Int32 × RS => some (.int q.1)) (q := (q3.1, q3.2)) F3 (by first | (simp [rWrap, bnd_i, bnd_x, e2, e3]; done) | simp_all [rWrap, bnd_i, bnd_x]) hR3)
set_option maxHeartbeats 4000000 in
set_option maxRecDepth 100000 in
theorem R_readArray (hR : CR cI cA L N0 s) {l : Int32} {rec : RS → Ex (Int32 × RS)} (hrec : ∀ cI cA s, CR cI cA L N0 s → EvP m_R_readType (d + 6) 0 [(0, .ref 13), (1, .int (l + 1))] [] (HC X cI cA rI rA ol J) (RP X cI cA rI rA ol J L N0 (rec s))) : EvP m_R_readArray (d + 7) 0 [(0, .ref 13), (1, .int l)] [] (HC X cI cA rI rA ol J) (RP X cI cA rI rA ol J L N0 (rArr L rec s)) := by
  refine ep_aload_n (j := 0) d_R_readArray_0 rfl rfl ?_
  refine ep_bipush (v := 65) d_R_readArray_1 (by decide) ?_
  refine ep_callVq (As := [.int 65]) (st := []) d_R_readArray_3 lk_R_33 cal_R_pass tm_R_pass ts_R_pass rfl rfl rfl (Nat.le_of_ble_eq_true rfl) (Nat.le_of_ble_eq_true rfl) rfl rfl (R_pass hR 65 (by decide)) (fun q1 cI1 cA1 e1 hR1 f1 => ?_) (fun k cI1 cA1 s1 e1 hR1 f1 => RP_x (Fr2.trans Fr2.rfl' f1) (by first | (simp [rArr, bnd_i, bnd_x, e1]; done) | simp_all [rArr, bnd_i, bnd_x]) hR1)
  have F1 := Fr2.trans Fr2.rfl' f1
  refine ep_aload_n (j := 0) d_R_readArray_6 rfl rfl ?_
  refine ep_bipush (v := 10) d_R_readArray_7 (by decide) ?_
  refine ep_iconst (v := 3) d_R_readArray_9 (by decide) ?_
  refine ep_callVq (As := [.int 10, .int 3]) (st := []) d_R_readArray_10 lk_R_112 cal_R_readNumber tm_R_readNumber ts_R_readNumber rfl rfl rfl (Nat.le_of_ble_eq_true rfl) (Nat.le_of_ble_eq_true rfl) rfl rfl (R_readNumber hR1 10 3 (m := 3) (by decide +kernel) (by decide)) (fun q2 cI2 cA2 e2 hR2 f2 => ?_) (fun k cI2 cA2 s2 e2 hR2 f2 => RP_x (Fr2.trans F1 f2) (by first | (simp [rArr, bnd_i, bnd_x, e1, e2]; done) | simp_all [rArr, bnd_i, bnd_x]) hR2)
  have F2 := Fr2.trans F1 f2
  refine ep_istore_n (lv' := [(0, .ref 13), (1, .int l), (2, .int q2.1)]) [1, 2, 0] d_R_readArray_13 rfl (by decide) rfl ?_
  refine ep_aload_n (j := 0) d_R_readArray_14 rfl rfl ?_
  refine ep_bipush (v := 95) d_R_readArray_15 (by decide) ?_
  refine ep_callVq (As := [.int 95]) (st := []) d_R_readArray_17 lk_R_33 cal_R_pass tm_R_pass ts_R_pass rfl rfl rfl (Nat.le_of_ble_eq_true rfl) (Nat.le_of_ble_eq_true rfl) rfl rfl (R_pass hR2 95 (by decide)) (fun q3 cI3 cA3 e3 hR3 f3 => ?_) (fun k cI3 cA3 s3 e3 hR3 f3 => RP_x (Fr2.trans F2 f3) (by first | (simp [rArr, bnd_i, bnd_x, e1, e2, e3]; done) | simp_all [rArr, bnd_i, bnd_x]) hR3)
  have F3 := Fr2.trans F2 f3
  refine ep_aload_n (j := 0) d_R_readArray_20 rfl rfl ?_
  refine ep_getf (fi := 1) (v := .ref 2) d_R_readArray_21 cl1 lf_R_18 (by decide) rfl rfl ?_
  refine ep_aload_n (j := 0) d_R_readArray_24 rfl rfl ?_
  refine ep_iload_n (j := 1) d_R_readArray_25 rfl rfl ?_
  refine ep_iconst (v := 1) d_R_readArray_26 (by decide) ?_
  refine ep_iadd d_R_readArray_27 ?_
  refine ep_callVq (As := [.int (l + 1)]) (st := [.ref 2]) d_R_readArray_28 lk_R_45 cal_R_readType tm_R_readType ts_R_readType rfl rfl rfl (Nat.le_of_ble_eq_true rfl) (Nat.le_of_ble_eq_true rfl) rfl rfl ((hrec _ _ _ hR3).up (by omega)) (fun q4 cI4 cA4 e4 hR4 f4 => ?_) (fun k cI4 cA4 s4 e4 hR4 f4 => RP_x (Fr2.trans F3 f4) (by first | (simp [rArr, bnd_i, bnd_x, e1, e2, e3, e4]; done) | simp_all [rArr, bnd_i, bnd_x]) hR4)
  have F4 := Fr2.trans F3 f4
  refine ep_iload_n (j := 2) d_R_readArray_31 rfl rfl ?_
  refine ep_callVq (As := [.int q4.1, .int q2.1]) (st := []) d_R_readArray_32 lk_R_115 cal_D_addArray tm_D_addArray ts_D_addArray rfl rfl rfl (Nat.le_of_ble_eq_true rfl) (Nat.le_of_ble_eq_true rfl) rfl rfl (RA_Array hR4 q4.1 q2.1) (fun q5 cI5 cA5 e5 hR5 f5 => ?_) (fun k cI5 cA5 s5 e5 hR5 f5 => RP_x (Fr2.trans F4 f5) (by first | (simp [rArr, bnd_i, bnd_x, e1, e2, e3, e4, e5]; done) | simp_all [rArr, bnd_i, bnd_x]) hR5)
  have F5 := Fr2.trans F4 f5
  exact ep_iret d_R_readArray_35 rfl rfl (RP_ok (f := fun q : Int32 × RS => some (.int q.1)) (q := (q5.1, q5.2)) F5 (by first | (simp [rArr, bnd_i, bnd_x, e1, e2, e3, e4, e5]; done) | simp_all [rArr, bnd_i, bnd_x]) hR5)
set_option maxHeartbeats 4000000 in
set_option maxRecDepth 100000 in
theorem R_readFirstParameter (hR : CR cI cA L N0 s) {l : Int32} {rec : RS → Ex (Int32 × RS)} (hrec : ∀ cI cA s, CR cI cA L N0 s → EvP m_R_readType (d + 6) 0 [(0, .ref 13), (1, .int l)] [] (HC X cI cA rI rA ol J) (RP X cI cA rI rA ol J L N0 (rec s))) : EvP m_R_readFirstParameter (d + 7) 0 [(0, .ref 13), (1, .int l)] [] (HC X cI cA rI rA ol J) (RP X cI cA rI rA ol J L N0 (rFirst L rec s)) := by
  refine ep_aload_n (j := 0) d_R_readFirstParameter_0 rfl rfl ?_
  refine ep_callVi (As := []) (st := []) d_R_readFirstParameter_1 lk_R_55 cal_R_next tm_R_next ts_R_next rfl rfl rfl (Nat.le_of_ble_eq_true rfl) (Nat.le_of_ble_eq_true rfl) rfl rfl (R_next hR) ?_
  refine ep_bipush (v := 118) d_R_readFirstParameter_4 (by decide) ?_
  refine ep_icmp_ne (tgt := 21) d_R_readFirstParameter_6 (by decide) (fun c6 => ?_) (fun c6 => ?_)
  · refine ep_aload_n (j := 0) d_R_readFirstParameter_21 rfl rfl ?_
    refine ep_iload_n (j := 1) d_R_readFirstParameter_22 rfl rfl ?_
    refine ep_callVq (As := [.int l]) (st := []) d_R_readFirstParameter_23 lk_R_45 cal_R_readType tm_R_readType ts_R_readType rfl rfl rfl (Nat.le_of_ble_eq_true rfl) (Nat.le_of_ble_eq_true rfl) rfl rfl ((hrec _ _ _ hR).up (by omega)) (fun q1 cI1 cA1 e1 hR1 f1 => ?_) (fun k cI1 cA1 s1 e1 hR1 f1 => RP_x (Fr2.trans Fr2.rfl' f1) (by first | (simp [rFirst, bnd_i, bnd_x, c6, e1]; done) | simp_all [rFirst, bnd_i, bnd_x]) hR1)
    have F1 := Fr2.trans Fr2.rfl' f1
    exact ep_iret d_R_readFirstParameter_26 rfl rfl (RP_ok (f := fun q : Int32 × RS => some (.int q.1)) (q := (q1.1, q1.2)) F1 (by first | (simp [rFirst, bnd_i, bnd_x, c6, e1]; done) | simp_all [rFirst, bnd_i, bnd_x]) hR1)
  · refine ep_adv (o := 0) (s := s) d_R_readFirstParameter_9 d_R_readFirstParameter_10 d_R_readFirstParameter_11 d_R_readFirstParameter_14 d_R_readFirstParameter_15 d_R_readFirstParameter_16 rfl rfl hR (nxt_lt (fun z => by rw [z] at c6; revert c6; decide)) (fun cI2 hR2 f2 => ?_)
    have F2 := Fr2.trans Fr2.rfl' f2
    refine ep_iconst (v := (-1)) d_R_readFirstParameter_19 (by decide) ?_
    exact ep_iret d_R_readFirstParameter_20 rfl rfl (RP_ok (f := fun q : Int32 × RS => some (.int q.1)) (q := ((-1), adv s)) F2 (by first | (simp [rFirst, bnd_i, bnd_x, c6]; done) | simp_all [rFirst, bnd_i, bnd_x]) hR2)
set_option maxHeartbeats 4000000 in
set_option maxRecDepth 100000 in
theorem R_readNextParameter (hR : CR cI cA L N0 s) {l : Int32} {rec : RS → Ex (Int32 × RS)} (hrec : ∀ cI cA s, CR cI cA L N0 s → EvP m_R_readType (d + 6) 0 [(0, .ref 13), (1, .int l)] [] (HC X cI cA rI rA ol J) (RP X cI cA rI rA ol J L N0 (rec s))) (b e : Int32) : EvP m_R_readNextParameter (d + 7) 0 [(0, .ref 13), (1, .int b), (2, .int e), (3, .int l)] [] (HC X cI cA rI rA ol J) (RP X cI cA rI rA ol J L N0 (rNext L rec b e s)) := by
  refine ep_iload_n (j := 1) d_R_readNextParameter_0 rfl rfl ?_
  refine ep_iconst (v := (-1)) d_R_readNextParameter_1 (by decide) ?_
  refine ep_icmp_eq (tgt := 13) d_R_readNextParameter_2 (by decide) (fun c2 => ?_) (fun c2 => ?_)
  · refine ep_iconst (v := (-1)) d_R_readNextParameter_13 (by decide) ?_
    refine ep_goto (tgt := 22) d_R_readNextParameter_14 (by decide) ?_
    exact ep_iret d_R_readNextParameter_22 rfl rfl (RP_ok (f := fun q : Int32 × RS => some (.int q.1)) (q := ((-1), s)) Fr2.rfl' (by first | (simp [rNext, bnd_i, bnd_x, c2]; done) | simp_all [rNext, bnd_i, bnd_x]) hR)
  · refine ep_aload_n (j := 0) d_R_readNextParameter_5 rfl rfl ?_
    refine ep_callVi (As := []) (st := []) d_R_readNextParameter_6 lk_R_55 cal_R_next tm_R_next ts_R_next rfl rfl rfl (Nat.le_of_ble_eq_true rfl) (Nat.le_of_ble_eq_true rfl) rfl rfl (R_next hR) ?_
    refine ep_iload_n (j := 2) d_R_readNextParameter_9 rfl rfl ?_
    refine ep_icmp_ne (tgt := 17) d_R_readNextParameter_10 (by decide) (fun c10 => ?_) (fun c10 => ?_)
    · refine ep_aload_n (j := 0) d_R_readNextParameter_17 rfl rfl ?_
      refine ep_iload_n (j := 3) d_R_readNextParameter_18 rfl rfl ?_
      refine ep_callVq (As := [.int l]) (st := []) d_R_readNextParameter_19 lk_R_45 cal_R_readType tm_R_readType ts_R_readType rfl rfl rfl (Nat.le_of_ble_eq_true rfl) (Nat.le_of_ble_eq_true rfl) rfl rfl ((hrec _ _ _ hR).up (by omega)) (fun q1 cI1 cA1 e1 hR1 f1 => ?_) (fun k cI1 cA1 s1 e1 hR1 f1 => RP_x (Fr2.trans Fr2.rfl' f1) (by first | (simp [rNext, bnd_i, bnd_x, c2, c10, e1]; done) | simp_all [rNext, bnd_i, bnd_x]) hR1)
      have F1 := Fr2.trans Fr2.rfl' f1
      exact ep_iret d_R_readNextParameter_22 rfl rfl (RP_ok (f := fun q : Int32 × RS => some (.int q.1)) (q := (q1.1, q1.2)) F1 (by first | (simp [rNext, bnd_i, bnd_x, c2, c10, e1]; done) | simp_all [rNext, bnd_i, bnd_x]) hR1)
    · refine ep_iconst (v := (-1)) d_R_readNextParameter_13 (by decide) ?_
      refine ep_goto (tgt := 22) d_R_readNextParameter_14 (by decide) ?_
      exact ep_iret d_R_readNextParameter_22 rfl rfl (RP_ok (f := fun q : Int32 × RS => some (.int q.1)) (q := ((-1), s)) Fr2.rfl' (by first | (simp [rNext, bnd_i, bnd_x, c2, c10]; done) | simp_all [rNext, bnd_i, bnd_x]) hR)
set_option maxHeartbeats 4000000 in
set_option maxRecDepth 100000 in
theorem R_readFunction (hR : CR cI cA L N0 s) {l : Int32} {rec : RS → Ex (Int32 × RS)} (hrec : ∀ cI cA s, CR cI cA L N0 s → EvP m_R_readType (d + 6) 0 [(0, .ref 13), (1, .int (l + 1))] [] (HC X cI cA rI rA ol J) (RP X cI cA rI rA ol J L N0 (rec s))) : EvP m_R_readFunction (d + 8) 0 [(0, .ref 13), (1, .int l)] [] (HC X cI cA rI rA ol J) (RP X cI cA rI rA ol J L N0 (rFun L rec s)) := by
  refine ep_aload_n (j := 0) d_R_readFunction_0 rfl rfl ?_
  refine ep_bipush (v := 70) d_R_readFunction_1 (by decide) ?_
  refine ep_callVq (As := [.int 70]) (st := []) d_R_readFunction_3 lk_R_33 cal_R_pass tm_R_pass ts_R_pass rfl rfl rfl (Nat.le_of_ble_eq_true rfl) (Nat.le_of_ble_eq_true rfl) rfl rfl (R_pass hR 70 (by decide)) (fun q1 cI1 cA1 e1 hR1 f1 => ?_) (fun k cI1 cA1 s1 e1 hR1 f1 => RP_x (Fr2.trans Fr2.rfl' f1) (by first | (simp [rFun, bnd_i, bnd_x, e1]; done) | simp_all [rFun, bnd_i, bnd_x]) hR1)
  have F1 := Fr2.trans Fr2.rfl' f1
  refine ep_aload_n (j := 0) d_R_readFunction_6 rfl rfl ?_
  refine ep_iload_n (j := 1) d_R_readFunction_7 rfl rfl ?_
  refine ep_iconst (v := 1) d_R_readFunction_8 (by decide) ?_
  refine ep_iadd d_R_readFunction_9 ?_
  refine ep_callVq (As := [.int (l + 1)]) (st := []) d_R_readFunction_10 lk_R_45 cal_R_readType tm_R_readType ts_R_readType rfl rfl rfl (Nat.le_of_ble_eq_true rfl) (Nat.le_of_ble_eq_true rfl) rfl rfl ((hrec _ _ _ hR1).up (by omega)) (fun q2 cI2 cA2 e2 hR2 f2 => ?_) (fun k cI2 cA2 s2 e2 hR2 f2 => RP_x (Fr2.trans F1 f2) (by first | (simp [rFun, bnd_i, bnd_x, e1, e2]; done) | simp_all [rFun, bnd_i, bnd_x]) hR2)
  have F2 := Fr2.trans F1 f2
  refine ep_istore_n (lv' := [(0, .ref 13), (1, .int l), (2, .int q2.1)]) [1, 2, 0] d_R_readFunction_13 rfl (by decide) rfl ?_
  refine ep_aload_n (j := 0) d_R_readFunction_14 rfl rfl ?_
  refine ep_iload_n (j := 1) d_R_readFunction_15 rfl rfl ?_
  refine ep_iconst (v := 1) d_R_readFunction_16 (by decide) ?_
  refine ep_iadd d_R_readFunction_17 ?_
  refine ep_callVq (As := [.int (l + 1)]) (st := []) d_R_readFunction_18 lk_R_48 cal_R_readFirstParameter tm_R_readFirstParameter ts_R_readFirstParameter rfl rfl rfl (Nat.le_of_ble_eq_true rfl) (Nat.le_of_ble_eq_true rfl) rfl rfl ((R_readFirstParameter hR2 hrec).up (by omega)) (fun q3 cI3 cA3 e3 hR3 f3 => ?_) (fun k cI3 cA3 s3 e3 hR3 f3 => RP_x (Fr2.trans F2 f3) (by first | (simp [rFun, bnd_i, bnd_x, e1, e2, e3]; done) | simp_all [rFun, bnd_i, bnd_x]) hR3)
  have F3 := Fr2.trans F2 f3
  refine ep_istore_n (lv' := [(0, .ref 13), (1, .int l), (2, .int q2.1), (3, .int q3.1)]) [1, 2, 3, 0] d_R_readFunction_21 rfl (by decide) rfl ?_
  refine ep_aload_n (j := 0) d_R_readFunction_22 rfl rfl ?_
  refine ep_iload_n (j := 3) d_R_readFunction_23 rfl rfl ?_
  refine ep_bipush (v := 69) d_R_readFunction_24 (by decide) ?_
  refine ep_iload_n (j := 1) d_R_readFunction_26 rfl rfl ?_
  refine ep_iconst (v := 1) d_R_readFunction_27 (by decide) ?_
  refine ep_iadd d_R_readFunction_28 ?_
  refine ep_callVq (As := [.int q3.1, .int 69, .int (l + 1)]) (st := []) d_R_readFunction_29 lk_R_51 cal_R_readNextParameter tm_R_readNextParameter ts_R_readNextParameter rfl rfl rfl (Nat.le_of_ble_eq_true rfl) (Nat.le_of_ble_eq_true rfl) rfl rfl ((R_readNextParameter hR3 hrec q3.1 69).up (by omega)) (fun q4 cI4 cA4 e4 hR4 f4 => ?_) (fun k cI4 cA4 s4 e4 hR4 f4 => RP_x (Fr2.trans F3 f4) (by first | (simp [rFun, bnd_i, bnd_x, e1, e2, e3, e4]; done) | simp_all [rFun, bnd_i, bnd_x]) hR4)
  have F4 := Fr2.trans F3 f4
  refine ep_istore (lv' := [(0, .ref 13), (1, .int l), (2, .int q2.1), (3, .int q3.1), (4, .int q4.1)]) [1, 2, 3, 4, 0] d_R_readFunction_32 (by decide) rfl ?_
  refine ep_aload_n (j := 0) d_R_readFunction_34 rfl rfl ?_
  refine ep_iload (j := 4) d_R_readFunction_35 rfl ?_
  refine ep_bipush (v := 69) d_R_readFunction_37 (by decide) ?_
  refine ep_iload_n (j := 1) d_R_readFunction_39 rfl rfl ?_
  refine ep_iconst (v := 1) d_R_readFunction_40 (by decide) ?_
  refine ep_iadd d_R_readFunction_41 ?_
  refine ep_callVq (As := [.int q4.1, .int 69, .int (l + 1)]) (st := []) d_R_readFunction_42 lk_R_51 cal_R_readNextParameter tm_R_readNextParameter ts_R_readNextParameter rfl rfl rfl (Nat.le_of_ble_eq_true rfl) (Nat.le_of_ble_eq_true rfl) rfl rfl ((R_readNextParameter hR4 hrec q4.1 69).up (by omega)) (fun q5 cI5 cA5 e5 hR5 f5 => ?_) (fun k cI5 cA5 s5 e5 hR5 f5 => RP_x (Fr2.trans F4 f5) (by first | (simp [rFun, bnd_i, bnd_x, e1, e2, e3, e4, e5]; done) | simp_all [rFun, bnd_i, bnd_x]) hR5)
  have F5 := Fr2.trans F4 f5
  refine ep_istore (lv' := [(0, .ref 13), (1, .int l), (2, .int q2.1), (3, .int q3.1), (4, .int q4.1), (5, .int q5.1)]) [1, 2, 3, 4, 5, 0] d_R_readFunction_45 (by decide) rfl ?_
  refine ep_aload_n (j := 0) d_R_readFunction_47 rfl rfl ?_
  refine ep_bipush (v := 69) d_R_readFunction_48 (by decide) ?_
  refine ep_callVq (As := [.int 69]) (st := []) d_R_readFunction_50 lk_R_33 cal_R_pass tm_R_pass ts_R_pass rfl rfl rfl (Nat.le_of_ble_eq_true rfl) (Nat.le_of_ble_eq_true rfl) rfl rfl (R_pass hR5 69 (by decide)) (fun q6 cI6 cA6 e6 hR6 f6 => ?_) (fun k cI6 cA6 s6 e6 hR6 f6 => RP_x (Fr2.trans F5 f6) (by first | (simp [rFun, bnd_i, bnd_x, e1, e2, e3, e4, e5, e6]; done) | simp_all [rFun, bnd_i, bnd_x]) hR6)
  have F6 := Fr2.trans F5 f6
  refine ep_aload_n (j := 0) d_R_readFunction_53 rfl rfl ?_
  refine ep_getf (fi := 1) (v := .ref 2) d_R_readFunction_54 cl1 lf_R_18 (by decide) rfl rfl ?_
  refine ep_iload_n (j := 2) d_R_readFunction_57 rfl rfl ?_
  refine ep_iload_n (j := 3) d_R_readFunction_58 rfl rfl ?_
  refine ep_iload (j := 4) d_R_readFunction_59 rfl ?_
  refine ep_iload (j := 5) d_R_readFunction_61 rfl ?_
  refine ep_callVq (As := [.int q2.1, .int q3.1, .int q4.1, .int q5.1]) (st := []) d_R_readFunction_63 lk_R_118 cal_D_addFunction tm_D_addFunction ts_D_addFunction rfl rfl rfl (Nat.le_of_ble_eq_true rfl) (Nat.le_of_ble_eq_true rfl) rfl rfl (RA_Function hR6 q2.1 q3.1 q4.1 q5.1) (fun q7 cI7 cA7 e7 hR7 f7 => ?_) (fun k cI7 cA7 s7 e7 hR7 f7 => RP_x (Fr2.trans F6 f7) (by first | (simp [rFun, bnd_i, bnd_x, e1, e2, e3, e4, e5, e6, e7]; done) | simp_all [rFun, bnd_i, bnd_x]) hR7)
  have F7 := Fr2.trans F6 f7
  exact ep_iret d_R_readFunction_66 rfl rfl (RP_ok (f := fun q : Int32 × RS => some (.int q.1)) (q := (q7.1, q7.2)) F7 (by first | (simp [rFun, bnd_i, bnd_x, e1, e2, e3, e4, e5, e6, e7]; done) | simp_all [rFun, bnd_i, bnd_x]) hR7)
theorem ls_no5 {x : Int32} (h : ¬ x = 80 ∧ ¬ x = 82 ∧ ¬ x = 75 ∧ ¬ x = 65 ∧ ¬ x = 70) : Op.lookupswitch.offset [(65, 74), (70, 80), (75, 66), (80, 52), (82, 59)] 86 x.toInt = 86 := by
  have f : ∀ (y : Int32), ¬ x = y → ¬ x.toInt = y.toInt := fun y hy z => hy (Int32.toInt_inj.mp z)
  have h1 := f _ h.1
  have h2 := f _ h.2.1
  have h3 := f _ h.2.2.1
  have h4 := f _ h.2.2.2.1
  have h5 := f _ h.2.2.2.2
  have g1 : ¬ x.toInt = 80 := h1
  have g2 : ¬ x.toInt = 82 := h2
  have g3 : ¬ x.toInt = 75 := h3
  have g4 : ¬ x.toInt = 65 := h4
  have g5 : ¬ x.toInt = 70 := h5
  simp [Op.lookupswitch.offset, Ne.symm g1, Ne.symm g2, Ne.symm g3, Ne.symm g4, Ne.symm g5, g1, g2, g3, g4, g5]
set_option maxHeartbeats 4000000 in
set_option maxRecDepth 100000 in
theorem R_readUntold (hR : CR cI cA L N0 s) {l : Int32} {rec : RS → Ex (Int32 × RS)} (hrec : ∀ cI cA s, CR cI cA L N0 s → EvP m_R_readType (d + 6) 0 [(0, .ref 13), (1, .int (l + 1))] [] (HC X cI cA rI rA ol J) (RP X cI cA rI rA ol J L N0 (rec s))) : EvP m_R_readUntold (d + 12) 0 [(0, .ref 13), (1, .int l)] [] (HC X cI cA rI rA ol J) (RP X cI cA rI rA ol J L N0 (rUnt L rec s)) := by
  refine ep_aload_n (j := 0) d_R_readUntold_0 rfl rfl ?_
  refine ep_callVi (As := []) (st := []) d_R_readUntold_1 lk_R_55 cal_R_next tm_R_next ts_R_next rfl rfl rfl (Nat.le_of_ble_eq_true rfl) (Nat.le_of_ble_eq_true rfl) rfl rfl (R_next hR) ?_
  rcases (show nxt L s = 80 ∨ nxt L s = 82 ∨ nxt L s = 75 ∨ nxt L s = 65 ∨ nxt L s = 70 ∨ (¬ nxt L s = 80 ∧ ¬ nxt L s = 82 ∧ ¬ nxt L s = 75 ∧ ¬ nxt L s = 65 ∧ ¬ nxt L s = 70) by by_cases h1 : nxt L s = 80 <;> by_cases h2 : nxt L s = 82 <;> by_cases h3 : nxt L s = 75 <;> by_cases h4 : nxt L s = 65 <;> by_cases h5 : nxt L s = 70 <;> simp_all) with sw4 | sw4 | sw4 | sw4 | sw4 | sw4
  · refine ep_ls (tgt := 56) (off := 52) d_R_readUntold_4 (by decide) (by rw [sw4]; decide) (by decide) ?_
    refine ep_aload_n (j := 0) d_R_readUntold_56 rfl rfl ?_
    refine ep_iconst (v := 4) d_R_readUntold_57 (by decide) ?_
    refine ep_iload_n (j := 1) d_R_readUntold_58 rfl rfl ?_
    refine ep_callVq (As := [.int 4, .int l]) (st := []) d_R_readUntold_59 lk_R_100 cal_R_readWrapped tm_R_readWrapped ts_R_readWrapped rfl rfl rfl (Nat.le_of_ble_eq_true rfl) (Nat.le_of_ble_eq_true rfl) rfl rfl ((R_readWrapped hR hrec 4 (nxt_lt (fun z => by rw [sw4] at z; revert z; decide))).up (by omega)) (fun q1 cI1 cA1 e1 hR1 f1 => ?_) (fun k cI1 cA1 s1 e1 hR1 f1 => RP_x (Fr2.trans Fr2.rfl' f1) (by first | (simp [rUnt, bnd_i, bnd_x, sw4, e1]; done) | simp_all [rUnt, bnd_i, bnd_x]) hR1)
    have F1 := Fr2.trans Fr2.rfl' f1
    exact ep_iret d_R_readUntold_62 rfl rfl (RP_ok (f := fun q : Int32 × RS => some (.int q.1)) (q := (q1.1, q1.2)) F1 (by first | (simp [rUnt, bnd_i, bnd_x, sw4, e1]; done) | simp_all [rUnt, bnd_i, bnd_x]) hR1)
  · refine ep_ls (tgt := 63) (off := 59) d_R_readUntold_4 (by decide) (by rw [sw4]; decide) (by decide) ?_
    refine ep_aload_n (j := 0) d_R_readUntold_63 rfl rfl ?_
    refine ep_iconst (v := 5) d_R_readUntold_64 (by decide) ?_
    refine ep_iload_n (j := 1) d_R_readUntold_65 rfl rfl ?_
    refine ep_callVq (As := [.int 5, .int l]) (st := []) d_R_readUntold_66 lk_R_100 cal_R_readWrapped tm_R_readWrapped ts_R_readWrapped rfl rfl rfl (Nat.le_of_ble_eq_true rfl) (Nat.le_of_ble_eq_true rfl) rfl rfl ((R_readWrapped hR hrec 5 (nxt_lt (fun z => by rw [sw4] at z; revert z; decide))).up (by omega)) (fun q2 cI2 cA2 e2 hR2 f2 => ?_) (fun k cI2 cA2 s2 e2 hR2 f2 => RP_x (Fr2.trans Fr2.rfl' f2) (by first | (simp [rUnt, bnd_i, bnd_x, sw4, e2]; done) | simp_all [rUnt, bnd_i, bnd_x]) hR2)
    have F2 := Fr2.trans Fr2.rfl' f2
    exact ep_iret d_R_readUntold_69 rfl rfl (RP_ok (f := fun q : Int32 × RS => some (.int q.1)) (q := (q2.1, q2.2)) F2 (by first | (simp [rUnt, bnd_i, bnd_x, sw4, e2]; done) | simp_all [rUnt, bnd_i, bnd_x]) hR2)
  · refine ep_ls (tgt := 70) (off := 66) d_R_readUntold_4 (by decide) (by rw [sw4]; decide) (by decide) ?_
    refine ep_aload_n (j := 0) d_R_readUntold_70 rfl rfl ?_
    refine ep_bipush (v := 6) d_R_readUntold_71 (by decide) ?_
    refine ep_iload_n (j := 1) d_R_readUntold_73 rfl rfl ?_
    refine ep_callVq (As := [.int 6, .int l]) (st := []) d_R_readUntold_74 lk_R_100 cal_R_readWrapped tm_R_readWrapped ts_R_readWrapped rfl rfl rfl (Nat.le_of_ble_eq_true rfl) (Nat.le_of_ble_eq_true rfl) rfl rfl ((R_readWrapped hR hrec 6 (nxt_lt (fun z => by rw [sw4] at z; revert z; decide))).up (by omega)) (fun q3 cI3 cA3 e3 hR3 f3 => ?_) (fun k cI3 cA3 s3 e3 hR3 f3 => RP_x (Fr2.trans Fr2.rfl' f3) (by first | (simp [rUnt, bnd_i, bnd_x, sw4, e3]; done) | simp_all [rUnt, bnd_i, bnd_x]) hR3)
    have F3 := Fr2.trans Fr2.rfl' f3
    exact ep_iret d_R_readUntold_77 rfl rfl (RP_ok (f := fun q : Int32 × RS => some (.int q.1)) (q := (q3.1, q3.2)) F3 (by first | (simp [rUnt, bnd_i, bnd_x, sw4, e3]; done) | simp_all [rUnt, bnd_i, bnd_x]) hR3)
  · refine ep_ls (tgt := 78) (off := 74) d_R_readUntold_4 (by decide) (by rw [sw4]; decide) (by decide) ?_
    refine ep_aload_n (j := 0) d_R_readUntold_78 rfl rfl ?_
    refine ep_iload_n (j := 1) d_R_readUntold_79 rfl rfl ?_
    refine ep_callVq (As := [.int l]) (st := []) d_R_readUntold_80 lk_R_103 cal_R_readArray tm_R_readArray ts_R_readArray rfl rfl rfl (Nat.le_of_ble_eq_true rfl) (Nat.le_of_ble_eq_true rfl) rfl rfl ((R_readArray hR hrec).up (by omega)) (fun q4 cI4 cA4 e4 hR4 f4 => ?_) (fun k cI4 cA4 s4 e4 hR4 f4 => RP_x (Fr2.trans Fr2.rfl' f4) (by first | (simp [rUnt, bnd_i, bnd_x, sw4, e4]; done) | simp_all [rUnt, bnd_i, bnd_x]) hR4)
    have F4 := Fr2.trans Fr2.rfl' f4
    exact ep_iret d_R_readUntold_83 rfl rfl (RP_ok (f := fun q : Int32 × RS => some (.int q.1)) (q := (q4.1, q4.2)) F4 (by first | (simp [rUnt, bnd_i, bnd_x, sw4, e4]; done) | simp_all [rUnt, bnd_i, bnd_x]) hR4)
  · refine ep_ls (tgt := 84) (off := 80) d_R_readUntold_4 (by decide) (by rw [sw4]; decide) (by decide) ?_
    refine ep_aload_n (j := 0) d_R_readUntold_84 rfl rfl ?_
    refine ep_iload_n (j := 1) d_R_readUntold_85 rfl rfl ?_
    refine ep_callVq (As := [.int l]) (st := []) d_R_readUntold_86 lk_R_106 cal_R_readFunction tm_R_readFunction ts_R_readFunction rfl rfl rfl (Nat.le_of_ble_eq_true rfl) (Nat.le_of_ble_eq_true rfl) rfl rfl ((R_readFunction hR hrec).up (by omega)) (fun q5 cI5 cA5 e5 hR5 f5 => ?_) (fun k cI5 cA5 s5 e5 hR5 f5 => RP_x (Fr2.trans Fr2.rfl' f5) (by first | (simp [rUnt, bnd_i, bnd_x, sw4, e5]; done) | simp_all [rUnt, bnd_i, bnd_x]) hR5)
    have F5 := Fr2.trans Fr2.rfl' f5
    exact ep_iret d_R_readUntold_89 rfl rfl (RP_ok (f := fun q : Int32 × RS => some (.int q.1)) (q := (q5.1, q5.2)) F5 (by first | (simp [rUnt, bnd_i, bnd_x, sw4, e5]; done) | simp_all [rUnt, bnd_i, bnd_x]) hR5)
  · refine ep_ls (tgt := 90) (off := 86) d_R_readUntold_4 (by decide) (ls_no5 sw4) (by decide) ?_
    refine ep_aload_n (j := 0) d_R_readUntold_90 rfl rfl ?_
    refine ep_iload_n (j := 1) d_R_readUntold_91 rfl rfl ?_
    refine ep_callVq (As := [.int l]) (st := []) d_R_readUntold_92 lk_R_36 cal_R_readScoped tm_R_readScoped ts_R_readScoped rfl rfl rfl (Nat.le_of_ble_eq_true rfl) (Nat.le_of_ble_eq_true rfl) rfl rfl ((R_readScoped hR hrec).up (by omega)) (fun q6 cI6 cA6 e6 hR6 f6 => ?_) (fun k cI6 cA6 s6 e6 hR6 f6 => RP_x (Fr2.trans Fr2.rfl' f6) (by first | (simp [rUnt, bnd_i, bnd_x, sw4, e6]; done) | simp_all [rUnt, bnd_i, bnd_x]) hR6)
    have F6 := Fr2.trans Fr2.rfl' f6
    exact ep_iret d_R_readUntold_95 rfl rfl (RP_ok (f := fun q : Int32 × RS => some (.int q.1)) (q := (q6.1, q6.2)) F6 (by first | (simp [rUnt, bnd_i, bnd_x, sw4, e6]; done) | simp_all [rUnt, bnd_i, bnd_x]) hR6)
set_option maxHeartbeats 4000000 in
set_option maxRecDepth 100000 in
theorem R_readToldType (hR : CR cI cA L N0 s) {l : Int32} {rec : RS → Ex (Int32 × RS)} (hrec : ∀ cI cA s, CR cI cA L N0 s → EvP m_R_readType (d + 6) 0 [(0, .ref 13), (1, .int (l + 1))] [] (HC X cI cA rI rA ol J) (RP X cI cA rI rA ol J L N0 (rec s))) : EvP m_R_readToldType (d + 9) 0 [(0, .ref 13), (1, .int l)] [] (HC X cI cA rI rA ol J) (RP X cI cA rI rA ol J L N0 (rToT L rec s)) := by
  refine ep_aload_n (j := 0) d_R_readToldType_0 rfl rfl ?_
  refine ep_callVq (As := []) (st := []) d_R_readToldType_1 lk_R_93 cal_R_readTold tm_R_readTold ts_R_readTold rfl rfl rfl (Nat.le_of_ble_eq_true rfl) (Nat.le_of_ble_eq_true rfl) rfl rfl (R_readTold hR) (fun q1 cI1 cA1 e1 hR1 f1 => ?_) (fun k cI1 cA1 s1 e1 hR1 f1 => RP_x (Fr2.trans Fr2.rfl' f1) (by first | (simp [rToT, bnd_i, bnd_x, e1]; done) | simp_all [rToT, bnd_i, bnd_x]) hR1)
  have F1 := Fr2.trans Fr2.rfl' f1
  refine ep_istore_n (lv' := [(0, .ref 13), (1, .int l), (2, .int q1.1)]) [1, 2, 0] d_R_readToldType_4 rfl (by decide) rfl ?_
  refine ep_aload_n (j := 0) d_R_readToldType_5 rfl rfl ?_
  refine ep_callVi (As := []) (st := []) d_R_readToldType_6 lk_R_55 cal_R_next tm_R_next ts_R_next rfl rfl rfl (Nat.le_of_ble_eq_true rfl) (Nat.le_of_ble_eq_true rfl) rfl rfl (R_next hR1) ?_
  refine ep_bipush (v := 73) d_R_readToldType_9 (by decide) ?_
  refine ep_icmp_eq (tgt := 16) d_R_readToldType_11 (by decide) (fun c11 => ?_) (fun c11 => ?_)
  · refine ep_aload_n (j := 0) d_R_readToldType_16 rfl rfl ?_
    refine ep_getf (fi := 1) (v := .ref 2) d_R_readToldType_17 cl1 lf_R_18 (by decide) rfl rfl ?_
    refine ep_iload_n (j := 2) d_R_readToldType_20 rfl rfl ?_
    refine ep_callVi (As := [.int q1.1]) (st := []) d_R_readToldType_21 lk_R_40 cal_D_kindOf tm_D_kindOf ts_D_kindOf rfl rfl rfl (Nat.le_of_ble_eq_true rfl) (Nat.le_of_ble_eq_true rfl) rfl rfl (D_kindN hR1.1 _) ?_
    refine ep_iconst (v := 1) d_R_readToldType_24 (by decide) ?_
    refine ep_icmp_ne (tgt := 32) d_R_readToldType_25 (by decide) (fun c25 => ?_) (fun c25 => ?_)
    · refine ep_iconst (v := 0) d_R_readToldType_32 (by decide) ?_
      exact ep_callSX (As := [.int 0]) (st := []) d_R_readToldType_33 (Or.inl lk_R_59) cal_R_need tm_R_need ti_R rfl (Nat.le_of_ble_eq_true rfl) (Nat.le_of_ble_eq_true rfl) rfl rfl R_need0 (RP_x F1 (by first | (simp [rToT, bnd_i, bnd_x, e1, c11, c25]; done) | simp_all [rToT, bnd_i, bnd_x]) hR1)
    · refine ep_iconst (v := 1) d_R_readToldType_28 (by decide) ?_
      refine ep_goto (tgt := 33) d_R_readToldType_29 (by decide) ?_
      refine ep_callSv (As := [.int 1]) (st := []) d_R_readToldType_33 (Or.inl lk_R_59) cal_R_need tm_R_need ti_R rfl (Nat.le_of_ble_eq_true rfl) (Nat.le_of_ble_eq_true rfl) rfl rfl R_need1 ?_
      refine ep_aload_n (j := 0) d_R_readToldType_36 rfl rfl ?_
      refine ep_iload_n (j := 2) d_R_readToldType_37 rfl rfl ?_
      refine ep_iload_n (j := 1) d_R_readToldType_38 rfl rfl ?_
      refine ep_callVq (As := [.int q1.1, .int l]) (st := []) d_R_readToldType_39 lk_R_96 cal_R_readFilled tm_R_readFilled ts_R_readFilled rfl rfl rfl (Nat.le_of_ble_eq_true rfl) (Nat.le_of_ble_eq_true rfl) rfl rfl ((R_readFilled hR1 hrec q1.1).up (by omega)) (fun q2 cI2 cA2 e2 hR2 f2 => ?_) (fun k cI2 cA2 s2 e2 hR2 f2 => RP_x (Fr2.trans F1 f2) (by first | (simp [rToT, bnd_i, bnd_x, e1, c11, c25, e2]; done) | simp_all [rToT, bnd_i, bnd_x]) hR2)
      have F2 := Fr2.trans F1 f2
      refine ep_istore_n (lv' := [(0, .ref 13), (1, .int l), (2, .int q1.1), (3, .int q2.1)]) [1, 2, 3, 0] d_R_readToldType_42 rfl (by decide) rfl ?_
      refine ep_aload_n (j := 0) d_R_readToldType_43 rfl rfl ?_
      refine ep_getf (fi := 0) (v := .ref 14) d_R_readToldType_44 cl1 lf_R_12 (by decide) rfl rfl ?_
      refine ep_iload_n (j := 3) d_R_readToldType_47 rfl rfl ?_
      refine ep_callVt (As := [.int q2.1]) (st := []) d_R_readToldType_48 lk_R_89 cal_W_add tm_W_add ts_W_add rfl rfl rfl (Nat.le_of_ble_eq_true rfl) (Nat.le_of_ble_eq_true rfl) rfl rfl (T_add hR2 q2.1) (fun b3 cI3 cA3 hR3 f3 => ?_)
      have F3 := Fr2.trans F2 f3
      refine ep_pop d_R_readToldType_51 rfl ?_
      refine ep_iload_n (j := 3) d_R_readToldType_52 rfl rfl ?_
      exact ep_iret d_R_readToldType_53 rfl rfl (RP_ok (f := fun q : Int32 × RS => some (.int q.1)) (q := (q2.1, tad q2.2 q2.1)) F3 (by first | (simp [rToT, bnd_i, bnd_x, e1, c11, c25, e2]; done) | simp_all [rToT, bnd_i, bnd_x]) hR3)
  · refine ep_iload_n (j := 2) d_R_readToldType_14 rfl rfl ?_
    exact ep_iret d_R_readToldType_15 rfl rfl (RP_ok (f := fun q : Int32 × RS => some (.int q.1)) (q := (q1.1, q1.2)) F1 (by first | (simp [rToT, bnd_i, bnd_x, e1, c11]; done) | simp_all [rToT, bnd_i, bnd_x]) hR1)
set_option maxHeartbeats 4000000 in
set_option maxRecDepth 100000 in
theorem R_readTypeB (hR : CR cI cA L N0 s) {l : Int32} {rec : RS → Ex (Int32 × RS)} (hrec : ∀ cI cA s, CR cI cA L N0 s → EvP m_R_readType (d + 6) 0 [(0, .ref 13), (1, .int (l + 1))] [] (HC X cI cA rI rA ol J) (RP X cI cA rI rA ol J L N0 (rec s))) (hle : ¬ 16 < l) : EvP m_R_readType (d + 13) 0 [(0, .ref 13), (1, .int l)] [] (HC X cI cA rI rA ol J) (RP X cI cA rI rA ol J L N0 (rTyB L rec s)) := by
  refine ep_iload_n (j := 1) d_R_readType_0 rfl rfl ?_
  refine ep_bipush (v := 16) d_R_readType_1 (by decide) ?_
  refine ep_icmp_gt (tgt := 10) d_R_readType_3 (by decide) (fun z => absurd z hle) (fun _ => ?_)
  refine ep_iconst (v := 1) d_R_readType_6 (by decide) ?_
  refine ep_goto (tgt := 11) d_R_readType_7 (by decide) ?_
  refine ep_callSv (As := [.int 1]) (st := []) d_R_readType_11 (Or.inl lk_R_59) cal_R_need tm_R_need ti_R rfl (Nat.le_of_ble_eq_true rfl) (Nat.le_of_ble_eq_true rfl) rfl rfl R_need1 ?_
  refine ep_aload_n (j := 0) d_R_readType_14 rfl rfl ?_
  refine ep_callVi (As := []) (st := []) d_R_readType_15 lk_R_55 cal_R_next tm_R_next ts_R_next rfl rfl rfl (Nat.le_of_ble_eq_true rfl) (Nat.le_of_ble_eq_true rfl) rfl rfl (R_next hR) ?_
  refine ep_callSi (As := [.int (nxt L s)]) (st := []) d_R_readType_18 (Or.inr ⟨_, lk_R_77⟩) cal_N_builtinOfLetter tm_N_builtinOfLetter ti_N rfl (Nat.le_of_ble_eq_true rfl) (Nat.le_of_ble_eq_true rfl) rfl rfl (N_builtinOfLetter _) ?_
  refine ep_istore_n (lv' := [(0, .ref 13), (1, .int l), (2, .int (bolF (nxt L s)))]) [1, 2, 0] d_R_readType_21 rfl (by decide) rfl ?_
  refine ep_iload_n (j := 2) d_R_readType_22 rfl rfl ?_
  refine ep_iconst (v := (-1)) d_R_readType_23 (by decide) ?_
  refine ep_icmp_eq (tgt := 46) d_R_readType_24 (by decide) (fun c24 => ?_) (fun c24 => ?_)
  · refine ep_aload_n (j := 0) d_R_readType_46 rfl rfl ?_
    refine ep_callVi (As := []) (st := []) d_R_readType_47 lk_R_55 cal_R_next tm_R_next ts_R_next rfl rfl rfl (Nat.le_of_ble_eq_true rfl) (Nat.le_of_ble_eq_true rfl) rfl rfl (R_next hR) ?_
    refine ep_bipush (v := 83) d_R_readType_50 (by decide) ?_
    refine ep_icmp_ne (tgt := 61) d_R_readType_52 (by decide) (fun c52 => ?_) (fun c52 => ?_)
    · refine ep_aload_n (j := 0) d_R_readType_61 rfl rfl ?_
      refine ep_iload_n (j := 1) d_R_readType_62 rfl rfl ?_
      refine ep_callVq (As := [.int l]) (st := []) d_R_readType_63 lk_R_86 cal_R_readUntold tm_R_readUntold ts_R_readUntold rfl rfl rfl (Nat.le_of_ble_eq_true rfl) (Nat.le_of_ble_eq_true rfl) rfl rfl ((R_readUntold hR hrec).up (by omega)) (fun q1 cI1 cA1 e1 hR1 f1 => ?_) (fun k cI1 cA1 s1 e1 hR1 f1 => RP_x (Fr2.trans Fr2.rfl' f1) (by first | (simp [rTyB, bnd_i, bnd_x, c24, c52, e1]; done) | simp_all [rTyB, bnd_i, bnd_x]) hR1)
      have F1 := Fr2.trans Fr2.rfl' f1
      refine ep_istore_n (lv' := [(0, .ref 13), (1, .int l), (2, .int (bolF (nxt L s))), (3, .int q1.1)]) [1, 2, 3, 0] d_R_readType_66 rfl (by decide) rfl ?_
      refine ep_aload_n (j := 0) d_R_readType_67 rfl rfl ?_
      refine ep_getf (fi := 0) (v := .ref 14) d_R_readType_68 cl1 lf_R_12 (by decide) rfl rfl ?_
      refine ep_iload_n (j := 3) d_R_readType_71 rfl rfl ?_
      refine ep_callVt (As := [.int q1.1]) (st := []) d_R_readType_72 lk_R_89 cal_W_add tm_W_add ts_W_add rfl rfl rfl (Nat.le_of_ble_eq_true rfl) (Nat.le_of_ble_eq_true rfl) rfl rfl (T_add hR1 q1.1) (fun b2 cI2 cA2 hR2 f2 => ?_)
      have F2 := Fr2.trans F1 f2
      refine ep_pop d_R_readType_75 rfl ?_
      refine ep_iload_n (j := 3) d_R_readType_76 rfl rfl ?_
      exact ep_iret d_R_readType_77 rfl rfl (RP_ok (f := fun q : Int32 × RS => some (.int q.1)) (q := (q1.1, tad q1.2 q1.1)) F2 (by first | (simp [rTyB, bnd_i, bnd_x, c24, c52, e1]; done) | simp_all [rTyB, bnd_i, bnd_x]) hR2)
    · refine ep_aload_n (j := 0) d_R_readType_55 rfl rfl ?_
      refine ep_iload_n (j := 1) d_R_readType_56 rfl rfl ?_
      refine ep_callVq (As := [.int l]) (st := []) d_R_readType_57 lk_R_83 cal_R_readToldType tm_R_readToldType ts_R_readToldType rfl rfl rfl (Nat.le_of_ble_eq_true rfl) (Nat.le_of_ble_eq_true rfl) rfl rfl ((R_readToldType hR hrec).up (by omega)) (fun q3 cI3 cA3 e3 hR3 f3 => ?_) (fun k cI3 cA3 s3 e3 hR3 f3 => RP_x (Fr2.trans Fr2.rfl' f3) (by first | (simp [rTyB, bnd_i, bnd_x, c24, c52, e3]; done) | simp_all [rTyB, bnd_i, bnd_x]) hR3)
      have F3 := Fr2.trans Fr2.rfl' f3
      exact ep_iret d_R_readType_60 rfl rfl (RP_ok (f := fun q : Int32 × RS => some (.int q.1)) (q := (q3.1, q3.2)) F3 (by first | (simp [rTyB, bnd_i, bnd_x, c24, c52, e3]; done) | simp_all [rTyB, bnd_i, bnd_x]) hR3)
  · refine ep_adv (o := 0) (s := s) d_R_readType_27 d_R_readType_28 d_R_readType_29 d_R_readType_32 d_R_readType_33 d_R_readType_34 rfl rfl hR (nxt_lt (fun z => c24 (by rw [z]; decide))) (fun cI4 hR4 f4 => ?_)
    have F4 := Fr2.trans Fr2.rfl' f4
    refine ep_aload_n (j := 0) d_R_readType_37 rfl rfl ?_
    refine ep_getf (fi := 1) (v := .ref 2) d_R_readType_38 cl1 lf_R_18 (by decide) rfl rfl ?_
    refine ep_iload_n (j := 2) d_R_readType_41 rfl rfl ?_
    refine ep_callVq (As := [.int (bolF (nxt L s))]) (st := []) d_R_readType_42 lk_R_80 cal_D_addBuiltin tm_D_addBuiltin ts_D_addBuiltin rfl rfl rfl (Nat.le_of_ble_eq_true rfl) (Nat.le_of_ble_eq_true rfl) rfl rfl (RA_Builtin hR4 (bolF (nxt L s))) (fun q5 cI5 cA5 e5 hR5 f5 => ?_) (fun k cI5 cA5 s5 e5 hR5 f5 => RP_x (Fr2.trans F4 f5) (by first | (simp [rTyB, bnd_i, bnd_x, c24, e5]; done) | simp_all [rTyB, bnd_i, bnd_x]) hR5)
    have F5 := Fr2.trans F4 f5
    exact ep_iret d_R_readType_45 rfl rfl (RP_ok (f := fun q : Int32 × RS => some (.int q.1)) (q := (q5.1, q5.2)) F5 (by first | (simp [rTyB, bnd_i, bnd_x, c24, e5]; done) | simp_all [rTyB, bnd_i, bnd_x]) hR5)
set_option maxHeartbeats 4000000 in
set_option maxRecDepth 100000 in
theorem R_readType0 (hR : CR cI cA L N0 s) {l : Int32} (hle : 16 < l) : EvP m_R_readType (d + 6) 0 [(0, .ref 13), (1, .int l)] [] (HC X cI cA rI rA ol J) (RP X cI cA rI rA ol J L N0 (rTyp L 0 s)) := by
  refine ep_iload_n (j := 1) d_R_readType_0 rfl rfl ?_
  refine ep_bipush (v := 16) d_R_readType_1 (by decide) ?_
  refine ep_icmp_gt (tgt := 10) d_R_readType_3 (by decide) (fun _ => ?_) (fun z => absurd hle z)
  refine ep_iconst (v := 0) d_R_readType_10 (by decide) ?_
  exact ep_callSX (As := [.int 0]) (st := []) d_R_readType_11 (Or.inl lk_R_59) cal_R_need tm_R_need ti_R rfl (Nat.le_of_ble_eq_true rfl) (Nat.le_of_ble_eq_true rfl) rfl rfl R_need0 (RP_x Fr2.rfl' (by first | (simp [rTyp]; done) | simp_all [rTyp]) hR)
theorem R_readType : ∀ (k : Nat) {l : Int32} (_ : l = nI (17 - k)) (_ : k ≤ 16) (cI : Nat → Int32) (cA : Nat → Nat → Int32) (s : RS), CR cI cA L N0 s → EvP m_R_readType (d + 6 + 7 * k) 0 [(0, .ref 13), (1, .int l)] [] (HC X cI cA rI rA ol J) (RP X cI cA rI rA ol J L N0 (rTyp L k s)) := by
  intro k
  induction k with
  | zero =>
    intro l hl hk cI cA s hR
    exact R_readType0 hR (by rw [hl]; decide +kernel)
  | succ k ih =>
    intro l hl hk cI cA s hR
    have e : d + 6 + 7 * (k + 1) = (d + 7 * k) + 13 := by omega
    rw [e]
    have e2 : d + 6 + 7 * k = d + 7 * k + 6 := by omega
    refine R_readTypeB (d := d + 7 * k) hR (fun cI cA s hR => ?_) ?_
    · have := ih (l := l + 1) (by rw [hl, nI_1, show 17 - (k + 1) + 1 = 17 - k from by omega]) (by omega) cI cA s hR
      rw [e2] at this
      exact this
    · rw [hl, show (16 : Int32) = nI 16 from by decide +kernel]
      exact nI_nlt (by omega) (by omega)
end RD
