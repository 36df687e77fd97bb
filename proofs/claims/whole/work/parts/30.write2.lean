/-! the writer: what is written by the nodes within; by program (wip/whole/gen29.py) -/
/-- the code of putPrefix, putType -/
def mPT (b : Bool) : Mt := if b = true then m_P_putPrefix else m_P_putType
theorem no2 {x : Int32} (h : ¬ x = 2 ∧ ¬ x = 3) : Op.lookupswitch.offset [(2, 25), (3, 41)] 60 x.toInt = 60 := by
  have f : ∀ (y : Int32), ¬ x = y → ¬ x.toInt = y.toInt := fun y hy z => hy (Int32.toInt_inj.mp z)
  have g1 : ¬ x.toInt = 2 := f _ h.1
  have g2 : ¬ x.toInt = 3 := f _ h.2
  simp [Op.lookupswitch.offset, Ne.symm g1, Ne.symm g2, g1, g2]
theorem no7 {x : Int32} (h : ¬ x = 2 ∧ ¬ x = 3 ∧ ¬ x = 4 ∧ ¬ x = 5 ∧ ¬ x = 6 ∧ ¬ x = 7 ∧ ¬ x = 8) : x.toInt < 2 ∨ 8 < x.toInt := by
  have f : ∀ (y : Int32), ¬ x = y → ¬ x.toInt = y.toInt := fun y hy z => hy (Int32.toInt_inj.mp z)
  have g1 : ¬ x.toInt = 2 := f _ h.1
  have g2 : ¬ x.toInt = 3 := f _ h.2.1
  have g3 : ¬ x.toInt = 4 := f _ h.2.2.1
  have g4 : ¬ x.toInt = 5 := f _ h.2.2.2.1
  have g5 : ¬ x.toInt = 6 := f _ h.2.2.2.2.1
  have g6 : ¬ x.toInt = 7 := f _ h.2.2.2.2.2.1
  have g7 : ¬ x.toInt = 8 := f _ h.2.2.2.2.2.2
  omega
section WR
variable {d : Nat} {X : Nat × (Nat → Int32)} {cI : Nat → Int32} {cA : Nat → Nat → Int32} {rI : Nat → Int32} {rA : Nat → Nat → Int32} {ol : Int64} {J : mH} {N : List (List Int32)} {s : WS}
set_option maxHeartbeats 4000000 in
set_option maxRecDepth 100000 in
theorem P_putArguments (hR : CW cI cA N s) {l : Int32} {rec : Bool → Int32 → WS → Ex WS} (hrec : ∀ b x cI cA s, CW cI cA N s → EvP (mPT b) (d + 6) 0 [(0, .ref 8), (1, .int x), (2, .int l)] [] (HC X cI cA rI rA ol J) (WPu X cI cA rI rA ol J N (rec b x s))) (x : Int32) : EvP m_P_putArguments (d + 7) 0 [(0, .ref 8), (1, .int x), (2, .int l)] [] (HC X cI cA rI rA ol J) (WPu X cI cA rI rA ol J N (wArgs N rec x s)) := by
  refine ep_aload_n (j := 0) d_P_putArguments_0 rfl rfl ?_
  refine ep_bipush (v := 73) d_P_putArguments_1 (by decide) ?_
  refine ep_callVw (As := [.int 73]) (st := []) d_P_putArguments_3 lk_P_29 cal_P_put tm_P_put ts_P_put rfl rfl rfl (Nat.le_of_ble_eq_true rfl) (Nat.le_of_ble_eq_true rfl) rfl rfl (P_put hR 73) (fun q1 cI1 cA1 e1 hR1 f1 => ?_) (fun k cI1 cA1 s1 e1 hR1 f1 => WP_x (Fr3.trans Fr3.rfl' f1) (by first | (simp [wArgs, wArg, bnd_i, bnd_x, e1]; done) | simp_all [wArgs, wArg, bnd_i, bnd_x]) hR1)
  have F1 := Fr3.trans Fr3.rfl' f1
  refine ep_iconst (v := 4) d_P_putArguments_6 (by decide) ?_
  refine ep_istore_n (lv' := [(0, .ref 8), (1, .int x), (2, .int l), (3, .int 4)]) [1, 2, 3, 0] d_P_putArguments_7 rfl (by decide) rfl ?_
  refine ep_iload_n (j := 3) d_P_putArguments_8 rfl rfl ?_
  refine ep_bipush (v := 6) d_P_putArguments_9 (by decide) ?_
  refine ep_icmp_gt (tgt := 67) d_P_putArguments_11 (by decide) (fun z => absurd z (by decide)) (fun _ => ?_)
  refine ep_aload_n (j := 0) d_P_putArguments_14 rfl rfl ?_
  refine ep_getf (fi := 2) (v := .ref 2) d_P_putArguments_15 cl3 lf_P_21 (by decide) rfl rfl ?_
  refine ep_iload_n (j := 1) d_P_putArguments_18 rfl rfl ?_
  refine ep_iload_n (j := 3) d_P_putArguments_19 rfl rfl ?_
  refine ep_callVi (As := [.int x, .int 4]) (st := []) d_P_putArguments_20 lk_P_32 cal_D_cell tm_D_cell ts_D_cell rfl rfl rfl (Nat.le_of_ble_eq_true rfl) (Nat.le_of_ble_eq_true rfl) rfl rfl (D_cellN hR1.1 _ 4 (by decide +kernel) (by decide)) ?_
  refine ep_istore (lv' := [(0, .ref 8), (1, .int x), (2, .int l), (3, .int 4), (4, .int (cN N x 4))]) [1, 2, 3, 4, 0] d_P_putArguments_23 (by decide) rfl ?_
  refine ep_aload_n (j := 0) d_P_putArguments_25 rfl rfl ?_
  refine ep_getf (fi := 2) (v := .ref 2) d_P_putArguments_26 cl3 lf_P_21 (by decide) rfl rfl ?_
  refine ep_iload (j := 4) d_P_putArguments_29 rfl ?_
  refine ep_callVi (As := [.int (cN N x 4)]) (st := []) d_P_putArguments_31 lk_P_59 cal_D_kindOf tm_D_kindOf ts_D_kindOf rfl rfl rfl (Nat.le_of_ble_eq_true rfl) (Nat.le_of_ble_eq_true rfl) rfl rfl (D_kindN hR1.1 _) ?_
  refine ep_bipush (v := 9) d_P_putArguments_34 (by decide) ?_
  refine ep_icmp_ne (tgt := 48) d_P_putArguments_36 (by decide) (fun c36 => ?_) (fun c36 => ?_)
  · refine ep_iload (j := 4) d_P_putArguments_48 rfl ?_
    refine ep_iconst (v := (-1)) d_P_putArguments_50 (by decide) ?_
    refine ep_icmp_eq (tgt := 61) d_P_putArguments_51 (by decide) (fun c51 => ?_) (fun c51 => ?_)
    · refine ep_iinc (v := 5) (j := 3) (lv' := [(0, .ref 8), (1, .int x), (2, .int l), (3, .int 5), (4, .int (cN N x 4))]) [1, 2, 3, 0, 4] d_P_putArguments_61 rfl (by decide) (by decide) rfl ?_
      refine ep_goto (tgt := 8) d_P_putArguments_64 (by decide) ?_
      refine ep_iload_n (j := 3) d_P_putArguments_8 rfl rfl ?_
      refine ep_bipush (v := 6) d_P_putArguments_9 (by decide) ?_
      refine ep_icmp_gt (tgt := 67) d_P_putArguments_11 (by decide) (fun z => absurd z (by decide)) (fun _ => ?_)
      refine ep_aload_n (j := 0) d_P_putArguments_14 rfl rfl ?_
      refine ep_getf (fi := 2) (v := .ref 2) d_P_putArguments_15 cl3 lf_P_21 (by decide) rfl rfl ?_
      refine ep_iload_n (j := 1) d_P_putArguments_18 rfl rfl ?_
      refine ep_iload_n (j := 3) d_P_putArguments_19 rfl rfl ?_
      refine ep_callVi (As := [.int x, .int 5]) (st := []) d_P_putArguments_20 lk_P_32 cal_D_cell tm_D_cell ts_D_cell rfl rfl rfl (Nat.le_of_ble_eq_true rfl) (Nat.le_of_ble_eq_true rfl) rfl rfl (D_cellN hR1.1 _ 5 (by decide +kernel) (by decide)) ?_
      refine ep_istore (lv' := [(0, .ref 8), (1, .int x), (2, .int l), (3, .int 5), (4, .int (cN N x 5))]) [1, 2, 3, 4, 0] d_P_putArguments_23 (by decide) rfl ?_
      refine ep_aload_n (j := 0) d_P_putArguments_25 rfl rfl ?_
      refine ep_getf (fi := 2) (v := .ref 2) d_P_putArguments_26 cl3 lf_P_21 (by decide) rfl rfl ?_
      refine ep_iload (j := 4) d_P_putArguments_29 rfl ?_
      refine ep_callVi (As := [.int (cN N x 5)]) (st := []) d_P_putArguments_31 lk_P_59 cal_D_kindOf tm_D_kindOf ts_D_kindOf rfl rfl rfl (Nat.le_of_ble_eq_true rfl) (Nat.le_of_ble_eq_true rfl) rfl rfl (D_kindN hR1.1 _) ?_
      refine ep_bipush (v := 9) d_P_putArguments_34 (by decide) ?_
      refine ep_icmp_ne (tgt := 48) d_P_putArguments_36 (by decide) (fun c36_ => ?_) (fun c36_ => ?_)
      · refine ep_iload (j := 4) d_P_putArguments_48 rfl ?_
        refine ep_iconst (v := (-1)) d_P_putArguments_50 (by decide) ?_
        refine ep_icmp_eq (tgt := 61) d_P_putArguments_51 (by decide) (fun c51_ => ?_) (fun c51_ => ?_)
        · refine ep_iinc (v := 6) (j := 3) (lv' := [(0, .ref 8), (1, .int x), (2, .int l), (3, .int 6), (4, .int (cN N x 5))]) [1, 2, 3, 0, 4] d_P_putArguments_61 rfl (by decide) (by decide) rfl ?_
          refine ep_goto (tgt := 8) d_P_putArguments_64 (by decide) ?_
          refine ep_iload_n (j := 3) d_P_putArguments_8 rfl rfl ?_
          refine ep_bipush (v := 6) d_P_putArguments_9 (by decide) ?_
          refine ep_icmp_gt (tgt := 67) d_P_putArguments_11 (by decide) (fun z => absurd z (by decide)) (fun _ => ?_)
          refine ep_aload_n (j := 0) d_P_putArguments_14 rfl rfl ?_
          refine ep_getf (fi := 2) (v := .ref 2) d_P_putArguments_15 cl3 lf_P_21 (by decide) rfl rfl ?_
          refine ep_iload_n (j := 1) d_P_putArguments_18 rfl rfl ?_
          refine ep_iload_n (j := 3) d_P_putArguments_19 rfl rfl ?_
          refine ep_callVi (As := [.int x, .int 6]) (st := []) d_P_putArguments_20 lk_P_32 cal_D_cell tm_D_cell ts_D_cell rfl rfl rfl (Nat.le_of_ble_eq_true rfl) (Nat.le_of_ble_eq_true rfl) rfl rfl (D_cellN hR1.1 _ 6 (by decide +kernel) (by decide)) ?_
          refine ep_istore (lv' := [(0, .ref 8), (1, .int x), (2, .int l), (3, .int 6), (4, .int (cN N x 6))]) [1, 2, 3, 4, 0] d_P_putArguments_23 (by decide) rfl ?_
          refine ep_aload_n (j := 0) d_P_putArguments_25 rfl rfl ?_
          refine ep_getf (fi := 2) (v := .ref 2) d_P_putArguments_26 cl3 lf_P_21 (by decide) rfl rfl ?_
          refine ep_iload (j := 4) d_P_putArguments_29 rfl ?_
          refine ep_callVi (As := [.int (cN N x 6)]) (st := []) d_P_putArguments_31 lk_P_59 cal_D_kindOf tm_D_kindOf ts_D_kindOf rfl rfl rfl (Nat.le_of_ble_eq_true rfl) (Nat.le_of_ble_eq_true rfl) rfl rfl (D_kindN hR1.1 _) ?_
          refine ep_bipush (v := 9) d_P_putArguments_34 (by decide) ?_
          refine ep_icmp_ne (tgt := 48) d_P_putArguments_36 (by decide) (fun c36__ => ?_) (fun c36__ => ?_)
          · refine ep_iload (j := 4) d_P_putArguments_48 rfl ?_
            refine ep_iconst (v := (-1)) d_P_putArguments_50 (by decide) ?_
            refine ep_icmp_eq (tgt := 61) d_P_putArguments_51 (by decide) (fun c51__ => ?_) (fun c51__ => ?_)
            · refine ep_iinc (v := 7) (j := 3) (lv' := [(0, .ref 8), (1, .int x), (2, .int l), (3, .int 7), (4, .int (cN N x 6))]) [1, 2, 3, 0, 4] d_P_putArguments_61 rfl (by decide) (by decide) rfl ?_
              refine ep_goto (tgt := 8) d_P_putArguments_64 (by decide) ?_
              refine ep_iload_n (j := 3) d_P_putArguments_8 rfl rfl ?_
              refine ep_bipush (v := 6) d_P_putArguments_9 (by decide) ?_
              refine ep_icmp_gt (tgt := 67) d_P_putArguments_11 (by decide) (fun _ => ?_) (fun z => absurd (by decide) z)
              refine ep_aload_n (j := 0) d_P_putArguments_67 rfl rfl ?_
              refine ep_bipush (v := 69) d_P_putArguments_68 (by decide) ?_
              refine ep_callVw (As := [.int 69]) (st := []) d_P_putArguments_70 lk_P_29 cal_P_put tm_P_put ts_P_put rfl rfl rfl (Nat.le_of_ble_eq_true rfl) (Nat.le_of_ble_eq_true rfl) rfl rfl (P_put hR1 69) (fun q2 cI2 cA2 e2 hR2 f2 => ?_) (fun k cI2 cA2 s2 e2 hR2 f2 => WP_x (Fr3.trans F1 f2) (by first | (simp [wArgs, wArg, bnd_i, bnd_x, e1, c36, c51, c36_, c51_, c36__, c51__, e2]; done) | simp_all [wArgs, wArg, bnd_i, bnd_x]) hR2)
              have F2 := Fr3.trans F1 f2
              exact ep_vret d_P_putArguments_73 rfl (WP_ok (f := fun _ : WS => none) (q := q2) F2 (by first | (simp [wArgs, wArg, bnd_i, bnd_x, e1, c36, c51, c36_, c51_, c36__, c51__, e2]; done) | simp_all [wArgs, wArg, bnd_i, bnd_x]) hR2)
            · refine ep_aload_n (j := 0) d_P_putArguments_54 rfl rfl ?_
              refine ep_iload (j := 4) d_P_putArguments_55 rfl ?_
              refine ep_iload_n (j := 2) d_P_putArguments_57 rfl rfl ?_
              refine ep_callVw (As := [.int (cN N x 6), .int l]) (st := []) d_P_putArguments_58 lk_P_42 cal_P_putType tm_P_putType ts_P_putType rfl rfl rfl (Nat.le_of_ble_eq_true rfl) (Nat.le_of_ble_eq_true rfl) rfl rfl ((hrec false _ _ _ _ hR1).up (by omega)) (fun q3 cI3 cA3 e3 hR3 f3 => ?_) (fun k cI3 cA3 s3 e3 hR3 f3 => WP_x (Fr3.trans F1 f3) (by first | (simp [wArgs, wArg, bnd_i, bnd_x, e1, c36, c51, c36_, c51_, c36__, c51__, e3]; done) | simp_all [wArgs, wArg, bnd_i, bnd_x]) hR3)
              have F3 := Fr3.trans F1 f3
              refine ep_iinc (v := 7) (j := 3) (lv' := [(0, .ref 8), (1, .int x), (2, .int l), (3, .int 7), (4, .int (cN N x 6))]) [1, 2, 3, 0, 4] d_P_putArguments_61 rfl (by decide) (by decide) rfl ?_
              refine ep_goto (tgt := 8) d_P_putArguments_64 (by decide) ?_
              refine ep_iload_n (j := 3) d_P_putArguments_8 rfl rfl ?_
              refine ep_bipush (v := 6) d_P_putArguments_9 (by decide) ?_
              refine ep_icmp_gt (tgt := 67) d_P_putArguments_11 (by decide) (fun _ => ?_) (fun z => absurd (by decide) z)
              refine ep_aload_n (j := 0) d_P_putArguments_67 rfl rfl ?_
              refine ep_bipush (v := 69) d_P_putArguments_68 (by decide) ?_
              refine ep_callVw (As := [.int 69]) (st := []) d_P_putArguments_70 lk_P_29 cal_P_put tm_P_put ts_P_put rfl rfl rfl (Nat.le_of_ble_eq_true rfl) (Nat.le_of_ble_eq_true rfl) rfl rfl (P_put hR3 69) (fun q4 cI4 cA4 e4 hR4 f4 => ?_) (fun k cI4 cA4 s4 e4 hR4 f4 => WP_x (Fr3.trans F3 f4) (by first | (simp [wArgs, wArg, bnd_i, bnd_x, e1, c36, c51, c36_, c51_, c36__, c51__, e3, e4]; done) | simp_all [wArgs, wArg, bnd_i, bnd_x]) hR4)
              have F4 := Fr3.trans F3 f4
              exact ep_vret d_P_putArguments_73 rfl (WP_ok (f := fun _ : WS => none) (q := q4) F4 (by first | (simp [wArgs, wArg, bnd_i, bnd_x, e1, c36, c51, c36_, c51_, c36__, c51__, e3, e4]; done) | simp_all [wArgs, wArg, bnd_i, bnd_x]) hR4)
          · refine ep_aload_n (j := 0) d_P_putArguments_39 rfl rfl ?_
            refine ep_iload (j := 4) d_P_putArguments_40 rfl ?_
            refine ep_callVw (As := [.int (cN N x 6)]) (st := []) d_P_putArguments_42 lk_P_92 cal_P_putLiteral tm_P_putLiteral ts_P_putLiteral rfl rfl rfl (Nat.le_of_ble_eq_true rfl) (Nat.le_of_ble_eq_true rfl) rfl rfl (P_putLiteral hR1 (cN N x 6)) (fun q5 cI5 cA5 e5 hR5 f5 => ?_) (fun k cI5 cA5 s5 e5 hR5 f5 => WP_x (Fr3.trans F1 f5) (by first | (simp [wArgs, wArg, bnd_i, bnd_x, e1, c36, c51, c36_, c51_, c36__, e5]; done) | simp_all [wArgs, wArg, bnd_i, bnd_x]) hR5)
            have F5 := Fr3.trans F1 f5
            refine ep_goto (tgt := 61) d_P_putArguments_45 (by decide) ?_
            refine ep_iinc (v := 7) (j := 3) (lv' := [(0, .ref 8), (1, .int x), (2, .int l), (3, .int 7), (4, .int (cN N x 6))]) [1, 2, 3, 0, 4] d_P_putArguments_61 rfl (by decide) (by decide) rfl ?_
            refine ep_goto (tgt := 8) d_P_putArguments_64 (by decide) ?_
            refine ep_iload_n (j := 3) d_P_putArguments_8 rfl rfl ?_
            refine ep_bipush (v := 6) d_P_putArguments_9 (by decide) ?_
            refine ep_icmp_gt (tgt := 67) d_P_putArguments_11 (by decide) (fun _ => ?_) (fun z => absurd (by decide) z)
            refine ep_aload_n (j := 0) d_P_putArguments_67 rfl rfl ?_
            refine ep_bipush (v := 69) d_P_putArguments_68 (by decide) ?_
            refine ep_callVw (As := [.int 69]) (st := []) d_P_putArguments_70 lk_P_29 cal_P_put tm_P_put ts_P_put rfl rfl rfl (Nat.le_of_ble_eq_true rfl) (Nat.le_of_ble_eq_true rfl) rfl rfl (P_put hR5 69) (fun q6 cI6 cA6 e6 hR6 f6 => ?_) (fun k cI6 cA6 s6 e6 hR6 f6 => WP_x (Fr3.trans F5 f6) (by first | (simp [wArgs, wArg, bnd_i, bnd_x, e1, c36, c51, c36_, c51_, c36__, e5, e6]; done) | simp_all [wArgs, wArg, bnd_i, bnd_x]) hR6)
            have F6 := Fr3.trans F5 f6
            exact ep_vret d_P_putArguments_73 rfl (WP_ok (f := fun _ : WS => none) (q := q6) F6 (by first | (simp [wArgs, wArg, bnd_i, bnd_x, e1, c36, c51, c36_, c51_, c36__, e5, e6]; done) | simp_all [wArgs, wArg, bnd_i, bnd_x]) hR6)
        · refine ep_aload_n (j := 0) d_P_putArguments_54 rfl rfl ?_
          refine ep_iload (j := 4) d_P_putArguments_55 rfl ?_
          refine ep_iload_n (j := 2) d_P_putArguments_57 rfl rfl ?_
          refine ep_callVw (As := [.int (cN N x 5), .int l]) (st := []) d_P_putArguments_58 lk_P_42 cal_P_putType tm_P_putType ts_P_putType rfl rfl rfl (Nat.le_of_ble_eq_true rfl) (Nat.le_of_ble_eq_true rfl) rfl rfl ((hrec false _ _ _ _ hR1).up (by omega)) (fun q7 cI7 cA7 e7 hR7 f7 => ?_) (fun k cI7 cA7 s7 e7 hR7 f7 => WP_x (Fr3.trans F1 f7) (by first | (simp [wArgs, wArg, bnd_i, bnd_x, e1, c36, c51, c36_, c51_, e7]; done) | simp_all [wArgs, wArg, bnd_i, bnd_x]) hR7)
          have F7 := Fr3.trans F1 f7
          refine ep_iinc (v := 6) (j := 3) (lv' := [(0, .ref 8), (1, .int x), (2, .int l), (3, .int 6), (4, .int (cN N x 5))]) [1, 2, 3, 0, 4] d_P_putArguments_61 rfl (by decide) (by decide) rfl ?_
          refine ep_goto (tgt := 8) d_P_putArguments_64 (by decide) ?_
          refine ep_iload_n (j := 3) d_P_putArguments_8 rfl rfl ?_
          refine ep_bipush (v := 6) d_P_putArguments_9 (by decide) ?_
          refine ep_icmp_gt (tgt := 67) d_P_putArguments_11 (by decide) (fun z => absurd z (by decide)) (fun _ => ?_)
          refine ep_aload_n (j := 0) d_P_putArguments_14 rfl rfl ?_
          refine ep_getf (fi := 2) (v := .ref 2) d_P_putArguments_15 cl3 lf_P_21 (by decide) rfl rfl ?_
          refine ep_iload_n (j := 1) d_P_putArguments_18 rfl rfl ?_
          refine ep_iload_n (j := 3) d_P_putArguments_19 rfl rfl ?_
          refine ep_callVi (As := [.int x, .int 6]) (st := []) d_P_putArguments_20 lk_P_32 cal_D_cell tm_D_cell ts_D_cell rfl rfl rfl (Nat.le_of_ble_eq_true rfl) (Nat.le_of_ble_eq_true rfl) rfl rfl (D_cellN hR7.1 _ 6 (by decide +kernel) (by decide)) ?_
          refine ep_istore (lv' := [(0, .ref 8), (1, .int x), (2, .int l), (3, .int 6), (4, .int (cN N x 6))]) [1, 2, 3, 4, 0] d_P_putArguments_23 (by decide) rfl ?_
          refine ep_aload_n (j := 0) d_P_putArguments_25 rfl rfl ?_
          refine ep_getf (fi := 2) (v := .ref 2) d_P_putArguments_26 cl3 lf_P_21 (by decide) rfl rfl ?_
          refine ep_iload (j := 4) d_P_putArguments_29 rfl ?_
          refine ep_callVi (As := [.int (cN N x 6)]) (st := []) d_P_putArguments_31 lk_P_59 cal_D_kindOf tm_D_kindOf ts_D_kindOf rfl rfl rfl (Nat.le_of_ble_eq_true rfl) (Nat.le_of_ble_eq_true rfl) rfl rfl (D_kindN hR7.1 _) ?_
          refine ep_bipush (v := 9) d_P_putArguments_34 (by decide) ?_
          refine ep_icmp_ne (tgt := 48) d_P_putArguments_36 (by decide) (fun c36__ => ?_) (fun c36__ => ?_)
          · refine ep_iload (j := 4) d_P_putArguments_48 rfl ?_
            refine ep_iconst (v := (-1)) d_P_putArguments_50 (by decide) ?_
            refine ep_icmp_eq (tgt := 61) d_P_putArguments_51 (by decide) (fun c51__ => ?_) (fun c51__ => ?_)
            · refine ep_iinc (v := 7) (j := 3) (lv' := [(0, .ref 8), (1, .int x), (2, .int l), (3, .int 7), (4, .int (cN N x 6))]) [1, 2, 3, 0, 4] d_P_putArguments_61 rfl (by decide) (by decide) rfl ?_
              refine ep_goto (tgt := 8) d_P_putArguments_64 (by decide) ?_
              refine ep_iload_n (j := 3) d_P_putArguments_8 rfl rfl ?_
              refine ep_bipush (v := 6) d_P_putArguments_9 (by decide) ?_
              refine ep_icmp_gt (tgt := 67) d_P_putArguments_11 (by decide) (fun _ => ?_) (fun z => absurd (by decide) z)
              refine ep_aload_n (j := 0) d_P_putArguments_67 rfl rfl ?_
              refine ep_bipush (v := 69) d_P_putArguments_68 (by decide) ?_
              refine ep_callVw (As := [.int 69]) (st := []) d_P_putArguments_70 lk_P_29 cal_P_put tm_P_put ts_P_put rfl rfl rfl (Nat.le_of_ble_eq_true rfl) (Nat.le_of_ble_eq_true rfl) rfl rfl (P_put hR7 69) (fun q8 cI8 cA8 e8 hR8 f8 => ?_) (fun k cI8 cA8 s8 e8 hR8 f8 => WP_x (Fr3.trans F7 f8) (by first | (simp [wArgs, wArg, bnd_i, bnd_x, e1, c36, c51, c36_, c51_, e7, c36__, c51__, e8]; done) | simp_all [wArgs, wArg, bnd_i, bnd_x]) hR8)
              have F8 := Fr3.trans F7 f8
              exact ep_vret d_P_putArguments_73 rfl (WP_ok (f := fun _ : WS => none) (q := q8) F8 (by first | (simp [wArgs, wArg, bnd_i, bnd_x, e1, c36, c51, c36_, c51_, e7, c36__, c51__, e8]; done) | simp_all [wArgs, wArg, bnd_i, bnd_x]) hR8)
            · refine ep_aload_n (j := 0) d_P_putArguments_54 rfl rfl ?_
              refine ep_iload (j := 4) d_P_putArguments_55 rfl ?_
              refine ep_iload_n (j := 2) d_P_putArguments_57 rfl rfl ?_
              refine ep_callVw (As := [.int (cN N x 6), .int l]) (st := []) d_P_putArguments_58 lk_P_42 cal_P_putType tm_P_putType ts_P_putType rfl rfl rfl (Nat.le_of_ble_eq_true rfl) (Nat.le_of_ble_eq_true rfl) rfl rfl ((hrec false _ _ _ _ hR7).up (by omega)) (fun q9 cI9 cA9 e9 hR9 f9 => ?_) (fun k cI9 cA9 s9 e9 hR9 f9 => WP_x (Fr3.trans F7 f9) (by first | (simp [wArgs, wArg, bnd_i, bnd_x, e1, c36, c51, c36_, c51_, e7, c36__, c51__, e9]; done) | simp_all [wArgs, wArg, bnd_i, bnd_x]) hR9)
              have F9 := Fr3.trans F7 f9
              refine ep_iinc (v := 7) (j := 3) (lv' := [(0, .ref 8), (1, .int x), (2, .int l), (3, .int 7), (4, .int (cN N x 6))]) [1, 2, 3, 0, 4] d_P_putArguments_61 rfl (by decide) (by decide) rfl ?_
              refine ep_goto (tgt := 8) d_P_putArguments_64 (by decide) ?_
              refine ep_iload_n (j := 3) d_P_putArguments_8 rfl rfl ?_
              refine ep_bipush (v := 6) d_P_putArguments_9 (by decide) ?_
              refine ep_icmp_gt (tgt := 67) d_P_putArguments_11 (by decide) (fun _ => ?_) (fun z => absurd (by decide) z)
              refine ep_aload_n (j := 0) d_P_putArguments_67 rfl rfl ?_
              refine ep_bipush (v := 69) d_P_putArguments_68 (by decide) ?_
              refine ep_callVw (As := [.int 69]) (st := []) d_P_putArguments_70 lk_P_29 cal_P_put tm_P_put ts_P_put rfl rfl rfl (Nat.le_of_ble_eq_true rfl) (Nat.le_of_ble_eq_true rfl) rfl rfl (P_put hR9 69) (fun q10 cI10 cA10 e10 hR10 f10 => ?_) (fun k cI10 cA10 s10 e10 hR10 f10 => WP_x (Fr3.trans F9 f10) (by first | (simp [wArgs, wArg, bnd_i, bnd_x, e1, c36, c51, c36_, c51_, e7, c36__, c51__, e9, e10]; done) | simp_all [wArgs, wArg, bnd_i, bnd_x]) hR10)
              have F10 := Fr3.trans F9 f10
              exact ep_vret d_P_putArguments_73 rfl (WP_ok (f := fun _ : WS => none) (q := q10) F10 (by first | (simp [wArgs, wArg, bnd_i, bnd_x, e1, c36, c51, c36_, c51_, e7, c36__, c51__, e9, e10]; done) | simp_all [wArgs, wArg, bnd_i, bnd_x]) hR10)
          · refine ep_aload_n (j := 0) d_P_putArguments_39 rfl rfl ?_
            refine ep_iload (j := 4) d_P_putArguments_40 rfl ?_
            refine ep_callVw (As := [.int (cN N x 6)]) (st := []) d_P_putArguments_42 lk_P_92 cal_P_putLiteral tm_P_putLiteral ts_P_putLiteral rfl rfl rfl (Nat.le_of_ble_eq_true rfl) (Nat.le_of_ble_eq_true rfl) rfl rfl (P_putLiteral hR7 (cN N x 6)) (fun q11 cI11 cA11 e11 hR11 f11 => ?_) (fun k cI11 cA11 s11 e11 hR11 f11 => WP_x (Fr3.trans F7 f11) (by first | (simp [wArgs, wArg, bnd_i, bnd_x, e1, c36, c51, c36_, c51_, e7, c36__, e11]; done) | simp_all [wArgs, wArg, bnd_i, bnd_x]) hR11)
            have F11 := Fr3.trans F7 f11
            refine ep_goto (tgt := 61) d_P_putArguments_45 (by decide) ?_
            refine ep_iinc (v := 7) (j := 3) (lv' := [(0, .ref 8), (1, .int x), (2, .int l), (3, .int 7), (4, .int (cN N x 6))]) [1, 2, 3, 0, 4] d_P_putArguments_61 rfl (by decide) (by decide) rfl ?_
            refine ep_goto (tgt := 8) d_P_putArguments_64 (by decide) ?_
            refine ep_iload_n (j := 3) d_P_putArguments_8 rfl rfl ?_
            refine ep_bipush (v := 6) d_P_putArguments_9 (by decide) ?_
            refine ep_icmp_gt (tgt := 67) d_P_putArguments_11 (by decide) (fun _ => ?_) (fun z => absurd (by decide) z)
            refine ep_aload_n (j := 0) d_P_putArguments_67 rfl rfl ?_
            refine ep_bipush (v := 69) d_P_putArguments_68 (by decide) ?_
            refine ep_callVw (As := [.int 69]) (st := []) d_P_putArguments_70 lk_P_29 cal_P_put tm_P_put ts_P_put rfl rfl rfl (Nat.le_of_ble_eq_true rfl) (Nat.le_of_ble_eq_true rfl) rfl rfl (P_put hR11 69) (fun q12 cI12 cA12 e12 hR12 f12 => ?_) (fun k cI12 cA12 s12 e12 hR12 f12 => WP_x (Fr3.trans F11 f12) (by first | (simp [wArgs, wArg, bnd_i, bnd_x, e1, c36, c51, c36_, c51_, e7, c36__, e11, e12]; done) | simp_all [wArgs, wArg, bnd_i, bnd_x]) hR12)
            have F12 := Fr3.trans F11 f12
            exact ep_vret d_P_putArguments_73 rfl (WP_ok (f := fun _ : WS => none) (q := q12) F12 (by first | (simp [wArgs, wArg, bnd_i, bnd_x, e1, c36, c51, c36_, c51_, e7, c36__, e11, e12]; done) | simp_all [wArgs, wArg, bnd_i, bnd_x]) hR12)
      · refine ep_aload_n (j := 0) d_P_putArguments_39 rfl rfl ?_
        refine ep_iload (j := 4) d_P_putArguments_40 rfl ?_
        refine ep_callVw (As := [.int (cN N x 5)]) (st := []) d_P_putArguments_42 lk_P_92 cal_P_putLiteral tm_P_putLiteral ts_P_putLiteral rfl rfl rfl (Nat.le_of_ble_eq_true rfl) (Nat.le_of_ble_eq_true rfl) rfl rfl (P_putLiteral hR1 (cN N x 5)) (fun q13 cI13 cA13 e13 hR13 f13 => ?_) (fun k cI13 cA13 s13 e13 hR13 f13 => WP_x (Fr3.trans F1 f13) (by first | (simp [wArgs, wArg, bnd_i, bnd_x, e1, c36, c51, c36_, e13]; done) | simp_all [wArgs, wArg, bnd_i, bnd_x]) hR13)
        have F13 := Fr3.trans F1 f13
        refine ep_goto (tgt := 61) d_P_putArguments_45 (by decide) ?_
        refine ep_iinc (v := 6) (j := 3) (lv' := [(0, .ref 8), (1, .int x), (2, .int l), (3, .int 6), (4, .int (cN N x 5))]) [1, 2, 3, 0, 4] d_P_putArguments_61 rfl (by decide) (by decide) rfl ?_
        refine ep_goto (tgt := 8) d_P_putArguments_64 (by decide) ?_
        refine ep_iload_n (j := 3) d_P_putArguments_8 rfl rfl ?_
        refine ep_bipush (v := 6) d_P_putArguments_9 (by decide) ?_
        refine ep_icmp_gt (tgt := 67) d_P_putArguments_11 (by decide) (fun z => absurd z (by decide)) (fun _ => ?_)
        refine ep_aload_n (j := 0) d_P_putArguments_14 rfl rfl ?_
        refine ep_getf (fi := 2) (v := .ref 2) d_P_putArguments_15 cl3 lf_P_21 (by decide) rfl rfl ?_
        refine ep_iload_n (j := 1) d_P_putArguments_18 rfl rfl ?_
        refine ep_iload_n (j := 3) d_P_putArguments_19 rfl rfl ?_
        refine ep_callVi (As := [.int x, .int 6]) (st := []) d_P_putArguments_20 lk_P_32 cal_D_cell tm_D_cell ts_D_cell rfl rfl rfl (Nat.le_of_ble_eq_true rfl) (Nat.le_of_ble_eq_true rfl) rfl rfl (D_cellN hR13.1 _ 6 (by decide +kernel) (by decide)) ?_
        refine ep_istore (lv' := [(0, .ref 8), (1, .int x), (2, .int l), (3, .int 6), (4, .int (cN N x 6))]) [1, 2, 3, 4, 0] d_P_putArguments_23 (by decide) rfl ?_
        refine ep_aload_n (j := 0) d_P_putArguments_25 rfl rfl ?_
        refine ep_getf (fi := 2) (v := .ref 2) d_P_putArguments_26 cl3 lf_P_21 (by decide) rfl rfl ?_
        refine ep_iload (j := 4) d_P_putArguments_29 rfl ?_
        refine ep_callVi (As := [.int (cN N x 6)]) (st := []) d_P_putArguments_31 lk_P_59 cal_D_kindOf tm_D_kindOf ts_D_kindOf rfl rfl rfl (Nat.le_of_ble_eq_true rfl) (Nat.le_of_ble_eq_true rfl) rfl rfl (D_kindN hR13.1 _) ?_
        refine ep_bipush (v := 9) d_P_putArguments_34 (by decide) ?_
        refine ep_icmp_ne (tgt := 48) d_P_putArguments_36 (by decide) (fun c36__ => ?_) (fun c36__ => ?_)
        · refine ep_iload (j := 4) d_P_putArguments_48 rfl ?_
          refine ep_iconst (v := (-1)) d_P_putArguments_50 (by decide) ?_
          refine ep_icmp_eq (tgt := 61) d_P_putArguments_51 (by decide) (fun c51_ => ?_) (fun c51_ => ?_)
          · refine ep_iinc (v := 7) (j := 3) (lv' := [(0, .ref 8), (1, .int x), (2, .int l), (3, .int 7), (4, .int (cN N x 6))]) [1, 2, 3, 0, 4] d_P_putArguments_61 rfl (by decide) (by decide) rfl ?_
            refine ep_goto (tgt := 8) d_P_putArguments_64 (by decide) ?_
            refine ep_iload_n (j := 3) d_P_putArguments_8 rfl rfl ?_
            refine ep_bipush (v := 6) d_P_putArguments_9 (by decide) ?_
            refine ep_icmp_gt (tgt := 67) d_P_putArguments_11 (by decide) (fun _ => ?_) (fun z => absurd (by decide) z)
            refine ep_aload_n (j := 0) d_P_putArguments_67 rfl rfl ?_
            refine ep_bipush (v := 69) d_P_putArguments_68 (by decide) ?_
            refine ep_callVw (As := [.int 69]) (st := []) d_P_putArguments_70 lk_P_29 cal_P_put tm_P_put ts_P_put rfl rfl rfl (Nat.le_of_ble_eq_true rfl) (Nat.le_of_ble_eq_true rfl) rfl rfl (P_put hR13 69) (fun q14 cI14 cA14 e14 hR14 f14 => ?_) (fun k cI14 cA14 s14 e14 hR14 f14 => WP_x (Fr3.trans F13 f14) (by first | (simp [wArgs, wArg, bnd_i, bnd_x, e1, c36, c51, c36_, e13, c36__, c51_, e14]; done) | simp_all [wArgs, wArg, bnd_i, bnd_x]) hR14)
            have F14 := Fr3.trans F13 f14
            exact ep_vret d_P_putArguments_73 rfl (WP_ok (f := fun _ : WS => none) (q := q14) F14 (by first | (simp [wArgs, wArg, bnd_i, bnd_x, e1, c36, c51, c36_, e13, c36__, c51_, e14]; done) | simp_all [wArgs, wArg, bnd_i, bnd_x]) hR14)
          · refine ep_aload_n (j := 0) d_P_putArguments_54 rfl rfl ?_
            refine ep_iload (j := 4) d_P_putArguments_55 rfl ?_
            refine ep_iload_n (j := 2) d_P_putArguments_57 rfl rfl ?_
            refine ep_callVw (As := [.int (cN N x 6), .int l]) (st := []) d_P_putArguments_58 lk_P_42 cal_P_putType tm_P_putType ts_P_putType rfl rfl rfl (Nat.le_of_ble_eq_true rfl) (Nat.le_of_ble_eq_true rfl) rfl rfl ((hrec false _ _ _ _ hR13).up (by omega)) (fun q15 cI15 cA15 e15 hR15 f15 => ?_) (fun k cI15 cA15 s15 e15 hR15 f15 => WP_x (Fr3.trans F13 f15) (by first | (simp [wArgs, wArg, bnd_i, bnd_x, e1, c36, c51, c36_, e13, c36__, c51_, e15]; done) | simp_all [wArgs, wArg, bnd_i, bnd_x]) hR15)
            have F15 := Fr3.trans F13 f15
            refine ep_iinc (v := 7) (j := 3) (lv' := [(0, .ref 8), (1, .int x), (2, .int l), (3, .int 7), (4, .int (cN N x 6))]) [1, 2, 3, 0, 4] d_P_putArguments_61 rfl (by decide) (by decide) rfl ?_
            refine ep_goto (tgt := 8) d_P_putArguments_64 (by decide) ?_
            refine ep_iload_n (j := 3) d_P_putArguments_8 rfl rfl ?_
            refine ep_bipush (v := 6) d_P_putArguments_9 (by decide) ?_
            refine ep_icmp_gt (tgt := 67) d_P_putArguments_11 (by decide) (fun _ => ?_) (fun z => absurd (by decide) z)
            refine ep_aload_n (j := 0) d_P_putArguments_67 rfl rfl ?_
            refine ep_bipush (v := 69) d_P_putArguments_68 (by decide) ?_
            refine ep_callVw (As := [.int 69]) (st := []) d_P_putArguments_70 lk_P_29 cal_P_put tm_P_put ts_P_put rfl rfl rfl (Nat.le_of_ble_eq_true rfl) (Nat.le_of_ble_eq_true rfl) rfl rfl (P_put hR15 69) (fun q16 cI16 cA16 e16 hR16 f16 => ?_) (fun k cI16 cA16 s16 e16 hR16 f16 => WP_x (Fr3.trans F15 f16) (by first | (simp [wArgs, wArg, bnd_i, bnd_x, e1, c36, c51, c36_, e13, c36__, c51_, e15, e16]; done) | simp_all [wArgs, wArg, bnd_i, bnd_x]) hR16)
            have F16 := Fr3.trans F15 f16
            exact ep_vret d_P_putArguments_73 rfl (WP_ok (f := fun _ : WS => none) (q := q16) F16 (by first | (simp [wArgs, wArg, bnd_i, bnd_x, e1, c36, c51, c36_, e13, c36__, c51_, e15, e16]; done) | simp_all [wArgs, wArg, bnd_i, bnd_x]) hR16)
        · refine ep_aload_n (j := 0) d_P_putArguments_39 rfl rfl ?_
          refine ep_iload (j := 4) d_P_putArguments_40 rfl ?_
          refine ep_callVw (As := [.int (cN N x 6)]) (st := []) d_P_putArguments_42 lk_P_92 cal_P_putLiteral tm_P_putLiteral ts_P_putLiteral rfl rfl rfl (Nat.le_of_ble_eq_true rfl) (Nat.le_of_ble_eq_true rfl) rfl rfl (P_putLiteral hR13 (cN N x 6)) (fun q17 cI17 cA17 e17 hR17 f17 => ?_) (fun k cI17 cA17 s17 e17 hR17 f17 => WP_x (Fr3.trans F13 f17) (by first | (simp [wArgs, wArg, bnd_i, bnd_x, e1, c36, c51, c36_, e13, c36__, e17]; done) | simp_all [wArgs, wArg, bnd_i, bnd_x]) hR17)
          have F17 := Fr3.trans F13 f17
          refine ep_goto (tgt := 61) d_P_putArguments_45 (by decide) ?_
          refine ep_iinc (v := 7) (j := 3) (lv' := [(0, .ref 8), (1, .int x), (2, .int l), (3, .int 7), (4, .int (cN N x 6))]) [1, 2, 3, 0, 4] d_P_putArguments_61 rfl (by decide) (by decide) rfl ?_
          refine ep_goto (tgt := 8) d_P_putArguments_64 (by decide) ?_
          refine ep_iload_n (j := 3) d_P_putArguments_8 rfl rfl ?_
          refine ep_bipush (v := 6) d_P_putArguments_9 (by decide) ?_
          refine ep_icmp_gt (tgt := 67) d_P_putArguments_11 (by decide) (fun _ => ?_) (fun z => absurd (by decide) z)
          refine ep_aload_n (j := 0) d_P_putArguments_67 rfl rfl ?_
          refine ep_bipush (v := 69) d_P_putArguments_68 (by decide) ?_
          refine ep_callVw (As := [.int 69]) (st := []) d_P_putArguments_70 lk_P_29 cal_P_put tm_P_put ts_P_put rfl rfl rfl (Nat.le_of_ble_eq_true rfl) (Nat.le_of_ble_eq_true rfl) rfl rfl (P_put hR17 69) (fun q18 cI18 cA18 e18 hR18 f18 => ?_) (fun k cI18 cA18 s18 e18 hR18 f18 => WP_x (Fr3.trans F17 f18) (by first | (simp [wArgs, wArg, bnd_i, bnd_x, e1, c36, c51, c36_, e13, c36__, e17, e18]; done) | simp_all [wArgs, wArg, bnd_i, bnd_x]) hR18)
          have F18 := Fr3.trans F17 f18
          exact ep_vret d_P_putArguments_73 rfl (WP_ok (f := fun _ : WS => none) (q := q18) F18 (by first | (simp [wArgs, wArg, bnd_i, bnd_x, e1, c36, c51, c36_, e13, c36__, e17, e18]; done) | simp_all [wArgs, wArg, bnd_i, bnd_x]) hR18)
    · refine ep_aload_n (j := 0) d_P_putArguments_54 rfl rfl ?_
      refine ep_iload (j := 4) d_P_putArguments_55 rfl ?_
      refine ep_iload_n (j := 2) d_P_putArguments_57 rfl rfl ?_
      refine ep_callVw (As := [.int (cN N x 4), .int l]) (st := []) d_P_putArguments_58 lk_P_42 cal_P_putType tm_P_putType ts_P_putType rfl rfl rfl (Nat.le_of_ble_eq_true rfl) (Nat.le_of_ble_eq_true rfl) rfl rfl ((hrec false _ _ _ _ hR1).up (by omega)) (fun q19 cI19 cA19 e19 hR19 f19 => ?_) (fun k cI19 cA19 s19 e19 hR19 f19 => WP_x (Fr3.trans F1 f19) (by first | (simp [wArgs, wArg, bnd_i, bnd_x, e1, c36, c51, e19]; done) | simp_all [wArgs, wArg, bnd_i, bnd_x]) hR19)
      have F19 := Fr3.trans F1 f19
      refine ep_iinc (v := 5) (j := 3) (lv' := [(0, .ref 8), (1, .int x), (2, .int l), (3, .int 5), (4, .int (cN N x 4))]) [1, 2, 3, 0, 4] d_P_putArguments_61 rfl (by decide) (by decide) rfl ?_
      refine ep_goto (tgt := 8) d_P_putArguments_64 (by decide) ?_
      refine ep_iload_n (j := 3) d_P_putArguments_8 rfl rfl ?_
      refine ep_bipush (v := 6) d_P_putArguments_9 (by decide) ?_
      refine ep_icmp_gt (tgt := 67) d_P_putArguments_11 (by decide) (fun z => absurd z (by decide)) (fun _ => ?_)
      refine ep_aload_n (j := 0) d_P_putArguments_14 rfl rfl ?_
      refine ep_getf (fi := 2) (v := .ref 2) d_P_putArguments_15 cl3 lf_P_21 (by decide) rfl rfl ?_
      refine ep_iload_n (j := 1) d_P_putArguments_18 rfl rfl ?_
      refine ep_iload_n (j := 3) d_P_putArguments_19 rfl rfl ?_
      refine ep_callVi (As := [.int x, .int 5]) (st := []) d_P_putArguments_20 lk_P_32 cal_D_cell tm_D_cell ts_D_cell rfl rfl rfl (Nat.le_of_ble_eq_true rfl) (Nat.le_of_ble_eq_true rfl) rfl rfl (D_cellN hR19.1 _ 5 (by decide +kernel) (by decide)) ?_
      refine ep_istore (lv' := [(0, .ref 8), (1, .int x), (2, .int l), (3, .int 5), (4, .int (cN N x 5))]) [1, 2, 3, 4, 0] d_P_putArguments_23 (by decide) rfl ?_
      refine ep_aload_n (j := 0) d_P_putArguments_25 rfl rfl ?_
      refine ep_getf (fi := 2) (v := .ref 2) d_P_putArguments_26 cl3 lf_P_21 (by decide) rfl rfl ?_
      refine ep_iload (j := 4) d_P_putArguments_29 rfl ?_
      refine ep_callVi (As := [.int (cN N x 5)]) (st := []) d_P_putArguments_31 lk_P_59 cal_D_kindOf tm_D_kindOf ts_D_kindOf rfl rfl rfl (Nat.le_of_ble_eq_true rfl) (Nat.le_of_ble_eq_true rfl) rfl rfl (D_kindN hR19.1 _) ?_
      refine ep_bipush (v := 9) d_P_putArguments_34 (by decide) ?_
      refine ep_icmp_ne (tgt := 48) d_P_putArguments_36 (by decide) (fun c36_ => ?_) (fun c36_ => ?_)
      · refine ep_iload (j := 4) d_P_putArguments_48 rfl ?_
        refine ep_iconst (v := (-1)) d_P_putArguments_50 (by decide) ?_
        refine ep_icmp_eq (tgt := 61) d_P_putArguments_51 (by decide) (fun c51_ => ?_) (fun c51_ => ?_)
        · refine ep_iinc (v := 6) (j := 3) (lv' := [(0, .ref 8), (1, .int x), (2, .int l), (3, .int 6), (4, .int (cN N x 5))]) [1, 2, 3, 0, 4] d_P_putArguments_61 rfl (by decide) (by decide) rfl ?_
          refine ep_goto (tgt := 8) d_P_putArguments_64 (by decide) ?_
          refine ep_iload_n (j := 3) d_P_putArguments_8 rfl rfl ?_
          refine ep_bipush (v := 6) d_P_putArguments_9 (by decide) ?_
          refine ep_icmp_gt (tgt := 67) d_P_putArguments_11 (by decide) (fun z => absurd z (by decide)) (fun _ => ?_)
          refine ep_aload_n (j := 0) d_P_putArguments_14 rfl rfl ?_
          refine ep_getf (fi := 2) (v := .ref 2) d_P_putArguments_15 cl3 lf_P_21 (by decide) rfl rfl ?_
          refine ep_iload_n (j := 1) d_P_putArguments_18 rfl rfl ?_
          refine ep_iload_n (j := 3) d_P_putArguments_19 rfl rfl ?_
          refine ep_callVi (As := [.int x, .int 6]) (st := []) d_P_putArguments_20 lk_P_32 cal_D_cell tm_D_cell ts_D_cell rfl rfl rfl (Nat.le_of_ble_eq_true rfl) (Nat.le_of_ble_eq_true rfl) rfl rfl (D_cellN hR19.1 _ 6 (by decide +kernel) (by decide)) ?_
          refine ep_istore (lv' := [(0, .ref 8), (1, .int x), (2, .int l), (3, .int 6), (4, .int (cN N x 6))]) [1, 2, 3, 4, 0] d_P_putArguments_23 (by decide) rfl ?_
          refine ep_aload_n (j := 0) d_P_putArguments_25 rfl rfl ?_
          refine ep_getf (fi := 2) (v := .ref 2) d_P_putArguments_26 cl3 lf_P_21 (by decide) rfl rfl ?_
          refine ep_iload (j := 4) d_P_putArguments_29 rfl ?_
          refine ep_callVi (As := [.int (cN N x 6)]) (st := []) d_P_putArguments_31 lk_P_59 cal_D_kindOf tm_D_kindOf ts_D_kindOf rfl rfl rfl (Nat.le_of_ble_eq_true rfl) (Nat.le_of_ble_eq_true rfl) rfl rfl (D_kindN hR19.1 _) ?_
          refine ep_bipush (v := 9) d_P_putArguments_34 (by decide) ?_
          refine ep_icmp_ne (tgt := 48) d_P_putArguments_36 (by decide) (fun c36__ => ?_) (fun c36__ => ?_)
          · refine ep_iload (j := 4) d_P_putArguments_48 rfl ?_
            refine ep_iconst (v := (-1)) d_P_putArguments_50 (by decide) ?_
            refine ep_icmp_eq (tgt := 61) d_P_putArguments_51 (by decide) (fun c51__ => ?_) (fun c51__ => ?_)
            · refine ep_iinc (v := 7) (j := 3) (lv' := [(0, .ref 8), (1, .int x), (2, .int l), (3, .int 7), (4, .int (cN N x 6))]) [1, 2, 3, 0, 4] d_P_putArguments_61 rfl (by decide) (by decide) rfl ?_
              refine ep_goto (tgt := 8) d_P_putArguments_64 (by decide) ?_
              refine ep_iload_n (j := 3) d_P_putArguments_8 rfl rfl ?_
              refine ep_bipush (v := 6) d_P_putArguments_9 (by decide) ?_
              refine ep_icmp_gt (tgt := 67) d_P_putArguments_11 (by decide) (fun _ => ?_) (fun z => absurd (by decide) z)
              refine ep_aload_n (j := 0) d_P_putArguments_67 rfl rfl ?_
              refine ep_bipush (v := 69) d_P_putArguments_68 (by decide) ?_
              refine ep_callVw (As := [.int 69]) (st := []) d_P_putArguments_70 lk_P_29 cal_P_put tm_P_put ts_P_put rfl rfl rfl (Nat.le_of_ble_eq_true rfl) (Nat.le_of_ble_eq_true rfl) rfl rfl (P_put hR19 69) (fun q20 cI20 cA20 e20 hR20 f20 => ?_) (fun k cI20 cA20 s20 e20 hR20 f20 => WP_x (Fr3.trans F19 f20) (by first | (simp [wArgs, wArg, bnd_i, bnd_x, e1, c36, c51, e19, c36_, c51_, c36__, c51__, e20]; done) | simp_all [wArgs, wArg, bnd_i, bnd_x]) hR20)
              have F20 := Fr3.trans F19 f20
              exact ep_vret d_P_putArguments_73 rfl (WP_ok (f := fun _ : WS => none) (q := q20) F20 (by first | (simp [wArgs, wArg, bnd_i, bnd_x, e1, c36, c51, e19, c36_, c51_, c36__, c51__, e20]; done) | simp_all [wArgs, wArg, bnd_i, bnd_x]) hR20)
            · refine ep_aload_n (j := 0) d_P_putArguments_54 rfl rfl ?_
              refine ep_iload (j := 4) d_P_putArguments_55 rfl ?_
              refine ep_iload_n (j := 2) d_P_putArguments_57 rfl rfl ?_
              refine ep_callVw (As := [.int (cN N x 6), .int l]) (st := []) d_P_putArguments_58 lk_P_42 cal_P_putType tm_P_putType ts_P_putType rfl rfl rfl (Nat.le_of_ble_eq_true rfl) (Nat.le_of_ble_eq_true rfl) rfl rfl ((hrec false _ _ _ _ hR19).up (by omega)) (fun q21 cI21 cA21 e21 hR21 f21 => ?_) (fun k cI21 cA21 s21 e21 hR21 f21 => WP_x (Fr3.trans F19 f21) (by first | (simp [wArgs, wArg, bnd_i, bnd_x, e1, c36, c51, e19, c36_, c51_, c36__, c51__, e21]; done) | simp_all [wArgs, wArg, bnd_i, bnd_x]) hR21)
              have F21 := Fr3.trans F19 f21
              refine ep_iinc (v := 7) (j := 3) (lv' := [(0, .ref 8), (1, .int x), (2, .int l), (3, .int 7), (4, .int (cN N x 6))]) [1, 2, 3, 0, 4] d_P_putArguments_61 rfl (by decide) (by decide) rfl ?_
              refine ep_goto (tgt := 8) d_P_putArguments_64 (by decide) ?_
              refine ep_iload_n (j := 3) d_P_putArguments_8 rfl rfl ?_
              refine ep_bipush (v := 6) d_P_putArguments_9 (by decide) ?_
              refine ep_icmp_gt (tgt := 67) d_P_putArguments_11 (by decide) (fun _ => ?_) (fun z => absurd (by decide) z)
              refine ep_aload_n (j := 0) d_P_putArguments_67 rfl rfl ?_
              refine ep_bipush (v := 69) d_P_putArguments_68 (by decide) ?_
              refine ep_callVw (As := [.int 69]) (st := []) d_P_putArguments_70 lk_P_29 cal_P_put tm_P_put ts_P_put rfl rfl rfl (Nat.le_of_ble_eq_true rfl) (Nat.le_of_ble_eq_true rfl) rfl rfl (P_put hR21 69) (fun q22 cI22 cA22 e22 hR22 f22 => ?_) (fun k cI22 cA22 s22 e22 hR22 f22 => WP_x (Fr3.trans F21 f22) (by first | (simp [wArgs, wArg, bnd_i, bnd_x, e1, c36, c51, e19, c36_, c51_, c36__, c51__, e21, e22]; done) | simp_all [wArgs, wArg, bnd_i, bnd_x]) hR22)
              have F22 := Fr3.trans F21 f22
              exact ep_vret d_P_putArguments_73 rfl (WP_ok (f := fun _ : WS => none) (q := q22) F22 (by first | (simp [wArgs, wArg, bnd_i, bnd_x, e1, c36, c51, e19, c36_, c51_, c36__, c51__, e21, e22]; done) | simp_all [wArgs, wArg, bnd_i, bnd_x]) hR22)
          · refine ep_aload_n (j := 0) d_P_putArguments_39 rfl rfl ?_
            refine ep_iload (j := 4) d_P_putArguments_40 rfl ?_
            refine ep_callVw (As := [.int (cN N x 6)]) (st := []) d_P_putArguments_42 lk_P_92 cal_P_putLiteral tm_P_putLiteral ts_P_putLiteral rfl rfl rfl (Nat.le_of_ble_eq_true rfl) (Nat.le_of_ble_eq_true rfl) rfl rfl (P_putLiteral hR19 (cN N x 6)) (fun q23 cI23 cA23 e23 hR23 f23 => ?_) (fun k cI23 cA23 s23 e23 hR23 f23 => WP_x (Fr3.trans F19 f23) (by first | (simp [wArgs, wArg, bnd_i, bnd_x, e1, c36, c51, e19, c36_, c51_, c36__, e23]; done) | simp_all [wArgs, wArg, bnd_i, bnd_x]) hR23)
            have F23 := Fr3.trans F19 f23
            refine ep_goto (tgt := 61) d_P_putArguments_45 (by decide) ?_
            refine ep_iinc (v := 7) (j := 3) (lv' := [(0, .ref 8), (1, .int x), (2, .int l), (3, .int 7), (4, .int (cN N x 6))]) [1, 2, 3, 0, 4] d_P_putArguments_61 rfl (by decide) (by decide) rfl ?_
            refine ep_goto (tgt := 8) d_P_putArguments_64 (by decide) ?_
            refine ep_iload_n (j := 3) d_P_putArguments_8 rfl rfl ?_
            refine ep_bipush (v := 6) d_P_putArguments_9 (by decide) ?_
            refine ep_icmp_gt (tgt := 67) d_P_putArguments_11 (by decide) (fun _ => ?_) (fun z => absurd (by decide) z)
            refine ep_aload_n (j := 0) d_P_putArguments_67 rfl rfl ?_
            refine ep_bipush (v := 69) d_P_putArguments_68 (by decide) ?_
            refine ep_callVw (As := [.int 69]) (st := []) d_P_putArguments_70 lk_P_29 cal_P_put tm_P_put ts_P_put rfl rfl rfl (Nat.le_of_ble_eq_true rfl) (Nat.le_of_ble_eq_true rfl) rfl rfl (P_put hR23 69) (fun q24 cI24 cA24 e24 hR24 f24 => ?_) (fun k cI24 cA24 s24 e24 hR24 f24 => WP_x (Fr3.trans F23 f24) (by first | (simp [wArgs, wArg, bnd_i, bnd_x, e1, c36, c51, e19, c36_, c51_, c36__, e23, e24]; done) | simp_all [wArgs, wArg, bnd_i, bnd_x]) hR24)
            have F24 := Fr3.trans F23 f24
            exact ep_vret d_P_putArguments_73 rfl (WP_ok (f := fun _ : WS => none) (q := q24) F24 (by first | (simp [wArgs, wArg, bnd_i, bnd_x, e1, c36, c51, e19, c36_, c51_, c36__, e23, e24]; done) | simp_all [wArgs, wArg, bnd_i, bnd_x]) hR24)
        · refine ep_aload_n (j := 0) d_P_putArguments_54 rfl rfl ?_
          refine ep_iload (j := 4) d_P_putArguments_55 rfl ?_
          refine ep_iload_n (j := 2) d_P_putArguments_57 rfl rfl ?_
          refine ep_callVw (As := [.int (cN N x 5), .int l]) (st := []) d_P_putArguments_58 lk_P_42 cal_P_putType tm_P_putType ts_P_putType rfl rfl rfl (Nat.le_of_ble_eq_true rfl) (Nat.le_of_ble_eq_true rfl) rfl rfl ((hrec false _ _ _ _ hR19).up (by omega)) (fun q25 cI25 cA25 e25 hR25 f25 => ?_) (fun k cI25 cA25 s25 e25 hR25 f25 => WP_x (Fr3.trans F19 f25) (by first | (simp [wArgs, wArg, bnd_i, bnd_x, e1, c36, c51, e19, c36_, c51_, e25]; done) | simp_all [wArgs, wArg, bnd_i, bnd_x]) hR25)
          have F25 := Fr3.trans F19 f25
          refine ep_iinc (v := 6) (j := 3) (lv' := [(0, .ref 8), (1, .int x), (2, .int l), (3, .int 6), (4, .int (cN N x 5))]) [1, 2, 3, 0, 4] d_P_putArguments_61 rfl (by decide) (by decide) rfl ?_
          refine ep_goto (tgt := 8) d_P_putArguments_64 (by decide) ?_
          refine ep_iload_n (j := 3) d_P_putArguments_8 rfl rfl ?_
          refine ep_bipush (v := 6) d_P_putArguments_9 (by decide) ?_
          refine ep_icmp_gt (tgt := 67) d_P_putArguments_11 (by decide) (fun z => absurd z (by decide)) (fun _ => ?_)
          refine ep_aload_n (j := 0) d_P_putArguments_14 rfl rfl ?_
          refine ep_getf (fi := 2) (v := .ref 2) d_P_putArguments_15 cl3 lf_P_21 (by decide) rfl rfl ?_
          refine ep_iload_n (j := 1) d_P_putArguments_18 rfl rfl ?_
          refine ep_iload_n (j := 3) d_P_putArguments_19 rfl rfl ?_
          refine ep_callVi (As := [.int x, .int 6]) (st := []) d_P_putArguments_20 lk_P_32 cal_D_cell tm_D_cell ts_D_cell rfl rfl rfl (Nat.le_of_ble_eq_true rfl) (Nat.le_of_ble_eq_true rfl) rfl rfl (D_cellN hR25.1 _ 6 (by decide +kernel) (by decide)) ?_
          refine ep_istore (lv' := [(0, .ref 8), (1, .int x), (2, .int l), (3, .int 6), (4, .int (cN N x 6))]) [1, 2, 3, 4, 0] d_P_putArguments_23 (by decide) rfl ?_
          refine ep_aload_n (j := 0) d_P_putArguments_25 rfl rfl ?_
          refine ep_getf (fi := 2) (v := .ref 2) d_P_putArguments_26 cl3 lf_P_21 (by decide) rfl rfl ?_
          refine ep_iload (j := 4) d_P_putArguments_29 rfl ?_
          refine ep_callVi (As := [.int (cN N x 6)]) (st := []) d_P_putArguments_31 lk_P_59 cal_D_kindOf tm_D_kindOf ts_D_kindOf rfl rfl rfl (Nat.le_of_ble_eq_true rfl) (Nat.le_of_ble_eq_true rfl) rfl rfl (D_kindN hR25.1 _) ?_
          refine ep_bipush (v := 9) d_P_putArguments_34 (by decide) ?_
          refine ep_icmp_ne (tgt := 48) d_P_putArguments_36 (by decide) (fun c36__ => ?_) (fun c36__ => ?_)
          · refine ep_iload (j := 4) d_P_putArguments_48 rfl ?_
            refine ep_iconst (v := (-1)) d_P_putArguments_50 (by decide) ?_
            refine ep_icmp_eq (tgt := 61) d_P_putArguments_51 (by decide) (fun c51__ => ?_) (fun c51__ => ?_)
            · refine ep_iinc (v := 7) (j := 3) (lv' := [(0, .ref 8), (1, .int x), (2, .int l), (3, .int 7), (4, .int (cN N x 6))]) [1, 2, 3, 0, 4] d_P_putArguments_61 rfl (by decide) (by decide) rfl ?_
              refine ep_goto (tgt := 8) d_P_putArguments_64 (by decide) ?_
              refine ep_iload_n (j := 3) d_P_putArguments_8 rfl rfl ?_
              refine ep_bipush (v := 6) d_P_putArguments_9 (by decide) ?_
              refine ep_icmp_gt (tgt := 67) d_P_putArguments_11 (by decide) (fun _ => ?_) (fun z => absurd (by decide) z)
              refine ep_aload_n (j := 0) d_P_putArguments_67 rfl rfl ?_
              refine ep_bipush (v := 69) d_P_putArguments_68 (by decide) ?_
              refine ep_callVw (As := [.int 69]) (st := []) d_P_putArguments_70 lk_P_29 cal_P_put tm_P_put ts_P_put rfl rfl rfl (Nat.le_of_ble_eq_true rfl) (Nat.le_of_ble_eq_true rfl) rfl rfl (P_put hR25 69) (fun q26 cI26 cA26 e26 hR26 f26 => ?_) (fun k cI26 cA26 s26 e26 hR26 f26 => WP_x (Fr3.trans F25 f26) (by first | (simp [wArgs, wArg, bnd_i, bnd_x, e1, c36, c51, e19, c36_, c51_, e25, c36__, c51__, e26]; done) | simp_all [wArgs, wArg, bnd_i, bnd_x]) hR26)
              have F26 := Fr3.trans F25 f26
              exact ep_vret d_P_putArguments_73 rfl (WP_ok (f := fun _ : WS => none) (q := q26) F26 (by first | (simp [wArgs, wArg, bnd_i, bnd_x, e1, c36, c51, e19, c36_, c51_, e25, c36__, c51__, e26]; done) | simp_all [wArgs, wArg, bnd_i, bnd_x]) hR26)
            · refine ep_aload_n (j := 0) d_P_putArguments_54 rfl rfl ?_
              refine ep_iload (j := 4) d_P_putArguments_55 rfl ?_
              refine ep_iload_n (j := 2) d_P_putArguments_57 rfl rfl ?_
              refine ep_callVw (As := [.int (cN N x 6), .int l]) (st := []) d_P_putArguments_58 lk_P_42 cal_P_putType tm_P_putType ts_P_putType rfl rfl rfl (Nat.le_of_ble_eq_true rfl) (Nat.le_of_ble_eq_true rfl) rfl rfl ((hrec false _ _ _ _ hR25).up (by omega)) (fun q27 cI27 cA27 e27 hR27 f27 => ?_) (fun k cI27 cA27 s27 e27 hR27 f27 => WP_x (Fr3.trans F25 f27) (by first | (simp [wArgs, wArg, bnd_i, bnd_x, e1, c36, c51, e19, c36_, c51_, e25, c36__, c51__, e27]; done) | simp_all [wArgs, wArg, bnd_i, bnd_x]) hR27)
              have F27 := Fr3.trans F25 f27
              refine ep_iinc (v := 7) (j := 3) (lv' := [(0, .ref 8), (1, .int x), (2, .int l), (3, .int 7), (4, .int (cN N x 6))]) [1, 2, 3, 0, 4] d_P_putArguments_61 rfl (by decide) (by decide) rfl ?_
              refine ep_goto (tgt := 8) d_P_putArguments_64 (by decide) ?_
              refine ep_iload_n (j := 3) d_P_putArguments_8 rfl rfl ?_
              refine ep_bipush (v := 6) d_P_putArguments_9 (by decide) ?_
              refine ep_icmp_gt (tgt := 67) d_P_putArguments_11 (by decide) (fun _ => ?_) (fun z => absurd (by decide) z)
              refine ep_aload_n (j := 0) d_P_putArguments_67 rfl rfl ?_
              refine ep_bipush (v := 69) d_P_putArguments_68 (by decide) ?_
              refine ep_callVw (As := [.int 69]) (st := []) d_P_putArguments_70 lk_P_29 cal_P_put tm_P_put ts_P_put rfl rfl rfl (Nat.le_of_ble_eq_true rfl) (Nat.le_of_ble_eq_true rfl) rfl rfl (P_put hR27 69) (fun q28 cI28 cA28 e28 hR28 f28 => ?_) (fun k cI28 cA28 s28 e28 hR28 f28 => WP_x (Fr3.trans F27 f28) (by first | (simp [wArgs, wArg, bnd_i, bnd_x, e1, c36, c51, e19, c36_, c51_, e25, c36__, c51__, e27, e28]; done) | simp_all [wArgs, wArg, bnd_i, bnd_x]) hR28)
              have F28 := Fr3.trans F27 f28
              exact ep_vret d_P_putArguments_73 rfl (WP_ok (f := fun _ : WS => none) (q := q28) F28 (by first | (simp [wArgs, wArg, bnd_i, bnd_x, e1, c36, c51, e19, c36_, c51_, e25, c36__, c51__, e27, e28]; done) | simp_all [wArgs, wArg, bnd_i, bnd_x]) hR28)
          · refine ep_aload_n (j := 0) d_P_putArguments_39 rfl rfl ?_
            refine ep_iload (j := 4) d_P_putArguments_40 rfl ?_
            refine ep_callVw (As := [.int (cN N x 6)]) (st := []) d_P_putArguments_42 lk_P_92 cal_P_putLiteral tm_P_putLiteral ts_P_putLiteral rfl rfl rfl (Nat.le_of_ble_eq_true rfl) (Nat.le_of_ble_eq_true rfl) rfl rfl (P_putLiteral hR25 (cN N x 6)) (fun q29 cI29 cA29 e29 hR29 f29 => ?_) (fun k cI29 cA29 s29 e29 hR29 f29 => WP_x (Fr3.trans F25 f29) (by first | (simp [wArgs, wArg, bnd_i, bnd_x, e1, c36, c51, e19, c36_, c51_, e25, c36__, e29]; done) | simp_all [wArgs, wArg, bnd_i, bnd_x]) hR29)
            have F29 := Fr3.trans F25 f29
            refine ep_goto (tgt := 61) d_P_putArguments_45 (by decide) ?_
            refine ep_iinc (v := 7) (j := 3) (lv' := [(0, .ref 8), (1, .int x), (2, .int l), (3, .int 7), (4, .int (cN N x 6))]) [1, 2, 3, 0, 4] d_P_putArguments_61 rfl (by decide) (by decide) rfl ?_
            refine ep_goto (tgt := 8) d_P_putArguments_64 (by decide) ?_
            refine ep_iload_n (j := 3) d_P_putArguments_8 rfl rfl ?_
            refine ep_bipush (v := 6) d_P_putArguments_9 (by decide) ?_
            refine ep_icmp_gt (tgt := 67) d_P_putArguments_11 (by decide) (fun _ => ?_) (fun z => absurd (by decide) z)
            refine ep_aload_n (j := 0) d_P_putArguments_67 rfl rfl ?_
            refine ep_bipush (v := 69) d_P_putArguments_68 (by decide) ?_
            refine ep_callVw (As := [.int 69]) (st := []) d_P_putArguments_70 lk_P_29 cal_P_put tm_P_put ts_P_put rfl rfl rfl (Nat.le_of_ble_eq_true rfl) (Nat.le_of_ble_eq_true rfl) rfl rfl (P_put hR29 69) (fun q30 cI30 cA30 e30 hR30 f30 => ?_) (fun k cI30 cA30 s30 e30 hR30 f30 => WP_x (Fr3.trans F29 f30) (by first | (simp [wArgs, wArg, bnd_i, bnd_x, e1, c36, c51, e19, c36_, c51_, e25, c36__, e29, e30]; done) | simp_all [wArgs, wArg, bnd_i, bnd_x]) hR30)
            have F30 := Fr3.trans F29 f30
            exact ep_vret d_P_putArguments_73 rfl (WP_ok (f := fun _ : WS => none) (q := q30) F30 (by first | (simp [wArgs, wArg, bnd_i, bnd_x, e1, c36, c51, e19, c36_, c51_, e25, c36__, e29, e30]; done) | simp_all [wArgs, wArg, bnd_i, bnd_x]) hR30)
      · refine ep_aload_n (j := 0) d_P_putArguments_39 rfl rfl ?_
        refine ep_iload (j := 4) d_P_putArguments_40 rfl ?_
        refine ep_callVw (As := [.int (cN N x 5)]) (st := []) d_P_putArguments_42 lk_P_92 cal_P_putLiteral tm_P_putLiteral ts_P_putLiteral rfl rfl rfl (Nat.le_of_ble_eq_true rfl) (Nat.le_of_ble_eq_true rfl) rfl rfl (P_putLiteral hR19 (cN N x 5)) (fun q31 cI31 cA31 e31 hR31 f31 => ?_) (fun k cI31 cA31 s31 e31 hR31 f31 => WP_x (Fr3.trans F19 f31) (by first | (simp [wArgs, wArg, bnd_i, bnd_x, e1, c36, c51, e19, c36_, e31]; done) | simp_all [wArgs, wArg, bnd_i, bnd_x]) hR31)
        have F31 := Fr3.trans F19 f31
        refine ep_goto (tgt := 61) d_P_putArguments_45 (by decide) ?_
        refine ep_iinc (v := 6) (j := 3) (lv' := [(0, .ref 8), (1, .int x), (2, .int l), (3, .int 6), (4, .int (cN N x 5))]) [1, 2, 3, 0, 4] d_P_putArguments_61 rfl (by decide) (by decide) rfl ?_
        refine ep_goto (tgt := 8) d_P_putArguments_64 (by decide) ?_
        refine ep_iload_n (j := 3) d_P_putArguments_8 rfl rfl ?_
        refine ep_bipush (v := 6) d_P_putArguments_9 (by decide) ?_
        refine ep_icmp_gt (tgt := 67) d_P_putArguments_11 (by decide) (fun z => absurd z (by decide)) (fun _ => ?_)
        refine ep_aload_n (j := 0) d_P_putArguments_14 rfl rfl ?_
        refine ep_getf (fi := 2) (v := .ref 2) d_P_putArguments_15 cl3 lf_P_21 (by decide) rfl rfl ?_
        refine ep_iload_n (j := 1) d_P_putArguments_18 rfl rfl ?_
        refine ep_iload_n (j := 3) d_P_putArguments_19 rfl rfl ?_
        refine ep_callVi (As := [.int x, .int 6]) (st := []) d_P_putArguments_20 lk_P_32 cal_D_cell tm_D_cell ts_D_cell rfl rfl rfl (Nat.le_of_ble_eq_true rfl) (Nat.le_of_ble_eq_true rfl) rfl rfl (D_cellN hR31.1 _ 6 (by decide +kernel) (by decide)) ?_
        refine ep_istore (lv' := [(0, .ref 8), (1, .int x), (2, .int l), (3, .int 6), (4, .int (cN N x 6))]) [1, 2, 3, 4, 0] d_P_putArguments_23 (by decide) rfl ?_
        refine ep_aload_n (j := 0) d_P_putArguments_25 rfl rfl ?_
        refine ep_getf (fi := 2) (v := .ref 2) d_P_putArguments_26 cl3 lf_P_21 (by decide) rfl rfl ?_
        refine ep_iload (j := 4) d_P_putArguments_29 rfl ?_
        refine ep_callVi (As := [.int (cN N x 6)]) (st := []) d_P_putArguments_31 lk_P_59 cal_D_kindOf tm_D_kindOf ts_D_kindOf rfl rfl rfl (Nat.le_of_ble_eq_true rfl) (Nat.le_of_ble_eq_true rfl) rfl rfl (D_kindN hR31.1 _) ?_
        refine ep_bipush (v := 9) d_P_putArguments_34 (by decide) ?_
        refine ep_icmp_ne (tgt := 48) d_P_putArguments_36 (by decide) (fun c36__ => ?_) (fun c36__ => ?_)
        · refine ep_iload (j := 4) d_P_putArguments_48 rfl ?_
          refine ep_iconst (v := (-1)) d_P_putArguments_50 (by decide) ?_
          refine ep_icmp_eq (tgt := 61) d_P_putArguments_51 (by decide) (fun c51_ => ?_) (fun c51_ => ?_)
          · refine ep_iinc (v := 7) (j := 3) (lv' := [(0, .ref 8), (1, .int x), (2, .int l), (3, .int 7), (4, .int (cN N x 6))]) [1, 2, 3, 0, 4] d_P_putArguments_61 rfl (by decide) (by decide) rfl ?_
            refine ep_goto (tgt := 8) d_P_putArguments_64 (by decide) ?_
            refine ep_iload_n (j := 3) d_P_putArguments_8 rfl rfl ?_
            refine ep_bipush (v := 6) d_P_putArguments_9 (by decide) ?_
            refine ep_icmp_gt (tgt := 67) d_P_putArguments_11 (by decide) (fun _ => ?_) (fun z => absurd (by decide) z)
            refine ep_aload_n (j := 0) d_P_putArguments_67 rfl rfl ?_
            refine ep_bipush (v := 69) d_P_putArguments_68 (by decide) ?_
            refine ep_callVw (As := [.int 69]) (st := []) d_P_putArguments_70 lk_P_29 cal_P_put tm_P_put ts_P_put rfl rfl rfl (Nat.le_of_ble_eq_true rfl) (Nat.le_of_ble_eq_true rfl) rfl rfl (P_put hR31 69) (fun q32 cI32 cA32 e32 hR32 f32 => ?_) (fun k cI32 cA32 s32 e32 hR32 f32 => WP_x (Fr3.trans F31 f32) (by first | (simp [wArgs, wArg, bnd_i, bnd_x, e1, c36, c51, e19, c36_, e31, c36__, c51_, e32]; done) | simp_all [wArgs, wArg, bnd_i, bnd_x]) hR32)
            have F32 := Fr3.trans F31 f32
            exact ep_vret d_P_putArguments_73 rfl (WP_ok (f := fun _ : WS => none) (q := q32) F32 (by first | (simp [wArgs, wArg, bnd_i, bnd_x, e1, c36, c51, e19, c36_, e31, c36__, c51_, e32]; done) | simp_all [wArgs, wArg, bnd_i, bnd_x]) hR32)
          · refine ep_aload_n (j := 0) d_P_putArguments_54 rfl rfl ?_
            refine ep_iload (j := 4) d_P_putArguments_55 rfl ?_
            refine ep_iload_n (j := 2) d_P_putArguments_57 rfl rfl ?_
            refine ep_callVw (As := [.int (cN N x 6), .int l]) (st := []) d_P_putArguments_58 lk_P_42 cal_P_putType tm_P_putType ts_P_putType rfl rfl rfl (Nat.le_of_ble_eq_true rfl) (Nat.le_of_ble_eq_true rfl) rfl rfl ((hrec false _ _ _ _ hR31).up (by omega)) (fun q33 cI33 cA33 e33 hR33 f33 => ?_) (fun k cI33 cA33 s33 e33 hR33 f33 => WP_x (Fr3.trans F31 f33) (by first | (simp [wArgs, wArg, bnd_i, bnd_x, e1, c36, c51, e19, c36_, e31, c36__, c51_, e33]; done) | simp_all [wArgs, wArg, bnd_i, bnd_x]) hR33)
            have F33 := Fr3.trans F31 f33
            refine ep_iinc (v := 7) (j := 3) (lv' := [(0, .ref 8), (1, .int x), (2, .int l), (3, .int 7), (4, .int (cN N x 6))]) [1, 2, 3, 0, 4] d_P_putArguments_61 rfl (by decide) (by decide) rfl ?_
            refine ep_goto (tgt := 8) d_P_putArguments_64 (by decide) ?_
            refine ep_iload_n (j := 3) d_P_putArguments_8 rfl rfl ?_
            refine ep_bipush (v := 6) d_P_putArguments_9 (by decide) ?_
            refine ep_icmp_gt (tgt := 67) d_P_putArguments_11 (by decide) (fun _ => ?_) (fun z => absurd (by decide) z)
            refine ep_aload_n (j := 0) d_P_putArguments_67 rfl rfl ?_
            refine ep_bipush (v := 69) d_P_putArguments_68 (by decide) ?_
            refine ep_callVw (As := [.int 69]) (st := []) d_P_putArguments_70 lk_P_29 cal_P_put tm_P_put ts_P_put rfl rfl rfl (Nat.le_of_ble_eq_true rfl) (Nat.le_of_ble_eq_true rfl) rfl rfl (P_put hR33 69) (fun q34 cI34 cA34 e34 hR34 f34 => ?_) (fun k cI34 cA34 s34 e34 hR34 f34 => WP_x (Fr3.trans F33 f34) (by first | (simp [wArgs, wArg, bnd_i, bnd_x, e1, c36, c51, e19, c36_, e31, c36__, c51_, e33, e34]; done) | simp_all [wArgs, wArg, bnd_i, bnd_x]) hR34)
            have F34 := Fr3.trans F33 f34
            exact ep_vret d_P_putArguments_73 rfl (WP_ok (f := fun _ : WS => none) (q := q34) F34 (by first | (simp [wArgs, wArg, bnd_i, bnd_x, e1, c36, c51, e19, c36_, e31, c36__, c51_, e33, e34]; done) | simp_all [wArgs, wArg, bnd_i, bnd_x]) hR34)
        · refine ep_aload_n (j := 0) d_P_putArguments_39 rfl rfl ?_
          refine ep_iload (j := 4) d_P_putArguments_40 rfl ?_
          refine ep_callVw (As := [.int (cN N x 6)]) (st := []) d_P_putArguments_42 lk_P_92 cal_P_putLiteral tm_P_putLiteral ts_P_putLiteral rfl rfl rfl (Nat.le_of_ble_eq_true rfl) (Nat.le_of_ble_eq_true rfl) rfl rfl (P_putLiteral hR31 (cN N x 6)) (fun q35 cI35 cA35 e35 hR35 f35 => ?_) (fun k cI35 cA35 s35 e35 hR35 f35 => WP_x (Fr3.trans F31 f35) (by first | (simp [wArgs, wArg, bnd_i, bnd_x, e1, c36, c51, e19, c36_, e31, c36__, e35]; done) | simp_all [wArgs, wArg, bnd_i, bnd_x]) hR35)
          have F35 := Fr3.trans F31 f35
          refine ep_goto (tgt := 61) d_P_putArguments_45 (by decide) ?_
          refine ep_iinc (v := 7) (j := 3) (lv' := [(0, .ref 8), (1, .int x), (2, .int l), (3, .int 7), (4, .int (cN N x 6))]) [1, 2, 3, 0, 4] d_P_putArguments_61 rfl (by decide) (by decide) rfl ?_
          refine ep_goto (tgt := 8) d_P_putArguments_64 (by decide) ?_
          refine ep_iload_n (j := 3) d_P_putArguments_8 rfl rfl ?_
          refine ep_bipush (v := 6) d_P_putArguments_9 (by decide) ?_
          refine ep_icmp_gt (tgt := 67) d_P_putArguments_11 (by decide) (fun _ => ?_) (fun z => absurd (by decide) z)
          refine ep_aload_n (j := 0) d_P_putArguments_67 rfl rfl ?_
          refine ep_bipush (v := 69) d_P_putArguments_68 (by decide) ?_
          refine ep_callVw (As := [.int 69]) (st := []) d_P_putArguments_70 lk_P_29 cal_P_put tm_P_put ts_P_put rfl rfl rfl (Nat.le_of_ble_eq_true rfl) (Nat.le_of_ble_eq_true rfl) rfl rfl (P_put hR35 69) (fun q36 cI36 cA36 e36 hR36 f36 => ?_) (fun k cI36 cA36 s36 e36 hR36 f36 => WP_x (Fr3.trans F35 f36) (by first | (simp [wArgs, wArg, bnd_i, bnd_x, e1, c36, c51, e19, c36_, e31, c36__, e35, e36]; done) | simp_all [wArgs, wArg, bnd_i, bnd_x]) hR36)
          have F36 := Fr3.trans F35 f36
          exact ep_vret d_P_putArguments_73 rfl (WP_ok (f := fun _ : WS => none) (q := q36) F36 (by first | (simp [wArgs, wArg, bnd_i, bnd_x, e1, c36, c51, e19, c36_, e31, c36__, e35, e36]; done) | simp_all [wArgs, wArg, bnd_i, bnd_x]) hR36)
  · refine ep_aload_n (j := 0) d_P_putArguments_39 rfl rfl ?_
    refine ep_iload (j := 4) d_P_putArguments_40 rfl ?_
    refine ep_callVw (As := [.int (cN N x 4)]) (st := []) d_P_putArguments_42 lk_P_92 cal_P_putLiteral tm_P_putLiteral ts_P_putLiteral rfl rfl rfl (Nat.le_of_ble_eq_true rfl) (Nat.le_of_ble_eq_true rfl) rfl rfl (P_putLiteral hR1 (cN N x 4)) (fun q37 cI37 cA37 e37 hR37 f37 => ?_) (fun k cI37 cA37 s37 e37 hR37 f37 => WP_x (Fr3.trans F1 f37) (by first | (simp [wArgs, wArg, bnd_i, bnd_x, e1, c36, e37]; done) | simp_all [wArgs, wArg, bnd_i, bnd_x]) hR37)
    have F37 := Fr3.trans F1 f37
    refine ep_goto (tgt := 61) d_P_putArguments_45 (by decide) ?_
    refine ep_iinc (v := 5) (j := 3) (lv' := [(0, .ref 8), (1, .int x), (2, .int l), (3, .int 5), (4, .int (cN N x 4))]) [1, 2, 3, 0, 4] d_P_putArguments_61 rfl (by decide) (by decide) rfl ?_
    refine ep_goto (tgt := 8) d_P_putArguments_64 (by decide) ?_
    refine ep_iload_n (j := 3) d_P_putArguments_8 rfl rfl ?_
    refine ep_bipush (v := 6) d_P_putArguments_9 (by decide) ?_
    refine ep_icmp_gt (tgt := 67) d_P_putArguments_11 (by decide) (fun z => absurd z (by decide)) (fun _ => ?_)
    refine ep_aload_n (j := 0) d_P_putArguments_14 rfl rfl ?_
    refine ep_getf (fi := 2) (v := .ref 2) d_P_putArguments_15 cl3 lf_P_21 (by decide) rfl rfl ?_
    refine ep_iload_n (j := 1) d_P_putArguments_18 rfl rfl ?_
    refine ep_iload_n (j := 3) d_P_putArguments_19 rfl rfl ?_
    refine ep_callVi (As := [.int x, .int 5]) (st := []) d_P_putArguments_20 lk_P_32 cal_D_cell tm_D_cell ts_D_cell rfl rfl rfl (Nat.le_of_ble_eq_true rfl) (Nat.le_of_ble_eq_true rfl) rfl rfl (D_cellN hR37.1 _ 5 (by decide +kernel) (by decide)) ?_
    refine ep_istore (lv' := [(0, .ref 8), (1, .int x), (2, .int l), (3, .int 5), (4, .int (cN N x 5))]) [1, 2, 3, 4, 0] d_P_putArguments_23 (by decide) rfl ?_
    refine ep_aload_n (j := 0) d_P_putArguments_25 rfl rfl ?_
    refine ep_getf (fi := 2) (v := .ref 2) d_P_putArguments_26 cl3 lf_P_21 (by decide) rfl rfl ?_
    refine ep_iload (j := 4) d_P_putArguments_29 rfl ?_
    refine ep_callVi (As := [.int (cN N x 5)]) (st := []) d_P_putArguments_31 lk_P_59 cal_D_kindOf tm_D_kindOf ts_D_kindOf rfl rfl rfl (Nat.le_of_ble_eq_true rfl) (Nat.le_of_ble_eq_true rfl) rfl rfl (D_kindN hR37.1 _) ?_
    refine ep_bipush (v := 9) d_P_putArguments_34 (by decide) ?_
    refine ep_icmp_ne (tgt := 48) d_P_putArguments_36 (by decide) (fun c36_ => ?_) (fun c36_ => ?_)
    · refine ep_iload (j := 4) d_P_putArguments_48 rfl ?_
      refine ep_iconst (v := (-1)) d_P_putArguments_50 (by decide) ?_
      refine ep_icmp_eq (tgt := 61) d_P_putArguments_51 (by decide) (fun c51 => ?_) (fun c51 => ?_)
      · refine ep_iinc (v := 6) (j := 3) (lv' := [(0, .ref 8), (1, .int x), (2, .int l), (3, .int 6), (4, .int (cN N x 5))]) [1, 2, 3, 0, 4] d_P_putArguments_61 rfl (by decide) (by decide) rfl ?_
        refine ep_goto (tgt := 8) d_P_putArguments_64 (by decide) ?_
        refine ep_iload_n (j := 3) d_P_putArguments_8 rfl rfl ?_
        refine ep_bipush (v := 6) d_P_putArguments_9 (by decide) ?_
        refine ep_icmp_gt (tgt := 67) d_P_putArguments_11 (by decide) (fun z => absurd z (by decide)) (fun _ => ?_)
        refine ep_aload_n (j := 0) d_P_putArguments_14 rfl rfl ?_
        refine ep_getf (fi := 2) (v := .ref 2) d_P_putArguments_15 cl3 lf_P_21 (by decide) rfl rfl ?_
        refine ep_iload_n (j := 1) d_P_putArguments_18 rfl rfl ?_
        refine ep_iload_n (j := 3) d_P_putArguments_19 rfl rfl ?_
        refine ep_callVi (As := [.int x, .int 6]) (st := []) d_P_putArguments_20 lk_P_32 cal_D_cell tm_D_cell ts_D_cell rfl rfl rfl (Nat.le_of_ble_eq_true rfl) (Nat.le_of_ble_eq_true rfl) rfl rfl (D_cellN hR37.1 _ 6 (by decide +kernel) (by decide)) ?_
        refine ep_istore (lv' := [(0, .ref 8), (1, .int x), (2, .int l), (3, .int 6), (4, .int (cN N x 6))]) [1, 2, 3, 4, 0] d_P_putArguments_23 (by decide) rfl ?_
        refine ep_aload_n (j := 0) d_P_putArguments_25 rfl rfl ?_
        refine ep_getf (fi := 2) (v := .ref 2) d_P_putArguments_26 cl3 lf_P_21 (by decide) rfl rfl ?_
        refine ep_iload (j := 4) d_P_putArguments_29 rfl ?_
        refine ep_callVi (As := [.int (cN N x 6)]) (st := []) d_P_putArguments_31 lk_P_59 cal_D_kindOf tm_D_kindOf ts_D_kindOf rfl rfl rfl (Nat.le_of_ble_eq_true rfl) (Nat.le_of_ble_eq_true rfl) rfl rfl (D_kindN hR37.1 _) ?_
        refine ep_bipush (v := 9) d_P_putArguments_34 (by decide) ?_
        refine ep_icmp_ne (tgt := 48) d_P_putArguments_36 (by decide) (fun c36__ => ?_) (fun c36__ => ?_)
        · refine ep_iload (j := 4) d_P_putArguments_48 rfl ?_
          refine ep_iconst (v := (-1)) d_P_putArguments_50 (by decide) ?_
          refine ep_icmp_eq (tgt := 61) d_P_putArguments_51 (by decide) (fun c51_ => ?_) (fun c51_ => ?_)
          · refine ep_iinc (v := 7) (j := 3) (lv' := [(0, .ref 8), (1, .int x), (2, .int l), (3, .int 7), (4, .int (cN N x 6))]) [1, 2, 3, 0, 4] d_P_putArguments_61 rfl (by decide) (by decide) rfl ?_
            refine ep_goto (tgt := 8) d_P_putArguments_64 (by decide) ?_
            refine ep_iload_n (j := 3) d_P_putArguments_8 rfl rfl ?_
            refine ep_bipush (v := 6) d_P_putArguments_9 (by decide) ?_
            refine ep_icmp_gt (tgt := 67) d_P_putArguments_11 (by decide) (fun _ => ?_) (fun z => absurd (by decide) z)
            refine ep_aload_n (j := 0) d_P_putArguments_67 rfl rfl ?_
            refine ep_bipush (v := 69) d_P_putArguments_68 (by decide) ?_
            refine ep_callVw (As := [.int 69]) (st := []) d_P_putArguments_70 lk_P_29 cal_P_put tm_P_put ts_P_put rfl rfl rfl (Nat.le_of_ble_eq_true rfl) (Nat.le_of_ble_eq_true rfl) rfl rfl (P_put hR37 69) (fun q38 cI38 cA38 e38 hR38 f38 => ?_) (fun k cI38 cA38 s38 e38 hR38 f38 => WP_x (Fr3.trans F37 f38) (by first | (simp [wArgs, wArg, bnd_i, bnd_x, e1, c36, e37, c36_, c51, c36__, c51_, e38]; done) | simp_all [wArgs, wArg, bnd_i, bnd_x]) hR38)
            have F38 := Fr3.trans F37 f38
            exact ep_vret d_P_putArguments_73 rfl (WP_ok (f := fun _ : WS => none) (q := q38) F38 (by first | (simp [wArgs, wArg, bnd_i, bnd_x, e1, c36, e37, c36_, c51, c36__, c51_, e38]; done) | simp_all [wArgs, wArg, bnd_i, bnd_x]) hR38)
          · refine ep_aload_n (j := 0) d_P_putArguments_54 rfl rfl ?_
            refine ep_iload (j := 4) d_P_putArguments_55 rfl ?_
            refine ep_iload_n (j := 2) d_P_putArguments_57 rfl rfl ?_
            refine ep_callVw (As := [.int (cN N x 6), .int l]) (st := []) d_P_putArguments_58 lk_P_42 cal_P_putType tm_P_putType ts_P_putType rfl rfl rfl (Nat.le_of_ble_eq_true rfl) (Nat.le_of_ble_eq_true rfl) rfl rfl ((hrec false _ _ _ _ hR37).up (by omega)) (fun q39 cI39 cA39 e39 hR39 f39 => ?_) (fun k cI39 cA39 s39 e39 hR39 f39 => WP_x (Fr3.trans F37 f39) (by first | (simp [wArgs, wArg, bnd_i, bnd_x, e1, c36, e37, c36_, c51, c36__, c51_, e39]; done) | simp_all [wArgs, wArg, bnd_i, bnd_x]) hR39)
            have F39 := Fr3.trans F37 f39
            refine ep_iinc (v := 7) (j := 3) (lv' := [(0, .ref 8), (1, .int x), (2, .int l), (3, .int 7), (4, .int (cN N x 6))]) [1, 2, 3, 0, 4] d_P_putArguments_61 rfl (by decide) (by decide) rfl ?_
            refine ep_goto (tgt := 8) d_P_putArguments_64 (by decide) ?_
            refine ep_iload_n (j := 3) d_P_putArguments_8 rfl rfl ?_
            refine ep_bipush (v := 6) d_P_putArguments_9 (by decide) ?_
            refine ep_icmp_gt (tgt := 67) d_P_putArguments_11 (by decide) (fun _ => ?_) (fun z => absurd (by decide) z)
            refine ep_aload_n (j := 0) d_P_putArguments_67 rfl rfl ?_
            refine ep_bipush (v := 69) d_P_putArguments_68 (by decide) ?_
            refine ep_callVw (As := [.int 69]) (st := []) d_P_putArguments_70 lk_P_29 cal_P_put tm_P_put ts_P_put rfl rfl rfl (Nat.le_of_ble_eq_true rfl) (Nat.le_of_ble_eq_true rfl) rfl rfl (P_put hR39 69) (fun q40 cI40 cA40 e40 hR40 f40 => ?_) (fun k cI40 cA40 s40 e40 hR40 f40 => WP_x (Fr3.trans F39 f40) (by first | (simp [wArgs, wArg, bnd_i, bnd_x, e1, c36, e37, c36_, c51, c36__, c51_, e39, e40]; done) | simp_all [wArgs, wArg, bnd_i, bnd_x]) hR40)
            have F40 := Fr3.trans F39 f40
            exact ep_vret d_P_putArguments_73 rfl (WP_ok (f := fun _ : WS => none) (q := q40) F40 (by first | (simp [wArgs, wArg, bnd_i, bnd_x, e1, c36, e37, c36_, c51, c36__, c51_, e39, e40]; done) | simp_all [wArgs, wArg, bnd_i, bnd_x]) hR40)
        · refine ep_aload_n (j := 0) d_P_putArguments_39 rfl rfl ?_
          refine ep_iload (j := 4) d_P_putArguments_40 rfl ?_
          refine ep_callVw (As := [.int (cN N x 6)]) (st := []) d_P_putArguments_42 lk_P_92 cal_P_putLiteral tm_P_putLiteral ts_P_putLiteral rfl rfl rfl (Nat.le_of_ble_eq_true rfl) (Nat.le_of_ble_eq_true rfl) rfl rfl (P_putLiteral hR37 (cN N x 6)) (fun q41 cI41 cA41 e41 hR41 f41 => ?_) (fun k cI41 cA41 s41 e41 hR41 f41 => WP_x (Fr3.trans F37 f41) (by first | (simp [wArgs, wArg, bnd_i, bnd_x, e1, c36, e37, c36_, c51, c36__, e41]; done) | simp_all [wArgs, wArg, bnd_i, bnd_x]) hR41)
          have F41 := Fr3.trans F37 f41
          refine ep_goto (tgt := 61) d_P_putArguments_45 (by decide) ?_
          refine ep_iinc (v := 7) (j := 3) (lv' := [(0, .ref 8), (1, .int x), (2, .int l), (3, .int 7), (4, .int (cN N x 6))]) [1, 2, 3, 0, 4] d_P_putArguments_61 rfl (by decide) (by decide) rfl ?_
          refine ep_goto (tgt := 8) d_P_putArguments_64 (by decide) ?_
          refine ep_iload_n (j := 3) d_P_putArguments_8 rfl rfl ?_
          refine ep_bipush (v := 6) d_P_putArguments_9 (by decide) ?_
          refine ep_icmp_gt (tgt := 67) d_P_putArguments_11 (by decide) (fun _ => ?_) (fun z => absurd (by decide) z)
          refine ep_aload_n (j := 0) d_P_putArguments_67 rfl rfl ?_
          refine ep_bipush (v := 69) d_P_putArguments_68 (by decide) ?_
          refine ep_callVw (As := [.int 69]) (st := []) d_P_putArguments_70 lk_P_29 cal_P_put tm_P_put ts_P_put rfl rfl rfl (Nat.le_of_ble_eq_true rfl) (Nat.le_of_ble_eq_true rfl) rfl rfl (P_put hR41 69) (fun q42 cI42 cA42 e42 hR42 f42 => ?_) (fun k cI42 cA42 s42 e42 hR42 f42 => WP_x (Fr3.trans F41 f42) (by first | (simp [wArgs, wArg, bnd_i, bnd_x, e1, c36, e37, c36_, c51, c36__, e41, e42]; done) | simp_all [wArgs, wArg, bnd_i, bnd_x]) hR42)
          have F42 := Fr3.trans F41 f42
          exact ep_vret d_P_putArguments_73 rfl (WP_ok (f := fun _ : WS => none) (q := q42) F42 (by first | (simp [wArgs, wArg, bnd_i, bnd_x, e1, c36, e37, c36_, c51, c36__, e41, e42]; done) | simp_all [wArgs, wArg, bnd_i, bnd_x]) hR42)
      · refine ep_aload_n (j := 0) d_P_putArguments_54 rfl rfl ?_
        refine ep_iload (j := 4) d_P_putArguments_55 rfl ?_
        refine ep_iload_n (j := 2) d_P_putArguments_57 rfl rfl ?_
        refine ep_callVw (As := [.int (cN N x 5), .int l]) (st := []) d_P_putArguments_58 lk_P_42 cal_P_putType tm_P_putType ts_P_putType rfl rfl rfl (Nat.le_of_ble_eq_true rfl) (Nat.le_of_ble_eq_true rfl) rfl rfl ((hrec false _ _ _ _ hR37).up (by omega)) (fun q43 cI43 cA43 e43 hR43 f43 => ?_) (fun k cI43 cA43 s43 e43 hR43 f43 => WP_x (Fr3.trans F37 f43) (by first | (simp [wArgs, wArg, bnd_i, bnd_x, e1, c36, e37, c36_, c51, e43]; done) | simp_all [wArgs, wArg, bnd_i, bnd_x]) hR43)
        have F43 := Fr3.trans F37 f43
        refine ep_iinc (v := 6) (j := 3) (lv' := [(0, .ref 8), (1, .int x), (2, .int l), (3, .int 6), (4, .int (cN N x 5))]) [1, 2, 3, 0, 4] d_P_putArguments_61 rfl (by decide) (by decide) rfl ?_
        refine ep_goto (tgt := 8) d_P_putArguments_64 (by decide) ?_
        refine ep_iload_n (j := 3) d_P_putArguments_8 rfl rfl ?_
        refine ep_bipush (v := 6) d_P_putArguments_9 (by decide) ?_
        refine ep_icmp_gt (tgt := 67) d_P_putArguments_11 (by decide) (fun z => absurd z (by decide)) (fun _ => ?_)
        refine ep_aload_n (j := 0) d_P_putArguments_14 rfl rfl ?_
        refine ep_getf (fi := 2) (v := .ref 2) d_P_putArguments_15 cl3 lf_P_21 (by decide) rfl rfl ?_
        refine ep_iload_n (j := 1) d_P_putArguments_18 rfl rfl ?_
        refine ep_iload_n (j := 3) d_P_putArguments_19 rfl rfl ?_
        refine ep_callVi (As := [.int x, .int 6]) (st := []) d_P_putArguments_20 lk_P_32 cal_D_cell tm_D_cell ts_D_cell rfl rfl rfl (Nat.le_of_ble_eq_true rfl) (Nat.le_of_ble_eq_true rfl) rfl rfl (D_cellN hR43.1 _ 6 (by decide +kernel) (by decide)) ?_
        refine ep_istore (lv' := [(0, .ref 8), (1, .int x), (2, .int l), (3, .int 6), (4, .int (cN N x 6))]) [1, 2, 3, 4, 0] d_P_putArguments_23 (by decide) rfl ?_
        refine ep_aload_n (j := 0) d_P_putArguments_25 rfl rfl ?_
        refine ep_getf (fi := 2) (v := .ref 2) d_P_putArguments_26 cl3 lf_P_21 (by decide) rfl rfl ?_
        refine ep_iload (j := 4) d_P_putArguments_29 rfl ?_
        refine ep_callVi (As := [.int (cN N x 6)]) (st := []) d_P_putArguments_31 lk_P_59 cal_D_kindOf tm_D_kindOf ts_D_kindOf rfl rfl rfl (Nat.le_of_ble_eq_true rfl) (Nat.le_of_ble_eq_true rfl) rfl rfl (D_kindN hR43.1 _) ?_
        refine ep_bipush (v := 9) d_P_putArguments_34 (by decide) ?_
        refine ep_icmp_ne (tgt := 48) d_P_putArguments_36 (by decide) (fun c36__ => ?_) (fun c36__ => ?_)
        · refine ep_iload (j := 4) d_P_putArguments_48 rfl ?_
          refine ep_iconst (v := (-1)) d_P_putArguments_50 (by decide) ?_
          refine ep_icmp_eq (tgt := 61) d_P_putArguments_51 (by decide) (fun c51_ => ?_) (fun c51_ => ?_)
          · refine ep_iinc (v := 7) (j := 3) (lv' := [(0, .ref 8), (1, .int x), (2, .int l), (3, .int 7), (4, .int (cN N x 6))]) [1, 2, 3, 0, 4] d_P_putArguments_61 rfl (by decide) (by decide) rfl ?_
            refine ep_goto (tgt := 8) d_P_putArguments_64 (by decide) ?_
            refine ep_iload_n (j := 3) d_P_putArguments_8 rfl rfl ?_
            refine ep_bipush (v := 6) d_P_putArguments_9 (by decide) ?_
            refine ep_icmp_gt (tgt := 67) d_P_putArguments_11 (by decide) (fun _ => ?_) (fun z => absurd (by decide) z)
            refine ep_aload_n (j := 0) d_P_putArguments_67 rfl rfl ?_
            refine ep_bipush (v := 69) d_P_putArguments_68 (by decide) ?_
            refine ep_callVw (As := [.int 69]) (st := []) d_P_putArguments_70 lk_P_29 cal_P_put tm_P_put ts_P_put rfl rfl rfl (Nat.le_of_ble_eq_true rfl) (Nat.le_of_ble_eq_true rfl) rfl rfl (P_put hR43 69) (fun q44 cI44 cA44 e44 hR44 f44 => ?_) (fun k cI44 cA44 s44 e44 hR44 f44 => WP_x (Fr3.trans F43 f44) (by first | (simp [wArgs, wArg, bnd_i, bnd_x, e1, c36, e37, c36_, c51, e43, c36__, c51_, e44]; done) | simp_all [wArgs, wArg, bnd_i, bnd_x]) hR44)
            have F44 := Fr3.trans F43 f44
            exact ep_vret d_P_putArguments_73 rfl (WP_ok (f := fun _ : WS => none) (q := q44) F44 (by first | (simp [wArgs, wArg, bnd_i, bnd_x, e1, c36, e37, c36_, c51, e43, c36__, c51_, e44]; done) | simp_all [wArgs, wArg, bnd_i, bnd_x]) hR44)
          · refine ep_aload_n (j := 0) d_P_putArguments_54 rfl rfl ?_
            refine ep_iload (j := 4) d_P_putArguments_55 rfl ?_
            refine ep_iload_n (j := 2) d_P_putArguments_57 rfl rfl ?_
            refine ep_callVw (As := [.int (cN N x 6), .int l]) (st := []) d_P_putArguments_58 lk_P_42 cal_P_putType tm_P_putType ts_P_putType rfl rfl rfl (Nat.le_of_ble_eq_true rfl) (Nat.le_of_ble_eq_true rfl) rfl rfl ((hrec false _ _ _ _ hR43).up (by omega)) (fun q45 cI45 cA45 e45 hR45 f45 => ?_) (fun k cI45 cA45 s45 e45 hR45 f45 => WP_x (Fr3.trans F43 f45) (by first | (simp [wArgs, wArg, bnd_i, bnd_x, e1, c36, e37, c36_, c51, e43, c36__, c51_, e45]; done) | simp_all [wArgs, wArg, bnd_i, bnd_x]) hR45)
            have F45 := Fr3.trans F43 f45
            refine ep_iinc (v := 7) (j := 3) (lv' := [(0, .ref 8), (1, .int x), (2, .int l), (3, .int 7), (4, .int (cN N x 6))]) [1, 2, 3, 0, 4] d_P_putArguments_61 rfl (by decide) (by decide) rfl ?_
            refine ep_goto (tgt := 8) d_P_putArguments_64 (by decide) ?_
            refine ep_iload_n (j := 3) d_P_putArguments_8 rfl rfl ?_
            refine ep_bipush (v := 6) d_P_putArguments_9 (by decide) ?_
            refine ep_icmp_gt (tgt := 67) d_P_putArguments_11 (by decide) (fun _ => ?_) (fun z => absurd (by decide) z)
            refine ep_aload_n (j := 0) d_P_putArguments_67 rfl rfl ?_
            refine ep_bipush (v := 69) d_P_putArguments_68 (by decide) ?_
            refine ep_callVw (As := [.int 69]) (st := []) d_P_putArguments_70 lk_P_29 cal_P_put tm_P_put ts_P_put rfl rfl rfl (Nat.le_of_ble_eq_true rfl) (Nat.le_of_ble_eq_true rfl) rfl rfl (P_put hR45 69) (fun q46 cI46 cA46 e46 hR46 f46 => ?_) (fun k cI46 cA46 s46 e46 hR46 f46 => WP_x (Fr3.trans F45 f46) (by first | (simp [wArgs, wArg, bnd_i, bnd_x, e1, c36, e37, c36_, c51, e43, c36__, c51_, e45, e46]; done) | simp_all [wArgs, wArg, bnd_i, bnd_x]) hR46)
            have F46 := Fr3.trans F45 f46
            exact ep_vret d_P_putArguments_73 rfl (WP_ok (f := fun _ : WS => none) (q := q46) F46 (by first | (simp [wArgs, wArg, bnd_i, bnd_x, e1, c36, e37, c36_, c51, e43, c36__, c51_, e45, e46]; done) | simp_all [wArgs, wArg, bnd_i, bnd_x]) hR46)
        · refine ep_aload_n (j := 0) d_P_putArguments_39 rfl rfl ?_
          refine ep_iload (j := 4) d_P_putArguments_40 rfl ?_
          refine ep_callVw (As := [.int (cN N x 6)]) (st := []) d_P_putArguments_42 lk_P_92 cal_P_putLiteral tm_P_putLiteral ts_P_putLiteral rfl rfl rfl (Nat.le_of_ble_eq_true rfl) (Nat.le_of_ble_eq_true rfl) rfl rfl (P_putLiteral hR43 (cN N x 6)) (fun q47 cI47 cA47 e47 hR47 f47 => ?_) (fun k cI47 cA47 s47 e47 hR47 f47 => WP_x (Fr3.trans F43 f47) (by first | (simp [wArgs, wArg, bnd_i, bnd_x, e1, c36, e37, c36_, c51, e43, c36__, e47]; done) | simp_all [wArgs, wArg, bnd_i, bnd_x]) hR47)
          have F47 := Fr3.trans F43 f47
          refine ep_goto (tgt := 61) d_P_putArguments_45 (by decide) ?_
          refine ep_iinc (v := 7) (j := 3) (lv' := [(0, .ref 8), (1, .int x), (2, .int l), (3, .int 7), (4, .int (cN N x 6))]) [1, 2, 3, 0, 4] d_P_putArguments_61 rfl (by decide) (by decide) rfl ?_
          refine ep_goto (tgt := 8) d_P_putArguments_64 (by decide) ?_
          refine ep_iload_n (j := 3) d_P_putArguments_8 rfl rfl ?_
          refine ep_bipush (v := 6) d_P_putArguments_9 (by decide) ?_
          refine ep_icmp_gt (tgt := 67) d_P_putArguments_11 (by decide) (fun _ => ?_) (fun z => absurd (by decide) z)
          refine ep_aload_n (j := 0) d_P_putArguments_67 rfl rfl ?_
          refine ep_bipush (v := 69) d_P_putArguments_68 (by decide) ?_
          refine ep_callVw (As := [.int 69]) (st := []) d_P_putArguments_70 lk_P_29 cal_P_put tm_P_put ts_P_put rfl rfl rfl (Nat.le_of_ble_eq_true rfl) (Nat.le_of_ble_eq_true rfl) rfl rfl (P_put hR47 69) (fun q48 cI48 cA48 e48 hR48 f48 => ?_) (fun k cI48 cA48 s48 e48 hR48 f48 => WP_x (Fr3.trans F47 f48) (by first | (simp [wArgs, wArg, bnd_i, bnd_x, e1, c36, e37, c36_, c51, e43, c36__, e47, e48]; done) | simp_all [wArgs, wArg, bnd_i, bnd_x]) hR48)
          have F48 := Fr3.trans F47 f48
          exact ep_vret d_P_putArguments_73 rfl (WP_ok (f := fun _ : WS => none) (q := q48) F48 (by first | (simp [wArgs, wArg, bnd_i, bnd_x, e1, c36, e37, c36_, c51, e43, c36__, e47, e48]; done) | simp_all [wArgs, wArg, bnd_i, bnd_x]) hR48)
    · refine ep_aload_n (j := 0) d_P_putArguments_39 rfl rfl ?_
      refine ep_iload (j := 4) d_P_putArguments_40 rfl ?_
      refine ep_callVw (As := [.int (cN N x 5)]) (st := []) d_P_putArguments_42 lk_P_92 cal_P_putLiteral tm_P_putLiteral ts_P_putLiteral rfl rfl rfl (Nat.le_of_ble_eq_true rfl) (Nat.le_of_ble_eq_true rfl) rfl rfl (P_putLiteral hR37 (cN N x 5)) (fun q49 cI49 cA49 e49 hR49 f49 => ?_) (fun k cI49 cA49 s49 e49 hR49 f49 => WP_x (Fr3.trans F37 f49) (by first | (simp [wArgs, wArg, bnd_i, bnd_x, e1, c36, e37, c36_, e49]; done) | simp_all [wArgs, wArg, bnd_i, bnd_x]) hR49)
      have F49 := Fr3.trans F37 f49
      refine ep_goto (tgt := 61) d_P_putArguments_45 (by decide) ?_
      refine ep_iinc (v := 6) (j := 3) (lv' := [(0, .ref 8), (1, .int x), (2, .int l), (3, .int 6), (4, .int (cN N x 5))]) [1, 2, 3, 0, 4] d_P_putArguments_61 rfl (by decide) (by decide) rfl ?_
      refine ep_goto (tgt := 8) d_P_putArguments_64 (by decide) ?_
      refine ep_iload_n (j := 3) d_P_putArguments_8 rfl rfl ?_
      refine ep_bipush (v := 6) d_P_putArguments_9 (by decide) ?_
      refine ep_icmp_gt (tgt := 67) d_P_putArguments_11 (by decide) (fun z => absurd z (by decide)) (fun _ => ?_)
      refine ep_aload_n (j := 0) d_P_putArguments_14 rfl rfl ?_
      refine ep_getf (fi := 2) (v := .ref 2) d_P_putArguments_15 cl3 lf_P_21 (by decide) rfl rfl ?_
      refine ep_iload_n (j := 1) d_P_putArguments_18 rfl rfl ?_
      refine ep_iload_n (j := 3) d_P_putArguments_19 rfl rfl ?_
      refine ep_callVi (As := [.int x, .int 6]) (st := []) d_P_putArguments_20 lk_P_32 cal_D_cell tm_D_cell ts_D_cell rfl rfl rfl (Nat.le_of_ble_eq_true rfl) (Nat.le_of_ble_eq_true rfl) rfl rfl (D_cellN hR49.1 _ 6 (by decide +kernel) (by decide)) ?_
      refine ep_istore (lv' := [(0, .ref 8), (1, .int x), (2, .int l), (3, .int 6), (4, .int (cN N x 6))]) [1, 2, 3, 4, 0] d_P_putArguments_23 (by decide) rfl ?_
      refine ep_aload_n (j := 0) d_P_putArguments_25 rfl rfl ?_
      refine ep_getf (fi := 2) (v := .ref 2) d_P_putArguments_26 cl3 lf_P_21 (by decide) rfl rfl ?_
      refine ep_iload (j := 4) d_P_putArguments_29 rfl ?_
      refine ep_callVi (As := [.int (cN N x 6)]) (st := []) d_P_putArguments_31 lk_P_59 cal_D_kindOf tm_D_kindOf ts_D_kindOf rfl rfl rfl (Nat.le_of_ble_eq_true rfl) (Nat.le_of_ble_eq_true rfl) rfl rfl (D_kindN hR49.1 _) ?_
      refine ep_bipush (v := 9) d_P_putArguments_34 (by decide) ?_
      refine ep_icmp_ne (tgt := 48) d_P_putArguments_36 (by decide) (fun c36__ => ?_) (fun c36__ => ?_)
      · refine ep_iload (j := 4) d_P_putArguments_48 rfl ?_
        refine ep_iconst (v := (-1)) d_P_putArguments_50 (by decide) ?_
        refine ep_icmp_eq (tgt := 61) d_P_putArguments_51 (by decide) (fun c51 => ?_) (fun c51 => ?_)
        · refine ep_iinc (v := 7) (j := 3) (lv' := [(0, .ref 8), (1, .int x), (2, .int l), (3, .int 7), (4, .int (cN N x 6))]) [1, 2, 3, 0, 4] d_P_putArguments_61 rfl (by decide) (by decide) rfl ?_
          refine ep_goto (tgt := 8) d_P_putArguments_64 (by decide) ?_
          refine ep_iload_n (j := 3) d_P_putArguments_8 rfl rfl ?_
          refine ep_bipush (v := 6) d_P_putArguments_9 (by decide) ?_
          refine ep_icmp_gt (tgt := 67) d_P_putArguments_11 (by decide) (fun _ => ?_) (fun z => absurd (by decide) z)
          refine ep_aload_n (j := 0) d_P_putArguments_67 rfl rfl ?_
          refine ep_bipush (v := 69) d_P_putArguments_68 (by decide) ?_
          refine ep_callVw (As := [.int 69]) (st := []) d_P_putArguments_70 lk_P_29 cal_P_put tm_P_put ts_P_put rfl rfl rfl (Nat.le_of_ble_eq_true rfl) (Nat.le_of_ble_eq_true rfl) rfl rfl (P_put hR49 69) (fun q50 cI50 cA50 e50 hR50 f50 => ?_) (fun k cI50 cA50 s50 e50 hR50 f50 => WP_x (Fr3.trans F49 f50) (by first | (simp [wArgs, wArg, bnd_i, bnd_x, e1, c36, e37, c36_, e49, c36__, c51, e50]; done) | simp_all [wArgs, wArg, bnd_i, bnd_x]) hR50)
          have F50 := Fr3.trans F49 f50
          exact ep_vret d_P_putArguments_73 rfl (WP_ok (f := fun _ : WS => none) (q := q50) F50 (by first | (simp [wArgs, wArg, bnd_i, bnd_x, e1, c36, e37, c36_, e49, c36__, c51, e50]; done) | simp_all [wArgs, wArg, bnd_i, bnd_x]) hR50)
        · refine ep_aload_n (j := 0) d_P_putArguments_54 rfl rfl ?_
          refine ep_iload (j := 4) d_P_putArguments_55 rfl ?_
          refine ep_iload_n (j := 2) d_P_putArguments_57 rfl rfl ?_
          refine ep_callVw (As := [.int (cN N x 6), .int l]) (st := []) d_P_putArguments_58 lk_P_42 cal_P_putType tm_P_putType ts_P_putType rfl rfl rfl (Nat.le_of_ble_eq_true rfl) (Nat.le_of_ble_eq_true rfl) rfl rfl ((hrec false _ _ _ _ hR49).up (by omega)) (fun q51 cI51 cA51 e51 hR51 f51 => ?_) (fun k cI51 cA51 s51 e51 hR51 f51 => WP_x (Fr3.trans F49 f51) (by first | (simp [wArgs, wArg, bnd_i, bnd_x, e1, c36, e37, c36_, e49, c36__, c51, e51]; done) | simp_all [wArgs, wArg, bnd_i, bnd_x]) hR51)
          have F51 := Fr3.trans F49 f51
          refine ep_iinc (v := 7) (j := 3) (lv' := [(0, .ref 8), (1, .int x), (2, .int l), (3, .int 7), (4, .int (cN N x 6))]) [1, 2, 3, 0, 4] d_P_putArguments_61 rfl (by decide) (by decide) rfl ?_
          refine ep_goto (tgt := 8) d_P_putArguments_64 (by decide) ?_
          refine ep_iload_n (j := 3) d_P_putArguments_8 rfl rfl ?_
          refine ep_bipush (v := 6) d_P_putArguments_9 (by decide) ?_
          refine ep_icmp_gt (tgt := 67) d_P_putArguments_11 (by decide) (fun _ => ?_) (fun z => absurd (by decide) z)
          refine ep_aload_n (j := 0) d_P_putArguments_67 rfl rfl ?_
          refine ep_bipush (v := 69) d_P_putArguments_68 (by decide) ?_
          refine ep_callVw (As := [.int 69]) (st := []) d_P_putArguments_70 lk_P_29 cal_P_put tm_P_put ts_P_put rfl rfl rfl (Nat.le_of_ble_eq_true rfl) (Nat.le_of_ble_eq_true rfl) rfl rfl (P_put hR51 69) (fun q52 cI52 cA52 e52 hR52 f52 => ?_) (fun k cI52 cA52 s52 e52 hR52 f52 => WP_x (Fr3.trans F51 f52) (by first | (simp [wArgs, wArg, bnd_i, bnd_x, e1, c36, e37, c36_, e49, c36__, c51, e51, e52]; done) | simp_all [wArgs, wArg, bnd_i, bnd_x]) hR52)
          have F52 := Fr3.trans F51 f52
          exact ep_vret d_P_putArguments_73 rfl (WP_ok (f := fun _ : WS => none) (q := q52) F52 (by first | (simp [wArgs, wArg, bnd_i, bnd_x, e1, c36, e37, c36_, e49, c36__, c51, e51, e52]; done) | simp_all [wArgs, wArg, bnd_i, bnd_x]) hR52)
      · refine ep_aload_n (j := 0) d_P_putArguments_39 rfl rfl ?_
        refine ep_iload (j := 4) d_P_putArguments_40 rfl ?_
        refine ep_callVw (As := [.int (cN N x 6)]) (st := []) d_P_putArguments_42 lk_P_92 cal_P_putLiteral tm_P_putLiteral ts_P_putLiteral rfl rfl rfl (Nat.le_of_ble_eq_true rfl) (Nat.le_of_ble_eq_true rfl) rfl rfl (P_putLiteral hR49 (cN N x 6)) (fun q53 cI53 cA53 e53 hR53 f53 => ?_) (fun k cI53 cA53 s53 e53 hR53 f53 => WP_x (Fr3.trans F49 f53) (by first | (simp [wArgs, wArg, bnd_i, bnd_x, e1, c36, e37, c36_, e49, c36__, e53]; done) | simp_all [wArgs, wArg, bnd_i, bnd_x]) hR53)
        have F53 := Fr3.trans F49 f53
        refine ep_goto (tgt := 61) d_P_putArguments_45 (by decide) ?_
        refine ep_iinc (v := 7) (j := 3) (lv' := [(0, .ref 8), (1, .int x), (2, .int l), (3, .int 7), (4, .int (cN N x 6))]) [1, 2, 3, 0, 4] d_P_putArguments_61 rfl (by decide) (by decide) rfl ?_
        refine ep_goto (tgt := 8) d_P_putArguments_64 (by decide) ?_
        refine ep_iload_n (j := 3) d_P_putArguments_8 rfl rfl ?_
        refine ep_bipush (v := 6) d_P_putArguments_9 (by decide) ?_
        refine ep_icmp_gt (tgt := 67) d_P_putArguments_11 (by decide) (fun _ => ?_) (fun z => absurd (by decide) z)
        refine ep_aload_n (j := 0) d_P_putArguments_67 rfl rfl ?_
        refine ep_bipush (v := 69) d_P_putArguments_68 (by decide) ?_
        refine ep_callVw (As := [.int 69]) (st := []) d_P_putArguments_70 lk_P_29 cal_P_put tm_P_put ts_P_put rfl rfl rfl (Nat.le_of_ble_eq_true rfl) (Nat.le_of_ble_eq_true rfl) rfl rfl (P_put hR53 69) (fun q54 cI54 cA54 e54 hR54 f54 => ?_) (fun k cI54 cA54 s54 e54 hR54 f54 => WP_x (Fr3.trans F53 f54) (by first | (simp [wArgs, wArg, bnd_i, bnd_x, e1, c36, e37, c36_, e49, c36__, e53, e54]; done) | simp_all [wArgs, wArg, bnd_i, bnd_x]) hR54)
        have F54 := Fr3.trans F53 f54
        exact ep_vret d_P_putArguments_73 rfl (WP_ok (f := fun _ : WS => none) (q := q54) F54 (by first | (simp [wArgs, wArg, bnd_i, bnd_x, e1, c36, e37, c36_, e49, c36__, e53, e54]; done) | simp_all [wArgs, wArg, bnd_i, bnd_x]) hR54)
set_option maxHeartbeats 4000000 in
set_option maxRecDepth 100000 in
theorem P_putParameters (hR : CW cI cA N s) {l : Int32} {rec : Bool → Int32 → WS → Ex WS} (hrec : ∀ b x cI cA s, CW cI cA N s → EvP (mPT b) (d + 6) 0 [(0, .ref 8), (1, .int x), (2, .int l)] [] (HC X cI cA rI rA ol J) (WPu X cI cA rI rA ol J N (rec b x s))) (x : Int32) : EvP m_P_putParameters (d + 7) 0 [(0, .ref 8), (1, .int x), (2, .int l)] [] (HC X cI cA rI rA ol J) (WPu X cI cA rI rA ol J N (wPars N rec x s)) := by
  refine ep_aload_n (j := 0) d_P_putParameters_0 rfl rfl ?_
  refine ep_getf (fi := 2) (v := .ref 2) d_P_putParameters_1 cl3 lf_P_21 (by decide) rfl rfl ?_
  refine ep_iload_n (j := 1) d_P_putParameters_4 rfl rfl ?_
  refine ep_iconst (v := 4) d_P_putParameters_5 (by decide) ?_
  refine ep_callVi (As := [.int x, .int 4]) (st := []) d_P_putParameters_6 lk_P_32 cal_D_cell tm_D_cell ts_D_cell rfl rfl rfl (Nat.le_of_ble_eq_true rfl) (Nat.le_of_ble_eq_true rfl) rfl rfl (D_cellN hR.1 _ 4 (by decide +kernel) (by decide)) ?_
  refine ep_iconst (v := (-1)) d_P_putParameters_9 (by decide) ?_
  refine ep_icmp_ne (tgt := 19) d_P_putParameters_10 (by decide) (fun c10 => ?_) (fun c10 => ?_)
  · refine ep_iconst (v := 4) d_P_putParameters_19 (by decide) ?_
    refine ep_istore_n (lv' := [(0, .ref 8), (1, .int x), (2, .int l), (3, .int 4)]) [1, 2, 3, 0] d_P_putParameters_20 rfl (by decide) rfl ?_
    refine ep_iload_n (j := 3) d_P_putParameters_21 rfl rfl ?_
    refine ep_bipush (v := 6) d_P_putParameters_22 (by decide) ?_
    refine ep_icmp_gt (tgt := 57) d_P_putParameters_24 (by decide) (fun z => absurd z (by decide)) (fun _ => ?_)
    refine ep_aload_n (j := 0) d_P_putParameters_27 rfl rfl ?_
    refine ep_getf (fi := 2) (v := .ref 2) d_P_putParameters_28 cl3 lf_P_21 (by decide) rfl rfl ?_
    refine ep_iload_n (j := 1) d_P_putParameters_31 rfl rfl ?_
    refine ep_iload_n (j := 3) d_P_putParameters_32 rfl rfl ?_
    refine ep_callVi (As := [.int x, .int 4]) (st := []) d_P_putParameters_33 lk_P_32 cal_D_cell tm_D_cell ts_D_cell rfl rfl rfl (Nat.le_of_ble_eq_true rfl) (Nat.le_of_ble_eq_true rfl) rfl rfl (D_cellN hR.1 _ 4 (by decide +kernel) (by decide)) ?_
    refine ep_istore (lv' := [(0, .ref 8), (1, .int x), (2, .int l), (3, .int 4), (4, .int (cN N x 4))]) [1, 2, 3, 4, 0] d_P_putParameters_36 (by decide) rfl ?_
    refine ep_iload (j := 4) d_P_putParameters_38 rfl ?_
    refine ep_iconst (v := (-1)) d_P_putParameters_40 (by decide) ?_
    refine ep_icmp_eq (tgt := 51) d_P_putParameters_41 (by decide) (fun c41 => ?_) (fun c41 => ?_)
    · refine ep_iinc (v := 5) (j := 3) (lv' := [(0, .ref 8), (1, .int x), (2, .int l), (3, .int 5), (4, .int (cN N x 4))]) [1, 2, 3, 0, 4] d_P_putParameters_51 rfl (by decide) (by decide) rfl ?_
      refine ep_goto (tgt := 21) d_P_putParameters_54 (by decide) ?_
      refine ep_iload_n (j := 3) d_P_putParameters_21 rfl rfl ?_
      refine ep_bipush (v := 6) d_P_putParameters_22 (by decide) ?_
      refine ep_icmp_gt (tgt := 57) d_P_putParameters_24 (by decide) (fun z => absurd z (by decide)) (fun _ => ?_)
      refine ep_aload_n (j := 0) d_P_putParameters_27 rfl rfl ?_
      refine ep_getf (fi := 2) (v := .ref 2) d_P_putParameters_28 cl3 lf_P_21 (by decide) rfl rfl ?_
      refine ep_iload_n (j := 1) d_P_putParameters_31 rfl rfl ?_
      refine ep_iload_n (j := 3) d_P_putParameters_32 rfl rfl ?_
      refine ep_callVi (As := [.int x, .int 5]) (st := []) d_P_putParameters_33 lk_P_32 cal_D_cell tm_D_cell ts_D_cell rfl rfl rfl (Nat.le_of_ble_eq_true rfl) (Nat.le_of_ble_eq_true rfl) rfl rfl (D_cellN hR.1 _ 5 (by decide +kernel) (by decide)) ?_
      refine ep_istore (lv' := [(0, .ref 8), (1, .int x), (2, .int l), (3, .int 5), (4, .int (cN N x 5))]) [1, 2, 3, 4, 0] d_P_putParameters_36 (by decide) rfl ?_
      refine ep_iload (j := 4) d_P_putParameters_38 rfl ?_
      refine ep_iconst (v := (-1)) d_P_putParameters_40 (by decide) ?_
      refine ep_icmp_eq (tgt := 51) d_P_putParameters_41 (by decide) (fun c41_ => ?_) (fun c41_ => ?_)
      · refine ep_iinc (v := 6) (j := 3) (lv' := [(0, .ref 8), (1, .int x), (2, .int l), (3, .int 6), (4, .int (cN N x 5))]) [1, 2, 3, 0, 4] d_P_putParameters_51 rfl (by decide) (by decide) rfl ?_
        refine ep_goto (tgt := 21) d_P_putParameters_54 (by decide) ?_
        refine ep_iload_n (j := 3) d_P_putParameters_21 rfl rfl ?_
        refine ep_bipush (v := 6) d_P_putParameters_22 (by decide) ?_
        refine ep_icmp_gt (tgt := 57) d_P_putParameters_24 (by decide) (fun z => absurd z (by decide)) (fun _ => ?_)
        refine ep_aload_n (j := 0) d_P_putParameters_27 rfl rfl ?_
        refine ep_getf (fi := 2) (v := .ref 2) d_P_putParameters_28 cl3 lf_P_21 (by decide) rfl rfl ?_
        refine ep_iload_n (j := 1) d_P_putParameters_31 rfl rfl ?_
        refine ep_iload_n (j := 3) d_P_putParameters_32 rfl rfl ?_
        refine ep_callVi (As := [.int x, .int 6]) (st := []) d_P_putParameters_33 lk_P_32 cal_D_cell tm_D_cell ts_D_cell rfl rfl rfl (Nat.le_of_ble_eq_true rfl) (Nat.le_of_ble_eq_true rfl) rfl rfl (D_cellN hR.1 _ 6 (by decide +kernel) (by decide)) ?_
        refine ep_istore (lv' := [(0, .ref 8), (1, .int x), (2, .int l), (3, .int 6), (4, .int (cN N x 6))]) [1, 2, 3, 4, 0] d_P_putParameters_36 (by decide) rfl ?_
        refine ep_iload (j := 4) d_P_putParameters_38 rfl ?_
        refine ep_iconst (v := (-1)) d_P_putParameters_40 (by decide) ?_
        refine ep_icmp_eq (tgt := 51) d_P_putParameters_41 (by decide) (fun c41__ => ?_) (fun c41__ => ?_)
        · refine ep_iinc (v := 7) (j := 3) (lv' := [(0, .ref 8), (1, .int x), (2, .int l), (3, .int 7), (4, .int (cN N x 6))]) [1, 2, 3, 0, 4] d_P_putParameters_51 rfl (by decide) (by decide) rfl ?_
          refine ep_goto (tgt := 21) d_P_putParameters_54 (by decide) ?_
          refine ep_iload_n (j := 3) d_P_putParameters_21 rfl rfl ?_
          refine ep_bipush (v := 6) d_P_putParameters_22 (by decide) ?_
          refine ep_icmp_gt (tgt := 57) d_P_putParameters_24 (by decide) (fun _ => ?_) (fun z => absurd (by decide) z)
          exact ep_vret d_P_putParameters_57 rfl (WP_ok (f := fun _ : WS => none) (q := s) Fr3.rfl' (by first | (simp [wPars, wPar, bnd_i, bnd_x, c10, c41, c41_, c41__]; done) | simp_all [wPars, wPar, bnd_i, bnd_x]) hR)
        · refine ep_aload_n (j := 0) d_P_putParameters_44 rfl rfl ?_
          refine ep_iload (j := 4) d_P_putParameters_45 rfl ?_
          refine ep_iload_n (j := 2) d_P_putParameters_47 rfl rfl ?_
          refine ep_callVw (As := [.int (cN N x 6), .int l]) (st := []) d_P_putParameters_48 lk_P_42 cal_P_putType tm_P_putType ts_P_putType rfl rfl rfl (Nat.le_of_ble_eq_true rfl) (Nat.le_of_ble_eq_true rfl) rfl rfl ((hrec false _ _ _ _ hR).up (by omega)) (fun q1 cI1 cA1 e1 hR1 f1 => ?_) (fun k cI1 cA1 s1 e1 hR1 f1 => WP_x (Fr3.trans Fr3.rfl' f1) (by first | (simp [wPars, wPar, bnd_i, bnd_x, c10, c41, c41_, c41__, e1]; done) | simp_all [wPars, wPar, bnd_i, bnd_x]) hR1)
          have F1 := Fr3.trans Fr3.rfl' f1
          refine ep_iinc (v := 7) (j := 3) (lv' := [(0, .ref 8), (1, .int x), (2, .int l), (3, .int 7), (4, .int (cN N x 6))]) [1, 2, 3, 0, 4] d_P_putParameters_51 rfl (by decide) (by decide) rfl ?_
          refine ep_goto (tgt := 21) d_P_putParameters_54 (by decide) ?_
          refine ep_iload_n (j := 3) d_P_putParameters_21 rfl rfl ?_
          refine ep_bipush (v := 6) d_P_putParameters_22 (by decide) ?_
          refine ep_icmp_gt (tgt := 57) d_P_putParameters_24 (by decide) (fun _ => ?_) (fun z => absurd (by decide) z)
          exact ep_vret d_P_putParameters_57 rfl (WP_ok (f := fun _ : WS => none) (q := q1) F1 (by first | (simp [wPars, wPar, bnd_i, bnd_x, c10, c41, c41_, c41__, e1]; done) | simp_all [wPars, wPar, bnd_i, bnd_x]) hR1)
      · refine ep_aload_n (j := 0) d_P_putParameters_44 rfl rfl ?_
        refine ep_iload (j := 4) d_P_putParameters_45 rfl ?_
        refine ep_iload_n (j := 2) d_P_putParameters_47 rfl rfl ?_
        refine ep_callVw (As := [.int (cN N x 5), .int l]) (st := []) d_P_putParameters_48 lk_P_42 cal_P_putType tm_P_putType ts_P_putType rfl rfl rfl (Nat.le_of_ble_eq_true rfl) (Nat.le_of_ble_eq_true rfl) rfl rfl ((hrec false _ _ _ _ hR).up (by omega)) (fun q2 cI2 cA2 e2 hR2 f2 => ?_) (fun k cI2 cA2 s2 e2 hR2 f2 => WP_x (Fr3.trans Fr3.rfl' f2) (by first | (simp [wPars, wPar, bnd_i, bnd_x, c10, c41, c41_, e2]; done) | simp_all [wPars, wPar, bnd_i, bnd_x]) hR2)
        have F2 := Fr3.trans Fr3.rfl' f2
        refine ep_iinc (v := 6) (j := 3) (lv' := [(0, .ref 8), (1, .int x), (2, .int l), (3, .int 6), (4, .int (cN N x 5))]) [1, 2, 3, 0, 4] d_P_putParameters_51 rfl (by decide) (by decide) rfl ?_
        refine ep_goto (tgt := 21) d_P_putParameters_54 (by decide) ?_
        refine ep_iload_n (j := 3) d_P_putParameters_21 rfl rfl ?_
        refine ep_bipush (v := 6) d_P_putParameters_22 (by decide) ?_
        refine ep_icmp_gt (tgt := 57) d_P_putParameters_24 (by decide) (fun z => absurd z (by decide)) (fun _ => ?_)
        refine ep_aload_n (j := 0) d_P_putParameters_27 rfl rfl ?_
        refine ep_getf (fi := 2) (v := .ref 2) d_P_putParameters_28 cl3 lf_P_21 (by decide) rfl rfl ?_
        refine ep_iload_n (j := 1) d_P_putParameters_31 rfl rfl ?_
        refine ep_iload_n (j := 3) d_P_putParameters_32 rfl rfl ?_
        refine ep_callVi (As := [.int x, .int 6]) (st := []) d_P_putParameters_33 lk_P_32 cal_D_cell tm_D_cell ts_D_cell rfl rfl rfl (Nat.le_of_ble_eq_true rfl) (Nat.le_of_ble_eq_true rfl) rfl rfl (D_cellN hR2.1 _ 6 (by decide +kernel) (by decide)) ?_
        refine ep_istore (lv' := [(0, .ref 8), (1, .int x), (2, .int l), (3, .int 6), (4, .int (cN N x 6))]) [1, 2, 3, 4, 0] d_P_putParameters_36 (by decide) rfl ?_
        refine ep_iload (j := 4) d_P_putParameters_38 rfl ?_
        refine ep_iconst (v := (-1)) d_P_putParameters_40 (by decide) ?_
        refine ep_icmp_eq (tgt := 51) d_P_putParameters_41 (by decide) (fun c41__ => ?_) (fun c41__ => ?_)
        · refine ep_iinc (v := 7) (j := 3) (lv' := [(0, .ref 8), (1, .int x), (2, .int l), (3, .int 7), (4, .int (cN N x 6))]) [1, 2, 3, 0, 4] d_P_putParameters_51 rfl (by decide) (by decide) rfl ?_
          refine ep_goto (tgt := 21) d_P_putParameters_54 (by decide) ?_
          refine ep_iload_n (j := 3) d_P_putParameters_21 rfl rfl ?_
          refine ep_bipush (v := 6) d_P_putParameters_22 (by decide) ?_
          refine ep_icmp_gt (tgt := 57) d_P_putParameters_24 (by decide) (fun _ => ?_) (fun z => absurd (by decide) z)
          exact ep_vret d_P_putParameters_57 rfl (WP_ok (f := fun _ : WS => none) (q := q2) F2 (by first | (simp [wPars, wPar, bnd_i, bnd_x, c10, c41, c41_, e2, c41__]; done) | simp_all [wPars, wPar, bnd_i, bnd_x]) hR2)
        · refine ep_aload_n (j := 0) d_P_putParameters_44 rfl rfl ?_
          refine ep_iload (j := 4) d_P_putParameters_45 rfl ?_
          refine ep_iload_n (j := 2) d_P_putParameters_47 rfl rfl ?_
          refine ep_callVw (As := [.int (cN N x 6), .int l]) (st := []) d_P_putParameters_48 lk_P_42 cal_P_putType tm_P_putType ts_P_putType rfl rfl rfl (Nat.le_of_ble_eq_true rfl) (Nat.le_of_ble_eq_true rfl) rfl rfl ((hrec false _ _ _ _ hR2).up (by omega)) (fun q3 cI3 cA3 e3 hR3 f3 => ?_) (fun k cI3 cA3 s3 e3 hR3 f3 => WP_x (Fr3.trans F2 f3) (by first | (simp [wPars, wPar, bnd_i, bnd_x, c10, c41, c41_, e2, c41__, e3]; done) | simp_all [wPars, wPar, bnd_i, bnd_x]) hR3)
          have F3 := Fr3.trans F2 f3
          refine ep_iinc (v := 7) (j := 3) (lv' := [(0, .ref 8), (1, .int x), (2, .int l), (3, .int 7), (4, .int (cN N x 6))]) [1, 2, 3, 0, 4] d_P_putParameters_51 rfl (by decide) (by decide) rfl ?_
          refine ep_goto (tgt := 21) d_P_putParameters_54 (by decide) ?_
          refine ep_iload_n (j := 3) d_P_putParameters_21 rfl rfl ?_
          refine ep_bipush (v := 6) d_P_putParameters_22 (by decide) ?_
          refine ep_icmp_gt (tgt := 57) d_P_putParameters_24 (by decide) (fun _ => ?_) (fun z => absurd (by decide) z)
          exact ep_vret d_P_putParameters_57 rfl (WP_ok (f := fun _ : WS => none) (q := q3) F3 (by first | (simp [wPars, wPar, bnd_i, bnd_x, c10, c41, c41_, e2, c41__, e3]; done) | simp_all [wPars, wPar, bnd_i, bnd_x]) hR3)
    · refine ep_aload_n (j := 0) d_P_putParameters_44 rfl rfl ?_
      refine ep_iload (j := 4) d_P_putParameters_45 rfl ?_
      refine ep_iload_n (j := 2) d_P_putParameters_47 rfl rfl ?_
      refine ep_callVw (As := [.int (cN N x 4), .int l]) (st := []) d_P_putParameters_48 lk_P_42 cal_P_putType tm_P_putType ts_P_putType rfl rfl rfl (Nat.le_of_ble_eq_true rfl) (Nat.le_of_ble_eq_true rfl) rfl rfl ((hrec false _ _ _ _ hR).up (by omega)) (fun q4 cI4 cA4 e4 hR4 f4 => ?_) (fun k cI4 cA4 s4 e4 hR4 f4 => WP_x (Fr3.trans Fr3.rfl' f4) (by first | (simp [wPars, wPar, bnd_i, bnd_x, c10, c41, e4]; done) | simp_all [wPars, wPar, bnd_i, bnd_x]) hR4)
      have F4 := Fr3.trans Fr3.rfl' f4
      refine ep_iinc (v := 5) (j := 3) (lv' := [(0, .ref 8), (1, .int x), (2, .int l), (3, .int 5), (4, .int (cN N x 4))]) [1, 2, 3, 0, 4] d_P_putParameters_51 rfl (by decide) (by decide) rfl ?_
      refine ep_goto (tgt := 21) d_P_putParameters_54 (by decide) ?_
      refine ep_iload_n (j := 3) d_P_putParameters_21 rfl rfl ?_
      refine ep_bipush (v := 6) d_P_putParameters_22 (by decide) ?_
      refine ep_icmp_gt (tgt := 57) d_P_putParameters_24 (by decide) (fun z => absurd z (by decide)) (fun _ => ?_)
      refine ep_aload_n (j := 0) d_P_putParameters_27 rfl rfl ?_
      refine ep_getf (fi := 2) (v := .ref 2) d_P_putParameters_28 cl3 lf_P_21 (by decide) rfl rfl ?_
      refine ep_iload_n (j := 1) d_P_putParameters_31 rfl rfl ?_
      refine ep_iload_n (j := 3) d_P_putParameters_32 rfl rfl ?_
      refine ep_callVi (As := [.int x, .int 5]) (st := []) d_P_putParameters_33 lk_P_32 cal_D_cell tm_D_cell ts_D_cell rfl rfl rfl (Nat.le_of_ble_eq_true rfl) (Nat.le_of_ble_eq_true rfl) rfl rfl (D_cellN hR4.1 _ 5 (by decide +kernel) (by decide)) ?_
      refine ep_istore (lv' := [(0, .ref 8), (1, .int x), (2, .int l), (3, .int 5), (4, .int (cN N x 5))]) [1, 2, 3, 4, 0] d_P_putParameters_36 (by decide) rfl ?_
      refine ep_iload (j := 4) d_P_putParameters_38 rfl ?_
      refine ep_iconst (v := (-1)) d_P_putParameters_40 (by decide) ?_
      refine ep_icmp_eq (tgt := 51) d_P_putParameters_41 (by decide) (fun c41_ => ?_) (fun c41_ => ?_)
      · refine ep_iinc (v := 6) (j := 3) (lv' := [(0, .ref 8), (1, .int x), (2, .int l), (3, .int 6), (4, .int (cN N x 5))]) [1, 2, 3, 0, 4] d_P_putParameters_51 rfl (by decide) (by decide) rfl ?_
        refine ep_goto (tgt := 21) d_P_putParameters_54 (by decide) ?_
        refine ep_iload_n (j := 3) d_P_putParameters_21 rfl rfl ?_
        refine ep_bipush (v := 6) d_P_putParameters_22 (by decide) ?_
        refine ep_icmp_gt (tgt := 57) d_P_putParameters_24 (by decide) (fun z => absurd z (by decide)) (fun _ => ?_)
        refine ep_aload_n (j := 0) d_P_putParameters_27 rfl rfl ?_
        refine ep_getf (fi := 2) (v := .ref 2) d_P_putParameters_28 cl3 lf_P_21 (by decide) rfl rfl ?_
        refine ep_iload_n (j := 1) d_P_putParameters_31 rfl rfl ?_
        refine ep_iload_n (j := 3) d_P_putParameters_32 rfl rfl ?_
        refine ep_callVi (As := [.int x, .int 6]) (st := []) d_P_putParameters_33 lk_P_32 cal_D_cell tm_D_cell ts_D_cell rfl rfl rfl (Nat.le_of_ble_eq_true rfl) (Nat.le_of_ble_eq_true rfl) rfl rfl (D_cellN hR4.1 _ 6 (by decide +kernel) (by decide)) ?_
        refine ep_istore (lv' := [(0, .ref 8), (1, .int x), (2, .int l), (3, .int 6), (4, .int (cN N x 6))]) [1, 2, 3, 4, 0] d_P_putParameters_36 (by decide) rfl ?_
        refine ep_iload (j := 4) d_P_putParameters_38 rfl ?_
        refine ep_iconst (v := (-1)) d_P_putParameters_40 (by decide) ?_
        refine ep_icmp_eq (tgt := 51) d_P_putParameters_41 (by decide) (fun c41__ => ?_) (fun c41__ => ?_)
        · refine ep_iinc (v := 7) (j := 3) (lv' := [(0, .ref 8), (1, .int x), (2, .int l), (3, .int 7), (4, .int (cN N x 6))]) [1, 2, 3, 0, 4] d_P_putParameters_51 rfl (by decide) (by decide) rfl ?_
          refine ep_goto (tgt := 21) d_P_putParameters_54 (by decide) ?_
          refine ep_iload_n (j := 3) d_P_putParameters_21 rfl rfl ?_
          refine ep_bipush (v := 6) d_P_putParameters_22 (by decide) ?_
          refine ep_icmp_gt (tgt := 57) d_P_putParameters_24 (by decide) (fun _ => ?_) (fun z => absurd (by decide) z)
          exact ep_vret d_P_putParameters_57 rfl (WP_ok (f := fun _ : WS => none) (q := q4) F4 (by first | (simp [wPars, wPar, bnd_i, bnd_x, c10, c41, e4, c41_, c41__]; done) | simp_all [wPars, wPar, bnd_i, bnd_x]) hR4)
        · refine ep_aload_n (j := 0) d_P_putParameters_44 rfl rfl ?_
          refine ep_iload (j := 4) d_P_putParameters_45 rfl ?_
          refine ep_iload_n (j := 2) d_P_putParameters_47 rfl rfl ?_
          refine ep_callVw (As := [.int (cN N x 6), .int l]) (st := []) d_P_putParameters_48 lk_P_42 cal_P_putType tm_P_putType ts_P_putType rfl rfl rfl (Nat.le_of_ble_eq_true rfl) (Nat.le_of_ble_eq_true rfl) rfl rfl ((hrec false _ _ _ _ hR4).up (by omega)) (fun q5 cI5 cA5 e5 hR5 f5 => ?_) (fun k cI5 cA5 s5 e5 hR5 f5 => WP_x (Fr3.trans F4 f5) (by first | (simp [wPars, wPar, bnd_i, bnd_x, c10, c41, e4, c41_, c41__, e5]; done) | simp_all [wPars, wPar, bnd_i, bnd_x]) hR5)
          have F5 := Fr3.trans F4 f5
          refine ep_iinc (v := 7) (j := 3) (lv' := [(0, .ref 8), (1, .int x), (2, .int l), (3, .int 7), (4, .int (cN N x 6))]) [1, 2, 3, 0, 4] d_P_putParameters_51 rfl (by decide) (by decide) rfl ?_
          refine ep_goto (tgt := 21) d_P_putParameters_54 (by decide) ?_
          refine ep_iload_n (j := 3) d_P_putParameters_21 rfl rfl ?_
          refine ep_bipush (v := 6) d_P_putParameters_22 (by decide) ?_
          refine ep_icmp_gt (tgt := 57) d_P_putParameters_24 (by decide) (fun _ => ?_) (fun z => absurd (by decide) z)
          exact ep_vret d_P_putParameters_57 rfl (WP_ok (f := fun _ : WS => none) (q := q5) F5 (by first | (simp [wPars, wPar, bnd_i, bnd_x, c10, c41, e4, c41_, c41__, e5]; done) | simp_all [wPars, wPar, bnd_i, bnd_x]) hR5)
      · refine ep_aload_n (j := 0) d_P_putParameters_44 rfl rfl ?_
        refine ep_iload (j := 4) d_P_putParameters_45 rfl ?_
        refine ep_iload_n (j := 2) d_P_putParameters_47 rfl rfl ?_
        refine ep_callVw (As := [.int (cN N x 5), .int l]) (st := []) d_P_putParameters_48 lk_P_42 cal_P_putType tm_P_putType ts_P_putType rfl rfl rfl (Nat.le_of_ble_eq_true rfl) (Nat.le_of_ble_eq_true rfl) rfl rfl ((hrec false _ _ _ _ hR4).up (by omega)) (fun q6 cI6 cA6 e6 hR6 f6 => ?_) (fun k cI6 cA6 s6 e6 hR6 f6 => WP_x (Fr3.trans F4 f6) (by first | (simp [wPars, wPar, bnd_i, bnd_x, c10, c41, e4, c41_, e6]; done) | simp_all [wPars, wPar, bnd_i, bnd_x]) hR6)
        have F6 := Fr3.trans F4 f6
        refine ep_iinc (v := 6) (j := 3) (lv' := [(0, .ref 8), (1, .int x), (2, .int l), (3, .int 6), (4, .int (cN N x 5))]) [1, 2, 3, 0, 4] d_P_putParameters_51 rfl (by decide) (by decide) rfl ?_
        refine ep_goto (tgt := 21) d_P_putParameters_54 (by decide) ?_
        refine ep_iload_n (j := 3) d_P_putParameters_21 rfl rfl ?_
        refine ep_bipush (v := 6) d_P_putParameters_22 (by decide) ?_
        refine ep_icmp_gt (tgt := 57) d_P_putParameters_24 (by decide) (fun z => absurd z (by decide)) (fun _ => ?_)
        refine ep_aload_n (j := 0) d_P_putParameters_27 rfl rfl ?_
        refine ep_getf (fi := 2) (v := .ref 2) d_P_putParameters_28 cl3 lf_P_21 (by decide) rfl rfl ?_
        refine ep_iload_n (j := 1) d_P_putParameters_31 rfl rfl ?_
        refine ep_iload_n (j := 3) d_P_putParameters_32 rfl rfl ?_
        refine ep_callVi (As := [.int x, .int 6]) (st := []) d_P_putParameters_33 lk_P_32 cal_D_cell tm_D_cell ts_D_cell rfl rfl rfl (Nat.le_of_ble_eq_true rfl) (Nat.le_of_ble_eq_true rfl) rfl rfl (D_cellN hR6.1 _ 6 (by decide +kernel) (by decide)) ?_
        refine ep_istore (lv' := [(0, .ref 8), (1, .int x), (2, .int l), (3, .int 6), (4, .int (cN N x 6))]) [1, 2, 3, 4, 0] d_P_putParameters_36 (by decide) rfl ?_
        refine ep_iload (j := 4) d_P_putParameters_38 rfl ?_
        refine ep_iconst (v := (-1)) d_P_putParameters_40 (by decide) ?_
        refine ep_icmp_eq (tgt := 51) d_P_putParameters_41 (by decide) (fun c41__ => ?_) (fun c41__ => ?_)
        · refine ep_iinc (v := 7) (j := 3) (lv' := [(0, .ref 8), (1, .int x), (2, .int l), (3, .int 7), (4, .int (cN N x 6))]) [1, 2, 3, 0, 4] d_P_putParameters_51 rfl (by decide) (by decide) rfl ?_
          refine ep_goto (tgt := 21) d_P_putParameters_54 (by decide) ?_
          refine ep_iload_n (j := 3) d_P_putParameters_21 rfl rfl ?_
          refine ep_bipush (v := 6) d_P_putParameters_22 (by decide) ?_
          refine ep_icmp_gt (tgt := 57) d_P_putParameters_24 (by decide) (fun _ => ?_) (fun z => absurd (by decide) z)
          exact ep_vret d_P_putParameters_57 rfl (WP_ok (f := fun _ : WS => none) (q := q6) F6 (by first | (simp [wPars, wPar, bnd_i, bnd_x, c10, c41, e4, c41_, e6, c41__]; done) | simp_all [wPars, wPar, bnd_i, bnd_x]) hR6)
        · refine ep_aload_n (j := 0) d_P_putParameters_44 rfl rfl ?_
          refine ep_iload (j := 4) d_P_putParameters_45 rfl ?_
          refine ep_iload_n (j := 2) d_P_putParameters_47 rfl rfl ?_
          refine ep_callVw (As := [.int (cN N x 6), .int l]) (st := []) d_P_putParameters_48 lk_P_42 cal_P_putType tm_P_putType ts_P_putType rfl rfl rfl (Nat.le_of_ble_eq_true rfl) (Nat.le_of_ble_eq_true rfl) rfl rfl ((hrec false _ _ _ _ hR6).up (by omega)) (fun q7 cI7 cA7 e7 hR7 f7 => ?_) (fun k cI7 cA7 s7 e7 hR7 f7 => WP_x (Fr3.trans F6 f7) (by first | (simp [wPars, wPar, bnd_i, bnd_x, c10, c41, e4, c41_, e6, c41__, e7]; done) | simp_all [wPars, wPar, bnd_i, bnd_x]) hR7)
          have F7 := Fr3.trans F6 f7
          refine ep_iinc (v := 7) (j := 3) (lv' := [(0, .ref 8), (1, .int x), (2, .int l), (3, .int 7), (4, .int (cN N x 6))]) [1, 2, 3, 0, 4] d_P_putParameters_51 rfl (by decide) (by decide) rfl ?_
          refine ep_goto (tgt := 21) d_P_putParameters_54 (by decide) ?_
          refine ep_iload_n (j := 3) d_P_putParameters_21 rfl rfl ?_
          refine ep_bipush (v := 6) d_P_putParameters_22 (by decide) ?_
          refine ep_icmp_gt (tgt := 57) d_P_putParameters_24 (by decide) (fun _ => ?_) (fun z => absurd (by decide) z)
          exact ep_vret d_P_putParameters_57 rfl (WP_ok (f := fun _ : WS => none) (q := q7) F7 (by first | (simp [wPars, wPar, bnd_i, bnd_x, c10, c41, e4, c41_, e6, c41__, e7]; done) | simp_all [wPars, wPar, bnd_i, bnd_x]) hR7)
  · refine ep_aload_n (j := 0) d_P_putParameters_13 rfl rfl ?_
    refine ep_bipush (v := 118) d_P_putParameters_14 (by decide) ?_
    refine ep_callVw (As := [.int 118]) (st := []) d_P_putParameters_16 lk_P_29 cal_P_put tm_P_put ts_P_put rfl rfl rfl (Nat.le_of_ble_eq_true rfl) (Nat.le_of_ble_eq_true rfl) rfl rfl (P_put hR 118) (fun q8 cI8 cA8 e8 hR8 f8 => ?_) (fun k cI8 cA8 s8 e8 hR8 f8 => WP_x (Fr3.trans Fr3.rfl' f8) (by first | (simp [wPars, wPar, bnd_i, bnd_x, c10, e8]; done) | simp_all [wPars, wPar, bnd_i, bnd_x]) hR8)
    have F8 := Fr3.trans Fr3.rfl' f8
    refine ep_iconst (v := 4) d_P_putParameters_19 (by decide) ?_
    refine ep_istore_n (lv' := [(0, .ref 8), (1, .int x), (2, .int l), (3, .int 4)]) [1, 2, 3, 0] d_P_putParameters_20 rfl (by decide) rfl ?_
    refine ep_iload_n (j := 3) d_P_putParameters_21 rfl rfl ?_
    refine ep_bipush (v := 6) d_P_putParameters_22 (by decide) ?_
    refine ep_icmp_gt (tgt := 57) d_P_putParameters_24 (by decide) (fun z => absurd z (by decide)) (fun _ => ?_)
    refine ep_aload_n (j := 0) d_P_putParameters_27 rfl rfl ?_
    refine ep_getf (fi := 2) (v := .ref 2) d_P_putParameters_28 cl3 lf_P_21 (by decide) rfl rfl ?_
    refine ep_iload_n (j := 1) d_P_putParameters_31 rfl rfl ?_
    refine ep_iload_n (j := 3) d_P_putParameters_32 rfl rfl ?_
    refine ep_callVi (As := [.int x, .int 4]) (st := []) d_P_putParameters_33 lk_P_32 cal_D_cell tm_D_cell ts_D_cell rfl rfl rfl (Nat.le_of_ble_eq_true rfl) (Nat.le_of_ble_eq_true rfl) rfl rfl (D_cellN hR8.1 _ 4 (by decide +kernel) (by decide)) ?_
    refine ep_istore (lv' := [(0, .ref 8), (1, .int x), (2, .int l), (3, .int 4), (4, .int (cN N x 4))]) [1, 2, 3, 4, 0] d_P_putParameters_36 (by decide) rfl ?_
    refine ep_iload (j := 4) d_P_putParameters_38 rfl ?_
    refine ep_iconst (v := (-1)) d_P_putParameters_40 (by decide) ?_
    refine ep_icmp_eq (tgt := 51) d_P_putParameters_41 (by decide) (fun c41 => ?_) (fun c41 => ?_)
    · refine ep_iinc (v := 5) (j := 3) (lv' := [(0, .ref 8), (1, .int x), (2, .int l), (3, .int 5), (4, .int (cN N x 4))]) [1, 2, 3, 0, 4] d_P_putParameters_51 rfl (by decide) (by decide) rfl ?_
      refine ep_goto (tgt := 21) d_P_putParameters_54 (by decide) ?_
      refine ep_iload_n (j := 3) d_P_putParameters_21 rfl rfl ?_
      refine ep_bipush (v := 6) d_P_putParameters_22 (by decide) ?_
      refine ep_icmp_gt (tgt := 57) d_P_putParameters_24 (by decide) (fun z => absurd z (by decide)) (fun _ => ?_)
      refine ep_aload_n (j := 0) d_P_putParameters_27 rfl rfl ?_
      refine ep_getf (fi := 2) (v := .ref 2) d_P_putParameters_28 cl3 lf_P_21 (by decide) rfl rfl ?_
      refine ep_iload_n (j := 1) d_P_putParameters_31 rfl rfl ?_
      refine ep_iload_n (j := 3) d_P_putParameters_32 rfl rfl ?_
      refine ep_callVi (As := [.int x, .int 5]) (st := []) d_P_putParameters_33 lk_P_32 cal_D_cell tm_D_cell ts_D_cell rfl rfl rfl (Nat.le_of_ble_eq_true rfl) (Nat.le_of_ble_eq_true rfl) rfl rfl (D_cellN hR8.1 _ 5 (by decide +kernel) (by decide)) ?_
      refine ep_istore (lv' := [(0, .ref 8), (1, .int x), (2, .int l), (3, .int 5), (4, .int (cN N x 5))]) [1, 2, 3, 4, 0] d_P_putParameters_36 (by decide) rfl ?_
      refine ep_iload (j := 4) d_P_putParameters_38 rfl ?_
      refine ep_iconst (v := (-1)) d_P_putParameters_40 (by decide) ?_
      refine ep_icmp_eq (tgt := 51) d_P_putParameters_41 (by decide) (fun c41_ => ?_) (fun c41_ => ?_)
      · refine ep_iinc (v := 6) (j := 3) (lv' := [(0, .ref 8), (1, .int x), (2, .int l), (3, .int 6), (4, .int (cN N x 5))]) [1, 2, 3, 0, 4] d_P_putParameters_51 rfl (by decide) (by decide) rfl ?_
        refine ep_goto (tgt := 21) d_P_putParameters_54 (by decide) ?_
        refine ep_iload_n (j := 3) d_P_putParameters_21 rfl rfl ?_
        refine ep_bipush (v := 6) d_P_putParameters_22 (by decide) ?_
        refine ep_icmp_gt (tgt := 57) d_P_putParameters_24 (by decide) (fun z => absurd z (by decide)) (fun _ => ?_)
        refine ep_aload_n (j := 0) d_P_putParameters_27 rfl rfl ?_
        refine ep_getf (fi := 2) (v := .ref 2) d_P_putParameters_28 cl3 lf_P_21 (by decide) rfl rfl ?_
        refine ep_iload_n (j := 1) d_P_putParameters_31 rfl rfl ?_
        refine ep_iload_n (j := 3) d_P_putParameters_32 rfl rfl ?_
        refine ep_callVi (As := [.int x, .int 6]) (st := []) d_P_putParameters_33 lk_P_32 cal_D_cell tm_D_cell ts_D_cell rfl rfl rfl (Nat.le_of_ble_eq_true rfl) (Nat.le_of_ble_eq_true rfl) rfl rfl (D_cellN hR8.1 _ 6 (by decide +kernel) (by decide)) ?_
        refine ep_istore (lv' := [(0, .ref 8), (1, .int x), (2, .int l), (3, .int 6), (4, .int (cN N x 6))]) [1, 2, 3, 4, 0] d_P_putParameters_36 (by decide) rfl ?_
        refine ep_iload (j := 4) d_P_putParameters_38 rfl ?_
        refine ep_iconst (v := (-1)) d_P_putParameters_40 (by decide) ?_
        refine ep_icmp_eq (tgt := 51) d_P_putParameters_41 (by decide) (fun c41__ => ?_) (fun c41__ => ?_)
        · refine ep_iinc (v := 7) (j := 3) (lv' := [(0, .ref 8), (1, .int x), (2, .int l), (3, .int 7), (4, .int (cN N x 6))]) [1, 2, 3, 0, 4] d_P_putParameters_51 rfl (by decide) (by decide) rfl ?_
          refine ep_goto (tgt := 21) d_P_putParameters_54 (by decide) ?_
          refine ep_iload_n (j := 3) d_P_putParameters_21 rfl rfl ?_
          refine ep_bipush (v := 6) d_P_putParameters_22 (by decide) ?_
          refine ep_icmp_gt (tgt := 57) d_P_putParameters_24 (by decide) (fun _ => ?_) (fun z => absurd (by decide) z)
          exact ep_vret d_P_putParameters_57 rfl (WP_ok (f := fun _ : WS => none) (q := q8) F8 (by first | (simp [wPars, wPar, bnd_i, bnd_x, c10, e8, c41, c41_, c41__]; done) | simp_all [wPars, wPar, bnd_i, bnd_x]) hR8)
        · refine ep_aload_n (j := 0) d_P_putParameters_44 rfl rfl ?_
          refine ep_iload (j := 4) d_P_putParameters_45 rfl ?_
          refine ep_iload_n (j := 2) d_P_putParameters_47 rfl rfl ?_
          refine ep_callVw (As := [.int (cN N x 6), .int l]) (st := []) d_P_putParameters_48 lk_P_42 cal_P_putType tm_P_putType ts_P_putType rfl rfl rfl (Nat.le_of_ble_eq_true rfl) (Nat.le_of_ble_eq_true rfl) rfl rfl ((hrec false _ _ _ _ hR8).up (by omega)) (fun q9 cI9 cA9 e9 hR9 f9 => ?_) (fun k cI9 cA9 s9 e9 hR9 f9 => WP_x (Fr3.trans F8 f9) (by first | (simp [wPars, wPar, bnd_i, bnd_x, c10, e8, c41, c41_, c41__, e9]; done) | simp_all [wPars, wPar, bnd_i, bnd_x]) hR9)
          have F9 := Fr3.trans F8 f9
          refine ep_iinc (v := 7) (j := 3) (lv' := [(0, .ref 8), (1, .int x), (2, .int l), (3, .int 7), (4, .int (cN N x 6))]) [1, 2, 3, 0, 4] d_P_putParameters_51 rfl (by decide) (by decide) rfl ?_
          refine ep_goto (tgt := 21) d_P_putParameters_54 (by decide) ?_
          refine ep_iload_n (j := 3) d_P_putParameters_21 rfl rfl ?_
          refine ep_bipush (v := 6) d_P_putParameters_22 (by decide) ?_
          refine ep_icmp_gt (tgt := 57) d_P_putParameters_24 (by decide) (fun _ => ?_) (fun z => absurd (by decide) z)
          exact ep_vret d_P_putParameters_57 rfl (WP_ok (f := fun _ : WS => none) (q := q9) F9 (by first | (simp [wPars, wPar, bnd_i, bnd_x, c10, e8, c41, c41_, c41__, e9]; done) | simp_all [wPars, wPar, bnd_i, bnd_x]) hR9)
      · refine ep_aload_n (j := 0) d_P_putParameters_44 rfl rfl ?_
        refine ep_iload (j := 4) d_P_putParameters_45 rfl ?_
        refine ep_iload_n (j := 2) d_P_putParameters_47 rfl rfl ?_
        refine ep_callVw (As := [.int (cN N x 5), .int l]) (st := []) d_P_putParameters_48 lk_P_42 cal_P_putType tm_P_putType ts_P_putType rfl rfl rfl (Nat.le_of_ble_eq_true rfl) (Nat.le_of_ble_eq_true rfl) rfl rfl ((hrec false _ _ _ _ hR8).up (by omega)) (fun q10 cI10 cA10 e10 hR10 f10 => ?_) (fun k cI10 cA10 s10 e10 hR10 f10 => WP_x (Fr3.trans F8 f10) (by first | (simp [wPars, wPar, bnd_i, bnd_x, c10, e8, c41, c41_, e10]; done) | simp_all [wPars, wPar, bnd_i, bnd_x]) hR10)
        have F10 := Fr3.trans F8 f10
        refine ep_iinc (v := 6) (j := 3) (lv' := [(0, .ref 8), (1, .int x), (2, .int l), (3, .int 6), (4, .int (cN N x 5))]) [1, 2, 3, 0, 4] d_P_putParameters_51 rfl (by decide) (by decide) rfl ?_
        refine ep_goto (tgt := 21) d_P_putParameters_54 (by decide) ?_
        refine ep_iload_n (j := 3) d_P_putParameters_21 rfl rfl ?_
        refine ep_bipush (v := 6) d_P_putParameters_22 (by decide) ?_
        refine ep_icmp_gt (tgt := 57) d_P_putParameters_24 (by decide) (fun z => absurd z (by decide)) (fun _ => ?_)
        refine ep_aload_n (j := 0) d_P_putParameters_27 rfl rfl ?_
        refine ep_getf (fi := 2) (v := .ref 2) d_P_putParameters_28 cl3 lf_P_21 (by decide) rfl rfl ?_
        refine ep_iload_n (j := 1) d_P_putParameters_31 rfl rfl ?_
        refine ep_iload_n (j := 3) d_P_putParameters_32 rfl rfl ?_
        refine ep_callVi (As := [.int x, .int 6]) (st := []) d_P_putParameters_33 lk_P_32 cal_D_cell tm_D_cell ts_D_cell rfl rfl rfl (Nat.le_of_ble_eq_true rfl) (Nat.le_of_ble_eq_true rfl) rfl rfl (D_cellN hR10.1 _ 6 (by decide +kernel) (by decide)) ?_
        refine ep_istore (lv' := [(0, .ref 8), (1, .int x), (2, .int l), (3, .int 6), (4, .int (cN N x 6))]) [1, 2, 3, 4, 0] d_P_putParameters_36 (by decide) rfl ?_
        refine ep_iload (j := 4) d_P_putParameters_38 rfl ?_
        refine ep_iconst (v := (-1)) d_P_putParameters_40 (by decide) ?_
        refine ep_icmp_eq (tgt := 51) d_P_putParameters_41 (by decide) (fun c41__ => ?_) (fun c41__ => ?_)
        · refine ep_iinc (v := 7) (j := 3) (lv' := [(0, .ref 8), (1, .int x), (2, .int l), (3, .int 7), (4, .int (cN N x 6))]) [1, 2, 3, 0, 4] d_P_putParameters_51 rfl (by decide) (by decide) rfl ?_
          refine ep_goto (tgt := 21) d_P_putParameters_54 (by decide) ?_
          refine ep_iload_n (j := 3) d_P_putParameters_21 rfl rfl ?_
          refine ep_bipush (v := 6) d_P_putParameters_22 (by decide) ?_
          refine ep_icmp_gt (tgt := 57) d_P_putParameters_24 (by decide) (fun _ => ?_) (fun z => absurd (by decide) z)
          exact ep_vret d_P_putParameters_57 rfl (WP_ok (f := fun _ : WS => none) (q := q10) F10 (by first | (simp [wPars, wPar, bnd_i, bnd_x, c10, e8, c41, c41_, e10, c41__]; done) | simp_all [wPars, wPar, bnd_i, bnd_x]) hR10)
        · refine ep_aload_n (j := 0) d_P_putParameters_44 rfl rfl ?_
          refine ep_iload (j := 4) d_P_putParameters_45 rfl ?_
          refine ep_iload_n (j := 2) d_P_putParameters_47 rfl rfl ?_
          refine ep_callVw (As := [.int (cN N x 6), .int l]) (st := []) d_P_putParameters_48 lk_P_42 cal_P_putType tm_P_putType ts_P_putType rfl rfl rfl (Nat.le_of_ble_eq_true rfl) (Nat.le_of_ble_eq_true rfl) rfl rfl ((hrec false _ _ _ _ hR10).up (by omega)) (fun q11 cI11 cA11 e11 hR11 f11 => ?_) (fun k cI11 cA11 s11 e11 hR11 f11 => WP_x (Fr3.trans F10 f11) (by first | (simp [wPars, wPar, bnd_i, bnd_x, c10, e8, c41, c41_, e10, c41__, e11]; done) | simp_all [wPars, wPar, bnd_i, bnd_x]) hR11)
          have F11 := Fr3.trans F10 f11
          refine ep_iinc (v := 7) (j := 3) (lv' := [(0, .ref 8), (1, .int x), (2, .int l), (3, .int 7), (4, .int (cN N x 6))]) [1, 2, 3, 0, 4] d_P_putParameters_51 rfl (by decide) (by decide) rfl ?_
          refine ep_goto (tgt := 21) d_P_putParameters_54 (by decide) ?_
          refine ep_iload_n (j := 3) d_P_putParameters_21 rfl rfl ?_
          refine ep_bipush (v := 6) d_P_putParameters_22 (by decide) ?_
          refine ep_icmp_gt (tgt := 57) d_P_putParameters_24 (by decide) (fun _ => ?_) (fun z => absurd (by decide) z)
          exact ep_vret d_P_putParameters_57 rfl (WP_ok (f := fun _ : WS => none) (q := q11) F11 (by first | (simp [wPars, wPar, bnd_i, bnd_x, c10, e8, c41, c41_, e10, c41__, e11]; done) | simp_all [wPars, wPar, bnd_i, bnd_x]) hR11)
    · refine ep_aload_n (j := 0) d_P_putParameters_44 rfl rfl ?_
      refine ep_iload (j := 4) d_P_putParameters_45 rfl ?_
      refine ep_iload_n (j := 2) d_P_putParameters_47 rfl rfl ?_
      refine ep_callVw (As := [.int (cN N x 4), .int l]) (st := []) d_P_putParameters_48 lk_P_42 cal_P_putType tm_P_putType ts_P_putType rfl rfl rfl (Nat.le_of_ble_eq_true rfl) (Nat.le_of_ble_eq_true rfl) rfl rfl ((hrec false _ _ _ _ hR8).up (by omega)) (fun q12 cI12 cA12 e12 hR12 f12 => ?_) (fun k cI12 cA12 s12 e12 hR12 f12 => WP_x (Fr3.trans F8 f12) (by first | (simp [wPars, wPar, bnd_i, bnd_x, c10, e8, c41, e12]; done) | simp_all [wPars, wPar, bnd_i, bnd_x]) hR12)
      have F12 := Fr3.trans F8 f12
      refine ep_iinc (v := 5) (j := 3) (lv' := [(0, .ref 8), (1, .int x), (2, .int l), (3, .int 5), (4, .int (cN N x 4))]) [1, 2, 3, 0, 4] d_P_putParameters_51 rfl (by decide) (by decide) rfl ?_
      refine ep_goto (tgt := 21) d_P_putParameters_54 (by decide) ?_
      refine ep_iload_n (j := 3) d_P_putParameters_21 rfl rfl ?_
      refine ep_bipush (v := 6) d_P_putParameters_22 (by decide) ?_
      refine ep_icmp_gt (tgt := 57) d_P_putParameters_24 (by decide) (fun z => absurd z (by decide)) (fun _ => ?_)
      refine ep_aload_n (j := 0) d_P_putParameters_27 rfl rfl ?_
      refine ep_getf (fi := 2) (v := .ref 2) d_P_putParameters_28 cl3 lf_P_21 (by decide) rfl rfl ?_
      refine ep_iload_n (j := 1) d_P_putParameters_31 rfl rfl ?_
      refine ep_iload_n (j := 3) d_P_putParameters_32 rfl rfl ?_
      refine ep_callVi (As := [.int x, .int 5]) (st := []) d_P_putParameters_33 lk_P_32 cal_D_cell tm_D_cell ts_D_cell rfl rfl rfl (Nat.le_of_ble_eq_true rfl) (Nat.le_of_ble_eq_true rfl) rfl rfl (D_cellN hR12.1 _ 5 (by decide +kernel) (by decide)) ?_
      refine ep_istore (lv' := [(0, .ref 8), (1, .int x), (2, .int l), (3, .int 5), (4, .int (cN N x 5))]) [1, 2, 3, 4, 0] d_P_putParameters_36 (by decide) rfl ?_
      refine ep_iload (j := 4) d_P_putParameters_38 rfl ?_
      refine ep_iconst (v := (-1)) d_P_putParameters_40 (by decide) ?_
      refine ep_icmp_eq (tgt := 51) d_P_putParameters_41 (by decide) (fun c41_ => ?_) (fun c41_ => ?_)
      · refine ep_iinc (v := 6) (j := 3) (lv' := [(0, .ref 8), (1, .int x), (2, .int l), (3, .int 6), (4, .int (cN N x 5))]) [1, 2, 3, 0, 4] d_P_putParameters_51 rfl (by decide) (by decide) rfl ?_
        refine ep_goto (tgt := 21) d_P_putParameters_54 (by decide) ?_
        refine ep_iload_n (j := 3) d_P_putParameters_21 rfl rfl ?_
        refine ep_bipush (v := 6) d_P_putParameters_22 (by decide) ?_
        refine ep_icmp_gt (tgt := 57) d_P_putParameters_24 (by decide) (fun z => absurd z (by decide)) (fun _ => ?_)
        refine ep_aload_n (j := 0) d_P_putParameters_27 rfl rfl ?_
        refine ep_getf (fi := 2) (v := .ref 2) d_P_putParameters_28 cl3 lf_P_21 (by decide) rfl rfl ?_
        refine ep_iload_n (j := 1) d_P_putParameters_31 rfl rfl ?_
        refine ep_iload_n (j := 3) d_P_putParameters_32 rfl rfl ?_
        refine ep_callVi (As := [.int x, .int 6]) (st := []) d_P_putParameters_33 lk_P_32 cal_D_cell tm_D_cell ts_D_cell rfl rfl rfl (Nat.le_of_ble_eq_true rfl) (Nat.le_of_ble_eq_true rfl) rfl rfl (D_cellN hR12.1 _ 6 (by decide +kernel) (by decide)) ?_
        refine ep_istore (lv' := [(0, .ref 8), (1, .int x), (2, .int l), (3, .int 6), (4, .int (cN N x 6))]) [1, 2, 3, 4, 0] d_P_putParameters_36 (by decide) rfl ?_
        refine ep_iload (j := 4) d_P_putParameters_38 rfl ?_
        refine ep_iconst (v := (-1)) d_P_putParameters_40 (by decide) ?_
        refine ep_icmp_eq (tgt := 51) d_P_putParameters_41 (by decide) (fun c41__ => ?_) (fun c41__ => ?_)
        · refine ep_iinc (v := 7) (j := 3) (lv' := [(0, .ref 8), (1, .int x), (2, .int l), (3, .int 7), (4, .int (cN N x 6))]) [1, 2, 3, 0, 4] d_P_putParameters_51 rfl (by decide) (by decide) rfl ?_
          refine ep_goto (tgt := 21) d_P_putParameters_54 (by decide) ?_
          refine ep_iload_n (j := 3) d_P_putParameters_21 rfl rfl ?_
          refine ep_bipush (v := 6) d_P_putParameters_22 (by decide) ?_
          refine ep_icmp_gt (tgt := 57) d_P_putParameters_24 (by decide) (fun _ => ?_) (fun z => absurd (by decide) z)
          exact ep_vret d_P_putParameters_57 rfl (WP_ok (f := fun _ : WS => none) (q := q12) F12 (by first | (simp [wPars, wPar, bnd_i, bnd_x, c10, e8, c41, e12, c41_, c41__]; done) | simp_all [wPars, wPar, bnd_i, bnd_x]) hR12)
        · refine ep_aload_n (j := 0) d_P_putParameters_44 rfl rfl ?_
          refine ep_iload (j := 4) d_P_putParameters_45 rfl ?_
          refine ep_iload_n (j := 2) d_P_putParameters_47 rfl rfl ?_
          refine ep_callVw (As := [.int (cN N x 6), .int l]) (st := []) d_P_putParameters_48 lk_P_42 cal_P_putType tm_P_putType ts_P_putType rfl rfl rfl (Nat.le_of_ble_eq_true rfl) (Nat.le_of_ble_eq_true rfl) rfl rfl ((hrec false _ _ _ _ hR12).up (by omega)) (fun q13 cI13 cA13 e13 hR13 f13 => ?_) (fun k cI13 cA13 s13 e13 hR13 f13 => WP_x (Fr3.trans F12 f13) (by first | (simp [wPars, wPar, bnd_i, bnd_x, c10, e8, c41, e12, c41_, c41__, e13]; done) | simp_all [wPars, wPar, bnd_i, bnd_x]) hR13)
          have F13 := Fr3.trans F12 f13
          refine ep_iinc (v := 7) (j := 3) (lv' := [(0, .ref 8), (1, .int x), (2, .int l), (3, .int 7), (4, .int (cN N x 6))]) [1, 2, 3, 0, 4] d_P_putParameters_51 rfl (by decide) (by decide) rfl ?_
          refine ep_goto (tgt := 21) d_P_putParameters_54 (by decide) ?_
          refine ep_iload_n (j := 3) d_P_putParameters_21 rfl rfl ?_
          refine ep_bipush (v := 6) d_P_putParameters_22 (by decide) ?_
          refine ep_icmp_gt (tgt := 57) d_P_putParameters_24 (by decide) (fun _ => ?_) (fun z => absurd (by decide) z)
          exact ep_vret d_P_putParameters_57 rfl (WP_ok (f := fun _ : WS => none) (q := q13) F13 (by first | (simp [wPars, wPar, bnd_i, bnd_x, c10, e8, c41, e12, c41_, c41__, e13]; done) | simp_all [wPars, wPar, bnd_i, bnd_x]) hR13)
      · refine ep_aload_n (j := 0) d_P_putParameters_44 rfl rfl ?_
        refine ep_iload (j := 4) d_P_putParameters_45 rfl ?_
        refine ep_iload_n (j := 2) d_P_putParameters_47 rfl rfl ?_
        refine ep_callVw (As := [.int (cN N x 5), .int l]) (st := []) d_P_putParameters_48 lk_P_42 cal_P_putType tm_P_putType ts_P_putType rfl rfl rfl (Nat.le_of_ble_eq_true rfl) (Nat.le_of_ble_eq_true rfl) rfl rfl ((hrec false _ _ _ _ hR12).up (by omega)) (fun q14 cI14 cA14 e14 hR14 f14 => ?_) (fun k cI14 cA14 s14 e14 hR14 f14 => WP_x (Fr3.trans F12 f14) (by first | (simp [wPars, wPar, bnd_i, bnd_x, c10, e8, c41, e12, c41_, e14]; done) | simp_all [wPars, wPar, bnd_i, bnd_x]) hR14)
        have F14 := Fr3.trans F12 f14
        refine ep_iinc (v := 6) (j := 3) (lv' := [(0, .ref 8), (1, .int x), (2, .int l), (3, .int 6), (4, .int (cN N x 5))]) [1, 2, 3, 0, 4] d_P_putParameters_51 rfl (by decide) (by decide) rfl ?_
        refine ep_goto (tgt := 21) d_P_putParameters_54 (by decide) ?_
        refine ep_iload_n (j := 3) d_P_putParameters_21 rfl rfl ?_
        refine ep_bipush (v := 6) d_P_putParameters_22 (by decide) ?_
        refine ep_icmp_gt (tgt := 57) d_P_putParameters_24 (by decide) (fun z => absurd z (by decide)) (fun _ => ?_)
        refine ep_aload_n (j := 0) d_P_putParameters_27 rfl rfl ?_
        refine ep_getf (fi := 2) (v := .ref 2) d_P_putParameters_28 cl3 lf_P_21 (by decide) rfl rfl ?_
        refine ep_iload_n (j := 1) d_P_putParameters_31 rfl rfl ?_
        refine ep_iload_n (j := 3) d_P_putParameters_32 rfl rfl ?_
        refine ep_callVi (As := [.int x, .int 6]) (st := []) d_P_putParameters_33 lk_P_32 cal_D_cell tm_D_cell ts_D_cell rfl rfl rfl (Nat.le_of_ble_eq_true rfl) (Nat.le_of_ble_eq_true rfl) rfl rfl (D_cellN hR14.1 _ 6 (by decide +kernel) (by decide)) ?_
        refine ep_istore (lv' := [(0, .ref 8), (1, .int x), (2, .int l), (3, .int 6), (4, .int (cN N x 6))]) [1, 2, 3, 4, 0] d_P_putParameters_36 (by decide) rfl ?_
        refine ep_iload (j := 4) d_P_putParameters_38 rfl ?_
        refine ep_iconst (v := (-1)) d_P_putParameters_40 (by decide) ?_
        refine ep_icmp_eq (tgt := 51) d_P_putParameters_41 (by decide) (fun c41__ => ?_) (fun c41__ => ?_)
        · refine ep_iinc (v := 7) (j := 3) (lv' := [(0, .ref 8), (1, .int x), (2, .int l), (3, .int 7), (4, .int (cN N x 6))]) [1, 2, 3, 0, 4] d_P_putParameters_51 rfl (by decide) (by decide) rfl ?_
          refine ep_goto (tgt := 21) d_P_putParameters_54 (by decide) ?_
          refine ep_iload_n (j := 3) d_P_putParameters_21 rfl rfl ?_
          refine ep_bipush (v := 6) d_P_putParameters_22 (by decide) ?_
          refine ep_icmp_gt (tgt := 57) d_P_putParameters_24 (by decide) (fun _ => ?_) (fun z => absurd (by decide) z)
          exact ep_vret d_P_putParameters_57 rfl (WP_ok (f := fun _ : WS => none) (q := q14) F14 (by first | (simp [wPars, wPar, bnd_i, bnd_x, c10, e8, c41, e12, c41_, e14, c41__]; done) | simp_all [wPars, wPar, bnd_i, bnd_x]) hR14)
        · refine ep_aload_n (j := 0) d_P_putParameters_44 rfl rfl ?_
          refine ep_iload (j := 4) d_P_putParameters_45 rfl ?_
          refine ep_iload_n (j := 2) d_P_putParameters_47 rfl rfl ?_
          refine ep_callVw (As := [.int (cN N x 6), .int l]) (st := []) d_P_putParameters_48 lk_P_42 cal_P_putType tm_P_putType ts_P_putType rfl rfl rfl (Nat.le_of_ble_eq_true rfl) (Nat.le_of_ble_eq_true rfl) rfl rfl ((hrec false _ _ _ _ hR14).up (by omega)) (fun q15 cI15 cA15 e15 hR15 f15 => ?_) (fun k cI15 cA15 s15 e15 hR15 f15 => WP_x (Fr3.trans F14 f15) (by first | (simp [wPars, wPar, bnd_i, bnd_x, c10, e8, c41, e12, c41_, e14, c41__, e15]; done) | simp_all [wPars, wPar, bnd_i, bnd_x]) hR15)
          have F15 := Fr3.trans F14 f15
          refine ep_iinc (v := 7) (j := 3) (lv' := [(0, .ref 8), (1, .int x), (2, .int l), (3, .int 7), (4, .int (cN N x 6))]) [1, 2, 3, 0, 4] d_P_putParameters_51 rfl (by decide) (by decide) rfl ?_
          refine ep_goto (tgt := 21) d_P_putParameters_54 (by decide) ?_
          refine ep_iload_n (j := 3) d_P_putParameters_21 rfl rfl ?_
          refine ep_bipush (v := 6) d_P_putParameters_22 (by decide) ?_
          refine ep_icmp_gt (tgt := 57) d_P_putParameters_24 (by decide) (fun _ => ?_) (fun z => absurd (by decide) z)
          exact ep_vret d_P_putParameters_57 rfl (WP_ok (f := fun _ : WS => none) (q := q15) F15 (by first | (simp [wPars, wPar, bnd_i, bnd_x, c10, e8, c41, e12, c41_, e14, c41__, e15]; done) | simp_all [wPars, wPar, bnd_i, bnd_x]) hR15)
set_option maxHeartbeats 4000000 in
set_option maxRecDepth 100000 in
theorem P_putFilled (hR : CW cI cA N s) {l : Int32} {rec : Bool → Int32 → WS → Ex WS} (hrec : ∀ b x cI cA s, CW cI cA N s → EvP (mPT b) (d + 6) 0 [(0, .ref 8), (1, .int x), (2, .int (l + 1))] [] (HC X cI cA rI rA ol J) (WPu X cI cA rI rA ol J N (rec b x s))) (x : Int32) : EvP m_P_putFilled (d + 8) 0 [(0, .ref 8), (1, .int x), (2, .int l)] [] (HC X cI cA rI rA ol J) (WPu X cI cA rI rA ol J N (wFil N rec x s)) := by
  refine ep_aload_n (j := 0) d_P_putFilled_0 rfl rfl ?_
  refine ep_getf (fi := 2) (v := .ref 2) d_P_putFilled_1 cl3 lf_P_21 (by decide) rfl rfl ?_
  refine ep_iload_n (j := 1) d_P_putFilled_4 rfl rfl ?_
  refine ep_iconst (v := 2) d_P_putFilled_5 (by decide) ?_
  refine ep_callVi (As := [.int x, .int 2]) (st := []) d_P_putFilled_6 lk_P_32 cal_D_cell tm_D_cell ts_D_cell rfl rfl rfl (Nat.le_of_ble_eq_true rfl) (Nat.le_of_ble_eq_true rfl) rfl rfl (D_cellN hR.1 _ 2 (by decide +kernel) (by decide)) ?_
  refine ep_istore_n (lv' := [(0, .ref 8), (1, .int x), (2, .int l), (3, .int (cN N x 2))]) [1, 2, 3, 0] d_P_putFilled_9 rfl (by decide) rfl ?_
  refine ep_aload_n (j := 0) d_P_putFilled_10 rfl rfl ?_
  refine ep_getf (fi := 2) (v := .ref 2) d_P_putFilled_11 cl3 lf_P_21 (by decide) rfl rfl ?_
  refine ep_iload_n (j := 3) d_P_putFilled_14 rfl rfl ?_
  refine ep_callVi (As := [.int (cN N x 2)]) (st := []) d_P_putFilled_15 lk_P_59 cal_D_kindOf tm_D_kindOf ts_D_kindOf rfl rfl rfl (Nat.le_of_ble_eq_true rfl) (Nat.le_of_ble_eq_true rfl) rfl rfl (D_kindN hR.1 _) ?_
  refine ep_iconst (v := 2) d_P_putFilled_18 (by decide) ?_
  refine ep_icmp_ne (tgt := 26) d_P_putFilled_19 (by decide) (fun c19 => ?_) (fun c19 => ?_)
  · refine ep_iconst (v := 0) d_P_putFilled_26 (by decide) ?_
    refine ep_istore (lv' := [(0, .ref 8), (1, .int x), (2, .int l), (3, .int (cN N x 2)), (4, .int 0)]) [1, 2, 3, 4, 0] d_P_putFilled_27 (by decide) rfl ?_
    refine ep_iload (j := 4) d_P_putFilled_29 rfl ?_
    refine ep_if_eq (tgt := 40) d_P_putFilled_31 (by decide) (fun _ => ?_) (fun z => absurd (by decide) z)
    refine ep_aload_n (j := 0) d_P_putFilled_40 rfl rfl ?_
    refine ep_iload_n (j := 3) d_P_putFilled_41 rfl rfl ?_
    refine ep_iload_n (j := 2) d_P_putFilled_42 rfl rfl ?_
    refine ep_iconst (v := 1) d_P_putFilled_43 (by decide) ?_
    refine ep_iadd d_P_putFilled_44 ?_
    refine ep_callVw (As := [.int (cN N x 2), .int (l + 1)]) (st := []) d_P_putFilled_45 lk_P_72 cal_P_putPrefix tm_P_putPrefix ts_P_putPrefix rfl rfl rfl (Nat.le_of_ble_eq_true rfl) (Nat.le_of_ble_eq_true rfl) rfl rfl ((hrec true _ _ _ _ hR).up (by omega)) (fun q1 cI1 cA1 e1 hR1 f1 => ?_) (fun k cI1 cA1 s1 e1 hR1 f1 => WP_x (Fr3.trans Fr3.rfl' f1) (by first | (simp [wFil, bnd_i, bnd_x, c19, e1]; done) | simp_all [wFil, bnd_i, bnd_x]) hR1)
    have F1 := Fr3.trans Fr3.rfl' f1
    refine ep_aload_n (j := 0) d_P_putFilled_48 rfl rfl ?_
    refine ep_iload_n (j := 1) d_P_putFilled_49 rfl rfl ?_
    refine ep_iload_n (j := 2) d_P_putFilled_50 rfl rfl ?_
    refine ep_iconst (v := 1) d_P_putFilled_51 (by decide) ?_
    refine ep_iadd d_P_putFilled_52 ?_
    refine ep_callVw (As := [.int x, .int (l + 1)]) (st := []) d_P_putFilled_53 lk_P_78 cal_P_putArguments tm_P_putArguments ts_P_putArguments rfl rfl rfl (Nat.le_of_ble_eq_true rfl) (Nat.le_of_ble_eq_true rfl) rfl rfl ((P_putArguments hR1 hrec x).up (by omega)) (fun q2 cI2 cA2 e2 hR2 f2 => ?_) (fun k cI2 cA2 s2 e2 hR2 f2 => WP_x (Fr3.trans F1 f2) (by first | (simp [wFil, bnd_i, bnd_x, c19, e1, e2]; done) | simp_all [wFil, bnd_i, bnd_x]) hR2)
    have F2 := Fr3.trans F1 f2
    refine ep_iload (j := 4) d_P_putFilled_56 rfl ?_
    refine ep_if_eq (tgt := 67) d_P_putFilled_58 (by decide) (fun _ => ?_) (fun z => absurd (by decide) z)
    exact ep_vret d_P_putFilled_67 rfl (WP_ok (f := fun _ : WS => none) (q := q2) F2 (by first | (simp [wFil, bnd_i, bnd_x, c19, e1, e2]; done) | simp_all [wFil, bnd_i, bnd_x]) hR2)
  · refine ep_iconst (v := 1) d_P_putFilled_22 (by decide) ?_
    refine ep_goto (tgt := 27) d_P_putFilled_23 (by decide) ?_
    refine ep_istore (lv' := [(0, .ref 8), (1, .int x), (2, .int l), (3, .int (cN N x 2)), (4, .int 1)]) [1, 2, 3, 4, 0] d_P_putFilled_27 (by decide) rfl ?_
    refine ep_iload (j := 4) d_P_putFilled_29 rfl ?_
    refine ep_if_eq (tgt := 40) d_P_putFilled_31 (by decide) (fun z => absurd z (by decide)) (fun _ => ?_)
    refine ep_aload_n (j := 0) d_P_putFilled_34 rfl rfl ?_
    refine ep_bipush (v := 78) d_P_putFilled_35 (by decide) ?_
    refine ep_callVw (As := [.int 78]) (st := []) d_P_putFilled_37 lk_P_29 cal_P_put tm_P_put ts_P_put rfl rfl rfl (Nat.le_of_ble_eq_true rfl) (Nat.le_of_ble_eq_true rfl) rfl rfl (P_put hR 78) (fun q3 cI3 cA3 e3 hR3 f3 => ?_) (fun k cI3 cA3 s3 e3 hR3 f3 => WP_x (Fr3.trans Fr3.rfl' f3) (by first | (simp [wFil, bnd_i, bnd_x, c19, e3]; done) | simp_all [wFil, bnd_i, bnd_x]) hR3)
    have F3 := Fr3.trans Fr3.rfl' f3
    refine ep_aload_n (j := 0) d_P_putFilled_40 rfl rfl ?_
    refine ep_iload_n (j := 3) d_P_putFilled_41 rfl rfl ?_
    refine ep_iload_n (j := 2) d_P_putFilled_42 rfl rfl ?_
    refine ep_iconst (v := 1) d_P_putFilled_43 (by decide) ?_
    refine ep_iadd d_P_putFilled_44 ?_
    refine ep_callVw (As := [.int (cN N x 2), .int (l + 1)]) (st := []) d_P_putFilled_45 lk_P_72 cal_P_putPrefix tm_P_putPrefix ts_P_putPrefix rfl rfl rfl (Nat.le_of_ble_eq_true rfl) (Nat.le_of_ble_eq_true rfl) rfl rfl ((hrec true _ _ _ _ hR3).up (by omega)) (fun q4 cI4 cA4 e4 hR4 f4 => ?_) (fun k cI4 cA4 s4 e4 hR4 f4 => WP_x (Fr3.trans F3 f4) (by first | (simp [wFil, bnd_i, bnd_x, c19, e3, e4]; done) | simp_all [wFil, bnd_i, bnd_x]) hR4)
    have F4 := Fr3.trans F3 f4
    refine ep_aload_n (j := 0) d_P_putFilled_48 rfl rfl ?_
    refine ep_iload_n (j := 1) d_P_putFilled_49 rfl rfl ?_
    refine ep_iload_n (j := 2) d_P_putFilled_50 rfl rfl ?_
    refine ep_iconst (v := 1) d_P_putFilled_51 (by decide) ?_
    refine ep_iadd d_P_putFilled_52 ?_
    refine ep_callVw (As := [.int x, .int (l + 1)]) (st := []) d_P_putFilled_53 lk_P_78 cal_P_putArguments tm_P_putArguments ts_P_putArguments rfl rfl rfl (Nat.le_of_ble_eq_true rfl) (Nat.le_of_ble_eq_true rfl) rfl rfl ((P_putArguments hR4 hrec x).up (by omega)) (fun q5 cI5 cA5 e5 hR5 f5 => ?_) (fun k cI5 cA5 s5 e5 hR5 f5 => WP_x (Fr3.trans F4 f5) (by first | (simp [wFil, bnd_i, bnd_x, c19, e3, e4, e5]; done) | simp_all [wFil, bnd_i, bnd_x]) hR5)
    have F5 := Fr3.trans F4 f5
    refine ep_iload (j := 4) d_P_putFilled_56 rfl ?_
    refine ep_if_eq (tgt := 67) d_P_putFilled_58 (by decide) (fun z => absurd z (by decide)) (fun _ => ?_)
    refine ep_aload_n (j := 0) d_P_putFilled_61 rfl rfl ?_
    refine ep_bipush (v := 69) d_P_putFilled_62 (by decide) ?_
    refine ep_callVw (As := [.int 69]) (st := []) d_P_putFilled_64 lk_P_29 cal_P_put tm_P_put ts_P_put rfl rfl rfl (Nat.le_of_ble_eq_true rfl) (Nat.le_of_ble_eq_true rfl) rfl rfl (P_put hR5 69) (fun q6 cI6 cA6 e6 hR6 f6 => ?_) (fun k cI6 cA6 s6 e6 hR6 f6 => WP_x (Fr3.trans F5 f6) (by first | (simp [wFil, bnd_i, bnd_x, c19, e3, e4, e5, e6]; done) | simp_all [wFil, bnd_i, bnd_x]) hR6)
    have F6 := Fr3.trans F5 f6
    exact ep_vret d_P_putFilled_67 rfl (WP_ok (f := fun _ : WS => none) (q := q6) F6 (by first | (simp [wFil, bnd_i, bnd_x, c19, e3, e4, e5, e6]; done) | simp_all [wFil, bnd_i, bnd_x]) hR6)
set_option maxHeartbeats 4000000 in
set_option maxRecDepth 100000 in
theorem P_putPrefixB (hR : CW cI cA N s) {l : Int32} {rec : Bool → Int32 → WS → Ex WS} (hrec : ∀ b x cI cA s, CW cI cA N s → EvP (mPT b) (d + 6) 0 [(0, .ref 8), (1, .int x), (2, .int (l + 1))] [] (HC X cI cA rI rA ol J) (WPu X cI cA rI rA ol J N (rec b x s))) (hle : l ≤ 16) (x : Int32) : EvP m_P_putPrefix (d + 8) 0 [(0, .ref 8), (1, .int x), (2, .int l)] [] (HC X cI cA rI rA ol J) (WPu X cI cA rI rA ol J N (wPrB (wPreN N rec) x s)) := by
  refine ep_aload_n (j := 0) d_P_putPrefix_0 rfl rfl ?_
  refine ep_iload_n (j := 1) d_P_putPrefix_1 rfl rfl ?_
  refine ep_callVw (As := [.int x]) (st := []) d_P_putPrefix_2 lk_P_66 cal_P_putTold tm_P_putTold ts_P_putTold rfl rfl rfl (Nat.le_of_ble_eq_true rfl) (Nat.le_of_ble_eq_true rfl) rfl rfl (P_putTold hR x) (fun q1 cI1 cA1 e1 hR1 f1 => ?_) (fun k cI1 cA1 s1 e1 hR1 f1 => WP_x (Fr3.trans Fr3.rfl' f1) (by first | (simp [wPrB, wPreN, bnd_i, bnd_x, e1]; done) | simp_all [wPrB, wPreN, bnd_i, bnd_x]) hR1)
  have F1 := Fr3.trans Fr3.rfl' f1
  refine ep_if_eq (tgt := 9) d_P_putPrefix_5 (by decide) (fun c5 => ?_) (fun c5 => ?_)
  · refine ep_iload_n (j := 2) d_P_putPrefix_9 rfl rfl ?_
    refine ep_callSv (As := [.int l]) (st := []) d_P_putPrefix_10 (Or.inl lk_P_69) cal_P_needLevel tm_P_needLevel ti_P rfl (Nat.le_of_ble_eq_true rfl) (Nat.le_of_ble_eq_true rfl) rfl rfl (P_needLevel1 hle) ?_
    refine ep_aload_n (j := 0) d_P_putPrefix_13 rfl rfl ?_
    refine ep_getf (fi := 2) (v := .ref 2) d_P_putPrefix_14 cl3 lf_P_21 (by decide) rfl rfl ?_
    refine ep_iload_n (j := 1) d_P_putPrefix_17 rfl rfl ?_
    refine ep_iconst (v := 2) d_P_putPrefix_18 (by decide) ?_
    refine ep_callVi (As := [.int x, .int 2]) (st := []) d_P_putPrefix_19 lk_P_32 cal_D_cell tm_D_cell ts_D_cell rfl rfl rfl (Nat.le_of_ble_eq_true rfl) (Nat.le_of_ble_eq_true rfl) rfl rfl (D_cellN hR1.1 _ 2 (by decide +kernel) (by decide)) ?_
    refine ep_istore_n (lv' := [(0, .ref 8), (1, .int x), (2, .int l), (3, .int (cN N x 2))]) [1, 2, 3, 0] d_P_putPrefix_22 rfl (by decide) rfl ?_
    refine ep_aload_n (j := 0) d_P_putPrefix_23 rfl rfl ?_
    refine ep_getf (fi := 2) (v := .ref 2) d_P_putPrefix_24 cl3 lf_P_21 (by decide) rfl rfl ?_
    refine ep_iload_n (j := 1) d_P_putPrefix_27 rfl rfl ?_
    refine ep_callVi (As := [.int x]) (st := []) d_P_putPrefix_28 lk_P_59 cal_D_kindOf tm_D_kindOf ts_D_kindOf rfl rfl rfl (Nat.le_of_ble_eq_true rfl) (Nat.le_of_ble_eq_true rfl) rfl rfl (D_kindN hR1.1 _) ?_
    rcases (show kN N x = 2 ∨ kN N x = 3 ∨ (¬ kN N x = 2 ∧ ¬ kN N x = 3) by by_cases h1 : kN N x = 2 <;> by_cases h2 : kN N x = 3 <;> simp_all) with sw | sw | sw
    · refine ep_ls (tgt := 56) (off := 25) d_P_putPrefix_31 (by decide) (by rw [sw]; decide) (by decide) ?_
      refine ep_aload_n (j := 0) d_P_putPrefix_56 rfl rfl ?_
      refine ep_iload_n (j := 3) d_P_putPrefix_57 rfl rfl ?_
      refine ep_iload_n (j := 2) d_P_putPrefix_58 rfl rfl ?_
      refine ep_iconst (v := 1) d_P_putPrefix_59 (by decide) ?_
      refine ep_iadd d_P_putPrefix_60 ?_
      refine ep_callVw (As := [.int (cN N x 2), .int (l + 1)]) (st := []) d_P_putPrefix_61 lk_P_72 cal_P_putPrefix tm_P_putPrefix ts_P_putPrefix rfl rfl rfl (Nat.le_of_ble_eq_true rfl) (Nat.le_of_ble_eq_true rfl) rfl rfl ((hrec true _ _ _ _ hR1).up (by omega)) (fun q2 cI2 cA2 e2 hR2 f2 => ?_) (fun k cI2 cA2 s2 e2 hR2 f2 => WP_x (Fr3.trans F1 f2) (by first | (simp [wPrB, wPreN, bnd_i, bnd_x, e1, c5, sw, e2]; done) | simp_all [wPrB, wPreN, bnd_i, bnd_x]) hR2)
      have F2 := Fr3.trans F1 f2
      refine ep_aload_n (j := 0) d_P_putPrefix_64 rfl rfl ?_
      refine ep_iload_n (j := 1) d_P_putPrefix_65 rfl rfl ?_
      refine ep_callVw (As := [.int x]) (st := []) d_P_putPrefix_66 lk_P_75 cal_P_putId tm_P_putId ts_P_putId rfl rfl rfl (Nat.le_of_ble_eq_true rfl) (Nat.le_of_ble_eq_true rfl) rfl rfl (P_putId hR2 x) (fun q3 cI3 cA3 e3 hR3 f3 => ?_) (fun k cI3 cA3 s3 e3 hR3 f3 => WP_x (Fr3.trans F2 f3) (by first | (simp [wPrB, wPreN, bnd_i, bnd_x, e1, c5, sw, e2, e3]; done) | simp_all [wPrB, wPreN, bnd_i, bnd_x]) hR3)
      have F3 := Fr3.trans F2 f3
      refine ep_goto (tgt := 96) d_P_putPrefix_69 (by decide) ?_
      refine ep_aload_n (j := 0) d_P_putPrefix_96 rfl rfl ?_
      refine ep_getf (fi := 1) (v := .ref 11) d_P_putPrefix_97 cl3 lf_P_18 (by decide) rfl rfl ?_
      refine ep_iload_n (j := 1) d_P_putPrefix_100 rfl rfl ?_
      refine ep_callVtw (As := [.int x]) (st := []) d_P_putPrefix_101 lk_P_48 cal_W_add tm_W_add ts_W_add rfl rfl rfl (Nat.le_of_ble_eq_true rfl) (Nat.le_of_ble_eq_true rfl) rfl rfl (WT_add hR3 x) (fun b4 cI4 cA4 hR4 f4 => ?_)
      have F4 := Fr3.trans F3 f4
      refine ep_pop d_P_putPrefix_104 rfl ?_
      exact ep_vret d_P_putPrefix_105 rfl (WP_ok (f := fun _ : WS => none) (q := wta q3 x) F4 (by first | (simp [wPrB, wPreN, bnd_i, bnd_x, e1, c5, sw, e2, e3]; done) | simp_all [wPrB, wPreN, bnd_i, bnd_x]) hR4)
    · refine ep_ls (tgt := 72) (off := 41) d_P_putPrefix_31 (by decide) (by rw [sw]; decide) (by decide) ?_
      refine ep_aload_n (j := 0) d_P_putPrefix_72 rfl rfl ?_
      refine ep_iload_n (j := 3) d_P_putPrefix_73 rfl rfl ?_
      refine ep_iload_n (j := 2) d_P_putPrefix_74 rfl rfl ?_
      refine ep_iconst (v := 1) d_P_putPrefix_75 (by decide) ?_
      refine ep_iadd d_P_putPrefix_76 ?_
      refine ep_callVw (As := [.int (cN N x 2), .int (l + 1)]) (st := []) d_P_putPrefix_77 lk_P_72 cal_P_putPrefix tm_P_putPrefix ts_P_putPrefix rfl rfl rfl (Nat.le_of_ble_eq_true rfl) (Nat.le_of_ble_eq_true rfl) rfl rfl ((hrec true _ _ _ _ hR1).up (by omega)) (fun q5 cI5 cA5 e5 hR5 f5 => ?_) (fun k cI5 cA5 s5 e5 hR5 f5 => WP_x (Fr3.trans F1 f5) (by first | (simp [wPrB, wPreN, bnd_i, bnd_x, e1, c5, sw, e5]; done) | simp_all [wPrB, wPreN, bnd_i, bnd_x]) hR5)
      have F5 := Fr3.trans F1 f5
      refine ep_aload_n (j := 0) d_P_putPrefix_80 rfl rfl ?_
      refine ep_iload_n (j := 1) d_P_putPrefix_81 rfl rfl ?_
      refine ep_iload_n (j := 2) d_P_putPrefix_82 rfl rfl ?_
      refine ep_iconst (v := 1) d_P_putPrefix_83 (by decide) ?_
      refine ep_iadd d_P_putPrefix_84 ?_
      refine ep_callVw (As := [.int x, .int (l + 1)]) (st := []) d_P_putPrefix_85 lk_P_78 cal_P_putArguments tm_P_putArguments ts_P_putArguments rfl rfl rfl (Nat.le_of_ble_eq_true rfl) (Nat.le_of_ble_eq_true rfl) rfl rfl ((P_putArguments hR5 hrec x).up (by omega)) (fun q6 cI6 cA6 e6 hR6 f6 => ?_) (fun k cI6 cA6 s6 e6 hR6 f6 => WP_x (Fr3.trans F5 f6) (by first | (simp [wPrB, wPreN, bnd_i, bnd_x, e1, c5, sw, e5, e6]; done) | simp_all [wPrB, wPreN, bnd_i, bnd_x]) hR6)
      have F6 := Fr3.trans F5 f6
      refine ep_goto (tgt := 96) d_P_putPrefix_88 (by decide) ?_
      refine ep_aload_n (j := 0) d_P_putPrefix_96 rfl rfl ?_
      refine ep_getf (fi := 1) (v := .ref 11) d_P_putPrefix_97 cl3 lf_P_18 (by decide) rfl rfl ?_
      refine ep_iload_n (j := 1) d_P_putPrefix_100 rfl rfl ?_
      refine ep_callVtw (As := [.int x]) (st := []) d_P_putPrefix_101 lk_P_48 cal_W_add tm_W_add ts_W_add rfl rfl rfl (Nat.le_of_ble_eq_true rfl) (Nat.le_of_ble_eq_true rfl) rfl rfl (WT_add hR6 x) (fun b7 cI7 cA7 hR7 f7 => ?_)
      have F7 := Fr3.trans F6 f7
      refine ep_pop d_P_putPrefix_104 rfl ?_
      exact ep_vret d_P_putPrefix_105 rfl (WP_ok (f := fun _ : WS => none) (q := wta q6 x) F7 (by first | (simp [wPrB, wPreN, bnd_i, bnd_x, e1, c5, sw, e5, e6]; done) | simp_all [wPrB, wPreN, bnd_i, bnd_x]) hR7)
    · refine ep_ls (tgt := 91) (off := 60) d_P_putPrefix_31 (by decide) (no2 sw) (by decide) ?_
      refine ep_aload_n (j := 0) d_P_putPrefix_91 rfl rfl ?_
      refine ep_iload_n (j := 1) d_P_putPrefix_92 rfl rfl ?_
      refine ep_callVw (As := [.int x]) (st := []) d_P_putPrefix_93 lk_P_75 cal_P_putId tm_P_putId ts_P_putId rfl rfl rfl (Nat.le_of_ble_eq_true rfl) (Nat.le_of_ble_eq_true rfl) rfl rfl (P_putId hR1 x) (fun q8 cI8 cA8 e8 hR8 f8 => ?_) (fun k cI8 cA8 s8 e8 hR8 f8 => WP_x (Fr3.trans F1 f8) (by first | (simp [wPrB, wPreN, bnd_i, bnd_x, e1, c5, sw, e8]; done) | simp_all [wPrB, wPreN, bnd_i, bnd_x]) hR8)
      have F8 := Fr3.trans F1 f8
      refine ep_aload_n (j := 0) d_P_putPrefix_96 rfl rfl ?_
      refine ep_getf (fi := 1) (v := .ref 11) d_P_putPrefix_97 cl3 lf_P_18 (by decide) rfl rfl ?_
      refine ep_iload_n (j := 1) d_P_putPrefix_100 rfl rfl ?_
      refine ep_callVtw (As := [.int x]) (st := []) d_P_putPrefix_101 lk_P_48 cal_W_add tm_W_add ts_W_add rfl rfl rfl (Nat.le_of_ble_eq_true rfl) (Nat.le_of_ble_eq_true rfl) rfl rfl (WT_add hR8 x) (fun b9 cI9 cA9 hR9 f9 => ?_)
      have F9 := Fr3.trans F8 f9
      refine ep_pop d_P_putPrefix_104 rfl ?_
      exact ep_vret d_P_putPrefix_105 rfl (WP_ok (f := fun _ : WS => none) (q := wta q8 x) F9 (by first | (simp [wPrB, wPreN, bnd_i, bnd_x, e1, c5, sw, e8]; done) | simp_all [wPrB, wPreN, bnd_i, bnd_x]) hR9)
  · exact ep_vret d_P_putPrefix_8 rfl (WP_ok (f := fun _ : WS => none) (q := q1.2) F1 (by first | (simp [wPrB, wPreN, bnd_i, bnd_x, e1, c5]; done) | simp_all [wPrB, wPreN, bnd_i, bnd_x]) hR1)
set_option maxHeartbeats 4000000 in
set_option maxRecDepth 100000 in
theorem P_putUntold (hR : CW cI cA N s) {l : Int32} {rec : Bool → Int32 → WS → Ex WS} (hrec : ∀ b x cI cA s, CW cI cA N s → EvP (mPT b) (d + 6) 0 [(0, .ref 8), (1, .int x), (2, .int (l + 1))] [] (HC X cI cA rI rA ol J) (WPu X cI cA rI rA ol J N (rec b x s))) (hle : l ≤ 16) (x : Int32) : EvP m_P_putUntold (d + 9) 0 [(0, .ref 8), (1, .int x), (2, .int l)] [] (HC X cI cA rI rA ol J) (WPu X cI cA rI rA ol J N (wUnt N rec x s)) := by
  refine ep_iload_n (j := 2) d_P_putUntold_0 rfl rfl ?_
  refine ep_callSv (As := [.int l]) (st := []) d_P_putUntold_1 (Or.inl lk_P_69) cal_P_needLevel tm_P_needLevel ti_P rfl (Nat.le_of_ble_eq_true rfl) (Nat.le_of_ble_eq_true rfl) rfl rfl (P_needLevel1 hle) ?_
  refine ep_aload_n (j := 0) d_P_putUntold_4 rfl rfl ?_
  refine ep_getf (fi := 2) (v := .ref 2) d_P_putUntold_5 cl3 lf_P_21 (by decide) rfl rfl ?_
  refine ep_iload_n (j := 1) d_P_putUntold_8 rfl rfl ?_
  refine ep_iconst (v := 2) d_P_putUntold_9 (by decide) ?_
  refine ep_callVi (As := [.int x, .int 2]) (st := []) d_P_putUntold_10 lk_P_32 cal_D_cell tm_D_cell ts_D_cell rfl rfl rfl (Nat.le_of_ble_eq_true rfl) (Nat.le_of_ble_eq_true rfl) rfl rfl (D_cellN hR.1 _ 2 (by decide +kernel) (by decide)) ?_
  refine ep_istore_n (lv' := [(0, .ref 8), (1, .int x), (2, .int l), (3, .int (cN N x 2))]) [1, 2, 3, 0] d_P_putUntold_13 rfl (by decide) rfl ?_
  refine ep_aload_n (j := 0) d_P_putUntold_14 rfl rfl ?_
  refine ep_getf (fi := 2) (v := .ref 2) d_P_putUntold_15 cl3 lf_P_21 (by decide) rfl rfl ?_
  refine ep_iload_n (j := 1) d_P_putUntold_18 rfl rfl ?_
  refine ep_callVi (As := [.int x]) (st := []) d_P_putUntold_19 lk_P_59 cal_D_kindOf tm_D_kindOf ts_D_kindOf rfl rfl rfl (Nat.le_of_ble_eq_true rfl) (Nat.le_of_ble_eq_true rfl) rfl rfl (D_kindN hR.1 _) ?_
  rcases (show kN N x = 2 ∨ kN N x = 3 ∨ kN N x = 4 ∨ kN N x = 5 ∨ kN N x = 6 ∨ kN N x = 7 ∨ kN N x = 8 ∨ (¬ kN N x = 2 ∧ ¬ kN N x = 3 ∧ ¬ kN N x = 4 ∧ ¬ kN N x = 5 ∧ ¬ kN N x = 6 ∧ ¬ kN N x = 7 ∧ ¬ kN N x = 8) by by_cases h1 : kN N x = 2 <;> by_cases h2 : kN N x = 3 <;> by_cases h3 : kN N x = 4 <;> by_cases h4 : kN N x = 5 <;> by_cases h5 : kN N x = 6 <;> by_cases h6 : kN N x = 7 <;> by_cases h7 : kN N x = 8 <;> simp_all) with sw | sw | sw | sw | sw | sw | sw | sw
  · refine ep_tsIn (tgt := 64) (off := 42) d_P_putUntold_22 (by rw [sw]; decide) (by rw [sw]; decide) (by rw [sw]; rfl) (by decide) ?_
    refine ep_aload_n (j := 0) d_P_putUntold_64 rfl rfl ?_
    refine ep_bipush (v := 78) d_P_putUntold_65 (by decide) ?_
    refine ep_callVw (As := [.int 78]) (st := []) d_P_putUntold_67 lk_P_29 cal_P_put tm_P_put ts_P_put rfl rfl rfl (Nat.le_of_ble_eq_true rfl) (Nat.le_of_ble_eq_true rfl) rfl rfl (P_put hR 78) (fun q1 cI1 cA1 e1 hR1 f1 => ?_) (fun k cI1 cA1 s1 e1 hR1 f1 => WP_x (Fr3.trans Fr3.rfl' f1) (by first | (simp [wUnt, bnd_i, bnd_x, sw, e1]; done) | simp_all [wUnt, bnd_i, bnd_x]) hR1)
    have F1 := Fr3.trans Fr3.rfl' f1
    refine ep_aload_n (j := 0) d_P_putUntold_70 rfl rfl ?_
    refine ep_iload_n (j := 3) d_P_putUntold_71 rfl rfl ?_
    refine ep_iload_n (j := 2) d_P_putUntold_72 rfl rfl ?_
    refine ep_iconst (v := 1) d_P_putUntold_73 (by decide) ?_
    refine ep_iadd d_P_putUntold_74 ?_
    refine ep_callVw (As := [.int (cN N x 2), .int (l + 1)]) (st := []) d_P_putUntold_75 lk_P_72 cal_P_putPrefix tm_P_putPrefix ts_P_putPrefix rfl rfl rfl (Nat.le_of_ble_eq_true rfl) (Nat.le_of_ble_eq_true rfl) rfl rfl ((hrec true _ _ _ _ hR1).up (by omega)) (fun q2 cI2 cA2 e2 hR2 f2 => ?_) (fun k cI2 cA2 s2 e2 hR2 f2 => WP_x (Fr3.trans F1 f2) (by first | (simp [wUnt, bnd_i, bnd_x, sw, e1, e2]; done) | simp_all [wUnt, bnd_i, bnd_x]) hR2)
    have F2 := Fr3.trans F1 f2
    refine ep_aload_n (j := 0) d_P_putUntold_78 rfl rfl ?_
    refine ep_iload_n (j := 1) d_P_putUntold_79 rfl rfl ?_
    refine ep_callVw (As := [.int x]) (st := []) d_P_putUntold_80 lk_P_75 cal_P_putId tm_P_putId ts_P_putId rfl rfl rfl (Nat.le_of_ble_eq_true rfl) (Nat.le_of_ble_eq_true rfl) rfl rfl (P_putId hR2 x) (fun q3 cI3 cA3 e3 hR3 f3 => ?_) (fun k cI3 cA3 s3 e3 hR3 f3 => WP_x (Fr3.trans F2 f3) (by first | (simp [wUnt, bnd_i, bnd_x, sw, e1, e2, e3]; done) | simp_all [wUnt, bnd_i, bnd_x]) hR3)
    have F3 := Fr3.trans F2 f3
    refine ep_aload_n (j := 0) d_P_putUntold_83 rfl rfl ?_
    refine ep_bipush (v := 69) d_P_putUntold_84 (by decide) ?_
    refine ep_callVw (As := [.int 69]) (st := []) d_P_putUntold_86 lk_P_29 cal_P_put tm_P_put ts_P_put rfl rfl rfl (Nat.le_of_ble_eq_true rfl) (Nat.le_of_ble_eq_true rfl) rfl rfl (P_put hR3 69) (fun q4 cI4 cA4 e4 hR4 f4 => ?_) (fun k cI4 cA4 s4 e4 hR4 f4 => WP_x (Fr3.trans F3 f4) (by first | (simp [wUnt, bnd_i, bnd_x, sw, e1, e2, e3, e4]; done) | simp_all [wUnt, bnd_i, bnd_x]) hR4)
    have F4 := Fr3.trans F3 f4
    refine ep_goto (tgt := 196) d_P_putUntold_89 (by decide) ?_
    exact ep_vret d_P_putUntold_196 rfl (WP_ok (f := fun _ : WS => none) (q := q4) F4 (by first | (simp [wUnt, bnd_i, bnd_x, sw, e1, e2, e3, e4]; done) | simp_all [wUnt, bnd_i, bnd_x]) hR4)
  · refine ep_tsIn (tgt := 92) (off := 70) d_P_putUntold_22 (by rw [sw]; decide) (by rw [sw]; decide) (by rw [sw]; rfl) (by decide) ?_
    refine ep_aload_n (j := 0) d_P_putUntold_92 rfl rfl ?_
    refine ep_iload_n (j := 1) d_P_putUntold_93 rfl rfl ?_
    refine ep_iload_n (j := 2) d_P_putUntold_94 rfl rfl ?_
    refine ep_callVw (As := [.int x, .int l]) (st := []) d_P_putUntold_95 lk_P_81 cal_P_putFilled tm_P_putFilled ts_P_putFilled rfl rfl rfl (Nat.le_of_ble_eq_true rfl) (Nat.le_of_ble_eq_true rfl) rfl rfl ((P_putFilled hR hrec x).up (by omega)) (fun q5 cI5 cA5 e5 hR5 f5 => ?_) (fun k cI5 cA5 s5 e5 hR5 f5 => WP_x (Fr3.trans Fr3.rfl' f5) (by first | (simp [wUnt, bnd_i, bnd_x, sw, e5]; done) | simp_all [wUnt, bnd_i, bnd_x]) hR5)
    have F5 := Fr3.trans Fr3.rfl' f5
    refine ep_goto (tgt := 196) d_P_putUntold_98 (by decide) ?_
    exact ep_vret d_P_putUntold_196 rfl (WP_ok (f := fun _ : WS => none) (q := q5) F5 (by first | (simp [wUnt, bnd_i, bnd_x, sw, e5]; done) | simp_all [wUnt, bnd_i, bnd_x]) hR5)
  · refine ep_tsIn (tgt := 101) (off := 79) d_P_putUntold_22 (by rw [sw]; decide) (by rw [sw]; decide) (by rw [sw]; rfl) (by decide) ?_
    refine ep_aload_n (j := 0) d_P_putUntold_101 rfl rfl ?_
    refine ep_aload_n (j := 0) d_P_putUntold_102 rfl rfl ?_
    refine ep_getf (fi := 2) (v := .ref 2) d_P_putUntold_103 cl3 lf_P_21 (by decide) rfl rfl ?_
    refine ep_iload_n (j := 1) d_P_putUntold_106 rfl rfl ?_
    refine ep_callVi (As := [.int x]) (st := [.ref 8]) d_P_putUntold_107 lk_P_59 cal_D_kindOf tm_D_kindOf ts_D_kindOf rfl rfl rfl (Nat.le_of_ble_eq_true rfl) (Nat.le_of_ble_eq_true rfl) rfl rfl (D_kindN hR.1 _) ?_
    refine ep_callVw (As := [.int (kN N x)]) (st := []) d_P_putUntold_110 lk_P_84 cal_P_putWrapping tm_P_putWrapping ts_P_putWrapping rfl rfl rfl (Nat.le_of_ble_eq_true rfl) (Nat.le_of_ble_eq_true rfl) rfl rfl (P_putWrapping hR (kN N x)) (fun q6 cI6 cA6 e6 hR6 f6 => ?_) (fun k cI6 cA6 s6 e6 hR6 f6 => WP_x (Fr3.trans Fr3.rfl' f6) (by first | (simp [wUnt, bnd_i, bnd_x, sw, e6]; done) | simp_all [wUnt, bnd_i, bnd_x]) hR6)
    have F6 := Fr3.trans Fr3.rfl' f6
    refine ep_aload_n (j := 0) d_P_putUntold_113 rfl rfl ?_
    refine ep_iload_n (j := 3) d_P_putUntold_114 rfl rfl ?_
    refine ep_iload_n (j := 2) d_P_putUntold_115 rfl rfl ?_
    refine ep_iconst (v := 1) d_P_putUntold_116 (by decide) ?_
    refine ep_iadd d_P_putUntold_117 ?_
    refine ep_callVw (As := [.int (cN N x 2), .int (l + 1)]) (st := []) d_P_putUntold_118 lk_P_42 cal_P_putType tm_P_putType ts_P_putType rfl rfl rfl (Nat.le_of_ble_eq_true rfl) (Nat.le_of_ble_eq_true rfl) rfl rfl ((hrec false _ _ _ _ hR6).up (by omega)) (fun q7 cI7 cA7 e7 hR7 f7 => ?_) (fun k cI7 cA7 s7 e7 hR7 f7 => WP_x (Fr3.trans F6 f7) (by first | (simp [wUnt, bnd_i, bnd_x, sw, e6, e7]; done) | simp_all [wUnt, bnd_i, bnd_x]) hR7)
    have F7 := Fr3.trans F6 f7
    refine ep_goto (tgt := 196) d_P_putUntold_121 (by decide) ?_
    exact ep_vret d_P_putUntold_196 rfl (WP_ok (f := fun _ : WS => none) (q := q7) F7 (by first | (simp [wUnt, bnd_i, bnd_x, sw, e6, e7]; done) | simp_all [wUnt, bnd_i, bnd_x]) hR7)
  · refine ep_tsIn (tgt := 101) (off := 79) d_P_putUntold_22 (by rw [sw]; decide) (by rw [sw]; decide) (by rw [sw]; rfl) (by decide) ?_
    refine ep_aload_n (j := 0) d_P_putUntold_101 rfl rfl ?_
    refine ep_aload_n (j := 0) d_P_putUntold_102 rfl rfl ?_
    refine ep_getf (fi := 2) (v := .ref 2) d_P_putUntold_103 cl3 lf_P_21 (by decide) rfl rfl ?_
    refine ep_iload_n (j := 1) d_P_putUntold_106 rfl rfl ?_
    refine ep_callVi (As := [.int x]) (st := [.ref 8]) d_P_putUntold_107 lk_P_59 cal_D_kindOf tm_D_kindOf ts_D_kindOf rfl rfl rfl (Nat.le_of_ble_eq_true rfl) (Nat.le_of_ble_eq_true rfl) rfl rfl (D_kindN hR.1 _) ?_
    refine ep_callVw (As := [.int (kN N x)]) (st := []) d_P_putUntold_110 lk_P_84 cal_P_putWrapping tm_P_putWrapping ts_P_putWrapping rfl rfl rfl (Nat.le_of_ble_eq_true rfl) (Nat.le_of_ble_eq_true rfl) rfl rfl (P_putWrapping hR (kN N x)) (fun q8 cI8 cA8 e8 hR8 f8 => ?_) (fun k cI8 cA8 s8 e8 hR8 f8 => WP_x (Fr3.trans Fr3.rfl' f8) (by first | (simp [wUnt, bnd_i, bnd_x, sw, e8]; done) | simp_all [wUnt, bnd_i, bnd_x]) hR8)
    have F8 := Fr3.trans Fr3.rfl' f8
    refine ep_aload_n (j := 0) d_P_putUntold_113 rfl rfl ?_
    refine ep_iload_n (j := 3) d_P_putUntold_114 rfl rfl ?_
    refine ep_iload_n (j := 2) d_P_putUntold_115 rfl rfl ?_
    refine ep_iconst (v := 1) d_P_putUntold_116 (by decide) ?_
    refine ep_iadd d_P_putUntold_117 ?_
    refine ep_callVw (As := [.int (cN N x 2), .int (l + 1)]) (st := []) d_P_putUntold_118 lk_P_42 cal_P_putType tm_P_putType ts_P_putType rfl rfl rfl (Nat.le_of_ble_eq_true rfl) (Nat.le_of_ble_eq_true rfl) rfl rfl ((hrec false _ _ _ _ hR8).up (by omega)) (fun q9 cI9 cA9 e9 hR9 f9 => ?_) (fun k cI9 cA9 s9 e9 hR9 f9 => WP_x (Fr3.trans F8 f9) (by first | (simp [wUnt, bnd_i, bnd_x, sw, e8, e9]; done) | simp_all [wUnt, bnd_i, bnd_x]) hR9)
    have F9 := Fr3.trans F8 f9
    refine ep_goto (tgt := 196) d_P_putUntold_121 (by decide) ?_
    exact ep_vret d_P_putUntold_196 rfl (WP_ok (f := fun _ : WS => none) (q := q9) F9 (by first | (simp [wUnt, bnd_i, bnd_x, sw, e8, e9]; done) | simp_all [wUnt, bnd_i, bnd_x]) hR9)
  · refine ep_tsIn (tgt := 101) (off := 79) d_P_putUntold_22 (by rw [sw]; decide) (by rw [sw]; decide) (by rw [sw]; rfl) (by decide) ?_
    refine ep_aload_n (j := 0) d_P_putUntold_101 rfl rfl ?_
    refine ep_aload_n (j := 0) d_P_putUntold_102 rfl rfl ?_
    refine ep_getf (fi := 2) (v := .ref 2) d_P_putUntold_103 cl3 lf_P_21 (by decide) rfl rfl ?_
    refine ep_iload_n (j := 1) d_P_putUntold_106 rfl rfl ?_
    refine ep_callVi (As := [.int x]) (st := [.ref 8]) d_P_putUntold_107 lk_P_59 cal_D_kindOf tm_D_kindOf ts_D_kindOf rfl rfl rfl (Nat.le_of_ble_eq_true rfl) (Nat.le_of_ble_eq_true rfl) rfl rfl (D_kindN hR.1 _) ?_
    refine ep_callVw (As := [.int (kN N x)]) (st := []) d_P_putUntold_110 lk_P_84 cal_P_putWrapping tm_P_putWrapping ts_P_putWrapping rfl rfl rfl (Nat.le_of_ble_eq_true rfl) (Nat.le_of_ble_eq_true rfl) rfl rfl (P_putWrapping hR (kN N x)) (fun q10 cI10 cA10 e10 hR10 f10 => ?_) (fun k cI10 cA10 s10 e10 hR10 f10 => WP_x (Fr3.trans Fr3.rfl' f10) (by first | (simp [wUnt, bnd_i, bnd_x, sw, e10]; done) | simp_all [wUnt, bnd_i, bnd_x]) hR10)
    have F10 := Fr3.trans Fr3.rfl' f10
    refine ep_aload_n (j := 0) d_P_putUntold_113 rfl rfl ?_
    refine ep_iload_n (j := 3) d_P_putUntold_114 rfl rfl ?_
    refine ep_iload_n (j := 2) d_P_putUntold_115 rfl rfl ?_
    refine ep_iconst (v := 1) d_P_putUntold_116 (by decide) ?_
    refine ep_iadd d_P_putUntold_117 ?_
    refine ep_callVw (As := [.int (cN N x 2), .int (l + 1)]) (st := []) d_P_putUntold_118 lk_P_42 cal_P_putType tm_P_putType ts_P_putType rfl rfl rfl (Nat.le_of_ble_eq_true rfl) (Nat.le_of_ble_eq_true rfl) rfl rfl ((hrec false _ _ _ _ hR10).up (by omega)) (fun q11 cI11 cA11 e11 hR11 f11 => ?_) (fun k cI11 cA11 s11 e11 hR11 f11 => WP_x (Fr3.trans F10 f11) (by first | (simp [wUnt, bnd_i, bnd_x, sw, e10, e11]; done) | simp_all [wUnt, bnd_i, bnd_x]) hR11)
    have F11 := Fr3.trans F10 f11
    refine ep_goto (tgt := 196) d_P_putUntold_121 (by decide) ?_
    exact ep_vret d_P_putUntold_196 rfl (WP_ok (f := fun _ : WS => none) (q := q11) F11 (by first | (simp [wUnt, bnd_i, bnd_x, sw, e10, e11]; done) | simp_all [wUnt, bnd_i, bnd_x]) hR11)
  · refine ep_tsIn (tgt := 124) (off := 102) d_P_putUntold_22 (by rw [sw]; decide) (by rw [sw]; decide) (by rw [sw]; rfl) (by decide) ?_
    refine ep_aload_n (j := 0) d_P_putUntold_124 rfl rfl ?_
    refine ep_bipush (v := 65) d_P_putUntold_125 (by decide) ?_
    refine ep_callVw (As := [.int 65]) (st := []) d_P_putUntold_127 lk_P_29 cal_P_put tm_P_put ts_P_put rfl rfl rfl (Nat.le_of_ble_eq_true rfl) (Nat.le_of_ble_eq_true rfl) rfl rfl (P_put hR 65) (fun q12 cI12 cA12 e12 hR12 f12 => ?_) (fun k cI12 cA12 s12 e12 hR12 f12 => WP_x (Fr3.trans Fr3.rfl' f12) (by first | (simp [wUnt, bnd_i, bnd_x, sw, e12]; done) | simp_all [wUnt, bnd_i, bnd_x]) hR12)
    have F12 := Fr3.trans Fr3.rfl' f12
    refine ep_aload_n (j := 0) d_P_putUntold_130 rfl rfl ?_
    refine ep_aload_n (j := 0) d_P_putUntold_131 rfl rfl ?_
    refine ep_getf (fi := 2) (v := .ref 2) d_P_putUntold_132 cl3 lf_P_21 (by decide) rfl rfl ?_
    refine ep_iload_n (j := 1) d_P_putUntold_135 rfl rfl ?_
    refine ep_iconst (v := 1) d_P_putUntold_136 (by decide) ?_
    refine ep_callVi (As := [.int x, .int 1]) (st := [.ref 8]) d_P_putUntold_137 lk_P_32 cal_D_cell tm_D_cell ts_D_cell rfl rfl rfl (Nat.le_of_ble_eq_true rfl) (Nat.le_of_ble_eq_true rfl) rfl rfl (D_cellN hR12.1 _ 1 (by decide +kernel) (by decide)) ?_
    refine ep_callVw (As := [.int (cN N x 1)]) (st := []) d_P_putUntold_140 lk_P_87 cal_P_putDecimal tm_P_putDecimal ts_P_putDecimal rfl rfl rfl (Nat.le_of_ble_eq_true rfl) (Nat.le_of_ble_eq_true rfl) rfl rfl (P_putDecimal hR12 (cN N x 1)) (fun q13 cI13 cA13 e13 hR13 f13 => ?_) (fun k cI13 cA13 s13 e13 hR13 f13 => WP_x (Fr3.trans F12 f13) (by first | (simp [wUnt, bnd_i, bnd_x, sw, e12, e13]; done) | simp_all [wUnt, bnd_i, bnd_x]) hR13)
    have F13 := Fr3.trans F12 f13
    refine ep_aload_n (j := 0) d_P_putUntold_143 rfl rfl ?_
    refine ep_bipush (v := 95) d_P_putUntold_144 (by decide) ?_
    refine ep_callVw (As := [.int 95]) (st := []) d_P_putUntold_146 lk_P_29 cal_P_put tm_P_put ts_P_put rfl rfl rfl (Nat.le_of_ble_eq_true rfl) (Nat.le_of_ble_eq_true rfl) rfl rfl (P_put hR13 95) (fun q14 cI14 cA14 e14 hR14 f14 => ?_) (fun k cI14 cA14 s14 e14 hR14 f14 => WP_x (Fr3.trans F13 f14) (by first | (simp [wUnt, bnd_i, bnd_x, sw, e12, e13, e14]; done) | simp_all [wUnt, bnd_i, bnd_x]) hR14)
    have F14 := Fr3.trans F13 f14
    refine ep_aload_n (j := 0) d_P_putUntold_149 rfl rfl ?_
    refine ep_iload_n (j := 3) d_P_putUntold_150 rfl rfl ?_
    refine ep_iload_n (j := 2) d_P_putUntold_151 rfl rfl ?_
    refine ep_iconst (v := 1) d_P_putUntold_152 (by decide) ?_
    refine ep_iadd d_P_putUntold_153 ?_
    refine ep_callVw (As := [.int (cN N x 2), .int (l + 1)]) (st := []) d_P_putUntold_154 lk_P_42 cal_P_putType tm_P_putType ts_P_putType rfl rfl rfl (Nat.le_of_ble_eq_true rfl) (Nat.le_of_ble_eq_true rfl) rfl rfl ((hrec false _ _ _ _ hR14).up (by omega)) (fun q15 cI15 cA15 e15 hR15 f15 => ?_) (fun k cI15 cA15 s15 e15 hR15 f15 => WP_x (Fr3.trans F14 f15) (by first | (simp [wUnt, bnd_i, bnd_x, sw, e12, e13, e14, e15]; done) | simp_all [wUnt, bnd_i, bnd_x]) hR15)
    have F15 := Fr3.trans F14 f15
    refine ep_goto (tgt := 196) d_P_putUntold_157 (by decide) ?_
    exact ep_vret d_P_putUntold_196 rfl (WP_ok (f := fun _ : WS => none) (q := q15) F15 (by first | (simp [wUnt, bnd_i, bnd_x, sw, e12, e13, e14, e15]; done) | simp_all [wUnt, bnd_i, bnd_x]) hR15)
  · refine ep_tsIn (tgt := 160) (off := 138) d_P_putUntold_22 (by rw [sw]; decide) (by rw [sw]; decide) (by rw [sw]; rfl) (by decide) ?_
    refine ep_aload_n (j := 0) d_P_putUntold_160 rfl rfl ?_
    refine ep_bipush (v := 70) d_P_putUntold_161 (by decide) ?_
    refine ep_callVw (As := [.int 70]) (st := []) d_P_putUntold_163 lk_P_29 cal_P_put tm_P_put ts_P_put rfl rfl rfl (Nat.le_of_ble_eq_true rfl) (Nat.le_of_ble_eq_true rfl) rfl rfl (P_put hR 70) (fun q16 cI16 cA16 e16 hR16 f16 => ?_) (fun k cI16 cA16 s16 e16 hR16 f16 => WP_x (Fr3.trans Fr3.rfl' f16) (by first | (simp [wUnt, bnd_i, bnd_x, sw, e16]; done) | simp_all [wUnt, bnd_i, bnd_x]) hR16)
    have F16 := Fr3.trans Fr3.rfl' f16
    refine ep_aload_n (j := 0) d_P_putUntold_166 rfl rfl ?_
    refine ep_iload_n (j := 3) d_P_putUntold_167 rfl rfl ?_
    refine ep_iload_n (j := 2) d_P_putUntold_168 rfl rfl ?_
    refine ep_iconst (v := 1) d_P_putUntold_169 (by decide) ?_
    refine ep_iadd d_P_putUntold_170 ?_
    refine ep_callVw (As := [.int (cN N x 2), .int (l + 1)]) (st := []) d_P_putUntold_171 lk_P_42 cal_P_putType tm_P_putType ts_P_putType rfl rfl rfl (Nat.le_of_ble_eq_true rfl) (Nat.le_of_ble_eq_true rfl) rfl rfl ((hrec false _ _ _ _ hR16).up (by omega)) (fun q17 cI17 cA17 e17 hR17 f17 => ?_) (fun k cI17 cA17 s17 e17 hR17 f17 => WP_x (Fr3.trans F16 f17) (by first | (simp [wUnt, bnd_i, bnd_x, sw, e16, e17]; done) | simp_all [wUnt, bnd_i, bnd_x]) hR17)
    have F17 := Fr3.trans F16 f17
    refine ep_aload_n (j := 0) d_P_putUntold_174 rfl rfl ?_
    refine ep_iload_n (j := 1) d_P_putUntold_175 rfl rfl ?_
    refine ep_iload_n (j := 2) d_P_putUntold_176 rfl rfl ?_
    refine ep_iconst (v := 1) d_P_putUntold_177 (by decide) ?_
    refine ep_iadd d_P_putUntold_178 ?_
    refine ep_callVw (As := [.int x, .int (l + 1)]) (st := []) d_P_putUntold_179 lk_P_45 cal_P_putParameters tm_P_putParameters ts_P_putParameters rfl rfl rfl (Nat.le_of_ble_eq_true rfl) (Nat.le_of_ble_eq_true rfl) rfl rfl ((P_putParameters hR17 hrec x).up (by omega)) (fun q18 cI18 cA18 e18 hR18 f18 => ?_) (fun k cI18 cA18 s18 e18 hR18 f18 => WP_x (Fr3.trans F17 f18) (by first | (simp [wUnt, bnd_i, bnd_x, sw, e16, e17, e18]; done) | simp_all [wUnt, bnd_i, bnd_x]) hR18)
    have F18 := Fr3.trans F17 f18
    refine ep_aload_n (j := 0) d_P_putUntold_182 rfl rfl ?_
    refine ep_bipush (v := 69) d_P_putUntold_183 (by decide) ?_
    refine ep_callVw (As := [.int 69]) (st := []) d_P_putUntold_185 lk_P_29 cal_P_put tm_P_put ts_P_put rfl rfl rfl (Nat.le_of_ble_eq_true rfl) (Nat.le_of_ble_eq_true rfl) rfl rfl (P_put hR18 69) (fun q19 cI19 cA19 e19 hR19 f19 => ?_) (fun k cI19 cA19 s19 e19 hR19 f19 => WP_x (Fr3.trans F18 f19) (by first | (simp [wUnt, bnd_i, bnd_x, sw, e16, e17, e18, e19]; done) | simp_all [wUnt, bnd_i, bnd_x]) hR19)
    have F19 := Fr3.trans F18 f19
    refine ep_goto (tgt := 196) d_P_putUntold_188 (by decide) ?_
    exact ep_vret d_P_putUntold_196 rfl (WP_ok (f := fun _ : WS => none) (q := q19) F19 (by first | (simp [wUnt, bnd_i, bnd_x, sw, e16, e17, e18, e19]; done) | simp_all [wUnt, bnd_i, bnd_x]) hR19)
  · refine ep_tsOut (tgt := 191) d_P_putUntold_22 (no7 sw) (by decide) ?_
    refine ep_aload_n (j := 0) d_P_putUntold_191 rfl rfl ?_
    refine ep_iload_n (j := 1) d_P_putUntold_192 rfl rfl ?_
    refine ep_callVw (As := [.int x]) (st := []) d_P_putUntold_193 lk_P_75 cal_P_putId tm_P_putId ts_P_putId rfl rfl rfl (Nat.le_of_ble_eq_true rfl) (Nat.le_of_ble_eq_true rfl) rfl rfl (P_putId hR x) (fun q20 cI20 cA20 e20 hR20 f20 => ?_) (fun k cI20 cA20 s20 e20 hR20 f20 => WP_x (Fr3.trans Fr3.rfl' f20) (by first | (simp [wUnt, bnd_i, bnd_x, sw, e20]; done) | simp_all [wUnt, bnd_i, bnd_x]) hR20)
    have F20 := Fr3.trans Fr3.rfl' f20
    exact ep_vret d_P_putUntold_196 rfl (WP_ok (f := fun _ : WS => none) (q := q20) F20 (by first | (simp [wUnt, bnd_i, bnd_x, sw, e20]; done) | simp_all [wUnt, bnd_i, bnd_x]) hR20)
set_option maxHeartbeats 4000000 in
set_option maxRecDepth 100000 in
theorem P_putTypeB (hR : CW cI cA N s) {l : Int32} {rec : Bool → Int32 → WS → Ex WS} (hrec : ∀ b x cI cA s, CW cI cA N s → EvP (mPT b) (d + 6) 0 [(0, .ref 8), (1, .int x), (2, .int (l + 1))] [] (HC X cI cA rI rA ol J) (WPu X cI cA rI rA ol J N (rec b x s))) (hle : l ≤ 16) (x : Int32) : EvP m_P_putType (d + 10) 0 [(0, .ref 8), (1, .int x), (2, .int l)] [] (HC X cI cA rI rA ol J) (WPu X cI cA rI rA ol J N (wTyB N (wUnt N rec) x s)) := by
  refine ep_aload_n (j := 0) d_P_putType_0 rfl rfl ?_
  refine ep_getf (fi := 2) (v := .ref 2) d_P_putType_1 cl3 lf_P_21 (by decide) rfl rfl ?_
  refine ep_iload_n (j := 1) d_P_putType_4 rfl rfl ?_
  refine ep_callVi (As := [.int x]) (st := []) d_P_putType_5 lk_P_59 cal_D_kindOf tm_D_kindOf ts_D_kindOf rfl rfl rfl (Nat.le_of_ble_eq_true rfl) (Nat.le_of_ble_eq_true rfl) rfl rfl (D_kindN hR.1 _) ?_
  refine ep_if_ne (tgt := 19) d_P_putType_8 (by decide) (fun c8 => ?_) (fun c8 => ?_)
  · refine ep_aload_n (j := 0) d_P_putType_19 rfl rfl ?_
    refine ep_iload_n (j := 1) d_P_putType_20 rfl rfl ?_
    refine ep_callVw (As := [.int x]) (st := []) d_P_putType_21 lk_P_66 cal_P_putTold tm_P_putTold ts_P_putTold rfl rfl rfl (Nat.le_of_ble_eq_true rfl) (Nat.le_of_ble_eq_true rfl) rfl rfl (P_putTold hR x) (fun q1 cI1 cA1 e1 hR1 f1 => ?_) (fun k cI1 cA1 s1 e1 hR1 f1 => WP_x (Fr3.trans Fr3.rfl' f1) (by first | (simp [wTyB, bnd_i, bnd_x, c8, e1]; done) | simp_all [wTyB, bnd_i, bnd_x]) hR1)
    have F1 := Fr3.trans Fr3.rfl' f1
    refine ep_if_ne (tgt := 42) d_P_putType_24 (by decide) (fun c24 => ?_) (fun c24 => ?_)
    · exact ep_vret d_P_putType_42 rfl (WP_ok (f := fun _ : WS => none) (q := q1.2) F1 (by first | (simp [wTyB, bnd_i, bnd_x, c8, e1, c24]; done) | simp_all [wTyB, bnd_i, bnd_x]) hR1)
    · refine ep_aload_n (j := 0) d_P_putType_27 rfl rfl ?_
      refine ep_iload_n (j := 1) d_P_putType_28 rfl rfl ?_
      refine ep_iload_n (j := 2) d_P_putType_29 rfl rfl ?_
      refine ep_callVw (As := [.int x, .int l]) (st := []) d_P_putType_30 lk_P_38 cal_P_putUntold tm_P_putUntold ts_P_putUntold rfl rfl rfl (Nat.le_of_ble_eq_true rfl) (Nat.le_of_ble_eq_true rfl) rfl rfl ((P_putUntold hR1 hrec hle x).up (by omega)) (fun q2 cI2 cA2 e2 hR2 f2 => ?_) (fun k cI2 cA2 s2 e2 hR2 f2 => WP_x (Fr3.trans F1 f2) (by first | (simp [wTyB, bnd_i, bnd_x, c8, e1, c24, e2]; done) | simp_all [wTyB, bnd_i, bnd_x]) hR2)
      have F2 := Fr3.trans F1 f2
      refine ep_aload_n (j := 0) d_P_putType_33 rfl rfl ?_
      refine ep_getf (fi := 1) (v := .ref 11) d_P_putType_34 cl3 lf_P_18 (by decide) rfl rfl ?_
      refine ep_iload_n (j := 1) d_P_putType_37 rfl rfl ?_
      refine ep_callVtw (As := [.int x]) (st := []) d_P_putType_38 lk_P_48 cal_W_add tm_W_add ts_W_add rfl rfl rfl (Nat.le_of_ble_eq_true rfl) (Nat.le_of_ble_eq_true rfl) rfl rfl (WT_add hR2 x) (fun b3 cI3 cA3 hR3 f3 => ?_)
      have F3 := Fr3.trans F2 f3
      refine ep_pop d_P_putType_41 rfl ?_
      exact ep_vret d_P_putType_42 rfl (WP_ok (f := fun _ : WS => none) (q := wta q2 x) F3 (by first | (simp [wTyB, bnd_i, bnd_x, c8, e1, c24, e2]; done) | simp_all [wTyB, bnd_i, bnd_x]) hR3)
  · refine ep_aload_n (j := 0) d_P_putType_11 rfl rfl ?_
    refine ep_iload_n (j := 1) d_P_putType_12 rfl rfl ?_
    refine ep_callVw (As := [.int x]) (st := []) d_P_putType_13 lk_P_63 cal_P_putBuiltin tm_P_putBuiltin ts_P_putBuiltin rfl rfl rfl (Nat.le_of_ble_eq_true rfl) (Nat.le_of_ble_eq_true rfl) rfl rfl (P_putBuiltin hR x) (fun q4 cI4 cA4 e4 hR4 f4 => ?_) (fun k cI4 cA4 s4 e4 hR4 f4 => WP_x (Fr3.trans Fr3.rfl' f4) (by first | (simp [wTyB, bnd_i, bnd_x, c8, e4]; done) | simp_all [wTyB, bnd_i, bnd_x]) hR4)
    have F4 := Fr3.trans Fr3.rfl' f4
    refine ep_goto (tgt := 42) d_P_putType_16 (by decide) ?_
    exact ep_vret d_P_putType_42 rfl (WP_ok (f := fun _ : WS => none) (q := q4) F4 (by first | (simp [wTyB, bnd_i, bnd_x, c8, e4]; done) | simp_all [wTyB, bnd_i, bnd_x]) hR4)
set_option maxHeartbeats 4000000 in
set_option maxRecDepth 100000 in
theorem P_putUntold0 (hR : CW cI cA N s) {l : Int32} (hle : ¬ l ≤ 16) (x : Int32) : EvP m_P_putUntold (d + 1) 0 [(0, .ref 8), (1, .int x), (2, .int l)] [] (HC X cI cA rI rA ol J) (WPu X cI cA rI rA ol J N ((fun _ _ => .inl 2 : Int32 → WS → Ex WS) x s)) := by
  refine ep_iload_n (j := 2) d_P_putUntold_0 rfl rfl ?_
  exact ep_callSX (As := [.int l]) (st := []) d_P_putUntold_1 (Or.inl lk_P_69) cal_P_needLevel tm_P_needLevel ti_P rfl (Nat.le_of_ble_eq_true rfl) (Nat.le_of_ble_eq_true rfl) rfl rfl (P_needLevel0 hle) (WP_x Fr3.rfl' (by first | (simp [bnd_i, bnd_x]; done) | simp_all [bnd_i, bnd_x]) hR)
set_option maxHeartbeats 4000000 in
set_option maxRecDepth 100000 in
theorem P_putPrefix0 (hR : CW cI cA N s) {l : Int32} (hle : ¬ l ≤ 16) (x : Int32) : EvP m_P_putPrefix (d + 4) 0 [(0, .ref 8), (1, .int x), (2, .int l)] [] (HC X cI cA rI rA ol J) (WPu X cI cA rI rA ol J N (wPrB (fun _ _ => .inl 2) x s)) := by
  refine ep_aload_n (j := 0) d_P_putPrefix_0 rfl rfl ?_
  refine ep_iload_n (j := 1) d_P_putPrefix_1 rfl rfl ?_
  refine ep_callVw (As := [.int x]) (st := []) d_P_putPrefix_2 lk_P_66 cal_P_putTold tm_P_putTold ts_P_putTold rfl rfl rfl (Nat.le_of_ble_eq_true rfl) (Nat.le_of_ble_eq_true rfl) rfl rfl (P_putTold hR x) (fun q1 cI1 cA1 e1 hR1 f1 => ?_) (fun k cI1 cA1 s1 e1 hR1 f1 => WP_x (Fr3.trans Fr3.rfl' f1) (by first | (simp [wPrB, bnd_i, bnd_x, e1]; done) | simp_all [wPrB, bnd_i, bnd_x]) hR1)
  have F1 := Fr3.trans Fr3.rfl' f1
  refine ep_if_eq (tgt := 9) d_P_putPrefix_5 (by decide) (fun c5 => ?_) (fun c5 => ?_)
  · refine ep_iload_n (j := 2) d_P_putPrefix_9 rfl rfl ?_
    exact ep_callSX (As := [.int l]) (st := []) d_P_putPrefix_10 (Or.inl lk_P_69) cal_P_needLevel tm_P_needLevel ti_P rfl (Nat.le_of_ble_eq_true rfl) (Nat.le_of_ble_eq_true rfl) rfl rfl (P_needLevel0 hle) (WP_x F1 (by first | (simp [wPrB, bnd_i, bnd_x, e1, c5]; done) | simp_all [wPrB, bnd_i, bnd_x]) hR1)
  · exact ep_vret d_P_putPrefix_8 rfl (WP_ok (f := fun _ : WS => none) (q := q1.2) F1 (by first | (simp [wPrB, bnd_i, bnd_x, e1, c5]; done) | simp_all [wPrB, bnd_i, bnd_x]) hR1)
set_option maxHeartbeats 4000000 in
set_option maxRecDepth 100000 in
theorem P_putType0 (hR : CW cI cA N s) {l : Int32} (hle : ¬ l ≤ 16) (x : Int32) : EvP m_P_putType (d + 5) 0 [(0, .ref 8), (1, .int x), (2, .int l)] [] (HC X cI cA rI rA ol J) (WPu X cI cA rI rA ol J N (wTyB N (fun _ _ => .inl 2) x s)) := by
  refine ep_aload_n (j := 0) d_P_putType_0 rfl rfl ?_
  refine ep_getf (fi := 2) (v := .ref 2) d_P_putType_1 cl3 lf_P_21 (by decide) rfl rfl ?_
  refine ep_iload_n (j := 1) d_P_putType_4 rfl rfl ?_
  refine ep_callVi (As := [.int x]) (st := []) d_P_putType_5 lk_P_59 cal_D_kindOf tm_D_kindOf ts_D_kindOf rfl rfl rfl (Nat.le_of_ble_eq_true rfl) (Nat.le_of_ble_eq_true rfl) rfl rfl (D_kindN hR.1 _) ?_
  refine ep_if_ne (tgt := 19) d_P_putType_8 (by decide) (fun c8 => ?_) (fun c8 => ?_)
  · refine ep_aload_n (j := 0) d_P_putType_19 rfl rfl ?_
    refine ep_iload_n (j := 1) d_P_putType_20 rfl rfl ?_
    refine ep_callVw (As := [.int x]) (st := []) d_P_putType_21 lk_P_66 cal_P_putTold tm_P_putTold ts_P_putTold rfl rfl rfl (Nat.le_of_ble_eq_true rfl) (Nat.le_of_ble_eq_true rfl) rfl rfl (P_putTold hR x) (fun q1 cI1 cA1 e1 hR1 f1 => ?_) (fun k cI1 cA1 s1 e1 hR1 f1 => WP_x (Fr3.trans Fr3.rfl' f1) (by first | (simp [wTyB, bnd_i, bnd_x, c8, e1]; done) | simp_all [wTyB, bnd_i, bnd_x]) hR1)
    have F1 := Fr3.trans Fr3.rfl' f1
    refine ep_if_ne (tgt := 42) d_P_putType_24 (by decide) (fun c24 => ?_) (fun c24 => ?_)
    · exact ep_vret d_P_putType_42 rfl (WP_ok (f := fun _ : WS => none) (q := q1.2) F1 (by first | (simp [wTyB, bnd_i, bnd_x, c8, e1, c24]; done) | simp_all [wTyB, bnd_i, bnd_x]) hR1)
    · refine ep_aload_n (j := 0) d_P_putType_27 rfl rfl ?_
      refine ep_iload_n (j := 1) d_P_putType_28 rfl rfl ?_
      refine ep_iload_n (j := 2) d_P_putType_29 rfl rfl ?_
      refine ep_callVw (As := [.int x, .int l]) (st := []) d_P_putType_30 lk_P_38 cal_P_putUntold tm_P_putUntold ts_P_putUntold rfl rfl rfl (Nat.le_of_ble_eq_true rfl) (Nat.le_of_ble_eq_true rfl) rfl rfl (P_putUntold0 hR1 hle x) (fun q2 cI2 cA2 e2 hR2 f2 => ?_) (fun k cI2 cA2 s2 e2 hR2 f2 => WP_x (Fr3.trans F1 f2) (by first | (simp [wTyB, bnd_i, bnd_x, c8, e1, c24, e2]; done) | simp_all [wTyB, bnd_i, bnd_x]) hR2)
      have F2 := Fr3.trans F1 f2
      refine ep_aload_n (j := 0) d_P_putType_33 rfl rfl ?_
      refine ep_getf (fi := 1) (v := .ref 11) d_P_putType_34 cl3 lf_P_18 (by decide) rfl rfl ?_
      refine ep_iload_n (j := 1) d_P_putType_37 rfl rfl ?_
      refine ep_callVtw (As := [.int x]) (st := []) d_P_putType_38 lk_P_48 cal_W_add tm_W_add ts_W_add rfl rfl rfl (Nat.le_of_ble_eq_true rfl) (Nat.le_of_ble_eq_true rfl) rfl rfl (WT_add hR2 x) (fun b3 cI3 cA3 hR3 f3 => ?_)
      have F3 := Fr3.trans F2 f3
      refine ep_pop d_P_putType_41 rfl ?_
      exact ep_vret d_P_putType_42 rfl (WP_ok (f := fun _ : WS => none) (q := wta q2 x) F3 (by first | (simp [wTyB, bnd_i, bnd_x, c8, e1, c24, e2]; done) | simp_all [wTyB, bnd_i, bnd_x]) hR3)
  · refine ep_aload_n (j := 0) d_P_putType_11 rfl rfl ?_
    refine ep_iload_n (j := 1) d_P_putType_12 rfl rfl ?_
    refine ep_callVw (As := [.int x]) (st := []) d_P_putType_13 lk_P_63 cal_P_putBuiltin tm_P_putBuiltin ts_P_putBuiltin rfl rfl rfl (Nat.le_of_ble_eq_true rfl) (Nat.le_of_ble_eq_true rfl) rfl rfl (P_putBuiltin hR x) (fun q4 cI4 cA4 e4 hR4 f4 => ?_) (fun k cI4 cA4 s4 e4 hR4 f4 => WP_x (Fr3.trans Fr3.rfl' f4) (by first | (simp [wTyB, bnd_i, bnd_x, c8, e4]; done) | simp_all [wTyB, bnd_i, bnd_x]) hR4)
    have F4 := Fr3.trans Fr3.rfl' f4
    refine ep_goto (tgt := 42) d_P_putType_16 (by decide) ?_
    exact ep_vret d_P_putType_42 rfl (WP_ok (f := fun _ : WS => none) (q := q4) F4 (by first | (simp [wTyB, bnd_i, bnd_x, c8, e4]; done) | simp_all [wTyB, bnd_i, bnd_x]) hR4)
theorem P_rec : ∀ (k : Nat) {l : Int32} (_ : l = nI (17 - k)) (_ : k ≤ 16) (b : Bool) (x : Int32) (cI : Nat → Int32) (cA : Nat → Nat → Int32) (s : WS), CW cI cA N s → EvP (mPT b) (d + 6 + 4 * k) 0 [(0, .ref 8), (1, .int x), (2, .int l)] [] (HC X cI cA rI rA ol J) (WPu X cI cA rI rA ol J N (wW N k b x s)) := by
  intro k
  induction k with
  | zero =>
    intro l hl hk b x cI cA s hR
    have hle : ¬ l ≤ 16 := by rw [hl]; decide +kernel
    cases b with
    | true => exact (P_putPrefix0 (d := d) hR hle x).up (by omega)
    | false => exact (P_putType0 (d := d) hR hle x).up (by omega)
  | succ k ih =>
    intro l hl hk b x cI cA s hR
    have hle : l ≤ 16 := by
      rw [hl, show (16 : Int32) = nI 16 from by decide +kernel]
      exact nI_le (by omega) (by omega)
    have hrec : ∀ b x cI cA s, CW cI cA N s → EvP (mPT b) (d + 4 * k + 6) 0 [(0, .ref 8), (1, .int x), (2, .int (l + 1))] [] (HC X cI cA rI rA ol J) (WPu X cI cA rI rA ol J N (wW N k b x s)) := fun b x cI cA s hR => (ih (l := l + 1) (by rw [hl, nI_1, show 17 - (k + 1) + 1 = 17 - k from by omega]) (by omega) b x cI cA s hR).up (by omega)
    cases b with
    | true => exact (P_putPrefixB (d := d + 4 * k) hR hrec hle x).up (by omega)
    | false => exact (P_putTypeB (d := d + 4 * k) hR hrec hle x).up (by omega)
set_option maxHeartbeats 4000000 in
set_option maxRecDepth 100000 in
theorem P_entity_b (hR : CW cI cA N ([], [])) (e : Int32) : EvP m_P_putEntity (d + 80) 16 [(0, .ref 8), (1, .int e)] [] (HC X cI cA rI rA ol J) (WPu X cI cA rI rA ol J N (wEnt N e)) := by
  have hr15 : ∀ b x cI cA s, CW cI cA N s → EvP (mPT b) (d + 60 + 6) 0 [(0, .ref 8), (1, .int x), (2, .int ((1 : Int32) + 1))] [] (HC X cI cA rI rA ol J) (WPu X cI cA rI rA ol J N (wW N 15 b x s)) := fun b x cI cA s h => (P_rec (d := d) 15 (l := 1 + 1) (by decide +kernel) (by omega) b x cI cA s h).up (by omega)
  have hr16 : ∀ b x cI cA s, CW cI cA N s → EvP (mPT b) (d + 64 + 6) 0 [(0, .ref 8), (1, .int x), (2, .int (1 : Int32))] [] (HC X cI cA rI rA ol J) (WPu X cI cA rI rA ol J N (wW N 16 b x s)) := fun b x cI cA s h => (P_rec (d := d) 16 (l := 1) (by decide +kernel) (by omega) b x cI cA s h).up (by omega)
  refine ep_aload_n (j := 0) d_P_putEntity_16 rfl rfl ?_
  refine ep_bipush (v := 95) d_P_putEntity_17 (by decide) ?_
  refine ep_callVw (As := [.int 95]) (st := []) d_P_putEntity_19 lk_P_29 cal_P_put tm_P_put ts_P_put rfl rfl rfl (Nat.le_of_ble_eq_true rfl) (Nat.le_of_ble_eq_true rfl) rfl rfl (P_put hR 95) (fun q1 cI1 cA1 e1 hR1 f1 => ?_) (fun k cI1 cA1 s1 e1 hR1 f1 => WP_x (Fr3.trans Fr3.rfl' f1) (by first | (simp [wEnt, bnd_i, bnd_x, e1]; done) | simp_all [wEnt, bnd_i, bnd_x]) hR1)
  have F1 := Fr3.trans Fr3.rfl' f1
  refine ep_aload_n (j := 0) d_P_putEntity_22 rfl rfl ?_
  refine ep_bipush (v := 90) d_P_putEntity_23 (by decide) ?_
  refine ep_callVw (As := [.int 90]) (st := []) d_P_putEntity_25 lk_P_29 cal_P_put tm_P_put ts_P_put rfl rfl rfl (Nat.le_of_ble_eq_true rfl) (Nat.le_of_ble_eq_true rfl) rfl rfl (P_put hR1 90) (fun q2 cI2 cA2 e2 hR2 f2 => ?_) (fun k cI2 cA2 s2 e2 hR2 f2 => WP_x (Fr3.trans F1 f2) (by first | (simp [wEnt, bnd_i, bnd_x, e1, e2]; done) | simp_all [wEnt, bnd_i, bnd_x]) hR2)
  have F2 := Fr3.trans F1 f2
  refine ep_aload_n (j := 0) d_P_putEntity_28 rfl rfl ?_
  refine ep_aload_n (j := 0) d_P_putEntity_29 rfl rfl ?_
  refine ep_getf (fi := 2) (v := .ref 2) d_P_putEntity_30 cl3 lf_P_21 (by decide) rfl rfl ?_
  refine ep_iload_n (j := 1) d_P_putEntity_33 rfl rfl ?_
  refine ep_iconst (v := 2) d_P_putEntity_34 (by decide) ?_
  refine ep_callVi (As := [.int e, .int 2]) (st := [.ref 8]) d_P_putEntity_35 lk_P_32 cal_D_cell tm_D_cell ts_D_cell rfl rfl rfl (Nat.le_of_ble_eq_true rfl) (Nat.le_of_ble_eq_true rfl) rfl rfl (D_cellN hR2.1 _ 2 (by decide +kernel) (by decide)) ?_
  refine ep_iconst (v := 1) d_P_putEntity_38 (by decide) ?_
  refine ep_callVw (As := [.int (cN N e 2), .int 1]) (st := []) d_P_putEntity_39 lk_P_38 cal_P_putUntold tm_P_putUntold ts_P_putUntold rfl rfl rfl (Nat.le_of_ble_eq_true rfl) (Nat.le_of_ble_eq_true rfl) rfl rfl ((P_putUntold (d := d + 60) (l := 1) hR2 hr15 (by decide) (cN N e 2)).up (by omega)) (fun q3 cI3 cA3 e3 hR3 f3 => ?_) (fun k cI3 cA3 s3 e3 hR3 f3 => WP_x (Fr3.trans F2 f3) (by first | (simp [wEnt, bnd_i, bnd_x, e1, e2, e3]; done) | simp_all [wEnt, bnd_i, bnd_x]) hR3)
  have F3 := Fr3.trans F2 f3
  refine ep_aload_n (j := 0) d_P_putEntity_42 rfl rfl ?_
  refine ep_getf (fi := 2) (v := .ref 2) d_P_putEntity_43 cl3 lf_P_21 (by decide) rfl rfl ?_
  refine ep_iload_n (j := 1) d_P_putEntity_46 rfl rfl ?_
  refine ep_iconst (v := 3) d_P_putEntity_47 (by decide) ?_
  refine ep_callVi (As := [.int e, .int 3]) (st := []) d_P_putEntity_48 lk_P_32 cal_D_cell tm_D_cell ts_D_cell rfl rfl rfl (Nat.le_of_ble_eq_true rfl) (Nat.le_of_ble_eq_true rfl) rfl rfl (D_cellN hR3.1 _ 3 (by decide +kernel) (by decide)) ?_
  refine ep_istore_n (lv' := [(0, .ref 8), (1, .int e), (2, .int (cN N e 3))]) [1, 2, 0] d_P_putEntity_51 rfl (by decide) rfl ?_
  refine ep_iload_n (j := 2) d_P_putEntity_52 rfl rfl ?_
  refine ep_iconst (v := (-1)) d_P_putEntity_53 (by decide) ?_
  refine ep_icmp_eq (tgt := 63) d_P_putEntity_54 (by decide) (fun c54 => ?_) (fun c54 => ?_)
  · refine ep_aload_n (j := 0) d_P_putEntity_63 rfl rfl ?_
    refine ep_iload_n (j := 1) d_P_putEntity_64 rfl rfl ?_
    refine ep_iconst (v := 1) d_P_putEntity_65 (by decide) ?_
    refine ep_callVw (As := [.int e, .int 1]) (st := []) d_P_putEntity_66 lk_P_45 cal_P_putParameters tm_P_putParameters ts_P_putParameters rfl rfl rfl (Nat.le_of_ble_eq_true rfl) (Nat.le_of_ble_eq_true rfl) rfl rfl ((P_putParameters (d := d + 64) hR3 hr16 e).up (by omega)) (fun q4 cI4 cA4 e4 hR4 f4 => ?_) (fun k cI4 cA4 s4 e4 hR4 f4 => WP_x (Fr3.trans F3 f4) (by first | (simp [wEnt, bnd_i, bnd_x, e1, e2, e3, c54, e4]; done) | simp_all [wEnt, bnd_i, bnd_x]) hR4)
    have F4 := Fr3.trans F3 f4
    exact ep_vret d_P_putEntity_69 rfl (WP_ok (f := fun _ : WS => none) (q := q4) F4 (by first | (simp [wEnt, bnd_i, bnd_x, e1, e2, e3, c54, e4]; done) | simp_all [wEnt, bnd_i, bnd_x]) hR4)
  · refine ep_aload_n (j := 0) d_P_putEntity_57 rfl rfl ?_
    refine ep_iload_n (j := 2) d_P_putEntity_58 rfl rfl ?_
    refine ep_iconst (v := 1) d_P_putEntity_59 (by decide) ?_
    refine ep_callVw (As := [.int (cN N e 3), .int 1]) (st := []) d_P_putEntity_60 lk_P_42 cal_P_putType tm_P_putType ts_P_putType rfl rfl rfl (Nat.le_of_ble_eq_true rfl) (Nat.le_of_ble_eq_true rfl) rfl rfl ((hr16 false _ _ _ _ hR3).up (by omega)) (fun q5 cI5 cA5 e5 hR5 f5 => ?_) (fun k cI5 cA5 s5 e5 hR5 f5 => WP_x (Fr3.trans F3 f5) (by first | (simp [wEnt, bnd_i, bnd_x, e1, e2, e3, c54, e5]; done) | simp_all [wEnt, bnd_i, bnd_x]) hR5)
    have F5 := Fr3.trans F3 f5
    refine ep_aload_n (j := 0) d_P_putEntity_63 rfl rfl ?_
    refine ep_iload_n (j := 1) d_P_putEntity_64 rfl rfl ?_
    refine ep_iconst (v := 1) d_P_putEntity_65 (by decide) ?_
    refine ep_callVw (As := [.int e, .int 1]) (st := []) d_P_putEntity_66 lk_P_45 cal_P_putParameters tm_P_putParameters ts_P_putParameters rfl rfl rfl (Nat.le_of_ble_eq_true rfl) (Nat.le_of_ble_eq_true rfl) rfl rfl ((P_putParameters (d := d + 64) hR5 hr16 e).up (by omega)) (fun q6 cI6 cA6 e6 hR6 f6 => ?_) (fun k cI6 cA6 s6 e6 hR6 f6 => WP_x (Fr3.trans F5 f6) (by first | (simp [wEnt, bnd_i, bnd_x, e1, e2, e3, c54, e5, e6]; done) | simp_all [wEnt, bnd_i, bnd_x]) hR6)
    have F6 := Fr3.trans F5 f6
    exact ep_vret d_P_putEntity_69 rfl (WP_ok (f := fun _ : WS => none) (q := q6) F6 (by first | (simp [wEnt, bnd_i, bnd_x, e1, e2, e3, c54, e5, e6]; done) | simp_all [wEnt, bnd_i, bnd_x]) hR6)
theorem P_putEntity {n m : Nat} (hN : CN cI cA N) (h4 : cI 4 = nI n) (hn : n ≤ 120) (h5 : cI 5 = nI m) (hm : m ≤ 120) (e : Int32) : EvP m_P_putEntity (d + 80) 0 [(0, .ref 8), (1, .int e)] [] (HC X cI cA rI rA ol J) (WPu X cI cA rI rA ol J N (wEnt N e)) := by
  refine ep_aload_n (j := 0) d_P_putEntity_0 rfl rfl ?_
  refine ep_getf (fi := 0) (v := .ref 9) d_P_putEntity_1 cl3 lf_P_12 (by decide) rfl rfl ?_
  refine ep_iconst (v := 0) d_P_putEntity_4 (by decide) ?_
  have ho : (HC X cI cA rI rA ol J)[9]? = some (mO 2 [.ref 10, .int (nI n)]) := by rw [← h4]; rfl
  have ev := w_cut (d := d + 79) ho (show (HC X cI cA rI rA ol J)[10]? = some (mA 120 (cA 3)) from rfl) (by decide) hn (k := 0) (Nat.zero_le _)
  rw [nI_0] at ev
  refine ep_callVv (h2 := HC X (upd cI 4 0) cA rI rA ol J) (As := [.int 0]) (st := []) d_P_putEntity_5 lk_P_25 cal_W_cut tm_W_cut ts_W_cut rfl rfl rfl (Nat.le_of_ble_eq_true rfl) (Nat.le_of_ble_eq_true rfl) rfl rfl ev ?_
  refine ep_aload_n (j := 0) d_P_putEntity_8 rfl rfl ?_
  refine ep_getf (fi := 1) (v := .ref 11) d_P_putEntity_9 cl3 lf_P_18 (by decide) rfl rfl ?_
  refine ep_iconst (v := 0) d_P_putEntity_12 (by decide) ?_
  have ho2 : (HC X (upd cI 4 0) cA rI rA ol J)[11]? = some (mO 2 [.ref 12, .int (nI m)]) := by rw [← h5]; rfl
  have ev2 := w_cut (d := d + 79) ho2 (show (HC X (upd cI 4 0) cA rI rA ol J)[12]? = some (mA 120 (cA 4)) from rfl) (by decide) hm (k := 0) (Nat.zero_le _)
  rw [nI_0] at ev2
  refine ep_callVv (h2 := HC X (upd (upd cI 4 0) 5 0) cA rI rA ol J) (As := [.int 0]) (st := []) d_P_putEntity_13 lk_P_25 cal_W_cut tm_W_cut ts_W_cut rfl rfl rfl (Nat.le_of_ble_eq_true rfl) (Nat.le_of_ble_eq_true rfl) rfl rfl ev2 ?_
  refine (P_entity_b (N := N) (cI := upd (upd cI 4 0) 5 0) ⟨hN, ⟨nI_0.symm, Nat.zero_le _, rfl⟩, ⟨nI_0.symm, Nat.zero_le _, rfl⟩⟩ e).mono (fun r h2 q => WP_fr ⟨fun k h4 h5 => ?_, fun _ _ _ => rfl⟩ q)
  unfold upd
  rw [if_neg h5, if_neg h4]
end WR
