/-! the writer, method by method; by program (wip/whole/gen29.py) -/
section WR
variable {d : Nat} {X : Nat × (Nat → Int32)} {cI : Nat → Int32} {cA : Nat → Nat → Int32} {rI : Nat → Int32} {rA : Nat → Nat → Int32} {ol : Int64} {J : mH} {N : List (List Int32)} {s : WS}
set_option maxHeartbeats 4000000 in
set_option maxRecDepth 100000 in
theorem P_put (hR : CW cI cA N s) (c : Int32) : EvP m_P_put (d + 1) 0 [(0, .ref 8), (1, .int c)] [] (HC X cI cA rI rA ol J) (WPu X cI cA rI rA ol J N (wp1 c s)) := by
  by_cases z : s.1.length < 120
  · refine ep_aload_n (j := 0) d_P_put_0 rfl rfl ?_
    refine ep_getf (fi := 0) (v := .ref 9) d_P_put_1 cl3 lf_P_12 (by decide) rfl rfl ?_
    refine ep_iload_n (j := 1) d_P_put_4 rfl rfl ?_
    refine ep_callVi (As := [.int c]) (st := []) d_P_put_5 lk_P_48 cal_W_add tm_W_add ts_W_add rfl rfl rfl (Nat.le_of_ble_eq_true rfl) (Nat.le_of_ble_eq_true rfl) rfl rfl (WL_add hR z c) ?_
    refine ep_if_ne (tgt := 21) d_P_put_8 (by decide) (fun _ => ?_) (fun z => absurd z (by decide))
    exact ep_vret d_P_put_21 rfl (WP_ok (f := fun _ : WS => none) (q := (s.1 ++ [c], s.2)) Fr3.p (if_pos z) (hR.putd z c))
  · refine ep_aload_n (j := 0) d_P_put_0 rfl rfl ?_
    refine ep_getf (fi := 0) (v := .ref 9) d_P_put_1 cl3 lf_P_12 (by decide) rfl rfl ?_
    refine ep_iload_n (j := 1) d_P_put_4 rfl rfl ?_
    refine ep_callVi (As := [.int c]) (st := []) d_P_put_5 lk_P_48 cal_W_add tm_W_add ts_W_add rfl rfl rfl (Nat.le_of_ble_eq_true rfl) (Nat.le_of_ble_eq_true rfl) rfl rfl (WL_add_no hR z c) ?_
    refine ep_if_ne (tgt := 21) d_P_put_8 (by decide) (fun z => absurd (by decide) z) (fun _ => ?_)
    exact ep_throw 2 d_P_put_11 d_P_put_14 d_P_put_15 d_P_put_17 d_P_put_20 lc_P_52 ti_java_lang_UnsupportedOperationException (i := 19) (tx := "more than 120 characters") (by decide +kernel) at_P_56 (by decide +kernel) (Nat.zero_lt_succ _) (Nat.le_of_ble_eq_true rfl) rfl (WP_x Fr3.rfl' (if_neg z) hR)
set_option maxHeartbeats 4000000 in
set_option maxRecDepth 100000 in
theorem P_needLevel1 {l : Int32} (hle : l ≤ 16) : EvP m_P_needLevel d 0 [(0, .int l)] [] (HC X cI cA rI rA ol J) (Rv (HC X cI cA rI rA ol J)) := by
  refine ep_iload_n (j := 0) d_P_needLevel_0 rfl rfl ?_
  refine ep_bipush (v := 16) d_P_needLevel_1 (by decide) ?_
  refine ep_icmp_le (tgt := 16) d_P_needLevel_3 (by decide) (fun _ => ?_) (fun z => absurd hle z)
  exact ep_vret d_P_needLevel_16 rfl (⟨rfl, rfl⟩)
set_option maxHeartbeats 4000000 in
set_option maxRecDepth 100000 in
theorem P_needLevel0 {l : Int32} (hle : ¬ l ≤ 16) : EvP m_P_needLevel d 0 [(0, .int l)] [] (HC X cI cA rI rA ol J) (Rx 2 (HC X cI cA rI rA ol J)) := by
  refine ep_iload_n (j := 0) d_P_needLevel_0 rfl rfl ?_
  refine ep_bipush (v := 16) d_P_needLevel_1 (by decide) ?_
  refine ep_icmp_le (tgt := 16) d_P_needLevel_3 (by decide) (fun z => absurd z hle) (fun _ => ?_)
  exact ep_throw 2 d_P_needLevel_6 d_P_needLevel_9 d_P_needLevel_10 d_P_needLevel_12 d_P_needLevel_15 lc_P_52 ti_java_lang_UnsupportedOperationException (i := 20) (tx := "deeper than any node") (by decide +kernel) at_P_56 (by decide +kernel) (Nat.zero_lt_succ _) (Nat.le_of_ble_eq_true rfl) rfl (⟨rfl, rfl⟩)
set_option maxHeartbeats 4000000 in
set_option maxRecDepth 100000 in
theorem P_putBase36Digit (hR : CW cI cA N s) (x : Int32) : EvP m_P_putBase36Digit (d + 2) 0 [(0, .ref 8), (1, .int x)] [] (HC X cI cA rI rA ol J) (WPu X cI cA rI rA ol J N (wp1 (d36 x) s)) := by
  refine ep_aload_n (j := 0) d_P_putBase36Digit_0 rfl rfl ?_
  refine ep_iload_n (j := 1) d_P_putBase36Digit_1 rfl rfl ?_
  refine ep_bipush (v := 10) d_P_putBase36Digit_2 (by decide) ?_
  refine ep_icmp_ge (tgt := 14) d_P_putBase36Digit_4 (by decide) (fun c4 => ?_) (fun c4 => ?_)
  · refine ep_bipush (v := 65) d_P_putBase36Digit_14 (by decide) ?_
    refine ep_iload_n (j := 1) d_P_putBase36Digit_16 rfl rfl ?_
    refine ep_iadd d_P_putBase36Digit_17 ?_
    refine ep_bipush (v := 10) d_P_putBase36Digit_18 (by decide) ?_
    refine ep_isub d_P_putBase36Digit_20 ?_
    refine ep_callVw (As := [.int ((65 + x) - 10)]) (st := []) d_P_putBase36Digit_21 lk_P_29 cal_P_put tm_P_put ts_P_put rfl rfl rfl (Nat.le_of_ble_eq_true rfl) (Nat.le_of_ble_eq_true rfl) rfl rfl (P_put hR ((65 + x) - 10)) (fun q1 cI1 cA1 e1 hR1 f1 => ?_) (fun k cI1 cA1 s1 e1 hR1 f1 => WP_x (Fr3.trans Fr3.rfl' f1) (by first | (simp [d36, bnd_i, bnd_x, c4, e1]; done) | simp_all [d36, bnd_i, bnd_x]) hR1)
    have F1 := Fr3.trans Fr3.rfl' f1
    exact ep_vret d_P_putBase36Digit_24 rfl (WP_ok (f := fun _ : WS => none) (q := q1) F1 (by first | (simp [d36, bnd_i, bnd_x, c4, e1]; done) | simp_all [d36, bnd_i, bnd_x]) hR1)
  · refine ep_bipush (v := 48) d_P_putBase36Digit_7 (by decide) ?_
    refine ep_iload_n (j := 1) d_P_putBase36Digit_9 rfl rfl ?_
    refine ep_iadd d_P_putBase36Digit_10 ?_
    refine ep_goto (tgt := 21) d_P_putBase36Digit_11 (by decide) ?_
    refine ep_callVw (As := [.int (48 + x)]) (st := []) d_P_putBase36Digit_21 lk_P_29 cal_P_put tm_P_put ts_P_put rfl rfl rfl (Nat.le_of_ble_eq_true rfl) (Nat.le_of_ble_eq_true rfl) rfl rfl (P_put hR (48 + x)) (fun q2 cI2 cA2 e2 hR2 f2 => ?_) (fun k cI2 cA2 s2 e2 hR2 f2 => WP_x (Fr3.trans Fr3.rfl' f2) (by first | (simp [d36, bnd_i, bnd_x, c4, e2]; done) | simp_all [d36, bnd_i, bnd_x]) hR2)
    have F2 := Fr3.trans Fr3.rfl' f2
    exact ep_vret d_P_putBase36Digit_24 rfl (WP_ok (f := fun _ : WS => none) (q := q2) F2 (by first | (simp [d36, bnd_i, bnd_x, c4, e2]; done) | simp_all [d36, bnd_i, bnd_x]) hR2)
theorem bnd_i1 {α β : Type} (a : α) (f : α → Ex β) : bnd (.inr a) f = f a := by unfold bnd; exact Eq.trans rfl rfl
theorem bnd_x1 {α β : Type} (k : Nat) (f : α → Ex β) : bnd (.inl k) f = .inl k := by unfold bnd; exact Eq.trans rfl rfl
theorem wpl_c1 (c : Int32) (cs : List Int32) (w : WS) : wpl (c :: cs) w = bnd (wp1 c w) (wpl cs) := Eq.trans rfl rfl
theorem wpl_n1 (w : WS) : wpl [] w = .inr w := Eq.trans rfl rfl
theorem wTold_y {x : Int32} {w : WS} {m : Int32} (em : m = tix w.2 x) (h : ¬ m = -1) : wTold x w = bnd (wpl (toldS m) w) fun w1 => .inr (1, w1) := by
  subst em
  exact if_neg h
theorem wTold_n {x : Int32} {w : WS} {m : Int32} (em : m = tix w.2 x) (h : m = -1) : wTold x w = .inr (0, w) := by
  subst em
  exact if_pos h
theorem toldS_a {m : Int32} (h : m ≤ 36) (h0 : m ≤ 0) : toldS m = [83, 95] := by unfold toldS; rw [if_pos h, if_pos h0]; rfl
theorem toldS_b {m : Int32} (h : m ≤ 36) (h0 : ¬ m ≤ 0) : toldS m = [83, d36 (m - 1 - (m - 1) / 36 * 36), 95] := by unfold toldS; rw [if_pos h, if_neg h0]; rfl
theorem toldS_c {m : Int32} (h : ¬ m ≤ 36) (h0 : m ≤ 0) : toldS m = [83, d36 ((m - 1) / 36), 95] := by unfold toldS; rw [if_neg h, if_pos h0]; rfl
theorem toldS_d {m : Int32} (h : ¬ m ≤ 36) (h0 : ¬ m ≤ 0) : toldS m = [83, d36 ((m - 1) / 36), d36 (m - 1 - (m - 1) / 36 * 36), 95] := by unfold toldS; rw [if_neg h, if_neg h0]; rfl
theorem wpl_83 {m : Int32} {w : WS} {k : Nat} (h : wp1 83 w = .inl k) : wpl (toldS m) w = .inl k := by
  unfold toldS
  rw [wpl_c, h]; rfl
theorem wpl_83d {m : Int32} {w w1 : WS} {k : Nat} (h0 : ¬ m ≤ 36) (h : wp1 83 w = .inr w1) (h1 : wp1 (d36 ((m - 1) / 36)) w1 = .inl k) : wpl (toldS m) w = .inl k := by
  unfold toldS
  rw [wpl_c, h, bnd_i, if_neg h0, List.cons_append, wpl_c, h1]; rfl
set_option maxHeartbeats 4000000 in
set_option maxRecDepth 100000 in
theorem P_putTold (hR : CW cI cA N s) (x : Int32) : EvP m_P_putTold (d + 3) 0 [(0, .ref 8), (1, .int x)] [] (HC X cI cA rI rA ol J) (WP X cI cA rI rA ol J N (wTold x s)) := by
  refine ep_aload_n (j := 0) d_P_putTold_0 rfl rfl ?_
  refine ep_getf (fi := 1) (v := .ref 11) d_P_putTold_1 cl3 lf_P_18 (by decide) rfl rfl ?_
  refine ep_iload_n (j := 1) d_P_putTold_4 rfl rfl ?_
  refine ep_callVi (As := [.int x]) (st := []) d_P_putTold_5 lk_P_118 cal_W_find tm_W_find ts_W_find rfl rfl rfl (Nat.le_of_ble_eq_true rfl) (Nat.le_of_ble_eq_true rfl) rfl rfl (WT_find hR x) ?_
  refine ep_nm (fun m em => ?_)
  refine ep_istore_n (lv' := [(0, .ref 8), (1, .int x), (2, .int m)]) [1, 2, 0] d_P_putTold_8 rfl (by decide) rfl ?_
  refine ep_iload_n (j := 2) d_P_putTold_9 rfl rfl ?_
  refine ep_iconst (v := (-1)) d_P_putTold_10 (by decide) ?_
  refine ep_icmp_ne (tgt := 16) d_P_putTold_11 (by decide) (fun c11 => ?_) (fun c11 => ?_)
  · refine ep_aload_n (j := 0) d_P_putTold_16 rfl rfl ?_
    refine ep_bipush (v := 83) d_P_putTold_17 (by decide) ?_
    refine ep_callVw (As := [.int 83]) (st := []) d_P_putTold_19 lk_P_29 cal_P_put tm_P_put ts_P_put rfl rfl rfl (Nat.le_of_ble_eq_true rfl) (Nat.le_of_ble_eq_true rfl) rfl rfl (P_put hR 83) (fun q1 cI1 cA1 e1 hR1 f1 => ?_) (fun k cI1 cA1 s1 e1 hR1 f1 => WP_x (Fr3.trans Fr3.rfl' f1) (by rw [wTold_y em c11, wpl_83 e1]; rfl) hR1)
    have F1 := Fr3.trans Fr3.rfl' f1
    refine ep_iload_n (j := 2) d_P_putTold_22 rfl rfl ?_
    refine ep_bipush (v := 36) d_P_putTold_23 (by decide) ?_
    refine ep_icmp_le (tgt := 38) d_P_putTold_25 (by decide) (fun c25 => ?_) (fun c25 => ?_)
    · refine ep_iload_n (j := 2) d_P_putTold_38 rfl rfl ?_
      refine ep_if_le (tgt := 52) d_P_putTold_39 (by decide) (fun c39 => ?_) (fun c39 => ?_)
      · refine ep_aload_n (j := 0) d_P_putTold_52 rfl rfl ?_
        refine ep_bipush (v := 95) d_P_putTold_53 (by decide) ?_
        refine ep_callVw (As := [.int 95]) (st := []) d_P_putTold_55 lk_P_29 cal_P_put tm_P_put ts_P_put rfl rfl rfl (Nat.le_of_ble_eq_true rfl) (Nat.le_of_ble_eq_true rfl) rfl rfl (P_put hR1 95) (fun q2 cI2 cA2 e2 hR2 f2 => ?_) (fun k cI2 cA2 s2 e2 hR2 f2 => WP_x (Fr3.trans F1 f2) (by rw [wTold_y em c11]; (first | rw [toldS_a c25 c39] | rw [toldS_b c25 c39] | rw [toldS_c c25 c39] | rw [toldS_d c25 c39]); simp only [wpl_c1, wpl_n1, bnd_i1, bnd_x1, e1, e2]) hR2)
        have F2 := Fr3.trans F1 f2
        refine ep_iconst (v := 1) d_P_putTold_58 (by decide) ?_
        exact ep_iret d_P_putTold_59 rfl rfl (WP_ok (f := fun q : Int32 × WS => some (.int q.1)) (q := (1, q2)) F2 (by rw [wTold_y em c11]; (first | rw [toldS_a c25 c39] | rw [toldS_b c25 c39] | rw [toldS_c c25 c39] | rw [toldS_d c25 c39]); simp only [wpl_c1, wpl_n1, bnd_i1, bnd_x1, e1, e2]) hR2)
      · refine ep_aload_n (j := 0) d_P_putTold_42 rfl rfl ?_
        refine ep_iload_n (j := 2) d_P_putTold_43 rfl rfl ?_
        refine ep_iconst (v := 1) d_P_putTold_44 (by decide) ?_
        refine ep_isub d_P_putTold_45 ?_
        refine ep_bipush (v := 36) d_P_putTold_46 (by decide) ?_
        refine ep_irem d_P_putTold_48 (by decide) ?_
        refine ep_callVw (As := [.int ((m - 1) - (m - 1) / 36 * 36)]) (st := []) d_P_putTold_49 lk_P_121 cal_P_putBase36Digit tm_P_putBase36Digit ts_P_putBase36Digit rfl rfl rfl (Nat.le_of_ble_eq_true rfl) (Nat.le_of_ble_eq_true rfl) rfl rfl (P_putBase36Digit hR1 ((m - 1) - (m - 1) / 36 * 36)) (fun q3 cI3 cA3 e3 hR3 f3 => ?_) (fun k cI3 cA3 s3 e3 hR3 f3 => WP_x (Fr3.trans F1 f3) (by rw [wTold_y em c11]; (first | rw [toldS_a c25 c39] | rw [toldS_b c25 c39] | rw [toldS_c c25 c39] | rw [toldS_d c25 c39]); simp only [wpl_c1, wpl_n1, bnd_i1, bnd_x1, e1, e3]) hR3)
        have F3 := Fr3.trans F1 f3
        refine ep_aload_n (j := 0) d_P_putTold_52 rfl rfl ?_
        refine ep_bipush (v := 95) d_P_putTold_53 (by decide) ?_
        refine ep_callVw (As := [.int 95]) (st := []) d_P_putTold_55 lk_P_29 cal_P_put tm_P_put ts_P_put rfl rfl rfl (Nat.le_of_ble_eq_true rfl) (Nat.le_of_ble_eq_true rfl) rfl rfl (P_put hR3 95) (fun q4 cI4 cA4 e4 hR4 f4 => ?_) (fun k cI4 cA4 s4 e4 hR4 f4 => WP_x (Fr3.trans F3 f4) (by rw [wTold_y em c11]; (first | rw [toldS_a c25 c39] | rw [toldS_b c25 c39] | rw [toldS_c c25 c39] | rw [toldS_d c25 c39]); simp only [wpl_c1, wpl_n1, bnd_i1, bnd_x1, e1, e3, e4]) hR4)
        have F4 := Fr3.trans F3 f4
        refine ep_iconst (v := 1) d_P_putTold_58 (by decide) ?_
        exact ep_iret d_P_putTold_59 rfl rfl (WP_ok (f := fun q : Int32 × WS => some (.int q.1)) (q := (1, q4)) F4 (by rw [wTold_y em c11]; (first | rw [toldS_a c25 c39] | rw [toldS_b c25 c39] | rw [toldS_c c25 c39] | rw [toldS_d c25 c39]); simp only [wpl_c1, wpl_n1, bnd_i1, bnd_x1, e1, e3, e4]) hR4)
    · refine ep_aload_n (j := 0) d_P_putTold_28 rfl rfl ?_
      refine ep_iload_n (j := 2) d_P_putTold_29 rfl rfl ?_
      refine ep_iconst (v := 1) d_P_putTold_30 (by decide) ?_
      refine ep_isub d_P_putTold_31 ?_
      refine ep_bipush (v := 36) d_P_putTold_32 (by decide) ?_
      refine ep_idiv d_P_putTold_34 (by decide) ?_
      refine ep_callVw (As := [.int ((m - 1) / 36)]) (st := []) d_P_putTold_35 lk_P_121 cal_P_putBase36Digit tm_P_putBase36Digit ts_P_putBase36Digit rfl rfl rfl (Nat.le_of_ble_eq_true rfl) (Nat.le_of_ble_eq_true rfl) rfl rfl (P_putBase36Digit hR1 ((m - 1) / 36)) (fun q5 cI5 cA5 e5 hR5 f5 => ?_) (fun k cI5 cA5 s5 e5 hR5 f5 => WP_x (Fr3.trans F1 f5) (by rw [wTold_y em c11, wpl_83d c25 e1 e5]; rfl) hR5)
      have F5 := Fr3.trans F1 f5
      refine ep_iload_n (j := 2) d_P_putTold_38 rfl rfl ?_
      refine ep_if_le (tgt := 52) d_P_putTold_39 (by decide) (fun c39 => ?_) (fun c39 => ?_)
      · refine ep_aload_n (j := 0) d_P_putTold_52 rfl rfl ?_
        refine ep_bipush (v := 95) d_P_putTold_53 (by decide) ?_
        refine ep_callVw (As := [.int 95]) (st := []) d_P_putTold_55 lk_P_29 cal_P_put tm_P_put ts_P_put rfl rfl rfl (Nat.le_of_ble_eq_true rfl) (Nat.le_of_ble_eq_true rfl) rfl rfl (P_put hR5 95) (fun q6 cI6 cA6 e6 hR6 f6 => ?_) (fun k cI6 cA6 s6 e6 hR6 f6 => WP_x (Fr3.trans F5 f6) (by rw [wTold_y em c11]; (first | rw [toldS_a c25 c39] | rw [toldS_b c25 c39] | rw [toldS_c c25 c39] | rw [toldS_d c25 c39]); simp only [wpl_c1, wpl_n1, bnd_i1, bnd_x1, e1, e5, e6]) hR6)
        have F6 := Fr3.trans F5 f6
        refine ep_iconst (v := 1) d_P_putTold_58 (by decide) ?_
        exact ep_iret d_P_putTold_59 rfl rfl (WP_ok (f := fun q : Int32 × WS => some (.int q.1)) (q := (1, q6)) F6 (by rw [wTold_y em c11]; (first | rw [toldS_a c25 c39] | rw [toldS_b c25 c39] | rw [toldS_c c25 c39] | rw [toldS_d c25 c39]); simp only [wpl_c1, wpl_n1, bnd_i1, bnd_x1, e1, e5, e6]) hR6)
      · refine ep_aload_n (j := 0) d_P_putTold_42 rfl rfl ?_
        refine ep_iload_n (j := 2) d_P_putTold_43 rfl rfl ?_
        refine ep_iconst (v := 1) d_P_putTold_44 (by decide) ?_
        refine ep_isub d_P_putTold_45 ?_
        refine ep_bipush (v := 36) d_P_putTold_46 (by decide) ?_
        refine ep_irem d_P_putTold_48 (by decide) ?_
        refine ep_callVw (As := [.int ((m - 1) - (m - 1) / 36 * 36)]) (st := []) d_P_putTold_49 lk_P_121 cal_P_putBase36Digit tm_P_putBase36Digit ts_P_putBase36Digit rfl rfl rfl (Nat.le_of_ble_eq_true rfl) (Nat.le_of_ble_eq_true rfl) rfl rfl (P_putBase36Digit hR5 ((m - 1) - (m - 1) / 36 * 36)) (fun q7 cI7 cA7 e7 hR7 f7 => ?_) (fun k cI7 cA7 s7 e7 hR7 f7 => WP_x (Fr3.trans F5 f7) (by rw [wTold_y em c11]; (first | rw [toldS_a c25 c39] | rw [toldS_b c25 c39] | rw [toldS_c c25 c39] | rw [toldS_d c25 c39]); simp only [wpl_c1, wpl_n1, bnd_i1, bnd_x1, e1, e5, e7]) hR7)
        have F7 := Fr3.trans F5 f7
        refine ep_aload_n (j := 0) d_P_putTold_52 rfl rfl ?_
        refine ep_bipush (v := 95) d_P_putTold_53 (by decide) ?_
        refine ep_callVw (As := [.int 95]) (st := []) d_P_putTold_55 lk_P_29 cal_P_put tm_P_put ts_P_put rfl rfl rfl (Nat.le_of_ble_eq_true rfl) (Nat.le_of_ble_eq_true rfl) rfl rfl (P_put hR7 95) (fun q8 cI8 cA8 e8 hR8 f8 => ?_) (fun k cI8 cA8 s8 e8 hR8 f8 => WP_x (Fr3.trans F7 f8) (by rw [wTold_y em c11]; (first | rw [toldS_a c25 c39] | rw [toldS_b c25 c39] | rw [toldS_c c25 c39] | rw [toldS_d c25 c39]); simp only [wpl_c1, wpl_n1, bnd_i1, bnd_x1, e1, e5, e7, e8]) hR8)
        have F8 := Fr3.trans F7 f8
        refine ep_iconst (v := 1) d_P_putTold_58 (by decide) ?_
        exact ep_iret d_P_putTold_59 rfl rfl (WP_ok (f := fun q : Int32 × WS => some (.int q.1)) (q := (1, q8)) F8 (by rw [wTold_y em c11]; (first | rw [toldS_a c25 c39] | rw [toldS_b c25 c39] | rw [toldS_c c25 c39] | rw [toldS_d c25 c39]); simp only [wpl_c1, wpl_n1, bnd_i1, bnd_x1, e1, e5, e7, e8]) hR8)
  · refine ep_iconst (v := 0) d_P_putTold_14 (by decide) ?_
    exact ep_iret d_P_putTold_15 rfl rfl (WP_ok (f := fun q : Int32 × WS => some (.int q.1)) (q := (0, s)) Fr3.rfl' (wTold_n em c11) hR)
set_option maxHeartbeats 4000000 in
set_option maxRecDepth 100000 in
theorem P_putDecimal (hR : CW cI cA N s) (n : Int32) : EvP m_P_putDecimal (d + 2) 0 [(0, .ref 8), (1, .int n)] [] (HC X cI cA rI rA ol J) (WPu X cI cA rI rA ol J N (wpl (decL n) s)) := by
  refine ep_ldc (v := 100000) d_P_putDecimal_0 ln_P_117 ?_
  refine ep_istore_n (lv' := [(0, .ref 8), (1, .int n), (2, .int 100000)]) [1, 2, 0] d_P_putDecimal_2 rfl (by decide) rfl ?_
  refine ep_iload_n (j := 2) d_P_putDecimal_3 rfl rfl ?_
  refine ep_iconst (v := 1) d_P_putDecimal_4 (by decide) ?_
  refine ep_icmp_lt (tgt := 39) d_P_putDecimal_5 (by decide) (fun z => absurd z (by decide)) (fun _ => ?_)
  refine ep_iload_n (j := 2) d_P_putDecimal_8 rfl rfl ?_
  refine ep_iconst (v := 1) d_P_putDecimal_9 (by decide) ?_
  refine ep_icmp_eq (tgt := 18) d_P_putDecimal_10 (by decide) (fun z => absurd z (by decide)) (fun _ => ?_)
  refine ep_iload_n (j := 1) d_P_putDecimal_13 rfl rfl ?_
  refine ep_iload_n (j := 2) d_P_putDecimal_14 rfl rfl ?_
  refine ep_icmp_lt (tgt := 31) d_P_putDecimal_15 (by decide) (fun c15 => ?_) (fun c15 => ?_)
  · refine ep_iload_n (j := 2) d_P_putDecimal_31 rfl rfl ?_
    refine ep_bipush (v := 10) d_P_putDecimal_32 (by decide) ?_
    refine ep_idiv d_P_putDecimal_34 (by decide) ?_
    refine ep_cg (y := 10000) (by decide) ?_
    refine ep_istore_n (lv' := [(0, .ref 8), (1, .int n), (2, .int 10000)]) [1, 2, 0] d_P_putDecimal_35 rfl (by decide) rfl ?_
    refine ep_goto (tgt := 3) d_P_putDecimal_36 (by decide) ?_
    refine ep_iload_n (j := 2) d_P_putDecimal_3 rfl rfl ?_
    refine ep_iconst (v := 1) d_P_putDecimal_4 (by decide) ?_
    refine ep_icmp_lt (tgt := 39) d_P_putDecimal_5 (by decide) (fun z => absurd z (by decide)) (fun _ => ?_)
    refine ep_iload_n (j := 2) d_P_putDecimal_8 rfl rfl ?_
    refine ep_iconst (v := 1) d_P_putDecimal_9 (by decide) ?_
    refine ep_icmp_eq (tgt := 18) d_P_putDecimal_10 (by decide) (fun z => absurd z (by decide)) (fun _ => ?_)
    refine ep_iload_n (j := 1) d_P_putDecimal_13 rfl rfl ?_
    refine ep_iload_n (j := 2) d_P_putDecimal_14 rfl rfl ?_
    refine ep_icmp_lt (tgt := 31) d_P_putDecimal_15 (by decide) (fun c15_ => ?_) (fun c15_ => ?_)
    · refine ep_iload_n (j := 2) d_P_putDecimal_31 rfl rfl ?_
      refine ep_bipush (v := 10) d_P_putDecimal_32 (by decide) ?_
      refine ep_idiv d_P_putDecimal_34 (by decide) ?_
      refine ep_cg (y := 1000) (by decide) ?_
      refine ep_istore_n (lv' := [(0, .ref 8), (1, .int n), (2, .int 1000)]) [1, 2, 0] d_P_putDecimal_35 rfl (by decide) rfl ?_
      refine ep_goto (tgt := 3) d_P_putDecimal_36 (by decide) ?_
      refine ep_iload_n (j := 2) d_P_putDecimal_3 rfl rfl ?_
      refine ep_iconst (v := 1) d_P_putDecimal_4 (by decide) ?_
      refine ep_icmp_lt (tgt := 39) d_P_putDecimal_5 (by decide) (fun z => absurd z (by decide)) (fun _ => ?_)
      refine ep_iload_n (j := 2) d_P_putDecimal_8 rfl rfl ?_
      refine ep_iconst (v := 1) d_P_putDecimal_9 (by decide) ?_
      refine ep_icmp_eq (tgt := 18) d_P_putDecimal_10 (by decide) (fun z => absurd z (by decide)) (fun _ => ?_)
      refine ep_iload_n (j := 1) d_P_putDecimal_13 rfl rfl ?_
      refine ep_iload_n (j := 2) d_P_putDecimal_14 rfl rfl ?_
      refine ep_icmp_lt (tgt := 31) d_P_putDecimal_15 (by decide) (fun c15__ => ?_) (fun c15__ => ?_)
      · refine ep_iload_n (j := 2) d_P_putDecimal_31 rfl rfl ?_
        refine ep_bipush (v := 10) d_P_putDecimal_32 (by decide) ?_
        refine ep_idiv d_P_putDecimal_34 (by decide) ?_
        refine ep_cg (y := 100) (by decide) ?_
        refine ep_istore_n (lv' := [(0, .ref 8), (1, .int n), (2, .int 100)]) [1, 2, 0] d_P_putDecimal_35 rfl (by decide) rfl ?_
        refine ep_goto (tgt := 3) d_P_putDecimal_36 (by decide) ?_
        refine ep_iload_n (j := 2) d_P_putDecimal_3 rfl rfl ?_
        refine ep_iconst (v := 1) d_P_putDecimal_4 (by decide) ?_
        refine ep_icmp_lt (tgt := 39) d_P_putDecimal_5 (by decide) (fun z => absurd z (by decide)) (fun _ => ?_)
        refine ep_iload_n (j := 2) d_P_putDecimal_8 rfl rfl ?_
        refine ep_iconst (v := 1) d_P_putDecimal_9 (by decide) ?_
        refine ep_icmp_eq (tgt := 18) d_P_putDecimal_10 (by decide) (fun z => absurd z (by decide)) (fun _ => ?_)
        refine ep_iload_n (j := 1) d_P_putDecimal_13 rfl rfl ?_
        refine ep_iload_n (j := 2) d_P_putDecimal_14 rfl rfl ?_
        refine ep_icmp_lt (tgt := 31) d_P_putDecimal_15 (by decide) (fun c15___ => ?_) (fun c15___ => ?_)
        · refine ep_iload_n (j := 2) d_P_putDecimal_31 rfl rfl ?_
          refine ep_bipush (v := 10) d_P_putDecimal_32 (by decide) ?_
          refine ep_idiv d_P_putDecimal_34 (by decide) ?_
          refine ep_cg (y := 10) (by decide) ?_
          refine ep_istore_n (lv' := [(0, .ref 8), (1, .int n), (2, .int 10)]) [1, 2, 0] d_P_putDecimal_35 rfl (by decide) rfl ?_
          refine ep_goto (tgt := 3) d_P_putDecimal_36 (by decide) ?_
          refine ep_iload_n (j := 2) d_P_putDecimal_3 rfl rfl ?_
          refine ep_iconst (v := 1) d_P_putDecimal_4 (by decide) ?_
          refine ep_icmp_lt (tgt := 39) d_P_putDecimal_5 (by decide) (fun z => absurd z (by decide)) (fun _ => ?_)
          refine ep_iload_n (j := 2) d_P_putDecimal_8 rfl rfl ?_
          refine ep_iconst (v := 1) d_P_putDecimal_9 (by decide) ?_
          refine ep_icmp_eq (tgt := 18) d_P_putDecimal_10 (by decide) (fun z => absurd z (by decide)) (fun _ => ?_)
          refine ep_iload_n (j := 1) d_P_putDecimal_13 rfl rfl ?_
          refine ep_iload_n (j := 2) d_P_putDecimal_14 rfl rfl ?_
          refine ep_icmp_lt (tgt := 31) d_P_putDecimal_15 (by decide) (fun c15____ => ?_) (fun c15____ => ?_)
          · refine ep_iload_n (j := 2) d_P_putDecimal_31 rfl rfl ?_
            refine ep_bipush (v := 10) d_P_putDecimal_32 (by decide) ?_
            refine ep_idiv d_P_putDecimal_34 (by decide) ?_
            refine ep_cg (y := 1) (by decide) ?_
            refine ep_istore_n (lv' := [(0, .ref 8), (1, .int n), (2, .int 1)]) [1, 2, 0] d_P_putDecimal_35 rfl (by decide) rfl ?_
            refine ep_goto (tgt := 3) d_P_putDecimal_36 (by decide) ?_
            refine ep_iload_n (j := 2) d_P_putDecimal_3 rfl rfl ?_
            refine ep_iconst (v := 1) d_P_putDecimal_4 (by decide) ?_
            refine ep_icmp_lt (tgt := 39) d_P_putDecimal_5 (by decide) (fun z => absurd z (by decide)) (fun _ => ?_)
            refine ep_iload_n (j := 2) d_P_putDecimal_8 rfl rfl ?_
            refine ep_iconst (v := 1) d_P_putDecimal_9 (by decide) ?_
            refine ep_icmp_eq (tgt := 18) d_P_putDecimal_10 (by decide) (fun _ => ?_) (fun z => absurd (by decide) z)
            refine ep_aload_n (j := 0) d_P_putDecimal_18 rfl rfl ?_
            refine ep_bipush (v := 48) d_P_putDecimal_19 (by decide) ?_
            refine ep_iload_n (j := 1) d_P_putDecimal_21 rfl rfl ?_
            refine ep_iload_n (j := 2) d_P_putDecimal_22 rfl rfl ?_
            refine ep_idiv d_P_putDecimal_23 (by decide) ?_
            refine ep_cg (y := n) (by simp) ?_
            refine ep_bipush (v := 10) d_P_putDecimal_24 (by decide) ?_
            refine ep_irem d_P_putDecimal_26 (by decide) ?_
            refine ep_iadd d_P_putDecimal_27 ?_
            refine ep_callVw (As := [.int (48 + (n - n / 10 * 10))]) (st := []) d_P_putDecimal_28 lk_P_29 cal_P_put tm_P_put ts_P_put rfl rfl rfl (Nat.le_of_ble_eq_true rfl) (Nat.le_of_ble_eq_true rfl) rfl rfl (P_put hR (48 + (n - n / 10 * 10))) (fun q1 cI1 cA1 e1 hR1 f1 => ?_) (fun k cI1 cA1 s1 e1 hR1 f1 => WP_x (Fr3.trans Fr3.rfl' f1) (by first | (simp [decL, dcu, wpl_c, wpl_n, bnd_i, bnd_x, c15, c15_, c15__, c15___, c15____, e1]; done) | simp_all [decL, dcu, wpl_c, wpl_n, bnd_i, bnd_x]) hR1)
            have F1 := Fr3.trans Fr3.rfl' f1
            refine ep_iload_n (j := 2) d_P_putDecimal_31 rfl rfl ?_
            refine ep_bipush (v := 10) d_P_putDecimal_32 (by decide) ?_
            refine ep_idiv d_P_putDecimal_34 (by decide) ?_
            refine ep_cg (y := 0) (by decide) ?_
            refine ep_istore_n (lv' := [(0, .ref 8), (1, .int n), (2, .int 0)]) [1, 2, 0] d_P_putDecimal_35 rfl (by decide) rfl ?_
            refine ep_goto (tgt := 3) d_P_putDecimal_36 (by decide) ?_
            refine ep_iload_n (j := 2) d_P_putDecimal_3 rfl rfl ?_
            refine ep_iconst (v := 1) d_P_putDecimal_4 (by decide) ?_
            refine ep_icmp_lt (tgt := 39) d_P_putDecimal_5 (by decide) (fun _ => ?_) (fun z => absurd (by decide) z)
            exact ep_vret d_P_putDecimal_39 rfl (WP_ok (f := fun _ : WS => none) (q := q1) F1 (by first | (simp [decL, dcu, wpl_c, wpl_n, bnd_i, bnd_x, c15, c15_, c15__, c15___, c15____, e1]; done) | simp_all [decL, dcu, wpl_c, wpl_n, bnd_i, bnd_x]) hR1)
          · refine ep_aload_n (j := 0) d_P_putDecimal_18 rfl rfl ?_
            refine ep_bipush (v := 48) d_P_putDecimal_19 (by decide) ?_
            refine ep_iload_n (j := 1) d_P_putDecimal_21 rfl rfl ?_
            refine ep_iload_n (j := 2) d_P_putDecimal_22 rfl rfl ?_
            refine ep_idiv d_P_putDecimal_23 (by decide) ?_
            refine ep_bipush (v := 10) d_P_putDecimal_24 (by decide) ?_
            refine ep_irem d_P_putDecimal_26 (by decide) ?_
            refine ep_iadd d_P_putDecimal_27 ?_
            refine ep_callVw (As := [.int (48 + ((n / 10) - (n / 10) / 10 * 10))]) (st := []) d_P_putDecimal_28 lk_P_29 cal_P_put tm_P_put ts_P_put rfl rfl rfl (Nat.le_of_ble_eq_true rfl) (Nat.le_of_ble_eq_true rfl) rfl rfl (P_put hR (48 + ((n / 10) - (n / 10) / 10 * 10))) (fun q2 cI2 cA2 e2 hR2 f2 => ?_) (fun k cI2 cA2 s2 e2 hR2 f2 => WP_x (Fr3.trans Fr3.rfl' f2) (by first | (simp [decL, dcu, wpl_c, wpl_n, bnd_i, bnd_x, c15, c15_, c15__, c15___, c15____, e2]; done) | simp_all [decL, dcu, wpl_c, wpl_n, bnd_i, bnd_x]) hR2)
            have F2 := Fr3.trans Fr3.rfl' f2
            refine ep_iload_n (j := 2) d_P_putDecimal_31 rfl rfl ?_
            refine ep_bipush (v := 10) d_P_putDecimal_32 (by decide) ?_
            refine ep_idiv d_P_putDecimal_34 (by decide) ?_
            refine ep_cg (y := 1) (by decide) ?_
            refine ep_istore_n (lv' := [(0, .ref 8), (1, .int n), (2, .int 1)]) [1, 2, 0] d_P_putDecimal_35 rfl (by decide) rfl ?_
            refine ep_goto (tgt := 3) d_P_putDecimal_36 (by decide) ?_
            refine ep_iload_n (j := 2) d_P_putDecimal_3 rfl rfl ?_
            refine ep_iconst (v := 1) d_P_putDecimal_4 (by decide) ?_
            refine ep_icmp_lt (tgt := 39) d_P_putDecimal_5 (by decide) (fun z => absurd z (by decide)) (fun _ => ?_)
            refine ep_iload_n (j := 2) d_P_putDecimal_8 rfl rfl ?_
            refine ep_iconst (v := 1) d_P_putDecimal_9 (by decide) ?_
            refine ep_icmp_eq (tgt := 18) d_P_putDecimal_10 (by decide) (fun _ => ?_) (fun z => absurd (by decide) z)
            refine ep_aload_n (j := 0) d_P_putDecimal_18 rfl rfl ?_
            refine ep_bipush (v := 48) d_P_putDecimal_19 (by decide) ?_
            refine ep_iload_n (j := 1) d_P_putDecimal_21 rfl rfl ?_
            refine ep_iload_n (j := 2) d_P_putDecimal_22 rfl rfl ?_
            refine ep_idiv d_P_putDecimal_23 (by decide) ?_
            refine ep_cg (y := n) (by simp) ?_
            refine ep_bipush (v := 10) d_P_putDecimal_24 (by decide) ?_
            refine ep_irem d_P_putDecimal_26 (by decide) ?_
            refine ep_iadd d_P_putDecimal_27 ?_
            refine ep_callVw (As := [.int (48 + (n - n / 10 * 10))]) (st := []) d_P_putDecimal_28 lk_P_29 cal_P_put tm_P_put ts_P_put rfl rfl rfl (Nat.le_of_ble_eq_true rfl) (Nat.le_of_ble_eq_true rfl) rfl rfl (P_put hR2 (48 + (n - n / 10 * 10))) (fun q3 cI3 cA3 e3 hR3 f3 => ?_) (fun k cI3 cA3 s3 e3 hR3 f3 => WP_x (Fr3.trans F2 f3) (by first | (simp [decL, dcu, wpl_c, wpl_n, bnd_i, bnd_x, c15, c15_, c15__, c15___, c15____, e2, e3]; done) | simp_all [decL, dcu, wpl_c, wpl_n, bnd_i, bnd_x]) hR3)
            have F3 := Fr3.trans F2 f3
            refine ep_iload_n (j := 2) d_P_putDecimal_31 rfl rfl ?_
            refine ep_bipush (v := 10) d_P_putDecimal_32 (by decide) ?_
            refine ep_idiv d_P_putDecimal_34 (by decide) ?_
            refine ep_cg (y := 0) (by decide) ?_
            refine ep_istore_n (lv' := [(0, .ref 8), (1, .int n), (2, .int 0)]) [1, 2, 0] d_P_putDecimal_35 rfl (by decide) rfl ?_
            refine ep_goto (tgt := 3) d_P_putDecimal_36 (by decide) ?_
            refine ep_iload_n (j := 2) d_P_putDecimal_3 rfl rfl ?_
            refine ep_iconst (v := 1) d_P_putDecimal_4 (by decide) ?_
            refine ep_icmp_lt (tgt := 39) d_P_putDecimal_5 (by decide) (fun _ => ?_) (fun z => absurd (by decide) z)
            exact ep_vret d_P_putDecimal_39 rfl (WP_ok (f := fun _ : WS => none) (q := q3) F3 (by first | (simp [decL, dcu, wpl_c, wpl_n, bnd_i, bnd_x, c15, c15_, c15__, c15___, c15____, e2, e3]; done) | simp_all [decL, dcu, wpl_c, wpl_n, bnd_i, bnd_x]) hR3)
        · refine ep_aload_n (j := 0) d_P_putDecimal_18 rfl rfl ?_
          refine ep_bipush (v := 48) d_P_putDecimal_19 (by decide) ?_
          refine ep_iload_n (j := 1) d_P_putDecimal_21 rfl rfl ?_
          refine ep_iload_n (j := 2) d_P_putDecimal_22 rfl rfl ?_
          refine ep_idiv d_P_putDecimal_23 (by decide) ?_
          refine ep_bipush (v := 10) d_P_putDecimal_24 (by decide) ?_
          refine ep_irem d_P_putDecimal_26 (by decide) ?_
          refine ep_iadd d_P_putDecimal_27 ?_
          refine ep_callVw (As := [.int (48 + ((n / 100) - (n / 100) / 10 * 10))]) (st := []) d_P_putDecimal_28 lk_P_29 cal_P_put tm_P_put ts_P_put rfl rfl rfl (Nat.le_of_ble_eq_true rfl) (Nat.le_of_ble_eq_true rfl) rfl rfl (P_put hR (48 + ((n / 100) - (n / 100) / 10 * 10))) (fun q4 cI4 cA4 e4 hR4 f4 => ?_) (fun k cI4 cA4 s4 e4 hR4 f4 => WP_x (Fr3.trans Fr3.rfl' f4) (by first | (simp [decL, dcu, wpl_c, wpl_n, bnd_i, bnd_x, c15, c15_, c15__, c15___, e4]; done) | simp_all [decL, dcu, wpl_c, wpl_n, bnd_i, bnd_x]) hR4)
          have F4 := Fr3.trans Fr3.rfl' f4
          refine ep_iload_n (j := 2) d_P_putDecimal_31 rfl rfl ?_
          refine ep_bipush (v := 10) d_P_putDecimal_32 (by decide) ?_
          refine ep_idiv d_P_putDecimal_34 (by decide) ?_
          refine ep_cg (y := 10) (by decide) ?_
          refine ep_istore_n (lv' := [(0, .ref 8), (1, .int n), (2, .int 10)]) [1, 2, 0] d_P_putDecimal_35 rfl (by decide) rfl ?_
          refine ep_goto (tgt := 3) d_P_putDecimal_36 (by decide) ?_
          refine ep_iload_n (j := 2) d_P_putDecimal_3 rfl rfl ?_
          refine ep_iconst (v := 1) d_P_putDecimal_4 (by decide) ?_
          refine ep_icmp_lt (tgt := 39) d_P_putDecimal_5 (by decide) (fun z => absurd z (by decide)) (fun _ => ?_)
          refine ep_iload_n (j := 2) d_P_putDecimal_8 rfl rfl ?_
          refine ep_iconst (v := 1) d_P_putDecimal_9 (by decide) ?_
          refine ep_icmp_eq (tgt := 18) d_P_putDecimal_10 (by decide) (fun z => absurd z (by decide)) (fun _ => ?_)
          refine ep_iload_n (j := 1) d_P_putDecimal_13 rfl rfl ?_
          refine ep_iload_n (j := 2) d_P_putDecimal_14 rfl rfl ?_
          refine ep_icmp_lt (tgt := 31) d_P_putDecimal_15 (by decide) (fun c15____ => ?_) (fun c15____ => ?_)
          · refine ep_iload_n (j := 2) d_P_putDecimal_31 rfl rfl ?_
            refine ep_bipush (v := 10) d_P_putDecimal_32 (by decide) ?_
            refine ep_idiv d_P_putDecimal_34 (by decide) ?_
            refine ep_cg (y := 1) (by decide) ?_
            refine ep_istore_n (lv' := [(0, .ref 8), (1, .int n), (2, .int 1)]) [1, 2, 0] d_P_putDecimal_35 rfl (by decide) rfl ?_
            refine ep_goto (tgt := 3) d_P_putDecimal_36 (by decide) ?_
            refine ep_iload_n (j := 2) d_P_putDecimal_3 rfl rfl ?_
            refine ep_iconst (v := 1) d_P_putDecimal_4 (by decide) ?_
            refine ep_icmp_lt (tgt := 39) d_P_putDecimal_5 (by decide) (fun z => absurd z (by decide)) (fun _ => ?_)
            refine ep_iload_n (j := 2) d_P_putDecimal_8 rfl rfl ?_
            refine ep_iconst (v := 1) d_P_putDecimal_9 (by decide) ?_
            refine ep_icmp_eq (tgt := 18) d_P_putDecimal_10 (by decide) (fun _ => ?_) (fun z => absurd (by decide) z)
            refine ep_aload_n (j := 0) d_P_putDecimal_18 rfl rfl ?_
            refine ep_bipush (v := 48) d_P_putDecimal_19 (by decide) ?_
            refine ep_iload_n (j := 1) d_P_putDecimal_21 rfl rfl ?_
            refine ep_iload_n (j := 2) d_P_putDecimal_22 rfl rfl ?_
            refine ep_idiv d_P_putDecimal_23 (by decide) ?_
            refine ep_cg (y := n) (by simp) ?_
            refine ep_bipush (v := 10) d_P_putDecimal_24 (by decide) ?_
            refine ep_irem d_P_putDecimal_26 (by decide) ?_
            refine ep_iadd d_P_putDecimal_27 ?_
            refine ep_callVw (As := [.int (48 + (n - n / 10 * 10))]) (st := []) d_P_putDecimal_28 lk_P_29 cal_P_put tm_P_put ts_P_put rfl rfl rfl (Nat.le_of_ble_eq_true rfl) (Nat.le_of_ble_eq_true rfl) rfl rfl (P_put hR4 (48 + (n - n / 10 * 10))) (fun q5 cI5 cA5 e5 hR5 f5 => ?_) (fun k cI5 cA5 s5 e5 hR5 f5 => WP_x (Fr3.trans F4 f5) (by first | (simp [decL, dcu, wpl_c, wpl_n, bnd_i, bnd_x, c15, c15_, c15__, c15___, e4, c15____, e5]; done) | simp_all [decL, dcu, wpl_c, wpl_n, bnd_i, bnd_x]) hR5)
            have F5 := Fr3.trans F4 f5
            refine ep_iload_n (j := 2) d_P_putDecimal_31 rfl rfl ?_
            refine ep_bipush (v := 10) d_P_putDecimal_32 (by decide) ?_
            refine ep_idiv d_P_putDecimal_34 (by decide) ?_
            refine ep_cg (y := 0) (by decide) ?_
            refine ep_istore_n (lv' := [(0, .ref 8), (1, .int n), (2, .int 0)]) [1, 2, 0] d_P_putDecimal_35 rfl (by decide) rfl ?_
            refine ep_goto (tgt := 3) d_P_putDecimal_36 (by decide) ?_
            refine ep_iload_n (j := 2) d_P_putDecimal_3 rfl rfl ?_
            refine ep_iconst (v := 1) d_P_putDecimal_4 (by decide) ?_
            refine ep_icmp_lt (tgt := 39) d_P_putDecimal_5 (by decide) (fun _ => ?_) (fun z => absurd (by decide) z)
            exact ep_vret d_P_putDecimal_39 rfl (WP_ok (f := fun _ : WS => none) (q := q5) F5 (by first | (simp [decL, dcu, wpl_c, wpl_n, bnd_i, bnd_x, c15, c15_, c15__, c15___, e4, c15____, e5]; done) | simp_all [decL, dcu, wpl_c, wpl_n, bnd_i, bnd_x]) hR5)
          · refine ep_aload_n (j := 0) d_P_putDecimal_18 rfl rfl ?_
            refine ep_bipush (v := 48) d_P_putDecimal_19 (by decide) ?_
            refine ep_iload_n (j := 1) d_P_putDecimal_21 rfl rfl ?_
            refine ep_iload_n (j := 2) d_P_putDecimal_22 rfl rfl ?_
            refine ep_idiv d_P_putDecimal_23 (by decide) ?_
            refine ep_bipush (v := 10) d_P_putDecimal_24 (by decide) ?_
            refine ep_irem d_P_putDecimal_26 (by decide) ?_
            refine ep_iadd d_P_putDecimal_27 ?_
            refine ep_callVw (As := [.int (48 + ((n / 10) - (n / 10) / 10 * 10))]) (st := []) d_P_putDecimal_28 lk_P_29 cal_P_put tm_P_put ts_P_put rfl rfl rfl (Nat.le_of_ble_eq_true rfl) (Nat.le_of_ble_eq_true rfl) rfl rfl (P_put hR4 (48 + ((n / 10) - (n / 10) / 10 * 10))) (fun q6 cI6 cA6 e6 hR6 f6 => ?_) (fun k cI6 cA6 s6 e6 hR6 f6 => WP_x (Fr3.trans F4 f6) (by first | (simp [decL, dcu, wpl_c, wpl_n, bnd_i, bnd_x, c15, c15_, c15__, c15___, e4, c15____, e6]; done) | simp_all [decL, dcu, wpl_c, wpl_n, bnd_i, bnd_x]) hR6)
            have F6 := Fr3.trans F4 f6
            refine ep_iload_n (j := 2) d_P_putDecimal_31 rfl rfl ?_
            refine ep_bipush (v := 10) d_P_putDecimal_32 (by decide) ?_
            refine ep_idiv d_P_putDecimal_34 (by decide) ?_
            refine ep_cg (y := 1) (by decide) ?_
            refine ep_istore_n (lv' := [(0, .ref 8), (1, .int n), (2, .int 1)]) [1, 2, 0] d_P_putDecimal_35 rfl (by decide) rfl ?_
            refine ep_goto (tgt := 3) d_P_putDecimal_36 (by decide) ?_
            refine ep_iload_n (j := 2) d_P_putDecimal_3 rfl rfl ?_
            refine ep_iconst (v := 1) d_P_putDecimal_4 (by decide) ?_
            refine ep_icmp_lt (tgt := 39) d_P_putDecimal_5 (by decide) (fun z => absurd z (by decide)) (fun _ => ?_)
            refine ep_iload_n (j := 2) d_P_putDecimal_8 rfl rfl ?_
            refine ep_iconst (v := 1) d_P_putDecimal_9 (by decide) ?_
            refine ep_icmp_eq (tgt := 18) d_P_putDecimal_10 (by decide) (fun _ => ?_) (fun z => absurd (by decide) z)
            refine ep_aload_n (j := 0) d_P_putDecimal_18 rfl rfl ?_
            refine ep_bipush (v := 48) d_P_putDecimal_19 (by decide) ?_
            refine ep_iload_n (j := 1) d_P_putDecimal_21 rfl rfl ?_
            refine ep_iload_n (j := 2) d_P_putDecimal_22 rfl rfl ?_
            refine ep_idiv d_P_putDecimal_23 (by decide) ?_
            refine ep_cg (y := n) (by simp) ?_
            refine ep_bipush (v := 10) d_P_putDecimal_24 (by decide) ?_
            refine ep_irem d_P_putDecimal_26 (by decide) ?_
            refine ep_iadd d_P_putDecimal_27 ?_
            refine ep_callVw (As := [.int (48 + (n - n / 10 * 10))]) (st := []) d_P_putDecimal_28 lk_P_29 cal_P_put tm_P_put ts_P_put rfl rfl rfl (Nat.le_of_ble_eq_true rfl) (Nat.le_of_ble_eq_true rfl) rfl rfl (P_put hR6 (48 + (n - n / 10 * 10))) (fun q7 cI7 cA7 e7 hR7 f7 => ?_) (fun k cI7 cA7 s7 e7 hR7 f7 => WP_x (Fr3.trans F6 f7) (by first | (simp [decL, dcu, wpl_c, wpl_n, bnd_i, bnd_x, c15, c15_, c15__, c15___, e4, c15____, e6, e7]; done) | simp_all [decL, dcu, wpl_c, wpl_n, bnd_i, bnd_x]) hR7)
            have F7 := Fr3.trans F6 f7
            refine ep_iload_n (j := 2) d_P_putDecimal_31 rfl rfl ?_
            refine ep_bipush (v := 10) d_P_putDecimal_32 (by decide) ?_
            refine ep_idiv d_P_putDecimal_34 (by decide) ?_
            refine ep_cg (y := 0) (by decide) ?_
            refine ep_istore_n (lv' := [(0, .ref 8), (1, .int n), (2, .int 0)]) [1, 2, 0] d_P_putDecimal_35 rfl (by decide) rfl ?_
            refine ep_goto (tgt := 3) d_P_putDecimal_36 (by decide) ?_
            refine ep_iload_n (j := 2) d_P_putDecimal_3 rfl rfl ?_
            refine ep_iconst (v := 1) d_P_putDecimal_4 (by decide) ?_
            refine ep_icmp_lt (tgt := 39) d_P_putDecimal_5 (by decide) (fun _ => ?_) (fun z => absurd (by decide) z)
            exact ep_vret d_P_putDecimal_39 rfl (WP_ok (f := fun _ : WS => none) (q := q7) F7 (by first | (simp [decL, dcu, wpl_c, wpl_n, bnd_i, bnd_x, c15, c15_, c15__, c15___, e4, c15____, e6, e7]; done) | simp_all [decL, dcu, wpl_c, wpl_n, bnd_i, bnd_x]) hR7)
      · refine ep_aload_n (j := 0) d_P_putDecimal_18 rfl rfl ?_
        refine ep_bipush (v := 48) d_P_putDecimal_19 (by decide) ?_
        refine ep_iload_n (j := 1) d_P_putDecimal_21 rfl rfl ?_
        refine ep_iload_n (j := 2) d_P_putDecimal_22 rfl rfl ?_
        refine ep_idiv d_P_putDecimal_23 (by decide) ?_
        refine ep_bipush (v := 10) d_P_putDecimal_24 (by decide) ?_
        refine ep_irem d_P_putDecimal_26 (by decide) ?_
        refine ep_iadd d_P_putDecimal_27 ?_
        refine ep_callVw (As := [.int (48 + ((n / 1000) - (n / 1000) / 10 * 10))]) (st := []) d_P_putDecimal_28 lk_P_29 cal_P_put tm_P_put ts_P_put rfl rfl rfl (Nat.le_of_ble_eq_true rfl) (Nat.le_of_ble_eq_true rfl) rfl rfl (P_put hR (48 + ((n / 1000) - (n / 1000) / 10 * 10))) (fun q8 cI8 cA8 e8 hR8 f8 => ?_) (fun k cI8 cA8 s8 e8 hR8 f8 => WP_x (Fr3.trans Fr3.rfl' f8) (by first | (simp [decL, dcu, wpl_c, wpl_n, bnd_i, bnd_x, c15, c15_, c15__, e8]; done) | simp_all [decL, dcu, wpl_c, wpl_n, bnd_i, bnd_x]) hR8)
        have F8 := Fr3.trans Fr3.rfl' f8
        refine ep_iload_n (j := 2) d_P_putDecimal_31 rfl rfl ?_
        refine ep_bipush (v := 10) d_P_putDecimal_32 (by decide) ?_
        refine ep_idiv d_P_putDecimal_34 (by decide) ?_
        refine ep_cg (y := 100) (by decide) ?_
        refine ep_istore_n (lv' := [(0, .ref 8), (1, .int n), (2, .int 100)]) [1, 2, 0] d_P_putDecimal_35 rfl (by decide) rfl ?_
        refine ep_goto (tgt := 3) d_P_putDecimal_36 (by decide) ?_
        refine ep_iload_n (j := 2) d_P_putDecimal_3 rfl rfl ?_
        refine ep_iconst (v := 1) d_P_putDecimal_4 (by decide) ?_
        refine ep_icmp_lt (tgt := 39) d_P_putDecimal_5 (by decide) (fun z => absurd z (by decide)) (fun _ => ?_)
        refine ep_iload_n (j := 2) d_P_putDecimal_8 rfl rfl ?_
        refine ep_iconst (v := 1) d_P_putDecimal_9 (by decide) ?_
        refine ep_icmp_eq (tgt := 18) d_P_putDecimal_10 (by decide) (fun z => absurd z (by decide)) (fun _ => ?_)
        refine ep_iload_n (j := 1) d_P_putDecimal_13 rfl rfl ?_
        refine ep_iload_n (j := 2) d_P_putDecimal_14 rfl rfl ?_
        refine ep_icmp_lt (tgt := 31) d_P_putDecimal_15 (by decide) (fun c15___ => ?_) (fun c15___ => ?_)
        · refine ep_iload_n (j := 2) d_P_putDecimal_31 rfl rfl ?_
          refine ep_bipush (v := 10) d_P_putDecimal_32 (by decide) ?_
          refine ep_idiv d_P_putDecimal_34 (by decide) ?_
          refine ep_cg (y := 10) (by decide) ?_
          refine ep_istore_n (lv' := [(0, .ref 8), (1, .int n), (2, .int 10)]) [1, 2, 0] d_P_putDecimal_35 rfl (by decide) rfl ?_
          refine ep_goto (tgt := 3) d_P_putDecimal_36 (by decide) ?_
          refine ep_iload_n (j := 2) d_P_putDecimal_3 rfl rfl ?_
          refine ep_iconst (v := 1) d_P_putDecimal_4 (by decide) ?_
          refine ep_icmp_lt (tgt := 39) d_P_putDecimal_5 (by decide) (fun z => absurd z (by decide)) (fun _ => ?_)
          refine ep_iload_n (j := 2) d_P_putDecimal_8 rfl rfl ?_
          refine ep_iconst (v := 1) d_P_putDecimal_9 (by decide) ?_
          refine ep_icmp_eq (tgt := 18) d_P_putDecimal_10 (by decide) (fun z => absurd z (by decide)) (fun _ => ?_)
          refine ep_iload_n (j := 1) d_P_putDecimal_13 rfl rfl ?_
          refine ep_iload_n (j := 2) d_P_putDecimal_14 rfl rfl ?_
          refine ep_icmp_lt (tgt := 31) d_P_putDecimal_15 (by decide) (fun c15____ => ?_) (fun c15____ => ?_)
          · refine ep_iload_n (j := 2) d_P_putDecimal_31 rfl rfl ?_
            refine ep_bipush (v := 10) d_P_putDecimal_32 (by decide) ?_
            refine ep_idiv d_P_putDecimal_34 (by decide) ?_
            refine ep_cg (y := 1) (by decide) ?_
            refine ep_istore_n (lv' := [(0, .ref 8), (1, .int n), (2, .int 1)]) [1, 2, 0] d_P_putDecimal_35 rfl (by decide) rfl ?_
            refine ep_goto (tgt := 3) d_P_putDecimal_36 (by decide) ?_
            refine ep_iload_n (j := 2) d_P_putDecimal_3 rfl rfl ?_
            refine ep_iconst (v := 1) d_P_putDecimal_4 (by decide) ?_
            refine ep_icmp_lt (tgt := 39) d_P_putDecimal_5 (by decide) (fun z => absurd z (by decide)) (fun _ => ?_)
            refine ep_iload_n (j := 2) d_P_putDecimal_8 rfl rfl ?_
            refine ep_iconst (v := 1) d_P_putDecimal_9 (by decide) ?_
            refine ep_icmp_eq (tgt := 18) d_P_putDecimal_10 (by decide) (fun _ => ?_) (fun z => absurd (by decide) z)
            refine ep_aload_n (j := 0) d_P_putDecimal_18 rfl rfl ?_
            refine ep_bipush (v := 48) d_P_putDecimal_19 (by decide) ?_
            refine ep_iload_n (j := 1) d_P_putDecimal_21 rfl rfl ?_
            refine ep_iload_n (j := 2) d_P_putDecimal_22 rfl rfl ?_
            refine ep_idiv d_P_putDecimal_23 (by decide) ?_
            refine ep_cg (y := n) (by simp) ?_
            refine ep_bipush (v := 10) d_P_putDecimal_24 (by decide) ?_
            refine ep_irem d_P_putDecimal_26 (by decide) ?_
            refine ep_iadd d_P_putDecimal_27 ?_
            refine ep_callVw (As := [.int (48 + (n - n / 10 * 10))]) (st := []) d_P_putDecimal_28 lk_P_29 cal_P_put tm_P_put ts_P_put rfl rfl rfl (Nat.le_of_ble_eq_true rfl) (Nat.le_of_ble_eq_true rfl) rfl rfl (P_put hR8 (48 + (n - n / 10 * 10))) (fun q9 cI9 cA9 e9 hR9 f9 => ?_) (fun k cI9 cA9 s9 e9 hR9 f9 => WP_x (Fr3.trans F8 f9) (by first | (simp [decL, dcu, wpl_c, wpl_n, bnd_i, bnd_x, c15, c15_, c15__, e8, c15___, c15____, e9]; done) | simp_all [decL, dcu, wpl_c, wpl_n, bnd_i, bnd_x]) hR9)
            have F9 := Fr3.trans F8 f9
            refine ep_iload_n (j := 2) d_P_putDecimal_31 rfl rfl ?_
            refine ep_bipush (v := 10) d_P_putDecimal_32 (by decide) ?_
            refine ep_idiv d_P_putDecimal_34 (by decide) ?_
            refine ep_cg (y := 0) (by decide) ?_
            refine ep_istore_n (lv' := [(0, .ref 8), (1, .int n), (2, .int 0)]) [1, 2, 0] d_P_putDecimal_35 rfl (by decide) rfl ?_
            refine ep_goto (tgt := 3) d_P_putDecimal_36 (by decide) ?_
            refine ep_iload_n (j := 2) d_P_putDecimal_3 rfl rfl ?_
            refine ep_iconst (v := 1) d_P_putDecimal_4 (by decide) ?_
            refine ep_icmp_lt (tgt := 39) d_P_putDecimal_5 (by decide) (fun _ => ?_) (fun z => absurd (by decide) z)
            exact ep_vret d_P_putDecimal_39 rfl (WP_ok (f := fun _ : WS => none) (q := q9) F9 (by first | (simp [decL, dcu, wpl_c, wpl_n, bnd_i, bnd_x, c15, c15_, c15__, e8, c15___, c15____, e9]; done) | simp_all [decL, dcu, wpl_c, wpl_n, bnd_i, bnd_x]) hR9)
          · refine ep_aload_n (j := 0) d_P_putDecimal_18 rfl rfl ?_
            refine ep_bipush (v := 48) d_P_putDecimal_19 (by decide) ?_
            refine ep_iload_n (j := 1) d_P_putDecimal_21 rfl rfl ?_
            refine ep_iload_n (j := 2) d_P_putDecimal_22 rfl rfl ?_
            refine ep_idiv d_P_putDecimal_23 (by decide) ?_
            refine ep_bipush (v := 10) d_P_putDecimal_24 (by decide) ?_
            refine ep_irem d_P_putDecimal_26 (by decide) ?_
            refine ep_iadd d_P_putDecimal_27 ?_
            refine ep_callVw (As := [.int (48 + ((n / 10) - (n / 10) / 10 * 10))]) (st := []) d_P_putDecimal_28 lk_P_29 cal_P_put tm_P_put ts_P_put rfl rfl rfl (Nat.le_of_ble_eq_true rfl) (Nat.le_of_ble_eq_true rfl) rfl rfl (P_put hR8 (48 + ((n / 10) - (n / 10) / 10 * 10))) (fun q10 cI10 cA10 e10 hR10 f10 => ?_) (fun k cI10 cA10 s10 e10 hR10 f10 => WP_x (Fr3.trans F8 f10) (by first | (simp [decL, dcu, wpl_c, wpl_n, bnd_i, bnd_x, c15, c15_, c15__, e8, c15___, c15____, e10]; done) | simp_all [decL, dcu, wpl_c, wpl_n, bnd_i, bnd_x]) hR10)
            have F10 := Fr3.trans F8 f10
            refine ep_iload_n (j := 2) d_P_putDecimal_31 rfl rfl ?_
            refine ep_bipush (v := 10) d_P_putDecimal_32 (by decide) ?_
            refine ep_idiv d_P_putDecimal_34 (by decide) ?_
            refine ep_cg (y := 1) (by decide) ?_
            refine ep_istore_n (lv' := [(0, .ref 8), (1, .int n), (2, .int 1)]) [1, 2, 0] d_P_putDecimal_35 rfl (by decide) rfl ?_
            refine ep_goto (tgt := 3) d_P_putDecimal_36 (by decide) ?_
            refine ep_iload_n (j := 2) d_P_putDecimal_3 rfl rfl ?_
            refine ep_iconst (v := 1) d_P_putDecimal_4 (by decide) ?_
            refine ep_icmp_lt (tgt := 39) d_P_putDecimal_5 (by decide) (fun z => absurd z (by decide)) (fun _ => ?_)
            refine ep_iload_n (j := 2) d_P_putDecimal_8 rfl rfl ?_
            refine ep_iconst (v := 1) d_P_putDecimal_9 (by decide) ?_
            refine ep_icmp_eq (tgt := 18) d_P_putDecimal_10 (by decide) (fun _ => ?_) (fun z => absurd (by decide) z)
            refine ep_aload_n (j := 0) d_P_putDecimal_18 rfl rfl ?_
            refine ep_bipush (v := 48) d_P_putDecimal_19 (by decide) ?_
            refine ep_iload_n (j := 1) d_P_putDecimal_21 rfl rfl ?_
            refine ep_iload_n (j := 2) d_P_putDecimal_22 rfl rfl ?_
            refine ep_idiv d_P_putDecimal_23 (by decide) ?_
            refine ep_cg (y := n) (by simp) ?_
            refine ep_bipush (v := 10) d_P_putDecimal_24 (by decide) ?_
            refine ep_irem d_P_putDecimal_26 (by decide) ?_
            refine ep_iadd d_P_putDecimal_27 ?_
            refine ep_callVw (As := [.int (48 + (n - n / 10 * 10))]) (st := []) d_P_putDecimal_28 lk_P_29 cal_P_put tm_P_put ts_P_put rfl rfl rfl (Nat.le_of_ble_eq_true rfl) (Nat.le_of_ble_eq_true rfl) rfl rfl (P_put hR10 (48 + (n - n / 10 * 10))) (fun q11 cI11 cA11 e11 hR11 f11 => ?_) (fun k cI11 cA11 s11 e11 hR11 f11 => WP_x (Fr3.trans F10 f11) (by first | (simp [decL, dcu, wpl_c, wpl_n, bnd_i, bnd_x, c15, c15_, c15__, e8, c15___, c15____, e10, e11]; done) | simp_all [decL, dcu, wpl_c, wpl_n, bnd_i, bnd_x]) hR11)
            have F11 := Fr3.trans F10 f11
            refine ep_iload_n (j := 2) d_P_putDecimal_31 rfl rfl ?_
            refine ep_bipush (v := 10) d_P_putDecimal_32 (by decide) ?_
            refine ep_idiv d_P_putDecimal_34 (by decide) ?_
            refine ep_cg (y := 0) (by decide) ?_
            refine ep_istore_n (lv' := [(0, .ref 8), (1, .int n), (2, .int 0)]) [1, 2, 0] d_P_putDecimal_35 rfl (by decide) rfl ?_
            refine ep_goto (tgt := 3) d_P_putDecimal_36 (by decide) ?_
            refine ep_iload_n (j := 2) d_P_putDecimal_3 rfl rfl ?_
            refine ep_iconst (v := 1) d_P_putDecimal_4 (by decide) ?_
            refine ep_icmp_lt (tgt := 39) d_P_putDecimal_5 (by decide) (fun _ => ?_) (fun z => absurd (by decide) z)
            exact ep_vret d_P_putDecimal_39 rfl (WP_ok (f := fun _ : WS => none) (q := q11) F11 (by first | (simp [decL, dcu, wpl_c, wpl_n, bnd_i, bnd_x, c15, c15_, c15__, e8, c15___, c15____, e10, e11]; done) | simp_all [decL, dcu, wpl_c, wpl_n, bnd_i, bnd_x]) hR11)
        · refine ep_aload_n (j := 0) d_P_putDecimal_18 rfl rfl ?_
          refine ep_bipush (v := 48) d_P_putDecimal_19 (by decide) ?_
          refine ep_iload_n (j := 1) d_P_putDecimal_21 rfl rfl ?_
          refine ep_iload_n (j := 2) d_P_putDecimal_22 rfl rfl ?_
          refine ep_idiv d_P_putDecimal_23 (by decide) ?_
          refine ep_bipush (v := 10) d_P_putDecimal_24 (by decide) ?_
          refine ep_irem d_P_putDecimal_26 (by decide) ?_
          refine ep_iadd d_P_putDecimal_27 ?_
          refine ep_callVw (As := [.int (48 + ((n / 100) - (n / 100) / 10 * 10))]) (st := []) d_P_putDecimal_28 lk_P_29 cal_P_put tm_P_put ts_P_put rfl rfl rfl (Nat.le_of_ble_eq_true rfl) (Nat.le_of_ble_eq_true rfl) rfl rfl (P_put hR8 (48 + ((n / 100) - (n / 100) / 10 * 10))) (fun q12 cI12 cA12 e12 hR12 f12 => ?_) (fun k cI12 cA12 s12 e12 hR12 f12 => WP_x (Fr3.trans F8 f12) (by first | (simp [decL, dcu, wpl_c, wpl_n, bnd_i, bnd_x, c15, c15_, c15__, e8, c15___, e12]; done) | simp_all [decL, dcu, wpl_c, wpl_n, bnd_i, bnd_x]) hR12)
          have F12 := Fr3.trans F8 f12
          refine ep_iload_n (j := 2) d_P_putDecimal_31 rfl rfl ?_
          refine ep_bipush (v := 10) d_P_putDecimal_32 (by decide) ?_
          refine ep_idiv d_P_putDecimal_34 (by decide) ?_
          refine ep_cg (y := 10) (by decide) ?_
          refine ep_istore_n (lv' := [(0, .ref 8), (1, .int n), (2, .int 10)]) [1, 2, 0] d_P_putDecimal_35 rfl (by decide) rfl ?_
          refine ep_goto (tgt := 3) d_P_putDecimal_36 (by decide) ?_
          refine ep_iload_n (j := 2) d_P_putDecimal_3 rfl rfl ?_
          refine ep_iconst (v := 1) d_P_putDecimal_4 (by decide) ?_
          refine ep_icmp_lt (tgt := 39) d_P_putDecimal_5 (by decide) (fun z => absurd z (by decide)) (fun _ => ?_)
          refine ep_iload_n (j := 2) d_P_putDecimal_8 rfl rfl ?_
          refine ep_iconst (v := 1) d_P_putDecimal_9 (by decide) ?_
          refine ep_icmp_eq (tgt := 18) d_P_putDecimal_10 (by decide) (fun z => absurd z (by decide)) (fun _ => ?_)
          refine ep_iload_n (j := 1) d_P_putDecimal_13 rfl rfl ?_
          refine ep_iload_n (j := 2) d_P_putDecimal_14 rfl rfl ?_
          refine ep_icmp_lt (tgt := 31) d_P_putDecimal_15 (by decide) (fun c15____ => ?_) (fun c15____ => ?_)
          · refine ep_iload_n (j := 2) d_P_putDecimal_31 rfl rfl ?_
            refine ep_bipush (v := 10) d_P_putDecimal_32 (by decide) ?_
            refine ep_idiv d_P_putDecimal_34 (by decide) ?_
            refine ep_cg (y := 1) (by decide) ?_
            refine ep_istore_n (lv' := [(0, .ref 8), (1, .int n), (2, .int 1)]) [1, 2, 0] d_P_putDecimal_35 rfl (by decide) rfl ?_
            refine ep_goto (tgt := 3) d_P_putDecimal_36 (by decide) ?_
            refine ep_iload_n (j := 2) d_P_putDecimal_3 rfl rfl ?_
            refine ep_iconst (v := 1) d_P_putDecimal_4 (by decide) ?_
            refine ep_icmp_lt (tgt := 39) d_P_putDecimal_5 (by decide) (fun z => absurd z (by decide)) (fun _ => ?_)
            refine ep_iload_n (j := 2) d_P_putDecimal_8 rfl rfl ?_
            refine ep_iconst (v := 1) d_P_putDecimal_9 (by decide) ?_
            refine ep_icmp_eq (tgt := 18) d_P_putDecimal_10 (by decide) (fun _ => ?_) (fun z => absurd (by decide) z)
            refine ep_aload_n (j := 0) d_P_putDecimal_18 rfl rfl ?_
            refine ep_bipush (v := 48) d_P_putDecimal_19 (by decide) ?_
            refine ep_iload_n (j := 1) d_P_putDecimal_21 rfl rfl ?_
            refine ep_iload_n (j := 2) d_P_putDecimal_22 rfl rfl ?_
            refine ep_idiv d_P_putDecimal_23 (by decide) ?_
            refine ep_cg (y := n) (by simp) ?_
            refine ep_bipush (v := 10) d_P_putDecimal_24 (by decide) ?_
            refine ep_irem d_P_putDecimal_26 (by decide) ?_
            refine ep_iadd d_P_putDecimal_27 ?_
            refine ep_callVw (As := [.int (48 + (n - n / 10 * 10))]) (st := []) d_P_putDecimal_28 lk_P_29 cal_P_put tm_P_put ts_P_put rfl rfl rfl (Nat.le_of_ble_eq_true rfl) (Nat.le_of_ble_eq_true rfl) rfl rfl (P_put hR12 (48 + (n - n / 10 * 10))) (fun q13 cI13 cA13 e13 hR13 f13 => ?_) (fun k cI13 cA13 s13 e13 hR13 f13 => WP_x (Fr3.trans F12 f13) (by first | (simp [decL, dcu, wpl_c, wpl_n, bnd_i, bnd_x, c15, c15_, c15__, e8, c15___, e12, c15____, e13]; done) | simp_all [decL, dcu, wpl_c, wpl_n, bnd_i, bnd_x]) hR13)
            have F13 := Fr3.trans F12 f13
            refine ep_iload_n (j := 2) d_P_putDecimal_31 rfl rfl ?_
            refine ep_bipush (v := 10) d_P_putDecimal_32 (by decide) ?_
            refine ep_idiv d_P_putDecimal_34 (by decide) ?_
            refine ep_cg (y := 0) (by decide) ?_
            refine ep_istore_n (lv' := [(0, .ref 8), (1, .int n), (2, .int 0)]) [1, 2, 0] d_P_putDecimal_35 rfl (by decide) rfl ?_
            refine ep_goto (tgt := 3) d_P_putDecimal_36 (by decide) ?_
            refine ep_iload_n (j := 2) d_P_putDecimal_3 rfl rfl ?_
            refine ep_iconst (v := 1) d_P_putDecimal_4 (by decide) ?_
            refine ep_icmp_lt (tgt := 39) d_P_putDecimal_5 (by decide) (fun _ => ?_) (fun z => absurd (by decide) z)
            exact ep_vret d_P_putDecimal_39 rfl (WP_ok (f := fun _ : WS => none) (q := q13) F13 (by first | (simp [decL, dcu, wpl_c, wpl_n, bnd_i, bnd_x, c15, c15_, c15__, e8, c15___, e12, c15____, e13]; done) | simp_all [decL, dcu, wpl_c, wpl_n, bnd_i, bnd_x]) hR13)
          · refine ep_aload_n (j := 0) d_P_putDecimal_18 rfl rfl ?_
            refine ep_bipush (v := 48) d_P_putDecimal_19 (by decide) ?_
            refine ep_iload_n (j := 1) d_P_putDecimal_21 rfl rfl ?_
            refine ep_iload_n (j := 2) d_P_putDecimal_22 rfl rfl ?_
            refine ep_idiv d_P_putDecimal_23 (by decide) ?_
            refine ep_bipush (v := 10) d_P_putDecimal_24 (by decide) ?_
            refine ep_irem d_P_putDecimal_26 (by decide) ?_
            refine ep_iadd d_P_putDecimal_27 ?_
            refine ep_callVw (As := [.int (48 + ((n / 10) - (n / 10) / 10 * 10))]) (st := []) d_P_putDecimal_28 lk_P_29 cal_P_put tm_P_put ts_P_put rfl rfl rfl (Nat.le_of_ble_eq_true rfl) (Nat.le_of_ble_eq_true rfl) rfl rfl (P_put hR12 (48 + ((n / 10) - (n / 10) / 10 * 10))) (fun q14 cI14 cA14 e14 hR14 f14 => ?_) (fun k cI14 cA14 s14 e14 hR14 f14 => WP_x (Fr3.trans F12 f14) (by first | (simp [decL, dcu, wpl_c, wpl_n, bnd_i, bnd_x, c15, c15_, c15__, e8, c15___, e12, c15____, e14]; done) | simp_all [decL, dcu, wpl_c, wpl_n, bnd_i, bnd_x]) hR14)
            have F14 := Fr3.trans F12 f14
            refine ep_iload_n (j := 2) d_P_putDecimal_31 rfl rfl ?_
            refine ep_bipush (v := 10) d_P_putDecimal_32 (by decide) ?_
            refine ep_idiv d_P_putDecimal_34 (by decide) ?_
            refine ep_cg (y := 1) (by decide) ?_
            refine ep_istore_n (lv' := [(0, .ref 8), (1, .int n), (2, .int 1)]) [1, 2, 0] d_P_putDecimal_35 rfl (by decide) rfl ?_
            refine ep_goto (tgt := 3) d_P_putDecimal_36 (by decide) ?_
            refine ep_iload_n (j := 2) d_P_putDecimal_3 rfl rfl ?_
            refine ep_iconst (v := 1) d_P_putDecimal_4 (by decide) ?_
            refine ep_icmp_lt (tgt := 39) d_P_putDecimal_5 (by decide) (fun z => absurd z (by decide)) (fun _ => ?_)
            refine ep_iload_n (j := 2) d_P_putDecimal_8 rfl rfl ?_
            refine ep_iconst (v := 1) d_P_putDecimal_9 (by decide) ?_
            refine ep_icmp_eq (tgt := 18) d_P_putDecimal_10 (by decide) (fun _ => ?_) (fun z => absurd (by decide) z)
            refine ep_aload_n (j := 0) d_P_putDecimal_18 rfl rfl ?_
            refine ep_bipush (v := 48) d_P_putDecimal_19 (by decide) ?_
            refine ep_iload_n (j := 1) d_P_putDecimal_21 rfl rfl ?_
            refine ep_iload_n (j := 2) d_P_putDecimal_22 rfl rfl ?_
            refine ep_idiv d_P_putDecimal_23 (by decide) ?_
            refine ep_cg (y := n) (by simp) ?_
            refine ep_bipush (v := 10) d_P_putDecimal_24 (by decide) ?_
            refine ep_irem d_P_putDecimal_26 (by decide) ?_
            refine ep_iadd d_P_putDecimal_27 ?_
            refine ep_callVw (As := [.int (48 + (n - n / 10 * 10))]) (st := []) d_P_putDecimal_28 lk_P_29 cal_P_put tm_P_put ts_P_put rfl rfl rfl (Nat.le_of_ble_eq_true rfl) (Nat.le_of_ble_eq_true rfl) rfl rfl (P_put hR14 (48 + (n - n / 10 * 10))) (fun q15 cI15 cA15 e15 hR15 f15 => ?_) (fun k cI15 cA15 s15 e15 hR15 f15 => WP_x (Fr3.trans F14 f15) (by first | (simp [decL, dcu, wpl_c, wpl_n, bnd_i, bnd_x, c15, c15_, c15__, e8, c15___, e12, c15____, e14, e15]; done) | simp_all [decL, dcu, wpl_c, wpl_n, bnd_i, bnd_x]) hR15)
            have F15 := Fr3.trans F14 f15
            refine ep_iload_n (j := 2) d_P_putDecimal_31 rfl rfl ?_
            refine ep_bipush (v := 10) d_P_putDecimal_32 (by decide) ?_
            refine ep_idiv d_P_putDecimal_34 (by decide) ?_
            refine ep_cg (y := 0) (by decide) ?_
            refine ep_istore_n (lv' := [(0, .ref 8), (1, .int n), (2, .int 0)]) [1, 2, 0] d_P_putDecimal_35 rfl (by decide) rfl ?_
            refine ep_goto (tgt := 3) d_P_putDecimal_36 (by decide) ?_
            refine ep_iload_n (j := 2) d_P_putDecimal_3 rfl rfl ?_
            refine ep_iconst (v := 1) d_P_putDecimal_4 (by decide) ?_
            refine ep_icmp_lt (tgt := 39) d_P_putDecimal_5 (by decide) (fun _ => ?_) (fun z => absurd (by decide) z)
            exact ep_vret d_P_putDecimal_39 rfl (WP_ok (f := fun _ : WS => none) (q := q15) F15 (by first | (simp [decL, dcu, wpl_c, wpl_n, bnd_i, bnd_x, c15, c15_, c15__, e8, c15___, e12, c15____, e14, e15]; done) | simp_all [decL, dcu, wpl_c, wpl_n, bnd_i, bnd_x]) hR15)
    · refine ep_aload_n (j := 0) d_P_putDecimal_18 rfl rfl ?_
      refine ep_bipush (v := 48) d_P_putDecimal_19 (by decide) ?_
      refine ep_iload_n (j := 1) d_P_putDecimal_21 rfl rfl ?_
      refine ep_iload_n (j := 2) d_P_putDecimal_22 rfl rfl ?_
      refine ep_idiv d_P_putDecimal_23 (by decide) ?_
      refine ep_bipush (v := 10) d_P_putDecimal_24 (by decide) ?_
      refine ep_irem d_P_putDecimal_26 (by decide) ?_
      refine ep_iadd d_P_putDecimal_27 ?_
      refine ep_callVw (As := [.int (48 + ((n / 10000) - (n / 10000) / 10 * 10))]) (st := []) d_P_putDecimal_28 lk_P_29 cal_P_put tm_P_put ts_P_put rfl rfl rfl (Nat.le_of_ble_eq_true rfl) (Nat.le_of_ble_eq_true rfl) rfl rfl (P_put hR (48 + ((n / 10000) - (n / 10000) / 10 * 10))) (fun q16 cI16 cA16 e16 hR16 f16 => ?_) (fun k cI16 cA16 s16 e16 hR16 f16 => WP_x (Fr3.trans Fr3.rfl' f16) (by first | (simp [decL, dcu, wpl_c, wpl_n, bnd_i, bnd_x, c15, c15_, e16]; done) | simp_all [decL, dcu, wpl_c, wpl_n, bnd_i, bnd_x]) hR16)
      have F16 := Fr3.trans Fr3.rfl' f16
      refine ep_iload_n (j := 2) d_P_putDecimal_31 rfl rfl ?_
      refine ep_bipush (v := 10) d_P_putDecimal_32 (by decide) ?_
      refine ep_idiv d_P_putDecimal_34 (by decide) ?_
      refine ep_cg (y := 1000) (by decide) ?_
      refine ep_istore_n (lv' := [(0, .ref 8), (1, .int n), (2, .int 1000)]) [1, 2, 0] d_P_putDecimal_35 rfl (by decide) rfl ?_
      refine ep_goto (tgt := 3) d_P_putDecimal_36 (by decide) ?_
      refine ep_iload_n (j := 2) d_P_putDecimal_3 rfl rfl ?_
      refine ep_iconst (v := 1) d_P_putDecimal_4 (by decide) ?_
      refine ep_icmp_lt (tgt := 39) d_P_putDecimal_5 (by decide) (fun z => absurd z (by decide)) (fun _ => ?_)
      refine ep_iload_n (j := 2) d_P_putDecimal_8 rfl rfl ?_
      refine ep_iconst (v := 1) d_P_putDecimal_9 (by decide) ?_
      refine ep_icmp_eq (tgt := 18) d_P_putDecimal_10 (by decide) (fun z => absurd z (by decide)) (fun _ => ?_)
      refine ep_iload_n (j := 1) d_P_putDecimal_13 rfl rfl ?_
      refine ep_iload_n (j := 2) d_P_putDecimal_14 rfl rfl ?_
      refine ep_icmp_lt (tgt := 31) d_P_putDecimal_15 (by decide) (fun c15__ => ?_) (fun c15__ => ?_)
      · refine ep_iload_n (j := 2) d_P_putDecimal_31 rfl rfl ?_
        refine ep_bipush (v := 10) d_P_putDecimal_32 (by decide) ?_
        refine ep_idiv d_P_putDecimal_34 (by decide) ?_
        refine ep_cg (y := 100) (by decide) ?_
        refine ep_istore_n (lv' := [(0, .ref 8), (1, .int n), (2, .int 100)]) [1, 2, 0] d_P_putDecimal_35 rfl (by decide) rfl ?_
        refine ep_goto (tgt := 3) d_P_putDecimal_36 (by decide) ?_
        refine ep_iload_n (j := 2) d_P_putDecimal_3 rfl rfl ?_
        refine ep_iconst (v := 1) d_P_putDecimal_4 (by decide) ?_
        refine ep_icmp_lt (tgt := 39) d_P_putDecimal_5 (by decide) (fun z => absurd z (by decide)) (fun _ => ?_)
        refine ep_iload_n (j := 2) d_P_putDecimal_8 rfl rfl ?_
        refine ep_iconst (v := 1) d_P_putDecimal_9 (by decide) ?_
        refine ep_icmp_eq (tgt := 18) d_P_putDecimal_10 (by decide) (fun z => absurd z (by decide)) (fun _ => ?_)
        refine ep_iload_n (j := 1) d_P_putDecimal_13 rfl rfl ?_
        refine ep_iload_n (j := 2) d_P_putDecimal_14 rfl rfl ?_
        refine ep_icmp_lt (tgt := 31) d_P_putDecimal_15 (by decide) (fun c15___ => ?_) (fun c15___ => ?_)
        · refine ep_iload_n (j := 2) d_P_putDecimal_31 rfl rfl ?_
          refine ep_bipush (v := 10) d_P_putDecimal_32 (by decide) ?_
          refine ep_idiv d_P_putDecimal_34 (by decide) ?_
          refine ep_cg (y := 10) (by decide) ?_
          refine ep_istore_n (lv' := [(0, .ref 8), (1, .int n), (2, .int 10)]) [1, 2, 0] d_P_putDecimal_35 rfl (by decide) rfl ?_
          refine ep_goto (tgt := 3) d_P_putDecimal_36 (by decide) ?_
          refine ep_iload_n (j := 2) d_P_putDecimal_3 rfl rfl ?_
          refine ep_iconst (v := 1) d_P_putDecimal_4 (by decide) ?_
          refine ep_icmp_lt (tgt := 39) d_P_putDecimal_5 (by decide) (fun z => absurd z (by decide)) (fun _ => ?_)
          refine ep_iload_n (j := 2) d_P_putDecimal_8 rfl rfl ?_
          refine ep_iconst (v := 1) d_P_putDecimal_9 (by decide) ?_
          refine ep_icmp_eq (tgt := 18) d_P_putDecimal_10 (by decide) (fun z => absurd z (by decide)) (fun _ => ?_)
          refine ep_iload_n (j := 1) d_P_putDecimal_13 rfl rfl ?_
          refine ep_iload_n (j := 2) d_P_putDecimal_14 rfl rfl ?_
          refine ep_icmp_lt (tgt := 31) d_P_putDecimal_15 (by decide) (fun c15____ => ?_) (fun c15____ => ?_)
          · refine ep_iload_n (j := 2) d_P_putDecimal_31 rfl rfl ?_
            refine ep_bipush (v := 10) d_P_putDecimal_32 (by decide) ?_
            refine ep_idiv d_P_putDecimal_34 (by decide) ?_
            refine ep_cg (y := 1) (by decide) ?_
            refine ep_istore_n (lv' := [(0, .ref 8), (1, .int n), (2, .int 1)]) [1, 2, 0] d_P_putDecimal_35 rfl (by decide) rfl ?_
            refine ep_goto (tgt := 3) d_P_putDecimal_36 (by decide) ?_
            refine ep_iload_n (j := 2) d_P_putDecimal_3 rfl rfl ?_
            refine ep_iconst (v := 1) d_P_putDecimal_4 (by decide) ?_
            refine ep_icmp_lt (tgt := 39) d_P_putDecimal_5 (by decide) (fun z => absurd z (by decide)) (fun _ => ?_)
            refine ep_iload_n (j := 2) d_P_putDecimal_8 rfl rfl ?_
            refine ep_iconst (v := 1) d_P_putDecimal_9 (by decide) ?_
            refine ep_icmp_eq (tgt := 18) d_P_putDecimal_10 (by decide) (fun _ => ?_) (fun z => absurd (by decide) z)
            refine ep_aload_n (j := 0) d_P_putDecimal_18 rfl rfl ?_
            refine ep_bipush (v := 48) d_P_putDecimal_19 (by decide) ?_
            refine ep_iload_n (j := 1) d_P_putDecimal_21 rfl rfl ?_
            refine ep_iload_n (j := 2) d_P_putDecimal_22 rfl rfl ?_
            refine ep_idiv d_P_putDecimal_23 (by decide) ?_
            refine ep_cg (y := n) (by simp) ?_
            refine ep_bipush (v := 10) d_P_putDecimal_24 (by decide) ?_
            refine ep_irem d_P_putDecimal_26 (by decide) ?_
            refine ep_iadd d_P_putDecimal_27 ?_
            refine ep_callVw (As := [.int (48 + (n - n / 10 * 10))]) (st := []) d_P_putDecimal_28 lk_P_29 cal_P_put tm_P_put ts_P_put rfl rfl rfl (Nat.le_of_ble_eq_true rfl) (Nat.le_of_ble_eq_true rfl) rfl rfl (P_put hR16 (48 + (n - n / 10 * 10))) (fun q17 cI17 cA17 e17 hR17 f17 => ?_) (fun k cI17 cA17 s17 e17 hR17 f17 => WP_x (Fr3.trans F16 f17) (by first | (simp [decL, dcu, wpl_c, wpl_n, bnd_i, bnd_x, c15, c15_, e16, c15__, c15___, c15____, e17]; done) | simp_all [decL, dcu, wpl_c, wpl_n, bnd_i, bnd_x]) hR17)
            have F17 := Fr3.trans F16 f17
            refine ep_iload_n (j := 2) d_P_putDecimal_31 rfl rfl ?_
            refine ep_bipush (v := 10) d_P_putDecimal_32 (by decide) ?_
            refine ep_idiv d_P_putDecimal_34 (by decide) ?_
            refine ep_cg (y := 0) (by decide) ?_
            refine ep_istore_n (lv' := [(0, .ref 8), (1, .int n), (2, .int 0)]) [1, 2, 0] d_P_putDecimal_35 rfl (by decide) rfl ?_
            refine ep_goto (tgt := 3) d_P_putDecimal_36 (by decide) ?_
            refine ep_iload_n (j := 2) d_P_putDecimal_3 rfl rfl ?_
            refine ep_iconst (v := 1) d_P_putDecimal_4 (by decide) ?_
            refine ep_icmp_lt (tgt := 39) d_P_putDecimal_5 (by decide) (fun _ => ?_) (fun z => absurd (by decide) z)
            exact ep_vret d_P_putDecimal_39 rfl (WP_ok (f := fun _ : WS => none) (q := q17) F17 (by first | (simp [decL, dcu, wpl_c, wpl_n, bnd_i, bnd_x, c15, c15_, e16, c15__, c15___, c15____, e17]; done) | simp_all [decL, dcu, wpl_c, wpl_n, bnd_i, bnd_x]) hR17)
          · refine ep_aload_n (j := 0) d_P_putDecimal_18 rfl rfl ?_
            refine ep_bipush (v := 48) d_P_putDecimal_19 (by decide) ?_
            refine ep_iload_n (j := 1) d_P_putDecimal_21 rfl rfl ?_
            refine ep_iload_n (j := 2) d_P_putDecimal_22 rfl rfl ?_
            refine ep_idiv d_P_putDecimal_23 (by decide) ?_
            refine ep_bipush (v := 10) d_P_putDecimal_24 (by decide) ?_
            refine ep_irem d_P_putDecimal_26 (by decide) ?_
            refine ep_iadd d_P_putDecimal_27 ?_
            refine ep_callVw (As := [.int (48 + ((n / 10) - (n / 10) / 10 * 10))]) (st := []) d_P_putDecimal_28 lk_P_29 cal_P_put tm_P_put ts_P_put rfl rfl rfl (Nat.le_of_ble_eq_true rfl) (Nat.le_of_ble_eq_true rfl) rfl rfl (P_put hR16 (48 + ((n / 10) - (n / 10) / 10 * 10))) (fun q18 cI18 cA18 e18 hR18 f18 => ?_) (fun k cI18 cA18 s18 e18 hR18 f18 => WP_x (Fr3.trans F16 f18) (by first | (simp [decL, dcu, wpl_c, wpl_n, bnd_i, bnd_x, c15, c15_, e16, c15__, c15___, c15____, e18]; done) | simp_all [decL, dcu, wpl_c, wpl_n, bnd_i, bnd_x]) hR18)
            have F18 := Fr3.trans F16 f18
            refine ep_iload_n (j := 2) d_P_putDecimal_31 rfl rfl ?_
            refine ep_bipush (v := 10) d_P_putDecimal_32 (by decide) ?_
            refine ep_idiv d_P_putDecimal_34 (by decide) ?_
            refine ep_cg (y := 1) (by decide) ?_
            refine ep_istore_n (lv' := [(0, .ref 8), (1, .int n), (2, .int 1)]) [1, 2, 0] d_P_putDecimal_35 rfl (by decide) rfl ?_
            refine ep_goto (tgt := 3) d_P_putDecimal_36 (by decide) ?_
            refine ep_iload_n (j := 2) d_P_putDecimal_3 rfl rfl ?_
            refine ep_iconst (v := 1) d_P_putDecimal_4 (by decide) ?_
            refine ep_icmp_lt (tgt := 39) d_P_putDecimal_5 (by decide) (fun z => absurd z (by decide)) (fun _ => ?_)
            refine ep_iload_n (j := 2) d_P_putDecimal_8 rfl rfl ?_
            refine ep_iconst (v := 1) d_P_putDecimal_9 (by decide) ?_
            refine ep_icmp_eq (tgt := 18) d_P_putDecimal_10 (by decide) (fun _ => ?_) (fun z => absurd (by decide) z)
            refine ep_aload_n (j := 0) d_P_putDecimal_18 rfl rfl ?_
            refine ep_bipush (v := 48) d_P_putDecimal_19 (by decide) ?_
            refine ep_iload_n (j := 1) d_P_putDecimal_21 rfl rfl ?_
            refine ep_iload_n (j := 2) d_P_putDecimal_22 rfl rfl ?_
            refine ep_idiv d_P_putDecimal_23 (by decide) ?_
            refine ep_cg (y := n) (by simp) ?_
            refine ep_bipush (v := 10) d_P_putDecimal_24 (by decide) ?_
            refine ep_irem d_P_putDecimal_26 (by decide) ?_
            refine ep_iadd d_P_putDecimal_27 ?_
            refine ep_callVw (As := [.int (48 + (n - n / 10 * 10))]) (st := []) d_P_putDecimal_28 lk_P_29 cal_P_put tm_P_put ts_P_put rfl rfl rfl (Nat.le_of_ble_eq_true rfl) (Nat.le_of_ble_eq_true rfl) rfl rfl (P_put hR18 (48 + (n - n / 10 * 10))) (fun q19 cI19 cA19 e19 hR19 f19 => ?_) (fun k cI19 cA19 s19 e19 hR19 f19 => WP_x (Fr3.trans F18 f19) (by first | (simp [decL, dcu, wpl_c, wpl_n, bnd_i, bnd_x, c15, c15_, e16, c15__, c15___, c15____, e18, e19]; done) | simp_all [decL, dcu, wpl_c, wpl_n, bnd_i, bnd_x]) hR19)
            have F19 := Fr3.trans F18 f19
            refine ep_iload_n (j := 2) d_P_putDecimal_31 rfl rfl ?_
            refine ep_bipush (v := 10) d_P_putDecimal_32 (by decide) ?_
            refine ep_idiv d_P_putDecimal_34 (by decide) ?_
            refine ep_cg (y := 0) (by decide) ?_
            refine ep_istore_n (lv' := [(0, .ref 8), (1, .int n), (2, .int 0)]) [1, 2, 0] d_P_putDecimal_35 rfl (by decide) rfl ?_
            refine ep_goto (tgt := 3) d_P_putDecimal_36 (by decide) ?_
            refine ep_iload_n (j := 2) d_P_putDecimal_3 rfl rfl ?_
            refine ep_iconst (v := 1) d_P_putDecimal_4 (by decide) ?_
            refine ep_icmp_lt (tgt := 39) d_P_putDecimal_5 (by decide) (fun _ => ?_) (fun z => absurd (by decide) z)
            exact ep_vret d_P_putDecimal_39 rfl (WP_ok (f := fun _ : WS => none) (q := q19) F19 (by first | (simp [decL, dcu, wpl_c, wpl_n, bnd_i, bnd_x, c15, c15_, e16, c15__, c15___, c15____, e18, e19]; done) | simp_all [decL, dcu, wpl_c, wpl_n, bnd_i, bnd_x]) hR19)
        · refine ep_aload_n (j := 0) d_P_putDecimal_18 rfl rfl ?_
          refine ep_bipush (v := 48) d_P_putDecimal_19 (by decide) ?_
          refine ep_iload_n (j := 1) d_P_putDecimal_21 rfl rfl ?_
          refine ep_iload_n (j := 2) d_P_putDecimal_22 rfl rfl ?_
          refine ep_idiv d_P_putDecimal_23 (by decide) ?_
          refine ep_bipush (v := 10) d_P_putDecimal_24 (by decide) ?_
          refine ep_irem d_P_putDecimal_26 (by decide) ?_
          refine ep_iadd d_P_putDecimal_27 ?_
          refine ep_callVw (As := [.int (48 + ((n / 100) - (n / 100) / 10 * 10))]) (st := []) d_P_putDecimal_28 lk_P_29 cal_P_put tm_P_put ts_P_put rfl rfl rfl (Nat.le_of_ble_eq_true rfl) (Nat.le_of_ble_eq_true rfl) rfl rfl (P_put hR16 (48 + ((n / 100) - (n / 100) / 10 * 10))) (fun q20 cI20 cA20 e20 hR20 f20 => ?_) (fun k cI20 cA20 s20 e20 hR20 f20 => WP_x (Fr3.trans F16 f20) (by first | (simp [decL, dcu, wpl_c, wpl_n, bnd_i, bnd_x, c15, c15_, e16, c15__, c15___, e20]; done) | simp_all [decL, dcu, wpl_c, wpl_n, bnd_i, bnd_x]) hR20)
          have F20 := Fr3.trans F16 f20
          refine ep_iload_n (j := 2) d_P_putDecimal_31 rfl rfl ?_
          refine ep_bipush (v := 10) d_P_putDecimal_32 (by decide) ?_
          refine ep_idiv d_P_putDecimal_34 (by decide) ?_
          refine ep_cg (y := 10) (by decide) ?_
          refine ep_istore_n (lv' := [(0, .ref 8), (1, .int n), (2, .int 10)]) [1, 2, 0] d_P_putDecimal_35 rfl (by decide) rfl ?_
          refine ep_goto (tgt := 3) d_P_putDecimal_36 (by decide) ?_
          refine ep_iload_n (j := 2) d_P_putDecimal_3 rfl rfl ?_
          refine ep_iconst (v := 1) d_P_putDecimal_4 (by decide) ?_
          refine ep_icmp_lt (tgt := 39) d_P_putDecimal_5 (by decide) (fun z => absurd z (by decide)) (fun _ => ?_)
          refine ep_iload_n (j := 2) d_P_putDecimal_8 rfl rfl ?_
          refine ep_iconst (v := 1) d_P_putDecimal_9 (by decide) ?_
          refine ep_icmp_eq (tgt := 18) d_P_putDecimal_10 (by decide) (fun z => absurd z (by decide)) (fun _ => ?_)
          refine ep_iload_n (j := 1) d_P_putDecimal_13 rfl rfl ?_
          refine ep_iload_n (j := 2) d_P_putDecimal_14 rfl rfl ?_
          refine ep_icmp_lt (tgt := 31) d_P_putDecimal_15 (by decide) (fun c15____ => ?_) (fun c15____ => ?_)
          · refine ep_iload_n (j := 2) d_P_putDecimal_31 rfl rfl ?_
            refine ep_bipush (v := 10) d_P_putDecimal_32 (by decide) ?_
            refine ep_idiv d_P_putDecimal_34 (by decide) ?_
            refine ep_cg (y := 1) (by decide) ?_
            refine ep_istore_n (lv' := [(0, .ref 8), (1, .int n), (2, .int 1)]) [1, 2, 0] d_P_putDecimal_35 rfl (by decide) rfl ?_
            refine ep_goto (tgt := 3) d_P_putDecimal_36 (by decide) ?_
            refine ep_iload_n (j := 2) d_P_putDecimal_3 rfl rfl ?_
            refine ep_iconst (v := 1) d_P_putDecimal_4 (by decide) ?_
            refine ep_icmp_lt (tgt := 39) d_P_putDecimal_5 (by decide) (fun z => absurd z (by decide)) (fun _ => ?_)
            refine ep_iload_n (j := 2) d_P_putDecimal_8 rfl rfl ?_
            refine ep_iconst (v := 1) d_P_putDecimal_9 (by decide) ?_
            refine ep_icmp_eq (tgt := 18) d_P_putDecimal_10 (by decide) (fun _ => ?_) (fun z => absurd (by decide) z)
            refine ep_aload_n (j := 0) d_P_putDecimal_18 rfl rfl ?_
            refine ep_bipush (v := 48) d_P_putDecimal_19 (by decide) ?_
            refine ep_iload_n (j := 1) d_P_putDecimal_21 rfl rfl ?_
            refine ep_iload_n (j := 2) d_P_putDecimal_22 rfl rfl ?_
            refine ep_idiv d_P_putDecimal_23 (by decide) ?_
            refine ep_cg (y := n) (by simp) ?_
            refine ep_bipush (v := 10) d_P_putDecimal_24 (by decide) ?_
            refine ep_irem d_P_putDecimal_26 (by decide) ?_
            refine ep_iadd d_P_putDecimal_27 ?_
            refine ep_callVw (As := [.int (48 + (n - n / 10 * 10))]) (st := []) d_P_putDecimal_28 lk_P_29 cal_P_put tm_P_put ts_P_put rfl rfl rfl (Nat.le_of_ble_eq_true rfl) (Nat.le_of_ble_eq_true rfl) rfl rfl (P_put hR20 (48 + (n - n / 10 * 10))) (fun q21 cI21 cA21 e21 hR21 f21 => ?_) (fun k cI21 cA21 s21 e21 hR21 f21 => WP_x (Fr3.trans F20 f21) (by first | (simp [decL, dcu, wpl_c, wpl_n, bnd_i, bnd_x, c15, c15_, e16, c15__, c15___, e20, c15____, e21]; done) | simp_all [decL, dcu, wpl_c, wpl_n, bnd_i, bnd_x]) hR21)
            have F21 := Fr3.trans F20 f21
            refine ep_iload_n (j := 2) d_P_putDecimal_31 rfl rfl ?_
            refine ep_bipush (v := 10) d_P_putDecimal_32 (by decide) ?_
            refine ep_idiv d_P_putDecimal_34 (by decide) ?_
            refine ep_cg (y := 0) (by decide) ?_
            refine ep_istore_n (lv' := [(0, .ref 8), (1, .int n), (2, .int 0)]) [1, 2, 0] d_P_putDecimal_35 rfl (by decide) rfl ?_
            refine ep_goto (tgt := 3) d_P_putDecimal_36 (by decide) ?_
            refine ep_iload_n (j := 2) d_P_putDecimal_3 rfl rfl ?_
            refine ep_iconst (v := 1) d_P_putDecimal_4 (by decide) ?_
            refine ep_icmp_lt (tgt := 39) d_P_putDecimal_5 (by decide) (fun _ => ?_) (fun z => absurd (by decide) z)
            exact ep_vret d_P_putDecimal_39 rfl (WP_ok (f := fun _ : WS => none) (q := q21) F21 (by first | (simp [decL, dcu, wpl_c, wpl_n, bnd_i, bnd_x, c15, c15_, e16, c15__, c15___, e20, c15____, e21]; done) | simp_all [decL, dcu, wpl_c, wpl_n, bnd_i, bnd_x]) hR21)
          · refine ep_aload_n (j := 0) d_P_putDecimal_18 rfl rfl ?_
            refine ep_bipush (v := 48) d_P_putDecimal_19 (by decide) ?_
            refine ep_iload_n (j := 1) d_P_putDecimal_21 rfl rfl ?_
            refine ep_iload_n (j := 2) d_P_putDecimal_22 rfl rfl ?_
            refine ep_idiv d_P_putDecimal_23 (by decide) ?_
            refine ep_bipush (v := 10) d_P_putDecimal_24 (by decide) ?_
            refine ep_irem d_P_putDecimal_26 (by decide) ?_
            refine ep_iadd d_P_putDecimal_27 ?_
            refine ep_callVw (As := [.int (48 + ((n / 10) - (n / 10) / 10 * 10))]) (st := []) d_P_putDecimal_28 lk_P_29 cal_P_put tm_P_put ts_P_put rfl rfl rfl (Nat.le_of_ble_eq_true rfl) (Nat.le_of_ble_eq_true rfl) rfl rfl (P_put hR20 (48 + ((n / 10) - (n / 10) / 10 * 10))) (fun q22 cI22 cA22 e22 hR22 f22 => ?_) (fun k cI22 cA22 s22 e22 hR22 f22 => WP_x (Fr3.trans F20 f22) (by first | (simp [decL, dcu, wpl_c, wpl_n, bnd_i, bnd_x, c15, c15_, e16, c15__, c15___, e20, c15____, e22]; done) | simp_all [decL, dcu, wpl_c, wpl_n, bnd_i, bnd_x]) hR22)
            have F22 := Fr3.trans F20 f22
            refine ep_iload_n (j := 2) d_P_putDecimal_31 rfl rfl ?_
            refine ep_bipush (v := 10) d_P_putDecimal_32 (by decide) ?_
            refine ep_idiv d_P_putDecimal_34 (by decide) ?_
            refine ep_cg (y := 1) (by decide) ?_
            refine ep_istore_n (lv' := [(0, .ref 8), (1, .int n), (2, .int 1)]) [1, 2, 0] d_P_putDecimal_35 rfl (by decide) rfl ?_
            refine ep_goto (tgt := 3) d_P_putDecimal_36 (by decide) ?_
            refine ep_iload_n (j := 2) d_P_putDecimal_3 rfl rfl ?_
            refine ep_iconst (v := 1) d_P_putDecimal_4 (by decide) ?_
            refine ep_icmp_lt (tgt := 39) d_P_putDecimal_5 (by decide) (fun z => absurd z (by decide)) (fun _ => ?_)
            refine ep_iload_n (j := 2) d_P_putDecimal_8 rfl rfl ?_
            refine ep_iconst (v := 1) d_P_putDecimal_9 (by decide) ?_
            refine ep_icmp_eq (tgt := 18) d_P_putDecimal_10 (by decide) (fun _ => ?_) (fun z => absurd (by decide) z)
            refine ep_aload_n (j := 0) d_P_putDecimal_18 rfl rfl ?_
            refine ep_bipush (v := 48) d_P_putDecimal_19 (by decide) ?_
            refine ep_iload_n (j := 1) d_P_putDecimal_21 rfl rfl ?_
            refine ep_iload_n (j := 2) d_P_putDecimal_22 rfl rfl ?_
            refine ep_idiv d_P_putDecimal_23 (by decide) ?_
            refine ep_cg (y := n) (by simp) ?_
            refine ep_bipush (v := 10) d_P_putDecimal_24 (by decide) ?_
            refine ep_irem d_P_putDecimal_26 (by decide) ?_
            refine ep_iadd d_P_putDecimal_27 ?_
            refine ep_callVw (As := [.int (48 + (n - n / 10 * 10))]) (st := []) d_P_putDecimal_28 lk_P_29 cal_P_put tm_P_put ts_P_put rfl rfl rfl (Nat.le_of_ble_eq_true rfl) (Nat.le_of_ble_eq_true rfl) rfl rfl (P_put hR22 (48 + (n - n / 10 * 10))) (fun q23 cI23 cA23 e23 hR23 f23 => ?_) (fun k cI23 cA23 s23 e23 hR23 f23 => WP_x (Fr3.trans F22 f23) (by first | (simp [decL, dcu, wpl_c, wpl_n, bnd_i, bnd_x, c15, c15_, e16, c15__, c15___, e20, c15____, e22, e23]; done) | simp_all [decL, dcu, wpl_c, wpl_n, bnd_i, bnd_x]) hR23)
            have F23 := Fr3.trans F22 f23
            refine ep_iload_n (j := 2) d_P_putDecimal_31 rfl rfl ?_
            refine ep_bipush (v := 10) d_P_putDecimal_32 (by decide) ?_
            refine ep_idiv d_P_putDecimal_34 (by decide) ?_
            refine ep_cg (y := 0) (by decide) ?_
            refine ep_istore_n (lv' := [(0, .ref 8), (1, .int n), (2, .int 0)]) [1, 2, 0] d_P_putDecimal_35 rfl (by decide) rfl ?_
            refine ep_goto (tgt := 3) d_P_putDecimal_36 (by decide) ?_
            refine ep_iload_n (j := 2) d_P_putDecimal_3 rfl rfl ?_
            refine ep_iconst (v := 1) d_P_putDecimal_4 (by decide) ?_
            refine ep_icmp_lt (tgt := 39) d_P_putDecimal_5 (by decide) (fun _ => ?_) (fun z => absurd (by decide) z)
            exact ep_vret d_P_putDecimal_39 rfl (WP_ok (f := fun _ : WS => none) (q := q23) F23 (by first | (simp [decL, dcu, wpl_c, wpl_n, bnd_i, bnd_x, c15, c15_, e16, c15__, c15___, e20, c15____, e22, e23]; done) | simp_all [decL, dcu, wpl_c, wpl_n, bnd_i, bnd_x]) hR23)
      · refine ep_aload_n (j := 0) d_P_putDecimal_18 rfl rfl ?_
        refine ep_bipush (v := 48) d_P_putDecimal_19 (by decide) ?_
        refine ep_iload_n (j := 1) d_P_putDecimal_21 rfl rfl ?_
        refine ep_iload_n (j := 2) d_P_putDecimal_22 rfl rfl ?_
        refine ep_idiv d_P_putDecimal_23 (by decide) ?_
        refine ep_bipush (v := 10) d_P_putDecimal_24 (by decide) ?_
        refine ep_irem d_P_putDecimal_26 (by decide) ?_
        refine ep_iadd d_P_putDecimal_27 ?_
        refine ep_callVw (As := [.int (48 + ((n / 1000) - (n / 1000) / 10 * 10))]) (st := []) d_P_putDecimal_28 lk_P_29 cal_P_put tm_P_put ts_P_put rfl rfl rfl (Nat.le_of_ble_eq_true rfl) (Nat.le_of_ble_eq_true rfl) rfl rfl (P_put hR16 (48 + ((n / 1000) - (n / 1000) / 10 * 10))) (fun q24 cI24 cA24 e24 hR24 f24 => ?_) (fun k cI24 cA24 s24 e24 hR24 f24 => WP_x (Fr3.trans F16 f24) (by first | (simp [decL, dcu, wpl_c, wpl_n, bnd_i, bnd_x, c15, c15_, e16, c15__, e24]; done) | simp_all [decL, dcu, wpl_c, wpl_n, bnd_i, bnd_x]) hR24)
        have F24 := Fr3.trans F16 f24
        refine ep_iload_n (j := 2) d_P_putDecimal_31 rfl rfl ?_
        refine ep_bipush (v := 10) d_P_putDecimal_32 (by decide) ?_
        refine ep_idiv d_P_putDecimal_34 (by decide) ?_
        refine ep_cg (y := 100) (by decide) ?_
        refine ep_istore_n (lv' := [(0, .ref 8), (1, .int n), (2, .int 100)]) [1, 2, 0] d_P_putDecimal_35 rfl (by decide) rfl ?_
        refine ep_goto (tgt := 3) d_P_putDecimal_36 (by decide) ?_
        refine ep_iload_n (j := 2) d_P_putDecimal_3 rfl rfl ?_
        refine ep_iconst (v := 1) d_P_putDecimal_4 (by decide) ?_
        refine ep_icmp_lt (tgt := 39) d_P_putDecimal_5 (by decide) (fun z => absurd z (by decide)) (fun _ => ?_)
        refine ep_iload_n (j := 2) d_P_putDecimal_8 rfl rfl ?_
        refine ep_iconst (v := 1) d_P_putDecimal_9 (by decide) ?_
        refine ep_icmp_eq (tgt := 18) d_P_putDecimal_10 (by decide) (fun z => absurd z (by decide)) (fun _ => ?_)
        refine ep_iload_n (j := 1) d_P_putDecimal_13 rfl rfl ?_
        refine ep_iload_n (j := 2) d_P_putDecimal_14 rfl rfl ?_
        refine ep_icmp_lt (tgt := 31) d_P_putDecimal_15 (by decide) (fun c15___ => ?_) (fun c15___ => ?_)
        · refine ep_iload_n (j := 2) d_P_putDecimal_31 rfl rfl ?_
          refine ep_bipush (v := 10) d_P_putDecimal_32 (by decide) ?_
          refine ep_idiv d_P_putDecimal_34 (by decide) ?_
          refine ep_cg (y := 10) (by decide) ?_
          refine ep_istore_n (lv' := [(0, .ref 8), (1, .int n), (2, .int 10)]) [1, 2, 0] d_P_putDecimal_35 rfl (by decide) rfl ?_
          refine ep_goto (tgt := 3) d_P_putDecimal_36 (by decide) ?_
          refine ep_iload_n (j := 2) d_P_putDecimal_3 rfl rfl ?_
          refine ep_iconst (v := 1) d_P_putDecimal_4 (by decide) ?_
          refine ep_icmp_lt (tgt := 39) d_P_putDecimal_5 (by decide) (fun z => absurd z (by decide)) (fun _ => ?_)
          refine ep_iload_n (j := 2) d_P_putDecimal_8 rfl rfl ?_
          refine ep_iconst (v := 1) d_P_putDecimal_9 (by decide) ?_
          refine ep_icmp_eq (tgt := 18) d_P_putDecimal_10 (by decide) (fun z => absurd z (by decide)) (fun _ => ?_)
          refine ep_iload_n (j := 1) d_P_putDecimal_13 rfl rfl ?_
          refine ep_iload_n (j := 2) d_P_putDecimal_14 rfl rfl ?_
          refine ep_icmp_lt (tgt := 31) d_P_putDecimal_15 (by decide) (fun c15____ => ?_) (fun c15____ => ?_)
          · refine ep_iload_n (j := 2) d_P_putDecimal_31 rfl rfl ?_
            refine ep_bipush (v := 10) d_P_putDecimal_32 (by decide) ?_
            refine ep_idiv d_P_putDecimal_34 (by decide) ?_
            refine ep_cg (y := 1) (by decide) ?_
            refine ep_istore_n (lv' := [(0, .ref 8), (1, .int n), (2, .int 1)]) [1, 2, 0] d_P_putDecimal_35 rfl (by decide) rfl ?_
            refine ep_goto (tgt := 3) d_P_putDecimal_36 (by decide) ?_
            refine ep_iload_n (j := 2) d_P_putDecimal_3 rfl rfl ?_
            refine ep_iconst (v := 1) d_P_putDecimal_4 (by decide) ?_
            refine ep_icmp_lt (tgt := 39) d_P_putDecimal_5 (by decide) (fun z => absurd z (by decide)) (fun _ => ?_)
            refine ep_iload_n (j := 2) d_P_putDecimal_8 rfl rfl ?_
            refine ep_iconst (v := 1) d_P_putDecimal_9 (by decide) ?_
            refine ep_icmp_eq (tgt := 18) d_P_putDecimal_10 (by decide) (fun _ => ?_) (fun z => absurd (by decide) z)
            refine ep_aload_n (j := 0) d_P_putDecimal_18 rfl rfl ?_
            refine ep_bipush (v := 48) d_P_putDecimal_19 (by decide) ?_
            refine ep_iload_n (j := 1) d_P_putDecimal_21 rfl rfl ?_
            refine ep_iload_n (j := 2) d_P_putDecimal_22 rfl rfl ?_
            refine ep_idiv d_P_putDecimal_23 (by decide) ?_
            refine ep_cg (y := n) (by simp) ?_
            refine ep_bipush (v := 10) d_P_putDecimal_24 (by decide) ?_
            refine ep_irem d_P_putDecimal_26 (by decide) ?_
            refine ep_iadd d_P_putDecimal_27 ?_
            refine ep_callVw (As := [.int (48 + (n - n / 10 * 10))]) (st := []) d_P_putDecimal_28 lk_P_29 cal_P_put tm_P_put ts_P_put rfl rfl rfl (Nat.le_of_ble_eq_true rfl) (Nat.le_of_ble_eq_true rfl) rfl rfl (P_put hR24 (48 + (n - n / 10 * 10))) (fun q25 cI25 cA25 e25 hR25 f25 => ?_) (fun k cI25 cA25 s25 e25 hR25 f25 => WP_x (Fr3.trans F24 f25) (by first | (simp [decL, dcu, wpl_c, wpl_n, bnd_i, bnd_x, c15, c15_, e16, c15__, e24, c15___, c15____, e25]; done) | simp_all [decL, dcu, wpl_c, wpl_n, bnd_i, bnd_x]) hR25)
            have F25 := Fr3.trans F24 f25
            refine ep_iload_n (j := 2) d_P_putDecimal_31 rfl rfl ?_
            refine ep_bipush (v := 10) d_P_putDecimal_32 (by decide) ?_
            refine ep_idiv d_P_putDecimal_34 (by decide) ?_
            refine ep_cg (y := 0) (by decide) ?_
            refine ep_istore_n (lv' := [(0, .ref 8), (1, .int n), (2, .int 0)]) [1, 2, 0] d_P_putDecimal_35 rfl (by decide) rfl ?_
            refine ep_goto (tgt := 3) d_P_putDecimal_36 (by decide) ?_
            refine ep_iload_n (j := 2) d_P_putDecimal_3 rfl rfl ?_
            refine ep_iconst (v := 1) d_P_putDecimal_4 (by decide) ?_
            refine ep_icmp_lt (tgt := 39) d_P_putDecimal_5 (by decide) (fun _ => ?_) (fun z => absurd (by decide) z)
            exact ep_vret d_P_putDecimal_39 rfl (WP_ok (f := fun _ : WS => none) (q := q25) F25 (by first | (simp [decL, dcu, wpl_c, wpl_n, bnd_i, bnd_x, c15, c15_, e16, c15__, e24, c15___, c15____, e25]; done) | simp_all [decL, dcu, wpl_c, wpl_n, bnd_i, bnd_x]) hR25)
          · refine ep_aload_n (j := 0) d_P_putDecimal_18 rfl rfl ?_
            refine ep_bipush (v := 48) d_P_putDecimal_19 (by decide) ?_
            refine ep_iload_n (j := 1) d_P_putDecimal_21 rfl rfl ?_
            refine ep_iload_n (j := 2) d_P_putDecimal_22 rfl rfl ?_
            refine ep_idiv d_P_putDecimal_23 (by decide) ?_
            refine ep_bipush (v := 10) d_P_putDecimal_24 (by decide) ?_
            refine ep_irem d_P_putDecimal_26 (by decide) ?_
            refine ep_iadd d_P_putDecimal_27 ?_
            refine ep_callVw (As := [.int (48 + ((n / 10) - (n / 10) / 10 * 10))]) (st := []) d_P_putDecimal_28 lk_P_29 cal_P_put tm_P_put ts_P_put rfl rfl rfl (Nat.le_of_ble_eq_true rfl) (Nat.le_of_ble_eq_true rfl) rfl rfl (P_put hR24 (48 + ((n / 10) - (n / 10) / 10 * 10))) (fun q26 cI26 cA26 e26 hR26 f26 => ?_) (fun k cI26 cA26 s26 e26 hR26 f26 => WP_x (Fr3.trans F24 f26) (by first | (simp [decL, dcu, wpl_c, wpl_n, bnd_i, bnd_x, c15, c15_, e16, c15__, e24, c15___, c15____, e26]; done) | simp_all [decL, dcu, wpl_c, wpl_n, bnd_i, bnd_x]) hR26)
            have F26 := Fr3.trans F24 f26
            refine ep_iload_n (j := 2) d_P_putDecimal_31 rfl rfl ?_
            refine ep_bipush (v := 10) d_P_putDecimal_32 (by decide) ?_
            refine ep_idiv d_P_putDecimal_34 (by decide) ?_
            refine ep_cg (y := 1) (by decide) ?_
            refine ep_istore_n (lv' := [(0, .ref 8), (1, .int n), (2, .int 1)]) [1, 2, 0] d_P_putDecimal_35 rfl (by decide) rfl ?_
            refine ep_goto (tgt := 3) d_P_putDecimal_36 (by decide) ?_
            refine ep_iload_n (j := 2) d_P_putDecimal_3 rfl rfl ?_
            refine ep_iconst (v := 1) d_P_putDecimal_4 (by decide) ?_
            refine ep_icmp_lt (tgt := 39) d_P_putDecimal_5 (by decide) (fun z => absurd z (by decide)) (fun _ => ?_)
            refine ep_iload_n (j := 2) d_P_putDecimal_8 rfl rfl ?_
            refine ep_iconst (v := 1) d_P_putDecimal_9 (by decide) ?_
            refine ep_icmp_eq (tgt := 18) d_P_putDecimal_10 (by decide) (fun _ => ?_) (fun z => absurd (by decide) z)
            refine ep_aload_n (j := 0) d_P_putDecimal_18 rfl rfl ?_
            refine ep_bipush (v := 48) d_P_putDecimal_19 (by decide) ?_
            refine ep_iload_n (j := 1) d_P_putDecimal_21 rfl rfl ?_
            refine ep_iload_n (j := 2) d_P_putDecimal_22 rfl rfl ?_
            refine ep_idiv d_P_putDecimal_23 (by decide) ?_
            refine ep_cg (y := n) (by simp) ?_
            refine ep_bipush (v := 10) d_P_putDecimal_24 (by decide) ?_
            refine ep_irem d_P_putDecimal_26 (by decide) ?_
            refine ep_iadd d_P_putDecimal_27 ?_
            refine ep_callVw (As := [.int (48 + (n - n / 10 * 10))]) (st := []) d_P_putDecimal_28 lk_P_29 cal_P_put tm_P_put ts_P_put rfl rfl rfl (Nat.le_of_ble_eq_true rfl) (Nat.le_of_ble_eq_true rfl) rfl rfl (P_put hR26 (48 + (n - n / 10 * 10))) (fun q27 cI27 cA27 e27 hR27 f27 => ?_) (fun k cI27 cA27 s27 e27 hR27 f27 => WP_x (Fr3.trans F26 f27) (by first | (simp [decL, dcu, wpl_c, wpl_n, bnd_i, bnd_x, c15, c15_, e16, c15__, e24, c15___, c15____, e26, e27]; done) | simp_all [decL, dcu, wpl_c, wpl_n, bnd_i, bnd_x]) hR27)
            have F27 := Fr3.trans F26 f27
            refine ep_iload_n (j := 2) d_P_putDecimal_31 rfl rfl ?_
            refine ep_bipush (v := 10) d_P_putDecimal_32 (by decide) ?_
            refine ep_idiv d_P_putDecimal_34 (by decide) ?_
            refine ep_cg (y := 0) (by decide) ?_
            refine ep_istore_n (lv' := [(0, .ref 8), (1, .int n), (2, .int 0)]) [1, 2, 0] d_P_putDecimal_35 rfl (by decide) rfl ?_
            refine ep_goto (tgt := 3) d_P_putDecimal_36 (by decide) ?_
            refine ep_iload_n (j := 2) d_P_putDecimal_3 rfl rfl ?_
            refine ep_iconst (v := 1) d_P_putDecimal_4 (by decide) ?_
            refine ep_icmp_lt (tgt := 39) d_P_putDecimal_5 (by decide) (fun _ => ?_) (fun z => absurd (by decide) z)
            exact ep_vret d_P_putDecimal_39 rfl (WP_ok (f := fun _ : WS => none) (q := q27) F27 (by first | (simp [decL, dcu, wpl_c, wpl_n, bnd_i, bnd_x, c15, c15_, e16, c15__, e24, c15___, c15____, e26, e27]; done) | simp_all [decL, dcu, wpl_c, wpl_n, bnd_i, bnd_x]) hR27)
        · refine ep_aload_n (j := 0) d_P_putDecimal_18 rfl rfl ?_
          refine ep_bipush (v := 48) d_P_putDecimal_19 (by decide) ?_
          refine ep_iload_n (j := 1) d_P_putDecimal_21 rfl rfl ?_
          refine ep_iload_n (j := 2) d_P_putDecimal_22 rfl rfl ?_
          refine ep_idiv d_P_putDecimal_23 (by decide) ?_
          refine ep_bipush (v := 10) d_P_putDecimal_24 (by decide) ?_
          refine ep_irem d_P_putDecimal_26 (by decide) ?_
          refine ep_iadd d_P_putDecimal_27 ?_
          refine ep_callVw (As := [.int (48 + ((n / 100) - (n / 100) / 10 * 10))]) (st := []) d_P_putDecimal_28 lk_P_29 cal_P_put tm_P_put ts_P_put rfl rfl rfl (Nat.le_of_ble_eq_true rfl) (Nat.le_of_ble_eq_true rfl) rfl rfl (P_put hR24 (48 + ((n / 100) - (n / 100) / 10 * 10))) (fun q28 cI28 cA28 e28 hR28 f28 => ?_) (fun k cI28 cA28 s28 e28 hR28 f28 => WP_x (Fr3.trans F24 f28) (by first | (simp [decL, dcu, wpl_c, wpl_n, bnd_i, bnd_x, c15, c15_, e16, c15__, e24, c15___, e28]; done) | simp_all [decL, dcu, wpl_c, wpl_n, bnd_i, bnd_x]) hR28)
          have F28 := Fr3.trans F24 f28
          refine ep_iload_n (j := 2) d_P_putDecimal_31 rfl rfl ?_
          refine ep_bipush (v := 10) d_P_putDecimal_32 (by decide) ?_
          refine ep_idiv d_P_putDecimal_34 (by decide) ?_
          refine ep_cg (y := 10) (by decide) ?_
          refine ep_istore_n (lv' := [(0, .ref 8), (1, .int n), (2, .int 10)]) [1, 2, 0] d_P_putDecimal_35 rfl (by decide) rfl ?_
          refine ep_goto (tgt := 3) d_P_putDecimal_36 (by decide) ?_
          refine ep_iload_n (j := 2) d_P_putDecimal_3 rfl rfl ?_
          refine ep_iconst (v := 1) d_P_putDecimal_4 (by decide) ?_
          refine ep_icmp_lt (tgt := 39) d_P_putDecimal_5 (by decide) (fun z => absurd z (by decide)) (fun _ => ?_)
          refine ep_iload_n (j := 2) d_P_putDecimal_8 rfl rfl ?_
          refine ep_iconst (v := 1) d_P_putDecimal_9 (by decide) ?_
          refine ep_icmp_eq (tgt := 18) d_P_putDecimal_10 (by decide) (fun z => absurd z (by decide)) (fun _ => ?_)
          refine ep_iload_n (j := 1) d_P_putDecimal_13 rfl rfl ?_
          refine ep_iload_n (j := 2) d_P_putDecimal_14 rfl rfl ?_
          refine ep_icmp_lt (tgt := 31) d_P_putDecimal_15 (by decide) (fun c15____ => ?_) (fun c15____ => ?_)
          · refine ep_iload_n (j := 2) d_P_putDecimal_31 rfl rfl ?_
            refine ep_bipush (v := 10) d_P_putDecimal_32 (by decide) ?_
            refine ep_idiv d_P_putDecimal_34 (by decide) ?_
            refine ep_cg (y := 1) (by decide) ?_
            refine ep_istore_n (lv' := [(0, .ref 8), (1, .int n), (2, .int 1)]) [1, 2, 0] d_P_putDecimal_35 rfl (by decide) rfl ?_
            refine ep_goto (tgt := 3) d_P_putDecimal_36 (by decide) ?_
            refine ep_iload_n (j := 2) d_P_putDecimal_3 rfl rfl ?_
            refine ep_iconst (v := 1) d_P_putDecimal_4 (by decide) ?_
            refine ep_icmp_lt (tgt := 39) d_P_putDecimal_5 (by decide) (fun z => absurd z (by decide)) (fun _ => ?_)
            refine ep_iload_n (j := 2) d_P_putDecimal_8 rfl rfl ?_
            refine ep_iconst (v := 1) d_P_putDecimal_9 (by decide) ?_
            refine ep_icmp_eq (tgt := 18) d_P_putDecimal_10 (by decide) (fun _ => ?_) (fun z => absurd (by decide) z)
            refine ep_aload_n (j := 0) d_P_putDecimal_18 rfl rfl ?_
            refine ep_bipush (v := 48) d_P_putDecimal_19 (by decide) ?_
            refine ep_iload_n (j := 1) d_P_putDecimal_21 rfl rfl ?_
            refine ep_iload_n (j := 2) d_P_putDecimal_22 rfl rfl ?_
            refine ep_idiv d_P_putDecimal_23 (by decide) ?_
            refine ep_cg (y := n) (by simp) ?_
            refine ep_bipush (v := 10) d_P_putDecimal_24 (by decide) ?_
            refine ep_irem d_P_putDecimal_26 (by decide) ?_
            refine ep_iadd d_P_putDecimal_27 ?_
            refine ep_callVw (As := [.int (48 + (n - n / 10 * 10))]) (st := []) d_P_putDecimal_28 lk_P_29 cal_P_put tm_P_put ts_P_put rfl rfl rfl (Nat.le_of_ble_eq_true rfl) (Nat.le_of_ble_eq_true rfl) rfl rfl (P_put hR28 (48 + (n - n / 10 * 10))) (fun q29 cI29 cA29 e29 hR29 f29 => ?_) (fun k cI29 cA29 s29 e29 hR29 f29 => WP_x (Fr3.trans F28 f29) (by first | (simp [decL, dcu, wpl_c, wpl_n, bnd_i, bnd_x, c15, c15_, e16, c15__, e24, c15___, e28, c15____, e29]; done) | simp_all [decL, dcu, wpl_c, wpl_n, bnd_i, bnd_x]) hR29)
            have F29 := Fr3.trans F28 f29
            refine ep_iload_n (j := 2) d_P_putDecimal_31 rfl rfl ?_
            refine ep_bipush (v := 10) d_P_putDecimal_32 (by decide) ?_
            refine ep_idiv d_P_putDecimal_34 (by decide) ?_
            refine ep_cg (y := 0) (by decide) ?_
            refine ep_istore_n (lv' := [(0, .ref 8), (1, .int n), (2, .int 0)]) [1, 2, 0] d_P_putDecimal_35 rfl (by decide) rfl ?_
            refine ep_goto (tgt := 3) d_P_putDecimal_36 (by decide) ?_
            refine ep_iload_n (j := 2) d_P_putDecimal_3 rfl rfl ?_
            refine ep_iconst (v := 1) d_P_putDecimal_4 (by decide) ?_
            refine ep_icmp_lt (tgt := 39) d_P_putDecimal_5 (by decide) (fun _ => ?_) (fun z => absurd (by decide) z)
            exact ep_vret d_P_putDecimal_39 rfl (WP_ok (f := fun _ : WS => none) (q := q29) F29 (by first | (simp [decL, dcu, wpl_c, wpl_n, bnd_i, bnd_x, c15, c15_, e16, c15__, e24, c15___, e28, c15____, e29]; done) | simp_all [decL, dcu, wpl_c, wpl_n, bnd_i, bnd_x]) hR29)
          · refine ep_aload_n (j := 0) d_P_putDecimal_18 rfl rfl ?_
            refine ep_bipush (v := 48) d_P_putDecimal_19 (by decide) ?_
            refine ep_iload_n (j := 1) d_P_putDecimal_21 rfl rfl ?_
            refine ep_iload_n (j := 2) d_P_putDecimal_22 rfl rfl ?_
            refine ep_idiv d_P_putDecimal_23 (by decide) ?_
            refine ep_bipush (v := 10) d_P_putDecimal_24 (by decide) ?_
            refine ep_irem d_P_putDecimal_26 (by decide) ?_
            refine ep_iadd d_P_putDecimal_27 ?_
            refine ep_callVw (As := [.int (48 + ((n / 10) - (n / 10) / 10 * 10))]) (st := []) d_P_putDecimal_28 lk_P_29 cal_P_put tm_P_put ts_P_put rfl rfl rfl (Nat.le_of_ble_eq_true rfl) (Nat.le_of_ble_eq_true rfl) rfl rfl (P_put hR28 (48 + ((n / 10) - (n / 10) / 10 * 10))) (fun q30 cI30 cA30 e30 hR30 f30 => ?_) (fun k cI30 cA30 s30 e30 hR30 f30 => WP_x (Fr3.trans F28 f30) (by first | (simp [decL, dcu, wpl_c, wpl_n, bnd_i, bnd_x, c15, c15_, e16, c15__, e24, c15___, e28, c15____, e30]; done) | simp_all [decL, dcu, wpl_c, wpl_n, bnd_i, bnd_x]) hR30)
            have F30 := Fr3.trans F28 f30
            refine ep_iload_n (j := 2) d_P_putDecimal_31 rfl rfl ?_
            refine ep_bipush (v := 10) d_P_putDecimal_32 (by decide) ?_
            refine ep_idiv d_P_putDecimal_34 (by decide) ?_
            refine ep_cg (y := 1) (by decide) ?_
            refine ep_istore_n (lv' := [(0, .ref 8), (1, .int n), (2, .int 1)]) [1, 2, 0] d_P_putDecimal_35 rfl (by decide) rfl ?_
            refine ep_goto (tgt := 3) d_P_putDecimal_36 (by decide) ?_
            refine ep_iload_n (j := 2) d_P_putDecimal_3 rfl rfl ?_
            refine ep_iconst (v := 1) d_P_putDecimal_4 (by decide) ?_
            refine ep_icmp_lt (tgt := 39) d_P_putDecimal_5 (by decide) (fun z => absurd z (by decide)) (fun _ => ?_)
            refine ep_iload_n (j := 2) d_P_putDecimal_8 rfl rfl ?_
            refine ep_iconst (v := 1) d_P_putDecimal_9 (by decide) ?_
            refine ep_icmp_eq (tgt := 18) d_P_putDecimal_10 (by decide) (fun _ => ?_) (fun z => absurd (by decide) z)
            refine ep_aload_n (j := 0) d_P_putDecimal_18 rfl rfl ?_
            refine ep_bipush (v := 48) d_P_putDecimal_19 (by decide) ?_
            refine ep_iload_n (j := 1) d_P_putDecimal_21 rfl rfl ?_
            refine ep_iload_n (j := 2) d_P_putDecimal_22 rfl rfl ?_
            refine ep_idiv d_P_putDecimal_23 (by decide) ?_
            refine ep_cg (y := n) (by simp) ?_
            refine ep_bipush (v := 10) d_P_putDecimal_24 (by decide) ?_
            refine ep_irem d_P_putDecimal_26 (by decide) ?_
            refine ep_iadd d_P_putDecimal_27 ?_
            refine ep_callVw (As := [.int (48 + (n - n / 10 * 10))]) (st := []) d_P_putDecimal_28 lk_P_29 cal_P_put tm_P_put ts_P_put rfl rfl rfl (Nat.le_of_ble_eq_true rfl) (Nat.le_of_ble_eq_true rfl) rfl rfl (P_put hR30 (48 + (n - n / 10 * 10))) (fun q31 cI31 cA31 e31 hR31 f31 => ?_) (fun k cI31 cA31 s31 e31 hR31 f31 => WP_x (Fr3.trans F30 f31) (by first | (simp [decL, dcu, wpl_c, wpl_n, bnd_i, bnd_x, c15, c15_, e16, c15__, e24, c15___, e28, c15____, e30, e31]; done) | simp_all [decL, dcu, wpl_c, wpl_n, bnd_i, bnd_x]) hR31)
            have F31 := Fr3.trans F30 f31
            refine ep_iload_n (j := 2) d_P_putDecimal_31 rfl rfl ?_
            refine ep_bipush (v := 10) d_P_putDecimal_32 (by decide) ?_
            refine ep_idiv d_P_putDecimal_34 (by decide) ?_
            refine ep_cg (y := 0) (by decide) ?_
            refine ep_istore_n (lv' := [(0, .ref 8), (1, .int n), (2, .int 0)]) [1, 2, 0] d_P_putDecimal_35 rfl (by decide) rfl ?_
            refine ep_goto (tgt := 3) d_P_putDecimal_36 (by decide) ?_
            refine ep_iload_n (j := 2) d_P_putDecimal_3 rfl rfl ?_
            refine ep_iconst (v := 1) d_P_putDecimal_4 (by decide) ?_
            refine ep_icmp_lt (tgt := 39) d_P_putDecimal_5 (by decide) (fun _ => ?_) (fun z => absurd (by decide) z)
            exact ep_vret d_P_putDecimal_39 rfl (WP_ok (f := fun _ : WS => none) (q := q31) F31 (by first | (simp [decL, dcu, wpl_c, wpl_n, bnd_i, bnd_x, c15, c15_, e16, c15__, e24, c15___, e28, c15____, e30, e31]; done) | simp_all [decL, dcu, wpl_c, wpl_n, bnd_i, bnd_x]) hR31)
  · refine ep_aload_n (j := 0) d_P_putDecimal_18 rfl rfl ?_
    refine ep_bipush (v := 48) d_P_putDecimal_19 (by decide) ?_
    refine ep_iload_n (j := 1) d_P_putDecimal_21 rfl rfl ?_
    refine ep_iload_n (j := 2) d_P_putDecimal_22 rfl rfl ?_
    refine ep_idiv d_P_putDecimal_23 (by decide) ?_
    refine ep_bipush (v := 10) d_P_putDecimal_24 (by decide) ?_
    refine ep_irem d_P_putDecimal_26 (by decide) ?_
    refine ep_iadd d_P_putDecimal_27 ?_
    refine ep_callVw (As := [.int (48 + ((n / 100000) - (n / 100000) / 10 * 10))]) (st := []) d_P_putDecimal_28 lk_P_29 cal_P_put tm_P_put ts_P_put rfl rfl rfl (Nat.le_of_ble_eq_true rfl) (Nat.le_of_ble_eq_true rfl) rfl rfl (P_put hR (48 + ((n / 100000) - (n / 100000) / 10 * 10))) (fun q32 cI32 cA32 e32 hR32 f32 => ?_) (fun k cI32 cA32 s32 e32 hR32 f32 => WP_x (Fr3.trans Fr3.rfl' f32) (by first | (simp [decL, dcu, wpl_c, wpl_n, bnd_i, bnd_x, c15, e32]; done) | simp_all [decL, dcu, wpl_c, wpl_n, bnd_i, bnd_x]) hR32)
    have F32 := Fr3.trans Fr3.rfl' f32
    refine ep_iload_n (j := 2) d_P_putDecimal_31 rfl rfl ?_
    refine ep_bipush (v := 10) d_P_putDecimal_32 (by decide) ?_
    refine ep_idiv d_P_putDecimal_34 (by decide) ?_
    refine ep_cg (y := 10000) (by decide) ?_
    refine ep_istore_n (lv' := [(0, .ref 8), (1, .int n), (2, .int 10000)]) [1, 2, 0] d_P_putDecimal_35 rfl (by decide) rfl ?_
    refine ep_goto (tgt := 3) d_P_putDecimal_36 (by decide) ?_
    refine ep_iload_n (j := 2) d_P_putDecimal_3 rfl rfl ?_
    refine ep_iconst (v := 1) d_P_putDecimal_4 (by decide) ?_
    refine ep_icmp_lt (tgt := 39) d_P_putDecimal_5 (by decide) (fun z => absurd z (by decide)) (fun _ => ?_)
    refine ep_iload_n (j := 2) d_P_putDecimal_8 rfl rfl ?_
    refine ep_iconst (v := 1) d_P_putDecimal_9 (by decide) ?_
    refine ep_icmp_eq (tgt := 18) d_P_putDecimal_10 (by decide) (fun z => absurd z (by decide)) (fun _ => ?_)
    refine ep_iload_n (j := 1) d_P_putDecimal_13 rfl rfl ?_
    refine ep_iload_n (j := 2) d_P_putDecimal_14 rfl rfl ?_
    refine ep_icmp_lt (tgt := 31) d_P_putDecimal_15 (by decide) (fun c15_ => ?_) (fun c15_ => ?_)
    · refine ep_iload_n (j := 2) d_P_putDecimal_31 rfl rfl ?_
      refine ep_bipush (v := 10) d_P_putDecimal_32 (by decide) ?_
      refine ep_idiv d_P_putDecimal_34 (by decide) ?_
      refine ep_cg (y := 1000) (by decide) ?_
      refine ep_istore_n (lv' := [(0, .ref 8), (1, .int n), (2, .int 1000)]) [1, 2, 0] d_P_putDecimal_35 rfl (by decide) rfl ?_
      refine ep_goto (tgt := 3) d_P_putDecimal_36 (by decide) ?_
      refine ep_iload_n (j := 2) d_P_putDecimal_3 rfl rfl ?_
      refine ep_iconst (v := 1) d_P_putDecimal_4 (by decide) ?_
      refine ep_icmp_lt (tgt := 39) d_P_putDecimal_5 (by decide) (fun z => absurd z (by decide)) (fun _ => ?_)
      refine ep_iload_n (j := 2) d_P_putDecimal_8 rfl rfl ?_
      refine ep_iconst (v := 1) d_P_putDecimal_9 (by decide) ?_
      refine ep_icmp_eq (tgt := 18) d_P_putDecimal_10 (by decide) (fun z => absurd z (by decide)) (fun _ => ?_)
      refine ep_iload_n (j := 1) d_P_putDecimal_13 rfl rfl ?_
      refine ep_iload_n (j := 2) d_P_putDecimal_14 rfl rfl ?_
      refine ep_icmp_lt (tgt := 31) d_P_putDecimal_15 (by decide) (fun c15__ => ?_) (fun c15__ => ?_)
      · refine ep_iload_n (j := 2) d_P_putDecimal_31 rfl rfl ?_
        refine ep_bipush (v := 10) d_P_putDecimal_32 (by decide) ?_
        refine ep_idiv d_P_putDecimal_34 (by decide) ?_
        refine ep_cg (y := 100) (by decide) ?_
        refine ep_istore_n (lv' := [(0, .ref 8), (1, .int n), (2, .int 100)]) [1, 2, 0] d_P_putDecimal_35 rfl (by decide) rfl ?_
        refine ep_goto (tgt := 3) d_P_putDecimal_36 (by decide) ?_
        refine ep_iload_n (j := 2) d_P_putDecimal_3 rfl rfl ?_
        refine ep_iconst (v := 1) d_P_putDecimal_4 (by decide) ?_
        refine ep_icmp_lt (tgt := 39) d_P_putDecimal_5 (by decide) (fun z => absurd z (by decide)) (fun _ => ?_)
        refine ep_iload_n (j := 2) d_P_putDecimal_8 rfl rfl ?_
        refine ep_iconst (v := 1) d_P_putDecimal_9 (by decide) ?_
        refine ep_icmp_eq (tgt := 18) d_P_putDecimal_10 (by decide) (fun z => absurd z (by decide)) (fun _ => ?_)
        refine ep_iload_n (j := 1) d_P_putDecimal_13 rfl rfl ?_
        refine ep_iload_n (j := 2) d_P_putDecimal_14 rfl rfl ?_
        refine ep_icmp_lt (tgt := 31) d_P_putDecimal_15 (by decide) (fun c15___ => ?_) (fun c15___ => ?_)
        · refine ep_iload_n (j := 2) d_P_putDecimal_31 rfl rfl ?_
          refine ep_bipush (v := 10) d_P_putDecimal_32 (by decide) ?_
          refine ep_idiv d_P_putDecimal_34 (by decide) ?_
          refine ep_cg (y := 10) (by decide) ?_
          refine ep_istore_n (lv' := [(0, .ref 8), (1, .int n), (2, .int 10)]) [1, 2, 0] d_P_putDecimal_35 rfl (by decide) rfl ?_
          refine ep_goto (tgt := 3) d_P_putDecimal_36 (by decide) ?_
          refine ep_iload_n (j := 2) d_P_putDecimal_3 rfl rfl ?_
          refine ep_iconst (v := 1) d_P_putDecimal_4 (by decide) ?_
          refine ep_icmp_lt (tgt := 39) d_P_putDecimal_5 (by decide) (fun z => absurd z (by decide)) (fun _ => ?_)
          refine ep_iload_n (j := 2) d_P_putDecimal_8 rfl rfl ?_
          refine ep_iconst (v := 1) d_P_putDecimal_9 (by decide) ?_
          refine ep_icmp_eq (tgt := 18) d_P_putDecimal_10 (by decide) (fun z => absurd z (by decide)) (fun _ => ?_)
          refine ep_iload_n (j := 1) d_P_putDecimal_13 rfl rfl ?_
          refine ep_iload_n (j := 2) d_P_putDecimal_14 rfl rfl ?_
          refine ep_icmp_lt (tgt := 31) d_P_putDecimal_15 (by decide) (fun c15____ => ?_) (fun c15____ => ?_)
          · refine ep_iload_n (j := 2) d_P_putDecimal_31 rfl rfl ?_
            refine ep_bipush (v := 10) d_P_putDecimal_32 (by decide) ?_
            refine ep_idiv d_P_putDecimal_34 (by decide) ?_
            refine ep_cg (y := 1) (by decide) ?_
            refine ep_istore_n (lv' := [(0, .ref 8), (1, .int n), (2, .int 1)]) [1, 2, 0] d_P_putDecimal_35 rfl (by decide) rfl ?_
            refine ep_goto (tgt := 3) d_P_putDecimal_36 (by decide) ?_
            refine ep_iload_n (j := 2) d_P_putDecimal_3 rfl rfl ?_
            refine ep_iconst (v := 1) d_P_putDecimal_4 (by decide) ?_
            refine ep_icmp_lt (tgt := 39) d_P_putDecimal_5 (by decide) (fun z => absurd z (by decide)) (fun _ => ?_)
            refine ep_iload_n (j := 2) d_P_putDecimal_8 rfl rfl ?_
            refine ep_iconst (v := 1) d_P_putDecimal_9 (by decide) ?_
            refine ep_icmp_eq (tgt := 18) d_P_putDecimal_10 (by decide) (fun _ => ?_) (fun z => absurd (by decide) z)
            refine ep_aload_n (j := 0) d_P_putDecimal_18 rfl rfl ?_
            refine ep_bipush (v := 48) d_P_putDecimal_19 (by decide) ?_
            refine ep_iload_n (j := 1) d_P_putDecimal_21 rfl rfl ?_
            refine ep_iload_n (j := 2) d_P_putDecimal_22 rfl rfl ?_
            refine ep_idiv d_P_putDecimal_23 (by decide) ?_
            refine ep_cg (y := n) (by simp) ?_
            refine ep_bipush (v := 10) d_P_putDecimal_24 (by decide) ?_
            refine ep_irem d_P_putDecimal_26 (by decide) ?_
            refine ep_iadd d_P_putDecimal_27 ?_
            refine ep_callVw (As := [.int (48 + (n - n / 10 * 10))]) (st := []) d_P_putDecimal_28 lk_P_29 cal_P_put tm_P_put ts_P_put rfl rfl rfl (Nat.le_of_ble_eq_true rfl) (Nat.le_of_ble_eq_true rfl) rfl rfl (P_put hR32 (48 + (n - n / 10 * 10))) (fun q33 cI33 cA33 e33 hR33 f33 => ?_) (fun k cI33 cA33 s33 e33 hR33 f33 => WP_x (Fr3.trans F32 f33) (by first | (simp [decL, dcu, wpl_c, wpl_n, bnd_i, bnd_x, c15, e32, c15_, c15__, c15___, c15____, e33]; done) | simp_all [decL, dcu, wpl_c, wpl_n, bnd_i, bnd_x]) hR33)
            have F33 := Fr3.trans F32 f33
            refine ep_iload_n (j := 2) d_P_putDecimal_31 rfl rfl ?_
            refine ep_bipush (v := 10) d_P_putDecimal_32 (by decide) ?_
            refine ep_idiv d_P_putDecimal_34 (by decide) ?_
            refine ep_cg (y := 0) (by decide) ?_
            refine ep_istore_n (lv' := [(0, .ref 8), (1, .int n), (2, .int 0)]) [1, 2, 0] d_P_putDecimal_35 rfl (by decide) rfl ?_
            refine ep_goto (tgt := 3) d_P_putDecimal_36 (by decide) ?_
            refine ep_iload_n (j := 2) d_P_putDecimal_3 rfl rfl ?_
            refine ep_iconst (v := 1) d_P_putDecimal_4 (by decide) ?_
            refine ep_icmp_lt (tgt := 39) d_P_putDecimal_5 (by decide) (fun _ => ?_) (fun z => absurd (by decide) z)
            exact ep_vret d_P_putDecimal_39 rfl (WP_ok (f := fun _ : WS => none) (q := q33) F33 (by first | (simp [decL, dcu, wpl_c, wpl_n, bnd_i, bnd_x, c15, e32, c15_, c15__, c15___, c15____, e33]; done) | simp_all [decL, dcu, wpl_c, wpl_n, bnd_i, bnd_x]) hR33)
          · refine ep_aload_n (j := 0) d_P_putDecimal_18 rfl rfl ?_
            refine ep_bipush (v := 48) d_P_putDecimal_19 (by decide) ?_
            refine ep_iload_n (j := 1) d_P_putDecimal_21 rfl rfl ?_
            refine ep_iload_n (j := 2) d_P_putDecimal_22 rfl rfl ?_
            refine ep_idiv d_P_putDecimal_23 (by decide) ?_
            refine ep_bipush (v := 10) d_P_putDecimal_24 (by decide) ?_
            refine ep_irem d_P_putDecimal_26 (by decide) ?_
            refine ep_iadd d_P_putDecimal_27 ?_
            refine ep_callVw (As := [.int (48 + ((n / 10) - (n / 10) / 10 * 10))]) (st := []) d_P_putDecimal_28 lk_P_29 cal_P_put tm_P_put ts_P_put rfl rfl rfl (Nat.le_of_ble_eq_true rfl) (Nat.le_of_ble_eq_true rfl) rfl rfl (P_put hR32 (48 + ((n / 10) - (n / 10) / 10 * 10))) (fun q34 cI34 cA34 e34 hR34 f34 => ?_) (fun k cI34 cA34 s34 e34 hR34 f34 => WP_x (Fr3.trans F32 f34) (by first | (simp [decL, dcu, wpl_c, wpl_n, bnd_i, bnd_x, c15, e32, c15_, c15__, c15___, c15____, e34]; done) | simp_all [decL, dcu, wpl_c, wpl_n, bnd_i, bnd_x]) hR34)
            have F34 := Fr3.trans F32 f34
            refine ep_iload_n (j := 2) d_P_putDecimal_31 rfl rfl ?_
            refine ep_bipush (v := 10) d_P_putDecimal_32 (by decide) ?_
            refine ep_idiv d_P_putDecimal_34 (by decide) ?_
            refine ep_cg (y := 1) (by decide) ?_
            refine ep_istore_n (lv' := [(0, .ref 8), (1, .int n), (2, .int 1)]) [1, 2, 0] d_P_putDecimal_35 rfl (by decide) rfl ?_
            refine ep_goto (tgt := 3) d_P_putDecimal_36 (by decide) ?_
            refine ep_iload_n (j := 2) d_P_putDecimal_3 rfl rfl ?_
            refine ep_iconst (v := 1) d_P_putDecimal_4 (by decide) ?_
            refine ep_icmp_lt (tgt := 39) d_P_putDecimal_5 (by decide) (fun z => absurd z (by decide)) (fun _ => ?_)
            refine ep_iload_n (j := 2) d_P_putDecimal_8 rfl rfl ?_
            refine ep_iconst (v := 1) d_P_putDecimal_9 (by decide) ?_
            refine ep_icmp_eq (tgt := 18) d_P_putDecimal_10 (by decide) (fun _ => ?_) (fun z => absurd (by decide) z)
            refine ep_aload_n (j := 0) d_P_putDecimal_18 rfl rfl ?_
            refine ep_bipush (v := 48) d_P_putDecimal_19 (by decide) ?_
            refine ep_iload_n (j := 1) d_P_putDecimal_21 rfl rfl ?_
            refine ep_iload_n (j := 2) d_P_putDecimal_22 rfl rfl ?_
            refine ep_idiv d_P_putDecimal_23 (by decide) ?_
            refine ep_cg (y := n) (by simp) ?_
            refine ep_bipush (v := 10) d_P_putDecimal_24 (by decide) ?_
            refine ep_irem d_P_putDecimal_26 (by decide) ?_
            refine ep_iadd d_P_putDecimal_27 ?_
            refine ep_callVw (As := [.int (48 + (n - n / 10 * 10))]) (st := []) d_P_putDecimal_28 lk_P_29 cal_P_put tm_P_put ts_P_put rfl rfl rfl (Nat.le_of_ble_eq_true rfl) (Nat.le_of_ble_eq_true rfl) rfl rfl (P_put hR34 (48 + (n - n / 10 * 10))) (fun q35 cI35 cA35 e35 hR35 f35 => ?_) (fun k cI35 cA35 s35 e35 hR35 f35 => WP_x (Fr3.trans F34 f35) (by first | (simp [decL, dcu, wpl_c, wpl_n, bnd_i, bnd_x, c15, e32, c15_, c15__, c15___, c15____, e34, e35]; done) | simp_all [decL, dcu, wpl_c, wpl_n, bnd_i, bnd_x]) hR35)
            have F35 := Fr3.trans F34 f35
            refine ep_iload_n (j := 2) d_P_putDecimal_31 rfl rfl ?_
            refine ep_bipush (v := 10) d_P_putDecimal_32 (by decide) ?_
            refine ep_idiv d_P_putDecimal_34 (by decide) ?_
            refine ep_cg (y := 0) (by decide) ?_
            refine ep_istore_n (lv' := [(0, .ref 8), (1, .int n), (2, .int 0)]) [1, 2, 0] d_P_putDecimal_35 rfl (by decide) rfl ?_
            refine ep_goto (tgt := 3) d_P_putDecimal_36 (by decide) ?_
            refine ep_iload_n (j := 2) d_P_putDecimal_3 rfl rfl ?_
            refine ep_iconst (v := 1) d_P_putDecimal_4 (by decide) ?_
            refine ep_icmp_lt (tgt := 39) d_P_putDecimal_5 (by decide) (fun _ => ?_) (fun z => absurd (by decide) z)
            exact ep_vret d_P_putDecimal_39 rfl (WP_ok (f := fun _ : WS => none) (q := q35) F35 (by first | (simp [decL, dcu, wpl_c, wpl_n, bnd_i, bnd_x, c15, e32, c15_, c15__, c15___, c15____, e34, e35]; done) | simp_all [decL, dcu, wpl_c, wpl_n, bnd_i, bnd_x]) hR35)
        · refine ep_aload_n (j := 0) d_P_putDecimal_18 rfl rfl ?_
          refine ep_bipush (v := 48) d_P_putDecimal_19 (by decide) ?_
          refine ep_iload_n (j := 1) d_P_putDecimal_21 rfl rfl ?_
          refine ep_iload_n (j := 2) d_P_putDecimal_22 rfl rfl ?_
          refine ep_idiv d_P_putDecimal_23 (by decide) ?_
          refine ep_bipush (v := 10) d_P_putDecimal_24 (by decide) ?_
          refine ep_irem d_P_putDecimal_26 (by decide) ?_
          refine ep_iadd d_P_putDecimal_27 ?_
          refine ep_callVw (As := [.int (48 + ((n / 100) - (n / 100) / 10 * 10))]) (st := []) d_P_putDecimal_28 lk_P_29 cal_P_put tm_P_put ts_P_put rfl rfl rfl (Nat.le_of_ble_eq_true rfl) (Nat.le_of_ble_eq_true rfl) rfl rfl (P_put hR32 (48 + ((n / 100) - (n / 100) / 10 * 10))) (fun q36 cI36 cA36 e36 hR36 f36 => ?_) (fun k cI36 cA36 s36 e36 hR36 f36 => WP_x (Fr3.trans F32 f36) (by first | (simp [decL, dcu, wpl_c, wpl_n, bnd_i, bnd_x, c15, e32, c15_, c15__, c15___, e36]; done) | simp_all [decL, dcu, wpl_c, wpl_n, bnd_i, bnd_x]) hR36)
          have F36 := Fr3.trans F32 f36
          refine ep_iload_n (j := 2) d_P_putDecimal_31 rfl rfl ?_
          refine ep_bipush (v := 10) d_P_putDecimal_32 (by decide) ?_
          refine ep_idiv d_P_putDecimal_34 (by decide) ?_
          refine ep_cg (y := 10) (by decide) ?_
          refine ep_istore_n (lv' := [(0, .ref 8), (1, .int n), (2, .int 10)]) [1, 2, 0] d_P_putDecimal_35 rfl (by decide) rfl ?_
          refine ep_goto (tgt := 3) d_P_putDecimal_36 (by decide) ?_
          refine ep_iload_n (j := 2) d_P_putDecimal_3 rfl rfl ?_
          refine ep_iconst (v := 1) d_P_putDecimal_4 (by decide) ?_
          refine ep_icmp_lt (tgt := 39) d_P_putDecimal_5 (by decide) (fun z => absurd z (by decide)) (fun _ => ?_)
          refine ep_iload_n (j := 2) d_P_putDecimal_8 rfl rfl ?_
          refine ep_iconst (v := 1) d_P_putDecimal_9 (by decide) ?_
          refine ep_icmp_eq (tgt := 18) d_P_putDecimal_10 (by decide) (fun z => absurd z (by decide)) (fun _ => ?_)
          refine ep_iload_n (j := 1) d_P_putDecimal_13 rfl rfl ?_
          refine ep_iload_n (j := 2) d_P_putDecimal_14 rfl rfl ?_
          refine ep_icmp_lt (tgt := 31) d_P_putDecimal_15 (by decide) (fun c15____ => ?_) (fun c15____ => ?_)
          · refine ep_iload_n (j := 2) d_P_putDecimal_31 rfl rfl ?_
            refine ep_bipush (v := 10) d_P_putDecimal_32 (by decide) ?_
            refine ep_idiv d_P_putDecimal_34 (by decide) ?_
            refine ep_cg (y := 1) (by decide) ?_
            refine ep_istore_n (lv' := [(0, .ref 8), (1, .int n), (2, .int 1)]) [1, 2, 0] d_P_putDecimal_35 rfl (by decide) rfl ?_
            refine ep_goto (tgt := 3) d_P_putDecimal_36 (by decide) ?_
            refine ep_iload_n (j := 2) d_P_putDecimal_3 rfl rfl ?_
            refine ep_iconst (v := 1) d_P_putDecimal_4 (by decide) ?_
            refine ep_icmp_lt (tgt := 39) d_P_putDecimal_5 (by decide) (fun z => absurd z (by decide)) (fun _ => ?_)
            refine ep_iload_n (j := 2) d_P_putDecimal_8 rfl rfl ?_
            refine ep_iconst (v := 1) d_P_putDecimal_9 (by decide) ?_
            refine ep_icmp_eq (tgt := 18) d_P_putDecimal_10 (by decide) (fun _ => ?_) (fun z => absurd (by decide) z)
            refine ep_aload_n (j := 0) d_P_putDecimal_18 rfl rfl ?_
            refine ep_bipush (v := 48) d_P_putDecimal_19 (by decide) ?_
            refine ep_iload_n (j := 1) d_P_putDecimal_21 rfl rfl ?_
            refine ep_iload_n (j := 2) d_P_putDecimal_22 rfl rfl ?_
            refine ep_idiv d_P_putDecimal_23 (by decide) ?_
            refine ep_cg (y := n) (by simp) ?_
            refine ep_bipush (v := 10) d_P_putDecimal_24 (by decide) ?_
            refine ep_irem d_P_putDecimal_26 (by decide) ?_
            refine ep_iadd d_P_putDecimal_27 ?_
            refine ep_callVw (As := [.int (48 + (n - n / 10 * 10))]) (st := []) d_P_putDecimal_28 lk_P_29 cal_P_put tm_P_put ts_P_put rfl rfl rfl (Nat.le_of_ble_eq_true rfl) (Nat.le_of_ble_eq_true rfl) rfl rfl (P_put hR36 (48 + (n - n / 10 * 10))) (fun q37 cI37 cA37 e37 hR37 f37 => ?_) (fun k cI37 cA37 s37 e37 hR37 f37 => WP_x (Fr3.trans F36 f37) (by first | (simp [decL, dcu, wpl_c, wpl_n, bnd_i, bnd_x, c15, e32, c15_, c15__, c15___, e36, c15____, e37]; done) | simp_all [decL, dcu, wpl_c, wpl_n, bnd_i, bnd_x]) hR37)
            have F37 := Fr3.trans F36 f37
            refine ep_iload_n (j := 2) d_P_putDecimal_31 rfl rfl ?_
            refine ep_bipush (v := 10) d_P_putDecimal_32 (by decide) ?_
            refine ep_idiv d_P_putDecimal_34 (by decide) ?_
            refine ep_cg (y := 0) (by decide) ?_
            refine ep_istore_n (lv' := [(0, .ref 8), (1, .int n), (2, .int 0)]) [1, 2, 0] d_P_putDecimal_35 rfl (by decide) rfl ?_
            refine ep_goto (tgt := 3) d_P_putDecimal_36 (by decide) ?_
            refine ep_iload_n (j := 2) d_P_putDecimal_3 rfl rfl ?_
            refine ep_iconst (v := 1) d_P_putDecimal_4 (by decide) ?_
            refine ep_icmp_lt (tgt := 39) d_P_putDecimal_5 (by decide) (fun _ => ?_) (fun z => absurd (by decide) z)
            exact ep_vret d_P_putDecimal_39 rfl (WP_ok (f := fun _ : WS => none) (q := q37) F37 (by first | (simp [decL, dcu, wpl_c, wpl_n, bnd_i, bnd_x, c15, e32, c15_, c15__, c15___, e36, c15____, e37]; done) | simp_all [decL, dcu, wpl_c, wpl_n, bnd_i, bnd_x]) hR37)
          · refine ep_aload_n (j := 0) d_P_putDecimal_18 rfl rfl ?_
            refine ep_bipush (v := 48) d_P_putDecimal_19 (by decide) ?_
            refine ep_iload_n (j := 1) d_P_putDecimal_21 rfl rfl ?_
            refine ep_iload_n (j := 2) d_P_putDecimal_22 rfl rfl ?_
            refine ep_idiv d_P_putDecimal_23 (by decide) ?_
            refine ep_bipush (v := 10) d_P_putDecimal_24 (by decide) ?_
            refine ep_irem d_P_putDecimal_26 (by decide) ?_
            refine ep_iadd d_P_putDecimal_27 ?_
            refine ep_callVw (As := [.int (48 + ((n / 10) - (n / 10) / 10 * 10))]) (st := []) d_P_putDecimal_28 lk_P_29 cal_P_put tm_P_put ts_P_put rfl rfl rfl (Nat.le_of_ble_eq_true rfl) (Nat.le_of_ble_eq_true rfl) rfl rfl (P_put hR36 (48 + ((n / 10) - (n / 10) / 10 * 10))) (fun q38 cI38 cA38 e38 hR38 f38 => ?_) (fun k cI38 cA38 s38 e38 hR38 f38 => WP_x (Fr3.trans F36 f38) (by first | (simp [decL, dcu, wpl_c, wpl_n, bnd_i, bnd_x, c15, e32, c15_, c15__, c15___, e36, c15____, e38]; done) | simp_all [decL, dcu, wpl_c, wpl_n, bnd_i, bnd_x]) hR38)
            have F38 := Fr3.trans F36 f38
            refine ep_iload_n (j := 2) d_P_putDecimal_31 rfl rfl ?_
            refine ep_bipush (v := 10) d_P_putDecimal_32 (by decide) ?_
            refine ep_idiv d_P_putDecimal_34 (by decide) ?_
            refine ep_cg (y := 1) (by decide) ?_
            refine ep_istore_n (lv' := [(0, .ref 8), (1, .int n), (2, .int 1)]) [1, 2, 0] d_P_putDecimal_35 rfl (by decide) rfl ?_
            refine ep_goto (tgt := 3) d_P_putDecimal_36 (by decide) ?_
            refine ep_iload_n (j := 2) d_P_putDecimal_3 rfl rfl ?_
            refine ep_iconst (v := 1) d_P_putDecimal_4 (by decide) ?_
            refine ep_icmp_lt (tgt := 39) d_P_putDecimal_5 (by decide) (fun z => absurd z (by decide)) (fun _ => ?_)
            refine ep_iload_n (j := 2) d_P_putDecimal_8 rfl rfl ?_
            refine ep_iconst (v := 1) d_P_putDecimal_9 (by decide) ?_
            refine ep_icmp_eq (tgt := 18) d_P_putDecimal_10 (by decide) (fun _ => ?_) (fun z => absurd (by decide) z)
            refine ep_aload_n (j := 0) d_P_putDecimal_18 rfl rfl ?_
            refine ep_bipush (v := 48) d_P_putDecimal_19 (by decide) ?_
            refine ep_iload_n (j := 1) d_P_putDecimal_21 rfl rfl ?_
            refine ep_iload_n (j := 2) d_P_putDecimal_22 rfl rfl ?_
            refine ep_idiv d_P_putDecimal_23 (by decide) ?_
            refine ep_cg (y := n) (by simp) ?_
            refine ep_bipush (v := 10) d_P_putDecimal_24 (by decide) ?_
            refine ep_irem d_P_putDecimal_26 (by decide) ?_
            refine ep_iadd d_P_putDecimal_27 ?_
            refine ep_callVw (As := [.int (48 + (n - n / 10 * 10))]) (st := []) d_P_putDecimal_28 lk_P_29 cal_P_put tm_P_put ts_P_put rfl rfl rfl (Nat.le_of_ble_eq_true rfl) (Nat.le_of_ble_eq_true rfl) rfl rfl (P_put hR38 (48 + (n - n / 10 * 10))) (fun q39 cI39 cA39 e39 hR39 f39 => ?_) (fun k cI39 cA39 s39 e39 hR39 f39 => WP_x (Fr3.trans F38 f39) (by first | (simp [decL, dcu, wpl_c, wpl_n, bnd_i, bnd_x, c15, e32, c15_, c15__, c15___, e36, c15____, e38, e39]; done) | simp_all [decL, dcu, wpl_c, wpl_n, bnd_i, bnd_x]) hR39)
            have F39 := Fr3.trans F38 f39
            refine ep_iload_n (j := 2) d_P_putDecimal_31 rfl rfl ?_
            refine ep_bipush (v := 10) d_P_putDecimal_32 (by decide) ?_
            refine ep_idiv d_P_putDecimal_34 (by decide) ?_
            refine ep_cg (y := 0) (by decide) ?_
            refine ep_istore_n (lv' := [(0, .ref 8), (1, .int n), (2, .int 0)]) [1, 2, 0] d_P_putDecimal_35 rfl (by decide) rfl ?_
            refine ep_goto (tgt := 3) d_P_putDecimal_36 (by decide) ?_
            refine ep_iload_n (j := 2) d_P_putDecimal_3 rfl rfl ?_
            refine ep_iconst (v := 1) d_P_putDecimal_4 (by decide) ?_
            refine ep_icmp_lt (tgt := 39) d_P_putDecimal_5 (by decide) (fun _ => ?_) (fun z => absurd (by decide) z)
            exact ep_vret d_P_putDecimal_39 rfl (WP_ok (f := fun _ : WS => none) (q := q39) F39 (by first | (simp [decL, dcu, wpl_c, wpl_n, bnd_i, bnd_x, c15, e32, c15_, c15__, c15___, e36, c15____, e38, e39]; done) | simp_all [decL, dcu, wpl_c, wpl_n, bnd_i, bnd_x]) hR39)
      · refine ep_aload_n (j := 0) d_P_putDecimal_18 rfl rfl ?_
        refine ep_bipush (v := 48) d_P_putDecimal_19 (by decide) ?_
        refine ep_iload_n (j := 1) d_P_putDecimal_21 rfl rfl ?_
        refine ep_iload_n (j := 2) d_P_putDecimal_22 rfl rfl ?_
        refine ep_idiv d_P_putDecimal_23 (by decide) ?_
        refine ep_bipush (v := 10) d_P_putDecimal_24 (by decide) ?_
        refine ep_irem d_P_putDecimal_26 (by decide) ?_
        refine ep_iadd d_P_putDecimal_27 ?_
        refine ep_callVw (As := [.int (48 + ((n / 1000) - (n / 1000) / 10 * 10))]) (st := []) d_P_putDecimal_28 lk_P_29 cal_P_put tm_P_put ts_P_put rfl rfl rfl (Nat.le_of_ble_eq_true rfl) (Nat.le_of_ble_eq_true rfl) rfl rfl (P_put hR32 (48 + ((n / 1000) - (n / 1000) / 10 * 10))) (fun q40 cI40 cA40 e40 hR40 f40 => ?_) (fun k cI40 cA40 s40 e40 hR40 f40 => WP_x (Fr3.trans F32 f40) (by first | (simp [decL, dcu, wpl_c, wpl_n, bnd_i, bnd_x, c15, e32, c15_, c15__, e40]; done) | simp_all [decL, dcu, wpl_c, wpl_n, bnd_i, bnd_x]) hR40)
        have F40 := Fr3.trans F32 f40
        refine ep_iload_n (j := 2) d_P_putDecimal_31 rfl rfl ?_
        refine ep_bipush (v := 10) d_P_putDecimal_32 (by decide) ?_
        refine ep_idiv d_P_putDecimal_34 (by decide) ?_
        refine ep_cg (y := 100) (by decide) ?_
        refine ep_istore_n (lv' := [(0, .ref 8), (1, .int n), (2, .int 100)]) [1, 2, 0] d_P_putDecimal_35 rfl (by decide) rfl ?_
        refine ep_goto (tgt := 3) d_P_putDecimal_36 (by decide) ?_
        refine ep_iload_n (j := 2) d_P_putDecimal_3 rfl rfl ?_
        refine ep_iconst (v := 1) d_P_putDecimal_4 (by decide) ?_
        refine ep_icmp_lt (tgt := 39) d_P_putDecimal_5 (by decide) (fun z => absurd z (by decide)) (fun _ => ?_)
        refine ep_iload_n (j := 2) d_P_putDecimal_8 rfl rfl ?_
        refine ep_iconst (v := 1) d_P_putDecimal_9 (by decide) ?_
        refine ep_icmp_eq (tgt := 18) d_P_putDecimal_10 (by decide) (fun z => absurd z (by decide)) (fun _ => ?_)
        refine ep_iload_n (j := 1) d_P_putDecimal_13 rfl rfl ?_
        refine ep_iload_n (j := 2) d_P_putDecimal_14 rfl rfl ?_
        refine ep_icmp_lt (tgt := 31) d_P_putDecimal_15 (by decide) (fun c15___ => ?_) (fun c15___ => ?_)
        · refine ep_iload_n (j := 2) d_P_putDecimal_31 rfl rfl ?_
          refine ep_bipush (v := 10) d_P_putDecimal_32 (by decide) ?_
          refine ep_idiv d_P_putDecimal_34 (by decide) ?_
          refine ep_cg (y := 10) (by decide) ?_
          refine ep_istore_n (lv' := [(0, .ref 8), (1, .int n), (2, .int 10)]) [1, 2, 0] d_P_putDecimal_35 rfl (by decide) rfl ?_
          refine ep_goto (tgt := 3) d_P_putDecimal_36 (by decide) ?_
          refine ep_iload_n (j := 2) d_P_putDecimal_3 rfl rfl ?_
          refine ep_iconst (v := 1) d_P_putDecimal_4 (by decide) ?_
          refine ep_icmp_lt (tgt := 39) d_P_putDecimal_5 (by decide) (fun z => absurd z (by decide)) (fun _ => ?_)
          refine ep_iload_n (j := 2) d_P_putDecimal_8 rfl rfl ?_
          refine ep_iconst (v := 1) d_P_putDecimal_9 (by decide) ?_
          refine ep_icmp_eq (tgt := 18) d_P_putDecimal_10 (by decide) (fun z => absurd z (by decide)) (fun _ => ?_)
          refine ep_iload_n (j := 1) d_P_putDecimal_13 rfl rfl ?_
          refine ep_iload_n (j := 2) d_P_putDecimal_14 rfl rfl ?_
          refine ep_icmp_lt (tgt := 31) d_P_putDecimal_15 (by decide) (fun c15____ => ?_) (fun c15____ => ?_)
          · refine ep_iload_n (j := 2) d_P_putDecimal_31 rfl rfl ?_
            refine ep_bipush (v := 10) d_P_putDecimal_32 (by decide) ?_
            refine ep_idiv d_P_putDecimal_34 (by decide) ?_
            refine ep_cg (y := 1) (by decide) ?_
            refine ep_istore_n (lv' := [(0, .ref 8), (1, .int n), (2, .int 1)]) [1, 2, 0] d_P_putDecimal_35 rfl (by decide) rfl ?_
            refine ep_goto (tgt := 3) d_P_putDecimal_36 (by decide) ?_
            refine ep_iload_n (j := 2) d_P_putDecimal_3 rfl rfl ?_
            refine ep_iconst (v := 1) d_P_putDecimal_4 (by decide) ?_
            refine ep_icmp_lt (tgt := 39) d_P_putDecimal_5 (by decide) (fun z => absurd z (by decide)) (fun _ => ?_)
            refine ep_iload_n (j := 2) d_P_putDecimal_8 rfl rfl ?_
            refine ep_iconst (v := 1) d_P_putDecimal_9 (by decide) ?_
            refine ep_icmp_eq (tgt := 18) d_P_putDecimal_10 (by decide) (fun _ => ?_) (fun z => absurd (by decide) z)
            refine ep_aload_n (j := 0) d_P_putDecimal_18 rfl rfl ?_
            refine ep_bipush (v := 48) d_P_putDecimal_19 (by decide) ?_
            refine ep_iload_n (j := 1) d_P_putDecimal_21 rfl rfl ?_
            refine ep_iload_n (j := 2) d_P_putDecimal_22 rfl rfl ?_
            refine ep_idiv d_P_putDecimal_23 (by decide) ?_
            refine ep_cg (y := n) (by simp) ?_
            refine ep_bipush (v := 10) d_P_putDecimal_24 (by decide) ?_
            refine ep_irem d_P_putDecimal_26 (by decide) ?_
            refine ep_iadd d_P_putDecimal_27 ?_
            refine ep_callVw (As := [.int (48 + (n - n / 10 * 10))]) (st := []) d_P_putDecimal_28 lk_P_29 cal_P_put tm_P_put ts_P_put rfl rfl rfl (Nat.le_of_ble_eq_true rfl) (Nat.le_of_ble_eq_true rfl) rfl rfl (P_put hR40 (48 + (n - n / 10 * 10))) (fun q41 cI41 cA41 e41 hR41 f41 => ?_) (fun k cI41 cA41 s41 e41 hR41 f41 => WP_x (Fr3.trans F40 f41) (by first | (simp [decL, dcu, wpl_c, wpl_n, bnd_i, bnd_x, c15, e32, c15_, c15__, e40, c15___, c15____, e41]; done) | simp_all [decL, dcu, wpl_c, wpl_n, bnd_i, bnd_x]) hR41)
            have F41 := Fr3.trans F40 f41
            refine ep_iload_n (j := 2) d_P_putDecimal_31 rfl rfl ?_
            refine ep_bipush (v := 10) d_P_putDecimal_32 (by decide) ?_
            refine ep_idiv d_P_putDecimal_34 (by decide) ?_
            refine ep_cg (y := 0) (by decide) ?_
            refine ep_istore_n (lv' := [(0, .ref 8), (1, .int n), (2, .int 0)]) [1, 2, 0] d_P_putDecimal_35 rfl (by decide) rfl ?_
            refine ep_goto (tgt := 3) d_P_putDecimal_36 (by decide) ?_
            refine ep_iload_n (j := 2) d_P_putDecimal_3 rfl rfl ?_
            refine ep_iconst (v := 1) d_P_putDecimal_4 (by decide) ?_
            refine ep_icmp_lt (tgt := 39) d_P_putDecimal_5 (by decide) (fun _ => ?_) (fun z => absurd (by decide) z)
            exact ep_vret d_P_putDecimal_39 rfl (WP_ok (f := fun _ : WS => none) (q := q41) F41 (by first | (simp [decL, dcu, wpl_c, wpl_n, bnd_i, bnd_x, c15, e32, c15_, c15__, e40, c15___, c15____, e41]; done) | simp_all [decL, dcu, wpl_c, wpl_n, bnd_i, bnd_x]) hR41)
          · refine ep_aload_n (j := 0) d_P_putDecimal_18 rfl rfl ?_
            refine ep_bipush (v := 48) d_P_putDecimal_19 (by decide) ?_
            refine ep_iload_n (j := 1) d_P_putDecimal_21 rfl rfl ?_
            refine ep_iload_n (j := 2) d_P_putDecimal_22 rfl rfl ?_
            refine ep_idiv d_P_putDecimal_23 (by decide) ?_
            refine ep_bipush (v := 10) d_P_putDecimal_24 (by decide) ?_
            refine ep_irem d_P_putDecimal_26 (by decide) ?_
            refine ep_iadd d_P_putDecimal_27 ?_
            refine ep_callVw (As := [.int (48 + ((n / 10) - (n / 10) / 10 * 10))]) (st := []) d_P_putDecimal_28 lk_P_29 cal_P_put tm_P_put ts_P_put rfl rfl rfl (Nat.le_of_ble_eq_true rfl) (Nat.le_of_ble_eq_true rfl) rfl rfl (P_put hR40 (48 + ((n / 10) - (n / 10) / 10 * 10))) (fun q42 cI42 cA42 e42 hR42 f42 => ?_) (fun k cI42 cA42 s42 e42 hR42 f42 => WP_x (Fr3.trans F40 f42) (by first | (simp [decL, dcu, wpl_c, wpl_n, bnd_i, bnd_x, c15, e32, c15_, c15__, e40, c15___, c15____, e42]; done) | simp_all [decL, dcu, wpl_c, wpl_n, bnd_i, bnd_x]) hR42)
            have F42 := Fr3.trans F40 f42
            refine ep_iload_n (j := 2) d_P_putDecimal_31 rfl rfl ?_
            refine ep_bipush (v := 10) d_P_putDecimal_32 (by decide) ?_
            refine ep_idiv d_P_putDecimal_34 (by decide) ?_
            refine ep_cg (y := 1) (by decide) ?_
            refine ep_istore_n (lv' := [(0, .ref 8), (1, .int n), (2, .int 1)]) [1, 2, 0] d_P_putDecimal_35 rfl (by decide) rfl ?_
            refine ep_goto (tgt := 3) d_P_putDecimal_36 (by decide) ?_
            refine ep_iload_n (j := 2) d_P_putDecimal_3 rfl rfl ?_
            refine ep_iconst (v := 1) d_P_putDecimal_4 (by decide) ?_
            refine ep_icmp_lt (tgt := 39) d_P_putDecimal_5 (by decide) (fun z => absurd z (by decide)) (fun _ => ?_)
            refine ep_iload_n (j := 2) d_P_putDecimal_8 rfl rfl ?_
            refine ep_iconst (v := 1) d_P_putDecimal_9 (by decide) ?_
            refine ep_icmp_eq (tgt := 18) d_P_putDecimal_10 (by decide) (fun _ => ?_) (fun z => absurd (by decide) z)
            refine ep_aload_n (j := 0) d_P_putDecimal_18 rfl rfl ?_
            refine ep_bipush (v := 48) d_P_putDecimal_19 (by decide) ?_
            refine ep_iload_n (j := 1) d_P_putDecimal_21 rfl rfl ?_
            refine ep_iload_n (j := 2) d_P_putDecimal_22 rfl rfl ?_
            refine ep_idiv d_P_putDecimal_23 (by decide) ?_
            refine ep_cg (y := n) (by simp) ?_
            refine ep_bipush (v := 10) d_P_putDecimal_24 (by decide) ?_
            refine ep_irem d_P_putDecimal_26 (by decide) ?_
            refine ep_iadd d_P_putDecimal_27 ?_
            refine ep_callVw (As := [.int (48 + (n - n / 10 * 10))]) (st := []) d_P_putDecimal_28 lk_P_29 cal_P_put tm_P_put ts_P_put rfl rfl rfl (Nat.le_of_ble_eq_true rfl) (Nat.le_of_ble_eq_true rfl) rfl rfl (P_put hR42 (48 + (n - n / 10 * 10))) (fun q43 cI43 cA43 e43 hR43 f43 => ?_) (fun k cI43 cA43 s43 e43 hR43 f43 => WP_x (Fr3.trans F42 f43) (by first | (simp [decL, dcu, wpl_c, wpl_n, bnd_i, bnd_x, c15, e32, c15_, c15__, e40, c15___, c15____, e42, e43]; done) | simp_all [decL, dcu, wpl_c, wpl_n, bnd_i, bnd_x]) hR43)
            have F43 := Fr3.trans F42 f43
            refine ep_iload_n (j := 2) d_P_putDecimal_31 rfl rfl ?_
            refine ep_bipush (v := 10) d_P_putDecimal_32 (by decide) ?_
            refine ep_idiv d_P_putDecimal_34 (by decide) ?_
            refine ep_cg (y := 0) (by decide) ?_
            refine ep_istore_n (lv' := [(0, .ref 8), (1, .int n), (2, .int 0)]) [1, 2, 0] d_P_putDecimal_35 rfl (by decide) rfl ?_
            refine ep_goto (tgt := 3) d_P_putDecimal_36 (by decide) ?_
            refine ep_iload_n (j := 2) d_P_putDecimal_3 rfl rfl ?_
            refine ep_iconst (v := 1) d_P_putDecimal_4 (by decide) ?_
            refine ep_icmp_lt (tgt := 39) d_P_putDecimal_5 (by decide) (fun _ => ?_) (fun z => absurd (by decide) z)
            exact ep_vret d_P_putDecimal_39 rfl (WP_ok (f := fun _ : WS => none) (q := q43) F43 (by first | (simp [decL, dcu, wpl_c, wpl_n, bnd_i, bnd_x, c15, e32, c15_, c15__, e40, c15___, c15____, e42, e43]; done) | simp_all [decL, dcu, wpl_c, wpl_n, bnd_i, bnd_x]) hR43)
        · refine ep_aload_n (j := 0) d_P_putDecimal_18 rfl rfl ?_
          refine ep_bipush (v := 48) d_P_putDecimal_19 (by decide) ?_
          refine ep_iload_n (j := 1) d_P_putDecimal_21 rfl rfl ?_
          refine ep_iload_n (j := 2) d_P_putDecimal_22 rfl rfl ?_
          refine ep_idiv d_P_putDecimal_23 (by decide) ?_
          refine ep_bipush (v := 10) d_P_putDecimal_24 (by decide) ?_
          refine ep_irem d_P_putDecimal_26 (by decide) ?_
          refine ep_iadd d_P_putDecimal_27 ?_
          refine ep_callVw (As := [.int (48 + ((n / 100) - (n / 100) / 10 * 10))]) (st := []) d_P_putDecimal_28 lk_P_29 cal_P_put tm_P_put ts_P_put rfl rfl rfl (Nat.le_of_ble_eq_true rfl) (Nat.le_of_ble_eq_true rfl) rfl rfl (P_put hR40 (48 + ((n / 100) - (n / 100) / 10 * 10))) (fun q44 cI44 cA44 e44 hR44 f44 => ?_) (fun k cI44 cA44 s44 e44 hR44 f44 => WP_x (Fr3.trans F40 f44) (by first | (simp [decL, dcu, wpl_c, wpl_n, bnd_i, bnd_x, c15, e32, c15_, c15__, e40, c15___, e44]; done) | simp_all [decL, dcu, wpl_c, wpl_n, bnd_i, bnd_x]) hR44)
          have F44 := Fr3.trans F40 f44
          refine ep_iload_n (j := 2) d_P_putDecimal_31 rfl rfl ?_
          refine ep_bipush (v := 10) d_P_putDecimal_32 (by decide) ?_
          refine ep_idiv d_P_putDecimal_34 (by decide) ?_
          refine ep_cg (y := 10) (by decide) ?_
          refine ep_istore_n (lv' := [(0, .ref 8), (1, .int n), (2, .int 10)]) [1, 2, 0] d_P_putDecimal_35 rfl (by decide) rfl ?_
          refine ep_goto (tgt := 3) d_P_putDecimal_36 (by decide) ?_
          refine ep_iload_n (j := 2) d_P_putDecimal_3 rfl rfl ?_
          refine ep_iconst (v := 1) d_P_putDecimal_4 (by decide) ?_
          refine ep_icmp_lt (tgt := 39) d_P_putDecimal_5 (by decide) (fun z => absurd z (by decide)) (fun _ => ?_)
          refine ep_iload_n (j := 2) d_P_putDecimal_8 rfl rfl ?_
          refine ep_iconst (v := 1) d_P_putDecimal_9 (by decide) ?_
          refine ep_icmp_eq (tgt := 18) d_P_putDecimal_10 (by decide) (fun z => absurd z (by decide)) (fun _ => ?_)
          refine ep_iload_n (j := 1) d_P_putDecimal_13 rfl rfl ?_
          refine ep_iload_n (j := 2) d_P_putDecimal_14 rfl rfl ?_
          refine ep_icmp_lt (tgt := 31) d_P_putDecimal_15 (by decide) (fun c15____ => ?_) (fun c15____ => ?_)
          · refine ep_iload_n (j := 2) d_P_putDecimal_31 rfl rfl ?_
            refine ep_bipush (v := 10) d_P_putDecimal_32 (by decide) ?_
            refine ep_idiv d_P_putDecimal_34 (by decide) ?_
            refine ep_cg (y := 1) (by decide) ?_
            refine ep_istore_n (lv' := [(0, .ref 8), (1, .int n), (2, .int 1)]) [1, 2, 0] d_P_putDecimal_35 rfl (by decide) rfl ?_
            refine ep_goto (tgt := 3) d_P_putDecimal_36 (by decide) ?_
            refine ep_iload_n (j := 2) d_P_putDecimal_3 rfl rfl ?_
            refine ep_iconst (v := 1) d_P_putDecimal_4 (by decide) ?_
            refine ep_icmp_lt (tgt := 39) d_P_putDecimal_5 (by decide) (fun z => absurd z (by decide)) (fun _ => ?_)
            refine ep_iload_n (j := 2) d_P_putDecimal_8 rfl rfl ?_
            refine ep_iconst (v := 1) d_P_putDecimal_9 (by decide) ?_
            refine ep_icmp_eq (tgt := 18) d_P_putDecimal_10 (by decide) (fun _ => ?_) (fun z => absurd (by decide) z)
            refine ep_aload_n (j := 0) d_P_putDecimal_18 rfl rfl ?_
            refine ep_bipush (v := 48) d_P_putDecimal_19 (by decide) ?_
            refine ep_iload_n (j := 1) d_P_putDecimal_21 rfl rfl ?_
            refine ep_iload_n (j := 2) d_P_putDecimal_22 rfl rfl ?_
            refine ep_idiv d_P_putDecimal_23 (by decide) ?_
            refine ep_cg (y := n) (by simp) ?_
            refine ep_bipush (v := 10) d_P_putDecimal_24 (by decide) ?_
            refine ep_irem d_P_putDecimal_26 (by decide) ?_
            refine ep_iadd d_P_putDecimal_27 ?_
            refine ep_callVw (As := [.int (48 + (n - n / 10 * 10))]) (st := []) d_P_putDecimal_28 lk_P_29 cal_P_put tm_P_put ts_P_put rfl rfl rfl (Nat.le_of_ble_eq_true rfl) (Nat.le_of_ble_eq_true rfl) rfl rfl (P_put hR44 (48 + (n - n / 10 * 10))) (fun q45 cI45 cA45 e45 hR45 f45 => ?_) (fun k cI45 cA45 s45 e45 hR45 f45 => WP_x (Fr3.trans F44 f45) (by first | (simp [decL, dcu, wpl_c, wpl_n, bnd_i, bnd_x, c15, e32, c15_, c15__, e40, c15___, e44, c15____, e45]; done) | simp_all [decL, dcu, wpl_c, wpl_n, bnd_i, bnd_x]) hR45)
            have F45 := Fr3.trans F44 f45
            refine ep_iload_n (j := 2) d_P_putDecimal_31 rfl rfl ?_
            refine ep_bipush (v := 10) d_P_putDecimal_32 (by decide) ?_
            refine ep_idiv d_P_putDecimal_34 (by decide) ?_
            refine ep_cg (y := 0) (by decide) ?_
            refine ep_istore_n (lv' := [(0, .ref 8), (1, .int n), (2, .int 0)]) [1, 2, 0] d_P_putDecimal_35 rfl (by decide) rfl ?_
            refine ep_goto (tgt := 3) d_P_putDecimal_36 (by decide) ?_
            refine ep_iload_n (j := 2) d_P_putDecimal_3 rfl rfl ?_
            refine ep_iconst (v := 1) d_P_putDecimal_4 (by decide) ?_
            refine ep_icmp_lt (tgt := 39) d_P_putDecimal_5 (by decide) (fun _ => ?_) (fun z => absurd (by decide) z)
            exact ep_vret d_P_putDecimal_39 rfl (WP_ok (f := fun _ : WS => none) (q := q45) F45 (by first | (simp [decL, dcu, wpl_c, wpl_n, bnd_i, bnd_x, c15, e32, c15_, c15__, e40, c15___, e44, c15____, e45]; done) | simp_all [decL, dcu, wpl_c, wpl_n, bnd_i, bnd_x]) hR45)
          · refine ep_aload_n (j := 0) d_P_putDecimal_18 rfl rfl ?_
            refine ep_bipush (v := 48) d_P_putDecimal_19 (by decide) ?_
            refine ep_iload_n (j := 1) d_P_putDecimal_21 rfl rfl ?_
            refine ep_iload_n (j := 2) d_P_putDecimal_22 rfl rfl ?_
            refine ep_idiv d_P_putDecimal_23 (by decide) ?_
            refine ep_bipush (v := 10) d_P_putDecimal_24 (by decide) ?_
            refine ep_irem d_P_putDecimal_26 (by decide) ?_
            refine ep_iadd d_P_putDecimal_27 ?_
            refine ep_callVw (As := [.int (48 + ((n / 10) - (n / 10) / 10 * 10))]) (st := []) d_P_putDecimal_28 lk_P_29 cal_P_put tm_P_put ts_P_put rfl rfl rfl (Nat.le_of_ble_eq_true rfl) (Nat.le_of_ble_eq_true rfl) rfl rfl (P_put hR44 (48 + ((n / 10) - (n / 10) / 10 * 10))) (fun q46 cI46 cA46 e46 hR46 f46 => ?_) (fun k cI46 cA46 s46 e46 hR46 f46 => WP_x (Fr3.trans F44 f46) (by first | (simp [decL, dcu, wpl_c, wpl_n, bnd_i, bnd_x, c15, e32, c15_, c15__, e40, c15___, e44, c15____, e46]; done) | simp_all [decL, dcu, wpl_c, wpl_n, bnd_i, bnd_x]) hR46)
            have F46 := Fr3.trans F44 f46
            refine ep_iload_n (j := 2) d_P_putDecimal_31 rfl rfl ?_
            refine ep_bipush (v := 10) d_P_putDecimal_32 (by decide) ?_
            refine ep_idiv d_P_putDecimal_34 (by decide) ?_
            refine ep_cg (y := 1) (by decide) ?_
            refine ep_istore_n (lv' := [(0, .ref 8), (1, .int n), (2, .int 1)]) [1, 2, 0] d_P_putDecimal_35 rfl (by decide) rfl ?_
            refine ep_goto (tgt := 3) d_P_putDecimal_36 (by decide) ?_
            refine ep_iload_n (j := 2) d_P_putDecimal_3 rfl rfl ?_
            refine ep_iconst (v := 1) d_P_putDecimal_4 (by decide) ?_
            refine ep_icmp_lt (tgt := 39) d_P_putDecimal_5 (by decide) (fun z => absurd z (by decide)) (fun _ => ?_)
            refine ep_iload_n (j := 2) d_P_putDecimal_8 rfl rfl ?_
            refine ep_iconst (v := 1) d_P_putDecimal_9 (by decide) ?_
            refine ep_icmp_eq (tgt := 18) d_P_putDecimal_10 (by decide) (fun _ => ?_) (fun z => absurd (by decide) z)
            refine ep_aload_n (j := 0) d_P_putDecimal_18 rfl rfl ?_
            refine ep_bipush (v := 48) d_P_putDecimal_19 (by decide) ?_
            refine ep_iload_n (j := 1) d_P_putDecimal_21 rfl rfl ?_
            refine ep_iload_n (j := 2) d_P_putDecimal_22 rfl rfl ?_
            refine ep_idiv d_P_putDecimal_23 (by decide) ?_
            refine ep_cg (y := n) (by simp) ?_
            refine ep_bipush (v := 10) d_P_putDecimal_24 (by decide) ?_
            refine ep_irem d_P_putDecimal_26 (by decide) ?_
            refine ep_iadd d_P_putDecimal_27 ?_
            refine ep_callVw (As := [.int (48 + (n - n / 10 * 10))]) (st := []) d_P_putDecimal_28 lk_P_29 cal_P_put tm_P_put ts_P_put rfl rfl rfl (Nat.le_of_ble_eq_true rfl) (Nat.le_of_ble_eq_true rfl) rfl rfl (P_put hR46 (48 + (n - n / 10 * 10))) (fun q47 cI47 cA47 e47 hR47 f47 => ?_) (fun k cI47 cA47 s47 e47 hR47 f47 => WP_x (Fr3.trans F46 f47) (by first | (simp [decL, dcu, wpl_c, wpl_n, bnd_i, bnd_x, c15, e32, c15_, c15__, e40, c15___, e44, c15____, e46, e47]; done) | simp_all [decL, dcu, wpl_c, wpl_n, bnd_i, bnd_x]) hR47)
            have F47 := Fr3.trans F46 f47
            refine ep_iload_n (j := 2) d_P_putDecimal_31 rfl rfl ?_
            refine ep_bipush (v := 10) d_P_putDecimal_32 (by decide) ?_
            refine ep_idiv d_P_putDecimal_34 (by decide) ?_
            refine ep_cg (y := 0) (by decide) ?_
            refine ep_istore_n (lv' := [(0, .ref 8), (1, .int n), (2, .int 0)]) [1, 2, 0] d_P_putDecimal_35 rfl (by decide) rfl ?_
            refine ep_goto (tgt := 3) d_P_putDecimal_36 (by decide) ?_
            refine ep_iload_n (j := 2) d_P_putDecimal_3 rfl rfl ?_
            refine ep_iconst (v := 1) d_P_putDecimal_4 (by decide) ?_
            refine ep_icmp_lt (tgt := 39) d_P_putDecimal_5 (by decide) (fun _ => ?_) (fun z => absurd (by decide) z)
            exact ep_vret d_P_putDecimal_39 rfl (WP_ok (f := fun _ : WS => none) (q := q47) F47 (by first | (simp [decL, dcu, wpl_c, wpl_n, bnd_i, bnd_x, c15, e32, c15_, c15__, e40, c15___, e44, c15____, e46, e47]; done) | simp_all [decL, dcu, wpl_c, wpl_n, bnd_i, bnd_x]) hR47)
    · refine ep_aload_n (j := 0) d_P_putDecimal_18 rfl rfl ?_
      refine ep_bipush (v := 48) d_P_putDecimal_19 (by decide) ?_
      refine ep_iload_n (j := 1) d_P_putDecimal_21 rfl rfl ?_
      refine ep_iload_n (j := 2) d_P_putDecimal_22 rfl rfl ?_
      refine ep_idiv d_P_putDecimal_23 (by decide) ?_
      refine ep_bipush (v := 10) d_P_putDecimal_24 (by decide) ?_
      refine ep_irem d_P_putDecimal_26 (by decide) ?_
      refine ep_iadd d_P_putDecimal_27 ?_
      refine ep_callVw (As := [.int (48 + ((n / 10000) - (n / 10000) / 10 * 10))]) (st := []) d_P_putDecimal_28 lk_P_29 cal_P_put tm_P_put ts_P_put rfl rfl rfl (Nat.le_of_ble_eq_true rfl) (Nat.le_of_ble_eq_true rfl) rfl rfl (P_put hR32 (48 + ((n / 10000) - (n / 10000) / 10 * 10))) (fun q48 cI48 cA48 e48 hR48 f48 => ?_) (fun k cI48 cA48 s48 e48 hR48 f48 => WP_x (Fr3.trans F32 f48) (by first | (simp [decL, dcu, wpl_c, wpl_n, bnd_i, bnd_x, c15, e32, c15_, e48]; done) | simp_all [decL, dcu, wpl_c, wpl_n, bnd_i, bnd_x]) hR48)
      have F48 := Fr3.trans F32 f48
      refine ep_iload_n (j := 2) d_P_putDecimal_31 rfl rfl ?_
      refine ep_bipush (v := 10) d_P_putDecimal_32 (by decide) ?_
      refine ep_idiv d_P_putDecimal_34 (by decide) ?_
      refine ep_cg (y := 1000) (by decide) ?_
      refine ep_istore_n (lv' := [(0, .ref 8), (1, .int n), (2, .int 1000)]) [1, 2, 0] d_P_putDecimal_35 rfl (by decide) rfl ?_
      refine ep_goto (tgt := 3) d_P_putDecimal_36 (by decide) ?_
      refine ep_iload_n (j := 2) d_P_putDecimal_3 rfl rfl ?_
      refine ep_iconst (v := 1) d_P_putDecimal_4 (by decide) ?_
      refine ep_icmp_lt (tgt := 39) d_P_putDecimal_5 (by decide) (fun z => absurd z (by decide)) (fun _ => ?_)
      refine ep_iload_n (j := 2) d_P_putDecimal_8 rfl rfl ?_
      refine ep_iconst (v := 1) d_P_putDecimal_9 (by decide) ?_
      refine ep_icmp_eq (tgt := 18) d_P_putDecimal_10 (by decide) (fun z => absurd z (by decide)) (fun _ => ?_)
      refine ep_iload_n (j := 1) d_P_putDecimal_13 rfl rfl ?_
      refine ep_iload_n (j := 2) d_P_putDecimal_14 rfl rfl ?_
      refine ep_icmp_lt (tgt := 31) d_P_putDecimal_15 (by decide) (fun c15__ => ?_) (fun c15__ => ?_)
      · refine ep_iload_n (j := 2) d_P_putDecimal_31 rfl rfl ?_
        refine ep_bipush (v := 10) d_P_putDecimal_32 (by decide) ?_
        refine ep_idiv d_P_putDecimal_34 (by decide) ?_
        refine ep_cg (y := 100) (by decide) ?_
        refine ep_istore_n (lv' := [(0, .ref 8), (1, .int n), (2, .int 100)]) [1, 2, 0] d_P_putDecimal_35 rfl (by decide) rfl ?_
        refine ep_goto (tgt := 3) d_P_putDecimal_36 (by decide) ?_
        refine ep_iload_n (j := 2) d_P_putDecimal_3 rfl rfl ?_
        refine ep_iconst (v := 1) d_P_putDecimal_4 (by decide) ?_
        refine ep_icmp_lt (tgt := 39) d_P_putDecimal_5 (by decide) (fun z => absurd z (by decide)) (fun _ => ?_)
        refine ep_iload_n (j := 2) d_P_putDecimal_8 rfl rfl ?_
        refine ep_iconst (v := 1) d_P_putDecimal_9 (by decide) ?_
        refine ep_icmp_eq (tgt := 18) d_P_putDecimal_10 (by decide) (fun z => absurd z (by decide)) (fun _ => ?_)
        refine ep_iload_n (j := 1) d_P_putDecimal_13 rfl rfl ?_
        refine ep_iload_n (j := 2) d_P_putDecimal_14 rfl rfl ?_
        refine ep_icmp_lt (tgt := 31) d_P_putDecimal_15 (by decide) (fun c15___ => ?_) (fun c15___ => ?_)
        · refine ep_iload_n (j := 2) d_P_putDecimal_31 rfl rfl ?_
          refine ep_bipush (v := 10) d_P_putDecimal_32 (by decide) ?_
          refine ep_idiv d_P_putDecimal_34 (by decide) ?_
          refine ep_cg (y := 10) (by decide) ?_
          refine ep_istore_n (lv' := [(0, .ref 8), (1, .int n), (2, .int 10)]) [1, 2, 0] d_P_putDecimal_35 rfl (by decide) rfl ?_
          refine ep_goto (tgt := 3) d_P_putDecimal_36 (by decide) ?_
          refine ep_iload_n (j := 2) d_P_putDecimal_3 rfl rfl ?_
          refine ep_iconst (v := 1) d_P_putDecimal_4 (by decide) ?_
          refine ep_icmp_lt (tgt := 39) d_P_putDecimal_5 (by decide) (fun z => absurd z (by decide)) (fun _ => ?_)
          refine ep_iload_n (j := 2) d_P_putDecimal_8 rfl rfl ?_
          refine ep_iconst (v := 1) d_P_putDecimal_9 (by decide) ?_
          refine ep_icmp_eq (tgt := 18) d_P_putDecimal_10 (by decide) (fun z => absurd z (by decide)) (fun _ => ?_)
          refine ep_iload_n (j := 1) d_P_putDecimal_13 rfl rfl ?_
          refine ep_iload_n (j := 2) d_P_putDecimal_14 rfl rfl ?_
          refine ep_icmp_lt (tgt := 31) d_P_putDecimal_15 (by decide) (fun c15____ => ?_) (fun c15____ => ?_)
          · refine ep_iload_n (j := 2) d_P_putDecimal_31 rfl rfl ?_
            refine ep_bipush (v := 10) d_P_putDecimal_32 (by decide) ?_
            refine ep_idiv d_P_putDecimal_34 (by decide) ?_
            refine ep_cg (y := 1) (by decide) ?_
            refine ep_istore_n (lv' := [(0, .ref 8), (1, .int n), (2, .int 1)]) [1, 2, 0] d_P_putDecimal_35 rfl (by decide) rfl ?_
            refine ep_goto (tgt := 3) d_P_putDecimal_36 (by decide) ?_
            refine ep_iload_n (j := 2) d_P_putDecimal_3 rfl rfl ?_
            refine ep_iconst (v := 1) d_P_putDecimal_4 (by decide) ?_
            refine ep_icmp_lt (tgt := 39) d_P_putDecimal_5 (by decide) (fun z => absurd z (by decide)) (fun _ => ?_)
            refine ep_iload_n (j := 2) d_P_putDecimal_8 rfl rfl ?_
            refine ep_iconst (v := 1) d_P_putDecimal_9 (by decide) ?_
            refine ep_icmp_eq (tgt := 18) d_P_putDecimal_10 (by decide) (fun _ => ?_) (fun z => absurd (by decide) z)
            refine ep_aload_n (j := 0) d_P_putDecimal_18 rfl rfl ?_
            refine ep_bipush (v := 48) d_P_putDecimal_19 (by decide) ?_
            refine ep_iload_n (j := 1) d_P_putDecimal_21 rfl rfl ?_
            refine ep_iload_n (j := 2) d_P_putDecimal_22 rfl rfl ?_
            refine ep_idiv d_P_putDecimal_23 (by decide) ?_
            refine ep_cg (y := n) (by simp) ?_
            refine ep_bipush (v := 10) d_P_putDecimal_24 (by decide) ?_
            refine ep_irem d_P_putDecimal_26 (by decide) ?_
            refine ep_iadd d_P_putDecimal_27 ?_
            refine ep_callVw (As := [.int (48 + (n - n / 10 * 10))]) (st := []) d_P_putDecimal_28 lk_P_29 cal_P_put tm_P_put ts_P_put rfl rfl rfl (Nat.le_of_ble_eq_true rfl) (Nat.le_of_ble_eq_true rfl) rfl rfl (P_put hR48 (48 + (n - n / 10 * 10))) (fun q49 cI49 cA49 e49 hR49 f49 => ?_) (fun k cI49 cA49 s49 e49 hR49 f49 => WP_x (Fr3.trans F48 f49) (by first | (simp [decL, dcu, wpl_c, wpl_n, bnd_i, bnd_x, c15, e32, c15_, e48, c15__, c15___, c15____, e49]; done) | simp_all [decL, dcu, wpl_c, wpl_n, bnd_i, bnd_x]) hR49)
            have F49 := Fr3.trans F48 f49
            refine ep_iload_n (j := 2) d_P_putDecimal_31 rfl rfl ?_
            refine ep_bipush (v := 10) d_P_putDecimal_32 (by decide) ?_
            refine ep_idiv d_P_putDecimal_34 (by decide) ?_
            refine ep_cg (y := 0) (by decide) ?_
            refine ep_istore_n (lv' := [(0, .ref 8), (1, .int n), (2, .int 0)]) [1, 2, 0] d_P_putDecimal_35 rfl (by decide) rfl ?_
            refine ep_goto (tgt := 3) d_P_putDecimal_36 (by decide) ?_
            refine ep_iload_n (j := 2) d_P_putDecimal_3 rfl rfl ?_
            refine ep_iconst (v := 1) d_P_putDecimal_4 (by decide) ?_
            refine ep_icmp_lt (tgt := 39) d_P_putDecimal_5 (by decide) (fun _ => ?_) (fun z => absurd (by decide) z)
            exact ep_vret d_P_putDecimal_39 rfl (WP_ok (f := fun _ : WS => none) (q := q49) F49 (by first | (simp [decL, dcu, wpl_c, wpl_n, bnd_i, bnd_x, c15, e32, c15_, e48, c15__, c15___, c15____, e49]; done) | simp_all [decL, dcu, wpl_c, wpl_n, bnd_i, bnd_x]) hR49)
          · refine ep_aload_n (j := 0) d_P_putDecimal_18 rfl rfl ?_
            refine ep_bipush (v := 48) d_P_putDecimal_19 (by decide) ?_
            refine ep_iload_n (j := 1) d_P_putDecimal_21 rfl rfl ?_
            refine ep_iload_n (j := 2) d_P_putDecimal_22 rfl rfl ?_
            refine ep_idiv d_P_putDecimal_23 (by decide) ?_
            refine ep_bipush (v := 10) d_P_putDecimal_24 (by decide) ?_
            refine ep_irem d_P_putDecimal_26 (by decide) ?_
            refine ep_iadd d_P_putDecimal_27 ?_
            refine ep_callVw (As := [.int (48 + ((n / 10) - (n / 10) / 10 * 10))]) (st := []) d_P_putDecimal_28 lk_P_29 cal_P_put tm_P_put ts_P_put rfl rfl rfl (Nat.le_of_ble_eq_true rfl) (Nat.le_of_ble_eq_true rfl) rfl rfl (P_put hR48 (48 + ((n / 10) - (n / 10) / 10 * 10))) (fun q50 cI50 cA50 e50 hR50 f50 => ?_) (fun k cI50 cA50 s50 e50 hR50 f50 => WP_x (Fr3.trans F48 f50) (by first | (simp [decL, dcu, wpl_c, wpl_n, bnd_i, bnd_x, c15, e32, c15_, e48, c15__, c15___, c15____, e50]; done) | simp_all [decL, dcu, wpl_c, wpl_n, bnd_i, bnd_x]) hR50)
            have F50 := Fr3.trans F48 f50
            refine ep_iload_n (j := 2) d_P_putDecimal_31 rfl rfl ?_
            refine ep_bipush (v := 10) d_P_putDecimal_32 (by decide) ?_
            refine ep_idiv d_P_putDecimal_34 (by decide) ?_
            refine ep_cg (y := 1) (by decide) ?_
            refine ep_istore_n (lv' := [(0, .ref 8), (1, .int n), (2, .int 1)]) [1, 2, 0] d_P_putDecimal_35 rfl (by decide) rfl ?_
            refine ep_goto (tgt := 3) d_P_putDecimal_36 (by decide) ?_
            refine ep_iload_n (j := 2) d_P_putDecimal_3 rfl rfl ?_
            refine ep_iconst (v := 1) d_P_putDecimal_4 (by decide) ?_
            refine ep_icmp_lt (tgt := 39) d_P_putDecimal_5 (by decide) (fun z => absurd z (by decide)) (fun _ => ?_)
            refine ep_iload_n (j := 2) d_P_putDecimal_8 rfl rfl ?_
            refine ep_iconst (v := 1) d_P_putDecimal_9 (by decide) ?_
            refine ep_icmp_eq (tgt := 18) d_P_putDecimal_10 (by decide) (fun _ => ?_) (fun z => absurd (by decide) z)
            refine ep_aload_n (j := 0) d_P_putDecimal_18 rfl rfl ?_
            refine ep_bipush (v := 48) d_P_putDecimal_19 (by decide) ?_
            refine ep_iload_n (j := 1) d_P_putDecimal_21 rfl rfl ?_
            refine ep_iload_n (j := 2) d_P_putDecimal_22 rfl rfl ?_
            refine ep_idiv d_P_putDecimal_23 (by decide) ?_
            refine ep_cg (y := n) (by simp) ?_
            refine ep_bipush (v := 10) d_P_putDecimal_24 (by decide) ?_
            refine ep_irem d_P_putDecimal_26 (by decide) ?_
            refine ep_iadd d_P_putDecimal_27 ?_
            refine ep_callVw (As := [.int (48 + (n - n / 10 * 10))]) (st := []) d_P_putDecimal_28 lk_P_29 cal_P_put tm_P_put ts_P_put rfl rfl rfl (Nat.le_of_ble_eq_true rfl) (Nat.le_of_ble_eq_true rfl) rfl rfl (P_put hR50 (48 + (n - n / 10 * 10))) (fun q51 cI51 cA51 e51 hR51 f51 => ?_) (fun k cI51 cA51 s51 e51 hR51 f51 => WP_x (Fr3.trans F50 f51) (by first | (simp [decL, dcu, wpl_c, wpl_n, bnd_i, bnd_x, c15, e32, c15_, e48, c15__, c15___, c15____, e50, e51]; done) | simp_all [decL, dcu, wpl_c, wpl_n, bnd_i, bnd_x]) hR51)
            have F51 := Fr3.trans F50 f51
            refine ep_iload_n (j := 2) d_P_putDecimal_31 rfl rfl ?_
            refine ep_bipush (v := 10) d_P_putDecimal_32 (by decide) ?_
            refine ep_idiv d_P_putDecimal_34 (by decide) ?_
            refine ep_cg (y := 0) (by decide) ?_
            refine ep_istore_n (lv' := [(0, .ref 8), (1, .int n), (2, .int 0)]) [1, 2, 0] d_P_putDecimal_35 rfl (by decide) rfl ?_
            refine ep_goto (tgt := 3) d_P_putDecimal_36 (by decide) ?_
            refine ep_iload_n (j := 2) d_P_putDecimal_3 rfl rfl ?_
            refine ep_iconst (v := 1) d_P_putDecimal_4 (by decide) ?_
            refine ep_icmp_lt (tgt := 39) d_P_putDecimal_5 (by decide) (fun _ => ?_) (fun z => absurd (by decide) z)
            exact ep_vret d_P_putDecimal_39 rfl (WP_ok (f := fun _ : WS => none) (q := q51) F51 (by first | (simp [decL, dcu, wpl_c, wpl_n, bnd_i, bnd_x, c15, e32, c15_, e48, c15__, c15___, c15____, e50, e51]; done) | simp_all [decL, dcu, wpl_c, wpl_n, bnd_i, bnd_x]) hR51)
        · refine ep_aload_n (j := 0) d_P_putDecimal_18 rfl rfl ?_
          refine ep_bipush (v := 48) d_P_putDecimal_19 (by decide) ?_
          refine ep_iload_n (j := 1) d_P_putDecimal_21 rfl rfl ?_
          refine ep_iload_n (j := 2) d_P_putDecimal_22 rfl rfl ?_
          refine ep_idiv d_P_putDecimal_23 (by decide) ?_
          refine ep_bipush (v := 10) d_P_putDecimal_24 (by decide) ?_
          refine ep_irem d_P_putDecimal_26 (by decide) ?_
          refine ep_iadd d_P_putDecimal_27 ?_
          refine ep_callVw (As := [.int (48 + ((n / 100) - (n / 100) / 10 * 10))]) (st := []) d_P_putDecimal_28 lk_P_29 cal_P_put tm_P_put ts_P_put rfl rfl rfl (Nat.le_of_ble_eq_true rfl) (Nat.le_of_ble_eq_true rfl) rfl rfl (P_put hR48 (48 + ((n / 100) - (n / 100) / 10 * 10))) (fun q52 cI52 cA52 e52 hR52 f52 => ?_) (fun k cI52 cA52 s52 e52 hR52 f52 => WP_x (Fr3.trans F48 f52) (by first | (simp [decL, dcu, wpl_c, wpl_n, bnd_i, bnd_x, c15, e32, c15_, e48, c15__, c15___, e52]; done) | simp_all [decL, dcu, wpl_c, wpl_n, bnd_i, bnd_x]) hR52)
          have F52 := Fr3.trans F48 f52
          refine ep_iload_n (j := 2) d_P_putDecimal_31 rfl rfl ?_
          refine ep_bipush (v := 10) d_P_putDecimal_32 (by decide) ?_
          refine ep_idiv d_P_putDecimal_34 (by decide) ?_
          refine ep_cg (y := 10) (by decide) ?_
          refine ep_istore_n (lv' := [(0, .ref 8), (1, .int n), (2, .int 10)]) [1, 2, 0] d_P_putDecimal_35 rfl (by decide) rfl ?_
          refine ep_goto (tgt := 3) d_P_putDecimal_36 (by decide) ?_
          refine ep_iload_n (j := 2) d_P_putDecimal_3 rfl rfl ?_
          refine ep_iconst (v := 1) d_P_putDecimal_4 (by decide) ?_
          refine ep_icmp_lt (tgt := 39) d_P_putDecimal_5 (by decide) (fun z => absurd z (by decide)) (fun _ => ?_)
          refine ep_iload_n (j := 2) d_P_putDecimal_8 rfl rfl ?_
          refine ep_iconst (v := 1) d_P_putDecimal_9 (by decide) ?_
          refine ep_icmp_eq (tgt := 18) d_P_putDecimal_10 (by decide) (fun z => absurd z (by decide)) (fun _ => ?_)
          refine ep_iload_n (j := 1) d_P_putDecimal_13 rfl rfl ?_
          refine ep_iload_n (j := 2) d_P_putDecimal_14 rfl rfl ?_
          refine ep_icmp_lt (tgt := 31) d_P_putDecimal_15 (by decide) (fun c15____ => ?_) (fun c15____ => ?_)
          · refine ep_iload_n (j := 2) d_P_putDecimal_31 rfl rfl ?_
            refine ep_bipush (v := 10) d_P_putDecimal_32 (by decide) ?_
            refine ep_idiv d_P_putDecimal_34 (by decide) ?_
            refine ep_cg (y := 1) (by decide) ?_
            refine ep_istore_n (lv' := [(0, .ref 8), (1, .int n), (2, .int 1)]) [1, 2, 0] d_P_putDecimal_35 rfl (by decide) rfl ?_
            refine ep_goto (tgt := 3) d_P_putDecimal_36 (by decide) ?_
            refine ep_iload_n (j := 2) d_P_putDecimal_3 rfl rfl ?_
            refine ep_iconst (v := 1) d_P_putDecimal_4 (by decide) ?_
            refine ep_icmp_lt (tgt := 39) d_P_putDecimal_5 (by decide) (fun z => absurd z (by decide)) (fun _ => ?_)
            refine ep_iload_n (j := 2) d_P_putDecimal_8 rfl rfl ?_
            refine ep_iconst (v := 1) d_P_putDecimal_9 (by decide) ?_
            refine ep_icmp_eq (tgt := 18) d_P_putDecimal_10 (by decide) (fun _ => ?_) (fun z => absurd (by decide) z)
            refine ep_aload_n (j := 0) d_P_putDecimal_18 rfl rfl ?_
            refine ep_bipush (v := 48) d_P_putDecimal_19 (by decide) ?_
            refine ep_iload_n (j := 1) d_P_putDecimal_21 rfl rfl ?_
            refine ep_iload_n (j := 2) d_P_putDecimal_22 rfl rfl ?_
            refine ep_idiv d_P_putDecimal_23 (by decide) ?_
            refine ep_cg (y := n) (by simp) ?_
            refine ep_bipush (v := 10) d_P_putDecimal_24 (by decide) ?_
            refine ep_irem d_P_putDecimal_26 (by decide) ?_
            refine ep_iadd d_P_putDecimal_27 ?_
            refine ep_callVw (As := [.int (48 + (n - n / 10 * 10))]) (st := []) d_P_putDecimal_28 lk_P_29 cal_P_put tm_P_put ts_P_put rfl rfl rfl (Nat.le_of_ble_eq_true rfl) (Nat.le_of_ble_eq_true rfl) rfl rfl (P_put hR52 (48 + (n - n / 10 * 10))) (fun q53 cI53 cA53 e53 hR53 f53 => ?_) (fun k cI53 cA53 s53 e53 hR53 f53 => WP_x (Fr3.trans F52 f53) (by first | (simp [decL, dcu, wpl_c, wpl_n, bnd_i, bnd_x, c15, e32, c15_, e48, c15__, c15___, e52, c15____, e53]; done) | simp_all [decL, dcu, wpl_c, wpl_n, bnd_i, bnd_x]) hR53)
            have F53 := Fr3.trans F52 f53
            refine ep_iload_n (j := 2) d_P_putDecimal_31 rfl rfl ?_
            refine ep_bipush (v := 10) d_P_putDecimal_32 (by decide) ?_
            refine ep_idiv d_P_putDecimal_34 (by decide) ?_
            refine ep_cg (y := 0) (by decide) ?_
            refine ep_istore_n (lv' := [(0, .ref 8), (1, .int n), (2, .int 0)]) [1, 2, 0] d_P_putDecimal_35 rfl (by decide) rfl ?_
            refine ep_goto (tgt := 3) d_P_putDecimal_36 (by decide) ?_
            refine ep_iload_n (j := 2) d_P_putDecimal_3 rfl rfl ?_
            refine ep_iconst (v := 1) d_P_putDecimal_4 (by decide) ?_
            refine ep_icmp_lt (tgt := 39) d_P_putDecimal_5 (by decide) (fun _ => ?_) (fun z => absurd (by decide) z)
            exact ep_vret d_P_putDecimal_39 rfl (WP_ok (f := fun _ : WS => none) (q := q53) F53 (by first | (simp [decL, dcu, wpl_c, wpl_n, bnd_i, bnd_x, c15, e32, c15_, e48, c15__, c15___, e52, c15____, e53]; done) | simp_all [decL, dcu, wpl_c, wpl_n, bnd_i, bnd_x]) hR53)
          · refine ep_aload_n (j := 0) d_P_putDecimal_18 rfl rfl ?_
            refine ep_bipush (v := 48) d_P_putDecimal_19 (by decide) ?_
            refine ep_iload_n (j := 1) d_P_putDecimal_21 rfl rfl ?_
            refine ep_iload_n (j := 2) d_P_putDecimal_22 rfl rfl ?_
            refine ep_idiv d_P_putDecimal_23 (by decide) ?_
            refine ep_bipush (v := 10) d_P_putDecimal_24 (by decide) ?_
            refine ep_irem d_P_putDecimal_26 (by decide) ?_
            refine ep_iadd d_P_putDecimal_27 ?_
            refine ep_callVw (As := [.int (48 + ((n / 10) - (n / 10) / 10 * 10))]) (st := []) d_P_putDecimal_28 lk_P_29 cal_P_put tm_P_put ts_P_put rfl rfl rfl (Nat.le_of_ble_eq_true rfl) (Nat.le_of_ble_eq_true rfl) rfl rfl (P_put hR52 (48 + ((n / 10) - (n / 10) / 10 * 10))) (fun q54 cI54 cA54 e54 hR54 f54 => ?_) (fun k cI54 cA54 s54 e54 hR54 f54 => WP_x (Fr3.trans F52 f54) (by first | (simp [decL, dcu, wpl_c, wpl_n, bnd_i, bnd_x, c15, e32, c15_, e48, c15__, c15___, e52, c15____, e54]; done) | simp_all [decL, dcu, wpl_c, wpl_n, bnd_i, bnd_x]) hR54)
            have F54 := Fr3.trans F52 f54
            refine ep_iload_n (j := 2) d_P_putDecimal_31 rfl rfl ?_
            refine ep_bipush (v := 10) d_P_putDecimal_32 (by decide) ?_
            refine ep_idiv d_P_putDecimal_34 (by decide) ?_
            refine ep_cg (y := 1) (by decide) ?_
            refine ep_istore_n (lv' := [(0, .ref 8), (1, .int n), (2, .int 1)]) [1, 2, 0] d_P_putDecimal_35 rfl (by decide) rfl ?_
            refine ep_goto (tgt := 3) d_P_putDecimal_36 (by decide) ?_
            refine ep_iload_n (j := 2) d_P_putDecimal_3 rfl rfl ?_
            refine ep_iconst (v := 1) d_P_putDecimal_4 (by decide) ?_
            refine ep_icmp_lt (tgt := 39) d_P_putDecimal_5 (by decide) (fun z => absurd z (by decide)) (fun _ => ?_)
            refine ep_iload_n (j := 2) d_P_putDecimal_8 rfl rfl ?_
            refine ep_iconst (v := 1) d_P_putDecimal_9 (by decide) ?_
            refine ep_icmp_eq (tgt := 18) d_P_putDecimal_10 (by decide) (fun _ => ?_) (fun z => absurd (by decide) z)
            refine ep_aload_n (j := 0) d_P_putDecimal_18 rfl rfl ?_
            refine ep_bipush (v := 48) d_P_putDecimal_19 (by decide) ?_
            refine ep_iload_n (j := 1) d_P_putDecimal_21 rfl rfl ?_
            refine ep_iload_n (j := 2) d_P_putDecimal_22 rfl rfl ?_
            refine ep_idiv d_P_putDecimal_23 (by decide) ?_
            refine ep_cg (y := n) (by simp) ?_
            refine ep_bipush (v := 10) d_P_putDecimal_24 (by decide) ?_
            refine ep_irem d_P_putDecimal_26 (by decide) ?_
            refine ep_iadd d_P_putDecimal_27 ?_
            refine ep_callVw (As := [.int (48 + (n - n / 10 * 10))]) (st := []) d_P_putDecimal_28 lk_P_29 cal_P_put tm_P_put ts_P_put rfl rfl rfl (Nat.le_of_ble_eq_true rfl) (Nat.le_of_ble_eq_true rfl) rfl rfl (P_put hR54 (48 + (n - n / 10 * 10))) (fun q55 cI55 cA55 e55 hR55 f55 => ?_) (fun k cI55 cA55 s55 e55 hR55 f55 => WP_x (Fr3.trans F54 f55) (by first | (simp [decL, dcu, wpl_c, wpl_n, bnd_i, bnd_x, c15, e32, c15_, e48, c15__, c15___, e52, c15____, e54, e55]; done) | simp_all [decL, dcu, wpl_c, wpl_n, bnd_i, bnd_x]) hR55)
            have F55 := Fr3.trans F54 f55
            refine ep_iload_n (j := 2) d_P_putDecimal_31 rfl rfl ?_
            refine ep_bipush (v := 10) d_P_putDecimal_32 (by decide) ?_
            refine ep_idiv d_P_putDecimal_34 (by decide) ?_
            refine ep_cg (y := 0) (by decide) ?_
            refine ep_istore_n (lv' := [(0, .ref 8), (1, .int n), (2, .int 0)]) [1, 2, 0] d_P_putDecimal_35 rfl (by decide) rfl ?_
            refine ep_goto (tgt := 3) d_P_putDecimal_36 (by decide) ?_
            refine ep_iload_n (j := 2) d_P_putDecimal_3 rfl rfl ?_
            refine ep_iconst (v := 1) d_P_putDecimal_4 (by decide) ?_
            refine ep_icmp_lt (tgt := 39) d_P_putDecimal_5 (by decide) (fun _ => ?_) (fun z => absurd (by decide) z)
            exact ep_vret d_P_putDecimal_39 rfl (WP_ok (f := fun _ : WS => none) (q := q55) F55 (by first | (simp [decL, dcu, wpl_c, wpl_n, bnd_i, bnd_x, c15, e32, c15_, e48, c15__, c15___, e52, c15____, e54, e55]; done) | simp_all [decL, dcu, wpl_c, wpl_n, bnd_i, bnd_x]) hR55)
      · refine ep_aload_n (j := 0) d_P_putDecimal_18 rfl rfl ?_
        refine ep_bipush (v := 48) d_P_putDecimal_19 (by decide) ?_
        refine ep_iload_n (j := 1) d_P_putDecimal_21 rfl rfl ?_
        refine ep_iload_n (j := 2) d_P_putDecimal_22 rfl rfl ?_
        refine ep_idiv d_P_putDecimal_23 (by decide) ?_
        refine ep_bipush (v := 10) d_P_putDecimal_24 (by decide) ?_
        refine ep_irem d_P_putDecimal_26 (by decide) ?_
        refine ep_iadd d_P_putDecimal_27 ?_
        refine ep_callVw (As := [.int (48 + ((n / 1000) - (n / 1000) / 10 * 10))]) (st := []) d_P_putDecimal_28 lk_P_29 cal_P_put tm_P_put ts_P_put rfl rfl rfl (Nat.le_of_ble_eq_true rfl) (Nat.le_of_ble_eq_true rfl) rfl rfl (P_put hR48 (48 + ((n / 1000) - (n / 1000) / 10 * 10))) (fun q56 cI56 cA56 e56 hR56 f56 => ?_) (fun k cI56 cA56 s56 e56 hR56 f56 => WP_x (Fr3.trans F48 f56) (by first | (simp [decL, dcu, wpl_c, wpl_n, bnd_i, bnd_x, c15, e32, c15_, e48, c15__, e56]; done) | simp_all [decL, dcu, wpl_c, wpl_n, bnd_i, bnd_x]) hR56)
        have F56 := Fr3.trans F48 f56
        refine ep_iload_n (j := 2) d_P_putDecimal_31 rfl rfl ?_
        refine ep_bipush (v := 10) d_P_putDecimal_32 (by decide) ?_
        refine ep_idiv d_P_putDecimal_34 (by decide) ?_
        refine ep_cg (y := 100) (by decide) ?_
        refine ep_istore_n (lv' := [(0, .ref 8), (1, .int n), (2, .int 100)]) [1, 2, 0] d_P_putDecimal_35 rfl (by decide) rfl ?_
        refine ep_goto (tgt := 3) d_P_putDecimal_36 (by decide) ?_
        refine ep_iload_n (j := 2) d_P_putDecimal_3 rfl rfl ?_
        refine ep_iconst (v := 1) d_P_putDecimal_4 (by decide) ?_
        refine ep_icmp_lt (tgt := 39) d_P_putDecimal_5 (by decide) (fun z => absurd z (by decide)) (fun _ => ?_)
        refine ep_iload_n (j := 2) d_P_putDecimal_8 rfl rfl ?_
        refine ep_iconst (v := 1) d_P_putDecimal_9 (by decide) ?_
        refine ep_icmp_eq (tgt := 18) d_P_putDecimal_10 (by decide) (fun z => absurd z (by decide)) (fun _ => ?_)
        refine ep_iload_n (j := 1) d_P_putDecimal_13 rfl rfl ?_
        refine ep_iload_n (j := 2) d_P_putDecimal_14 rfl rfl ?_
        refine ep_icmp_lt (tgt := 31) d_P_putDecimal_15 (by decide) (fun c15___ => ?_) (fun c15___ => ?_)
        · refine ep_iload_n (j := 2) d_P_putDecimal_31 rfl rfl ?_
          refine ep_bipush (v := 10) d_P_putDecimal_32 (by decide) ?_
          refine ep_idiv d_P_putDecimal_34 (by decide) ?_
          refine ep_cg (y := 10) (by decide) ?_
          refine ep_istore_n (lv' := [(0, .ref 8), (1, .int n), (2, .int 10)]) [1, 2, 0] d_P_putDecimal_35 rfl (by decide) rfl ?_
          refine ep_goto (tgt := 3) d_P_putDecimal_36 (by decide) ?_
          refine ep_iload_n (j := 2) d_P_putDecimal_3 rfl rfl ?_
          refine ep_iconst (v := 1) d_P_putDecimal_4 (by decide) ?_
          refine ep_icmp_lt (tgt := 39) d_P_putDecimal_5 (by decide) (fun z => absurd z (by decide)) (fun _ => ?_)
          refine ep_iload_n (j := 2) d_P_putDecimal_8 rfl rfl ?_
          refine ep_iconst (v := 1) d_P_putDecimal_9 (by decide) ?_
          refine ep_icmp_eq (tgt := 18) d_P_putDecimal_10 (by decide) (fun z => absurd z (by decide)) (fun _ => ?_)
          refine ep_iload_n (j := 1) d_P_putDecimal_13 rfl rfl ?_
          refine ep_iload_n (j := 2) d_P_putDecimal_14 rfl rfl ?_
          refine ep_icmp_lt (tgt := 31) d_P_putDecimal_15 (by decide) (fun c15____ => ?_) (fun c15____ => ?_)
          · refine ep_iload_n (j := 2) d_P_putDecimal_31 rfl rfl ?_
            refine ep_bipush (v := 10) d_P_putDecimal_32 (by decide) ?_
            refine ep_idiv d_P_putDecimal_34 (by decide) ?_
            refine ep_cg (y := 1) (by decide) ?_
            refine ep_istore_n (lv' := [(0, .ref 8), (1, .int n), (2, .int 1)]) [1, 2, 0] d_P_putDecimal_35 rfl (by decide) rfl ?_
            refine ep_goto (tgt := 3) d_P_putDecimal_36 (by decide) ?_
            refine ep_iload_n (j := 2) d_P_putDecimal_3 rfl rfl ?_
            refine ep_iconst (v := 1) d_P_putDecimal_4 (by decide) ?_
            refine ep_icmp_lt (tgt := 39) d_P_putDecimal_5 (by decide) (fun z => absurd z (by decide)) (fun _ => ?_)
            refine ep_iload_n (j := 2) d_P_putDecimal_8 rfl rfl ?_
            refine ep_iconst (v := 1) d_P_putDecimal_9 (by decide) ?_
            refine ep_icmp_eq (tgt := 18) d_P_putDecimal_10 (by decide) (fun _ => ?_) (fun z => absurd (by decide) z)
            refine ep_aload_n (j := 0) d_P_putDecimal_18 rfl rfl ?_
            refine ep_bipush (v := 48) d_P_putDecimal_19 (by decide) ?_
            refine ep_iload_n (j := 1) d_P_putDecimal_21 rfl rfl ?_
            refine ep_iload_n (j := 2) d_P_putDecimal_22 rfl rfl ?_
            refine ep_idiv d_P_putDecimal_23 (by decide) ?_
            refine ep_cg (y := n) (by simp) ?_
            refine ep_bipush (v := 10) d_P_putDecimal_24 (by decide) ?_
            refine ep_irem d_P_putDecimal_26 (by decide) ?_
            refine ep_iadd d_P_putDecimal_27 ?_
            refine ep_callVw (As := [.int (48 + (n - n / 10 * 10))]) (st := []) d_P_putDecimal_28 lk_P_29 cal_P_put tm_P_put ts_P_put rfl rfl rfl (Nat.le_of_ble_eq_true rfl) (Nat.le_of_ble_eq_true rfl) rfl rfl (P_put hR56 (48 + (n - n / 10 * 10))) (fun q57 cI57 cA57 e57 hR57 f57 => ?_) (fun k cI57 cA57 s57 e57 hR57 f57 => WP_x (Fr3.trans F56 f57) (by first | (simp [decL, dcu, wpl_c, wpl_n, bnd_i, bnd_x, c15, e32, c15_, e48, c15__, e56, c15___, c15____, e57]; done) | simp_all [decL, dcu, wpl_c, wpl_n, bnd_i, bnd_x]) hR57)
            have F57 := Fr3.trans F56 f57
            refine ep_iload_n (j := 2) d_P_putDecimal_31 rfl rfl ?_
            refine ep_bipush (v := 10) d_P_putDecimal_32 (by decide) ?_
            refine ep_idiv d_P_putDecimal_34 (by decide) ?_
            refine ep_cg (y := 0) (by decide) ?_
            refine ep_istore_n (lv' := [(0, .ref 8), (1, .int n), (2, .int 0)]) [1, 2, 0] d_P_putDecimal_35 rfl (by decide) rfl ?_
            refine ep_goto (tgt := 3) d_P_putDecimal_36 (by decide) ?_
            refine ep_iload_n (j := 2) d_P_putDecimal_3 rfl rfl ?_
            refine ep_iconst (v := 1) d_P_putDecimal_4 (by decide) ?_
            refine ep_icmp_lt (tgt := 39) d_P_putDecimal_5 (by decide) (fun _ => ?_) (fun z => absurd (by decide) z)
            exact ep_vret d_P_putDecimal_39 rfl (WP_ok (f := fun _ : WS => none) (q := q57) F57 (by first | (simp [decL, dcu, wpl_c, wpl_n, bnd_i, bnd_x, c15, e32, c15_, e48, c15__, e56, c15___, c15____, e57]; done) | simp_all [decL, dcu, wpl_c, wpl_n, bnd_i, bnd_x]) hR57)
          · refine ep_aload_n (j := 0) d_P_putDecimal_18 rfl rfl ?_
            refine ep_bipush (v := 48) d_P_putDecimal_19 (by decide) ?_
            refine ep_iload_n (j := 1) d_P_putDecimal_21 rfl rfl ?_
            refine ep_iload_n (j := 2) d_P_putDecimal_22 rfl rfl ?_
            refine ep_idiv d_P_putDecimal_23 (by decide) ?_
            refine ep_bipush (v := 10) d_P_putDecimal_24 (by decide) ?_
            refine ep_irem d_P_putDecimal_26 (by decide) ?_
            refine ep_iadd d_P_putDecimal_27 ?_
            refine ep_callVw (As := [.int (48 + ((n / 10) - (n / 10) / 10 * 10))]) (st := []) d_P_putDecimal_28 lk_P_29 cal_P_put tm_P_put ts_P_put rfl rfl rfl (Nat.le_of_ble_eq_true rfl) (Nat.le_of_ble_eq_true rfl) rfl rfl (P_put hR56 (48 + ((n / 10) - (n / 10) / 10 * 10))) (fun q58 cI58 cA58 e58 hR58 f58 => ?_) (fun k cI58 cA58 s58 e58 hR58 f58 => WP_x (Fr3.trans F56 f58) (by first | (simp [decL, dcu, wpl_c, wpl_n, bnd_i, bnd_x, c15, e32, c15_, e48, c15__, e56, c15___, c15____, e58]; done) | simp_all [decL, dcu, wpl_c, wpl_n, bnd_i, bnd_x]) hR58)
            have F58 := Fr3.trans F56 f58
            refine ep_iload_n (j := 2) d_P_putDecimal_31 rfl rfl ?_
            refine ep_bipush (v := 10) d_P_putDecimal_32 (by decide) ?_
            refine ep_idiv d_P_putDecimal_34 (by decide) ?_
            refine ep_cg (y := 1) (by decide) ?_
            refine ep_istore_n (lv' := [(0, .ref 8), (1, .int n), (2, .int 1)]) [1, 2, 0] d_P_putDecimal_35 rfl (by decide) rfl ?_
            refine ep_goto (tgt := 3) d_P_putDecimal_36 (by decide) ?_
            refine ep_iload_n (j := 2) d_P_putDecimal_3 rfl rfl ?_
            refine ep_iconst (v := 1) d_P_putDecimal_4 (by decide) ?_
            refine ep_icmp_lt (tgt := 39) d_P_putDecimal_5 (by decide) (fun z => absurd z (by decide)) (fun _ => ?_)
            refine ep_iload_n (j := 2) d_P_putDecimal_8 rfl rfl ?_
            refine ep_iconst (v := 1) d_P_putDecimal_9 (by decide) ?_
            refine ep_icmp_eq (tgt := 18) d_P_putDecimal_10 (by decide) (fun _ => ?_) (fun z => absurd (by decide) z)
            refine ep_aload_n (j := 0) d_P_putDecimal_18 rfl rfl ?_
            refine ep_bipush (v := 48) d_P_putDecimal_19 (by decide) ?_
            refine ep_iload_n (j := 1) d_P_putDecimal_21 rfl rfl ?_
            refine ep_iload_n (j := 2) d_P_putDecimal_22 rfl rfl ?_
            refine ep_idiv d_P_putDecimal_23 (by decide) ?_
            refine ep_cg (y := n) (by simp) ?_
            refine ep_bipush (v := 10) d_P_putDecimal_24 (by decide) ?_
            refine ep_irem d_P_putDecimal_26 (by decide) ?_
            refine ep_iadd d_P_putDecimal_27 ?_
            refine ep_callVw (As := [.int (48 + (n - n / 10 * 10))]) (st := []) d_P_putDecimal_28 lk_P_29 cal_P_put tm_P_put ts_P_put rfl rfl rfl (Nat.le_of_ble_eq_true rfl) (Nat.le_of_ble_eq_true rfl) rfl rfl (P_put hR58 (48 + (n - n / 10 * 10))) (fun q59 cI59 cA59 e59 hR59 f59 => ?_) (fun k cI59 cA59 s59 e59 hR59 f59 => WP_x (Fr3.trans F58 f59) (by first | (simp [decL, dcu, wpl_c, wpl_n, bnd_i, bnd_x, c15, e32, c15_, e48, c15__, e56, c15___, c15____, e58, e59]; done) | simp_all [decL, dcu, wpl_c, wpl_n, bnd_i, bnd_x]) hR59)
            have F59 := Fr3.trans F58 f59
            refine ep_iload_n (j := 2) d_P_putDecimal_31 rfl rfl ?_
            refine ep_bipush (v := 10) d_P_putDecimal_32 (by decide) ?_
            refine ep_idiv d_P_putDecimal_34 (by decide) ?_
            refine ep_cg (y := 0) (by decide) ?_
            refine ep_istore_n (lv' := [(0, .ref 8), (1, .int n), (2, .int 0)]) [1, 2, 0] d_P_putDecimal_35 rfl (by decide) rfl ?_
            refine ep_goto (tgt := 3) d_P_putDecimal_36 (by decide) ?_
            refine ep_iload_n (j := 2) d_P_putDecimal_3 rfl rfl ?_
            refine ep_iconst (v := 1) d_P_putDecimal_4 (by decide) ?_
            refine ep_icmp_lt (tgt := 39) d_P_putDecimal_5 (by decide) (fun _ => ?_) (fun z => absurd (by decide) z)
            exact ep_vret d_P_putDecimal_39 rfl (WP_ok (f := fun _ : WS => none) (q := q59) F59 (by first | (simp [decL, dcu, wpl_c, wpl_n, bnd_i, bnd_x, c15, e32, c15_, e48, c15__, e56, c15___, c15____, e58, e59]; done) | simp_all [decL, dcu, wpl_c, wpl_n, bnd_i, bnd_x]) hR59)
        · refine ep_aload_n (j := 0) d_P_putDecimal_18 rfl rfl ?_
          refine ep_bipush (v := 48) d_P_putDecimal_19 (by decide) ?_
          refine ep_iload_n (j := 1) d_P_putDecimal_21 rfl rfl ?_
          refine ep_iload_n (j := 2) d_P_putDecimal_22 rfl rfl ?_
          refine ep_idiv d_P_putDecimal_23 (by decide) ?_
          refine ep_bipush (v := 10) d_P_putDecimal_24 (by decide) ?_
          refine ep_irem d_P_putDecimal_26 (by decide) ?_
          refine ep_iadd d_P_putDecimal_27 ?_
          refine ep_callVw (As := [.int (48 + ((n / 100) - (n / 100) / 10 * 10))]) (st := []) d_P_putDecimal_28 lk_P_29 cal_P_put tm_P_put ts_P_put rfl rfl rfl (Nat.le_of_ble_eq_true rfl) (Nat.le_of_ble_eq_true rfl) rfl rfl (P_put hR56 (48 + ((n / 100) - (n / 100) / 10 * 10))) (fun q60 cI60 cA60 e60 hR60 f60 => ?_) (fun k cI60 cA60 s60 e60 hR60 f60 => WP_x (Fr3.trans F56 f60) (by first | (simp [decL, dcu, wpl_c, wpl_n, bnd_i, bnd_x, c15, e32, c15_, e48, c15__, e56, c15___, e60]; done) | simp_all [decL, dcu, wpl_c, wpl_n, bnd_i, bnd_x]) hR60)
          have F60 := Fr3.trans F56 f60
          refine ep_iload_n (j := 2) d_P_putDecimal_31 rfl rfl ?_
          refine ep_bipush (v := 10) d_P_putDecimal_32 (by decide) ?_
          refine ep_idiv d_P_putDecimal_34 (by decide) ?_
          refine ep_cg (y := 10) (by decide) ?_
          refine ep_istore_n (lv' := [(0, .ref 8), (1, .int n), (2, .int 10)]) [1, 2, 0] d_P_putDecimal_35 rfl (by decide) rfl ?_
          refine ep_goto (tgt := 3) d_P_putDecimal_36 (by decide) ?_
          refine ep_iload_n (j := 2) d_P_putDecimal_3 rfl rfl ?_
          refine ep_iconst (v := 1) d_P_putDecimal_4 (by decide) ?_
          refine ep_icmp_lt (tgt := 39) d_P_putDecimal_5 (by decide) (fun z => absurd z (by decide)) (fun _ => ?_)
          refine ep_iload_n (j := 2) d_P_putDecimal_8 rfl rfl ?_
          refine ep_iconst (v := 1) d_P_putDecimal_9 (by decide) ?_
          refine ep_icmp_eq (tgt := 18) d_P_putDecimal_10 (by decide) (fun z => absurd z (by decide)) (fun _ => ?_)
          refine ep_iload_n (j := 1) d_P_putDecimal_13 rfl rfl ?_
          refine ep_iload_n (j := 2) d_P_putDecimal_14 rfl rfl ?_
          refine ep_icmp_lt (tgt := 31) d_P_putDecimal_15 (by decide) (fun c15____ => ?_) (fun c15____ => ?_)
          · refine ep_iload_n (j := 2) d_P_putDecimal_31 rfl rfl ?_
            refine ep_bipush (v := 10) d_P_putDecimal_32 (by decide) ?_
            refine ep_idiv d_P_putDecimal_34 (by decide) ?_
            refine ep_cg (y := 1) (by decide) ?_
            refine ep_istore_n (lv' := [(0, .ref 8), (1, .int n), (2, .int 1)]) [1, 2, 0] d_P_putDecimal_35 rfl (by decide) rfl ?_
            refine ep_goto (tgt := 3) d_P_putDecimal_36 (by decide) ?_
            refine ep_iload_n (j := 2) d_P_putDecimal_3 rfl rfl ?_
            refine ep_iconst (v := 1) d_P_putDecimal_4 (by decide) ?_
            refine ep_icmp_lt (tgt := 39) d_P_putDecimal_5 (by decide) (fun z => absurd z (by decide)) (fun _ => ?_)
            refine ep_iload_n (j := 2) d_P_putDecimal_8 rfl rfl ?_
            refine ep_iconst (v := 1) d_P_putDecimal_9 (by decide) ?_
            refine ep_icmp_eq (tgt := 18) d_P_putDecimal_10 (by decide) (fun _ => ?_) (fun z => absurd (by decide) z)
            refine ep_aload_n (j := 0) d_P_putDecimal_18 rfl rfl ?_
            refine ep_bipush (v := 48) d_P_putDecimal_19 (by decide) ?_
            refine ep_iload_n (j := 1) d_P_putDecimal_21 rfl rfl ?_
            refine ep_iload_n (j := 2) d_P_putDecimal_22 rfl rfl ?_
            refine ep_idiv d_P_putDecimal_23 (by decide) ?_
            refine ep_cg (y := n) (by simp) ?_
            refine ep_bipush (v := 10) d_P_putDecimal_24 (by decide) ?_
            refine ep_irem d_P_putDecimal_26 (by decide) ?_
            refine ep_iadd d_P_putDecimal_27 ?_
            refine ep_callVw (As := [.int (48 + (n - n / 10 * 10))]) (st := []) d_P_putDecimal_28 lk_P_29 cal_P_put tm_P_put ts_P_put rfl rfl rfl (Nat.le_of_ble_eq_true rfl) (Nat.le_of_ble_eq_true rfl) rfl rfl (P_put hR60 (48 + (n - n / 10 * 10))) (fun q61 cI61 cA61 e61 hR61 f61 => ?_) (fun k cI61 cA61 s61 e61 hR61 f61 => WP_x (Fr3.trans F60 f61) (by first | (simp [decL, dcu, wpl_c, wpl_n, bnd_i, bnd_x, c15, e32, c15_, e48, c15__, e56, c15___, e60, c15____, e61]; done) | simp_all [decL, dcu, wpl_c, wpl_n, bnd_i, bnd_x]) hR61)
            have F61 := Fr3.trans F60 f61
            refine ep_iload_n (j := 2) d_P_putDecimal_31 rfl rfl ?_
            refine ep_bipush (v := 10) d_P_putDecimal_32 (by decide) ?_
            refine ep_idiv d_P_putDecimal_34 (by decide) ?_
            refine ep_cg (y := 0) (by decide) ?_
            refine ep_istore_n (lv' := [(0, .ref 8), (1, .int n), (2, .int 0)]) [1, 2, 0] d_P_putDecimal_35 rfl (by decide) rfl ?_
            refine ep_goto (tgt := 3) d_P_putDecimal_36 (by decide) ?_
            refine ep_iload_n (j := 2) d_P_putDecimal_3 rfl rfl ?_
            refine ep_iconst (v := 1) d_P_putDecimal_4 (by decide) ?_
            refine ep_icmp_lt (tgt := 39) d_P_putDecimal_5 (by decide) (fun _ => ?_) (fun z => absurd (by decide) z)
            exact ep_vret d_P_putDecimal_39 rfl (WP_ok (f := fun _ : WS => none) (q := q61) F61 (by first | (simp [decL, dcu, wpl_c, wpl_n, bnd_i, bnd_x, c15, e32, c15_, e48, c15__, e56, c15___, e60, c15____, e61]; done) | simp_all [decL, dcu, wpl_c, wpl_n, bnd_i, bnd_x]) hR61)
          · refine ep_aload_n (j := 0) d_P_putDecimal_18 rfl rfl ?_
            refine ep_bipush (v := 48) d_P_putDecimal_19 (by decide) ?_
            refine ep_iload_n (j := 1) d_P_putDecimal_21 rfl rfl ?_
            refine ep_iload_n (j := 2) d_P_putDecimal_22 rfl rfl ?_
            refine ep_idiv d_P_putDecimal_23 (by decide) ?_
            refine ep_bipush (v := 10) d_P_putDecimal_24 (by decide) ?_
            refine ep_irem d_P_putDecimal_26 (by decide) ?_
            refine ep_iadd d_P_putDecimal_27 ?_
            refine ep_callVw (As := [.int (48 + ((n / 10) - (n / 10) / 10 * 10))]) (st := []) d_P_putDecimal_28 lk_P_29 cal_P_put tm_P_put ts_P_put rfl rfl rfl (Nat.le_of_ble_eq_true rfl) (Nat.le_of_ble_eq_true rfl) rfl rfl (P_put hR60 (48 + ((n / 10) - (n / 10) / 10 * 10))) (fun q62 cI62 cA62 e62 hR62 f62 => ?_) (fun k cI62 cA62 s62 e62 hR62 f62 => WP_x (Fr3.trans F60 f62) (by first | (simp [decL, dcu, wpl_c, wpl_n, bnd_i, bnd_x, c15, e32, c15_, e48, c15__, e56, c15___, e60, c15____, e62]; done) | simp_all [decL, dcu, wpl_c, wpl_n, bnd_i, bnd_x]) hR62)
            have F62 := Fr3.trans F60 f62
            refine ep_iload_n (j := 2) d_P_putDecimal_31 rfl rfl ?_
            refine ep_bipush (v := 10) d_P_putDecimal_32 (by decide) ?_
            refine ep_idiv d_P_putDecimal_34 (by decide) ?_
            refine ep_cg (y := 1) (by decide) ?_
            refine ep_istore_n (lv' := [(0, .ref 8), (1, .int n), (2, .int 1)]) [1, 2, 0] d_P_putDecimal_35 rfl (by decide) rfl ?_
            refine ep_goto (tgt := 3) d_P_putDecimal_36 (by decide) ?_
            refine ep_iload_n (j := 2) d_P_putDecimal_3 rfl rfl ?_
            refine ep_iconst (v := 1) d_P_putDecimal_4 (by decide) ?_
            refine ep_icmp_lt (tgt := 39) d_P_putDecimal_5 (by decide) (fun z => absurd z (by decide)) (fun _ => ?_)
            refine ep_iload_n (j := 2) d_P_putDecimal_8 rfl rfl ?_
            refine ep_iconst (v := 1) d_P_putDecimal_9 (by decide) ?_
            refine ep_icmp_eq (tgt := 18) d_P_putDecimal_10 (by decide) (fun _ => ?_) (fun z => absurd (by decide) z)
            refine ep_aload_n (j := 0) d_P_putDecimal_18 rfl rfl ?_
            refine ep_bipush (v := 48) d_P_putDecimal_19 (by decide) ?_
            refine ep_iload_n (j := 1) d_P_putDecimal_21 rfl rfl ?_
            refine ep_iload_n (j := 2) d_P_putDecimal_22 rfl rfl ?_
            refine ep_idiv d_P_putDecimal_23 (by decide) ?_
            refine ep_cg (y := n) (by simp) ?_
            refine ep_bipush (v := 10) d_P_putDecimal_24 (by decide) ?_
            refine ep_irem d_P_putDecimal_26 (by decide) ?_
            refine ep_iadd d_P_putDecimal_27 ?_
            refine ep_callVw (As := [.int (48 + (n - n / 10 * 10))]) (st := []) d_P_putDecimal_28 lk_P_29 cal_P_put tm_P_put ts_P_put rfl rfl rfl (Nat.le_of_ble_eq_true rfl) (Nat.le_of_ble_eq_true rfl) rfl rfl (P_put hR62 (48 + (n - n / 10 * 10))) (fun q63 cI63 cA63 e63 hR63 f63 => ?_) (fun k cI63 cA63 s63 e63 hR63 f63 => WP_x (Fr3.trans F62 f63) (by first | (simp [decL, dcu, wpl_c, wpl_n, bnd_i, bnd_x, c15, e32, c15_, e48, c15__, e56, c15___, e60, c15____, e62, e63]; done) | simp_all [decL, dcu, wpl_c, wpl_n, bnd_i, bnd_x]) hR63)
            have F63 := Fr3.trans F62 f63
            refine ep_iload_n (j := 2) d_P_putDecimal_31 rfl rfl ?_
            refine ep_bipush (v := 10) d_P_putDecimal_32 (by decide) ?_
            refine ep_idiv d_P_putDecimal_34 (by decide) ?_
            refine ep_cg (y := 0) (by decide) ?_
            refine ep_istore_n (lv' := [(0, .ref 8), (1, .int n), (2, .int 0)]) [1, 2, 0] d_P_putDecimal_35 rfl (by decide) rfl ?_
            refine ep_goto (tgt := 3) d_P_putDecimal_36 (by decide) ?_
            refine ep_iload_n (j := 2) d_P_putDecimal_3 rfl rfl ?_
            refine ep_iconst (v := 1) d_P_putDecimal_4 (by decide) ?_
            refine ep_icmp_lt (tgt := 39) d_P_putDecimal_5 (by decide) (fun _ => ?_) (fun z => absurd (by decide) z)
            exact ep_vret d_P_putDecimal_39 rfl (WP_ok (f := fun _ : WS => none) (q := q63) F63 (by first | (simp [decL, dcu, wpl_c, wpl_n, bnd_i, bnd_x, c15, e32, c15_, e48, c15__, e56, c15___, e60, c15____, e62, e63]; done) | simp_all [decL, dcu, wpl_c, wpl_n, bnd_i, bnd_x]) hR63)
set_option maxHeartbeats 4000000 in
set_option maxRecDepth 100000 in
theorem P_putId (hR : CW cI cA N s) (x : Int32) : EvP m_P_putId (d + 2) 0 [(0, .ref 8), (1, .int x)] [] (HC X cI cA rI rA ol J) (WPu X cI cA rI rA ol J N (wpl (idL (cN N x 1)) s)) := by
  refine ep_aload_n (j := 0) d_P_putId_0 rfl rfl ?_
  refine ep_getf (fi := 2) (v := .ref 2) d_P_putId_1 cl3 lf_P_21 (by decide) rfl rfl ?_
  refine ep_iload_n (j := 1) d_P_putId_4 rfl rfl ?_
  refine ep_iconst (v := 1) d_P_putId_5 (by decide) ?_
  refine ep_callVi (As := [.int x, .int 1]) (st := []) d_P_putId_6 lk_P_32 cal_D_cell tm_D_cell ts_D_cell rfl rfl rfl (Nat.le_of_ble_eq_true rfl) (Nat.le_of_ble_eq_true rfl) rfl rfl (D_cellN hR.1 _ 1 (by decide +kernel) (by decide)) ?_
  refine ep_istore_n (lv' := [(0, .ref 8), (1, .int x), (2, .int (cN N x 1))]) [1, 2, 0] d_P_putId_9 rfl (by decide) rfl ?_
  refine ep_iload_n (j := 2) d_P_putId_10 rfl rfl ?_
  refine ep_callSi (As := [.int (cN N x 1)]) (st := []) d_P_putId_11 (Or.inr ⟨_, lk_P_114⟩) cal_N_lengthOfId tm_N_lengthOfId ti_N rfl (Nat.le_of_ble_eq_true rfl) (Nat.le_of_ble_eq_true rfl) rfl rfl (N_lengthOfId _) ?_
  rcases lenId_or (cN N x 1) with e | e | e | e
  · refine ep_cg (y := 1) e ?_
    refine ep_istore_n (lv' := [(0, .ref 8), (1, .int x), (2, .int (cN N x 1)), (3, .int 1)]) [1, 2, 3, 0] d_P_putId_14 rfl (by decide) rfl ?_
    refine ep_aload_n (j := 0) d_P_putId_15 rfl rfl ?_
    refine ep_bipush (v := 48) d_P_putId_16 (by decide) ?_
    refine ep_iload_n (j := 3) d_P_putId_18 rfl rfl ?_
    refine ep_iadd d_P_putId_19 ?_
    refine ep_cg (y := 49) (by decide) ?_
    refine ep_callVw (As := [.int 49]) (st := []) d_P_putId_20 lk_P_29 cal_P_put tm_P_put ts_P_put rfl rfl rfl (Nat.le_of_ble_eq_true rfl) (Nat.le_of_ble_eq_true rfl) rfl rfl (P_put hR 49) (fun q1 cI1 cA1 e1 hR1 f1 => ?_) (fun k cI1 cA1 s1 e1 hR1 f1 => WP_x (Fr3.trans Fr3.rfl' f1) (by first | (simp [idL, e, wpl_c, wpl_n, bnd_i, bnd_x, e1]; done) | simp_all [idL, e, wpl_c, wpl_n, bnd_i, bnd_x]) hR1)
    have F1 := Fr3.trans Fr3.rfl' f1
    refine ep_iload_n (j := 3) d_P_putId_23 rfl rfl ?_
    refine ep_iconst (v := 1) d_P_putId_24 (by decide) ?_
    refine ep_isub d_P_putId_25 ?_
    refine ep_cg (y := 0) (by decide) ?_
    refine ep_istore (lv' := [(0, .ref 8), (1, .int x), (2, .int (cN N x 1)), (3, .int 1), (4, .int 0)]) [1, 2, 3, 4, 0] d_P_putId_26 (by decide) rfl ?_
    refine ep_iload (j := 4) d_P_putId_28 rfl ?_
    refine ep_if_lt (tgt := 54) d_P_putId_30 (by decide) (fun z => absurd z (by decide)) (fun _ => ?_)
    refine ep_aload_n (j := 0) d_P_putId_33 rfl rfl ?_
    refine ep_iload_n (j := 2) d_P_putId_34 rfl rfl ?_
    refine ep_bipush (v := 8) d_P_putId_35 (by decide) ?_
    refine ep_iload (j := 4) d_P_putId_37 rfl ?_
    refine ep_imul d_P_putId_39 ?_
    refine ep_cg (y := 0) (by decide) ?_
    refine ep_iushr d_P_putId_40 ?_
    refine ep_sipush (v := 255) d_P_putId_41 (by decide) ?_
    refine ep_iand d_P_putId_44 ?_
    refine ep_cg (y := byId (cN N x 1) 0) rfl ?_
    refine ep_callVw (As := [.int (byId (cN N x 1) 0)]) (st := []) d_P_putId_45 lk_P_29 cal_P_put tm_P_put ts_P_put rfl rfl rfl (Nat.le_of_ble_eq_true rfl) (Nat.le_of_ble_eq_true rfl) rfl rfl (P_put hR1 (byId (cN N x 1) 0)) (fun q2 cI2 cA2 e2 hR2 f2 => ?_) (fun k cI2 cA2 s2 e2 hR2 f2 => WP_x (Fr3.trans F1 f2) (by first | (simp [idL, e, wpl_c, wpl_n, bnd_i, bnd_x, e1, e2]; done) | simp_all [idL, e, wpl_c, wpl_n, bnd_i, bnd_x]) hR2)
    have F2 := Fr3.trans F1 f2
    refine ep_iinc (v := (-1)) (j := 4) (lv' := [(0, .ref 8), (1, .int x), (2, .int (cN N x 1)), (3, .int 1), (4, .int (-1))]) [1, 2, 3, 4, 0] d_P_putId_48 rfl (by decide) (by decide) rfl ?_
    refine ep_goto (tgt := 28) d_P_putId_51 (by decide) ?_
    refine ep_iload (j := 4) d_P_putId_28 rfl ?_
    refine ep_if_lt (tgt := 54) d_P_putId_30 (by decide) (fun _ => ?_) (fun z => absurd (by decide) z)
    exact ep_vret d_P_putId_54 rfl (WP_ok (f := fun _ : WS => none) (q := q2) F2 (by first | (simp [idL, e, wpl_c, wpl_n, bnd_i, bnd_x, e1, e2]; done) | simp_all [idL, e, wpl_c, wpl_n, bnd_i, bnd_x]) hR2)
  · refine ep_cg (y := 2) e ?_
    refine ep_istore_n (lv' := [(0, .ref 8), (1, .int x), (2, .int (cN N x 1)), (3, .int 2)]) [1, 2, 3, 0] d_P_putId_14 rfl (by decide) rfl ?_
    refine ep_aload_n (j := 0) d_P_putId_15 rfl rfl ?_
    refine ep_bipush (v := 48) d_P_putId_16 (by decide) ?_
    refine ep_iload_n (j := 3) d_P_putId_18 rfl rfl ?_
    refine ep_iadd d_P_putId_19 ?_
    refine ep_cg (y := 50) (by decide) ?_
    refine ep_callVw (As := [.int 50]) (st := []) d_P_putId_20 lk_P_29 cal_P_put tm_P_put ts_P_put rfl rfl rfl (Nat.le_of_ble_eq_true rfl) (Nat.le_of_ble_eq_true rfl) rfl rfl (P_put hR 50) (fun q1 cI1 cA1 e1 hR1 f1 => ?_) (fun k cI1 cA1 s1 e1 hR1 f1 => WP_x (Fr3.trans Fr3.rfl' f1) (by first | (simp [idL, e, wpl_c, wpl_n, bnd_i, bnd_x, e1]; done) | simp_all [idL, e, wpl_c, wpl_n, bnd_i, bnd_x]) hR1)
    have F1 := Fr3.trans Fr3.rfl' f1
    refine ep_iload_n (j := 3) d_P_putId_23 rfl rfl ?_
    refine ep_iconst (v := 1) d_P_putId_24 (by decide) ?_
    refine ep_isub d_P_putId_25 ?_
    refine ep_cg (y := 1) (by decide) ?_
    refine ep_istore (lv' := [(0, .ref 8), (1, .int x), (2, .int (cN N x 1)), (3, .int 2), (4, .int 1)]) [1, 2, 3, 4, 0] d_P_putId_26 (by decide) rfl ?_
    refine ep_iload (j := 4) d_P_putId_28 rfl ?_
    refine ep_if_lt (tgt := 54) d_P_putId_30 (by decide) (fun z => absurd z (by decide)) (fun _ => ?_)
    refine ep_aload_n (j := 0) d_P_putId_33 rfl rfl ?_
    refine ep_iload_n (j := 2) d_P_putId_34 rfl rfl ?_
    refine ep_bipush (v := 8) d_P_putId_35 (by decide) ?_
    refine ep_iload (j := 4) d_P_putId_37 rfl ?_
    refine ep_imul d_P_putId_39 ?_
    refine ep_cg (y := 8) (by decide) ?_
    refine ep_iushr d_P_putId_40 ?_
    refine ep_sipush (v := 255) d_P_putId_41 (by decide) ?_
    refine ep_iand d_P_putId_44 ?_
    refine ep_cg (y := byId (cN N x 1) 8) rfl ?_
    refine ep_callVw (As := [.int (byId (cN N x 1) 8)]) (st := []) d_P_putId_45 lk_P_29 cal_P_put tm_P_put ts_P_put rfl rfl rfl (Nat.le_of_ble_eq_true rfl) (Nat.le_of_ble_eq_true rfl) rfl rfl (P_put hR1 (byId (cN N x 1) 8)) (fun q2 cI2 cA2 e2 hR2 f2 => ?_) (fun k cI2 cA2 s2 e2 hR2 f2 => WP_x (Fr3.trans F1 f2) (by first | (simp [idL, e, wpl_c, wpl_n, bnd_i, bnd_x, e1, e2]; done) | simp_all [idL, e, wpl_c, wpl_n, bnd_i, bnd_x]) hR2)
    have F2 := Fr3.trans F1 f2
    refine ep_iinc (v := 0) (j := 4) (lv' := [(0, .ref 8), (1, .int x), (2, .int (cN N x 1)), (3, .int 2), (4, .int 0)]) [1, 2, 3, 4, 0] d_P_putId_48 rfl (by decide) (by decide) rfl ?_
    refine ep_goto (tgt := 28) d_P_putId_51 (by decide) ?_
    refine ep_iload (j := 4) d_P_putId_28 rfl ?_
    refine ep_if_lt (tgt := 54) d_P_putId_30 (by decide) (fun z => absurd z (by decide)) (fun _ => ?_)
    refine ep_aload_n (j := 0) d_P_putId_33 rfl rfl ?_
    refine ep_iload_n (j := 2) d_P_putId_34 rfl rfl ?_
    refine ep_bipush (v := 8) d_P_putId_35 (by decide) ?_
    refine ep_iload (j := 4) d_P_putId_37 rfl ?_
    refine ep_imul d_P_putId_39 ?_
    refine ep_cg (y := 0) (by decide) ?_
    refine ep_iushr d_P_putId_40 ?_
    refine ep_sipush (v := 255) d_P_putId_41 (by decide) ?_
    refine ep_iand d_P_putId_44 ?_
    refine ep_cg (y := byId (cN N x 1) 0) rfl ?_
    refine ep_callVw (As := [.int (byId (cN N x 1) 0)]) (st := []) d_P_putId_45 lk_P_29 cal_P_put tm_P_put ts_P_put rfl rfl rfl (Nat.le_of_ble_eq_true rfl) (Nat.le_of_ble_eq_true rfl) rfl rfl (P_put hR2 (byId (cN N x 1) 0)) (fun q3 cI3 cA3 e3 hR3 f3 => ?_) (fun k cI3 cA3 s3 e3 hR3 f3 => WP_x (Fr3.trans F2 f3) (by first | (simp [idL, e, wpl_c, wpl_n, bnd_i, bnd_x, e1, e2, e3]; done) | simp_all [idL, e, wpl_c, wpl_n, bnd_i, bnd_x]) hR3)
    have F3 := Fr3.trans F2 f3
    refine ep_iinc (v := (-1)) (j := 4) (lv' := [(0, .ref 8), (1, .int x), (2, .int (cN N x 1)), (3, .int 2), (4, .int (-1))]) [1, 2, 3, 4, 0] d_P_putId_48 rfl (by decide) (by decide) rfl ?_
    refine ep_goto (tgt := 28) d_P_putId_51 (by decide) ?_
    refine ep_iload (j := 4) d_P_putId_28 rfl ?_
    refine ep_if_lt (tgt := 54) d_P_putId_30 (by decide) (fun _ => ?_) (fun z => absurd (by decide) z)
    exact ep_vret d_P_putId_54 rfl (WP_ok (f := fun _ : WS => none) (q := q3) F3 (by first | (simp [idL, e, wpl_c, wpl_n, bnd_i, bnd_x, e1, e2, e3]; done) | simp_all [idL, e, wpl_c, wpl_n, bnd_i, bnd_x]) hR3)
  · refine ep_cg (y := 3) e ?_
    refine ep_istore_n (lv' := [(0, .ref 8), (1, .int x), (2, .int (cN N x 1)), (3, .int 3)]) [1, 2, 3, 0] d_P_putId_14 rfl (by decide) rfl ?_
    refine ep_aload_n (j := 0) d_P_putId_15 rfl rfl ?_
    refine ep_bipush (v := 48) d_P_putId_16 (by decide) ?_
    refine ep_iload_n (j := 3) d_P_putId_18 rfl rfl ?_
    refine ep_iadd d_P_putId_19 ?_
    refine ep_cg (y := 51) (by decide) ?_
    refine ep_callVw (As := [.int 51]) (st := []) d_P_putId_20 lk_P_29 cal_P_put tm_P_put ts_P_put rfl rfl rfl (Nat.le_of_ble_eq_true rfl) (Nat.le_of_ble_eq_true rfl) rfl rfl (P_put hR 51) (fun q1 cI1 cA1 e1 hR1 f1 => ?_) (fun k cI1 cA1 s1 e1 hR1 f1 => WP_x (Fr3.trans Fr3.rfl' f1) (by first | (simp [idL, e, wpl_c, wpl_n, bnd_i, bnd_x, e1]; done) | simp_all [idL, e, wpl_c, wpl_n, bnd_i, bnd_x]) hR1)
    have F1 := Fr3.trans Fr3.rfl' f1
    refine ep_iload_n (j := 3) d_P_putId_23 rfl rfl ?_
    refine ep_iconst (v := 1) d_P_putId_24 (by decide) ?_
    refine ep_isub d_P_putId_25 ?_
    refine ep_cg (y := 2) (by decide) ?_
    refine ep_istore (lv' := [(0, .ref 8), (1, .int x), (2, .int (cN N x 1)), (3, .int 3), (4, .int 2)]) [1, 2, 3, 4, 0] d_P_putId_26 (by decide) rfl ?_
    refine ep_iload (j := 4) d_P_putId_28 rfl ?_
    refine ep_if_lt (tgt := 54) d_P_putId_30 (by decide) (fun z => absurd z (by decide)) (fun _ => ?_)
    refine ep_aload_n (j := 0) d_P_putId_33 rfl rfl ?_
    refine ep_iload_n (j := 2) d_P_putId_34 rfl rfl ?_
    refine ep_bipush (v := 8) d_P_putId_35 (by decide) ?_
    refine ep_iload (j := 4) d_P_putId_37 rfl ?_
    refine ep_imul d_P_putId_39 ?_
    refine ep_cg (y := 16) (by decide) ?_
    refine ep_iushr d_P_putId_40 ?_
    refine ep_sipush (v := 255) d_P_putId_41 (by decide) ?_
    refine ep_iand d_P_putId_44 ?_
    refine ep_cg (y := byId (cN N x 1) 16) rfl ?_
    refine ep_callVw (As := [.int (byId (cN N x 1) 16)]) (st := []) d_P_putId_45 lk_P_29 cal_P_put tm_P_put ts_P_put rfl rfl rfl (Nat.le_of_ble_eq_true rfl) (Nat.le_of_ble_eq_true rfl) rfl rfl (P_put hR1 (byId (cN N x 1) 16)) (fun q2 cI2 cA2 e2 hR2 f2 => ?_) (fun k cI2 cA2 s2 e2 hR2 f2 => WP_x (Fr3.trans F1 f2) (by first | (simp [idL, e, wpl_c, wpl_n, bnd_i, bnd_x, e1, e2]; done) | simp_all [idL, e, wpl_c, wpl_n, bnd_i, bnd_x]) hR2)
    have F2 := Fr3.trans F1 f2
    refine ep_iinc (v := 1) (j := 4) (lv' := [(0, .ref 8), (1, .int x), (2, .int (cN N x 1)), (3, .int 3), (4, .int 1)]) [1, 2, 3, 4, 0] d_P_putId_48 rfl (by decide) (by decide) rfl ?_
    refine ep_goto (tgt := 28) d_P_putId_51 (by decide) ?_
    refine ep_iload (j := 4) d_P_putId_28 rfl ?_
    refine ep_if_lt (tgt := 54) d_P_putId_30 (by decide) (fun z => absurd z (by decide)) (fun _ => ?_)
    refine ep_aload_n (j := 0) d_P_putId_33 rfl rfl ?_
    refine ep_iload_n (j := 2) d_P_putId_34 rfl rfl ?_
    refine ep_bipush (v := 8) d_P_putId_35 (by decide) ?_
    refine ep_iload (j := 4) d_P_putId_37 rfl ?_
    refine ep_imul d_P_putId_39 ?_
    refine ep_cg (y := 8) (by decide) ?_
    refine ep_iushr d_P_putId_40 ?_
    refine ep_sipush (v := 255) d_P_putId_41 (by decide) ?_
    refine ep_iand d_P_putId_44 ?_
    refine ep_cg (y := byId (cN N x 1) 8) rfl ?_
    refine ep_callVw (As := [.int (byId (cN N x 1) 8)]) (st := []) d_P_putId_45 lk_P_29 cal_P_put tm_P_put ts_P_put rfl rfl rfl (Nat.le_of_ble_eq_true rfl) (Nat.le_of_ble_eq_true rfl) rfl rfl (P_put hR2 (byId (cN N x 1) 8)) (fun q3 cI3 cA3 e3 hR3 f3 => ?_) (fun k cI3 cA3 s3 e3 hR3 f3 => WP_x (Fr3.trans F2 f3) (by first | (simp [idL, e, wpl_c, wpl_n, bnd_i, bnd_x, e1, e2, e3]; done) | simp_all [idL, e, wpl_c, wpl_n, bnd_i, bnd_x]) hR3)
    have F3 := Fr3.trans F2 f3
    refine ep_iinc (v := 0) (j := 4) (lv' := [(0, .ref 8), (1, .int x), (2, .int (cN N x 1)), (3, .int 3), (4, .int 0)]) [1, 2, 3, 4, 0] d_P_putId_48 rfl (by decide) (by decide) rfl ?_
    refine ep_goto (tgt := 28) d_P_putId_51 (by decide) ?_
    refine ep_iload (j := 4) d_P_putId_28 rfl ?_
    refine ep_if_lt (tgt := 54) d_P_putId_30 (by decide) (fun z => absurd z (by decide)) (fun _ => ?_)
    refine ep_aload_n (j := 0) d_P_putId_33 rfl rfl ?_
    refine ep_iload_n (j := 2) d_P_putId_34 rfl rfl ?_
    refine ep_bipush (v := 8) d_P_putId_35 (by decide) ?_
    refine ep_iload (j := 4) d_P_putId_37 rfl ?_
    refine ep_imul d_P_putId_39 ?_
    refine ep_cg (y := 0) (by decide) ?_
    refine ep_iushr d_P_putId_40 ?_
    refine ep_sipush (v := 255) d_P_putId_41 (by decide) ?_
    refine ep_iand d_P_putId_44 ?_
    refine ep_cg (y := byId (cN N x 1) 0) rfl ?_
    refine ep_callVw (As := [.int (byId (cN N x 1) 0)]) (st := []) d_P_putId_45 lk_P_29 cal_P_put tm_P_put ts_P_put rfl rfl rfl (Nat.le_of_ble_eq_true rfl) (Nat.le_of_ble_eq_true rfl) rfl rfl (P_put hR3 (byId (cN N x 1) 0)) (fun q4 cI4 cA4 e4 hR4 f4 => ?_) (fun k cI4 cA4 s4 e4 hR4 f4 => WP_x (Fr3.trans F3 f4) (by first | (simp [idL, e, wpl_c, wpl_n, bnd_i, bnd_x, e1, e2, e3, e4]; done) | simp_all [idL, e, wpl_c, wpl_n, bnd_i, bnd_x]) hR4)
    have F4 := Fr3.trans F3 f4
    refine ep_iinc (v := (-1)) (j := 4) (lv' := [(0, .ref 8), (1, .int x), (2, .int (cN N x 1)), (3, .int 3), (4, .int (-1))]) [1, 2, 3, 4, 0] d_P_putId_48 rfl (by decide) (by decide) rfl ?_
    refine ep_goto (tgt := 28) d_P_putId_51 (by decide) ?_
    refine ep_iload (j := 4) d_P_putId_28 rfl ?_
    refine ep_if_lt (tgt := 54) d_P_putId_30 (by decide) (fun _ => ?_) (fun z => absurd (by decide) z)
    exact ep_vret d_P_putId_54 rfl (WP_ok (f := fun _ : WS => none) (q := q4) F4 (by first | (simp [idL, e, wpl_c, wpl_n, bnd_i, bnd_x, e1, e2, e3, e4]; done) | simp_all [idL, e, wpl_c, wpl_n, bnd_i, bnd_x]) hR4)
  · refine ep_cg (y := 4) e ?_
    refine ep_istore_n (lv' := [(0, .ref 8), (1, .int x), (2, .int (cN N x 1)), (3, .int 4)]) [1, 2, 3, 0] d_P_putId_14 rfl (by decide) rfl ?_
    refine ep_aload_n (j := 0) d_P_putId_15 rfl rfl ?_
    refine ep_bipush (v := 48) d_P_putId_16 (by decide) ?_
    refine ep_iload_n (j := 3) d_P_putId_18 rfl rfl ?_
    refine ep_iadd d_P_putId_19 ?_
    refine ep_cg (y := 52) (by decide) ?_
    refine ep_callVw (As := [.int 52]) (st := []) d_P_putId_20 lk_P_29 cal_P_put tm_P_put ts_P_put rfl rfl rfl (Nat.le_of_ble_eq_true rfl) (Nat.le_of_ble_eq_true rfl) rfl rfl (P_put hR 52) (fun q1 cI1 cA1 e1 hR1 f1 => ?_) (fun k cI1 cA1 s1 e1 hR1 f1 => WP_x (Fr3.trans Fr3.rfl' f1) (by first | (simp [idL, e, wpl_c, wpl_n, bnd_i, bnd_x, e1]; done) | simp_all [idL, e, wpl_c, wpl_n, bnd_i, bnd_x]) hR1)
    have F1 := Fr3.trans Fr3.rfl' f1
    refine ep_iload_n (j := 3) d_P_putId_23 rfl rfl ?_
    refine ep_iconst (v := 1) d_P_putId_24 (by decide) ?_
    refine ep_isub d_P_putId_25 ?_
    refine ep_cg (y := 3) (by decide) ?_
    refine ep_istore (lv' := [(0, .ref 8), (1, .int x), (2, .int (cN N x 1)), (3, .int 4), (4, .int 3)]) [1, 2, 3, 4, 0] d_P_putId_26 (by decide) rfl ?_
    refine ep_iload (j := 4) d_P_putId_28 rfl ?_
    refine ep_if_lt (tgt := 54) d_P_putId_30 (by decide) (fun z => absurd z (by decide)) (fun _ => ?_)
    refine ep_aload_n (j := 0) d_P_putId_33 rfl rfl ?_
    refine ep_iload_n (j := 2) d_P_putId_34 rfl rfl ?_
    refine ep_bipush (v := 8) d_P_putId_35 (by decide) ?_
    refine ep_iload (j := 4) d_P_putId_37 rfl ?_
    refine ep_imul d_P_putId_39 ?_
    refine ep_cg (y := 24) (by decide) ?_
    refine ep_iushr d_P_putId_40 ?_
    refine ep_sipush (v := 255) d_P_putId_41 (by decide) ?_
    refine ep_iand d_P_putId_44 ?_
    refine ep_cg (y := byId (cN N x 1) 24) rfl ?_
    refine ep_callVw (As := [.int (byId (cN N x 1) 24)]) (st := []) d_P_putId_45 lk_P_29 cal_P_put tm_P_put ts_P_put rfl rfl rfl (Nat.le_of_ble_eq_true rfl) (Nat.le_of_ble_eq_true rfl) rfl rfl (P_put hR1 (byId (cN N x 1) 24)) (fun q2 cI2 cA2 e2 hR2 f2 => ?_) (fun k cI2 cA2 s2 e2 hR2 f2 => WP_x (Fr3.trans F1 f2) (by first | (simp [idL, e, wpl_c, wpl_n, bnd_i, bnd_x, e1, e2]; done) | simp_all [idL, e, wpl_c, wpl_n, bnd_i, bnd_x]) hR2)
    have F2 := Fr3.trans F1 f2
    refine ep_iinc (v := 2) (j := 4) (lv' := [(0, .ref 8), (1, .int x), (2, .int (cN N x 1)), (3, .int 4), (4, .int 2)]) [1, 2, 3, 4, 0] d_P_putId_48 rfl (by decide) (by decide) rfl ?_
    refine ep_goto (tgt := 28) d_P_putId_51 (by decide) ?_
    refine ep_iload (j := 4) d_P_putId_28 rfl ?_
    refine ep_if_lt (tgt := 54) d_P_putId_30 (by decide) (fun z => absurd z (by decide)) (fun _ => ?_)
    refine ep_aload_n (j := 0) d_P_putId_33 rfl rfl ?_
    refine ep_iload_n (j := 2) d_P_putId_34 rfl rfl ?_
    refine ep_bipush (v := 8) d_P_putId_35 (by decide) ?_
    refine ep_iload (j := 4) d_P_putId_37 rfl ?_
    refine ep_imul d_P_putId_39 ?_
    refine ep_cg (y := 16) (by decide) ?_
    refine ep_iushr d_P_putId_40 ?_
    refine ep_sipush (v := 255) d_P_putId_41 (by decide) ?_
    refine ep_iand d_P_putId_44 ?_
    refine ep_cg (y := byId (cN N x 1) 16) rfl ?_
    refine ep_callVw (As := [.int (byId (cN N x 1) 16)]) (st := []) d_P_putId_45 lk_P_29 cal_P_put tm_P_put ts_P_put rfl rfl rfl (Nat.le_of_ble_eq_true rfl) (Nat.le_of_ble_eq_true rfl) rfl rfl (P_put hR2 (byId (cN N x 1) 16)) (fun q3 cI3 cA3 e3 hR3 f3 => ?_) (fun k cI3 cA3 s3 e3 hR3 f3 => WP_x (Fr3.trans F2 f3) (by first | (simp [idL, e, wpl_c, wpl_n, bnd_i, bnd_x, e1, e2, e3]; done) | simp_all [idL, e, wpl_c, wpl_n, bnd_i, bnd_x]) hR3)
    have F3 := Fr3.trans F2 f3
    refine ep_iinc (v := 1) (j := 4) (lv' := [(0, .ref 8), (1, .int x), (2, .int (cN N x 1)), (3, .int 4), (4, .int 1)]) [1, 2, 3, 4, 0] d_P_putId_48 rfl (by decide) (by decide) rfl ?_
    refine ep_goto (tgt := 28) d_P_putId_51 (by decide) ?_
    refine ep_iload (j := 4) d_P_putId_28 rfl ?_
    refine ep_if_lt (tgt := 54) d_P_putId_30 (by decide) (fun z => absurd z (by decide)) (fun _ => ?_)
    refine ep_aload_n (j := 0) d_P_putId_33 rfl rfl ?_
    refine ep_iload_n (j := 2) d_P_putId_34 rfl rfl ?_
    refine ep_bipush (v := 8) d_P_putId_35 (by decide) ?_
    refine ep_iload (j := 4) d_P_putId_37 rfl ?_
    refine ep_imul d_P_putId_39 ?_
    refine ep_cg (y := 8) (by decide) ?_
    refine ep_iushr d_P_putId_40 ?_
    refine ep_sipush (v := 255) d_P_putId_41 (by decide) ?_
    refine ep_iand d_P_putId_44 ?_
    refine ep_cg (y := byId (cN N x 1) 8) rfl ?_
    refine ep_callVw (As := [.int (byId (cN N x 1) 8)]) (st := []) d_P_putId_45 lk_P_29 cal_P_put tm_P_put ts_P_put rfl rfl rfl (Nat.le_of_ble_eq_true rfl) (Nat.le_of_ble_eq_true rfl) rfl rfl (P_put hR3 (byId (cN N x 1) 8)) (fun q4 cI4 cA4 e4 hR4 f4 => ?_) (fun k cI4 cA4 s4 e4 hR4 f4 => WP_x (Fr3.trans F3 f4) (by first | (simp [idL, e, wpl_c, wpl_n, bnd_i, bnd_x, e1, e2, e3, e4]; done) | simp_all [idL, e, wpl_c, wpl_n, bnd_i, bnd_x]) hR4)
    have F4 := Fr3.trans F3 f4
    refine ep_iinc (v := 0) (j := 4) (lv' := [(0, .ref 8), (1, .int x), (2, .int (cN N x 1)), (3, .int 4), (4, .int 0)]) [1, 2, 3, 4, 0] d_P_putId_48 rfl (by decide) (by decide) rfl ?_
    refine ep_goto (tgt := 28) d_P_putId_51 (by decide) ?_
    refine ep_iload (j := 4) d_P_putId_28 rfl ?_
    refine ep_if_lt (tgt := 54) d_P_putId_30 (by decide) (fun z => absurd z (by decide)) (fun _ => ?_)
    refine ep_aload_n (j := 0) d_P_putId_33 rfl rfl ?_
    refine ep_iload_n (j := 2) d_P_putId_34 rfl rfl ?_
    refine ep_bipush (v := 8) d_P_putId_35 (by decide) ?_
    refine ep_iload (j := 4) d_P_putId_37 rfl ?_
    refine ep_imul d_P_putId_39 ?_
    refine ep_cg (y := 0) (by decide) ?_
    refine ep_iushr d_P_putId_40 ?_
    refine ep_sipush (v := 255) d_P_putId_41 (by decide) ?_
    refine ep_iand d_P_putId_44 ?_
    refine ep_cg (y := byId (cN N x 1) 0) rfl ?_
    refine ep_callVw (As := [.int (byId (cN N x 1) 0)]) (st := []) d_P_putId_45 lk_P_29 cal_P_put tm_P_put ts_P_put rfl rfl rfl (Nat.le_of_ble_eq_true rfl) (Nat.le_of_ble_eq_true rfl) rfl rfl (P_put hR4 (byId (cN N x 1) 0)) (fun q5 cI5 cA5 e5 hR5 f5 => ?_) (fun k cI5 cA5 s5 e5 hR5 f5 => WP_x (Fr3.trans F4 f5) (by first | (simp [idL, e, wpl_c, wpl_n, bnd_i, bnd_x, e1, e2, e3, e4, e5]; done) | simp_all [idL, e, wpl_c, wpl_n, bnd_i, bnd_x]) hR5)
    have F5 := Fr3.trans F4 f5
    refine ep_iinc (v := (-1)) (j := 4) (lv' := [(0, .ref 8), (1, .int x), (2, .int (cN N x 1)), (3, .int 4), (4, .int (-1))]) [1, 2, 3, 4, 0] d_P_putId_48 rfl (by decide) (by decide) rfl ?_
    refine ep_goto (tgt := 28) d_P_putId_51 (by decide) ?_
    refine ep_iload (j := 4) d_P_putId_28 rfl ?_
    refine ep_if_lt (tgt := 54) d_P_putId_30 (by decide) (fun _ => ?_) (fun z => absurd (by decide) z)
    exact ep_vret d_P_putId_54 rfl (WP_ok (f := fun _ : WS => none) (q := q5) F5 (by first | (simp [idL, e, wpl_c, wpl_n, bnd_i, bnd_x, e1, e2, e3, e4, e5]; done) | simp_all [idL, e, wpl_c, wpl_n, bnd_i, bnd_x]) hR5)
theorem chix {v : Int32} {m : Nat} {n : Int32} (hn : n = nI m) (hm : m < 1000) (h0 : ¬ v < 0) (h1 : ¬ n ≤ v) : v = nI v.toNatClampNeg ∧ v.toNatClampNeg < m := by
  obtain ⟨j, hj, e⟩ := nI_of' (Int32.not_lt.mp h0)
  have : v.toNatClampNeg = j := by rw [e, nI_clamp hj]
  rw [this]
  exact ⟨e, (nI_ltI hj (by omega)).mp (by rw [← e, ← hn]; exact Int32.not_le.mp h1)⟩
set_option maxHeartbeats 4000000 in
set_option maxRecDepth 100000 in
theorem P_putBuiltin (hR : CW cI cA N s) (x : Int32) : EvP m_P_putBuiltin (d + 4) 0 [(0, .ref 8), (1, .int x)] [] (HC X cI cA rI rA ol J) (WPu X cI cA rI rA ol J N (wpl (blL (cN N x 1)) s)) := by
  refine ep_aload_n (j := 0) d_P_putBuiltin_0 rfl rfl ?_
  refine ep_getf (fi := 2) (v := .ref 2) d_P_putBuiltin_1 cl3 lf_P_21 (by decide) rfl rfl ?_
  refine ep_iload_n (j := 1) d_P_putBuiltin_4 rfl rfl ?_
  refine ep_iconst (v := 1) d_P_putBuiltin_5 (by decide) ?_
  refine ep_callVi (As := [.int x, .int 1]) (st := []) d_P_putBuiltin_6 lk_P_32 cal_D_cell tm_D_cell ts_D_cell rfl rfl rfl (Nat.le_of_ble_eq_true rfl) (Nat.le_of_ble_eq_true rfl) rfl rfl (D_cellN hR.1 _ 1 (by decide +kernel) (by decide)) ?_
  refine ep_istore_n (lv' := [(0, .ref 8), (1, .int x), (2, .int (cN N x 1))]) [1, 2, 0] d_P_putBuiltin_9 rfl (by decide) rfl ?_
  refine ep_iload_n (j := 2) d_P_putBuiltin_10 rfl rfl ?_
  refine ep_if_lt (tgt := 33) d_P_putBuiltin_11 (by decide) (fun c11 => ?_) (fun c11 => ?_)
  · exact ep_vret d_P_putBuiltin_33 rfl (WP_ok (f := fun _ : WS => none) (q := s) Fr3.rfl' (by first | (simp [blL, wpl_c, wpl_n, bnd_i, bnd_x, c11]; done) | simp_all [blL, wpl_c, wpl_n, bnd_i, bnd_x]) hR)
  · refine ep_iload_n (j := 2) d_P_putBuiltin_14 rfl rfl ?_
    refine ep_ldcS (i := 0) (tx := "vbcsijlx") d_P_putBuiltin_15 (by decide +kernel) ?_
    refine ep_strLen (i := 0) (n := 8) (st := [.int (cN N x 1)]) d_P_putBuiltin_17 lk_P_102 (by decide) rfl (Nat.le_of_ble_eq_true rfl) rfl ?_
    refine ep_cg (y := 8) (by decide +kernel) ?_
    refine ep_icmp_ge (tgt := 33) d_P_putBuiltin_20 (by decide) (fun c20 => ?_) (fun c20 => ?_)
    · exact ep_vret d_P_putBuiltin_33 rfl (WP_ok (f := fun _ : WS => none) (q := s) Fr3.rfl' (by first | (simp [blL, wpl_c, wpl_n, bnd_i, bnd_x, c11, c20]; done) | simp_all [blL, wpl_c, wpl_n, bnd_i, bnd_x]) hR)
    · refine ep_aload_n (j := 0) d_P_putBuiltin_23 rfl rfl ?_
      refine ep_ldcS (i := 0) (tx := "vbcsijlx") d_P_putBuiltin_24 (by decide +kernel) ?_
      refine ep_iload_n (j := 2) d_P_putBuiltin_26 rfl rfl ?_
      refine ep_strChr (i := 0) (n := 8) (j := (cN N x 1).toNatClampNeg) (st := [.ref 8]) d_P_putBuiltin_27 lk_P_108 (by decide) rfl ((chix (m := 8) (by decide +kernel) (by decide) c11 c20).1) ((chix (m := 8) (by decide +kernel) (by decide) c11 c20).2) (Nat.le_of_ble_eq_true rfl) rfl ?_
      refine ep_callVw (As := [.int (stCh 0 ((cN N x 1).toNatClampNeg))]) (st := []) d_P_putBuiltin_30 lk_P_29 cal_P_put tm_P_put ts_P_put rfl rfl rfl (Nat.le_of_ble_eq_true rfl) (Nat.le_of_ble_eq_true rfl) rfl rfl (P_put hR (stCh 0 ((cN N x 1).toNatClampNeg))) (fun q1 cI1 cA1 e1 hR1 f1 => ?_) (fun k cI1 cA1 s1 e1 hR1 f1 => WP_x (Fr3.trans Fr3.rfl' f1) (by first | (simp [blL, wpl_c, wpl_n, bnd_i, bnd_x, c11, c20, e1]; done) | simp_all [blL, wpl_c, wpl_n, bnd_i, bnd_x]) hR1)
      have F1 := Fr3.trans Fr3.rfl' f1
      exact ep_vret d_P_putBuiltin_33 rfl (WP_ok (f := fun _ : WS => none) (q := q1) F1 (by first | (simp [blL, wpl_c, wpl_n, bnd_i, bnd_x, c11, c20, e1]; done) | simp_all [blL, wpl_c, wpl_n, bnd_i, bnd_x]) hR1)
set_option maxHeartbeats 4000000 in
set_option maxRecDepth 100000 in
theorem P_putWrapping (hR : CW cI cA N s) (k : Int32) : EvP m_P_putWrapping (d + 4) 0 [(0, .ref 8), (1, .int k)] [] (HC X cI cA rI rA ol J) (WPu X cI cA rI rA ol J N (wpl (wrL k) s)) := by
  refine ep_iload_n (j := 1) d_P_putWrapping_0 rfl rfl ?_
  refine ep_iconst (v := 4) d_P_putWrapping_1 (by decide) ?_
  refine ep_isub d_P_putWrapping_2 ?_
  refine ep_istore_n (lv' := [(0, .ref 8), (1, .int k), (2, .int (k - 4))]) [1, 2, 0] d_P_putWrapping_3 rfl (by decide) rfl ?_
  refine ep_iload_n (j := 2) d_P_putWrapping_4 rfl rfl ?_
  refine ep_if_lt (tgt := 27) d_P_putWrapping_5 (by decide) (fun c5 => ?_) (fun c5 => ?_)
  · exact ep_vret d_P_putWrapping_27 rfl (WP_ok (f := fun _ : WS => none) (q := s) Fr3.rfl' (by first | (simp [wrL, wpl_c, wpl_n, bnd_i, bnd_x, c5]; done) | simp_all [wrL, wpl_c, wpl_n, bnd_i, bnd_x]) hR)
  · refine ep_iload_n (j := 2) d_P_putWrapping_8 rfl rfl ?_
    refine ep_ldcS (i := 1) (tx := "PRK") d_P_putWrapping_9 (by decide +kernel) ?_
    refine ep_strLen (i := 1) (n := 3) (st := [.int (k - 4)]) d_P_putWrapping_11 lk_P_102 (by decide) rfl (Nat.le_of_ble_eq_true rfl) rfl ?_
    refine ep_cg (y := 3) (by decide +kernel) ?_
    refine ep_icmp_ge (tgt := 27) d_P_putWrapping_14 (by decide) (fun c14 => ?_) (fun c14 => ?_)
    · exact ep_vret d_P_putWrapping_27 rfl (WP_ok (f := fun _ : WS => none) (q := s) Fr3.rfl' (by first | (simp [wrL, wpl_c, wpl_n, bnd_i, bnd_x, c5, c14]; done) | simp_all [wrL, wpl_c, wpl_n, bnd_i, bnd_x]) hR)
    · refine ep_aload_n (j := 0) d_P_putWrapping_17 rfl rfl ?_
      refine ep_ldcS (i := 1) (tx := "PRK") d_P_putWrapping_18 (by decide +kernel) ?_
      refine ep_iload_n (j := 2) d_P_putWrapping_20 rfl rfl ?_
      refine ep_strChr (i := 1) (n := 3) (j := (k - 4).toNatClampNeg) (st := [.ref 8]) d_P_putWrapping_21 lk_P_108 (by decide) rfl ((chix (m := 3) (by decide +kernel) (by decide) c5 c14).1) ((chix (m := 3) (by decide +kernel) (by decide) c5 c14).2) (Nat.le_of_ble_eq_true rfl) rfl ?_
      refine ep_callVw (As := [.int (stCh 1 ((k - 4).toNatClampNeg))]) (st := []) d_P_putWrapping_24 lk_P_29 cal_P_put tm_P_put ts_P_put rfl rfl rfl (Nat.le_of_ble_eq_true rfl) (Nat.le_of_ble_eq_true rfl) rfl rfl (P_put hR (stCh 1 ((k - 4).toNatClampNeg))) (fun q1 cI1 cA1 e1 hR1 f1 => ?_) (fun k cI1 cA1 s1 e1 hR1 f1 => WP_x (Fr3.trans Fr3.rfl' f1) (by first | (simp [wrL, wpl_c, wpl_n, bnd_i, bnd_x, c5, c14, e1]; done) | simp_all [wrL, wpl_c, wpl_n, bnd_i, bnd_x]) hR1)
      have F1 := Fr3.trans Fr3.rfl' f1
      exact ep_vret d_P_putWrapping_27 rfl (WP_ok (f := fun _ : WS => none) (q := q1) F1 (by first | (simp [wrL, wpl_c, wpl_n, bnd_i, bnd_x, c5, c14, e1]; done) | simp_all [wrL, wpl_c, wpl_n, bnd_i, bnd_x]) hR1)
set_option maxHeartbeats 4000000 in
set_option maxRecDepth 100000 in
theorem P_putLiteral (hR : CW cI cA N s) (x : Int32) : EvP m_P_putLiteral (d + 5) 0 [(0, .ref 8), (1, .int x)] [] (HC X cI cA rI rA ol J) (WPu X cI cA rI rA ol J N (wpl (litL N x) s)) := by
  refine ep_aload_n (j := 0) d_P_putLiteral_0 rfl rfl ?_
  refine ep_getf (fi := 2) (v := .ref 2) d_P_putLiteral_1 cl3 lf_P_21 (by decide) rfl rfl ?_
  refine ep_iload_n (j := 1) d_P_putLiteral_4 rfl rfl ?_
  refine ep_iconst (v := 1) d_P_putLiteral_5 (by decide) ?_
  refine ep_callVi (As := [.int x, .int 1]) (st := []) d_P_putLiteral_6 lk_P_32 cal_D_cell tm_D_cell ts_D_cell rfl rfl rfl (Nat.le_of_ble_eq_true rfl) (Nat.le_of_ble_eq_true rfl) rfl rfl (D_cellN hR.1 _ 1 (by decide +kernel) (by decide)) ?_
  refine ep_istore_n (lv' := [(0, .ref 8), (1, .int x), (2, .int (cN N x 1))]) [1, 2, 0] d_P_putLiteral_9 rfl (by decide) rfl ?_
  refine ep_aload_n (j := 0) d_P_putLiteral_10 rfl rfl ?_
  refine ep_bipush (v := 76) d_P_putLiteral_11 (by decide) ?_
  refine ep_callVw (As := [.int 76]) (st := []) d_P_putLiteral_13 lk_P_29 cal_P_put tm_P_put ts_P_put rfl rfl rfl (Nat.le_of_ble_eq_true rfl) (Nat.le_of_ble_eq_true rfl) rfl rfl (P_put hR 76) (fun q1 cI1 cA1 e1 hR1 f1 => ?_) (fun k cI1 cA1 s1 e1 hR1 f1 => WP_x (Fr3.trans Fr3.rfl' f1) (by first | (simp [litL, wpl_c, wpl_n, wpl_app, wpl_1, bnd_i, bnd_x, e1]; done) | simp_all [litL, wpl_c, wpl_n, wpl_app, wpl_1, bnd_i, bnd_x]) hR1)
  have F1 := Fr3.trans Fr3.rfl' f1
  refine ep_aload_n (j := 0) d_P_putLiteral_16 rfl rfl ?_
  refine ep_aload_n (j := 0) d_P_putLiteral_17 rfl rfl ?_
  refine ep_getf (fi := 2) (v := .ref 2) d_P_putLiteral_18 cl3 lf_P_21 (by decide) rfl rfl ?_
  refine ep_iload_n (j := 1) d_P_putLiteral_21 rfl rfl ?_
  refine ep_iconst (v := 2) d_P_putLiteral_22 (by decide) ?_
  refine ep_callVi (As := [.int x, .int 2]) (st := [.ref 8]) d_P_putLiteral_23 lk_P_32 cal_D_cell tm_D_cell ts_D_cell rfl rfl rfl (Nat.le_of_ble_eq_true rfl) (Nat.le_of_ble_eq_true rfl) rfl rfl (D_cellN hR1.1 _ 2 (by decide +kernel) (by decide)) ?_
  refine ep_callVw (As := [.int (cN N x 2)]) (st := []) d_P_putLiteral_26 lk_P_63 cal_P_putBuiltin tm_P_putBuiltin ts_P_putBuiltin rfl rfl rfl (Nat.le_of_ble_eq_true rfl) (Nat.le_of_ble_eq_true rfl) rfl rfl (P_putBuiltin hR1 (cN N x 2)) (fun q2 cI2 cA2 e2 hR2 f2 => ?_) (fun k cI2 cA2 s2 e2 hR2 f2 => WP_x (Fr3.trans F1 f2) (by first | (simp [litL, wpl_c, wpl_n, wpl_app, wpl_1, bnd_i, bnd_x, e1, e2]; done) | simp_all [litL, wpl_c, wpl_n, wpl_app, wpl_1, bnd_i, bnd_x]) hR2)
  have F2 := Fr3.trans F1 f2
  refine ep_iload_n (j := 2) d_P_putLiteral_29 rfl rfl ?_
  refine ep_if_ge (tgt := 39) d_P_putLiteral_30 (by decide) (fun c30 => ?_) (fun c30 => ?_)
  · refine ep_aload_n (j := 0) d_P_putLiteral_39 rfl rfl ?_
    refine ep_iload_n (j := 2) d_P_putLiteral_40 rfl rfl ?_
    refine ep_mabs d_P_putLiteral_41 lk_P_95 tm_J_abs ti_JM tc_J_abs (Nat.le_of_ble_eq_true rfl) ?_
    refine ep_cg (y := abF (cN N x 1)) rfl ?_
    refine ep_callVw (As := [.int (abF (cN N x 1))]) (st := []) d_P_putLiteral_44 lk_P_87 cal_P_putDecimal tm_P_putDecimal ts_P_putDecimal rfl rfl rfl (Nat.le_of_ble_eq_true rfl) (Nat.le_of_ble_eq_true rfl) rfl rfl (P_putDecimal hR2 (abF (cN N x 1))) (fun q3 cI3 cA3 e3 hR3 f3 => ?_) (fun k cI3 cA3 s3 e3 hR3 f3 => WP_x (Fr3.trans F2 f3) (by first | (simp [litL, wpl_c, wpl_n, wpl_app, wpl_1, bnd_i, bnd_x, e1, e2, c30, e3]; done) | simp_all [litL, wpl_c, wpl_n, wpl_app, wpl_1, bnd_i, bnd_x]) hR3)
    have F3 := Fr3.trans F2 f3
    refine ep_aload_n (j := 0) d_P_putLiteral_47 rfl rfl ?_
    refine ep_bipush (v := 69) d_P_putLiteral_48 (by decide) ?_
    refine ep_callVw (As := [.int 69]) (st := []) d_P_putLiteral_50 lk_P_29 cal_P_put tm_P_put ts_P_put rfl rfl rfl (Nat.le_of_ble_eq_true rfl) (Nat.le_of_ble_eq_true rfl) rfl rfl (P_put hR3 69) (fun q4 cI4 cA4 e4 hR4 f4 => ?_) (fun k cI4 cA4 s4 e4 hR4 f4 => WP_x (Fr3.trans F3 f4) (by first | (simp [litL, wpl_c, wpl_n, wpl_app, wpl_1, bnd_i, bnd_x, e1, e2, c30, e3, e4]; done) | simp_all [litL, wpl_c, wpl_n, wpl_app, wpl_1, bnd_i, bnd_x]) hR4)
    have F4 := Fr3.trans F3 f4
    exact ep_vret d_P_putLiteral_53 rfl (WP_ok (f := fun _ : WS => none) (q := q4) F4 (by first | (simp [litL, wpl_c, wpl_n, wpl_app, wpl_1, bnd_i, bnd_x, e1, e2, c30, e3, e4]; done) | simp_all [litL, wpl_c, wpl_n, wpl_app, wpl_1, bnd_i, bnd_x]) hR4)
  · refine ep_aload_n (j := 0) d_P_putLiteral_33 rfl rfl ?_
    refine ep_bipush (v := 110) d_P_putLiteral_34 (by decide) ?_
    refine ep_callVw (As := [.int 110]) (st := []) d_P_putLiteral_36 lk_P_29 cal_P_put tm_P_put ts_P_put rfl rfl rfl (Nat.le_of_ble_eq_true rfl) (Nat.le_of_ble_eq_true rfl) rfl rfl (P_put hR2 110) (fun q5 cI5 cA5 e5 hR5 f5 => ?_) (fun k cI5 cA5 s5 e5 hR5 f5 => WP_x (Fr3.trans F2 f5) (by first | (simp [litL, wpl_c, wpl_n, wpl_app, wpl_1, bnd_i, bnd_x, e1, e2, c30, e5]; done) | simp_all [litL, wpl_c, wpl_n, wpl_app, wpl_1, bnd_i, bnd_x]) hR5)
    have F5 := Fr3.trans F2 f5
    refine ep_aload_n (j := 0) d_P_putLiteral_39 rfl rfl ?_
    refine ep_iload_n (j := 2) d_P_putLiteral_40 rfl rfl ?_
    refine ep_mabs d_P_putLiteral_41 lk_P_95 tm_J_abs ti_JM tc_J_abs (Nat.le_of_ble_eq_true rfl) ?_
    refine ep_cg (y := abF (cN N x 1)) rfl ?_
    refine ep_callVw (As := [.int (abF (cN N x 1))]) (st := []) d_P_putLiteral_44 lk_P_87 cal_P_putDecimal tm_P_putDecimal ts_P_putDecimal rfl rfl rfl (Nat.le_of_ble_eq_true rfl) (Nat.le_of_ble_eq_true rfl) rfl rfl (P_putDecimal hR5 (abF (cN N x 1))) (fun q6 cI6 cA6 e6 hR6 f6 => ?_) (fun k cI6 cA6 s6 e6 hR6 f6 => WP_x (Fr3.trans F5 f6) (by first | (simp [litL, wpl_c, wpl_n, wpl_app, wpl_1, bnd_i, bnd_x, e1, e2, c30, e5, e6]; done) | simp_all [litL, wpl_c, wpl_n, wpl_app, wpl_1, bnd_i, bnd_x]) hR6)
    have F6 := Fr3.trans F5 f6
    refine ep_aload_n (j := 0) d_P_putLiteral_47 rfl rfl ?_
    refine ep_bipush (v := 69) d_P_putLiteral_48 (by decide) ?_
    refine ep_callVw (As := [.int 69]) (st := []) d_P_putLiteral_50 lk_P_29 cal_P_put tm_P_put ts_P_put rfl rfl rfl (Nat.le_of_ble_eq_true rfl) (Nat.le_of_ble_eq_true rfl) rfl rfl (P_put hR6 69) (fun q7 cI7 cA7 e7 hR7 f7 => ?_) (fun k cI7 cA7 s7 e7 hR7 f7 => WP_x (Fr3.trans F6 f7) (by first | (simp [litL, wpl_c, wpl_n, wpl_app, wpl_1, bnd_i, bnd_x, e1, e2, c30, e5, e6, e7]; done) | simp_all [litL, wpl_c, wpl_n, wpl_app, wpl_1, bnd_i, bnd_x]) hR7)
    have F7 := Fr3.trans F6 f7
    exact ep_vret d_P_putLiteral_53 rfl (WP_ok (f := fun _ : WS => none) (q := q7) F7 (by first | (simp [litL, wpl_c, wpl_n, wpl_app, wpl_1, bnd_i, bnd_x, e1, e2, c30, e5, e6, e7]; done) | simp_all [litL, wpl_c, wpl_n, wpl_app, wpl_1, bnd_i, bnd_x]) hR7)
end WR
