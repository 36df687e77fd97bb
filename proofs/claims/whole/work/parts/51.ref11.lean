/-! the reference: whole types, what is scoped; by program (wip/whole/gen51.py) -/
section MS9
variable {d : Nat} {X : Nat × (Nat → Int32)} {cI : Nat → Int32} {cA : Nat → Nat → Int32} {rI : Nat → Int32} {rA : Nat → Nat → Int32} {ol : Int64} {J : mH} {L S : List Int32} {ct : Nat} {s : MS}
set_option maxHeartbeats 4000000 in
set_option maxRecDepth 100000 in
theorem M_wt_l {q u : IM} (h : Lp L q u) : ∀ {rI : Nat → Int32} {rA : Nat → Nat → Int32}, MD L S ct rI rA q.2 → EvP m_M_wholeType (d + 9) 9 [(0, .ref 16), (1, .int 1), (2, .int q.1)] [] (HC X cI cA rI rA ol J) (MPi X cI cA ol J L S ct u) := by
  induction h using Lp.ind with
  | @fin q hf =>
    intro rI rA hd
    cases hw : q.2.wr with
    | true =>
      refine ep_aload_n (j := 0) d_M_wholeType_9 rfl rfl ?_
      refine ep_getf (fi := 24) (v := .int (bI q.2.wr)) d_M_wholeType_10 cl5 lf_M_171 (by decide) rfl (congrArg (fun z => some (Value.int z)) hd.w) ?_
      refine ep_if_ne (tgt := 52) d_M_wholeType_13 (by decide) (fun _ => ?_) (fun z => absurd z (by rw [hw]; decide))
      refine ep_iload_n (j := 2) d_M_wholeType_52 rfl rfl ?_
      exact ep_iret d_M_wholeType_53 rfl rfl (MP_ok rfl rfl hd)
    | false =>
      obtain ⟨h0, hK⟩ := hf.resolve_left (by rw [hw]; decide)
      refine ep_aload_n (j := 0) d_M_wholeType_9 rfl rfl ?_
      refine ep_getf (fi := 24) (v := .int (bI q.2.wr)) d_M_wholeType_10 cl5 lf_M_171 (by decide) rfl (congrArg (fun z => some (Value.int z)) hd.w) ?_
      refine ep_if_ne (tgt := 52) d_M_wholeType_13 (by decide) (fun z => absurd (by rw [hw]; rfl) z) (fun _ => ?_)
      refine ep_iload_n (j := 2) d_M_wholeType_16 rfl rfl ?_
      refine ep_if_lt (tgt := 28) d_M_wholeType_17 (by decide) (fun z => absurd z (Int32.not_lt.mpr h0)) (fun _ => ?_)
      refine ep_aload_n (j := 0) d_M_wholeType_20 rfl rfl ?_
      refine ep_getf (fi := 18) (v := .int (nI (q.2.K.length + 1))) d_M_wholeType_21 cl5 lf_M_120 (by decide) rfl (congrArg (fun z => some (Value.int z)) hd.tz) ?_
      refine ep_iload_n (j := 1) d_M_wholeType_24 rfl rfl ?_
      refine ep_icmp_le (tgt := 52) d_M_wholeType_25 (by decide) (fun _ => ?_) (fun z => absurd (by rw [hK]; decide) z)
      refine ep_iload_n (j := 2) d_M_wholeType_52 rfl rfl ?_
      exact ep_iret d_M_wholeType_53 rfl rfl (MP_ok rfl rfl hd)
  | @rd q r t u hw h0 g hR hS _ ih =>
    intro rI rA hd
    refine ep_aload_n (j := 0) d_M_wholeType_9 rfl rfl ?_
    refine ep_getf (fi := 24) (v := .int (bI q.2.wr)) d_M_wholeType_10 cl5 lf_M_171 (by decide) rfl (congrArg (fun z => some (Value.int z)) hd.w) ?_
    refine ep_if_ne (tgt := 52) d_M_wholeType_13 (by decide) (fun z => absurd (by rw [hw]; rfl) z) (fun _ => ?_)
    refine ep_iload_n (j := 2) d_M_wholeType_16 rfl rfl ?_
    refine ep_if_lt (tgt := 28) d_M_wholeType_17 (by decide) (fun _ => ?_) (fun z => absurd h0 z)
    refine ep_aload_n (j := 0) d_M_wholeType_28 rfl rfl ?_
    refine ep_iload_n (j := 2) d_M_wholeType_29 rfl rfl ?_
    refine ep_if_ge (tgt := 40) d_M_wholeType_30 (by decide) (fun z => absurd z (Int32.not_le.mpr h0)) (fun _ => ?_)
    refine ep_aload_n (j := 0) d_M_wholeType_33 rfl rfl ?_
    refine ep_callVm (As := []) (st := [.ref 16]) d_M_wholeType_34 lk_M_233 cal_M_readType tm_M_readType ts_M_readType rfl rfl rfl (Nat.le_of_ble_eq_true rfl) (Nat.le_of_ble_eq_true rfl) rfl rfl (M_readType hR hd g hw) (fun rI1 rA1 hd1 => ?_)
    refine ep_goto (tgt := 45) d_M_wholeType_37 (by decide) ?_
    refine ep_callVm (As := [.int r.1]) (st := []) d_M_wholeType_45 lk_M_236 cal_M_settle tm_M_settle ts_M_settle rfl rfl rfl (Nat.le_of_ble_eq_true rfl) (Nat.le_of_ble_eq_true rfl) rfl rfl (M_settle (n := r.1) hS hd1) (fun rI2 rA2 hd2 => ?_)
    refine ep_istore_n (lv' := [(0, .ref 16), (1, .int 1), (2, .int t.1)]) [1, 2, 0] d_M_wholeType_48 rfl (by decide) rfl ?_
    refine ep_goto (tgt := 9) d_M_wholeType_49 (by decide) ?_
    exact ih hd2
  | @tk q t u hw h0 hk g hV h8 hS _ ih =>
    intro rI rA hd
    obtain ⟨f, K, eK⟩ : ∃ f K, q.2.K = f :: K := by
      cases h : q.2.K with
      | nil => exact absurd h hk
      | cons f K => exact ⟨f, K, rfl⟩
    have htop : ¬ nI (K.length + 2) ≤ 1 := by
      have := g.k
      rw [eK] at this
      simp only [List.length_cons] at this
      rw [show (1 : Int32) = nI 1 from by decide]
      exact fun z => absurd ((nI_leI (by omega) (by omega)).mp z) (by omega)
    refine ep_aload_n (j := 0) d_M_wholeType_9 rfl rfl ?_
    refine ep_getf (fi := 24) (v := .int (bI q.2.wr)) d_M_wholeType_10 cl5 lf_M_171 (by decide) rfl (congrArg (fun z => some (Value.int z)) hd.w) ?_
    refine ep_if_ne (tgt := 52) d_M_wholeType_13 (by decide) (fun z => absurd (by rw [hw]; rfl) z) (fun _ => ?_)
    refine ep_iload_n (j := 2) d_M_wholeType_16 rfl rfl ?_
    refine ep_if_lt (tgt := 28) d_M_wholeType_17 (by decide) (fun z => absurd z (Int32.not_lt.mpr h0)) (fun _ => ?_)
    refine ep_aload_n (j := 0) d_M_wholeType_20 rfl rfl ?_
    refine ep_getf (fi := 18) (v := .int (nI (K.length + 2))) d_M_wholeType_21 cl5 lf_M_120 (by decide) rfl (congrArg (fun z => some (Value.int z)) (hd.top eK).2.2) ?_
    refine ep_iload_n (j := 1) d_M_wholeType_24 rfl rfl ?_
    refine ep_icmp_le (tgt := 52) d_M_wholeType_25 (by decide) (fun z => absurd z htop) (fun _ => ?_)
    refine ep_aload_n (j := 0) d_M_wholeType_28 rfl rfl ?_
    refine ep_iload_n (j := 2) d_M_wholeType_29 rfl rfl ?_
    refine ep_if_ge (tgt := 40) d_M_wholeType_30 (by decide) (fun _ => ?_) (fun z => absurd h0 z)
    refine ep_aload_n (j := 0) d_M_wholeType_40 rfl rfl ?_
    refine ep_iload_n (j := 2) d_M_wholeType_41 rfl rfl ?_
    refine ep_callVm (As := [.int q.1]) (st := [.ref 16]) d_M_wholeType_42 lk_M_239 cal_M_take tm_M_take ts_M_take rfl rfl rfl (Nat.le_of_ble_eq_true rfl) (Nat.le_of_ble_eq_true rfl) rfl rfl (M_take hd eK hw g q.1 hV (h8 f K eK)) (fun rI1 rA1 hd1 => ?_)
    refine ep_callVm (As := [.int ((mTk L q.1 q.2).1)]) (st := []) d_M_wholeType_45 lk_M_236 cal_M_settle tm_M_settle ts_M_settle rfl rfl rfl (Nat.le_of_ble_eq_true rfl) (Nat.le_of_ble_eq_true rfl) rfl rfl (M_settle (n := (mTk L q.1 q.2).1) hS hd1) (fun rI2 rA2 hd2 => ?_)
    refine ep_istore_n (lv' := [(0, .ref 16), (1, .int 1), (2, .int t.1)]) [1, 2, 0] d_M_wholeType_48 rfl (by decide) rfl ?_
    refine ep_goto (tgt := 9) d_M_wholeType_49 (by decide) ?_
    exact ih hd2
set_option maxHeartbeats 4000000 in
set_option maxRecDepth 100000 in
theorem M_sc_l {q u : IM} (h : Lp L q u) : ∀ {rI : Nat → Int32} {rA : Nat → Nat → Int32}, MD L S ct rI rA q.2 → EvP m_M_scoped (d + 9) 73 [(0, .ref 16), (1, .int q.1)] [] (HC X cI cA rI rA ol J) (MPi X cI cA ol J L S ct u) := by
  induction h using Lp.ind with
  | @fin q hf =>
    intro rI rA hd
    cases hw : q.2.wr with
    | true =>
      refine ep_aload_n (j := 0) d_M_scoped_73 rfl rfl ?_
      refine ep_getf (fi := 24) (v := .int (bI q.2.wr)) d_M_scoped_74 cl5 lf_M_171 (by decide) rfl (congrArg (fun z => some (Value.int z)) hd.w) ?_
      refine ep_if_ne (tgt := 116) d_M_scoped_77 (by decide) (fun _ => ?_) (fun z => absurd z (by rw [hw]; decide))
      refine ep_iload_n (j := 1) d_M_scoped_116 rfl rfl ?_
      exact ep_iret d_M_scoped_117 rfl rfl (MP_ok rfl rfl hd)
    | false =>
      obtain ⟨h0, hK⟩ := hf.resolve_left (by rw [hw]; decide)
      refine ep_aload_n (j := 0) d_M_scoped_73 rfl rfl ?_
      refine ep_getf (fi := 24) (v := .int (bI q.2.wr)) d_M_scoped_74 cl5 lf_M_171 (by decide) rfl (congrArg (fun z => some (Value.int z)) hd.w) ?_
      refine ep_if_ne (tgt := 116) d_M_scoped_77 (by decide) (fun z => absurd (by rw [hw]; rfl) z) (fun _ => ?_)
      refine ep_iload_n (j := 1) d_M_scoped_80 rfl rfl ?_
      refine ep_if_lt (tgt := 92) d_M_scoped_81 (by decide) (fun z => absurd z (Int32.not_lt.mpr h0)) (fun _ => ?_)
      refine ep_aload_n (j := 0) d_M_scoped_84 rfl rfl ?_
      refine ep_getf (fi := 18) (v := .int (nI (q.2.K.length + 1))) d_M_scoped_85 cl5 lf_M_120 (by decide) rfl (congrArg (fun z => some (Value.int z)) hd.tz) ?_
      refine ep_iconst (v := 1) d_M_scoped_88 (by decide) ?_
      refine ep_icmp_le (tgt := 116) d_M_scoped_89 (by decide) (fun _ => ?_) (fun z => absurd (by rw [hK]; decide) z)
      refine ep_iload_n (j := 1) d_M_scoped_116 rfl rfl ?_
      exact ep_iret d_M_scoped_117 rfl rfl (MP_ok rfl rfl hd)
  | @rd q r t u hw h0 g hR hS _ ih =>
    intro rI rA hd
    refine ep_aload_n (j := 0) d_M_scoped_73 rfl rfl ?_
    refine ep_getf (fi := 24) (v := .int (bI q.2.wr)) d_M_scoped_74 cl5 lf_M_171 (by decide) rfl (congrArg (fun z => some (Value.int z)) hd.w) ?_
    refine ep_if_ne (tgt := 116) d_M_scoped_77 (by decide) (fun z => absurd (by rw [hw]; rfl) z) (fun _ => ?_)
    refine ep_iload_n (j := 1) d_M_scoped_80 rfl rfl ?_
    refine ep_if_lt (tgt := 92) d_M_scoped_81 (by decide) (fun _ => ?_) (fun z => absurd h0 z)
    refine ep_aload_n (j := 0) d_M_scoped_92 rfl rfl ?_
    refine ep_iload_n (j := 1) d_M_scoped_93 rfl rfl ?_
    refine ep_if_ge (tgt := 104) d_M_scoped_94 (by decide) (fun z => absurd z (Int32.not_le.mpr h0)) (fun _ => ?_)
    refine ep_aload_n (j := 0) d_M_scoped_97 rfl rfl ?_
    refine ep_callVm (As := []) (st := [.ref 16]) d_M_scoped_98 lk_M_233 cal_M_readType tm_M_readType ts_M_readType rfl rfl rfl (Nat.le_of_ble_eq_true rfl) (Nat.le_of_ble_eq_true rfl) rfl rfl (M_readType hR hd g hw) (fun rI1 rA1 hd1 => ?_)
    refine ep_goto (tgt := 109) d_M_scoped_101 (by decide) ?_
    refine ep_callVm (As := [.int r.1]) (st := []) d_M_scoped_109 lk_M_236 cal_M_settle tm_M_settle ts_M_settle rfl rfl rfl (Nat.le_of_ble_eq_true rfl) (Nat.le_of_ble_eq_true rfl) rfl rfl (M_settle (n := r.1) hS hd1) (fun rI2 rA2 hd2 => ?_)
    refine ep_istore_n (lv' := [(0, .ref 16), (1, .int t.1)]) [1, 0] d_M_scoped_112 rfl (by decide) rfl ?_
    refine ep_goto (tgt := 73) d_M_scoped_113 (by decide) ?_
    exact ih hd2
  | @tk q t u hw h0 hk g hV h8 hS _ ih =>
    intro rI rA hd
    obtain ⟨f, K, eK⟩ : ∃ f K, q.2.K = f :: K := by
      cases h : q.2.K with
      | nil => exact absurd h hk
      | cons f K => exact ⟨f, K, rfl⟩
    have htop : ¬ nI (K.length + 2) ≤ 1 := by
      have := g.k
      rw [eK] at this
      simp only [List.length_cons] at this
      rw [show (1 : Int32) = nI 1 from by decide]
      exact fun z => absurd ((nI_leI (by omega) (by omega)).mp z) (by omega)
    refine ep_aload_n (j := 0) d_M_scoped_73 rfl rfl ?_
    refine ep_getf (fi := 24) (v := .int (bI q.2.wr)) d_M_scoped_74 cl5 lf_M_171 (by decide) rfl (congrArg (fun z => some (Value.int z)) hd.w) ?_
    refine ep_if_ne (tgt := 116) d_M_scoped_77 (by decide) (fun z => absurd (by rw [hw]; rfl) z) (fun _ => ?_)
    refine ep_iload_n (j := 1) d_M_scoped_80 rfl rfl ?_
    refine ep_if_lt (tgt := 92) d_M_scoped_81 (by decide) (fun z => absurd z (Int32.not_lt.mpr h0)) (fun _ => ?_)
    refine ep_aload_n (j := 0) d_M_scoped_84 rfl rfl ?_
    refine ep_getf (fi := 18) (v := .int (nI (K.length + 2))) d_M_scoped_85 cl5 lf_M_120 (by decide) rfl (congrArg (fun z => some (Value.int z)) (hd.top eK).2.2) ?_
    refine ep_iconst (v := 1) d_M_scoped_88 (by decide) ?_
    refine ep_icmp_le (tgt := 116) d_M_scoped_89 (by decide) (fun z => absurd z htop) (fun _ => ?_)
    refine ep_aload_n (j := 0) d_M_scoped_92 rfl rfl ?_
    refine ep_iload_n (j := 1) d_M_scoped_93 rfl rfl ?_
    refine ep_if_ge (tgt := 104) d_M_scoped_94 (by decide) (fun _ => ?_) (fun z => absurd h0 z)
    refine ep_aload_n (j := 0) d_M_scoped_104 rfl rfl ?_
    refine ep_iload_n (j := 1) d_M_scoped_105 rfl rfl ?_
    refine ep_callVm (As := [.int q.1]) (st := [.ref 16]) d_M_scoped_106 lk_M_239 cal_M_take tm_M_take ts_M_take rfl rfl rfl (Nat.le_of_ble_eq_true rfl) (Nat.le_of_ble_eq_true rfl) rfl rfl (M_take hd eK hw g q.1 hV (h8 f K eK)) (fun rI1 rA1 hd1 => ?_)
    refine ep_callVm (As := [.int ((mTk L q.1 q.2).1)]) (st := []) d_M_scoped_109 lk_M_236 cal_M_settle tm_M_settle ts_M_settle rfl rfl rfl (Nat.le_of_ble_eq_true rfl) (Nat.le_of_ble_eq_true rfl) rfl rfl (M_settle (n := (mTk L q.1 q.2).1) hS hd1) (fun rI2 rA2 hd2 => ?_)
    refine ep_istore_n (lv' := [(0, .ref 16), (1, .int t.1)]) [1, 0] d_M_scoped_112 rfl (by decide) rfl ?_
    refine ep_goto (tgt := 73) d_M_scoped_113 (by decide) ?_
    exact ih hd2
set_option maxHeartbeats 4000000 in
set_option maxRecDepth 100000 in
theorem M_wholeType {q : IM} (h : Lp L (-1, s) q) (hw : s.wr = false) (hd : MD L S ct rI rA s) : EvP m_M_wholeType (d + 9) 0 [(0, .ref 16), (1, .int 1)] [] (HC X cI cA rI rA ol J) (MPi X cI cA ol J L S ct q) := by
  cases h using Lp.ind with
  | fin hf =>
    rcases hf with hf | hf
    · exact absurd (hw.symm.trans hf) (by decide)
    · exact absurd hf.1 (show ¬ (0 : Int32) ≤ -1 by decide)
  | tk _ h0 _ _ _ _ _ _ => exact absurd h0 (show ¬ (0 : Int32) ≤ -1 by decide)
  | @rd _ r t _ hw h0 g hR hS hL =>
    refine ep_aload_n (j := 0) d_M_wholeType_0 rfl rfl ?_
    refine ep_aload_n (j := 0) d_M_wholeType_1 rfl rfl ?_
    refine ep_callVm (As := []) (st := [.ref 16]) d_M_wholeType_2 lk_M_233 cal_M_readType tm_M_readType ts_M_readType rfl rfl rfl (Nat.le_of_ble_eq_true rfl) (Nat.le_of_ble_eq_true rfl) rfl rfl (M_readType hR hd g hw) (fun rI1 rA1 hd1 => ?_)
    refine ep_callVm (As := [.int r.1]) (st := []) d_M_wholeType_5 lk_M_236 cal_M_settle tm_M_settle ts_M_settle rfl rfl rfl (Nat.le_of_ble_eq_true rfl) (Nat.le_of_ble_eq_true rfl) rfl rfl (M_settle (n := r.1) hS hd1) (fun rI2 rA2 hd2 => ?_)
    refine ep_istore_n (lv' := [(0, .ref 16), (1, .int 1), (2, .int t.1)]) [1, 2, 0] d_M_wholeType_8 rfl (by decide) rfl ?_
    exact M_wt_l hL hd2
set_option maxHeartbeats 4000000 in
set_option maxRecDepth 100000 in
theorem M_scoped {q : IM} (h : SC L s q) (g : Gd L s) (hw : s.wr = false) (hd : MD L S ct rI rA s) : EvP m_M_scoped (d + 9) 0 [(0, .ref 16)] [] (HC X cI cA rI rA ol J) (MPi X cI cA ol J L S ct q) := by
  have hl := g.n
  have he := g.e
  have hk := g.k
  have hp := g.p
  have hL := g.l
  rcases h with ⟨hN, r, t, hNN, hS, hLp⟩ | ⟨hN, t, hC, hLp⟩
  · refine ep_iconst (v := (-1)) d_M_scoped_0 (by decide) ?_
    refine ep_istore_n (lv' := [(0, .ref 16), (1, .int (-1))]) [1, 0] d_M_scoped_1 rfl (by decide) rfl ?_
    refine ep_aload_n (j := 0) d_M_scoped_2 rfl rfl ?_
    refine ep_callVi (As := []) (st := []) d_M_scoped_3 lk_M_174 cal_M_peek tm_M_peek ts_M_peek rfl rfl rfl (Nat.le_of_ble_eq_true rfl) (Nat.le_of_ble_eq_true rfl) rfl rfl (M_peek hd (by omega)) ?_
    refine ep_bipush (v := 78) d_M_scoped_6 (by decide) ?_
    refine ep_icmp_ne (tgt := 33) d_M_scoped_8 (by decide) (fun z => absurd hN z) (fun _ => ?_)
    refine ep_aload_n (j := 0) d_M_scoped_11 rfl rfl ?_
    refine ep_dup d_M_scoped_12 rfl ?_
    refine ep_getf (fi := 23) (v := .int (nI s.p)) d_M_scoped_13 cl5 lf_M_168 (by decide) rfl (congrArg (fun z => some (Value.int z)) hd.p) ?_
    refine ep_iconst (v := 1) d_M_scoped_16 (by decide) ?_
    refine ep_iadd d_M_scoped_17 ?_
    refine ep_putf' (fi := 23) (h2 := HC X cI cA (upd rI 23 ((nI s.p) + 1)) rA ol J) d_M_scoped_18 cl5 lf_M_168 (by decide) (Or.inl rfl) rfl rfl hI_16_23 ?_
    have hd1 : MD L S ct (upd rI 23 ((nI s.p) + 1)) rA (mAv s 1) := hd.sp (q := (s.p + 1)) (nI_1 _)
    generalize upd rI 23 ((nI s.p) + 1) = rI1 at hd1 ⊢
    refine ep_aload_n (j := 0) d_M_scoped_21 rfl rfl ?_
    refine ep_aload_n (j := 0) d_M_scoped_22 rfl rfl ?_
    refine ep_callVm (As := []) (st := [.ref 16]) d_M_scoped_23 lk_M_214 cal_M_beginNest tm_M_beginNest ts_M_beginNest rfl rfl rfl (Nat.le_of_ble_eq_true rfl) (Nat.le_of_ble_eq_true rfl) rfl rfl (M_beginNest hNN hd1 (by show s.p + 1 ≤ 130; omega) (by show s.K.length ≤ 300; omega) (by show s.N.length ≤ 280; omega) (by show s.E.length ≤ 300; omega) g.v) (fun rI2 rA2 hd2 => ?_)
    refine ep_callVm (As := [.int r.1]) (st := []) d_M_scoped_26 lk_M_236 cal_M_settle tm_M_settle ts_M_settle rfl rfl rfl (Nat.le_of_ble_eq_true rfl) (Nat.le_of_ble_eq_true rfl) rfl rfl (M_settle (n := r.1) hS hd2) (fun rI3 rA3 hd3 => ?_)
    refine ep_istore_n (lv' := [(0, .ref 16), (1, .int t.1)]) [1, 0] d_M_scoped_29 rfl (by decide) rfl ?_
    refine ep_goto (tgt := 73) d_M_scoped_30 (by decide) ?_
    exact M_sc_l hLp hd3
  · refine ep_iconst (v := (-1)) d_M_scoped_0 (by decide) ?_
    refine ep_istore_n (lv' := [(0, .ref 16), (1, .int (-1))]) [1, 0] d_M_scoped_1 rfl (by decide) rfl ?_
    refine ep_aload_n (j := 0) d_M_scoped_2 rfl rfl ?_
    refine ep_callVi (As := []) (st := []) d_M_scoped_3 lk_M_174 cal_M_peek tm_M_peek ts_M_peek rfl rfl rfl (Nat.le_of_ble_eq_true rfl) (Nat.le_of_ble_eq_true rfl) rfl rfl (M_peek hd (by omega)) ?_
    refine ep_bipush (v := 78) d_M_scoped_6 (by decide) ?_
    refine ep_icmp_ne (tgt := 33) d_M_scoped_8 (by decide) (fun _ => ?_) (fun z => absurd z hN)
    refine ep_aload_n (j := 0) d_M_scoped_33 rfl rfl ?_
    refine ep_aload_n (j := 0) d_M_scoped_34 rfl rfl ?_
    refine ep_callVm (As := []) (st := [.ref 16]) d_M_scoped_35 lk_M_205 cal_M_readId tm_M_readId ts_M_readId rfl rfl rfl (Nat.le_of_ble_eq_true rfl) (Nat.le_of_ble_eq_true rfl) rfl rfl (M_readId hd (by omega)) (fun rI1 rA1 hd1 => ?_)
    generalize hy : mId L s = y at hd1 hC ⊢
    have yN : y.2.N = s.N ∧ y.2.K = s.K ∧ y.2.E = s.E := by rw [← hy]; exact ⟨mId_N.1, mId_N.2.1, mId_N.2.2.1⟩
    have yp : y.2.p ≤ 400 := by rw [← hy]; have := mId_pb (L := L) (s := s); omega
    have yq : y.2.wr = false → y.2.p ≤ L.length := by rw [← hy]; exact mId_p hp
    refine ep_callVm (As := [.int y.1]) (st := []) d_M_scoped_38 lk_M_208 cal_M_makeName tm_M_makeName ts_M_makeName rfl rfl rfl (Nat.le_of_ble_eq_true rfl) (Nat.le_of_ble_eq_true rfl) rfl rfl (M_makeName hd1 (by rw [yN.1]; omega) y.1) (fun rI2 rA2 hd2 => ?_)
    generalize hz : mNm y.1 y.2 = z at hd2 hC ⊢
    have zp : z.2.p = y.2.p := by rw [← hz]; exact mMk_p _ _ _ _ _ _ _ _
    have zK : z.2.K = s.K ∧ z.2.N.length ≤ s.N.length + 1 ∧ z.2.E = s.E := by rw [← hz]; refine ⟨(mMk_K _ _ _ _ _ _ _ _).trans yN.2.1, ?_, (mMk_E _ _ _ _ _ _ _ _).trans yN.2.2⟩; have := mMk_N 1 y.1 (-1) (-1) (-1) (-1) (-1) y.2; rw [yN.1] at this; exact this
    have zV : z.2.wr = false → Vd z.2.N z.1 ∧ z.2.p ≤ L.length := by rw [← hz]; intro hw; exact ⟨mMk_V _ _ _ _ _ _ _ _ hw, by rw [show (mNm y.1 y.2).2.p = y.2.p from mMk_p _ _ _ _ _ _ _ _]; exact yq (mMk_w' hw)⟩
    refine ep_istore_n (lv' := [(0, .ref 16), (1, .int z.1)]) [1, 0] d_M_scoped_41 rfl (by decide) rfl ?_
    refine ep_aload_n (j := 0) d_M_scoped_42 rfl rfl ?_
    refine ep_callVi (As := []) (st := []) d_M_scoped_43 lk_M_174 cal_M_peek tm_M_peek ts_M_peek rfl rfl rfl (Nat.le_of_ble_eq_true rfl) (Nat.le_of_ble_eq_true rfl) rfl rfl (M_peek hd2 (by show z.2.p ≤ 1000; omega)) ?_
    refine ep_bipush (v := 73) d_M_scoped_46 (by decide) ?_
    refine ep_icmp_ne (tgt := 73) d_M_scoped_48 (by decide) (fun c48 => ?_) (fun c48 => ?_)
    · rw [if_neg (fun u => c48 u.1)] at hC
      subst hC
      exact M_sc_l hLp hd2
    · refine ep_aload_n (j := 0) d_M_scoped_51 rfl rfl ?_
      refine ep_getf (fi := 24) (v := .int (bI z.2.wr)) d_M_scoped_52 cl5 lf_M_171 (by decide) rfl (congrArg (fun z => some (Value.int z)) hd2.w) ?_
      refine ep_if_ne (tgt := 73) d_M_scoped_55 (by decide) (fun c55 => ?_) (fun c55 => ?_)
      · rw [if_neg (fun u => by have := bI_t c55; rw [u.2] at this; cases this)] at hC
        subst hC
        exact M_sc_l hLp hd2
      · refine ep_aload_n (j := 0) d_M_scoped_58 rfl rfl ?_
        refine ep_iload_n (j := 1) d_M_scoped_59 rfl rfl ?_
        refine ep_callVm (As := [.int z.1]) (st := []) d_M_scoped_60 lk_M_211 cal_M_enter tm_M_enter ts_M_enter rfl rfl rfl (Nat.le_of_ble_eq_true rfl) (Nat.le_of_ble_eq_true rfl) rfl rfl (M_enter hd2 (by rw [zK.2.2]; omega) z.1) (fun rI3 rA3 hd3 => ?_)
        refine ep_aload_n (j := 0) d_M_scoped_63 rfl rfl ?_
        refine ep_aload_n (j := 0) d_M_scoped_64 rfl rfl ?_
        refine ep_iload_n (j := 1) d_M_scoped_65 rfl rfl ?_
        refine ep_callVm (As := [.int z.1]) (st := [.ref 16]) d_M_scoped_66 lk_M_202 cal_M_beginArgs tm_M_beginArgs ts_M_beginArgs rfl rfl rfl (Nat.le_of_ble_eq_true rfl) (Nat.le_of_ble_eq_true rfl) rfl rfl (M_beginArgs hd3 (by show z.2.p ≤ 124; have := (zV (bI_n c55)).2; omega) (by show z.2.K.length ≤ 380; rw [zK.1]; omega) (by show z.2.N.length ≤ 280; omega) (by show (z.2.E ++ [z.1]).length ≤ 310; rw [zK.2.2]; simp; omega) z.1 (Or.inr (zV (bI_n c55)).1)) (fun rI4 rA4 hd4 => ?_)
        refine ep_callVm (As := [.int ((mBA L z.1 (mEn z.2 z.1)).1)]) (st := []) d_M_scoped_69 lk_M_236 cal_M_settle tm_M_settle ts_M_settle rfl rfl rfl (Nat.le_of_ble_eq_true rfl) (Nat.le_of_ble_eq_true rfl) rfl rfl (M_settle (n := (mBA L z.1 (mEn z.2 z.1)).1) (by rw [if_pos ⟨c48, bI_n c55⟩] at hC; exact hC) hd4) (fun rI5 rA5 hd5 => ?_)
        refine ep_istore_n (lv' := [(0, .ref 16), (1, .int t.1)]) [1, 0] d_M_scoped_72 rfl (by decide) rfl ?_
        exact M_sc_l hLp hd5
end MS9
