/-! the reference: settling, the start of a nest, the start of a type; by program (wip/whole/gen48.py) -/
section MS6
variable {d : Nat} {X : Nat × (Nat → Int32)} {cI : Nat → Int32} {cA : Nat → Nat → Int32} {rI : Nat → Int32} {rA : Nat → Nat → Int32} {ol : Int64} {J : mH} {L S : List Int32} {ct : Nat} {s : MS}
theorem nn_len {q : IM} {f : FR} {K : List FR} (h : NN L s q) (hw0 : s.wr = false) (eK : s.K = f :: K) : K.length ≤ 300 := by
  cases h using NN.ind with
  | wrong hw hk => rw [hw0] at hw; cases hw
  | done hw hk g h8 e => have := g.k; rw [eK] at this; simp at this; omega
  | more hw hk g h8 e _ => have := g.k; rw [eK] at this; simp at this; omega
set_option maxHeartbeats 4000000 in
set_option maxRecDepth 100000 in
theorem M_sl {x : Int32} {q t : IM} (h : Sl L q t) : ∀ {rI : Nat → Int32} {rA : Nat → Nat → Int32}, MD L S ct rI rA q.2 → EvP m_M_settle (d + 7) 2 [(0, .ref 16), (1, .int x), (2, .int q.1)] [] (HC X cI cA rI rA ol J) (MPi X cI cA ol J L S ct t) := by
  induction h using Sl.ind with
  | @fin q hf =>
    intro rI rA hd
    refine ep_aload_n (j := 0) d_M_settle_2 rfl rfl ?_
    refine ep_getf (fi := 25) (v := .int (bI q.2.ne)) d_M_settle_3 cl5 lf_M_227 (by decide) rfl (congrArg (fun z => some (Value.int z)) hd.e) ?_
    refine ep_if_eq (tgt := 53) d_M_settle_6 (by decide) (fun c6 => ?_) (fun c6 => ?_)
    · refine ep_iload_n (j := 2) d_M_settle_53 rfl rfl ?_
      exact ep_iret d_M_settle_54 rfl rfl (MP_ok rfl rfl hd)
    · refine ep_aload_n (j := 0) d_M_settle_9 rfl rfl ?_
      refine ep_getf (fi := 24) (v := .int (bI q.2.wr)) d_M_settle_10 cl5 lf_M_171 (by decide) rfl (congrArg (fun z => some (Value.int z)) hd.w) ?_
      refine ep_if_ne (tgt := 53) d_M_settle_13 (by decide) (fun c13 => ?_) (fun c13 => ?_)
      · refine ep_iload_n (j := 2) d_M_settle_53 rfl rfl ?_
        exact ep_iret d_M_settle_54 rfl rfl (MP_ok rfl rfl hd)
      · exact absurd ⟨bI_t c6, bI_n c13⟩ hf
  | @go q r t hn hw hk hN _ ih =>
    intro rI rA hd
    obtain ⟨f, K, eK⟩ : ∃ f K, q.2.K = f :: K := by
      cases h : q.2.K with
      | nil => exact absurd h hk
      | cons f K => exact ⟨f, K, rfl⟩
    have hk2 : K.length ≤ 300 := nn_len hN (by unfold mSt; rw [eK]; exact hw) (by unfold mSt; rw [eK])
    refine ep_aload_n (j := 0) d_M_settle_2 rfl rfl ?_
    refine ep_getf (fi := 25) (v := .int (bI q.2.ne)) d_M_settle_3 cl5 lf_M_227 (by decide) rfl (congrArg (fun z => some (Value.int z)) hd.e) ?_
    refine ep_if_eq (tgt := 53) d_M_settle_6 (by decide) (fun z => absurd z (by rw [hn]; decide)) (fun _ => ?_)
    refine ep_aload_n (j := 0) d_M_settle_9 rfl rfl ?_
    refine ep_getf (fi := 24) (v := .int (bI q.2.wr)) d_M_settle_10 cl5 lf_M_171 (by decide) rfl (congrArg (fun z => some (Value.int z)) hd.w) ?_
    refine ep_if_ne (tgt := 53) d_M_settle_13 (by decide) (fun z => absurd (by rw [hw]; rfl) z) (fun _ => ?_)
    refine ep_aload_n (j := 0) d_M_settle_16 rfl rfl ?_
    refine ep_iconst (v := 0) d_M_settle_17 (by decide) ?_
    refine ep_putf' (fi := 25) (h2 := HC X cI cA (upd rI 25 0) rA ol J) d_M_settle_18 cl5 lf_M_227 (by decide) (Or.inl rfl) rfl rfl hI_16_25 ?_
    have hd1 : MD L S ct (upd rI 25 0) rA ((MS.u_ne q.2 false)) := hd.se (q := false) rfl
    generalize upd rI 25 0 = rI1 at hd1 ⊢
    refine ep_aload_n (j := 0) d_M_settle_21 rfl rfl ?_
    refine ep_getf (fi := 20) (v := .ref 28) d_M_settle_22 cl5 lf_M_43 (by decide) rfl rfl ?_
    refine ep_aload_n (j := 0) d_M_settle_25 rfl rfl ?_
    refine ep_getf (fi := 18) (v := .int (nI (K.length + 2))) d_M_settle_26 cl5 lf_M_120 (by decide) rfl (congrArg (fun z => some (Value.int z)) (hd1.top eK).2.2) ?_
    refine ep_iconst (v := 1) d_M_settle_29 (by decide) ?_
    refine ep_isub d_M_settle_30 ?_
    refine ep_cg (y := nI (K.length + 1)) (nI_pred _) ?_
    refine ep_iload_n (j := 2) d_M_settle_31 rfl rfl ?_
    refine ep_iast' (h2 := HC X cI cA rI1 (va_up rA 20 (upd (rA 20) (K.length + 1) q.1)) ol J) (K.length + 1) d_M_settle_32 rfl rfl (by omega) (by decide) hA_28 ?_
    have hd2 : MD L S ct rI1 (va_up rA 20 (upd (rA 20) (K.length + 1) q.1)) (mK (MS.u_ne q.2 false) ((FR.u_o f q.1) :: K)) := hd1.so (f := f) (K := K) eK
    generalize va_up rA 20 (upd (rA 20) (K.length + 1) q.1) = rA2 at hd2 ⊢
    refine ep_aload_n (j := 0) d_M_settle_33 rfl rfl ?_
    refine ep_getf (fi := 21) (v := .ref 29) d_M_settle_34 cl5 lf_M_46 (by decide) rfl rfl ?_
    refine ep_aload_n (j := 0) d_M_settle_37 rfl rfl ?_
    refine ep_getf (fi := 18) (v := .int (nI (K.length + 2))) d_M_settle_38 cl5 lf_M_120 (by decide) rfl (congrArg (fun z => some (Value.int z)) (hd2.top rfl).2.2) ?_
    refine ep_iconst (v := 1) d_M_settle_41 (by decide) ?_
    refine ep_isub d_M_settle_42 ?_
    refine ep_cg (y := nI (K.length + 1)) (nI_pred _) ?_
    refine ep_iconst (v := 0) d_M_settle_43 (by decide) ?_
    refine ep_iast' (h2 := HC X cI cA rI1 (va_up rA2 21 (upd (rA2 21) (K.length + 1) 0)) ol J) (K.length + 1) d_M_settle_44 rfl rfl (by omega) (by decide) hA_29 ?_
    have hd3 : MD L S ct rI1 (va_up rA2 21 (upd (rA2 21) (K.length + 1) 0)) (mK (mK (MS.u_ne q.2 false) ((FR.u_o f q.1) :: K)) ((FR.u_n (FR.u_o f q.1) 0) :: K)) := hd2.sn (f := (FR.u_o f q.1)) (K := K) rfl
    generalize va_up rA2 21 (upd (rA2 21) (K.length + 1) 0) = rA3 at hd3 ⊢
    have eS : mSt q = mK (mK (MS.u_ne q.2 false) ((FR.u_o f q.1) :: K)) ((FR.u_n (FR.u_o f q.1) 0) :: K) := by unfold mSt; rw [eK]; rfl
    rw [← eS] at hd3
    refine ep_aload_n (j := 0) d_M_settle_45 rfl rfl ?_
    refine ep_callVm (As := []) (st := []) d_M_settle_46 lk_M_230 cal_M_nextNested tm_M_nextNested ts_M_nextNested rfl rfl rfl (Nat.le_of_ble_eq_true rfl) (Nat.le_of_ble_eq_true rfl) rfl rfl (M_nextNested (f := (FR.u_n (FR.u_o f q.1) 0)) (K := K) hN hd3 (by rw [eS]; rfl)) (fun rI4 rA4 hd4 => ?_)
    refine ep_istore_n (lv' := [(0, .ref 16), (1, .int x), (2, .int r.1)]) [1, 2, 0] d_M_settle_49 rfl (by decide) rfl ?_
    refine ep_goto (tgt := 2) d_M_settle_50 (by decide) ?_
    exact ih hd4

set_option maxHeartbeats 4000000 in
set_option maxRecDepth 100000 in
theorem M_settle {n : Int32} {t : IM} (h : Sl L (n, s) t) (hd : MD L S ct rI rA s) : EvP m_M_settle (d + 7) 0 [(0, .ref 16), (1, .int n)] [] (HC X cI cA rI rA ol J) (MPi X cI cA ol J L S ct t) := by
  refine ep_iload_n (j := 1) d_M_settle_0 rfl rfl ?_
  refine ep_istore_n (lv' := [(0, .ref 16), (1, .int n), (2, .int n)]) [1, 2, 0] d_M_settle_1 rfl (by decide) rfl ?_
  exact M_sl (q := (n, s)) h hd
set_option maxHeartbeats 4000000 in
set_option maxRecDepth 100000 in
theorem M_beginNest {q : IM} (h : NN L (mBN L s) q) (hd : MD L S ct rI rA s) (hp0 : s.p ≤ 130) (hk : s.K.length ≤ 300) (hl : s.N.length ≤ 280) (he : s.E.length ≤ 300) (hE : ∀ x, x ∈ s.E → Vd s.N x) : EvP m_M_beginNest (d + 7) 0 [(0, .ref 16)] [] (HC X cI cA rI rA ol J) (MPi X cI cA ol J L S ct q) := by
  by_cases hT : pk L s = 83
  · refine ep_aload_n (j := 0) d_M_beginNest_0 rfl rfl ?_
    refine ep_callVi (As := []) (st := []) d_M_beginNest_1 lk_M_174 cal_M_peek tm_M_peek ts_M_peek rfl rfl rfl (Nat.le_of_ble_eq_true rfl) (Nat.le_of_ble_eq_true rfl) rfl rfl (M_peek hd (by omega)) ?_
    refine ep_bipush (v := 83) d_M_beginNest_4 (by decide) ?_
    refine ep_icmp_ne (tgt := 13) d_M_beginNest_6 (by decide) (fun z => absurd hT z) (fun _ => ?_)
    refine ep_iconst (v := 1) d_M_beginNest_9 (by decide) ?_
    refine ep_goto (tgt := 14) d_M_beginNest_10 (by decide) ?_
    refine ep_istore_n (lv' := [(0, .ref 16), (1, .int 1)]) [1, 0] d_M_beginNest_14 rfl (by decide) rfl ?_
    refine ep_iload_n (j := 1) d_M_beginNest_15 rfl rfl ?_
    refine ep_if_eq (tgt := 26) d_M_beginNest_16 (by decide) (fun z => absurd z (by decide)) (fun _ => ?_)
    refine ep_aload_n (j := 0) d_M_beginNest_19 rfl rfl ?_
    refine ep_callVm (As := []) (st := []) d_M_beginNest_20 lk_M_199 cal_M_readTold tm_M_readTold ts_M_readTold rfl rfl rfl (Nat.le_of_ble_eq_true rfl) (Nat.le_of_ble_eq_true rfl) rfl rfl (M_readTold hd (by omega) (by omega)) (fun rI1 rA1 hd1 => ?_)
    generalize hz : mTold L s = z at hd1 ⊢
    have zp : z.2.p ≤ 400 := by rw [← hz]; have := mTold_pb (L := L) (s := s); have := hd.l1; omega
    have zK : z.2.K = s.K ∧ z.2.N.length ≤ s.N.length + 1 := by rw [← hz]; exact ⟨mTold_N.2.1, by rw [mTold_N.1]; exact Nat.le_succ _⟩
    have zV : z.2.wr = false → Vd z.2.N z.1 := by rw [← hz, mTold_N.1]; exact fun hw => mTold_V hE (by omega) hw
    refine ep_goto (tgt := 34) d_M_beginNest_23 (by decide) ?_
    refine ep_istore_n (lv' := [(0, .ref 16), (1, .int 1), (2, .int z.1)]) [1, 2, 0] d_M_beginNest_34 rfl (by decide) rfl ?_
    refine ep_aload_n (j := 0) d_M_beginNest_35 rfl rfl ?_
    refine ep_join (pc2 := 68) (lv2 := [(0, .ref 16), (1, .int 1), (2, .int z.1)]) (st2 := [.int (bI (z.2.wr || decide (cN z.2.N z.1 0 < 1 ∨ 3 < cN z.2.N z.1 0))), .ref 16]) ?_ (fun k68 => ?_)
    · refine ep_putf' (fi := 24) (h2 := HC X cI cA (upd rI1 24 (bI (z.2.wr || decide (cN z.2.N z.1 0 < 1 ∨ 3 < cN z.2.N z.1 0)))) rA1 ol J) d_M_beginNest_68 cl5 lf_M_171 (by decide) (Or.inl rfl) (bI_f _) rfl hI_16_24 ?_
      have hd2 : MD L S ct (upd rI1 24 (bI (z.2.wr || decide (cN z.2.N z.1 0 < 1 ∨ 3 < cN z.2.N z.1 0)))) rA1 (mOr z.2 (decide (cN z.2.N z.1 0 < 1 ∨ 3 < cN z.2.N z.1 0))) := hd1.sw (q := (z.2.wr || decide (cN z.2.N z.1 0 < 1 ∨ 3 < cN z.2.N z.1 0))) rfl
      generalize upd rI1 24 (bI (z.2.wr || decide (cN z.2.N z.1 0 < 1 ∨ 3 < cN z.2.N z.1 0))) = rI2 at hd2 ⊢
      refine ep_aload_n (j := 0) d_M_beginNest_71 rfl rfl ?_
      refine ep_bipush (v := 8) d_M_beginNest_72 (by decide) ?_
      refine ep_iload_n (j := 2) d_M_beginNest_74 rfl rfl ?_
      refine ep_iload_n (j := 1) d_M_beginNest_75 rfl rfl ?_
      refine ep_if_eq (tgt := 83) d_M_beginNest_76 (by decide) (fun z => absurd z (by decide)) (fun _ => ?_)
      refine ep_iconst (v := 1) d_M_beginNest_79 (by decide) ?_
      refine ep_goto (tgt := 84) d_M_beginNest_80 (by decide) ?_
      refine ep_callVm (As := [.int 8, .int z.1, .int 1]) (st := []) d_M_beginNest_84 lk_M_217 cal_M_begin tm_M_begin ts_M_begin rfl rfl rfl (Nat.le_of_ble_eq_true rfl) (Nat.le_of_ble_eq_true rfl) rfl rfl (M_begin hd2 (by show z.2.K.length ≤ 390; rw [zK.1]; omega) 8 z.1 1) (fun rI3 rA3 hd3 => ?_)
      refine ep_aload_n (j := 0) d_M_beginNest_87 rfl rfl ?_
      refine ep_join (pc2 := 109) (lv2 := [(0, .ref 16), (1, .int 1), (2, .int z.1)]) (st2 := [.int (bI ((mBe 8 z.1 1 (mOr z.2 (decide (cN z.2.N z.1 0 < 1 ∨ 3 < cN z.2.N z.1 0)))).wr || decide (pk L (mBe 8 z.1 1 (mOr z.2 (decide (cN z.2.N z.1 0 < 1 ∨ 3 < cN z.2.N z.1 0)))) = 69))), .ref 16]) ?_ (fun k109 => ?_)
      · refine ep_putf' (fi := 24) (h2 := HC X cI cA (upd rI3 24 (bI ((mBe 8 z.1 1 (mOr z.2 (decide (cN z.2.N z.1 0 < 1 ∨ 3 < cN z.2.N z.1 0)))).wr || decide (pk L (mBe 8 z.1 1 (mOr z.2 (decide (cN z.2.N z.1 0 < 1 ∨ 3 < cN z.2.N z.1 0)))) = 69)))) rA3 ol J) d_M_beginNest_109 cl5 lf_M_171 (by decide) (Or.inl rfl) (bI_f _) rfl hI_16_24 ?_
        have hd4 : MD L S ct (upd rI3 24 (bI ((mBe 8 z.1 1 (mOr z.2 (decide (cN z.2.N z.1 0 < 1 ∨ 3 < cN z.2.N z.1 0)))).wr || decide (pk L (mBe 8 z.1 1 (mOr z.2 (decide (cN z.2.N z.1 0 < 1 ∨ 3 < cN z.2.N z.1 0)))) = 69)))) rA3 (mOr (mBe 8 z.1 1 (mOr z.2 (decide (cN z.2.N z.1 0 < 1 ∨ 3 < cN z.2.N z.1 0)))) (decide (pk L (mBe 8 z.1 1 (mOr z.2 (decide (cN z.2.N z.1 0 < 1 ∨ 3 < cN z.2.N z.1 0)))) = 69))) := hd3.sw (q := ((mBe 8 z.1 1 (mOr z.2 (decide (cN z.2.N z.1 0 < 1 ∨ 3 < cN z.2.N z.1 0)))).wr || decide (pk L (mBe 8 z.1 1 (mOr z.2 (decide (cN z.2.N z.1 0 < 1 ∨ 3 < cN z.2.N z.1 0)))) = 69))) rfl
        generalize upd rI3 24 (bI ((mBe 8 z.1 1 (mOr z.2 (decide (cN z.2.N z.1 0 < 1 ∨ 3 < cN z.2.N z.1 0)))).wr || decide (pk L (mBe 8 z.1 1 (mOr z.2 (decide (cN z.2.N z.1 0 < 1 ∨ 3 < cN z.2.N z.1 0)))) = 69))) = rI4 at hd4 ⊢
        have h2 : NN L (mOr (mBe 8 z.1 1 (mOr z.2 (decide (cN z.2.N z.1 0 < 1 ∨ 3 < cN z.2.N z.1 0)))) (decide (pk L (mBe 8 z.1 1 (mOr z.2 (decide (cN z.2.N z.1 0 < 1 ∨ 3 < cN z.2.N z.1 0)))) = 69))) q := by
          have e : mBN L s = mOr (mBe 8 z.1 1 (mOr z.2 (decide (cN z.2.N z.1 0 < 1 ∨ 3 < cN z.2.N z.1 0)))) (decide (pk L (mBe 8 z.1 1 (mOr z.2 (decide (cN z.2.N z.1 0 < 1 ∨ 3 < cN z.2.N z.1 0)))) = 69)) := by
            unfold mBN mBN2 mBN3
            rw [if_pos hT, hz]
          rw [e] at h; exact h
        refine ep_aload_n (j := 0) d_M_beginNest_112 rfl rfl ?_
        refine ep_callVm (As := []) (st := []) d_M_beginNest_113 lk_M_230 cal_M_nextNested tm_M_nextNested ts_M_nextNested rfl rfl rfl (Nat.le_of_ble_eq_true rfl) (Nat.le_of_ble_eq_true rfl) rfl rfl (M_nextNested (f := ⟨8, z.1, 1, -1, -1, -1⟩) (K := z.2.K) h2 hd4 rfl) (fun rI5 rA5 hd5 => ?_)
        exact ep_iret d_M_beginNest_116 rfl rfl (MP_ok rfl rfl hd5)
      · refine ep_aload_n (j := 0) d_M_beginNest_88 rfl rfl ?_
        refine ep_getf (fi := 24) (v := .int (bI (mBe 8 z.1 1 (mOr z.2 (decide (cN z.2.N z.1 0 < 1 ∨ 3 < cN z.2.N z.1 0)))).wr)) d_M_beginNest_89 cl5 lf_M_171 (by decide) rfl (congrArg (fun z => some (Value.int z)) hd3.w) ?_
        refine ep_if_ne (tgt := 104) d_M_beginNest_92 (by decide) (fun c92 => ?_) (fun c92 => ?_)
        · refine ep_iconst (v := 1) d_M_beginNest_104 (by decide) ?_
          refine ep_goto (tgt := 109) d_M_beginNest_105 (by decide) ?_
          refine ep_cg (y := bI ((mBe 8 z.1 1 (mOr z.2 (decide (cN z.2.N z.1 0 < 1 ∨ 3 < cN z.2.N z.1 0)))).wr || decide (pk L (mBe 8 z.1 1 (mOr z.2 (decide (cN z.2.N z.1 0 < 1 ∨ 3 < cN z.2.N z.1 0)))) = 69))) (bor1 c92) ?_
          exact k109
        · refine ep_aload_n (j := 0) d_M_beginNest_95 rfl rfl ?_
          refine ep_callVi (As := []) (st := [.ref 16]) d_M_beginNest_96 lk_M_174 cal_M_peek tm_M_peek ts_M_peek rfl rfl rfl (Nat.le_of_ble_eq_true rfl) (Nat.le_of_ble_eq_true rfl) rfl rfl (M_peek hd3 (by show z.2.p ≤ 1000; omega)) ?_
          refine ep_bipush (v := 69) d_M_beginNest_99 (by decide) ?_
          refine ep_icmp_ne (tgt := 108) d_M_beginNest_101 (by decide) (fun c101 => ?_) (fun c101 => ?_)
          · refine ep_iconst (v := 0) d_M_beginNest_108 (by decide) ?_
            refine ep_cg (y := bI ((mBe 8 z.1 1 (mOr z.2 (decide (cN z.2.N z.1 0 < 1 ∨ 3 < cN z.2.N z.1 0)))).wr || decide (pk L (mBe 8 z.1 1 (mOr z.2 (decide (cN z.2.N z.1 0 < 1 ∨ 3 < cN z.2.N z.1 0)))) = 69))) (bor0 c92 (decide_eq_false c101)) ?_
            exact k109
          · refine ep_iconst (v := 1) d_M_beginNest_104 (by decide) ?_
            refine ep_goto (tgt := 109) d_M_beginNest_105 (by decide) ?_
            refine ep_cg (y := bI ((mBe 8 z.1 1 (mOr z.2 (decide (cN z.2.N z.1 0 < 1 ∨ 3 < cN z.2.N z.1 0)))).wr || decide (pk L (mBe 8 z.1 1 (mOr z.2 (decide (cN z.2.N z.1 0 < 1 ∨ 3 < cN z.2.N z.1 0)))) = 69))) (bor2 c92 (decide_eq_true c101)) ?_
            exact k109
    · refine ep_aload_n (j := 0) d_M_beginNest_36 rfl rfl ?_
      refine ep_getf (fi := 24) (v := .int (bI z.2.wr)) d_M_beginNest_37 cl5 lf_M_171 (by decide) rfl (congrArg (fun z => some (Value.int z)) hd1.w) ?_
      refine ep_if_ne (tgt := 63) d_M_beginNest_40 (by decide) (fun c40 => ?_) (fun c40 => ?_)
      · refine ep_iconst (v := 1) d_M_beginNest_63 (by decide) ?_
        refine ep_goto (tgt := 68) d_M_beginNest_64 (by decide) ?_
        refine ep_cg (y := bI (z.2.wr || decide (cN z.2.N z.1 0 < 1 ∨ 3 < cN z.2.N z.1 0))) (bor1 c40) ?_
        exact k68
      · refine ep_aload_n (j := 0) d_M_beginNest_43 rfl rfl ?_
        refine ep_getf (fi := 3) (v := .ref 17) d_M_beginNest_44 cl5 lf_M_7 (by decide) rfl rfl ?_
        refine ep_iload_n (j := 2) d_M_beginNest_47 rfl rfl ?_
        refine ep_kind (N := z.2.N) d_M_beginNest_48 hd1.n (by omega) (zV (bI_n c40)) ?_
        refine ep_iconst (v := 1) d_M_beginNest_49 (by decide) ?_
        refine ep_icmp_lt (tgt := 63) d_M_beginNest_50 (by decide) (fun c50 => ?_) (fun c50 => ?_)
        · refine ep_iconst (v := 1) d_M_beginNest_63 (by decide) ?_
          refine ep_goto (tgt := 68) d_M_beginNest_64 (by decide) ?_
          refine ep_cg (y := bI (z.2.wr || decide (cN z.2.N z.1 0 < 1 ∨ 3 < cN z.2.N z.1 0))) (bor2 c40 (decide_eq_true (Or.inl c50))) ?_
          exact k68
        · refine ep_aload_n (j := 0) d_M_beginNest_53 rfl rfl ?_
          refine ep_getf (fi := 3) (v := .ref 17) d_M_beginNest_54 cl5 lf_M_7 (by decide) rfl rfl ?_
          refine ep_iload_n (j := 2) d_M_beginNest_57 rfl rfl ?_
          refine ep_kind (N := z.2.N) d_M_beginNest_58 hd1.n (by omega) (zV (bI_n c40)) ?_
          refine ep_iconst (v := 3) d_M_beginNest_59 (by decide) ?_
          refine ep_icmp_le (tgt := 67) d_M_beginNest_60 (by decide) (fun c60 => ?_) (fun c60 => ?_)
          · refine ep_iconst (v := 0) d_M_beginNest_67 (by decide) ?_
            refine ep_cg (y := bI (z.2.wr || decide (cN z.2.N z.1 0 < 1 ∨ 3 < cN z.2.N z.1 0))) (bor0 c40 (decide_eq_false (fun u => u.elim c50 (fun v => absurd v (Int32.not_lt.mpr c60))))) ?_
            exact k68
          · refine ep_iconst (v := 1) d_M_beginNest_63 (by decide) ?_
            refine ep_goto (tgt := 68) d_M_beginNest_64 (by decide) ?_
            refine ep_cg (y := bI (z.2.wr || decide (cN z.2.N z.1 0 < 1 ∨ 3 < cN z.2.N z.1 0))) (bor2 c40 (decide_eq_true (Or.inr (Int32.not_le.mp c60)))) ?_
            exact k68
  · refine ep_aload_n (j := 0) d_M_beginNest_0 rfl rfl ?_
    refine ep_callVi (As := []) (st := []) d_M_beginNest_1 lk_M_174 cal_M_peek tm_M_peek ts_M_peek rfl rfl rfl (Nat.le_of_ble_eq_true rfl) (Nat.le_of_ble_eq_true rfl) rfl rfl (M_peek hd (by omega)) ?_
    refine ep_bipush (v := 83) d_M_beginNest_4 (by decide) ?_
    refine ep_icmp_ne (tgt := 13) d_M_beginNest_6 (by decide) (fun _ => ?_) (fun z => absurd z hT)
    refine ep_iconst (v := 0) d_M_beginNest_13 (by decide) ?_
    refine ep_istore_n (lv' := [(0, .ref 16), (1, .int 0)]) [1, 0] d_M_beginNest_14 rfl (by decide) rfl ?_
    refine ep_iload_n (j := 1) d_M_beginNest_15 rfl rfl ?_
    refine ep_if_eq (tgt := 26) d_M_beginNest_16 (by decide) (fun _ => ?_) (fun z => absurd (by decide) z)
    refine ep_aload_n (j := 0) d_M_beginNest_26 rfl rfl ?_
    refine ep_aload_n (j := 0) d_M_beginNest_27 rfl rfl ?_
    refine ep_callVm (As := []) (st := [.ref 16]) d_M_beginNest_28 lk_M_205 cal_M_readId tm_M_readId ts_M_readId rfl rfl rfl (Nat.le_of_ble_eq_true rfl) (Nat.le_of_ble_eq_true rfl) rfl rfl (M_readId hd (by omega)) (fun rI1 rA1 hd1 => ?_)
    generalize hy : mId L s = y at hd1 ⊢
    have yN : y.2.N = s.N ∧ y.2.K = s.K ∧ y.2.E = s.E := by rw [← hy]; exact ⟨mId_N.1, mId_N.2.1, mId_N.2.2.1⟩
    have yp : y.2.p ≤ 400 := by rw [← hy]; have := mId_pb (L := L) (s := s); have := hd.l1; omega
    refine ep_callVm (As := [.int y.1]) (st := []) d_M_beginNest_31 lk_M_208 cal_M_makeName tm_M_makeName ts_M_makeName rfl rfl rfl (Nat.le_of_ble_eq_true rfl) (Nat.le_of_ble_eq_true rfl) rfl rfl (M_makeName hd1 (by rw [yN.1]; omega) y.1) (fun rI2 rA2 hd2 => ?_)
    generalize hz : mNm y.1 y.2 = z at hd2 ⊢
    have zp : z.2.p ≤ 400 := by rw [← hz]; exact (mMk_p _ _ _ _ _ _ _ _).symm ▸ yp
    have zK : z.2.K = s.K ∧ z.2.N.length ≤ s.N.length + 1 := by rw [← hz]; refine ⟨(mMk_K _ _ _ _ _ _ _ _).trans yN.2.1, ?_⟩; have := mMk_N 1 y.1 (-1) (-1) (-1) (-1) (-1) y.2; rw [yN.1] at this; exact this
    have zV : z.2.wr = false → Vd z.2.N z.1 := by rw [← hz]; exact mMk_V _ _ _ _ _ _ _ _
    refine ep_istore_n (lv' := [(0, .ref 16), (1, .int 0), (2, .int z.1)]) [1, 2, 0] d_M_beginNest_34 rfl (by decide) rfl ?_
    refine ep_aload_n (j := 0) d_M_beginNest_35 rfl rfl ?_
    refine ep_join (pc2 := 68) (lv2 := [(0, .ref 16), (1, .int 0), (2, .int z.1)]) (st2 := [.int (bI (z.2.wr || decide (cN z.2.N z.1 0 < 1 ∨ 3 < cN z.2.N z.1 0))), .ref 16]) ?_ (fun k68 => ?_)
    · refine ep_putf' (fi := 24) (h2 := HC X cI cA (upd rI2 24 (bI (z.2.wr || decide (cN z.2.N z.1 0 < 1 ∨ 3 < cN z.2.N z.1 0)))) rA2 ol J) d_M_beginNest_68 cl5 lf_M_171 (by decide) (Or.inl rfl) (bI_f _) rfl hI_16_24 ?_
      have hd3 : MD L S ct (upd rI2 24 (bI (z.2.wr || decide (cN z.2.N z.1 0 < 1 ∨ 3 < cN z.2.N z.1 0)))) rA2 (mOr z.2 (decide (cN z.2.N z.1 0 < 1 ∨ 3 < cN z.2.N z.1 0))) := hd2.sw (q := (z.2.wr || decide (cN z.2.N z.1 0 < 1 ∨ 3 < cN z.2.N z.1 0))) rfl
      generalize upd rI2 24 (bI (z.2.wr || decide (cN z.2.N z.1 0 < 1 ∨ 3 < cN z.2.N z.1 0))) = rI3 at hd3 ⊢
      refine ep_aload_n (j := 0) d_M_beginNest_71 rfl rfl ?_
      refine ep_bipush (v := 8) d_M_beginNest_72 (by decide) ?_
      refine ep_iload_n (j := 2) d_M_beginNest_74 rfl rfl ?_
      refine ep_iload_n (j := 1) d_M_beginNest_75 rfl rfl ?_
      refine ep_if_eq (tgt := 83) d_M_beginNest_76 (by decide) (fun _ => ?_) (fun z => absurd (by decide) z)
      refine ep_iconst (v := 0) d_M_beginNest_83 (by decide) ?_
      refine ep_callVm (As := [.int 8, .int z.1, .int 0]) (st := []) d_M_beginNest_84 lk_M_217 cal_M_begin tm_M_begin ts_M_begin rfl rfl rfl (Nat.le_of_ble_eq_true rfl) (Nat.le_of_ble_eq_true rfl) rfl rfl (M_begin hd3 (by show z.2.K.length ≤ 390; rw [zK.1]; omega) 8 z.1 0) (fun rI4 rA4 hd4 => ?_)
      refine ep_aload_n (j := 0) d_M_beginNest_87 rfl rfl ?_
      refine ep_join (pc2 := 109) (lv2 := [(0, .ref 16), (1, .int 0), (2, .int z.1)]) (st2 := [.int (bI ((mBe 8 z.1 0 (mOr z.2 (decide (cN z.2.N z.1 0 < 1 ∨ 3 < cN z.2.N z.1 0)))).wr || decide (pk L (mBe 8 z.1 0 (mOr z.2 (decide (cN z.2.N z.1 0 < 1 ∨ 3 < cN z.2.N z.1 0)))) = 69))), .ref 16]) ?_ (fun k109 => ?_)
      · refine ep_putf' (fi := 24) (h2 := HC X cI cA (upd rI4 24 (bI ((mBe 8 z.1 0 (mOr z.2 (decide (cN z.2.N z.1 0 < 1 ∨ 3 < cN z.2.N z.1 0)))).wr || decide (pk L (mBe 8 z.1 0 (mOr z.2 (decide (cN z.2.N z.1 0 < 1 ∨ 3 < cN z.2.N z.1 0)))) = 69)))) rA4 ol J) d_M_beginNest_109 cl5 lf_M_171 (by decide) (Or.inl rfl) (bI_f _) rfl hI_16_24 ?_
        have hd5 : MD L S ct (upd rI4 24 (bI ((mBe 8 z.1 0 (mOr z.2 (decide (cN z.2.N z.1 0 < 1 ∨ 3 < cN z.2.N z.1 0)))).wr || decide (pk L (mBe 8 z.1 0 (mOr z.2 (decide (cN z.2.N z.1 0 < 1 ∨ 3 < cN z.2.N z.1 0)))) = 69)))) rA4 (mOr (mBe 8 z.1 0 (mOr z.2 (decide (cN z.2.N z.1 0 < 1 ∨ 3 < cN z.2.N z.1 0)))) (decide (pk L (mBe 8 z.1 0 (mOr z.2 (decide (cN z.2.N z.1 0 < 1 ∨ 3 < cN z.2.N z.1 0)))) = 69))) := hd4.sw (q := ((mBe 8 z.1 0 (mOr z.2 (decide (cN z.2.N z.1 0 < 1 ∨ 3 < cN z.2.N z.1 0)))).wr || decide (pk L (mBe 8 z.1 0 (mOr z.2 (decide (cN z.2.N z.1 0 < 1 ∨ 3 < cN z.2.N z.1 0)))) = 69))) rfl
        generalize upd rI4 24 (bI ((mBe 8 z.1 0 (mOr z.2 (decide (cN z.2.N z.1 0 < 1 ∨ 3 < cN z.2.N z.1 0)))).wr || decide (pk L (mBe 8 z.1 0 (mOr z.2 (decide (cN z.2.N z.1 0 < 1 ∨ 3 < cN z.2.N z.1 0)))) = 69))) = rI5 at hd5 ⊢
        have h2 : NN L (mOr (mBe 8 z.1 0 (mOr z.2 (decide (cN z.2.N z.1 0 < 1 ∨ 3 < cN z.2.N z.1 0)))) (decide (pk L (mBe 8 z.1 0 (mOr z.2 (decide (cN z.2.N z.1 0 < 1 ∨ 3 < cN z.2.N z.1 0)))) = 69))) q := by
          have e : mBN L s = mOr (mBe 8 z.1 0 (mOr z.2 (decide (cN z.2.N z.1 0 < 1 ∨ 3 < cN z.2.N z.1 0)))) (decide (pk L (mBe 8 z.1 0 (mOr z.2 (decide (cN z.2.N z.1 0 < 1 ∨ 3 < cN z.2.N z.1 0)))) = 69)) := by
            unfold mBN mBN2 mBN3
            rw [if_neg hT, hy, hz]
          rw [e] at h; exact h
        refine ep_aload_n (j := 0) d_M_beginNest_112 rfl rfl ?_
        refine ep_callVm (As := []) (st := []) d_M_beginNest_113 lk_M_230 cal_M_nextNested tm_M_nextNested ts_M_nextNested rfl rfl rfl (Nat.le_of_ble_eq_true rfl) (Nat.le_of_ble_eq_true rfl) rfl rfl (M_nextNested (f := ⟨8, z.1, 0, -1, -1, -1⟩) (K := z.2.K) h2 hd5 rfl) (fun rI6 rA6 hd6 => ?_)
        exact ep_iret d_M_beginNest_116 rfl rfl (MP_ok rfl rfl hd6)
      · refine ep_aload_n (j := 0) d_M_beginNest_88 rfl rfl ?_
        refine ep_getf (fi := 24) (v := .int (bI (mBe 8 z.1 0 (mOr z.2 (decide (cN z.2.N z.1 0 < 1 ∨ 3 < cN z.2.N z.1 0)))).wr)) d_M_beginNest_89 cl5 lf_M_171 (by decide) rfl (congrArg (fun z => some (Value.int z)) hd4.w) ?_
        refine ep_if_ne (tgt := 104) d_M_beginNest_92 (by decide) (fun c92 => ?_) (fun c92 => ?_)
        · refine ep_iconst (v := 1) d_M_beginNest_104 (by decide) ?_
          refine ep_goto (tgt := 109) d_M_beginNest_105 (by decide) ?_
          refine ep_cg (y := bI ((mBe 8 z.1 0 (mOr z.2 (decide (cN z.2.N z.1 0 < 1 ∨ 3 < cN z.2.N z.1 0)))).wr || decide (pk L (mBe 8 z.1 0 (mOr z.2 (decide (cN z.2.N z.1 0 < 1 ∨ 3 < cN z.2.N z.1 0)))) = 69))) (bor1 c92) ?_
          exact k109
        · refine ep_aload_n (j := 0) d_M_beginNest_95 rfl rfl ?_
          refine ep_callVi (As := []) (st := [.ref 16]) d_M_beginNest_96 lk_M_174 cal_M_peek tm_M_peek ts_M_peek rfl rfl rfl (Nat.le_of_ble_eq_true rfl) (Nat.le_of_ble_eq_true rfl) rfl rfl (M_peek hd4 (by show z.2.p ≤ 1000; omega)) ?_
          refine ep_bipush (v := 69) d_M_beginNest_99 (by decide) ?_
          refine ep_icmp_ne (tgt := 108) d_M_beginNest_101 (by decide) (fun c101 => ?_) (fun c101 => ?_)
          · refine ep_iconst (v := 0) d_M_beginNest_108 (by decide) ?_
            refine ep_cg (y := bI ((mBe 8 z.1 0 (mOr z.2 (decide (cN z.2.N z.1 0 < 1 ∨ 3 < cN z.2.N z.1 0)))).wr || decide (pk L (mBe 8 z.1 0 (mOr z.2 (decide (cN z.2.N z.1 0 < 1 ∨ 3 < cN z.2.N z.1 0)))) = 69))) (bor0 c92 (decide_eq_false c101)) ?_
            exact k109
          · refine ep_iconst (v := 1) d_M_beginNest_104 (by decide) ?_
            refine ep_goto (tgt := 109) d_M_beginNest_105 (by decide) ?_
            refine ep_cg (y := bI ((mBe 8 z.1 0 (mOr z.2 (decide (cN z.2.N z.1 0 < 1 ∨ 3 < cN z.2.N z.1 0)))).wr || decide (pk L (mBe 8 z.1 0 (mOr z.2 (decide (cN z.2.N z.1 0 < 1 ∨ 3 < cN z.2.N z.1 0)))) = 69))) (bor2 c92 (decide_eq_true c101)) ?_
            exact k109
    · refine ep_aload_n (j := 0) d_M_beginNest_36 rfl rfl ?_
      refine ep_getf (fi := 24) (v := .int (bI z.2.wr)) d_M_beginNest_37 cl5 lf_M_171 (by decide) rfl (congrArg (fun z => some (Value.int z)) hd2.w) ?_
      refine ep_if_ne (tgt := 63) d_M_beginNest_40 (by decide) (fun c40 => ?_) (fun c40 => ?_)
      · refine ep_iconst (v := 1) d_M_beginNest_63 (by decide) ?_
        refine ep_goto (tgt := 68) d_M_beginNest_64 (by decide) ?_
        refine ep_cg (y := bI (z.2.wr || decide (cN z.2.N z.1 0 < 1 ∨ 3 < cN z.2.N z.1 0))) (bor1 c40) ?_
        exact k68
      · refine ep_aload_n (j := 0) d_M_beginNest_43 rfl rfl ?_
        refine ep_getf (fi := 3) (v := .ref 17) d_M_beginNest_44 cl5 lf_M_7 (by decide) rfl rfl ?_
        refine ep_iload_n (j := 2) d_M_beginNest_47 rfl rfl ?_
        refine ep_kind (N := z.2.N) d_M_beginNest_48 hd2.n (by omega) (zV (bI_n c40)) ?_
        refine ep_iconst (v := 1) d_M_beginNest_49 (by decide) ?_
        refine ep_icmp_lt (tgt := 63) d_M_beginNest_50 (by decide) (fun c50 => ?_) (fun c50 => ?_)
        · refine ep_iconst (v := 1) d_M_beginNest_63 (by decide) ?_
          refine ep_goto (tgt := 68) d_M_beginNest_64 (by decide) ?_
          refine ep_cg (y := bI (z.2.wr || decide (cN z.2.N z.1 0 < 1 ∨ 3 < cN z.2.N z.1 0))) (bor2 c40 (decide_eq_true (Or.inl c50))) ?_
          exact k68
        · refine ep_aload_n (j := 0) d_M_beginNest_53 rfl rfl ?_
          refine ep_getf (fi := 3) (v := .ref 17) d_M_beginNest_54 cl5 lf_M_7 (by decide) rfl rfl ?_
          refine ep_iload_n (j := 2) d_M_beginNest_57 rfl rfl ?_
          refine ep_kind (N := z.2.N) d_M_beginNest_58 hd2.n (by omega) (zV (bI_n c40)) ?_
          refine ep_iconst (v := 3) d_M_beginNest_59 (by decide) ?_
          refine ep_icmp_le (tgt := 67) d_M_beginNest_60 (by decide) (fun c60 => ?_) (fun c60 => ?_)
          · refine ep_iconst (v := 0) d_M_beginNest_67 (by decide) ?_
            refine ep_cg (y := bI (z.2.wr || decide (cN z.2.N z.1 0 < 1 ∨ 3 < cN z.2.N z.1 0))) (bor0 c40 (decide_eq_false (fun u => u.elim c50 (fun v => absurd v (Int32.not_lt.mpr c60))))) ?_
            exact k68
          · refine ep_iconst (v := 1) d_M_beginNest_63 (by decide) ?_
            refine ep_goto (tgt := 68) d_M_beginNest_64 (by decide) ?_
            refine ep_cg (y := bI (z.2.wr || decide (cN z.2.N z.1 0 < 1 ∨ 3 < cN z.2.N z.1 0))) (bor2 c40 (decide_eq_true (Or.inr (Int32.not_le.mp c60)))) ?_
            exact k68
end MS6
