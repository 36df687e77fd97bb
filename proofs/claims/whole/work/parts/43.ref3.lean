/-! the reference: the small methods of its reading; by program (wip/whole/gen43.py) -/
theorem bor1 {a b : Bool} (h : ¬ bI a = 0) : (1 : Int32) = bI (a || b) := by cases a <;> simp_all [bI]
theorem bor2 {a b : Bool} (h : bI a = 0) (h2 : b = true) : (1 : Int32) = bI (a || b) := by subst h2; cases a <;> simp_all [bI]
theorem bor0 {a b : Bool} (h : bI a = 0) (h2 : b = false) : (0 : Int32) = bI (a || b) := by subst h2; cases a <;> simp_all [bI]
theorem bd1 {p : Prop} [Decidable p] (h : p) : (1 : Int32) = bI (decide p) := by rw [decide_eq_true h]; rfl
theorem bd0 {p : Prop} [Decidable p] (h : ¬ p) : (0 : Int32) = bI (decide p) := by rw [decide_eq_false h]; rfl
theorem bI_t {a : Bool} (h : ¬ bI a = 0) : a = true := by cases a <;> simp_all [bI]
theorem bI_n {a : Bool} (h : bI a = 0) : a = false := by cases a <;> simp_all [bI]
theorem dgs_c {L : List Int32} {b c : Int32} {r : List Int32} {s : MS} (h : dgs L b s.p = c :: r) : s.p < L.length ∧ pk L s = c ∧ ¬ digF c b = -1 ∧ dgs L b (s.p + 1) = r := by
  have h1 := dgs_step L b ([], [], s.p)
  have h1 : dgs L b s.p = _ := h1
  rw [h] at h1
  by_cases q : digF (nxt L ([], [], s.p)) b = -1
  · rw [if_pos q] at h1; cases h1
  · rw [if_neg q] at h1
    have e1 := (List.cons.inj h1).1
    have e2 := (List.cons.inj h1).2
    have hlt : s.p < L.length := by
      by_cases u : s.p < L.length
      · exact u
      · exact absurd (by unfold nxt; rw [List.getD_eq_getElem?_getD, List.getElem?_eq_none (show L.length ≤ s.p by omega)]; exact digF_none b) q
    refine ⟨hlt, ?_, by rw [e1]; exact q, e2.symm⟩
    rw [e1]
    unfold pk nxt
    rw [List.getD_eq_getElem?_getD, List.getD_eq_getElem?_getD, List.getElem?_eq_getElem hlt]
    rfl
theorem dgs_n {L : List Int32} {b : Int32} {s : MS} (hb : digF 0 b = -1) (h : dgs L b s.p = []) : digF (pk L s) b = -1 := by
  have h1 : dgs L b s.p = _ := dgs_step L b ([], [], s.p)
  rw [h] at h1
  by_cases q : digF (nxt L ([], [], s.p)) b = -1
  · by_cases u : s.p < L.length
    · have e : pk L s = nxt L ([], [], s.p) := by
        unfold pk nxt
        rw [List.getD_eq_getElem?_getD, List.getD_eq_getElem?_getD, List.getElem?_eq_getElem u]
        rfl
      rw [e]; exact q
    · have e : pk L s = 0 := by unfold pk; rw [List.getD_eq_getElem?_getD, List.getElem?_eq_none (by omega)]; rfl
      rw [e]; exact hb
  · rw [if_neg q] at h1; cases h1
theorem dg_v {c v : Int32} (h : dgP c) : 10 * v + c - 48 = v * 10 + digF c 10 := by
  unfold digF
  rw [if_pos h, Int32.sub_eq_add_neg, Int32.sub_eq_add_neg, Int32.add_assoc, Int32.mul_comm]
theorem ndM_vd {N : List (List Int32)} (k v f g a b c : Int32) : Vd (ndM N k v f g a b c).2 (ndM N k v f g a b c).1 := by
  unfold ndM
  by_cases h : ixM N k v f g a b c < N.length
  · rw [if_pos h]; exact ⟨_, h, rfl⟩
  · rw [if_neg h]
    have : ixM N k v f g a b c ≤ N.length := List.findIdx_le_length
    refine ⟨_, ?_, rfl⟩
    show ixM N k v f g a b c < (N ++ [_]).length
    rw [List.length_append]
    show _ < N.length + 1
    omega
theorem ndM_len {N : List (List Int32)} (k v f g a b c : Int32) : (ndM N k v f g a b c).2.length ≤ N.length + 1 := by
  unfold ndM
  show (if _ then _ else _ : List (List Int32)).length ≤ _
  split
  · omega
  · simp
section MS1
variable {d : Nat} {X : Nat × (Nat → Int32)} {cI : Nat → Int32} {cA : Nat → Nat → Int32} {rI : Nat → Int32} {rA : Nat → Nat → Int32} {ol : Int64} {J : mH} {L S : List Int32} {ct : Nat} {s : MS}
theorem ep_callVnd {M Nn : Mt} {pc np : Nat} {lv : List (Nat × Value)} {st st0 As : List Value} {P : mR → mH → Prop} {q : Int32 × List (List Int32)} {ix o ci : Nat} {fs : List Value} (hd : decode M.2.1 pc = .ok (.invokevirtual ix, 3)) (hl : InT (.methodLink M.1.cls ix Nn.1)) (hN : Cal Nn np) (hm : InT (.instanceMethod Nn.1)) (hs : InT (.selects Nn.1.cls Nn.1 Nn.1)) (ho : (HC X cI cA rI rA ol J)[o]? = some (.inl (ci, fs))) (hci : (vCl[ci]?).map (fun q => q.1) = some Nn.1.cls) (hnp : As.length = np) (hal : ((Value.ref o :: As).map fun v => v.category).sum ≤ Nn.2.2.1) (hcat : (st.map fun v => v.category).sum ≤ 8) (hst : st0 = As.reverse ++ .ref o :: st) (hh : M.2.2.2.2 = [])
    (ev : EvP Nn d 0 (lv_args 0 (.ref o :: As)) [] (HC X cI cA rI rA ol J) (NP X cI cA ol J rI rA q))
    (k : ∀ rI' rA', MN rI' rA' q.2 → FrN rI rA rI' rA' → EvP M (d + 1) (pc + 3) lv (.int q.1 :: st) (HC X cI cA rI' rA' ol J) P) : EvP M (d + 1) pc lv st0 (HC X cI cA rI rA ol J) P := by
  refine ep_callV hd hl hN hm hs ho hci hnp hal hcat hst hh ev (fun u h1 q => ?_) (fun x h1 q => ?_)
  · obtain ⟨q1, rI1, rA1, q2, q3, q4⟩ := q
    cases q1
    subst q2
    exact k rI1 rA1 q3 q4
  · obtain ⟨q1, _⟩ := q
    cases q1
set_option maxHeartbeats 4000000 in
set_option maxRecDepth 100000 in
theorem M_peek (hd : MD L S ct rI rA s) (hp0 : s.p ≤ 1000) : EvP m_M_peek d 0 [(0, .ref 16)] [] (HC X cI cA rI rA ol J) (Ri (pk L s) (HC X cI cA rI rA ol J)) := by
  refine ep_aload_n (j := 0) d_M_peek_0 rfl rfl ?_
  refine ep_getf (fi := 23) (v := .int (nI s.p)) d_M_peek_1 cl5 lf_M_168 (by decide) rfl (congrArg (fun z => some (Value.int z)) hd.p) ?_
  refine ep_aload_n (j := 0) d_M_peek_4 rfl rfl ?_
  refine ep_getf (fi := 10) (v := .int (nI L.length)) d_M_peek_5 cl5 lf_M_157 (by decide) rfl (congrArg (fun z => some (Value.int z)) hd.z) ?_
  refine ep_icmp_ge (tgt := 23) d_M_peek_8 (by decide) (fun c8 => ?_) (fun c8 => ?_)
  · refine ep_iconst (v := 0) d_M_peek_23 (by decide) ?_
    exact ep_iret d_M_peek_24 rfl rfl (⟨congrArg (fun z => Sum.inl (some (Value.int z))) (by
    have hp : ¬ s.p < L.length := by rw [nI_leI (by have := hd.l1; omega) (by omega)] at c8; omega
    unfold pk; rw [List.getD_eq_getElem?_getD, List.getElem?_eq_none (by omega)]; rfl), rfl⟩)
  · have hp : s.p < L.length := by rw [nI_leI (by have := hd.l1; omega) (by omega)] at c8; omega
    refine ep_aload_n (j := 0) d_M_peek_11 rfl rfl ?_
    refine ep_getf (fi := 9) (v := .ref 23) d_M_peek_12 cl5 lf_M_28 (by decide) rfl rfl ?_
    refine ep_aload_n (j := 0) d_M_peek_15 rfl rfl ?_
    refine ep_getf (fi := 23) (v := .int (nI s.p)) d_M_peek_16 cl5 lf_M_168 (by decide) rfl (congrArg (fun z => some (Value.int z)) hd.p) ?_
    refine ep_iald (f := rA 9) s.p d_M_peek_19 rfl rfl (by have := hd.l1; omega) (by decide) ?_
    refine ep_goto (tgt := 24) d_M_peek_20 (by decide) ?_
    exact ep_iret d_M_peek_24 rfl rfl (⟨congrArg (fun z => Sum.inl (some (Value.int z))) (by unfold pk; rw [List.getD_eq_getElem?_getD]; have := rowL_at (f := rA 9) hp; rw [← hd.l] at this; rw [this]; rfl), rfl⟩)
set_option maxHeartbeats 4000000 in
set_option maxRecDepth 100000 in
theorem M_expect (hd : MD L S ct rI rA s) (hp0 : s.p ≤ 1000) (c : Int32) : EvP m_M_expect (d + 1) 0 [(0, .ref 16), (1, .int c)] [] (HC X cI cA rI rA ol J) (MP X cI cA ol J L S ct none (mEx L c s)) := by
  refine ep_aload_n (j := 0) d_M_expect_0 rfl rfl ?_
  refine ep_join (pc2 := 21) (lv2 := [(0, .ref 16), (1, .int c)]) (st2 := [.int (bI (s.wr || decide (¬ pk L s = c))), .ref 16]) ?_ (fun k21 => ?_)
  · refine ep_putf' (fi := 24) (h2 := HC X cI cA (upd rI 24 (bI (s.wr || decide (¬ pk L s = c)))) rA ol J) d_M_expect_21 cl5 lf_M_171 (by decide) (Or.inl rfl) (bI_f _) rfl hI_16_24 ?_
    have hd1 : MD L S ct (upd rI 24 (bI (s.wr || decide (¬ pk L s = c)))) rA (mWr s (s.wr || decide (¬ pk L s = c))) := hd.sw (q := (s.wr || decide (¬ pk L s = c))) rfl
    generalize upd rI 24 (bI (s.wr || decide (¬ pk L s = c))) = rI1 at hd1 ⊢
    refine ep_aload_n (j := 0) d_M_expect_24 rfl rfl ?_
    refine ep_dup d_M_expect_25 rfl ?_
    refine ep_getf (fi := 23) (v := .int (nI (mWr s (s.wr || decide (¬ pk L s = c))).p)) d_M_expect_26 cl5 lf_M_168 (by decide) rfl (congrArg (fun z => some (Value.int z)) hd1.p) ?_
    refine ep_iconst (v := 1) d_M_expect_29 (by decide) ?_
    refine ep_iadd d_M_expect_30 ?_
    refine ep_putf' (fi := 23) (h2 := HC X cI cA (upd rI1 23 ((nI (mWr s (s.wr || decide (¬ pk L s = c))).p) + 1)) rA ol J) d_M_expect_31 cl5 lf_M_168 (by decide) (Or.inl rfl) rfl rfl hI_16_23 ?_
    have hd2 : MD L S ct (upd rI1 23 ((nI (mWr s (s.wr || decide (¬ pk L s = c))).p) + 1)) rA (mAv (mWr s (s.wr || decide (¬ pk L s = c))) 1) := hd1.sp (q := ((mWr s (s.wr || decide (¬ pk L s = c))).p + 1)) (nI_1 _)
    generalize upd rI1 23 ((nI (mWr s (s.wr || decide (¬ pk L s = c))).p) + 1) = rI2 at hd2 ⊢
    exact ep_vret d_M_expect_34 rfl (MP_ok rfl rfl hd2)
  · refine ep_aload_n (j := 0) d_M_expect_1 rfl rfl ?_
    refine ep_getf (fi := 24) (v := .int (bI s.wr)) d_M_expect_2 cl5 lf_M_171 (by decide) rfl (congrArg (fun z => some (Value.int z)) hd.w) ?_
    refine ep_if_ne (tgt := 16) d_M_expect_5 (by decide) (fun c5 => ?_) (fun c5 => ?_)
    · refine ep_iconst (v := 1) d_M_expect_16 (by decide) ?_
      refine ep_goto (tgt := 21) d_M_expect_17 (by decide) ?_
      refine ep_cg (y := bI (s.wr || decide (¬ pk L s = c))) (bor1 c5) ?_
      exact k21
    · refine ep_aload_n (j := 0) d_M_expect_8 rfl rfl ?_
      refine ep_callVi (As := []) (st := [.ref 16]) d_M_expect_9 lk_M_174 cal_M_peek tm_M_peek ts_M_peek rfl rfl rfl (Nat.le_of_ble_eq_true rfl) (Nat.le_of_ble_eq_true rfl) rfl rfl (M_peek hd (by omega)) ?_
      refine ep_iload_n (j := 1) d_M_expect_12 rfl rfl ?_
      refine ep_icmp_eq (tgt := 20) d_M_expect_13 (by decide) (fun c13 => ?_) (fun c13 => ?_)
      · refine ep_iconst (v := 0) d_M_expect_20 (by decide) ?_
        refine ep_cg (y := bI (s.wr || decide (¬ pk L s = c))) (bor0 c5 (decide_eq_false (fun u => u c13))) ?_
        exact k21
      · refine ep_iconst (v := 1) d_M_expect_16 (by decide) ?_
        refine ep_goto (tgt := 21) d_M_expect_17 (by decide) ?_
        refine ep_cg (y := bI (s.wr || decide (¬ pk L s = c))) (bor2 c5 (decide_eq_true c13)) ?_
        exact k21
set_option maxHeartbeats 4000000 in
set_option maxRecDepth 100000 in
theorem M_push {k : Nat} (ht : rI 18 = nI k) (hk : k < 400) (t n : Int32) : EvP m_M_push d 0 [(0, .ref 16), (1, .int t), (2, .int n)] [] (HC X cI cA rI rA ol J) (Rv (HC X cI cA (upd rI 18 (nI (k + 1))) (va_up (va_up rA 19 (upd (rA 19) k t)) 20 (upd (rA 20) k n)) ol J)) := by
  refine ep_aload_n (j := 0) d_M_push_0 rfl rfl ?_
  refine ep_getf (fi := 19) (v := .ref 27) d_M_push_1 cl5 lf_M_40 (by decide) rfl rfl ?_
  refine ep_aload_n (j := 0) d_M_push_4 rfl rfl ?_
  refine ep_getf (fi := 18) (v := .int (rI 18)) d_M_push_5 cl5 lf_M_120 (by decide) rfl rfl ?_
  refine ep_iload_n (j := 1) d_M_push_8 rfl rfl ?_
  refine ep_iast' (h2 := HC X cI cA rI (va_up rA 19 (upd (rA 19) k t)) ol J) k d_M_push_9 rfl ht hk (by decide) hA_27 ?_
  refine ep_aload_n (j := 0) d_M_push_10 rfl rfl ?_
  refine ep_getf (fi := 20) (v := .ref 28) d_M_push_11 cl5 lf_M_43 (by decide) rfl rfl ?_
  refine ep_aload_n (j := 0) d_M_push_14 rfl rfl ?_
  refine ep_getf (fi := 18) (v := .int (rI 18)) d_M_push_15 cl5 lf_M_120 (by decide) rfl rfl ?_
  refine ep_iload_n (j := 2) d_M_push_18 rfl rfl ?_
  refine ep_iast' (h2 := HC X cI cA rI (va_up (va_up rA 19 (upd (rA 19) k t)) 20 (upd (rA 20) k n)) ol J) k d_M_push_19 rfl ht hk (by decide) hA_28 ?_
  refine ep_aload_n (j := 0) d_M_push_20 rfl rfl ?_
  refine ep_dup d_M_push_21 rfl ?_
  refine ep_getf (fi := 18) (v := .int (rI 18)) d_M_push_22 cl5 lf_M_120 (by decide) rfl rfl ?_
  refine ep_iconst (v := 1) d_M_push_25 (by decide) ?_
  refine ep_iadd d_M_push_26 ?_
  refine ep_cg (y := nI (k + 1)) (by rw [ht, nI_1]) ?_
  refine ep_putf' (fi := 18) (h2 := HC X cI cA (upd rI 18 (nI (k + 1))) (va_up (va_up rA 19 (upd (rA 19) k t)) 20 (upd (rA 20) k n)) ol J) d_M_push_27 cl5 lf_M_120 (by decide) (Or.inl rfl) rfl rfl hI_16_18 ?_
  exact ep_vret d_M_push_30 rfl (⟨rfl, rfl⟩)
set_option maxHeartbeats 4000000 in
set_option maxRecDepth 100000 in
theorem M_enter (hd : MD L S ct rI rA s) (he : s.E.length < 320) (x : Int32) : EvP m_M_enter d 0 [(0, .ref 16), (1, .int x)] [] (HC X cI cA rI rA ol J) (MP X cI cA ol J L S ct none (mEn s x)) := by
  refine ep_aload_n (j := 0) d_M_enter_0 rfl rfl ?_
  refine ep_getf (fi := 17) (v := .ref 26) d_M_enter_1 cl5 lf_M_37 (by decide) rfl rfl ?_
  refine ep_aload_n (j := 0) d_M_enter_4 rfl rfl ?_
  refine ep_getf (fi := 16) (v := .int (rI 16)) d_M_enter_5 cl5 lf_M_110 (by decide) rfl rfl ?_
  refine ep_iload_n (j := 1) d_M_enter_8 rfl rfl ?_
  refine ep_iast' (h2 := HC X cI cA rI (va_up rA 17 (upd (rA 17) s.E.length x)) ol J) s.E.length d_M_enter_9 rfl hd.ez (by omega) (by decide) hA_26 ?_
  refine ep_aload_n (j := 0) d_M_enter_10 rfl rfl ?_
  refine ep_dup d_M_enter_11 rfl ?_
  refine ep_getf (fi := 16) (v := .int (rI 16)) d_M_enter_12 cl5 lf_M_110 (by decide) rfl rfl ?_
  refine ep_iconst (v := 1) d_M_enter_15 (by decide) ?_
  refine ep_iadd d_M_enter_16 ?_
  refine ep_cg (y := nI (s.E.length + 1)) (by rw [hd.ez, nI_1]) ?_
  refine ep_putf' (fi := 16) (h2 := HC X cI cA (upd rI 16 (nI (s.E.length + 1))) (va_up rA 17 (upd (rA 17) s.E.length x)) ol J) d_M_enter_17 cl5 lf_M_110 (by decide) (Or.inl rfl) rfl rfl hI_16_16 ?_
  exact ep_vret d_M_enter_20 rfl (MP_ok rfl rfl hd.en)
set_option maxHeartbeats 4000000 in
set_option maxRecDepth 100000 in
theorem M_begin (hd : MD L S ct rI rA s) (hk : s.K.length ≤ 390) (t n v : Int32) : EvP m_M_begin (d + 1) 0 [(0, .ref 16), (1, .int t), (2, .int n), (3, .int v)] [] (HC X cI cA rI rA ol J) (MP X cI cA ol J L S ct none (mBe t n v s)) := by
  refine ep_aload_n (j := 0) d_M_begin_0 rfl rfl ?_
  refine ep_iload_n (j := 1) d_M_begin_1 rfl rfl ?_
  refine ep_iload_n (j := 2) d_M_begin_2 rfl rfl ?_
  refine ep_callVv (As := [.int t, .int n]) (st := []) d_M_begin_3 lk_M_123 cal_M_push tm_M_push ts_M_push rfl rfl rfl (Nat.le_of_ble_eq_true rfl) (Nat.le_of_ble_eq_true rfl) rfl rfl (M_push hd.tz (by omega) t n) ?_
  refine ep_aload_n (j := 0) d_M_begin_6 rfl rfl ?_
  refine ep_getf (fi := 21) (v := .ref 29) d_M_begin_7 cl5 lf_M_46 (by decide) rfl rfl ?_
  refine ep_aload_n (j := 0) d_M_begin_10 rfl rfl ?_
  refine ep_getf (fi := 18) (v := .int (nI (s.K.length + 1 + 1))) d_M_begin_11 cl5 lf_M_120 (by decide) rfl rfl ?_
  refine ep_iconst (v := 1) d_M_begin_14 (by decide) ?_
  refine ep_isub d_M_begin_15 ?_
  refine ep_cg (y := nI (s.K.length + 1)) (nI_pred _) ?_
  refine ep_iload_n (j := 3) d_M_begin_16 rfl rfl ?_
  refine ep_iast' (h2 := HC X cI cA (upd rI 18 (nI (s.K.length + 1 + 1))) (va_up (va_up (va_up rA 19 (upd (rA 19) (s.K.length + 1) t)) 20 (upd (rA 20) (s.K.length + 1) n)) 21 (upd (rA 21) (s.K.length + 1) v)) ol J) (s.K.length + 1) d_M_begin_17 rfl rfl (by omega) (by decide) hA_29 ?_
  refine ep_iconst (v := 0) d_M_begin_18 (by decide) ?_
  refine ep_istore (lv' := [(0, .ref 16), (1, .int t), (2, .int n), (3, .int v), (4, .int 0)]) [1, 2, 3, 4, 0] d_M_begin_19 (by decide) rfl ?_
  refine ep_iload (j := 4) d_M_begin_21 rfl ?_
  refine ep_iconst (v := 3) d_M_begin_23 (by decide) ?_
  refine ep_icmp_ge (tgt := 50) d_M_begin_24 (by decide) (fun z => absurd z (by decide)) (fun _ => ?_)
  refine ep_aload_n (j := 0) d_M_begin_27 rfl rfl ?_
  refine ep_getf (fi := 22) (v := .ref 30) d_M_begin_28 cl5 lf_M_49 (by decide) rfl rfl ?_
  refine ep_iconst (v := 3) d_M_begin_31 (by decide) ?_
  refine ep_aload_n (j := 0) d_M_begin_32 rfl rfl ?_
  refine ep_getf (fi := 18) (v := .int (nI (s.K.length + 1 + 1))) d_M_begin_33 cl5 lf_M_120 (by decide) rfl rfl ?_
  refine ep_iconst (v := 1) d_M_begin_36 (by decide) ?_
  refine ep_isub d_M_begin_37 ?_
  refine ep_cg (y := nI (s.K.length + 1)) (nI_pred _) ?_
  refine ep_imul d_M_begin_38 ?_
  refine ep_cg (y := nI (3 * (s.K.length + 1))) (by rw [show (3 : Int32) = nI 3 from by decide, pk_mul]) ?_
  refine ep_iload (j := 4) d_M_begin_39 rfl ?_
  refine ep_iadd d_M_begin_41 ?_
  refine ep_cg (y := nI (3 * (s.K.length + 1))) (Int32.add_zero _) ?_
  refine ep_iconst (v := (-1)) d_M_begin_42 (by decide) ?_
  refine ep_iast' (h2 := HC X cI cA (upd rI 18 (nI (s.K.length + 1 + 1))) (va_up (va_up (va_up (va_up rA 19 (upd (rA 19) (s.K.length + 1) t)) 20 (upd (rA 20) (s.K.length + 1) n)) 21 (upd (rA 21) (s.K.length + 1) v)) 22 (upd (rA 22) (3 * (s.K.length + 1)) (-1))) ol J) (3 * (s.K.length + 1)) d_M_begin_43 rfl rfl (by omega) (by decide) hA_30 ?_
  refine ep_iinc (v := 1) (j := 4) (lv' := [(0, .ref 16), (1, .int t), (2, .int n), (3, .int v), (4, .int 1)]) [1, 2, 3, 4, 0] d_M_begin_44 rfl (by decide) (by decide) rfl ?_
  refine ep_goto (tgt := 21) d_M_begin_47 (by decide) ?_
  refine ep_iload (j := 4) d_M_begin_21 rfl ?_
  refine ep_iconst (v := 3) d_M_begin_23 (by decide) ?_
  refine ep_icmp_ge (tgt := 50) d_M_begin_24 (by decide) (fun z => absurd z (by decide)) (fun _ => ?_)
  refine ep_aload_n (j := 0) d_M_begin_27 rfl rfl ?_
  refine ep_getf (fi := 22) (v := .ref 30) d_M_begin_28 cl5 lf_M_49 (by decide) rfl rfl ?_
  refine ep_iconst (v := 3) d_M_begin_31 (by decide) ?_
  refine ep_aload_n (j := 0) d_M_begin_32 rfl rfl ?_
  refine ep_getf (fi := 18) (v := .int (nI (s.K.length + 1 + 1))) d_M_begin_33 cl5 lf_M_120 (by decide) rfl rfl ?_
  refine ep_iconst (v := 1) d_M_begin_36 (by decide) ?_
  refine ep_isub d_M_begin_37 ?_
  refine ep_cg (y := nI (s.K.length + 1)) (nI_pred _) ?_
  refine ep_imul d_M_begin_38 ?_
  refine ep_cg (y := nI (3 * (s.K.length + 1))) (by rw [show (3 : Int32) = nI 3 from by decide, pk_mul]) ?_
  refine ep_iload (j := 4) d_M_begin_39 rfl ?_
  refine ep_iadd d_M_begin_41 ?_
  refine ep_cg (y := nI (3 * (s.K.length + 1) + 1)) (nI_1 _) ?_
  refine ep_iconst (v := (-1)) d_M_begin_42 (by decide) ?_
  refine ep_iast' (h2 := HC X cI cA (upd rI 18 (nI (s.K.length + 1 + 1))) (va_up (va_up (va_up (va_up rA 19 (upd (rA 19) (s.K.length + 1) t)) 20 (upd (rA 20) (s.K.length + 1) n)) 21 (upd (rA 21) (s.K.length + 1) v)) 22 (upd (upd (rA 22) (3 * (s.K.length + 1)) (-1)) (3 * (s.K.length + 1) + 1) (-1))) ol J) (3 * (s.K.length + 1) + 1) d_M_begin_43 rfl rfl (by omega) (by decide) (hA_30.trans (congrArg (fun z => HC X cI cA (upd rI 18 (nI (s.K.length + 1 + 1))) z ol J) (va_up_up _ _ _ _))) ?_
  refine ep_iinc (v := 2) (j := 4) (lv' := [(0, .ref 16), (1, .int t), (2, .int n), (3, .int v), (4, .int 2)]) [1, 2, 3, 4, 0] d_M_begin_44 rfl (by decide) (by decide) rfl ?_
  refine ep_goto (tgt := 21) d_M_begin_47 (by decide) ?_
  refine ep_iload (j := 4) d_M_begin_21 rfl ?_
  refine ep_iconst (v := 3) d_M_begin_23 (by decide) ?_
  refine ep_icmp_ge (tgt := 50) d_M_begin_24 (by decide) (fun z => absurd z (by decide)) (fun _ => ?_)
  refine ep_aload_n (j := 0) d_M_begin_27 rfl rfl ?_
  refine ep_getf (fi := 22) (v := .ref 30) d_M_begin_28 cl5 lf_M_49 (by decide) rfl rfl ?_
  refine ep_iconst (v := 3) d_M_begin_31 (by decide) ?_
  refine ep_aload_n (j := 0) d_M_begin_32 rfl rfl ?_
  refine ep_getf (fi := 18) (v := .int (nI (s.K.length + 1 + 1))) d_M_begin_33 cl5 lf_M_120 (by decide) rfl rfl ?_
  refine ep_iconst (v := 1) d_M_begin_36 (by decide) ?_
  refine ep_isub d_M_begin_37 ?_
  refine ep_cg (y := nI (s.K.length + 1)) (nI_pred _) ?_
  refine ep_imul d_M_begin_38 ?_
  refine ep_cg (y := nI (3 * (s.K.length + 1))) (by rw [show (3 : Int32) = nI 3 from by decide, pk_mul]) ?_
  refine ep_iload (j := 4) d_M_begin_39 rfl ?_
  refine ep_iadd d_M_begin_41 ?_
  refine ep_cg (y := nI (3 * (s.K.length + 1) + 2)) (by rw [show (2 : Int32) = nI 2 from by decide, nI_add]) ?_
  refine ep_iconst (v := (-1)) d_M_begin_42 (by decide) ?_
  refine ep_iast' (h2 := HC X cI cA (upd rI 18 (nI (s.K.length + 1 + 1))) (va_up (va_up (va_up (va_up rA 19 (upd (rA 19) (s.K.length + 1) t)) 20 (upd (rA 20) (s.K.length + 1) n)) 21 (upd (rA 21) (s.K.length + 1) v)) 22 (upd (upd (upd (rA 22) (3 * (s.K.length + 1)) (-1)) (3 * (s.K.length + 1) + 1) (-1)) (3 * (s.K.length + 1) + 2) (-1))) ol J) (3 * (s.K.length + 1) + 2) d_M_begin_43 rfl rfl (by omega) (by decide) (hA_30.trans (congrArg (fun z => HC X cI cA (upd rI 18 (nI (s.K.length + 1 + 1))) z ol J) (va_up_up _ _ _ _))) ?_
  refine ep_iinc (v := 3) (j := 4) (lv' := [(0, .ref 16), (1, .int t), (2, .int n), (3, .int v), (4, .int 3)]) [1, 2, 3, 4, 0] d_M_begin_44 rfl (by decide) (by decide) rfl ?_
  refine ep_goto (tgt := 21) d_M_begin_47 (by decide) ?_
  refine ep_iload (j := 4) d_M_begin_21 rfl ?_
  refine ep_iconst (v := 3) d_M_begin_23 (by decide) ?_
  refine ep_icmp_ge (tgt := 50) d_M_begin_24 (by decide) (fun _ => ?_) (fun z => absurd (by decide) z)
  exact ep_vret d_M_begin_50 rfl (MP_ok rfl rfl (hd.be t n v))
set_option maxHeartbeats 4000000 in
set_option maxRecDepth 100000 in
theorem M_make (hd : MD L S ct rI rA s) (hl : s.N.length ≤ 300) (k v f g a b c : Int32) (hv : s.wr = false → Vo s.N f ∧ Vo s.N g ∧ Vo s.N a ∧ Vo s.N b ∧ Vo s.N c) : EvP m_M_make (d + 2) 0 [(0, .ref 16), (1, .int k), (2, .int v), (3, .int f), (4, .int g), (5, .int a), (6, .int b), (7, .int c)] [] (HC X cI cA rI rA ol J) (MPi X cI cA ol J L S ct (mMk k v f g a b c s)) := by
  refine ep_aload_n (j := 0) d_M_make_0 rfl rfl ?_
  refine ep_getf (fi := 24) (v := .int (bI s.wr)) d_M_make_1 cl5 lf_M_171 (by decide) rfl (congrArg (fun z => some (Value.int z)) hd.w) ?_
  refine ep_if_eq (tgt := 9) d_M_make_4 (by decide) (fun c4 => ?_) (fun c4 => ?_)
  · refine ep_aload_n (j := 0) d_M_make_9 rfl rfl ?_
    refine ep_iload_n (j := 1) d_M_make_10 rfl rfl ?_
    refine ep_iload_n (j := 2) d_M_make_11 rfl rfl ?_
    refine ep_iload_n (j := 3) d_M_make_12 rfl rfl ?_
    refine ep_iload (j := 4) d_M_make_13 rfl ?_
    refine ep_iload (j := 5) d_M_make_15 rfl ?_
    refine ep_iload (j := 6) d_M_make_17 rfl ?_
    refine ep_iload (j := 7) d_M_make_19 rfl ?_
    refine ep_callVnd (As := [.int k, .int v, .int f, .int g, .int a, .int b, .int c]) (st := []) d_M_make_21 lk_M_73 cal_M_node tm_M_node ts_M_node rfl rfl rfl (Nat.le_of_ble_eq_true rfl) (Nat.le_of_ble_eq_true rfl) rfl rfl (M_node ⟨hd.a, hd.n⟩ hl k v f g a b c (hv (bI_n c4))) (fun rI1 rA1 hM F => ?_)
    have hd1 := hd.nd hM F
    refine ep_istore (lv' := [(0, .ref 16), (1, .int k), (2, .int v), (3, .int f), (4, .int g), (5, .int a), (6, .int b), (7, .int c), (8, .int ((ndM s.N k v f g a b c).1))]) [1, 2, 3, 4, 5, 6, 7, 8, 0] d_M_make_24 (by decide) rfl ?_
    refine ep_aload_n (j := 0) d_M_make_26 rfl rfl ?_
    refine ep_join (pc2 := 44) (lv2 := [(0, .ref 16), (1, .int k), (2, .int v), (3, .int f), (4, .int g), (5, .int a), (6, .int b), (7, .int c), (8, .int ((ndM s.N k v f g a b c).1))]) (st2 := [.int (bI (decide (16 < cN (ndM s.N k v f g a b c).2 (ndM s.N k v f g a b c).1 7))), .ref 16]) ?_ (fun k44 => ?_)
    · refine ep_putf' (fi := 24) (h2 := HC X cI cA (upd rI1 24 (bI (decide (16 < cN (ndM s.N k v f g a b c).2 (ndM s.N k v f g a b c).1 7)))) rA1 ol J) d_M_make_44 cl5 lf_M_171 (by decide) (Or.inl rfl) (bI_f _) rfl hI_16_24 ?_
      have hd1 : MD L S ct (upd rI1 24 (bI (decide (16 < cN (ndM s.N k v f g a b c).2 (ndM s.N k v f g a b c).1 7)))) rA1 (mWr ((MS.u_N s ((ndM s.N k v f g a b c).2))) (decide (16 < cN (ndM s.N k v f g a b c).2 (ndM s.N k v f g a b c).1 7))) := hd1.sw (q := (decide (16 < cN (ndM s.N k v f g a b c).2 (ndM s.N k v f g a b c).1 7))) rfl
      generalize upd rI1 24 (bI (decide (16 < cN (ndM s.N k v f g a b c).2 (ndM s.N k v f g a b c).1 7))) = rI1 at hd1 ⊢
      refine ep_iload (j := 8) d_M_make_47 rfl ?_
      exact ep_iret d_M_make_49 rfl rfl (MP_ok (by rw [show mMk k v f g a b c s = ((ndM s.N k v f g a b c).1, (MS.u_wr (MS.u_N s ((ndM s.N k v f g a b c).2)) (decide (16 < cN (ndM s.N k v f g a b c).2 (ndM s.N k v f g a b c).1 7)))) from if_neg (by rw [bI_n c4]; decide)]) (by rw [show mMk k v f g a b c s = ((ndM s.N k v f g a b c).1, (MS.u_wr (MS.u_N s ((ndM s.N k v f g a b c).2)) (decide (16 < cN (ndM s.N k v f g a b c).2 (ndM s.N k v f g a b c).1 7)))) from if_neg (by rw [bI_n c4]; decide)]; rfl) hd1)
    · refine ep_aload_n (j := 0) d_M_make_27 rfl rfl ?_
      refine ep_getf (fi := 8) (v := .ref 22) d_M_make_28 cl5 lf_M_25 (by decide) rfl rfl ?_
      refine ep_iload (j := 8) d_M_make_31 rfl ?_
      refine ep_dpt (N := (ndM s.N k v f g a b c).2) d_M_make_33 hM.2 (by have := ndM_len (N := s.N) k v f g a b c; omega) (ndM_vd k v f g a b c) ?_
      refine ep_bipush (v := 16) d_M_make_34 (by decide) ?_
      refine ep_icmp_le (tgt := 43) d_M_make_36 (by decide) (fun c36 => ?_) (fun c36 => ?_)
      · refine ep_iconst (v := 0) d_M_make_43 (by decide) ?_
        refine ep_cg (y := bI (decide (16 < cN (ndM s.N k v f g a b c).2 (ndM s.N k v f g a b c).1 7))) (bd0 (Int32.not_lt.mpr c36)) ?_
        exact k44
      · refine ep_iconst (v := 1) d_M_make_39 (by decide) ?_
        refine ep_goto (tgt := 44) d_M_make_40 (by decide) ?_
        refine ep_cg (y := bI (decide (16 < cN (ndM s.N k v f g a b c).2 (ndM s.N k v f g a b c).1 7))) (bd1 (Int32.not_le.mp c36)) ?_
        exact k44
  · refine ep_iconst (v := 0) d_M_make_7 (by decide) ?_
    exact ep_iret d_M_make_8 rfl rfl (MP_ok (by rw [show mMk k v f g a b c s = (0, s) from if_pos (bI_t c4)]) (by rw [show mMk k v f g a b c s = (0, s) from if_pos (bI_t c4)]) hd)
set_option maxHeartbeats 4000000 in
set_option maxRecDepth 100000 in
theorem M_makeBuiltin (hd : MD L S ct rI rA s) (hl : s.N.length ≤ 300) (x : Int32) : EvP m_M_makeBuiltin (d + 3) 0 [(0, .ref 16), (1, .int x)] [] (HC X cI cA rI rA ol J) (MPi X cI cA ol J L S ct (mBi x s)) := by
  refine ep_aload_n (j := 0) d_M_makeBuiltin_0 rfl rfl ?_
  refine ep_iconst (v := 0) d_M_makeBuiltin_1 (by decide) ?_
  refine ep_iload_n (j := 1) d_M_makeBuiltin_2 rfl rfl ?_
  refine ep_iconst (v := (-1)) d_M_makeBuiltin_3 (by decide) ?_
  refine ep_iconst (v := (-1)) d_M_makeBuiltin_4 (by decide) ?_
  refine ep_iconst (v := (-1)) d_M_makeBuiltin_5 (by decide) ?_
  refine ep_iconst (v := (-1)) d_M_makeBuiltin_6 (by decide) ?_
  refine ep_iconst (v := (-1)) d_M_makeBuiltin_7 (by decide) ?_
  refine ep_callVm (As := [.int 0, .int x, .int (-1), .int (-1), .int (-1), .int (-1), .int (-1)]) (st := []) d_M_makeBuiltin_8 lk_M_190 cal_M_make tm_M_make ts_M_make rfl rfl rfl (Nat.le_of_ble_eq_true rfl) (Nat.le_of_ble_eq_true rfl) rfl rfl (M_make hd hl 0 x (-1) (-1) (-1) (-1) (-1) (fun _ => ⟨no_vo _, no_vo _, no_vo _, no_vo _, no_vo _⟩)) (fun rI1 rA1 hd1 => ?_)
  exact ep_iret d_M_makeBuiltin_11 rfl rfl (MP_ok rfl rfl hd1)
set_option maxHeartbeats 4000000 in
set_option maxRecDepth 100000 in
theorem M_makeName (hd : MD L S ct rI rA s) (hl : s.N.length ≤ 300) (x : Int32) : EvP m_M_makeName (d + 3) 0 [(0, .ref 16), (1, .int x)] [] (HC X cI cA rI rA ol J) (MPi X cI cA ol J L S ct (mNm x s)) := by
  refine ep_aload_n (j := 0) d_M_makeName_0 rfl rfl ?_
  refine ep_iconst (v := 1) d_M_makeName_1 (by decide) ?_
  refine ep_iload_n (j := 1) d_M_makeName_2 rfl rfl ?_
  refine ep_iconst (v := (-1)) d_M_makeName_3 (by decide) ?_
  refine ep_iconst (v := (-1)) d_M_makeName_4 (by decide) ?_
  refine ep_iconst (v := (-1)) d_M_makeName_5 (by decide) ?_
  refine ep_iconst (v := (-1)) d_M_makeName_6 (by decide) ?_
  refine ep_iconst (v := (-1)) d_M_makeName_7 (by decide) ?_
  refine ep_callVm (As := [.int 1, .int x, .int (-1), .int (-1), .int (-1), .int (-1), .int (-1)]) (st := []) d_M_makeName_8 lk_M_190 cal_M_make tm_M_make ts_M_make rfl rfl rfl (Nat.le_of_ble_eq_true rfl) (Nat.le_of_ble_eq_true rfl) rfl rfl (M_make hd hl 1 x (-1) (-1) (-1) (-1) (-1) (fun _ => ⟨no_vo _, no_vo _, no_vo _, no_vo _, no_vo _⟩)) (fun rI1 rA1 hd1 => ?_)
  exact ep_iret d_M_makeName_11 rfl rfl (MP_ok rfl rfl hd1)
abbrev Gp (m i : Nat) (g : Int32) : Prop := 0 < i ∧ i ≤ m ∧ (i = 1 ∨ ¬ g = 48)
set_option maxHeartbeats 4000000 in
set_option maxRecDepth 100000 in
theorem M_rn_e {m i : Nat} (hm : m ≤ 100) (hi : i ≤ 1000) {v g : Int32} (hd : MD L S ct rI rA s) : EvP m_M_readNumber (d + 1) 58 [(0, .ref 16), (1, .int (nI m)), (2, .int v), (3, .int (nI i)), (4, .int g)] [] (HC X cI cA rI rA ol J) (MP X cI cA ol J L S ct (some (.int (if Gp m i g then v else -1))) (mOr s (!decide (Gp m i g)))) := by
  refine ep_join (pc2 := 84) (lv2 := [(0, .ref 16), (1, .int (nI m)), (2, .int v), (3, .int (nI i)), (4, .int g)]) (st2 := [.int (bI (decide (Gp m i g)))]) ?_ (fun k84 => ?_)
  · refine ep_istore (lv' := [(0, .ref 16), (1, .int (nI m)), (2, .int v), (3, .int (nI i)), (4, .int g), (5, .int (bI (decide (Gp m i g))))]) [1, 2, 3, 4, 5, 0] d_M_readNumber_84 (by decide) rfl ?_
    refine ep_aload_n (j := 0) d_M_readNumber_86 rfl rfl ?_
    refine ep_join (pc2 := 104) (lv2 := [(0, .ref 16), (1, .int (nI m)), (2, .int v), (3, .int (nI i)), (4, .int g), (5, .int (bI (decide (Gp m i g))))]) (st2 := [.int (bI (s.wr || !decide (Gp m i g))), .ref 16]) ?_ (fun k104 => ?_)
    · refine ep_putf' (fi := 24) (h2 := HC X cI cA (upd rI 24 (bI (s.wr || !decide (Gp m i g)))) rA ol J) d_M_readNumber_104 cl5 lf_M_171 (by decide) (Or.inl rfl) (bI_f _) rfl hI_16_24 ?_
      have hd1 : MD L S ct (upd rI 24 (bI (s.wr || !decide (Gp m i g)))) rA (mWr s (s.wr || !decide (Gp m i g))) := hd.sw (q := (s.wr || !decide (Gp m i g))) rfl
      generalize upd rI 24 (bI (s.wr || !decide (Gp m i g))) = rI1 at hd1 ⊢
      refine ep_join (pc2 := 117) (lv2 := [(0, .ref 16), (1, .int (nI m)), (2, .int v), (3, .int (nI i)), (4, .int g), (5, .int (bI (decide (Gp m i g))))]) (st2 := [.int (if (Gp m i g) then v else -1)]) ?_ (fun k117 => ?_)
      · exact ep_iret d_M_readNumber_117 rfl rfl (MP_ok rfl rfl hd1)
      · refine ep_iload (j := 5) d_M_readNumber_107 rfl ?_
        refine ep_if_eq (tgt := 116) d_M_readNumber_109 (by decide) (fun c109 => ?_) (fun c109 => ?_)
        · refine ep_iconst (v := (-1)) d_M_readNumber_116 (by decide) ?_
          refine ep_cg (y := if (Gp m i g) then v else -1) ((if_neg (of_decide_eq_false (bI_n c109))).symm) ?_
          exact k117
        · refine ep_iload_n (j := 2) d_M_readNumber_112 rfl rfl ?_
          refine ep_goto (tgt := 117) d_M_readNumber_113 (by decide) ?_
          refine ep_cg (y := if (Gp m i g) then v else -1) ((if_pos (of_decide_eq_true (bI_t c109))).symm) ?_
          exact k117
    · refine ep_aload_n (j := 0) d_M_readNumber_87 rfl rfl ?_
      refine ep_getf (fi := 24) (v := .int (bI s.wr)) d_M_readNumber_88 cl5 lf_M_171 (by decide) rfl (congrArg (fun z => some (Value.int z)) hd.w) ?_
      refine ep_if_ne (tgt := 99) d_M_readNumber_91 (by decide) (fun c91 => ?_) (fun c91 => ?_)
      · refine ep_iconst (v := 1) d_M_readNumber_99 (by decide) ?_
        refine ep_goto (tgt := 104) d_M_readNumber_100 (by decide) ?_
        refine ep_cg (y := bI (s.wr || !decide (Gp m i g))) (bor1 c91) ?_
        exact k104
      · refine ep_iload (j := 5) d_M_readNumber_94 rfl ?_
        refine ep_if_ne (tgt := 103) d_M_readNumber_96 (by decide) (fun c96 => ?_) (fun c96 => ?_)
        · refine ep_iconst (v := 0) d_M_readNumber_103 (by decide) ?_
          refine ep_cg (y := bI (s.wr || !decide (Gp m i g))) (bor0 c91 (by rw [bI_t c96]; rfl)) ?_
          exact k104
        · refine ep_iconst (v := 1) d_M_readNumber_99 (by decide) ?_
          refine ep_goto (tgt := 104) d_M_readNumber_100 (by decide) ?_
          refine ep_cg (y := bI (s.wr || !decide (Gp m i g))) (bor2 c91 (by rw [bI_n c96]; rfl)) ?_
          exact k104
  · refine ep_iload_n (j := 3) d_M_readNumber_58 rfl rfl ?_
    refine ep_if_le (tgt := 83) d_M_readNumber_59 (by decide) (fun c59 => ?_) (fun c59 => ?_)
    · refine ep_iconst (v := 0) d_M_readNumber_83 (by decide) ?_
      refine ep_cg (y := bI (decide (Gp m i g))) (bd0 (fun u => absurd u.1 (by rw [← nI_0, nI_leI (by omega) (by omega)] at c59; omega))) ?_
      exact k84
    · refine ep_iload_n (j := 3) d_M_readNumber_62 rfl rfl ?_
      refine ep_iload_n (j := 1) d_M_readNumber_63 rfl rfl ?_
      refine ep_icmp_gt (tgt := 83) d_M_readNumber_64 (by decide) (fun c64 => ?_) (fun c64 => ?_)
      · refine ep_iconst (v := 0) d_M_readNumber_83 (by decide) ?_
        refine ep_cg (y := bI (decide (Gp m i g))) (bd0 (fun u => absurd u.2.1 (by rw [nI_ltI (by omega) (by omega)] at c64; omega))) ?_
        exact k84
      · refine ep_iload_n (j := 3) d_M_readNumber_67 rfl rfl ?_
        refine ep_iconst (v := 1) d_M_readNumber_68 (by decide) ?_
        refine ep_icmp_eq (tgt := 79) d_M_readNumber_69 (by decide) (fun c69 => ?_) (fun c69 => ?_)
        · refine ep_iconst (v := 1) d_M_readNumber_79 (by decide) ?_
          refine ep_goto (tgt := 84) d_M_readNumber_80 (by decide) ?_
          refine ep_cg (y := bI (decide (Gp m i g))) (bd1 ⟨(by rw [← nI_0, nI_leI (by omega) (by omega)] at c59; omega), (by rw [nI_ltI (by omega) (by omega)] at c64; omega), Or.inl ((nI_eq (by omega) (by omega)).mp c69)⟩) ?_
          exact k84
        · refine ep_iload (j := 4) d_M_readNumber_72 rfl ?_
          refine ep_bipush (v := 48) d_M_readNumber_74 (by decide) ?_
          refine ep_icmp_eq (tgt := 83) d_M_readNumber_76 (by decide) (fun c76 => ?_) (fun c76 => ?_)
          · refine ep_iconst (v := 0) d_M_readNumber_83 (by decide) ?_
            refine ep_cg (y := bI (decide (Gp m i g))) (bd0 (fun u => u.2.2.elim (fun v => c69 (by rw [v]; rfl)) (fun v => v c76))) ?_
            exact k84
          · refine ep_iconst (v := 1) d_M_readNumber_79 (by decide) ?_
            refine ep_goto (tgt := 84) d_M_readNumber_80 (by decide) ?_
            refine ep_cg (y := bI (decide (Gp m i g))) (bd1 ⟨(by rw [← nI_0, nI_leI (by omega) (by omega)] at c59; omega), (by rw [nI_ltI (by omega) (by omega)] at c64; omega), Or.inr c76⟩) ?_
            exact k84
theorem vl_app (b v : Int32) (x y : List Int32) : vlD b v (x ++ y) = vlD b (vlD b v x) y := by
  induction x generalizing v with
  | nil => rfl
  | cons c x ih => exact ih _
theorem vl_take (c : Int32) (r : List Int32) (v : Int32) (m i : Nat) {b : Int32} : vlD b (vlD b v ([c].take (m - i))) (r.take (m - (i + 1))) = vlD b v ((c :: r).take (m - i)) := by
  rw [← vl_app]
  refine congrArg (vlD b v) ?_
  by_cases h : m - i = 0
  · rw [h, show m - (i + 1) = 0 from by omega]; rfl
  · obtain ⟨z, hz⟩ : ∃ z, m - i = z + 1 := ⟨m - i - 1, by omega⟩
    rw [hz, show m - (i + 1) = z from by omega]
    show (c :: [].take z) ++ _ = _
    rw [List.take_nil]; rfl
set_option maxHeartbeats 4000000 in
set_option maxRecDepth 100000 in
theorem M_rn_l {m : Nat} (hm : m ≤ 100) {g : Int32} : ∀ (r : List Int32) (i : Nat) (v : Int32) (s : MS) {rI : Nat → Int32} {rA : Nat → Nat → Int32}, MD L S ct rI rA s → dgs L 10 s.p = r → s.p ≤ 400 → i + r.length ≤ 900 → EvP m_M_readNumber (d + 1) 10 [(0, .ref 16), (1, .int (nI m)), (2, .int v), (3, .int (nI i)), (4, .int g)] [] (HC X cI cA rI rA ol J) (MP X cI cA ol J L S ct (some (.int (if Gp m (i + r.length) g then vlD 10 v (r.take (m - i)) else -1))) (mOr (mAv s r.length) (!decide (Gp m (i + r.length) g)))) := by
  intro r
  induction r with
  | nil =>
    intro i v s rI rA hd hds hp0 hi
    have hdg : ¬ dgP (pk L s) := by have := dgs_n (b := 10) (by decide) hds; rw [dg_10] at this; exact this
    refine ep_aload_n (j := 0) d_M_readNumber_10 rfl rfl ?_
    refine ep_callVi (As := []) (st := []) d_M_readNumber_11 lk_M_174 cal_M_peek tm_M_peek ts_M_peek rfl rfl rfl (Nat.le_of_ble_eq_true rfl) (Nat.le_of_ble_eq_true rfl) rfl rfl (M_peek hd (by omega)) ?_
    refine ep_callSi (As := [.int (pk L s)]) (st := []) d_M_readNumber_14 (Or.inl lk_M_178) cal_M_isDigit tm_M_isDigit ti_M rfl (Nat.le_of_ble_eq_true rfl) (Nat.le_of_ble_eq_true rfl) rfl rfl (M_isDigit (pk L s)) ?_
    rw [if_neg hdg]
    refine ep_if_eq (tgt := 58) d_M_readNumber_17 (by decide) (fun _ => ?_) (fun z => absurd (by decide) z)
    rw [List.take_nil]
    exact M_rn_e (i := i) (s := s) hm (by have : ([] : List Int32).length = 0 := rfl; omega) hd
  | cons c r ih =>
    intro i v s rI rA hd hds hp0 hi
    simp only [List.length_cons] at hi
    obtain ⟨h1, h2, h3, h4⟩ := dgs_c hds
    have hdg : dgP c := by rw [dg_10] at h3; exact Classical.not_not.mp h3
    refine ep_aload_n (j := 0) d_M_readNumber_10 rfl rfl ?_
    refine ep_callVi (As := []) (st := []) d_M_readNumber_11 lk_M_174 cal_M_peek tm_M_peek ts_M_peek rfl rfl rfl (Nat.le_of_ble_eq_true rfl) (Nat.le_of_ble_eq_true rfl) rfl rfl (M_peek hd (by omega)) ?_
    refine ep_callSi (As := [.int (pk L s)]) (st := []) d_M_readNumber_14 (Or.inl lk_M_178) cal_M_isDigit tm_M_isDigit ti_M rfl (Nat.le_of_ble_eq_true rfl) (Nat.le_of_ble_eq_true rfl) rfl rfl (M_isDigit (pk L s)) ?_
    rw [h2, if_pos hdg]
    refine ep_if_eq (tgt := 58) d_M_readNumber_17 (by decide) (fun z => absurd z (by decide)) (fun _ => ?_)
    refine ep_join (pc2 := 41) (lv2 := [(0, .ref 16), (1, .int (nI m)), (2, .int v), (3, .int (nI i)), (4, .int g)]) (st2 := [.int (vlD 10 v ([c].take (m - i)))]) ?_ (fun k41 => ?_)
    · refine ep_istore_n (lv' := [(0, .ref 16), (1, .int (nI m)), (2, .int (vlD 10 v ([c].take (m - i)))), (3, .int (nI i)), (4, .int g)]) [1, 2, 0, 3, 4] d_M_readNumber_41 rfl (by decide) rfl ?_
      refine ep_iinc (v := (nI (i + 1))) (j := 3) (lv' := [(0, .ref 16), (1, .int (nI m)), (2, .int (vlD 10 v ([c].take (m - i)))), (3, .int (nI (i + 1))), (4, .int g)]) [1, 2, 3, 0, 4] d_M_readNumber_42 rfl (nI_1 _) (by decide) rfl ?_
      refine ep_aload_n (j := 0) d_M_readNumber_45 rfl rfl ?_
      refine ep_dup d_M_readNumber_46 rfl ?_
      refine ep_getf (fi := 23) (v := .int (nI s.p)) d_M_readNumber_47 cl5 lf_M_168 (by decide) rfl (congrArg (fun z => some (Value.int z)) hd.p) ?_
      refine ep_iconst (v := 1) d_M_readNumber_50 (by decide) ?_
      refine ep_iadd d_M_readNumber_51 ?_
      refine ep_putf' (fi := 23) (h2 := HC X cI cA (upd rI 23 ((nI s.p) + 1)) rA ol J) d_M_readNumber_52 cl5 lf_M_168 (by decide) (Or.inl rfl) rfl rfl hI_16_23 ?_
      have hd1 : MD L S ct (upd rI 23 ((nI s.p) + 1)) rA (mAv s 1) := hd.sp (q := (s.p + 1)) (nI_1 _)
      generalize upd rI 23 ((nI s.p) + 1) = rI1 at hd1 ⊢
      refine ep_goto (tgt := 10) d_M_readNumber_55 (by decide) ?_
      have := ih (i + 1) (vlD 10 v ([c].take (m - i))) (mAv s 1) hd1 h4 (by show s.p + 1 ≤ 400; have := hd.l1; omega) (by omega)
      rw [show vlD 10 (vlD 10 v ([c].take (m - i))) (r.take (m - (i + 1))) = vlD 10 v ((c :: r).take (m - i)) from vl_take c r v m i, show i + 1 + r.length = i + (c :: r).length from by simp; omega, show mAv (mAv s 1) r.length = mAv s (c :: r).length from congrArg (MS.u_p s) (show s.p + 1 + r.length = s.p + (r.length + 1) by omega)] at this
      exact this
    · refine ep_iload_n (j := 3) d_M_readNumber_20 rfl rfl ?_
      refine ep_iload_n (j := 1) d_M_readNumber_21 rfl rfl ?_
      refine ep_icmp_ge (tgt := 40) d_M_readNumber_22 (by decide) (fun c22 => ?_) (fun c22 => ?_)
      · refine ep_iload_n (j := 2) d_M_readNumber_40 rfl rfl ?_
        refine ep_cg (y := vlD 10 v ([c].take (m - i))) (by have q : m - i = 0 := by {rw [nI_leI (by omega) (by omega)] at c22; omega}; rw [q]; rfl) ?_
        exact k41
      · refine ep_bipush (v := 10) d_M_readNumber_25 (by decide) ?_
        refine ep_iload_n (j := 2) d_M_readNumber_27 rfl rfl ?_
        refine ep_imul d_M_readNumber_28 ?_
        refine ep_aload_n (j := 0) d_M_readNumber_29 rfl rfl ?_
        refine ep_callVi (As := []) (st := [.int (10 * v)]) d_M_readNumber_30 lk_M_174 cal_M_peek tm_M_peek ts_M_peek rfl rfl rfl (Nat.le_of_ble_eq_true rfl) (Nat.le_of_ble_eq_true rfl) rfl rfl (M_peek hd (by omega)) ?_
        refine ep_iadd d_M_readNumber_33 ?_
        refine ep_bipush (v := 48) d_M_readNumber_34 (by decide) ?_
        refine ep_isub d_M_readNumber_36 ?_
        refine ep_goto (tgt := 41) d_M_readNumber_37 (by decide) ?_
        refine ep_cg (y := vlD 10 v ([c].take (m - i))) (by have q : ∃ z, m - i = z + 1 := ⟨m - i - 1, by {rw [nI_leI (by omega) (by omega)] at c22; omega}⟩; obtain ⟨z, q⟩ := q; rw [q, h2, dg_v hdg]; cases z <;> rfl) ?_
        exact k41
set_option maxHeartbeats 4000000 in
set_option maxRecDepth 100000 in
theorem M_readNumber {m : Nat} (hm : m ≤ 100) (hd : MD L S ct rI rA s) (hp0 : s.p ≤ 400) : EvP m_M_readNumber (d + 1) 0 [(0, .ref 16), (1, .int (nI m))] [] (HC X cI cA rI rA ol J) (MPi X cI cA ol J L S ct (mNum L m s)) := by
  refine ep_iconst (v := 0) d_M_readNumber_0 (by decide) ?_
  refine ep_istore_n (lv' := [(0, .ref 16), (1, .int (nI m)), (2, .int 0)]) [1, 2, 0] d_M_readNumber_1 rfl (by decide) rfl ?_
  refine ep_iconst (v := 0) d_M_readNumber_2 (by decide) ?_
  refine ep_istore_n (lv' := [(0, .ref 16), (1, .int (nI m)), (2, .int 0), (3, .int 0)]) [1, 2, 3, 0] d_M_readNumber_3 rfl (by decide) rfl ?_
  refine ep_aload_n (j := 0) d_M_readNumber_4 rfl rfl ?_
  refine ep_callVi (As := []) (st := []) d_M_readNumber_5 lk_M_174 cal_M_peek tm_M_peek ts_M_peek rfl rfl rfl (Nat.le_of_ble_eq_true rfl) (Nat.le_of_ble_eq_true rfl) rfl rfl (M_peek hd (by omega)) ?_
  refine ep_istore (lv' := [(0, .ref 16), (1, .int (nI m)), (2, .int 0), (3, .int 0), (4, .int (pk L s))]) [1, 2, 3, 4, 0] d_M_readNumber_8 (by decide) rfl ?_
  have := M_rn_l (d := d) (X := X) (cI := cI) (cA := cA) (ol := ol) (J := J) hm (g := pk L s) (dgs L 10 s.p) 0 0 s hd rfl (by omega) (by have := dgs_len L 10 s.p; have := hd.l1; omega)
  rw [Nat.zero_add, Nat.sub_zero] at this
  have e : mNum L m s = (if Gp m (dgs L 10 s.p).length (pk L s) then vlD 10 0 ((dgs L 10 s.p).take m) else -1, mOr (mAv s (dgs L 10 s.p).length) (!decide (Gp m (dgs L 10 s.p).length (pk L s)))) := by
    unfold mNum nGd
    simp only [decide_eq_true_eq]
  rw [e]
  exact this
end MS1
