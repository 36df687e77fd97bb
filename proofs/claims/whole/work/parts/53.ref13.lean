/-! the reference: read; by program (wip/whole/gen53.py) -/
/-- the reference between calls: nodes, text, table -/
def MB (rI : Nat → Int32) (rA : Nat → Nat → Int32) (S : CSt) : Prop := (rI 1 = nI S.1.length ∧ S.1 = mdL rA S.1.length) ∧ (rI 10 = nI S.2.1.length ∧ S.2.1 = rowL (rA 9) S.2.1.length) ∧ (rI 14 = nI S.2.2.length ∧ S.2.2 = rowL (rA 15) S.2.2.length)
/-- the end of a method of the reference -/
def BPg (X : Nat × (Nat → Int32)) (cI : Nat → Int32) (cA : Nat → Nat → Int32) (ol : Int64) (J : mH) (v : Option Value) (th : Int32) (S : CSt) : mR → mH → Prop := fun r h' => r = .inl v ∧ ∃ (rI : Nat → Int32) (rA : Nat → Nat → Int32), h' = HC X cI cA rI rA ol J ∧ MB rI rA S ∧ rI 0 = th
abbrev BP (X : Nat × (Nat → Int32)) (cI : Nat → Int32) (cA : Nat → Nat → Int32) (ol : Int64) (J : mH) (v : Int32) (th : Int32) (S : CSt) : mR → mH → Prop := BPg X cI cA ol J (some (.int v)) th S
abbrev MT (L : List Int32) (p : Nat) (w : Bool) (rI : Nat → Int32) (rA : Nat → Nat → Int32) : Prop := (rI 10 = nI L.length) ∧ (L = rowL (rA 9) L.length) ∧ (L.length ≤ 120) ∧ (rI 23 = nI p) ∧ (rI 24 = bI w)
theorem MT.z {L : List Int32} {p : Nat} {w : Bool} {rI : Nat → Int32} {rA : Nat → Nat → Int32} (h_ : MT L p w rI rA) : rI 10 = nI L.length := h_.1
theorem MT.l {L : List Int32} {p : Nat} {w : Bool} {rI : Nat → Int32} {rA : Nat → Nat → Int32} (h_ : MT L p w rI rA) : L = rowL (rA 9) L.length := h_.2.1
theorem MT.l1 {L : List Int32} {p : Nat} {w : Bool} {rI : Nat → Int32} {rA : Nat → Nat → Int32} (h_ : MT L p w rI rA) : L.length ≤ 120 := h_.2.2.1
theorem MT.p {L : List Int32} {p : Nat} {w : Bool} {rI : Nat → Int32} {rA : Nat → Nat → Int32} (h_ : MT L p w rI rA) : rI 23 = nI p := h_.2.2.2.1
theorem MT.w {L : List Int32} {p : Nat} {w : Bool} {rI : Nat → Int32} {rA : Nat → Nat → Int32} (h_ : MT L p w rI rA) : rI 24 = bI w := h_.2.2.2.2
section MSB
variable {d : Nat} {X : Nat × (Nat → Int32)} {cI : Nat → Int32} {cA : Nat → Nat → Int32} {rI : Nat → Int32} {rA : Nat → Nat → Int32} {ol : Int64} {J : mH} {L T : List Int32} {ct : Nat} {p : Nat} {wb : Bool} {N : List (List Int32)} {S : CSt}
theorem BP_ok {v : Option Value} {th : Int32} {u : Option Value} (ev : u = v) (h : MB rI rA S) (ht : rI 0 = th) : BPg X cI cA ol J v th S (.inl u) (HC X cI cA rI rA ol J) := by
  subst ev
  exact ⟨rfl, rI, rA, rfl, h, ht⟩
set_option maxHeartbeats 4000000 in
set_option maxRecDepth 100000 in
theorem M_peek0 (hT : MT L p wb rI rA) (hp0 : p ≤ 1000) : EvP m_M_peek d 0 [(0, .ref 16)] [] (HC X cI cA rI rA ol J) (Ri (L.getD p 0) (HC X cI cA rI rA ol J)) := by
  refine ep_aload_n (j := 0) d_M_peek_0 rfl rfl ?_
  refine ep_getf (fi := 23) (v := .int (nI p)) d_M_peek_1 cl5 lf_M_168 (by decide) rfl (congrArg (fun z => some (Value.int z)) hT.p) ?_
  refine ep_aload_n (j := 0) d_M_peek_4 rfl rfl ?_
  refine ep_getf (fi := 10) (v := .int (nI L.length)) d_M_peek_5 cl5 lf_M_157 (by decide) rfl (congrArg (fun z => some (Value.int z)) hT.z) ?_
  refine ep_icmp_ge (tgt := 23) d_M_peek_8 (by decide) (fun c8 => ?_) (fun c8 => ?_)
  · refine ep_iconst (v := 0) d_M_peek_23 (by decide) ?_
    exact ep_iret d_M_peek_24 rfl rfl (⟨congrArg (fun z => Sum.inl (some (Value.int z))) (by have hp : ¬ p < L.length := by {rw [nI_leI (by have := hT.l1; omega) (by omega)] at c8; omega}; rw [List.getD_eq_getElem?_getD, List.getElem?_eq_none (by omega)]; rfl), rfl⟩)
  · have hp : p < L.length := by rw [nI_leI (by have := hT.l1; omega) (by omega)] at c8; omega
    refine ep_aload_n (j := 0) d_M_peek_11 rfl rfl ?_
    refine ep_getf (fi := 9) (v := .ref 23) d_M_peek_12 cl5 lf_M_28 (by decide) rfl rfl ?_
    refine ep_aload_n (j := 0) d_M_peek_15 rfl rfl ?_
    refine ep_getf (fi := 23) (v := .int (nI p)) d_M_peek_16 cl5 lf_M_168 (by decide) rfl (congrArg (fun z => some (Value.int z)) hT.p) ?_
    refine ep_iald (f := rA 9) p d_M_peek_19 rfl rfl (by have := hT.l1; omega) (by decide) ?_
    refine ep_goto (tgt := 24) d_M_peek_20 (by decide) ?_
    exact ep_iret d_M_peek_24 rfl rfl (⟨congrArg (fun z => Sum.inl (some (Value.int z))) (by rw [List.getD_eq_getElem?_getD]; have := rowL_at (f := rA 9) hp; rw [← hT.l] at this; rw [this]; rfl), rfl⟩)
set_option maxHeartbeats 4000000 in
set_option maxRecDepth 100000 in
theorem M_expect0 (hT : MT L p wb rI rA) (hp0 : p ≤ 1000) (c : Int32) : EvP m_M_expect (d + 1) 0 [(0, .ref 16), (1, .int c)] [] (HC X cI cA rI rA ol J) (Rv (HC X cI cA (upd (upd rI 24 (bI (wb || decide (¬ L.getD p 0 = c)))) 23 (nI (p + 1))) rA ol J)) := by
  refine ep_aload_n (j := 0) d_M_expect_0 rfl rfl ?_
  refine ep_join (pc2 := 21) (lv2 := [(0, .ref 16), (1, .int c)]) (st2 := [.int (bI (wb || decide (¬ L.getD p 0 = c))), .ref 16]) ?_ (fun k21 => ?_)
  · refine ep_putf' (fi := 24) (h2 := HC X cI cA (upd rI 24 (bI (wb || decide (¬ L.getD p 0 = c)))) rA ol J) d_M_expect_21 cl5 lf_M_171 (by decide) (Or.inl rfl) (bI_f _) rfl hI_16_24 ?_
    refine ep_aload_n (j := 0) d_M_expect_24 rfl rfl ?_
    refine ep_dup d_M_expect_25 rfl ?_
    refine ep_getf (fi := 23) (v := .int (nI p)) d_M_expect_26 cl5 lf_M_168 (by decide) rfl (congrArg (fun z => some (Value.int z)) hT.p) ?_
    refine ep_iconst (v := 1) d_M_expect_29 (by decide) ?_
    refine ep_iadd d_M_expect_30 ?_
    refine ep_cg (y := nI (p + 1)) (nI_1 _) ?_
    refine ep_putf' (fi := 23) (h2 := HC X cI cA (upd (upd rI 24 (bI (wb || decide (¬ L.getD p 0 = c)))) 23 (nI (p + 1))) rA ol J) d_M_expect_31 cl5 lf_M_168 (by decide) (Or.inl rfl) rfl rfl hI_16_23 ?_
    exact ep_vret d_M_expect_34 rfl (⟨rfl, rfl⟩)
  · refine ep_aload_n (j := 0) d_M_expect_1 rfl rfl ?_
    refine ep_getf (fi := 24) (v := .int (bI wb)) d_M_expect_2 cl5 lf_M_171 (by decide) rfl (congrArg (fun z => some (Value.int z)) hT.w) ?_
    refine ep_if_ne (tgt := 16) d_M_expect_5 (by decide) (fun c5 => ?_) (fun c5 => ?_)
    · refine ep_iconst (v := 1) d_M_expect_16 (by decide) ?_
      refine ep_goto (tgt := 21) d_M_expect_17 (by decide) ?_
      refine ep_cg (y := bI (wb || decide (¬ L.getD p 0 = c))) (bor1 c5) ?_
      exact k21
    · refine ep_aload_n (j := 0) d_M_expect_8 rfl rfl ?_
      refine ep_callVi (As := []) (st := [.ref 16]) d_M_expect_9 lk_M_174 cal_M_peek tm_M_peek ts_M_peek rfl rfl rfl (Nat.le_of_ble_eq_true rfl) (Nat.le_of_ble_eq_true rfl) rfl rfl (M_peek0 hT hp0) ?_
      refine ep_iload_n (j := 1) d_M_expect_12 rfl rfl ?_
      refine ep_icmp_eq (tgt := 20) d_M_expect_13 (by decide) (fun c13 => ?_) (fun c13 => ?_)
      · refine ep_iconst (v := 0) d_M_expect_20 (by decide) ?_
        refine ep_cg (y := bI (wb || decide (¬ L.getD p 0 = c))) (bor0 c5 (decide_eq_false (fun u => u c13))) ?_
        exact k21
      · refine ep_iconst (v := 1) d_M_expect_16 (by decide) ?_
        refine ep_goto (tgt := 21) d_M_expect_17 (by decide) ?_
        refine ep_cg (y := bI (wb || decide (¬ L.getD p 0 = c))) (bor2 c5 (decide_eq_true c13)) ?_
        exact k21
set_option maxHeartbeats 4000000 in
set_option maxRecDepth 100000 in
theorem M_begin0 (ht : rI 18 = nI 0) (t n v : Int32) : EvP m_M_begin (d + 1) 0 [(0, .ref 16), (1, .int t), (2, .int n), (3, .int v)] [] (HC X cI cA rI rA ol J) (Rv (HC X cI cA (upd rI 18 (nI (0 + 1))) (va_up (va_up (va_up (va_up rA 19 (upd (rA 19) 0 t)) 20 (upd (rA 20) 0 n)) 21 (upd (rA 21) 0 v)) 22 (upd (upd (upd (rA 22) 0 (-1)) 1 (-1)) 2 (-1))) ol J)) := by
  refine ep_aload_n (j := 0) d_M_begin_0 rfl rfl ?_
  refine ep_iload_n (j := 1) d_M_begin_1 rfl rfl ?_
  refine ep_iload_n (j := 2) d_M_begin_2 rfl rfl ?_
  refine ep_callVv (As := [.int t, .int n]) (st := []) d_M_begin_3 lk_M_123 cal_M_push tm_M_push ts_M_push rfl rfl rfl (Nat.le_of_ble_eq_true rfl) (Nat.le_of_ble_eq_true rfl) rfl rfl (M_push (k := 0) ht (by decide) t n) ?_
  refine ep_aload_n (j := 0) d_M_begin_6 rfl rfl ?_
  refine ep_getf (fi := 21) (v := .ref 29) d_M_begin_7 cl5 lf_M_46 (by decide) rfl rfl ?_
  refine ep_aload_n (j := 0) d_M_begin_10 rfl rfl ?_
  refine ep_getf (fi := 18) (v := .int (nI (0 + 1))) d_M_begin_11 cl5 lf_M_120 (by decide) rfl rfl ?_
  refine ep_iconst (v := 1) d_M_begin_14 (by decide) ?_
  refine ep_isub d_M_begin_15 ?_
  refine ep_cg (y := nI 0) (by decide) ?_
  refine ep_iload_n (j := 3) d_M_begin_16 rfl rfl ?_
  refine ep_iast' (h2 := HC X cI cA (upd rI 18 (nI (0 + 1))) (va_up (va_up (va_up rA 19 (upd (rA 19) 0 t)) 20 (upd (rA 20) 0 n)) 21 (upd (rA 21) 0 v)) ol J) 0 d_M_begin_17 rfl rfl (by decide) (by decide) hA_29 ?_
  refine ep_iconst (v := 0) d_M_begin_18 (by decide) ?_
  refine ep_istore (lv' := [(0, .ref 16), (1, .int t), (2, .int n), (3, .int v), (4, .int 0)]) [1, 2, 3, 4, 0] d_M_begin_19 (by decide) rfl ?_
  refine ep_iload (j := 4) d_M_begin_21 rfl ?_
  refine ep_iconst (v := 3) d_M_begin_23 (by decide) ?_
  refine ep_icmp_ge (tgt := 50) d_M_begin_24 (by decide) (fun z => absurd z (by decide)) (fun _ => ?_)
  refine ep_aload_n (j := 0) d_M_begin_27 rfl rfl ?_
  refine ep_getf (fi := 22) (v := .ref 30) d_M_begin_28 cl5 lf_M_49 (by decide) rfl rfl ?_
  refine ep_iconst (v := 3) d_M_begin_31 (by decide) ?_
  refine ep_aload_n (j := 0) d_M_begin_32 rfl rfl ?_
  refine ep_getf (fi := 18) (v := .int (nI (0 + 1))) d_M_begin_33 cl5 lf_M_120 (by decide) rfl rfl ?_
  refine ep_iconst (v := 1) d_M_begin_36 (by decide) ?_
  refine ep_isub d_M_begin_37 ?_
  refine ep_cg (y := nI 0) (by decide) ?_
  refine ep_imul d_M_begin_38 ?_
  refine ep_cg (y := nI 0) (by decide) ?_
  refine ep_iload (j := 4) d_M_begin_39 rfl ?_
  refine ep_iadd d_M_begin_41 ?_
  refine ep_cg (y := nI 0) (by decide) ?_
  refine ep_iconst (v := (-1)) d_M_begin_42 (by decide) ?_
  refine ep_iast' (h2 := HC X cI cA (upd rI 18 (nI (0 + 1))) (va_up (va_up (va_up (va_up rA 19 (upd (rA 19) 0 t)) 20 (upd (rA 20) 0 n)) 21 (upd (rA 21) 0 v)) 22 (upd (rA 22) 0 (-1))) ol J) 0 d_M_begin_43 rfl rfl (by decide) (by decide) hA_30 ?_
  refine ep_iinc (v := 1) (j := 4) (lv' := [(0, .ref 16), (1, .int t), (2, .int n), (3, .int v), (4, .int 1)]) [1, 2, 3, 4, 0] d_M_begin_44 rfl (by decide) (by decide) rfl ?_
  refine ep_goto (tgt := 21) d_M_begin_47 (by decide) ?_
  refine ep_iload (j := 4) d_M_begin_21 rfl ?_
  refine ep_iconst (v := 3) d_M_begin_23 (by decide) ?_
  refine ep_icmp_ge (tgt := 50) d_M_begin_24 (by decide) (fun z => absurd z (by decide)) (fun _ => ?_)
  refine ep_aload_n (j := 0) d_M_begin_27 rfl rfl ?_
  refine ep_getf (fi := 22) (v := .ref 30) d_M_begin_28 cl5 lf_M_49 (by decide) rfl rfl ?_
  refine ep_iconst (v := 3) d_M_begin_31 (by decide) ?_
  refine ep_aload_n (j := 0) d_M_begin_32 rfl rfl ?_
  refine ep_getf (fi := 18) (v := .int (nI (0 + 1))) d_M_begin_33 cl5 lf_M_120 (by decide) rfl rfl ?_
  refine ep_iconst (v := 1) d_M_begin_36 (by decide) ?_
  refine ep_isub d_M_begin_37 ?_
  refine ep_cg (y := nI 0) (by decide) ?_
  refine ep_imul d_M_begin_38 ?_
  refine ep_cg (y := nI 0) (by decide) ?_
  refine ep_iload (j := 4) d_M_begin_39 rfl ?_
  refine ep_iadd d_M_begin_41 ?_
  refine ep_cg (y := nI 1) (by decide) ?_
  refine ep_iconst (v := (-1)) d_M_begin_42 (by decide) ?_
  refine ep_iast' (h2 := HC X cI cA (upd rI 18 (nI (0 + 1))) (va_up (va_up (va_up (va_up rA 19 (upd (rA 19) 0 t)) 20 (upd (rA 20) 0 n)) 21 (upd (rA 21) 0 v)) 22 (upd (upd (rA 22) 0 (-1)) 1 (-1))) ol J) 1 d_M_begin_43 rfl rfl (by decide) (by decide) (hA_30.trans (congrArg (fun z => HC X cI cA (upd rI 18 (nI (0 + 1))) z ol J) (va_up_up _ _ _ _))) ?_
  refine ep_iinc (v := 2) (j := 4) (lv' := [(0, .ref 16), (1, .int t), (2, .int n), (3, .int v), (4, .int 2)]) [1, 2, 3, 4, 0] d_M_begin_44 rfl (by decide) (by decide) rfl ?_
  refine ep_goto (tgt := 21) d_M_begin_47 (by decide) ?_
  refine ep_iload (j := 4) d_M_begin_21 rfl ?_
  refine ep_iconst (v := 3) d_M_begin_23 (by decide) ?_
  refine ep_icmp_ge (tgt := 50) d_M_begin_24 (by decide) (fun z => absurd z (by decide)) (fun _ => ?_)
  refine ep_aload_n (j := 0) d_M_begin_27 rfl rfl ?_
  refine ep_getf (fi := 22) (v := .ref 30) d_M_begin_28 cl5 lf_M_49 (by decide) rfl rfl ?_
  refine ep_iconst (v := 3) d_M_begin_31 (by decide) ?_
  refine ep_aload_n (j := 0) d_M_begin_32 rfl rfl ?_
  refine ep_getf (fi := 18) (v := .int (nI (0 + 1))) d_M_begin_33 cl5 lf_M_120 (by decide) rfl rfl ?_
  refine ep_iconst (v := 1) d_M_begin_36 (by decide) ?_
  refine ep_isub d_M_begin_37 ?_
  refine ep_cg (y := nI 0) (by decide) ?_
  refine ep_imul d_M_begin_38 ?_
  refine ep_cg (y := nI 0) (by decide) ?_
  refine ep_iload (j := 4) d_M_begin_39 rfl ?_
  refine ep_iadd d_M_begin_41 ?_
  refine ep_cg (y := nI 2) (by decide) ?_
  refine ep_iconst (v := (-1)) d_M_begin_42 (by decide) ?_
  refine ep_iast' (h2 := HC X cI cA (upd rI 18 (nI (0 + 1))) (va_up (va_up (va_up (va_up rA 19 (upd (rA 19) 0 t)) 20 (upd (rA 20) 0 n)) 21 (upd (rA 21) 0 v)) 22 (upd (upd (upd (rA 22) 0 (-1)) 1 (-1)) 2 (-1))) ol J) 2 d_M_begin_43 rfl rfl (by decide) (by decide) (hA_30.trans (congrArg (fun z => HC X cI cA (upd rI 18 (nI (0 + 1))) z ol J) (va_up_up _ _ _ _))) ?_
  refine ep_iinc (v := 3) (j := 4) (lv' := [(0, .ref 16), (1, .int t), (2, .int n), (3, .int v), (4, .int 3)]) [1, 2, 3, 4, 0] d_M_begin_44 rfl (by decide) (by decide) rfl ?_
  refine ep_goto (tgt := 21) d_M_begin_47 (by decide) ?_
  refine ep_iload (j := 4) d_M_begin_21 rfl ?_
  refine ep_iconst (v := 3) d_M_begin_23 (by decide) ?_
  refine ep_icmp_ge (tgt := 50) d_M_begin_24 (by decide) (fun _ => ?_) (fun z => absurd (by decide) z)
  exact ep_vret d_M_begin_50 rfl (⟨rfl, rfl⟩)
/-- where reading begins -/
def s00 (N : List (List Int32)) : MS := ⟨N, [], [], 0, false, false, -1, -1, -1, -1⟩
abbrev MR0 (L T : List Int32) (ct : Nat) (N : List (List Int32)) (rI : Nat → Int32) (rA : Nat → Nat → Int32) : Prop := (rI 1 = nI ct) ∧ (rI 2 = nI N.length) ∧ (N = mdL rA N.length) ∧ (rI 10 = nI L.length) ∧ (L = rowL (rA 9) L.length) ∧ (L.length ≤ 120) ∧ (rI 14 = nI T.length) ∧ (T = rowL (rA 15) T.length) ∧ (rI 16 = nI 0) ∧ (rI 18 = nI 0) ∧ (rI 23 = nI 0) ∧ (rI 24 = bI false) ∧ (rI 25 = bI false)
theorem MR0.c {L T : List Int32} {ct : Nat} {N : List (List Int32)} {rI : Nat → Int32} {rA : Nat → Nat → Int32} (h_ : MR0 L T ct N rI rA) : rI 1 = nI ct := h_.1
theorem MR0.a {L T : List Int32} {ct : Nat} {N : List (List Int32)} {rI : Nat → Int32} {rA : Nat → Nat → Int32} (h_ : MR0 L T ct N rI rA) : rI 2 = nI N.length := h_.2.1
theorem MR0.n {L T : List Int32} {ct : Nat} {N : List (List Int32)} {rI : Nat → Int32} {rA : Nat → Nat → Int32} (h_ : MR0 L T ct N rI rA) : N = mdL rA N.length := h_.2.2.1
theorem MR0.z {L T : List Int32} {ct : Nat} {N : List (List Int32)} {rI : Nat → Int32} {rA : Nat → Nat → Int32} (h_ : MR0 L T ct N rI rA) : rI 10 = nI L.length := h_.2.2.2.1
theorem MR0.l {L T : List Int32} {ct : Nat} {N : List (List Int32)} {rI : Nat → Int32} {rA : Nat → Nat → Int32} (h_ : MR0 L T ct N rI rA) : L = rowL (rA 9) L.length := h_.2.2.2.2.1
theorem MR0.l1 {L T : List Int32} {ct : Nat} {N : List (List Int32)} {rI : Nat → Int32} {rA : Nat → Nat → Int32} (h_ : MR0 L T ct N rI rA) : L.length ≤ 120 := h_.2.2.2.2.2.1
theorem MR0.sz {L T : List Int32} {ct : Nat} {N : List (List Int32)} {rI : Nat → Int32} {rA : Nat → Nat → Int32} (h_ : MR0 L T ct N rI rA) : rI 14 = nI T.length := h_.2.2.2.2.2.2.1
theorem MR0.sl {L T : List Int32} {ct : Nat} {N : List (List Int32)} {rI : Nat → Int32} {rA : Nat → Nat → Int32} (h_ : MR0 L T ct N rI rA) : T = rowL (rA 15) T.length := h_.2.2.2.2.2.2.2.1
theorem MR0.ez {L T : List Int32} {ct : Nat} {N : List (List Int32)} {rI : Nat → Int32} {rA : Nat → Nat → Int32} (h_ : MR0 L T ct N rI rA) : rI 16 = nI 0 := h_.2.2.2.2.2.2.2.2.1
theorem MR0.tz {L T : List Int32} {ct : Nat} {N : List (List Int32)} {rI : Nat → Int32} {rA : Nat → Nat → Int32} (h_ : MR0 L T ct N rI rA) : rI 18 = nI 0 := h_.2.2.2.2.2.2.2.2.2.1
theorem MR0.pz {L T : List Int32} {ct : Nat} {N : List (List Int32)} {rI : Nat → Int32} {rA : Nat → Nat → Int32} (h_ : MR0 L T ct N rI rA) : rI 23 = nI 0 := h_.2.2.2.2.2.2.2.2.2.2.1
theorem MR0.w {L T : List Int32} {ct : Nat} {N : List (List Int32)} {rI : Nat → Int32} {rA : Nat → Nat → Int32} (h_ : MR0 L T ct N rI rA) : rI 24 = bI false := h_.2.2.2.2.2.2.2.2.2.2.2.1
theorem MR0.e {L T : List Int32} {ct : Nat} {N : List (List Int32)} {rI : Nat → Int32} {rA : Nat → Nat → Int32} (h_ : MR0 L T ct N rI rA) : rI 25 = bI false := h_.2.2.2.2.2.2.2.2.2.2.2.2
set_option maxHeartbeats 4000000 in
set_option maxRecDepth 100000 in
theorem M_readEntity {res : IM} (h : RE L (mEx L 90 (mEx L 95 (s00 N))) res) (h0 : MR0 L T ct N rI rA) : EvP m_M_readEntity (d + 10) 0 [(0, .ref 16)] [] (HC X cI cA rI rA ol J) (MPi X cI cA ol J L T ct res) := by
  refine ep_aload_n (j := 0) d_M_readEntity_0 rfl rfl ?_
  refine ep_bipush (v := 95) d_M_readEntity_1 (by decide) ?_
  refine ep_callVv (As := [.int 95]) (st := []) d_M_readEntity_3 lk_M_184 cal_M_expect tm_M_expect ts_M_expect rfl rfl rfl (Nat.le_of_ble_eq_true rfl) (Nat.le_of_ble_eq_true rfl) rfl rfl (M_expect0 (p := 0) (wb := false) ⟨h0.z, h0.l, h0.l1, h0.pz, h0.w⟩ (by decide) 95) ?_
  refine ep_aload_n (j := 0) d_M_readEntity_6 rfl rfl ?_
  refine ep_bipush (v := 90) d_M_readEntity_7 (by decide) ?_
  refine ep_callVv (As := [.int 90]) (st := []) d_M_readEntity_9 lk_M_184 cal_M_expect tm_M_expect ts_M_expect rfl rfl rfl (Nat.le_of_ble_eq_true rfl) (Nat.le_of_ble_eq_true rfl) rfl rfl (M_expect0 (rI := upd (upd rI 24 (bI (false || decide (¬ L.getD 0 0 = 95)))) 23 (nI (0 + 1))) (rA := rA) (p := 0 + 1) (wb := (false || decide (¬ L.getD 0 0 = 95))) ⟨h0.z, h0.l, h0.l1, rfl, rfl⟩ (by decide) 90) ?_
  refine ep_aload_n (j := 0) d_M_readEntity_12 rfl rfl ?_
  refine ep_bipush (v := 10) d_M_readEntity_13 (by decide) ?_
  refine ep_iconst (v := (-1)) d_M_readEntity_15 (by decide) ?_
  refine ep_iconst (v := (-1)) d_M_readEntity_16 (by decide) ?_
  refine ep_callVv (As := [.int 10, .int (-1), .int (-1)]) (st := []) d_M_readEntity_17 lk_M_217 cal_M_begin tm_M_begin ts_M_begin rfl rfl rfl (Nat.le_of_ble_eq_true rfl) (Nat.le_of_ble_eq_true rfl) rfl rfl (M_begin0 (rI := upd (upd (upd (upd rI 24 (bI (false || decide (¬ L.getD 0 0 = 95)))) 23 (nI (0 + 1))) 24 (bI ((false || decide (¬ L.getD 0 0 = 95)) || decide (¬ L.getD 1 0 = 90)))) 23 (nI (0 + 1 + 1))) (show _ = nI 0 from h0.tz) 10 (-1) (-1)) ?_
  refine M_re (S := T) (ct := ct) h ?_
  exact ⟨h0.c, h0.a, h0.n, h0.z, h0.l, h0.l1, h0.sz, h0.sl, h0.ez, rfl, rfl, rfl, rfl, rfl, rfl, rfl, rfl, rfl, rfl, h0.e⟩
def SHP (X : Nat × (Nat → Int32)) (cI : Nat → Int32) (cA : Nat → Nat → Int32) (ol : Int64) (J : mH) (rI : Nat → Int32) (rA : Nat → Nat → Int32) (n : Nat) : mR → mH → Prop := fun r h' => r = .inl none ∧ ∃ F : Nat → Int32, h' = HC X cI cA (upd rI 14 (nI n)) (va_up rA 15 F) ol J ∧ ∀ j, j < n → F j = rA 17 j
set_option maxHeartbeats 4000000 in
set_option maxRecDepth 100000 in
theorem M_show_l {n : Nat} (he : rI 16 = nI n) (hn : n ≤ 320) : ∀ (m k : Nat) (F : Nat → Int32), n - k < m → k ≤ n → (∀ j, j < k → F j = rA 17 j) → EvP m_M_show d 10 [(0, .ref 16), (1, .int (nI k))] [] (HC X cI cA (upd rI 14 (nI n)) (va_up rA 15 F) ol J) (SHP X cI cA ol J rI rA n) := by
  intro m
  induction m with
  | zero => intro k F h; omega
  | succ m ih =>
    intro k F hm hk hF
    by_cases hlt : k < n
    · refine ep_iload_n (j := 1) d_M_show_10 rfl rfl ?_
      refine ep_aload_n (j := 0) d_M_show_11 rfl rfl ?_
      refine ep_getf (fi := 16) (v := .int (rI 16)) d_M_show_12 cl5 lf_M_110 (by decide) rfl rfl ?_
      refine ep_icmp_ge (tgt := 36) d_M_show_15 (by decide) (fun z => absurd z (by rw [he]; exact fun z => absurd ((nI_leI (by omega) (by omega)).mp z) (by omega))) (fun _ => ?_)
      refine ep_aload_n (j := 0) d_M_show_18 rfl rfl ?_
      refine ep_getf (fi := 15) (v := .ref 25) d_M_show_19 cl5 lf_M_34 (by decide) rfl rfl ?_
      refine ep_iload_n (j := 1) d_M_show_22 rfl rfl ?_
      refine ep_aload_n (j := 0) d_M_show_23 rfl rfl ?_
      refine ep_getf (fi := 17) (v := .ref 26) d_M_show_24 cl5 lf_M_37 (by decide) rfl rfl ?_
      refine ep_iload_n (j := 1) d_M_show_27 rfl rfl ?_
      refine ep_iald (f := rA 17) k d_M_show_28 rfl rfl (by omega) (by decide) ?_
      refine ep_iast' (h2 := HC X cI cA (upd rI 14 (nI n)) (va_up rA 15 (upd F k (rA 17 k))) ol J) k d_M_show_29 rfl rfl (by omega) (by decide) (hA_25.trans (congrArg (fun z => HC X cI cA (upd rI 14 (nI n)) z ol J) (va_up_up _ _ _ _))) ?_
      refine ep_iinc (v := (nI (k + 1))) (j := 1) (lv' := [(0, .ref 16), (1, .int (nI (k + 1)))]) [1, 0] d_M_show_30 rfl (nI_1 _) (by decide) rfl ?_
      refine ep_goto (tgt := 10) d_M_show_33 (by decide) ?_
      refine ih (k + 1) (upd F k (rA 17 k)) (by omega) (by omega) (fun j hj => ?_)
      by_cases q : j = k
      · subst q; exact upd_at _ _ _
      · rw [upd_ne _ _ q]; exact hF j (by omega)
    · refine ep_iload_n (j := 1) d_M_show_10 rfl rfl ?_
      refine ep_aload_n (j := 0) d_M_show_11 rfl rfl ?_
      refine ep_getf (fi := 16) (v := .int (rI 16)) d_M_show_12 cl5 lf_M_110 (by decide) rfl rfl ?_
      refine ep_icmp_ge (tgt := 36) d_M_show_15 (by decide) (fun _ => ?_) (fun z => absurd (by rw [he]; exact nI_le (by omega) (by omega)) z)
      exact ep_vret d_M_show_36 rfl (⟨rfl, F, rfl, fun j hj => hF j (by omega)⟩)
theorem va_same (f : Nat → Nat → Int32) (k : Nat) : va_up f k (f k) = f := by
  funext j
  unfold va_up
  by_cases h : j = k
  · rw [if_pos h, h]
  · rw [if_neg h]
set_option maxHeartbeats 4000000 in
set_option maxRecDepth 100000 in
theorem M_show {n : Nat} (he : rI 16 = nI n) (hn : n ≤ 320) : EvP m_M_show d 0 [(0, .ref 16)] [] (HC X cI cA rI rA ol J) (SHP X cI cA ol J rI rA n) := by
  refine ep_aload_n (j := 0) d_M_show_0 rfl rfl ?_
  refine ep_aload_n (j := 0) d_M_show_1 rfl rfl ?_
  refine ep_getf (fi := 16) (v := .int (rI 16)) d_M_show_2 cl5 lf_M_110 (by decide) rfl rfl ?_
  refine ep_cg (y := nI n) he ?_
  refine ep_putf' (fi := 14) (h2 := HC X cI cA (upd rI 14 (nI n)) rA ol J) d_M_show_5 cl5 lf_M_163 (by decide) (Or.inl rfl) rfl rfl hI_16_14 ?_
  refine ep_iconst (v := 0) d_M_show_8 (by decide) ?_
  refine ep_istore_n (lv' := [(0, .ref 16), (1, .int 0)]) [1, 0] d_M_show_9 rfl (by decide) rfl ?_
  have := M_show_l (d := d) (X := X) (cI := cI) (cA := cA) (rA := rA) (ol := ol) (J := J) he hn (n + 1) 0 (rA 15) (by omega) (Nat.zero_le _) (fun j hj => absurd hj (Nat.not_lt_zero _))
  rw [show va_up rA 15 (rA 15) = rA from va_same rA 15, nI_0] at this
  exact this
theorem ep_callVsh {M Nn : Mt} {pc np : Nat} {lv : List (Nat × Value)} {st st0 As : List Value} {P : mR → mH → Prop} {n : Nat} {ix o ci : Nat} {fs : List Value} (hd : decode M.2.1 pc = .ok (.invokevirtual ix, 3)) (hl : InT (.methodLink M.1.cls ix Nn.1)) (hN : Cal Nn np) (hm : InT (.instanceMethod Nn.1)) (hs : InT (.selects Nn.1.cls Nn.1 Nn.1)) (ho : (HC X cI cA rI rA ol J)[o]? = some (.inl (ci, fs))) (hci : (vCl[ci]?).map (fun q => q.1) = some Nn.1.cls) (hnp : As.length = np) (hal : ((Value.ref o :: As).map fun v => v.category).sum ≤ Nn.2.2.1) (hcat : (st.map fun v => v.category).sum ≤ 8) (hst : st0 = As.reverse ++ .ref o :: st) (hh : M.2.2.2.2 = [])
    (ev : EvP Nn d 0 (lv_args 0 (.ref o :: As)) [] (HC X cI cA rI rA ol J) (SHP X cI cA ol J rI rA n))
    (k : ∀ F : Nat → Int32, (∀ j, j < n → F j = rA 17 j) → EvP M (d + 1) (pc + 3) lv st (HC X cI cA (upd rI 14 (nI n)) (va_up rA 15 F) ol J) P) : EvP M (d + 1) pc lv st0 (HC X cI cA rI rA ol J) P := by
  refine ep_callV hd hl hN hm hs ho hci hnp hal hcat hst hh ev (fun u h1 q => ?_) (fun x h1 q => ?_)
  · obtain ⟨q1, F, q2, q3⟩ := q
    cases q1
    subst q2
    exact k F q3
  · obtain ⟨q1, _⟩ := q
    cases q1
set_option maxHeartbeats 4000000 in
set_option maxRecDepth 100000 in
theorem M_read (hb : MB rI rA S) (hl : S.2.1.length ≤ 120) {res : IM} (h : RE S.2.1 (mEx S.2.1 90 (mEx S.2.1 95 (s00 S.1))) res) (hpre : S.1 <+: res.2.N) (hE : res.2.wr = false → res.2.E.length ≤ 320) (hNl : res.2.wr = false → res.2.N.length ≤ 1000) : EvP m_M_read (d + 11) 0 [(0, .ref 16)] [] (HC X cI cA rI rA ol J) (if res.2.wr = true then BP X cI cA ol J 0 1 S else if 60 < res.2.N.length then BP X cI cA ol J 0 2 S else BP X cI cA ol J res.1 0 (res.2.N, S.2.1, res.2.E)) := by
  refine ep_aload_n (j := 0) d_M_read_0 rfl rfl ?_
  refine ep_aload_n (j := 0) d_M_read_1 rfl rfl ?_
  refine ep_getf (fi := 1) (v := .int (rI 1)) d_M_read_2 cl5 lf_M_56 (by decide) rfl rfl ?_
  refine ep_cg (y := nI S.1.length) hb.1.1 ?_
  refine ep_putf' (fi := 2) (h2 := HC X cI cA (upd rI 2 (nI S.1.length)) rA ol J) d_M_read_5 cl5 lf_M_66 (by decide) (Or.inl rfl) rfl rfl hI_16_2 ?_
  refine ep_aload_n (j := 0) d_M_read_8 rfl rfl ?_
  refine ep_iconst (v := 0) d_M_read_9 (by decide) ?_
  refine ep_putf' (fi := 16) (h2 := HC X cI cA (upd (upd rI 2 (nI S.1.length)) 16 0) rA ol J) d_M_read_10 cl5 lf_M_110 (by decide) (Or.inl rfl) rfl rfl hI_16_16 ?_
  refine ep_aload_n (j := 0) d_M_read_13 rfl rfl ?_
  refine ep_iconst (v := 0) d_M_read_14 (by decide) ?_
  refine ep_putf' (fi := 18) (h2 := HC X cI cA (upd (upd (upd rI 2 (nI S.1.length)) 16 0) 18 0) rA ol J) d_M_read_15 cl5 lf_M_120 (by decide) (Or.inl rfl) rfl rfl hI_16_18 ?_
  refine ep_aload_n (j := 0) d_M_read_18 rfl rfl ?_
  refine ep_iconst (v := 0) d_M_read_19 (by decide) ?_
  refine ep_putf' (fi := 23) (h2 := HC X cI cA (upd (upd (upd (upd rI 2 (nI S.1.length)) 16 0) 18 0) 23 0) rA ol J) d_M_read_20 cl5 lf_M_168 (by decide) (Or.inl rfl) rfl rfl hI_16_23 ?_
  refine ep_aload_n (j := 0) d_M_read_23 rfl rfl ?_
  refine ep_iconst (v := 0) d_M_read_24 (by decide) ?_
  refine ep_putf' (fi := 24) (h2 := HC X cI cA (upd (upd (upd (upd (upd rI 2 (nI S.1.length)) 16 0) 18 0) 23 0) 24 0) rA ol J) d_M_read_25 cl5 lf_M_171 (by decide) (Or.inl rfl) rfl rfl hI_16_24 ?_
  refine ep_aload_n (j := 0) d_M_read_28 rfl rfl ?_
  refine ep_iconst (v := 0) d_M_read_29 (by decide) ?_
  refine ep_putf' (fi := 25) (h2 := HC X cI cA (upd (upd (upd (upd (upd (upd rI 2 (nI S.1.length)) 16 0) 18 0) 23 0) 24 0) 25 0) rA ol J) d_M_read_30 cl5 lf_M_227 (by decide) (Or.inl rfl) rfl rfl hI_16_25 ?_
  refine ep_aload_n (j := 0) d_M_read_33 rfl rfl ?_
  refine ep_callVm (As := []) (st := []) d_M_read_34 lk_M_248 cal_M_readEntity tm_M_readEntity ts_M_readEntity rfl rfl rfl (Nat.le_of_ble_eq_true rfl) (Nat.le_of_ble_eq_true rfl) rfl rfl (M_readEntity (L := S.2.1) (T := S.2.2) (ct := S.1.length) (N := S.1) h ⟨hb.1.1, rfl, hb.1.2, hb.2.1.1, hb.2.1.2, hl, hb.2.2.1, hb.2.2.2, nI_0.symm, nI_0.symm, nI_0.symm, rfl, rfl⟩) (fun rI1 rA1 hd1 => ?_)
  cases hw : res.2.wr with
  | true =>
    rw [if_pos rfl]
    refine ep_istore_n (lv' := [(0, .ref 16), (1, .int res.1)]) [1, 0] d_M_read_37 rfl (by decide) rfl ?_
    refine ep_aload_n (j := 0) d_M_read_38 rfl rfl ?_
    refine ep_aload_n (j := 0) d_M_read_39 rfl rfl ?_
    refine ep_getf (fi := 24) (v := .int (bI res.2.wr)) d_M_read_40 cl5 lf_M_171 (by decide) rfl (congrArg (fun z => some (Value.int z)) hd1.w) ?_
    refine ep_if_eq (tgt := 50) d_M_read_43 (by decide) (fun z => absurd z (by rw [hw]; decide)) (fun _ => ?_)
    refine ep_iconst (v := 1) d_M_read_46 (by decide) ?_
    refine ep_goto (tgt := 64) d_M_read_47 (by decide) ?_
    refine ep_putf' (fi := 0) (h2 := HC X cI cA (upd rI1 0 1) rA1 ol J) d_M_read_64 cl5 lf_M_52 (by decide) (Or.inl rfl) rfl rfl hI_16_0 ?_
    refine ep_aload_n (j := 0) d_M_read_67 rfl rfl ?_
    refine ep_getf (fi := 0) (v := .int 1) d_M_read_68 cl5 lf_M_52 (by decide) rfl rfl ?_
    refine ep_if_le (tgt := 84) d_M_read_71 (by decide) (fun z => absurd z (by decide)) (fun _ => ?_)
    refine ep_aload_n (j := 0) d_M_read_74 rfl rfl ?_
    refine ep_aload_n (j := 0) d_M_read_75 rfl rfl ?_
    refine ep_getf (fi := 1) (v := .int (nI S.1.length)) d_M_read_76 cl5 lf_M_56 (by decide) rfl (congrArg (fun z => some (Value.int z)) hd1.c) ?_
    refine ep_putf' (fi := 2) (h2 := HC X cI cA (upd (upd rI1 0 1) 2 (nI S.1.length)) rA1 ol J) d_M_read_79 cl5 lf_M_66 (by decide) (Or.inl rfl) rfl rfl hI_16_2 ?_
    refine ep_iconst (v := 0) d_M_read_82 (by decide) ?_
    exact ep_iret d_M_read_83 rfl rfl (BP_ok rfl ⟨⟨hd1.c, mdL_pre hpre hd1.n⟩, ⟨hd1.z, hd1.l⟩, ⟨hd1.sz, hd1.sl⟩⟩ rfl)
  | false =>
    rw [if_neg (by decide)]
    have hn := hNl hw
    by_cases h60 : 60 < res.2.N.length
    · rw [if_pos h60]
      refine ep_istore_n (lv' := [(0, .ref 16), (1, .int res.1)]) [1, 0] d_M_read_37 rfl (by decide) rfl ?_
      refine ep_aload_n (j := 0) d_M_read_38 rfl rfl ?_
      refine ep_aload_n (j := 0) d_M_read_39 rfl rfl ?_
      refine ep_getf (fi := 24) (v := .int (bI res.2.wr)) d_M_read_40 cl5 lf_M_171 (by decide) rfl (congrArg (fun z => some (Value.int z)) hd1.w) ?_
      refine ep_if_eq (tgt := 50) d_M_read_43 (by decide) (fun _ => ?_) (fun z => absurd (by rw [hw]; rfl) z)
      refine ep_aload_n (j := 0) d_M_read_50 rfl rfl ?_
      refine ep_getf (fi := 2) (v := .int (nI res.2.N.length)) d_M_read_51 cl5 lf_M_66 (by decide) rfl (congrArg (fun z => some (Value.int z)) hd1.a) ?_
      refine ep_bipush (v := 60) d_M_read_54 (by decide) ?_
      refine ep_icmp_le (tgt := 63) d_M_read_56 (by decide) (fun z => absurd z (by rw [show (60 : Int32) = nI 60 from by decide]; exact fun z => absurd ((nI_leI (by omega) (by omega)).mp z) (by omega))) (fun _ => ?_)
      refine ep_iconst (v := 2) d_M_read_59 (by decide) ?_
      refine ep_goto (tgt := 64) d_M_read_60 (by decide) ?_
      refine ep_putf' (fi := 0) (h2 := HC X cI cA (upd rI1 0 2) rA1 ol J) d_M_read_64 cl5 lf_M_52 (by decide) (Or.inl rfl) rfl rfl hI_16_0 ?_
      refine ep_aload_n (j := 0) d_M_read_67 rfl rfl ?_
      refine ep_getf (fi := 0) (v := .int 2) d_M_read_68 cl5 lf_M_52 (by decide) rfl rfl ?_
      refine ep_if_le (tgt := 84) d_M_read_71 (by decide) (fun z => absurd z (by decide)) (fun _ => ?_)
      refine ep_aload_n (j := 0) d_M_read_74 rfl rfl ?_
      refine ep_aload_n (j := 0) d_M_read_75 rfl rfl ?_
      refine ep_getf (fi := 1) (v := .int (nI S.1.length)) d_M_read_76 cl5 lf_M_56 (by decide) rfl (congrArg (fun z => some (Value.int z)) hd1.c) ?_
      refine ep_putf' (fi := 2) (h2 := HC X cI cA (upd (upd rI1 0 2) 2 (nI S.1.length)) rA1 ol J) d_M_read_79 cl5 lf_M_66 (by decide) (Or.inl rfl) rfl rfl hI_16_2 ?_
      refine ep_iconst (v := 0) d_M_read_82 (by decide) ?_
      exact ep_iret d_M_read_83 rfl rfl (BP_ok rfl ⟨⟨hd1.c, mdL_pre hpre hd1.n⟩, ⟨hd1.z, hd1.l⟩, ⟨hd1.sz, hd1.sl⟩⟩ rfl)
    · rw [if_neg h60]
      refine ep_istore_n (lv' := [(0, .ref 16), (1, .int res.1)]) [1, 0] d_M_read_37 rfl (by decide) rfl ?_
      refine ep_aload_n (j := 0) d_M_read_38 rfl rfl ?_
      refine ep_aload_n (j := 0) d_M_read_39 rfl rfl ?_
      refine ep_getf (fi := 24) (v := .int (bI res.2.wr)) d_M_read_40 cl5 lf_M_171 (by decide) rfl (congrArg (fun z => some (Value.int z)) hd1.w) ?_
      refine ep_if_eq (tgt := 50) d_M_read_43 (by decide) (fun _ => ?_) (fun z => absurd (by rw [hw]; rfl) z)
      refine ep_aload_n (j := 0) d_M_read_50 rfl rfl ?_
      refine ep_getf (fi := 2) (v := .int (nI res.2.N.length)) d_M_read_51 cl5 lf_M_66 (by decide) rfl (congrArg (fun z => some (Value.int z)) hd1.a) ?_
      refine ep_bipush (v := 60) d_M_read_54 (by decide) ?_
      refine ep_icmp_le (tgt := 63) d_M_read_56 (by decide) (fun _ => ?_) (fun z => absurd (by rw [show (60 : Int32) = nI 60 from by decide]; exact nI_le (by omega) (by omega)) z)
      refine ep_iconst (v := 0) d_M_read_63 (by decide) ?_
      refine ep_putf' (fi := 0) (h2 := HC X cI cA (upd rI1 0 0) rA1 ol J) d_M_read_64 cl5 lf_M_52 (by decide) (Or.inl rfl) rfl rfl hI_16_0 ?_
      refine ep_aload_n (j := 0) d_M_read_67 rfl rfl ?_
      refine ep_getf (fi := 0) (v := .int 0) d_M_read_68 cl5 lf_M_52 (by decide) rfl rfl ?_
      refine ep_if_le (tgt := 84) d_M_read_71 (by decide) (fun _ => ?_) (fun z => absurd (by decide) z)
      refine ep_aload_n (j := 0) d_M_read_84 rfl rfl ?_
      refine ep_aload_n (j := 0) d_M_read_85 rfl rfl ?_
      refine ep_getf (fi := 2) (v := .int (nI res.2.N.length)) d_M_read_86 cl5 lf_M_66 (by decide) rfl (congrArg (fun z => some (Value.int z)) hd1.a) ?_
      refine ep_putf' (fi := 1) (h2 := HC X cI cA (upd (upd rI1 0 0) 1 (nI res.2.N.length)) rA1 ol J) d_M_read_89 cl5 lf_M_56 (by decide) (Or.inl rfl) rfl rfl hI_16_1 ?_
      refine ep_aload_n (j := 0) d_M_read_92 rfl rfl ?_
      refine ep_callVsh (As := []) (st := []) d_M_read_93 lk_M_160 cal_M_show tm_M_show ts_M_show rfl rfl rfl (Nat.le_of_ble_eq_true rfl) (Nat.le_of_ble_eq_true rfl) rfl rfl (M_show hd1.ez (hE hw)) (fun F hF => ?_)
      refine ep_iload_n (j := 1) d_M_read_96 rfl rfl ?_
      exact ep_iret d_M_read_97 rfl rfl (BP_ok rfl ⟨⟨rfl, hd1.n⟩, ⟨hd1.z, hd1.l⟩, ⟨rfl, hd1.el.trans (rowL_cg (fun j hj => (hF j hj).symm))⟩⟩ rfl)
end MSB
