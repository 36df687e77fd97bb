/-! the reference: the looking methods and type; by program (wip/whole/gen63.py) -/
section MLK
variable {d : Nat} {X : Nat × (Nat → Int32)} {cI : Nat → Int32} {cA : Nat → Nat → Int32} {rI : Nat → Int32} {rA : Nat → Nat → Int32} {ol : Int64} {J : mH} {S : CSt} {w : WM}
theorem of_lem {x w : Int32} (j : Nat) (hj : j < 8) (e : w = nI j) : cOf S x w = cN S.1 x j := by
  subst e
  unfold cOf
  rw [if_pos ⟨nI_pos' (by omega), nI_lt hj (by decide)⟩, nI_clamp (by omega)]
theorem of_no {x w : Int32} (h : ¬ (0 ≤ w ∧ w < 8)) : cOf S x w = -1 := if_neg h
theorem of_nd {x w : Int32} (h : ¬ ndP S.1 x) : cOf S x w = -1 := by
  unfold cOf
  split
  · exact kN_nd h _
  · rfl
theorem m3c (i c : Nat) (hc : c ≤ 2) : 3 * nI i + nI (4 + c) - 4 = nI (3 * i + c) := by
  rw [show (3 : Int32) = nI 3 from by decide, show (4 : Int32) = nI 4 from by decide, pk_mul, nI_add, pk_sub (by omega)]
  exact congrArg nI (by omega)
set_option maxHeartbeats 4000000 in
set_option maxRecDepth 100000 in
theorem M_of (hb : MB rI rA S) (hl : S.1.length ≤ 60) (x w : Int32) : EvP m_M_of (d + 1) 0 [(0, .ref 16), (1, .int x), (2, .int w)] [] (HC X cI cA rI rA ol J) (BP X cI cA ol J (cOf S x w) 0 S) := by
  by_cases hn : ndP S.1 x
  · have hV := ndP_vd (by omega) hn
    by_cases hw : 0 ≤ w ∧ w < 8
    · obtain ⟨j, hj, rfl⟩ := nI_of' hw.1
      have hj8 : j < 8 := (nI_ltI hj (by omega)).mp (show nI j < nI 8 from hw.2)
      rcases (show j = 0 ∨ j = 1 ∨ j = 2 ∨ j = 3 ∨ j = 4 ∨ j = 5 ∨ j = 6 ∨ j = 7 by omega) with e | e | e | e | e | e | e | e <;> subst e
      · show EvP m_M_of (d + 1) 0 [(0, .ref 16), (1, .int x), (2, .int 0)] [] _ _
        refine ep_aload_n (j := 0) d_M_of_0 rfl rfl ?_
        refine ep_iconst (v := 0) d_M_of_1 (by decide) ?_
        refine ep_putf' (fi := 0) (h2 := HC X cI cA (upd rI 0 0) rA ol J) d_M_of_2 cl5 lf_M_52 (by decide) (Or.inl rfl) rfl rfl hI_16_0 ?_
        refine ep_aload_n (j := 0) d_M_of_5 rfl rfl ?_
        refine ep_iload_n (j := 1) d_M_of_6 rfl rfl ?_
        refine ep_callVi (As := [.int x]) (st := []) d_M_of_7 lk_M_59 cal_M_isNode tm_M_isNode ts_M_isNode rfl rfl rfl (Nat.le_of_ble_eq_true rfl) (Nat.le_of_ble_eq_true rfl) rfl rfl (M_isNode (rI := upd rI 0 0) hb.1.1 x) ?_
        rw [if_pos hn]
        refine ep_if_eq (tgt := 23) d_M_of_10 (by decide) (fun z => absurd z (by decide)) (fun _ => ?_)
        refine ep_iload_n (j := 2) d_M_of_13 rfl rfl ?_
        refine ep_if_lt (tgt := 23) d_M_of_14 (by decide) (fun z => absurd z (by decide)) (fun _ => ?_)
        refine ep_iload_n (j := 2) d_M_of_17 rfl rfl ?_
        refine ep_bipush (v := 7) d_M_of_18 (by decide) ?_
        refine ep_icmp_le (tgt := 25) d_M_of_20 (by decide) (fun _ => ?_) (fun z => absurd (by decide) z)
        refine ep_iload_n (j := 2) d_M_of_25 rfl rfl ?_
        refine ep_iconst (v := 4) d_M_of_26 (by decide) ?_
        refine ep_icmp_ge (tgt := 78) d_M_of_27 (by decide) (fun z => absurd z (by decide)) (fun _ => ?_)
        refine ep_iload_n (j := 2) d_M_of_30 rfl rfl ?_
        refine ep_if_ne (tgt := 43) d_M_of_31 (by decide) (fun z => absurd (by decide) z) (fun _ => ?_)
        refine ep_aload_n (j := 0) d_M_of_34 rfl rfl ?_
        refine ep_getf (fi := 3) (v := .ref 17) d_M_of_35 cl5 lf_M_7 (by decide) rfl rfl ?_
        refine ep_iload_n (j := 1) d_M_of_38 rfl rfl ?_
        refine ep_kind (N := S.1) d_M_of_39 hb.1.2 (by omega) hV ?_
        refine ep_goto (tgt := 77) d_M_of_40 (by decide) ?_
        exact ep_iret d_M_of_77 rfl rfl (BP_ok (congrArg (fun z => some (Value.int z)) ((of_lem 0 (by decide) rfl).symm)) hb rfl)
      · show EvP m_M_of (d + 1) 0 [(0, .ref 16), (1, .int x), (2, .int 1)] [] _ _
        refine ep_aload_n (j := 0) d_M_of_0 rfl rfl ?_
        refine ep_iconst (v := 0) d_M_of_1 (by decide) ?_
        refine ep_putf' (fi := 0) (h2 := HC X cI cA (upd rI 0 0) rA ol J) d_M_of_2 cl5 lf_M_52 (by decide) (Or.inl rfl) rfl rfl hI_16_0 ?_
        refine ep_aload_n (j := 0) d_M_of_5 rfl rfl ?_
        refine ep_iload_n (j := 1) d_M_of_6 rfl rfl ?_
        refine ep_callVi (As := [.int x]) (st := []) d_M_of_7 lk_M_59 cal_M_isNode tm_M_isNode ts_M_isNode rfl rfl rfl (Nat.le_of_ble_eq_true rfl) (Nat.le_of_ble_eq_true rfl) rfl rfl (M_isNode (rI := upd rI 0 0) hb.1.1 x) ?_
        rw [if_pos hn]
        refine ep_if_eq (tgt := 23) d_M_of_10 (by decide) (fun z => absurd z (by decide)) (fun _ => ?_)
        refine ep_iload_n (j := 2) d_M_of_13 rfl rfl ?_
        refine ep_if_lt (tgt := 23) d_M_of_14 (by decide) (fun z => absurd z (by decide)) (fun _ => ?_)
        refine ep_iload_n (j := 2) d_M_of_17 rfl rfl ?_
        refine ep_bipush (v := 7) d_M_of_18 (by decide) ?_
        refine ep_icmp_le (tgt := 25) d_M_of_20 (by decide) (fun _ => ?_) (fun z => absurd (by decide) z)
        refine ep_iload_n (j := 2) d_M_of_25 rfl rfl ?_
        refine ep_iconst (v := 4) d_M_of_26 (by decide) ?_
        refine ep_icmp_ge (tgt := 78) d_M_of_27 (by decide) (fun z => absurd z (by decide)) (fun _ => ?_)
        refine ep_iload_n (j := 2) d_M_of_30 rfl rfl ?_
        refine ep_if_ne (tgt := 43) d_M_of_31 (by decide) (fun _ => ?_) (fun z => absurd z (by decide))
        refine ep_iload_n (j := 2) d_M_of_43 rfl rfl ?_
        refine ep_iconst (v := 1) d_M_of_44 (by decide) ?_
        refine ep_icmp_ne (tgt := 57) d_M_of_45 (by decide) (fun z => absurd (by decide) z) (fun _ => ?_)
        refine ep_aload_n (j := 0) d_M_of_48 rfl rfl ?_
        refine ep_getf (fi := 4) (v := .ref 18) d_M_of_49 cl5 lf_M_13 (by decide) rfl rfl ?_
        refine ep_iload_n (j := 1) d_M_of_52 rfl rfl ?_
        refine ep_val (N := S.1) d_M_of_53 hb.1.2 (by omega) hV ?_
        refine ep_goto (tgt := 77) d_M_of_54 (by decide) ?_
        exact ep_iret d_M_of_77 rfl rfl (BP_ok (congrArg (fun z => some (Value.int z)) ((of_lem 1 (by decide) rfl).symm)) hb rfl)
      · show EvP m_M_of (d + 1) 0 [(0, .ref 16), (1, .int x), (2, .int 2)] [] _ _
        refine ep_aload_n (j := 0) d_M_of_0 rfl rfl ?_
        refine ep_iconst (v := 0) d_M_of_1 (by decide) ?_
        refine ep_putf' (fi := 0) (h2 := HC X cI cA (upd rI 0 0) rA ol J) d_M_of_2 cl5 lf_M_52 (by decide) (Or.inl rfl) rfl rfl hI_16_0 ?_
        refine ep_aload_n (j := 0) d_M_of_5 rfl rfl ?_
        refine ep_iload_n (j := 1) d_M_of_6 rfl rfl ?_
        refine ep_callVi (As := [.int x]) (st := []) d_M_of_7 lk_M_59 cal_M_isNode tm_M_isNode ts_M_isNode rfl rfl rfl (Nat.le_of_ble_eq_true rfl) (Nat.le_of_ble_eq_true rfl) rfl rfl (M_isNode (rI := upd rI 0 0) hb.1.1 x) ?_
        rw [if_pos hn]
        refine ep_if_eq (tgt := 23) d_M_of_10 (by decide) (fun z => absurd z (by decide)) (fun _ => ?_)
        refine ep_iload_n (j := 2) d_M_of_13 rfl rfl ?_
        refine ep_if_lt (tgt := 23) d_M_of_14 (by decide) (fun z => absurd z (by decide)) (fun _ => ?_)
        refine ep_iload_n (j := 2) d_M_of_17 rfl rfl ?_
        refine ep_bipush (v := 7) d_M_of_18 (by decide) ?_
        refine ep_icmp_le (tgt := 25) d_M_of_20 (by decide) (fun _ => ?_) (fun z => absurd (by decide) z)
        refine ep_iload_n (j := 2) d_M_of_25 rfl rfl ?_
        refine ep_iconst (v := 4) d_M_of_26 (by decide) ?_
        refine ep_icmp_ge (tgt := 78) d_M_of_27 (by decide) (fun z => absurd z (by decide)) (fun _ => ?_)
        refine ep_iload_n (j := 2) d_M_of_30 rfl rfl ?_
        refine ep_if_ne (tgt := 43) d_M_of_31 (by decide) (fun _ => ?_) (fun z => absurd z (by decide))
        refine ep_iload_n (j := 2) d_M_of_43 rfl rfl ?_
        refine ep_iconst (v := 1) d_M_of_44 (by decide) ?_
        refine ep_icmp_ne (tgt := 57) d_M_of_45 (by decide) (fun _ => ?_) (fun z => absurd z (by decide))
        refine ep_iload_n (j := 2) d_M_of_57 rfl rfl ?_
        refine ep_iconst (v := 2) d_M_of_58 (by decide) ?_
        refine ep_icmp_ne (tgt := 71) d_M_of_59 (by decide) (fun z => absurd (by decide) z) (fun _ => ?_)
        refine ep_aload_n (j := 0) d_M_of_62 rfl rfl ?_
        refine ep_getf (fi := 5) (v := .ref 19) d_M_of_63 cl5 lf_M_16 (by decide) rfl rfl ?_
        refine ep_iload_n (j := 1) d_M_of_66 rfl rfl ?_
        refine ep_fst (N := S.1) d_M_of_67 hb.1.2 (by omega) hV ?_
        refine ep_goto (tgt := 77) d_M_of_68 (by decide) ?_
        exact ep_iret d_M_of_77 rfl rfl (BP_ok (congrArg (fun z => some (Value.int z)) ((of_lem 2 (by decide) rfl).symm)) hb rfl)
      · show EvP m_M_of (d + 1) 0 [(0, .ref 16), (1, .int x), (2, .int 3)] [] _ _
        refine ep_aload_n (j := 0) d_M_of_0 rfl rfl ?_
        refine ep_iconst (v := 0) d_M_of_1 (by decide) ?_
        refine ep_putf' (fi := 0) (h2 := HC X cI cA (upd rI 0 0) rA ol J) d_M_of_2 cl5 lf_M_52 (by decide) (Or.inl rfl) rfl rfl hI_16_0 ?_
        refine ep_aload_n (j := 0) d_M_of_5 rfl rfl ?_
        refine ep_iload_n (j := 1) d_M_of_6 rfl rfl ?_
        refine ep_callVi (As := [.int x]) (st := []) d_M_of_7 lk_M_59 cal_M_isNode tm_M_isNode ts_M_isNode rfl rfl rfl (Nat.le_of_ble_eq_true rfl) (Nat.le_of_ble_eq_true rfl) rfl rfl (M_isNode (rI := upd rI 0 0) hb.1.1 x) ?_
        rw [if_pos hn]
        refine ep_if_eq (tgt := 23) d_M_of_10 (by decide) (fun z => absurd z (by decide)) (fun _ => ?_)
        refine ep_iload_n (j := 2) d_M_of_13 rfl rfl ?_
        refine ep_if_lt (tgt := 23) d_M_of_14 (by decide) (fun z => absurd z (by decide)) (fun _ => ?_)
        refine ep_iload_n (j := 2) d_M_of_17 rfl rfl ?_
        refine ep_bipush (v := 7) d_M_of_18 (by decide) ?_
        refine ep_icmp_le (tgt := 25) d_M_of_20 (by decide) (fun _ => ?_) (fun z => absurd (by decide) z)
        refine ep_iload_n (j := 2) d_M_of_25 rfl rfl ?_
        refine ep_iconst (v := 4) d_M_of_26 (by decide) ?_
        refine ep_icmp_ge (tgt := 78) d_M_of_27 (by decide) (fun z => absurd z (by decide)) (fun _ => ?_)
        refine ep_iload_n (j := 2) d_M_of_30 rfl rfl ?_
        refine ep_if_ne (tgt := 43) d_M_of_31 (by decide) (fun _ => ?_) (fun z => absurd z (by decide))
        refine ep_iload_n (j := 2) d_M_of_43 rfl rfl ?_
        refine ep_iconst (v := 1) d_M_of_44 (by decide) ?_
        refine ep_icmp_ne (tgt := 57) d_M_of_45 (by decide) (fun _ => ?_) (fun z => absurd z (by decide))
        refine ep_iload_n (j := 2) d_M_of_57 rfl rfl ?_
        refine ep_iconst (v := 2) d_M_of_58 (by decide) ?_
        refine ep_icmp_ne (tgt := 71) d_M_of_59 (by decide) (fun _ => ?_) (fun z => absurd z (by decide))
        refine ep_aload_n (j := 0) d_M_of_71 rfl rfl ?_
        refine ep_getf (fi := 6) (v := .ref 20) d_M_of_72 cl5 lf_M_19 (by decide) rfl rfl ?_
        refine ep_iload_n (j := 1) d_M_of_75 rfl rfl ?_
        refine ep_gvs (N := S.1) d_M_of_76 hb.1.2 (by omega) hV ?_
        exact ep_iret d_M_of_77 rfl rfl (BP_ok (congrArg (fun z => some (Value.int z)) ((of_lem 3 (by decide) rfl).symm)) hb rfl)
      · show EvP m_M_of (d + 1) 0 [(0, .ref 16), (1, .int x), (2, .int 4)] [] _ _
        refine ep_aload_n (j := 0) d_M_of_0 rfl rfl ?_
        refine ep_iconst (v := 0) d_M_of_1 (by decide) ?_
        refine ep_putf' (fi := 0) (h2 := HC X cI cA (upd rI 0 0) rA ol J) d_M_of_2 cl5 lf_M_52 (by decide) (Or.inl rfl) rfl rfl hI_16_0 ?_
        refine ep_aload_n (j := 0) d_M_of_5 rfl rfl ?_
        refine ep_iload_n (j := 1) d_M_of_6 rfl rfl ?_
        refine ep_callVi (As := [.int x]) (st := []) d_M_of_7 lk_M_59 cal_M_isNode tm_M_isNode ts_M_isNode rfl rfl rfl (Nat.le_of_ble_eq_true rfl) (Nat.le_of_ble_eq_true rfl) rfl rfl (M_isNode (rI := upd rI 0 0) hb.1.1 x) ?_
        rw [if_pos hn]
        refine ep_if_eq (tgt := 23) d_M_of_10 (by decide) (fun z => absurd z (by decide)) (fun _ => ?_)
        refine ep_iload_n (j := 2) d_M_of_13 rfl rfl ?_
        refine ep_if_lt (tgt := 23) d_M_of_14 (by decide) (fun z => absurd z (by decide)) (fun _ => ?_)
        refine ep_iload_n (j := 2) d_M_of_17 rfl rfl ?_
        refine ep_bipush (v := 7) d_M_of_18 (by decide) ?_
        refine ep_icmp_le (tgt := 25) d_M_of_20 (by decide) (fun _ => ?_) (fun z => absurd (by decide) z)
        refine ep_iload_n (j := 2) d_M_of_25 rfl rfl ?_
        refine ep_iconst (v := 4) d_M_of_26 (by decide) ?_
        refine ep_icmp_ge (tgt := 78) d_M_of_27 (by decide) (fun _ => ?_) (fun z => absurd (by decide) z)
        refine ep_iload_n (j := 2) d_M_of_78 rfl rfl ?_
        refine ep_bipush (v := 7) d_M_of_79 (by decide) ?_
        refine ep_icmp_ne (tgt := 93) d_M_of_81 (by decide) (fun _ => ?_) (fun z => absurd z (by decide))
        refine ep_aload_n (j := 0) d_M_of_93 rfl rfl ?_
        refine ep_getf (fi := 7) (v := .ref 21) d_M_of_94 cl5 lf_M_22 (by decide) rfl rfl ?_
        refine ep_iconst (v := 3) d_M_of_97 (by decide) ?_
        refine ep_iload_n (j := 1) d_M_of_98 rfl rfl ?_
        refine ep_imul d_M_of_99 ?_
        refine ep_iload_n (j := 2) d_M_of_100 rfl rfl ?_
        refine ep_iadd d_M_of_101 ?_
        refine ep_iconst (v := 4) d_M_of_102 (by decide) ?_
        refine ep_isub d_M_of_103 ?_
        refine ep_prt (N := S.1) (x := x) 0 (by decide) (fun i e => by rw [e]; exact m3c i 0 (by omega)) d_M_of_104 hb.1.2 (by omega) hV ?_
        exact ep_iret d_M_of_105 rfl rfl (BP_ok (congrArg (fun z => some (Value.int z)) ((of_lem 4 (by decide) rfl).symm)) hb rfl)
      · show EvP m_M_of (d + 1) 0 [(0, .ref 16), (1, .int x), (2, .int 5)] [] _ _
        refine ep_aload_n (j := 0) d_M_of_0 rfl rfl ?_
        refine ep_iconst (v := 0) d_M_of_1 (by decide) ?_
        refine ep_putf' (fi := 0) (h2 := HC X cI cA (upd rI 0 0) rA ol J) d_M_of_2 cl5 lf_M_52 (by decide) (Or.inl rfl) rfl rfl hI_16_0 ?_
        refine ep_aload_n (j := 0) d_M_of_5 rfl rfl ?_
        refine ep_iload_n (j := 1) d_M_of_6 rfl rfl ?_
        refine ep_callVi (As := [.int x]) (st := []) d_M_of_7 lk_M_59 cal_M_isNode tm_M_isNode ts_M_isNode rfl rfl rfl (Nat.le_of_ble_eq_true rfl) (Nat.le_of_ble_eq_true rfl) rfl rfl (M_isNode (rI := upd rI 0 0) hb.1.1 x) ?_
        rw [if_pos hn]
        refine ep_if_eq (tgt := 23) d_M_of_10 (by decide) (fun z => absurd z (by decide)) (fun _ => ?_)
        refine ep_iload_n (j := 2) d_M_of_13 rfl rfl ?_
        refine ep_if_lt (tgt := 23) d_M_of_14 (by decide) (fun z => absurd z (by decide)) (fun _ => ?_)
        refine ep_iload_n (j := 2) d_M_of_17 rfl rfl ?_
        refine ep_bipush (v := 7) d_M_of_18 (by decide) ?_
        refine ep_icmp_le (tgt := 25) d_M_of_20 (by decide) (fun _ => ?_) (fun z => absurd (by decide) z)
        refine ep_iload_n (j := 2) d_M_of_25 rfl rfl ?_
        refine ep_iconst (v := 4) d_M_of_26 (by decide) ?_
        refine ep_icmp_ge (tgt := 78) d_M_of_27 (by decide) (fun _ => ?_) (fun z => absurd (by decide) z)
        refine ep_iload_n (j := 2) d_M_of_78 rfl rfl ?_
        refine ep_bipush (v := 7) d_M_of_79 (by decide) ?_
        refine ep_icmp_ne (tgt := 93) d_M_of_81 (by decide) (fun _ => ?_) (fun z => absurd z (by decide))
        refine ep_aload_n (j := 0) d_M_of_93 rfl rfl ?_
        refine ep_getf (fi := 7) (v := .ref 21) d_M_of_94 cl5 lf_M_22 (by decide) rfl rfl ?_
        refine ep_iconst (v := 3) d_M_of_97 (by decide) ?_
        refine ep_iload_n (j := 1) d_M_of_98 rfl rfl ?_
        refine ep_imul d_M_of_99 ?_
        refine ep_iload_n (j := 2) d_M_of_100 rfl rfl ?_
        refine ep_iadd d_M_of_101 ?_
        refine ep_iconst (v := 4) d_M_of_102 (by decide) ?_
        refine ep_isub d_M_of_103 ?_
        refine ep_prt (N := S.1) (x := x) 1 (by decide) (fun i e => by rw [e]; exact m3c i 1 (by omega)) d_M_of_104 hb.1.2 (by omega) hV ?_
        exact ep_iret d_M_of_105 rfl rfl (BP_ok (congrArg (fun z => some (Value.int z)) ((of_lem 5 (by decide) rfl).symm)) hb rfl)
      · show EvP m_M_of (d + 1) 0 [(0, .ref 16), (1, .int x), (2, .int 6)] [] _ _
        refine ep_aload_n (j := 0) d_M_of_0 rfl rfl ?_
        refine ep_iconst (v := 0) d_M_of_1 (by decide) ?_
        refine ep_putf' (fi := 0) (h2 := HC X cI cA (upd rI 0 0) rA ol J) d_M_of_2 cl5 lf_M_52 (by decide) (Or.inl rfl) rfl rfl hI_16_0 ?_
        refine ep_aload_n (j := 0) d_M_of_5 rfl rfl ?_
        refine ep_iload_n (j := 1) d_M_of_6 rfl rfl ?_
        refine ep_callVi (As := [.int x]) (st := []) d_M_of_7 lk_M_59 cal_M_isNode tm_M_isNode ts_M_isNode rfl rfl rfl (Nat.le_of_ble_eq_true rfl) (Nat.le_of_ble_eq_true rfl) rfl rfl (M_isNode (rI := upd rI 0 0) hb.1.1 x) ?_
        rw [if_pos hn]
        refine ep_if_eq (tgt := 23) d_M_of_10 (by decide) (fun z => absurd z (by decide)) (fun _ => ?_)
        refine ep_iload_n (j := 2) d_M_of_13 rfl rfl ?_
        refine ep_if_lt (tgt := 23) d_M_of_14 (by decide) (fun z => absurd z (by decide)) (fun _ => ?_)
        refine ep_iload_n (j := 2) d_M_of_17 rfl rfl ?_
        refine ep_bipush (v := 7) d_M_of_18 (by decide) ?_
        refine ep_icmp_le (tgt := 25) d_M_of_20 (by decide) (fun _ => ?_) (fun z => absurd (by decide) z)
        refine ep_iload_n (j := 2) d_M_of_25 rfl rfl ?_
        refine ep_iconst (v := 4) d_M_of_26 (by decide) ?_
        refine ep_icmp_ge (tgt := 78) d_M_of_27 (by decide) (fun _ => ?_) (fun z => absurd (by decide) z)
        refine ep_iload_n (j := 2) d_M_of_78 rfl rfl ?_
        refine ep_bipush (v := 7) d_M_of_79 (by decide) ?_
        refine ep_icmp_ne (tgt := 93) d_M_of_81 (by decide) (fun _ => ?_) (fun z => absurd z (by decide))
        refine ep_aload_n (j := 0) d_M_of_93 rfl rfl ?_
        refine ep_getf (fi := 7) (v := .ref 21) d_M_of_94 cl5 lf_M_22 (by decide) rfl rfl ?_
        refine ep_iconst (v := 3) d_M_of_97 (by decide) ?_
        refine ep_iload_n (j := 1) d_M_of_98 rfl rfl ?_
        refine ep_imul d_M_of_99 ?_
        refine ep_iload_n (j := 2) d_M_of_100 rfl rfl ?_
        refine ep_iadd d_M_of_101 ?_
        refine ep_iconst (v := 4) d_M_of_102 (by decide) ?_
        refine ep_isub d_M_of_103 ?_
        refine ep_prt (N := S.1) (x := x) 2 (by decide) (fun i e => by rw [e]; exact m3c i 2 (by omega)) d_M_of_104 hb.1.2 (by omega) hV ?_
        exact ep_iret d_M_of_105 rfl rfl (BP_ok (congrArg (fun z => some (Value.int z)) ((of_lem 6 (by decide) rfl).symm)) hb rfl)
      · show EvP m_M_of (d + 1) 0 [(0, .ref 16), (1, .int x), (2, .int 7)] [] _ _
        refine ep_aload_n (j := 0) d_M_of_0 rfl rfl ?_
        refine ep_iconst (v := 0) d_M_of_1 (by decide) ?_
        refine ep_putf' (fi := 0) (h2 := HC X cI cA (upd rI 0 0) rA ol J) d_M_of_2 cl5 lf_M_52 (by decide) (Or.inl rfl) rfl rfl hI_16_0 ?_
        refine ep_aload_n (j := 0) d_M_of_5 rfl rfl ?_
        refine ep_iload_n (j := 1) d_M_of_6 rfl rfl ?_
        refine ep_callVi (As := [.int x]) (st := []) d_M_of_7 lk_M_59 cal_M_isNode tm_M_isNode ts_M_isNode rfl rfl rfl (Nat.le_of_ble_eq_true rfl) (Nat.le_of_ble_eq_true rfl) rfl rfl (M_isNode (rI := upd rI 0 0) hb.1.1 x) ?_
        rw [if_pos hn]
        refine ep_if_eq (tgt := 23) d_M_of_10 (by decide) (fun z => absurd z (by decide)) (fun _ => ?_)
        refine ep_iload_n (j := 2) d_M_of_13 rfl rfl ?_
        refine ep_if_lt (tgt := 23) d_M_of_14 (by decide) (fun z => absurd z (by decide)) (fun _ => ?_)
        refine ep_iload_n (j := 2) d_M_of_17 rfl rfl ?_
        refine ep_bipush (v := 7) d_M_of_18 (by decide) ?_
        refine ep_icmp_le (tgt := 25) d_M_of_20 (by decide) (fun _ => ?_) (fun z => absurd (by decide) z)
        refine ep_iload_n (j := 2) d_M_of_25 rfl rfl ?_
        refine ep_iconst (v := 4) d_M_of_26 (by decide) ?_
        refine ep_icmp_ge (tgt := 78) d_M_of_27 (by decide) (fun _ => ?_) (fun z => absurd (by decide) z)
        refine ep_iload_n (j := 2) d_M_of_78 rfl rfl ?_
        refine ep_bipush (v := 7) d_M_of_79 (by decide) ?_
        refine ep_icmp_ne (tgt := 93) d_M_of_81 (by decide) (fun z => absurd (by decide) z) (fun _ => ?_)
        refine ep_aload_n (j := 0) d_M_of_84 rfl rfl ?_
        refine ep_getf (fi := 8) (v := .ref 22) d_M_of_85 cl5 lf_M_25 (by decide) rfl rfl ?_
        refine ep_iload_n (j := 1) d_M_of_88 rfl rfl ?_
        refine ep_dpt (N := S.1) d_M_of_89 hb.1.2 (by omega) hV ?_
        refine ep_goto (tgt := 105) d_M_of_90 (by decide) ?_
        exact ep_iret d_M_of_105 rfl rfl (BP_ok (congrArg (fun z => some (Value.int z)) ((of_lem 7 (by decide) rfl).symm)) hb rfl)
    · refine ep_aload_n (j := 0) d_M_of_0 rfl rfl ?_
      refine ep_iconst (v := 0) d_M_of_1 (by decide) ?_
      refine ep_putf' (fi := 0) (h2 := HC X cI cA (upd rI 0 0) rA ol J) d_M_of_2 cl5 lf_M_52 (by decide) (Or.inl rfl) rfl rfl hI_16_0 ?_
      refine ep_aload_n (j := 0) d_M_of_5 rfl rfl ?_
      refine ep_iload_n (j := 1) d_M_of_6 rfl rfl ?_
      refine ep_callVi (As := [.int x]) (st := []) d_M_of_7 lk_M_59 cal_M_isNode tm_M_isNode ts_M_isNode rfl rfl rfl (Nat.le_of_ble_eq_true rfl) (Nat.le_of_ble_eq_true rfl) rfl rfl (M_isNode (rI := upd rI 0 0) hb.1.1 x) ?_
      rw [if_pos hn]
      refine ep_if_eq (tgt := 23) d_M_of_10 (by decide) (fun z => absurd z (by decide)) (fun _ => ?_)
      refine ep_iload_n (j := 2) d_M_of_13 rfl rfl ?_
      refine ep_if_lt (tgt := 23) d_M_of_14 (by decide) (fun c14 => ?_) (fun c14 => ?_)
      · refine ep_iconst (v := (-1)) d_M_of_23 (by decide) ?_
        exact ep_iret d_M_of_24 rfl rfl (BP_ok (congrArg (fun z => some (Value.int z)) ((of_no hw).symm)) hb rfl)
      · refine ep_iload_n (j := 2) d_M_of_17 rfl rfl ?_
        refine ep_bipush (v := 7) d_M_of_18 (by decide) ?_
        refine ep_icmp_le (tgt := 25) d_M_of_20 (by decide) (fun z => absurd z (fun u => hw ⟨Int32.not_lt.mp c14, k8_7.mpr u⟩)) (fun _ => ?_)
        refine ep_iconst (v := (-1)) d_M_of_23 (by decide) ?_
        exact ep_iret d_M_of_24 rfl rfl (BP_ok (congrArg (fun z => some (Value.int z)) ((of_no hw).symm)) hb rfl)
  · refine ep_aload_n (j := 0) d_M_of_0 rfl rfl ?_
    refine ep_iconst (v := 0) d_M_of_1 (by decide) ?_
    refine ep_putf' (fi := 0) (h2 := HC X cI cA (upd rI 0 0) rA ol J) d_M_of_2 cl5 lf_M_52 (by decide) (Or.inl rfl) rfl rfl hI_16_0 ?_
    refine ep_aload_n (j := 0) d_M_of_5 rfl rfl ?_
    refine ep_iload_n (j := 1) d_M_of_6 rfl rfl ?_
    refine ep_callVi (As := [.int x]) (st := []) d_M_of_7 lk_M_59 cal_M_isNode tm_M_isNode ts_M_isNode rfl rfl rfl (Nat.le_of_ble_eq_true rfl) (Nat.le_of_ble_eq_true rfl) rfl rfl (M_isNode (rI := upd rI 0 0) hb.1.1 x) ?_
    rw [if_neg hn]
    refine ep_if_eq (tgt := 23) d_M_of_10 (by decide) (fun _ => ?_) (fun z => absurd (by decide) z)
    refine ep_iconst (v := (-1)) d_M_of_23 (by decide) ?_
    exact ep_iret d_M_of_24 rfl rfl (BP_ok (congrArg (fun z => some (Value.int z)) ((of_nd hn).symm)) hb rfl)
set_option maxHeartbeats 4000000 in
set_option maxRecDepth 100000 in
theorem M_wipe (hb : MB rI rA S) : EvP m_M_wipe d 0 [(0, .ref 16)] [] (HC X cI cA rI rA ol J) (BPg X cI cA ol J none 0 (S.1, [], S.2.2)) := by
  refine ep_aload_n (j := 0) d_M_wipe_0 rfl rfl ?_
  refine ep_iconst (v := 0) d_M_wipe_1 (by decide) ?_
  refine ep_putf' (fi := 0) (h2 := HC X cI cA (upd rI 0 0) rA ol J) d_M_wipe_2 cl5 lf_M_52 (by decide) (Or.inl rfl) rfl rfl hI_16_0 ?_
  refine ep_aload_n (j := 0) d_M_wipe_5 rfl rfl ?_
  refine ep_iconst (v := 0) d_M_wipe_6 (by decide) ?_
  refine ep_putf' (fi := 10) (h2 := HC X cI cA (upd (upd rI 0 0) 10 0) rA ol J) d_M_wipe_7 cl5 lf_M_157 (by decide) (Or.inl rfl) rfl rfl hI_16_10 ?_
  exact ep_vret d_M_wipe_10 rfl (BP_ok rfl ⟨hb.1, ⟨nI_0.symm, rfl⟩, hb.2.2⟩ rfl)
theorem tat_no {T : List Int32} {x : Int32} (h : ¬ (0 ≤ x ∧ x < nI T.length)) : tat T x = -1 := if_neg h
theorem tat_at {f : Nat → Int32} {T : List Int32} (hT : T = rowL f T.length) {j : Nat} (hj : j < T.length) (hl : T.length ≤ 1000) : tat T (nI j) = f j := by
  unfold tat
  rw [if_pos ⟨nI_pos' (by omega), nI_lt hj (by omega)⟩, nI_clamp (by omega), List.getD_eq_getElem?_getD]
  have : T[j]? = some (f j) := by rw [hT]; exact rowL_at hj
  rw [this]; rfl
set_option maxHeartbeats 4000000 in
set_option maxRecDepth 100000 in
theorem M_text (hb : MB rI rA S) (hl : S.2.1.length ≤ 120) (i : Int32) : EvP m_M_text d 0 [(0, .ref 16), (1, .int i)] [] (HC X cI cA rI rA ol J) (BP X cI cA ol J (tat S.2.1 i) 0 S) := by
  by_cases hi : 0 ≤ i ∧ i < nI S.2.1.length
  · obtain ⟨j, hj, rfl⟩ := nI_of' hi.1
    have hj8 : j < S.2.1.length := (nI_ltI hj (by omega)).mp hi.2
    refine ep_aload_n (j := 0) d_M_text_0 rfl rfl ?_
    refine ep_iconst (v := 0) d_M_text_1 (by decide) ?_
    refine ep_putf' (fi := 0) (h2 := HC X cI cA (upd rI 0 0) rA ol J) d_M_text_2 cl5 lf_M_52 (by decide) (Or.inl rfl) rfl rfl hI_16_0 ?_
    refine ep_iload_n (j := 1) d_M_text_5 rfl rfl ?_
    refine ep_if_lt (tgt := 17) d_M_text_6 (by decide) (fun z => absurd z (Int32.not_lt.mpr hi.1)) (fun _ => ?_)
    refine ep_iload_n (j := 1) d_M_text_9 rfl rfl ?_
    refine ep_aload_n (j := 0) d_M_text_10 rfl rfl ?_
    refine ep_getf (fi := 10) (v := .int (nI S.2.1.length)) d_M_text_11 cl5 lf_M_157 (by decide) rfl (congrArg (fun z => some (Value.int z)) hb.2.1.1) ?_
    refine ep_icmp_lt (tgt := 21) d_M_text_14 (by decide) (fun _ => ?_) (fun z => absurd hi.2 z)
    refine ep_aload_n (j := 0) d_M_text_21 rfl rfl ?_
    refine ep_getf (fi := 9) (v := .ref 23) d_M_text_22 cl5 lf_M_28 (by decide) rfl rfl ?_
    refine ep_iload_n (j := 1) d_M_text_25 rfl rfl ?_
    refine ep_iald (f := rA 9) j d_M_text_26 rfl rfl (by omega) (by decide) ?_
    exact ep_iret d_M_text_27 rfl rfl (BP_ok (congrArg (fun z => some (Value.int z)) ((tat_at hb.2.1.2 hj8 (by omega)).symm)) hb rfl)
  · refine ep_aload_n (j := 0) d_M_text_0 rfl rfl ?_
    refine ep_iconst (v := 0) d_M_text_1 (by decide) ?_
    refine ep_putf' (fi := 0) (h2 := HC X cI cA (upd rI 0 0) rA ol J) d_M_text_2 cl5 lf_M_52 (by decide) (Or.inl rfl) rfl rfl hI_16_0 ?_
    refine ep_iload_n (j := 1) d_M_text_5 rfl rfl ?_
    refine ep_if_lt (tgt := 17) d_M_text_6 (by decide) (fun c6 => ?_) (fun c6 => ?_)
    · refine ep_iconst (v := (-1)) d_M_text_17 (by decide) ?_
      refine ep_goto (tgt := 27) d_M_text_18 (by decide) ?_
      exact ep_iret d_M_text_27 rfl rfl (BP_ok (congrArg (fun z => some (Value.int z)) ((tat_no hi).symm)) hb rfl)
    · refine ep_iload_n (j := 1) d_M_text_9 rfl rfl ?_
      refine ep_aload_n (j := 0) d_M_text_10 rfl rfl ?_
      refine ep_getf (fi := 10) (v := .int (nI S.2.1.length)) d_M_text_11 cl5 lf_M_157 (by decide) rfl (congrArg (fun z => some (Value.int z)) hb.2.1.1) ?_
      refine ep_icmp_lt (tgt := 21) d_M_text_14 (by decide) (fun z => absurd z (fun u => hi ⟨Int32.not_lt.mp c6, u⟩)) (fun _ => ?_)
      refine ep_iconst (v := (-1)) d_M_text_17 (by decide) ?_
      refine ep_goto (tgt := 27) d_M_text_18 (by decide) ?_
      exact ep_iret d_M_text_27 rfl rfl (BP_ok (congrArg (fun z => some (Value.int z)) ((tat_no hi).symm)) hb rfl)
set_option maxHeartbeats 4000000 in
set_option maxRecDepth 100000 in
theorem M_table (hb : MB rI rA S) (hl : S.2.2.length ≤ 120) (i : Int32) : EvP m_M_table d 0 [(0, .ref 16), (1, .int i)] [] (HC X cI cA rI rA ol J) (BP X cI cA ol J (tat S.2.2 i) 0 S) := by
  by_cases hi : 0 ≤ i ∧ i < nI S.2.2.length
  · obtain ⟨j, hj, rfl⟩ := nI_of' hi.1
    have hj8 : j < S.2.2.length := (nI_ltI hj (by omega)).mp hi.2
    refine ep_aload_n (j := 0) d_M_table_0 rfl rfl ?_
    refine ep_iconst (v := 0) d_M_table_1 (by decide) ?_
    refine ep_putf' (fi := 0) (h2 := HC X cI cA (upd rI 0 0) rA ol J) d_M_table_2 cl5 lf_M_52 (by decide) (Or.inl rfl) rfl rfl hI_16_0 ?_
    refine ep_iload_n (j := 1) d_M_table_5 rfl rfl ?_
    refine ep_if_lt (tgt := 17) d_M_table_6 (by decide) (fun z => absurd z (Int32.not_lt.mpr hi.1)) (fun _ => ?_)
    refine ep_iload_n (j := 1) d_M_table_9 rfl rfl ?_
    refine ep_aload_n (j := 0) d_M_table_10 rfl rfl ?_
    refine ep_getf (fi := 14) (v := .int (nI S.2.2.length)) d_M_table_11 cl5 lf_M_163 (by decide) rfl (congrArg (fun z => some (Value.int z)) hb.2.2.1) ?_
    refine ep_icmp_lt (tgt := 21) d_M_table_14 (by decide) (fun _ => ?_) (fun z => absurd hi.2 z)
    refine ep_aload_n (j := 0) d_M_table_21 rfl rfl ?_
    refine ep_getf (fi := 15) (v := .ref 25) d_M_table_22 cl5 lf_M_34 (by decide) rfl rfl ?_
    refine ep_iload_n (j := 1) d_M_table_25 rfl rfl ?_
    refine ep_iald (f := rA 15) j d_M_table_26 rfl rfl (by omega) (by decide) ?_
    exact ep_iret d_M_table_27 rfl rfl (BP_ok (congrArg (fun z => some (Value.int z)) ((tat_at hb.2.2.2 hj8 (by omega)).symm)) hb rfl)
  · refine ep_aload_n (j := 0) d_M_table_0 rfl rfl ?_
    refine ep_iconst (v := 0) d_M_table_1 (by decide) ?_
    refine ep_putf' (fi := 0) (h2 := HC X cI cA (upd rI 0 0) rA ol J) d_M_table_2 cl5 lf_M_52 (by decide) (Or.inl rfl) rfl rfl hI_16_0 ?_
    refine ep_iload_n (j := 1) d_M_table_5 rfl rfl ?_
    refine ep_if_lt (tgt := 17) d_M_table_6 (by decide) (fun c6 => ?_) (fun c6 => ?_)
    · refine ep_iconst (v := (-1)) d_M_table_17 (by decide) ?_
      refine ep_goto (tgt := 27) d_M_table_18 (by decide) ?_
      exact ep_iret d_M_table_27 rfl rfl (BP_ok (congrArg (fun z => some (Value.int z)) ((tat_no hi).symm)) hb rfl)
    · refine ep_iload_n (j := 1) d_M_table_9 rfl rfl ?_
      refine ep_aload_n (j := 0) d_M_table_10 rfl rfl ?_
      refine ep_getf (fi := 14) (v := .int (nI S.2.2.length)) d_M_table_11 cl5 lf_M_163 (by decide) rfl (congrArg (fun z => some (Value.int z)) hb.2.2.1) ?_
      refine ep_icmp_lt (tgt := 21) d_M_table_14 (by decide) (fun z => absurd z (fun u => hi ⟨Int32.not_lt.mp c6, u⟩)) (fun _ => ?_)
      refine ep_iconst (v := (-1)) d_M_table_17 (by decide) ?_
      refine ep_goto (tgt := 27) d_M_table_18 (by decide) ?_
      exact ep_iret d_M_table_27 rfl rfl (BP_ok (congrArg (fun z => some (Value.int z)) ((tat_no hi).symm)) hb rfl)
set_option maxHeartbeats 4000000 in
set_option maxRecDepth 100000 in
theorem M_look (hb : MB rI rA S) (i : Int32) : EvP m_M_look d 0 [(0, .ref 16), (1, .int i)] [] (HC X cI cA rI rA ol J) (BP X cI cA ol J (cLook S i) 0 S) := by
  refine ep_aload_n (j := 0) d_M_look_0 rfl rfl ?_
  refine ep_iconst (v := 0) d_M_look_1 (by decide) ?_
  refine ep_putf' (fi := 0) (h2 := HC X cI cA (upd rI 0 0) rA ol J) d_M_look_2 cl5 lf_M_52 (by decide) (Or.inl rfl) rfl rfl hI_16_0 ?_
  refine ep_iload_n (j := 1) d_M_look_5 rfl rfl ?_
  refine ep_if_ne (tgt := 16) d_M_look_6 (by decide) (fun c6 => ?_) (fun c6 => ?_)
  · refine ep_iload_n (j := 1) d_M_look_16 rfl rfl ?_
    refine ep_iconst (v := 1) d_M_look_17 (by decide) ?_
    refine ep_icmp_ne (tgt := 28) d_M_look_18 (by decide) (fun c18 => ?_) (fun c18 => ?_)
    · refine ep_iload_n (j := 1) d_M_look_28 rfl rfl ?_
      refine ep_iconst (v := 2) d_M_look_29 (by decide) ?_
      refine ep_icmp_ne (tgt := 40) d_M_look_30 (by decide) (fun c30 => ?_) (fun c30 => ?_)
      · refine ep_iconst (v := (-1)) d_M_look_40 (by decide) ?_
        exact ep_iret d_M_look_41 rfl rfl (BP_ok (congrArg (fun z => some (Value.int z)) ((show cLook S i = _ from ((if_neg c6).trans ((if_neg c18).trans (if_neg c30)))).symm)) hb rfl)
      · refine ep_aload_n (j := 0) d_M_look_33 rfl rfl ?_
        refine ep_getf (fi := 14) (v := .int (nI S.2.2.length)) d_M_look_34 cl5 lf_M_163 (by decide) rfl (congrArg (fun z => some (Value.int z)) hb.2.2.1) ?_
        refine ep_goto (tgt := 41) d_M_look_37 (by decide) ?_
        exact ep_iret d_M_look_41 rfl rfl (BP_ok (congrArg (fun z => some (Value.int z)) ((show cLook S i = _ from ((if_neg c6).trans ((if_neg c18).trans (if_pos c30)))).symm)) hb rfl)
    · refine ep_aload_n (j := 0) d_M_look_21 rfl rfl ?_
      refine ep_getf (fi := 10) (v := .int (nI S.2.1.length)) d_M_look_22 cl5 lf_M_157 (by decide) rfl (congrArg (fun z => some (Value.int z)) hb.2.1.1) ?_
      refine ep_goto (tgt := 41) d_M_look_25 (by decide) ?_
      exact ep_iret d_M_look_41 rfl rfl (BP_ok (congrArg (fun z => some (Value.int z)) ((show cLook S i = _ from ((if_neg c6).trans (if_pos c18))).symm)) hb rfl)
  · refine ep_aload_n (j := 0) d_M_look_9 rfl rfl ?_
    refine ep_getf (fi := 1) (v := .int (nI S.1.length)) d_M_look_10 cl5 lf_M_56 (by decide) rfl (congrArg (fun z => some (Value.int z)) hb.1.1) ?_
    refine ep_goto (tgt := 41) d_M_look_13 (by decide) ?_
    exact ep_iret d_M_look_41 rfl rfl (BP_ok (congrArg (fun z => some (Value.int z)) ((show cLook S i = _ from (if_pos c6)).symm)) hb rfl)
set_option maxHeartbeats 4000000 in
set_option maxRecDepth 100000 in
theorem M_thrown : EvP m_M_thrown d 0 [(0, .ref 16)] [] (HC X cI cA rI rA ol J) (Ri (rI 0) (HC X cI cA rI rA ol J)) := by
  refine ep_aload_n (j := 0) d_M_thrown_0 rfl rfl ?_
  refine ep_getf (fi := 0) (v := .int (rI 0)) d_M_thrown_1 cl5 lf_M_52 (by decide) rfl rfl ?_
  exact ep_iret d_M_thrown_4 rfl rfl (⟨rfl, rfl⟩)
theorem lby_s (p : Int64) (s : Int32) (k : Nat) (hk : k ≤ 56) (h1 : ((s.toInt64 &&& 63).toBitVec.smod 64).toNat = k) (h2 : ((s.toInt64.toUInt64 &&& Int64.toUInt64 63).toBitVec % 64).toNat = k) : ((p >>> (s.toInt64 &&& 63)) &&& 255).toInt32 = lby p s := by
  have b64 : ∀ i, i < 64 → (255#64).getLsbD i = decide (i < 8) := by decide
  have b32 : ∀ i, i < 32 → (255#32).getLsbD i = decide (i < 8) := by decide
  have e1 : ((p >>> (s.toInt64 &&& 63)) &&& 255).toInt32.toBitVec = (p.toBitVec.sshiftRight k &&& 255#64).signExtend 32 := by
    rw [← h1]; rfl
  have e2 : (lby p s).toBitVec = (p.toBitVec >>> k).signExtend 32 &&& 255#32 := by
    rw [← h2]; rfl
  apply Int32.toBitVec_inj.mp
  rw [e1, e2]
  apply BitVec.eq_of_getLsbD_eq
  intro i hi
  rw [BitVec.signExtend_eq_setWidth_of_le _ (by decide), BitVec.getLsbD_and, BitVec.signExtend_eq_setWidth_of_le _ (by decide), BitVec.getLsbD_setWidth, BitVec.getLsbD_setWidth, BitVec.getLsbD_and, b64 i (by omega), b32 i hi, BitVec.getLsbD_sshiftRight, BitVec.getLsbD_ushiftRight]
  by_cases h : i < 8
  · simp [h, hi, show k + i < 64 by omega]
    omega
  · simp [h]
/-- what the reference's type keeps: the text so far lies in its row, the old size stands -/
def MY (rI : Nat → Int32) (rA : Nat → Nat → Int32) (S : CSt) (T : List Int32) : Prop := MB rI rA S ∧ S.2.1 <+: T ∧ T.length ≤ 120 ∧ T = rowL (rA 9) T.length ∧ rI 0 = 0
theorem MY.add {T : List Int32} (h : MY rI rA S T) (hl : T.length < 120) (x : Int32) : MY rI (va_up rA 9 (upd (rA 9) T.length x)) S (T ++ [x]) := by
  obtain ⟨hb, hp, h1, h2, h0⟩ := h
  have hle := hp.length_le
  refine ⟨⟨hb.1, ⟨hb.2.1.1, hb.2.1.2.trans (rowL_cg (fun j hj => (upd_ne _ _ (by omega)).symm))⟩, hb.2.2⟩, hp.trans (List.prefix_append _ _), by rw [List.length_append]; exact hl, ?_, h0⟩
  rw [List.length_append]
  show _ = rowL (upd (rA 9) T.length x) (T.length + 1)
  rw [rowL_upd]
  exact congrArg (· ++ [x]) h2
set_option maxHeartbeats 4000000 in
set_option maxRecDepth 100000 in
theorem M_type_m1 {T : List Int32} (hT : MY rI rA S T) (p : Int64) (y : Int32) : EvP m_M_type d 14 [(0, .ref 16), (1, .long p), (3, .int (nI T.length)), (4, .int (-1)), (5, .int y)] [] (HC X cI cA rI rA ol J) (BP X cI cA ol J ((tys p [] T).elim 0 (fun _ => 1)) 0 (S.1, (tys p [] T).getD S.2.1, S.2.2)) := by
  refine ep_iload (j := 3) d_M_type_14 rfl ?_
  refine ep_if_lt (tgt := 77) d_M_type_16 (by decide) (fun _ => ?_) (fun z => absurd (by decide) z)
  refine ep_aload_n (j := 0) d_M_type_77 rfl rfl ?_
  refine ep_iload_n (j := 2) d_M_type_78 rfl rfl ?_
  refine ep_putf' (fi := 10) (h2 := HC X cI cA (upd rI 10 (nI T.length)) rA ol J) d_M_type_79 cl5 lf_M_157 (by decide) (Or.inl rfl) rfl rfl hI_16_10 ?_
  refine ep_iconst (v := 1) d_M_type_82 (by decide) ?_
  exact ep_iret d_M_type_83 rfl rfl (BP_ok (congrArg (fun z => some (Value.int z)) rfl) ⟨hT.1.1, ⟨rfl, hT.2.2.2.1⟩, hT.1.2.2⟩ hT.2.2.2.2)
set_option maxHeartbeats 4000000 in
set_option maxRecDepth 100000 in
theorem M_type_0 {T : List Int32} (hT : MY rI rA S T) (p : Int64) (y : Int32) : EvP m_M_type d 14 [(0, .ref 16), (1, .long p), (3, .int (nI T.length)), (4, .int 0), (5, .int y)] [] (HC X cI cA rI rA ol J) (BP X cI cA ol J ((tys p [0] T).elim 0 (fun _ => 1)) 0 (S.1, (tys p [0] T).getD S.2.1, S.2.2)) := by
  refine ep_iload (j := 3) d_M_type_14 rfl ?_
  refine ep_if_lt (tgt := 77) d_M_type_16 (by decide) (fun z => absurd z (by decide)) (fun _ => ?_)
  refine ep_lload_n (j := 1) d_M_type_19 rfl rfl ?_
  refine ep_bipush (v := 8) d_M_type_20 (by decide) ?_
  refine ep_iload (j := 3) d_M_type_22 rfl ?_
  refine ep_imul d_M_type_24 ?_
  refine ep_cg (y := 0) (by decide) ?_
  refine ep_lshr d_M_type_25 ?_
  refine ep_ldc2 (v := 255) d_M_type_26 ln_M_166 ?_
  refine ep_land d_M_type_29 ?_
  refine ep_l2i d_M_type_30 ?_
  refine ep_cg (y := lby p 0) (lby_s p 0 0 (by decide) (by decide) (by decide)) ?_
  refine ep_istore (lv' := [(0, .ref 16), (1, .long p), (3, .int (nI T.length)), (4, .int 0), (5, .int (lby p 0))]) [1, 2, 3, 4, 0] d_M_type_31 (by decide) rfl ?_
  refine ep_iload (j := 4) d_M_type_33 rfl ?_
  refine ep_if_eq (tgt := 71) d_M_type_35 (by decide) (fun c35 => ?_) (fun c35 => ?_)
  · refine ep_iinc (v := (-1)) (j := 3) (lv' := [(0, .ref 16), (1, .long p), (3, .int (nI T.length)), (4, .int (-1)), (5, .int (lby p 0))]) [1, 2, 3, 0, 4] d_M_type_71 rfl (by decide) (by decide) rfl ?_
    refine ep_goto (tgt := 14) d_M_type_74 (by decide) ?_
    rw [tys_z c35]
    exact M_type_m1 hT p (lby p 0)
  · refine ep_iload (j := 4) d_M_type_38 rfl ?_
    refine ep_bipush (v := 33) d_M_type_40 (by decide) ?_
    refine ep_icmp_lt (tgt := 58) d_M_type_42 (by decide) (fun c42 => ?_) (fun c42 => ?_)
    · refine ep_iconst (v := 0) d_M_type_58 (by decide) ?_
      exact ep_iret d_M_type_59 rfl rfl (by rw [tys_x c35 (fun u => u.1.1 c42)]; exact BP_ok rfl hT.1 hT.2.2.2.2)
    · refine ep_iload (j := 4) d_M_type_45 rfl ?_
      refine ep_bipush (v := 126) d_M_type_47 (by decide) ?_
      refine ep_icmp_gt (tgt := 58) d_M_type_49 (by decide) (fun c49 => ?_) (fun c49 => ?_)
      · refine ep_iconst (v := 0) d_M_type_58 (by decide) ?_
        exact ep_iret d_M_type_59 rfl rfl (by rw [tys_x c35 (fun u => u.1.2 c49)]; exact BP_ok rfl hT.1 hT.2.2.2.2)
      · refine ep_iload_n (j := 2) d_M_type_52 rfl rfl ?_
        refine ep_bipush (v := 120) d_M_type_53 (by decide) ?_
        refine ep_icmp_ne (tgt := 60) d_M_type_55 (by decide) (fun c55 => ?_) (fun c55 => ?_)
        · have hl : T.length < 120 := by have h1 := hT.2.2.1; have h2 : ¬ T.length = 120 := fun u => c55 (show nI T.length = nI 120 from congrArg nI u); omega
          refine ep_aload_n (j := 0) d_M_type_60 rfl rfl ?_
          refine ep_getf (fi := 9) (v := .ref 23) d_M_type_61 cl5 lf_M_28 (by decide) rfl rfl ?_
          refine ep_iload_n (j := 2) d_M_type_64 rfl rfl ?_
          refine ep_iload (j := 4) d_M_type_65 rfl ?_
          refine ep_iast' (h2 := HC X cI cA rI (va_up rA 9 (upd (rA 9) T.length (lby p 0))) ol J) T.length d_M_type_67 rfl rfl hl (by decide) hA_23 ?_
          refine ep_iinc (v := (nI (T.length + 1))) (j := 2) (lv' := [(0, .ref 16), (1, .long p), (3, .int (nI (T.length + 1))), (4, .int 0), (5, .int (lby p 0))]) [1, 2, 0, 3, 4] d_M_type_68 rfl (nI_1 _) (by decide) rfl ?_
          refine ep_iinc (v := (-1)) (j := 3) (lv' := [(0, .ref 16), (1, .long p), (3, .int (nI (T.length + 1))), (4, .int (-1)), (5, .int (lby p 0))]) [1, 2, 3, 0, 4] d_M_type_71 rfl (by decide) (by decide) rfl ?_
          refine ep_goto (tgt := 14) d_M_type_74 (by decide) ?_
          rw [tys_a c35 ⟨c42, c49⟩ hl]
          have e9 : nI (T.length + 1) = nI (T ++ [lby p 0]).length := by rw [List.length_append]; rfl
          rw [e9]
          exact M_type_m1 (hT.add hl _) p (lby p 0)
        · refine ep_iconst (v := 0) d_M_type_58 (by decide) ?_
          exact ep_iret d_M_type_59 rfl rfl (by rw [tys_x c35 (fun u => absurd ((nI_eq (by omega) (by omega)).mp (show nI T.length = nI 120 from c55)) (by omega))]; exact BP_ok rfl hT.1 hT.2.2.2.2)
set_option maxHeartbeats 4000000 in
set_option maxRecDepth 100000 in
theorem M_type_1 {T : List Int32} (hT : MY rI rA S T) (p : Int64) (y : Int32) : EvP m_M_type d 14 [(0, .ref 16), (1, .long p), (3, .int (nI T.length)), (4, .int 1), (5, .int y)] [] (HC X cI cA rI rA ol J) (BP X cI cA ol J ((tys p [8, 0] T).elim 0 (fun _ => 1)) 0 (S.1, (tys p [8, 0] T).getD S.2.1, S.2.2)) := by
  refine ep_iload (j := 3) d_M_type_14 rfl ?_
  refine ep_if_lt (tgt := 77) d_M_type_16 (by decide) (fun z => absurd z (by decide)) (fun _ => ?_)
  refine ep_lload_n (j := 1) d_M_type_19 rfl rfl ?_
  refine ep_bipush (v := 8) d_M_type_20 (by decide) ?_
  refine ep_iload (j := 3) d_M_type_22 rfl ?_
  refine ep_imul d_M_type_24 ?_
  refine ep_cg (y := 8) (by decide) ?_
  refine ep_lshr d_M_type_25 ?_
  refine ep_ldc2 (v := 255) d_M_type_26 ln_M_166 ?_
  refine ep_land d_M_type_29 ?_
  refine ep_l2i d_M_type_30 ?_
  refine ep_cg (y := lby p 8) (lby_s p 8 8 (by decide) (by decide) (by decide)) ?_
  refine ep_istore (lv' := [(0, .ref 16), (1, .long p), (3, .int (nI T.length)), (4, .int 1), (5, .int (lby p 8))]) [1, 2, 3, 4, 0] d_M_type_31 (by decide) rfl ?_
  refine ep_iload (j := 4) d_M_type_33 rfl ?_
  refine ep_if_eq (tgt := 71) d_M_type_35 (by decide) (fun c35 => ?_) (fun c35 => ?_)
  · refine ep_iinc (v := 0) (j := 3) (lv' := [(0, .ref 16), (1, .long p), (3, .int (nI T.length)), (4, .int 0), (5, .int (lby p 8))]) [1, 2, 3, 0, 4] d_M_type_71 rfl (by decide) (by decide) rfl ?_
    refine ep_goto (tgt := 14) d_M_type_74 (by decide) ?_
    rw [tys_z c35]
    exact M_type_0 hT p (lby p 8)
  · refine ep_iload (j := 4) d_M_type_38 rfl ?_
    refine ep_bipush (v := 33) d_M_type_40 (by decide) ?_
    refine ep_icmp_lt (tgt := 58) d_M_type_42 (by decide) (fun c42 => ?_) (fun c42 => ?_)
    · refine ep_iconst (v := 0) d_M_type_58 (by decide) ?_
      exact ep_iret d_M_type_59 rfl rfl (by rw [tys_x c35 (fun u => u.1.1 c42)]; exact BP_ok rfl hT.1 hT.2.2.2.2)
    · refine ep_iload (j := 4) d_M_type_45 rfl ?_
      refine ep_bipush (v := 126) d_M_type_47 (by decide) ?_
      refine ep_icmp_gt (tgt := 58) d_M_type_49 (by decide) (fun c49 => ?_) (fun c49 => ?_)
      · refine ep_iconst (v := 0) d_M_type_58 (by decide) ?_
        exact ep_iret d_M_type_59 rfl rfl (by rw [tys_x c35 (fun u => u.1.2 c49)]; exact BP_ok rfl hT.1 hT.2.2.2.2)
      · refine ep_iload_n (j := 2) d_M_type_52 rfl rfl ?_
        refine ep_bipush (v := 120) d_M_type_53 (by decide) ?_
        refine ep_icmp_ne (tgt := 60) d_M_type_55 (by decide) (fun c55 => ?_) (fun c55 => ?_)
        · have hl : T.length < 120 := by have h1 := hT.2.2.1; have h2 : ¬ T.length = 120 := fun u => c55 (show nI T.length = nI 120 from congrArg nI u); omega
          refine ep_aload_n (j := 0) d_M_type_60 rfl rfl ?_
          refine ep_getf (fi := 9) (v := .ref 23) d_M_type_61 cl5 lf_M_28 (by decide) rfl rfl ?_
          refine ep_iload_n (j := 2) d_M_type_64 rfl rfl ?_
          refine ep_iload (j := 4) d_M_type_65 rfl ?_
          refine ep_iast' (h2 := HC X cI cA rI (va_up rA 9 (upd (rA 9) T.length (lby p 8))) ol J) T.length d_M_type_67 rfl rfl hl (by decide) hA_23 ?_
          refine ep_iinc (v := (nI (T.length + 1))) (j := 2) (lv' := [(0, .ref 16), (1, .long p), (3, .int (nI (T.length + 1))), (4, .int 1), (5, .int (lby p 8))]) [1, 2, 0, 3, 4] d_M_type_68 rfl (nI_1 _) (by decide) rfl ?_
          refine ep_iinc (v := 0) (j := 3) (lv' := [(0, .ref 16), (1, .long p), (3, .int (nI (T.length + 1))), (4, .int 0), (5, .int (lby p 8))]) [1, 2, 3, 0, 4] d_M_type_71 rfl (by decide) (by decide) rfl ?_
          refine ep_goto (tgt := 14) d_M_type_74 (by decide) ?_
          rw [tys_a c35 ⟨c42, c49⟩ hl]
          have e9 : nI (T.length + 1) = nI (T ++ [lby p 8]).length := by rw [List.length_append]; rfl
          rw [e9]
          exact M_type_0 (hT.add hl _) p (lby p 8)
        · refine ep_iconst (v := 0) d_M_type_58 (by decide) ?_
          exact ep_iret d_M_type_59 rfl rfl (by rw [tys_x c35 (fun u => absurd ((nI_eq (by omega) (by omega)).mp (show nI T.length = nI 120 from c55)) (by omega))]; exact BP_ok rfl hT.1 hT.2.2.2.2)
set_option maxHeartbeats 4000000 in
set_option maxRecDepth 100000 in
theorem M_type_2 {T : List Int32} (hT : MY rI rA S T) (p : Int64) (y : Int32) : EvP m_M_type d 14 [(0, .ref 16), (1, .long p), (3, .int (nI T.length)), (4, .int 2), (5, .int y)] [] (HC X cI cA rI rA ol J) (BP X cI cA ol J ((tys p [16, 8, 0] T).elim 0 (fun _ => 1)) 0 (S.1, (tys p [16, 8, 0] T).getD S.2.1, S.2.2)) := by
  refine ep_iload (j := 3) d_M_type_14 rfl ?_
  refine ep_if_lt (tgt := 77) d_M_type_16 (by decide) (fun z => absurd z (by decide)) (fun _ => ?_)
  refine ep_lload_n (j := 1) d_M_type_19 rfl rfl ?_
  refine ep_bipush (v := 8) d_M_type_20 (by decide) ?_
  refine ep_iload (j := 3) d_M_type_22 rfl ?_
  refine ep_imul d_M_type_24 ?_
  refine ep_cg (y := 16) (by decide) ?_
  refine ep_lshr d_M_type_25 ?_
  refine ep_ldc2 (v := 255) d_M_type_26 ln_M_166 ?_
  refine ep_land d_M_type_29 ?_
  refine ep_l2i d_M_type_30 ?_
  refine ep_cg (y := lby p 16) (lby_s p 16 16 (by decide) (by decide) (by decide)) ?_
  refine ep_istore (lv' := [(0, .ref 16), (1, .long p), (3, .int (nI T.length)), (4, .int 2), (5, .int (lby p 16))]) [1, 2, 3, 4, 0] d_M_type_31 (by decide) rfl ?_
  refine ep_iload (j := 4) d_M_type_33 rfl ?_
  refine ep_if_eq (tgt := 71) d_M_type_35 (by decide) (fun c35 => ?_) (fun c35 => ?_)
  · refine ep_iinc (v := 1) (j := 3) (lv' := [(0, .ref 16), (1, .long p), (3, .int (nI T.length)), (4, .int 1), (5, .int (lby p 16))]) [1, 2, 3, 0, 4] d_M_type_71 rfl (by decide) (by decide) rfl ?_
    refine ep_goto (tgt := 14) d_M_type_74 (by decide) ?_
    rw [tys_z c35]
    exact M_type_1 hT p (lby p 16)
  · refine ep_iload (j := 4) d_M_type_38 rfl ?_
    refine ep_bipush (v := 33) d_M_type_40 (by decide) ?_
    refine ep_icmp_lt (tgt := 58) d_M_type_42 (by decide) (fun c42 => ?_) (fun c42 => ?_)
    · refine ep_iconst (v := 0) d_M_type_58 (by decide) ?_
      exact ep_iret d_M_type_59 rfl rfl (by rw [tys_x c35 (fun u => u.1.1 c42)]; exact BP_ok rfl hT.1 hT.2.2.2.2)
    · refine ep_iload (j := 4) d_M_type_45 rfl ?_
      refine ep_bipush (v := 126) d_M_type_47 (by decide) ?_
      refine ep_icmp_gt (tgt := 58) d_M_type_49 (by decide) (fun c49 => ?_) (fun c49 => ?_)
      · refine ep_iconst (v := 0) d_M_type_58 (by decide) ?_
        exact ep_iret d_M_type_59 rfl rfl (by rw [tys_x c35 (fun u => u.1.2 c49)]; exact BP_ok rfl hT.1 hT.2.2.2.2)
      · refine ep_iload_n (j := 2) d_M_type_52 rfl rfl ?_
        refine ep_bipush (v := 120) d_M_type_53 (by decide) ?_
        refine ep_icmp_ne (tgt := 60) d_M_type_55 (by decide) (fun c55 => ?_) (fun c55 => ?_)
        · have hl : T.length < 120 := by have h1 := hT.2.2.1; have h2 : ¬ T.length = 120 := fun u => c55 (show nI T.length = nI 120 from congrArg nI u); omega
          refine ep_aload_n (j := 0) d_M_type_60 rfl rfl ?_
          refine ep_getf (fi := 9) (v := .ref 23) d_M_type_61 cl5 lf_M_28 (by decide) rfl rfl ?_
          refine ep_iload_n (j := 2) d_M_type_64 rfl rfl ?_
          refine ep_iload (j := 4) d_M_type_65 rfl ?_
          refine ep_iast' (h2 := HC X cI cA rI (va_up rA 9 (upd (rA 9) T.length (lby p 16))) ol J) T.length d_M_type_67 rfl rfl hl (by decide) hA_23 ?_
          refine ep_iinc (v := (nI (T.length + 1))) (j := 2) (lv' := [(0, .ref 16), (1, .long p), (3, .int (nI (T.length + 1))), (4, .int 2), (5, .int (lby p 16))]) [1, 2, 0, 3, 4] d_M_type_68 rfl (nI_1 _) (by decide) rfl ?_
          refine ep_iinc (v := 1) (j := 3) (lv' := [(0, .ref 16), (1, .long p), (3, .int (nI (T.length + 1))), (4, .int 1), (5, .int (lby p 16))]) [1, 2, 3, 0, 4] d_M_type_71 rfl (by decide) (by decide) rfl ?_
          refine ep_goto (tgt := 14) d_M_type_74 (by decide) ?_
          rw [tys_a c35 ⟨c42, c49⟩ hl]
          have e9 : nI (T.length + 1) = nI (T ++ [lby p 16]).length := by rw [List.length_append]; rfl
          rw [e9]
          exact M_type_1 (hT.add hl _) p (lby p 16)
        · refine ep_iconst (v := 0) d_M_type_58 (by decide) ?_
          exact ep_iret d_M_type_59 rfl rfl (by rw [tys_x c35 (fun u => absurd ((nI_eq (by omega) (by omega)).mp (show nI T.length = nI 120 from c55)) (by omega))]; exact BP_ok rfl hT.1 hT.2.2.2.2)
set_option maxHeartbeats 4000000 in
set_option maxRecDepth 100000 in
theorem M_type_3 {T : List Int32} (hT : MY rI rA S T) (p : Int64) (y : Int32) : EvP m_M_type d 14 [(0, .ref 16), (1, .long p), (3, .int (nI T.length)), (4, .int 3), (5, .int y)] [] (HC X cI cA rI rA ol J) (BP X cI cA ol J ((tys p [24, 16, 8, 0] T).elim 0 (fun _ => 1)) 0 (S.1, (tys p [24, 16, 8, 0] T).getD S.2.1, S.2.2)) := by
  refine ep_iload (j := 3) d_M_type_14 rfl ?_
  refine ep_if_lt (tgt := 77) d_M_type_16 (by decide) (fun z => absurd z (by decide)) (fun _ => ?_)
  refine ep_lload_n (j := 1) d_M_type_19 rfl rfl ?_
  refine ep_bipush (v := 8) d_M_type_20 (by decide) ?_
  refine ep_iload (j := 3) d_M_type_22 rfl ?_
  refine ep_imul d_M_type_24 ?_
  refine ep_cg (y := 24) (by decide) ?_
  refine ep_lshr d_M_type_25 ?_
  refine ep_ldc2 (v := 255) d_M_type_26 ln_M_166 ?_
  refine ep_land d_M_type_29 ?_
  refine ep_l2i d_M_type_30 ?_
  refine ep_cg (y := lby p 24) (lby_s p 24 24 (by decide) (by decide) (by decide)) ?_
  refine ep_istore (lv' := [(0, .ref 16), (1, .long p), (3, .int (nI T.length)), (4, .int 3), (5, .int (lby p 24))]) [1, 2, 3, 4, 0] d_M_type_31 (by decide) rfl ?_
  refine ep_iload (j := 4) d_M_type_33 rfl ?_
  refine ep_if_eq (tgt := 71) d_M_type_35 (by decide) (fun c35 => ?_) (fun c35 => ?_)
  · refine ep_iinc (v := 2) (j := 3) (lv' := [(0, .ref 16), (1, .long p), (3, .int (nI T.length)), (4, .int 2), (5, .int (lby p 24))]) [1, 2, 3, 0, 4] d_M_type_71 rfl (by decide) (by decide) rfl ?_
    refine ep_goto (tgt := 14) d_M_type_74 (by decide) ?_
    rw [tys_z c35]
    exact M_type_2 hT p (lby p 24)
  · refine ep_iload (j := 4) d_M_type_38 rfl ?_
    refine ep_bipush (v := 33) d_M_type_40 (by decide) ?_
    refine ep_icmp_lt (tgt := 58) d_M_type_42 (by decide) (fun c42 => ?_) (fun c42 => ?_)
    · refine ep_iconst (v := 0) d_M_type_58 (by decide) ?_
      exact ep_iret d_M_type_59 rfl rfl (by rw [tys_x c35 (fun u => u.1.1 c42)]; exact BP_ok rfl hT.1 hT.2.2.2.2)
    · refine ep_iload (j := 4) d_M_type_45 rfl ?_
      refine ep_bipush (v := 126) d_M_type_47 (by decide) ?_
      refine ep_icmp_gt (tgt := 58) d_M_type_49 (by decide) (fun c49 => ?_) (fun c49 => ?_)
      · refine ep_iconst (v := 0) d_M_type_58 (by decide) ?_
        exact ep_iret d_M_type_59 rfl rfl (by rw [tys_x c35 (fun u => u.1.2 c49)]; exact BP_ok rfl hT.1 hT.2.2.2.2)
      · refine ep_iload_n (j := 2) d_M_type_52 rfl rfl ?_
        refine ep_bipush (v := 120) d_M_type_53 (by decide) ?_
        refine ep_icmp_ne (tgt := 60) d_M_type_55 (by decide) (fun c55 => ?_) (fun c55 => ?_)
        · have hl : T.length < 120 := by have h1 := hT.2.2.1; have h2 : ¬ T.length = 120 := fun u => c55 (show nI T.length = nI 120 from congrArg nI u); omega
          refine ep_aload_n (j := 0) d_M_type_60 rfl rfl ?_
          refine ep_getf (fi := 9) (v := .ref 23) d_M_type_61 cl5 lf_M_28 (by decide) rfl rfl ?_
          refine ep_iload_n (j := 2) d_M_type_64 rfl rfl ?_
          refine ep_iload (j := 4) d_M_type_65 rfl ?_
          refine ep_iast' (h2 := HC X cI cA rI (va_up rA 9 (upd (rA 9) T.length (lby p 24))) ol J) T.length d_M_type_67 rfl rfl hl (by decide) hA_23 ?_
          refine ep_iinc (v := (nI (T.length + 1))) (j := 2) (lv' := [(0, .ref 16), (1, .long p), (3, .int (nI (T.length + 1))), (4, .int 3), (5, .int (lby p 24))]) [1, 2, 0, 3, 4] d_M_type_68 rfl (nI_1 _) (by decide) rfl ?_
          refine ep_iinc (v := 2) (j := 3) (lv' := [(0, .ref 16), (1, .long p), (3, .int (nI (T.length + 1))), (4, .int 2), (5, .int (lby p 24))]) [1, 2, 3, 0, 4] d_M_type_71 rfl (by decide) (by decide) rfl ?_
          refine ep_goto (tgt := 14) d_M_type_74 (by decide) ?_
          rw [tys_a c35 ⟨c42, c49⟩ hl]
          have e9 : nI (T.length + 1) = nI (T ++ [lby p 24]).length := by rw [List.length_append]; rfl
          rw [e9]
          exact M_type_2 (hT.add hl _) p (lby p 24)
        · refine ep_iconst (v := 0) d_M_type_58 (by decide) ?_
          exact ep_iret d_M_type_59 rfl rfl (by rw [tys_x c35 (fun u => absurd ((nI_eq (by omega) (by omega)).mp (show nI T.length = nI 120 from c55)) (by omega))]; exact BP_ok rfl hT.1 hT.2.2.2.2)
set_option maxHeartbeats 4000000 in
set_option maxRecDepth 100000 in
theorem M_type_4 {T : List Int32} (hT : MY rI rA S T) (p : Int64) (y : Int32) : EvP m_M_type d 14 [(0, .ref 16), (1, .long p), (3, .int (nI T.length)), (4, .int 4), (5, .int y)] [] (HC X cI cA rI rA ol J) (BP X cI cA ol J ((tys p [32, 24, 16, 8, 0] T).elim 0 (fun _ => 1)) 0 (S.1, (tys p [32, 24, 16, 8, 0] T).getD S.2.1, S.2.2)) := by
  refine ep_iload (j := 3) d_M_type_14 rfl ?_
  refine ep_if_lt (tgt := 77) d_M_type_16 (by decide) (fun z => absurd z (by decide)) (fun _ => ?_)
  refine ep_lload_n (j := 1) d_M_type_19 rfl rfl ?_
  refine ep_bipush (v := 8) d_M_type_20 (by decide) ?_
  refine ep_iload (j := 3) d_M_type_22 rfl ?_
  refine ep_imul d_M_type_24 ?_
  refine ep_cg (y := 32) (by decide) ?_
  refine ep_lshr d_M_type_25 ?_
  refine ep_ldc2 (v := 255) d_M_type_26 ln_M_166 ?_
  refine ep_land d_M_type_29 ?_
  refine ep_l2i d_M_type_30 ?_
  refine ep_cg (y := lby p 32) (lby_s p 32 32 (by decide) (by decide) (by decide)) ?_
  refine ep_istore (lv' := [(0, .ref 16), (1, .long p), (3, .int (nI T.length)), (4, .int 4), (5, .int (lby p 32))]) [1, 2, 3, 4, 0] d_M_type_31 (by decide) rfl ?_
  refine ep_iload (j := 4) d_M_type_33 rfl ?_
  refine ep_if_eq (tgt := 71) d_M_type_35 (by decide) (fun c35 => ?_) (fun c35 => ?_)
  · refine ep_iinc (v := 3) (j := 3) (lv' := [(0, .ref 16), (1, .long p), (3, .int (nI T.length)), (4, .int 3), (5, .int (lby p 32))]) [1, 2, 3, 0, 4] d_M_type_71 rfl (by decide) (by decide) rfl ?_
    refine ep_goto (tgt := 14) d_M_type_74 (by decide) ?_
    rw [tys_z c35]
    exact M_type_3 hT p (lby p 32)
  · refine ep_iload (j := 4) d_M_type_38 rfl ?_
    refine ep_bipush (v := 33) d_M_type_40 (by decide) ?_
    refine ep_icmp_lt (tgt := 58) d_M_type_42 (by decide) (fun c42 => ?_) (fun c42 => ?_)
    · refine ep_iconst (v := 0) d_M_type_58 (by decide) ?_
      exact ep_iret d_M_type_59 rfl rfl (by rw [tys_x c35 (fun u => u.1.1 c42)]; exact BP_ok rfl hT.1 hT.2.2.2.2)
    · refine ep_iload (j := 4) d_M_type_45 rfl ?_
      refine ep_bipush (v := 126) d_M_type_47 (by decide) ?_
      refine ep_icmp_gt (tgt := 58) d_M_type_49 (by decide) (fun c49 => ?_) (fun c49 => ?_)
      · refine ep_iconst (v := 0) d_M_type_58 (by decide) ?_
        exact ep_iret d_M_type_59 rfl rfl (by rw [tys_x c35 (fun u => u.1.2 c49)]; exact BP_ok rfl hT.1 hT.2.2.2.2)
      · refine ep_iload_n (j := 2) d_M_type_52 rfl rfl ?_
        refine ep_bipush (v := 120) d_M_type_53 (by decide) ?_
        refine ep_icmp_ne (tgt := 60) d_M_type_55 (by decide) (fun c55 => ?_) (fun c55 => ?_)
        · have hl : T.length < 120 := by have h1 := hT.2.2.1; have h2 : ¬ T.length = 120 := fun u => c55 (show nI T.length = nI 120 from congrArg nI u); omega
          refine ep_aload_n (j := 0) d_M_type_60 rfl rfl ?_
          refine ep_getf (fi := 9) (v := .ref 23) d_M_type_61 cl5 lf_M_28 (by decide) rfl rfl ?_
          refine ep_iload_n (j := 2) d_M_type_64 rfl rfl ?_
          refine ep_iload (j := 4) d_M_type_65 rfl ?_
          refine ep_iast' (h2 := HC X cI cA rI (va_up rA 9 (upd (rA 9) T.length (lby p 32))) ol J) T.length d_M_type_67 rfl rfl hl (by decide) hA_23 ?_
          refine ep_iinc (v := (nI (T.length + 1))) (j := 2) (lv' := [(0, .ref 16), (1, .long p), (3, .int (nI (T.length + 1))), (4, .int 4), (5, .int (lby p 32))]) [1, 2, 0, 3, 4] d_M_type_68 rfl (nI_1 _) (by decide) rfl ?_
          refine ep_iinc (v := 3) (j := 3) (lv' := [(0, .ref 16), (1, .long p), (3, .int (nI (T.length + 1))), (4, .int 3), (5, .int (lby p 32))]) [1, 2, 3, 0, 4] d_M_type_71 rfl (by decide) (by decide) rfl ?_
          refine ep_goto (tgt := 14) d_M_type_74 (by decide) ?_
          rw [tys_a c35 ⟨c42, c49⟩ hl]
          have e9 : nI (T.length + 1) = nI (T ++ [lby p 32]).length := by rw [List.length_append]; rfl
          rw [e9]
          exact M_type_3 (hT.add hl _) p (lby p 32)
        · refine ep_iconst (v := 0) d_M_type_58 (by decide) ?_
          exact ep_iret d_M_type_59 rfl rfl (by rw [tys_x c35 (fun u => absurd ((nI_eq (by omega) (by omega)).mp (show nI T.length = nI 120 from c55)) (by omega))]; exact BP_ok rfl hT.1 hT.2.2.2.2)
set_option maxHeartbeats 4000000 in
set_option maxRecDepth 100000 in
theorem M_type_5 {T : List Int32} (hT : MY rI rA S T) (p : Int64) (y : Int32) : EvP m_M_type d 14 [(0, .ref 16), (1, .long p), (3, .int (nI T.length)), (4, .int 5), (5, .int y)] [] (HC X cI cA rI rA ol J) (BP X cI cA ol J ((tys p [40, 32, 24, 16, 8, 0] T).elim 0 (fun _ => 1)) 0 (S.1, (tys p [40, 32, 24, 16, 8, 0] T).getD S.2.1, S.2.2)) := by
  refine ep_iload (j := 3) d_M_type_14 rfl ?_
  refine ep_if_lt (tgt := 77) d_M_type_16 (by decide) (fun z => absurd z (by decide)) (fun _ => ?_)
  refine ep_lload_n (j := 1) d_M_type_19 rfl rfl ?_
  refine ep_bipush (v := 8) d_M_type_20 (by decide) ?_
  refine ep_iload (j := 3) d_M_type_22 rfl ?_
  refine ep_imul d_M_type_24 ?_
  refine ep_cg (y := 40) (by decide) ?_
  refine ep_lshr d_M_type_25 ?_
  refine ep_ldc2 (v := 255) d_M_type_26 ln_M_166 ?_
  refine ep_land d_M_type_29 ?_
  refine ep_l2i d_M_type_30 ?_
  refine ep_cg (y := lby p 40) (lby_s p 40 40 (by decide) (by decide) (by decide)) ?_
  refine ep_istore (lv' := [(0, .ref 16), (1, .long p), (3, .int (nI T.length)), (4, .int 5), (5, .int (lby p 40))]) [1, 2, 3, 4, 0] d_M_type_31 (by decide) rfl ?_
  refine ep_iload (j := 4) d_M_type_33 rfl ?_
  refine ep_if_eq (tgt := 71) d_M_type_35 (by decide) (fun c35 => ?_) (fun c35 => ?_)
  · refine ep_iinc (v := 4) (j := 3) (lv' := [(0, .ref 16), (1, .long p), (3, .int (nI T.length)), (4, .int 4), (5, .int (lby p 40))]) [1, 2, 3, 0, 4] d_M_type_71 rfl (by decide) (by decide) rfl ?_
    refine ep_goto (tgt := 14) d_M_type_74 (by decide) ?_
    rw [tys_z c35]
    exact M_type_4 hT p (lby p 40)
  · refine ep_iload (j := 4) d_M_type_38 rfl ?_
    refine ep_bipush (v := 33) d_M_type_40 (by decide) ?_
    refine ep_icmp_lt (tgt := 58) d_M_type_42 (by decide) (fun c42 => ?_) (fun c42 => ?_)
    · refine ep_iconst (v := 0) d_M_type_58 (by decide) ?_
      exact ep_iret d_M_type_59 rfl rfl (by rw [tys_x c35 (fun u => u.1.1 c42)]; exact BP_ok rfl hT.1 hT.2.2.2.2)
    · refine ep_iload (j := 4) d_M_type_45 rfl ?_
      refine ep_bipush (v := 126) d_M_type_47 (by decide) ?_
      refine ep_icmp_gt (tgt := 58) d_M_type_49 (by decide) (fun c49 => ?_) (fun c49 => ?_)
      · refine ep_iconst (v := 0) d_M_type_58 (by decide) ?_
        exact ep_iret d_M_type_59 rfl rfl (by rw [tys_x c35 (fun u => u.1.2 c49)]; exact BP_ok rfl hT.1 hT.2.2.2.2)
      · refine ep_iload_n (j := 2) d_M_type_52 rfl rfl ?_
        refine ep_bipush (v := 120) d_M_type_53 (by decide) ?_
        refine ep_icmp_ne (tgt := 60) d_M_type_55 (by decide) (fun c55 => ?_) (fun c55 => ?_)
        · have hl : T.length < 120 := by have h1 := hT.2.2.1; have h2 : ¬ T.length = 120 := fun u => c55 (show nI T.length = nI 120 from congrArg nI u); omega
          refine ep_aload_n (j := 0) d_M_type_60 rfl rfl ?_
          refine ep_getf (fi := 9) (v := .ref 23) d_M_type_61 cl5 lf_M_28 (by decide) rfl rfl ?_
          refine ep_iload_n (j := 2) d_M_type_64 rfl rfl ?_
          refine ep_iload (j := 4) d_M_type_65 rfl ?_
          refine ep_iast' (h2 := HC X cI cA rI (va_up rA 9 (upd (rA 9) T.length (lby p 40))) ol J) T.length d_M_type_67 rfl rfl hl (by decide) hA_23 ?_
          refine ep_iinc (v := (nI (T.length + 1))) (j := 2) (lv' := [(0, .ref 16), (1, .long p), (3, .int (nI (T.length + 1))), (4, .int 5), (5, .int (lby p 40))]) [1, 2, 0, 3, 4] d_M_type_68 rfl (nI_1 _) (by decide) rfl ?_
          refine ep_iinc (v := 4) (j := 3) (lv' := [(0, .ref 16), (1, .long p), (3, .int (nI (T.length + 1))), (4, .int 4), (5, .int (lby p 40))]) [1, 2, 3, 0, 4] d_M_type_71 rfl (by decide) (by decide) rfl ?_
          refine ep_goto (tgt := 14) d_M_type_74 (by decide) ?_
          rw [tys_a c35 ⟨c42, c49⟩ hl]
          have e9 : nI (T.length + 1) = nI (T ++ [lby p 40]).length := by rw [List.length_append]; rfl
          rw [e9]
          exact M_type_4 (hT.add hl _) p (lby p 40)
        · refine ep_iconst (v := 0) d_M_type_58 (by decide) ?_
          exact ep_iret d_M_type_59 rfl rfl (by rw [tys_x c35 (fun u => absurd ((nI_eq (by omega) (by omega)).mp (show nI T.length = nI 120 from c55)) (by omega))]; exact BP_ok rfl hT.1 hT.2.2.2.2)
set_option maxHeartbeats 4000000 in
set_option maxRecDepth 100000 in
theorem M_type_6 {T : List Int32} (hT : MY rI rA S T) (p : Int64) (y : Int32) : EvP m_M_type d 14 [(0, .ref 16), (1, .long p), (3, .int (nI T.length)), (4, .int 6), (5, .int y)] [] (HC X cI cA rI rA ol J) (BP X cI cA ol J ((tys p [48, 40, 32, 24, 16, 8, 0] T).elim 0 (fun _ => 1)) 0 (S.1, (tys p [48, 40, 32, 24, 16, 8, 0] T).getD S.2.1, S.2.2)) := by
  refine ep_iload (j := 3) d_M_type_14 rfl ?_
  refine ep_if_lt (tgt := 77) d_M_type_16 (by decide) (fun z => absurd z (by decide)) (fun _ => ?_)
  refine ep_lload_n (j := 1) d_M_type_19 rfl rfl ?_
  refine ep_bipush (v := 8) d_M_type_20 (by decide) ?_
  refine ep_iload (j := 3) d_M_type_22 rfl ?_
  refine ep_imul d_M_type_24 ?_
  refine ep_cg (y := 48) (by decide) ?_
  refine ep_lshr d_M_type_25 ?_
  refine ep_ldc2 (v := 255) d_M_type_26 ln_M_166 ?_
  refine ep_land d_M_type_29 ?_
  refine ep_l2i d_M_type_30 ?_
  refine ep_cg (y := lby p 48) (lby_s p 48 48 (by decide) (by decide) (by decide)) ?_
  refine ep_istore (lv' := [(0, .ref 16), (1, .long p), (3, .int (nI T.length)), (4, .int 6), (5, .int (lby p 48))]) [1, 2, 3, 4, 0] d_M_type_31 (by decide) rfl ?_
  refine ep_iload (j := 4) d_M_type_33 rfl ?_
  refine ep_if_eq (tgt := 71) d_M_type_35 (by decide) (fun c35 => ?_) (fun c35 => ?_)
  · refine ep_iinc (v := 5) (j := 3) (lv' := [(0, .ref 16), (1, .long p), (3, .int (nI T.length)), (4, .int 5), (5, .int (lby p 48))]) [1, 2, 3, 0, 4] d_M_type_71 rfl (by decide) (by decide) rfl ?_
    refine ep_goto (tgt := 14) d_M_type_74 (by decide) ?_
    rw [tys_z c35]
    exact M_type_5 hT p (lby p 48)
  · refine ep_iload (j := 4) d_M_type_38 rfl ?_
    refine ep_bipush (v := 33) d_M_type_40 (by decide) ?_
    refine ep_icmp_lt (tgt := 58) d_M_type_42 (by decide) (fun c42 => ?_) (fun c42 => ?_)
    · refine ep_iconst (v := 0) d_M_type_58 (by decide) ?_
      exact ep_iret d_M_type_59 rfl rfl (by rw [tys_x c35 (fun u => u.1.1 c42)]; exact BP_ok rfl hT.1 hT.2.2.2.2)
    · refine ep_iload (j := 4) d_M_type_45 rfl ?_
      refine ep_bipush (v := 126) d_M_type_47 (by decide) ?_
      refine ep_icmp_gt (tgt := 58) d_M_type_49 (by decide) (fun c49 => ?_) (fun c49 => ?_)
      · refine ep_iconst (v := 0) d_M_type_58 (by decide) ?_
        exact ep_iret d_M_type_59 rfl rfl (by rw [tys_x c35 (fun u => u.1.2 c49)]; exact BP_ok rfl hT.1 hT.2.2.2.2)
      · refine ep_iload_n (j := 2) d_M_type_52 rfl rfl ?_
        refine ep_bipush (v := 120) d_M_type_53 (by decide) ?_
        refine ep_icmp_ne (tgt := 60) d_M_type_55 (by decide) (fun c55 => ?_) (fun c55 => ?_)
        · have hl : T.length < 120 := by have h1 := hT.2.2.1; have h2 : ¬ T.length = 120 := fun u => c55 (show nI T.length = nI 120 from congrArg nI u); omega
          refine ep_aload_n (j := 0) d_M_type_60 rfl rfl ?_
          refine ep_getf (fi := 9) (v := .ref 23) d_M_type_61 cl5 lf_M_28 (by decide) rfl rfl ?_
          refine ep_iload_n (j := 2) d_M_type_64 rfl rfl ?_
          refine ep_iload (j := 4) d_M_type_65 rfl ?_
          refine ep_iast' (h2 := HC X cI cA rI (va_up rA 9 (upd (rA 9) T.length (lby p 48))) ol J) T.length d_M_type_67 rfl rfl hl (by decide) hA_23 ?_
          refine ep_iinc (v := (nI (T.length + 1))) (j := 2) (lv' := [(0, .ref 16), (1, .long p), (3, .int (nI (T.length + 1))), (4, .int 6), (5, .int (lby p 48))]) [1, 2, 0, 3, 4] d_M_type_68 rfl (nI_1 _) (by decide) rfl ?_
          refine ep_iinc (v := 5) (j := 3) (lv' := [(0, .ref 16), (1, .long p), (3, .int (nI (T.length + 1))), (4, .int 5), (5, .int (lby p 48))]) [1, 2, 3, 0, 4] d_M_type_71 rfl (by decide) (by decide) rfl ?_
          refine ep_goto (tgt := 14) d_M_type_74 (by decide) ?_
          rw [tys_a c35 ⟨c42, c49⟩ hl]
          have e9 : nI (T.length + 1) = nI (T ++ [lby p 48]).length := by rw [List.length_append]; rfl
          rw [e9]
          exact M_type_5 (hT.add hl _) p (lby p 48)
        · refine ep_iconst (v := 0) d_M_type_58 (by decide) ?_
          exact ep_iret d_M_type_59 rfl rfl (by rw [tys_x c35 (fun u => absurd ((nI_eq (by omega) (by omega)).mp (show nI T.length = nI 120 from c55)) (by omega))]; exact BP_ok rfl hT.1 hT.2.2.2.2)
set_option maxHeartbeats 4000000 in
set_option maxRecDepth 100000 in
theorem M_type_7 {T : List Int32} (hT : MY rI rA S T) (p : Int64) : EvP m_M_type d 14 [(0, .ref 16), (1, .long p), (3, .int (nI T.length)), (4, .int 7)] [] (HC X cI cA rI rA ol J) (BP X cI cA ol J ((tys p [56, 48, 40, 32, 24, 16, 8, 0] T).elim 0 (fun _ => 1)) 0 (S.1, (tys p [56, 48, 40, 32, 24, 16, 8, 0] T).getD S.2.1, S.2.2)) := by
  refine ep_iload (j := 3) d_M_type_14 rfl ?_
  refine ep_if_lt (tgt := 77) d_M_type_16 (by decide) (fun z => absurd z (by decide)) (fun _ => ?_)
  refine ep_lload_n (j := 1) d_M_type_19 rfl rfl ?_
  refine ep_bipush (v := 8) d_M_type_20 (by decide) ?_
  refine ep_iload (j := 3) d_M_type_22 rfl ?_
  refine ep_imul d_M_type_24 ?_
  refine ep_cg (y := 56) (by decide) ?_
  refine ep_lshr d_M_type_25 ?_
  refine ep_ldc2 (v := 255) d_M_type_26 ln_M_166 ?_
  refine ep_land d_M_type_29 ?_
  refine ep_l2i d_M_type_30 ?_
  refine ep_cg (y := lby p 56) (lby_s p 56 56 (by decide) (by decide) (by decide)) ?_
  refine ep_istore (lv' := [(0, .ref 16), (1, .long p), (3, .int (nI T.length)), (4, .int 7), (5, .int (lby p 56))]) [1, 2, 3, 4, 0] d_M_type_31 (by decide) rfl ?_
  refine ep_iload (j := 4) d_M_type_33 rfl ?_
  refine ep_if_eq (tgt := 71) d_M_type_35 (by decide) (fun c35 => ?_) (fun c35 => ?_)
  · refine ep_iinc (v := 6) (j := 3) (lv' := [(0, .ref 16), (1, .long p), (3, .int (nI T.length)), (4, .int 6), (5, .int (lby p 56))]) [1, 2, 3, 0, 4] d_M_type_71 rfl (by decide) (by decide) rfl ?_
    refine ep_goto (tgt := 14) d_M_type_74 (by decide) ?_
    rw [tys_z c35]
    exact M_type_6 hT p (lby p 56)
  · refine ep_iload (j := 4) d_M_type_38 rfl ?_
    refine ep_bipush (v := 33) d_M_type_40 (by decide) ?_
    refine ep_icmp_lt (tgt := 58) d_M_type_42 (by decide) (fun c42 => ?_) (fun c42 => ?_)
    · refine ep_iconst (v := 0) d_M_type_58 (by decide) ?_
      exact ep_iret d_M_type_59 rfl rfl (by rw [tys_x c35 (fun u => u.1.1 c42)]; exact BP_ok rfl hT.1 hT.2.2.2.2)
    · refine ep_iload (j := 4) d_M_type_45 rfl ?_
      refine ep_bipush (v := 126) d_M_type_47 (by decide) ?_
      refine ep_icmp_gt (tgt := 58) d_M_type_49 (by decide) (fun c49 => ?_) (fun c49 => ?_)
      · refine ep_iconst (v := 0) d_M_type_58 (by decide) ?_
        exact ep_iret d_M_type_59 rfl rfl (by rw [tys_x c35 (fun u => u.1.2 c49)]; exact BP_ok rfl hT.1 hT.2.2.2.2)
      · refine ep_iload_n (j := 2) d_M_type_52 rfl rfl ?_
        refine ep_bipush (v := 120) d_M_type_53 (by decide) ?_
        refine ep_icmp_ne (tgt := 60) d_M_type_55 (by decide) (fun c55 => ?_) (fun c55 => ?_)
        · have hl : T.length < 120 := by have h1 := hT.2.2.1; have h2 : ¬ T.length = 120 := fun u => c55 (show nI T.length = nI 120 from congrArg nI u); omega
          refine ep_aload_n (j := 0) d_M_type_60 rfl rfl ?_
          refine ep_getf (fi := 9) (v := .ref 23) d_M_type_61 cl5 lf_M_28 (by decide) rfl rfl ?_
          refine ep_iload_n (j := 2) d_M_type_64 rfl rfl ?_
          refine ep_iload (j := 4) d_M_type_65 rfl ?_
          refine ep_iast' (h2 := HC X cI cA rI (va_up rA 9 (upd (rA 9) T.length (lby p 56))) ol J) T.length d_M_type_67 rfl rfl hl (by decide) hA_23 ?_
          refine ep_iinc (v := (nI (T.length + 1))) (j := 2) (lv' := [(0, .ref 16), (1, .long p), (3, .int (nI (T.length + 1))), (4, .int 7), (5, .int (lby p 56))]) [1, 2, 0, 3, 4] d_M_type_68 rfl (nI_1 _) (by decide) rfl ?_
          refine ep_iinc (v := 6) (j := 3) (lv' := [(0, .ref 16), (1, .long p), (3, .int (nI (T.length + 1))), (4, .int 6), (5, .int (lby p 56))]) [1, 2, 3, 0, 4] d_M_type_71 rfl (by decide) (by decide) rfl ?_
          refine ep_goto (tgt := 14) d_M_type_74 (by decide) ?_
          rw [tys_a c35 ⟨c42, c49⟩ hl]
          have e9 : nI (T.length + 1) = nI (T ++ [lby p 56]).length := by rw [List.length_append]; rfl
          rw [e9]
          exact M_type_6 (hT.add hl _) p (lby p 56)
        · refine ep_iconst (v := 0) d_M_type_58 (by decide) ?_
          exact ep_iret d_M_type_59 rfl rfl (by rw [tys_x c35 (fun u => absurd ((nI_eq (by omega) (by omega)).mp (show nI T.length = nI 120 from c55)) (by omega))]; exact BP_ok rfl hT.1 hT.2.2.2.2)
set_option maxHeartbeats 4000000 in
set_option maxRecDepth 100000 in
theorem M_type (hb : MB rI rA S) (hl : S.2.1.length ≤ 120) (p : Int64) : EvP m_M_type d 0 [(0, .ref 16), (1, .long p)] [] (HC X cI cA rI rA ol J) (BP X cI cA ol J (cType S p).1 0 (cType S p).2) := by
  refine ep_aload_n (j := 0) d_M_type_0 rfl rfl ?_
  refine ep_iconst (v := 0) d_M_type_1 (by decide) ?_
  refine ep_putf' (fi := 0) (h2 := HC X cI cA (upd rI 0 0) rA ol J) d_M_type_2 cl5 lf_M_52 (by decide) (Or.inl rfl) rfl rfl hI_16_0 ?_
  refine ep_aload_n (j := 0) d_M_type_5 rfl rfl ?_
  refine ep_getf (fi := 10) (v := .int (nI S.2.1.length)) d_M_type_6 cl5 lf_M_157 (by decide) rfl (congrArg (fun z => some (Value.int z)) hb.2.1.1) ?_
  refine ep_istore_n (lv' := [(0, .ref 16), (1, .long p), (3, .int (nI S.2.1.length))]) [1, 2, 0] d_M_type_9 rfl (by decide) rfl ?_
  refine ep_bipush (v := 7) d_M_type_10 (by decide) ?_
  refine ep_istore (lv' := [(0, .ref 16), (1, .long p), (3, .int (nI S.2.1.length)), (4, .int 7)]) [1, 2, 3, 0] d_M_type_12 (by decide) rfl ?_
  exact M_type_7 (rI := upd rI 0 0) (S := S) ⟨hb, List.prefix_refl _, hl, hb.2.1.2, rfl⟩ p
end MLK
