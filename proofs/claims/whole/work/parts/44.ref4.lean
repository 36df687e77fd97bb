/-! the reference: ids and told ones; by program (wip/whole/gen44.py) -/
section MS2
variable {d : Nat} {X : Nat × (Nat → Int32)} {cI : Nat → Int32} {cA : Nat → Nat → Int32} {rI : Nat → Int32} {rA : Nat → Nat → Int32} {ol : Int64} {J : mH} {L S : List Int32} {ct : Nat} {s : MS}
set_option maxHeartbeats 4000000 in
set_option maxRecDepth 100000 in
theorem M_rid_l {nv : Int32} : ∀ (r i : Nat) (v : Int32) (s : MS) {rI : Nat → Int32} {rA : Nat → Nat → Int32}, ((nv = nI (i + r) ∧ i + r < 2 ^ 31) ∨ (nv < 0 ∧ r = 0 ∧ i < 2 ^ 31)) → MD L S ct rI rA s → (s.wr = false → s.p + r ≤ 400) → ∀ {lv : List (Nat × Value)}, (lv = [(0, .ref 16), (1, .int nv), (2, .int v), (3, .int (nI i))] ∨ ∃ y, lv = [(0, .ref 16), (1, .int nv), (2, .int v), (3, .int (nI i)), (4, .int y)]) → EvP m_M_readId (d + 1) 36 lv [] (HC X cI cA rI rA ol J) (MPi X cI cA ol J L S ct (mLets L r v s)) := by
  intro r
  induction r with
  | zero =>
    intro i v s rI rA hr hd hb lv hlv
    have hge : nI i ≥ nv := by
      rcases hr with hr | hr
      · rw [hr.1]; exact Int32.le_refl _
      · have h2 := nI_pos' (n := i) hr.2.2
        rw [ge_iff_le, i_le]
        have h1 := i_lt.mp hr.1
        rw [i_le] at h2
        omega
    rcases hlv with rfl | ⟨y, rfl⟩
    · refine ep_iload_n (j := 3) d_M_readId_36 rfl rfl ?_
      refine ep_iload_n (j := 1) d_M_readId_37 rfl rfl ?_
      refine ep_icmp_ge (tgt := 102) d_M_readId_38 (by decide) (fun _ => ?_) (fun z => absurd hge z)
      refine ep_iload_n (j := 2) d_M_readId_102 rfl rfl ?_
      exact ep_iret d_M_readId_103 rfl rfl (MP_ok rfl rfl hd)
    · refine ep_iload_n (j := 3) d_M_readId_36 rfl rfl ?_
      refine ep_iload_n (j := 1) d_M_readId_37 rfl rfl ?_
      refine ep_icmp_ge (tgt := 102) d_M_readId_38 (by decide) (fun _ => ?_) (fun z => absurd hge z)
      refine ep_iload_n (j := 2) d_M_readId_102 rfl rfl ?_
      exact ep_iret d_M_readId_103 rfl rfl (MP_ok rfl rfl hd)
  | succ r ih =>
    intro i v s rI rA hr hd hb lv hlv
    have hr : nv = nI (i + (r + 1)) ∧ i + (r + 1) < 2 ^ 31 := by
      rcases hr with hr | hr
      · exact hr
      · have := hr.2.1; omega
    have hlt : ¬ nI i ≥ nv := by
      rw [hr.1]
      have := hr.2
      exact fun z => absurd ((nI_leI (by omega) (by omega)).mp z) (by omega)
    rcases hlv with rfl | ⟨y, rfl⟩
    · refine ep_iload_n (j := 3) d_M_readId_36 rfl rfl ?_
      refine ep_iload_n (j := 1) d_M_readId_37 rfl rfl ?_
      refine ep_icmp_ge (tgt := 102) d_M_readId_38 (by decide) (fun z => absurd z hlt) (fun _ => ?_)
      refine ep_aload_n (j := 0) d_M_readId_41 rfl rfl ?_
      refine ep_getf (fi := 24) (v := .int (bI s.wr)) d_M_readId_42 cl5 lf_M_171 (by decide) rfl (congrArg (fun z => some (Value.int z)) hd.w) ?_
      refine ep_if_ne (tgt := 102) d_M_readId_45 (by decide) (fun c45 => ?_) (fun c45 => ?_)
      · refine ep_iload_n (j := 2) d_M_readId_102 rfl rfl ?_
        exact ep_iret d_M_readId_103 rfl rfl (MP_ok (by rw [show mLets L (r + 1) v s = (v, s) from if_pos (bI_t c45)]) (by rw [show mLets L (r + 1) v s = (v, s) from if_pos (bI_t c45)]) hd)
      · refine ep_aload_n (j := 0) d_M_readId_48 rfl rfl ?_
        refine ep_callVi (As := []) (st := []) d_M_readId_49 lk_M_174 cal_M_peek tm_M_peek ts_M_peek rfl rfl rfl (Nat.le_of_ble_eq_true rfl) (Nat.le_of_ble_eq_true rfl) rfl rfl (M_peek hd (by have := hb (bI_n c45); omega)) ?_
        refine ep_istore (lv' := [(0, .ref 16), (1, .int nv), (2, .int v), (3, .int (nI i)), (4, .int (pk L s))]) [1, 2, 3, 4, 0] d_M_readId_52 (by decide) rfl ?_
        refine ep_aload_n (j := 0) d_M_readId_54 rfl rfl ?_
        refine ep_join (pc2 := 74) (lv2 := [(0, .ref 16), (1, .int nv), (2, .int v), (3, .int (nI i)), (4, .int (pk L s))]) (st2 := [.int (bI (decide (¬ smP (pk L s)))), .ref 16]) ?_ (fun k74 => ?_)
        · refine ep_putf' (fi := 24) (h2 := HC X cI cA (upd rI 24 (bI (decide (¬ smP (pk L s))))) rA ol J) d_M_readId_74 cl5 lf_M_171 (by decide) (Or.inl rfl) (bI_f _) rfl hI_16_24 ?_
          have hd1 : MD L S ct (upd rI 24 (bI (decide (¬ smP (pk L s))))) rA (mWr s (decide (¬ smP (pk L s)))) := hd.sw (q := (decide (¬ smP (pk L s)))) rfl
          generalize upd rI 24 (bI (decide (¬ smP (pk L s)))) = rI1 at hd1 ⊢
          refine ep_sipush (v := 256) d_M_readId_77 (by decide) ?_
          refine ep_iload_n (j := 2) d_M_readId_80 rfl rfl ?_
          refine ep_imul d_M_readId_81 ?_
          refine ep_iload (j := 4) d_M_readId_82 rfl ?_
          refine ep_iadd d_M_readId_84 ?_
          refine ep_istore_n (lv' := [(0, .ref 16), (1, .int nv), (2, .int ((256 * v) + (pk L s))), (3, .int (nI i)), (4, .int (pk L s))]) [1, 2, 0, 3, 4] d_M_readId_85 rfl (by decide) rfl ?_
          refine ep_aload_n (j := 0) d_M_readId_86 rfl rfl ?_
          refine ep_dup d_M_readId_87 rfl ?_
          refine ep_getf (fi := 23) (v := .int (nI (mWr s (decide (¬ smP (pk L s)))).p)) d_M_readId_88 cl5 lf_M_168 (by decide) rfl (congrArg (fun z => some (Value.int z)) hd1.p) ?_
          refine ep_iconst (v := 1) d_M_readId_91 (by decide) ?_
          refine ep_iadd d_M_readId_92 ?_
          refine ep_putf' (fi := 23) (h2 := HC X cI cA (upd rI1 23 ((nI (mWr s (decide (¬ smP (pk L s)))).p) + 1)) rA ol J) d_M_readId_93 cl5 lf_M_168 (by decide) (Or.inl rfl) rfl rfl hI_16_23 ?_
          have hd2 : MD L S ct (upd rI1 23 ((nI (mWr s (decide (¬ smP (pk L s)))).p) + 1)) rA (mAv (mWr s (decide (¬ smP (pk L s)))) 1) := hd1.sp (q := ((mWr s (decide (¬ smP (pk L s)))).p + 1)) (nI_1 _)
          generalize upd rI1 23 ((nI (mWr s (decide (¬ smP (pk L s)))).p) + 1) = rI2 at hd2 ⊢
          refine ep_iinc (v := (nI (i + 1))) (j := 3) (lv' := [(0, .ref 16), (1, .int nv), (2, .int ((256 * v) + (pk L s))), (3, .int (nI (i + 1))), (4, .int (pk L s))]) [1, 2, 3, 0, 4] d_M_readId_96 rfl (nI_1 _) (by decide) rfl ?_
          refine ep_goto (tgt := 36) d_M_readId_99 (by decide) ?_
          rw [show mLets L (r + 1) v s = mLets L r (256 * v + pk L s) (mAv (mWr s (decide (¬ smP (pk L s)))) 1) from if_neg (by rw [bI_n c45]; decide)]
          exact ih (i + 1) _ _ (Or.inl ⟨by rw [hr.1]; exact congrArg nI (by omega), by have := hr.2; omega⟩) hd2 (fun _ => by have := hb (bI_n c45); show s.p + 1 + r ≤ 400; omega) (Or.inr ⟨_, rfl⟩)
        · refine ep_iload (j := 4) d_M_readId_55 rfl ?_
          refine ep_bipush (v := 97) d_M_readId_57 (by decide) ?_
          refine ep_icmp_lt (tgt := 69) d_M_readId_59 (by decide) (fun c59 => ?_) (fun c59 => ?_)
          · refine ep_iconst (v := 1) d_M_readId_69 (by decide) ?_
            refine ep_goto (tgt := 74) d_M_readId_70 (by decide) ?_
            refine ep_cg (y := bI (decide (¬ smP (pk L s)))) (bd1 (fun u => u.1 c59)) ?_
            exact k74
          · refine ep_iload (j := 4) d_M_readId_62 rfl ?_
            refine ep_bipush (v := 122) d_M_readId_64 (by decide) ?_
            refine ep_icmp_le (tgt := 73) d_M_readId_66 (by decide) (fun c66 => ?_) (fun c66 => ?_)
            · refine ep_iconst (v := 0) d_M_readId_73 (by decide) ?_
              refine ep_cg (y := bI (decide (¬ smP (pk L s)))) (bd0 (fun u => u ⟨c59, Int32.not_lt.mpr c66⟩)) ?_
              exact k74
            · refine ep_iconst (v := 1) d_M_readId_69 (by decide) ?_
              refine ep_goto (tgt := 74) d_M_readId_70 (by decide) ?_
              refine ep_cg (y := bI (decide (¬ smP (pk L s)))) (bd1 (fun u => u.2 (Int32.not_le.mp c66))) ?_
              exact k74
    · refine ep_iload_n (j := 3) d_M_readId_36 rfl rfl ?_
      refine ep_iload_n (j := 1) d_M_readId_37 rfl rfl ?_
      refine ep_icmp_ge (tgt := 102) d_M_readId_38 (by decide) (fun z => absurd z hlt) (fun _ => ?_)
      refine ep_aload_n (j := 0) d_M_readId_41 rfl rfl ?_
      refine ep_getf (fi := 24) (v := .int (bI s.wr)) d_M_readId_42 cl5 lf_M_171 (by decide) rfl (congrArg (fun z => some (Value.int z)) hd.w) ?_
      refine ep_if_ne (tgt := 102) d_M_readId_45 (by decide) (fun c45 => ?_) (fun c45 => ?_)
      · refine ep_iload_n (j := 2) d_M_readId_102 rfl rfl ?_
        exact ep_iret d_M_readId_103 rfl rfl (MP_ok (by rw [show mLets L (r + 1) v s = (v, s) from if_pos (bI_t c45)]) (by rw [show mLets L (r + 1) v s = (v, s) from if_pos (bI_t c45)]) hd)
      · refine ep_aload_n (j := 0) d_M_readId_48 rfl rfl ?_
        refine ep_callVi (As := []) (st := []) d_M_readId_49 lk_M_174 cal_M_peek tm_M_peek ts_M_peek rfl rfl rfl (Nat.le_of_ble_eq_true rfl) (Nat.le_of_ble_eq_true rfl) rfl rfl (M_peek hd (by have := hb (bI_n c45); omega)) ?_
        refine ep_istore (lv' := [(0, .ref 16), (1, .int nv), (2, .int v), (3, .int (nI i)), (4, .int (pk L s))]) [1, 2, 3, 4, 0] d_M_readId_52 (by decide) rfl ?_
        refine ep_aload_n (j := 0) d_M_readId_54 rfl rfl ?_
        refine ep_join (pc2 := 74) (lv2 := [(0, .ref 16), (1, .int nv), (2, .int v), (3, .int (nI i)), (4, .int (pk L s))]) (st2 := [.int (bI (decide (¬ smP (pk L s)))), .ref 16]) ?_ (fun k74 => ?_)
        · refine ep_putf' (fi := 24) (h2 := HC X cI cA (upd rI 24 (bI (decide (¬ smP (pk L s))))) rA ol J) d_M_readId_74 cl5 lf_M_171 (by decide) (Or.inl rfl) (bI_f _) rfl hI_16_24 ?_
          have hd1 : MD L S ct (upd rI 24 (bI (decide (¬ smP (pk L s))))) rA (mWr s (decide (¬ smP (pk L s)))) := hd.sw (q := (decide (¬ smP (pk L s)))) rfl
          generalize upd rI 24 (bI (decide (¬ smP (pk L s)))) = rI1 at hd1 ⊢
          refine ep_sipush (v := 256) d_M_readId_77 (by decide) ?_
          refine ep_iload_n (j := 2) d_M_readId_80 rfl rfl ?_
          refine ep_imul d_M_readId_81 ?_
          refine ep_iload (j := 4) d_M_readId_82 rfl ?_
          refine ep_iadd d_M_readId_84 ?_
          refine ep_istore_n (lv' := [(0, .ref 16), (1, .int nv), (2, .int ((256 * v) + (pk L s))), (3, .int (nI i)), (4, .int (pk L s))]) [1, 2, 0, 3, 4] d_M_readId_85 rfl (by decide) rfl ?_
          refine ep_aload_n (j := 0) d_M_readId_86 rfl rfl ?_
          refine ep_dup d_M_readId_87 rfl ?_
          refine ep_getf (fi := 23) (v := .int (nI (mWr s (decide (¬ smP (pk L s)))).p)) d_M_readId_88 cl5 lf_M_168 (by decide) rfl (congrArg (fun z => some (Value.int z)) hd1.p) ?_
          refine ep_iconst (v := 1) d_M_readId_91 (by decide) ?_
          refine ep_iadd d_M_readId_92 ?_
          refine ep_putf' (fi := 23) (h2 := HC X cI cA (upd rI1 23 ((nI (mWr s (decide (¬ smP (pk L s)))).p) + 1)) rA ol J) d_M_readId_93 cl5 lf_M_168 (by decide) (Or.inl rfl) rfl rfl hI_16_23 ?_
          have hd2 : MD L S ct (upd rI1 23 ((nI (mWr s (decide (¬ smP (pk L s)))).p) + 1)) rA (mAv (mWr s (decide (¬ smP (pk L s)))) 1) := hd1.sp (q := ((mWr s (decide (¬ smP (pk L s)))).p + 1)) (nI_1 _)
          generalize upd rI1 23 ((nI (mWr s (decide (¬ smP (pk L s)))).p) + 1) = rI2 at hd2 ⊢
          refine ep_iinc (v := (nI (i + 1))) (j := 3) (lv' := [(0, .ref 16), (1, .int nv), (2, .int ((256 * v) + (pk L s))), (3, .int (nI (i + 1))), (4, .int (pk L s))]) [1, 2, 3, 0, 4] d_M_readId_96 rfl (nI_1 _) (by decide) rfl ?_
          refine ep_goto (tgt := 36) d_M_readId_99 (by decide) ?_
          rw [show mLets L (r + 1) v s = mLets L r (256 * v + pk L s) (mAv (mWr s (decide (¬ smP (pk L s)))) 1) from if_neg (by rw [bI_n c45]; decide)]
          exact ih (i + 1) _ _ (Or.inl ⟨by rw [hr.1]; exact congrArg nI (by omega), by have := hr.2; omega⟩) hd2 (fun _ => by have := hb (bI_n c45); show s.p + 1 + r ≤ 400; omega) (Or.inr ⟨_, rfl⟩)
        · refine ep_iload (j := 4) d_M_readId_55 rfl ?_
          refine ep_bipush (v := 97) d_M_readId_57 (by decide) ?_
          refine ep_icmp_lt (tgt := 69) d_M_readId_59 (by decide) (fun c59 => ?_) (fun c59 => ?_)
          · refine ep_iconst (v := 1) d_M_readId_69 (by decide) ?_
            refine ep_goto (tgt := 74) d_M_readId_70 (by decide) ?_
            refine ep_cg (y := bI (decide (¬ smP (pk L s)))) (bd1 (fun u => u.1 c59)) ?_
            exact k74
          · refine ep_iload (j := 4) d_M_readId_62 rfl ?_
            refine ep_bipush (v := 122) d_M_readId_64 (by decide) ?_
            refine ep_icmp_le (tgt := 73) d_M_readId_66 (by decide) (fun c66 => ?_) (fun c66 => ?_)
            · refine ep_iconst (v := 0) d_M_readId_73 (by decide) ?_
              refine ep_cg (y := bI (decide (¬ smP (pk L s)))) (bd0 (fun u => u ⟨c59, Int32.not_lt.mpr c66⟩)) ?_
              exact k74
            · refine ep_iconst (v := 1) d_M_readId_69 (by decide) ?_
              refine ep_goto (tgt := 74) d_M_readId_70 (by decide) ?_
              refine ep_cg (y := bI (decide (¬ smP (pk L s)))) (bd1 (fun u => u.2 (Int32.not_le.mp c66))) ?_
              exact k74
theorem id_rng (x : Int32) : (x < 0 ∧ x.toNatClampNeg = 0) ∨ (x = nI x.toNatClampNeg ∧ x.toNatClampNeg < 2 ^ 31) := by
  by_cases h : x < 0
  · refine Or.inl ⟨h, ?_⟩
    have := i_lt.mp h
    rw [show (0 : Int32).toInt = 0 from by decide] at this
    show x.toInt.toNat = 0
    omega
  · obtain ⟨j, hj, rfl⟩ := nI_of h
    exact Or.inr (by rw [nI_clamp hj]; exact ⟨rfl, hj⟩)
set_option maxHeartbeats 4000000 in
set_option maxRecDepth 100000 in
theorem M_readId (hd : MD L S ct rI rA s) (hp0 : s.p ≤ 200) : EvP m_M_readId (d + 2) 0 [(0, .ref 16)] [] (HC X cI cA rI rA ol J) (MPi X cI cA ol J L S ct (mId L s)) := by
  refine ep_aload_n (j := 0) d_M_readId_0 rfl rfl ?_
  refine ep_iconst (v := 1) d_M_readId_1 (by decide) ?_
  refine ep_cg (y := nI 1) (by decide) ?_
  refine ep_callVm (As := [.int (nI 1)]) (st := []) d_M_readId_2 lk_M_181 cal_M_readNumber tm_M_readNumber ts_M_readNumber rfl rfl rfl (Nat.le_of_ble_eq_true rfl) (Nat.le_of_ble_eq_true rfl) rfl rfl (M_readNumber (m := 1) (by decide) hd (by omega)) (fun rI1 rA1 hd1 => ?_)
  refine ep_istore_n (lv' := [(0, .ref 16), (1, .int ((mNum L 1 s).1))]) [1, 0] d_M_readId_5 rfl (by decide) rfl ?_
  refine ep_aload_n (j := 0) d_M_readId_6 rfl rfl ?_
  refine ep_join (pc2 := 29) (lv2 := [(0, .ref 16), (1, .int ((mNum L 1 s).1))]) (st2 := [.int (bI ((mNum L 1 s).2.wr || decide ((mNum L 1 s).1 < 1 ∨ 3 < (mNum L 1 s).1))), .ref 16]) ?_ (fun k29 => ?_)
  · refine ep_putf' (fi := 24) (h2 := HC X cI cA (upd rI1 24 (bI ((mNum L 1 s).2.wr || decide ((mNum L 1 s).1 < 1 ∨ 3 < (mNum L 1 s).1)))) rA1 ol J) d_M_readId_29 cl5 lf_M_171 (by decide) (Or.inl rfl) (bI_f _) rfl hI_16_24 ?_
    have hd2 : MD L S ct (upd rI1 24 (bI ((mNum L 1 s).2.wr || decide ((mNum L 1 s).1 < 1 ∨ 3 < (mNum L 1 s).1)))) rA1 (mOr (mNum L 1 s).2 (decide ((mNum L 1 s).1 < 1 ∨ 3 < (mNum L 1 s).1))) := hd1.sw (q := ((mNum L 1 s).2.wr || decide ((mNum L 1 s).1 < 1 ∨ 3 < (mNum L 1 s).1))) rfl
    generalize upd rI1 24 (bI ((mNum L 1 s).2.wr || decide ((mNum L 1 s).1 < 1 ∨ 3 < (mNum L 1 s).1))) = rI2 at hd2 ⊢
    refine ep_iconst (v := 0) d_M_readId_32 (by decide) ?_
    refine ep_istore_n (lv' := [(0, .ref 16), (1, .int ((mNum L 1 s).1)), (2, .int 0)]) [1, 2, 0] d_M_readId_33 rfl (by decide) rfl ?_
    refine ep_iconst (v := 0) d_M_readId_34 (by decide) ?_
    refine ep_istore_n (lv' := [(0, .ref 16), (1, .int ((mNum L 1 s).1)), (2, .int 0), (3, .int 0)]) [1, 2, 3, 0] d_M_readId_35 rfl (by decide) rfl ?_
    have hn := id_rng (mNum L 1 s).1
    refine M_rid_l _ 0 0 _ ?_ hd2 (fun hw => ?_) (Or.inl (by rw [nI_0]))
    · rcases hn with hn | hn
      · exact Or.inr ⟨hn.1, hn.2, by decide⟩
      · exact Or.inl ⟨by rw [Nat.zero_add]; exact hn.1, by rw [Nat.zero_add]; exact hn.2⟩
    · have hw2 : decide ((mNum L 1 s).1 < 1 ∨ 3 < (mNum L 1 s).1) = false := by
        have : ((mNum L 1 s).2.wr || decide ((mNum L 1 s).1 < 1 ∨ 3 < (mNum L 1 s).1)) = false := hw
        exact (Bool.or_eq_false_iff.mp this).2
      have hw2 := of_decide_eq_false hw2
      obtain ⟨k, hk, hk3⟩ := id_len hw2
      show s.p + (dgs L 10 s.p).length + _ ≤ 400
      have := dgs_len L 10 s.p
      have := hd.l1
      rw [hk]; omega
  · refine ep_aload_n (j := 0) d_M_readId_7 rfl rfl ?_
    refine ep_getf (fi := 24) (v := .int (bI ((mNum L 1 s).2).wr)) d_M_readId_8 cl5 lf_M_171 (by decide) rfl (congrArg (fun z => some (Value.int z)) hd1.w) ?_
    refine ep_if_ne (tgt := 24) d_M_readId_11 (by decide) (fun c11 => ?_) (fun c11 => ?_)
    · refine ep_iconst (v := 1) d_M_readId_24 (by decide) ?_
      refine ep_goto (tgt := 29) d_M_readId_25 (by decide) ?_
      refine ep_cg (y := bI ((mNum L 1 s).2.wr || decide ((mNum L 1 s).1 < 1 ∨ 3 < (mNum L 1 s).1))) (bor1 c11) ?_
      exact k29
    · refine ep_iload_n (j := 1) d_M_readId_14 rfl rfl ?_
      refine ep_iconst (v := 1) d_M_readId_15 (by decide) ?_
      refine ep_icmp_lt (tgt := 24) d_M_readId_16 (by decide) (fun c16 => ?_) (fun c16 => ?_)
      · refine ep_iconst (v := 1) d_M_readId_24 (by decide) ?_
        refine ep_goto (tgt := 29) d_M_readId_25 (by decide) ?_
        refine ep_cg (y := bI ((mNum L 1 s).2.wr || decide ((mNum L 1 s).1 < 1 ∨ 3 < (mNum L 1 s).1))) (bor2 c11 (decide_eq_true (Or.inl c16))) ?_
        exact k29
      · refine ep_iload_n (j := 1) d_M_readId_19 rfl rfl ?_
        refine ep_iconst (v := 3) d_M_readId_20 (by decide) ?_
        refine ep_icmp_le (tgt := 28) d_M_readId_21 (by decide) (fun c21 => ?_) (fun c21 => ?_)
        · refine ep_iconst (v := 0) d_M_readId_28 (by decide) ?_
          refine ep_cg (y := bI ((mNum L 1 s).2.wr || decide ((mNum L 1 s).1 < 1 ∨ 3 < (mNum L 1 s).1))) (bor0 c11 (decide_eq_false (fun u => u.elim c16 (fun v => absurd v (Int32.not_lt.mpr c21))))) ?_
          exact k29
        · refine ep_iconst (v := 1) d_M_readId_24 (by decide) ?_
          refine ep_goto (tgt := 29) d_M_readId_25 (by decide) ?_
          refine ep_cg (y := bI ((mNum L 1 s).2.wr || decide ((mNum L 1 s).1 < 1 ∨ 3 < (mNum L 1 s).1))) (bor2 c11 (decide_eq_true (Or.inr (Int32.not_le.mp c21)))) ?_
          exact k29
set_option maxHeartbeats 4000000 in
set_option maxRecDepth 100000 in
theorem M_rt_e {i b : Nat} (hi : i ≤ 1000) {v g : Int32} (hv : v = nI b) (hb : b < 100000) (hd : MD L S ct rI rA s) (hp0 : s.p ≤ 900) (he : s.E.length ≤ 310) : EvP m_M_readTold (d + 2) 63 [(0, .ref 16), (1, .int v), (2, .int (nI i)), (3, .int g)] [] (HC X cI cA rI rA ol J) (MP X cI cA ol J L S ct (some (.int (if (mOr (mEx L 95 s) (decide ((1 < i ∧ g = 48) ∨ 3 < i ∨ nI (mEx L 95 s).E.length ≤ (if i = 0 then 0 else v + 1)))).wr = true then 0 else s.E.getD (if i = 0 then 0 else v + 1).toNatClampNeg 0))) (mOr (mEx L 95 s) (decide ((1 < i ∧ g = 48) ∨ 3 < i ∨ nI (mEx L 95 s).E.length ≤ (if i = 0 then 0 else v + 1))))) := by
  refine ep_aload_n (j := 0) d_M_readTold_63 rfl rfl ?_
  refine ep_bipush (v := 95) d_M_readTold_64 (by decide) ?_
  refine ep_callVm (As := [.int 95]) (st := []) d_M_readTold_66 lk_M_184 cal_M_expect tm_M_expect ts_M_expect rfl rfl rfl (Nat.le_of_ble_eq_true rfl) (Nat.le_of_ble_eq_true rfl) rfl rfl (M_expect hd (by omega) 95) (fun rI1 rA1 hd1 => ?_)
  refine ep_join (pc2 := 80) (lv2 := [(0, .ref 16), (1, .int v), (2, .int (nI i)), (3, .int g)]) (st2 := [.int (if i = 0 then 0 else v + 1)]) ?_ (fun k80 => ?_)
  · refine ep_istore (lv' := [(0, .ref 16), (1, .int v), (2, .int (nI i)), (3, .int g), (4, .int (if i = 0 then 0 else v + 1))]) [1, 2, 3, 4, 0] d_M_readTold_80 (by decide) rfl ?_
    refine ep_aload_n (j := 0) d_M_readTold_82 rfl rfl ?_
    refine ep_join (pc2 := 120) (lv2 := [(0, .ref 16), (1, .int v), (2, .int (nI i)), (3, .int g), (4, .int (if i = 0 then 0 else v + 1))]) (st2 := [.int (bI ((mEx L 95 s).wr || decide ((1 < i ∧ g = 48) ∨ 3 < i ∨ nI (mEx L 95 s).E.length ≤ (if i = 0 then 0 else v + 1)))), .ref 16]) ?_ (fun k120 => ?_)
    · refine ep_putf' (fi := 24) (h2 := HC X cI cA (upd rI1 24 (bI ((mEx L 95 s).wr || decide ((1 < i ∧ g = 48) ∨ 3 < i ∨ nI (mEx L 95 s).E.length ≤ (if i = 0 then 0 else v + 1))))) rA1 ol J) d_M_readTold_120 cl5 lf_M_171 (by decide) (Or.inl rfl) (bI_f _) rfl hI_16_24 ?_
      have hd2 : MD L S ct (upd rI1 24 (bI ((mEx L 95 s).wr || decide ((1 < i ∧ g = 48) ∨ 3 < i ∨ nI (mEx L 95 s).E.length ≤ (if i = 0 then 0 else v + 1))))) rA1 (mOr (mEx L 95 s) (decide ((1 < i ∧ g = 48) ∨ 3 < i ∨ nI (mEx L 95 s).E.length ≤ (if i = 0 then 0 else v + 1)))) := hd1.sw (q := ((mEx L 95 s).wr || decide ((1 < i ∧ g = 48) ∨ 3 < i ∨ nI (mEx L 95 s).E.length ≤ (if i = 0 then 0 else v + 1)))) rfl
      generalize upd rI1 24 (bI ((mEx L 95 s).wr || decide ((1 < i ∧ g = 48) ∨ 3 < i ∨ nI (mEx L 95 s).E.length ≤ (if i = 0 then 0 else v + 1)))) = rI2 at hd2 ⊢
      refine ep_join (pc2 := 141) (lv2 := [(0, .ref 16), (1, .int v), (2, .int (nI i)), (3, .int g), (4, .int (if i = 0 then 0 else v + 1))]) (st2 := [.int (if (mOr (mEx L 95 s) (decide ((1 < i ∧ g = 48) ∨ 3 < i ∨ nI (mEx L 95 s).E.length ≤ (if i = 0 then 0 else v + 1)))).wr = true then 0 else s.E.getD (if i = 0 then 0 else v + 1).toNatClampNeg 0)]) ?_ (fun k141 => ?_)
      · exact ep_iret d_M_readTold_141 rfl rfl (MP_ok rfl rfl hd2)
      · refine ep_aload_n (j := 0) d_M_readTold_123 rfl rfl ?_
        refine ep_getf (fi := 24) (v := .int (bI (mOr (mEx L 95 s) (decide ((1 < i ∧ g = 48) ∨ 3 < i ∨ nI (mEx L 95 s).E.length ≤ (if i = 0 then 0 else v + 1)))).wr)) d_M_readTold_124 cl5 lf_M_171 (by decide) rfl (congrArg (fun z => some (Value.int z)) hd2.w) ?_
        refine ep_if_eq (tgt := 134) d_M_readTold_127 (by decide) (fun c127 => ?_) (fun c127 => ?_)
        · have hw : (mOr (mEx L 95 s) (decide ((1 < i ∧ g = 48) ∨ 3 < i ∨ nI (mEx L 95 s).E.length ≤ (if i = 0 then 0 else v + 1)))).wr = false := bI_n c127
          have hw2 := of_decide_eq_false (Bool.or_eq_false_iff.mp hw).2
          obtain ⟨p, hp, ep⟩ : ∃ p : Nat, p < 200000 ∧ (if i = 0 then 0 else v + 1) = nI p := by
            by_cases q : i = 0
            · exact ⟨0, by omega, by rw [if_pos q, nI_0]⟩
            · exact ⟨b + 1, by omega, by rw [if_neg q, hv, nI_1]⟩
          have hpe : p < s.E.length := by
            have : ¬ nI s.E.length ≤ (if i = 0 then 0 else v + 1) := fun u => hw2 (Or.inr (Or.inr u))
            rw [ep, nI_leI (by omega) (by omega)] at this
            omega
          have hE : ∀ _ : bI (mOr (mEx L 95 s) (decide ((1 < i ∧ g = 48) ∨ 3 < i ∨ nI (mEx L 95 s).E.length ≤ (if i = 0 then 0 else v + 1)))).wr = 0, rA1 17 p = if (mOr (mEx L 95 s) (decide ((1 < i ∧ g = 48) ∨ 3 < i ∨ nI (mEx L 95 s).E.length ≤ (if i = 0 then 0 else v + 1)))).wr = true then 0 else s.E.getD (if i = 0 then 0 else v + 1).toNatClampNeg 0 := fun _ => by
            rw [if_neg (by rw [hw]; decide), ep, nI_clamp (by omega), List.getD_eq_getElem?_getD]
            have h1 := rowL_at (f := rA1 17) hpe
            have h2 : s.E = rowL (rA1 17) s.E.length := hd2.el
            rw [← h2] at h1
            rw [h1]; rfl
          refine ep_aload_n (j := 0) d_M_readTold_134 rfl rfl ?_
          refine ep_getf (fi := 17) (v := .ref 26) d_M_readTold_135 cl5 lf_M_37 (by decide) rfl rfl ?_
          refine ep_iload (j := 4) d_M_readTold_138 rfl ?_
          refine ep_iald (f := rA1 17) p d_M_readTold_140 rfl ep (by omega) (by decide) ?_
          refine ep_cg (y := if (mOr (mEx L 95 s) (decide ((1 < i ∧ g = 48) ∨ 3 < i ∨ nI (mEx L 95 s).E.length ≤ (if i = 0 then 0 else v + 1)))).wr = true then 0 else s.E.getD (if i = 0 then 0 else v + 1).toNatClampNeg 0) (hE c127) ?_
          exact k141
        · refine ep_iconst (v := 0) d_M_readTold_130 (by decide) ?_
          refine ep_goto (tgt := 141) d_M_readTold_131 (by decide) ?_
          refine ep_cg (y := if (mOr (mEx L 95 s) (decide ((1 < i ∧ g = 48) ∨ 3 < i ∨ nI (mEx L 95 s).E.length ≤ (if i = 0 then 0 else v + 1)))).wr = true then 0 else s.E.getD (if i = 0 then 0 else v + 1).toNatClampNeg 0) ((if_pos (bI_t c127)).symm) ?_
          exact k141
    · refine ep_aload_n (j := 0) d_M_readTold_83 rfl rfl ?_
      refine ep_getf (fi := 24) (v := .int (bI (mEx L 95 s).wr)) d_M_readTold_84 cl5 lf_M_171 (by decide) rfl (congrArg (fun z => some (Value.int z)) hd1.w) ?_
      refine ep_if_ne (tgt := 115) d_M_readTold_87 (by decide) (fun c87 => ?_) (fun c87 => ?_)
      · refine ep_iconst (v := 1) d_M_readTold_115 (by decide) ?_
        refine ep_goto (tgt := 120) d_M_readTold_116 (by decide) ?_
        refine ep_cg (y := bI ((mEx L 95 s).wr || decide ((1 < i ∧ g = 48) ∨ 3 < i ∨ nI (mEx L 95 s).E.length ≤ (if i = 0 then 0 else v + 1)))) (bor1 c87) ?_
        exact k120
      · refine ep_iload_n (j := 2) d_M_readTold_90 rfl rfl ?_
        refine ep_iconst (v := 1) d_M_readTold_91 (by decide) ?_
        refine ep_icmp_le (tgt := 101) d_M_readTold_92 (by decide) (fun c92 => ?_) (fun c92 => ?_)
        · refine ep_iload_n (j := 2) d_M_readTold_101 rfl rfl ?_
          refine ep_iconst (v := 3) d_M_readTold_102 (by decide) ?_
          refine ep_icmp_gt (tgt := 115) d_M_readTold_103 (by decide) (fun c103 => ?_) (fun c103 => ?_)
          · refine ep_iconst (v := 1) d_M_readTold_115 (by decide) ?_
            refine ep_goto (tgt := 120) d_M_readTold_116 (by decide) ?_
            refine ep_cg (y := bI ((mEx L 95 s).wr || decide ((1 < i ∧ g = 48) ∨ 3 < i ∨ nI (mEx L 95 s).E.length ≤ (if i = 0 then 0 else v + 1)))) (bor2 c87 (decide_eq_true (Or.inr (Or.inl (by rw [show (3 : Int32) = nI 3 from by decide] at c103; exact (nI_ltI (by omega) (by omega)).mp c103))))) ?_
            exact k120
          · refine ep_iload (j := 4) d_M_readTold_106 rfl ?_
            refine ep_aload_n (j := 0) d_M_readTold_108 rfl rfl ?_
            refine ep_getf (fi := 16) (v := .int (nI (mEx L 95 s).E.length)) d_M_readTold_109 cl5 lf_M_110 (by decide) rfl (congrArg (fun z => some (Value.int z)) hd1.ez) ?_
            refine ep_icmp_lt (tgt := 119) d_M_readTold_112 (by decide) (fun c112 => ?_) (fun c112 => ?_)
            · refine ep_iconst (v := 0) d_M_readTold_119 (by decide) ?_
              refine ep_cg (y := bI ((mEx L 95 s).wr || decide ((1 < i ∧ g = 48) ∨ 3 < i ∨ nI (mEx L 95 s).E.length ≤ (if i = 0 then 0 else v + 1)))) (bor0 c87 (decide_eq_false (fun u => u.elim (fun u => absurd (nI_lt u.1 (by omega)) (Int32.not_lt.mpr c92)) (fun u => u.elim (fun u => c103 (by rw [show (3 : Int32) = nI 3 from by decide]; exact nI_lt u (by omega))) (fun u => absurd c112 (Int32.not_lt.mpr u)))))) ?_
              exact k120
            · refine ep_iconst (v := 1) d_M_readTold_115 (by decide) ?_
              refine ep_goto (tgt := 120) d_M_readTold_116 (by decide) ?_
              refine ep_cg (y := bI ((mEx L 95 s).wr || decide ((1 < i ∧ g = 48) ∨ 3 < i ∨ nI (mEx L 95 s).E.length ≤ (if i = 0 then 0 else v + 1)))) (bor2 c87 (decide_eq_true (Or.inr (Or.inr (Int32.not_lt.mp c112))))) ?_
              exact k120
        · refine ep_iload_n (j := 3) d_M_readTold_95 rfl rfl ?_
          refine ep_bipush (v := 48) d_M_readTold_96 (by decide) ?_
          refine ep_icmp_eq (tgt := 115) d_M_readTold_98 (by decide) (fun c98 => ?_) (fun c98 => ?_)
          · refine ep_iconst (v := 1) d_M_readTold_115 (by decide) ?_
            refine ep_goto (tgt := 120) d_M_readTold_116 (by decide) ?_
            refine ep_cg (y := bI ((mEx L 95 s).wr || decide ((1 < i ∧ g = 48) ∨ 3 < i ∨ nI (mEx L 95 s).E.length ≤ (if i = 0 then 0 else v + 1)))) (bor2 c87 (decide_eq_true (Or.inl ⟨by rw [show (1 : Int32) = nI 1 from by decide, nI_leI (by omega) (by omega)] at c92; omega, c98⟩))) ?_
            exact k120
          · refine ep_iload_n (j := 2) d_M_readTold_101 rfl rfl ?_
            refine ep_iconst (v := 3) d_M_readTold_102 (by decide) ?_
            refine ep_icmp_gt (tgt := 115) d_M_readTold_103 (by decide) (fun c103 => ?_) (fun c103 => ?_)
            · refine ep_iconst (v := 1) d_M_readTold_115 (by decide) ?_
              refine ep_goto (tgt := 120) d_M_readTold_116 (by decide) ?_
              refine ep_cg (y := bI ((mEx L 95 s).wr || decide ((1 < i ∧ g = 48) ∨ 3 < i ∨ nI (mEx L 95 s).E.length ≤ (if i = 0 then 0 else v + 1)))) (bor2 c87 (decide_eq_true (Or.inr (Or.inl (by rw [show (3 : Int32) = nI 3 from by decide] at c103; exact (nI_ltI (by omega) (by omega)).mp c103))))) ?_
              exact k120
            · refine ep_iload (j := 4) d_M_readTold_106 rfl ?_
              refine ep_aload_n (j := 0) d_M_readTold_108 rfl rfl ?_
              refine ep_getf (fi := 16) (v := .int (nI (mEx L 95 s).E.length)) d_M_readTold_109 cl5 lf_M_110 (by decide) rfl (congrArg (fun z => some (Value.int z)) hd1.ez) ?_
              refine ep_icmp_lt (tgt := 119) d_M_readTold_112 (by decide) (fun c112 => ?_) (fun c112 => ?_)
              · refine ep_iconst (v := 0) d_M_readTold_119 (by decide) ?_
                refine ep_cg (y := bI ((mEx L 95 s).wr || decide ((1 < i ∧ g = 48) ∨ 3 < i ∨ nI (mEx L 95 s).E.length ≤ (if i = 0 then 0 else v + 1)))) (bor0 c87 (decide_eq_false (fun u => u.elim (fun u => c98 u.2) (fun u => u.elim (fun u => c103 (by rw [show (3 : Int32) = nI 3 from by decide]; exact nI_lt u (by omega))) (fun u => absurd c112 (Int32.not_lt.mpr u)))))) ?_
                exact k120
              · refine ep_iconst (v := 1) d_M_readTold_115 (by decide) ?_
                refine ep_goto (tgt := 120) d_M_readTold_116 (by decide) ?_
                refine ep_cg (y := bI ((mEx L 95 s).wr || decide ((1 < i ∧ g = 48) ∨ 3 < i ∨ nI (mEx L 95 s).E.length ≤ (if i = 0 then 0 else v + 1)))) (bor2 c87 (decide_eq_true (Or.inr (Or.inr (Int32.not_lt.mp c112))))) ?_
                exact k120
  · refine ep_iload_n (j := 2) d_M_readTold_69 rfl rfl ?_
    refine ep_if_ne (tgt := 77) d_M_readTold_70 (by decide) (fun c70 => ?_) (fun c70 => ?_)
    · refine ep_iload_n (j := 1) d_M_readTold_77 rfl rfl ?_
      refine ep_iconst (v := 1) d_M_readTold_78 (by decide) ?_
      refine ep_iadd d_M_readTold_79 ?_
      refine ep_cg (y := (if i = 0 then 0 else v + 1)) ((if_neg (fun u => c70 (by rw [u]; decide))).symm) ?_
      exact k80
    · refine ep_iconst (v := 0) d_M_readTold_73 (by decide) ?_
      refine ep_goto (tgt := 80) d_M_readTold_74 (by decide) ?_
      refine ep_cg (y := (if i = 0 then 0 else v + 1)) ((if_pos ((nI_eq (by omega) (by omega)).mp (c70.trans nI_0.symm))).symm) ?_
      exact k80
def rtW (L : List Int32) (i : Nat) (v g : Int32) (s : MS) : MS := mOr (mEx L 95 s) (decide ((1 < i ∧ g = 48) ∨ 3 < i ∨ nI (mEx L 95 s).E.length ≤ (if i = 0 then 0 else v + 1)))
def rtV (L : List Int32) (i : Nat) (v g : Int32) (s : MS) : Int32 := if (rtW L i v g s).wr = true then 0 else s.E.getD (if i = 0 then 0 else v + 1).toNatClampNeg 0
theorem mTold_rt (L : List Int32) (s : MS) : mTold L s = (rtV L (dgs L 36 (mEx L 83 s).p).length (vlD 36 0 ((dgs L 36 (mEx L 83 s).p).take 3)) (pk L (mEx L 83 s)) (mAv (mEx L 83 s) (dgs L 36 (mEx L 83 s).p).length), rtW L (dgs L 36 (mEx L 83 s).p).length (vlD 36 0 ((dgs L 36 (mEx L 83 s).p).take 3)) (pk L (mEx L 83 s)) (mAv (mEx L 83 s) (dgs L 36 (mEx L 83 s).p).length)) := rfl
theorem pow36 (i : Nat) : 36 ^ (min i 3) ≤ 46656 := by
  have : min i 3 = 0 ∨ min i 3 = 1 ∨ min i 3 = 2 ∨ min i 3 = 3 := by omega
  rcases this with h | h | h | h <;> rw [h] <;> decide
theorem v36_step {v c : Int32} {i b : Nat} (hv : v = nI b) (hb : b + 1 ≤ 36 ^ (min i 3)) (hc : ¬ digF c 36 = -1) : ∃ b', vlD 36 v ([c].take (3 - i)) = nI b' ∧ b' + 1 ≤ 36 ^ (min (i + 1) 3) := by
  by_cases h : 3 - i = 0
  · rw [h]
    exact ⟨b, hv, by rw [show min (i + 1) 3 = min i 3 from by omega]; exact hb⟩
  · obtain ⟨z, hz⟩ : ∃ z, 3 - i = z + 1 := ⟨3 - i - 1, by omega⟩
    obtain ⟨e, he, ee, _⟩ := dig36 hc
    refine ⟨b * 36 + e, ?_, ?_⟩
    · rw [hz, hv]
      show vlD 36 (nI b * 36 + digF c 36) ([].take z) = _
      rw [List.take_nil, vl_nI ee]; rfl
    · rw [show min (i + 1) 3 = min i 3 + 1 from by omega, Nat.pow_succ]
      have := Nat.mul_le_mul_right 36 hb
      omega
set_option maxHeartbeats 4000000 in
set_option maxRecDepth 100000 in
theorem M_rt_l {g : Int32} : ∀ (r : List Int32) (i : Nat) (v : Int32) (s : MS) {rI : Nat → Int32} {rA : Nat → Nat → Int32} {b : Nat}, MD L S ct rI rA s → dgs L 36 s.p = r → v = nI b → b + 1 ≤ 36 ^ (min i 3) → s.p ≤ 400 → s.E.length ≤ 310 → i + r.length ≤ 900 → EvP m_M_readTold (d + 2) 15 [(0, .ref 16), (1, .int v), (2, .int (nI i)), (3, .int g)] [] (HC X cI cA rI rA ol J) (MP X cI cA ol J L S ct (some (.int (rtV L (i + r.length) (vlD 36 v (r.take (3 - i))) g (mAv s r.length)))) (rtW L (i + r.length) (vlD 36 v (r.take (3 - i))) g (mAv s r.length))) := by
  intro r
  induction r with
  | nil =>
    intro i v s rI rA b hd hds hv hb hp0 he hi
    have hdg : digF (pk L s) 36 = -1 := dgs_n (b := 36) (by decide) hds
    refine ep_aload_n (j := 0) d_M_readTold_15 rfl rfl ?_
    refine ep_callVi (As := []) (st := []) d_M_readTold_16 lk_M_174 cal_M_peek tm_M_peek ts_M_peek rfl rfl rfl (Nat.le_of_ble_eq_true rfl) (Nat.le_of_ble_eq_true rfl) rfl rfl (M_peek hd (by omega)) ?_
    refine ep_callSi (As := [.int (pk L s)]) (st := []) d_M_readTold_19 (Or.inl lk_M_187) cal_M_value36 tm_M_value36 ti_M rfl (Nat.le_of_ble_eq_true rfl) (Nat.le_of_ble_eq_true rfl) rfl rfl (M_value36 (pk L s)) ?_
    refine ep_if_lt (tgt := 63) d_M_readTold_22 (by decide) (fun _ => ?_) (fun z => absurd (by rw [hdg]; decide) z)
    rw [List.take_nil]
    exact M_rt_e (i := i) (s := s) (by have : ([] : List Int32).length = 0 := rfl; omega) hv (by have := pow36 i; omega) hd (by omega) he
  | cons c r ih =>
    intro i v s rI rA b hd hds hv hb hp0 he hi
    simp only [List.length_cons] at hi
    obtain ⟨h1, h2, h3, h4⟩ := dgs_c hds
    have hnn : ¬ digF c 36 < 0 := by obtain ⟨e, he, ee, _⟩ := dig36 h3; rw [ee]; exact nI_pos (by omega)
    refine ep_aload_n (j := 0) d_M_readTold_15 rfl rfl ?_
    refine ep_callVi (As := []) (st := []) d_M_readTold_16 lk_M_174 cal_M_peek tm_M_peek ts_M_peek rfl rfl rfl (Nat.le_of_ble_eq_true rfl) (Nat.le_of_ble_eq_true rfl) rfl rfl (M_peek hd (by omega)) ?_
    refine ep_callSi (As := [.int (pk L s)]) (st := []) d_M_readTold_19 (Or.inl lk_M_187) cal_M_value36 tm_M_value36 ti_M rfl (Nat.le_of_ble_eq_true rfl) (Nat.le_of_ble_eq_true rfl) rfl rfl (M_value36 (pk L s)) ?_
    rw [h2]
    refine ep_if_lt (tgt := 63) d_M_readTold_22 (by decide) (fun z => absurd z hnn) (fun _ => ?_)
    refine ep_join (pc2 := 46) (lv2 := [(0, .ref 16), (1, .int v), (2, .int (nI i)), (3, .int g)]) (st2 := [.int (vlD 36 v ([c].take (3 - i)))]) ?_ (fun k46 => ?_)
    · refine ep_istore_n (lv' := [(0, .ref 16), (1, .int (vlD 36 v ([c].take (3 - i)))), (2, .int (nI i)), (3, .int g)]) [1, 0, 2, 3] d_M_readTold_46 rfl (by decide) rfl ?_
      refine ep_iinc (v := (nI (i + 1))) (j := 2) (lv' := [(0, .ref 16), (1, .int (vlD 36 v ([c].take (3 - i)))), (2, .int (nI (i + 1))), (3, .int g)]) [1, 2, 0, 3] d_M_readTold_47 rfl (nI_1 _) (by decide) rfl ?_
      refine ep_aload_n (j := 0) d_M_readTold_50 rfl rfl ?_
      refine ep_dup d_M_readTold_51 rfl ?_
      refine ep_getf (fi := 23) (v := .int (nI s.p)) d_M_readTold_52 cl5 lf_M_168 (by decide) rfl (congrArg (fun z => some (Value.int z)) hd.p) ?_
      refine ep_iconst (v := 1) d_M_readTold_55 (by decide) ?_
      refine ep_iadd d_M_readTold_56 ?_
      refine ep_putf' (fi := 23) (h2 := HC X cI cA (upd rI 23 ((nI s.p) + 1)) rA ol J) d_M_readTold_57 cl5 lf_M_168 (by decide) (Or.inl rfl) rfl rfl hI_16_23 ?_
      have hd1 : MD L S ct (upd rI 23 ((nI s.p) + 1)) rA (mAv s 1) := hd.sp (q := (s.p + 1)) (nI_1 _)
      generalize upd rI 23 ((nI s.p) + 1) = rI1 at hd1 ⊢
      refine ep_goto (tgt := 15) d_M_readTold_60 (by decide) ?_
      obtain ⟨b', hv', hb'⟩ := v36_step (c := c) hv hb h3
      have := ih (i + 1) (vlD 36 v ([c].take (3 - i))) (mAv s 1) hd1 h4 hv' hb' (by show s.p + 1 ≤ 400; have := hd.l1; omega) he (by omega)
      rw [show vlD 36 (vlD 36 v ([c].take (3 - i))) (r.take (3 - (i + 1))) = vlD 36 v ((c :: r).take (3 - i)) from vl_take c r v 3 i, show i + 1 + r.length = i + (c :: r).length from by simp; omega, show mAv (mAv s 1) r.length = mAv s (c :: r).length from congrArg (MS.u_p s) (show s.p + 1 + r.length = s.p + (r.length + 1) by omega)] at this
      exact this
    · refine ep_iload_n (j := 2) d_M_readTold_25 rfl rfl ?_
      refine ep_iconst (v := 3) d_M_readTold_26 (by decide) ?_
      refine ep_icmp_ge (tgt := 45) d_M_readTold_27 (by decide) (fun c27 => ?_) (fun c27 => ?_)
      · refine ep_iload_n (j := 1) d_M_readTold_45 rfl rfl ?_
        refine ep_cg (y := vlD 36 v ([c].take (3 - i))) (by have q : 3 - i = 0 := by {rw [show (3 : Int32) = nI 3 from by decide, nI_leI (by omega) (by omega)] at c27; omega}; rw [q]; rfl) ?_
        exact k46
      · refine ep_bipush (v := 36) d_M_readTold_30 (by decide) ?_
        refine ep_iload_n (j := 1) d_M_readTold_32 rfl rfl ?_
        refine ep_imul d_M_readTold_33 ?_
        refine ep_aload_n (j := 0) d_M_readTold_34 rfl rfl ?_
        refine ep_callVi (As := []) (st := [.int (36 * v)]) d_M_readTold_35 lk_M_174 cal_M_peek tm_M_peek ts_M_peek rfl rfl rfl (Nat.le_of_ble_eq_true rfl) (Nat.le_of_ble_eq_true rfl) rfl rfl (M_peek hd (by omega)) ?_
        refine ep_callSi (As := [.int (pk L s)]) (st := [.int (36 * v)]) d_M_readTold_38 (Or.inl lk_M_187) cal_M_value36 tm_M_value36 ti_M rfl (Nat.le_of_ble_eq_true rfl) (Nat.le_of_ble_eq_true rfl) rfl rfl (M_value36 (pk L s)) ?_
        rw [h2]
        refine ep_iadd d_M_readTold_41 ?_
        refine ep_goto (tgt := 46) d_M_readTold_42 (by decide) ?_
        refine ep_cg (y := vlD 36 v ([c].take (3 - i))) (by have q : ∃ z, 3 - i = z + 1 := ⟨3 - i - 1, by {rw [show (3 : Int32) = nI 3 from by decide, nI_leI (by omega) (by omega)] at c27; omega}⟩; obtain ⟨z, q⟩ := q; rw [q, Int32.mul_comm]; cases z <;> rfl) ?_
        exact k46
set_option maxHeartbeats 4000000 in
set_option maxRecDepth 100000 in
theorem M_readTold (hd : MD L S ct rI rA s) (hp0 : s.p ≤ 300) (he : s.E.length ≤ 310) : EvP m_M_readTold (d + 2) 0 [(0, .ref 16)] [] (HC X cI cA rI rA ol J) (MPi X cI cA ol J L S ct (mTold L s)) := by
  refine ep_aload_n (j := 0) d_M_readTold_0 rfl rfl ?_
  refine ep_bipush (v := 83) d_M_readTold_1 (by decide) ?_
  refine ep_callVm (As := [.int 83]) (st := []) d_M_readTold_3 lk_M_184 cal_M_expect tm_M_expect ts_M_expect rfl rfl rfl (Nat.le_of_ble_eq_true rfl) (Nat.le_of_ble_eq_true rfl) rfl rfl (M_expect hd (by omega) 83) (fun rI1 rA1 hd1 => ?_)
  refine ep_iconst (v := 0) d_M_readTold_6 (by decide) ?_
  refine ep_istore_n (lv' := [(0, .ref 16), (1, .int 0)]) [1, 0] d_M_readTold_7 rfl (by decide) rfl ?_
  refine ep_iconst (v := 0) d_M_readTold_8 (by decide) ?_
  refine ep_istore_n (lv' := [(0, .ref 16), (1, .int 0), (2, .int 0)]) [1, 2, 0] d_M_readTold_9 rfl (by decide) rfl ?_
  refine ep_aload_n (j := 0) d_M_readTold_10 rfl rfl ?_
  refine ep_callVi (As := []) (st := []) d_M_readTold_11 lk_M_174 cal_M_peek tm_M_peek ts_M_peek rfl rfl rfl (Nat.le_of_ble_eq_true rfl) (Nat.le_of_ble_eq_true rfl) rfl rfl (M_peek hd1 (by show s.p + 1 ≤ 1000; omega)) ?_
  refine ep_istore_n (lv' := [(0, .ref 16), (1, .int 0), (2, .int 0), (3, .int (pk L (mEx L 83 s)))]) [1, 2, 3, 0] d_M_readTold_14 rfl (by decide) rfl ?_
  rw [mTold_rt]
  have := M_rt_l (d := d) (X := X) (cI := cI) (cA := cA) (ol := ol) (J := J) (g := pk L (mEx L 83 s)) (dgs L 36 (mEx L 83 s).p) 0 0 (mEx L 83 s) (b := 0) hd1 rfl (by decide) (by decide) (by show s.p + 1 ≤ 400; omega) he (by have := dgs_len L 36 (mEx L 83 s).p; have := hd.l1; omega)
  rw [Nat.zero_add, Nat.sub_zero] at this
  exact this
end MS2
