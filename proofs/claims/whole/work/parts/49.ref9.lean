/-! the reference: readType; by program (wip/whole/gen49.py) -/
section MS7
variable {d : Nat} {X : Nat × (Nat → Int32)} {cI : Nat → Int32} {cA : Nat → Nat → Int32} {rI : Nat → Int32} {rA : Nat → Nat → Int32} {ol : Int64} {J : mH} {L S : List Int32} {ct : Nat} {s : MS}
theorem mLets_p (k : Nat) : ∀ (v : Int32) (s : MS), s.p ≤ L.length → (mLets L k v s).2.wr = false → (mLets L k v s).2.p ≤ L.length := by
  induction k with
  | zero => intro v s h _; exact h
  | succ k ih =>
    intro v s h hw
    by_cases q : s.wr = true
    · rw [show mLets L (k + 1) v s = (v, s) from if_pos q] at hw ⊢
      exact h
    · rw [show mLets L (k + 1) v s = mLets L k (256 * v + pk L s) (mAv (mWr s (decide (¬ smP (pk L s)))) 1) from if_neg q] at hw ⊢
      by_cases u : smP (pk L s)
      · refine ih _ _ ?_ hw
        show s.p + 1 ≤ L.length
        by_cases z : s.p < L.length
        · exact z
        · exfalso
          unfold pk at u
          rw [List.getD_eq_getElem?_getD, List.getElem?_eq_none (by omega)] at u
          exact absurd u.1 (by decide)
      · have := mLets_w (L := L) (k := k) (v := 256 * v + pk L s) (s := mAv (mWr s (decide (¬ smP (pk L s)))) 1) (decide_eq_true u)
        rw [this] at hw; cases hw
theorem mId_p (hp : s.p ≤ L.length) (h : (mId L s).2.wr = false) : (mId L s).2.p ≤ L.length := by
  refine mLets_p _ _ _ ?_ h
  show s.p + (dgs L 10 s.p).length ≤ L.length
  have := dgs_len L 10 s.p
  omega
theorem mTold_p (h : (mTold L s).2.wr = false) : (mTold L s).2.p ≤ L.length := by
  have h' : ((mEx L 95 (mAv (mEx L 83 s) (dgs L 36 (mEx L 83 s).p).length)).wr || decide _) = false := h
  have := ex_p (by decide) (Bool.or_eq_false_iff.mp h').1
  exact this
set_option maxHeartbeats 4000000 in
set_option maxRecDepth 100000 in
theorem M_ty_b (hd : MD L S ct rI rA s) (g : Gd L s) (hw : s.wr = false) (hB : 0 ≤ bolF (pk L s)) : EvP m_M_readType (d + 8) 0 [(0, .ref 16)] [] (HC X cI cA rI rA ol J) (MPi X cI cA ol J L S ct (mBi (bolF (pk L s)) (mAv s 1))) := by
  have hl := g.n
  have he := g.e
  have hk := g.k
  have hp := g.p
  have hL := g.l
  refine ep_aload_n (j := 0) d_M_readType_0 rfl rfl ?_
  refine ep_callVi (As := []) (st := []) d_M_readType_1 lk_M_174 cal_M_peek tm_M_peek ts_M_peek rfl rfl rfl (Nat.le_of_ble_eq_true rfl) (Nat.le_of_ble_eq_true rfl) rfl rfl (M_peek hd (by omega)) ?_
  refine ep_istore_n (lv' := [(0, .ref 16), (1, .int (pk L s))]) [1, 0] d_M_readType_4 rfl (by decide) rfl ?_
  refine ep_iload_n (j := 1) d_M_readType_5 rfl rfl ?_
  refine ep_callSi (As := [.int (pk L s)]) (st := []) d_M_readType_6 (Or.inl lk_M_193) cal_M_builtinOf tm_M_builtinOf ti_M rfl (Nat.le_of_ble_eq_true rfl) (Nat.le_of_ble_eq_true rfl) rfl rfl (M_builtinOf (pk L s)) ?_
  refine ep_istore_n (lv' := [(0, .ref 16), (1, .int (pk L s)), (2, .int (bolF (pk L s)))]) [1, 2, 0] d_M_readType_9 rfl (by decide) rfl ?_
  refine ep_iload_n (j := 2) d_M_readType_10 rfl rfl ?_
  refine ep_if_lt (tgt := 30) d_M_readType_11 (by decide) (fun z => absurd z (Int32.not_lt.mpr hB)) (fun _ => ?_)
  refine ep_aload_n (j := 0) d_M_readType_14 rfl rfl ?_
  refine ep_dup d_M_readType_15 rfl ?_
  refine ep_getf (fi := 23) (v := .int (nI s.p)) d_M_readType_16 cl5 lf_M_168 (by decide) rfl (congrArg (fun z => some (Value.int z)) hd.p) ?_
  refine ep_iconst (v := 1) d_M_readType_19 (by decide) ?_
  refine ep_iadd d_M_readType_20 ?_
  refine ep_putf' (fi := 23) (h2 := HC X cI cA (upd rI 23 ((nI s.p) + 1)) rA ol J) d_M_readType_21 cl5 lf_M_168 (by decide) (Or.inl rfl) rfl rfl hI_16_23 ?_
  have hd1 : MD L S ct (upd rI 23 ((nI s.p) + 1)) rA (mAv s 1) := hd.sp (q := (s.p + 1)) (nI_1 _)
  generalize upd rI 23 ((nI s.p) + 1) = rI1 at hd1 ⊢
  refine ep_aload_n (j := 0) d_M_readType_24 rfl rfl ?_
  refine ep_iload_n (j := 2) d_M_readType_25 rfl rfl ?_
  refine ep_callVm (As := [.int (bolF (pk L s))]) (st := []) d_M_readType_26 lk_M_196 cal_M_makeBuiltin tm_M_makeBuiltin ts_M_makeBuiltin rfl rfl rfl (Nat.le_of_ble_eq_true rfl) (Nat.le_of_ble_eq_true rfl) rfl rfl (M_makeBuiltin hd1 (by show s.N.length ≤ 300; omega) (bolF (pk L s))) (fun rI2 rA2 hd2 => ?_)
  exact ep_iret d_M_readType_29 rfl rfl (MP_ok rfl rfl hd2)
set_option maxHeartbeats 4000000 in
set_option maxRecDepth 100000 in
theorem M_ty_S (hd : MD L S ct rI rA s) (g : Gd L s) (hw : s.wr = false) (hB : ¬ 0 ≤ bolF (pk L s)) (hS : pk L s = 83) : EvP m_M_readType (d + 8) 0 [(0, .ref 16)] [] (HC X cI cA rI rA ol J) (MPi X cI cA ol J L S ct (mRS L (mTold L s))) := by
  have hl := g.n
  have he := g.e
  have hk := g.k
  have hp := g.p
  have hL := g.l
  refine ep_aload_n (j := 0) d_M_readType_0 rfl rfl ?_
  refine ep_callVi (As := []) (st := []) d_M_readType_1 lk_M_174 cal_M_peek tm_M_peek ts_M_peek rfl rfl rfl (Nat.le_of_ble_eq_true rfl) (Nat.le_of_ble_eq_true rfl) rfl rfl (M_peek hd (by omega)) ?_
  refine ep_istore_n (lv' := [(0, .ref 16), (1, .int (pk L s))]) [1, 0] d_M_readType_4 rfl (by decide) rfl ?_
  refine ep_iload_n (j := 1) d_M_readType_5 rfl rfl ?_
  refine ep_callSi (As := [.int (pk L s)]) (st := []) d_M_readType_6 (Or.inl lk_M_193) cal_M_builtinOf tm_M_builtinOf ti_M rfl (Nat.le_of_ble_eq_true rfl) (Nat.le_of_ble_eq_true rfl) rfl rfl (M_builtinOf (pk L s)) ?_
  refine ep_istore_n (lv' := [(0, .ref 16), (1, .int (pk L s)), (2, .int (bolF (pk L s)))]) [1, 2, 0] d_M_readType_9 rfl (by decide) rfl ?_
  refine ep_iload_n (j := 2) d_M_readType_10 rfl rfl ?_
  refine ep_if_lt (tgt := 30) d_M_readType_11 (by decide) (fun _ => ?_) (fun z => absurd (Int32.not_le.mp hB) z)
  refine ep_iload_n (j := 1) d_M_readType_30 rfl rfl ?_
  refine ep_bipush (v := 83) d_M_readType_31 (by decide) ?_
  refine ep_icmp_ne (tgt := 89) d_M_readType_33 (by decide) (fun z => absurd hS z) (fun _ => ?_)
  refine ep_aload_n (j := 0) d_M_readType_36 rfl rfl ?_
  refine ep_callVm (As := []) (st := []) d_M_readType_37 lk_M_199 cal_M_readTold tm_M_readTold ts_M_readTold rfl rfl rfl (Nat.le_of_ble_eq_true rfl) (Nat.le_of_ble_eq_true rfl) rfl rfl (M_readTold hd (by omega) (by omega)) (fun rI1 rA1 hd1 => ?_)
  generalize hz : mTold L s = z at hd1 ⊢
  have zp : z.2.p ≤ 400 := by rw [← hz]; have := mTold_pb (L := L) (s := s); omega
  have zK : z.2.K = s.K ∧ z.2.N = s.N ∧ z.2.E = s.E := by rw [← hz]; exact ⟨mTold_N.2.1, mTold_N.1, mTold_N.2.2.1⟩
  have zV : z.2.wr = false → Vd z.2.N z.1 := by rw [← hz, mTold_N.1]; exact fun hw => mTold_V g.v (by omega) hw
  have zq : z.2.wr = false → z.2.p ≤ L.length := by rw [← hz]; exact mTold_p
  refine ep_istore_n (lv' := [(0, .ref 16), (1, .int (pk L s)), (2, .int (bolF (pk L s))), (3, .int z.1)]) [1, 2, 3, 0] d_M_readType_40 rfl (by decide) rfl ?_
  refine ep_join (pc2 := 72) (lv2 := [(0, .ref 16), (1, .int (pk L s)), (2, .int (bolF (pk L s))), (3, .int z.1)]) (st2 := [.int (bI (decide (z.2.wr = false ∧ cN z.2.N z.1 0 = 1 ∧ pk L z.2 = 73)))]) ?_ (fun k72 => ?_)
  · refine ep_istore (lv' := [(0, .ref 16), (1, .int (pk L s)), (2, .int (bolF (pk L s))), (3, .int z.1), (4, .int (bI (decide (z.2.wr = false ∧ cN z.2.N z.1 0 = 1 ∧ pk L z.2 = 73))))]) [1, 2, 3, 4, 0] d_M_readType_72 (by decide) rfl ?_
    refine ep_iload (j := 4) d_M_readType_74 rfl ?_
    refine ep_if_eq (tgt := 87) d_M_readType_76 (by decide) (fun c76 => ?_) (fun c76 => ?_)
    · refine ep_iload_n (j := 3) d_M_readType_87 rfl rfl ?_
      exact ep_iret d_M_readType_88 rfl rfl (MP_ok (by unfold mRS; rw [if_neg (of_decide_eq_false (bI_n c76))]) (by unfold mRS; rw [if_neg (of_decide_eq_false (bI_n c76))]) hd1)
    · refine ep_aload_n (j := 0) d_M_readType_79 rfl rfl ?_
      refine ep_iload_n (j := 3) d_M_readType_80 rfl rfl ?_
      refine ep_callVm (As := [.int z.1]) (st := []) d_M_readType_81 lk_M_202 cal_M_beginArgs tm_M_beginArgs ts_M_beginArgs rfl rfl rfl (Nat.le_of_ble_eq_true rfl) (Nat.le_of_ble_eq_true rfl) rfl rfl (M_beginArgs hd1 (by have := zq (of_decide_eq_true (bI_t c76)).1; omega) (by rw [zK.1]; omega) (by rw [zK.2.1]; omega) (by rw [zK.2.2]; omega) z.1 (Or.inr (zV (of_decide_eq_true (bI_t c76)).1))) (fun rI2 rA2 hd2 => ?_)
      refine ep_goto (tgt := 88) d_M_readType_84 (by decide) ?_
      exact ep_iret d_M_readType_88 rfl rfl (MP_ok (by unfold mRS; rw [if_pos (of_decide_eq_true (bI_t c76))]) (by unfold mRS; rw [if_pos (of_decide_eq_true (bI_t c76))]) hd2)
  · refine ep_aload_n (j := 0) d_M_readType_41 rfl rfl ?_
    refine ep_getf (fi := 24) (v := .int (bI z.2.wr)) d_M_readType_42 cl5 lf_M_171 (by decide) rfl (congrArg (fun z => some (Value.int z)) hd1.w) ?_
    refine ep_if_ne (tgt := 71) d_M_readType_45 (by decide) (fun c45 => ?_) (fun c45 => ?_)
    · refine ep_iconst (v := 0) d_M_readType_71 (by decide) ?_
      refine ep_cg (y := bI (decide (z.2.wr = false ∧ cN z.2.N z.1 0 = 1 ∧ pk L z.2 = 73))) (bd0 (fun u => by have := bI_t c45; rw [u.1] at this; cases this)) ?_
      exact k72
    · refine ep_aload_n (j := 0) d_M_readType_48 rfl rfl ?_
      refine ep_getf (fi := 3) (v := .ref 17) d_M_readType_49 cl5 lf_M_7 (by decide) rfl rfl ?_
      refine ep_iload_n (j := 3) d_M_readType_52 rfl rfl ?_
      refine ep_kind (N := z.2.N) d_M_readType_53 hd1.n (by rw [zK.2.1]; omega) (zV (bI_n c45)) ?_
      refine ep_iconst (v := 1) d_M_readType_54 (by decide) ?_
      refine ep_icmp_ne (tgt := 71) d_M_readType_55 (by decide) (fun c55 => ?_) (fun c55 => ?_)
      · refine ep_iconst (v := 0) d_M_readType_71 (by decide) ?_
        refine ep_cg (y := bI (decide (z.2.wr = false ∧ cN z.2.N z.1 0 = 1 ∧ pk L z.2 = 73))) (bd0 (fun u => c55 u.2.1)) ?_
        exact k72
      · refine ep_aload_n (j := 0) d_M_readType_58 rfl rfl ?_
        refine ep_callVi (As := []) (st := []) d_M_readType_59 lk_M_174 cal_M_peek tm_M_peek ts_M_peek rfl rfl rfl (Nat.le_of_ble_eq_true rfl) (Nat.le_of_ble_eq_true rfl) rfl rfl (M_peek hd1 (by show z.2.p ≤ 1000; omega)) ?_
        refine ep_bipush (v := 73) d_M_readType_62 (by decide) ?_
        refine ep_icmp_ne (tgt := 71) d_M_readType_64 (by decide) (fun c64 => ?_) (fun c64 => ?_)
        · refine ep_iconst (v := 0) d_M_readType_71 (by decide) ?_
          refine ep_cg (y := bI (decide (z.2.wr = false ∧ cN z.2.N z.1 0 = 1 ∧ pk L z.2 = 73))) (bd0 (fun u => c64 u.2.2)) ?_
          exact k72
        · refine ep_iconst (v := 1) d_M_readType_67 (by decide) ?_
          refine ep_goto (tgt := 72) d_M_readType_68 (by decide) ?_
          refine ep_cg (y := bI (decide (z.2.wr = false ∧ cN z.2.N z.1 0 = 1 ∧ pk L z.2 = 73))) (bd1 ⟨bI_n c45, c55, c64⟩) ?_
          exact k72
set_option maxHeartbeats 4000000 in
set_option maxRecDepth 100000 in
theorem M_ty_D (hd : MD L S ct rI rA s) (g : Gd L s) (hw : s.wr = false) (hB : ¬ 0 ≤ bolF (pk L s)) (hS : ¬ pk L s = 83) (hD : dgP (pk L s)) : EvP m_M_readType (d + 8) 0 [(0, .ref 16)] [] (HC X cI cA rI rA ol J) (MPi X cI cA ol J L S ct (mRD L (eQ (mNm (mId L s).1 (mId L s).2)))) := by
  have hl := g.n
  have he := g.e
  have hk := g.k
  have hp := g.p
  have hL := g.l
  refine ep_aload_n (j := 0) d_M_readType_0 rfl rfl ?_
  refine ep_callVi (As := []) (st := []) d_M_readType_1 lk_M_174 cal_M_peek tm_M_peek ts_M_peek rfl rfl rfl (Nat.le_of_ble_eq_true rfl) (Nat.le_of_ble_eq_true rfl) rfl rfl (M_peek hd (by omega)) ?_
  refine ep_istore_n (lv' := [(0, .ref 16), (1, .int (pk L s))]) [1, 0] d_M_readType_4 rfl (by decide) rfl ?_
  refine ep_iload_n (j := 1) d_M_readType_5 rfl rfl ?_
  refine ep_callSi (As := [.int (pk L s)]) (st := []) d_M_readType_6 (Or.inl lk_M_193) cal_M_builtinOf tm_M_builtinOf ti_M rfl (Nat.le_of_ble_eq_true rfl) (Nat.le_of_ble_eq_true rfl) rfl rfl (M_builtinOf (pk L s)) ?_
  refine ep_istore_n (lv' := [(0, .ref 16), (1, .int (pk L s)), (2, .int (bolF (pk L s)))]) [1, 2, 0] d_M_readType_9 rfl (by decide) rfl ?_
  refine ep_iload_n (j := 2) d_M_readType_10 rfl rfl ?_
  refine ep_if_lt (tgt := 30) d_M_readType_11 (by decide) (fun _ => ?_) (fun z => absurd (Int32.not_le.mp hB) z)
  refine ep_iload_n (j := 1) d_M_readType_30 rfl rfl ?_
  refine ep_bipush (v := 83) d_M_readType_31 (by decide) ?_
  refine ep_icmp_ne (tgt := 89) d_M_readType_33 (by decide) (fun _ => ?_) (fun z => absurd z hS)
  refine ep_iload_n (j := 1) d_M_readType_89 rfl rfl ?_
  refine ep_callSi (As := [.int (pk L s)]) (st := []) d_M_readType_90 (Or.inl lk_M_178) cal_M_isDigit tm_M_isDigit ti_M rfl (Nat.le_of_ble_eq_true rfl) (Nat.le_of_ble_eq_true rfl) rfl rfl (M_isDigit (pk L s)) ?_
  rw [if_pos hD]
  refine ep_if_eq (tgt := 136) d_M_readType_93 (by decide) (fun z => absurd z (by decide)) (fun _ => ?_)
  refine ep_aload_n (j := 0) d_M_readType_96 rfl rfl ?_
  refine ep_aload_n (j := 0) d_M_readType_97 rfl rfl ?_
  refine ep_callVm (As := []) (st := [.ref 16]) d_M_readType_98 lk_M_205 cal_M_readId tm_M_readId ts_M_readId rfl rfl rfl (Nat.le_of_ble_eq_true rfl) (Nat.le_of_ble_eq_true rfl) rfl rfl (M_readId hd (by omega)) (fun rI1 rA1 hd1 => ?_)
  generalize hy : mId L s = y at hd1 ⊢
  have yN : y.2.N = s.N ∧ y.2.K = s.K ∧ y.2.E = s.E := by rw [← hy]; exact ⟨mId_N.1, mId_N.2.1, mId_N.2.2.1⟩
  have yp : y.2.p ≤ 400 := by rw [← hy]; have := mId_pb (L := L) (s := s); omega
  have yq : y.2.wr = false → y.2.p ≤ L.length := by rw [← hy]; exact mId_p hp
  refine ep_callVm (As := [.int y.1]) (st := []) d_M_readType_101 lk_M_208 cal_M_makeName tm_M_makeName ts_M_makeName rfl rfl rfl (Nat.le_of_ble_eq_true rfl) (Nat.le_of_ble_eq_true rfl) rfl rfl (M_makeName hd1 (by rw [yN.1]; omega) y.1) (fun rI2 rA2 hd2 => ?_)
  generalize hz : mNm y.1 y.2 = z at hd2 ⊢
  have zp : z.2.p = y.2.p := by rw [← hz]; exact mMk_p _ _ _ _ _ _ _ _
  have zK : z.2.K = s.K ∧ z.2.N.length ≤ s.N.length + 1 ∧ z.2.E = s.E := by rw [← hz]; refine ⟨(mMk_K _ _ _ _ _ _ _ _).trans yN.2.1, ?_, (mMk_E _ _ _ _ _ _ _ _).trans yN.2.2⟩; have := mMk_N 1 y.1 (-1) (-1) (-1) (-1) (-1) y.2; rw [yN.1] at this; exact this
  have zV : z.2.wr = false → Vd z.2.N z.1 ∧ z.2.p ≤ L.length := by rw [← hz]; intro hw; exact ⟨mMk_V _ _ _ _ _ _ _ _ hw, by rw [show (mNm y.1 y.2).2.p = y.2.p from mMk_p _ _ _ _ _ _ _ _]; exact yq (mMk_w' hw)⟩
  refine ep_istore_n (lv' := [(0, .ref 16), (1, .int (pk L s)), (2, .int (bolF (pk L s))), (3, .int z.1)]) [1, 2, 3, 0] d_M_readType_104 rfl (by decide) rfl ?_
  refine ep_aload_n (j := 0) d_M_readType_105 rfl rfl ?_
  refine ep_iload_n (j := 3) d_M_readType_106 rfl rfl ?_
  refine ep_callVm (As := [.int z.1]) (st := []) d_M_readType_107 lk_M_211 cal_M_enter tm_M_enter ts_M_enter rfl rfl rfl (Nat.le_of_ble_eq_true rfl) (Nat.le_of_ble_eq_true rfl) rfl rfl (M_enter hd2 (by rw [zK.2.2]; omega) z.1) (fun rI3 rA3 hd3 => ?_)
  refine ep_aload_n (j := 0) d_M_readType_110 rfl rfl ?_
  refine ep_callVi (As := []) (st := []) d_M_readType_111 lk_M_174 cal_M_peek tm_M_peek ts_M_peek rfl rfl rfl (Nat.le_of_ble_eq_true rfl) (Nat.le_of_ble_eq_true rfl) rfl rfl (M_peek hd3 (by show z.2.p ≤ 1000; omega)) ?_
  refine ep_bipush (v := 73) d_M_readType_114 (by decide) ?_
  refine ep_icmp_ne (tgt := 134) d_M_readType_116 (by decide) (fun c116 => ?_) (fun c116 => ?_)
  · refine ep_iload_n (j := 3) d_M_readType_134 rfl rfl ?_
    exact ep_iret d_M_readType_135 rfl rfl (MP_ok (by unfold mRD eQ; rw [if_neg (fun u => c116 u.1)]) (by unfold mRD eQ; rw [if_neg (fun u => c116 u.1)]) hd3)
  · refine ep_aload_n (j := 0) d_M_readType_119 rfl rfl ?_
    refine ep_getf (fi := 24) (v := .int (bI (mEn z.2 z.1).wr)) d_M_readType_120 cl5 lf_M_171 (by decide) rfl (congrArg (fun z => some (Value.int z)) hd3.w) ?_
    refine ep_if_ne (tgt := 134) d_M_readType_123 (by decide) (fun c123 => ?_) (fun c123 => ?_)
    · refine ep_iload_n (j := 3) d_M_readType_134 rfl rfl ?_
      exact ep_iret d_M_readType_135 rfl rfl (MP_ok (by unfold mRD eQ; rw [if_neg (fun u => by have := bI_t c123; have h2 : z.2.wr = false := u.2; rw [show (mEn z.2 z.1).wr = z.2.wr from rfl, h2] at this; cases this)]) (by unfold mRD eQ; rw [if_neg (fun u => by have := bI_t c123; have h2 : z.2.wr = false := u.2; rw [show (mEn z.2 z.1).wr = z.2.wr from rfl, h2] at this; cases this)]) hd3)
    · refine ep_aload_n (j := 0) d_M_readType_126 rfl rfl ?_
      refine ep_iload_n (j := 3) d_M_readType_127 rfl rfl ?_
      refine ep_callVm (As := [.int z.1]) (st := []) d_M_readType_128 lk_M_202 cal_M_beginArgs tm_M_beginArgs ts_M_beginArgs rfl rfl rfl (Nat.le_of_ble_eq_true rfl) (Nat.le_of_ble_eq_true rfl) rfl rfl (M_beginArgs hd3 (by show z.2.p ≤ 124; have := (zV (bI_n c123)).2; omega) (by show z.2.K.length ≤ 380; rw [zK.1]; omega) (by show z.2.N.length ≤ 280; omega) (by show (z.2.E ++ [z.1]).length ≤ 310; rw [zK.2.2]; simp; omega) z.1 (Or.inr (zV (bI_n c123)).1)) (fun rI4 rA4 hd4 => ?_)
      refine ep_goto (tgt := 135) d_M_readType_131 (by decide) ?_
      exact ep_iret d_M_readType_135 rfl rfl (MP_ok (by unfold mRD eQ; rw [if_pos ⟨c116, bI_n c123⟩]) (by unfold mRD eQ; rw [if_pos ⟨c116, bI_n c123⟩]) hd4)
set_option maxHeartbeats 4000000 in
set_option maxRecDepth 100000 in
theorem M_ty_A (hd : MD L S ct rI rA s) (g : Gd L s) (hw : s.wr = false) (hB : ¬ 0 ≤ bolF (pk L s)) (hS : ¬ pk L s = 83) (hD : ¬ dgP (pk L s)) (hN : ¬ pk L s = 78) (hA : pk L s = 65) : EvP m_M_readType (d + 8) 0 [(0, .ref 16)] [] (HC X cI cA rI rA ol J) (MPi X cI cA ol J L S ct (mRA L (mNum L 3 (mAv s 1)))) := by
  have hl := g.n
  have he := g.e
  have hk := g.k
  have hp := g.p
  have hL := g.l
  refine ep_aload_n (j := 0) d_M_readType_0 rfl rfl ?_
  refine ep_callVi (As := []) (st := []) d_M_readType_1 lk_M_174 cal_M_peek tm_M_peek ts_M_peek rfl rfl rfl (Nat.le_of_ble_eq_true rfl) (Nat.le_of_ble_eq_true rfl) rfl rfl (M_peek hd (by omega)) ?_
  refine ep_istore_n (lv' := [(0, .ref 16), (1, .int (pk L s))]) [1, 0] d_M_readType_4 rfl (by decide) rfl ?_
  refine ep_iload_n (j := 1) d_M_readType_5 rfl rfl ?_
  refine ep_callSi (As := [.int (pk L s)]) (st := []) d_M_readType_6 (Or.inl lk_M_193) cal_M_builtinOf tm_M_builtinOf ti_M rfl (Nat.le_of_ble_eq_true rfl) (Nat.le_of_ble_eq_true rfl) rfl rfl (M_builtinOf (pk L s)) ?_
  refine ep_istore_n (lv' := [(0, .ref 16), (1, .int (pk L s)), (2, .int (bolF (pk L s)))]) [1, 2, 0] d_M_readType_9 rfl (by decide) rfl ?_
  refine ep_iload_n (j := 2) d_M_readType_10 rfl rfl ?_
  refine ep_if_lt (tgt := 30) d_M_readType_11 (by decide) (fun _ => ?_) (fun z => absurd (Int32.not_le.mp hB) z)
  refine ep_iload_n (j := 1) d_M_readType_30 rfl rfl ?_
  refine ep_bipush (v := 83) d_M_readType_31 (by decide) ?_
  refine ep_icmp_ne (tgt := 89) d_M_readType_33 (by decide) (fun _ => ?_) (fun z => absurd z hS)
  refine ep_iload_n (j := 1) d_M_readType_89 rfl rfl ?_
  refine ep_callSi (As := [.int (pk L s)]) (st := []) d_M_readType_90 (Or.inl lk_M_178) cal_M_isDigit tm_M_isDigit ti_M rfl (Nat.le_of_ble_eq_true rfl) (Nat.le_of_ble_eq_true rfl) rfl rfl (M_isDigit (pk L s)) ?_
  rw [if_neg hD]
  refine ep_if_eq (tgt := 136) d_M_readType_93 (by decide) (fun _ => ?_) (fun z => absurd (by decide) z)
  refine ep_aload_n (j := 0) d_M_readType_136 rfl rfl ?_
  refine ep_dup d_M_readType_137 rfl ?_
  refine ep_getf (fi := 23) (v := .int (nI s.p)) d_M_readType_138 cl5 lf_M_168 (by decide) rfl (congrArg (fun z => some (Value.int z)) hd.p) ?_
  refine ep_iconst (v := 1) d_M_readType_141 (by decide) ?_
  refine ep_iadd d_M_readType_142 ?_
  refine ep_putf' (fi := 23) (h2 := HC X cI cA (upd rI 23 ((nI s.p) + 1)) rA ol J) d_M_readType_143 cl5 lf_M_168 (by decide) (Or.inl rfl) rfl rfl hI_16_23 ?_
  have hd1 : MD L S ct (upd rI 23 ((nI s.p) + 1)) rA (mAv s 1) := hd.sp (q := (s.p + 1)) (nI_1 _)
  generalize upd rI 23 ((nI s.p) + 1) = rI1 at hd1 ⊢
  refine ep_iload_n (j := 1) d_M_readType_146 rfl rfl ?_
  refine ep_bipush (v := 78) d_M_readType_147 (by decide) ?_
  refine ep_icmp_ne (tgt := 157) d_M_readType_149 (by decide) (fun _ => ?_) (fun z => absurd z hN)
  refine ep_iload_n (j := 1) d_M_readType_157 rfl rfl ?_
  refine ep_bipush (v := 65) d_M_readType_158 (by decide) ?_
  refine ep_icmp_ne (tgt := 207) d_M_readType_160 (by decide) (fun z => absurd hA z) (fun _ => ?_)
  refine ep_aload_n (j := 0) d_M_readType_163 rfl rfl ?_
  refine ep_iconst (v := 3) d_M_readType_164 (by decide) ?_
  refine ep_cg (y := nI 3) (by decide) ?_
  refine ep_callVm (As := [.int (nI 3)]) (st := []) d_M_readType_165 lk_M_181 cal_M_readNumber tm_M_readNumber ts_M_readNumber rfl rfl rfl (Nat.le_of_ble_eq_true rfl) (Nat.le_of_ble_eq_true rfl) rfl rfl (M_readNumber (m := 3) (by decide) hd1 (by show s.p + 1 ≤ 400; omega)) (fun rI2 rA2 hd2 => ?_)
  generalize hz : mNum L 3 (mAv s 1) = z at hd2 ⊢
  have zp : z.2.p ≤ 400 ∧ z.2.K = s.K := by rw [← hz]; refine ⟨?_, rfl⟩; show s.p + 1 + (dgs L 10 (s.p + 1)).length ≤ 400; have := dgs_len L 10 (s.p + 1); omega
  refine ep_istore_n (lv' := [(0, .ref 16), (1, .int (pk L s)), (2, .int (bolF (pk L s))), (3, .int z.1)]) [1, 2, 3, 0] d_M_readType_168 rfl (by decide) rfl ?_
  refine ep_aload_n (j := 0) d_M_readType_169 rfl rfl ?_
  refine ep_join (pc2 := 187) (lv2 := [(0, .ref 16), (1, .int (pk L s)), (2, .int (bolF (pk L s))), (3, .int z.1)]) (st2 := [.int (bI (z.2.wr || decide (z.1 < 1))), .ref 16]) ?_ (fun k187 => ?_)
  · refine ep_putf' (fi := 24) (h2 := HC X cI cA (upd rI2 24 (bI (z.2.wr || decide (z.1 < 1)))) rA2 ol J) d_M_readType_187 cl5 lf_M_171 (by decide) (Or.inl rfl) (bI_f _) rfl hI_16_24 ?_
    have hd3 : MD L S ct (upd rI2 24 (bI (z.2.wr || decide (z.1 < 1)))) rA2 (mOr z.2 (decide (z.1 < 1))) := hd2.sw (q := (z.2.wr || decide (z.1 < 1))) rfl
    generalize upd rI2 24 (bI (z.2.wr || decide (z.1 < 1))) = rI3 at hd3 ⊢
    refine ep_aload_n (j := 0) d_M_readType_190 rfl rfl ?_
    refine ep_bipush (v := 95) d_M_readType_191 (by decide) ?_
    refine ep_callVm (As := [.int 95]) (st := []) d_M_readType_193 lk_M_184 cal_M_expect tm_M_expect ts_M_expect rfl rfl rfl (Nat.le_of_ble_eq_true rfl) (Nat.le_of_ble_eq_true rfl) rfl rfl (M_expect hd3 (by show z.2.p ≤ 1000; omega) 95) (fun rI4 rA4 hd4 => ?_)
    refine ep_aload_n (j := 0) d_M_readType_196 rfl rfl ?_
    refine ep_bipush (v := 7) d_M_readType_197 (by decide) ?_
    refine ep_bipush (v := 7) d_M_readType_199 (by decide) ?_
    refine ep_iload_n (j := 3) d_M_readType_201 rfl rfl ?_
    refine ep_callVm (As := [.int 7, .int 7, .int z.1]) (st := []) d_M_readType_202 lk_M_217 cal_M_begin tm_M_begin ts_M_begin rfl rfl rfl (Nat.le_of_ble_eq_true rfl) (Nat.le_of_ble_eq_true rfl) rfl rfl (M_begin hd4 (by show z.2.K.length ≤ 390; rw [zp.2]; omega) 7 7 z.1) (fun rI5 rA5 hd5 => ?_)
    refine ep_iconst (v := (-1)) d_M_readType_205 (by decide) ?_
    exact ep_iret d_M_readType_206 rfl rfl (MP_ok rfl rfl hd5)
  · refine ep_aload_n (j := 0) d_M_readType_170 rfl rfl ?_
    refine ep_getf (fi := 24) (v := .int (bI z.2.wr)) d_M_readType_171 cl5 lf_M_171 (by decide) rfl (congrArg (fun z => some (Value.int z)) hd2.w) ?_
    refine ep_if_ne (tgt := 182) d_M_readType_174 (by decide) (fun c174 => ?_) (fun c174 => ?_)
    · refine ep_iconst (v := 1) d_M_readType_182 (by decide) ?_
      refine ep_goto (tgt := 187) d_M_readType_183 (by decide) ?_
      refine ep_cg (y := bI (z.2.wr || decide (z.1 < 1))) (bor1 c174) ?_
      exact k187
    · refine ep_iload_n (j := 3) d_M_readType_177 rfl rfl ?_
      refine ep_iconst (v := 1) d_M_readType_178 (by decide) ?_
      refine ep_icmp_ge (tgt := 186) d_M_readType_179 (by decide) (fun c179 => ?_) (fun c179 => ?_)
      · refine ep_iconst (v := 0) d_M_readType_186 (by decide) ?_
        refine ep_cg (y := bI (z.2.wr || decide (z.1 < 1))) (bor0 c174 (decide_eq_false (Int32.not_lt.mpr c179))) ?_
        exact k187
      · refine ep_iconst (v := 1) d_M_readType_182 (by decide) ?_
        refine ep_goto (tgt := 187) d_M_readType_183 (by decide) ?_
        refine ep_cg (y := bI (z.2.wr || decide (z.1 < 1))) (bor2 c174 (decide_eq_true (Int32.not_le.mp c179))) ?_
        exact k187
set_option maxHeartbeats 4000000 in
set_option maxRecDepth 100000 in
theorem M_ty_F (hd : MD L S ct rI rA s) (g : Gd L s) (hw : s.wr = false) (hB : ¬ 0 ≤ bolF (pk L s)) (hS : ¬ pk L s = 83) (hD : ¬ dgP (pk L s)) (hN : ¬ pk L s = 78) (hA : ¬ pk L s = 65) (hF : pk L s = 70) : EvP m_M_readType (d + 8) 0 [(0, .ref 16)] [] (HC X cI cA rI rA ol J) (MP X cI cA ol J L S ct (some (.int (-1))) (mBe 6 (-1) (-1) (mAv s 1))) := by
  have hl := g.n
  have he := g.e
  have hk := g.k
  have hp := g.p
  have hL := g.l
  refine ep_aload_n (j := 0) d_M_readType_0 rfl rfl ?_
  refine ep_callVi (As := []) (st := []) d_M_readType_1 lk_M_174 cal_M_peek tm_M_peek ts_M_peek rfl rfl rfl (Nat.le_of_ble_eq_true rfl) (Nat.le_of_ble_eq_true rfl) rfl rfl (M_peek hd (by omega)) ?_
  refine ep_istore_n (lv' := [(0, .ref 16), (1, .int (pk L s))]) [1, 0] d_M_readType_4 rfl (by decide) rfl ?_
  refine ep_iload_n (j := 1) d_M_readType_5 rfl rfl ?_
  refine ep_callSi (As := [.int (pk L s)]) (st := []) d_M_readType_6 (Or.inl lk_M_193) cal_M_builtinOf tm_M_builtinOf ti_M rfl (Nat.le_of_ble_eq_true rfl) (Nat.le_of_ble_eq_true rfl) rfl rfl (M_builtinOf (pk L s)) ?_
  refine ep_istore_n (lv' := [(0, .ref 16), (1, .int (pk L s)), (2, .int (bolF (pk L s)))]) [1, 2, 0] d_M_readType_9 rfl (by decide) rfl ?_
  refine ep_iload_n (j := 2) d_M_readType_10 rfl rfl ?_
  refine ep_if_lt (tgt := 30) d_M_readType_11 (by decide) (fun _ => ?_) (fun z => absurd (Int32.not_le.mp hB) z)
  refine ep_iload_n (j := 1) d_M_readType_30 rfl rfl ?_
  refine ep_bipush (v := 83) d_M_readType_31 (by decide) ?_
  refine ep_icmp_ne (tgt := 89) d_M_readType_33 (by decide) (fun _ => ?_) (fun z => absurd z hS)
  refine ep_iload_n (j := 1) d_M_readType_89 rfl rfl ?_
  refine ep_callSi (As := [.int (pk L s)]) (st := []) d_M_readType_90 (Or.inl lk_M_178) cal_M_isDigit tm_M_isDigit ti_M rfl (Nat.le_of_ble_eq_true rfl) (Nat.le_of_ble_eq_true rfl) rfl rfl (M_isDigit (pk L s)) ?_
  rw [if_neg hD]
  refine ep_if_eq (tgt := 136) d_M_readType_93 (by decide) (fun _ => ?_) (fun z => absurd (by decide) z)
  refine ep_aload_n (j := 0) d_M_readType_136 rfl rfl ?_
  refine ep_dup d_M_readType_137 rfl ?_
  refine ep_getf (fi := 23) (v := .int (nI s.p)) d_M_readType_138 cl5 lf_M_168 (by decide) rfl (congrArg (fun z => some (Value.int z)) hd.p) ?_
  refine ep_iconst (v := 1) d_M_readType_141 (by decide) ?_
  refine ep_iadd d_M_readType_142 ?_
  refine ep_putf' (fi := 23) (h2 := HC X cI cA (upd rI 23 ((nI s.p) + 1)) rA ol J) d_M_readType_143 cl5 lf_M_168 (by decide) (Or.inl rfl) rfl rfl hI_16_23 ?_
  have hd1 : MD L S ct (upd rI 23 ((nI s.p) + 1)) rA (mAv s 1) := hd.sp (q := (s.p + 1)) (nI_1 _)
  generalize upd rI 23 ((nI s.p) + 1) = rI1 at hd1 ⊢
  refine ep_iload_n (j := 1) d_M_readType_146 rfl rfl ?_
  refine ep_bipush (v := 78) d_M_readType_147 (by decide) ?_
  refine ep_icmp_ne (tgt := 157) d_M_readType_149 (by decide) (fun _ => ?_) (fun z => absurd z hN)
  refine ep_iload_n (j := 1) d_M_readType_157 rfl rfl ?_
  refine ep_bipush (v := 65) d_M_readType_158 (by decide) ?_
  refine ep_icmp_ne (tgt := 207) d_M_readType_160 (by decide) (fun _ => ?_) (fun z => absurd z hA)
  refine ep_iload_n (j := 1) d_M_readType_207 rfl rfl ?_
  refine ep_bipush (v := 70) d_M_readType_208 (by decide) ?_
  refine ep_icmp_ne (tgt := 223) d_M_readType_210 (by decide) (fun z => absurd hF z) (fun _ => ?_)
  refine ep_aload_n (j := 0) d_M_readType_213 rfl rfl ?_
  refine ep_bipush (v := 6) d_M_readType_214 (by decide) ?_
  refine ep_iconst (v := (-1)) d_M_readType_216 (by decide) ?_
  refine ep_iconst (v := (-1)) d_M_readType_217 (by decide) ?_
  refine ep_callVm (As := [.int 6, .int (-1), .int (-1)]) (st := []) d_M_readType_218 lk_M_217 cal_M_begin tm_M_begin ts_M_begin rfl rfl rfl (Nat.le_of_ble_eq_true rfl) (Nat.le_of_ble_eq_true rfl) rfl rfl (M_begin hd1 (by show s.K.length ≤ 390; omega) 6 (-1) (-1)) (fun rI2 rA2 hd2 => ?_)
  refine ep_iconst (v := (-1)) d_M_readType_221 (by decide) ?_
  exact ep_iret d_M_readType_222 rfl rfl (MP_ok rfl rfl hd2)
set_option maxHeartbeats 4000000 in
set_option maxRecDepth 100000 in
theorem M_ty_W (hd : MD L S ct rI rA s) (g : Gd L s) (hw : s.wr = false) (hB : ¬ 0 ≤ bolF (pk L s)) (hS : ¬ pk L s = 83) (hD : ¬ dgP (pk L s)) (hN : ¬ pk L s = 78) (hA : ¬ pk L s = 65) (hF : ¬ pk L s = 70) : EvP m_M_readType (d + 8) 0 [(0, .ref 16)] [] (HC X cI cA rI rA ol J) (MP X cI cA ol J L S ct (some (.int (-1))) (mBe 7 (if pk L s = 80 then 4 else if pk L s = 82 then 5 else 6) 0 (mOr (mAv s 1) (decide (¬ pk L s = 80 ∧ ¬ pk L s = 82 ∧ ¬ pk L s = 75))))) := by
  have hl := g.n
  have he := g.e
  have hk := g.k
  have hp := g.p
  have hL := g.l
  refine ep_aload_n (j := 0) d_M_readType_0 rfl rfl ?_
  refine ep_callVi (As := []) (st := []) d_M_readType_1 lk_M_174 cal_M_peek tm_M_peek ts_M_peek rfl rfl rfl (Nat.le_of_ble_eq_true rfl) (Nat.le_of_ble_eq_true rfl) rfl rfl (M_peek hd (by omega)) ?_
  refine ep_istore_n (lv' := [(0, .ref 16), (1, .int (pk L s))]) [1, 0] d_M_readType_4 rfl (by decide) rfl ?_
  refine ep_iload_n (j := 1) d_M_readType_5 rfl rfl ?_
  refine ep_callSi (As := [.int (pk L s)]) (st := []) d_M_readType_6 (Or.inl lk_M_193) cal_M_builtinOf tm_M_builtinOf ti_M rfl (Nat.le_of_ble_eq_true rfl) (Nat.le_of_ble_eq_true rfl) rfl rfl (M_builtinOf (pk L s)) ?_
  refine ep_istore_n (lv' := [(0, .ref 16), (1, .int (pk L s)), (2, .int (bolF (pk L s)))]) [1, 2, 0] d_M_readType_9 rfl (by decide) rfl ?_
  refine ep_iload_n (j := 2) d_M_readType_10 rfl rfl ?_
  refine ep_if_lt (tgt := 30) d_M_readType_11 (by decide) (fun _ => ?_) (fun z => absurd (Int32.not_le.mp hB) z)
  refine ep_iload_n (j := 1) d_M_readType_30 rfl rfl ?_
  refine ep_bipush (v := 83) d_M_readType_31 (by decide) ?_
  refine ep_icmp_ne (tgt := 89) d_M_readType_33 (by decide) (fun _ => ?_) (fun z => absurd z hS)
  refine ep_iload_n (j := 1) d_M_readType_89 rfl rfl ?_
  refine ep_callSi (As := [.int (pk L s)]) (st := []) d_M_readType_90 (Or.inl lk_M_178) cal_M_isDigit tm_M_isDigit ti_M rfl (Nat.le_of_ble_eq_true rfl) (Nat.le_of_ble_eq_true rfl) rfl rfl (M_isDigit (pk L s)) ?_
  rw [if_neg hD]
  refine ep_if_eq (tgt := 136) d_M_readType_93 (by decide) (fun _ => ?_) (fun z => absurd (by decide) z)
  refine ep_aload_n (j := 0) d_M_readType_136 rfl rfl ?_
  refine ep_dup d_M_readType_137 rfl ?_
  refine ep_getf (fi := 23) (v := .int (nI s.p)) d_M_readType_138 cl5 lf_M_168 (by decide) rfl (congrArg (fun z => some (Value.int z)) hd.p) ?_
  refine ep_iconst (v := 1) d_M_readType_141 (by decide) ?_
  refine ep_iadd d_M_readType_142 ?_
  refine ep_putf' (fi := 23) (h2 := HC X cI cA (upd rI 23 ((nI s.p) + 1)) rA ol J) d_M_readType_143 cl5 lf_M_168 (by decide) (Or.inl rfl) rfl rfl hI_16_23 ?_
  have hd1 : MD L S ct (upd rI 23 ((nI s.p) + 1)) rA (mAv s 1) := hd.sp (q := (s.p + 1)) (nI_1 _)
  generalize upd rI 23 ((nI s.p) + 1) = rI1 at hd1 ⊢
  refine ep_iload_n (j := 1) d_M_readType_146 rfl rfl ?_
  refine ep_bipush (v := 78) d_M_readType_147 (by decide) ?_
  refine ep_icmp_ne (tgt := 157) d_M_readType_149 (by decide) (fun _ => ?_) (fun z => absurd z hN)
  refine ep_iload_n (j := 1) d_M_readType_157 rfl rfl ?_
  refine ep_bipush (v := 65) d_M_readType_158 (by decide) ?_
  refine ep_icmp_ne (tgt := 207) d_M_readType_160 (by decide) (fun _ => ?_) (fun z => absurd z hA)
  refine ep_iload_n (j := 1) d_M_readType_207 rfl rfl ?_
  refine ep_bipush (v := 70) d_M_readType_208 (by decide) ?_
  refine ep_icmp_ne (tgt := 223) d_M_readType_210 (by decide) (fun _ => ?_) (fun z => absurd z hF)
  refine ep_aload_n (j := 0) d_M_readType_223 rfl rfl ?_
  refine ep_join (pc2 := 254) (lv2 := [(0, .ref 16), (1, .int (pk L s)), (2, .int (bolF (pk L s)))]) (st2 := [.int (bI ((mAv s 1).wr || decide (¬ pk L s = 80 ∧ ¬ pk L s = 82 ∧ ¬ pk L s = 75))), .ref 16]) ?_ (fun k254 => ?_)
  · refine ep_putf' (fi := 24) (h2 := HC X cI cA (upd rI1 24 (bI ((mAv s 1).wr || decide (¬ pk L s = 80 ∧ ¬ pk L s = 82 ∧ ¬ pk L s = 75)))) rA ol J) d_M_readType_254 cl5 lf_M_171 (by decide) (Or.inl rfl) (bI_f _) rfl hI_16_24 ?_
    have hd2 : MD L S ct (upd rI1 24 (bI ((mAv s 1).wr || decide (¬ pk L s = 80 ∧ ¬ pk L s = 82 ∧ ¬ pk L s = 75)))) rA (mOr (mAv s 1) (decide (¬ pk L s = 80 ∧ ¬ pk L s = 82 ∧ ¬ pk L s = 75))) := hd1.sw (q := ((mAv s 1).wr || decide (¬ pk L s = 80 ∧ ¬ pk L s = 82 ∧ ¬ pk L s = 75))) rfl
    generalize upd rI1 24 (bI ((mAv s 1).wr || decide (¬ pk L s = 80 ∧ ¬ pk L s = 82 ∧ ¬ pk L s = 75))) = rI2 at hd2 ⊢
    refine ep_aload_n (j := 0) d_M_readType_257 rfl rfl ?_
    refine ep_bipush (v := 7) d_M_readType_258 (by decide) ?_
    refine ep_join (pc2 := 282) (lv2 := [(0, .ref 16), (1, .int (pk L s)), (2, .int (bolF (pk L s)))]) (st2 := [.int (if pk L s = 80 then 4 else if pk L s = 82 then 5 else 6), .int 7, .ref 16]) ?_ (fun k282 => ?_)
    · refine ep_iconst (v := 0) d_M_readType_282 (by decide) ?_
      refine ep_callVm (As := [.int 7, .int (if pk L s = 80 then 4 else if pk L s = 82 then 5 else 6), .int 0]) (st := []) d_M_readType_283 lk_M_217 cal_M_begin tm_M_begin ts_M_begin rfl rfl rfl (Nat.le_of_ble_eq_true rfl) (Nat.le_of_ble_eq_true rfl) rfl rfl (M_begin hd2 (by show s.K.length ≤ 390; omega) 7 (if pk L s = 80 then 4 else if pk L s = 82 then 5 else 6) 0) (fun rI3 rA3 hd3 => ?_)
      refine ep_iconst (v := (-1)) d_M_readType_286 (by decide) ?_
      exact ep_iret d_M_readType_287 rfl rfl (MP_ok rfl rfl hd3)
    · refine ep_iload_n (j := 1) d_M_readType_260 rfl rfl ?_
      refine ep_bipush (v := 80) d_M_readType_261 (by decide) ?_
      refine ep_icmp_ne (tgt := 270) d_M_readType_263 (by decide) (fun c263 => ?_) (fun c263 => ?_)
      · refine ep_iload_n (j := 1) d_M_readType_270 rfl rfl ?_
        refine ep_bipush (v := 82) d_M_readType_271 (by decide) ?_
        refine ep_icmp_ne (tgt := 280) d_M_readType_273 (by decide) (fun c273 => ?_) (fun c273 => ?_)
        · refine ep_bipush (v := 6) d_M_readType_280 (by decide) ?_
          refine ep_cg (y := if pk L s = 80 then 4 else if pk L s = 82 then 5 else 6) (by rw [if_neg c263, if_neg c273]) ?_
          exact k282
        · refine ep_iconst (v := 5) d_M_readType_276 (by decide) ?_
          refine ep_goto (tgt := 282) d_M_readType_277 (by decide) ?_
          refine ep_cg (y := if pk L s = 80 then 4 else if pk L s = 82 then 5 else 6) (by rw [if_neg c263, if_pos c273]) ?_
          exact k282
      · refine ep_iconst (v := 4) d_M_readType_266 (by decide) ?_
        refine ep_goto (tgt := 282) d_M_readType_267 (by decide) ?_
        refine ep_cg (y := if pk L s = 80 then 4 else if pk L s = 82 then 5 else 6) ((if_pos c263).symm) ?_
        exact k282
  · refine ep_aload_n (j := 0) d_M_readType_224 rfl rfl ?_
    refine ep_getf (fi := 24) (v := .int (bI (mAv s 1).wr)) d_M_readType_225 cl5 lf_M_171 (by decide) rfl (congrArg (fun z => some (Value.int z)) hd1.w) ?_
    refine ep_if_ne (tgt := 249) d_M_readType_228 (by decide) (fun c228 => ?_) (fun c228 => ?_)
    · refine ep_iconst (v := 1) d_M_readType_249 (by decide) ?_
      refine ep_goto (tgt := 254) d_M_readType_250 (by decide) ?_
      refine ep_cg (y := bI ((mAv s 1).wr || decide (¬ pk L s = 80 ∧ ¬ pk L s = 82 ∧ ¬ pk L s = 75))) (bor1 c228) ?_
      exact k254
    · refine ep_iload_n (j := 1) d_M_readType_231 rfl rfl ?_
      refine ep_bipush (v := 80) d_M_readType_232 (by decide) ?_
      refine ep_icmp_eq (tgt := 253) d_M_readType_234 (by decide) (fun c234 => ?_) (fun c234 => ?_)
      · refine ep_iconst (v := 0) d_M_readType_253 (by decide) ?_
        refine ep_cg (y := bI ((mAv s 1).wr || decide (¬ pk L s = 80 ∧ ¬ pk L s = 82 ∧ ¬ pk L s = 75))) (bor0 c228 (decide_eq_false (fun u => u.1 c234))) ?_
        exact k254
      · refine ep_iload_n (j := 1) d_M_readType_237 rfl rfl ?_
        refine ep_bipush (v := 82) d_M_readType_238 (by decide) ?_
        refine ep_icmp_eq (tgt := 253) d_M_readType_240 (by decide) (fun c240 => ?_) (fun c240 => ?_)
        · refine ep_iconst (v := 0) d_M_readType_253 (by decide) ?_
          refine ep_cg (y := bI ((mAv s 1).wr || decide (¬ pk L s = 80 ∧ ¬ pk L s = 82 ∧ ¬ pk L s = 75))) (bor0 c228 (decide_eq_false (fun u => u.2.1 c240))) ?_
          exact k254
        · refine ep_iload_n (j := 1) d_M_readType_243 rfl rfl ?_
          refine ep_bipush (v := 75) d_M_readType_244 (by decide) ?_
          refine ep_icmp_eq (tgt := 253) d_M_readType_246 (by decide) (fun c246 => ?_) (fun c246 => ?_)
          · refine ep_iconst (v := 0) d_M_readType_253 (by decide) ?_
            refine ep_cg (y := bI ((mAv s 1).wr || decide (¬ pk L s = 80 ∧ ¬ pk L s = 82 ∧ ¬ pk L s = 75))) (bor0 c228 (decide_eq_false (fun u => u.2.2 c246))) ?_
            exact k254
          · refine ep_iconst (v := 1) d_M_readType_249 (by decide) ?_
            refine ep_goto (tgt := 254) d_M_readType_250 (by decide) ?_
            refine ep_cg (y := bI ((mAv s 1).wr || decide (¬ pk L s = 80 ∧ ¬ pk L s = 82 ∧ ¬ pk L s = 75))) (bor2 c228 (decide_eq_true ⟨c234, c240, c246⟩)) ?_
            exact k254
set_option maxHeartbeats 4000000 in
set_option maxRecDepth 100000 in
theorem M_ty_N (hd : MD L S ct rI rA s) (g : Gd L s) (hw : s.wr = false) (hN : pk L s = 78) {q : IM} (h : NN L (mBN L (mAv s 1)) q) : EvP m_M_readType (d + 8) 0 [(0, .ref 16)] [] (HC X cI cA rI rA ol J) (MPi X cI cA ol J L S ct q) := by
  have hl := g.n
  have he := g.e
  have hk := g.k
  have hp := g.p
  have hL := g.l
  have hD : ¬ dgP (pk L s) := by rw [hN]; decide
  refine ep_aload_n (j := 0) d_M_readType_0 rfl rfl ?_
  refine ep_callVi (As := []) (st := []) d_M_readType_1 lk_M_174 cal_M_peek tm_M_peek ts_M_peek rfl rfl rfl (Nat.le_of_ble_eq_true rfl) (Nat.le_of_ble_eq_true rfl) rfl rfl (M_peek hd (by omega)) ?_
  refine ep_istore_n (lv' := [(0, .ref 16), (1, .int (pk L s))]) [1, 0] d_M_readType_4 rfl (by decide) rfl ?_
  refine ep_iload_n (j := 1) d_M_readType_5 rfl rfl ?_
  refine ep_callSi (As := [.int (pk L s)]) (st := []) d_M_readType_6 (Or.inl lk_M_193) cal_M_builtinOf tm_M_builtinOf ti_M rfl (Nat.le_of_ble_eq_true rfl) (Nat.le_of_ble_eq_true rfl) rfl rfl (M_builtinOf (pk L s)) ?_
  refine ep_istore_n (lv' := [(0, .ref 16), (1, .int (pk L s)), (2, .int (bolF (pk L s)))]) [1, 2, 0] d_M_readType_9 rfl (by decide) rfl ?_
  refine ep_iload_n (j := 2) d_M_readType_10 rfl rfl ?_
  refine ep_if_lt (tgt := 30) d_M_readType_11 (by decide) (fun _ => ?_) (fun z => absurd (by rw [hN]; decide) z)
  refine ep_iload_n (j := 1) d_M_readType_30 rfl rfl ?_
  refine ep_bipush (v := 83) d_M_readType_31 (by decide) ?_
  refine ep_icmp_ne (tgt := 89) d_M_readType_33 (by decide) (fun _ => ?_) (fun z => absurd z (by rw [hN]; decide))
  refine ep_iload_n (j := 1) d_M_readType_89 rfl rfl ?_
  refine ep_callSi (As := [.int (pk L s)]) (st := []) d_M_readType_90 (Or.inl lk_M_178) cal_M_isDigit tm_M_isDigit ti_M rfl (Nat.le_of_ble_eq_true rfl) (Nat.le_of_ble_eq_true rfl) rfl rfl (M_isDigit (pk L s)) ?_
  rw [if_neg hD]
  refine ep_if_eq (tgt := 136) d_M_readType_93 (by decide) (fun _ => ?_) (fun z => absurd (by decide) z)
  refine ep_aload_n (j := 0) d_M_readType_136 rfl rfl ?_
  refine ep_dup d_M_readType_137 rfl ?_
  refine ep_getf (fi := 23) (v := .int (nI s.p)) d_M_readType_138 cl5 lf_M_168 (by decide) rfl (congrArg (fun z => some (Value.int z)) hd.p) ?_
  refine ep_iconst (v := 1) d_M_readType_141 (by decide) ?_
  refine ep_iadd d_M_readType_142 ?_
  refine ep_putf' (fi := 23) (h2 := HC X cI cA (upd rI 23 ((nI s.p) + 1)) rA ol J) d_M_readType_143 cl5 lf_M_168 (by decide) (Or.inl rfl) rfl rfl hI_16_23 ?_
  have hd1 : MD L S ct (upd rI 23 ((nI s.p) + 1)) rA (mAv s 1) := hd.sp (q := (s.p + 1)) (nI_1 _)
  generalize upd rI 23 ((nI s.p) + 1) = rI1 at hd1 ⊢
  refine ep_iload_n (j := 1) d_M_readType_146 rfl rfl ?_
  refine ep_bipush (v := 78) d_M_readType_147 (by decide) ?_
  refine ep_icmp_ne (tgt := 157) d_M_readType_149 (by decide) (fun z => absurd hN z) (fun _ => ?_)
  refine ep_aload_n (j := 0) d_M_readType_152 rfl rfl ?_
  refine ep_callVm (As := []) (st := []) d_M_readType_153 lk_M_214 cal_M_beginNest tm_M_beginNest ts_M_beginNest rfl rfl rfl (Nat.le_of_ble_eq_true rfl) (Nat.le_of_ble_eq_true rfl) rfl rfl (M_beginNest h hd1 (by show s.p + 1 ≤ 130; omega) (by show s.K.length ≤ 300; omega) (by show s.N.length ≤ 280; omega) (by show s.E.length ≤ 300; omega) g.v) (fun rI2 rA2 hd2 => ?_)
  exact ep_iret d_M_readType_156 rfl rfl (MP_ok rfl rfl hd2)
theorem M_readType {q : IM} (h : RT L s q) (hd : MD L S ct rI rA s) (g : Gd L s) (hw : s.wr = false) : EvP m_M_readType (d + 8) 0 [(0, .ref 16)] [] (HC X cI cA rI rA ol J) (MPi X cI cA ol J L S ct q) := by
  cases h using RT.ind with
  | nest hN h => exact M_ty_N hd g hw hN h
  | oth hN =>
    unfold mRT
    by_cases hB : 0 ≤ bolF (pk L s)
    · rw [if_pos hB]; exact M_ty_b hd g hw hB
    rw [if_neg hB]
    by_cases hS : pk L s = 83
    · rw [if_pos hS]; exact M_ty_S hd g hw hB hS
    rw [if_neg hS]
    by_cases hD : dgP (pk L s)
    · rw [if_pos hD]; exact M_ty_D hd g hw hB hS hD
    rw [if_neg hD]
    by_cases hA : pk L s = 65
    · rw [if_pos hA]; exact M_ty_A hd g hw hB hS hD hN hA
    rw [if_neg hA]
    by_cases hF : pk L s = 70
    · rw [if_pos hF]; exact M_ty_F hd g hw hB hS hD hN hA hF
    rw [if_neg hF]
    exact M_ty_W hd g hw hB hS hD hN hA hF
end MS7
