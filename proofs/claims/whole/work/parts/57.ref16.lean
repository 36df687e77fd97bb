/-! the reference: writing, its tasks; by program (wip/whole/gen57.py) -/
section MWC
variable {d : Nat} {X : Nat × (Nat → Int32)} {cI : Nat → Int32} {cA : Nat → Nat → Int32} {rI : Nat → Int32} {rA : Nat → Nat → Int32} {ol : Int64} {J : mH} {S : CSt} {w : WM}
theorem eL_app (a b : List Int32) : ∀ w : WM, eL (a ++ b) w = eL b (eL a w) := by
  induction a with
  | nil => intro w; rfl
  | cons c a ih => intro w; exact ih _
theorem eL_lit1 {c : Int32} {l : List Int32} : eM 69 (eL l (eM 110 (eM c (eM 76 w)))) = eL (76 :: c :: ([110] ++ (l ++ [69]))) w := by
  show _ = eL (l ++ [69]) (eM 110 (eM c (eM 76 w)))
  rw [eL_app]; rfl
theorem eL_lit0 {c : Int32} {l : List Int32} : eM 69 (eL l (eM c (eM 76 w))) = eL (76 :: c :: ([] ++ (l ++ [69]))) w := by
  show _ = eL (l ++ [69]) (eM c (eM 76 w))
  rw [eL_app]; rfl
set_option maxHeartbeats 4000000 in
set_option maxRecDepth 100000 in
theorem M_lit1 (hd : MV S rI rA w) (ho : w.O.length ≤ 120) (hk : w.K.length ≤ 380) (hl : S.1.length ≤ 300) (n : Int32) (hV : Vd S.1 n) (hV2 : Vd S.1 (cN S.1 n 2)) (hn : cN S.1 n 1 < 0) {b : Nat} (hb : -cN S.1 n 1 = nI b) (hb2 : b ≤ 999999) : EvP m_M_literalOf (d + 2) 0 [(0, .ref 16), (1, .int n)] [] (HC X cI cA rI rA ol J) (VP X cI cA ol J S none (eL (liM S.1 n) w)) := by
  refine ep_aload_n (j := 0) d_M_literalOf_0 rfl rfl ?_
  refine ep_bipush (v := 76) d_M_literalOf_1 (by decide) ?_
  refine ep_callVw2 (As := [.int 76]) (st := []) d_M_literalOf_3 lk_M_105 cal_M_emit tm_M_emit ts_M_emit rfl rfl rfl (Nat.le_of_ble_eq_true rfl) (Nat.le_of_ble_eq_true rfl) rfl rfl (M_emit hd ho 76) (fun rI1 rA1 hd1 => ?_)
  refine ep_aload_n (j := 0) d_M_literalOf_6 rfl rfl ?_
  refine ep_aload_n (j := 0) d_M_literalOf_7 rfl rfl ?_
  refine ep_getf (fi := 4) (v := .ref 18) d_M_literalOf_8 cl5 lf_M_13 (by decide) rfl rfl ?_
  refine ep_aload_n (j := 0) d_M_literalOf_11 rfl rfl ?_
  refine ep_getf (fi := 5) (v := .ref 19) d_M_literalOf_12 cl5 lf_M_16 (by decide) rfl rfl ?_
  refine ep_iload_n (j := 1) d_M_literalOf_15 rfl rfl ?_
  refine ep_fst (N := S.1) d_M_literalOf_16 hd1.b.1.2 (by omega) hV ?_
  refine ep_val (N := S.1) d_M_literalOf_17 hd1.b.1.2 (by omega) hV2 ?_
  refine ep_callSi (As := [.int (cN S.1 (cN S.1 n 2) 1)]) (st := [.ref 16]) d_M_literalOf_18 (Or.inl lk_M_127) cal_M_letter tm_M_letter ti_M rfl (Nat.le_of_ble_eq_true rfl) (Nat.le_of_ble_eq_true rfl) rfl rfl (M_letter (cN S.1 (cN S.1 n 2) 1)) ?_
  refine ep_callVw2 (As := [.int (ltM (cN S.1 (cN S.1 n 2) 1))]) (st := []) d_M_literalOf_21 lk_M_105 cal_M_emit tm_M_emit ts_M_emit rfl rfl rfl (Nat.le_of_ble_eq_true rfl) (Nat.le_of_ble_eq_true rfl) rfl rfl (M_emit hd1 (eM_o ho) (ltM (cN S.1 (cN S.1 n 2) 1))) (fun rI2 rA2 hd2 => ?_)
  refine ep_aload_n (j := 0) d_M_literalOf_24 rfl rfl ?_
  refine ep_getf (fi := 4) (v := .ref 18) d_M_literalOf_25 cl5 lf_M_13 (by decide) rfl rfl ?_
  refine ep_iload_n (j := 1) d_M_literalOf_28 rfl rfl ?_
  refine ep_val (N := S.1) d_M_literalOf_29 hd2.b.1.2 (by omega) hV ?_
  refine ep_if_ge (tgt := 39) d_M_literalOf_30 (by decide) (fun z => absurd z (Int32.not_le.mpr hn)) (fun _ => ?_)
  refine ep_aload_n (j := 0) d_M_literalOf_33 rfl rfl ?_
  refine ep_bipush (v := 110) d_M_literalOf_34 (by decide) ?_
  refine ep_callVw2 (As := [.int 110]) (st := []) d_M_literalOf_36 lk_M_105 cal_M_emit tm_M_emit ts_M_emit rfl rfl rfl (Nat.le_of_ble_eq_true rfl) (Nat.le_of_ble_eq_true rfl) rfl rfl (M_emit hd2 (eM_o (eM_o ho)) 110) (fun rI3 rA3 hd3 => ?_)
  refine ep_aload_n (j := 0) d_M_literalOf_39 rfl rfl ?_
  refine ep_aload_n (j := 0) d_M_literalOf_40 rfl rfl ?_
  refine ep_getf (fi := 4) (v := .ref 18) d_M_literalOf_41 cl5 lf_M_13 (by decide) rfl rfl ?_
  refine ep_iload_n (j := 1) d_M_literalOf_44 rfl rfl ?_
  refine ep_val (N := S.1) d_M_literalOf_45 hd3.b.1.2 (by omega) hV ?_
  refine ep_if_ge (tgt := 59) d_M_literalOf_46 (by decide) (fun z => absurd z (Int32.not_le.mpr hn)) (fun _ => ?_)
  refine ep_aload_n (j := 0) d_M_literalOf_49 rfl rfl ?_
  refine ep_getf (fi := 4) (v := .ref 18) d_M_literalOf_50 cl5 lf_M_13 (by decide) rfl rfl ?_
  refine ep_iload_n (j := 1) d_M_literalOf_53 rfl rfl ?_
  refine ep_val (N := S.1) d_M_literalOf_54 hd3.b.1.2 (by omega) hV ?_
  refine ep_ineg d_M_literalOf_55 ?_
  refine ep_goto (tgt := 65) d_M_literalOf_56 (by decide) ?_
  refine ep_callVw2 (As := [.int (-(cN S.1 n 1))]) (st := []) d_M_literalOf_65 lk_M_130 cal_M_emitNumber tm_M_emitNumber ts_M_emitNumber rfl rfl rfl (Nat.le_of_ble_eq_true rfl) (Nat.le_of_ble_eq_true rfl) rfl rfl (M_emitNumber hd3 (eM_o (eM_o (eM_o ho))) (v := -(cN S.1 n 1)) hb hb2) (fun rI4 rA4 hd4 => ?_)
  refine ep_aload_n (j := 0) d_M_literalOf_68 rfl rfl ?_
  refine ep_bipush (v := 69) d_M_literalOf_69 (by decide) ?_
  refine ep_callVw2 (As := [.int 69]) (st := []) d_M_literalOf_71 lk_M_105 cal_M_emit tm_M_emit ts_M_emit rfl rfl rfl (Nat.le_of_ble_eq_true rfl) (Nat.le_of_ble_eq_true rfl) rfl rfl (M_emit hd4 (eL_o _ _ (eM_o (eM_o (eM_o ho)))) 69) (fun rI5 rA5 hd5 => ?_)
  exact ep_vret d_M_literalOf_74 rfl (VP_ok rfl (by unfold liM; rw [if_pos hn, if_pos hn]; exact eL_lit1) hd5)
set_option maxHeartbeats 4000000 in
set_option maxRecDepth 100000 in
theorem M_lit0 (hd : MV S rI rA w) (ho : w.O.length ≤ 120) (hk : w.K.length ≤ 380) (hl : S.1.length ≤ 300) (n : Int32) (hV : Vd S.1 n) (hV2 : Vd S.1 (cN S.1 n 2)) (hn : 0 ≤ cN S.1 n 1) {b : Nat} (hb : cN S.1 n 1 = nI b) (hb2 : b ≤ 999999) : EvP m_M_literalOf (d + 2) 0 [(0, .ref 16), (1, .int n)] [] (HC X cI cA rI rA ol J) (VP X cI cA ol J S none (eL (liM S.1 n) w)) := by
  refine ep_aload_n (j := 0) d_M_literalOf_0 rfl rfl ?_
  refine ep_bipush (v := 76) d_M_literalOf_1 (by decide) ?_
  refine ep_callVw2 (As := [.int 76]) (st := []) d_M_literalOf_3 lk_M_105 cal_M_emit tm_M_emit ts_M_emit rfl rfl rfl (Nat.le_of_ble_eq_true rfl) (Nat.le_of_ble_eq_true rfl) rfl rfl (M_emit hd ho 76) (fun rI1 rA1 hd1 => ?_)
  refine ep_aload_n (j := 0) d_M_literalOf_6 rfl rfl ?_
  refine ep_aload_n (j := 0) d_M_literalOf_7 rfl rfl ?_
  refine ep_getf (fi := 4) (v := .ref 18) d_M_literalOf_8 cl5 lf_M_13 (by decide) rfl rfl ?_
  refine ep_aload_n (j := 0) d_M_literalOf_11 rfl rfl ?_
  refine ep_getf (fi := 5) (v := .ref 19) d_M_literalOf_12 cl5 lf_M_16 (by decide) rfl rfl ?_
  refine ep_iload_n (j := 1) d_M_literalOf_15 rfl rfl ?_
  refine ep_fst (N := S.1) d_M_literalOf_16 hd1.b.1.2 (by omega) hV ?_
  refine ep_val (N := S.1) d_M_literalOf_17 hd1.b.1.2 (by omega) hV2 ?_
  refine ep_callSi (As := [.int (cN S.1 (cN S.1 n 2) 1)]) (st := [.ref 16]) d_M_literalOf_18 (Or.inl lk_M_127) cal_M_letter tm_M_letter ti_M rfl (Nat.le_of_ble_eq_true rfl) (Nat.le_of_ble_eq_true rfl) rfl rfl (M_letter (cN S.1 (cN S.1 n 2) 1)) ?_
  refine ep_callVw2 (As := [.int (ltM (cN S.1 (cN S.1 n 2) 1))]) (st := []) d_M_literalOf_21 lk_M_105 cal_M_emit tm_M_emit ts_M_emit rfl rfl rfl (Nat.le_of_ble_eq_true rfl) (Nat.le_of_ble_eq_true rfl) rfl rfl (M_emit hd1 (eM_o ho) (ltM (cN S.1 (cN S.1 n 2) 1))) (fun rI2 rA2 hd2 => ?_)
  refine ep_aload_n (j := 0) d_M_literalOf_24 rfl rfl ?_
  refine ep_getf (fi := 4) (v := .ref 18) d_M_literalOf_25 cl5 lf_M_13 (by decide) rfl rfl ?_
  refine ep_iload_n (j := 1) d_M_literalOf_28 rfl rfl ?_
  refine ep_val (N := S.1) d_M_literalOf_29 hd2.b.1.2 (by omega) hV ?_
  refine ep_if_ge (tgt := 39) d_M_literalOf_30 (by decide) (fun _ => ?_) (fun z => absurd hn z)
  refine ep_aload_n (j := 0) d_M_literalOf_39 rfl rfl ?_
  refine ep_aload_n (j := 0) d_M_literalOf_40 rfl rfl ?_
  refine ep_getf (fi := 4) (v := .ref 18) d_M_literalOf_41 cl5 lf_M_13 (by decide) rfl rfl ?_
  refine ep_iload_n (j := 1) d_M_literalOf_44 rfl rfl ?_
  refine ep_val (N := S.1) d_M_literalOf_45 hd2.b.1.2 (by omega) hV ?_
  refine ep_if_ge (tgt := 59) d_M_literalOf_46 (by decide) (fun _ => ?_) (fun z => absurd hn z)
  refine ep_aload_n (j := 0) d_M_literalOf_59 rfl rfl ?_
  refine ep_getf (fi := 4) (v := .ref 18) d_M_literalOf_60 cl5 lf_M_13 (by decide) rfl rfl ?_
  refine ep_iload_n (j := 1) d_M_literalOf_63 rfl rfl ?_
  refine ep_val (N := S.1) d_M_literalOf_64 hd2.b.1.2 (by omega) hV ?_
  refine ep_callVw2 (As := [.int (cN S.1 n 1)]) (st := []) d_M_literalOf_65 lk_M_130 cal_M_emitNumber tm_M_emitNumber ts_M_emitNumber rfl rfl rfl (Nat.le_of_ble_eq_true rfl) (Nat.le_of_ble_eq_true rfl) rfl rfl (M_emitNumber hd2 (eM_o (eM_o ho)) (v := cN S.1 n 1) hb hb2) (fun rI3 rA3 hd3 => ?_)
  refine ep_aload_n (j := 0) d_M_literalOf_68 rfl rfl ?_
  refine ep_bipush (v := 69) d_M_literalOf_69 (by decide) ?_
  refine ep_callVw2 (As := [.int 69]) (st := []) d_M_literalOf_71 lk_M_105 cal_M_emit tm_M_emit ts_M_emit rfl rfl rfl (Nat.le_of_ble_eq_true rfl) (Nat.le_of_ble_eq_true rfl) rfl rfl (M_emit hd3 (eL_o _ _ (eM_o (eM_o ho))) 69) (fun rI4 rA4 hd4 => ?_)
  exact ep_vret d_M_literalOf_74 rfl (VP_ok rfl (by unfold liM; rw [if_neg (Int32.not_lt.mpr hn), if_neg (Int32.not_lt.mpr hn)]; exact eL_lit0) hd4)
theorem M_literalOf (hd : MV S rI rA w) (ho : w.O.length ≤ 120) (hk : w.K.length ≤ 380) (hl : S.1.length ≤ 300) (n : Int32) (hV : Vd S.1 n) (hV2 : Vd S.1 (cN S.1 n 2)) (hr : ¬ cN S.1 n 1 < -999999 ∧ cN S.1 n 1 ≤ 999999) : EvP m_M_literalOf (d + 2) 0 [(0, .ref 16), (1, .int n)] [] (HC X cI cA rI rA ol J) (VP X cI cA ol J S none (eL (liM S.1 n) w)) := by
  have a1 : (-999999 : Int32).toInt = -999999 := by decide
  have a2 : (999999 : Int32).toInt = 999999 := by decide
  have a0 : (0 : Int32).toInt = 0 := by decide
  have h2 := hr.1; have h3 := hr.2
  rw [i_lt, a1] at h2
  rw [i_le, a2] at h3
  by_cases hn : cN S.1 n 1 < 0
  · have wi := hn
    rw [i_lt, a0] at wi
    have en : (-(cN S.1 n 1)).toInt = -(cN S.1 n 1).toInt := by
      rw [Int32.toInt_neg]
      exact Int.bmod_eq_of_le (by omega) (by omega)
    refine M_lit1 hd ho hk hl n hV hV2 hn (b := (-(cN S.1 n 1).toInt).toNat) ?_ (by omega)
    apply Int32.toInt_inj.mp
    rw [en, nI_toInt (by omega)]; omega
  · have wi := hn
    rw [i_lt, a0] at wi
    refine M_lit0 hd ho hk hl n hV hV2 (Int32.not_lt.mp hn) (b := (cN S.1 n 1).toInt.toNat) ?_ (by omega)
    apply Int32.toInt_inj.mp
    rw [nI_toInt (by omega)]; omega
set_option maxHeartbeats 4000000 in
set_option maxRecDepth 100000 in
theorem M_plain_1 (hd : MV S rI rA w) (ho : w.O.length ≤ 120) (hk : w.K.length ≤ 380) (hl : S.1.length ≤ 300) (n : Int32) (hV : Vd S.1 n) (h1 : cN S.1 n 0 = 1) : EvP m_M_plain (d + 2) 0 [(0, .ref 16), (1, .int n)] [] (HC X cI cA rI rA ol J) (VP X cI cA ol J S none (plM S.1 n w)) := by
  have hk0 := h1
  refine ep_aload_n (j := 0) d_M_plain_0 rfl rfl ?_
  refine ep_getf (fi := 3) (v := .ref 17) d_M_plain_1 cl5 lf_M_7 (by decide) rfl rfl ?_
  refine ep_iload_n (j := 1) d_M_plain_4 rfl rfl ?_
  refine ep_kind (N := S.1) d_M_plain_5 hd.b.1.2 (by omega) hV ?_
  refine ep_istore_n (lv' := [(0, .ref 16), (1, .int n), (2, .int (cN S.1 n 0))]) [1, 2, 0] d_M_plain_6 rfl (by decide) rfl ?_
  refine ep_iload_n (j := 2) d_M_plain_7 rfl rfl ?_
  refine ep_iconst (v := 1) d_M_plain_8 (by decide) ?_
  refine ep_icmp_ne (tgt := 25) d_M_plain_9 (by decide) (fun z => absurd h1 z) (fun _ => ?_)
  refine ep_aload_n (j := 0) d_M_plain_12 rfl rfl ?_
  refine ep_aload_n (j := 0) d_M_plain_13 rfl rfl ?_
  refine ep_getf (fi := 4) (v := .ref 18) d_M_plain_14 cl5 lf_M_13 (by decide) rfl rfl ?_
  refine ep_iload_n (j := 1) d_M_plain_17 rfl rfl ?_
  refine ep_val (N := S.1) d_M_plain_18 hd.b.1.2 (by omega) hV ?_
  refine ep_callVw2 (As := [.int (cN S.1 n 1)]) (st := []) d_M_plain_19 lk_M_133 cal_M_emitId tm_M_emitId ts_M_emitId rfl rfl rfl (Nat.le_of_ble_eq_true rfl) (Nat.le_of_ble_eq_true rfl) rfl rfl (M_emitId hd ho (cN S.1 n 1)) (fun rI1 rA1 hd1 => ?_)
  refine ep_goto (tgt := 245) d_M_plain_22 (by decide) ?_
  exact ep_vret d_M_plain_245 rfl (VP_ok rfl (by unfold plM; rw [if_pos h1]) hd1)
set_option maxHeartbeats 4000000 in
set_option maxRecDepth 100000 in
theorem M_plain_2 (hd : MV S rI rA w) (ho : w.O.length ≤ 120) (hk : w.K.length ≤ 380) (hl : S.1.length ≤ 300) (n : Int32) (hV : Vd S.1 n) (h2 : cN S.1 n 0 = 2) : EvP m_M_plain (d + 2) 0 [(0, .ref 16), (1, .int n)] [] (HC X cI cA rI rA ol J) (VP X cI cA ol J S none (plM S.1 n w)) := by
  have hk0 := h2
  refine ep_aload_n (j := 0) d_M_plain_0 rfl rfl ?_
  refine ep_getf (fi := 3) (v := .ref 17) d_M_plain_1 cl5 lf_M_7 (by decide) rfl rfl ?_
  refine ep_iload_n (j := 1) d_M_plain_4 rfl rfl ?_
  refine ep_kind (N := S.1) d_M_plain_5 hd.b.1.2 (by omega) hV ?_
  refine ep_istore_n (lv' := [(0, .ref 16), (1, .int n), (2, .int (cN S.1 n 0))]) [1, 2, 0] d_M_plain_6 rfl (by decide) rfl ?_
  refine ep_iload_n (j := 2) d_M_plain_7 rfl rfl ?_
  refine ep_iconst (v := 1) d_M_plain_8 (by decide) ?_
  refine ep_icmp_ne (tgt := 25) d_M_plain_9 (by decide) (fun _ => ?_) (fun z => absurd z (by rw [hk0]; decide))
  refine ep_iload_n (j := 2) d_M_plain_25 rfl rfl ?_
  refine ep_iconst (v := 2) d_M_plain_26 (by decide) ?_
  refine ep_icmp_ne (tgt := 63) d_M_plain_27 (by decide) (fun z => absurd h2 z) (fun _ => ?_)
  refine ep_aload_n (j := 0) d_M_plain_30 rfl rfl ?_
  refine ep_bipush (v := 78) d_M_plain_31 (by decide) ?_
  refine ep_callVw2 (As := [.int 78]) (st := []) d_M_plain_33 lk_M_105 cal_M_emit tm_M_emit ts_M_emit rfl rfl rfl (Nat.le_of_ble_eq_true rfl) (Nat.le_of_ble_eq_true rfl) rfl rfl (M_emit hd ho 78) (fun rI1 rA1 hd1 => ?_)
  refine ep_aload_n (j := 0) d_M_plain_36 rfl rfl ?_
  refine ep_iconst (v := 5) d_M_plain_37 (by decide) ?_
  refine ep_bipush (v := 69) d_M_plain_38 (by decide) ?_
  refine ep_callVw2 (As := [.int 5, .int 69]) (st := []) d_M_plain_40 lk_M_123 cal_M_push tm_M_push ts_M_push rfl rfl rfl (Nat.le_of_ble_eq_true rfl) (Nat.le_of_ble_eq_true rfl) rfl rfl (M_pushW hd1 (Nat.lt_of_le_of_lt (Nat.le_of_eq ((congrArg List.length eM_K.1).trans rfl)) (show w.K.length + 0 < 400 by omega)) 5 69) (fun rI2 rA2 hd2 => ?_)
  refine ep_aload_n (j := 0) d_M_plain_43 rfl rfl ?_
  refine ep_iconst (v := 3) d_M_plain_44 (by decide) ?_
  refine ep_iload_n (j := 1) d_M_plain_45 rfl rfl ?_
  refine ep_callVw2 (As := [.int 3, .int n]) (st := []) d_M_plain_46 lk_M_123 cal_M_push tm_M_push ts_M_push rfl rfl rfl (Nat.le_of_ble_eq_true rfl) (Nat.le_of_ble_eq_true rfl) rfl rfl (M_pushW hd2 (Nat.lt_of_le_of_lt (Nat.le_of_eq (congrArg (· + 1) ((congrArg List.length eM_K.1).trans rfl))) (show w.K.length + 1 < 400 by omega)) 3 n) (fun rI3 rA3 hd3 => ?_)
  refine ep_aload_n (j := 0) d_M_plain_49 rfl rfl ?_
  refine ep_iconst (v := 1) d_M_plain_50 (by decide) ?_
  refine ep_aload_n (j := 0) d_M_plain_51 rfl rfl ?_
  refine ep_getf (fi := 5) (v := .ref 19) d_M_plain_52 cl5 lf_M_16 (by decide) rfl rfl ?_
  refine ep_iload_n (j := 1) d_M_plain_55 rfl rfl ?_
  refine ep_fst (N := S.1) d_M_plain_56 hd3.b.1.2 (by omega) hV ?_
  refine ep_callVw2 (As := [.int 1, .int (cN S.1 n 2)]) (st := []) d_M_plain_57 lk_M_123 cal_M_push tm_M_push ts_M_push rfl rfl rfl (Nat.le_of_ble_eq_true rfl) (Nat.le_of_ble_eq_true rfl) rfl rfl (M_pushW hd3 (Nat.lt_of_le_of_lt (Nat.le_of_eq (congrArg (· + 1) (congrArg (· + 1) ((congrArg List.length eM_K.1).trans rfl)))) (show w.K.length + 2 < 400 by omega)) 1 (cN S.1 n 2)) (fun rI4 rA4 hd4 => ?_)
  refine ep_goto (tgt := 245) d_M_plain_60 (by decide) ?_
  exact ep_vret d_M_plain_245 rfl (VP_ok rfl (by unfold plM; rw [if_neg (by rw [hk0]; decide), if_pos h2]) hd4)
set_option maxHeartbeats 4000000 in
set_option maxRecDepth 100000 in
theorem M_plain_3 (hd : MV S rI rA w) (ho : w.O.length ≤ 120) (hk : w.K.length ≤ 380) (hl : S.1.length ≤ 300) (n : Int32) (hV : Vd S.1 n) (h3 : cN S.1 n 0 = 3) (hV2 : Vd S.1 (cN S.1 n 2)) : EvP m_M_plain (d + 2) 0 [(0, .ref 16), (1, .int n)] [] (HC X cI cA rI rA ol J) (VP X cI cA ol J S none (plM S.1 n w)) := by
  have hk0 := h3
  refine ep_aload_n (j := 0) d_M_plain_0 rfl rfl ?_
  refine ep_getf (fi := 3) (v := .ref 17) d_M_plain_1 cl5 lf_M_7 (by decide) rfl rfl ?_
  refine ep_iload_n (j := 1) d_M_plain_4 rfl rfl ?_
  refine ep_kind (N := S.1) d_M_plain_5 hd.b.1.2 (by omega) hV ?_
  refine ep_istore_n (lv' := [(0, .ref 16), (1, .int n), (2, .int (cN S.1 n 0))]) [1, 2, 0] d_M_plain_6 rfl (by decide) rfl ?_
  refine ep_iload_n (j := 2) d_M_plain_7 rfl rfl ?_
  refine ep_iconst (v := 1) d_M_plain_8 (by decide) ?_
  refine ep_icmp_ne (tgt := 25) d_M_plain_9 (by decide) (fun _ => ?_) (fun z => absurd z (by rw [hk0]; decide))
  refine ep_iload_n (j := 2) d_M_plain_25 rfl rfl ?_
  refine ep_iconst (v := 2) d_M_plain_26 (by decide) ?_
  refine ep_icmp_ne (tgt := 63) d_M_plain_27 (by decide) (fun _ => ?_) (fun z => absurd z (by rw [hk0]; decide))
  refine ep_iload_n (j := 2) d_M_plain_63 rfl rfl ?_
  refine ep_iconst (v := 3) d_M_plain_64 (by decide) ?_
  refine ep_icmp_ne (tgt := 126) d_M_plain_65 (by decide) (fun z => absurd h3 z) (fun _ => ?_)
  refine ep_aload_n (j := 0) d_M_plain_68 rfl rfl ?_
  refine ep_getf (fi := 3) (v := .ref 17) d_M_plain_69 cl5 lf_M_7 (by decide) rfl rfl ?_
  refine ep_aload_n (j := 0) d_M_plain_72 rfl rfl ?_
  refine ep_getf (fi := 5) (v := .ref 19) d_M_plain_73 cl5 lf_M_16 (by decide) rfl rfl ?_
  refine ep_iload_n (j := 1) d_M_plain_76 rfl rfl ?_
  refine ep_fst (N := S.1) d_M_plain_77 hd.b.1.2 (by omega) hV ?_
  refine ep_kind (N := S.1) d_M_plain_78 hd.b.1.2 (by omega) hV2 ?_
  refine ep_iconst (v := 2) d_M_plain_79 (by decide) ?_
  refine ep_icmp_ne (tgt := 87) d_M_plain_80 (by decide) (fun c80 => ?_) (fun c80 => ?_)
  · refine ep_iconst (v := 0) d_M_plain_87 (by decide) ?_
    refine ep_istore_n (lv' := [(0, .ref 16), (1, .int n), (2, .int (cN S.1 n 0)), (3, .int 0)]) [1, 2, 3, 0] d_M_plain_88 rfl (by decide) rfl ?_
    refine ep_iload_n (j := 3) d_M_plain_89 rfl rfl ?_
    refine ep_if_eq (tgt := 106) d_M_plain_90 (by decide) (fun _ => ?_) (fun z => absurd (by decide) z)
    refine ep_aload_n (j := 0) d_M_plain_106 rfl rfl ?_
    refine ep_iconst (v := 4) d_M_plain_107 (by decide) ?_
    refine ep_iload_n (j := 1) d_M_plain_108 rfl rfl ?_
    refine ep_callVw2 (As := [.int 4, .int n]) (st := []) d_M_plain_109 lk_M_123 cal_M_push tm_M_push ts_M_push rfl rfl rfl (Nat.le_of_ble_eq_true rfl) (Nat.le_of_ble_eq_true rfl) rfl rfl (M_pushW hd (Nat.lt_of_le_of_lt (Nat.le_of_eq rfl) (show w.K.length + 0 < 400 by omega)) 4 n) (fun rI1 rA1 hd1 => ?_)
    refine ep_aload_n (j := 0) d_M_plain_112 rfl rfl ?_
    refine ep_iconst (v := 1) d_M_plain_113 (by decide) ?_
    refine ep_aload_n (j := 0) d_M_plain_114 rfl rfl ?_
    refine ep_getf (fi := 5) (v := .ref 19) d_M_plain_115 cl5 lf_M_16 (by decide) rfl rfl ?_
    refine ep_iload_n (j := 1) d_M_plain_118 rfl rfl ?_
    refine ep_fst (N := S.1) d_M_plain_119 hd1.b.1.2 (by omega) hV ?_
    refine ep_callVw2 (As := [.int 1, .int (cN S.1 n 2)]) (st := []) d_M_plain_120 lk_M_123 cal_M_push tm_M_push ts_M_push rfl rfl rfl (Nat.le_of_ble_eq_true rfl) (Nat.le_of_ble_eq_true rfl) rfl rfl (M_pushW hd1 (Nat.lt_of_le_of_lt (Nat.le_of_eq (congrArg (· + 1) rfl)) (show w.K.length + 1 < 400 by omega)) 1 (cN S.1 n 2)) (fun rI2 rA2 hd2 => ?_)
    refine ep_goto (tgt := 245) d_M_plain_123 (by decide) ?_
    exact ep_vret d_M_plain_245 rfl (VP_ok rfl (by unfold plM; rw [if_neg (by rw [hk0]; decide), if_neg (by rw [hk0]; decide), if_pos h3, if_neg c80]) hd2)
  · refine ep_iconst (v := 1) d_M_plain_83 (by decide) ?_
    refine ep_goto (tgt := 88) d_M_plain_84 (by decide) ?_
    refine ep_istore_n (lv' := [(0, .ref 16), (1, .int n), (2, .int (cN S.1 n 0)), (3, .int 1)]) [1, 2, 3, 0] d_M_plain_88 rfl (by decide) rfl ?_
    refine ep_iload_n (j := 3) d_M_plain_89 rfl rfl ?_
    refine ep_if_eq (tgt := 106) d_M_plain_90 (by decide) (fun z => absurd z (by decide)) (fun _ => ?_)
    refine ep_aload_n (j := 0) d_M_plain_93 rfl rfl ?_
    refine ep_bipush (v := 78) d_M_plain_94 (by decide) ?_
    refine ep_callVw2 (As := [.int 78]) (st := []) d_M_plain_96 lk_M_105 cal_M_emit tm_M_emit ts_M_emit rfl rfl rfl (Nat.le_of_ble_eq_true rfl) (Nat.le_of_ble_eq_true rfl) rfl rfl (M_emit hd ho 78) (fun rI3 rA3 hd3 => ?_)
    refine ep_aload_n (j := 0) d_M_plain_99 rfl rfl ?_
    refine ep_iconst (v := 5) d_M_plain_100 (by decide) ?_
    refine ep_bipush (v := 69) d_M_plain_101 (by decide) ?_
    refine ep_callVw2 (As := [.int 5, .int 69]) (st := []) d_M_plain_103 lk_M_123 cal_M_push tm_M_push ts_M_push rfl rfl rfl (Nat.le_of_ble_eq_true rfl) (Nat.le_of_ble_eq_true rfl) rfl rfl (M_pushW hd3 (Nat.lt_of_le_of_lt (Nat.le_of_eq ((congrArg List.length eM_K.1).trans rfl)) (show w.K.length + 0 < 400 by omega)) 5 69) (fun rI4 rA4 hd4 => ?_)
    refine ep_aload_n (j := 0) d_M_plain_106 rfl rfl ?_
    refine ep_iconst (v := 4) d_M_plain_107 (by decide) ?_
    refine ep_iload_n (j := 1) d_M_plain_108 rfl rfl ?_
    refine ep_callVw2 (As := [.int 4, .int n]) (st := []) d_M_plain_109 lk_M_123 cal_M_push tm_M_push ts_M_push rfl rfl rfl (Nat.le_of_ble_eq_true rfl) (Nat.le_of_ble_eq_true rfl) rfl rfl (M_pushW hd4 (Nat.lt_of_le_of_lt (Nat.le_of_eq (congrArg (· + 1) ((congrArg List.length eM_K.1).trans rfl))) (show w.K.length + 1 < 400 by omega)) 4 n) (fun rI5 rA5 hd5 => ?_)
    refine ep_aload_n (j := 0) d_M_plain_112 rfl rfl ?_
    refine ep_iconst (v := 1) d_M_plain_113 (by decide) ?_
    refine ep_aload_n (j := 0) d_M_plain_114 rfl rfl ?_
    refine ep_getf (fi := 5) (v := .ref 19) d_M_plain_115 cl5 lf_M_16 (by decide) rfl rfl ?_
    refine ep_iload_n (j := 1) d_M_plain_118 rfl rfl ?_
    refine ep_fst (N := S.1) d_M_plain_119 hd5.b.1.2 (by omega) hV ?_
    refine ep_callVw2 (As := [.int 1, .int (cN S.1 n 2)]) (st := []) d_M_plain_120 lk_M_123 cal_M_push tm_M_push ts_M_push rfl rfl rfl (Nat.le_of_ble_eq_true rfl) (Nat.le_of_ble_eq_true rfl) rfl rfl (M_pushW hd5 (Nat.lt_of_le_of_lt (Nat.le_of_eq (congrArg (· + 1) (congrArg (· + 1) ((congrArg List.length eM_K.1).trans rfl)))) (show w.K.length + 2 < 400 by omega)) 1 (cN S.1 n 2)) (fun rI6 rA6 hd6 => ?_)
    refine ep_goto (tgt := 245) d_M_plain_123 (by decide) ?_
    exact ep_vret d_M_plain_245 rfl (VP_ok rfl (by unfold plM; rw [if_neg (by rw [hk0]; decide), if_neg (by rw [hk0]; decide), if_pos h3, if_pos c80]) hd6)
set_option maxHeartbeats 4000000 in
set_option maxRecDepth 100000 in
theorem M_plain_8 (hd : MV S rI rA w) (ho : w.O.length ≤ 120) (hk : w.K.length ≤ 380) (hl : S.1.length ≤ 300) (n : Int32) (hV : Vd S.1 n) (h8 : cN S.1 n 0 = 8) : EvP m_M_plain (d + 2) 0 [(0, .ref 16), (1, .int n)] [] (HC X cI cA rI rA ol J) (VP X cI cA ol J S none (plM S.1 n w)) := by
  have hk0 := h8
  refine ep_aload_n (j := 0) d_M_plain_0 rfl rfl ?_
  refine ep_getf (fi := 3) (v := .ref 17) d_M_plain_1 cl5 lf_M_7 (by decide) rfl rfl ?_
  refine ep_iload_n (j := 1) d_M_plain_4 rfl rfl ?_
  refine ep_kind (N := S.1) d_M_plain_5 hd.b.1.2 (by omega) hV ?_
  refine ep_istore_n (lv' := [(0, .ref 16), (1, .int n), (2, .int (cN S.1 n 0))]) [1, 2, 0] d_M_plain_6 rfl (by decide) rfl ?_
  refine ep_iload_n (j := 2) d_M_plain_7 rfl rfl ?_
  refine ep_iconst (v := 1) d_M_plain_8 (by decide) ?_
  refine ep_icmp_ne (tgt := 25) d_M_plain_9 (by decide) (fun _ => ?_) (fun z => absurd z (by rw [hk0]; decide))
  refine ep_iload_n (j := 2) d_M_plain_25 rfl rfl ?_
  refine ep_iconst (v := 2) d_M_plain_26 (by decide) ?_
  refine ep_icmp_ne (tgt := 63) d_M_plain_27 (by decide) (fun _ => ?_) (fun z => absurd z (by rw [hk0]; decide))
  refine ep_iload_n (j := 2) d_M_plain_63 rfl rfl ?_
  refine ep_iconst (v := 3) d_M_plain_64 (by decide) ?_
  refine ep_icmp_ne (tgt := 126) d_M_plain_65 (by decide) (fun _ => ?_) (fun z => absurd z (by rw [hk0]; decide))
  refine ep_iload_n (j := 2) d_M_plain_126 rfl rfl ?_
  refine ep_bipush (v := 8) d_M_plain_127 (by decide) ?_
  refine ep_icmp_ne (tgt := 166) d_M_plain_129 (by decide) (fun z => absurd h8 z) (fun _ => ?_)
  refine ep_aload_n (j := 0) d_M_plain_132 rfl rfl ?_
  refine ep_bipush (v := 70) d_M_plain_133 (by decide) ?_
  refine ep_callVw2 (As := [.int 70]) (st := []) d_M_plain_135 lk_M_105 cal_M_emit tm_M_emit ts_M_emit rfl rfl rfl (Nat.le_of_ble_eq_true rfl) (Nat.le_of_ble_eq_true rfl) rfl rfl (M_emit hd ho 70) (fun rI1 rA1 hd1 => ?_)
  refine ep_aload_n (j := 0) d_M_plain_138 rfl rfl ?_
  refine ep_iconst (v := 5) d_M_plain_139 (by decide) ?_
  refine ep_bipush (v := 69) d_M_plain_140 (by decide) ?_
  refine ep_callVw2 (As := [.int 5, .int 69]) (st := []) d_M_plain_142 lk_M_123 cal_M_push tm_M_push ts_M_push rfl rfl rfl (Nat.le_of_ble_eq_true rfl) (Nat.le_of_ble_eq_true rfl) rfl rfl (M_pushW hd1 (Nat.lt_of_le_of_lt (Nat.le_of_eq ((congrArg List.length eM_K.1).trans rfl)) (show w.K.length + 0 < 400 by omega)) 5 69) (fun rI2 rA2 hd2 => ?_)
  refine ep_aload_n (j := 0) d_M_plain_145 rfl rfl ?_
  refine ep_bipush (v := 6) d_M_plain_146 (by decide) ?_
  refine ep_iload_n (j := 1) d_M_plain_148 rfl rfl ?_
  refine ep_callVw2 (As := [.int 6, .int n]) (st := []) d_M_plain_149 lk_M_123 cal_M_push tm_M_push ts_M_push rfl rfl rfl (Nat.le_of_ble_eq_true rfl) (Nat.le_of_ble_eq_true rfl) rfl rfl (M_pushW hd2 (Nat.lt_of_le_of_lt (Nat.le_of_eq (congrArg (· + 1) ((congrArg List.length eM_K.1).trans rfl))) (show w.K.length + 1 < 400 by omega)) 6 n) (fun rI3 rA3 hd3 => ?_)
  refine ep_aload_n (j := 0) d_M_plain_152 rfl rfl ?_
  refine ep_iconst (v := 0) d_M_plain_153 (by decide) ?_
  refine ep_aload_n (j := 0) d_M_plain_154 rfl rfl ?_
  refine ep_getf (fi := 5) (v := .ref 19) d_M_plain_155 cl5 lf_M_16 (by decide) rfl rfl ?_
  refine ep_iload_n (j := 1) d_M_plain_158 rfl rfl ?_
  refine ep_fst (N := S.1) d_M_plain_159 hd3.b.1.2 (by omega) hV ?_
  refine ep_callVw2 (As := [.int 0, .int (cN S.1 n 2)]) (st := []) d_M_plain_160 lk_M_123 cal_M_push tm_M_push ts_M_push rfl rfl rfl (Nat.le_of_ble_eq_true rfl) (Nat.le_of_ble_eq_true rfl) rfl rfl (M_pushW hd3 (Nat.lt_of_le_of_lt (Nat.le_of_eq (congrArg (· + 1) (congrArg (· + 1) ((congrArg List.length eM_K.1).trans rfl)))) (show w.K.length + 2 < 400 by omega)) 0 (cN S.1 n 2)) (fun rI4 rA4 hd4 => ?_)
  refine ep_goto (tgt := 245) d_M_plain_163 (by decide) ?_
  exact ep_vret d_M_plain_245 rfl (VP_ok rfl (by unfold plM; rw [if_neg (by rw [hk0]; decide), if_neg (by rw [hk0]; decide), if_neg (by rw [hk0]; decide), if_pos h8]) hd4)
set_option maxHeartbeats 4000000 in
set_option maxRecDepth 100000 in
theorem M_plain_7 (hd : MV S rI rA w) (ho : w.O.length ≤ 120) (hk : w.K.length ≤ 380) (hl : S.1.length ≤ 300) (n : Int32) (hV : Vd S.1 n) (h7 : cN S.1 n 0 = 7) {b : Nat} (hb : cN S.1 n 1 = nI b) (hb2 : b ≤ 999999) : EvP m_M_plain (d + 2) 0 [(0, .ref 16), (1, .int n)] [] (HC X cI cA rI rA ol J) (VP X cI cA ol J S none (plM S.1 n w)) := by
  have hk0 := h7
  refine ep_aload_n (j := 0) d_M_plain_0 rfl rfl ?_
  refine ep_getf (fi := 3) (v := .ref 17) d_M_plain_1 cl5 lf_M_7 (by decide) rfl rfl ?_
  refine ep_iload_n (j := 1) d_M_plain_4 rfl rfl ?_
  refine ep_kind (N := S.1) d_M_plain_5 hd.b.1.2 (by omega) hV ?_
  refine ep_istore_n (lv' := [(0, .ref 16), (1, .int n), (2, .int (cN S.1 n 0))]) [1, 2, 0] d_M_plain_6 rfl (by decide) rfl ?_
  refine ep_iload_n (j := 2) d_M_plain_7 rfl rfl ?_
  refine ep_iconst (v := 1) d_M_plain_8 (by decide) ?_
  refine ep_icmp_ne (tgt := 25) d_M_plain_9 (by decide) (fun _ => ?_) (fun z => absurd z (by rw [hk0]; decide))
  refine ep_iload_n (j := 2) d_M_plain_25 rfl rfl ?_
  refine ep_iconst (v := 2) d_M_plain_26 (by decide) ?_
  refine ep_icmp_ne (tgt := 63) d_M_plain_27 (by decide) (fun _ => ?_) (fun z => absurd z (by rw [hk0]; decide))
  refine ep_iload_n (j := 2) d_M_plain_63 rfl rfl ?_
  refine ep_iconst (v := 3) d_M_plain_64 (by decide) ?_
  refine ep_icmp_ne (tgt := 126) d_M_plain_65 (by decide) (fun _ => ?_) (fun z => absurd z (by rw [hk0]; decide))
  refine ep_iload_n (j := 2) d_M_plain_126 rfl rfl ?_
  refine ep_bipush (v := 8) d_M_plain_127 (by decide) ?_
  refine ep_icmp_ne (tgt := 166) d_M_plain_129 (by decide) (fun _ => ?_) (fun z => absurd z (by rw [hk0]; decide))
  refine ep_iload_n (j := 2) d_M_plain_166 rfl rfl ?_
  refine ep_bipush (v := 7) d_M_plain_167 (by decide) ?_
  refine ep_icmp_ne (tgt := 208) d_M_plain_169 (by decide) (fun z => absurd h7 z) (fun _ => ?_)
  refine ep_aload_n (j := 0) d_M_plain_172 rfl rfl ?_
  refine ep_bipush (v := 65) d_M_plain_173 (by decide) ?_
  refine ep_callVw2 (As := [.int 65]) (st := []) d_M_plain_175 lk_M_105 cal_M_emit tm_M_emit ts_M_emit rfl rfl rfl (Nat.le_of_ble_eq_true rfl) (Nat.le_of_ble_eq_true rfl) rfl rfl (M_emit hd ho 65) (fun rI1 rA1 hd1 => ?_)
  refine ep_aload_n (j := 0) d_M_plain_178 rfl rfl ?_
  refine ep_aload_n (j := 0) d_M_plain_179 rfl rfl ?_
  refine ep_getf (fi := 4) (v := .ref 18) d_M_plain_180 cl5 lf_M_13 (by decide) rfl rfl ?_
  refine ep_iload_n (j := 1) d_M_plain_183 rfl rfl ?_
  refine ep_val (N := S.1) d_M_plain_184 hd1.b.1.2 (by omega) hV ?_
  refine ep_callVw2 (As := [.int (cN S.1 n 1)]) (st := []) d_M_plain_185 lk_M_130 cal_M_emitNumber tm_M_emitNumber ts_M_emitNumber rfl rfl rfl (Nat.le_of_ble_eq_true rfl) (Nat.le_of_ble_eq_true rfl) rfl rfl (M_emitNumber hd1 (eM_o ho) (v := cN S.1 n 1) hb hb2) (fun rI2 rA2 hd2 => ?_)
  refine ep_aload_n (j := 0) d_M_plain_188 rfl rfl ?_
  refine ep_bipush (v := 95) d_M_plain_189 (by decide) ?_
  refine ep_callVw2 (As := [.int 95]) (st := []) d_M_plain_191 lk_M_105 cal_M_emit tm_M_emit ts_M_emit rfl rfl rfl (Nat.le_of_ble_eq_true rfl) (Nat.le_of_ble_eq_true rfl) rfl rfl (M_emit hd2 (eL_o _ _ (eM_o ho)) 95) (fun rI3 rA3 hd3 => ?_)
  refine ep_aload_n (j := 0) d_M_plain_194 rfl rfl ?_
  refine ep_iconst (v := 0) d_M_plain_195 (by decide) ?_
  refine ep_aload_n (j := 0) d_M_plain_196 rfl rfl ?_
  refine ep_getf (fi := 5) (v := .ref 19) d_M_plain_197 cl5 lf_M_16 (by decide) rfl rfl ?_
  refine ep_iload_n (j := 1) d_M_plain_200 rfl rfl ?_
  refine ep_fst (N := S.1) d_M_plain_201 hd3.b.1.2 (by omega) hV ?_
  refine ep_callVw2 (As := [.int 0, .int (cN S.1 n 2)]) (st := []) d_M_plain_202 lk_M_123 cal_M_push tm_M_push ts_M_push rfl rfl rfl (Nat.le_of_ble_eq_true rfl) (Nat.le_of_ble_eq_true rfl) rfl rfl (M_pushW hd3 (Nat.lt_of_le_of_lt (Nat.le_of_eq ((congrArg List.length eM_K.1).trans ((congrArg List.length (eL_K _ _).1).trans ((congrArg List.length eM_K.1).trans rfl)))) (show w.K.length + 0 < 400 by omega)) 0 (cN S.1 n 2)) (fun rI4 rA4 hd4 => ?_)
  refine ep_goto (tgt := 245) d_M_plain_205 (by decide) ?_
  exact ep_vret d_M_plain_245 rfl (VP_ok rfl (by unfold plM; rw [if_neg (by rw [hk0]; decide), if_neg (by rw [hk0]; decide), if_neg (by rw [hk0]; decide), if_neg (by rw [hk0]; decide), if_pos h7]) hd4)
set_option maxHeartbeats 4000000 in
set_option maxRecDepth 100000 in
theorem M_plain_w (hd : MV S rI rA w) (ho : w.O.length ≤ 120) (hk : w.K.length ≤ 380) (hl : S.1.length ≤ 300) (n : Int32) (hV : Vd S.1 n) (hk0 : ¬ cN S.1 n 0 = 1 ∧ ¬ cN S.1 n 0 = 2 ∧ ¬ cN S.1 n 0 = 3 ∧ ¬ cN S.1 n 0 = 8 ∧ ¬ cN S.1 n 0 = 7) : EvP m_M_plain (d + 2) 0 [(0, .ref 16), (1, .int n)] [] (HC X cI cA rI rA ol J) (VP X cI cA ol J S none (plM S.1 n w)) := by
  refine ep_aload_n (j := 0) d_M_plain_0 rfl rfl ?_
  refine ep_getf (fi := 3) (v := .ref 17) d_M_plain_1 cl5 lf_M_7 (by decide) rfl rfl ?_
  refine ep_iload_n (j := 1) d_M_plain_4 rfl rfl ?_
  refine ep_kind (N := S.1) d_M_plain_5 hd.b.1.2 (by omega) hV ?_
  refine ep_istore_n (lv' := [(0, .ref 16), (1, .int n), (2, .int (cN S.1 n 0))]) [1, 2, 0] d_M_plain_6 rfl (by decide) rfl ?_
  refine ep_iload_n (j := 2) d_M_plain_7 rfl rfl ?_
  refine ep_iconst (v := 1) d_M_plain_8 (by decide) ?_
  refine ep_icmp_ne (tgt := 25) d_M_plain_9 (by decide) (fun _ => ?_) (fun z => absurd z hk0.1)
  refine ep_iload_n (j := 2) d_M_plain_25 rfl rfl ?_
  refine ep_iconst (v := 2) d_M_plain_26 (by decide) ?_
  refine ep_icmp_ne (tgt := 63) d_M_plain_27 (by decide) (fun _ => ?_) (fun z => absurd z hk0.2.1)
  refine ep_iload_n (j := 2) d_M_plain_63 rfl rfl ?_
  refine ep_iconst (v := 3) d_M_plain_64 (by decide) ?_
  refine ep_icmp_ne (tgt := 126) d_M_plain_65 (by decide) (fun _ => ?_) (fun z => absurd z hk0.2.2.1)
  refine ep_iload_n (j := 2) d_M_plain_126 rfl rfl ?_
  refine ep_bipush (v := 8) d_M_plain_127 (by decide) ?_
  refine ep_icmp_ne (tgt := 166) d_M_plain_129 (by decide) (fun _ => ?_) (fun z => absurd z hk0.2.2.2.1)
  refine ep_iload_n (j := 2) d_M_plain_166 rfl rfl ?_
  refine ep_bipush (v := 7) d_M_plain_167 (by decide) ?_
  refine ep_icmp_ne (tgt := 208) d_M_plain_169 (by decide) (fun _ => ?_) (fun z => absurd z hk0.2.2.2.2)
  refine ep_aload_n (j := 0) d_M_plain_208 rfl rfl ?_
  refine ep_join (pc2 := 231) (lv2 := [(0, .ref 16), (1, .int n), (2, .int (cN S.1 n 0))]) (st2 := [.int (if cN S.1 n 0 = 4 then 80 else if cN S.1 n 0 = 5 then 82 else 75), .ref 16]) ?_ (fun k231 => ?_)
  · refine ep_callVw2 (As := [.int (if cN S.1 n 0 = 4 then 80 else if cN S.1 n 0 = 5 then 82 else 75)]) (st := []) d_M_plain_231 lk_M_105 cal_M_emit tm_M_emit ts_M_emit rfl rfl rfl (Nat.le_of_ble_eq_true rfl) (Nat.le_of_ble_eq_true rfl) rfl rfl (M_emit hd ho (if cN S.1 n 0 = 4 then 80 else if cN S.1 n 0 = 5 then 82 else 75)) (fun rI1 rA1 hd1 => ?_)
    refine ep_aload_n (j := 0) d_M_plain_234 rfl rfl ?_
    refine ep_iconst (v := 0) d_M_plain_235 (by decide) ?_
    refine ep_aload_n (j := 0) d_M_plain_236 rfl rfl ?_
    refine ep_getf (fi := 5) (v := .ref 19) d_M_plain_237 cl5 lf_M_16 (by decide) rfl rfl ?_
    refine ep_iload_n (j := 1) d_M_plain_240 rfl rfl ?_
    refine ep_fst (N := S.1) d_M_plain_241 hd1.b.1.2 (by omega) hV ?_
    refine ep_callVw2 (As := [.int 0, .int (cN S.1 n 2)]) (st := []) d_M_plain_242 lk_M_123 cal_M_push tm_M_push ts_M_push rfl rfl rfl (Nat.le_of_ble_eq_true rfl) (Nat.le_of_ble_eq_true rfl) rfl rfl (M_pushW hd1 (Nat.lt_of_le_of_lt (Nat.le_of_eq ((congrArg List.length eM_K.1).trans rfl)) (show w.K.length + 0 < 400 by omega)) 0 (cN S.1 n 2)) (fun rI2 rA2 hd2 => ?_)
    exact ep_vret d_M_plain_245 rfl (VP_ok rfl (by unfold plM; rw [if_neg (hk0.1), if_neg (hk0.2.1), if_neg (hk0.2.2.1), if_neg (hk0.2.2.2.1), if_neg (hk0.2.2.2.2)]) hd2)
  · refine ep_iload_n (j := 2) d_M_plain_209 rfl rfl ?_
    refine ep_iconst (v := 4) d_M_plain_210 (by decide) ?_
    refine ep_icmp_ne (tgt := 219) d_M_plain_211 (by decide) (fun c211 => ?_) (fun c211 => ?_)
    · refine ep_iload_n (j := 2) d_M_plain_219 rfl rfl ?_
      refine ep_iconst (v := 5) d_M_plain_220 (by decide) ?_
      refine ep_icmp_ne (tgt := 229) d_M_plain_221 (by decide) (fun c221 => ?_) (fun c221 => ?_)
      · refine ep_bipush (v := 75) d_M_plain_229 (by decide) ?_
        refine ep_cg (y := if cN S.1 n 0 = 4 then 80 else if cN S.1 n 0 = 5 then 82 else 75) (by rw [if_neg c211, if_neg c221]) ?_
        exact k231
      · refine ep_bipush (v := 82) d_M_plain_224 (by decide) ?_
        refine ep_goto (tgt := 231) d_M_plain_226 (by decide) ?_
        refine ep_cg (y := if cN S.1 n 0 = 4 then 80 else if cN S.1 n 0 = 5 then 82 else 75) (by rw [if_neg c211, if_pos c221]) ?_
        exact k231
    · refine ep_bipush (v := 80) d_M_plain_214 (by decide) ?_
      refine ep_goto (tgt := 231) d_M_plain_216 (by decide) ?_
      refine ep_cg (y := if cN S.1 n 0 = 4 then 80 else if cN S.1 n 0 = 5 then 82 else 75) ((if_pos c211).symm) ?_
      exact k231
theorem M_plain (hd : MV S rI rA w) (ho : w.O.length ≤ 120) (hk : w.K.length ≤ 380) (hl : S.1.length ≤ 300) (n : Int32) (hV : Vd S.1 n) (hW : WN S.1) : EvP m_M_plain (d + 2) 0 [(0, .ref 16), (1, .int n)] [] (HC X cI cA rI rA ol J) (VP X cI cA ol J S none (plM S.1 n w)) := by
  have ni := hW.ni hV
  by_cases h1 : cN S.1 n 0 = 1
  · exact M_plain_1 hd ho hk hl n hV h1
  by_cases h2 : cN S.1 n 0 = 2
  · exact M_plain_2 hd ho hk hl n hV h2
  by_cases h3 : cN S.1 n 0 = 3
  · exact M_plain_3 hd ho hk hl n hV h3 ((nk_3 ni h3).elim (eq_vd (by omega) (by decide)) (eq_vd (by omega) (by decide)))
  by_cases h8 : cN S.1 n 0 = 8
  · exact M_plain_8 hd ho hk hl n hV h8
  by_cases h7 : cN S.1 n 0 = 7
  · have q := (nk_7 ni h7).2
    have a1 : (1 : Int32).toInt = 1 := by decide
    have a9 : (999 : Int32).toInt = 999 := by decide
    have u1 := q.1; have u2 := q.2
    rw [i_lt, a1] at u1
    rw [i_le, a9] at u2
    refine M_plain_7 hd ho hk hl n hV h7 (b := (cN S.1 n 1).toInt.toNat) ?_ (by omega)
    apply Int32.toInt_inj.mp
    rw [nI_toInt (by omega)]; omega
  · exact M_plain_w hd ho hk hl n hV ⟨h1, h2, h3, h8, h7⟩
set_option maxHeartbeats 4000000 in
set_option maxRecDepth 100000 in
theorem M_prefix (hd : MV S rI rA w) (ho : w.O.length ≤ 120) (hk : w.K.length ≤ 380) (hl : S.1.length ≤ 300) (n : Int32) (hV : Vd S.1 n) : EvP m_M_prefix (d + 2) 0 [(0, .ref 16), (1, .int n)] [] (HC X cI cA rI rA ol J) (VP X cI cA ol J S none (prM S.1 n w)) := by
  refine ep_aload_n (j := 0) d_M_prefix_0 rfl rfl ?_
  refine ep_iconst (v := 2) d_M_prefix_1 (by decide) ?_
  refine ep_iload_n (j := 1) d_M_prefix_2 rfl rfl ?_
  refine ep_callVw2 (As := [.int 2, .int n]) (st := []) d_M_prefix_3 lk_M_123 cal_M_push tm_M_push ts_M_push rfl rfl rfl (Nat.le_of_ble_eq_true rfl) (Nat.le_of_ble_eq_true rfl) rfl rfl (M_pushW hd (Nat.lt_of_le_of_lt (Nat.le_of_eq rfl) (show w.K.length + 0 < 400 by omega)) 2 n) (fun rI1 rA1 hd1 => ?_)
  refine ep_aload_n (j := 0) d_M_prefix_6 rfl rfl ?_
  refine ep_getf (fi := 3) (v := .ref 17) d_M_prefix_7 cl5 lf_M_7 (by decide) rfl rfl ?_
  refine ep_iload_n (j := 1) d_M_prefix_10 rfl rfl ?_
  refine ep_kind (N := S.1) d_M_prefix_11 hd1.b.1.2 (by omega) hV ?_
  refine ep_iconst (v := 1) d_M_prefix_12 (by decide) ?_
  refine ep_icmp_ne (tgt := 29) d_M_prefix_13 (by decide) (fun c13 => ?_) (fun c13 => ?_)
  · refine ep_aload_n (j := 0) d_M_prefix_29 rfl rfl ?_
    refine ep_join (pc2 := 45) (lv2 := [(0, .ref 16), (1, .int n)]) (st2 := [.int (if cN S.1 n 0 = 2 then 3 else 4), .ref 16]) ?_ (fun k45 => ?_)
    · refine ep_iload_n (j := 1) d_M_prefix_45 rfl rfl ?_
      refine ep_callVw2 (As := [.int (if cN S.1 n 0 = 2 then 3 else 4), .int n]) (st := []) d_M_prefix_46 lk_M_123 cal_M_push tm_M_push ts_M_push rfl rfl rfl (Nat.le_of_ble_eq_true rfl) (Nat.le_of_ble_eq_true rfl) rfl rfl (M_pushW hd1 (Nat.lt_of_le_of_lt (Nat.le_of_eq (congrArg (· + 1) rfl)) (show w.K.length + 1 < 400 by omega)) (if cN S.1 n 0 = 2 then 3 else 4) n) (fun rI2 rA2 hd2 => ?_)
      refine ep_aload_n (j := 0) d_M_prefix_49 rfl rfl ?_
      refine ep_iconst (v := 1) d_M_prefix_50 (by decide) ?_
      refine ep_aload_n (j := 0) d_M_prefix_51 rfl rfl ?_
      refine ep_getf (fi := 5) (v := .ref 19) d_M_prefix_52 cl5 lf_M_16 (by decide) rfl rfl ?_
      refine ep_iload_n (j := 1) d_M_prefix_55 rfl rfl ?_
      refine ep_fst (N := S.1) d_M_prefix_56 hd2.b.1.2 (by omega) hV ?_
      refine ep_callVw2 (As := [.int 1, .int (cN S.1 n 2)]) (st := []) d_M_prefix_57 lk_M_123 cal_M_push tm_M_push ts_M_push rfl rfl rfl (Nat.le_of_ble_eq_true rfl) (Nat.le_of_ble_eq_true rfl) rfl rfl (M_pushW hd2 (Nat.lt_of_le_of_lt (Nat.le_of_eq (congrArg (· + 1) (congrArg (· + 1) rfl))) (show w.K.length + 2 < 400 by omega)) 1 (cN S.1 n 2)) (fun rI3 rA3 hd3 => ?_)
      exact ep_vret d_M_prefix_60 rfl (VP_ok rfl (by unfold prM; rw [if_neg c13]) hd3)
    · refine ep_aload_n (j := 0) d_M_prefix_30 rfl rfl ?_
      refine ep_getf (fi := 3) (v := .ref 17) d_M_prefix_31 cl5 lf_M_7 (by decide) rfl rfl ?_
      refine ep_iload_n (j := 1) d_M_prefix_34 rfl rfl ?_
      refine ep_kind (N := S.1) d_M_prefix_35 hd1.b.1.2 (by omega) hV ?_
      refine ep_iconst (v := 2) d_M_prefix_36 (by decide) ?_
      refine ep_icmp_ne (tgt := 44) d_M_prefix_37 (by decide) (fun c37 => ?_) (fun c37 => ?_)
      · refine ep_iconst (v := 4) d_M_prefix_44 (by decide) ?_
        refine ep_cg (y := if cN S.1 n 0 = 2 then 3 else 4) ((if_neg c37).symm) ?_
        exact k45
      · refine ep_iconst (v := 3) d_M_prefix_40 (by decide) ?_
        refine ep_goto (tgt := 45) d_M_prefix_41 (by decide) ?_
        refine ep_cg (y := if cN S.1 n 0 = 2 then 3 else 4) ((if_pos c37).symm) ?_
        exact k45
  · refine ep_aload_n (j := 0) d_M_prefix_16 rfl rfl ?_
    refine ep_aload_n (j := 0) d_M_prefix_17 rfl rfl ?_
    refine ep_getf (fi := 4) (v := .ref 18) d_M_prefix_18 cl5 lf_M_13 (by decide) rfl rfl ?_
    refine ep_iload_n (j := 1) d_M_prefix_21 rfl rfl ?_
    refine ep_val (N := S.1) d_M_prefix_22 hd1.b.1.2 (by omega) hV ?_
    refine ep_callVw2 (As := [.int (cN S.1 n 1)]) (st := []) d_M_prefix_23 lk_M_133 cal_M_emitId tm_M_emitId ts_M_emitId rfl rfl rfl (Nat.le_of_ble_eq_true rfl) (Nat.le_of_ble_eq_true rfl) rfl rfl (M_emitId hd1 ho (cN S.1 n 1)) (fun rI4 rA4 hd4 => ?_)
    refine ep_goto (tgt := 60) d_M_prefix_26 (by decide) ?_
    exact ep_vret d_M_prefix_60 rfl (VP_ok rfl (by unfold prM; rw [if_pos c13]) hd4)
set_option maxHeartbeats 4000000 in
set_option maxRecDepth 100000 in
theorem M_params (hd : MV S rI rA w) (ho : w.O.length ≤ 120) (hk : w.K.length ≤ 380) (hl : S.1.length ≤ 300) (n : Int32) (hV : Vd S.1 n) : EvP m_M_params (d + 2) 0 [(0, .ref 16), (1, .int n)] [] (HC X cI cA rI rA ol J) (VP X cI cA ol J S none (paM S.1 n w)) := by
  refine ep_aload_n (j := 0) d_M_params_0 rfl rfl ?_
  refine ep_getf (fi := 7) (v := .ref 21) d_M_params_1 cl5 lf_M_22 (by decide) rfl rfl ?_
  refine ep_iconst (v := 3) d_M_params_4 (by decide) ?_
  refine ep_iload_n (j := 1) d_M_params_5 rfl rfl ?_
  refine ep_imul d_M_params_6 ?_
  refine ep_prt (N := S.1) (x := n) 0 (by decide) (fun i e => by rw [e, m3, Nat.add_zero]) d_M_params_7 hd.b.1.2 (by omega) hV ?_
  refine ep_if_ge (tgt := 17) d_M_params_8 (by decide) (fun c8 => ?_) (fun c8 => ?_)
  · refine ep_aload_n (j := 0) d_M_params_17 rfl rfl ?_
    refine ep_iload_n (j := 1) d_M_params_18 rfl rfl ?_
    refine ep_callVw2 (As := [.int n]) (st := []) d_M_params_19 lk_M_136 cal_M_pushParts tm_M_pushParts ts_M_pushParts rfl rfl rfl (Nat.le_of_ble_eq_true rfl) (Nat.le_of_ble_eq_true rfl) rfl rfl (M_pushParts hd ho (Nat.le_trans (Nat.le_of_eq rfl) (show w.K.length + 0 ≤ 390 by omega)) hl n hV) (fun rI1 rA1 hd1 => ?_)
    exact ep_vret d_M_params_22 rfl (VP_ok rfl (by unfold paM; rw [if_neg (Int32.not_lt.mpr c8)]) hd1)
  · refine ep_aload_n (j := 0) d_M_params_11 rfl rfl ?_
    refine ep_bipush (v := 118) d_M_params_12 (by decide) ?_
    refine ep_callVw2 (As := [.int 118]) (st := []) d_M_params_14 lk_M_105 cal_M_emit tm_M_emit ts_M_emit rfl rfl rfl (Nat.le_of_ble_eq_true rfl) (Nat.le_of_ble_eq_true rfl) rfl rfl (M_emit hd ho 118) (fun rI2 rA2 hd2 => ?_)
    refine ep_aload_n (j := 0) d_M_params_17 rfl rfl ?_
    refine ep_iload_n (j := 1) d_M_params_18 rfl rfl ?_
    refine ep_callVw2 (As := [.int n]) (st := []) d_M_params_19 lk_M_136 cal_M_pushParts tm_M_pushParts ts_M_pushParts rfl rfl rfl (Nat.le_of_ble_eq_true rfl) (Nat.le_of_ble_eq_true rfl) rfl rfl (M_pushParts hd2 (eM_o ho) (Nat.le_trans (Nat.le_of_eq ((congrArg List.length eM_K.1).trans rfl)) (show w.K.length + 0 ≤ 390 by omega)) hl n hV) (fun rI3 rA3 hd3 => ?_)
    exact ep_vret d_M_params_22 rfl (VP_ok rfl (by unfold paM; rw [if_pos (Int32.not_le.mp c8)]) hd3)
end MWC
