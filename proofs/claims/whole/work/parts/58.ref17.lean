/-! the reference: doTask and write; by program (wip/whole/gen58.py) -/
section MWD
variable {d : Nat} {X : Nat × (Nat → Int32)} {cI : Nat → Int32} {cA : Nat → Nat → Int32} {rI : Nat → Int32} {rA : Nat → Nat → Int32} {ol : Int64} {J : mH} {S : CSt} {w : WM}
theorem doM_2 (N : List (List Int32)) (n : Int32) (w : WM) : doM N 2 n w = (WM.u_E w (w.E ++ [n])) := by unfold doM; rw [if_pos rfl]
theorem doM_5 (N : List (List Int32)) (n : Int32) (w : WM) : doM N 5 n w = eM n w := by unfold doM; rw [if_neg (by decide), if_pos rfl]
theorem doM_3 (N : List (List Int32)) (n : Int32) (w : WM) : doM N 3 n w = eL (idM (cN N n 1)) w := by unfold doM; rw [if_neg (by decide), if_neg (by decide), if_pos rfl]
theorem doM_4 (N : List (List Int32)) (n : Int32) (w : WM) : doM N 4 n w = pPs N n (pS 5 69 (eM 73 w)) := by unfold doM; rw [if_neg (by decide), if_neg (by decide), if_neg (by decide), if_pos rfl]
theorem doM_6 (N : List (List Int32)) (n : Int32) (w : WM) : doM N 6 n w = paM N n w := by unfold doM; rw [if_neg (by decide), if_neg (by decide), if_neg (by decide), if_neg (by decide), if_pos rfl]
theorem doM_1 (N : List (List Int32)) (n : Int32) (w : WM) : doM N 1 n w = if tix w.E n < 0 then prM N n w else toM n w := by unfold doM; rw [if_neg (by decide), if_neg (by decide), if_neg (by decide), if_neg (by decide), if_neg (by decide), if_pos rfl]
theorem doM_0 (N : List (List Int32)) (n : Int32) (w : WM) : doM N 0 n w = if cN N n 0 = 0 then eM (ltM (cN N n 1)) w else if cN N n 0 = 9 then eL (liM N n) w else if tix w.E n < 0 then plM N n (pS 2 n w) else toM n w := by unfold doM; rw [if_neg (by decide), if_neg (by decide), if_neg (by decide), if_neg (by decide), if_neg (by decide), if_neg (by decide)]
set_option maxHeartbeats 4000000 in
set_option maxRecDepth 100000 in
theorem M_do2 (hd : MV S rI rA w) (ho : w.O.length ≤ 120) (he : w.E.length ≤ 300) (hk : w.K.length ≤ 300) (hl : S.1.length ≤ 300) (n : Int32)  : EvP m_M_doTask (d + 3) 0 [(0, .ref 16), (1, .int 2), (2, .int n)] [] (HC X cI cA rI rA ol J) (VP X cI cA ol J S none (doM S.1 2 n w)) := by
  refine ep_iload_n (j := 1) d_M_doTask_0 rfl rfl ?_
  refine ep_iconst (v := 2) d_M_doTask_1 (by decide) ?_
  refine ep_icmp_ne (tgt := 28) d_M_doTask_2 (by decide) (fun z => absurd (by decide) z) (fun _ => ?_)
  refine ep_aload_n (j := 0) d_M_doTask_5 rfl rfl ?_
  refine ep_getf (fi := 17) (v := .ref 26) d_M_doTask_6 cl5 lf_M_37 (by decide) rfl rfl ?_
  refine ep_aload_n (j := 0) d_M_doTask_9 rfl rfl ?_
  refine ep_getf (fi := 16) (v := .int (nI w.E.length)) d_M_doTask_10 cl5 lf_M_110 (by decide) rfl (congrArg (fun z => some (Value.int z)) hd.ez) ?_
  refine ep_iload_n (j := 2) d_M_doTask_13 rfl rfl ?_
  refine ep_iast' (h2 := HC X cI cA rI (va_up rA 17 (upd (rA 17) w.E.length n)) ol J) w.E.length d_M_doTask_14 rfl rfl (by omega) (by decide) hA_26 ?_
  refine ep_aload_n (j := 0) d_M_doTask_15 rfl rfl ?_
  refine ep_dup d_M_doTask_16 rfl ?_
  refine ep_getf (fi := 16) (v := .int (nI w.E.length)) d_M_doTask_17 cl5 lf_M_110 (by decide) rfl (congrArg (fun z => some (Value.int z)) hd.ez) ?_
  refine ep_iconst (v := 1) d_M_doTask_20 (by decide) ?_
  refine ep_iadd d_M_doTask_21 ?_
  refine ep_cg (y := nI (w.E.length + 1)) (nI_1 _) ?_
  refine ep_putf' (fi := 16) (h2 := HC X cI cA (upd rI 16 (nI (w.E.length + 1))) (va_up rA 17 (upd (rA 17) w.E.length n)) ol J) d_M_doTask_22 cl5 lf_M_110 (by decide) (Or.inl rfl) rfl rfl hI_16_16 ?_
  refine ep_goto (tgt := 183) d_M_doTask_25 (by decide) ?_
  exact ep_vret d_M_doTask_183 rfl (VP_ok rfl ((doM_2 _ _ _).symm) (hd.ent n))
set_option maxHeartbeats 4000000 in
set_option maxRecDepth 100000 in
theorem M_do5 (hd : MV S rI rA w) (ho : w.O.length ≤ 120) (he : w.E.length ≤ 300) (hk : w.K.length ≤ 300) (hl : S.1.length ≤ 300) (n : Int32)  : EvP m_M_doTask (d + 3) 0 [(0, .ref 16), (1, .int 5), (2, .int n)] [] (HC X cI cA rI rA ol J) (VP X cI cA ol J S none (doM S.1 5 n w)) := by
  refine ep_iload_n (j := 1) d_M_doTask_0 rfl rfl ?_
  refine ep_iconst (v := 2) d_M_doTask_1 (by decide) ?_
  refine ep_icmp_ne (tgt := 28) d_M_doTask_2 (by decide) (fun _ => ?_) (fun z => absurd z (by decide))
  refine ep_iload_n (j := 1) d_M_doTask_28 rfl rfl ?_
  refine ep_iconst (v := 5) d_M_doTask_29 (by decide) ?_
  refine ep_icmp_ne (tgt := 41) d_M_doTask_30 (by decide) (fun z => absurd (by decide) z) (fun _ => ?_)
  refine ep_aload_n (j := 0) d_M_doTask_33 rfl rfl ?_
  refine ep_iload_n (j := 2) d_M_doTask_34 rfl rfl ?_
  refine ep_callVw2 (As := [.int n]) (st := []) d_M_doTask_35 lk_M_105 cal_M_emit tm_M_emit ts_M_emit rfl rfl rfl (Nat.le_of_ble_eq_true rfl) (Nat.le_of_ble_eq_true rfl) rfl rfl (M_emit hd ho n) (fun rI1 rA1 hd1 => ?_)
  refine ep_goto (tgt := 183) d_M_doTask_38 (by decide) ?_
  exact ep_vret d_M_doTask_183 rfl (VP_ok rfl ((doM_5 _ _ _).symm) hd1)
set_option maxHeartbeats 4000000 in
set_option maxRecDepth 100000 in
theorem M_do3 (hd : MV S rI rA w) (ho : w.O.length ≤ 120) (he : w.E.length ≤ 300) (hk : w.K.length ≤ 300) (hl : S.1.length ≤ 300) (n : Int32) (hV : Vd S.1 n) : EvP m_M_doTask (d + 3) 0 [(0, .ref 16), (1, .int 3), (2, .int n)] [] (HC X cI cA rI rA ol J) (VP X cI cA ol J S none (doM S.1 3 n w)) := by
  refine ep_iload_n (j := 1) d_M_doTask_0 rfl rfl ?_
  refine ep_iconst (v := 2) d_M_doTask_1 (by decide) ?_
  refine ep_icmp_ne (tgt := 28) d_M_doTask_2 (by decide) (fun _ => ?_) (fun z => absurd z (by decide))
  refine ep_iload_n (j := 1) d_M_doTask_28 rfl rfl ?_
  refine ep_iconst (v := 5) d_M_doTask_29 (by decide) ?_
  refine ep_icmp_ne (tgt := 41) d_M_doTask_30 (by decide) (fun _ => ?_) (fun z => absurd z (by decide))
  refine ep_iload_n (j := 1) d_M_doTask_41 rfl rfl ?_
  refine ep_iconst (v := 3) d_M_doTask_42 (by decide) ?_
  refine ep_icmp_ne (tgt := 59) d_M_doTask_43 (by decide) (fun z => absurd (by decide) z) (fun _ => ?_)
  refine ep_aload_n (j := 0) d_M_doTask_46 rfl rfl ?_
  refine ep_aload_n (j := 0) d_M_doTask_47 rfl rfl ?_
  refine ep_getf (fi := 4) (v := .ref 18) d_M_doTask_48 cl5 lf_M_13 (by decide) rfl rfl ?_
  refine ep_iload_n (j := 2) d_M_doTask_51 rfl rfl ?_
  refine ep_val (N := S.1) d_M_doTask_52 hd.b.1.2 (by omega) hV ?_
  refine ep_callVw2 (As := [.int (cN S.1 n 1)]) (st := []) d_M_doTask_53 lk_M_133 cal_M_emitId tm_M_emitId ts_M_emitId rfl rfl rfl (Nat.le_of_ble_eq_true rfl) (Nat.le_of_ble_eq_true rfl) rfl rfl (M_emitId hd ho (cN S.1 n 1)) (fun rI1 rA1 hd1 => ?_)
  refine ep_goto (tgt := 183) d_M_doTask_56 (by decide) ?_
  exact ep_vret d_M_doTask_183 rfl (VP_ok rfl ((doM_3 _ _ _).symm) hd1)
set_option maxHeartbeats 4000000 in
set_option maxRecDepth 100000 in
theorem M_do4 (hd : MV S rI rA w) (ho : w.O.length ≤ 120) (he : w.E.length ≤ 300) (hk : w.K.length ≤ 300) (hl : S.1.length ≤ 300) (n : Int32) (hV : Vd S.1 n) : EvP m_M_doTask (d + 3) 0 [(0, .ref 16), (1, .int 4), (2, .int n)] [] (HC X cI cA rI rA ol J) (VP X cI cA ol J S none (doM S.1 4 n w)) := by
  refine ep_iload_n (j := 1) d_M_doTask_0 rfl rfl ?_
  refine ep_iconst (v := 2) d_M_doTask_1 (by decide) ?_
  refine ep_icmp_ne (tgt := 28) d_M_doTask_2 (by decide) (fun _ => ?_) (fun z => absurd z (by decide))
  refine ep_iload_n (j := 1) d_M_doTask_28 rfl rfl ?_
  refine ep_iconst (v := 5) d_M_doTask_29 (by decide) ?_
  refine ep_icmp_ne (tgt := 41) d_M_doTask_30 (by decide) (fun _ => ?_) (fun z => absurd z (by decide))
  refine ep_iload_n (j := 1) d_M_doTask_41 rfl rfl ?_
  refine ep_iconst (v := 3) d_M_doTask_42 (by decide) ?_
  refine ep_icmp_ne (tgt := 59) d_M_doTask_43 (by decide) (fun _ => ?_) (fun z => absurd z (by decide))
  refine ep_iload_n (j := 1) d_M_doTask_59 rfl rfl ?_
  refine ep_iconst (v := 4) d_M_doTask_60 (by decide) ?_
  refine ep_icmp_ne (tgt := 85) d_M_doTask_61 (by decide) (fun z => absurd (by decide) z) (fun _ => ?_)
  refine ep_aload_n (j := 0) d_M_doTask_64 rfl rfl ?_
  refine ep_bipush (v := 73) d_M_doTask_65 (by decide) ?_
  refine ep_callVw2 (As := [.int 73]) (st := []) d_M_doTask_67 lk_M_105 cal_M_emit tm_M_emit ts_M_emit rfl rfl rfl (Nat.le_of_ble_eq_true rfl) (Nat.le_of_ble_eq_true rfl) rfl rfl (M_emit hd ho 73) (fun rI1 rA1 hd1 => ?_)
  refine ep_aload_n (j := 0) d_M_doTask_70 rfl rfl ?_
  refine ep_iconst (v := 5) d_M_doTask_71 (by decide) ?_
  refine ep_bipush (v := 69) d_M_doTask_72 (by decide) ?_
  refine ep_callVw2 (As := [.int 5, .int 69]) (st := []) d_M_doTask_74 lk_M_123 cal_M_push tm_M_push ts_M_push rfl rfl rfl (Nat.le_of_ble_eq_true rfl) (Nat.le_of_ble_eq_true rfl) rfl rfl (M_pushW hd1 (Nat.lt_of_le_of_lt (Nat.le_of_eq ((congrArg List.length eM_K.1).trans rfl)) (show w.K.length + 0 < 400 by omega)) 5 69) (fun rI2 rA2 hd2 => ?_)
  refine ep_aload_n (j := 0) d_M_doTask_77 rfl rfl ?_
  refine ep_iload_n (j := 2) d_M_doTask_78 rfl rfl ?_
  refine ep_callVw2 (As := [.int n]) (st := []) d_M_doTask_79 lk_M_136 cal_M_pushParts tm_M_pushParts ts_M_pushParts rfl rfl rfl (Nat.le_of_ble_eq_true rfl) (Nat.le_of_ble_eq_true rfl) rfl rfl (M_pushParts hd2 (eM_o ho) (Nat.le_trans (Nat.le_of_eq (congrArg (· + 1) ((congrArg List.length eM_K.1).trans rfl))) (show w.K.length + 1 ≤ 390 by omega)) hl n hV) (fun rI3 rA3 hd3 => ?_)
  refine ep_goto (tgt := 183) d_M_doTask_82 (by decide) ?_
  exact ep_vret d_M_doTask_183 rfl (VP_ok rfl ((doM_4 _ _ _).symm) hd3)
set_option maxHeartbeats 4000000 in
set_option maxRecDepth 100000 in
theorem M_do6 (hd : MV S rI rA w) (ho : w.O.length ≤ 120) (he : w.E.length ≤ 300) (hk : w.K.length ≤ 300) (hl : S.1.length ≤ 300) (n : Int32) (hV : Vd S.1 n) : EvP m_M_doTask (d + 3) 0 [(0, .ref 16), (1, .int 6), (2, .int n)] [] (HC X cI cA rI rA ol J) (VP X cI cA ol J S none (doM S.1 6 n w)) := by
  refine ep_iload_n (j := 1) d_M_doTask_0 rfl rfl ?_
  refine ep_iconst (v := 2) d_M_doTask_1 (by decide) ?_
  refine ep_icmp_ne (tgt := 28) d_M_doTask_2 (by decide) (fun _ => ?_) (fun z => absurd z (by decide))
  refine ep_iload_n (j := 1) d_M_doTask_28 rfl rfl ?_
  refine ep_iconst (v := 5) d_M_doTask_29 (by decide) ?_
  refine ep_icmp_ne (tgt := 41) d_M_doTask_30 (by decide) (fun _ => ?_) (fun z => absurd z (by decide))
  refine ep_iload_n (j := 1) d_M_doTask_41 rfl rfl ?_
  refine ep_iconst (v := 3) d_M_doTask_42 (by decide) ?_
  refine ep_icmp_ne (tgt := 59) d_M_doTask_43 (by decide) (fun _ => ?_) (fun z => absurd z (by decide))
  refine ep_iload_n (j := 1) d_M_doTask_59 rfl rfl ?_
  refine ep_iconst (v := 4) d_M_doTask_60 (by decide) ?_
  refine ep_icmp_ne (tgt := 85) d_M_doTask_61 (by decide) (fun _ => ?_) (fun z => absurd z (by decide))
  refine ep_iload_n (j := 1) d_M_doTask_85 rfl rfl ?_
  refine ep_bipush (v := 6) d_M_doTask_86 (by decide) ?_
  refine ep_icmp_ne (tgt := 99) d_M_doTask_88 (by decide) (fun z => absurd (by decide) z) (fun _ => ?_)
  refine ep_aload_n (j := 0) d_M_doTask_91 rfl rfl ?_
  refine ep_iload_n (j := 2) d_M_doTask_92 rfl rfl ?_
  refine ep_callVw2 (As := [.int n]) (st := []) d_M_doTask_93 lk_M_139 cal_M_params tm_M_params ts_M_params rfl rfl rfl (Nat.le_of_ble_eq_true rfl) (Nat.le_of_ble_eq_true rfl) rfl rfl (M_params hd ho (by omega) hl n hV) (fun rI1 rA1 hd1 => ?_)
  refine ep_goto (tgt := 183) d_M_doTask_96 (by decide) ?_
  exact ep_vret d_M_doTask_183 rfl (VP_ok rfl ((doM_6 _ _ _).symm) hd1)
set_option maxHeartbeats 4000000 in
set_option maxRecDepth 100000 in
theorem M_do1n (hd : MV S rI rA w) (ho : w.O.length ≤ 120) (he : w.E.length ≤ 300) (hk : w.K.length ≤ 300) (hl : S.1.length ≤ 300) (n : Int32) (hV : Vd S.1 n) (hT : tix w.E n < 0) : EvP m_M_doTask (d + 3) 0 [(0, .ref 16), (1, .int 1), (2, .int n)] [] (HC X cI cA rI rA ol J) (VP X cI cA ol J S none (doM S.1 1 n w)) := by
  refine ep_iload_n (j := 1) d_M_doTask_0 rfl rfl ?_
  refine ep_iconst (v := 2) d_M_doTask_1 (by decide) ?_
  refine ep_icmp_ne (tgt := 28) d_M_doTask_2 (by decide) (fun _ => ?_) (fun z => absurd z (by decide))
  refine ep_iload_n (j := 1) d_M_doTask_28 rfl rfl ?_
  refine ep_iconst (v := 5) d_M_doTask_29 (by decide) ?_
  refine ep_icmp_ne (tgt := 41) d_M_doTask_30 (by decide) (fun _ => ?_) (fun z => absurd z (by decide))
  refine ep_iload_n (j := 1) d_M_doTask_41 rfl rfl ?_
  refine ep_iconst (v := 3) d_M_doTask_42 (by decide) ?_
  refine ep_icmp_ne (tgt := 59) d_M_doTask_43 (by decide) (fun _ => ?_) (fun z => absurd z (by decide))
  refine ep_iload_n (j := 1) d_M_doTask_59 rfl rfl ?_
  refine ep_iconst (v := 4) d_M_doTask_60 (by decide) ?_
  refine ep_icmp_ne (tgt := 85) d_M_doTask_61 (by decide) (fun _ => ?_) (fun z => absurd z (by decide))
  refine ep_iload_n (j := 1) d_M_doTask_85 rfl rfl ?_
  refine ep_bipush (v := 6) d_M_doTask_86 (by decide) ?_
  refine ep_icmp_ne (tgt := 99) d_M_doTask_88 (by decide) (fun _ => ?_) (fun z => absurd z (by decide))
  refine ep_iload_n (j := 1) d_M_doTask_99 rfl rfl ?_
  refine ep_iconst (v := 1) d_M_doTask_100 (by decide) ?_
  refine ep_icmp_ne (tgt := 120) d_M_doTask_101 (by decide) (fun z => absurd (by decide) z) (fun _ => ?_)
  refine ep_aload_n (j := 0) d_M_doTask_104 rfl rfl ?_
  refine ep_iload_n (j := 2) d_M_doTask_105 rfl rfl ?_
  refine ep_callVw2 (As := [.int n]) (st := []) d_M_doTask_106 lk_M_142 cal_M_told tm_M_told ts_M_told rfl rfl rfl (Nat.le_of_ble_eq_true rfl) (Nat.le_of_ble_eq_true rfl) rfl rfl (M_told0 hd (by omega) n hT) (fun rI1 rA1 hd1 => ?_)
  refine ep_if_ne (tgt := 183) d_M_doTask_109 (by decide) (fun z => absurd (by decide) z) (fun _ => ?_)
  refine ep_aload_n (j := 0) d_M_doTask_112 rfl rfl ?_
  refine ep_iload_n (j := 2) d_M_doTask_113 rfl rfl ?_
  refine ep_callVw2 (As := [.int n]) (st := []) d_M_doTask_114 lk_M_145 cal_M_prefix tm_M_prefix ts_M_prefix rfl rfl rfl (Nat.le_of_ble_eq_true rfl) (Nat.le_of_ble_eq_true rfl) rfl rfl (M_prefix hd1 ho (by omega) hl n hV) (fun rI2 rA2 hd2 => ?_)
  refine ep_goto (tgt := 183) d_M_doTask_117 (by decide) ?_
  exact ep_vret d_M_doTask_183 rfl (VP_ok rfl (((doM_1 _ _ _).trans (if_pos hT)).symm) hd2)
set_option maxHeartbeats 4000000 in
set_option maxRecDepth 100000 in
theorem M_do1t (hd : MV S rI rA w) (ho : w.O.length ≤ 120) (he : w.E.length ≤ 300) (hk : w.K.length ≤ 300) (hl : S.1.length ≤ 300) (n : Int32) (hV : Vd S.1 n) (hT : ¬ tix w.E n < 0) : EvP m_M_doTask (d + 3) 0 [(0, .ref 16), (1, .int 1), (2, .int n)] [] (HC X cI cA rI rA ol J) (VP X cI cA ol J S none (doM S.1 1 n w)) := by
  refine ep_iload_n (j := 1) d_M_doTask_0 rfl rfl ?_
  refine ep_iconst (v := 2) d_M_doTask_1 (by decide) ?_
  refine ep_icmp_ne (tgt := 28) d_M_doTask_2 (by decide) (fun _ => ?_) (fun z => absurd z (by decide))
  refine ep_iload_n (j := 1) d_M_doTask_28 rfl rfl ?_
  refine ep_iconst (v := 5) d_M_doTask_29 (by decide) ?_
  refine ep_icmp_ne (tgt := 41) d_M_doTask_30 (by decide) (fun _ => ?_) (fun z => absurd z (by decide))
  refine ep_iload_n (j := 1) d_M_doTask_41 rfl rfl ?_
  refine ep_iconst (v := 3) d_M_doTask_42 (by decide) ?_
  refine ep_icmp_ne (tgt := 59) d_M_doTask_43 (by decide) (fun _ => ?_) (fun z => absurd z (by decide))
  refine ep_iload_n (j := 1) d_M_doTask_59 rfl rfl ?_
  refine ep_iconst (v := 4) d_M_doTask_60 (by decide) ?_
  refine ep_icmp_ne (tgt := 85) d_M_doTask_61 (by decide) (fun _ => ?_) (fun z => absurd z (by decide))
  refine ep_iload_n (j := 1) d_M_doTask_85 rfl rfl ?_
  refine ep_bipush (v := 6) d_M_doTask_86 (by decide) ?_
  refine ep_icmp_ne (tgt := 99) d_M_doTask_88 (by decide) (fun _ => ?_) (fun z => absurd z (by decide))
  refine ep_iload_n (j := 1) d_M_doTask_99 rfl rfl ?_
  refine ep_iconst (v := 1) d_M_doTask_100 (by decide) ?_
  refine ep_icmp_ne (tgt := 120) d_M_doTask_101 (by decide) (fun z => absurd (by decide) z) (fun _ => ?_)
  refine ep_aload_n (j := 0) d_M_doTask_104 rfl rfl ?_
  refine ep_iload_n (j := 2) d_M_doTask_105 rfl rfl ?_
  refine ep_callVw2 (As := [.int n]) (st := []) d_M_doTask_106 lk_M_142 cal_M_told tm_M_told ts_M_told rfl rfl rfl (Nat.le_of_ble_eq_true rfl) (Nat.le_of_ble_eq_true rfl) rfl rfl (M_told1 hd ho (by omega) n hT) (fun rI1 rA1 hd1 => ?_)
  refine ep_if_ne (tgt := 183) d_M_doTask_109 (by decide) (fun _ => ?_) (fun z => absurd z (by decide))
  exact ep_vret d_M_doTask_183 rfl (VP_ok rfl (((doM_1 _ _ _).trans (if_neg hT)).symm) hd1)
set_option maxHeartbeats 4000000 in
set_option maxRecDepth 100000 in
theorem M_do0b (hd : MV S rI rA w) (ho : w.O.length ≤ 120) (he : w.E.length ≤ 300) (hk : w.K.length ≤ 300) (hl : S.1.length ≤ 300) (n : Int32) (hV : Vd S.1 n) (h0 : cN S.1 n 0 = 0) : EvP m_M_doTask (d + 3) 0 [(0, .ref 16), (1, .int 0), (2, .int n)] [] (HC X cI cA rI rA ol J) (VP X cI cA ol J S none (doM S.1 0 n w)) := by
  refine ep_iload_n (j := 1) d_M_doTask_0 rfl rfl ?_
  refine ep_iconst (v := 2) d_M_doTask_1 (by decide) ?_
  refine ep_icmp_ne (tgt := 28) d_M_doTask_2 (by decide) (fun _ => ?_) (fun z => absurd z (by decide))
  refine ep_iload_n (j := 1) d_M_doTask_28 rfl rfl ?_
  refine ep_iconst (v := 5) d_M_doTask_29 (by decide) ?_
  refine ep_icmp_ne (tgt := 41) d_M_doTask_30 (by decide) (fun _ => ?_) (fun z => absurd z (by decide))
  refine ep_iload_n (j := 1) d_M_doTask_41 rfl rfl ?_
  refine ep_iconst (v := 3) d_M_doTask_42 (by decide) ?_
  refine ep_icmp_ne (tgt := 59) d_M_doTask_43 (by decide) (fun _ => ?_) (fun z => absurd z (by decide))
  refine ep_iload_n (j := 1) d_M_doTask_59 rfl rfl ?_
  refine ep_iconst (v := 4) d_M_doTask_60 (by decide) ?_
  refine ep_icmp_ne (tgt := 85) d_M_doTask_61 (by decide) (fun _ => ?_) (fun z => absurd z (by decide))
  refine ep_iload_n (j := 1) d_M_doTask_85 rfl rfl ?_
  refine ep_bipush (v := 6) d_M_doTask_86 (by decide) ?_
  refine ep_icmp_ne (tgt := 99) d_M_doTask_88 (by decide) (fun _ => ?_) (fun z => absurd z (by decide))
  refine ep_iload_n (j := 1) d_M_doTask_99 rfl rfl ?_
  refine ep_iconst (v := 1) d_M_doTask_100 (by decide) ?_
  refine ep_icmp_ne (tgt := 120) d_M_doTask_101 (by decide) (fun _ => ?_) (fun z => absurd z (by decide))
  refine ep_aload_n (j := 0) d_M_doTask_120 rfl rfl ?_
  refine ep_getf (fi := 3) (v := .ref 17) d_M_doTask_121 cl5 lf_M_7 (by decide) rfl rfl ?_
  refine ep_iload_n (j := 2) d_M_doTask_124 rfl rfl ?_
  refine ep_kind (N := S.1) d_M_doTask_125 hd.b.1.2 (by omega) hV ?_
  refine ep_if_ne (tgt := 145) d_M_doTask_126 (by decide) (fun z => absurd h0 z) (fun _ => ?_)
  refine ep_aload_n (j := 0) d_M_doTask_129 rfl rfl ?_
  refine ep_aload_n (j := 0) d_M_doTask_130 rfl rfl ?_
  refine ep_getf (fi := 4) (v := .ref 18) d_M_doTask_131 cl5 lf_M_13 (by decide) rfl rfl ?_
  refine ep_iload_n (j := 2) d_M_doTask_134 rfl rfl ?_
  refine ep_val (N := S.1) d_M_doTask_135 hd.b.1.2 (by omega) hV ?_
  refine ep_callSi (As := [.int (cN S.1 n 1)]) (st := [.ref 16]) d_M_doTask_136 (Or.inl lk_M_127) cal_M_letter tm_M_letter ti_M rfl (Nat.le_of_ble_eq_true rfl) (Nat.le_of_ble_eq_true rfl) rfl rfl (M_letter (cN S.1 n 1)) ?_
  refine ep_callVw2 (As := [.int (ltM (cN S.1 n 1))]) (st := []) d_M_doTask_139 lk_M_105 cal_M_emit tm_M_emit ts_M_emit rfl rfl rfl (Nat.le_of_ble_eq_true rfl) (Nat.le_of_ble_eq_true rfl) rfl rfl (M_emit hd ho (ltM (cN S.1 n 1))) (fun rI1 rA1 hd1 => ?_)
  refine ep_goto (tgt := 183) d_M_doTask_142 (by decide) ?_
  exact ep_vret d_M_doTask_183 rfl (VP_ok rfl (((doM_0 _ _ _).trans (if_pos h0)).symm) hd1)
set_option maxHeartbeats 4000000 in
set_option maxRecDepth 100000 in
theorem M_do0l (hd : MV S rI rA w) (ho : w.O.length ≤ 120) (he : w.E.length ≤ 300) (hk : w.K.length ≤ 300) (hl : S.1.length ≤ 300) (n : Int32) (hV : Vd S.1 n) (h0 : ¬ cN S.1 n 0 = 0) (h9 : cN S.1 n 0 = 9) (hV2 : Vd S.1 (cN S.1 n 2)) (hr : ¬ cN S.1 n 1 < -999999 ∧ cN S.1 n 1 ≤ 999999) : EvP m_M_doTask (d + 3) 0 [(0, .ref 16), (1, .int 0), (2, .int n)] [] (HC X cI cA rI rA ol J) (VP X cI cA ol J S none (doM S.1 0 n w)) := by
  refine ep_iload_n (j := 1) d_M_doTask_0 rfl rfl ?_
  refine ep_iconst (v := 2) d_M_doTask_1 (by decide) ?_
  refine ep_icmp_ne (tgt := 28) d_M_doTask_2 (by decide) (fun _ => ?_) (fun z => absurd z (by decide))
  refine ep_iload_n (j := 1) d_M_doTask_28 rfl rfl ?_
  refine ep_iconst (v := 5) d_M_doTask_29 (by decide) ?_
  refine ep_icmp_ne (tgt := 41) d_M_doTask_30 (by decide) (fun _ => ?_) (fun z => absurd z (by decide))
  refine ep_iload_n (j := 1) d_M_doTask_41 rfl rfl ?_
  refine ep_iconst (v := 3) d_M_doTask_42 (by decide) ?_
  refine ep_icmp_ne (tgt := 59) d_M_doTask_43 (by decide) (fun _ => ?_) (fun z => absurd z (by decide))
  refine ep_iload_n (j := 1) d_M_doTask_59 rfl rfl ?_
  refine ep_iconst (v := 4) d_M_doTask_60 (by decide) ?_
  refine ep_icmp_ne (tgt := 85) d_M_doTask_61 (by decide) (fun _ => ?_) (fun z => absurd z (by decide))
  refine ep_iload_n (j := 1) d_M_doTask_85 rfl rfl ?_
  refine ep_bipush (v := 6) d_M_doTask_86 (by decide) ?_
  refine ep_icmp_ne (tgt := 99) d_M_doTask_88 (by decide) (fun _ => ?_) (fun z => absurd z (by decide))
  refine ep_iload_n (j := 1) d_M_doTask_99 rfl rfl ?_
  refine ep_iconst (v := 1) d_M_doTask_100 (by decide) ?_
  refine ep_icmp_ne (tgt := 120) d_M_doTask_101 (by decide) (fun _ => ?_) (fun z => absurd z (by decide))
  refine ep_aload_n (j := 0) d_M_doTask_120 rfl rfl ?_
  refine ep_getf (fi := 3) (v := .ref 17) d_M_doTask_121 cl5 lf_M_7 (by decide) rfl rfl ?_
  refine ep_iload_n (j := 2) d_M_doTask_124 rfl rfl ?_
  refine ep_kind (N := S.1) d_M_doTask_125 hd.b.1.2 (by omega) hV ?_
  refine ep_if_ne (tgt := 145) d_M_doTask_126 (by decide) (fun _ => ?_) (fun z => absurd z h0)
  refine ep_aload_n (j := 0) d_M_doTask_145 rfl rfl ?_
  refine ep_getf (fi := 3) (v := .ref 17) d_M_doTask_146 cl5 lf_M_7 (by decide) rfl rfl ?_
  refine ep_iload_n (j := 2) d_M_doTask_149 rfl rfl ?_
  refine ep_kind (N := S.1) d_M_doTask_150 hd.b.1.2 (by omega) hV ?_
  refine ep_bipush (v := 9) d_M_doTask_151 (by decide) ?_
  refine ep_icmp_ne (tgt := 164) d_M_doTask_153 (by decide) (fun z => absurd h9 z) (fun _ => ?_)
  refine ep_aload_n (j := 0) d_M_doTask_156 rfl rfl ?_
  refine ep_iload_n (j := 2) d_M_doTask_157 rfl rfl ?_
  refine ep_callVw2 (As := [.int n]) (st := []) d_M_doTask_158 lk_M_148 cal_M_literalOf tm_M_literalOf ts_M_literalOf rfl rfl rfl (Nat.le_of_ble_eq_true rfl) (Nat.le_of_ble_eq_true rfl) rfl rfl (M_literalOf hd ho (by omega) hl n hV hV2 hr) (fun rI1 rA1 hd1 => ?_)
  refine ep_goto (tgt := 183) d_M_doTask_161 (by decide) ?_
  exact ep_vret d_M_doTask_183 rfl (VP_ok rfl (((doM_0 _ _ _).trans ((if_neg h0).trans (if_pos h9))).symm) hd1)
set_option maxHeartbeats 4000000 in
set_option maxRecDepth 100000 in
theorem M_do0n (hd : MV S rI rA w) (ho : w.O.length ≤ 120) (he : w.E.length ≤ 300) (hk : w.K.length ≤ 300) (hl : S.1.length ≤ 300) (n : Int32) (hV : Vd S.1 n) (h0 : ¬ cN S.1 n 0 = 0) (h9 : ¬ cN S.1 n 0 = 9) (hT : tix w.E n < 0) (hW : WN S.1) : EvP m_M_doTask (d + 3) 0 [(0, .ref 16), (1, .int 0), (2, .int n)] [] (HC X cI cA rI rA ol J) (VP X cI cA ol J S none (doM S.1 0 n w)) := by
  refine ep_iload_n (j := 1) d_M_doTask_0 rfl rfl ?_
  refine ep_iconst (v := 2) d_M_doTask_1 (by decide) ?_
  refine ep_icmp_ne (tgt := 28) d_M_doTask_2 (by decide) (fun _ => ?_) (fun z => absurd z (by decide))
  refine ep_iload_n (j := 1) d_M_doTask_28 rfl rfl ?_
  refine ep_iconst (v := 5) d_M_doTask_29 (by decide) ?_
  refine ep_icmp_ne (tgt := 41) d_M_doTask_30 (by decide) (fun _ => ?_) (fun z => absurd z (by decide))
  refine ep_iload_n (j := 1) d_M_doTask_41 rfl rfl ?_
  refine ep_iconst (v := 3) d_M_doTask_42 (by decide) ?_
  refine ep_icmp_ne (tgt := 59) d_M_doTask_43 (by decide) (fun _ => ?_) (fun z => absurd z (by decide))
  refine ep_iload_n (j := 1) d_M_doTask_59 rfl rfl ?_
  refine ep_iconst (v := 4) d_M_doTask_60 (by decide) ?_
  refine ep_icmp_ne (tgt := 85) d_M_doTask_61 (by decide) (fun _ => ?_) (fun z => absurd z (by decide))
  refine ep_iload_n (j := 1) d_M_doTask_85 rfl rfl ?_
  refine ep_bipush (v := 6) d_M_doTask_86 (by decide) ?_
  refine ep_icmp_ne (tgt := 99) d_M_doTask_88 (by decide) (fun _ => ?_) (fun z => absurd z (by decide))
  refine ep_iload_n (j := 1) d_M_doTask_99 rfl rfl ?_
  refine ep_iconst (v := 1) d_M_doTask_100 (by decide) ?_
  refine ep_icmp_ne (tgt := 120) d_M_doTask_101 (by decide) (fun _ => ?_) (fun z => absurd z (by decide))
  refine ep_aload_n (j := 0) d_M_doTask_120 rfl rfl ?_
  refine ep_getf (fi := 3) (v := .ref 17) d_M_doTask_121 cl5 lf_M_7 (by decide) rfl rfl ?_
  refine ep_iload_n (j := 2) d_M_doTask_124 rfl rfl ?_
  refine ep_kind (N := S.1) d_M_doTask_125 hd.b.1.2 (by omega) hV ?_
  refine ep_if_ne (tgt := 145) d_M_doTask_126 (by decide) (fun _ => ?_) (fun z => absurd z h0)
  refine ep_aload_n (j := 0) d_M_doTask_145 rfl rfl ?_
  refine ep_getf (fi := 3) (v := .ref 17) d_M_doTask_146 cl5 lf_M_7 (by decide) rfl rfl ?_
  refine ep_iload_n (j := 2) d_M_doTask_149 rfl rfl ?_
  refine ep_kind (N := S.1) d_M_doTask_150 hd.b.1.2 (by omega) hV ?_
  refine ep_bipush (v := 9) d_M_doTask_151 (by decide) ?_
  refine ep_icmp_ne (tgt := 164) d_M_doTask_153 (by decide) (fun _ => ?_) (fun z => absurd z h9)
  refine ep_aload_n (j := 0) d_M_doTask_164 rfl rfl ?_
  refine ep_iload_n (j := 2) d_M_doTask_165 rfl rfl ?_
  refine ep_callVw2 (As := [.int n]) (st := []) d_M_doTask_166 lk_M_142 cal_M_told tm_M_told ts_M_told rfl rfl rfl (Nat.le_of_ble_eq_true rfl) (Nat.le_of_ble_eq_true rfl) rfl rfl (M_told0 hd (by omega) n hT) (fun rI1 rA1 hd1 => ?_)
  refine ep_if_ne (tgt := 183) d_M_doTask_169 (by decide) (fun z => absurd (by decide) z) (fun _ => ?_)
  refine ep_aload_n (j := 0) d_M_doTask_172 rfl rfl ?_
  refine ep_iconst (v := 2) d_M_doTask_173 (by decide) ?_
  refine ep_iload_n (j := 2) d_M_doTask_174 rfl rfl ?_
  refine ep_callVw2 (As := [.int 2, .int n]) (st := []) d_M_doTask_175 lk_M_123 cal_M_push tm_M_push ts_M_push rfl rfl rfl (Nat.le_of_ble_eq_true rfl) (Nat.le_of_ble_eq_true rfl) rfl rfl (M_pushW hd1 (Nat.lt_of_le_of_lt (Nat.le_of_eq rfl) (show w.K.length + 0 < 400 by omega)) 2 n) (fun rI2 rA2 hd2 => ?_)
  refine ep_aload_n (j := 0) d_M_doTask_178 rfl rfl ?_
  refine ep_iload_n (j := 2) d_M_doTask_179 rfl rfl ?_
  refine ep_callVw2 (As := [.int n]) (st := []) d_M_doTask_180 lk_M_151 cal_M_plain tm_M_plain ts_M_plain rfl rfl rfl (Nat.le_of_ble_eq_true rfl) (Nat.le_of_ble_eq_true rfl) rfl rfl (M_plain hd2 ho (Nat.le_trans (Nat.le_of_eq (congrArg (· + 1) rfl)) (show w.K.length + 1 ≤ 380 by omega)) hl n hV hW) (fun rI3 rA3 hd3 => ?_)
  exact ep_vret d_M_doTask_183 rfl (VP_ok rfl (((doM_0 _ _ _).trans ((if_neg h0).trans ((if_neg h9).trans (if_pos hT)))).symm) hd3)
set_option maxHeartbeats 4000000 in
set_option maxRecDepth 100000 in
theorem M_do0t (hd : MV S rI rA w) (ho : w.O.length ≤ 120) (he : w.E.length ≤ 300) (hk : w.K.length ≤ 300) (hl : S.1.length ≤ 300) (n : Int32) (hV : Vd S.1 n) (h0 : ¬ cN S.1 n 0 = 0) (h9 : ¬ cN S.1 n 0 = 9) (hT : ¬ tix w.E n < 0) : EvP m_M_doTask (d + 3) 0 [(0, .ref 16), (1, .int 0), (2, .int n)] [] (HC X cI cA rI rA ol J) (VP X cI cA ol J S none (doM S.1 0 n w)) := by
  refine ep_iload_n (j := 1) d_M_doTask_0 rfl rfl ?_
  refine ep_iconst (v := 2) d_M_doTask_1 (by decide) ?_
  refine ep_icmp_ne (tgt := 28) d_M_doTask_2 (by decide) (fun _ => ?_) (fun z => absurd z (by decide))
  refine ep_iload_n (j := 1) d_M_doTask_28 rfl rfl ?_
  refine ep_iconst (v := 5) d_M_doTask_29 (by decide) ?_
  refine ep_icmp_ne (tgt := 41) d_M_doTask_30 (by decide) (fun _ => ?_) (fun z => absurd z (by decide))
  refine ep_iload_n (j := 1) d_M_doTask_41 rfl rfl ?_
  refine ep_iconst (v := 3) d_M_doTask_42 (by decide) ?_
  refine ep_icmp_ne (tgt := 59) d_M_doTask_43 (by decide) (fun _ => ?_) (fun z => absurd z (by decide))
  refine ep_iload_n (j := 1) d_M_doTask_59 rfl rfl ?_
  refine ep_iconst (v := 4) d_M_doTask_60 (by decide) ?_
  refine ep_icmp_ne (tgt := 85) d_M_doTask_61 (by decide) (fun _ => ?_) (fun z => absurd z (by decide))
  refine ep_iload_n (j := 1) d_M_doTask_85 rfl rfl ?_
  refine ep_bipush (v := 6) d_M_doTask_86 (by decide) ?_
  refine ep_icmp_ne (tgt := 99) d_M_doTask_88 (by decide) (fun _ => ?_) (fun z => absurd z (by decide))
  refine ep_iload_n (j := 1) d_M_doTask_99 rfl rfl ?_
  refine ep_iconst (v := 1) d_M_doTask_100 (by decide) ?_
  refine ep_icmp_ne (tgt := 120) d_M_doTask_101 (by decide) (fun _ => ?_) (fun z => absurd z (by decide))
  refine ep_aload_n (j := 0) d_M_doTask_120 rfl rfl ?_
  refine ep_getf (fi := 3) (v := .ref 17) d_M_doTask_121 cl5 lf_M_7 (by decide) rfl rfl ?_
  refine ep_iload_n (j := 2) d_M_doTask_124 rfl rfl ?_
  refine ep_kind (N := S.1) d_M_doTask_125 hd.b.1.2 (by omega) hV ?_
  refine ep_if_ne (tgt := 145) d_M_doTask_126 (by decide) (fun _ => ?_) (fun z => absurd z h0)
  refine ep_aload_n (j := 0) d_M_doTask_145 rfl rfl ?_
  refine ep_getf (fi := 3) (v := .ref 17) d_M_doTask_146 cl5 lf_M_7 (by decide) rfl rfl ?_
  refine ep_iload_n (j := 2) d_M_doTask_149 rfl rfl ?_
  refine ep_kind (N := S.1) d_M_doTask_150 hd.b.1.2 (by omega) hV ?_
  refine ep_bipush (v := 9) d_M_doTask_151 (by decide) ?_
  refine ep_icmp_ne (tgt := 164) d_M_doTask_153 (by decide) (fun _ => ?_) (fun z => absurd z h9)
  refine ep_aload_n (j := 0) d_M_doTask_164 rfl rfl ?_
  refine ep_iload_n (j := 2) d_M_doTask_165 rfl rfl ?_
  refine ep_callVw2 (As := [.int n]) (st := []) d_M_doTask_166 lk_M_142 cal_M_told tm_M_told ts_M_told rfl rfl rfl (Nat.le_of_ble_eq_true rfl) (Nat.le_of_ble_eq_true rfl) rfl rfl (M_told1 hd ho (by omega) n hT) (fun rI1 rA1 hd1 => ?_)
  refine ep_if_ne (tgt := 183) d_M_doTask_169 (by decide) (fun _ => ?_) (fun z => absurd z (by decide))
  exact ep_vret d_M_doTask_183 rfl (VP_ok rfl (((doM_0 _ _ _).trans ((if_neg h0).trans ((if_neg h9).trans (if_neg hT)))).symm) hd1)
theorem nk_9 {N : List (List Int32)} {n : Int32} (hN : N.length ≤ 1000) (ni : NI N n) (h : cN N n 0 = 9) : Vd N (cN N n 2) ∧ (¬ cN N n 1 < -999999 ∧ cN N n 1 ≤ 999999) := by
  have nk := ni.k
  generalize cN N n 0 = k at nk h
  generalize cN N n 1 = a at nk ⊢
  generalize cN N n 2 = f at nk ⊢
  generalize cN N n 3 = g at nk
  generalize cN N n 4 = x at nk
  generalize cN N n 5 = y at nk
  generalize cN N n 6 = z at nk
  cases nk using NK.cs with
  | li p q => exact ⟨eq_vd hN (by decide) p.1, q⟩
  | wp r _ _ => rcases r with r | r | r <;> exact absurd (r.symm.trans h) (by decide)
  | _ => exact absurd h (by decide)
theorem M_doTask (hd : MV S rI rA w) (ho : w.O.length ≤ 120) (he : w.E.length ≤ 300) (hk : w.K.length ≤ 300) (hl : S.1.length ≤ 300) (hW : WN S.1) {t n : Int32} (hT : TO S.1 t n) : EvP m_M_doTask (d + 3) 0 [(0, .ref 16), (1, .int t), (2, .int n)] [] (HC X cI cA rI rA ol J) (VP X cI cA ol J S none (doM S.1 t n w)) := by
  rcases hT with rfl | rfl | ⟨h, hV⟩
  · exact M_do2 hd ho he hk hl n
  · exact M_do5 hd ho he hk hl n
  · rcases h with rfl | rfl | rfl | rfl | rfl
    · by_cases h0 : cN S.1 n 0 = 0
      · exact M_do0b hd ho he hk hl n hV h0
      by_cases h9 : cN S.1 n 0 = 9
      · obtain ⟨q1, q2⟩ := nk_9 (by omega) (hW.ni hV) h9
        exact M_do0l hd ho he hk hl n hV h0 h9 q1 q2
      by_cases hT : tix w.E n < 0
      · exact M_do0n hd ho he hk hl n hV h0 h9 hT hW
      · exact M_do0t hd ho he hk hl n hV h0 h9 hT
    · by_cases hT : tix w.E n < 0
      · exact M_do1n hd ho he hk hl n hV hT
      · exact M_do1t hd ho he hk hl n hV hT
    · exact M_do3 hd ho he hk hl n hV
    · exact M_do4 hd ho he hk hl n hV
    · exact M_do6 hd ho he hk hl n hV
theorem MV.pop (h : MV S rI rA w) {t n : Int32} {K : List (Int32 × Int32)} (eK : w.K = (t, n) :: K) : MV S (upd rI 18 (nI K.length)) rA (WM.u_K w K) ∧ rA 19 K.length = t ∧ rA 20 K.length = n := by
  have h1 := h.tk
  rw [eK] at h1
  have h2 : (t, n) :: K = (rA 19 K.length, rA 20 K.length) :: stkW rA K.length := h1
  have h3 := List.cons.inj h2
  exact ⟨⟨h.b, h.oz, h.ol, h.ov, h.ez, h.el, rfl, h3.2⟩, (congrArg Prod.fst h3.1).symm, (congrArg Prod.snd h3.1).symm⟩
set_option maxHeartbeats 4000000 in
set_option maxRecDepth 100000 in
theorem M_wl (hW : WN S.1) (hl : S.1.length ≤ 300) {e : Int32} {r : WM} (h : WL S.1 w r) : ∀ {rI : Nat → Int32} {rA : Nat → Nat → Int32} {P : mR → mH → Prop}, MV S rI rA w → (∀ rI' rA', MV S rI' rA' r → EvP m_M_write (d + 4) 173 [(0, .ref 16), (1, .int e)] [] (HC X cI cA rI' rA' ol J) P) → EvP m_M_write (d + 4) 124 [(0, .ref 16), (1, .int e)] [] (HC X cI cA rI rA ol J) P := by
  induction h using WL.ind with
  | @fin w hf =>
    intro rI rA P hd k
    rcases hf with hov | hK
    · refine ep_aload_n (j := 0) d_M_write_124 rfl rfl ?_
      refine ep_getf (fi := 18) (v := .int (nI w.K.length)) d_M_write_125 cl5 lf_M_120 (by decide) rfl (congrArg (fun z => some (Value.int z)) hd.tz) ?_
      refine ep_if_le (tgt := 173) d_M_write_128 (by decide) (fun c128 => ?_) (fun c128 => ?_)
      · exact k _ _ hd
      · refine ep_aload_n (j := 0) d_M_write_131 rfl rfl ?_
        refine ep_getf (fi := 13) (v := .int (bI w.ov)) d_M_write_132 cl5 lf_M_98 (by decide) rfl (congrArg (fun z => some (Value.int z)) hd.ov) ?_
        refine ep_if_ne (tgt := 173) d_M_write_135 (by decide) (fun _ => ?_) (fun z => absurd z (by rw [hov]; decide))
        exact k _ _ hd
    · refine ep_aload_n (j := 0) d_M_write_124 rfl rfl ?_
      refine ep_getf (fi := 18) (v := .int (nI w.K.length)) d_M_write_125 cl5 lf_M_120 (by decide) rfl (congrArg (fun z => some (Value.int z)) hd.tz) ?_
      refine ep_if_le (tgt := 173) d_M_write_128 (by decide) (fun _ => ?_) (fun z => absurd (by rw [hK]; decide) z)
      exact k _ _ hd
  | @go w w' t n K hov g eK hT _ ih =>
    intro rI rA P hd k
    have hkl : K.length + 1 ≤ 300 := by have := g.k; rw [eK] at this; simpa using this
    obtain ⟨hp1, hp2, hp3⟩ := hd.pop eK
    refine ep_aload_n (j := 0) d_M_write_124 rfl rfl ?_
    refine ep_getf (fi := 18) (v := .int (nI w.K.length)) d_M_write_125 cl5 lf_M_120 (by decide) rfl (congrArg (fun z => some (Value.int z)) hd.tz) ?_
    refine ep_if_le (tgt := 173) d_M_write_128 (by decide) (fun z => absurd z (by rw [eK, ← nI_0]; exact fun z => absurd ((nI_leI (by simp only [List.length_cons]; omega) (by omega)).mp z) (by simp))) (fun _ => ?_)
    refine ep_aload_n (j := 0) d_M_write_131 rfl rfl ?_
    refine ep_getf (fi := 13) (v := .int (bI w.ov)) d_M_write_132 cl5 lf_M_98 (by decide) rfl (congrArg (fun z => some (Value.int z)) hd.ov) ?_
    refine ep_if_ne (tgt := 173) d_M_write_135 (by decide) (fun z => absurd (by rw [hov]; rfl) z) (fun _ => ?_)
    refine ep_aload_n (j := 0) d_M_write_138 rfl rfl ?_
    refine ep_dup d_M_write_139 rfl ?_
    refine ep_getf (fi := 18) (v := .int (nI w.K.length)) d_M_write_140 cl5 lf_M_120 (by decide) rfl (congrArg (fun z => some (Value.int z)) hd.tz) ?_
    refine ep_iconst (v := 1) d_M_write_143 (by decide) ?_
    refine ep_isub d_M_write_144 ?_
    refine ep_cg (y := nI K.length) (by rw [eK]; exact nI_pred _) ?_
    refine ep_putf' (fi := 18) (h2 := HC X cI cA (upd rI 18 (nI K.length)) rA ol J) d_M_write_145 cl5 lf_M_120 (by decide) (Or.inl rfl) rfl rfl hI_16_18 ?_
    refine ep_aload_n (j := 0) d_M_write_148 rfl rfl ?_
    refine ep_aload_n (j := 0) d_M_write_149 rfl rfl ?_
    refine ep_getf (fi := 19) (v := .ref 27) d_M_write_150 cl5 lf_M_40 (by decide) rfl rfl ?_
    refine ep_aload_n (j := 0) d_M_write_153 rfl rfl ?_
    refine ep_getf (fi := 18) (v := .int (nI K.length)) d_M_write_154 cl5 lf_M_120 (by decide) rfl rfl ?_
    refine ep_iald (f := rA 19) K.length d_M_write_157 rfl rfl (by omega) (by decide) ?_
    refine ep_aload_n (j := 0) d_M_write_158 rfl rfl ?_
    refine ep_getf (fi := 20) (v := .ref 28) d_M_write_159 cl5 lf_M_43 (by decide) rfl rfl ?_
    refine ep_aload_n (j := 0) d_M_write_162 rfl rfl ?_
    refine ep_getf (fi := 18) (v := .int (nI K.length)) d_M_write_163 cl5 lf_M_120 (by decide) rfl rfl ?_
    refine ep_iald (f := rA 20) K.length d_M_write_166 rfl rfl (by omega) (by decide) ?_
    rw [hp2, hp3]
    refine ep_callVw2 (As := [.int t, .int n]) (st := []) d_M_write_167 lk_M_154 cal_M_doTask tm_M_doTask ts_M_doTask rfl rfl rfl (Nat.le_of_ble_eq_true rfl) (Nat.le_of_ble_eq_true rfl) rfl rfl (M_doTask (w := (WM.u_K w K)) hp1 g.o (by have := g.e; show w.E.length ≤ 300; omega) (by show K.length ≤ 300; omega) hl hW hT) (fun rI1 rA1 hd1 => ?_)
    refine ep_goto (tgt := 124) d_M_write_170 (by decide) ?_
    exact ih hd1 k
end MWD
