/-! the reference: the adders; by program (wip/whole/gen62.py) -/
section MAD
variable {d : Nat} {X : Nat × (Nat → Int32)} {cI : Nat → Int32} {cA : Nat → Nat → Int32} {rI : Nat → Int32} {rA : Nat → Nat → Int32} {ol : Int64} {J : mH} {S : CSt} {w : WM}
theorem k8_7 {k : Int32} : k < 8 ↔ k ≤ 7 := by
  rw [Int32.lt_iff_toInt_lt, Int32.le_iff_toInt_le]
  exact Int.lt_add_one_iff (a := k.toInt) (b := 7)
theorem i_456 {k : Int32} : (k = 4 ∨ k = 5 ∨ k = 6) ↔ (¬ k < 4 ∧ ¬ 6 < k) := by
  refine ⟨fun h => ?_, fun h => ?_⟩
  · rcases h with rfl | rfl | rfl <;> exact ⟨by decide, by decide⟩
  · obtain ⟨h1, h2⟩ := h
    obtain ⟨j, hj, rfl⟩ := nI_of' (Int32.le_trans (by decide) (Int32.not_lt.mp h1))
    have a : ¬ j < 4 := fun w => h1 (show nI j < nI 4 from (nI_ltI hj (by omega)).mpr w)
    have b : ¬ 6 < j := fun w => h2 (show nI 6 < nI j from (nI_ltI (by omega) hj).mpr w)
    rcases (show j = 4 ∨ j = 5 ∨ j = 6 by omega) with rfl | rfl | rfl
    · exact Or.inl rfl
    · exact Or.inr (Or.inl rfl)
    · exact Or.inr (Or.inr rfl)
theorem i_12 {k : Int32} : (k = 1 ∨ k = 2) ↔ ((¬ k < 1 ∧ k ≤ 3) ∧ ¬ k = 3) := by
  refine ⟨fun h => ?_, fun h => ?_⟩
  · rcases h with rfl | rfl <;> exact ⟨⟨by decide, by decide⟩, by decide⟩
  · obtain ⟨⟨h1, h2⟩, h3⟩ := h
    obtain ⟨j, hj, rfl⟩ := nI_of' (Int32.le_trans (by decide) (Int32.not_lt.mp h1))
    have a : ¬ j < 1 := fun w => h1 (show nI j < nI 1 from (nI_ltI hj (by omega)).mpr w)
    have b : j ≤ 3 := (nI_leI hj (by omega)).mp (show nI j ≤ nI 3 from h2)
    have c : ¬ j = 3 := fun w => h3 (congrArg nI w)
    rcases (show j = 1 ∨ j = 2 by omega) with rfl | rfl
    · exact Or.inl rfl
    · exact Or.inr rfl
abbrev rwP (N : List (List Int32)) (a b c : Int32) : Prop := arP N a ∧ ((b = -1 ∧ c = -1) ∨ (¬ b = -1 ∧ arP N b ∧ (c = -1 ∨ arP N c)))
theorem fl_log (a b c A B C : Prop) (h : A → ¬ a) : (((a ∨ A) ∧ (b ∨ B) ∧ (c ∨ C)) ∧ ¬ a ∧ ¬ ((a ∧ ¬ b) ∨ (b ∧ ¬ c))) ↔ (A ∧ ((b ∧ c) ∨ (¬ b ∧ B ∧ (c ∨ C)))) := by
  by_cases ha : a
  · have : ¬ A := fun q => h q ha
    simp [ha, this]
  · by_cases hb : b <;> by_cases hc : c <;> simp [ha, hb, hc]
theorem ar_no {N : List (List Int32)} {x : Int32} (h : arP N x) : ¬ x = -1 := fun q => by
  have e : kN N x = -1 := kN_nd (fun u => by rw [q] at u; exact absurd u.1 (by decide)) 0
  rcases h with h | h
  · exact h.1 (by rw [e]; decide)
  · rw [e] at h; exact absurd h (by decide)
theorem fl_iff {N : List (List Int32)} (a b c : Int32) : ((agP N a ∧ agP N b ∧ agP N c) ∧ ¬ a = -1 ∧ ¬ gaP a b c) ↔ rwP N a b c := fl_log _ _ _ _ _ _ (fun q => ar_no q)
theorem li_iff {N : List (List Int32)} {x : Int32} (h : prP N x) (k : kN N x = 0) : kN N x = 0 ∧ ¬ cN N x 1 = 0 := ⟨k, fun w => h.2 ⟨k, w⟩⟩
theorem li_pr {N : List (List Int32)} {x : Int32} (h : kN N x = 0 ∧ ¬ cN N x 1 = 0) : prP N x := ⟨⟨by rw [h.1]; decide, by rw [h.1]; decide⟩, fun w => h.2 w.2⟩
set_option maxHeartbeats 4000000 in
set_option maxRecDepth 100000 in
theorem M_builtin (hb : MB rI rA S) (hW : WN S.1) (hl : S.1.length ≤ 60) (k : Int32) : EvP m_M_builtin (d + 4) 0 [(0, .ref 16), (1, .int k)] [] (HC X cI cA rI rA ol J) (xB X cI cA ol J S (gvN (aBuiltin S.1 k) S)) := by
  refine ep_aload_n (j := 0) d_M_builtin_0 rfl rfl ?_
  refine ep_iload_n (j := 1) d_M_builtin_1 rfl rfl ?_
  refine ep_if_lt (tgt := 11) d_M_builtin_2 (by decide) (fun c2 => ?_) (fun c2 => ?_)
  · refine ep_iconst (v := 1) d_M_builtin_11 (by decide) ?_
    refine ep_goto (tgt := 16) d_M_builtin_12 (by decide) ?_
    refine ep_putf' (fi := 0) (h2 := HC X cI cA (upd rI 0 1) rA ol J) d_M_builtin_16 cl5 lf_M_52 (by decide) (Or.inl rfl) rfl rfl hI_16_0 ?_
    refine ep_aload_n (j := 0) d_M_builtin_19 rfl rfl ?_
    refine ep_getf (fi := 0) (v := .int 1) d_M_builtin_20 cl5 lf_M_52 (by decide) rfl rfl ?_
    refine ep_if_le (tgt := 30) d_M_builtin_23 (by decide) (fun z => absurd z (by decide)) (fun _ => ?_)
    refine ep_iconst (v := 0) d_M_builtin_26 (by decide) ?_
    refine ep_goto (tgt := 41) d_M_builtin_27 (by decide) ?_
    exact ep_iret d_M_builtin_41 rfl rfl (xB_x 0 (congrArg (fun z => gvN z S) (if_neg (fun u => u.1 c2))) hb rfl)
  · refine ep_iload_n (j := 1) d_M_builtin_5 rfl rfl ?_
    refine ep_bipush (v := 7) d_M_builtin_6 (by decide) ?_
    refine ep_icmp_le (tgt := 15) d_M_builtin_8 (by decide) (fun c8 => ?_) (fun c8 => ?_)
    · refine ep_iconst (v := 0) d_M_builtin_15 (by decide) ?_
      refine ep_putf' (fi := 0) (h2 := HC X cI cA (upd rI 0 0) rA ol J) d_M_builtin_16 cl5 lf_M_52 (by decide) (Or.inl rfl) rfl rfl hI_16_0 ?_
      refine ep_aload_n (j := 0) d_M_builtin_19 rfl rfl ?_
      refine ep_getf (fi := 0) (v := .int 0) d_M_builtin_20 cl5 lf_M_52 (by decide) rfl rfl ?_
      refine ep_if_le (tgt := 30) d_M_builtin_23 (by decide) (fun _ => ?_) (fun z => absurd (by decide) z)
      refine ep_aload_n (j := 0) d_M_builtin_30 rfl rfl ?_
      refine ep_iconst (v := 0) d_M_builtin_31 (by decide) ?_
      refine ep_iload_n (j := 1) d_M_builtin_32 rfl rfl ?_
      refine ep_iconst (v := (-1)) d_M_builtin_33 (by decide) ?_
      refine ep_iconst (v := (-1)) d_M_builtin_34 (by decide) ?_
      refine ep_iconst (v := (-1)) d_M_builtin_35 (by decide) ?_
      refine ep_iconst (v := (-1)) d_M_builtin_36 (by decide) ?_
      refine ep_iconst (v := (-1)) d_M_builtin_37 (by decide) ?_
      refine ep_res (res' := gvN (addN S.1 0 k (-1) (-1) (-1) (-1) (-1)) S) (congrArg (fun z => gvN z S) (if_pos (⟨c2, k8_7.mpr c8⟩))) ?_
      exact ep_tailM (As := [.int 0, .int k, .int (-1), .int (-1), .int (-1), .int (-1), .int (-1)]) d_M_builtin_38 lk_M_77 cal_M_give tm_M_give ts_M_give rfl rfl rfl (Nat.le_of_ble_eq_true rfl) rfl rfl d_M_builtin_41 rfl (M_give (rI := upd rI 0 0) hb hW hl 0 k (-1) (-1) (-1) (-1) (-1) (.bi ⟨c2, k8_7.mpr c8⟩))
    · refine ep_iconst (v := 1) d_M_builtin_11 (by decide) ?_
      refine ep_goto (tgt := 16) d_M_builtin_12 (by decide) ?_
      refine ep_putf' (fi := 0) (h2 := HC X cI cA (upd rI 0 1) rA ol J) d_M_builtin_16 cl5 lf_M_52 (by decide) (Or.inl rfl) rfl rfl hI_16_0 ?_
      refine ep_aload_n (j := 0) d_M_builtin_19 rfl rfl ?_
      refine ep_getf (fi := 0) (v := .int 1) d_M_builtin_20 cl5 lf_M_52 (by decide) rfl rfl ?_
      refine ep_if_le (tgt := 30) d_M_builtin_23 (by decide) (fun z => absurd z (by decide)) (fun _ => ?_)
      refine ep_iconst (v := 0) d_M_builtin_26 (by decide) ?_
      refine ep_goto (tgt := 41) d_M_builtin_27 (by decide) ?_
      exact ep_iret d_M_builtin_41 rfl rfl (xB_x 0 (congrArg (fun z => gvN z S) (if_neg (fun u => c8 (k8_7.mp u.2)))) hb rfl)
set_option maxHeartbeats 4000000 in
set_option maxRecDepth 100000 in
theorem M_name (hb : MB rI rA S) (hW : WN S.1) (hl : S.1.length ≤ 60) (x : Int32) : EvP m_M_name (d + 4) 0 [(0, .ref 16), (1, .int x)] [] (HC X cI cA rI rA ol J) (xB X cI cA ol J S (gvN (aName S.1 x) S)) := by
  refine ep_aload_n (j := 0) d_M_name_0 rfl rfl ?_
  refine ep_iload_n (j := 1) d_M_name_1 rfl rfl ?_
  refine ep_callSb (As := [.int x]) (st := [.ref 16]) d_M_name_2 (Or.inl lk_M_80) cal_M_isId tm_M_isId ti_M rfl (Nat.le_of_ble_eq_true rfl) (Nat.le_of_ble_eq_true rfl) rfl rfl (M_isId x) (fun b2 => ?_) (fun b2 => ?_)
  · refine ep_if_eq (tgt := 12) d_M_name_5 (by decide) (fun z => absurd z (by decide)) (fun _ => ?_)
    refine ep_iconst (v := 0) d_M_name_8 (by decide) ?_
    refine ep_goto (tgt := 13) d_M_name_9 (by decide) ?_
    refine ep_putf' (fi := 0) (h2 := HC X cI cA (upd rI 0 0) rA ol J) d_M_name_13 cl5 lf_M_52 (by decide) (Or.inl rfl) rfl rfl hI_16_0 ?_
    refine ep_aload_n (j := 0) d_M_name_16 rfl rfl ?_
    refine ep_getf (fi := 0) (v := .int 0) d_M_name_17 cl5 lf_M_52 (by decide) rfl rfl ?_
    refine ep_if_le (tgt := 27) d_M_name_20 (by decide) (fun _ => ?_) (fun z => absurd (by decide) z)
    refine ep_aload_n (j := 0) d_M_name_27 rfl rfl ?_
    refine ep_iconst (v := 1) d_M_name_28 (by decide) ?_
    refine ep_iload_n (j := 1) d_M_name_29 rfl rfl ?_
    refine ep_iconst (v := (-1)) d_M_name_30 (by decide) ?_
    refine ep_iconst (v := (-1)) d_M_name_31 (by decide) ?_
    refine ep_iconst (v := (-1)) d_M_name_32 (by decide) ?_
    refine ep_iconst (v := (-1)) d_M_name_33 (by decide) ?_
    refine ep_iconst (v := (-1)) d_M_name_34 (by decide) ?_
    refine ep_res (res' := gvN (addN S.1 1 x (-1) (-1) (-1) (-1) (-1)) S) (congrArg (fun z => gvN z S) (if_pos (b2))) ?_
    exact ep_tailM (As := [.int 1, .int x, .int (-1), .int (-1), .int (-1), .int (-1), .int (-1)]) d_M_name_35 lk_M_77 cal_M_give tm_M_give ts_M_give rfl rfl rfl (Nat.le_of_ble_eq_true rfl) rfl rfl d_M_name_38 rfl (M_give (rI := upd rI 0 0) hb hW hl 1 x (-1) (-1) (-1) (-1) (-1) (.nm b2))
  · refine ep_if_eq (tgt := 12) d_M_name_5 (by decide) (fun _ => ?_) (fun z => absurd (by decide) z)
    refine ep_iconst (v := 1) d_M_name_12 (by decide) ?_
    refine ep_putf' (fi := 0) (h2 := HC X cI cA (upd rI 0 1) rA ol J) d_M_name_13 cl5 lf_M_52 (by decide) (Or.inl rfl) rfl rfl hI_16_0 ?_
    refine ep_aload_n (j := 0) d_M_name_16 rfl rfl ?_
    refine ep_getf (fi := 0) (v := .int 1) d_M_name_17 cl5 lf_M_52 (by decide) rfl rfl ?_
    refine ep_if_le (tgt := 27) d_M_name_20 (by decide) (fun z => absurd z (by decide)) (fun _ => ?_)
    refine ep_iconst (v := 0) d_M_name_23 (by decide) ?_
    refine ep_goto (tgt := 38) d_M_name_24 (by decide) ?_
    exact ep_iret d_M_name_38 rfl rfl (xB_x 0 (congrArg (fun z => gvN z S) (if_neg (fun u => b2 u))) hb rfl)
set_option maxHeartbeats 4000000 in
set_option maxRecDepth 100000 in
theorem M_member (hb : MB rI rA S) (hW : WN S.1) (hl : S.1.length ≤ 60) (p x : Int32) : EvP m_M_member (d + 4) 0 [(0, .ref 16), (1, .int p), (2, .int x)] [] (HC X cI cA rI rA ol J) (xB X cI cA ol J S (gvN (aMember S.1 p x) S)) := by
  refine ep_aload_n (j := 0) d_M_member_0 rfl rfl ?_
  refine ep_aload_n (j := 0) d_M_member_1 rfl rfl ?_
  refine ep_iload_n (j := 1) d_M_member_2 rfl rfl ?_
  refine ep_callVb (As := [.int p]) (st := [.ref 16]) d_M_member_3 lk_M_83 cal_M_isScoped tm_M_isScoped ts_M_isScoped rfl rfl rfl (Nat.le_of_ble_eq_true rfl) (Nat.le_of_ble_eq_true rfl) rfl rfl (M_isScoped (rI := rI) hb hW p) (fun b3 => ?_) (fun b3 => ?_)
  · refine ep_if_eq (tgt := 20) d_M_member_6 (by decide) (fun z => absurd z (by decide)) (fun _ => ?_)
    refine ep_iload_n (j := 2) d_M_member_9 rfl rfl ?_
    refine ep_callSb (As := [.int x]) (st := [.ref 16]) d_M_member_10 (Or.inl lk_M_80) cal_M_isId tm_M_isId ti_M rfl (Nat.le_of_ble_eq_true rfl) (Nat.le_of_ble_eq_true rfl) rfl rfl (M_isId x) (fun b10 => ?_) (fun b10 => ?_)
    · refine ep_if_eq (tgt := 20) d_M_member_13 (by decide) (fun z => absurd z (by decide)) (fun _ => ?_)
      refine ep_iconst (v := 0) d_M_member_16 (by decide) ?_
      refine ep_goto (tgt := 21) d_M_member_17 (by decide) ?_
      refine ep_putf' (fi := 0) (h2 := HC X cI cA (upd rI 0 0) rA ol J) d_M_member_21 cl5 lf_M_52 (by decide) (Or.inl rfl) rfl rfl hI_16_0 ?_
      refine ep_aload_n (j := 0) d_M_member_24 rfl rfl ?_
      refine ep_getf (fi := 0) (v := .int 0) d_M_member_25 cl5 lf_M_52 (by decide) rfl rfl ?_
      refine ep_if_le (tgt := 35) d_M_member_28 (by decide) (fun _ => ?_) (fun z => absurd (by decide) z)
      refine ep_aload_n (j := 0) d_M_member_35 rfl rfl ?_
      refine ep_iconst (v := 2) d_M_member_36 (by decide) ?_
      refine ep_iload_n (j := 2) d_M_member_37 rfl rfl ?_
      refine ep_iload_n (j := 1) d_M_member_38 rfl rfl ?_
      refine ep_iconst (v := (-1)) d_M_member_39 (by decide) ?_
      refine ep_iconst (v := (-1)) d_M_member_40 (by decide) ?_
      refine ep_iconst (v := (-1)) d_M_member_41 (by decide) ?_
      refine ep_iconst (v := (-1)) d_M_member_42 (by decide) ?_
      refine ep_res (res' := gvN (addN S.1 2 x p (-1) (-1) (-1) (-1)) S) (congrArg (fun z => gvN z S) (if_pos (⟨b3, b10⟩))) ?_
      exact ep_tailM (As := [.int 2, .int x, .int p, .int (-1), .int (-1), .int (-1), .int (-1)]) d_M_member_43 lk_M_77 cal_M_give tm_M_give ts_M_give rfl rfl rfl (Nat.le_of_ble_eq_true rfl) rfl rfl d_M_member_46 rfl (M_give (rI := upd rI 0 0) hb hW hl 2 x p (-1) (-1) (-1) (-1) (.mb b3 b10))
    · refine ep_if_eq (tgt := 20) d_M_member_13 (by decide) (fun _ => ?_) (fun z => absurd (by decide) z)
      refine ep_iconst (v := 1) d_M_member_20 (by decide) ?_
      refine ep_putf' (fi := 0) (h2 := HC X cI cA (upd rI 0 1) rA ol J) d_M_member_21 cl5 lf_M_52 (by decide) (Or.inl rfl) rfl rfl hI_16_0 ?_
      refine ep_aload_n (j := 0) d_M_member_24 rfl rfl ?_
      refine ep_getf (fi := 0) (v := .int 1) d_M_member_25 cl5 lf_M_52 (by decide) rfl rfl ?_
      refine ep_if_le (tgt := 35) d_M_member_28 (by decide) (fun z => absurd z (by decide)) (fun _ => ?_)
      refine ep_iconst (v := 0) d_M_member_31 (by decide) ?_
      refine ep_goto (tgt := 46) d_M_member_32 (by decide) ?_
      exact ep_iret d_M_member_46 rfl rfl (xB_x 0 (congrArg (fun z => gvN z S) (if_neg (fun u => b10 u.2))) hb rfl)
  · refine ep_if_eq (tgt := 20) d_M_member_6 (by decide) (fun _ => ?_) (fun z => absurd (by decide) z)
    refine ep_iconst (v := 1) d_M_member_20 (by decide) ?_
    refine ep_putf' (fi := 0) (h2 := HC X cI cA (upd rI 0 1) rA ol J) d_M_member_21 cl5 lf_M_52 (by decide) (Or.inl rfl) rfl rfl hI_16_0 ?_
    refine ep_aload_n (j := 0) d_M_member_24 rfl rfl ?_
    refine ep_getf (fi := 0) (v := .int 1) d_M_member_25 cl5 lf_M_52 (by decide) rfl rfl ?_
    refine ep_if_le (tgt := 35) d_M_member_28 (by decide) (fun z => absurd z (by decide)) (fun _ => ?_)
    refine ep_iconst (v := 0) d_M_member_31 (by decide) ?_
    refine ep_goto (tgt := 46) d_M_member_32 (by decide) ?_
    exact ep_iret d_M_member_46 rfl rfl (xB_x 0 (congrArg (fun z => gvN z S) (if_neg (fun u => b3 u.1))) hb rfl)
set_option maxHeartbeats 4000000 in
set_option maxRecDepth 100000 in
theorem M_fill (hb : MB rI rA S) (hW : WN S.1) (hl : S.1.length ≤ 60) (f a b c : Int32) : EvP m_M_fill (d + 4) 0 [(0, .ref 16), (1, .int f), (2, .int a), (3, .int b), (4, .int c)] [] (HC X cI cA rI rA ol J) (xB X cI cA ol J S (gvN (aFilled S.1 f a b c) S)) := by
  refine ep_join (pc2 := 50) (lv2 := [(0, .ref 16), (1, .int f), (2, .int a), (3, .int b), (4, .int c)]) (st2 := [.int (if rwP S.1 a b c then 1 else 0)]) ?_ (fun k50 => ?_)
  · refine ep_istore (lv' := [(0, .ref 16), (1, .int f), (2, .int a), (3, .int b), (4, .int c), (5, .int (if rwP S.1 a b c then 1 else 0))]) [1, 2, 3, 4, 5, 0] d_M_fill_50 (by decide) rfl ?_
    refine ep_aload_n (j := 0) d_M_fill_52 rfl rfl ?_
    refine ep_iload (j := 5) d_M_fill_53 rfl ?_
    refine ep_if_eq (tgt := 70) d_M_fill_55 (by decide) (fun c55 => ?_) (fun c55 => ?_)
    · refine ep_iconst (v := 1) d_M_fill_70 (by decide) ?_
      refine ep_putf' (fi := 0) (h2 := HC X cI cA (upd rI 0 1) rA ol J) d_M_fill_71 cl5 lf_M_52 (by decide) (Or.inl rfl) rfl rfl hI_16_0 ?_
      refine ep_aload_n (j := 0) d_M_fill_74 rfl rfl ?_
      refine ep_getf (fi := 0) (v := .int 1) d_M_fill_75 cl5 lf_M_52 (by decide) rfl rfl ?_
      refine ep_if_le (tgt := 83) d_M_fill_78 (by decide) (fun z => absurd z (by decide)) (fun _ => ?_)
      refine ep_iconst (v := 0) d_M_fill_81 (by decide) ?_
      exact ep_iret d_M_fill_82 rfl rfl (xB_x 0 (congrArg (fun z => gvN z S) (if_neg (fun u => ite_n c55 ((fl_iff _ _ _).mp u.2)))) hb rfl)
    · refine ep_aload_n (j := 0) d_M_fill_58 rfl rfl ?_
      refine ep_iload_n (j := 1) d_M_fill_59 rfl rfl ?_
      refine ep_callVb (As := [.int f]) (st := [.ref 16]) d_M_fill_60 lk_M_83 cal_M_isScoped tm_M_isScoped ts_M_isScoped rfl rfl rfl (Nat.le_of_ble_eq_true rfl) (Nat.le_of_ble_eq_true rfl) rfl rfl (M_isScoped (rI := rI) hb hW f) (fun b60 => ?_) (fun b60 => ?_)
      · refine ep_if_eq (tgt := 70) d_M_fill_63 (by decide) (fun z => absurd z (by decide)) (fun _ => ?_)
        refine ep_iconst (v := 0) d_M_fill_66 (by decide) ?_
        refine ep_goto (tgt := 71) d_M_fill_67 (by decide) ?_
        refine ep_putf' (fi := 0) (h2 := HC X cI cA (upd rI 0 0) rA ol J) d_M_fill_71 cl5 lf_M_52 (by decide) (Or.inl rfl) rfl rfl hI_16_0 ?_
        refine ep_aload_n (j := 0) d_M_fill_74 rfl rfl ?_
        refine ep_getf (fi := 0) (v := .int 0) d_M_fill_75 cl5 lf_M_52 (by decide) rfl rfl ?_
        refine ep_if_le (tgt := 83) d_M_fill_78 (by decide) (fun _ => ?_) (fun z => absurd (by decide) z)
        refine ep_aload_n (j := 0) d_M_fill_83 rfl rfl ?_
        refine ep_aload_n (j := 0) d_M_fill_84 rfl rfl ?_
        refine ep_getf (fi := 3) (v := .ref 17) d_M_fill_85 cl5 lf_M_7 (by decide) rfl rfl ?_
        refine ep_iload_n (j := 1) d_M_fill_88 rfl rfl ?_
        refine ep_kind (N := S.1) d_M_fill_89 hb.1.2 (by have := hW.1; omega) (pf_vd (by omega) b60) ?_
        refine ep_iconst (v := 3) d_M_fill_90 (by decide) ?_
        refine ep_icmp_ne (tgt := 98) d_M_fill_91 (by decide) (fun c91 => ?_) (fun c91 => ?_)
        · refine ep_iconst (v := 0) d_M_fill_98 (by decide) ?_
          refine ep_putf' (fi := 0) (h2 := HC X cI cA (upd rI 0 0) rA ol J) d_M_fill_99 cl5 lf_M_52 (by decide) (Or.inl rfl) rfl rfl (hI_16_0.trans (congrArg (fun z => HC X cI cA z rA ol J) (upd_upd _ _ _ _))) ?_
          refine ep_aload_n (j := 0) d_M_fill_102 rfl rfl ?_
          refine ep_getf (fi := 0) (v := .int 0) d_M_fill_103 cl5 lf_M_52 (by decide) rfl rfl ?_
          refine ep_if_le (tgt := 113) d_M_fill_106 (by decide) (fun _ => ?_) (fun z => absurd (by decide) z)
          refine ep_aload_n (j := 0) d_M_fill_113 rfl rfl ?_
          refine ep_iconst (v := 3) d_M_fill_114 (by decide) ?_
          refine ep_iconst (v := 0) d_M_fill_115 (by decide) ?_
          refine ep_iload_n (j := 1) d_M_fill_116 rfl rfl ?_
          refine ep_iconst (v := (-1)) d_M_fill_117 (by decide) ?_
          refine ep_iload_n (j := 2) d_M_fill_118 rfl rfl ?_
          refine ep_iload_n (j := 3) d_M_fill_119 rfl rfl ?_
          refine ep_iload (j := 4) d_M_fill_120 rfl ?_
          refine ep_res (res' := gvN (addN S.1 3 0 f (-1) a b c) S) (congrArg (fun z => gvN z S) (if_pos (⟨i_12.mpr ⟨b60, c91⟩, (fl_iff _ _ _).mpr (ite_p c55)⟩))) ?_
          exact ep_tailM (As := [.int 3, .int 0, .int f, .int (-1), .int a, .int b, .int c]) d_M_fill_122 lk_M_77 cal_M_give tm_M_give ts_M_give rfl rfl rfl (Nat.le_of_ble_eq_true rfl) rfl rfl d_M_fill_125 rfl (M_give (rI := upd rI 0 0) hb hW hl 3 0 f (-1) a b c (have w := (fl_iff a b c).mpr (ite_p c55); .fl (i_12.mpr ⟨b60, c91⟩) w.1 w.2.1 w.2.2))
        · refine ep_iconst (v := 1) d_M_fill_94 (by decide) ?_
          refine ep_goto (tgt := 99) d_M_fill_95 (by decide) ?_
          refine ep_putf' (fi := 0) (h2 := HC X cI cA (upd rI 0 1) rA ol J) d_M_fill_99 cl5 lf_M_52 (by decide) (Or.inl rfl) rfl rfl (hI_16_0.trans (congrArg (fun z => HC X cI cA z rA ol J) (upd_upd _ _ _ _))) ?_
          refine ep_aload_n (j := 0) d_M_fill_102 rfl rfl ?_
          refine ep_getf (fi := 0) (v := .int 1) d_M_fill_103 cl5 lf_M_52 (by decide) rfl rfl ?_
          refine ep_if_le (tgt := 113) d_M_fill_106 (by decide) (fun z => absurd z (by decide)) (fun _ => ?_)
          refine ep_iconst (v := 0) d_M_fill_109 (by decide) ?_
          refine ep_goto (tgt := 125) d_M_fill_110 (by decide) ?_
          exact ep_iret d_M_fill_125 rfl rfl (xB_x 0 (congrArg (fun z => gvN z S) (if_neg (fun u => (i_12.mp u.1).2 c91))) hb rfl)
      · refine ep_if_eq (tgt := 70) d_M_fill_63 (by decide) (fun _ => ?_) (fun z => absurd (by decide) z)
        refine ep_iconst (v := 1) d_M_fill_70 (by decide) ?_
        refine ep_putf' (fi := 0) (h2 := HC X cI cA (upd rI 0 1) rA ol J) d_M_fill_71 cl5 lf_M_52 (by decide) (Or.inl rfl) rfl rfl hI_16_0 ?_
        refine ep_aload_n (j := 0) d_M_fill_74 rfl rfl ?_
        refine ep_getf (fi := 0) (v := .int 1) d_M_fill_75 cl5 lf_M_52 (by decide) rfl rfl ?_
        refine ep_if_le (tgt := 83) d_M_fill_78 (by decide) (fun z => absurd z (by decide)) (fun _ => ?_)
        refine ep_iconst (v := 0) d_M_fill_81 (by decide) ?_
        exact ep_iret d_M_fill_82 rfl rfl (xB_x 0 (congrArg (fun z => gvN z S) (if_neg (fun u => b60 (i_12.mp u.1).1))) hb rfl)
  · refine ep_aload_n (j := 0) d_M_fill_0 rfl rfl ?_
    refine ep_iload_n (j := 2) d_M_fill_1 rfl rfl ?_
    refine ep_callVb (As := [.int a]) (st := []) d_M_fill_2 lk_M_86 cal_M_isArgument tm_M_isArgument ts_M_isArgument rfl rfl rfl (Nat.le_of_ble_eq_true rfl) (Nat.le_of_ble_eq_true rfl) rfl rfl (M_isArgument (rI := rI) hb hW a) (fun b2 => ?_) (fun b2 => ?_)
    · refine ep_if_eq (tgt := 49) d_M_fill_5 (by decide) (fun z => absurd z (by decide)) (fun _ => ?_)
      refine ep_iload_n (j := 3) d_M_fill_8 rfl rfl ?_
      refine ep_iconst (v := (-1)) d_M_fill_9 (by decide) ?_
      refine ep_icmp_ne (tgt := 22) d_M_fill_10 (by decide) (fun c10 => ?_) (fun c10 => ?_)
      · refine ep_aload_n (j := 0) d_M_fill_22 rfl rfl ?_
        refine ep_iload_n (j := 3) d_M_fill_23 rfl rfl ?_
        refine ep_callVb (As := [.int b]) (st := []) d_M_fill_24 lk_M_86 cal_M_isArgument tm_M_isArgument ts_M_isArgument rfl rfl rfl (Nat.le_of_ble_eq_true rfl) (Nat.le_of_ble_eq_true rfl) rfl rfl (M_isArgument (rI := rI) hb hW b) (fun b24 => ?_) (fun b24 => ?_)
        · refine ep_if_eq (tgt := 49) d_M_fill_27 (by decide) (fun z => absurd z (by decide)) (fun _ => ?_)
          refine ep_iload (j := 4) d_M_fill_30 rfl ?_
          refine ep_iconst (v := (-1)) d_M_fill_32 (by decide) ?_
          refine ep_icmp_eq (tgt := 45) d_M_fill_33 (by decide) (fun c33 => ?_) (fun c33 => ?_)
          · refine ep_iconst (v := 1) d_M_fill_45 (by decide) ?_
            refine ep_goto (tgt := 50) d_M_fill_46 (by decide) ?_
            refine ep_cg (y := if rwP S.1 a b c then 1 else 0) ((if_pos ⟨b2, Or.inr ⟨c10, b24, Or.inl c33⟩⟩).symm) ?_
            exact k50
          · refine ep_aload_n (j := 0) d_M_fill_36 rfl rfl ?_
            refine ep_iload (j := 4) d_M_fill_37 rfl ?_
            refine ep_callVb (As := [.int c]) (st := []) d_M_fill_39 lk_M_86 cal_M_isArgument tm_M_isArgument ts_M_isArgument rfl rfl rfl (Nat.le_of_ble_eq_true rfl) (Nat.le_of_ble_eq_true rfl) rfl rfl (M_isArgument (rI := rI) hb hW c) (fun b39 => ?_) (fun b39 => ?_)
            · refine ep_if_eq (tgt := 49) d_M_fill_42 (by decide) (fun z => absurd z (by decide)) (fun _ => ?_)
              refine ep_iconst (v := 1) d_M_fill_45 (by decide) ?_
              refine ep_goto (tgt := 50) d_M_fill_46 (by decide) ?_
              refine ep_cg (y := if rwP S.1 a b c then 1 else 0) ((if_pos ⟨b2, Or.inr ⟨c10, b24, Or.inr b39⟩⟩).symm) ?_
              exact k50
            · refine ep_if_eq (tgt := 49) d_M_fill_42 (by decide) (fun _ => ?_) (fun z => absurd (by decide) z)
              refine ep_iconst (v := 0) d_M_fill_49 (by decide) ?_
              refine ep_cg (y := if rwP S.1 a b c then 1 else 0) ((if_neg (fun u => u.2.elim (fun q => c10 q.1) (fun q => q.2.2.elim c33 b39))).symm) ?_
              exact k50
        · refine ep_if_eq (tgt := 49) d_M_fill_27 (by decide) (fun _ => ?_) (fun z => absurd (by decide) z)
          refine ep_iconst (v := 0) d_M_fill_49 (by decide) ?_
          refine ep_cg (y := if rwP S.1 a b c then 1 else 0) ((if_neg (fun u => u.2.elim (fun q => c10 q.1) (fun q => b24 q.2.1))).symm) ?_
          exact k50
      · refine ep_iload (j := 4) d_M_fill_13 rfl ?_
        refine ep_iconst (v := (-1)) d_M_fill_15 (by decide) ?_
        refine ep_icmp_ne (tgt := 49) d_M_fill_16 (by decide) (fun c16 => ?_) (fun c16 => ?_)
        · refine ep_iconst (v := 0) d_M_fill_49 (by decide) ?_
          refine ep_cg (y := if rwP S.1 a b c then 1 else 0) ((if_neg (fun u => u.2.elim (fun q => c16 q.2) (fun q => q.1 c10))).symm) ?_
          exact k50
        · refine ep_goto (tgt := 45) d_M_fill_19 (by decide) ?_
          refine ep_iconst (v := 1) d_M_fill_45 (by decide) ?_
          refine ep_goto (tgt := 50) d_M_fill_46 (by decide) ?_
          refine ep_cg (y := if rwP S.1 a b c then 1 else 0) ((if_pos ⟨b2, Or.inl ⟨c10, c16⟩⟩).symm) ?_
          exact k50
    · refine ep_if_eq (tgt := 49) d_M_fill_5 (by decide) (fun _ => ?_) (fun z => absurd (by decide) z)
      refine ep_iconst (v := 0) d_M_fill_49 (by decide) ?_
      refine ep_cg (y := if rwP S.1 a b c then 1 else 0) ((if_neg (fun u => b2 u.1)).symm) ?_
      exact k50
set_option maxHeartbeats 4000000 in
set_option maxRecDepth 100000 in
theorem M_wrap (hb : MB rI rA S) (hW : WN S.1) (hl : S.1.length ≤ 60) (k x : Int32) : EvP m_M_wrap (d + 4) 0 [(0, .ref 16), (1, .int k), (2, .int x)] [] (HC X cI cA rI rA ol J) (xB X cI cA ol J S (gvN (aWrapped S.1 k x) S)) := by
  refine ep_aload_n (j := 0) d_M_wrap_0 rfl rfl ?_
  refine ep_iload_n (j := 1) d_M_wrap_1 rfl rfl ?_
  refine ep_iconst (v := 4) d_M_wrap_2 (by decide) ?_
  refine ep_icmp_lt (tgt := 20) d_M_wrap_3 (by decide) (fun c3 => ?_) (fun c3 => ?_)
  · refine ep_iconst (v := 1) d_M_wrap_20 (by decide) ?_
    refine ep_goto (tgt := 25) d_M_wrap_21 (by decide) ?_
    refine ep_putf' (fi := 0) (h2 := HC X cI cA (upd rI 0 1) rA ol J) d_M_wrap_25 cl5 lf_M_52 (by decide) (Or.inl rfl) rfl rfl hI_16_0 ?_
    refine ep_aload_n (j := 0) d_M_wrap_28 rfl rfl ?_
    refine ep_getf (fi := 0) (v := .int 1) d_M_wrap_29 cl5 lf_M_52 (by decide) rfl rfl ?_
    refine ep_if_le (tgt := 37) d_M_wrap_32 (by decide) (fun z => absurd z (by decide)) (fun _ => ?_)
    refine ep_iconst (v := 0) d_M_wrap_35 (by decide) ?_
    exact ep_iret d_M_wrap_36 rfl rfl (xB_x 0 (congrArg (fun z => gvN z S) (if_neg (fun u => (i_456.mp u.1).1 c3))) hb rfl)
  · refine ep_iload_n (j := 1) d_M_wrap_6 rfl rfl ?_
    refine ep_bipush (v := 6) d_M_wrap_7 (by decide) ?_
    refine ep_icmp_gt (tgt := 20) d_M_wrap_9 (by decide) (fun c9 => ?_) (fun c9 => ?_)
    · refine ep_iconst (v := 1) d_M_wrap_20 (by decide) ?_
      refine ep_goto (tgt := 25) d_M_wrap_21 (by decide) ?_
      refine ep_putf' (fi := 0) (h2 := HC X cI cA (upd rI 0 1) rA ol J) d_M_wrap_25 cl5 lf_M_52 (by decide) (Or.inl rfl) rfl rfl hI_16_0 ?_
      refine ep_aload_n (j := 0) d_M_wrap_28 rfl rfl ?_
      refine ep_getf (fi := 0) (v := .int 1) d_M_wrap_29 cl5 lf_M_52 (by decide) rfl rfl ?_
      refine ep_if_le (tgt := 37) d_M_wrap_32 (by decide) (fun z => absurd z (by decide)) (fun _ => ?_)
      refine ep_iconst (v := 0) d_M_wrap_35 (by decide) ?_
      exact ep_iret d_M_wrap_36 rfl rfl (xB_x 0 (congrArg (fun z => gvN z S) (if_neg (fun u => (i_456.mp u.1).2 c9))) hb rfl)
    · refine ep_aload_n (j := 0) d_M_wrap_12 rfl rfl ?_
      refine ep_iload_n (j := 2) d_M_wrap_13 rfl rfl ?_
      refine ep_callVb (As := [.int x]) (st := [.ref 16]) d_M_wrap_14 lk_M_63 cal_M_isType tm_M_isType ts_M_isType rfl rfl rfl (Nat.le_of_ble_eq_true rfl) (Nat.le_of_ble_eq_true rfl) rfl rfl (M_isType (rI := rI) hb hW x) (fun b14 => ?_) (fun b14 => ?_)
      · refine ep_if_ne (tgt := 24) d_M_wrap_17 (by decide) (fun _ => ?_) (fun z => absurd z (by decide))
        refine ep_iconst (v := 0) d_M_wrap_24 (by decide) ?_
        refine ep_putf' (fi := 0) (h2 := HC X cI cA (upd rI 0 0) rA ol J) d_M_wrap_25 cl5 lf_M_52 (by decide) (Or.inl rfl) rfl rfl hI_16_0 ?_
        refine ep_aload_n (j := 0) d_M_wrap_28 rfl rfl ?_
        refine ep_getf (fi := 0) (v := .int 0) d_M_wrap_29 cl5 lf_M_52 (by decide) rfl rfl ?_
        refine ep_if_le (tgt := 37) d_M_wrap_32 (by decide) (fun _ => ?_) (fun z => absurd (by decide) z)
        refine ep_aload_n (j := 0) d_M_wrap_37 rfl rfl ?_
        refine ep_iload_n (j := 1) d_M_wrap_38 rfl rfl ?_
        refine ep_bipush (v := 6) d_M_wrap_39 (by decide) ?_
        refine ep_icmp_ne (tgt := 59) d_M_wrap_41 (by decide) (fun c41 => ?_) (fun c41 => ?_)
        · refine ep_iconst (v := 0) d_M_wrap_59 (by decide) ?_
          refine ep_putf' (fi := 0) (h2 := HC X cI cA (upd rI 0 0) rA ol J) d_M_wrap_60 cl5 lf_M_52 (by decide) (Or.inl rfl) rfl rfl (hI_16_0.trans (congrArg (fun z => HC X cI cA z rA ol J) (upd_upd _ _ _ _))) ?_
          refine ep_aload_n (j := 0) d_M_wrap_63 rfl rfl ?_
          refine ep_getf (fi := 0) (v := .int 0) d_M_wrap_64 cl5 lf_M_52 (by decide) rfl rfl ?_
          refine ep_if_le (tgt := 74) d_M_wrap_67 (by decide) (fun _ => ?_) (fun z => absurd (by decide) z)
          refine ep_aload_n (j := 0) d_M_wrap_74 rfl rfl ?_
          refine ep_iload_n (j := 1) d_M_wrap_75 rfl rfl ?_
          refine ep_iconst (v := 0) d_M_wrap_76 (by decide) ?_
          refine ep_iload_n (j := 2) d_M_wrap_77 rfl rfl ?_
          refine ep_iconst (v := (-1)) d_M_wrap_78 (by decide) ?_
          refine ep_iconst (v := (-1)) d_M_wrap_79 (by decide) ?_
          refine ep_iconst (v := (-1)) d_M_wrap_80 (by decide) ?_
          refine ep_iconst (v := (-1)) d_M_wrap_81 (by decide) ?_
          refine ep_res (res' := gvN (addN S.1 k 0 x (-1) (-1) (-1) (-1)) S) (congrArg (fun z => gvN z S) (if_pos (⟨i_456.mpr ⟨c3, c9⟩, b14, fun q => c41 q.1⟩))) ?_
          exact ep_tailM (As := [.int k, .int 0, .int x, .int (-1), .int (-1), .int (-1), .int (-1)]) d_M_wrap_82 lk_M_77 cal_M_give tm_M_give ts_M_give rfl rfl rfl (Nat.le_of_ble_eq_true rfl) rfl rfl d_M_wrap_85 rfl (M_give (rI := upd rI 0 0) hb hW hl k 0 x (-1) (-1) (-1) (-1) (have w : (k = 4 ∨ k = 5 ∨ k = 6) ∧ tyP S.1 x ∧ ¬ (k = 6 ∧ kN S.1 x = 6) := ⟨i_456.mpr ⟨c3, c9⟩, b14, fun q => c41 q.1⟩; .wp w.1 w.2.1 w.2.2))
        · refine ep_aload_n (j := 0) d_M_wrap_44 rfl rfl ?_
          refine ep_getf (fi := 3) (v := .ref 17) d_M_wrap_45 cl5 lf_M_7 (by decide) rfl rfl ?_
          refine ep_iload_n (j := 2) d_M_wrap_48 rfl rfl ?_
          refine ep_kind (N := S.1) d_M_wrap_49 hb.1.2 (by have := hW.1; omega) (ty_vd (by omega) b14) ?_
          refine ep_bipush (v := 6) d_M_wrap_50 (by decide) ?_
          refine ep_icmp_ne (tgt := 59) d_M_wrap_52 (by decide) (fun c52 => ?_) (fun c52 => ?_)
          · refine ep_iconst (v := 0) d_M_wrap_59 (by decide) ?_
            refine ep_putf' (fi := 0) (h2 := HC X cI cA (upd rI 0 0) rA ol J) d_M_wrap_60 cl5 lf_M_52 (by decide) (Or.inl rfl) rfl rfl (hI_16_0.trans (congrArg (fun z => HC X cI cA z rA ol J) (upd_upd _ _ _ _))) ?_
            refine ep_aload_n (j := 0) d_M_wrap_63 rfl rfl ?_
            refine ep_getf (fi := 0) (v := .int 0) d_M_wrap_64 cl5 lf_M_52 (by decide) rfl rfl ?_
            refine ep_if_le (tgt := 74) d_M_wrap_67 (by decide) (fun _ => ?_) (fun z => absurd (by decide) z)
            refine ep_aload_n (j := 0) d_M_wrap_74 rfl rfl ?_
            refine ep_iload_n (j := 1) d_M_wrap_75 rfl rfl ?_
            refine ep_iconst (v := 0) d_M_wrap_76 (by decide) ?_
            refine ep_iload_n (j := 2) d_M_wrap_77 rfl rfl ?_
            refine ep_iconst (v := (-1)) d_M_wrap_78 (by decide) ?_
            refine ep_iconst (v := (-1)) d_M_wrap_79 (by decide) ?_
            refine ep_iconst (v := (-1)) d_M_wrap_80 (by decide) ?_
            refine ep_iconst (v := (-1)) d_M_wrap_81 (by decide) ?_
            refine ep_res (res' := gvN (addN S.1 k 0 x (-1) (-1) (-1) (-1)) S) (congrArg (fun z => gvN z S) (if_pos (⟨i_456.mpr ⟨c3, c9⟩, b14, fun q => c52 q.2⟩))) ?_
            exact ep_tailM (As := [.int k, .int 0, .int x, .int (-1), .int (-1), .int (-1), .int (-1)]) d_M_wrap_82 lk_M_77 cal_M_give tm_M_give ts_M_give rfl rfl rfl (Nat.le_of_ble_eq_true rfl) rfl rfl d_M_wrap_85 rfl (M_give (rI := upd rI 0 0) hb hW hl k 0 x (-1) (-1) (-1) (-1) (have w : (k = 4 ∨ k = 5 ∨ k = 6) ∧ tyP S.1 x ∧ ¬ (k = 6 ∧ kN S.1 x = 6) := ⟨i_456.mpr ⟨c3, c9⟩, b14, fun q => c52 q.2⟩; .wp w.1 w.2.1 w.2.2))
          · refine ep_iconst (v := 1) d_M_wrap_55 (by decide) ?_
            refine ep_goto (tgt := 60) d_M_wrap_56 (by decide) ?_
            refine ep_putf' (fi := 0) (h2 := HC X cI cA (upd rI 0 1) rA ol J) d_M_wrap_60 cl5 lf_M_52 (by decide) (Or.inl rfl) rfl rfl (hI_16_0.trans (congrArg (fun z => HC X cI cA z rA ol J) (upd_upd _ _ _ _))) ?_
            refine ep_aload_n (j := 0) d_M_wrap_63 rfl rfl ?_
            refine ep_getf (fi := 0) (v := .int 1) d_M_wrap_64 cl5 lf_M_52 (by decide) rfl rfl ?_
            refine ep_if_le (tgt := 74) d_M_wrap_67 (by decide) (fun z => absurd z (by decide)) (fun _ => ?_)
            refine ep_iconst (v := 0) d_M_wrap_70 (by decide) ?_
            refine ep_goto (tgt := 85) d_M_wrap_71 (by decide) ?_
            exact ep_iret d_M_wrap_85 rfl rfl (xB_x 0 (congrArg (fun z => gvN z S) (if_neg (fun u => u.2.2 ⟨c41, c52⟩))) hb rfl)
      · refine ep_if_ne (tgt := 24) d_M_wrap_17 (by decide) (fun z => absurd (by decide) z) (fun _ => ?_)
        refine ep_iconst (v := 1) d_M_wrap_20 (by decide) ?_
        refine ep_goto (tgt := 25) d_M_wrap_21 (by decide) ?_
        refine ep_putf' (fi := 0) (h2 := HC X cI cA (upd rI 0 1) rA ol J) d_M_wrap_25 cl5 lf_M_52 (by decide) (Or.inl rfl) rfl rfl hI_16_0 ?_
        refine ep_aload_n (j := 0) d_M_wrap_28 rfl rfl ?_
        refine ep_getf (fi := 0) (v := .int 1) d_M_wrap_29 cl5 lf_M_52 (by decide) rfl rfl ?_
        refine ep_if_le (tgt := 37) d_M_wrap_32 (by decide) (fun z => absurd z (by decide)) (fun _ => ?_)
        refine ep_iconst (v := 0) d_M_wrap_35 (by decide) ?_
        exact ep_iret d_M_wrap_36 rfl rfl (xB_x 0 (congrArg (fun z => gvN z S) (if_neg (fun u => b14 u.2.1))) hb rfl)
set_option maxHeartbeats 4000000 in
set_option maxRecDepth 100000 in
theorem M_array (hb : MB rI rA S) (hW : WN S.1) (hl : S.1.length ≤ 60) (x n : Int32) : EvP m_M_array (d + 4) 0 [(0, .ref 16), (1, .int x), (2, .int n)] [] (HC X cI cA rI rA ol J) (xB X cI cA ol J S (gvN (aArray S.1 x n) S)) := by
  refine ep_aload_n (j := 0) d_M_array_0 rfl rfl ?_
  refine ep_aload_n (j := 0) d_M_array_1 rfl rfl ?_
  refine ep_iload_n (j := 1) d_M_array_2 rfl rfl ?_
  refine ep_callVb (As := [.int x]) (st := [.ref 16]) d_M_array_3 lk_M_63 cal_M_isType tm_M_isType ts_M_isType rfl rfl rfl (Nat.le_of_ble_eq_true rfl) (Nat.le_of_ble_eq_true rfl) rfl rfl (M_isType (rI := rI) hb hW x) (fun b3 => ?_) (fun b3 => ?_)
  · refine ep_if_eq (tgt := 25) d_M_array_6 (by decide) (fun z => absurd z (by decide)) (fun _ => ?_)
    refine ep_iload_n (j := 2) d_M_array_9 rfl rfl ?_
    refine ep_iconst (v := 1) d_M_array_10 (by decide) ?_
    refine ep_icmp_lt (tgt := 25) d_M_array_11 (by decide) (fun c11 => ?_) (fun c11 => ?_)
    · refine ep_iconst (v := 1) d_M_array_25 (by decide) ?_
      refine ep_putf' (fi := 0) (h2 := HC X cI cA (upd rI 0 1) rA ol J) d_M_array_26 cl5 lf_M_52 (by decide) (Or.inl rfl) rfl rfl hI_16_0 ?_
      refine ep_aload_n (j := 0) d_M_array_29 rfl rfl ?_
      refine ep_getf (fi := 0) (v := .int 1) d_M_array_30 cl5 lf_M_52 (by decide) rfl rfl ?_
      refine ep_if_le (tgt := 40) d_M_array_33 (by decide) (fun z => absurd z (by decide)) (fun _ => ?_)
      refine ep_iconst (v := 0) d_M_array_36 (by decide) ?_
      refine ep_goto (tgt := 52) d_M_array_37 (by decide) ?_
      exact ep_iret d_M_array_52 rfl rfl (xB_x 0 (congrArg (fun z => gvN z S) (if_neg (fun u => u.2.1 c11))) hb rfl)
    · refine ep_iload_n (j := 2) d_M_array_14 rfl rfl ?_
      refine ep_sipush (v := 999) d_M_array_15 (by decide) ?_
      refine ep_icmp_gt (tgt := 25) d_M_array_18 (by decide) (fun c18 => ?_) (fun c18 => ?_)
      · refine ep_iconst (v := 1) d_M_array_25 (by decide) ?_
        refine ep_putf' (fi := 0) (h2 := HC X cI cA (upd rI 0 1) rA ol J) d_M_array_26 cl5 lf_M_52 (by decide) (Or.inl rfl) rfl rfl hI_16_0 ?_
        refine ep_aload_n (j := 0) d_M_array_29 rfl rfl ?_
        refine ep_getf (fi := 0) (v := .int 1) d_M_array_30 cl5 lf_M_52 (by decide) rfl rfl ?_
        refine ep_if_le (tgt := 40) d_M_array_33 (by decide) (fun z => absurd z (by decide)) (fun _ => ?_)
        refine ep_iconst (v := 0) d_M_array_36 (by decide) ?_
        refine ep_goto (tgt := 52) d_M_array_37 (by decide) ?_
        exact ep_iret d_M_array_52 rfl rfl (xB_x 0 (congrArg (fun z => gvN z S) (if_neg (fun u => absurd u.2.2 (Int32.not_le.mpr c18)))) hb rfl)
      · refine ep_iconst (v := 0) d_M_array_21 (by decide) ?_
        refine ep_goto (tgt := 26) d_M_array_22 (by decide) ?_
        refine ep_putf' (fi := 0) (h2 := HC X cI cA (upd rI 0 0) rA ol J) d_M_array_26 cl5 lf_M_52 (by decide) (Or.inl rfl) rfl rfl hI_16_0 ?_
        refine ep_aload_n (j := 0) d_M_array_29 rfl rfl ?_
        refine ep_getf (fi := 0) (v := .int 0) d_M_array_30 cl5 lf_M_52 (by decide) rfl rfl ?_
        refine ep_if_le (tgt := 40) d_M_array_33 (by decide) (fun _ => ?_) (fun z => absurd (by decide) z)
        refine ep_aload_n (j := 0) d_M_array_40 rfl rfl ?_
        refine ep_bipush (v := 7) d_M_array_41 (by decide) ?_
        refine ep_iload_n (j := 2) d_M_array_43 rfl rfl ?_
        refine ep_iload_n (j := 1) d_M_array_44 rfl rfl ?_
        refine ep_iconst (v := (-1)) d_M_array_45 (by decide) ?_
        refine ep_iconst (v := (-1)) d_M_array_46 (by decide) ?_
        refine ep_iconst (v := (-1)) d_M_array_47 (by decide) ?_
        refine ep_iconst (v := (-1)) d_M_array_48 (by decide) ?_
        refine ep_res (res' := gvN (addN S.1 7 n x (-1) (-1) (-1) (-1)) S) (congrArg (fun z => gvN z S) (if_pos (⟨b3, c11, Int32.not_lt.mp c18⟩))) ?_
        exact ep_tailM (As := [.int 7, .int n, .int x, .int (-1), .int (-1), .int (-1), .int (-1)]) d_M_array_49 lk_M_77 cal_M_give tm_M_give ts_M_give rfl rfl rfl (Nat.le_of_ble_eq_true rfl) rfl rfl d_M_array_52 rfl (M_give (rI := upd rI 0 0) hb hW hl 7 n x (-1) (-1) (-1) (-1) (.ar b3 ⟨c11, Int32.not_lt.mp c18⟩))
  · refine ep_if_eq (tgt := 25) d_M_array_6 (by decide) (fun _ => ?_) (fun z => absurd (by decide) z)
    refine ep_iconst (v := 1) d_M_array_25 (by decide) ?_
    refine ep_putf' (fi := 0) (h2 := HC X cI cA (upd rI 0 1) rA ol J) d_M_array_26 cl5 lf_M_52 (by decide) (Or.inl rfl) rfl rfl hI_16_0 ?_
    refine ep_aload_n (j := 0) d_M_array_29 rfl rfl ?_
    refine ep_getf (fi := 0) (v := .int 1) d_M_array_30 cl5 lf_M_52 (by decide) rfl rfl ?_
    refine ep_if_le (tgt := 40) d_M_array_33 (by decide) (fun z => absurd z (by decide)) (fun _ => ?_)
    refine ep_iconst (v := 0) d_M_array_36 (by decide) ?_
    refine ep_goto (tgt := 52) d_M_array_37 (by decide) ?_
    exact ep_iret d_M_array_52 rfl rfl (xB_x 0 (congrArg (fun z => gvN z S) (if_neg (fun u => b3 u.1))) hb rfl)
set_option maxHeartbeats 4000000 in
set_option maxRecDepth 100000 in
theorem M_function (hb : MB rI rA S) (hW : WN S.1) (hl : S.1.length ≤ 60) (g a b c : Int32) : EvP m_M_function (d + 4) 0 [(0, .ref 16), (1, .int g), (2, .int a), (3, .int b), (4, .int c)] [] (HC X cI cA rI rA ol J) (xB X cI cA ol J S (gvN (aFunction S.1 g a b c) S)) := by
  refine ep_aload_n (j := 0) d_M_function_0 rfl rfl ?_
  refine ep_aload_n (j := 0) d_M_function_1 rfl rfl ?_
  refine ep_iload_n (j := 1) d_M_function_2 rfl rfl ?_
  refine ep_callVb (As := [.int g]) (st := [.ref 16]) d_M_function_3 lk_M_63 cal_M_isType tm_M_isType ts_M_isType rfl rfl rfl (Nat.le_of_ble_eq_true rfl) (Nat.le_of_ble_eq_true rfl) rfl rfl (M_isType (rI := rI) hb hW g) (fun b3 => ?_) (fun b3 => ?_)
  · refine ep_if_eq (tgt := 24) d_M_function_6 (by decide) (fun z => absurd z (by decide)) (fun _ => ?_)
    refine ep_aload_n (j := 0) d_M_function_9 rfl rfl ?_
    refine ep_iload_n (j := 2) d_M_function_10 rfl rfl ?_
    refine ep_iload_n (j := 3) d_M_function_11 rfl rfl ?_
    refine ep_iload (j := 4) d_M_function_12 rfl ?_
    refine ep_callVb (As := [.int a, .int b, .int c]) (st := [.ref 16]) d_M_function_14 lk_M_92 cal_M_areParameters tm_M_areParameters ts_M_areParameters rfl rfl rfl (Nat.le_of_ble_eq_true rfl) (Nat.le_of_ble_eq_true rfl) rfl rfl (M_areParameters (rI := rI) hb hW a b c) (fun b14 => ?_) (fun b14 => ?_)
    · refine ep_if_eq (tgt := 24) d_M_function_17 (by decide) (fun z => absurd z (by decide)) (fun _ => ?_)
      refine ep_iconst (v := 0) d_M_function_20 (by decide) ?_
      refine ep_goto (tgt := 25) d_M_function_21 (by decide) ?_
      refine ep_putf' (fi := 0) (h2 := HC X cI cA (upd rI 0 0) rA ol J) d_M_function_25 cl5 lf_M_52 (by decide) (Or.inl rfl) rfl rfl hI_16_0 ?_
      refine ep_aload_n (j := 0) d_M_function_28 rfl rfl ?_
      refine ep_getf (fi := 0) (v := .int 0) d_M_function_29 cl5 lf_M_52 (by decide) rfl rfl ?_
      refine ep_if_le (tgt := 39) d_M_function_32 (by decide) (fun _ => ?_) (fun z => absurd (by decide) z)
      refine ep_aload_n (j := 0) d_M_function_39 rfl rfl ?_
      refine ep_bipush (v := 8) d_M_function_40 (by decide) ?_
      refine ep_iconst (v := 0) d_M_function_42 (by decide) ?_
      refine ep_iload_n (j := 1) d_M_function_43 rfl rfl ?_
      refine ep_iconst (v := (-1)) d_M_function_44 (by decide) ?_
      refine ep_iload_n (j := 2) d_M_function_45 rfl rfl ?_
      refine ep_iload_n (j := 3) d_M_function_46 rfl rfl ?_
      refine ep_iload (j := 4) d_M_function_47 rfl ?_
      refine ep_res (res' := gvN (addN S.1 8 0 g (-1) a b c) S) (congrArg (fun z => gvN z S) (if_pos (⟨b3, b14⟩))) ?_
      exact ep_tailM (As := [.int 8, .int 0, .int g, .int (-1), .int a, .int b, .int c]) d_M_function_49 lk_M_77 cal_M_give tm_M_give ts_M_give rfl rfl rfl (Nat.le_of_ble_eq_true rfl) rfl rfl d_M_function_52 rfl (M_give (rI := upd rI 0 0) hb hW hl 8 0 g (-1) a b c (.fn b3 b14))
    · refine ep_if_eq (tgt := 24) d_M_function_17 (by decide) (fun _ => ?_) (fun z => absurd (by decide) z)
      refine ep_iconst (v := 1) d_M_function_24 (by decide) ?_
      refine ep_putf' (fi := 0) (h2 := HC X cI cA (upd rI 0 1) rA ol J) d_M_function_25 cl5 lf_M_52 (by decide) (Or.inl rfl) rfl rfl hI_16_0 ?_
      refine ep_aload_n (j := 0) d_M_function_28 rfl rfl ?_
      refine ep_getf (fi := 0) (v := .int 1) d_M_function_29 cl5 lf_M_52 (by decide) rfl rfl ?_
      refine ep_if_le (tgt := 39) d_M_function_32 (by decide) (fun z => absurd z (by decide)) (fun _ => ?_)
      refine ep_iconst (v := 0) d_M_function_35 (by decide) ?_
      refine ep_goto (tgt := 52) d_M_function_36 (by decide) ?_
      exact ep_iret d_M_function_52 rfl rfl (xB_x 0 (congrArg (fun z => gvN z S) (if_neg (fun u => b14 u.2))) hb rfl)
  · refine ep_if_eq (tgt := 24) d_M_function_6 (by decide) (fun _ => ?_) (fun z => absurd (by decide) z)
    refine ep_iconst (v := 1) d_M_function_24 (by decide) ?_
    refine ep_putf' (fi := 0) (h2 := HC X cI cA (upd rI 0 1) rA ol J) d_M_function_25 cl5 lf_M_52 (by decide) (Or.inl rfl) rfl rfl hI_16_0 ?_
    refine ep_aload_n (j := 0) d_M_function_28 rfl rfl ?_
    refine ep_getf (fi := 0) (v := .int 1) d_M_function_29 cl5 lf_M_52 (by decide) rfl rfl ?_
    refine ep_if_le (tgt := 39) d_M_function_32 (by decide) (fun z => absurd z (by decide)) (fun _ => ?_)
    refine ep_iconst (v := 0) d_M_function_35 (by decide) ?_
    refine ep_goto (tgt := 52) d_M_function_36 (by decide) ?_
    exact ep_iret d_M_function_52 rfl rfl (xB_x 0 (congrArg (fun z => gvN z S) (if_neg (fun u => b3 u.1))) hb rfl)
set_option maxHeartbeats 4000000 in
set_option maxRecDepth 100000 in
theorem M_literal (hb : MB rI rA S) (hW : WN S.1) (hl : S.1.length ≤ 60) (x v : Int32) : EvP m_M_literal (d + 4) 0 [(0, .ref 16), (1, .int x), (2, .int v)] [] (HC X cI cA rI rA ol J) (xB X cI cA ol J S (gvN (aLiteral S.1 x v) S)) := by
  refine ep_aload_n (j := 0) d_M_literal_0 rfl rfl ?_
  refine ep_aload_n (j := 0) d_M_literal_1 rfl rfl ?_
  refine ep_iload_n (j := 1) d_M_literal_2 rfl rfl ?_
  refine ep_callVb (As := [.int x]) (st := [.ref 16]) d_M_literal_3 lk_M_89 cal_M_isParameter tm_M_isParameter ts_M_isParameter rfl rfl rfl (Nat.le_of_ble_eq_true rfl) (Nat.le_of_ble_eq_true rfl) rfl rfl (M_isParameter (rI := rI) hb hW x) (fun b3 => ?_) (fun b3 => ?_)
  · refine ep_if_eq (tgt := 25) d_M_literal_6 (by decide) (fun z => absurd z (by decide)) (fun _ => ?_)
    refine ep_iload_n (j := 2) d_M_literal_9 rfl rfl ?_
    refine ep_ldc (v := (-999999)) d_M_literal_10 ln_M_96 ?_
    refine ep_icmp_lt (tgt := 25) d_M_literal_12 (by decide) (fun c12 => ?_) (fun c12 => ?_)
    · refine ep_iconst (v := 1) d_M_literal_25 (by decide) ?_
      refine ep_putf' (fi := 0) (h2 := HC X cI cA (upd rI 0 1) rA ol J) d_M_literal_26 cl5 lf_M_52 (by decide) (Or.inl rfl) rfl rfl hI_16_0 ?_
      refine ep_aload_n (j := 0) d_M_literal_29 rfl rfl ?_
      refine ep_getf (fi := 0) (v := .int 1) d_M_literal_30 cl5 lf_M_52 (by decide) rfl rfl ?_
      refine ep_if_le (tgt := 38) d_M_literal_33 (by decide) (fun z => absurd z (by decide)) (fun _ => ?_)
      refine ep_iconst (v := 0) d_M_literal_36 (by decide) ?_
      exact ep_iret d_M_literal_37 rfl rfl (xB_x 0 (congrArg (fun z => gvN z S) (if_neg (fun u => u.2.1 c12))) hb rfl)
    · refine ep_iload_n (j := 2) d_M_literal_15 rfl rfl ?_
      refine ep_ldc (v := 999999) d_M_literal_16 ln_M_97 ?_
      refine ep_icmp_gt (tgt := 25) d_M_literal_18 (by decide) (fun c18 => ?_) (fun c18 => ?_)
      · refine ep_iconst (v := 1) d_M_literal_25 (by decide) ?_
        refine ep_putf' (fi := 0) (h2 := HC X cI cA (upd rI 0 1) rA ol J) d_M_literal_26 cl5 lf_M_52 (by decide) (Or.inl rfl) rfl rfl hI_16_0 ?_
        refine ep_aload_n (j := 0) d_M_literal_29 rfl rfl ?_
        refine ep_getf (fi := 0) (v := .int 1) d_M_literal_30 cl5 lf_M_52 (by decide) rfl rfl ?_
        refine ep_if_le (tgt := 38) d_M_literal_33 (by decide) (fun z => absurd z (by decide)) (fun _ => ?_)
        refine ep_iconst (v := 0) d_M_literal_36 (by decide) ?_
        exact ep_iret d_M_literal_37 rfl rfl (xB_x 0 (congrArg (fun z => gvN z S) (if_neg (fun u => absurd u.2.2 (Int32.not_le.mpr c18)))) hb rfl)
      · refine ep_iconst (v := 0) d_M_literal_21 (by decide) ?_
        refine ep_goto (tgt := 26) d_M_literal_22 (by decide) ?_
        refine ep_putf' (fi := 0) (h2 := HC X cI cA (upd rI 0 0) rA ol J) d_M_literal_26 cl5 lf_M_52 (by decide) (Or.inl rfl) rfl rfl hI_16_0 ?_
        refine ep_aload_n (j := 0) d_M_literal_29 rfl rfl ?_
        refine ep_getf (fi := 0) (v := .int 0) d_M_literal_30 cl5 lf_M_52 (by decide) rfl rfl ?_
        refine ep_if_le (tgt := 38) d_M_literal_33 (by decide) (fun _ => ?_) (fun z => absurd (by decide) z)
        refine ep_aload_n (j := 0) d_M_literal_38 rfl rfl ?_
        refine ep_aload_n (j := 0) d_M_literal_39 rfl rfl ?_
        refine ep_getf (fi := 3) (v := .ref 17) d_M_literal_40 cl5 lf_M_7 (by decide) rfl rfl ?_
        refine ep_iload_n (j := 1) d_M_literal_43 rfl rfl ?_
        refine ep_kind (N := S.1) d_M_literal_44 hb.1.2 (by have := hW.1; omega) (ty_vd (by omega) b3.1) ?_
        refine ep_if_ne (tgt := 52) d_M_literal_45 (by decide) (fun c45 => ?_) (fun c45 => ?_)
        · refine ep_iconst (v := 1) d_M_literal_52 (by decide) ?_
          refine ep_putf' (fi := 0) (h2 := HC X cI cA (upd rI 0 1) rA ol J) d_M_literal_53 cl5 lf_M_52 (by decide) (Or.inl rfl) rfl rfl (hI_16_0.trans (congrArg (fun z => HC X cI cA z rA ol J) (upd_upd _ _ _ _))) ?_
          refine ep_aload_n (j := 0) d_M_literal_56 rfl rfl ?_
          refine ep_getf (fi := 0) (v := .int 1) d_M_literal_57 cl5 lf_M_52 (by decide) rfl rfl ?_
          refine ep_if_le (tgt := 67) d_M_literal_60 (by decide) (fun z => absurd z (by decide)) (fun _ => ?_)
          refine ep_iconst (v := 0) d_M_literal_63 (by decide) ?_
          refine ep_goto (tgt := 79) d_M_literal_64 (by decide) ?_
          exact ep_iret d_M_literal_79 rfl rfl (xB_x 0 (congrArg (fun z => gvN z S) (if_neg (fun u => c45 u.1.1))) hb rfl)
        · refine ep_iconst (v := 0) d_M_literal_48 (by decide) ?_
          refine ep_goto (tgt := 53) d_M_literal_49 (by decide) ?_
          refine ep_putf' (fi := 0) (h2 := HC X cI cA (upd rI 0 0) rA ol J) d_M_literal_53 cl5 lf_M_52 (by decide) (Or.inl rfl) rfl rfl (hI_16_0.trans (congrArg (fun z => HC X cI cA z rA ol J) (upd_upd _ _ _ _))) ?_
          refine ep_aload_n (j := 0) d_M_literal_56 rfl rfl ?_
          refine ep_getf (fi := 0) (v := .int 0) d_M_literal_57 cl5 lf_M_52 (by decide) rfl rfl ?_
          refine ep_if_le (tgt := 67) d_M_literal_60 (by decide) (fun _ => ?_) (fun z => absurd (by decide) z)
          refine ep_aload_n (j := 0) d_M_literal_67 rfl rfl ?_
          refine ep_bipush (v := 9) d_M_literal_68 (by decide) ?_
          refine ep_iload_n (j := 2) d_M_literal_70 rfl rfl ?_
          refine ep_iload_n (j := 1) d_M_literal_71 rfl rfl ?_
          refine ep_iconst (v := (-1)) d_M_literal_72 (by decide) ?_
          refine ep_iconst (v := (-1)) d_M_literal_73 (by decide) ?_
          refine ep_iconst (v := (-1)) d_M_literal_74 (by decide) ?_
          refine ep_iconst (v := (-1)) d_M_literal_75 (by decide) ?_
          refine ep_res (res' := gvN (addN S.1 9 v x (-1) (-1) (-1) (-1)) S) (congrArg (fun z => gvN z S) (if_pos (⟨li_iff b3 c45, c12, Int32.not_lt.mp c18⟩))) ?_
          exact ep_tailM (As := [.int 9, .int v, .int x, .int (-1), .int (-1), .int (-1), .int (-1)]) d_M_literal_76 lk_M_77 cal_M_give tm_M_give ts_M_give rfl rfl rfl (Nat.le_of_ble_eq_true rfl) rfl rfl d_M_literal_79 rfl (M_give (rI := upd rI 0 0) hb hW hl 9 v x (-1) (-1) (-1) (-1) (.li (li_iff b3 c45) ⟨c12, Int32.not_lt.mp c18⟩))
  · refine ep_if_eq (tgt := 25) d_M_literal_6 (by decide) (fun _ => ?_) (fun z => absurd (by decide) z)
    refine ep_iconst (v := 1) d_M_literal_25 (by decide) ?_
    refine ep_putf' (fi := 0) (h2 := HC X cI cA (upd rI 0 1) rA ol J) d_M_literal_26 cl5 lf_M_52 (by decide) (Or.inl rfl) rfl rfl hI_16_0 ?_
    refine ep_aload_n (j := 0) d_M_literal_29 rfl rfl ?_
    refine ep_getf (fi := 0) (v := .int 1) d_M_literal_30 cl5 lf_M_52 (by decide) rfl rfl ?_
    refine ep_if_le (tgt := 38) d_M_literal_33 (by decide) (fun z => absurd z (by decide)) (fun _ => ?_)
    refine ep_iconst (v := 0) d_M_literal_36 (by decide) ?_
    exact ep_iret d_M_literal_37 rfl rfl (xB_x 0 (congrArg (fun z => gvN z S) (if_neg (fun u => b3 (li_pr u.1)))) hb rfl)
set_option maxHeartbeats 4000000 in
set_option maxRecDepth 100000 in
theorem M_entity (hb : MB rI rA S) (hW : WN S.1) (hl : S.1.length ≤ 60) (s g a b c : Int32) : EvP m_M_entity (d + 4) 0 [(0, .ref 16), (1, .int s), (2, .int g), (3, .int a), (4, .int b), (5, .int c)] [] (HC X cI cA rI rA ol J) (xB X cI cA ol J S (gvN (aEntity S.1 s g a b c) S)) := by
  refine ep_aload_n (j := 0) d_M_entity_0 rfl rfl ?_
  refine ep_aload_n (j := 0) d_M_entity_1 rfl rfl ?_
  refine ep_iload_n (j := 1) d_M_entity_2 rfl rfl ?_
  refine ep_callVb (As := [.int s]) (st := [.ref 16]) d_M_entity_3 lk_M_83 cal_M_isScoped tm_M_isScoped ts_M_isScoped rfl rfl rfl (Nat.le_of_ble_eq_true rfl) (Nat.le_of_ble_eq_true rfl) rfl rfl (M_isScoped (rI := rI) hb hW s) (fun b3 => ?_) (fun b3 => ?_)
  · refine ep_if_eq (tgt := 25) d_M_entity_6 (by decide) (fun z => absurd z (by decide)) (fun _ => ?_)
    refine ep_aload_n (j := 0) d_M_entity_9 rfl rfl ?_
    refine ep_iload_n (j := 3) d_M_entity_10 rfl rfl ?_
    refine ep_iload (j := 4) d_M_entity_11 rfl ?_
    refine ep_iload (j := 5) d_M_entity_13 rfl ?_
    refine ep_callVb (As := [.int a, .int b, .int c]) (st := [.ref 16]) d_M_entity_15 lk_M_92 cal_M_areParameters tm_M_areParameters ts_M_areParameters rfl rfl rfl (Nat.le_of_ble_eq_true rfl) (Nat.le_of_ble_eq_true rfl) rfl rfl (M_areParameters (rI := rI) hb hW a b c) (fun b15 => ?_) (fun b15 => ?_)
    · refine ep_if_eq (tgt := 25) d_M_entity_18 (by decide) (fun z => absurd z (by decide)) (fun _ => ?_)
      refine ep_iconst (v := 0) d_M_entity_21 (by decide) ?_
      refine ep_goto (tgt := 26) d_M_entity_22 (by decide) ?_
      refine ep_putf' (fi := 0) (h2 := HC X cI cA (upd rI 0 0) rA ol J) d_M_entity_26 cl5 lf_M_52 (by decide) (Or.inl rfl) rfl rfl hI_16_0 ?_
      refine ep_aload_n (j := 0) d_M_entity_29 rfl rfl ?_
      refine ep_getf (fi := 0) (v := .int 0) d_M_entity_30 cl5 lf_M_52 (by decide) rfl rfl ?_
      refine ep_if_le (tgt := 38) d_M_entity_33 (by decide) (fun _ => ?_) (fun z => absurd (by decide) z)
      refine ep_aload_n (j := 0) d_M_entity_38 rfl rfl ?_
      refine ep_aload_n (j := 0) d_M_entity_39 rfl rfl ?_
      refine ep_getf (fi := 3) (v := .ref 17) d_M_entity_40 cl5 lf_M_7 (by decide) rfl rfl ?_
      refine ep_iload_n (j := 1) d_M_entity_43 rfl rfl ?_
      refine ep_kind (N := S.1) d_M_entity_44 hb.1.2 (by have := hW.1; omega) (pf_vd (by omega) b3) ?_
      refine ep_iconst (v := 3) d_M_entity_45 (by decide) ?_
      refine ep_icmp_ne (tgt := 65) d_M_entity_46 (by decide) (fun c46 => ?_) (fun c46 => ?_)
      · refine ep_iload_n (j := 2) d_M_entity_65 rfl rfl ?_
        refine ep_iconst (v := (-1)) d_M_entity_66 (by decide) ?_
        refine ep_icmp_ne (tgt := 74) d_M_entity_67 (by decide) (fun c67 => ?_) (fun c67 => ?_)
        · refine ep_iconst (v := 1) d_M_entity_74 (by decide) ?_
          refine ep_putf' (fi := 0) (h2 := HC X cI cA (upd rI 0 1) rA ol J) d_M_entity_75 cl5 lf_M_52 (by decide) (Or.inl rfl) rfl rfl (hI_16_0.trans (congrArg (fun z => HC X cI cA z rA ol J) (upd_upd _ _ _ _))) ?_
          refine ep_aload_n (j := 0) d_M_entity_78 rfl rfl ?_
          refine ep_getf (fi := 0) (v := .int 1) d_M_entity_79 cl5 lf_M_52 (by decide) rfl rfl ?_
          refine ep_if_le (tgt := 89) d_M_entity_82 (by decide) (fun z => absurd z (by decide)) (fun _ => ?_)
          refine ep_iconst (v := 0) d_M_entity_85 (by decide) ?_
          refine ep_goto (tgt := 103) d_M_entity_86 (by decide) ?_
          exact ep_iret d_M_entity_103 rfl rfl (xB_x 0 (congrArg (fun z => gvN z S) (if_neg (fun u => by have w := u.2.1; rw [if_neg (show ¬ kN S.1 s = 3 from c46)] at w; exact c67 w))) hb rfl)
        · refine ep_iconst (v := 0) d_M_entity_70 (by decide) ?_
          refine ep_goto (tgt := 75) d_M_entity_71 (by decide) ?_
          refine ep_putf' (fi := 0) (h2 := HC X cI cA (upd rI 0 0) rA ol J) d_M_entity_75 cl5 lf_M_52 (by decide) (Or.inl rfl) rfl rfl (hI_16_0.trans (congrArg (fun z => HC X cI cA z rA ol J) (upd_upd _ _ _ _))) ?_
          refine ep_aload_n (j := 0) d_M_entity_78 rfl rfl ?_
          refine ep_getf (fi := 0) (v := .int 0) d_M_entity_79 cl5 lf_M_52 (by decide) rfl rfl ?_
          refine ep_if_le (tgt := 89) d_M_entity_82 (by decide) (fun _ => ?_) (fun z => absurd (by decide) z)
          refine ep_aload_n (j := 0) d_M_entity_89 rfl rfl ?_
          refine ep_bipush (v := 10) d_M_entity_90 (by decide) ?_
          refine ep_iconst (v := 0) d_M_entity_92 (by decide) ?_
          refine ep_iload_n (j := 1) d_M_entity_93 rfl rfl ?_
          refine ep_iload_n (j := 2) d_M_entity_94 rfl rfl ?_
          refine ep_iload_n (j := 3) d_M_entity_95 rfl rfl ?_
          refine ep_iload (j := 4) d_M_entity_96 rfl ?_
          refine ep_iload (j := 5) d_M_entity_98 rfl ?_
          refine ep_res (res' := gvN (addN S.1 10 0 s g a b c) S) (congrArg (fun z => gvN z S) (if_pos (⟨b3, (by rw [if_neg (show ¬ kN S.1 s = 3 from c46)]; exact c67), b15⟩))) ?_
          exact ep_tailM (As := [.int 10, .int 0, .int s, .int g, .int a, .int b, .int c]) d_M_entity_100 lk_M_77 cal_M_give tm_M_give ts_M_give rfl rfl rfl (Nat.le_of_ble_eq_true rfl) rfl rfl d_M_entity_103 rfl (M_give (rI := upd rI 0 0) hb hW hl 10 0 s g a b c (.en b3 (by rw [if_neg (show ¬ kN S.1 s = 3 from c46)]; exact c67) b15))
      · refine ep_aload_n (j := 0) d_M_entity_49 rfl rfl ?_
        refine ep_iload_n (j := 2) d_M_entity_50 rfl rfl ?_
        refine ep_callVb (As := [.int g]) (st := [.ref 16]) d_M_entity_51 lk_M_63 cal_M_isType tm_M_isType ts_M_isType rfl rfl rfl (Nat.le_of_ble_eq_true rfl) (Nat.le_of_ble_eq_true rfl) rfl rfl (M_isType (rI := upd rI 0 0) hb hW g) (fun b51 => ?_) (fun b51 => ?_)
        · refine ep_if_eq (tgt := 61) d_M_entity_54 (by decide) (fun z => absurd z (by decide)) (fun _ => ?_)
          refine ep_iconst (v := 0) d_M_entity_57 (by decide) ?_
          refine ep_goto (tgt := 75) d_M_entity_58 (by decide) ?_
          refine ep_putf' (fi := 0) (h2 := HC X cI cA (upd rI 0 0) rA ol J) d_M_entity_75 cl5 lf_M_52 (by decide) (Or.inl rfl) rfl rfl (hI_16_0.trans (congrArg (fun z => HC X cI cA z rA ol J) (upd_upd _ _ _ _))) ?_
          refine ep_aload_n (j := 0) d_M_entity_78 rfl rfl ?_
          refine ep_getf (fi := 0) (v := .int 0) d_M_entity_79 cl5 lf_M_52 (by decide) rfl rfl ?_
          refine ep_if_le (tgt := 89) d_M_entity_82 (by decide) (fun _ => ?_) (fun z => absurd (by decide) z)
          refine ep_aload_n (j := 0) d_M_entity_89 rfl rfl ?_
          refine ep_bipush (v := 10) d_M_entity_90 (by decide) ?_
          refine ep_iconst (v := 0) d_M_entity_92 (by decide) ?_
          refine ep_iload_n (j := 1) d_M_entity_93 rfl rfl ?_
          refine ep_iload_n (j := 2) d_M_entity_94 rfl rfl ?_
          refine ep_iload_n (j := 3) d_M_entity_95 rfl rfl ?_
          refine ep_iload (j := 4) d_M_entity_96 rfl ?_
          refine ep_iload (j := 5) d_M_entity_98 rfl ?_
          refine ep_res (res' := gvN (addN S.1 10 0 s g a b c) S) (congrArg (fun z => gvN z S) (if_pos (⟨b3, (by rw [if_pos (show kN S.1 s = 3 from c46)]; exact b51), b15⟩))) ?_
          exact ep_tailM (As := [.int 10, .int 0, .int s, .int g, .int a, .int b, .int c]) d_M_entity_100 lk_M_77 cal_M_give tm_M_give ts_M_give rfl rfl rfl (Nat.le_of_ble_eq_true rfl) rfl rfl d_M_entity_103 rfl (M_give (rI := upd rI 0 0) hb hW hl 10 0 s g a b c (.en b3 (by rw [if_pos (show kN S.1 s = 3 from c46)]; exact b51) b15))
        · refine ep_if_eq (tgt := 61) d_M_entity_54 (by decide) (fun _ => ?_) (fun z => absurd (by decide) z)
          refine ep_iconst (v := 1) d_M_entity_61 (by decide) ?_
          refine ep_goto (tgt := 75) d_M_entity_62 (by decide) ?_
          refine ep_putf' (fi := 0) (h2 := HC X cI cA (upd rI 0 1) rA ol J) d_M_entity_75 cl5 lf_M_52 (by decide) (Or.inl rfl) rfl rfl (hI_16_0.trans (congrArg (fun z => HC X cI cA z rA ol J) (upd_upd _ _ _ _))) ?_
          refine ep_aload_n (j := 0) d_M_entity_78 rfl rfl ?_
          refine ep_getf (fi := 0) (v := .int 1) d_M_entity_79 cl5 lf_M_52 (by decide) rfl rfl ?_
          refine ep_if_le (tgt := 89) d_M_entity_82 (by decide) (fun z => absurd z (by decide)) (fun _ => ?_)
          refine ep_iconst (v := 0) d_M_entity_85 (by decide) ?_
          refine ep_goto (tgt := 103) d_M_entity_86 (by decide) ?_
          exact ep_iret d_M_entity_103 rfl rfl (xB_x 0 (congrArg (fun z => gvN z S) (if_neg (fun u => by have w := u.2.1; rw [if_pos (show kN S.1 s = 3 from c46)] at w; exact b51 w))) hb rfl)
    · refine ep_if_eq (tgt := 25) d_M_entity_18 (by decide) (fun _ => ?_) (fun z => absurd (by decide) z)
      refine ep_iconst (v := 1) d_M_entity_25 (by decide) ?_
      refine ep_putf' (fi := 0) (h2 := HC X cI cA (upd rI 0 1) rA ol J) d_M_entity_26 cl5 lf_M_52 (by decide) (Or.inl rfl) rfl rfl hI_16_0 ?_
      refine ep_aload_n (j := 0) d_M_entity_29 rfl rfl ?_
      refine ep_getf (fi := 0) (v := .int 1) d_M_entity_30 cl5 lf_M_52 (by decide) rfl rfl ?_
      refine ep_if_le (tgt := 38) d_M_entity_33 (by decide) (fun z => absurd z (by decide)) (fun _ => ?_)
      refine ep_iconst (v := 0) d_M_entity_36 (by decide) ?_
      exact ep_iret d_M_entity_37 rfl rfl (xB_x 0 (congrArg (fun z => gvN z S) (if_neg (fun u => b15 u.2.2))) hb rfl)
  · refine ep_if_eq (tgt := 25) d_M_entity_6 (by decide) (fun _ => ?_) (fun z => absurd (by decide) z)
    refine ep_iconst (v := 1) d_M_entity_25 (by decide) ?_
    refine ep_putf' (fi := 0) (h2 := HC X cI cA (upd rI 0 1) rA ol J) d_M_entity_26 cl5 lf_M_52 (by decide) (Or.inl rfl) rfl rfl hI_16_0 ?_
    refine ep_aload_n (j := 0) d_M_entity_29 rfl rfl ?_
    refine ep_getf (fi := 0) (v := .int 1) d_M_entity_30 cl5 lf_M_52 (by decide) rfl rfl ?_
    refine ep_if_le (tgt := 38) d_M_entity_33 (by decide) (fun z => absurd z (by decide)) (fun _ => ?_)
    refine ep_iconst (v := 0) d_M_entity_36 (by decide) ?_
    exact ep_iret d_M_entity_37 rfl rfl (xB_x 0 (congrArg (fun z => gvN z S) (if_neg (fun u => b3 u.1))) hb rfl)
end MAD
