/-! the reference: writing, its tasks; by program (wip/whole/gen56.py) -/
section MWB
variable {d : Nat} {X : Nat × (Nat → Int32)} {cI : Nat → Int32} {cA : Nat → Nat → Int32} {rI : Nat → Int32} {rA : Nat → Nat → Int32} {ol : Int64} {J : mH} {S : CSt} {w : WM}
def plF (E : List Int32) (n : Int32) : Nat → Int32 → Int32
  | 0, p => p
  | k + 1, p => plF E n k (if E.getD k 0 = n then nI k else p)
theorem plF_eq (E : List Int32) (n : Int32) : ∀ (k : Nat) (p : Int32), k ≤ E.length → plF E n k p = if (E.take k).findIdx (fun y => decide (y = n)) < k then nI ((E.take k).findIdx (fun y => decide (y = n))) else p := by
  intro k
  induction k with
  | zero => intro p _; rw [if_neg (by omega)]; rfl
  | succ k ih =>
    intro p hk
    show plF E n k (if E.getD k 0 = n then nI k else p) = _
    have hl : (E.take k).length = k := by rw [List.length_take]; omega
    have hg : E.getD k 0 = E[k] := by rw [List.getD_eq_getElem?_getD, List.getElem?_eq_getElem (by omega)]; rfl
    rw [ih _ (by omega), List.take_succ_eq_append_getElem (by omega), List.findIdx_append, hl]
    by_cases c : (E.take k).findIdx (fun y => decide (y = n)) < k
    · rw [if_pos c, if_pos c, if_pos (by omega)]
    · rw [if_neg c, if_neg c, List.findIdx_singleton]
      by_cases e : E[k] = n
      · rw [hg, if_pos e, e]
        simp
      · rw [hg, if_neg e, if_neg (by simp [e]; omega)]
theorem plF_tix (E : List Int32) (n : Int32) : plF E n E.length (-1) = tix E n := by
  rw [plF_eq E n E.length (-1) (Nat.le_refl _), List.take_length]
  rfl
set_option maxHeartbeats 4000000 in
set_option maxRecDepth 100000 in
theorem M_po_l (hd : MV S rI rA w) (he : w.E.length ≤ 310) (n : Int32) : ∀ (k : Nat) (x p : Int32), k ≤ w.E.length → ((k = 0 ∧ x = -1) ∨ ∃ j, k = j + 1 ∧ x = nI j) → EvP m_M_placeOf d 9 [(0, .ref 16), (1, .int n), (2, .int p), (3, .int x)] [] (HC X cI cA rI rA ol J) (Ri (plF w.E n k p) (HC X cI cA rI rA ol J)) := by
  intro k
  induction k with
  | zero =>
    intro x p _ hx
    rcases hx with ⟨_, rfl⟩ | ⟨j, hj, _⟩
    · refine ep_iload_n (j := 3) d_M_placeOf_9 rfl rfl ?_
      refine ep_if_lt (tgt := 35) d_M_placeOf_10 (by decide) (fun _ => ?_) (fun z => absurd (by decide) z)
      refine ep_iload_n (j := 2) d_M_placeOf_35 rfl rfl ?_
      exact ep_iret d_M_placeOf_36 rfl rfl (⟨rfl, rfl⟩)
    · omega
  | succ k ih =>
    intro x0 p hkl hx0
    rcases hx0 with ⟨h0, _⟩ | ⟨j, hj, rfl⟩
    · omega
    obtain rfl : k = j := by omega
    have hk : rA 17 k = w.E.getD k 0 := by
      have h1 := rowL_at (f := rA 17) (show k < w.E.length by omega)
      rw [← hd.el] at h1
      rw [List.getD_eq_getElem?_getD, h1]; rfl
    obtain ⟨x, hx, hxc⟩ : ∃ x : Int32, nI k + -1 = x ∧ ((k = 0 ∧ x = -1) ∨ ∃ j, k = j + 1 ∧ x = nI j) := by
      cases k with
      | zero => exact ⟨-1, by decide, Or.inl ⟨rfl, rfl⟩⟩
      | succ j => exact ⟨nI j, pk_m1 j, Or.inr ⟨j, rfl, rfl⟩⟩
    refine ep_iload_n (j := 3) d_M_placeOf_9 rfl rfl ?_
    refine ep_if_lt (tgt := 35) d_M_placeOf_10 (by decide) (fun z => absurd z (nI_pos (by omega))) (fun _ => ?_)
    refine ep_aload_n (j := 0) d_M_placeOf_13 rfl rfl ?_
    refine ep_getf (fi := 17) (v := .ref 26) d_M_placeOf_14 cl5 lf_M_37 (by decide) rfl rfl ?_
    refine ep_iload_n (j := 3) d_M_placeOf_17 rfl rfl ?_
    refine ep_iald (f := rA 17) k d_M_placeOf_18 rfl rfl (by omega) (by decide) ?_
    refine ep_join (pc2 := 28) (lv2 := [(0, .ref 16), (1, .int n), (2, .int p), (3, .int (nI k))]) (st2 := [.int (if w.E.getD k 0 = n then nI k else p)]) ?_ (fun k28 => ?_)
    · refine ep_istore_n (lv' := [(0, .ref 16), (1, .int n), (2, .int (if w.E.getD k 0 = n then nI k else p)), (3, .int (nI k))]) [1, 2, 0, 3] d_M_placeOf_28 rfl (by decide) rfl ?_
      refine ep_iinc (v := x) (j := 3) (lv' := [(0, .ref 16), (1, .int n), (2, .int (if w.E.getD k 0 = n then nI k else p)), (3, .int x)]) [1, 2, 3, 0] d_M_placeOf_29 rfl hx (by decide) rfl ?_
      refine ep_goto (tgt := 9) d_M_placeOf_32 (by decide) ?_
      exact ih x _ (by omega) hxc
    · refine ep_iload_n (j := 1) d_M_placeOf_19 rfl rfl ?_
      refine ep_icmp_ne (tgt := 27) d_M_placeOf_20 (by decide) (fun c20 => ?_) (fun c20 => ?_)
      · refine ep_iload_n (j := 2) d_M_placeOf_27 rfl rfl ?_
        refine ep_cg (y := if w.E.getD k 0 = n then nI k else p) (by rw [hk] at c20; rw [if_neg c20]) ?_
        exact k28
      · refine ep_iload_n (j := 3) d_M_placeOf_23 rfl rfl ?_
        refine ep_goto (tgt := 28) d_M_placeOf_24 (by decide) ?_
        refine ep_cg (y := if w.E.getD k 0 = n then nI k else p) (by rw [hk] at c20; rw [if_pos c20]) ?_
        exact k28
set_option maxHeartbeats 4000000 in
set_option maxRecDepth 100000 in
theorem M_placeOf (hd : MV S rI rA w) (he : w.E.length ≤ 310) (n : Int32) : EvP m_M_placeOf d 0 [(0, .ref 16), (1, .int n)] [] (HC X cI cA rI rA ol J) (Ri (tix w.E n) (HC X cI cA rI rA ol J)) := by
  refine ep_iconst (v := (-1)) d_M_placeOf_0 (by decide) ?_
  refine ep_istore_n (lv' := [(0, .ref 16), (1, .int n), (2, .int (-1))]) [1, 2, 0] d_M_placeOf_1 rfl (by decide) rfl ?_
  refine ep_aload_n (j := 0) d_M_placeOf_2 rfl rfl ?_
  refine ep_getf (fi := 16) (v := .int (nI w.E.length)) d_M_placeOf_3 cl5 lf_M_110 (by decide) rfl (congrArg (fun z => some (Value.int z)) hd.ez) ?_
  refine ep_iconst (v := 1) d_M_placeOf_6 (by decide) ?_
  refine ep_isub d_M_placeOf_7 ?_
  refine ep_istore_n (lv' := [(0, .ref 16), (1, .int n), (2, .int (-1)), (3, .int ((nI w.E.length) - 1))]) [1, 2, 3, 0] d_M_placeOf_8 rfl (by decide) rfl ?_
  rw [← plF_tix]
  refine M_po_l hd he n w.E.length _ (-1) (Nat.le_refl _) ?_
  cases w.E.length with
  | zero => exact Or.inl ⟨rfl, by decide⟩
  | succ j => exact Or.inr ⟨j, rfl, nI_pred j⟩
set_option maxHeartbeats 4000000 in
set_option maxRecDepth 100000 in
theorem M_told0 (hd : MV S rI rA w) (he : w.E.length ≤ 310) (n : Int32) (hT : tix w.E n < 0) : EvP m_M_told (d + 1) 0 [(0, .ref 16), (1, .int n)] [] (HC X cI cA rI rA ol J) (VP X cI cA ol J S (some (.int 0)) w) := by
  refine ep_aload_n (j := 0) d_M_told_0 rfl rfl ?_
  refine ep_iload_n (j := 1) d_M_told_1 rfl rfl ?_
  refine ep_callVi (As := [.int n]) (st := []) d_M_told_2 lk_M_113 cal_M_placeOf tm_M_placeOf ts_M_placeOf rfl rfl rfl (Nat.le_of_ble_eq_true rfl) (Nat.le_of_ble_eq_true rfl) rfl rfl (M_placeOf hd he n) ?_
  refine ep_istore_n (lv' := [(0, .ref 16), (1, .int n), (2, .int (tix w.E n))]) [1, 2, 0] d_M_told_5 rfl (by decide) rfl ?_
  refine ep_iload_n (j := 2) d_M_told_6 rfl rfl ?_
  refine ep_if_ge (tgt := 12) d_M_told_7 (by decide) (fun z => absurd z (Int32.not_le.mpr hT)) (fun _ => ?_)
  refine ep_iconst (v := 0) d_M_told_10 (by decide) ?_
  exact ep_iret d_M_told_11 rfl rfl (VP_ok rfl rfl hd)
set_option maxHeartbeats 4000000 in
set_option maxRecDepth 100000 in
theorem M_told1 (hd : MV S rI rA w) (ho : w.O.length ≤ 120) (he : w.E.length ≤ 310) (n : Int32) (hT : ¬ tix w.E n < 0) : EvP m_M_told (d + 1) 0 [(0, .ref 16), (1, .int n)] [] (HC X cI cA rI rA ol J) (VP X cI cA ol J S (some (.int 1)) (toM n w)) := by
  refine ep_aload_n (j := 0) d_M_told_0 rfl rfl ?_
  refine ep_iload_n (j := 1) d_M_told_1 rfl rfl ?_
  refine ep_callVi (As := [.int n]) (st := []) d_M_told_2 lk_M_113 cal_M_placeOf tm_M_placeOf ts_M_placeOf rfl rfl rfl (Nat.le_of_ble_eq_true rfl) (Nat.le_of_ble_eq_true rfl) rfl rfl (M_placeOf hd he n) ?_
  refine ep_istore_n (lv' := [(0, .ref 16), (1, .int n), (2, .int (tix w.E n))]) [1, 2, 0] d_M_told_5 rfl (by decide) rfl ?_
  refine ep_iload_n (j := 2) d_M_told_6 rfl rfl ?_
  refine ep_if_ge (tgt := 12) d_M_told_7 (by decide) (fun _ => ?_) (fun z => absurd (Int32.not_lt.mp hT) z)
  refine ep_aload_n (j := 0) d_M_told_12 rfl rfl ?_
  refine ep_bipush (v := 83) d_M_told_13 (by decide) ?_
  refine ep_callVw2 (As := [.int 83]) (st := []) d_M_told_15 lk_M_105 cal_M_emit tm_M_emit ts_M_emit rfl rfl rfl (Nat.le_of_ble_eq_true rfl) (Nat.le_of_ble_eq_true rfl) rfl rfl (M_emit hd ho 83) (fun rI1 rA1 hd1 => ?_)
  refine ep_iload_n (j := 2) d_M_told_18 rfl rfl ?_
  refine ep_bipush (v := 36) d_M_told_19 (by decide) ?_
  refine ep_icmp_le (tgt := 37) d_M_told_21 (by decide) (fun c21 => ?_) (fun c21 => ?_)
  · refine ep_iload_n (j := 2) d_M_told_37 rfl rfl ?_
    refine ep_if_le (tgt := 54) d_M_told_38 (by decide) (fun c38 => ?_) (fun c38 => ?_)
    · refine ep_aload_n (j := 0) d_M_told_54 rfl rfl ?_
      refine ep_bipush (v := 95) d_M_told_55 (by decide) ?_
      refine ep_callVw2 (As := [.int 95]) (st := []) d_M_told_57 lk_M_105 cal_M_emit tm_M_emit ts_M_emit rfl rfl rfl (Nat.le_of_ble_eq_true rfl) (Nat.le_of_ble_eq_true rfl) rfl rfl (M_emit hd1 (eM_o ho) 95) (fun rI2 rA2 hd2 => ?_)
      refine ep_iconst (v := 1) d_M_told_60 (by decide) ?_
      exact ep_iret d_M_told_61 rfl rfl (VP_ok rfl (by unfold toM toldS; rw [if_pos c21, if_pos c38]; rfl) hd2)
    · refine ep_aload_n (j := 0) d_M_told_41 rfl rfl ?_
      refine ep_iload_n (j := 2) d_M_told_42 rfl rfl ?_
      refine ep_iconst (v := 1) d_M_told_43 (by decide) ?_
      refine ep_isub d_M_told_44 ?_
      refine ep_bipush (v := 36) d_M_told_45 (by decide) ?_
      refine ep_irem d_M_told_47 (by decide) ?_
      refine ep_callSi (As := [.int (((tix w.E n) - 1) - ((tix w.E n) - 1) / 36 * 36)]) (st := [.ref 16]) d_M_told_48 (Or.inl lk_M_117) cal_M_sign36 tm_M_sign36 ti_M rfl (Nat.le_of_ble_eq_true rfl) (Nat.le_of_ble_eq_true rfl) rfl rfl (M_sign36 (((tix w.E n) - 1) - ((tix w.E n) - 1) / 36 * 36)) ?_
      refine ep_callVw2 (As := [.int (d36 (((tix w.E n) - 1) - ((tix w.E n) - 1) / 36 * 36))]) (st := []) d_M_told_51 lk_M_105 cal_M_emit tm_M_emit ts_M_emit rfl rfl rfl (Nat.le_of_ble_eq_true rfl) (Nat.le_of_ble_eq_true rfl) rfl rfl (M_emit hd1 (eM_o ho) (d36 (((tix w.E n) - 1) - ((tix w.E n) - 1) / 36 * 36))) (fun rI3 rA3 hd3 => ?_)
      refine ep_aload_n (j := 0) d_M_told_54 rfl rfl ?_
      refine ep_bipush (v := 95) d_M_told_55 (by decide) ?_
      refine ep_callVw2 (As := [.int 95]) (st := []) d_M_told_57 lk_M_105 cal_M_emit tm_M_emit ts_M_emit rfl rfl rfl (Nat.le_of_ble_eq_true rfl) (Nat.le_of_ble_eq_true rfl) rfl rfl (M_emit hd3 (eM_o (eM_o ho)) 95) (fun rI4 rA4 hd4 => ?_)
      refine ep_iconst (v := 1) d_M_told_60 (by decide) ?_
      exact ep_iret d_M_told_61 rfl rfl (VP_ok rfl (by unfold toM toldS; rw [if_pos c21, if_neg c38]; rfl) hd4)
  · refine ep_aload_n (j := 0) d_M_told_24 rfl rfl ?_
    refine ep_iload_n (j := 2) d_M_told_25 rfl rfl ?_
    refine ep_iconst (v := 1) d_M_told_26 (by decide) ?_
    refine ep_isub d_M_told_27 ?_
    refine ep_bipush (v := 36) d_M_told_28 (by decide) ?_
    refine ep_idiv d_M_told_30 (by decide) ?_
    refine ep_callSi (As := [.int (((tix w.E n) - 1) / 36)]) (st := [.ref 16]) d_M_told_31 (Or.inl lk_M_117) cal_M_sign36 tm_M_sign36 ti_M rfl (Nat.le_of_ble_eq_true rfl) (Nat.le_of_ble_eq_true rfl) rfl rfl (M_sign36 (((tix w.E n) - 1) / 36)) ?_
    refine ep_callVw2 (As := [.int (d36 (((tix w.E n) - 1) / 36))]) (st := []) d_M_told_34 lk_M_105 cal_M_emit tm_M_emit ts_M_emit rfl rfl rfl (Nat.le_of_ble_eq_true rfl) (Nat.le_of_ble_eq_true rfl) rfl rfl (M_emit hd1 (eM_o ho) (d36 (((tix w.E n) - 1) / 36))) (fun rI5 rA5 hd5 => ?_)
    refine ep_iload_n (j := 2) d_M_told_37 rfl rfl ?_
    refine ep_if_le (tgt := 54) d_M_told_38 (by decide) (fun c38 => ?_) (fun c38 => ?_)
    · refine ep_aload_n (j := 0) d_M_told_54 rfl rfl ?_
      refine ep_bipush (v := 95) d_M_told_55 (by decide) ?_
      refine ep_callVw2 (As := [.int 95]) (st := []) d_M_told_57 lk_M_105 cal_M_emit tm_M_emit ts_M_emit rfl rfl rfl (Nat.le_of_ble_eq_true rfl) (Nat.le_of_ble_eq_true rfl) rfl rfl (M_emit hd5 (eM_o (eM_o ho)) 95) (fun rI6 rA6 hd6 => ?_)
      refine ep_iconst (v := 1) d_M_told_60 (by decide) ?_
      exact ep_iret d_M_told_61 rfl rfl (VP_ok rfl (by unfold toM toldS; rw [if_neg c21, if_pos c38]; rfl) hd6)
    · refine ep_aload_n (j := 0) d_M_told_41 rfl rfl ?_
      refine ep_iload_n (j := 2) d_M_told_42 rfl rfl ?_
      refine ep_iconst (v := 1) d_M_told_43 (by decide) ?_
      refine ep_isub d_M_told_44 ?_
      refine ep_bipush (v := 36) d_M_told_45 (by decide) ?_
      refine ep_irem d_M_told_47 (by decide) ?_
      refine ep_callSi (As := [.int (((tix w.E n) - 1) - ((tix w.E n) - 1) / 36 * 36)]) (st := [.ref 16]) d_M_told_48 (Or.inl lk_M_117) cal_M_sign36 tm_M_sign36 ti_M rfl (Nat.le_of_ble_eq_true rfl) (Nat.le_of_ble_eq_true rfl) rfl rfl (M_sign36 (((tix w.E n) - 1) - ((tix w.E n) - 1) / 36 * 36)) ?_
      refine ep_callVw2 (As := [.int (d36 (((tix w.E n) - 1) - ((tix w.E n) - 1) / 36 * 36))]) (st := []) d_M_told_51 lk_M_105 cal_M_emit tm_M_emit ts_M_emit rfl rfl rfl (Nat.le_of_ble_eq_true rfl) (Nat.le_of_ble_eq_true rfl) rfl rfl (M_emit hd5 (eM_o (eM_o ho)) (d36 (((tix w.E n) - 1) - ((tix w.E n) - 1) / 36 * 36))) (fun rI7 rA7 hd7 => ?_)
      refine ep_aload_n (j := 0) d_M_told_54 rfl rfl ?_
      refine ep_bipush (v := 95) d_M_told_55 (by decide) ?_
      refine ep_callVw2 (As := [.int 95]) (st := []) d_M_told_57 lk_M_105 cal_M_emit tm_M_emit ts_M_emit rfl rfl rfl (Nat.le_of_ble_eq_true rfl) (Nat.le_of_ble_eq_true rfl) rfl rfl (M_emit hd7 (eM_o (eM_o (eM_o ho))) 95) (fun rI8 rA8 hd8 => ?_)
      refine ep_iconst (v := 1) d_M_told_60 (by decide) ?_
      exact ep_iret d_M_told_61 rfl rfl (VP_ok rfl (by unfold toM toldS; rw [if_neg c21, if_neg c38]; rfl) hd8)
set_option maxHeartbeats 4000000 in
set_option maxRecDepth 100000 in
theorem M_pushParts (hd : MV S rI rA w) (ho : w.O.length ≤ 120) (hk : w.K.length ≤ 390) (hl : S.1.length ≤ 300) (n : Int32) (hV : Vd S.1 n) : EvP m_M_pushParts (d + 1) 0 [(0, .ref 16), (1, .int n)] [] (HC X cI cA rI rA ol J) (VP X cI cA ol J S none (pPs S.1 n w)) := by
  refine ep_iconst (v := 2) d_M_pushParts_0 (by decide) ?_
  refine ep_istore_n (lv' := [(0, .ref 16), (1, .int n), (2, .int 2)]) [1, 2, 0] d_M_pushParts_1 rfl (by decide) rfl ?_
  refine ep_iload_n (j := 2) d_M_pushParts_2 rfl rfl ?_
  refine ep_if_lt (tgt := 40) d_M_pushParts_3 (by decide) (fun z => absurd z (by decide)) (fun _ => ?_)
  refine ep_aload_n (j := 0) d_M_pushParts_6 rfl rfl ?_
  refine ep_getf (fi := 7) (v := .ref 21) d_M_pushParts_7 cl5 lf_M_22 (by decide) rfl rfl ?_
  refine ep_iconst (v := 3) d_M_pushParts_10 (by decide) ?_
  refine ep_iload_n (j := 1) d_M_pushParts_11 rfl rfl ?_
  refine ep_imul d_M_pushParts_12 ?_
  refine ep_iload_n (j := 2) d_M_pushParts_13 rfl rfl ?_
  refine ep_iadd d_M_pushParts_14 ?_
  refine ep_prt (N := S.1) (x := n) 2 (by decide) (fun i e => by rw [e, m3, a2]) d_M_pushParts_15 hd.b.1.2 (by omega) hV ?_
  refine ep_if_lt (tgt := 34) d_M_pushParts_16 (by decide) (fun c16 => ?_) (fun c16 => ?_)
  · refine ep_iinc (v := 1) (j := 2) (lv' := [(0, .ref 16), (1, .int n), (2, .int 1)]) [1, 2, 0] d_M_pushParts_34 rfl (by decide) (by decide) rfl ?_
    refine ep_goto (tgt := 2) d_M_pushParts_37 (by decide) ?_
    refine ep_iload_n (j := 2) d_M_pushParts_2 rfl rfl ?_
    refine ep_if_lt (tgt := 40) d_M_pushParts_3 (by decide) (fun z => absurd z (by decide)) (fun _ => ?_)
    refine ep_aload_n (j := 0) d_M_pushParts_6 rfl rfl ?_
    refine ep_getf (fi := 7) (v := .ref 21) d_M_pushParts_7 cl5 lf_M_22 (by decide) rfl rfl ?_
    refine ep_iconst (v := 3) d_M_pushParts_10 (by decide) ?_
    refine ep_iload_n (j := 1) d_M_pushParts_11 rfl rfl ?_
    refine ep_imul d_M_pushParts_12 ?_
    refine ep_iload_n (j := 2) d_M_pushParts_13 rfl rfl ?_
    refine ep_iadd d_M_pushParts_14 ?_
    refine ep_prt (N := S.1) (x := n) 1 (by decide) (fun i e => by rw [e, m3, nI_1]) d_M_pushParts_15 hd.b.1.2 (by omega) hV ?_
    refine ep_if_lt (tgt := 34) d_M_pushParts_16 (by decide) (fun c16_ => ?_) (fun c16_ => ?_)
    · refine ep_iinc (v := 0) (j := 2) (lv' := [(0, .ref 16), (1, .int n), (2, .int 0)]) [1, 2, 0] d_M_pushParts_34 rfl (by decide) (by decide) rfl ?_
      refine ep_goto (tgt := 2) d_M_pushParts_37 (by decide) ?_
      refine ep_iload_n (j := 2) d_M_pushParts_2 rfl rfl ?_
      refine ep_if_lt (tgt := 40) d_M_pushParts_3 (by decide) (fun z => absurd z (by decide)) (fun _ => ?_)
      refine ep_aload_n (j := 0) d_M_pushParts_6 rfl rfl ?_
      refine ep_getf (fi := 7) (v := .ref 21) d_M_pushParts_7 cl5 lf_M_22 (by decide) rfl rfl ?_
      refine ep_iconst (v := 3) d_M_pushParts_10 (by decide) ?_
      refine ep_iload_n (j := 1) d_M_pushParts_11 rfl rfl ?_
      refine ep_imul d_M_pushParts_12 ?_
      refine ep_iload_n (j := 2) d_M_pushParts_13 rfl rfl ?_
      refine ep_iadd d_M_pushParts_14 ?_
      refine ep_prt (N := S.1) (x := n) 0 (by decide) (fun i e => by rw [e, Int32.add_zero, m3, Nat.add_zero]) d_M_pushParts_15 hd.b.1.2 (by omega) hV ?_
      refine ep_if_lt (tgt := 34) d_M_pushParts_16 (by decide) (fun c16__ => ?_) (fun c16__ => ?_)
      · refine ep_iinc (v := (-1)) (j := 2) (lv' := [(0, .ref 16), (1, .int n), (2, .int (-1))]) [1, 2, 0] d_M_pushParts_34 rfl (by decide) (by decide) rfl ?_
        refine ep_goto (tgt := 2) d_M_pushParts_37 (by decide) ?_
        refine ep_iload_n (j := 2) d_M_pushParts_2 rfl rfl ?_
        refine ep_if_lt (tgt := 40) d_M_pushParts_3 (by decide) (fun _ => ?_) (fun z => absurd (by decide) z)
        exact ep_vret d_M_pushParts_40 rfl (VP_ok rfl (by unfold pPs pP1; rw [if_neg (Int32.not_le.mpr c16__), if_neg (Int32.not_le.mpr c16_), if_neg (Int32.not_le.mpr c16)]) hd)
      · refine ep_aload_n (j := 0) d_M_pushParts_19 rfl rfl ?_
        refine ep_iconst (v := 0) d_M_pushParts_20 (by decide) ?_
        refine ep_aload_n (j := 0) d_M_pushParts_21 rfl rfl ?_
        refine ep_getf (fi := 7) (v := .ref 21) d_M_pushParts_22 cl5 lf_M_22 (by decide) rfl rfl ?_
        refine ep_iconst (v := 3) d_M_pushParts_25 (by decide) ?_
        refine ep_iload_n (j := 1) d_M_pushParts_26 rfl rfl ?_
        refine ep_imul d_M_pushParts_27 ?_
        refine ep_iload_n (j := 2) d_M_pushParts_28 rfl rfl ?_
        refine ep_iadd d_M_pushParts_29 ?_
        refine ep_prt (N := S.1) (x := n) 0 (by decide) (fun i e => by rw [e, Int32.add_zero, m3, Nat.add_zero]) d_M_pushParts_30 hd.b.1.2 (by omega) hV ?_
        refine ep_callVw2 (As := [.int 0, .int (cN S.1 n 4)]) (st := []) d_M_pushParts_31 lk_M_123 cal_M_push tm_M_push ts_M_push rfl rfl rfl (Nat.le_of_ble_eq_true rfl) (Nat.le_of_ble_eq_true rfl) rfl rfl (M_pushW hd (Nat.lt_of_le_of_lt (Nat.le_of_eq rfl) (show w.K.length + 0 < 400 by omega)) 0 (cN S.1 n 4)) (fun rI1 rA1 hd1 => ?_)
        refine ep_iinc (v := (-1)) (j := 2) (lv' := [(0, .ref 16), (1, .int n), (2, .int (-1))]) [1, 2, 0] d_M_pushParts_34 rfl (by decide) (by decide) rfl ?_
        refine ep_goto (tgt := 2) d_M_pushParts_37 (by decide) ?_
        refine ep_iload_n (j := 2) d_M_pushParts_2 rfl rfl ?_
        refine ep_if_lt (tgt := 40) d_M_pushParts_3 (by decide) (fun _ => ?_) (fun z => absurd (by decide) z)
        exact ep_vret d_M_pushParts_40 rfl (VP_ok rfl (by unfold pPs pP1; rw [if_pos (Int32.not_lt.mp c16__), if_neg (Int32.not_le.mpr c16_), if_neg (Int32.not_le.mpr c16)]) hd1)
    · refine ep_aload_n (j := 0) d_M_pushParts_19 rfl rfl ?_
      refine ep_iconst (v := 0) d_M_pushParts_20 (by decide) ?_
      refine ep_aload_n (j := 0) d_M_pushParts_21 rfl rfl ?_
      refine ep_getf (fi := 7) (v := .ref 21) d_M_pushParts_22 cl5 lf_M_22 (by decide) rfl rfl ?_
      refine ep_iconst (v := 3) d_M_pushParts_25 (by decide) ?_
      refine ep_iload_n (j := 1) d_M_pushParts_26 rfl rfl ?_
      refine ep_imul d_M_pushParts_27 ?_
      refine ep_iload_n (j := 2) d_M_pushParts_28 rfl rfl ?_
      refine ep_iadd d_M_pushParts_29 ?_
      refine ep_prt (N := S.1) (x := n) 1 (by decide) (fun i e => by rw [e, m3, nI_1]) d_M_pushParts_30 hd.b.1.2 (by omega) hV ?_
      refine ep_callVw2 (As := [.int 0, .int (cN S.1 n 5)]) (st := []) d_M_pushParts_31 lk_M_123 cal_M_push tm_M_push ts_M_push rfl rfl rfl (Nat.le_of_ble_eq_true rfl) (Nat.le_of_ble_eq_true rfl) rfl rfl (M_pushW hd (Nat.lt_of_le_of_lt (Nat.le_of_eq rfl) (show w.K.length + 0 < 400 by omega)) 0 (cN S.1 n 5)) (fun rI2 rA2 hd2 => ?_)
      refine ep_iinc (v := 0) (j := 2) (lv' := [(0, .ref 16), (1, .int n), (2, .int 0)]) [1, 2, 0] d_M_pushParts_34 rfl (by decide) (by decide) rfl ?_
      refine ep_goto (tgt := 2) d_M_pushParts_37 (by decide) ?_
      refine ep_iload_n (j := 2) d_M_pushParts_2 rfl rfl ?_
      refine ep_if_lt (tgt := 40) d_M_pushParts_3 (by decide) (fun z => absurd z (by decide)) (fun _ => ?_)
      refine ep_aload_n (j := 0) d_M_pushParts_6 rfl rfl ?_
      refine ep_getf (fi := 7) (v := .ref 21) d_M_pushParts_7 cl5 lf_M_22 (by decide) rfl rfl ?_
      refine ep_iconst (v := 3) d_M_pushParts_10 (by decide) ?_
      refine ep_iload_n (j := 1) d_M_pushParts_11 rfl rfl ?_
      refine ep_imul d_M_pushParts_12 ?_
      refine ep_iload_n (j := 2) d_M_pushParts_13 rfl rfl ?_
      refine ep_iadd d_M_pushParts_14 ?_
      refine ep_prt (N := S.1) (x := n) 0 (by decide) (fun i e => by rw [e, Int32.add_zero, m3, Nat.add_zero]) d_M_pushParts_15 hd2.b.1.2 (by omega) hV ?_
      refine ep_if_lt (tgt := 34) d_M_pushParts_16 (by decide) (fun c16__ => ?_) (fun c16__ => ?_)
      · refine ep_iinc (v := (-1)) (j := 2) (lv' := [(0, .ref 16), (1, .int n), (2, .int (-1))]) [1, 2, 0] d_M_pushParts_34 rfl (by decide) (by decide) rfl ?_
        refine ep_goto (tgt := 2) d_M_pushParts_37 (by decide) ?_
        refine ep_iload_n (j := 2) d_M_pushParts_2 rfl rfl ?_
        refine ep_if_lt (tgt := 40) d_M_pushParts_3 (by decide) (fun _ => ?_) (fun z => absurd (by decide) z)
        exact ep_vret d_M_pushParts_40 rfl (VP_ok rfl (by unfold pPs pP1; rw [if_neg (Int32.not_le.mpr c16__), if_pos (Int32.not_lt.mp c16_), if_neg (Int32.not_le.mpr c16)]) hd2)
      · refine ep_aload_n (j := 0) d_M_pushParts_19 rfl rfl ?_
        refine ep_iconst (v := 0) d_M_pushParts_20 (by decide) ?_
        refine ep_aload_n (j := 0) d_M_pushParts_21 rfl rfl ?_
        refine ep_getf (fi := 7) (v := .ref 21) d_M_pushParts_22 cl5 lf_M_22 (by decide) rfl rfl ?_
        refine ep_iconst (v := 3) d_M_pushParts_25 (by decide) ?_
        refine ep_iload_n (j := 1) d_M_pushParts_26 rfl rfl ?_
        refine ep_imul d_M_pushParts_27 ?_
        refine ep_iload_n (j := 2) d_M_pushParts_28 rfl rfl ?_
        refine ep_iadd d_M_pushParts_29 ?_
        refine ep_prt (N := S.1) (x := n) 0 (by decide) (fun i e => by rw [e, Int32.add_zero, m3, Nat.add_zero]) d_M_pushParts_30 hd2.b.1.2 (by omega) hV ?_
        refine ep_callVw2 (As := [.int 0, .int (cN S.1 n 4)]) (st := []) d_M_pushParts_31 lk_M_123 cal_M_push tm_M_push ts_M_push rfl rfl rfl (Nat.le_of_ble_eq_true rfl) (Nat.le_of_ble_eq_true rfl) rfl rfl (M_pushW hd2 (Nat.lt_of_le_of_lt (Nat.le_of_eq (congrArg (· + 1) rfl)) (show w.K.length + 1 < 400 by omega)) 0 (cN S.1 n 4)) (fun rI3 rA3 hd3 => ?_)
        refine ep_iinc (v := (-1)) (j := 2) (lv' := [(0, .ref 16), (1, .int n), (2, .int (-1))]) [1, 2, 0] d_M_pushParts_34 rfl (by decide) (by decide) rfl ?_
        refine ep_goto (tgt := 2) d_M_pushParts_37 (by decide) ?_
        refine ep_iload_n (j := 2) d_M_pushParts_2 rfl rfl ?_
        refine ep_if_lt (tgt := 40) d_M_pushParts_3 (by decide) (fun _ => ?_) (fun z => absurd (by decide) z)
        exact ep_vret d_M_pushParts_40 rfl (VP_ok rfl (by unfold pPs pP1; rw [if_pos (Int32.not_lt.mp c16__), if_pos (Int32.not_lt.mp c16_), if_neg (Int32.not_le.mpr c16)]) hd3)
  · refine ep_aload_n (j := 0) d_M_pushParts_19 rfl rfl ?_
    refine ep_iconst (v := 0) d_M_pushParts_20 (by decide) ?_
    refine ep_aload_n (j := 0) d_M_pushParts_21 rfl rfl ?_
    refine ep_getf (fi := 7) (v := .ref 21) d_M_pushParts_22 cl5 lf_M_22 (by decide) rfl rfl ?_
    refine ep_iconst (v := 3) d_M_pushParts_25 (by decide) ?_
    refine ep_iload_n (j := 1) d_M_pushParts_26 rfl rfl ?_
    refine ep_imul d_M_pushParts_27 ?_
    refine ep_iload_n (j := 2) d_M_pushParts_28 rfl rfl ?_
    refine ep_iadd d_M_pushParts_29 ?_
    refine ep_prt (N := S.1) (x := n) 2 (by decide) (fun i e => by rw [e, m3, a2]) d_M_pushParts_30 hd.b.1.2 (by omega) hV ?_
    refine ep_callVw2 (As := [.int 0, .int (cN S.1 n 6)]) (st := []) d_M_pushParts_31 lk_M_123 cal_M_push tm_M_push ts_M_push rfl rfl rfl (Nat.le_of_ble_eq_true rfl) (Nat.le_of_ble_eq_true rfl) rfl rfl (M_pushW hd (Nat.lt_of_le_of_lt (Nat.le_of_eq rfl) (show w.K.length + 0 < 400 by omega)) 0 (cN S.1 n 6)) (fun rI4 rA4 hd4 => ?_)
    refine ep_iinc (v := 1) (j := 2) (lv' := [(0, .ref 16), (1, .int n), (2, .int 1)]) [1, 2, 0] d_M_pushParts_34 rfl (by decide) (by decide) rfl ?_
    refine ep_goto (tgt := 2) d_M_pushParts_37 (by decide) ?_
    refine ep_iload_n (j := 2) d_M_pushParts_2 rfl rfl ?_
    refine ep_if_lt (tgt := 40) d_M_pushParts_3 (by decide) (fun z => absurd z (by decide)) (fun _ => ?_)
    refine ep_aload_n (j := 0) d_M_pushParts_6 rfl rfl ?_
    refine ep_getf (fi := 7) (v := .ref 21) d_M_pushParts_7 cl5 lf_M_22 (by decide) rfl rfl ?_
    refine ep_iconst (v := 3) d_M_pushParts_10 (by decide) ?_
    refine ep_iload_n (j := 1) d_M_pushParts_11 rfl rfl ?_
    refine ep_imul d_M_pushParts_12 ?_
    refine ep_iload_n (j := 2) d_M_pushParts_13 rfl rfl ?_
    refine ep_iadd d_M_pushParts_14 ?_
    refine ep_prt (N := S.1) (x := n) 1 (by decide) (fun i e => by rw [e, m3, nI_1]) d_M_pushParts_15 hd4.b.1.2 (by omega) hV ?_
    refine ep_if_lt (tgt := 34) d_M_pushParts_16 (by decide) (fun c16_ => ?_) (fun c16_ => ?_)
    · refine ep_iinc (v := 0) (j := 2) (lv' := [(0, .ref 16), (1, .int n), (2, .int 0)]) [1, 2, 0] d_M_pushParts_34 rfl (by decide) (by decide) rfl ?_
      refine ep_goto (tgt := 2) d_M_pushParts_37 (by decide) ?_
      refine ep_iload_n (j := 2) d_M_pushParts_2 rfl rfl ?_
      refine ep_if_lt (tgt := 40) d_M_pushParts_3 (by decide) (fun z => absurd z (by decide)) (fun _ => ?_)
      refine ep_aload_n (j := 0) d_M_pushParts_6 rfl rfl ?_
      refine ep_getf (fi := 7) (v := .ref 21) d_M_pushParts_7 cl5 lf_M_22 (by decide) rfl rfl ?_
      refine ep_iconst (v := 3) d_M_pushParts_10 (by decide) ?_
      refine ep_iload_n (j := 1) d_M_pushParts_11 rfl rfl ?_
      refine ep_imul d_M_pushParts_12 ?_
      refine ep_iload_n (j := 2) d_M_pushParts_13 rfl rfl ?_
      refine ep_iadd d_M_pushParts_14 ?_
      refine ep_prt (N := S.1) (x := n) 0 (by decide) (fun i e => by rw [e, Int32.add_zero, m3, Nat.add_zero]) d_M_pushParts_15 hd4.b.1.2 (by omega) hV ?_
      refine ep_if_lt (tgt := 34) d_M_pushParts_16 (by decide) (fun c16__ => ?_) (fun c16__ => ?_)
      · refine ep_iinc (v := (-1)) (j := 2) (lv' := [(0, .ref 16), (1, .int n), (2, .int (-1))]) [1, 2, 0] d_M_pushParts_34 rfl (by decide) (by decide) rfl ?_
        refine ep_goto (tgt := 2) d_M_pushParts_37 (by decide) ?_
        refine ep_iload_n (j := 2) d_M_pushParts_2 rfl rfl ?_
        refine ep_if_lt (tgt := 40) d_M_pushParts_3 (by decide) (fun _ => ?_) (fun z => absurd (by decide) z)
        exact ep_vret d_M_pushParts_40 rfl (VP_ok rfl (by unfold pPs pP1; rw [if_neg (Int32.not_le.mpr c16__), if_neg (Int32.not_le.mpr c16_), if_pos (Int32.not_lt.mp c16)]) hd4)
      · refine ep_aload_n (j := 0) d_M_pushParts_19 rfl rfl ?_
        refine ep_iconst (v := 0) d_M_pushParts_20 (by decide) ?_
        refine ep_aload_n (j := 0) d_M_pushParts_21 rfl rfl ?_
        refine ep_getf (fi := 7) (v := .ref 21) d_M_pushParts_22 cl5 lf_M_22 (by decide) rfl rfl ?_
        refine ep_iconst (v := 3) d_M_pushParts_25 (by decide) ?_
        refine ep_iload_n (j := 1) d_M_pushParts_26 rfl rfl ?_
        refine ep_imul d_M_pushParts_27 ?_
        refine ep_iload_n (j := 2) d_M_pushParts_28 rfl rfl ?_
        refine ep_iadd d_M_pushParts_29 ?_
        refine ep_prt (N := S.1) (x := n) 0 (by decide) (fun i e => by rw [e, Int32.add_zero, m3, Nat.add_zero]) d_M_pushParts_30 hd4.b.1.2 (by omega) hV ?_
        refine ep_callVw2 (As := [.int 0, .int (cN S.1 n 4)]) (st := []) d_M_pushParts_31 lk_M_123 cal_M_push tm_M_push ts_M_push rfl rfl rfl (Nat.le_of_ble_eq_true rfl) (Nat.le_of_ble_eq_true rfl) rfl rfl (M_pushW hd4 (Nat.lt_of_le_of_lt (Nat.le_of_eq (congrArg (· + 1) rfl)) (show w.K.length + 1 < 400 by omega)) 0 (cN S.1 n 4)) (fun rI5 rA5 hd5 => ?_)
        refine ep_iinc (v := (-1)) (j := 2) (lv' := [(0, .ref 16), (1, .int n), (2, .int (-1))]) [1, 2, 0] d_M_pushParts_34 rfl (by decide) (by decide) rfl ?_
        refine ep_goto (tgt := 2) d_M_pushParts_37 (by decide) ?_
        refine ep_iload_n (j := 2) d_M_pushParts_2 rfl rfl ?_
        refine ep_if_lt (tgt := 40) d_M_pushParts_3 (by decide) (fun _ => ?_) (fun z => absurd (by decide) z)
        exact ep_vret d_M_pushParts_40 rfl (VP_ok rfl (by unfold pPs pP1; rw [if_pos (Int32.not_lt.mp c16__), if_neg (Int32.not_le.mpr c16_), if_pos (Int32.not_lt.mp c16)]) hd5)
    · refine ep_aload_n (j := 0) d_M_pushParts_19 rfl rfl ?_
      refine ep_iconst (v := 0) d_M_pushParts_20 (by decide) ?_
      refine ep_aload_n (j := 0) d_M_pushParts_21 rfl rfl ?_
      refine ep_getf (fi := 7) (v := .ref 21) d_M_pushParts_22 cl5 lf_M_22 (by decide) rfl rfl ?_
      refine ep_iconst (v := 3) d_M_pushParts_25 (by decide) ?_
      refine ep_iload_n (j := 1) d_M_pushParts_26 rfl rfl ?_
      refine ep_imul d_M_pushParts_27 ?_
      refine ep_iload_n (j := 2) d_M_pushParts_28 rfl rfl ?_
      refine ep_iadd d_M_pushParts_29 ?_
      refine ep_prt (N := S.1) (x := n) 1 (by decide) (fun i e => by rw [e, m3, nI_1]) d_M_pushParts_30 hd4.b.1.2 (by omega) hV ?_
      refine ep_callVw2 (As := [.int 0, .int (cN S.1 n 5)]) (st := []) d_M_pushParts_31 lk_M_123 cal_M_push tm_M_push ts_M_push rfl rfl rfl (Nat.le_of_ble_eq_true rfl) (Nat.le_of_ble_eq_true rfl) rfl rfl (M_pushW hd4 (Nat.lt_of_le_of_lt (Nat.le_of_eq (congrArg (· + 1) rfl)) (show w.K.length + 1 < 400 by omega)) 0 (cN S.1 n 5)) (fun rI6 rA6 hd6 => ?_)
      refine ep_iinc (v := 0) (j := 2) (lv' := [(0, .ref 16), (1, .int n), (2, .int 0)]) [1, 2, 0] d_M_pushParts_34 rfl (by decide) (by decide) rfl ?_
      refine ep_goto (tgt := 2) d_M_pushParts_37 (by decide) ?_
      refine ep_iload_n (j := 2) d_M_pushParts_2 rfl rfl ?_
      refine ep_if_lt (tgt := 40) d_M_pushParts_3 (by decide) (fun z => absurd z (by decide)) (fun _ => ?_)
      refine ep_aload_n (j := 0) d_M_pushParts_6 rfl rfl ?_
      refine ep_getf (fi := 7) (v := .ref 21) d_M_pushParts_7 cl5 lf_M_22 (by decide) rfl rfl ?_
      refine ep_iconst (v := 3) d_M_pushParts_10 (by decide) ?_
      refine ep_iload_n (j := 1) d_M_pushParts_11 rfl rfl ?_
      refine ep_imul d_M_pushParts_12 ?_
      refine ep_iload_n (j := 2) d_M_pushParts_13 rfl rfl ?_
      refine ep_iadd d_M_pushParts_14 ?_
      refine ep_prt (N := S.1) (x := n) 0 (by decide) (fun i e => by rw [e, Int32.add_zero, m3, Nat.add_zero]) d_M_pushParts_15 hd6.b.1.2 (by omega) hV ?_
      refine ep_if_lt (tgt := 34) d_M_pushParts_16 (by decide) (fun c16__ => ?_) (fun c16__ => ?_)
      · refine ep_iinc (v := (-1)) (j := 2) (lv' := [(0, .ref 16), (1, .int n), (2, .int (-1))]) [1, 2, 0] d_M_pushParts_34 rfl (by decide) (by decide) rfl ?_
        refine ep_goto (tgt := 2) d_M_pushParts_37 (by decide) ?_
        refine ep_iload_n (j := 2) d_M_pushParts_2 rfl rfl ?_
        refine ep_if_lt (tgt := 40) d_M_pushParts_3 (by decide) (fun _ => ?_) (fun z => absurd (by decide) z)
        exact ep_vret d_M_pushParts_40 rfl (VP_ok rfl (by unfold pPs pP1; rw [if_neg (Int32.not_le.mpr c16__), if_pos (Int32.not_lt.mp c16_), if_pos (Int32.not_lt.mp c16)]) hd6)
      · refine ep_aload_n (j := 0) d_M_pushParts_19 rfl rfl ?_
        refine ep_iconst (v := 0) d_M_pushParts_20 (by decide) ?_
        refine ep_aload_n (j := 0) d_M_pushParts_21 rfl rfl ?_
        refine ep_getf (fi := 7) (v := .ref 21) d_M_pushParts_22 cl5 lf_M_22 (by decide) rfl rfl ?_
        refine ep_iconst (v := 3) d_M_pushParts_25 (by decide) ?_
        refine ep_iload_n (j := 1) d_M_pushParts_26 rfl rfl ?_
        refine ep_imul d_M_pushParts_27 ?_
        refine ep_iload_n (j := 2) d_M_pushParts_28 rfl rfl ?_
        refine ep_iadd d_M_pushParts_29 ?_
        refine ep_prt (N := S.1) (x := n) 0 (by decide) (fun i e => by rw [e, Int32.add_zero, m3, Nat.add_zero]) d_M_pushParts_30 hd6.b.1.2 (by omega) hV ?_
        refine ep_callVw2 (As := [.int 0, .int (cN S.1 n 4)]) (st := []) d_M_pushParts_31 lk_M_123 cal_M_push tm_M_push ts_M_push rfl rfl rfl (Nat.le_of_ble_eq_true rfl) (Nat.le_of_ble_eq_true rfl) rfl rfl (M_pushW hd6 (Nat.lt_of_le_of_lt (Nat.le_of_eq (congrArg (· + 1) (congrArg (· + 1) rfl))) (show w.K.length + 2 < 400 by omega)) 0 (cN S.1 n 4)) (fun rI7 rA7 hd7 => ?_)
        refine ep_iinc (v := (-1)) (j := 2) (lv' := [(0, .ref 16), (1, .int n), (2, .int (-1))]) [1, 2, 0] d_M_pushParts_34 rfl (by decide) (by decide) rfl ?_
        refine ep_goto (tgt := 2) d_M_pushParts_37 (by decide) ?_
        refine ep_iload_n (j := 2) d_M_pushParts_2 rfl rfl ?_
        refine ep_if_lt (tgt := 40) d_M_pushParts_3 (by decide) (fun _ => ?_) (fun z => absurd (by decide) z)
        exact ep_vret d_M_pushParts_40 rfl (VP_ok rfl (by unfold pPs pP1; rw [if_pos (Int32.not_lt.mp c16__), if_pos (Int32.not_lt.mp c16_), if_pos (Int32.not_lt.mp c16)]) hd7)
end MWB
