/-! nodes, the smaller methods; by program (wip/whole/gen18.py) -/
def cellF (c : Nat → Int32) (D : Nat) (x w : Int32) : Int32 := if (0 ≤ x ∧ x < nI D) ∧ (0 ≤ w ∧ w < 8) then c (x.toNatClampNeg * 8 + w.toNatClampNeg) else -1
def kindF (c : Nat → Int32) (D : Nat) (x : Int32) : Int32 := if 0 ≤ x ∧ x < nI D then c (x.toNatClampNeg * 8 + 0) else -1
theorem nI_8 : (8 : Int32) = nI 8 := by decide +kernel
theorem ix8 {i v : Nat} {x w : Int32} (hx : x = nI i) (hw : w = nI v) : x * 8 + w = nI (i * 8 + v) := by rw [hx, hw, nI_8, pk_mul, nI_add]
section ND
variable {d : Nat} {X : Nat × (Nat → Int32)} {cI : Nat → Int32} {cA : Nat → Nat → Int32} {rI : Nat → Int32} {rA : Nat → Nat → Int32} {ol : Int64} {J : mH} {D : Nat}
set_option maxHeartbeats 4000000 in
set_option maxRecDepth 100000 in
theorem D_kept  : EvP m_D_kept d 0 [(0, .ref 2)] [] (HC X cI cA rI rA ol J) (Ri (cI 0) (HC X cI cA rI rA ol J)) := by
  refine ep_aload_n (j := 0) d_D_kept_0 rfl rfl ?_
  refine ep_getf (fi := 1) (v := .int (cI 0)) d_D_kept_1 cl0 lf_D_15 (by decide) rfl rfl ?_
  exact ep_iret d_D_kept_4 rfl rfl (⟨rfl, rfl⟩)
set_option maxHeartbeats 4000000 in
set_option maxRecDepth 100000 in
theorem D_dropDrafts  : EvP m_D_dropDrafts d 0 [(0, .ref 2)] [] (HC X cI cA rI rA ol J) (Rv (HC X (upd cI 1 (cI 0)) cA rI rA ol J)) := by
  refine ep_aload_n (j := 0) d_D_dropDrafts_0 rfl rfl ?_
  refine ep_aload_n (j := 0) d_D_dropDrafts_1 rfl rfl ?_
  refine ep_getf (fi := 1) (v := .int (cI 0)) d_D_dropDrafts_2 cl0 lf_D_15 (by decide) rfl rfl ?_
  refine ep_putf' (fi := 2) (h2 := HC X (upd cI 1 (cI 0)) cA rI rA ol J) d_D_dropDrafts_5 cl0 lf_D_19 (by decide) (Or.inl rfl) rfl rfl rfl ?_
  exact ep_vret d_D_dropDrafts_8 rfl (⟨rfl, rfl⟩)
set_option maxHeartbeats 4000000 in
set_option maxRecDepth 100000 in
theorem D_keep_x (hD : cI 1 = nI D) (hgt : 60 < D) (hDl : D ≤ 180) (x : Int32) : EvP m_D_keepDrafts d 0 [(0, .ref 2), (1, .int x)] [] (HC X cI cA rI rA ol J) (Rx 1 (HC X cI cA rI rA ol J)) := by
  refine ep_aload_n (j := 0) d_D_keepDrafts_0 rfl rfl ?_
  refine ep_getf (fi := 2) (v := .int (cI 1)) d_D_keepDrafts_1 cl0 lf_D_19 (by decide) rfl rfl ?_
  refine ep_bipush (v := 60) d_D_keepDrafts_4 (by decide) ?_
  refine ep_icmp_le (tgt := 19) d_D_keepDrafts_6 (by decide) (fun z => absurd z (by rw [hD, show (60 : Int32) = nI 60 from by decide +kernel]; exact nI_ge hgt (by omega))) (fun _ => ?_)
  exact ep_throw 1 d_D_keepDrafts_9 d_D_keepDrafts_12 d_D_keepDrafts_13 d_D_keepDrafts_15 d_D_keepDrafts_18 lc_D_22 ti_java_lang_IllegalStateException (i := 5) (tx := "more than 60 nodes") (by decide +kernel) at_D_26 (by decide +kernel) (Nat.zero_lt_succ _) (Nat.le_of_ble_eq_true rfl) rfl (⟨rfl, rfl⟩)
set_option maxHeartbeats 4000000 in
set_option maxRecDepth 100000 in
theorem D_keep (hD : cI 1 = nI D) (hgt : D ≤ 60) (x : Int32) : EvP m_D_keepDrafts d 0 [(0, .ref 2), (1, .int x)] [] (HC X cI cA rI rA ol J) (Ri x (HC X (upd cI 0 (cI 1)) cA rI rA ol J)) := by
  refine ep_aload_n (j := 0) d_D_keepDrafts_0 rfl rfl ?_
  refine ep_getf (fi := 2) (v := .int (cI 1)) d_D_keepDrafts_1 cl0 lf_D_19 (by decide) rfl rfl ?_
  refine ep_bipush (v := 60) d_D_keepDrafts_4 (by decide) ?_
  refine ep_icmp_le (tgt := 19) d_D_keepDrafts_6 (by decide) (fun _ => ?_) (fun z => absurd (by rw [hD, show (60 : Int32) = nI 60 from by decide +kernel]; exact nI_le hgt (by omega)) z)
  refine ep_aload_n (j := 0) d_D_keepDrafts_19 rfl rfl ?_
  refine ep_aload_n (j := 0) d_D_keepDrafts_20 rfl rfl ?_
  refine ep_getf (fi := 2) (v := .int (cI 1)) d_D_keepDrafts_21 cl0 lf_D_19 (by decide) rfl rfl ?_
  refine ep_putf' (fi := 1) (h2 := HC X (upd cI 0 (cI 1)) cA rI rA ol J) d_D_keepDrafts_24 cl0 lf_D_15 (by decide) (Or.inl rfl) rfl rfl rfl ?_
  refine ep_iload_n (j := 1) d_D_keepDrafts_27 rfl rfl ?_
  exact ep_iret d_D_keepDrafts_28 rfl rfl (⟨rfl, rfl⟩)
set_option maxHeartbeats 4000000 in
set_option maxRecDepth 100000 in
theorem D_cell (hD : cI 1 = nI D) (hDl : D ≤ 180) (x w : Int32) : EvP m_D_cell d 0 [(0, .ref 2), (1, .int x), (2, .int w)] [] (HC X cI cA rI rA ol J) (Ri (cellF (cA 0) D x w) (HC X cI cA rI rA ol J)) := by
  refine ep_iload_n (j := 1) d_D_cell_0 rfl rfl ?_
  refine ep_if_lt (tgt := 22) d_D_cell_1 (by decide) (fun c1 => ?_) (fun c1 => ?_)
  · refine ep_iconst (v := (-1)) d_D_cell_22 (by decide) ?_
    exact ep_iret d_D_cell_23 rfl rfl (Ri_of (by unfold cellF; rw [if_neg]; rintro ⟨⟨y1, y2⟩, y3, y4⟩; first | exact absurd c1 (Int32.not_lt.mpr y1) | exact absurd (by rw [hD] at c9; exact c9) (Int32.not_le.mpr y2) | exact absurd c13 (Int32.not_lt.mpr y3) | exact c19 y4))
  · refine ep_iload_n (j := 1) d_D_cell_4 rfl rfl ?_
    refine ep_aload_n (j := 0) d_D_cell_5 rfl rfl ?_
    refine ep_getf (fi := 2) (v := .int (cI 1)) d_D_cell_6 cl0 lf_D_19 (by decide) rfl rfl ?_
    refine ep_icmp_ge (tgt := 22) d_D_cell_9 (by decide) (fun c9 => ?_) (fun c9 => ?_)
    · refine ep_iconst (v := (-1)) d_D_cell_22 (by decide) ?_
      exact ep_iret d_D_cell_23 rfl rfl (Ri_of (by unfold cellF; rw [if_neg]; rintro ⟨⟨y1, y2⟩, y3, y4⟩; first | exact absurd c1 (Int32.not_lt.mpr y1) | exact absurd (by rw [hD] at c9; exact c9) (Int32.not_le.mpr y2) | exact absurd c13 (Int32.not_lt.mpr y3) | exact c19 y4))
    · refine ep_iload_n (j := 2) d_D_cell_12 rfl rfl ?_
      refine ep_if_lt (tgt := 22) d_D_cell_13 (by decide) (fun c13 => ?_) (fun c13 => ?_)
      · refine ep_iconst (v := (-1)) d_D_cell_22 (by decide) ?_
        exact ep_iret d_D_cell_23 rfl rfl (Ri_of (by unfold cellF; rw [if_neg]; rintro ⟨⟨y1, y2⟩, y3, y4⟩; first | exact absurd c1 (Int32.not_lt.mpr y1) | exact absurd (by rw [hD] at c9; exact c9) (Int32.not_le.mpr y2) | exact absurd c13 (Int32.not_lt.mpr y3) | exact c19 y4))
      · refine ep_iload_n (j := 2) d_D_cell_16 rfl rfl ?_
        refine ep_bipush (v := 8) d_D_cell_17 (by decide) ?_
        refine ep_icmp_lt (tgt := 24) d_D_cell_19 (by decide) (fun c19 => ?_) (fun c19 => ?_)
        · have b1 : 0 ≤ x := Int32.not_lt.mp c1
          have b2 : x < nI D := by rw [← hD]; exact Int32.not_le.mp c9
          have b3 : 0 ≤ w := Int32.not_lt.mp c13
          obtain ⟨i, hi1, hi⟩ := nI_of' b1
          obtain ⟨v, hv1, hv⟩ := nI_of' b3
          have hiD : i < D := (nI_ltI hi1 (by omega)).mp (by rw [← hi]; exact b2)
          have hv8 : v < 8 := (nI_ltI hv1 (by omega)).mp (by rw [← hv, ← nI_8]; exact c19)
          refine ep_aload_n (j := 0) d_D_cell_24 rfl rfl ?_
          refine ep_getf (fi := 0) (v := .ref 3) d_D_cell_25 cl0 lf_D_11 (by decide) rfl rfl ?_
          refine ep_iload_n (j := 1) d_D_cell_28 rfl rfl ?_
          refine ep_bipush (v := 8) d_D_cell_29 (by decide) ?_
          refine ep_imul d_D_cell_31 ?_
          refine ep_iload_n (j := 2) d_D_cell_32 rfl rfl ?_
          refine ep_iadd d_D_cell_33 ?_
          refine ep_iald (f := cA 0) (i * 8 + v) d_D_cell_34 rfl (ix8 hi hv) (by omega) (by decide) ?_
          exact ep_iret d_D_cell_35 rfl rfl (Ri_of (by unfold cellF; rw [if_pos ⟨⟨b1, b2⟩, b3, c19⟩, hi, hv, nI_clamp hi1, nI_clamp hv1]))
        · refine ep_iconst (v := (-1)) d_D_cell_22 (by decide) ?_
          exact ep_iret d_D_cell_23 rfl rfl (Ri_of (by unfold cellF; rw [if_neg]; rintro ⟨⟨y1, y2⟩, y3, y4⟩; first | exact absurd c1 (Int32.not_lt.mpr y1) | exact absurd (by rw [hD] at c9; exact c9) (Int32.not_le.mpr y2) | exact absurd c13 (Int32.not_lt.mpr y3) | exact c19 y4))
set_option maxHeartbeats 4000000 in
set_option maxRecDepth 100000 in
theorem D_kindOf (hD : cI 1 = nI D) (hDl : D ≤ 180) (x : Int32) : EvP m_D_kindOf d 0 [(0, .ref 2), (1, .int x)] [] (HC X cI cA rI rA ol J) (Ri (kindF (cA 0) D x) (HC X cI cA rI rA ol J)) := by
  refine ep_iload_n (j := 1) d_D_kindOf_0 rfl rfl ?_
  refine ep_if_lt (tgt := 26) d_D_kindOf_1 (by decide) (fun c1 => ?_) (fun c1 => ?_)
  · refine ep_iconst (v := (-1)) d_D_kindOf_26 (by decide) ?_
    exact ep_iret d_D_kindOf_27 rfl rfl (Ri_of (by unfold kindF; rw [if_neg]; rintro ⟨y1, y2⟩; first | exact absurd c1 (Int32.not_lt.mpr y1) | exact absurd (by rw [hD] at c9; exact c9) (Int32.not_le.mpr y2)))
  · refine ep_iload_n (j := 1) d_D_kindOf_4 rfl rfl ?_
    refine ep_aload_n (j := 0) d_D_kindOf_5 rfl rfl ?_
    refine ep_getf (fi := 2) (v := .int (cI 1)) d_D_kindOf_6 cl0 lf_D_19 (by decide) rfl rfl ?_
    refine ep_icmp_ge (tgt := 26) d_D_kindOf_9 (by decide) (fun c9 => ?_) (fun c9 => ?_)
    · refine ep_iconst (v := (-1)) d_D_kindOf_26 (by decide) ?_
      exact ep_iret d_D_kindOf_27 rfl rfl (Ri_of (by unfold kindF; rw [if_neg]; rintro ⟨y1, y2⟩; first | exact absurd c1 (Int32.not_lt.mpr y1) | exact absurd (by rw [hD] at c9; exact c9) (Int32.not_le.mpr y2)))
    · have b1 : 0 ≤ x := Int32.not_lt.mp c1
      have b2 : x < nI D := by rw [← hD]; exact Int32.not_le.mp c9
      obtain ⟨i, hi1, hi⟩ := nI_of' b1
      have hiD : i < D := (nI_ltI hi1 (by omega)).mp (by rw [← hi]; exact b2)
      refine ep_aload_n (j := 0) d_D_kindOf_12 rfl rfl ?_
      refine ep_getf (fi := 0) (v := .ref 3) d_D_kindOf_13 cl0 lf_D_11 (by decide) rfl rfl ?_
      refine ep_iload_n (j := 1) d_D_kindOf_16 rfl rfl ?_
      refine ep_bipush (v := 8) d_D_kindOf_17 (by decide) ?_
      refine ep_imul d_D_kindOf_19 ?_
      refine ep_iconst (v := 0) d_D_kindOf_20 (by decide) ?_
      refine ep_iadd d_D_kindOf_21 ?_
      refine ep_iald (f := cA 0) (i * 8 + 0) d_D_kindOf_22 rfl (ix8 hi nI_0.symm) (by omega) (by decide) ?_
      refine ep_goto (tgt := 27) d_D_kindOf_23 (by decide) ?_
      exact ep_iret d_D_kindOf_27 rfl rfl (Ri_of (by unfold kindF; rw [if_pos ⟨b1, b2⟩, hi, nI_clamp hi1]))
end ND
