/-! the reference: give; by program (wip/whole/gen61.py) -/
section MGV
variable {d : Nat} {X : Nat × (Nat → Int32)} {cI : Nat → Int32} {cA : Nat → Nat → Int32} {rI : Nat → Int32} {rA : Nat → Nat → Int32} {ol : Int64} {J : mH} {S : CSt} {w : WM}
/-- the reference answers as the function does -/
def xB (X : Nat × (Nat → Int32)) (cI : Nat → Int32) (cA : Nat → Nat → Int32) (ol : Int64) (J : mH) (S : CSt) (res : Ex (Int32 × CSt)) : mR → mH → Prop := fun r h' => (∃ q, res = .inr q ∧ BP X cI cA ol J q.1 0 q.2 r h') ∨ (∃ k, res = .inl k ∧ BP X cI cA ol J 0 (if k = 0 then 1 else 2) S r h')
theorem xB_ok {res : Ex (Int32 × CSt)} {q : Int32 × CSt} (e : res = .inr q) (h : MB rI rA q.2) (ht : rI 0 = 0) : xB X cI cA ol J S res (.inl (some (.int q.1))) (HC X cI cA rI rA ol J) := Or.inl ⟨q, e, BP_ok rfl h ht⟩
theorem xB_x {res : Ex (Int32 × CSt)} (k : Nat) (e : res = .inl k) (h : MB rI rA S) (ht : rI 0 = if k = 0 then 1 else 2) : xB X cI cA ol J S res (.inl (some (.int 0))) (HC X cI cA rI rA ol J) := Or.inr ⟨k, e, BP_ok rfl h ht⟩
theorem ep_tailM {M Nn : Mt} {pc np : Nat} {lv : List (Nat × Value)} {st0 As : List Value} {res : Ex (Int32 × CSt)} {ix o ci : Nat} {fs : List Value} {h : mH} (hd : decode M.2.1 pc = .ok (.invokevirtual ix, 3)) (hl : InT (.methodLink M.1.cls ix Nn.1)) (hN : Cal Nn np) (hm : InT (.instanceMethod Nn.1)) (hs : InT (.selects Nn.1.cls Nn.1 Nn.1)) (ho : h[o]? = some (.inl (ci, fs))) (hci : (vCl[ci]?).map (fun q => q.1) = some Nn.1.cls) (hnp : As.length = np) (hal : ((Value.ref o :: As).map fun v => v.category).sum ≤ Nn.2.2.1) (hst : st0 = As.reverse ++ [.ref o]) (hh : M.2.2.2.2 = []) (d2 : decode M.2.1 (pc + 3) = .ok (.ireturn, 1)) (hr : M.2.2.2.1 = some .int)
    (ev : EvP Nn d 0 (lv_args 0 (.ref o :: As)) [] h (xB X cI cA ol J S res)) : EvP M (d + 1) pc lv st0 h (xB X cI cA ol J S res) := by
  refine ep_callV (st := []) hd hl hN hm hs ho hci hnp hal (Nat.zero_le _) hst hh ev (fun v h1 q => ?_) (fun x h1 q => q)
  have : ∃ e, v = some (.int e) := by
    rcases q with ⟨z, _, q1, _⟩ | ⟨z, _, q1, _⟩
    · exact ⟨_, by cases q1; rfl⟩
    · exact ⟨_, by cases q1; rfl⟩
  obtain ⟨e, rfl⟩ := this
  exact ep_iret d2 hr rfl q
theorem gv_fact (hW : WN S.1) (hl : S.1.length ≤ 60) {k v f g a b c : Int32} (nk : NK S.1 k v f g a b c) : ∃ (i : Nat) (N' : List (List Int32)), ndM S.1 k v f g a b c = (nI i, N') ∧ i ≤ S.1.length ∧ i < N'.length ∧ ((i < S.1.length ∧ N'.length = S.1.length) ∨ (i = S.1.length ∧ N'.length = S.1.length + 1)) ∧ S.1 <+: N' ∧ gvN (addN S.1 k v f g a b c) S = (if 16 < cN N' (nI i) 7 then .inl 0 else if i = 60 then .inl 1 else .inr (nI i, N', S.2)) := by
  obtain ⟨v1, v2, v3, v4, v5⟩ := nk.vo (by omega)
  have e := ndM_eq hW (k := k) (v := v) v1 v2 v3 v4 v5
  have hn := mkN_nth S.1 [k, v, f, g, a, b, c, dmN S.1 f g a b c + 1] (by omega)
  have h7 : cN (mkN S.1 [k, v, f, g, a, b, c, dmN S.1 f g a b c + 1]).2 (mkN S.1 [k, v, f, g, a, b, c, dmN S.1 f g a b c + 1]).1 7 = dmN S.1 f g a b c + 1 := by unfold cN; rw [hn]; rfl
  obtain ⟨m, hm, e3, _⟩ := dm_nat hW v1 v2 v3 v4 v5
  have hD : 16 < dmN S.1 f g a b c + 1 ↔ ¬ dmN S.1 f g a b c < 16 := by
    rw [lt16 m e3 (by omega), e3, nI_1, show (16 : Int32) = nI 16 from by decide, nI_ltI (by omega) (by omega)]; omega
  have hi : ixN S.1 [k, v, f, g, a, b, c, dmN S.1 f g a b c + 1] ≤ S.1.length := List.findIdx_le_length
  have hL : (mkN S.1 [k, v, f, g, a, b, c, dmN S.1 f g a b c + 1]).2.length = if ixN S.1 [k, v, f, g, a, b, c, dmN S.1 f g a b c + 1] < S.1.length then S.1.length else S.1.length + 1 := by
    unfold mkN
    by_cases w : ixN S.1 [k, v, f, g, a, b, c, dmN S.1 f g a b c + 1] < S.1.length
    · simp [w]
    · simp [w]
  have hp : S.1 <+: (mkN S.1 [k, v, f, g, a, b, c, dmN S.1 f g a b c + 1]).2 := by
    unfold mkN
    by_cases w : ixN S.1 [k, v, f, g, a, b, c, dmN S.1 f g a b c + 1] < S.1.length
    · simp [w]
    · simp [w]
  refine ⟨ixN S.1 [k, v, f, g, a, b, c, dmN S.1 f g a b c + 1], (mkN S.1 [k, v, f, g, a, b, c, dmN S.1 f g a b c + 1]).2, e, hi, ?_, ?_, hp, ?_⟩
  · rw [hL]; split <;> omega
  · rw [hL]; split <;> omega
  · show bnd (addN S.1 k v f g a b c) _ = if 16 < cN (mkN S.1 [k, v, f, g, a, b, c, dmN S.1 f g a b c + 1]).2 (mkN S.1 [k, v, f, g, a, b, c, dmN S.1 f g a b c + 1]).1 7 then _ else _
    rw [h7]
    unfold addN
    by_cases w : dmN S.1 f g a b c < 16
    · rw [if_pos w, if_pos (by omega), if_neg (fun u => (hD.mp u) w)]
      show (if (mkN S.1 [k, v, f, g, a, b, c, dmN S.1 f g a b c + 1]).2.length ≤ 60 then _ else _) = _
      by_cases u : ixN S.1 [k, v, f, g, a, b, c, dmN S.1 f g a b c + 1] = 60
      · rw [if_pos u, if_neg (by rw [hL]; split <;> omega)]
      · rw [if_neg u, if_pos (by rw [hL]; split <;> omega)]; rfl
    · rw [if_neg w, if_pos (hD.mpr w)]; rfl
set_option maxHeartbeats 4000000 in
set_option maxRecDepth 100000 in
theorem M_give (hb : MB rI rA S) (hW : WN S.1) (hl : S.1.length ≤ 60) (k v f g a b c : Int32) (nk : NK S.1 k v f g a b c) : EvP m_M_give (d + 2) 0 [(0, .ref 16), (1, .int k), (2, .int v), (3, .int f), (4, .int g), (5, .int a), (6, .int b), (7, .int c)] [] (HC X cI cA rI rA ol J) (xB X cI cA ol J S (gvN (addN S.1 k v f g a b c) S)) := by
  obtain ⟨i, N', e, hi, hiN, hc, hp, hg⟩ := gv_fact hW hl nk
  refine ep_aload_n (j := 0) d_M_give_0 rfl rfl ?_
  refine ep_aload_n (j := 0) d_M_give_1 rfl rfl ?_
  refine ep_getf (fi := 1) (v := .int (nI S.1.length)) d_M_give_2 cl5 lf_M_56 (by decide) rfl (congrArg (fun z => some (Value.int z)) hb.1.1) ?_
  refine ep_putf' (fi := 2) (h2 := HC X cI cA (upd rI 2 (nI S.1.length)) rA ol J) d_M_give_5 cl5 lf_M_66 (by decide) (Or.inl rfl) rfl rfl hI_16_2 ?_
  refine ep_aload_n (j := 0) d_M_give_8 rfl rfl ?_
  refine ep_iload_n (j := 1) d_M_give_9 rfl rfl ?_
  refine ep_iload_n (j := 2) d_M_give_10 rfl rfl ?_
  refine ep_iload_n (j := 3) d_M_give_11 rfl rfl ?_
  refine ep_iload (j := 4) d_M_give_12 rfl ?_
  refine ep_iload (j := 5) d_M_give_14 rfl ?_
  refine ep_iload (j := 6) d_M_give_16 rfl ?_
  refine ep_iload (j := 7) d_M_give_18 rfl ?_
  refine ep_callVnd (q := (nI i, N')) (As := [.int k, .int v, .int f, .int g, .int a, .int b, .int c]) (st := []) d_M_give_20 lk_M_73 cal_M_node tm_M_node ts_M_node rfl rfl rfl (Nat.le_of_ble_eq_true rfl) (Nat.le_of_ble_eq_true rfl) rfl rfl (by have u := M_node (d := d) (X := X) (cI := cI) (cA := cA) (ol := ol) (J := J) (rI := upd rI 2 (nI S.1.length)) (rA := rA) (N := S.1) ⟨rfl, hb.1.2⟩ (by omega) k v f g a b c (nk.vo (by omega)); rw [e] at u; exact u) (fun rI1 rA1 hM F => ?_)
  have hb1 : MB rI1 rA1 S := ⟨⟨(F.1 1 (by decide)).trans hb.1.1, mdL_pre hp hM.2⟩, ⟨(F.1 10 (by decide)).trans hb.2.1.1, hb.2.1.2.trans (by rw [F.2 9 (by decide) (by decide) (by decide) (by decide) (by decide) (by decide)])⟩, ⟨(F.1 14 (by decide)).trans hb.2.2.1, hb.2.2.2.trans (by rw [F.2 15 (by decide) (by decide) (by decide) (by decide) (by decide) (by decide)])⟩⟩
  refine ep_istore (lv' := [(0, .ref 16), (1, .int k), (2, .int v), (3, .int f), (4, .int g), (5, .int a), (6, .int b), (7, .int c), (8, .int (nI i))]) [1, 2, 3, 4, 5, 6, 7, 8, 0] d_M_give_23 (by decide) rfl ?_
  refine ep_aload_n (j := 0) d_M_give_25 rfl rfl ?_
  refine ep_aload_n (j := 0) d_M_give_26 rfl rfl ?_
  refine ep_getf (fi := 1) (v := .int (nI S.1.length)) d_M_give_27 cl5 lf_M_56 (by decide) rfl (congrArg (fun z => some (Value.int z)) hb1.1.1) ?_
  refine ep_putf' (fi := 2) (h2 := HC X cI cA (upd rI1 2 (nI S.1.length)) rA1 ol J) d_M_give_30 cl5 lf_M_66 (by decide) (Or.inl rfl) rfl rfl hI_16_2 ?_
  refine ep_aload_n (j := 0) d_M_give_33 rfl rfl ?_
  refine ep_aload_n (j := 0) d_M_give_34 rfl rfl ?_
  refine ep_getf (fi := 8) (v := .ref 22) d_M_give_35 cl5 lf_M_25 (by decide) rfl rfl ?_
  refine ep_iload (j := 8) d_M_give_38 rfl ?_
  refine ep_dpt (N := N') d_M_give_40 hM.2 (by omega) ⟨i, hiN, rfl⟩ ?_
  refine ep_bipush (v := 16) d_M_give_41 (by decide) ?_
  refine ep_icmp_le (tgt := 50) d_M_give_43 (by decide) (fun c43 => ?_) (fun c43 => ?_)
  · refine ep_iload (j := 8) d_M_give_50 rfl ?_
    refine ep_bipush (v := 60) d_M_give_52 (by decide) ?_
    refine ep_icmp_ne (tgt := 61) d_M_give_54 (by decide) (fun c54 => ?_) (fun c54 => ?_)
    · refine ep_iconst (v := 0) d_M_give_61 (by decide) ?_
      refine ep_putf' (fi := 0) (h2 := HC X cI cA (upd (upd rI1 2 (nI S.1.length)) 0 0) rA1 ol J) d_M_give_62 cl5 lf_M_52 (by decide) (Or.inl rfl) rfl rfl hI_16_0 ?_
      refine ep_aload_n (j := 0) d_M_give_65 rfl rfl ?_
      refine ep_getf (fi := 0) (v := .int 0) d_M_give_66 cl5 lf_M_52 (by decide) rfl rfl ?_
      refine ep_if_le (tgt := 74) d_M_give_69 (by decide) (fun _ => ?_) (fun z => absurd (by decide) z)
      refine ep_aload_n (j := 0) d_M_give_74 rfl rfl ?_
      refine ep_iload (j := 8) d_M_give_75 rfl ?_
      refine ep_aload_n (j := 0) d_M_give_77 rfl rfl ?_
      refine ep_getf (fi := 1) (v := .int (nI S.1.length)) d_M_give_78 cl5 lf_M_56 (by decide) rfl (congrArg (fun z => some (Value.int z)) hb1.1.1) ?_
      refine ep_icmp_ne (tgt := 93) d_M_give_81 (by decide) (fun c81 => ?_) (fun c81 => ?_)
      · refine ep_aload_n (j := 0) d_M_give_93 rfl rfl ?_
        refine ep_getf (fi := 1) (v := .int (nI S.1.length)) d_M_give_94 cl5 lf_M_56 (by decide) rfl (congrArg (fun z => some (Value.int z)) hb1.1.1) ?_
        refine ep_putf' (fi := 1) (h2 := HC X cI cA (upd (upd (upd rI1 2 (nI S.1.length)) 0 0) 1 (nI S.1.length)) rA1 ol J) d_M_give_97 cl5 lf_M_56 (by decide) (Or.inl rfl) rfl rfl hI_16_1 ?_
        refine ep_iload (j := 8) d_M_give_100 rfl ?_
        exact ep_iret d_M_give_102 rfl rfl (xB_ok (q := (nI i, N', S.2)) (hg.trans ((if_neg (Int32.not_lt.mpr c43)).trans (if_neg (fun u => c54 (show nI i = nI 60 from congrArg nI u))))) ⟨⟨(show _ = nI N'.length from by rw [(hc.resolve_right (fun w => c81 (congrArg nI w.1))).2]; rfl), hM.2⟩, hb1.2.1, hb1.2.2⟩ rfl)
      · refine ep_aload_n (j := 0) d_M_give_84 rfl rfl ?_
        refine ep_getf (fi := 1) (v := .int (nI S.1.length)) d_M_give_85 cl5 lf_M_56 (by decide) rfl (congrArg (fun z => some (Value.int z)) hb1.1.1) ?_
        refine ep_iconst (v := 1) d_M_give_88 (by decide) ?_
        refine ep_iadd d_M_give_89 ?_
        refine ep_goto (tgt := 97) d_M_give_90 (by decide) ?_
        refine ep_putf' (fi := 1) (h2 := HC X cI cA (upd (upd (upd rI1 2 (nI S.1.length)) 0 0) 1 ((nI S.1.length) + 1)) rA1 ol J) d_M_give_97 cl5 lf_M_56 (by decide) (Or.inl rfl) rfl rfl hI_16_1 ?_
        refine ep_iload (j := 8) d_M_give_100 rfl ?_
        exact ep_iret d_M_give_102 rfl rfl (xB_ok (q := (nI i, N', S.2)) (hg.trans ((if_neg (Int32.not_lt.mpr c43)).trans (if_neg (fun u => c54 (show nI i = nI 60 from congrArg nI u))))) ⟨⟨(show _ = nI N'.length from by have w : i = S.1.length := (nI_eq (by omega) (by omega)).mp c81; rw [show N'.length = S.1.length + 1 by omega, ← nI_1]; rfl), hM.2⟩, hb1.2.1, hb1.2.2⟩ rfl)
    · refine ep_iconst (v := 2) d_M_give_57 (by decide) ?_
      refine ep_goto (tgt := 62) d_M_give_58 (by decide) ?_
      refine ep_putf' (fi := 0) (h2 := HC X cI cA (upd (upd rI1 2 (nI S.1.length)) 0 2) rA1 ol J) d_M_give_62 cl5 lf_M_52 (by decide) (Or.inl rfl) rfl rfl hI_16_0 ?_
      refine ep_aload_n (j := 0) d_M_give_65 rfl rfl ?_
      refine ep_getf (fi := 0) (v := .int 2) d_M_give_66 cl5 lf_M_52 (by decide) rfl rfl ?_
      refine ep_if_le (tgt := 74) d_M_give_69 (by decide) (fun z => absurd z (by decide)) (fun _ => ?_)
      refine ep_iconst (v := 0) d_M_give_72 (by decide) ?_
      exact ep_iret d_M_give_73 rfl rfl (xB_x 1 (hg.trans ((if_neg (Int32.not_lt.mpr c43)).trans (if_pos ((nI_eq (by omega) (by omega)).mp (show nI i = nI 60 from c54))))) hb1 rfl)
  · refine ep_iconst (v := 1) d_M_give_46 (by decide) ?_
    refine ep_goto (tgt := 62) d_M_give_47 (by decide) ?_
    refine ep_putf' (fi := 0) (h2 := HC X cI cA (upd (upd rI1 2 (nI S.1.length)) 0 1) rA1 ol J) d_M_give_62 cl5 lf_M_52 (by decide) (Or.inl rfl) rfl rfl hI_16_0 ?_
    refine ep_aload_n (j := 0) d_M_give_65 rfl rfl ?_
    refine ep_getf (fi := 0) (v := .int 1) d_M_give_66 cl5 lf_M_52 (by decide) rfl rfl ?_
    refine ep_if_le (tgt := 74) d_M_give_69 (by decide) (fun z => absurd z (by decide)) (fun _ => ?_)
    refine ep_iconst (v := 0) d_M_give_72 (by decide) ?_
    exact ep_iret d_M_give_73 rfl rfl (xB_x 0 (hg.trans (if_pos (Int32.not_le.mp c43))) hb1 rfl)
end MGV
