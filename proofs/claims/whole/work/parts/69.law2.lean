/-! the law: a call a case; by program (wip/whole/gen69.py) -/
section LCS
variable {d : Nat} {X : Nat × (Nat → Int32)} {cI : Nat → Int32} {cA : Nat → Nat → Int32} {rI : Nat → Int32} {rA : Nat → Nat → Int32} {ol : Int64} {J : mH} {S : CSt}
theorem ep_callSw {M N : Mt} {pc np : Nat} {lv : List (Nat × Value)} {st st0 As : List Value} {P : mR → mH → Prop} {res : Ex (Int32 × CSt)} {ix : Nat} (hd : decode M.2.1 pc = .ok (.invokestatic ix, 3)) (hl : InT (.methodLink M.1.cls ix N.1) ∨ ∃ host, InT (.methodLinkNest M.1.cls ix N.1 host)) (hN : Cal N np) (hm : InT (.static N.1)) (hi : InT (.initialized N.1.cls)) (hnp : As.length = np) (hal : (As.map fun v => v.category).sum ≤ N.2.2.1) (hcat : (st.map fun v => v.category).sum ≤ 8) (hst : st0 = As.reverse ++ st) (hh : M.2.2.2.2 = [])
    (ev : EvP N d 0 (lv_args 0 As) [] (HC X cI cA rI rA ol J) (WrP X rI rA J S res))
    (kv : ∀ q cI' cA', res = .inr q → CC cI' cA' q.2 → EvP M (d + 1) (pc + 3) lv (.int 0 :: st) (HC X cI' cA' rI rA q.1.toInt64 J) P)
    (kx : ∀ k cI' cA' ol', res = .inl k → CC cI' cA' S → EvP M (d + 1) (pc + 3) lv (.int (if k = 0 then 1 else 2) :: st) (HC X cI' cA' rI rA ol' (J ++ [mT k])) P) : EvP M (d + 1) pc lv st0 (HC X cI cA rI rA ol J) P := by
  refine ep_callS hd hl hN hm hi hnp hal hcat hst hh ev (fun v h1 q => ?_) (fun x h1 q => ?_)
  · obtain ⟨cI', cA', ol', J', e1, q⟩ := q
    subst e1
    rcases q with ⟨q, e1, e2, e3, e4, e5⟩ | ⟨k, e1, e2, e3, e4⟩
    · cases e2; subst e3; subst e5; exact kv q cI' cA' e1 e4
    · cases e2; subst e4; exact kx k cI' cA' ol' e1 e3
  · obtain ⟨_, _, _, _, _, q⟩ := q
    rcases q with ⟨_, _, e2, _⟩ | ⟨_, _, e2, _⟩ <;> cases e2
theorem ep_callVxv {M N : Mt} {pc np : Nat} {lv : List (Nat × Value)} {st st0 As : List Value} {P : mR → mH → Prop} {res : Ex (Int32 × CSt)} {q : Int32 × CSt} (e : res = .inr q) {ix o ci : Nat} {fs : List Value} (hd : decode M.2.1 pc = .ok (.invokevirtual ix, 3)) (hl : InT (.methodLink M.1.cls ix N.1)) (hN : Cal N np) (hm : InT (.instanceMethod N.1)) (hs : InT (.selects N.1.cls N.1 N.1)) (ho : (HC X cI cA rI rA ol J)[o]? = some (.inl (ci, fs))) (hci : (vCl[ci]?).map (fun q => q.1) = some N.1.cls) (hnp : As.length = np) (hal : ((Value.ref o :: As).map fun v => v.category).sum ≤ N.2.2.1) (hcat : (st.map fun v => v.category).sum ≤ 8) (hst : st0 = As.reverse ++ .ref o :: st) (hh : M.2.2.2.2 = [])
    (ev : EvP N d 0 (lv_args 0 (.ref o :: As)) [] (HC X cI cA rI rA ol J) (xB X cI cA ol J S res))
    (k : ∀ rI' rA', MB rI' rA' q.2 → rI' 0 = 0 → EvP M (d + 1) (pc + 3) lv (.int q.1 :: st) (HC X cI cA rI' rA' ol J) P) : EvP M (d + 1) pc lv st0 (HC X cI cA rI rA ol J) P := by
  refine ep_callV hd hl hN hm hs ho hci hnp hal hcat hst hh ev (fun v h1 w => ?_) (fun x h1 w => ?_)
  · rcases w with ⟨q', e1, e2, rI', rA', e3, e4, e5⟩ | ⟨k', e1, _⟩
    · rw [e] at e1; cases e1; cases e2; subst e3; exact k rI' rA' e4 e5
    · rw [e] at e1; cases e1
  · rcases w with ⟨_, _, e2, _⟩ | ⟨_, _, e2, _⟩ <;> cases e2
theorem ep_callVxx {M N : Mt} {pc np : Nat} {lv : List (Nat × Value)} {st st0 As : List Value} {P : mR → mH → Prop} {res : Ex (Int32 × CSt)} {c : Nat} (e : res = .inl c) {ix o ci : Nat} {fs : List Value} (hd : decode M.2.1 pc = .ok (.invokevirtual ix, 3)) (hl : InT (.methodLink M.1.cls ix N.1)) (hN : Cal N np) (hm : InT (.instanceMethod N.1)) (hs : InT (.selects N.1.cls N.1 N.1)) (ho : (HC X cI cA rI rA ol J)[o]? = some (.inl (ci, fs))) (hci : (vCl[ci]?).map (fun q => q.1) = some N.1.cls) (hnp : As.length = np) (hal : ((Value.ref o :: As).map fun v => v.category).sum ≤ N.2.2.1) (hcat : (st.map fun v => v.category).sum ≤ 8) (hst : st0 = As.reverse ++ .ref o :: st) (hh : M.2.2.2.2 = [])
    (ev : EvP N d 0 (lv_args 0 (.ref o :: As)) [] (HC X cI cA rI rA ol J) (xB X cI cA ol J S res))
    (k : ∀ rI' rA', MB rI' rA' S → rI' 0 = (if c = 0 then 1 else 2) → EvP M (d + 1) (pc + 3) lv (.int 0 :: st) (HC X cI cA rI' rA' ol J) P) : EvP M (d + 1) pc lv st0 (HC X cI cA rI rA ol J) P := by
  refine ep_callV hd hl hN hm hs ho hci hnp hal hcat hst hh ev (fun v h1 w => ?_) (fun x h1 w => ?_)
  · rcases w with ⟨q', e1, _⟩ | ⟨k', e1, e2, rI', rA', e3, e4, e5⟩
    · rw [e] at e1; cases e1
    · rw [e] at e1; cases e1; cases e2; subst e3; exact k rI' rA' e4 e5
  · rcases w with ⟨_, _, e2, _⟩ | ⟨_, _, e2, _⟩ <;> cases e2
theorem ep_callVcp {M N : Mt} {pc np : Nat} {lv : List (Nat × Value)} {st st0 As : List Value} {P : mR → mH → Prop} {q : Int32 × CSt} {ix o ci : Nat} {fs : List Value} (hd : decode M.2.1 pc = .ok (.invokevirtual ix, 3)) (hl : InT (.methodLink M.1.cls ix N.1)) (hN : Cal N np) (hm : InT (.instanceMethod N.1)) (hs : InT (.selects N.1.cls N.1 N.1)) (ho : (HC X cI cA rI rA ol J)[o]? = some (.inl (ci, fs))) (hci : (vCl[ci]?).map (fun q => q.1) = some N.1.cls) (hnp : As.length = np) (hal : ((Value.ref o :: As).map fun v => v.category).sum ≤ N.2.2.1) (hcat : (st.map fun v => v.category).sum ≤ 8) (hst : st0 = As.reverse ++ .ref o :: st) (hh : M.2.2.2.2 = [])
    (ev : EvP N d 0 (lv_args 0 (.ref o :: As)) [] (HC X cI cA rI rA ol J) (CP X rI rA ol J S (.inr q)))
    (k : ∀ cI' cA', CC cI' cA' q.2 → EvP M (d + 1) (pc + 3) lv (.int q.1 :: st) (HC X cI' cA' rI rA ol J) P) : EvP M (d + 1) pc lv st0 (HC X cI cA rI rA ol J) P := by
  refine ep_callV hd hl hN hm hs ho hci hnp hal hcat hst hh ev (fun v h1 w => ?_) (fun x h1 w => ?_)
  · obtain ⟨cI', cA', w⟩ := w
    rcases w with ⟨q', e1, e2, e3, e4⟩ | ⟨k', e1, _⟩
    · cases e1; cases e2; subst e3; exact k cI' cA' e4
    · cases e1
  · obtain ⟨cI', cA', w⟩ := w
    rcases w with ⟨_, _, e2, _⟩ | ⟨_, e1, _⟩
    · cases e2
    · cases e1
theorem ep_callVcu {M N : Mt} {pc np : Nat} {lv : List (Nat × Value)} {st st0 As : List Value} {P : mR → mH → Prop} {q : CSt} {ix o ci : Nat} {fs : List Value} (hd : decode M.2.1 pc = .ok (.invokevirtual ix, 3)) (hl : InT (.methodLink M.1.cls ix N.1)) (hN : Cal N np) (hm : InT (.instanceMethod N.1)) (hs : InT (.selects N.1.cls N.1 N.1)) (ho : (HC X cI cA rI rA ol J)[o]? = some (.inl (ci, fs))) (hci : (vCl[ci]?).map (fun q => q.1) = some N.1.cls) (hnp : As.length = np) (hal : ((Value.ref o :: As).map fun v => v.category).sum ≤ N.2.2.1) (hcat : (st.map fun v => v.category).sum ≤ 8) (hst : st0 = As.reverse ++ .ref o :: st) (hh : M.2.2.2.2 = [])
    (ev : EvP N d 0 (lv_args 0 (.ref o :: As)) [] (HC X cI cA rI rA ol J) (CPu X rI rA ol J S (.inr q)))
    (k : ∀ cI' cA', CC cI' cA' q → EvP M (d + 1) (pc + 3) lv st (HC X cI' cA' rI rA ol J) P) : EvP M (d + 1) pc lv st0 (HC X cI cA rI rA ol J) P := by
  refine ep_callV hd hl hN hm hs ho hci hnp hal hcat hst hh ev (fun v h1 w => ?_) (fun x h1 w => ?_)
  · obtain ⟨cI', cA', w⟩ := w
    rcases w with ⟨q', e1, e2, e3, e4⟩ | ⟨k', e1, _⟩
    · cases e1; cases e2; subst e3; exact k cI' cA' e4
    · cases e1
  · obtain ⟨cI', cA', w⟩ := w
    rcases w with ⟨_, _, e2, _⟩ | ⟨_, e1, _⟩
    · cases e2
    · cases e1
theorem ep_callVbp {M N : Mt} {pc np : Nat} {lv : List (Nat × Value)} {st st0 As : List Value} {P : mR → mH → Prop} {v : Option Value} {th : Int32} {S' : CSt} {ix o ci : Nat} {fs : List Value} (hd : decode M.2.1 pc = .ok (.invokevirtual ix, 3)) (hl : InT (.methodLink M.1.cls ix N.1)) (hN : Cal N np) (hm : InT (.instanceMethod N.1)) (hs : InT (.selects N.1.cls N.1 N.1)) (ho : (HC X cI cA rI rA ol J)[o]? = some (.inl (ci, fs))) (hci : (vCl[ci]?).map (fun q => q.1) = some N.1.cls) (hnp : As.length = np) (hal : ((Value.ref o :: As).map fun v => v.category).sum ≤ N.2.2.1) (hcat : (st.map fun v => v.category).sum ≤ 8) (hst : st0 = As.reverse ++ .ref o :: st) (hh : M.2.2.2.2 = [])
    (ev : EvP N d 0 (lv_args 0 (.ref o :: As)) [] (HC X cI cA rI rA ol J) (BPg X cI cA ol J v th S'))
    (k : ∀ rI' rA', MB rI' rA' S' → rI' 0 = th → EvP M (d + 1) (pc + 3) lv (v.toList ++ st) (HC X cI cA rI' rA' ol J) P) : EvP M (d + 1) pc lv st0 (HC X cI cA rI rA ol J) P := by
  refine ep_callV hd hl hN hm hs ho hci hnp hal hcat hst hh ev (fun v h1 w => ?_) (fun x h1 w => ?_)
  · obtain ⟨e1, rI', rA', e2, e3, e4⟩ := w
    cases e1; subst e2; exact k rI' rA' e3 e4
  · obtain ⟨e1, _⟩ := w
    cases e1
theorem lg_same (x : Int64) : lg_cmp x x = 0 := by
  unfold lg_cmp
  simp
theorem wc_ne (k : Nat) : ¬ (if k = 0 then (1 : Int32) else 2) = 0 := by split <;> decide
theorem gv_z {res : Ex (Int32 × List (List Int32))} (z : Z0 res) (k : Nat) (e : gvN res S = .inl k) : k = 0 ∨ k = 1 := by
  unfold gvN at e
  cases res with
  | inl n => have := z n rfl; cases e; exact Or.inl this
  | inr q =>
    have e : (if q.2.length ≤ 60 then (.inr (q.1, q.2, S.2) : Ex (Int32 × CSt)) else .inl 1) = .inl k := e
    by_cases w : q.2.length ≤ 60
    · rw [if_pos w] at e; cases e
    · rw [if_neg w] at e; cases e; exact Or.inr rfl
theorem read_z (hv : IV S) (k : Nat) (e : cRead S = .inl k) : k = 0 ∨ k = 1 := by
  have z := (ent_pure (L := S.2.1) hv.w hv.l hv.tl).1
  unfold cRead at e
  cases h : rEnt S.2.1 S.1 with
  | inl n => rw [h] at e; cases e; exact Or.inl (z _ h)
  | inr q =>
    rw [h] at e
    have e : (if q.2.1.length ≤ 60 then (.inr (q.1, q.2.1, S.2.1, q.2.2.1) : Ex (Int32 × CSt)) else .inl 1) = .inl k := e
    by_cases w : q.2.1.length ≤ 60
    · rw [if_pos w] at e; cases e
    · rw [if_neg w] at e; cases e; exact Or.inr rfl
theorem write_z (p : Int32) (k : Nat) (e : cWrite S p = .inl k) : k = 0 ∨ k = 2 := by
  have z := (went_pure S.1 p).1
  unfold cWrite at e
  by_cases w : kN S.1 p = 10
  · rw [if_pos w] at e
    cases h : wEnt S.1 p with
    | inl n => rw [h] at e; cases e; exact Or.inr (z _ h)
    | inr q => rw [h] at e; cases e
  · rw [if_neg w] at e; cases e; exact Or.inl rfl
/-- where the law stands behind a case -/
def LK (d : Nat) (X : Nat × (Nat → Int32)) (J : mH) (a : Nat) (P : mR → mH → Prop) : Prop := ∀ {cI' : Nat → Int32} {cA' : Nat → Nat → Int32} {rI' : Nat → Int32} {rA' : Nat → Nat → Int32} {ol' : Int64} {J' : mH} {S' : CSt}, CC cI' cA' S' → MB rI' rA' S' → IV S' → (J' = J ∨ ∃ k, J' = J ++ [mT k]) → EvP m_L_law (d + 133) 1076 [(0, .ref 0), (1, .ref 1), (2, .ref 16), (3, .ref 31), (4, .int (nI a))] [] (HC X cI' cA' rI' rA' ol' J') P
variable {P : mR → mH → Prop} {a : Nat}
set_option maxHeartbeats 4000000 in
set_option maxRecDepth 100000 in
theorem L_c0 (hc : CC cI cA S) (hb : MB rI rA S) (hv : IV S) (ha : a + 6 ≤ X.1) (hX : X.1 ≤ 3072) (kk : LK d X J a P) : EvP m_L_law (d + 133) 124 [(0, .ref 0), (1, .ref 1), (2, .ref 16), (3, .ref 31), (4, .int (nI a))] [] (HC X cI cA rI rA ol J) P := by
  refine ep_aload_n (j := 1) d_L_law_124 rfl rfl ?_
  refine ep_aload_n (j := 0) d_L_law_125 rfl rfl ?_
  refine ep_iload (j := 4) d_L_law_126 rfl ?_
  refine ep_iconst (v := 1) d_L_law_128 (by decide) ?_
  refine ep_iadd d_L_law_129 ?_
  refine ep_xald (f := X.2) (a + 1) d_L_law_130 rfl (nI_add a 1) (by omega) (by omega) ?_
  refine ep_aload_n (j := 3) d_L_law_131 rfl rfl ?_
  refine ep_callSw (res := gvN (aBuiltin S.1 (X.2 (a + 1))) S) (As := [.ref 1, .int (X.2 (a + 1)), .ref 31]) (st := []) d_L_law_132 (Or.inl lk_L_57) cal_L_builtin tm_L_builtin ti_L rfl (Nat.le_of_ble_eq_true rfl) (Nat.le_of_ble_eq_true rfl) rfl rfl (L_builtin (S := S) hc (X.2 (a + 1)) (gv_z (Z0.ite (fun _ => Z0.add (by have := hv.l; omega)) (fun _ => Z0.l)))) (fun q1 cI1 cA1 e1 hc1 => ?_) (fun k1 cI1 cA1 ol1 e1 hc1 => ?_)
  · refine ep_istore (lv' := [(0, .ref 0), (1, .ref 1), (2, .ref 16), (3, .ref 31), (4, .int (nI a)), (5, .int 0)]) [1, 2, 3, 4, 5, 0] d_L_law_135 (by decide) rfl ?_
    refine ep_aload_n (j := 2) d_L_law_137 rfl rfl ?_
    refine ep_aload_n (j := 0) d_L_law_138 rfl rfl ?_
    refine ep_iload (j := 4) d_L_law_139 rfl ?_
    refine ep_iconst (v := 1) d_L_law_141 (by decide) ?_
    refine ep_iadd d_L_law_142 ?_
    refine ep_xald (f := X.2) (a + 1) d_L_law_143 rfl (nI_add a 1) (by omega) (by omega) ?_
    refine ep_callVxv e1 (As := [.int (X.2 (a + 1))]) (st := []) d_L_law_144 lk_L_62 cal_M_builtin tm_M_builtin ts_M_builtin rfl rfl rfl (Nat.le_of_ble_eq_true rfl) (Nat.le_of_ble_eq_true rfl) rfl rfl (M_builtin hb hv.w hv.l (X.2 (a + 1))) (fun rI1 rA1 hb1 ht1 => ?_)
    refine ep_istore (lv' := [(0, .ref 0), (1, .ref 1), (2, .ref 16), (3, .ref 31), (4, .int (nI a)), (5, .int 0), (6, .int q1.1)]) [1, 2, 3, 4, 5, 6, 0] d_L_law_147 (by decide) rfl ?_
    refine ep_aload_n (j := 2) d_L_law_149 rfl rfl ?_
    refine ep_callVi (As := []) (st := []) d_L_law_150 lk_L_63 cal_M_thrown tm_M_thrown ts_M_thrown rfl rfl rfl (Nat.le_of_ble_eq_true rfl) (Nat.le_of_ble_eq_true rfl) rfl rfl M_thrown ?_
    rw [ht1]
    refine ep_iload (j := 5) d_L_law_153 rfl ?_
    refine ep_icmp_eq (tgt := 160) d_L_law_155 (by decide) (fun _ => ?_) (fun z => absurd rfl z)
    refine ep_iload (j := 5) d_L_law_160 rfl ?_
    refine ep_if_ne (tgt := 177) d_L_law_162 (by decide) (fun z => absurd (by decide) z) (fun _ => ?_)
    refine ep_aload_n (j := 3) d_L_law_165 rfl rfl ?_
    refine ep_iconst (v := 0) d_L_law_166 (by decide) ?_
    refine ep_lald (f := fun _ => q1.1.toInt64) 0 d_L_law_167 rfl nI_0.symm (by decide) (by decide) ?_
    refine ep_iload (j := 6) d_L_law_168 rfl ?_
    refine ep_i2l d_L_law_170 ?_
    refine ep_lcmp d_L_law_171 ?_
    refine ep_if_eq (tgt := 177) d_L_law_172 (by decide) (fun _ => ?_) (fun z => absurd (lg_same _) z)
    refine ep_goto (tgt := 1076) d_L_law_177 (by decide) ?_
    refine ep_sub [0, 1, 2, 3, 4] rfl ?_
    exact kk (S' := q1.2) hc1 hb1 (gv_iv hv (fun q e => (aBuiltin_ao hv.w e).w) e1) (Or.inl rfl)
  · refine ep_istore (lv' := [(0, .ref 0), (1, .ref 1), (2, .ref 16), (3, .ref 31), (4, .int (nI a)), (5, .int (if k1 = 0 then 1 else 2))]) [1, 2, 3, 4, 5, 0] d_L_law_135 (by decide) rfl ?_
    refine ep_aload_n (j := 2) d_L_law_137 rfl rfl ?_
    refine ep_aload_n (j := 0) d_L_law_138 rfl rfl ?_
    refine ep_iload (j := 4) d_L_law_139 rfl ?_
    refine ep_iconst (v := 1) d_L_law_141 (by decide) ?_
    refine ep_iadd d_L_law_142 ?_
    refine ep_xald (f := X.2) (a + 1) d_L_law_143 rfl (nI_add a 1) (by omega) (by omega) ?_
    refine ep_callVxx e1 (As := [.int (X.2 (a + 1))]) (st := []) d_L_law_144 lk_L_62 cal_M_builtin tm_M_builtin ts_M_builtin rfl rfl rfl (Nat.le_of_ble_eq_true rfl) (Nat.le_of_ble_eq_true rfl) rfl rfl (M_builtin hb hv.w hv.l (X.2 (a + 1))) (fun rI1 rA1 hb1 ht1 => ?_)
    refine ep_istore (lv' := [(0, .ref 0), (1, .ref 1), (2, .ref 16), (3, .ref 31), (4, .int (nI a)), (5, .int (if k1 = 0 then 1 else 2)), (6, .int 0)]) [1, 2, 3, 4, 5, 6, 0] d_L_law_147 (by decide) rfl ?_
    refine ep_aload_n (j := 2) d_L_law_149 rfl rfl ?_
    refine ep_callVi (As := []) (st := []) d_L_law_150 lk_L_63 cal_M_thrown tm_M_thrown ts_M_thrown rfl rfl rfl (Nat.le_of_ble_eq_true rfl) (Nat.le_of_ble_eq_true rfl) rfl rfl M_thrown ?_
    rw [ht1]
    refine ep_iload (j := 5) d_L_law_153 rfl ?_
    refine ep_icmp_eq (tgt := 160) d_L_law_155 (by decide) (fun _ => ?_) (fun z => absurd rfl z)
    refine ep_iload (j := 5) d_L_law_160 rfl ?_
    refine ep_if_ne (tgt := 177) d_L_law_162 (by decide) (fun _ => ?_) (fun z => absurd z (wc_ne k1))
    refine ep_goto (tgt := 1076) d_L_law_177 (by decide) ?_
    refine ep_sub [0, 1, 2, 3, 4] rfl ?_
    exact kk (S' := S) hc1 hb1 hv (Or.inr ⟨k1, rfl⟩)
set_option maxHeartbeats 4000000 in
set_option maxRecDepth 100000 in
theorem L_c1 (hc : CC cI cA S) (hb : MB rI rA S) (hv : IV S) (ha : a + 6 ≤ X.1) (hX : X.1 ≤ 3072) (kk : LK d X J a P) : EvP m_L_law (d + 133) 180 [(0, .ref 0), (1, .ref 1), (2, .ref 16), (3, .ref 31), (4, .int (nI a))] [] (HC X cI cA rI rA ol J) P := by
  refine ep_aload_n (j := 1) d_L_law_180 rfl rfl ?_
  refine ep_aload_n (j := 0) d_L_law_181 rfl rfl ?_
  refine ep_iload (j := 4) d_L_law_182 rfl ?_
  refine ep_iconst (v := 1) d_L_law_184 (by decide) ?_
  refine ep_iadd d_L_law_185 ?_
  refine ep_xald (f := X.2) (a + 1) d_L_law_186 rfl (nI_add a 1) (by omega) (by omega) ?_
  refine ep_aload_n (j := 3) d_L_law_187 rfl rfl ?_
  refine ep_callSw (res := gvN (aName S.1 (X.2 (a + 1))) S) (As := [.ref 1, .int (X.2 (a + 1)), .ref 31]) (st := []) d_L_law_188 (Or.inl lk_L_66) cal_L_name tm_L_name ti_L rfl (Nat.le_of_ble_eq_true rfl) (Nat.le_of_ble_eq_true rfl) rfl rfl (L_name (S := S) hc (X.2 (a + 1)) (gv_z (Z0.ite (fun _ => Z0.add (by have := hv.l; omega)) (fun _ => Z0.l)))) (fun q1 cI1 cA1 e1 hc1 => ?_) (fun k1 cI1 cA1 ol1 e1 hc1 => ?_)
  · refine ep_istore (lv' := [(0, .ref 0), (1, .ref 1), (2, .ref 16), (3, .ref 31), (4, .int (nI a)), (5, .int 0)]) [1, 2, 3, 4, 5, 0] d_L_law_191 (by decide) rfl ?_
    refine ep_aload_n (j := 2) d_L_law_193 rfl rfl ?_
    refine ep_aload_n (j := 0) d_L_law_194 rfl rfl ?_
    refine ep_iload (j := 4) d_L_law_195 rfl ?_
    refine ep_iconst (v := 1) d_L_law_197 (by decide) ?_
    refine ep_iadd d_L_law_198 ?_
    refine ep_xald (f := X.2) (a + 1) d_L_law_199 rfl (nI_add a 1) (by omega) (by omega) ?_
    refine ep_callVxv e1 (As := [.int (X.2 (a + 1))]) (st := []) d_L_law_200 lk_L_68 cal_M_name tm_M_name ts_M_name rfl rfl rfl (Nat.le_of_ble_eq_true rfl) (Nat.le_of_ble_eq_true rfl) rfl rfl (M_name hb hv.w hv.l (X.2 (a + 1))) (fun rI1 rA1 hb1 ht1 => ?_)
    refine ep_istore (lv' := [(0, .ref 0), (1, .ref 1), (2, .ref 16), (3, .ref 31), (4, .int (nI a)), (5, .int 0), (6, .int q1.1)]) [1, 2, 3, 4, 5, 6, 0] d_L_law_203 (by decide) rfl ?_
    refine ep_aload_n (j := 2) d_L_law_205 rfl rfl ?_
    refine ep_callVi (As := []) (st := []) d_L_law_206 lk_L_63 cal_M_thrown tm_M_thrown ts_M_thrown rfl rfl rfl (Nat.le_of_ble_eq_true rfl) (Nat.le_of_ble_eq_true rfl) rfl rfl M_thrown ?_
    rw [ht1]
    refine ep_iload (j := 5) d_L_law_209 rfl ?_
    refine ep_icmp_eq (tgt := 216) d_L_law_211 (by decide) (fun _ => ?_) (fun z => absurd rfl z)
    refine ep_iload (j := 5) d_L_law_216 rfl ?_
    refine ep_if_ne (tgt := 233) d_L_law_218 (by decide) (fun z => absurd (by decide) z) (fun _ => ?_)
    refine ep_aload_n (j := 3) d_L_law_221 rfl rfl ?_
    refine ep_iconst (v := 0) d_L_law_222 (by decide) ?_
    refine ep_lald (f := fun _ => q1.1.toInt64) 0 d_L_law_223 rfl nI_0.symm (by decide) (by decide) ?_
    refine ep_iload (j := 6) d_L_law_224 rfl ?_
    refine ep_i2l d_L_law_226 ?_
    refine ep_lcmp d_L_law_227 ?_
    refine ep_if_eq (tgt := 233) d_L_law_228 (by decide) (fun _ => ?_) (fun z => absurd (lg_same _) z)
    refine ep_goto (tgt := 1076) d_L_law_233 (by decide) ?_
    refine ep_sub [0, 1, 2, 3, 4] rfl ?_
    exact kk (S' := q1.2) hc1 hb1 (gv_iv hv (fun q e => (aName_ao hv.w e).w) e1) (Or.inl rfl)
  · refine ep_istore (lv' := [(0, .ref 0), (1, .ref 1), (2, .ref 16), (3, .ref 31), (4, .int (nI a)), (5, .int (if k1 = 0 then 1 else 2))]) [1, 2, 3, 4, 5, 0] d_L_law_191 (by decide) rfl ?_
    refine ep_aload_n (j := 2) d_L_law_193 rfl rfl ?_
    refine ep_aload_n (j := 0) d_L_law_194 rfl rfl ?_
    refine ep_iload (j := 4) d_L_law_195 rfl ?_
    refine ep_iconst (v := 1) d_L_law_197 (by decide) ?_
    refine ep_iadd d_L_law_198 ?_
    refine ep_xald (f := X.2) (a + 1) d_L_law_199 rfl (nI_add a 1) (by omega) (by omega) ?_
    refine ep_callVxx e1 (As := [.int (X.2 (a + 1))]) (st := []) d_L_law_200 lk_L_68 cal_M_name tm_M_name ts_M_name rfl rfl rfl (Nat.le_of_ble_eq_true rfl) (Nat.le_of_ble_eq_true rfl) rfl rfl (M_name hb hv.w hv.l (X.2 (a + 1))) (fun rI1 rA1 hb1 ht1 => ?_)
    refine ep_istore (lv' := [(0, .ref 0), (1, .ref 1), (2, .ref 16), (3, .ref 31), (4, .int (nI a)), (5, .int (if k1 = 0 then 1 else 2)), (6, .int 0)]) [1, 2, 3, 4, 5, 6, 0] d_L_law_203 (by decide) rfl ?_
    refine ep_aload_n (j := 2) d_L_law_205 rfl rfl ?_
    refine ep_callVi (As := []) (st := []) d_L_law_206 lk_L_63 cal_M_thrown tm_M_thrown ts_M_thrown rfl rfl rfl (Nat.le_of_ble_eq_true rfl) (Nat.le_of_ble_eq_true rfl) rfl rfl M_thrown ?_
    rw [ht1]
    refine ep_iload (j := 5) d_L_law_209 rfl ?_
    refine ep_icmp_eq (tgt := 216) d_L_law_211 (by decide) (fun _ => ?_) (fun z => absurd rfl z)
    refine ep_iload (j := 5) d_L_law_216 rfl ?_
    refine ep_if_ne (tgt := 233) d_L_law_218 (by decide) (fun _ => ?_) (fun z => absurd z (wc_ne k1))
    refine ep_goto (tgt := 1076) d_L_law_233 (by decide) ?_
    refine ep_sub [0, 1, 2, 3, 4] rfl ?_
    exact kk (S' := S) hc1 hb1 hv (Or.inr ⟨k1, rfl⟩)
set_option maxHeartbeats 4000000 in
set_option maxRecDepth 100000 in
theorem L_c2 (hc : CC cI cA S) (hb : MB rI rA S) (hv : IV S) (ha : a + 6 ≤ X.1) (hX : X.1 ≤ 3072) (kk : LK d X J a P) : EvP m_L_law (d + 133) 236 [(0, .ref 0), (1, .ref 1), (2, .ref 16), (3, .ref 31), (4, .int (nI a))] [] (HC X cI cA rI rA ol J) P := by
  refine ep_aload_n (j := 1) d_L_law_236 rfl rfl ?_
  refine ep_aload_n (j := 0) d_L_law_237 rfl rfl ?_
  refine ep_iload (j := 4) d_L_law_238 rfl ?_
  refine ep_iconst (v := 1) d_L_law_240 (by decide) ?_
  refine ep_iadd d_L_law_241 ?_
  refine ep_xald (f := X.2) (a + 1) d_L_law_242 rfl (nI_add a 1) (by omega) (by omega) ?_
  refine ep_aload_n (j := 0) d_L_law_243 rfl rfl ?_
  refine ep_iload (j := 4) d_L_law_244 rfl ?_
  refine ep_iconst (v := 2) d_L_law_246 (by decide) ?_
  refine ep_iadd d_L_law_247 ?_
  refine ep_xald (f := X.2) (a + 2) d_L_law_248 rfl (nI_add a 2) (by omega) (by omega) ?_
  refine ep_aload_n (j := 3) d_L_law_249 rfl rfl ?_
  refine ep_callSw (res := gvN (aMember S.1 (X.2 (a + 1)) (X.2 (a + 2))) S) (As := [.ref 1, .int (X.2 (a + 1)), .int (X.2 (a + 2)), .ref 31]) (st := []) d_L_law_250 (Or.inl lk_L_69) cal_L_member tm_L_member ti_L rfl (Nat.le_of_ble_eq_true rfl) (Nat.le_of_ble_eq_true rfl) rfl rfl (L_member (S := S) hc (X.2 (a + 1)) (X.2 (a + 2)) (gv_z (Z0.ite (fun _ => Z0.add (by have := hv.l; omega)) (fun _ => Z0.l)))) (fun q1 cI1 cA1 e1 hc1 => ?_) (fun k1 cI1 cA1 ol1 e1 hc1 => ?_)
  · refine ep_istore (lv' := [(0, .ref 0), (1, .ref 1), (2, .ref 16), (3, .ref 31), (4, .int (nI a)), (5, .int 0)]) [1, 2, 3, 4, 5, 0] d_L_law_253 (by decide) rfl ?_
    refine ep_aload_n (j := 2) d_L_law_255 rfl rfl ?_
    refine ep_aload_n (j := 0) d_L_law_256 rfl rfl ?_
    refine ep_iload (j := 4) d_L_law_257 rfl ?_
    refine ep_iconst (v := 1) d_L_law_259 (by decide) ?_
    refine ep_iadd d_L_law_260 ?_
    refine ep_xald (f := X.2) (a + 1) d_L_law_261 rfl (nI_add a 1) (by omega) (by omega) ?_
    refine ep_aload_n (j := 0) d_L_law_262 rfl rfl ?_
    refine ep_iload (j := 4) d_L_law_263 rfl ?_
    refine ep_iconst (v := 2) d_L_law_265 (by decide) ?_
    refine ep_iadd d_L_law_266 ?_
    refine ep_xald (f := X.2) (a + 2) d_L_law_267 rfl (nI_add a 2) (by omega) (by omega) ?_
    refine ep_callVxv e1 (As := [.int (X.2 (a + 1)), .int (X.2 (a + 2))]) (st := []) d_L_law_268 lk_L_72 cal_M_member tm_M_member ts_M_member rfl rfl rfl (Nat.le_of_ble_eq_true rfl) (Nat.le_of_ble_eq_true rfl) rfl rfl (M_member hb hv.w hv.l (X.2 (a + 1)) (X.2 (a + 2))) (fun rI1 rA1 hb1 ht1 => ?_)
    refine ep_istore (lv' := [(0, .ref 0), (1, .ref 1), (2, .ref 16), (3, .ref 31), (4, .int (nI a)), (5, .int 0), (6, .int q1.1)]) [1, 2, 3, 4, 5, 6, 0] d_L_law_271 (by decide) rfl ?_
    refine ep_aload_n (j := 2) d_L_law_273 rfl rfl ?_
    refine ep_callVi (As := []) (st := []) d_L_law_274 lk_L_63 cal_M_thrown tm_M_thrown ts_M_thrown rfl rfl rfl (Nat.le_of_ble_eq_true rfl) (Nat.le_of_ble_eq_true rfl) rfl rfl M_thrown ?_
    rw [ht1]
    refine ep_iload (j := 5) d_L_law_277 rfl ?_
    refine ep_icmp_eq (tgt := 284) d_L_law_279 (by decide) (fun _ => ?_) (fun z => absurd rfl z)
    refine ep_iload (j := 5) d_L_law_284 rfl ?_
    refine ep_if_ne (tgt := 301) d_L_law_286 (by decide) (fun z => absurd (by decide) z) (fun _ => ?_)
    refine ep_aload_n (j := 3) d_L_law_289 rfl rfl ?_
    refine ep_iconst (v := 0) d_L_law_290 (by decide) ?_
    refine ep_lald (f := fun _ => q1.1.toInt64) 0 d_L_law_291 rfl nI_0.symm (by decide) (by decide) ?_
    refine ep_iload (j := 6) d_L_law_292 rfl ?_
    refine ep_i2l d_L_law_294 ?_
    refine ep_lcmp d_L_law_295 ?_
    refine ep_if_eq (tgt := 301) d_L_law_296 (by decide) (fun _ => ?_) (fun z => absurd (lg_same _) z)
    refine ep_goto (tgt := 1076) d_L_law_301 (by decide) ?_
    refine ep_sub [0, 1, 2, 3, 4] rfl ?_
    exact kk (S' := q1.2) hc1 hb1 (gv_iv hv (fun q e => (aMember_ao hv.w e).1.w) e1) (Or.inl rfl)
  · refine ep_istore (lv' := [(0, .ref 0), (1, .ref 1), (2, .ref 16), (3, .ref 31), (4, .int (nI a)), (5, .int (if k1 = 0 then 1 else 2))]) [1, 2, 3, 4, 5, 0] d_L_law_253 (by decide) rfl ?_
    refine ep_aload_n (j := 2) d_L_law_255 rfl rfl ?_
    refine ep_aload_n (j := 0) d_L_law_256 rfl rfl ?_
    refine ep_iload (j := 4) d_L_law_257 rfl ?_
    refine ep_iconst (v := 1) d_L_law_259 (by decide) ?_
    refine ep_iadd d_L_law_260 ?_
    refine ep_xald (f := X.2) (a + 1) d_L_law_261 rfl (nI_add a 1) (by omega) (by omega) ?_
    refine ep_aload_n (j := 0) d_L_law_262 rfl rfl ?_
    refine ep_iload (j := 4) d_L_law_263 rfl ?_
    refine ep_iconst (v := 2) d_L_law_265 (by decide) ?_
    refine ep_iadd d_L_law_266 ?_
    refine ep_xald (f := X.2) (a + 2) d_L_law_267 rfl (nI_add a 2) (by omega) (by omega) ?_
    refine ep_callVxx e1 (As := [.int (X.2 (a + 1)), .int (X.2 (a + 2))]) (st := []) d_L_law_268 lk_L_72 cal_M_member tm_M_member ts_M_member rfl rfl rfl (Nat.le_of_ble_eq_true rfl) (Nat.le_of_ble_eq_true rfl) rfl rfl (M_member hb hv.w hv.l (X.2 (a + 1)) (X.2 (a + 2))) (fun rI1 rA1 hb1 ht1 => ?_)
    refine ep_istore (lv' := [(0, .ref 0), (1, .ref 1), (2, .ref 16), (3, .ref 31), (4, .int (nI a)), (5, .int (if k1 = 0 then 1 else 2)), (6, .int 0)]) [1, 2, 3, 4, 5, 6, 0] d_L_law_271 (by decide) rfl ?_
    refine ep_aload_n (j := 2) d_L_law_273 rfl rfl ?_
    refine ep_callVi (As := []) (st := []) d_L_law_274 lk_L_63 cal_M_thrown tm_M_thrown ts_M_thrown rfl rfl rfl (Nat.le_of_ble_eq_true rfl) (Nat.le_of_ble_eq_true rfl) rfl rfl M_thrown ?_
    rw [ht1]
    refine ep_iload (j := 5) d_L_law_277 rfl ?_
    refine ep_icmp_eq (tgt := 284) d_L_law_279 (by decide) (fun _ => ?_) (fun z => absurd rfl z)
    refine ep_iload (j := 5) d_L_law_284 rfl ?_
    refine ep_if_ne (tgt := 301) d_L_law_286 (by decide) (fun _ => ?_) (fun z => absurd z (wc_ne k1))
    refine ep_goto (tgt := 1076) d_L_law_301 (by decide) ?_
    refine ep_sub [0, 1, 2, 3, 4] rfl ?_
    exact kk (S' := S) hc1 hb1 hv (Or.inr ⟨k1, rfl⟩)
set_option maxHeartbeats 4000000 in
set_option maxRecDepth 100000 in
theorem L_c3 (hc : CC cI cA S) (hb : MB rI rA S) (hv : IV S) (ha : a + 6 ≤ X.1) (hX : X.1 ≤ 3072) (kk : LK d X J a P) : EvP m_L_law (d + 133) 304 [(0, .ref 0), (1, .ref 1), (2, .ref 16), (3, .ref 31), (4, .int (nI a))] [] (HC X cI cA rI rA ol J) P := by
  refine ep_aload_n (j := 1) d_L_law_304 rfl rfl ?_
  refine ep_aload_n (j := 0) d_L_law_305 rfl rfl ?_
  refine ep_iload (j := 4) d_L_law_306 rfl ?_
  refine ep_iconst (v := 1) d_L_law_308 (by decide) ?_
  refine ep_iadd d_L_law_309 ?_
  refine ep_xald (f := X.2) (a + 1) d_L_law_310 rfl (nI_add a 1) (by omega) (by omega) ?_
  refine ep_aload_n (j := 0) d_L_law_311 rfl rfl ?_
  refine ep_iload (j := 4) d_L_law_312 rfl ?_
  refine ep_iconst (v := 2) d_L_law_314 (by decide) ?_
  refine ep_iadd d_L_law_315 ?_
  refine ep_xald (f := X.2) (a + 2) d_L_law_316 rfl (nI_add a 2) (by omega) (by omega) ?_
  refine ep_aload_n (j := 0) d_L_law_317 rfl rfl ?_
  refine ep_iload (j := 4) d_L_law_318 rfl ?_
  refine ep_iconst (v := 3) d_L_law_320 (by decide) ?_
  refine ep_iadd d_L_law_321 ?_
  refine ep_xald (f := X.2) (a + 3) d_L_law_322 rfl (nI_add a 3) (by omega) (by omega) ?_
  refine ep_aload_n (j := 0) d_L_law_323 rfl rfl ?_
  refine ep_iload (j := 4) d_L_law_324 rfl ?_
  refine ep_iconst (v := 4) d_L_law_326 (by decide) ?_
  refine ep_iadd d_L_law_327 ?_
  refine ep_xald (f := X.2) (a + 4) d_L_law_328 rfl (nI_add a 4) (by omega) (by omega) ?_
  refine ep_aload_n (j := 3) d_L_law_329 rfl rfl ?_
  refine ep_callSw (res := gvN (aFilled S.1 (X.2 (a + 1)) (X.2 (a + 2)) (X.2 (a + 3)) (X.2 (a + 4))) S) (As := [.ref 1, .int (X.2 (a + 1)), .int (X.2 (a + 2)), .int (X.2 (a + 3)), .int (X.2 (a + 4)), .ref 31]) (st := []) d_L_law_330 (Or.inl lk_L_73) cal_L_fill tm_L_fill ti_L rfl (Nat.le_of_ble_eq_true rfl) (Nat.le_of_ble_eq_true rfl) rfl rfl (L_fill (S := S) hc (X.2 (a + 1)) (X.2 (a + 2)) (X.2 (a + 3)) (X.2 (a + 4)) (gv_z (Z0.ite (fun _ => Z0.add (by have := hv.l; omega)) (fun _ => Z0.l)))) (fun q1 cI1 cA1 e1 hc1 => ?_) (fun k1 cI1 cA1 ol1 e1 hc1 => ?_)
  · refine ep_istore (lv' := [(0, .ref 0), (1, .ref 1), (2, .ref 16), (3, .ref 31), (4, .int (nI a)), (5, .int 0)]) [1, 2, 3, 4, 5, 0] d_L_law_333 (by decide) rfl ?_
    refine ep_aload_n (j := 2) d_L_law_335 rfl rfl ?_
    refine ep_aload_n (j := 0) d_L_law_336 rfl rfl ?_
    refine ep_iload (j := 4) d_L_law_337 rfl ?_
    refine ep_iconst (v := 1) d_L_law_339 (by decide) ?_
    refine ep_iadd d_L_law_340 ?_
    refine ep_xald (f := X.2) (a + 1) d_L_law_341 rfl (nI_add a 1) (by omega) (by omega) ?_
    refine ep_aload_n (j := 0) d_L_law_342 rfl rfl ?_
    refine ep_iload (j := 4) d_L_law_343 rfl ?_
    refine ep_iconst (v := 2) d_L_law_345 (by decide) ?_
    refine ep_iadd d_L_law_346 ?_
    refine ep_xald (f := X.2) (a + 2) d_L_law_347 rfl (nI_add a 2) (by omega) (by omega) ?_
    refine ep_aload_n (j := 0) d_L_law_348 rfl rfl ?_
    refine ep_iload (j := 4) d_L_law_349 rfl ?_
    refine ep_iconst (v := 3) d_L_law_351 (by decide) ?_
    refine ep_iadd d_L_law_352 ?_
    refine ep_xald (f := X.2) (a + 3) d_L_law_353 rfl (nI_add a 3) (by omega) (by omega) ?_
    refine ep_aload_n (j := 0) d_L_law_354 rfl rfl ?_
    refine ep_iload (j := 4) d_L_law_355 rfl ?_
    refine ep_iconst (v := 4) d_L_law_357 (by decide) ?_
    refine ep_iadd d_L_law_358 ?_
    refine ep_xald (f := X.2) (a + 4) d_L_law_359 rfl (nI_add a 4) (by omega) (by omega) ?_
    refine ep_callVxv e1 (As := [.int (X.2 (a + 1)), .int (X.2 (a + 2)), .int (X.2 (a + 3)), .int (X.2 (a + 4))]) (st := []) d_L_law_360 lk_L_76 cal_M_fill tm_M_fill ts_M_fill rfl rfl rfl (Nat.le_of_ble_eq_true rfl) (Nat.le_of_ble_eq_true rfl) rfl rfl (M_fill hb hv.w hv.l (X.2 (a + 1)) (X.2 (a + 2)) (X.2 (a + 3)) (X.2 (a + 4))) (fun rI1 rA1 hb1 ht1 => ?_)
    refine ep_istore (lv' := [(0, .ref 0), (1, .ref 1), (2, .ref 16), (3, .ref 31), (4, .int (nI a)), (5, .int 0), (6, .int q1.1)]) [1, 2, 3, 4, 5, 6, 0] d_L_law_363 (by decide) rfl ?_
    refine ep_aload_n (j := 2) d_L_law_365 rfl rfl ?_
    refine ep_callVi (As := []) (st := []) d_L_law_366 lk_L_63 cal_M_thrown tm_M_thrown ts_M_thrown rfl rfl rfl (Nat.le_of_ble_eq_true rfl) (Nat.le_of_ble_eq_true rfl) rfl rfl M_thrown ?_
    rw [ht1]
    refine ep_iload (j := 5) d_L_law_369 rfl ?_
    refine ep_icmp_eq (tgt := 376) d_L_law_371 (by decide) (fun _ => ?_) (fun z => absurd rfl z)
    refine ep_iload (j := 5) d_L_law_376 rfl ?_
    refine ep_if_ne (tgt := 393) d_L_law_378 (by decide) (fun z => absurd (by decide) z) (fun _ => ?_)
    refine ep_aload_n (j := 3) d_L_law_381 rfl rfl ?_
    refine ep_iconst (v := 0) d_L_law_382 (by decide) ?_
    refine ep_lald (f := fun _ => q1.1.toInt64) 0 d_L_law_383 rfl nI_0.symm (by decide) (by decide) ?_
    refine ep_iload (j := 6) d_L_law_384 rfl ?_
    refine ep_i2l d_L_law_386 ?_
    refine ep_lcmp d_L_law_387 ?_
    refine ep_if_eq (tgt := 393) d_L_law_388 (by decide) (fun _ => ?_) (fun z => absurd (lg_same _) z)
    refine ep_goto (tgt := 1076) d_L_law_393 (by decide) ?_
    refine ep_sub [0, 1, 2, 3, 4] rfl ?_
    exact kk (S' := q1.2) hc1 hb1 (gv_iv hv (fun q e => (aFilled_ao hv.w e).1.w) e1) (Or.inl rfl)
  · refine ep_istore (lv' := [(0, .ref 0), (1, .ref 1), (2, .ref 16), (3, .ref 31), (4, .int (nI a)), (5, .int (if k1 = 0 then 1 else 2))]) [1, 2, 3, 4, 5, 0] d_L_law_333 (by decide) rfl ?_
    refine ep_aload_n (j := 2) d_L_law_335 rfl rfl ?_
    refine ep_aload_n (j := 0) d_L_law_336 rfl rfl ?_
    refine ep_iload (j := 4) d_L_law_337 rfl ?_
    refine ep_iconst (v := 1) d_L_law_339 (by decide) ?_
    refine ep_iadd d_L_law_340 ?_
    refine ep_xald (f := X.2) (a + 1) d_L_law_341 rfl (nI_add a 1) (by omega) (by omega) ?_
    refine ep_aload_n (j := 0) d_L_law_342 rfl rfl ?_
    refine ep_iload (j := 4) d_L_law_343 rfl ?_
    refine ep_iconst (v := 2) d_L_law_345 (by decide) ?_
    refine ep_iadd d_L_law_346 ?_
    refine ep_xald (f := X.2) (a + 2) d_L_law_347 rfl (nI_add a 2) (by omega) (by omega) ?_
    refine ep_aload_n (j := 0) d_L_law_348 rfl rfl ?_
    refine ep_iload (j := 4) d_L_law_349 rfl ?_
    refine ep_iconst (v := 3) d_L_law_351 (by decide) ?_
    refine ep_iadd d_L_law_352 ?_
    refine ep_xald (f := X.2) (a + 3) d_L_law_353 rfl (nI_add a 3) (by omega) (by omega) ?_
    refine ep_aload_n (j := 0) d_L_law_354 rfl rfl ?_
    refine ep_iload (j := 4) d_L_law_355 rfl ?_
    refine ep_iconst (v := 4) d_L_law_357 (by decide) ?_
    refine ep_iadd d_L_law_358 ?_
    refine ep_xald (f := X.2) (a + 4) d_L_law_359 rfl (nI_add a 4) (by omega) (by omega) ?_
    refine ep_callVxx e1 (As := [.int (X.2 (a + 1)), .int (X.2 (a + 2)), .int (X.2 (a + 3)), .int (X.2 (a + 4))]) (st := []) d_L_law_360 lk_L_76 cal_M_fill tm_M_fill ts_M_fill rfl rfl rfl (Nat.le_of_ble_eq_true rfl) (Nat.le_of_ble_eq_true rfl) rfl rfl (M_fill hb hv.w hv.l (X.2 (a + 1)) (X.2 (a + 2)) (X.2 (a + 3)) (X.2 (a + 4))) (fun rI1 rA1 hb1 ht1 => ?_)
    refine ep_istore (lv' := [(0, .ref 0), (1, .ref 1), (2, .ref 16), (3, .ref 31), (4, .int (nI a)), (5, .int (if k1 = 0 then 1 else 2)), (6, .int 0)]) [1, 2, 3, 4, 5, 6, 0] d_L_law_363 (by decide) rfl ?_
    refine ep_aload_n (j := 2) d_L_law_365 rfl rfl ?_
    refine ep_callVi (As := []) (st := []) d_L_law_366 lk_L_63 cal_M_thrown tm_M_thrown ts_M_thrown rfl rfl rfl (Nat.le_of_ble_eq_true rfl) (Nat.le_of_ble_eq_true rfl) rfl rfl M_thrown ?_
    rw [ht1]
    refine ep_iload (j := 5) d_L_law_369 rfl ?_
    refine ep_icmp_eq (tgt := 376) d_L_law_371 (by decide) (fun _ => ?_) (fun z => absurd rfl z)
    refine ep_iload (j := 5) d_L_law_376 rfl ?_
    refine ep_if_ne (tgt := 393) d_L_law_378 (by decide) (fun _ => ?_) (fun z => absurd z (wc_ne k1))
    refine ep_goto (tgt := 1076) d_L_law_393 (by decide) ?_
    refine ep_sub [0, 1, 2, 3, 4] rfl ?_
    exact kk (S' := S) hc1 hb1 hv (Or.inr ⟨k1, rfl⟩)
set_option maxHeartbeats 4000000 in
set_option maxRecDepth 100000 in
theorem L_c4 (hc : CC cI cA S) (hb : MB rI rA S) (hv : IV S) (ha : a + 6 ≤ X.1) (hX : X.1 ≤ 3072) (kk : LK d X J a P) : EvP m_L_law (d + 133) 396 [(0, .ref 0), (1, .ref 1), (2, .ref 16), (3, .ref 31), (4, .int (nI a))] [] (HC X cI cA rI rA ol J) P := by
  refine ep_aload_n (j := 1) d_L_law_396 rfl rfl ?_
  refine ep_aload_n (j := 0) d_L_law_397 rfl rfl ?_
  refine ep_iload (j := 4) d_L_law_398 rfl ?_
  refine ep_iconst (v := 1) d_L_law_400 (by decide) ?_
  refine ep_iadd d_L_law_401 ?_
  refine ep_xald (f := X.2) (a + 1) d_L_law_402 rfl (nI_add a 1) (by omega) (by omega) ?_
  refine ep_aload_n (j := 0) d_L_law_403 rfl rfl ?_
  refine ep_iload (j := 4) d_L_law_404 rfl ?_
  refine ep_iconst (v := 2) d_L_law_406 (by decide) ?_
  refine ep_iadd d_L_law_407 ?_
  refine ep_xald (f := X.2) (a + 2) d_L_law_408 rfl (nI_add a 2) (by omega) (by omega) ?_
  refine ep_aload_n (j := 3) d_L_law_409 rfl rfl ?_
  refine ep_callSw (res := gvN (aWrapped S.1 (X.2 (a + 1)) (X.2 (a + 2))) S) (As := [.ref 1, .int (X.2 (a + 1)), .int (X.2 (a + 2)), .ref 31]) (st := []) d_L_law_410 (Or.inl lk_L_77) cal_L_wrap tm_L_wrap ti_L rfl (Nat.le_of_ble_eq_true rfl) (Nat.le_of_ble_eq_true rfl) rfl rfl (L_wrap (S := S) hc (X.2 (a + 1)) (X.2 (a + 2)) (gv_z (Z0.ite (fun _ => Z0.add (by have := hv.l; omega)) (fun _ => Z0.l)))) (fun q1 cI1 cA1 e1 hc1 => ?_) (fun k1 cI1 cA1 ol1 e1 hc1 => ?_)
  · refine ep_istore (lv' := [(0, .ref 0), (1, .ref 1), (2, .ref 16), (3, .ref 31), (4, .int (nI a)), (5, .int 0)]) [1, 2, 3, 4, 5, 0] d_L_law_413 (by decide) rfl ?_
    refine ep_aload_n (j := 2) d_L_law_415 rfl rfl ?_
    refine ep_aload_n (j := 0) d_L_law_416 rfl rfl ?_
    refine ep_iload (j := 4) d_L_law_417 rfl ?_
    refine ep_iconst (v := 1) d_L_law_419 (by decide) ?_
    refine ep_iadd d_L_law_420 ?_
    refine ep_xald (f := X.2) (a + 1) d_L_law_421 rfl (nI_add a 1) (by omega) (by omega) ?_
    refine ep_aload_n (j := 0) d_L_law_422 rfl rfl ?_
    refine ep_iload (j := 4) d_L_law_423 rfl ?_
    refine ep_iconst (v := 2) d_L_law_425 (by decide) ?_
    refine ep_iadd d_L_law_426 ?_
    refine ep_xald (f := X.2) (a + 2) d_L_law_427 rfl (nI_add a 2) (by omega) (by omega) ?_
    refine ep_callVxv e1 (As := [.int (X.2 (a + 1)), .int (X.2 (a + 2))]) (st := []) d_L_law_428 lk_L_79 cal_M_wrap tm_M_wrap ts_M_wrap rfl rfl rfl (Nat.le_of_ble_eq_true rfl) (Nat.le_of_ble_eq_true rfl) rfl rfl (M_wrap hb hv.w hv.l (X.2 (a + 1)) (X.2 (a + 2))) (fun rI1 rA1 hb1 ht1 => ?_)
    refine ep_istore (lv' := [(0, .ref 0), (1, .ref 1), (2, .ref 16), (3, .ref 31), (4, .int (nI a)), (5, .int 0), (6, .int q1.1)]) [1, 2, 3, 4, 5, 6, 0] d_L_law_431 (by decide) rfl ?_
    refine ep_aload_n (j := 2) d_L_law_433 rfl rfl ?_
    refine ep_callVi (As := []) (st := []) d_L_law_434 lk_L_63 cal_M_thrown tm_M_thrown ts_M_thrown rfl rfl rfl (Nat.le_of_ble_eq_true rfl) (Nat.le_of_ble_eq_true rfl) rfl rfl M_thrown ?_
    rw [ht1]
    refine ep_iload (j := 5) d_L_law_437 rfl ?_
    refine ep_icmp_eq (tgt := 444) d_L_law_439 (by decide) (fun _ => ?_) (fun z => absurd rfl z)
    refine ep_iload (j := 5) d_L_law_444 rfl ?_
    refine ep_if_ne (tgt := 461) d_L_law_446 (by decide) (fun z => absurd (by decide) z) (fun _ => ?_)
    refine ep_aload_n (j := 3) d_L_law_449 rfl rfl ?_
    refine ep_iconst (v := 0) d_L_law_450 (by decide) ?_
    refine ep_lald (f := fun _ => q1.1.toInt64) 0 d_L_law_451 rfl nI_0.symm (by decide) (by decide) ?_
    refine ep_iload (j := 6) d_L_law_452 rfl ?_
    refine ep_i2l d_L_law_454 ?_
    refine ep_lcmp d_L_law_455 ?_
    refine ep_if_eq (tgt := 461) d_L_law_456 (by decide) (fun _ => ?_) (fun z => absurd (lg_same _) z)
    refine ep_goto (tgt := 1076) d_L_law_461 (by decide) ?_
    refine ep_sub [0, 1, 2, 3, 4] rfl ?_
    exact kk (S' := q1.2) hc1 hb1 (gv_iv hv (fun q e => (aWrapped_ao hv.w e).1.w) e1) (Or.inl rfl)
  · refine ep_istore (lv' := [(0, .ref 0), (1, .ref 1), (2, .ref 16), (3, .ref 31), (4, .int (nI a)), (5, .int (if k1 = 0 then 1 else 2))]) [1, 2, 3, 4, 5, 0] d_L_law_413 (by decide) rfl ?_
    refine ep_aload_n (j := 2) d_L_law_415 rfl rfl ?_
    refine ep_aload_n (j := 0) d_L_law_416 rfl rfl ?_
    refine ep_iload (j := 4) d_L_law_417 rfl ?_
    refine ep_iconst (v := 1) d_L_law_419 (by decide) ?_
    refine ep_iadd d_L_law_420 ?_
    refine ep_xald (f := X.2) (a + 1) d_L_law_421 rfl (nI_add a 1) (by omega) (by omega) ?_
    refine ep_aload_n (j := 0) d_L_law_422 rfl rfl ?_
    refine ep_iload (j := 4) d_L_law_423 rfl ?_
    refine ep_iconst (v := 2) d_L_law_425 (by decide) ?_
    refine ep_iadd d_L_law_426 ?_
    refine ep_xald (f := X.2) (a + 2) d_L_law_427 rfl (nI_add a 2) (by omega) (by omega) ?_
    refine ep_callVxx e1 (As := [.int (X.2 (a + 1)), .int (X.2 (a + 2))]) (st := []) d_L_law_428 lk_L_79 cal_M_wrap tm_M_wrap ts_M_wrap rfl rfl rfl (Nat.le_of_ble_eq_true rfl) (Nat.le_of_ble_eq_true rfl) rfl rfl (M_wrap hb hv.w hv.l (X.2 (a + 1)) (X.2 (a + 2))) (fun rI1 rA1 hb1 ht1 => ?_)
    refine ep_istore (lv' := [(0, .ref 0), (1, .ref 1), (2, .ref 16), (3, .ref 31), (4, .int (nI a)), (5, .int (if k1 = 0 then 1 else 2)), (6, .int 0)]) [1, 2, 3, 4, 5, 6, 0] d_L_law_431 (by decide) rfl ?_
    refine ep_aload_n (j := 2) d_L_law_433 rfl rfl ?_
    refine ep_callVi (As := []) (st := []) d_L_law_434 lk_L_63 cal_M_thrown tm_M_thrown ts_M_thrown rfl rfl rfl (Nat.le_of_ble_eq_true rfl) (Nat.le_of_ble_eq_true rfl) rfl rfl M_thrown ?_
    rw [ht1]
    refine ep_iload (j := 5) d_L_law_437 rfl ?_
    refine ep_icmp_eq (tgt := 444) d_L_law_439 (by decide) (fun _ => ?_) (fun z => absurd rfl z)
    refine ep_iload (j := 5) d_L_law_444 rfl ?_
    refine ep_if_ne (tgt := 461) d_L_law_446 (by decide) (fun _ => ?_) (fun z => absurd z (wc_ne k1))
    refine ep_goto (tgt := 1076) d_L_law_461 (by decide) ?_
    refine ep_sub [0, 1, 2, 3, 4] rfl ?_
    exact kk (S' := S) hc1 hb1 hv (Or.inr ⟨k1, rfl⟩)
set_option maxHeartbeats 4000000 in
set_option maxRecDepth 100000 in
theorem L_c5 (hc : CC cI cA S) (hb : MB rI rA S) (hv : IV S) (ha : a + 6 ≤ X.1) (hX : X.1 ≤ 3072) (kk : LK d X J a P) : EvP m_L_law (d + 133) 464 [(0, .ref 0), (1, .ref 1), (2, .ref 16), (3, .ref 31), (4, .int (nI a))] [] (HC X cI cA rI rA ol J) P := by
  refine ep_aload_n (j := 1) d_L_law_464 rfl rfl ?_
  refine ep_aload_n (j := 0) d_L_law_465 rfl rfl ?_
  refine ep_iload (j := 4) d_L_law_466 rfl ?_
  refine ep_iconst (v := 1) d_L_law_468 (by decide) ?_
  refine ep_iadd d_L_law_469 ?_
  refine ep_xald (f := X.2) (a + 1) d_L_law_470 rfl (nI_add a 1) (by omega) (by omega) ?_
  refine ep_aload_n (j := 0) d_L_law_471 rfl rfl ?_
  refine ep_iload (j := 4) d_L_law_472 rfl ?_
  refine ep_iconst (v := 2) d_L_law_474 (by decide) ?_
  refine ep_iadd d_L_law_475 ?_
  refine ep_xald (f := X.2) (a + 2) d_L_law_476 rfl (nI_add a 2) (by omega) (by omega) ?_
  refine ep_aload_n (j := 3) d_L_law_477 rfl rfl ?_
  refine ep_callSw (res := gvN (aArray S.1 (X.2 (a + 1)) (X.2 (a + 2))) S) (As := [.ref 1, .int (X.2 (a + 1)), .int (X.2 (a + 2)), .ref 31]) (st := []) d_L_law_478 (Or.inl lk_L_80) cal_L_array tm_L_array ti_L rfl (Nat.le_of_ble_eq_true rfl) (Nat.le_of_ble_eq_true rfl) rfl rfl (L_array (S := S) hc (X.2 (a + 1)) (X.2 (a + 2)) (gv_z (Z0.ite (fun _ => Z0.add (by have := hv.l; omega)) (fun _ => Z0.l)))) (fun q1 cI1 cA1 e1 hc1 => ?_) (fun k1 cI1 cA1 ol1 e1 hc1 => ?_)
  · refine ep_istore (lv' := [(0, .ref 0), (1, .ref 1), (2, .ref 16), (3, .ref 31), (4, .int (nI a)), (5, .int 0)]) [1, 2, 3, 4, 5, 0] d_L_law_481 (by decide) rfl ?_
    refine ep_aload_n (j := 2) d_L_law_483 rfl rfl ?_
    refine ep_aload_n (j := 0) d_L_law_484 rfl rfl ?_
    refine ep_iload (j := 4) d_L_law_485 rfl ?_
    refine ep_iconst (v := 1) d_L_law_487 (by decide) ?_
    refine ep_iadd d_L_law_488 ?_
    refine ep_xald (f := X.2) (a + 1) d_L_law_489 rfl (nI_add a 1) (by omega) (by omega) ?_
    refine ep_aload_n (j := 0) d_L_law_490 rfl rfl ?_
    refine ep_iload (j := 4) d_L_law_491 rfl ?_
    refine ep_iconst (v := 2) d_L_law_493 (by decide) ?_
    refine ep_iadd d_L_law_494 ?_
    refine ep_xald (f := X.2) (a + 2) d_L_law_495 rfl (nI_add a 2) (by omega) (by omega) ?_
    refine ep_callVxv e1 (As := [.int (X.2 (a + 1)), .int (X.2 (a + 2))]) (st := []) d_L_law_496 lk_L_82 cal_M_array tm_M_array ts_M_array rfl rfl rfl (Nat.le_of_ble_eq_true rfl) (Nat.le_of_ble_eq_true rfl) rfl rfl (M_array hb hv.w hv.l (X.2 (a + 1)) (X.2 (a + 2))) (fun rI1 rA1 hb1 ht1 => ?_)
    refine ep_istore (lv' := [(0, .ref 0), (1, .ref 1), (2, .ref 16), (3, .ref 31), (4, .int (nI a)), (5, .int 0), (6, .int q1.1)]) [1, 2, 3, 4, 5, 6, 0] d_L_law_499 (by decide) rfl ?_
    refine ep_aload_n (j := 2) d_L_law_501 rfl rfl ?_
    refine ep_callVi (As := []) (st := []) d_L_law_502 lk_L_63 cal_M_thrown tm_M_thrown ts_M_thrown rfl rfl rfl (Nat.le_of_ble_eq_true rfl) (Nat.le_of_ble_eq_true rfl) rfl rfl M_thrown ?_
    rw [ht1]
    refine ep_iload (j := 5) d_L_law_505 rfl ?_
    refine ep_icmp_eq (tgt := 512) d_L_law_507 (by decide) (fun _ => ?_) (fun z => absurd rfl z)
    refine ep_iload (j := 5) d_L_law_512 rfl ?_
    refine ep_if_ne (tgt := 529) d_L_law_514 (by decide) (fun z => absurd (by decide) z) (fun _ => ?_)
    refine ep_aload_n (j := 3) d_L_law_517 rfl rfl ?_
    refine ep_iconst (v := 0) d_L_law_518 (by decide) ?_
    refine ep_lald (f := fun _ => q1.1.toInt64) 0 d_L_law_519 rfl nI_0.symm (by decide) (by decide) ?_
    refine ep_iload (j := 6) d_L_law_520 rfl ?_
    refine ep_i2l d_L_law_522 ?_
    refine ep_lcmp d_L_law_523 ?_
    refine ep_if_eq (tgt := 529) d_L_law_524 (by decide) (fun _ => ?_) (fun z => absurd (lg_same _) z)
    refine ep_goto (tgt := 1076) d_L_law_529 (by decide) ?_
    refine ep_sub [0, 1, 2, 3, 4] rfl ?_
    exact kk (S' := q1.2) hc1 hb1 (gv_iv hv (fun q e => (aArray_ao hv.w e).w) e1) (Or.inl rfl)
  · refine ep_istore (lv' := [(0, .ref 0), (1, .ref 1), (2, .ref 16), (3, .ref 31), (4, .int (nI a)), (5, .int (if k1 = 0 then 1 else 2))]) [1, 2, 3, 4, 5, 0] d_L_law_481 (by decide) rfl ?_
    refine ep_aload_n (j := 2) d_L_law_483 rfl rfl ?_
    refine ep_aload_n (j := 0) d_L_law_484 rfl rfl ?_
    refine ep_iload (j := 4) d_L_law_485 rfl ?_
    refine ep_iconst (v := 1) d_L_law_487 (by decide) ?_
    refine ep_iadd d_L_law_488 ?_
    refine ep_xald (f := X.2) (a + 1) d_L_law_489 rfl (nI_add a 1) (by omega) (by omega) ?_
    refine ep_aload_n (j := 0) d_L_law_490 rfl rfl ?_
    refine ep_iload (j := 4) d_L_law_491 rfl ?_
    refine ep_iconst (v := 2) d_L_law_493 (by decide) ?_
    refine ep_iadd d_L_law_494 ?_
    refine ep_xald (f := X.2) (a + 2) d_L_law_495 rfl (nI_add a 2) (by omega) (by omega) ?_
    refine ep_callVxx e1 (As := [.int (X.2 (a + 1)), .int (X.2 (a + 2))]) (st := []) d_L_law_496 lk_L_82 cal_M_array tm_M_array ts_M_array rfl rfl rfl (Nat.le_of_ble_eq_true rfl) (Nat.le_of_ble_eq_true rfl) rfl rfl (M_array hb hv.w hv.l (X.2 (a + 1)) (X.2 (a + 2))) (fun rI1 rA1 hb1 ht1 => ?_)
    refine ep_istore (lv' := [(0, .ref 0), (1, .ref 1), (2, .ref 16), (3, .ref 31), (4, .int (nI a)), (5, .int (if k1 = 0 then 1 else 2)), (6, .int 0)]) [1, 2, 3, 4, 5, 6, 0] d_L_law_499 (by decide) rfl ?_
    refine ep_aload_n (j := 2) d_L_law_501 rfl rfl ?_
    refine ep_callVi (As := []) (st := []) d_L_law_502 lk_L_63 cal_M_thrown tm_M_thrown ts_M_thrown rfl rfl rfl (Nat.le_of_ble_eq_true rfl) (Nat.le_of_ble_eq_true rfl) rfl rfl M_thrown ?_
    rw [ht1]
    refine ep_iload (j := 5) d_L_law_505 rfl ?_
    refine ep_icmp_eq (tgt := 512) d_L_law_507 (by decide) (fun _ => ?_) (fun z => absurd rfl z)
    refine ep_iload (j := 5) d_L_law_512 rfl ?_
    refine ep_if_ne (tgt := 529) d_L_law_514 (by decide) (fun _ => ?_) (fun z => absurd z (wc_ne k1))
    refine ep_goto (tgt := 1076) d_L_law_529 (by decide) ?_
    refine ep_sub [0, 1, 2, 3, 4] rfl ?_
    exact kk (S' := S) hc1 hb1 hv (Or.inr ⟨k1, rfl⟩)
set_option maxHeartbeats 4000000 in
set_option maxRecDepth 100000 in
theorem L_c6 (hc : CC cI cA S) (hb : MB rI rA S) (hv : IV S) (ha : a + 6 ≤ X.1) (hX : X.1 ≤ 3072) (kk : LK d X J a P) : EvP m_L_law (d + 133) 532 [(0, .ref 0), (1, .ref 1), (2, .ref 16), (3, .ref 31), (4, .int (nI a))] [] (HC X cI cA rI rA ol J) P := by
  refine ep_aload_n (j := 1) d_L_law_532 rfl rfl ?_
  refine ep_aload_n (j := 0) d_L_law_533 rfl rfl ?_
  refine ep_iload (j := 4) d_L_law_534 rfl ?_
  refine ep_iconst (v := 1) d_L_law_536 (by decide) ?_
  refine ep_iadd d_L_law_537 ?_
  refine ep_xald (f := X.2) (a + 1) d_L_law_538 rfl (nI_add a 1) (by omega) (by omega) ?_
  refine ep_aload_n (j := 0) d_L_law_539 rfl rfl ?_
  refine ep_iload (j := 4) d_L_law_540 rfl ?_
  refine ep_iconst (v := 2) d_L_law_542 (by decide) ?_
  refine ep_iadd d_L_law_543 ?_
  refine ep_xald (f := X.2) (a + 2) d_L_law_544 rfl (nI_add a 2) (by omega) (by omega) ?_
  refine ep_aload_n (j := 0) d_L_law_545 rfl rfl ?_
  refine ep_iload (j := 4) d_L_law_546 rfl ?_
  refine ep_iconst (v := 3) d_L_law_548 (by decide) ?_
  refine ep_iadd d_L_law_549 ?_
  refine ep_xald (f := X.2) (a + 3) d_L_law_550 rfl (nI_add a 3) (by omega) (by omega) ?_
  refine ep_aload_n (j := 0) d_L_law_551 rfl rfl ?_
  refine ep_iload (j := 4) d_L_law_552 rfl ?_
  refine ep_iconst (v := 4) d_L_law_554 (by decide) ?_
  refine ep_iadd d_L_law_555 ?_
  refine ep_xald (f := X.2) (a + 4) d_L_law_556 rfl (nI_add a 4) (by omega) (by omega) ?_
  refine ep_aload_n (j := 3) d_L_law_557 rfl rfl ?_
  refine ep_callSw (res := gvN (aFunction S.1 (X.2 (a + 1)) (X.2 (a + 2)) (X.2 (a + 3)) (X.2 (a + 4))) S) (As := [.ref 1, .int (X.2 (a + 1)), .int (X.2 (a + 2)), .int (X.2 (a + 3)), .int (X.2 (a + 4)), .ref 31]) (st := []) d_L_law_558 (Or.inl lk_L_83) cal_L_function tm_L_function ti_L rfl (Nat.le_of_ble_eq_true rfl) (Nat.le_of_ble_eq_true rfl) rfl rfl (L_function (S := S) hc (X.2 (a + 1)) (X.2 (a + 2)) (X.2 (a + 3)) (X.2 (a + 4)) (gv_z (Z0.ite (fun _ => Z0.add (by have := hv.l; omega)) (fun _ => Z0.l)))) (fun q1 cI1 cA1 e1 hc1 => ?_) (fun k1 cI1 cA1 ol1 e1 hc1 => ?_)
  · refine ep_istore (lv' := [(0, .ref 0), (1, .ref 1), (2, .ref 16), (3, .ref 31), (4, .int (nI a)), (5, .int 0)]) [1, 2, 3, 4, 5, 0] d_L_law_561 (by decide) rfl ?_
    refine ep_aload_n (j := 2) d_L_law_563 rfl rfl ?_
    refine ep_aload_n (j := 0) d_L_law_564 rfl rfl ?_
    refine ep_iload (j := 4) d_L_law_565 rfl ?_
    refine ep_iconst (v := 1) d_L_law_567 (by decide) ?_
    refine ep_iadd d_L_law_568 ?_
    refine ep_xald (f := X.2) (a + 1) d_L_law_569 rfl (nI_add a 1) (by omega) (by omega) ?_
    refine ep_aload_n (j := 0) d_L_law_570 rfl rfl ?_
    refine ep_iload (j := 4) d_L_law_571 rfl ?_
    refine ep_iconst (v := 2) d_L_law_573 (by decide) ?_
    refine ep_iadd d_L_law_574 ?_
    refine ep_xald (f := X.2) (a + 2) d_L_law_575 rfl (nI_add a 2) (by omega) (by omega) ?_
    refine ep_aload_n (j := 0) d_L_law_576 rfl rfl ?_
    refine ep_iload (j := 4) d_L_law_577 rfl ?_
    refine ep_iconst (v := 3) d_L_law_579 (by decide) ?_
    refine ep_iadd d_L_law_580 ?_
    refine ep_xald (f := X.2) (a + 3) d_L_law_581 rfl (nI_add a 3) (by omega) (by omega) ?_
    refine ep_aload_n (j := 0) d_L_law_582 rfl rfl ?_
    refine ep_iload (j := 4) d_L_law_583 rfl ?_
    refine ep_iconst (v := 4) d_L_law_585 (by decide) ?_
    refine ep_iadd d_L_law_586 ?_
    refine ep_xald (f := X.2) (a + 4) d_L_law_587 rfl (nI_add a 4) (by omega) (by omega) ?_
    refine ep_callVxv e1 (As := [.int (X.2 (a + 1)), .int (X.2 (a + 2)), .int (X.2 (a + 3)), .int (X.2 (a + 4))]) (st := []) d_L_law_588 lk_L_85 cal_M_function tm_M_function ts_M_function rfl rfl rfl (Nat.le_of_ble_eq_true rfl) (Nat.le_of_ble_eq_true rfl) rfl rfl (M_function hb hv.w hv.l (X.2 (a + 1)) (X.2 (a + 2)) (X.2 (a + 3)) (X.2 (a + 4))) (fun rI1 rA1 hb1 ht1 => ?_)
    refine ep_istore (lv' := [(0, .ref 0), (1, .ref 1), (2, .ref 16), (3, .ref 31), (4, .int (nI a)), (5, .int 0), (6, .int q1.1)]) [1, 2, 3, 4, 5, 6, 0] d_L_law_591 (by decide) rfl ?_
    refine ep_aload_n (j := 2) d_L_law_593 rfl rfl ?_
    refine ep_callVi (As := []) (st := []) d_L_law_594 lk_L_63 cal_M_thrown tm_M_thrown ts_M_thrown rfl rfl rfl (Nat.le_of_ble_eq_true rfl) (Nat.le_of_ble_eq_true rfl) rfl rfl M_thrown ?_
    rw [ht1]
    refine ep_iload (j := 5) d_L_law_597 rfl ?_
    refine ep_icmp_eq (tgt := 604) d_L_law_599 (by decide) (fun _ => ?_) (fun z => absurd rfl z)
    refine ep_iload (j := 5) d_L_law_604 rfl ?_
    refine ep_if_ne (tgt := 621) d_L_law_606 (by decide) (fun z => absurd (by decide) z) (fun _ => ?_)
    refine ep_aload_n (j := 3) d_L_law_609 rfl rfl ?_
    refine ep_iconst (v := 0) d_L_law_610 (by decide) ?_
    refine ep_lald (f := fun _ => q1.1.toInt64) 0 d_L_law_611 rfl nI_0.symm (by decide) (by decide) ?_
    refine ep_iload (j := 6) d_L_law_612 rfl ?_
    refine ep_i2l d_L_law_614 ?_
    refine ep_lcmp d_L_law_615 ?_
    refine ep_if_eq (tgt := 621) d_L_law_616 (by decide) (fun _ => ?_) (fun z => absurd (lg_same _) z)
    refine ep_goto (tgt := 1076) d_L_law_621 (by decide) ?_
    refine ep_sub [0, 1, 2, 3, 4] rfl ?_
    exact kk (S' := q1.2) hc1 hb1 (gv_iv hv (fun q e => (aFunction_ao hv.w e).w) e1) (Or.inl rfl)
  · refine ep_istore (lv' := [(0, .ref 0), (1, .ref 1), (2, .ref 16), (3, .ref 31), (4, .int (nI a)), (5, .int (if k1 = 0 then 1 else 2))]) [1, 2, 3, 4, 5, 0] d_L_law_561 (by decide) rfl ?_
    refine ep_aload_n (j := 2) d_L_law_563 rfl rfl ?_
    refine ep_aload_n (j := 0) d_L_law_564 rfl rfl ?_
    refine ep_iload (j := 4) d_L_law_565 rfl ?_
    refine ep_iconst (v := 1) d_L_law_567 (by decide) ?_
    refine ep_iadd d_L_law_568 ?_
    refine ep_xald (f := X.2) (a + 1) d_L_law_569 rfl (nI_add a 1) (by omega) (by omega) ?_
    refine ep_aload_n (j := 0) d_L_law_570 rfl rfl ?_
    refine ep_iload (j := 4) d_L_law_571 rfl ?_
    refine ep_iconst (v := 2) d_L_law_573 (by decide) ?_
    refine ep_iadd d_L_law_574 ?_
    refine ep_xald (f := X.2) (a + 2) d_L_law_575 rfl (nI_add a 2) (by omega) (by omega) ?_
    refine ep_aload_n (j := 0) d_L_law_576 rfl rfl ?_
    refine ep_iload (j := 4) d_L_law_577 rfl ?_
    refine ep_iconst (v := 3) d_L_law_579 (by decide) ?_
    refine ep_iadd d_L_law_580 ?_
    refine ep_xald (f := X.2) (a + 3) d_L_law_581 rfl (nI_add a 3) (by omega) (by omega) ?_
    refine ep_aload_n (j := 0) d_L_law_582 rfl rfl ?_
    refine ep_iload (j := 4) d_L_law_583 rfl ?_
    refine ep_iconst (v := 4) d_L_law_585 (by decide) ?_
    refine ep_iadd d_L_law_586 ?_
    refine ep_xald (f := X.2) (a + 4) d_L_law_587 rfl (nI_add a 4) (by omega) (by omega) ?_
    refine ep_callVxx e1 (As := [.int (X.2 (a + 1)), .int (X.2 (a + 2)), .int (X.2 (a + 3)), .int (X.2 (a + 4))]) (st := []) d_L_law_588 lk_L_85 cal_M_function tm_M_function ts_M_function rfl rfl rfl (Nat.le_of_ble_eq_true rfl) (Nat.le_of_ble_eq_true rfl) rfl rfl (M_function hb hv.w hv.l (X.2 (a + 1)) (X.2 (a + 2)) (X.2 (a + 3)) (X.2 (a + 4))) (fun rI1 rA1 hb1 ht1 => ?_)
    refine ep_istore (lv' := [(0, .ref 0), (1, .ref 1), (2, .ref 16), (3, .ref 31), (4, .int (nI a)), (5, .int (if k1 = 0 then 1 else 2)), (6, .int 0)]) [1, 2, 3, 4, 5, 6, 0] d_L_law_591 (by decide) rfl ?_
    refine ep_aload_n (j := 2) d_L_law_593 rfl rfl ?_
    refine ep_callVi (As := []) (st := []) d_L_law_594 lk_L_63 cal_M_thrown tm_M_thrown ts_M_thrown rfl rfl rfl (Nat.le_of_ble_eq_true rfl) (Nat.le_of_ble_eq_true rfl) rfl rfl M_thrown ?_
    rw [ht1]
    refine ep_iload (j := 5) d_L_law_597 rfl ?_
    refine ep_icmp_eq (tgt := 604) d_L_law_599 (by decide) (fun _ => ?_) (fun z => absurd rfl z)
    refine ep_iload (j := 5) d_L_law_604 rfl ?_
    refine ep_if_ne (tgt := 621) d_L_law_606 (by decide) (fun _ => ?_) (fun z => absurd z (wc_ne k1))
    refine ep_goto (tgt := 1076) d_L_law_621 (by decide) ?_
    refine ep_sub [0, 1, 2, 3, 4] rfl ?_
    exact kk (S' := S) hc1 hb1 hv (Or.inr ⟨k1, rfl⟩)
set_option maxHeartbeats 4000000 in
set_option maxRecDepth 100000 in
theorem L_c7 (hc : CC cI cA S) (hb : MB rI rA S) (hv : IV S) (ha : a + 6 ≤ X.1) (hX : X.1 ≤ 3072) (kk : LK d X J a P) : EvP m_L_law (d + 133) 624 [(0, .ref 0), (1, .ref 1), (2, .ref 16), (3, .ref 31), (4, .int (nI a))] [] (HC X cI cA rI rA ol J) P := by
  refine ep_aload_n (j := 1) d_L_law_624 rfl rfl ?_
  refine ep_aload_n (j := 0) d_L_law_625 rfl rfl ?_
  refine ep_iload (j := 4) d_L_law_626 rfl ?_
  refine ep_iconst (v := 1) d_L_law_628 (by decide) ?_
  refine ep_iadd d_L_law_629 ?_
  refine ep_xald (f := X.2) (a + 1) d_L_law_630 rfl (nI_add a 1) (by omega) (by omega) ?_
  refine ep_aload_n (j := 0) d_L_law_631 rfl rfl ?_
  refine ep_iload (j := 4) d_L_law_632 rfl ?_
  refine ep_iconst (v := 2) d_L_law_634 (by decide) ?_
  refine ep_iadd d_L_law_635 ?_
  refine ep_xald (f := X.2) (a + 2) d_L_law_636 rfl (nI_add a 2) (by omega) (by omega) ?_
  refine ep_aload_n (j := 3) d_L_law_637 rfl rfl ?_
  refine ep_callSw (res := gvN (aLiteral S.1 (X.2 (a + 1)) (X.2 (a + 2))) S) (As := [.ref 1, .int (X.2 (a + 1)), .int (X.2 (a + 2)), .ref 31]) (st := []) d_L_law_638 (Or.inl lk_L_86) cal_L_literal tm_L_literal ti_L rfl (Nat.le_of_ble_eq_true rfl) (Nat.le_of_ble_eq_true rfl) rfl rfl (L_literal (S := S) hc (X.2 (a + 1)) (X.2 (a + 2)) (gv_z (Z0.ite (fun _ => Z0.add (by have := hv.l; omega)) (fun _ => Z0.l)))) (fun q1 cI1 cA1 e1 hc1 => ?_) (fun k1 cI1 cA1 ol1 e1 hc1 => ?_)
  · refine ep_istore (lv' := [(0, .ref 0), (1, .ref 1), (2, .ref 16), (3, .ref 31), (4, .int (nI a)), (5, .int 0)]) [1, 2, 3, 4, 5, 0] d_L_law_641 (by decide) rfl ?_
    refine ep_aload_n (j := 2) d_L_law_643 rfl rfl ?_
    refine ep_aload_n (j := 0) d_L_law_644 rfl rfl ?_
    refine ep_iload (j := 4) d_L_law_645 rfl ?_
    refine ep_iconst (v := 1) d_L_law_647 (by decide) ?_
    refine ep_iadd d_L_law_648 ?_
    refine ep_xald (f := X.2) (a + 1) d_L_law_649 rfl (nI_add a 1) (by omega) (by omega) ?_
    refine ep_aload_n (j := 0) d_L_law_650 rfl rfl ?_
    refine ep_iload (j := 4) d_L_law_651 rfl ?_
    refine ep_iconst (v := 2) d_L_law_653 (by decide) ?_
    refine ep_iadd d_L_law_654 ?_
    refine ep_xald (f := X.2) (a + 2) d_L_law_655 rfl (nI_add a 2) (by omega) (by omega) ?_
    refine ep_callVxv e1 (As := [.int (X.2 (a + 1)), .int (X.2 (a + 2))]) (st := []) d_L_law_656 lk_L_88 cal_M_literal tm_M_literal ts_M_literal rfl rfl rfl (Nat.le_of_ble_eq_true rfl) (Nat.le_of_ble_eq_true rfl) rfl rfl (M_literal hb hv.w hv.l (X.2 (a + 1)) (X.2 (a + 2))) (fun rI1 rA1 hb1 ht1 => ?_)
    refine ep_istore (lv' := [(0, .ref 0), (1, .ref 1), (2, .ref 16), (3, .ref 31), (4, .int (nI a)), (5, .int 0), (6, .int q1.1)]) [1, 2, 3, 4, 5, 6, 0] d_L_law_659 (by decide) rfl ?_
    refine ep_aload_n (j := 2) d_L_law_661 rfl rfl ?_
    refine ep_callVi (As := []) (st := []) d_L_law_662 lk_L_63 cal_M_thrown tm_M_thrown ts_M_thrown rfl rfl rfl (Nat.le_of_ble_eq_true rfl) (Nat.le_of_ble_eq_true rfl) rfl rfl M_thrown ?_
    rw [ht1]
    refine ep_iload (j := 5) d_L_law_665 rfl ?_
    refine ep_icmp_eq (tgt := 672) d_L_law_667 (by decide) (fun _ => ?_) (fun z => absurd rfl z)
    refine ep_iload (j := 5) d_L_law_672 rfl ?_
    refine ep_if_ne (tgt := 689) d_L_law_674 (by decide) (fun z => absurd (by decide) z) (fun _ => ?_)
    refine ep_aload_n (j := 3) d_L_law_677 rfl rfl ?_
    refine ep_iconst (v := 0) d_L_law_678 (by decide) ?_
    refine ep_lald (f := fun _ => q1.1.toInt64) 0 d_L_law_679 rfl nI_0.symm (by decide) (by decide) ?_
    refine ep_iload (j := 6) d_L_law_680 rfl ?_
    refine ep_i2l d_L_law_682 ?_
    refine ep_lcmp d_L_law_683 ?_
    refine ep_if_eq (tgt := 689) d_L_law_684 (by decide) (fun _ => ?_) (fun z => absurd (lg_same _) z)
    refine ep_goto (tgt := 1076) d_L_law_689 (by decide) ?_
    refine ep_sub [0, 1, 2, 3, 4] rfl ?_
    exact kk (S' := q1.2) hc1 hb1 (gv_iv hv (fun q e => (aLiteral_ao hv.w e).w) e1) (Or.inl rfl)
  · refine ep_istore (lv' := [(0, .ref 0), (1, .ref 1), (2, .ref 16), (3, .ref 31), (4, .int (nI a)), (5, .int (if k1 = 0 then 1 else 2))]) [1, 2, 3, 4, 5, 0] d_L_law_641 (by decide) rfl ?_
    refine ep_aload_n (j := 2) d_L_law_643 rfl rfl ?_
    refine ep_aload_n (j := 0) d_L_law_644 rfl rfl ?_
    refine ep_iload (j := 4) d_L_law_645 rfl ?_
    refine ep_iconst (v := 1) d_L_law_647 (by decide) ?_
    refine ep_iadd d_L_law_648 ?_
    refine ep_xald (f := X.2) (a + 1) d_L_law_649 rfl (nI_add a 1) (by omega) (by omega) ?_
    refine ep_aload_n (j := 0) d_L_law_650 rfl rfl ?_
    refine ep_iload (j := 4) d_L_law_651 rfl ?_
    refine ep_iconst (v := 2) d_L_law_653 (by decide) ?_
    refine ep_iadd d_L_law_654 ?_
    refine ep_xald (f := X.2) (a + 2) d_L_law_655 rfl (nI_add a 2) (by omega) (by omega) ?_
    refine ep_callVxx e1 (As := [.int (X.2 (a + 1)), .int (X.2 (a + 2))]) (st := []) d_L_law_656 lk_L_88 cal_M_literal tm_M_literal ts_M_literal rfl rfl rfl (Nat.le_of_ble_eq_true rfl) (Nat.le_of_ble_eq_true rfl) rfl rfl (M_literal hb hv.w hv.l (X.2 (a + 1)) (X.2 (a + 2))) (fun rI1 rA1 hb1 ht1 => ?_)
    refine ep_istore (lv' := [(0, .ref 0), (1, .ref 1), (2, .ref 16), (3, .ref 31), (4, .int (nI a)), (5, .int (if k1 = 0 then 1 else 2)), (6, .int 0)]) [1, 2, 3, 4, 5, 6, 0] d_L_law_659 (by decide) rfl ?_
    refine ep_aload_n (j := 2) d_L_law_661 rfl rfl ?_
    refine ep_callVi (As := []) (st := []) d_L_law_662 lk_L_63 cal_M_thrown tm_M_thrown ts_M_thrown rfl rfl rfl (Nat.le_of_ble_eq_true rfl) (Nat.le_of_ble_eq_true rfl) rfl rfl M_thrown ?_
    rw [ht1]
    refine ep_iload (j := 5) d_L_law_665 rfl ?_
    refine ep_icmp_eq (tgt := 672) d_L_law_667 (by decide) (fun _ => ?_) (fun z => absurd rfl z)
    refine ep_iload (j := 5) d_L_law_672 rfl ?_
    refine ep_if_ne (tgt := 689) d_L_law_674 (by decide) (fun _ => ?_) (fun z => absurd z (wc_ne k1))
    refine ep_goto (tgt := 1076) d_L_law_689 (by decide) ?_
    refine ep_sub [0, 1, 2, 3, 4] rfl ?_
    exact kk (S' := S) hc1 hb1 hv (Or.inr ⟨k1, rfl⟩)
set_option maxHeartbeats 4000000 in
set_option maxRecDepth 100000 in
theorem L_c8 (hc : CC cI cA S) (hb : MB rI rA S) (hv : IV S) (ha : a + 6 ≤ X.1) (hX : X.1 ≤ 3072) (kk : LK d X J a P) : EvP m_L_law (d + 133) 692 [(0, .ref 0), (1, .ref 1), (2, .ref 16), (3, .ref 31), (4, .int (nI a))] [] (HC X cI cA rI rA ol J) P := by
  refine ep_aload_n (j := 1) d_L_law_692 rfl rfl ?_
  refine ep_aload_n (j := 0) d_L_law_693 rfl rfl ?_
  refine ep_iload (j := 4) d_L_law_694 rfl ?_
  refine ep_iconst (v := 1) d_L_law_696 (by decide) ?_
  refine ep_iadd d_L_law_697 ?_
  refine ep_xald (f := X.2) (a + 1) d_L_law_698 rfl (nI_add a 1) (by omega) (by omega) ?_
  refine ep_aload_n (j := 0) d_L_law_699 rfl rfl ?_
  refine ep_iload (j := 4) d_L_law_700 rfl ?_
  refine ep_iconst (v := 2) d_L_law_702 (by decide) ?_
  refine ep_iadd d_L_law_703 ?_
  refine ep_xald (f := X.2) (a + 2) d_L_law_704 rfl (nI_add a 2) (by omega) (by omega) ?_
  refine ep_aload_n (j := 0) d_L_law_705 rfl rfl ?_
  refine ep_iload (j := 4) d_L_law_706 rfl ?_
  refine ep_iconst (v := 3) d_L_law_708 (by decide) ?_
  refine ep_iadd d_L_law_709 ?_
  refine ep_xald (f := X.2) (a + 3) d_L_law_710 rfl (nI_add a 3) (by omega) (by omega) ?_
  refine ep_aload_n (j := 0) d_L_law_711 rfl rfl ?_
  refine ep_iload (j := 4) d_L_law_712 rfl ?_
  refine ep_iconst (v := 4) d_L_law_714 (by decide) ?_
  refine ep_iadd d_L_law_715 ?_
  refine ep_xald (f := X.2) (a + 4) d_L_law_716 rfl (nI_add a 4) (by omega) (by omega) ?_
  refine ep_aload_n (j := 0) d_L_law_717 rfl rfl ?_
  refine ep_iload (j := 4) d_L_law_718 rfl ?_
  refine ep_iconst (v := 5) d_L_law_720 (by decide) ?_
  refine ep_iadd d_L_law_721 ?_
  refine ep_xald (f := X.2) (a + 5) d_L_law_722 rfl (nI_add a 5) (by omega) (by omega) ?_
  refine ep_aload_n (j := 3) d_L_law_723 rfl rfl ?_
  refine ep_callSw (res := gvN (aEntity S.1 (X.2 (a + 1)) (X.2 (a + 2)) (X.2 (a + 3)) (X.2 (a + 4)) (X.2 (a + 5))) S) (As := [.ref 1, .int (X.2 (a + 1)), .int (X.2 (a + 2)), .int (X.2 (a + 3)), .int (X.2 (a + 4)), .int (X.2 (a + 5)), .ref 31]) (st := []) d_L_law_724 (Or.inl lk_L_89) cal_L_entity tm_L_entity ti_L rfl (Nat.le_of_ble_eq_true rfl) (Nat.le_of_ble_eq_true rfl) rfl rfl (L_entity (S := S) hc (X.2 (a + 1)) (X.2 (a + 2)) (X.2 (a + 3)) (X.2 (a + 4)) (X.2 (a + 5)) (gv_z (Z0.ite (fun _ => Z0.add (by have := hv.l; omega)) (fun _ => Z0.l)))) (fun q1 cI1 cA1 e1 hc1 => ?_) (fun k1 cI1 cA1 ol1 e1 hc1 => ?_)
  · refine ep_istore (lv' := [(0, .ref 0), (1, .ref 1), (2, .ref 16), (3, .ref 31), (4, .int (nI a)), (5, .int 0)]) [1, 2, 3, 4, 5, 0] d_L_law_727 (by decide) rfl ?_
    refine ep_aload_n (j := 2) d_L_law_729 rfl rfl ?_
    refine ep_aload_n (j := 0) d_L_law_730 rfl rfl ?_
    refine ep_iload (j := 4) d_L_law_731 rfl ?_
    refine ep_iconst (v := 1) d_L_law_733 (by decide) ?_
    refine ep_iadd d_L_law_734 ?_
    refine ep_xald (f := X.2) (a + 1) d_L_law_735 rfl (nI_add a 1) (by omega) (by omega) ?_
    refine ep_aload_n (j := 0) d_L_law_736 rfl rfl ?_
    refine ep_iload (j := 4) d_L_law_737 rfl ?_
    refine ep_iconst (v := 2) d_L_law_739 (by decide) ?_
    refine ep_iadd d_L_law_740 ?_
    refine ep_xald (f := X.2) (a + 2) d_L_law_741 rfl (nI_add a 2) (by omega) (by omega) ?_
    refine ep_aload_n (j := 0) d_L_law_742 rfl rfl ?_
    refine ep_iload (j := 4) d_L_law_743 rfl ?_
    refine ep_iconst (v := 3) d_L_law_745 (by decide) ?_
    refine ep_iadd d_L_law_746 ?_
    refine ep_xald (f := X.2) (a + 3) d_L_law_747 rfl (nI_add a 3) (by omega) (by omega) ?_
    refine ep_aload_n (j := 0) d_L_law_748 rfl rfl ?_
    refine ep_iload (j := 4) d_L_law_749 rfl ?_
    refine ep_iconst (v := 4) d_L_law_751 (by decide) ?_
    refine ep_iadd d_L_law_752 ?_
    refine ep_xald (f := X.2) (a + 4) d_L_law_753 rfl (nI_add a 4) (by omega) (by omega) ?_
    refine ep_aload_n (j := 0) d_L_law_754 rfl rfl ?_
    refine ep_iload (j := 4) d_L_law_755 rfl ?_
    refine ep_iconst (v := 5) d_L_law_757 (by decide) ?_
    refine ep_iadd d_L_law_758 ?_
    refine ep_xald (f := X.2) (a + 5) d_L_law_759 rfl (nI_add a 5) (by omega) (by omega) ?_
    refine ep_callVxv e1 (As := [.int (X.2 (a + 1)), .int (X.2 (a + 2)), .int (X.2 (a + 3)), .int (X.2 (a + 4)), .int (X.2 (a + 5))]) (st := []) d_L_law_760 lk_L_92 cal_M_entity tm_M_entity ts_M_entity rfl rfl rfl (Nat.le_of_ble_eq_true rfl) (Nat.le_of_ble_eq_true rfl) rfl rfl (M_entity hb hv.w hv.l (X.2 (a + 1)) (X.2 (a + 2)) (X.2 (a + 3)) (X.2 (a + 4)) (X.2 (a + 5))) (fun rI1 rA1 hb1 ht1 => ?_)
    refine ep_istore (lv' := [(0, .ref 0), (1, .ref 1), (2, .ref 16), (3, .ref 31), (4, .int (nI a)), (5, .int 0), (6, .int q1.1)]) [1, 2, 3, 4, 5, 6, 0] d_L_law_763 (by decide) rfl ?_
    refine ep_aload_n (j := 2) d_L_law_765 rfl rfl ?_
    refine ep_callVi (As := []) (st := []) d_L_law_766 lk_L_63 cal_M_thrown tm_M_thrown ts_M_thrown rfl rfl rfl (Nat.le_of_ble_eq_true rfl) (Nat.le_of_ble_eq_true rfl) rfl rfl M_thrown ?_
    rw [ht1]
    refine ep_iload (j := 5) d_L_law_769 rfl ?_
    refine ep_icmp_eq (tgt := 776) d_L_law_771 (by decide) (fun _ => ?_) (fun z => absurd rfl z)
    refine ep_iload (j := 5) d_L_law_776 rfl ?_
    refine ep_if_ne (tgt := 793) d_L_law_778 (by decide) (fun z => absurd (by decide) z) (fun _ => ?_)
    refine ep_aload_n (j := 3) d_L_law_781 rfl rfl ?_
    refine ep_iconst (v := 0) d_L_law_782 (by decide) ?_
    refine ep_lald (f := fun _ => q1.1.toInt64) 0 d_L_law_783 rfl nI_0.symm (by decide) (by decide) ?_
    refine ep_iload (j := 6) d_L_law_784 rfl ?_
    refine ep_i2l d_L_law_786 ?_
    refine ep_lcmp d_L_law_787 ?_
    refine ep_if_eq (tgt := 793) d_L_law_788 (by decide) (fun _ => ?_) (fun z => absurd (lg_same _) z)
    refine ep_goto (tgt := 1076) d_L_law_793 (by decide) ?_
    refine ep_sub [0, 1, 2, 3, 4] rfl ?_
    exact kk (S' := q1.2) hc1 hb1 (gv_iv hv (fun q e => (aEntity_ao hv.w e).w) e1) (Or.inl rfl)
  · refine ep_istore (lv' := [(0, .ref 0), (1, .ref 1), (2, .ref 16), (3, .ref 31), (4, .int (nI a)), (5, .int (if k1 = 0 then 1 else 2))]) [1, 2, 3, 4, 5, 0] d_L_law_727 (by decide) rfl ?_
    refine ep_aload_n (j := 2) d_L_law_729 rfl rfl ?_
    refine ep_aload_n (j := 0) d_L_law_730 rfl rfl ?_
    refine ep_iload (j := 4) d_L_law_731 rfl ?_
    refine ep_iconst (v := 1) d_L_law_733 (by decide) ?_
    refine ep_iadd d_L_law_734 ?_
    refine ep_xald (f := X.2) (a + 1) d_L_law_735 rfl (nI_add a 1) (by omega) (by omega) ?_
    refine ep_aload_n (j := 0) d_L_law_736 rfl rfl ?_
    refine ep_iload (j := 4) d_L_law_737 rfl ?_
    refine ep_iconst (v := 2) d_L_law_739 (by decide) ?_
    refine ep_iadd d_L_law_740 ?_
    refine ep_xald (f := X.2) (a + 2) d_L_law_741 rfl (nI_add a 2) (by omega) (by omega) ?_
    refine ep_aload_n (j := 0) d_L_law_742 rfl rfl ?_
    refine ep_iload (j := 4) d_L_law_743 rfl ?_
    refine ep_iconst (v := 3) d_L_law_745 (by decide) ?_
    refine ep_iadd d_L_law_746 ?_
    refine ep_xald (f := X.2) (a + 3) d_L_law_747 rfl (nI_add a 3) (by omega) (by omega) ?_
    refine ep_aload_n (j := 0) d_L_law_748 rfl rfl ?_
    refine ep_iload (j := 4) d_L_law_749 rfl ?_
    refine ep_iconst (v := 4) d_L_law_751 (by decide) ?_
    refine ep_iadd d_L_law_752 ?_
    refine ep_xald (f := X.2) (a + 4) d_L_law_753 rfl (nI_add a 4) (by omega) (by omega) ?_
    refine ep_aload_n (j := 0) d_L_law_754 rfl rfl ?_
    refine ep_iload (j := 4) d_L_law_755 rfl ?_
    refine ep_iconst (v := 5) d_L_law_757 (by decide) ?_
    refine ep_iadd d_L_law_758 ?_
    refine ep_xald (f := X.2) (a + 5) d_L_law_759 rfl (nI_add a 5) (by omega) (by omega) ?_
    refine ep_callVxx e1 (As := [.int (X.2 (a + 1)), .int (X.2 (a + 2)), .int (X.2 (a + 3)), .int (X.2 (a + 4)), .int (X.2 (a + 5))]) (st := []) d_L_law_760 lk_L_92 cal_M_entity tm_M_entity ts_M_entity rfl rfl rfl (Nat.le_of_ble_eq_true rfl) (Nat.le_of_ble_eq_true rfl) rfl rfl (M_entity hb hv.w hv.l (X.2 (a + 1)) (X.2 (a + 2)) (X.2 (a + 3)) (X.2 (a + 4)) (X.2 (a + 5))) (fun rI1 rA1 hb1 ht1 => ?_)
    refine ep_istore (lv' := [(0, .ref 0), (1, .ref 1), (2, .ref 16), (3, .ref 31), (4, .int (nI a)), (5, .int (if k1 = 0 then 1 else 2)), (6, .int 0)]) [1, 2, 3, 4, 5, 6, 0] d_L_law_763 (by decide) rfl ?_
    refine ep_aload_n (j := 2) d_L_law_765 rfl rfl ?_
    refine ep_callVi (As := []) (st := []) d_L_law_766 lk_L_63 cal_M_thrown tm_M_thrown ts_M_thrown rfl rfl rfl (Nat.le_of_ble_eq_true rfl) (Nat.le_of_ble_eq_true rfl) rfl rfl M_thrown ?_
    rw [ht1]
    refine ep_iload (j := 5) d_L_law_769 rfl ?_
    refine ep_icmp_eq (tgt := 776) d_L_law_771 (by decide) (fun _ => ?_) (fun z => absurd rfl z)
    refine ep_iload (j := 5) d_L_law_776 rfl ?_
    refine ep_if_ne (tgt := 793) d_L_law_778 (by decide) (fun _ => ?_) (fun z => absurd z (wc_ne k1))
    refine ep_goto (tgt := 1076) d_L_law_793 (by decide) ?_
    refine ep_sub [0, 1, 2, 3, 4] rfl ?_
    exact kk (S' := S) hc1 hb1 hv (Or.inr ⟨k1, rfl⟩)
set_option maxHeartbeats 4000000 in
set_option maxRecDepth 100000 in
theorem L_c9 (hc : CC cI cA S) (hb : MB rI rA S) (hv : IV S) (ha : a + 6 ≤ X.1) (hX : X.1 ≤ 3072) (kk : LK d X J a P) : EvP m_L_law (d + 133) 796 [(0, .ref 0), (1, .ref 1), (2, .ref 16), (3, .ref 31), (4, .int (nI a))] [] (HC X cI cA rI rA ol J) P := by
  refine ep_aload_n (j := 1) d_L_law_796 rfl rfl ?_
  refine ep_aload_n (j := 0) d_L_law_797 rfl rfl ?_
  refine ep_iload (j := 4) d_L_law_798 rfl ?_
  refine ep_iconst (v := 1) d_L_law_800 (by decide) ?_
  refine ep_iadd d_L_law_801 ?_
  refine ep_xald (f := X.2) (a + 1) d_L_law_802 rfl (nI_add a 1) (by omega) (by omega) ?_
  refine ep_aload_n (j := 0) d_L_law_803 rfl rfl ?_
  refine ep_iload (j := 4) d_L_law_804 rfl ?_
  refine ep_iconst (v := 2) d_L_law_806 (by decide) ?_
  refine ep_iadd d_L_law_807 ?_
  refine ep_xald (f := X.2) (a + 2) d_L_law_808 rfl (nI_add a 2) (by omega) (by omega) ?_
  refine ep_callVcp (As := [.int (X.2 (a + 1)), .int (X.2 (a + 2))]) (st := []) d_L_law_809 lk_L_93 cal_N_of tm_N_of ts_N_of rfl rfl rfl (Nat.le_of_ble_eq_true rfl) (Nat.le_of_ble_eq_true rfl) rfl rfl (N_of hc (X.2 (a + 1)) (X.2 (a + 2))) (fun cI1 cA1 hc1 => ?_)
  refine ep_aload_n (j := 2) d_L_law_812 rfl rfl ?_
  refine ep_aload_n (j := 0) d_L_law_813 rfl rfl ?_
  refine ep_iload (j := 4) d_L_law_814 rfl ?_
  refine ep_iconst (v := 1) d_L_law_816 (by decide) ?_
  refine ep_iadd d_L_law_817 ?_
  refine ep_xald (f := X.2) (a + 1) d_L_law_818 rfl (nI_add a 1) (by omega) (by omega) ?_
  refine ep_aload_n (j := 0) d_L_law_819 rfl rfl ?_
  refine ep_iload (j := 4) d_L_law_820 rfl ?_
  refine ep_iconst (v := 2) d_L_law_822 (by decide) ?_
  refine ep_iadd d_L_law_823 ?_
  refine ep_xald (f := X.2) (a + 2) d_L_law_824 rfl (nI_add a 2) (by omega) (by omega) ?_
  refine ep_callVbp (As := [.int (X.2 (a + 1)), .int (X.2 (a + 2))]) (st := [.int (cOf S (X.2 (a + 1)) (X.2 (a + 2)))]) d_L_law_825 lk_L_96 cal_M_of tm_M_of ts_M_of rfl rfl rfl (Nat.le_of_ble_eq_true rfl) (Nat.le_of_ble_eq_true rfl) rfl rfl (M_of hb hv.l (X.2 (a + 1)) (X.2 (a + 2))) (fun rI1 rA1 hb1 ht1 => ?_)
  refine ep_icmp_eq (tgt := 1076) d_L_law_828 (by decide) (fun _ => ?_) (fun z => absurd rfl z)
  exact kk (S' := S) hc1 hb1 hv (Or.inl rfl)
set_option maxHeartbeats 4000000 in
set_option maxRecDepth 100000 in
theorem L_c10 (hc : CC cI cA S) (hb : MB rI rA S) (hv : IV S) (ha : a + 6 ≤ X.1) (hX : X.1 ≤ 3072) (kk : LK d X J a P) : EvP m_L_law (d + 133) 833 [(0, .ref 0), (1, .ref 1), (2, .ref 16), (3, .ref 31), (4, .int (nI a))] [] (HC X cI cA rI rA ol J) P := by
  refine ep_aload_n (j := 1) d_L_law_833 rfl rfl ?_
  refine ep_aload_n (j := 0) d_L_law_834 rfl rfl ?_
  refine ep_iload (j := 4) d_L_law_835 rfl ?_
  refine ep_iconst (v := 1) d_L_law_837 (by decide) ?_
  refine ep_iadd d_L_law_838 ?_
  refine ep_xald (f := X.2) (a + 1) d_L_law_839 rfl (nI_add a 1) (by omega) (by omega) ?_
  refine ep_aload_n (j := 3) d_L_law_840 rfl rfl ?_
  refine ep_callSw (res := cWrite S (X.2 (a + 1))) (As := [.ref 1, .int (X.2 (a + 1)), .ref 31]) (st := []) d_L_law_841 (Or.inl lk_L_97) cal_L_write tm_L_write ti_L rfl (Nat.le_of_ble_eq_true rfl) (Nat.le_of_ble_eq_true rfl) rfl rfl (L_write (S := S) hc (X.2 (a + 1)) (write_z _)) (fun q1 cI1 cA1 e1 hc1 => ?_) (fun k1 cI1 cA1 ol1 e1 hc1 => ?_)
  · refine ep_istore (lv' := [(0, .ref 0), (1, .ref 1), (2, .ref 16), (3, .ref 31), (4, .int (nI a)), (5, .int 0)]) [1, 2, 3, 4, 5, 0] d_L_law_844 (by decide) rfl ?_
    refine ep_aload_n (j := 2) d_L_law_846 rfl rfl ?_
    refine ep_aload_n (j := 0) d_L_law_847 rfl rfl ?_
    refine ep_iload (j := 4) d_L_law_848 rfl ?_
    refine ep_iconst (v := 1) d_L_law_850 (by decide) ?_
    refine ep_iadd d_L_law_851 ?_
    refine ep_xald (f := X.2) (a + 1) d_L_law_852 rfl (nI_add a 1) (by omega) (by omega) ?_
    refine ep_callVxv e1 (As := [.int (X.2 (a + 1))]) (st := []) d_L_law_853 lk_L_99 cal_M_write tm_M_write ts_M_write rfl rfl rfl (Nat.le_of_ble_eq_true rfl) (Nat.le_of_ble_eq_true rfl) rfl rfl (M_writeX hb hv (X.2 (a + 1))) (fun rI1 rA1 hb1 ht1 => ?_)
    refine ep_istore (lv' := [(0, .ref 0), (1, .ref 1), (2, .ref 16), (3, .ref 31), (4, .int (nI a)), (5, .int 0), (6, .int q1.1)]) [1, 2, 3, 4, 5, 6, 0] d_L_law_856 (by decide) rfl ?_
    refine ep_aload_n (j := 2) d_L_law_858 rfl rfl ?_
    refine ep_callVi (As := []) (st := []) d_L_law_859 lk_L_63 cal_M_thrown tm_M_thrown ts_M_thrown rfl rfl rfl (Nat.le_of_ble_eq_true rfl) (Nat.le_of_ble_eq_true rfl) rfl rfl M_thrown ?_
    rw [ht1]
    refine ep_iload (j := 5) d_L_law_862 rfl ?_
    refine ep_icmp_eq (tgt := 869) d_L_law_864 (by decide) (fun _ => ?_) (fun z => absurd rfl z)
    refine ep_iload (j := 5) d_L_law_869 rfl ?_
    refine ep_if_ne (tgt := 886) d_L_law_871 (by decide) (fun z => absurd (by decide) z) (fun _ => ?_)
    refine ep_aload_n (j := 3) d_L_law_874 rfl rfl ?_
    refine ep_iconst (v := 0) d_L_law_875 (by decide) ?_
    refine ep_lald (f := fun _ => q1.1.toInt64) 0 d_L_law_876 rfl nI_0.symm (by decide) (by decide) ?_
    refine ep_iload (j := 6) d_L_law_877 rfl ?_
    refine ep_i2l d_L_law_879 ?_
    refine ep_lcmp d_L_law_880 ?_
    refine ep_if_eq (tgt := 886) d_L_law_881 (by decide) (fun _ => ?_) (fun z => absurd (lg_same _) z)
    refine ep_goto (tgt := 1076) d_L_law_886 (by decide) ?_
    refine ep_sub [0, 1, 2, 3, 4] rfl ?_
    exact kk (S' := q1.2) hc1 hb1 (write_iv hv e1) (Or.inl rfl)
  · refine ep_istore (lv' := [(0, .ref 0), (1, .ref 1), (2, .ref 16), (3, .ref 31), (4, .int (nI a)), (5, .int (if k1 = 0 then 1 else 2))]) [1, 2, 3, 4, 5, 0] d_L_law_844 (by decide) rfl ?_
    refine ep_aload_n (j := 2) d_L_law_846 rfl rfl ?_
    refine ep_aload_n (j := 0) d_L_law_847 rfl rfl ?_
    refine ep_iload (j := 4) d_L_law_848 rfl ?_
    refine ep_iconst (v := 1) d_L_law_850 (by decide) ?_
    refine ep_iadd d_L_law_851 ?_
    refine ep_xald (f := X.2) (a + 1) d_L_law_852 rfl (nI_add a 1) (by omega) (by omega) ?_
    refine ep_callVxx e1 (As := [.int (X.2 (a + 1))]) (st := []) d_L_law_853 lk_L_99 cal_M_write tm_M_write ts_M_write rfl rfl rfl (Nat.le_of_ble_eq_true rfl) (Nat.le_of_ble_eq_true rfl) rfl rfl (M_writeX hb hv (X.2 (a + 1))) (fun rI1 rA1 hb1 ht1 => ?_)
    refine ep_istore (lv' := [(0, .ref 0), (1, .ref 1), (2, .ref 16), (3, .ref 31), (4, .int (nI a)), (5, .int (if k1 = 0 then 1 else 2)), (6, .int 0)]) [1, 2, 3, 4, 5, 6, 0] d_L_law_856 (by decide) rfl ?_
    refine ep_aload_n (j := 2) d_L_law_858 rfl rfl ?_
    refine ep_callVi (As := []) (st := []) d_L_law_859 lk_L_63 cal_M_thrown tm_M_thrown ts_M_thrown rfl rfl rfl (Nat.le_of_ble_eq_true rfl) (Nat.le_of_ble_eq_true rfl) rfl rfl M_thrown ?_
    rw [ht1]
    refine ep_iload (j := 5) d_L_law_862 rfl ?_
    refine ep_icmp_eq (tgt := 869) d_L_law_864 (by decide) (fun _ => ?_) (fun z => absurd rfl z)
    refine ep_iload (j := 5) d_L_law_869 rfl ?_
    refine ep_if_ne (tgt := 886) d_L_law_871 (by decide) (fun _ => ?_) (fun z => absurd z (wc_ne k1))
    refine ep_goto (tgt := 1076) d_L_law_886 (by decide) ?_
    refine ep_sub [0, 1, 2, 3, 4] rfl ?_
    exact kk (S' := S) hc1 hb1 hv (Or.inr ⟨k1, rfl⟩)
set_option maxHeartbeats 4000000 in
set_option maxRecDepth 100000 in
theorem L_c11 (hc : CC cI cA S) (hb : MB rI rA S) (hv : IV S) (ha : a + 6 ≤ X.1) (hX : X.1 ≤ 3072) (kk : LK d X J a P) : EvP m_L_law (d + 133) 889 [(0, .ref 0), (1, .ref 1), (2, .ref 16), (3, .ref 31), (4, .int (nI a))] [] (HC X cI cA rI rA ol J) P := by
  refine ep_aload_n (j := 1) d_L_law_889 rfl rfl ?_
  refine ep_aload_n (j := 0) d_L_law_890 rfl rfl ?_
  refine ep_iload (j := 4) d_L_law_891 rfl ?_
  refine ep_iconst (v := 1) d_L_law_893 (by decide) ?_
  refine ep_iadd d_L_law_894 ?_
  refine ep_xald (f := X.2) (a + 1) d_L_law_895 rfl (nI_add a 1) (by omega) (by omega) ?_
  refine ep_i2l d_L_law_896 ?_
  refine ep_bipush (v := 32) d_L_law_897 (by decide) ?_
  refine ep_lshl d_L_law_899 ?_
  refine ep_aload_n (j := 0) d_L_law_900 rfl rfl ?_
  refine ep_iload (j := 4) d_L_law_901 rfl ?_
  refine ep_iconst (v := 2) d_L_law_903 (by decide) ?_
  refine ep_iadd d_L_law_904 ?_
  refine ep_xald (f := X.2) (a + 2) d_L_law_905 rfl (nI_add a 2) (by omega) (by omega) ?_
  refine ep_i2l d_L_law_906 ?_
  refine ep_ldc2 (v := 4294967295) d_L_law_907 ln_L_100 ?_
  refine ep_land d_L_law_910 ?_
  refine ep_lor d_L_law_911 ?_
  refine ep_callVcp (As := [.long ((((X.2 (a + 1)).toInt64) <<< ((32 : Int32).toInt64 &&& 63)) ||| (((X.2 (a + 2)).toInt64) &&& 4294967295))]) (st := []) d_L_law_912 lk_L_102 cal_N_type tm_N_type ts_N_type rfl rfl rfl (Nat.le_of_ble_eq_true rfl) (Nat.le_of_ble_eq_true rfl) rfl rfl (N_type hc ((((X.2 (a + 1)).toInt64) <<< ((32 : Int32).toInt64 &&& 63)) ||| (((X.2 (a + 2)).toInt64) &&& 4294967295))) (fun cI1 cA1 hc1 => ?_)
  refine ep_aload_n (j := 2) d_L_law_915 rfl rfl ?_
  refine ep_aload_n (j := 0) d_L_law_916 rfl rfl ?_
  refine ep_iload (j := 4) d_L_law_917 rfl ?_
  refine ep_iconst (v := 1) d_L_law_919 (by decide) ?_
  refine ep_iadd d_L_law_920 ?_
  refine ep_xald (f := X.2) (a + 1) d_L_law_921 rfl (nI_add a 1) (by omega) (by omega) ?_
  refine ep_i2l d_L_law_922 ?_
  refine ep_bipush (v := 32) d_L_law_923 (by decide) ?_
  refine ep_lshl d_L_law_925 ?_
  refine ep_aload_n (j := 0) d_L_law_926 rfl rfl ?_
  refine ep_iload (j := 4) d_L_law_927 rfl ?_
  refine ep_iconst (v := 2) d_L_law_929 (by decide) ?_
  refine ep_iadd d_L_law_930 ?_
  refine ep_xald (f := X.2) (a + 2) d_L_law_931 rfl (nI_add a 2) (by omega) (by omega) ?_
  refine ep_i2l d_L_law_932 ?_
  refine ep_ldc2 (v := 4294967295) d_L_law_933 ln_L_100 ?_
  refine ep_land d_L_law_936 ?_
  refine ep_lor d_L_law_937 ?_
  refine ep_callVbp (As := [.long ((((X.2 (a + 1)).toInt64) <<< ((32 : Int32).toInt64 &&& 63)) ||| (((X.2 (a + 2)).toInt64) &&& 4294967295))]) (st := [.int ((cType S ((((X.2 (a + 1)).toInt64) <<< ((32 : Int32).toInt64 &&& 63)) ||| (((X.2 (a + 2)).toInt64) &&& 4294967295))).1)]) d_L_law_938 lk_L_106 cal_M_type tm_M_type ts_M_type rfl rfl rfl (Nat.le_of_ble_eq_true rfl) (Nat.le_of_ble_eq_true rfl) rfl rfl (M_type hb hv.tl ((((X.2 (a + 1)).toInt64) <<< ((32 : Int32).toInt64 &&& 63)) ||| (((X.2 (a + 2)).toInt64) &&& 4294967295))) (fun rI1 rA1 hb1 ht1 => ?_)
  refine ep_icmp_eq (tgt := 1076) d_L_law_941 (by decide) (fun _ => ?_) (fun z => absurd rfl z)
  exact kk hc1 hb1 (type_iv hv _) (Or.inl rfl)
set_option maxHeartbeats 4000000 in
set_option maxRecDepth 100000 in
theorem L_c12 (hc : CC cI cA S) (hb : MB rI rA S) (hv : IV S) (ha : a + 6 ≤ X.1) (hX : X.1 ≤ 3072) (kk : LK d X J a P) : EvP m_L_law (d + 133) 946 [(0, .ref 0), (1, .ref 1), (2, .ref 16), (3, .ref 31), (4, .int (nI a))] [] (HC X cI cA rI rA ol J) P := by
  refine ep_aload_n (j := 1) d_L_law_946 rfl rfl ?_
  refine ep_callVcu (As := []) (st := []) d_L_law_947 lk_L_107 cal_N_wipe tm_N_wipe ts_N_wipe rfl rfl rfl (Nat.le_of_ble_eq_true rfl) (Nat.le_of_ble_eq_true rfl) rfl rfl (N_wipe hc) (fun cI1 cA1 hc1 => ?_)
  refine ep_aload_n (j := 2) d_L_law_950 rfl rfl ?_
  refine ep_callVbp (As := []) (st := []) d_L_law_951 lk_L_110 cal_M_wipe tm_M_wipe ts_M_wipe rfl rfl rfl (Nat.le_of_ble_eq_true rfl) (Nat.le_of_ble_eq_true rfl) rfl rfl (M_wipe hb) (fun rI1 rA1 hb1 ht1 => ?_)
  refine ep_goto (tgt := 1076) d_L_law_954 (by decide) ?_
  exact kk (S' := (S.1, [], S.2.2)) hc1 hb1 (wipe_iv hv) (Or.inl rfl)
set_option maxHeartbeats 4000000 in
set_option maxRecDepth 100000 in
theorem L_c13 (hc : CC cI cA S) (hb : MB rI rA S) (hv : IV S) (ha : a + 6 ≤ X.1) (hX : X.1 ≤ 3072) (kk : LK d X J a P) : EvP m_L_law (d + 133) 957 [(0, .ref 0), (1, .ref 1), (2, .ref 16), (3, .ref 31), (4, .int (nI a))] [] (HC X cI cA rI rA ol J) P := by
  refine ep_aload_n (j := 1) d_L_law_957 rfl rfl ?_
  refine ep_aload_n (j := 0) d_L_law_958 rfl rfl ?_
  refine ep_iload (j := 4) d_L_law_959 rfl ?_
  refine ep_iconst (v := 1) d_L_law_961 (by decide) ?_
  refine ep_iadd d_L_law_962 ?_
  refine ep_xald (f := X.2) (a + 1) d_L_law_963 rfl (nI_add a 1) (by omega) (by omega) ?_
  refine ep_callVcp (As := [.int (X.2 (a + 1))]) (st := []) d_L_law_964 lk_L_111 cal_N_text tm_N_text ts_N_text rfl rfl rfl (Nat.le_of_ble_eq_true rfl) (Nat.le_of_ble_eq_true rfl) rfl rfl (N_text hc (X.2 (a + 1))) (fun cI1 cA1 hc1 => ?_)
  refine ep_aload_n (j := 2) d_L_law_967 rfl rfl ?_
  refine ep_aload_n (j := 0) d_L_law_968 rfl rfl ?_
  refine ep_iload (j := 4) d_L_law_969 rfl ?_
  refine ep_iconst (v := 1) d_L_law_971 (by decide) ?_
  refine ep_iadd d_L_law_972 ?_
  refine ep_xald (f := X.2) (a + 1) d_L_law_973 rfl (nI_add a 1) (by omega) (by omega) ?_
  refine ep_callVbp (As := [.int (X.2 (a + 1))]) (st := [.int (tat S.2.1 (X.2 (a + 1)))]) d_L_law_974 lk_L_114 cal_M_text tm_M_text ts_M_text rfl rfl rfl (Nat.le_of_ble_eq_true rfl) (Nat.le_of_ble_eq_true rfl) rfl rfl (M_text hb hv.tl (X.2 (a + 1))) (fun rI1 rA1 hb1 ht1 => ?_)
  refine ep_icmp_eq (tgt := 1076) d_L_law_977 (by decide) (fun _ => ?_) (fun z => absurd rfl z)
  exact kk (S' := S) hc1 hb1 hv (Or.inl rfl)
set_option maxHeartbeats 4000000 in
set_option maxRecDepth 100000 in
theorem L_c14 (hc : CC cI cA S) (hb : MB rI rA S) (hv : IV S) (ha : a + 6 ≤ X.1) (hX : X.1 ≤ 3072) (kk : LK d X J a P) : EvP m_L_law (d + 133) 982 [(0, .ref 0), (1, .ref 1), (2, .ref 16), (3, .ref 31), (4, .int (nI a))] [] (HC X cI cA rI rA ol J) P := by
  refine ep_aload_n (j := 1) d_L_law_982 rfl rfl ?_
  refine ep_aload_n (j := 3) d_L_law_983 rfl rfl ?_
  refine ep_callSw (res := cRead S) (As := [.ref 1, .ref 31]) (st := []) d_L_law_984 (Or.inl lk_L_115) cal_L_read tm_L_read ti_L rfl (Nat.le_of_ble_eq_true rfl) (Nat.le_of_ble_eq_true rfl) rfl rfl (L_read (S := S) hc  (read_z hv)) (fun q1 cI1 cA1 e1 hc1 => ?_) (fun k1 cI1 cA1 ol1 e1 hc1 => ?_)
  · refine ep_istore (lv' := [(0, .ref 0), (1, .ref 1), (2, .ref 16), (3, .ref 31), (4, .int (nI a)), (5, .int 0)]) [1, 2, 3, 4, 5, 0] d_L_law_987 (by decide) rfl ?_
    refine ep_aload_n (j := 2) d_L_law_989 rfl rfl ?_
    refine ep_callVxv e1 (As := []) (st := []) d_L_law_990 lk_L_118 cal_M_read tm_M_read ts_M_read rfl rfl rfl (Nat.le_of_ble_eq_true rfl) (Nat.le_of_ble_eq_true rfl) rfl rfl (M_readX hb hv) (fun rI1 rA1 hb1 ht1 => ?_)
    refine ep_istore (lv' := [(0, .ref 0), (1, .ref 1), (2, .ref 16), (3, .ref 31), (4, .int (nI a)), (5, .int 0), (6, .int q1.1)]) [1, 2, 3, 4, 5, 6, 0] d_L_law_993 (by decide) rfl ?_
    refine ep_aload_n (j := 2) d_L_law_995 rfl rfl ?_
    refine ep_callVi (As := []) (st := []) d_L_law_996 lk_L_63 cal_M_thrown tm_M_thrown ts_M_thrown rfl rfl rfl (Nat.le_of_ble_eq_true rfl) (Nat.le_of_ble_eq_true rfl) rfl rfl M_thrown ?_
    rw [ht1]
    refine ep_iload (j := 5) d_L_law_999 rfl ?_
    refine ep_icmp_eq (tgt := 1006) d_L_law_1001 (by decide) (fun _ => ?_) (fun z => absurd rfl z)
    refine ep_iload (j := 5) d_L_law_1006 rfl ?_
    refine ep_if_ne (tgt := 1023) d_L_law_1008 (by decide) (fun z => absurd (by decide) z) (fun _ => ?_)
    refine ep_aload_n (j := 3) d_L_law_1011 rfl rfl ?_
    refine ep_iconst (v := 0) d_L_law_1012 (by decide) ?_
    refine ep_lald (f := fun _ => q1.1.toInt64) 0 d_L_law_1013 rfl nI_0.symm (by decide) (by decide) ?_
    refine ep_iload (j := 6) d_L_law_1014 rfl ?_
    refine ep_i2l d_L_law_1016 ?_
    refine ep_lcmp d_L_law_1017 ?_
    refine ep_if_eq (tgt := 1023) d_L_law_1018 (by decide) (fun _ => ?_) (fun z => absurd (lg_same _) z)
    refine ep_goto (tgt := 1076) d_L_law_1023 (by decide) ?_
    refine ep_sub [0, 1, 2, 3, 4] rfl ?_
    exact kk (S' := q1.2) hc1 hb1 (read_iv hv e1) (Or.inl rfl)
  · refine ep_istore (lv' := [(0, .ref 0), (1, .ref 1), (2, .ref 16), (3, .ref 31), (4, .int (nI a)), (5, .int (if k1 = 0 then 1 else 2))]) [1, 2, 3, 4, 5, 0] d_L_law_987 (by decide) rfl ?_
    refine ep_aload_n (j := 2) d_L_law_989 rfl rfl ?_
    refine ep_callVxx e1 (As := []) (st := []) d_L_law_990 lk_L_118 cal_M_read tm_M_read ts_M_read rfl rfl rfl (Nat.le_of_ble_eq_true rfl) (Nat.le_of_ble_eq_true rfl) rfl rfl (M_readX hb hv) (fun rI1 rA1 hb1 ht1 => ?_)
    refine ep_istore (lv' := [(0, .ref 0), (1, .ref 1), (2, .ref 16), (3, .ref 31), (4, .int (nI a)), (5, .int (if k1 = 0 then 1 else 2)), (6, .int 0)]) [1, 2, 3, 4, 5, 6, 0] d_L_law_993 (by decide) rfl ?_
    refine ep_aload_n (j := 2) d_L_law_995 rfl rfl ?_
    refine ep_callVi (As := []) (st := []) d_L_law_996 lk_L_63 cal_M_thrown tm_M_thrown ts_M_thrown rfl rfl rfl (Nat.le_of_ble_eq_true rfl) (Nat.le_of_ble_eq_true rfl) rfl rfl M_thrown ?_
    rw [ht1]
    refine ep_iload (j := 5) d_L_law_999 rfl ?_
    refine ep_icmp_eq (tgt := 1006) d_L_law_1001 (by decide) (fun _ => ?_) (fun z => absurd rfl z)
    refine ep_iload (j := 5) d_L_law_1006 rfl ?_
    refine ep_if_ne (tgt := 1023) d_L_law_1008 (by decide) (fun _ => ?_) (fun z => absurd z (wc_ne k1))
    refine ep_goto (tgt := 1076) d_L_law_1023 (by decide) ?_
    refine ep_sub [0, 1, 2, 3, 4] rfl ?_
    exact kk (S' := S) hc1 hb1 hv (Or.inr ⟨k1, rfl⟩)
set_option maxHeartbeats 4000000 in
set_option maxRecDepth 100000 in
theorem L_c15 (hc : CC cI cA S) (hb : MB rI rA S) (hv : IV S) (ha : a + 6 ≤ X.1) (hX : X.1 ≤ 3072) (kk : LK d X J a P) : EvP m_L_law (d + 133) 1026 [(0, .ref 0), (1, .ref 1), (2, .ref 16), (3, .ref 31), (4, .int (nI a))] [] (HC X cI cA rI rA ol J) P := by
  refine ep_aload_n (j := 1) d_L_law_1026 rfl rfl ?_
  refine ep_aload_n (j := 0) d_L_law_1027 rfl rfl ?_
  refine ep_iload (j := 4) d_L_law_1028 rfl ?_
  refine ep_iconst (v := 1) d_L_law_1030 (by decide) ?_
  refine ep_iadd d_L_law_1031 ?_
  refine ep_xald (f := X.2) (a + 1) d_L_law_1032 rfl (nI_add a 1) (by omega) (by omega) ?_
  refine ep_callVcp (As := [.int (X.2 (a + 1))]) (st := []) d_L_law_1033 lk_L_119 cal_N_table tm_N_table ts_N_table rfl rfl rfl (Nat.le_of_ble_eq_true rfl) (Nat.le_of_ble_eq_true rfl) rfl rfl (N_table hc (X.2 (a + 1))) (fun cI1 cA1 hc1 => ?_)
  refine ep_aload_n (j := 2) d_L_law_1036 rfl rfl ?_
  refine ep_aload_n (j := 0) d_L_law_1037 rfl rfl ?_
  refine ep_iload (j := 4) d_L_law_1038 rfl ?_
  refine ep_iconst (v := 1) d_L_law_1040 (by decide) ?_
  refine ep_iadd d_L_law_1041 ?_
  refine ep_xald (f := X.2) (a + 1) d_L_law_1042 rfl (nI_add a 1) (by omega) (by omega) ?_
  refine ep_callVbp (As := [.int (X.2 (a + 1))]) (st := [.int (tat S.2.2 (X.2 (a + 1)))]) d_L_law_1043 lk_L_122 cal_M_table tm_M_table ts_M_table rfl rfl rfl (Nat.le_of_ble_eq_true rfl) (Nat.le_of_ble_eq_true rfl) rfl rfl (M_table hb hv.el (X.2 (a + 1))) (fun rI1 rA1 hb1 ht1 => ?_)
  refine ep_icmp_eq (tgt := 1076) d_L_law_1046 (by decide) (fun _ => ?_) (fun z => absurd rfl z)
  exact kk (S' := S) hc1 hb1 hv (Or.inl rfl)
set_option maxHeartbeats 4000000 in
set_option maxRecDepth 100000 in
theorem L_c16 (hc : CC cI cA S) (hb : MB rI rA S) (hv : IV S) (ha : a + 6 ≤ X.1) (hX : X.1 ≤ 3072) (kk : LK d X J a P) : EvP m_L_law (d + 133) 1051 [(0, .ref 0), (1, .ref 1), (2, .ref 16), (3, .ref 31), (4, .int (nI a))] [] (HC X cI cA rI rA ol J) P := by
  refine ep_aload_n (j := 1) d_L_law_1051 rfl rfl ?_
  refine ep_aload_n (j := 0) d_L_law_1052 rfl rfl ?_
  refine ep_iload (j := 4) d_L_law_1053 rfl ?_
  refine ep_iconst (v := 1) d_L_law_1055 (by decide) ?_
  refine ep_iadd d_L_law_1056 ?_
  refine ep_xald (f := X.2) (a + 1) d_L_law_1057 rfl (nI_add a 1) (by omega) (by omega) ?_
  refine ep_callVcp (As := [.int (X.2 (a + 1))]) (st := []) d_L_law_1058 lk_L_123 cal_N_look tm_N_look ts_N_look rfl rfl rfl (Nat.le_of_ble_eq_true rfl) (Nat.le_of_ble_eq_true rfl) rfl rfl (N_look hc (X.2 (a + 1))) (fun cI1 cA1 hc1 => ?_)
  refine ep_aload_n (j := 2) d_L_law_1061 rfl rfl ?_
  refine ep_aload_n (j := 0) d_L_law_1062 rfl rfl ?_
  refine ep_iload (j := 4) d_L_law_1063 rfl ?_
  refine ep_iconst (v := 1) d_L_law_1065 (by decide) ?_
  refine ep_iadd d_L_law_1066 ?_
  refine ep_xald (f := X.2) (a + 1) d_L_law_1067 rfl (nI_add a 1) (by omega) (by omega) ?_
  refine ep_callVbp (As := [.int (X.2 (a + 1))]) (st := [.int (cLook S (X.2 (a + 1)))]) d_L_law_1068 lk_L_126 cal_M_look tm_M_look ts_M_look rfl rfl rfl (Nat.le_of_ble_eq_true rfl) (Nat.le_of_ble_eq_true rfl) rfl rfl (M_look hb (X.2 (a + 1))) (fun rI1 rA1 hb1 ht1 => ?_)
  refine ep_icmp_eq (tgt := 1076) d_L_law_1071 (by decide) (fun _ => ?_) (fun z => absurd rfl z)
  exact kk (S' := S) hc1 hb1 hv (Or.inl rfl)
end LCS
