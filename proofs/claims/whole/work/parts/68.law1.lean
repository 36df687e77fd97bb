/-! the law's callers of the class, with their catches; by program (wip/whole/gen68.py) -/
theorem mL1_cg {D : va_G} {s : State} {b B : Nat} {sd : Nat → Nat} {f g : Nat → Int64} {a : Nat} {H : Heap} (e : f 0 = g 0) (h : mAt D s b B sd (mL 1 f) a H) : mAt D s b B sd (mL 1 g) a H := by
  obtain ⟨cA, h1, h2⟩ := h
  refine ⟨cA, ?_, h2⟩
  have : arrV cA 1 (fun j => Value.long (f j)) = arrV cA 1 (fun j => Value.long (g j)) := by
    unfold arrV
    have hf : (fun j : Fin 1 => Value.long (f j.val)) = fun j : Fin 1 => Value.long (g j.val) := by
      funext j
      have hj : j.val = 0 := by omega
      rw [hj, e]
    exact congrArg (fun z => ({ cls := cA, slots := Array.ofFn z, vm := .none } : Cell)) hf
  exact h1.trans (congrArg some this)
theorem mW.cg {D : va_G} {s : State} {b B : Nat} {sd : Nat → Nat} {h : mH} {H : Heap} (hw : mW D s b B sd h H) {o : Nat} {e1 e2 : mE} (ho : h[o]? = some e1) (hm : mAt D s b B sd e1 (adr b B o) H → mAt D s b B sd e2 (adr b B o) H) (hr : eWr e2 = true → eWr e1 = true) : mW D s b B sd (h.set o e2) H := by
  have hl := (List.getElem?_eq_some_iff.mp ho).1
  refine ⟨fun k x hk => ?_, fun k x hk hx => ?_, by rw [List.length_set]; exact hw.2.2.1, hw.2.2.2⟩
  · by_cases q : k = o
    · subst q
      rw [List.getElem?_set_self hl] at hk
      cases hk
      exact hm (hw.1 k e1 ho)
    · rw [List.getElem?_set_ne (Ne.symm q)] at hk
      exact hw.1 k x hk
  · by_cases q : k = o
    · subst q
      rw [List.getElem?_set_self hl] at hk
      cases hk
      exact hw.2.1 k e1 ho (hr hx)
    · rw [List.getElem?_set_ne (Ne.symm q)] at hk
      exact hw.2.1 k x hk hx
section LWR
variable {d : Nat} {X : Nat × (Nat → Int32)} {cI : Nat → Int32} {cA : Nat → Nat → Int32} {rI : Nat → Int32} {rA : Nat → Nat → Int32} {ol : Int64} {J : mH} {S : CSt}
theorem ep_swap {M : Mt} {pc : Nat} {lv : List (Nat × Value)} {st : List Value} {h1 h2 : mH} {P : mR → mH → Prop} (hl : h1.length = h2.length) (hz : hSz h1 = hSz h2) (hw : ∀ D s b B sd H, mW D s b B sd h1 H → mW D s b B sd h2 H) (k : EvP M d pc lv st h2 P) : EvP M d pc lv st h1 P := by
  obtain ⟨r, h', e, p⟩ := k
  refine ⟨r, h', ⟨by rw [hl]; exact e.1, by rw [hz]; exact e.2.1, fun p l e0 R s m args below meth c H locs cells slots D sd b B ls k0 ns hK => ?_⟩, p⟩
  obtain ⟨k1, k2, k3, k4, k5, k6, k7, k8, k9⟩ := hK
  exact e.2.2 p l e0 R s m args below meth c H locs cells slots D sd b B ls k0 ns ⟨k1, k2, hw _ _ _ _ _ _ k3, k4, k5, by rw [← hl]; exact k6, by rw [← hz]; exact k7, k8, k9⟩
theorem HC_L (x : Int64) : ((HC X cI cA rI rA ol J).set 31 (mL 1 (vp_updL (fun _ => ol) 0 x))).set 31 (mL 1 (fun _ => x)) = HC X cI cA rI rA x J := rfl
theorem ep_out {M : Mt} {pc : Nat} {lv : List (Nat × Value)} {st : List Value} {P : mR → mH → Prop} {x : Int64} (hd : decode M.2.1 pc = .ok (.lastore, 1)) (k : EvP M d (pc + 1) lv st (HC X cI cA rI rA x J) P) : EvP M d pc lv (.long x :: .int 0 :: .ref 31 :: st) (HC X cI cA rI rA ol J) P := by
  refine ep_last (f := fun _ => ol) 0 hd rfl nI_0.symm (by decide) (by decide) ?_
  refine ep_swap (h2 := HC X cI cA rI rA x J) (by rw [List.length_set]; rfl) ?_ (fun D s b B sd H hw => ?_) k
  · exact (hSz_set (h := HC X cI cA rI rA ol J) (o := 31) (e0 := mL 1 (fun _ => ol)) (e := mL 1 (vp_updL (fun _ => ol) 0 x)) rfl rfl).trans rfl
  · rw [← HC_L (ol := ol) x]
    exact hw.cg (o := 31) (e1 := mL 1 (vp_updL (fun _ => ol) 0 x)) rfl (mL1_cg rfl) (fun _ => rfl)
theorem ct_0 : Cond.castable (exN 0) (exN 0) ∈ lw_tbl := List.mem_append_right _ (List.mem_of_getElem? (i := 202) (by decide +kernel))
theorem ct_1 : Cond.castable (exN 1) (exN 1) ∈ lw_tbl := List.mem_append_right _ (List.mem_of_getElem? (i := 281) (by decide +kernel))
theorem ct_2 : Cond.castable (exN 2) (exN 2) ∈ lw_tbl := List.mem_append_right _ (List.mem_of_getElem? (i := 473) (by decide +kernel))
/-- a call of the class, caught: two handlers, the first for kind 0 -/
theorem ep_callVcc {M N : Mt} {pc np : Nat} {lv : List (Nat × Value)} {st st0 As : List Value} {h : mH} {P P1 : mR → mH → Prop} {ix o ci : Nat} {fs : List Value} (k1 : Nat) (hd : decode M.2.1 pc = .ok (.invokevirtual ix, 3)) (hl : InT (.methodLink M.1.cls ix N.1)) (hN : Cal N np) (hm : InT (.instanceMethod N.1)) (hs : InT (.selects N.1.cls N.1 N.1)) (ho : h[o]? = some (.inl (ci, fs))) (hci : (vCl[ci]?).map (fun q => q.1) = some N.1.cls) (hnp : As.length = np) (hal : ((Value.ref o :: As).map fun v => v.category).sum ≤ N.2.2.1) (hcat : (st.map fun v => v.category).sum ≤ 8) (hst : st0 = As.reverse ++ .ref o :: st)
    {a0 b0 t0 c0 a1 b1 t1 c1 : Nat} (hh : M.2.2.2.2 = [(a0, b0, t0, c0), (a1, b1, t1, c1)]) (v0 : covers ⟨a0, b0, t0, c0⟩ pc = true) (v1 : covers ⟨a1, b1, t1, c1⟩ pc = true) (n0 : c0 ≠ 0) (n1 : c1 ≠ 0) (l0 : InT (.classLink M.1.cls c0 (exN 0))) (l1 : InT (.classLink M.1.cls c1 (exN k1))) (hk : (exN k1, exN 0) ∈ ncT) (hct : Cond.castable (exN k1) (exN k1) ∈ lw_tbl)
    (ev : EvP N d 0 (lv_args 0 (.ref o :: As)) [] h P1) (kv : ∀ v h1, P1 (.inl v) h1 → EvP M (d + 1) (pc + 3) lv (v.toList ++ st) h1 P) (kx : ∀ x h1, P1 (.inr x) h1 → (h1[x]? = some (mT 0) ∧ EvP M (d + 1) t0 lv [.ref x] h1 P) ∨ (h1[x]? = some (mT k1) ∧ EvP M (d + 1) t1 lv [.ref x] h1 P)) : EvP M (d + 1) pc lv st0 h P := by
  obtain ⟨r1, h1, e1, p1⟩ := ev
  cases r1 with
  | inl v =>
    obtain ⟨r, h', e, p⟩ := kv v h1 p1
    exact ⟨r, h', ev_callV hd hl hN hm hs ho hci hnp hal hcat hst e1 e, p⟩
  | inr x =>
    rcases kx x h1 p1 with ⟨hx, r, h', e, p⟩ | ⟨hx, r, h', e, p⟩
    · exact ⟨r, h', ev_callVc 0 hd hl hN hm hs ho hci hnp hal hcat hst [] (a0, b0, t0, c0) [(a1, b1, t1, c1)] hh (fun z hz => by cases hz) v0 n0 l0 ct_0 e1 hx e, p⟩
    · exact ⟨r, h', ev_callVc k1 hd hl hN hm hs ho hci hnp hal hcat hst [(a0, b0, t0, c0)] (a1, b1, t1, c1) [] hh (fun z hz => by rw [List.mem_singleton.mp hz]; exact ⟨n0, _, l0, hk⟩) v1 n1 l1 hct e1 hx e, p⟩
/-- the end of a caller -/
def WrP (X : Nat × (Nat → Int32)) (rI : Nat → Int32) (rA : Nat → Nat → Int32) (J : mH) (S : CSt) (res : Ex (Int32 × CSt)) : mR → mH → Prop := fun r h' => ∃ (cI' : Nat → Int32) (cA' : Nat → Nat → Int32) (ol' : Int64) (J' : mH), h' = HC X cI' cA' rI rA ol' J' ∧ ((∃ q, res = .inr q ∧ r = .inl (some (.int 0)) ∧ ol' = q.1.toInt64 ∧ CC cI' cA' q.2 ∧ J' = J) ∨ (∃ k, res = .inl k ∧ r = .inl (some (.int (if k = 0 then 1 else 2))) ∧ CC cI' cA' S ∧ J' = J ++ [mT k]))
theorem WrP_v {res : Ex (Int32 × CSt)} {q : Int32 × CSt} (e : res = .inr q) (hc : CC cI cA q.2) : WrP X rI rA J S res (.inl (some (.int 0))) (HC X cI cA rI rA q.1.toInt64 J) := ⟨cI, cA, _, J, rfl, Or.inl ⟨q, e, rfl, rfl, hc, rfl⟩⟩
theorem WrP_x {res : Ex (Int32 × CSt)} (k : Nat) {t : Int32} (e : res = .inl k) (ht : t = if k = 0 then 1 else 2) (hc : CC cI cA S) : WrP X rI rA J S res (.inl (some (.int t))) (HC X cI cA rI rA ol J ++ [mT k]) := ⟨cI, cA, ol, J ++ [mT k], rfl, Or.inr ⟨k, e, by rw [ht], hc, rfl⟩⟩
theorem at_end (h : mH) (e : mE) : (h ++ [e])[h.length]? = some e := by rw [List.getElem?_append_right (Nat.le_refl _), Nat.sub_self]; rfl
set_option maxHeartbeats 4000000 in
set_option maxRecDepth 100000 in
theorem L_builtin (hc : CC cI cA S) (p : Int32) (hz : ∀ k, gvN (aBuiltin S.1 p) S = .inl k → k = 0 ∨ k = 1) : EvP m_L_builtin (d + 5) 0 [(0, .ref 1), (1, .int p), (2, .ref 31)] [] (HC X cI cA rI rA ol J) (WrP X rI rA J S (gvN (aBuiltin S.1 p) S)) := by
  refine ep_aload_n (j := 2) d_L_builtin_0 rfl rfl ?_
  refine ep_iconst (v := 0) d_L_builtin_1 (by decide) ?_
  refine ep_aload_n (j := 0) d_L_builtin_2 rfl rfl ?_
  refine ep_iload_n (j := 1) d_L_builtin_3 rfl rfl ?_
  refine ep_callVcc (As := [.int p]) (st := [.int 0, .ref 31]) 1 d_L_builtin_4 lk_L_7 cal_N_builtin tm_N_builtin ts_N_builtin rfl rfl rfl (Nat.le_of_ble_eq_true rfl) (Nat.le_of_ble_eq_true rfl) rfl rfl (by decide) (by decide) (by decide) (by decide) lc_L_13 lc_L_15 (by decide) ct_1 (N_builtin hc p) (fun v h1 q => ?_) (fun x h1 q => ?_)
  · obtain ⟨cI1, cA1, q⟩ := q
    rcases q with ⟨q, e1, e2, e3, e4⟩ | ⟨k, _, e2, _⟩
    · cases e2
      subst e3
      refine ep_i2l d_L_builtin_7 ?_
      refine ep_out d_L_builtin_8 ?_
      refine ep_goto (tgt := 18) d_L_builtin_9 (by decide) ?_
      refine ep_iconst (v := 0) d_L_builtin_18 (by decide) ?_
      exact ep_iret d_L_builtin_19 rfl rfl (WrP_v e1 e4)
    · cases e2.1
  · obtain ⟨cI1, cA1, q⟩ := q
    rcases q with ⟨q, _, e2, _⟩ | ⟨k, e1, e2, e3⟩
    · cases e2
    · obtain ⟨e4, e5⟩ := e2
      cases e4
      subst e5
      rcases hz k e1 with rfl | rfl
      · refine Or.inl ⟨at_end _ _, ?_⟩
        refine ep_astore_n (lv' := [(0, .ref 1), (1, .int p), (2, .ref 31), (3, .ref (HC X cI1 cA1 rI rA ol J).length)]) [1, 2, 3, 0] d_L_builtin_12 rfl (by decide) rfl ?_
        refine ep_iconst (v := 1) d_L_builtin_13 (by decide) ?_
        exact ep_iret d_L_builtin_14 rfl rfl (WrP_x 0 e1 rfl e3)
      · refine Or.inr ⟨at_end _ _, ?_⟩
        refine ep_astore_n (lv' := [(0, .ref 1), (1, .int p), (2, .ref 31), (3, .ref (HC X cI1 cA1 rI rA ol J).length)]) [1, 2, 3, 0] d_L_builtin_15 rfl (by decide) rfl ?_
        refine ep_iconst (v := 2) d_L_builtin_16 (by decide) ?_
        exact ep_iret d_L_builtin_17 rfl rfl (WrP_x 1 e1 rfl e3)
set_option maxHeartbeats 4000000 in
set_option maxRecDepth 100000 in
theorem L_name (hc : CC cI cA S) (p : Int32) (hz : ∀ k, gvN (aName S.1 p) S = .inl k → k = 0 ∨ k = 1) : EvP m_L_name (d + 5) 0 [(0, .ref 1), (1, .int p), (2, .ref 31)] [] (HC X cI cA rI rA ol J) (WrP X rI rA J S (gvN (aName S.1 p) S)) := by
  refine ep_aload_n (j := 2) d_L_name_0 rfl rfl ?_
  refine ep_iconst (v := 0) d_L_name_1 (by decide) ?_
  refine ep_aload_n (j := 0) d_L_name_2 rfl rfl ?_
  refine ep_iload_n (j := 1) d_L_name_3 rfl rfl ?_
  refine ep_callVcc (As := [.int p]) (st := [.int 0, .ref 31]) 1 d_L_name_4 lk_L_17 cal_N_name tm_N_name ts_N_name rfl rfl rfl (Nat.le_of_ble_eq_true rfl) (Nat.le_of_ble_eq_true rfl) rfl rfl (by decide) (by decide) (by decide) (by decide) lc_L_13 lc_L_15 (by decide) ct_1 (N_name hc p) (fun v h1 q => ?_) (fun x h1 q => ?_)
  · obtain ⟨cI1, cA1, q⟩ := q
    rcases q with ⟨q, e1, e2, e3, e4⟩ | ⟨k, _, e2, _⟩
    · cases e2
      subst e3
      refine ep_i2l d_L_name_7 ?_
      refine ep_out d_L_name_8 ?_
      refine ep_goto (tgt := 18) d_L_name_9 (by decide) ?_
      refine ep_iconst (v := 0) d_L_name_18 (by decide) ?_
      exact ep_iret d_L_name_19 rfl rfl (WrP_v e1 e4)
    · cases e2.1
  · obtain ⟨cI1, cA1, q⟩ := q
    rcases q with ⟨q, _, e2, _⟩ | ⟨k, e1, e2, e3⟩
    · cases e2
    · obtain ⟨e4, e5⟩ := e2
      cases e4
      subst e5
      rcases hz k e1 with rfl | rfl
      · refine Or.inl ⟨at_end _ _, ?_⟩
        refine ep_astore_n (lv' := [(0, .ref 1), (1, .int p), (2, .ref 31), (3, .ref (HC X cI1 cA1 rI rA ol J).length)]) [1, 2, 3, 0] d_L_name_12 rfl (by decide) rfl ?_
        refine ep_iconst (v := 1) d_L_name_13 (by decide) ?_
        exact ep_iret d_L_name_14 rfl rfl (WrP_x 0 e1 rfl e3)
      · refine Or.inr ⟨at_end _ _, ?_⟩
        refine ep_astore_n (lv' := [(0, .ref 1), (1, .int p), (2, .ref 31), (3, .ref (HC X cI1 cA1 rI rA ol J).length)]) [1, 2, 3, 0] d_L_name_15 rfl (by decide) rfl ?_
        refine ep_iconst (v := 2) d_L_name_16 (by decide) ?_
        exact ep_iret d_L_name_17 rfl rfl (WrP_x 1 e1 rfl e3)
set_option maxHeartbeats 4000000 in
set_option maxRecDepth 100000 in
theorem L_member (hc : CC cI cA S) (p q : Int32) (hz : ∀ k, gvN (aMember S.1 p q) S = .inl k → k = 0 ∨ k = 1) : EvP m_L_member (d + 5) 0 [(0, .ref 1), (1, .int p), (2, .int q), (3, .ref 31)] [] (HC X cI cA rI rA ol J) (WrP X rI rA J S (gvN (aMember S.1 p q) S)) := by
  refine ep_aload_n (j := 3) d_L_member_0 rfl rfl ?_
  refine ep_iconst (v := 0) d_L_member_1 (by decide) ?_
  refine ep_aload_n (j := 0) d_L_member_2 rfl rfl ?_
  refine ep_iload_n (j := 1) d_L_member_3 rfl rfl ?_
  refine ep_iload_n (j := 2) d_L_member_4 rfl rfl ?_
  refine ep_callVcc (As := [.int p, .int q]) (st := [.int 0, .ref 31]) 1 d_L_member_5 lk_L_20 cal_N_member tm_N_member ts_N_member rfl rfl rfl (Nat.le_of_ble_eq_true rfl) (Nat.le_of_ble_eq_true rfl) rfl rfl (by decide) (by decide) (by decide) (by decide) lc_L_13 lc_L_15 (by decide) ct_1 (N_member hc p q) (fun v h1 q => ?_) (fun x h1 q => ?_)
  · obtain ⟨cI1, cA1, q⟩ := q
    rcases q with ⟨q, e1, e2, e3, e4⟩ | ⟨k, _, e2, _⟩
    · cases e2
      subst e3
      refine ep_i2l d_L_member_8 ?_
      refine ep_out d_L_member_9 ?_
      refine ep_goto (tgt := 21) d_L_member_10 (by decide) ?_
      refine ep_iconst (v := 0) d_L_member_21 (by decide) ?_
      exact ep_iret d_L_member_22 rfl rfl (WrP_v e1 e4)
    · cases e2.1
  · obtain ⟨cI1, cA1, q⟩ := q
    rcases q with ⟨q, _, e2, _⟩ | ⟨k, e1, e2, e3⟩
    · cases e2
    · obtain ⟨e4, e5⟩ := e2
      cases e4
      subst e5
      rcases hz k e1 with rfl | rfl
      · refine Or.inl ⟨at_end _ _, ?_⟩
        refine ep_astore (lv' := [(0, .ref 1), (1, .int p), (2, .int q), (3, .ref 31), (4, .ref (HC X cI1 cA1 rI rA ol J).length)]) [1, 2, 3, 4, 0] d_L_member_13 (by decide) rfl ?_
        refine ep_iconst (v := 1) d_L_member_15 (by decide) ?_
        exact ep_iret d_L_member_16 rfl rfl (WrP_x 0 e1 rfl e3)
      · refine Or.inr ⟨at_end _ _, ?_⟩
        refine ep_astore (lv' := [(0, .ref 1), (1, .int p), (2, .int q), (3, .ref 31), (4, .ref (HC X cI1 cA1 rI rA ol J).length)]) [1, 2, 3, 4, 0] d_L_member_17 (by decide) rfl ?_
        refine ep_iconst (v := 2) d_L_member_19 (by decide) ?_
        exact ep_iret d_L_member_20 rfl rfl (WrP_x 1 e1 rfl e3)
set_option maxHeartbeats 4000000 in
set_option maxRecDepth 100000 in
theorem L_fill (hc : CC cI cA S) (p q u v : Int32) (hz : ∀ k, gvN (aFilled S.1 p q u v) S = .inl k → k = 0 ∨ k = 1) : EvP m_L_fill (d + 5) 0 [(0, .ref 1), (1, .int p), (2, .int q), (3, .int u), (4, .int v), (5, .ref 31)] [] (HC X cI cA rI rA ol J) (WrP X rI rA J S (gvN (aFilled S.1 p q u v) S)) := by
  refine ep_aload (j := 5) d_L_fill_0 rfl ?_
  refine ep_iconst (v := 0) d_L_fill_2 (by decide) ?_
  refine ep_aload_n (j := 0) d_L_fill_3 rfl rfl ?_
  refine ep_iload_n (j := 1) d_L_fill_4 rfl rfl ?_
  refine ep_iload_n (j := 2) d_L_fill_5 rfl rfl ?_
  refine ep_iload_n (j := 3) d_L_fill_6 rfl rfl ?_
  refine ep_iload (j := 4) d_L_fill_7 rfl ?_
  refine ep_callVcc (As := [.int p, .int q, .int u, .int v]) (st := [.int 0, .ref 31]) 1 d_L_fill_9 lk_L_24 cal_N_fill tm_N_fill ts_N_fill rfl rfl rfl (Nat.le_of_ble_eq_true rfl) (Nat.le_of_ble_eq_true rfl) rfl rfl (by decide) (by decide) (by decide) (by decide) lc_L_13 lc_L_15 (by decide) ct_1 (N_fill hc p q u v) (fun v h1 q => ?_) (fun x h1 q => ?_)
  · obtain ⟨cI1, cA1, q⟩ := q
    rcases q with ⟨q, e1, e2, e3, e4⟩ | ⟨k, _, e2, _⟩
    · cases e2
      subst e3
      refine ep_i2l d_L_fill_12 ?_
      refine ep_out d_L_fill_13 ?_
      refine ep_goto (tgt := 25) d_L_fill_14 (by decide) ?_
      refine ep_iconst (v := 0) d_L_fill_25 (by decide) ?_
      exact ep_iret d_L_fill_26 rfl rfl (WrP_v e1 e4)
    · cases e2.1
  · obtain ⟨cI1, cA1, q⟩ := q
    rcases q with ⟨q, _, e2, _⟩ | ⟨k, e1, e2, e3⟩
    · cases e2
    · obtain ⟨e4, e5⟩ := e2
      cases e4
      subst e5
      rcases hz k e1 with rfl | rfl
      · refine Or.inl ⟨at_end _ _, ?_⟩
        refine ep_astore (lv' := [(0, .ref 1), (1, .int p), (2, .int q), (3, .int u), (4, .int v), (5, .ref 31), (6, .ref (HC X cI1 cA1 rI rA ol J).length)]) [1, 2, 3, 4, 5, 6, 0] d_L_fill_17 (by decide) rfl ?_
        refine ep_iconst (v := 1) d_L_fill_19 (by decide) ?_
        exact ep_iret d_L_fill_20 rfl rfl (WrP_x 0 e1 rfl e3)
      · refine Or.inr ⟨at_end _ _, ?_⟩
        refine ep_astore (lv' := [(0, .ref 1), (1, .int p), (2, .int q), (3, .int u), (4, .int v), (5, .ref 31), (6, .ref (HC X cI1 cA1 rI rA ol J).length)]) [1, 2, 3, 4, 5, 6, 0] d_L_fill_21 (by decide) rfl ?_
        refine ep_iconst (v := 2) d_L_fill_23 (by decide) ?_
        exact ep_iret d_L_fill_24 rfl rfl (WrP_x 1 e1 rfl e3)
set_option maxHeartbeats 4000000 in
set_option maxRecDepth 100000 in
theorem L_wrap (hc : CC cI cA S) (p q : Int32) (hz : ∀ k, gvN (aWrapped S.1 p q) S = .inl k → k = 0 ∨ k = 1) : EvP m_L_wrap (d + 5) 0 [(0, .ref 1), (1, .int p), (2, .int q), (3, .ref 31)] [] (HC X cI cA rI rA ol J) (WrP X rI rA J S (gvN (aWrapped S.1 p q) S)) := by
  refine ep_aload_n (j := 3) d_L_wrap_0 rfl rfl ?_
  refine ep_iconst (v := 0) d_L_wrap_1 (by decide) ?_
  refine ep_aload_n (j := 0) d_L_wrap_2 rfl rfl ?_
  refine ep_iload_n (j := 1) d_L_wrap_3 rfl rfl ?_
  refine ep_iload_n (j := 2) d_L_wrap_4 rfl rfl ?_
  refine ep_callVcc (As := [.int p, .int q]) (st := [.int 0, .ref 31]) 1 d_L_wrap_5 lk_L_28 cal_N_wrap tm_N_wrap ts_N_wrap rfl rfl rfl (Nat.le_of_ble_eq_true rfl) (Nat.le_of_ble_eq_true rfl) rfl rfl (by decide) (by decide) (by decide) (by decide) lc_L_13 lc_L_15 (by decide) ct_1 (N_wrap hc p q) (fun v h1 q => ?_) (fun x h1 q => ?_)
  · obtain ⟨cI1, cA1, q⟩ := q
    rcases q with ⟨q, e1, e2, e3, e4⟩ | ⟨k, _, e2, _⟩
    · cases e2
      subst e3
      refine ep_i2l d_L_wrap_8 ?_
      refine ep_out d_L_wrap_9 ?_
      refine ep_goto (tgt := 21) d_L_wrap_10 (by decide) ?_
      refine ep_iconst (v := 0) d_L_wrap_21 (by decide) ?_
      exact ep_iret d_L_wrap_22 rfl rfl (WrP_v e1 e4)
    · cases e2.1
  · obtain ⟨cI1, cA1, q⟩ := q
    rcases q with ⟨q, _, e2, _⟩ | ⟨k, e1, e2, e3⟩
    · cases e2
    · obtain ⟨e4, e5⟩ := e2
      cases e4
      subst e5
      rcases hz k e1 with rfl | rfl
      · refine Or.inl ⟨at_end _ _, ?_⟩
        refine ep_astore (lv' := [(0, .ref 1), (1, .int p), (2, .int q), (3, .ref 31), (4, .ref (HC X cI1 cA1 rI rA ol J).length)]) [1, 2, 3, 4, 0] d_L_wrap_13 (by decide) rfl ?_
        refine ep_iconst (v := 1) d_L_wrap_15 (by decide) ?_
        exact ep_iret d_L_wrap_16 rfl rfl (WrP_x 0 e1 rfl e3)
      · refine Or.inr ⟨at_end _ _, ?_⟩
        refine ep_astore (lv' := [(0, .ref 1), (1, .int p), (2, .int q), (3, .ref 31), (4, .ref (HC X cI1 cA1 rI rA ol J).length)]) [1, 2, 3, 4, 0] d_L_wrap_17 (by decide) rfl ?_
        refine ep_iconst (v := 2) d_L_wrap_19 (by decide) ?_
        exact ep_iret d_L_wrap_20 rfl rfl (WrP_x 1 e1 rfl e3)
set_option maxHeartbeats 4000000 in
set_option maxRecDepth 100000 in
theorem L_array (hc : CC cI cA S) (p q : Int32) (hz : ∀ k, gvN (aArray S.1 p q) S = .inl k → k = 0 ∨ k = 1) : EvP m_L_array (d + 5) 0 [(0, .ref 1), (1, .int p), (2, .int q), (3, .ref 31)] [] (HC X cI cA rI rA ol J) (WrP X rI rA J S (gvN (aArray S.1 p q) S)) := by
  refine ep_aload_n (j := 3) d_L_array_0 rfl rfl ?_
  refine ep_iconst (v := 0) d_L_array_1 (by decide) ?_
  refine ep_aload_n (j := 0) d_L_array_2 rfl rfl ?_
  refine ep_iload_n (j := 1) d_L_array_3 rfl rfl ?_
  refine ep_iload_n (j := 2) d_L_array_4 rfl rfl ?_
  refine ep_callVcc (As := [.int p, .int q]) (st := [.int 0, .ref 31]) 1 d_L_array_5 lk_L_31 cal_N_array tm_N_array ts_N_array rfl rfl rfl (Nat.le_of_ble_eq_true rfl) (Nat.le_of_ble_eq_true rfl) rfl rfl (by decide) (by decide) (by decide) (by decide) lc_L_13 lc_L_15 (by decide) ct_1 (N_array hc p q) (fun v h1 q => ?_) (fun x h1 q => ?_)
  · obtain ⟨cI1, cA1, q⟩ := q
    rcases q with ⟨q, e1, e2, e3, e4⟩ | ⟨k, _, e2, _⟩
    · cases e2
      subst e3
      refine ep_i2l d_L_array_8 ?_
      refine ep_out d_L_array_9 ?_
      refine ep_goto (tgt := 21) d_L_array_10 (by decide) ?_
      refine ep_iconst (v := 0) d_L_array_21 (by decide) ?_
      exact ep_iret d_L_array_22 rfl rfl (WrP_v e1 e4)
    · cases e2.1
  · obtain ⟨cI1, cA1, q⟩ := q
    rcases q with ⟨q, _, e2, _⟩ | ⟨k, e1, e2, e3⟩
    · cases e2
    · obtain ⟨e4, e5⟩ := e2
      cases e4
      subst e5
      rcases hz k e1 with rfl | rfl
      · refine Or.inl ⟨at_end _ _, ?_⟩
        refine ep_astore (lv' := [(0, .ref 1), (1, .int p), (2, .int q), (3, .ref 31), (4, .ref (HC X cI1 cA1 rI rA ol J).length)]) [1, 2, 3, 4, 0] d_L_array_13 (by decide) rfl ?_
        refine ep_iconst (v := 1) d_L_array_15 (by decide) ?_
        exact ep_iret d_L_array_16 rfl rfl (WrP_x 0 e1 rfl e3)
      · refine Or.inr ⟨at_end _ _, ?_⟩
        refine ep_astore (lv' := [(0, .ref 1), (1, .int p), (2, .int q), (3, .ref 31), (4, .ref (HC X cI1 cA1 rI rA ol J).length)]) [1, 2, 3, 4, 0] d_L_array_17 (by decide) rfl ?_
        refine ep_iconst (v := 2) d_L_array_19 (by decide) ?_
        exact ep_iret d_L_array_20 rfl rfl (WrP_x 1 e1 rfl e3)
set_option maxHeartbeats 4000000 in
set_option maxRecDepth 100000 in
theorem L_function (hc : CC cI cA S) (p q u v : Int32) (hz : ∀ k, gvN (aFunction S.1 p q u v) S = .inl k → k = 0 ∨ k = 1) : EvP m_L_function (d + 5) 0 [(0, .ref 1), (1, .int p), (2, .int q), (3, .int u), (4, .int v), (5, .ref 31)] [] (HC X cI cA rI rA ol J) (WrP X rI rA J S (gvN (aFunction S.1 p q u v) S)) := by
  refine ep_aload (j := 5) d_L_function_0 rfl ?_
  refine ep_iconst (v := 0) d_L_function_2 (by decide) ?_
  refine ep_aload_n (j := 0) d_L_function_3 rfl rfl ?_
  refine ep_iload_n (j := 1) d_L_function_4 rfl rfl ?_
  refine ep_iload_n (j := 2) d_L_function_5 rfl rfl ?_
  refine ep_iload_n (j := 3) d_L_function_6 rfl rfl ?_
  refine ep_iload (j := 4) d_L_function_7 rfl ?_
  refine ep_callVcc (As := [.int p, .int q, .int u, .int v]) (st := [.int 0, .ref 31]) 1 d_L_function_9 lk_L_34 cal_N_function tm_N_function ts_N_function rfl rfl rfl (Nat.le_of_ble_eq_true rfl) (Nat.le_of_ble_eq_true rfl) rfl rfl (by decide) (by decide) (by decide) (by decide) lc_L_13 lc_L_15 (by decide) ct_1 (N_function hc p q u v) (fun v h1 q => ?_) (fun x h1 q => ?_)
  · obtain ⟨cI1, cA1, q⟩ := q
    rcases q with ⟨q, e1, e2, e3, e4⟩ | ⟨k, _, e2, _⟩
    · cases e2
      subst e3
      refine ep_i2l d_L_function_12 ?_
      refine ep_out d_L_function_13 ?_
      refine ep_goto (tgt := 25) d_L_function_14 (by decide) ?_
      refine ep_iconst (v := 0) d_L_function_25 (by decide) ?_
      exact ep_iret d_L_function_26 rfl rfl (WrP_v e1 e4)
    · cases e2.1
  · obtain ⟨cI1, cA1, q⟩ := q
    rcases q with ⟨q, _, e2, _⟩ | ⟨k, e1, e2, e3⟩
    · cases e2
    · obtain ⟨e4, e5⟩ := e2
      cases e4
      subst e5
      rcases hz k e1 with rfl | rfl
      · refine Or.inl ⟨at_end _ _, ?_⟩
        refine ep_astore (lv' := [(0, .ref 1), (1, .int p), (2, .int q), (3, .int u), (4, .int v), (5, .ref 31), (6, .ref (HC X cI1 cA1 rI rA ol J).length)]) [1, 2, 3, 4, 5, 6, 0] d_L_function_17 (by decide) rfl ?_
        refine ep_iconst (v := 1) d_L_function_19 (by decide) ?_
        exact ep_iret d_L_function_20 rfl rfl (WrP_x 0 e1 rfl e3)
      · refine Or.inr ⟨at_end _ _, ?_⟩
        refine ep_astore (lv' := [(0, .ref 1), (1, .int p), (2, .int q), (3, .int u), (4, .int v), (5, .ref 31), (6, .ref (HC X cI1 cA1 rI rA ol J).length)]) [1, 2, 3, 4, 5, 6, 0] d_L_function_21 (by decide) rfl ?_
        refine ep_iconst (v := 2) d_L_function_23 (by decide) ?_
        exact ep_iret d_L_function_24 rfl rfl (WrP_x 1 e1 rfl e3)
set_option maxHeartbeats 4000000 in
set_option maxRecDepth 100000 in
theorem L_literal (hc : CC cI cA S) (p q : Int32) (hz : ∀ k, gvN (aLiteral S.1 p q) S = .inl k → k = 0 ∨ k = 1) : EvP m_L_literal (d + 5) 0 [(0, .ref 1), (1, .int p), (2, .int q), (3, .ref 31)] [] (HC X cI cA rI rA ol J) (WrP X rI rA J S (gvN (aLiteral S.1 p q) S)) := by
  refine ep_aload_n (j := 3) d_L_literal_0 rfl rfl ?_
  refine ep_iconst (v := 0) d_L_literal_1 (by decide) ?_
  refine ep_aload_n (j := 0) d_L_literal_2 rfl rfl ?_
  refine ep_iload_n (j := 1) d_L_literal_3 rfl rfl ?_
  refine ep_iload_n (j := 2) d_L_literal_4 rfl rfl ?_
  refine ep_callVcc (As := [.int p, .int q]) (st := [.int 0, .ref 31]) 1 d_L_literal_5 lk_L_37 cal_N_literal tm_N_literal ts_N_literal rfl rfl rfl (Nat.le_of_ble_eq_true rfl) (Nat.le_of_ble_eq_true rfl) rfl rfl (by decide) (by decide) (by decide) (by decide) lc_L_13 lc_L_15 (by decide) ct_1 (N_literal hc p q) (fun v h1 q => ?_) (fun x h1 q => ?_)
  · obtain ⟨cI1, cA1, q⟩ := q
    rcases q with ⟨q, e1, e2, e3, e4⟩ | ⟨k, _, e2, _⟩
    · cases e2
      subst e3
      refine ep_i2l d_L_literal_8 ?_
      refine ep_out d_L_literal_9 ?_
      refine ep_goto (tgt := 21) d_L_literal_10 (by decide) ?_
      refine ep_iconst (v := 0) d_L_literal_21 (by decide) ?_
      exact ep_iret d_L_literal_22 rfl rfl (WrP_v e1 e4)
    · cases e2.1
  · obtain ⟨cI1, cA1, q⟩ := q
    rcases q with ⟨q, _, e2, _⟩ | ⟨k, e1, e2, e3⟩
    · cases e2
    · obtain ⟨e4, e5⟩ := e2
      cases e4
      subst e5
      rcases hz k e1 with rfl | rfl
      · refine Or.inl ⟨at_end _ _, ?_⟩
        refine ep_astore (lv' := [(0, .ref 1), (1, .int p), (2, .int q), (3, .ref 31), (4, .ref (HC X cI1 cA1 rI rA ol J).length)]) [1, 2, 3, 4, 0] d_L_literal_13 (by decide) rfl ?_
        refine ep_iconst (v := 1) d_L_literal_15 (by decide) ?_
        exact ep_iret d_L_literal_16 rfl rfl (WrP_x 0 e1 rfl e3)
      · refine Or.inr ⟨at_end _ _, ?_⟩
        refine ep_astore (lv' := [(0, .ref 1), (1, .int p), (2, .int q), (3, .ref 31), (4, .ref (HC X cI1 cA1 rI rA ol J).length)]) [1, 2, 3, 4, 0] d_L_literal_17 (by decide) rfl ?_
        refine ep_iconst (v := 2) d_L_literal_19 (by decide) ?_
        exact ep_iret d_L_literal_20 rfl rfl (WrP_x 1 e1 rfl e3)
set_option maxHeartbeats 4000000 in
set_option maxRecDepth 100000 in
theorem L_entity (hc : CC cI cA S) (p q u v w : Int32) (hz : ∀ k, gvN (aEntity S.1 p q u v w) S = .inl k → k = 0 ∨ k = 1) : EvP m_L_entity (d + 5) 0 [(0, .ref 1), (1, .int p), (2, .int q), (3, .int u), (4, .int v), (5, .int w), (6, .ref 31)] [] (HC X cI cA rI rA ol J) (WrP X rI rA J S (gvN (aEntity S.1 p q u v w) S)) := by
  refine ep_aload (j := 6) d_L_entity_0 rfl ?_
  refine ep_iconst (v := 0) d_L_entity_2 (by decide) ?_
  refine ep_aload_n (j := 0) d_L_entity_3 rfl rfl ?_
  refine ep_iload_n (j := 1) d_L_entity_4 rfl rfl ?_
  refine ep_iload_n (j := 2) d_L_entity_5 rfl rfl ?_
  refine ep_iload_n (j := 3) d_L_entity_6 rfl rfl ?_
  refine ep_iload (j := 4) d_L_entity_7 rfl ?_
  refine ep_iload (j := 5) d_L_entity_9 rfl ?_
  refine ep_callVcc (As := [.int p, .int q, .int u, .int v, .int w]) (st := [.int 0, .ref 31]) 1 d_L_entity_11 lk_L_40 cal_N_entity tm_N_entity ts_N_entity rfl rfl rfl (Nat.le_of_ble_eq_true rfl) (Nat.le_of_ble_eq_true rfl) rfl rfl (by decide) (by decide) (by decide) (by decide) lc_L_13 lc_L_15 (by decide) ct_1 (N_entity hc p q u v w) (fun v h1 q => ?_) (fun x h1 q => ?_)
  · obtain ⟨cI1, cA1, q⟩ := q
    rcases q with ⟨q, e1, e2, e3, e4⟩ | ⟨k, _, e2, _⟩
    · cases e2
      subst e3
      refine ep_i2l d_L_entity_14 ?_
      refine ep_out d_L_entity_15 ?_
      refine ep_goto (tgt := 27) d_L_entity_16 (by decide) ?_
      refine ep_iconst (v := 0) d_L_entity_27 (by decide) ?_
      exact ep_iret d_L_entity_28 rfl rfl (WrP_v e1 e4)
    · cases e2.1
  · obtain ⟨cI1, cA1, q⟩ := q
    rcases q with ⟨q, _, e2, _⟩ | ⟨k, e1, e2, e3⟩
    · cases e2
    · obtain ⟨e4, e5⟩ := e2
      cases e4
      subst e5
      rcases hz k e1 with rfl | rfl
      · refine Or.inl ⟨at_end _ _, ?_⟩
        refine ep_astore (lv' := [(0, .ref 1), (1, .int p), (2, .int q), (3, .int u), (4, .int v), (5, .int w), (6, .ref 31), (7, .ref (HC X cI1 cA1 rI rA ol J).length)]) [1, 2, 3, 4, 5, 6, 7, 0] d_L_entity_19 (by decide) rfl ?_
        refine ep_iconst (v := 1) d_L_entity_21 (by decide) ?_
        exact ep_iret d_L_entity_22 rfl rfl (WrP_x 0 e1 rfl e3)
      · refine Or.inr ⟨at_end _ _, ?_⟩
        refine ep_astore (lv' := [(0, .ref 1), (1, .int p), (2, .int q), (3, .int u), (4, .int v), (5, .int w), (6, .ref 31), (7, .ref (HC X cI1 cA1 rI rA ol J).length)]) [1, 2, 3, 4, 5, 6, 7, 0] d_L_entity_23 (by decide) rfl ?_
        refine ep_iconst (v := 2) d_L_entity_25 (by decide) ?_
        exact ep_iret d_L_entity_26 rfl rfl (WrP_x 1 e1 rfl e3)
set_option maxHeartbeats 4000000 in
set_option maxRecDepth 100000 in
theorem L_write (hc : CC cI cA S) (p : Int32) (hz : ∀ k, cWrite S p = .inl k → k = 0 ∨ k = 2) : EvP m_L_write (d + 82) 0 [(0, .ref 1), (1, .int p), (2, .ref 31)] [] (HC X cI cA rI rA ol J) (WrP X rI rA J S (cWrite S p)) := by
  refine ep_aload_n (j := 2) d_L_write_0 rfl rfl ?_
  refine ep_iconst (v := 0) d_L_write_1 (by decide) ?_
  refine ep_aload_n (j := 0) d_L_write_2 rfl rfl ?_
  refine ep_iload_n (j := 1) d_L_write_3 rfl rfl ?_
  refine ep_callVcc (As := [.int p]) (st := [.int 0, .ref 31]) 2 d_L_write_4 lk_L_44 cal_N_write tm_N_write ts_N_write rfl rfl rfl (Nat.le_of_ble_eq_true rfl) (Nat.le_of_ble_eq_true rfl) rfl rfl (by decide) (by decide) (by decide) (by decide) lc_L_13 lc_L_47 (by decide) ct_2 (N_write hc p) (fun v h1 q => ?_) (fun x h1 q => ?_)
  · obtain ⟨cI1, cA1, q⟩ := q
    rcases q with ⟨q, e1, e2, e3, e4⟩ | ⟨k, _, e2, _⟩
    · cases e2
      subst e3
      refine ep_i2l d_L_write_7 ?_
      refine ep_out d_L_write_8 ?_
      refine ep_goto (tgt := 18) d_L_write_9 (by decide) ?_
      refine ep_iconst (v := 0) d_L_write_18 (by decide) ?_
      exact ep_iret d_L_write_19 rfl rfl (WrP_v e1 e4)
    · cases e2.1
  · obtain ⟨cI1, cA1, q⟩ := q
    rcases q with ⟨q, _, e2, _⟩ | ⟨k, e1, e2, e3⟩
    · cases e2
    · obtain ⟨e4, e5⟩ := e2
      cases e4
      subst e5
      rcases hz k e1 with rfl | rfl
      · refine Or.inl ⟨at_end _ _, ?_⟩
        refine ep_astore_n (lv' := [(0, .ref 1), (1, .int p), (2, .ref 31), (3, .ref (HC X cI1 cA1 rI rA ol J).length)]) [1, 2, 3, 0] d_L_write_12 rfl (by decide) rfl ?_
        refine ep_iconst (v := 1) d_L_write_13 (by decide) ?_
        exact ep_iret d_L_write_14 rfl rfl (WrP_x 0 e1 rfl e3)
      · refine Or.inr ⟨at_end _ _, ?_⟩
        refine ep_astore_n (lv' := [(0, .ref 1), (1, .int p), (2, .ref 31), (3, .ref (HC X cI1 cA1 rI rA ol J).length)]) [1, 2, 3, 0] d_L_write_15 rfl (by decide) rfl ?_
        refine ep_iconst (v := 2) d_L_write_16 (by decide) ?_
        exact ep_iret d_L_write_17 rfl rfl (WrP_x 2 e1 rfl e3)
set_option maxHeartbeats 4000000 in
set_option maxRecDepth 100000 in
theorem L_read (hc : CC cI cA S) (hz : ∀ k, cRead S = .inl k → k = 0 ∨ k = 1) : EvP m_L_read (d + 132) 0 [(0, .ref 1), (1, .ref 31)] [] (HC X cI cA rI rA ol J) (WrP X rI rA J S (cRead S)) := by
  refine ep_aload_n (j := 1) d_L_read_0 rfl rfl ?_
  refine ep_iconst (v := 0) d_L_read_1 (by decide) ?_
  refine ep_aload_n (j := 0) d_L_read_2 rfl rfl ?_
  refine ep_callVcc (As := []) (st := [.int 0, .ref 31]) 1 d_L_read_3 lk_L_49 cal_N_read tm_N_read ts_N_read rfl rfl rfl (Nat.le_of_ble_eq_true rfl) (Nat.le_of_ble_eq_true rfl) rfl rfl (by decide) (by decide) (by decide) (by decide) lc_L_13 lc_L_15 (by decide) ct_1 (N_read hc) (fun v h1 q => ?_) (fun x h1 q => ?_)
  · obtain ⟨cI1, cA1, q⟩ := q
    rcases q with ⟨q, e1, e2, e3, e4⟩ | ⟨k, _, e2, _⟩
    · cases e2
      subst e3
      refine ep_i2l d_L_read_6 ?_
      refine ep_out d_L_read_7 ?_
      refine ep_goto (tgt := 17) d_L_read_8 (by decide) ?_
      refine ep_iconst (v := 0) d_L_read_17 (by decide) ?_
      exact ep_iret d_L_read_18 rfl rfl (WrP_v e1 e4)
    · cases e2.1
  · obtain ⟨cI1, cA1, q⟩ := q
    rcases q with ⟨q, _, e2, _⟩ | ⟨k, e1, e2, e3⟩
    · cases e2
    · obtain ⟨e4, e5⟩ := e2
      cases e4
      subst e5
      rcases hz k e1 with rfl | rfl
      · refine Or.inl ⟨at_end _ _, ?_⟩
        refine ep_astore_n (lv' := [(0, .ref 1), (1, .ref 31), (2, .ref (HC X cI1 cA1 rI rA ol J).length)]) [1, 2, 0] d_L_read_11 rfl (by decide) rfl ?_
        refine ep_iconst (v := 1) d_L_read_12 (by decide) ?_
        exact ep_iret d_L_read_13 rfl rfl (WrP_x 0 e1 rfl e3)
      · refine Or.inr ⟨at_end _ _, ?_⟩
        refine ep_astore_n (lv' := [(0, .ref 1), (1, .ref 31), (2, .ref (HC X cI1 cA1 rI rA ol J).length)]) [1, 2, 0] d_L_read_14 rfl (by decide) rfl ?_
        refine ep_iconst (v := 2) d_L_read_15 (by decide) ?_
        exact ep_iret d_L_read_16 rfl rfl (WrP_x 1 e1 rfl e3)
end LWR
