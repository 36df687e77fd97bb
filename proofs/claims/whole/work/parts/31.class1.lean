/-! the class: its own methods as functions of nodes, text and table; by program (wip/whole/gen31.py) -/
/-- nodes, text, table -/
abbrev CSt : Type := List (List Int32) × List Int32 × List Int32
def Rw (cI : Nat → Int32) (cA : Nat → Nat → Int32) (k a : Nat) (T : List Int32) : Prop := cI k = nI T.length ∧ T.length ≤ 120 ∧ T = rowL (cA a) T.length
def CC (cI : Nat → Int32) (cA : Nat → Nat → Int32) (S : CSt) : Prop := (cI 0 = nI S.1.length ∧ S.1.length ≤ 60 ∧ S.1 = ndL (cA 0) S.1.length) ∧ Rw cI cA 2 1 S.2.1 ∧ Rw cI cA 3 2 S.2.2 ∧ (∃ U, Rw cI cA 4 3 U) ∧ (∃ U, Rw cI cA 5 4 U) ∧ (∃ U, Rw cI cA 6 5 U)
def gvN (res : Ex (Int32 × List (List Int32))) (S : CSt) : Ex (Int32 × CSt) := bnd res fun q => if q.2.length ≤ 60 then .inr (q.1, q.2, S.2) else .inl 1
def cOf (S : CSt) (x w : Int32) : Int32 := if 0 ≤ w ∧ w < 8 then cN S.1 x w.toNatClampNeg else -1
def cWrite (S : CSt) (e : Int32) : Ex (Int32 × CSt) := if kN S.1 e = 10 then bnd (wEnt S.1 e) fun w => .inr (nI w.1.length, S.1, w.1, w.2) else .inl 0
def lby (p : Int64) (k : Int32) : Int32 := (p.toUInt64 >>> (k.toInt64.toUInt64 &&& Int64.toUInt64 63)).toInt64.toInt32 &&& 255
def tys (p : Int64) : List Int32 → List Int32 → Option (List Int32)
  | [], L => some L
  | k :: r, L => if lby p k = 0 then tys p r L else if tyB (lby p k) ∧ L.length < 120 then tys p r (L ++ [lby p k]) else none
def shs : List Int32 := [56, 48, 40, 32, 24, 16, 8, 0]
def cType (S : CSt) (p : Int64) : Int32 × CSt := ((tys p shs S.2.1).elim 0 (fun _ => 1), S.1, (tys p shs S.2.1).getD S.2.1, S.2.2)
def cRead (S : CSt) : Ex (Int32 × CSt) := bnd (rEnt S.2.1 S.1) fun q => if q.2.1.length ≤ 60 then .inr (q.1, q.2.1, S.2.1, q.2.2.1) else .inl 1
def cLook (S : CSt) (w : Int32) : Int32 := if w = 0 then nI S.1.length else if w = 1 then nI S.2.1.length else if w = 2 then nI S.2.2.length else -1
/-- the end of a method of the class -/
def CPg {α : Type} (f : α → Option Value) (g : α → CSt) (X : Nat × (Nat → Int32)) (rI : Nat → Int32) (rA : Nat → Nat → Int32) (ol : Int64) (J : mH) (S : CSt) (res : Ex α) : mR → mH → Prop := fun r h' => ∃ (cI' : Nat → Int32) (cA' : Nat → Nat → Int32), (∃ q, res = .inr q ∧ r = .inl (f q) ∧ h' = HC X cI' cA' rI rA ol J ∧ CC cI' cA' (g q)) ∨ (∃ k, res = .inl k ∧ Rx k (HC X cI' cA' rI rA ol J) r h' ∧ CC cI' cA' S)
abbrev CP := CPg (fun q : Int32 × CSt => some (.int q.1)) (fun q => q.2)
abbrev CPu := CPg (fun _ : CSt => none) (fun s => s)
theorem ndL_pre {c : Nat → Int32} {N0 N : List (List Int32)} (h : N0 <+: N) (hN : N = ndL c N.length) : N0 = ndL c N0.length := by
  obtain ⟨t, ht⟩ := h
  have hl : N.length = N0.length + t.length := by rw [← ht, List.length_append]
  have e : N0 = N.take N0.length := by rw [← ht, List.take_left]
  have e2 : (ndL c N.length).take N0.length = ndL c N0.length := by
    unfold ndL
    rw [← List.map_take, List.take_range, show min N0.length N.length = N0.length from by omega]
  have e3 : N.take N0.length = (ndL c N.length).take N0.length := congrArg (fun z : List (List Int32) => z.take N0.length) hN
  exact e.trans (e3.trans e2)
theorem CC.drop {cI : Nat → Int32} {cA : Nat → Nat → Int32} {S : CSt} (h : CC cI cA S) : CN (upd cI 1 (cI 0)) cA S.1 := ⟨h.1.1, by have := h.1.2.1; omega, h.1.2.2⟩
theorem Rw.cg {cI cI' : Nat → Int32} {cA cA' : Nat → Nat → Int32} {k a : Nat} {T : List Int32} (h : Rw cI cA k a T) (h1 : cI' k = cI k) (h2 : cA' a = cA a) : Rw cI' cA' k a T := ⟨h1.trans h.1, h.2.1, by rw [h2]; exact h.2.2⟩
section CL

variable {d : Nat} {X : Nat × (Nat → Int32)} {cI : Nat → Int32} {cA : Nat → Nat → Int32} {rI : Nat → Int32} {rA : Nat → Nat → Int32} {ol : Int64} {J : mH} {S : CSt}
theorem CP_ok {α : Type} {f : α → Option Value} {g : α → CSt} {res : Ex α} {q : α} {cI' : Nat → Int32} {cA' : Nat → Nat → Int32} (e : res = .inr q) (h : CC cI' cA' (g q)) : CPg f g X rI rA ol J S res (.inl (f q)) (HC X cI' cA' rI rA ol J) := ⟨cI', cA', Or.inl ⟨q, e, rfl, rfl, h⟩⟩
theorem CP_x {α : Type} {f : α → Option Value} {g : α → CSt} {res : Ex α} {k : Nat} {cI' : Nat → Int32} {cA' : Nat → Nat → Int32} (e : res = .inl k) (h : CC cI' cA' S) : CPg f g X rI rA ol J S res (.inr (HC X cI' cA' rI rA ol J).length) (HC X cI' cA' rI rA ol J ++ [mT k]) := ⟨cI', cA', Or.inr ⟨k, e, ⟨rfl, rfl⟩, h⟩⟩
theorem CC.up1 (h : CC cI cA S) (x : Int32) : CC (upd cI 1 x) cA S := h
/-- after an adding method, the nodes kept -/
theorem CC.kept {cI' : Nat → Int32} {cA' : Nat → Nat → Int32} {N : List (List Int32)} (h : CC cI cA S) (hN : CN cI' cA' N) (hF : Fr1 cI cA cI' cA') (hl : N.length ≤ 60) : CC (upd cI' 0 (cI' 1)) cA' (N, S.2) :=
  ⟨⟨hN.1, hl, hN.2.2⟩, h.2.1.cg (hF.1 2 (by decide)) (hF.2 1 (by decide)), h.2.2.1.cg (hF.1 3 (by decide)) (hF.2 2 (by decide)), h.2.2.2.1.imp fun U hU => hU.cg (hF.1 4 (by decide)) (hF.2 3 (by decide)), h.2.2.2.2.1.imp fun U hU => hU.cg (hF.1 5 (by decide)) (hF.2 4 (by decide)), h.2.2.2.2.2.imp fun U hU => hU.cg (hF.1 6 (by decide)) (hF.2 5 (by decide))⟩
theorem CC.same {cI' : Nat → Int32} {cA' : Nat → Nat → Int32} {N : List (List Int32)} (h : CC cI cA S) (hN : CN cI' cA' N) (hF : Fr1 cI cA cI' cA') (hp : S.1 <+: N) : CC cI' cA' S :=
  ⟨⟨(hF.1 0 (by decide)).trans h.1.1, h.1.2.1, ndL_pre hp hN.2.2⟩, h.2.1.cg (hF.1 2 (by decide)) (hF.2 1 (by decide)), h.2.2.1.cg (hF.1 3 (by decide)) (hF.2 2 (by decide)), h.2.2.2.1.imp fun U hU => hU.cg (hF.1 4 (by decide)) (hF.2 3 (by decide)), h.2.2.2.2.1.imp fun U hU => hU.cg (hF.1 5 (by decide)) (hF.2 4 (by decide)), h.2.2.2.2.2.imp fun U hU => hU.cg (hF.1 6 (by decide)) (hF.2 5 (by decide))⟩
theorem ep_callVa {M Nn : Mt} {pc np : Nat} {lv : List (Nat × Value)} {st st0 As : List Value} {P : mR → mH → Prop} {res : Ex (Int32 × List (List Int32))} {ix o ci : Nat} {fs : List Value} (hd : decode M.2.1 pc = .ok (.invokevirtual ix, 3)) (hl : InT (.methodLink M.1.cls ix Nn.1)) (hN : Cal Nn np) (hm : InT (.instanceMethod Nn.1)) (hs : InT (.selects Nn.1.cls Nn.1 Nn.1)) (ho : (HC X cI cA rI rA ol J)[o]? = some (.inl (ci, fs))) (hci : (vCl[ci]?).map (fun q => q.1) = some Nn.1.cls) (hnp : As.length = np) (hal : ((Value.ref o :: As).map fun v => v.category).sum ≤ Nn.2.2.1) (hcat : (st.map fun v => v.category).sum ≤ 8) (hst : st0 = As.reverse ++ .ref o :: st) (hh : M.2.2.2.2 = [])
    (ev : EvP Nn d 0 (lv_args 0 (.ref o :: As)) [] (HC X cI cA rI rA ol J) (AP X cI cA rI rA ol J res))
    (k1 : ∀ q cI' cA', res = .inr q → CN cI' cA' q.2 → Fr1 cI cA cI' cA' → EvP M (d + 1) (pc + 3) lv (.int q.1 :: st) (HC X cI' cA' rI rA ol J) P)
    (k2 : ∀ k, res = .inl k → P (.inr (HC X cI cA rI rA ol J).length) (HC X cI cA rI rA ol J ++ [mT k])) : EvP M (d + 1) pc lv st0 (HC X cI cA rI rA ol J) P := by
  refine ep_callV hd hl hN hm hs ho hci hnp hal hcat hst hh ev (fun v h1 q => ?_) (fun x h1 q => ?_)
  · rcases q with ⟨_, _, q1, _⟩ | ⟨z, e, cI', cA', q1, q2, q3, q4⟩
    · cases q1
    · cases q1
      subst q2
      exact k1 z cI' cA' e q3 q4
  · rcases q with ⟨k, e, q1, q2⟩ | ⟨z, e, cI', cA', q1, q2, q3, q4⟩
    · cases q1
      subst q2
      exact k2 k e
    · cases q1
theorem ep_keep {M : Mt} {pc ix : Nat} {lv : List (Nat × Value)} {st : List Value} {P : mR → mH → Prop} {N : List (List Int32)} {x : Int32} (hd : decode M.2.1 pc = .ok (.invokevirtual ix, 3)) (hl : InT (.methodLink M.1.cls ix m_D_keepDrafts.1)) (hcat : (st.map fun v => v.category).sum ≤ 8) (hh : M.2.2.2.2 = []) (hN : CN cI cA N)
    (k1 : N.length ≤ 60 → EvP M (d + 1) (pc + 3) lv (.int x :: st) (HC X (upd cI 0 (cI 1)) cA rI rA ol J) P) (k2 : ¬ N.length ≤ 60 → P (.inr (HC X cI cA rI rA ol J).length) (HC X cI cA rI rA ol J ++ [mT 1])) : EvP M (d + 1) pc lv (.int x :: .ref 2 :: st) (HC X cI cA rI rA ol J) P := by
  by_cases z : N.length ≤ 60
  · exact ep_callVi (o := 2) (As := [.int x]) hd hl cal_D_keepDrafts tm_D_keepDrafts ts_D_keepDrafts rfl rfl rfl (Nat.le_of_ble_eq_true rfl) hcat rfl hh (D_keep (d := d) hN.1 z x) (k1 z)
  · exact ep_callV (o := 2) (As := [.int x]) hd hl cal_D_keepDrafts tm_D_keepDrafts ts_D_keepDrafts rfl rfl rfl (Nat.le_of_ble_eq_true rfl) hcat rfl hh (D_keep_x (d := d) hN.1 (by omega) hN.2.1 x) (fun v h1 q => nomatch q.1) (fun y h1 q => by obtain ⟨q1, q2⟩ := q; cases q1; subst q2; exact k2 z)
set_option maxHeartbeats 4000000 in
set_option maxRecDepth 100000 in
theorem N_builtin (hc : CC cI cA S) (k : Int32) : EvP m_N_builtin (d + 4) 0 [(0, .ref 1), (1, .int k)] [] (HC X cI cA rI rA ol J) (CP X rI rA ol J S (gvN (aBuiltin S.1 k) S)) := by
  refine ep_aload_n (j := 0) d_N_builtin_0 rfl rfl ?_
  refine ep_getf (fi := 0) (v := .ref 2) d_N_builtin_1 cl4 lf_N_13 (by decide) rfl rfl ?_
  refine ep_callVv (As := []) (st := []) d_N_builtin_4 lk_N_44 cal_D_dropDrafts tm_D_dropDrafts ts_D_dropDrafts rfl rfl rfl (Nat.le_of_ble_eq_true rfl) (Nat.le_of_ble_eq_true rfl) rfl rfl D_dropDrafts ?_
  refine ep_aload_n (j := 0) d_N_builtin_7 rfl rfl ?_
  refine ep_getf (fi := 0) (v := .ref 2) d_N_builtin_8 cl4 lf_N_13 (by decide) rfl rfl ?_
  refine ep_aload_n (j := 0) d_N_builtin_11 rfl rfl ?_
  refine ep_getf (fi := 0) (v := .ref 2) d_N_builtin_12 cl4 lf_N_13 (by decide) rfl rfl ?_
  refine ep_iload_n (j := 1) d_N_builtin_15 rfl rfl ?_
  refine ep_callVa (As := [.int k]) (st := [.ref 2]) d_N_builtin_16 lk_N_47 cal_D_addBuiltin tm_D_addBuiltin ts_D_addBuiltin rfl rfl rfl (Nat.le_of_ble_eq_true rfl) (Nat.le_of_ble_eq_true rfl) rfl rfl (D_addBuiltin hc.drop k) (fun q cI1 cA1 e hN hF => ?_) (fun k e => CP_x (by rw [e]; rfl) hc)
  have hx : S.1 <+: q.2 := ifx_ext (fun q h => addN_ext h) q e
  refine ep_keep d_N_builtin_19 lk_N_51 (Nat.le_of_ble_eq_true rfl) rfl hN (fun z => ?_) (fun z => CP_x (by rw [e]; exact if_neg z) (hc.same hN ⟨fun k hk => (hF.1 k hk).trans (by unfold upd; rw [if_neg hk]), hF.2⟩ hx))
  exact ep_iret d_N_builtin_22 rfl rfl (CP_ok (f := fun q : Int32 × CSt => some (.int q.1)) (q := (q.1, q.2, S.2)) (by rw [e]; exact if_pos z) (hc.kept hN ⟨fun k hk => (hF.1 k hk).trans (by unfold upd; rw [if_neg hk]), hF.2⟩ z))
set_option maxHeartbeats 4000000 in
set_option maxRecDepth 100000 in
theorem N_name (hc : CC cI cA S) (x : Int32) : EvP m_N_name (d + 4) 0 [(0, .ref 1), (1, .int x)] [] (HC X cI cA rI rA ol J) (CP X rI rA ol J S (gvN (aName S.1 x) S)) := by
  refine ep_aload_n (j := 0) d_N_name_0 rfl rfl ?_
  refine ep_getf (fi := 0) (v := .ref 2) d_N_name_1 cl4 lf_N_13 (by decide) rfl rfl ?_
  refine ep_callVv (As := []) (st := []) d_N_name_4 lk_N_44 cal_D_dropDrafts tm_D_dropDrafts ts_D_dropDrafts rfl rfl rfl (Nat.le_of_ble_eq_true rfl) (Nat.le_of_ble_eq_true rfl) rfl rfl D_dropDrafts ?_
  refine ep_aload_n (j := 0) d_N_name_7 rfl rfl ?_
  refine ep_getf (fi := 0) (v := .ref 2) d_N_name_8 cl4 lf_N_13 (by decide) rfl rfl ?_
  refine ep_aload_n (j := 0) d_N_name_11 rfl rfl ?_
  refine ep_getf (fi := 0) (v := .ref 2) d_N_name_12 cl4 lf_N_13 (by decide) rfl rfl ?_
  refine ep_iload_n (j := 1) d_N_name_15 rfl rfl ?_
  refine ep_callVa (As := [.int x]) (st := [.ref 2]) d_N_name_16 lk_N_54 cal_D_addName tm_D_addName ts_D_addName rfl rfl rfl (Nat.le_of_ble_eq_true rfl) (Nat.le_of_ble_eq_true rfl) rfl rfl (D_addName hc.drop x) (fun q cI1 cA1 e hN hF => ?_) (fun k e => CP_x (by rw [e]; rfl) hc)
  have hx : S.1 <+: q.2 := ifx_ext (fun q h => addN_ext h) q e
  refine ep_keep d_N_name_19 lk_N_51 (Nat.le_of_ble_eq_true rfl) rfl hN (fun z => ?_) (fun z => CP_x (by rw [e]; exact if_neg z) (hc.same hN ⟨fun k hk => (hF.1 k hk).trans (by unfold upd; rw [if_neg hk]), hF.2⟩ hx))
  exact ep_iret d_N_name_22 rfl rfl (CP_ok (f := fun q : Int32 × CSt => some (.int q.1)) (q := (q.1, q.2, S.2)) (by rw [e]; exact if_pos z) (hc.kept hN ⟨fun k hk => (hF.1 k hk).trans (by unfold upd; rw [if_neg hk]), hF.2⟩ z))
set_option maxHeartbeats 4000000 in
set_option maxRecDepth 100000 in
theorem N_member (hc : CC cI cA S) (p x : Int32) : EvP m_N_member (d + 4) 0 [(0, .ref 1), (1, .int p), (2, .int x)] [] (HC X cI cA rI rA ol J) (CP X rI rA ol J S (gvN (aMember S.1 p x) S)) := by
  refine ep_aload_n (j := 0) d_N_member_0 rfl rfl ?_
  refine ep_getf (fi := 0) (v := .ref 2) d_N_member_1 cl4 lf_N_13 (by decide) rfl rfl ?_
  refine ep_callVv (As := []) (st := []) d_N_member_4 lk_N_44 cal_D_dropDrafts tm_D_dropDrafts ts_D_dropDrafts rfl rfl rfl (Nat.le_of_ble_eq_true rfl) (Nat.le_of_ble_eq_true rfl) rfl rfl D_dropDrafts ?_
  refine ep_aload_n (j := 0) d_N_member_7 rfl rfl ?_
  refine ep_getf (fi := 0) (v := .ref 2) d_N_member_8 cl4 lf_N_13 (by decide) rfl rfl ?_
  refine ep_aload_n (j := 0) d_N_member_11 rfl rfl ?_
  refine ep_getf (fi := 0) (v := .ref 2) d_N_member_12 cl4 lf_N_13 (by decide) rfl rfl ?_
  refine ep_iload_n (j := 1) d_N_member_15 rfl rfl ?_
  refine ep_iload_n (j := 2) d_N_member_16 rfl rfl ?_
  refine ep_callVa (As := [.int p, .int x]) (st := [.ref 2]) d_N_member_17 lk_N_57 cal_D_addMember tm_D_addMember ts_D_addMember rfl rfl rfl (Nat.le_of_ble_eq_true rfl) (Nat.le_of_ble_eq_true rfl) rfl rfl (D_addMember hc.drop p x) (fun q cI1 cA1 e hN hF => ?_) (fun k e => CP_x (by rw [e]; rfl) hc)
  have hx : S.1 <+: q.2 := ifx_ext (fun q h => addN_ext h) q e
  refine ep_keep d_N_member_20 lk_N_51 (Nat.le_of_ble_eq_true rfl) rfl hN (fun z => ?_) (fun z => CP_x (by rw [e]; exact if_neg z) (hc.same hN ⟨fun k hk => (hF.1 k hk).trans (by unfold upd; rw [if_neg hk]), hF.2⟩ hx))
  exact ep_iret d_N_member_23 rfl rfl (CP_ok (f := fun q : Int32 × CSt => some (.int q.1)) (q := (q.1, q.2, S.2)) (by rw [e]; exact if_pos z) (hc.kept hN ⟨fun k hk => (hF.1 k hk).trans (by unfold upd; rw [if_neg hk]), hF.2⟩ z))
set_option maxHeartbeats 4000000 in
set_option maxRecDepth 100000 in
theorem N_fill (hc : CC cI cA S) (f a b c : Int32) : EvP m_N_fill (d + 4) 0 [(0, .ref 1), (1, .int f), (2, .int a), (3, .int b), (4, .int c)] [] (HC X cI cA rI rA ol J) (CP X rI rA ol J S (gvN (aFilled S.1 f a b c) S)) := by
  refine ep_aload_n (j := 0) d_N_fill_0 rfl rfl ?_
  refine ep_getf (fi := 0) (v := .ref 2) d_N_fill_1 cl4 lf_N_13 (by decide) rfl rfl ?_
  refine ep_callVv (As := []) (st := []) d_N_fill_4 lk_N_44 cal_D_dropDrafts tm_D_dropDrafts ts_D_dropDrafts rfl rfl rfl (Nat.le_of_ble_eq_true rfl) (Nat.le_of_ble_eq_true rfl) rfl rfl D_dropDrafts ?_
  refine ep_aload_n (j := 0) d_N_fill_7 rfl rfl ?_
  refine ep_getf (fi := 0) (v := .ref 2) d_N_fill_8 cl4 lf_N_13 (by decide) rfl rfl ?_
  refine ep_aload_n (j := 0) d_N_fill_11 rfl rfl ?_
  refine ep_getf (fi := 0) (v := .ref 2) d_N_fill_12 cl4 lf_N_13 (by decide) rfl rfl ?_
  refine ep_iload_n (j := 1) d_N_fill_15 rfl rfl ?_
  refine ep_iload_n (j := 2) d_N_fill_16 rfl rfl ?_
  refine ep_iload_n (j := 3) d_N_fill_17 rfl rfl ?_
  refine ep_iload (j := 4) d_N_fill_18 rfl ?_
  refine ep_callVa (As := [.int f, .int a, .int b, .int c]) (st := [.ref 2]) d_N_fill_20 lk_N_61 cal_D_addFilled tm_D_addFilled ts_D_addFilled rfl rfl rfl (Nat.le_of_ble_eq_true rfl) (Nat.le_of_ble_eq_true rfl) rfl rfl (D_addFilled hc.drop f a b c) (fun q cI1 cA1 e hN hF => ?_) (fun k e => CP_x (by rw [e]; rfl) hc)
  have hx : S.1 <+: q.2 := ifx_ext (fun q h => addN_ext h) q e
  refine ep_keep d_N_fill_23 lk_N_51 (Nat.le_of_ble_eq_true rfl) rfl hN (fun z => ?_) (fun z => CP_x (by rw [e]; exact if_neg z) (hc.same hN ⟨fun k hk => (hF.1 k hk).trans (by unfold upd; rw [if_neg hk]), hF.2⟩ hx))
  exact ep_iret d_N_fill_26 rfl rfl (CP_ok (f := fun q : Int32 × CSt => some (.int q.1)) (q := (q.1, q.2, S.2)) (by rw [e]; exact if_pos z) (hc.kept hN ⟨fun k hk => (hF.1 k hk).trans (by unfold upd; rw [if_neg hk]), hF.2⟩ z))
set_option maxHeartbeats 4000000 in
set_option maxRecDepth 100000 in
theorem N_wrap (hc : CC cI cA S) (k x : Int32) : EvP m_N_wrap (d + 4) 0 [(0, .ref 1), (1, .int k), (2, .int x)] [] (HC X cI cA rI rA ol J) (CP X rI rA ol J S (gvN (aWrapped S.1 k x) S)) := by
  refine ep_aload_n (j := 0) d_N_wrap_0 rfl rfl ?_
  refine ep_getf (fi := 0) (v := .ref 2) d_N_wrap_1 cl4 lf_N_13 (by decide) rfl rfl ?_
  refine ep_callVv (As := []) (st := []) d_N_wrap_4 lk_N_44 cal_D_dropDrafts tm_D_dropDrafts ts_D_dropDrafts rfl rfl rfl (Nat.le_of_ble_eq_true rfl) (Nat.le_of_ble_eq_true rfl) rfl rfl D_dropDrafts ?_
  refine ep_aload_n (j := 0) d_N_wrap_7 rfl rfl ?_
  refine ep_getf (fi := 0) (v := .ref 2) d_N_wrap_8 cl4 lf_N_13 (by decide) rfl rfl ?_
  refine ep_aload_n (j := 0) d_N_wrap_11 rfl rfl ?_
  refine ep_getf (fi := 0) (v := .ref 2) d_N_wrap_12 cl4 lf_N_13 (by decide) rfl rfl ?_
  refine ep_iload_n (j := 1) d_N_wrap_15 rfl rfl ?_
  refine ep_iload_n (j := 2) d_N_wrap_16 rfl rfl ?_
  refine ep_callVa (As := [.int k, .int x]) (st := [.ref 2]) d_N_wrap_17 lk_N_65 cal_D_addWrapped tm_D_addWrapped ts_D_addWrapped rfl rfl rfl (Nat.le_of_ble_eq_true rfl) (Nat.le_of_ble_eq_true rfl) rfl rfl (D_addWrapped hc.drop k x) (fun q cI1 cA1 e hN hF => ?_) (fun k e => CP_x (by rw [e]; rfl) hc)
  have hx : S.1 <+: q.2 := ifx_ext (fun q h => addN_ext h) q e
  refine ep_keep d_N_wrap_20 lk_N_51 (Nat.le_of_ble_eq_true rfl) rfl hN (fun z => ?_) (fun z => CP_x (by rw [e]; exact if_neg z) (hc.same hN ⟨fun k hk => (hF.1 k hk).trans (by unfold upd; rw [if_neg hk]), hF.2⟩ hx))
  exact ep_iret d_N_wrap_23 rfl rfl (CP_ok (f := fun q : Int32 × CSt => some (.int q.1)) (q := (q.1, q.2, S.2)) (by rw [e]; exact if_pos z) (hc.kept hN ⟨fun k hk => (hF.1 k hk).trans (by unfold upd; rw [if_neg hk]), hF.2⟩ z))
set_option maxHeartbeats 4000000 in
set_option maxRecDepth 100000 in
theorem N_array (hc : CC cI cA S) (x n : Int32) : EvP m_N_array (d + 4) 0 [(0, .ref 1), (1, .int x), (2, .int n)] [] (HC X cI cA rI rA ol J) (CP X rI rA ol J S (gvN (aArray S.1 x n) S)) := by
  refine ep_aload_n (j := 0) d_N_array_0 rfl rfl ?_
  refine ep_getf (fi := 0) (v := .ref 2) d_N_array_1 cl4 lf_N_13 (by decide) rfl rfl ?_
  refine ep_callVv (As := []) (st := []) d_N_array_4 lk_N_44 cal_D_dropDrafts tm_D_dropDrafts ts_D_dropDrafts rfl rfl rfl (Nat.le_of_ble_eq_true rfl) (Nat.le_of_ble_eq_true rfl) rfl rfl D_dropDrafts ?_
  refine ep_aload_n (j := 0) d_N_array_7 rfl rfl ?_
  refine ep_getf (fi := 0) (v := .ref 2) d_N_array_8 cl4 lf_N_13 (by decide) rfl rfl ?_
  refine ep_aload_n (j := 0) d_N_array_11 rfl rfl ?_
  refine ep_getf (fi := 0) (v := .ref 2) d_N_array_12 cl4 lf_N_13 (by decide) rfl rfl ?_
  refine ep_iload_n (j := 1) d_N_array_15 rfl rfl ?_
  refine ep_iload_n (j := 2) d_N_array_16 rfl rfl ?_
  refine ep_callVa (As := [.int x, .int n]) (st := [.ref 2]) d_N_array_17 lk_N_68 cal_D_addArray tm_D_addArray ts_D_addArray rfl rfl rfl (Nat.le_of_ble_eq_true rfl) (Nat.le_of_ble_eq_true rfl) rfl rfl (D_addArray hc.drop x n) (fun q cI1 cA1 e hN hF => ?_) (fun k e => CP_x (by rw [e]; rfl) hc)
  have hx : S.1 <+: q.2 := ifx_ext (fun q h => addN_ext h) q e
  refine ep_keep d_N_array_20 lk_N_51 (Nat.le_of_ble_eq_true rfl) rfl hN (fun z => ?_) (fun z => CP_x (by rw [e]; exact if_neg z) (hc.same hN ⟨fun k hk => (hF.1 k hk).trans (by unfold upd; rw [if_neg hk]), hF.2⟩ hx))
  exact ep_iret d_N_array_23 rfl rfl (CP_ok (f := fun q : Int32 × CSt => some (.int q.1)) (q := (q.1, q.2, S.2)) (by rw [e]; exact if_pos z) (hc.kept hN ⟨fun k hk => (hF.1 k hk).trans (by unfold upd; rw [if_neg hk]), hF.2⟩ z))
set_option maxHeartbeats 4000000 in
set_option maxRecDepth 100000 in
theorem N_function (hc : CC cI cA S) (g a b c : Int32) : EvP m_N_function (d + 4) 0 [(0, .ref 1), (1, .int g), (2, .int a), (3, .int b), (4, .int c)] [] (HC X cI cA rI rA ol J) (CP X rI rA ol J S (gvN (aFunction S.1 g a b c) S)) := by
  refine ep_aload_n (j := 0) d_N_function_0 rfl rfl ?_
  refine ep_getf (fi := 0) (v := .ref 2) d_N_function_1 cl4 lf_N_13 (by decide) rfl rfl ?_
  refine ep_callVv (As := []) (st := []) d_N_function_4 lk_N_44 cal_D_dropDrafts tm_D_dropDrafts ts_D_dropDrafts rfl rfl rfl (Nat.le_of_ble_eq_true rfl) (Nat.le_of_ble_eq_true rfl) rfl rfl D_dropDrafts ?_
  refine ep_aload_n (j := 0) d_N_function_7 rfl rfl ?_
  refine ep_getf (fi := 0) (v := .ref 2) d_N_function_8 cl4 lf_N_13 (by decide) rfl rfl ?_
  refine ep_aload_n (j := 0) d_N_function_11 rfl rfl ?_
  refine ep_getf (fi := 0) (v := .ref 2) d_N_function_12 cl4 lf_N_13 (by decide) rfl rfl ?_
  refine ep_iload_n (j := 1) d_N_function_15 rfl rfl ?_
  refine ep_iload_n (j := 2) d_N_function_16 rfl rfl ?_
  refine ep_iload_n (j := 3) d_N_function_17 rfl rfl ?_
  refine ep_iload (j := 4) d_N_function_18 rfl ?_
  refine ep_callVa (As := [.int g, .int a, .int b, .int c]) (st := [.ref 2]) d_N_function_20 lk_N_71 cal_D_addFunction tm_D_addFunction ts_D_addFunction rfl rfl rfl (Nat.le_of_ble_eq_true rfl) (Nat.le_of_ble_eq_true rfl) rfl rfl (D_addFunction hc.drop g a b c) (fun q cI1 cA1 e hN hF => ?_) (fun k e => CP_x (by rw [e]; rfl) hc)
  have hx : S.1 <+: q.2 := ifx_ext (fun q h => addN_ext h) q e
  refine ep_keep d_N_function_23 lk_N_51 (Nat.le_of_ble_eq_true rfl) rfl hN (fun z => ?_) (fun z => CP_x (by rw [e]; exact if_neg z) (hc.same hN ⟨fun k hk => (hF.1 k hk).trans (by unfold upd; rw [if_neg hk]), hF.2⟩ hx))
  exact ep_iret d_N_function_26 rfl rfl (CP_ok (f := fun q : Int32 × CSt => some (.int q.1)) (q := (q.1, q.2, S.2)) (by rw [e]; exact if_pos z) (hc.kept hN ⟨fun k hk => (hF.1 k hk).trans (by unfold upd; rw [if_neg hk]), hF.2⟩ z))
set_option maxHeartbeats 4000000 in
set_option maxRecDepth 100000 in
theorem N_literal (hc : CC cI cA S) (x v : Int32) : EvP m_N_literal (d + 4) 0 [(0, .ref 1), (1, .int x), (2, .int v)] [] (HC X cI cA rI rA ol J) (CP X rI rA ol J S (gvN (aLiteral S.1 x v) S)) := by
  refine ep_aload_n (j := 0) d_N_literal_0 rfl rfl ?_
  refine ep_getf (fi := 0) (v := .ref 2) d_N_literal_1 cl4 lf_N_13 (by decide) rfl rfl ?_
  refine ep_callVv (As := []) (st := []) d_N_literal_4 lk_N_44 cal_D_dropDrafts tm_D_dropDrafts ts_D_dropDrafts rfl rfl rfl (Nat.le_of_ble_eq_true rfl) (Nat.le_of_ble_eq_true rfl) rfl rfl D_dropDrafts ?_
  refine ep_aload_n (j := 0) d_N_literal_7 rfl rfl ?_
  refine ep_getf (fi := 0) (v := .ref 2) d_N_literal_8 cl4 lf_N_13 (by decide) rfl rfl ?_
  refine ep_aload_n (j := 0) d_N_literal_11 rfl rfl ?_
  refine ep_getf (fi := 0) (v := .ref 2) d_N_literal_12 cl4 lf_N_13 (by decide) rfl rfl ?_
  refine ep_iload_n (j := 1) d_N_literal_15 rfl rfl ?_
  refine ep_iload_n (j := 2) d_N_literal_16 rfl rfl ?_
  refine ep_callVa (As := [.int x, .int v]) (st := [.ref 2]) d_N_literal_17 lk_N_74 cal_D_addLiteral tm_D_addLiteral ts_D_addLiteral rfl rfl rfl (Nat.le_of_ble_eq_true rfl) (Nat.le_of_ble_eq_true rfl) rfl rfl (D_addLiteral hc.drop x v) (fun q cI1 cA1 e hN hF => ?_) (fun k e => CP_x (by rw [e]; rfl) hc)
  have hx : S.1 <+: q.2 := ifx_ext (fun q h => addN_ext h) q e
  refine ep_keep d_N_literal_20 lk_N_51 (Nat.le_of_ble_eq_true rfl) rfl hN (fun z => ?_) (fun z => CP_x (by rw [e]; exact if_neg z) (hc.same hN ⟨fun k hk => (hF.1 k hk).trans (by unfold upd; rw [if_neg hk]), hF.2⟩ hx))
  exact ep_iret d_N_literal_23 rfl rfl (CP_ok (f := fun q : Int32 × CSt => some (.int q.1)) (q := (q.1, q.2, S.2)) (by rw [e]; exact if_pos z) (hc.kept hN ⟨fun k hk => (hF.1 k hk).trans (by unfold upd; rw [if_neg hk]), hF.2⟩ z))
set_option maxHeartbeats 4000000 in
set_option maxRecDepth 100000 in
theorem N_entity (hc : CC cI cA S) (n g a b c : Int32) : EvP m_N_entity (d + 4) 0 [(0, .ref 1), (1, .int n), (2, .int g), (3, .int a), (4, .int b), (5, .int c)] [] (HC X cI cA rI rA ol J) (CP X rI rA ol J S (gvN (aEntity S.1 n g a b c) S)) := by
  refine ep_aload_n (j := 0) d_N_entity_0 rfl rfl ?_
  refine ep_getf (fi := 0) (v := .ref 2) d_N_entity_1 cl4 lf_N_13 (by decide) rfl rfl ?_
  refine ep_callVv (As := []) (st := []) d_N_entity_4 lk_N_44 cal_D_dropDrafts tm_D_dropDrafts ts_D_dropDrafts rfl rfl rfl (Nat.le_of_ble_eq_true rfl) (Nat.le_of_ble_eq_true rfl) rfl rfl D_dropDrafts ?_
  refine ep_aload_n (j := 0) d_N_entity_7 rfl rfl ?_
  refine ep_getf (fi := 0) (v := .ref 2) d_N_entity_8 cl4 lf_N_13 (by decide) rfl rfl ?_
  refine ep_aload_n (j := 0) d_N_entity_11 rfl rfl ?_
  refine ep_getf (fi := 0) (v := .ref 2) d_N_entity_12 cl4 lf_N_13 (by decide) rfl rfl ?_
  refine ep_iload_n (j := 1) d_N_entity_15 rfl rfl ?_
  refine ep_iload_n (j := 2) d_N_entity_16 rfl rfl ?_
  refine ep_iload_n (j := 3) d_N_entity_17 rfl rfl ?_
  refine ep_iload (j := 4) d_N_entity_18 rfl ?_
  refine ep_iload (j := 5) d_N_entity_20 rfl ?_
  refine ep_callVa (As := [.int n, .int g, .int a, .int b, .int c]) (st := [.ref 2]) d_N_entity_22 lk_N_77 cal_D_addEntity tm_D_addEntity ts_D_addEntity rfl rfl rfl (Nat.le_of_ble_eq_true rfl) (Nat.le_of_ble_eq_true rfl) rfl rfl (D_addEntity hc.drop n g a b c) (fun q cI1 cA1 e hN hF => ?_) (fun k e => CP_x (by rw [e]; rfl) hc)
  have hx : S.1 <+: q.2 := ifx_ext (fun q h => addN_ext h) q e
  refine ep_keep d_N_entity_25 lk_N_51 (Nat.le_of_ble_eq_true rfl) rfl hN (fun z => ?_) (fun z => CP_x (by rw [e]; exact if_neg z) (hc.same hN ⟨fun k hk => (hF.1 k hk).trans (by unfold upd; rw [if_neg hk]), hF.2⟩ hx))
  exact ep_iret d_N_entity_28 rfl rfl (CP_ok (f := fun q : Int32 × CSt => some (.int q.1)) (q := (q.1, q.2, S.2)) (by rw [e]; exact if_pos z) (hc.kept hN ⟨fun k hk => (hF.1 k hk).trans (by unfold upd; rw [if_neg hk]), hF.2⟩ z))
end CL
