/-! the reference: writing; by program (wip/whole/gen55.py) -/
def stkW (rA : Nat → Nat → Int32) : Nat → List (Int32 × Int32)
  | 0 => []
  | n + 1 => (rA 19 n, rA 20 n) :: stkW rA n
theorem stkW_cg {rA rA' : Nat → Nat → Int32} {n : Nat} (h : ∀ i, i < n → rA' 19 i = rA 19 i ∧ rA' 20 i = rA 20 i) : stkW rA' n = stkW rA n := by
  induction n with
  | zero => rfl
  | succ n ih =>
    show (rA' 19 n, rA' 20 n) :: stkW rA' n = (rA 19 n, rA 20 n) :: stkW rA n
    rw [(h n (by omega)).1, (h n (by omega)).2, ih (fun i hi => h i (by omega))]
/-- where the reference's writing stands -/
abbrev MV (S : CSt) (rI : Nat → Int32) (rA : Nat → Nat → Int32) (w : WM) : Prop := (MB rI rA S) ∧ (rI 12 = nI w.O.length) ∧ (w.O = rowL (rA 11) w.O.length) ∧ (rI 13 = bI w.ov) ∧ (rI 16 = nI w.E.length) ∧ (w.E = rowL (rA 17) w.E.length) ∧ (rI 18 = nI w.K.length) ∧ (w.K = stkW rA w.K.length)
theorem MV.b {S : CSt} {rI : Nat → Int32} {rA : Nat → Nat → Int32} {w : WM} (h_ : MV S rI rA w) : MB rI rA S := h_.1
theorem MV.oz {S : CSt} {rI : Nat → Int32} {rA : Nat → Nat → Int32} {w : WM} (h_ : MV S rI rA w) : rI 12 = nI w.O.length := h_.2.1
theorem MV.ol {S : CSt} {rI : Nat → Int32} {rA : Nat → Nat → Int32} {w : WM} (h_ : MV S rI rA w) : w.O = rowL (rA 11) w.O.length := h_.2.2.1
theorem MV.ov {S : CSt} {rI : Nat → Int32} {rA : Nat → Nat → Int32} {w : WM} (h_ : MV S rI rA w) : rI 13 = bI w.ov := h_.2.2.2.1
theorem MV.ez {S : CSt} {rI : Nat → Int32} {rA : Nat → Nat → Int32} {w : WM} (h_ : MV S rI rA w) : rI 16 = nI w.E.length := h_.2.2.2.2.1
theorem MV.el {S : CSt} {rI : Nat → Int32} {rA : Nat → Nat → Int32} {w : WM} (h_ : MV S rI rA w) : w.E = rowL (rA 17) w.E.length := h_.2.2.2.2.2.1
theorem MV.tz {S : CSt} {rI : Nat → Int32} {rA : Nat → Nat → Int32} {w : WM} (h_ : MV S rI rA w) : rI 18 = nI w.K.length := h_.2.2.2.2.2.2.1
theorem MV.tk {S : CSt} {rI : Nat → Int32} {rA : Nat → Nat → Int32} {w : WM} (h_ : MV S rI rA w) : w.K = stkW rA w.K.length := h_.2.2.2.2.2.2.2
def VP (X : Nat × (Nat → Int32)) (cI : Nat → Int32) (cA : Nat → Nat → Int32) (ol : Int64) (J : mH) (S : CSt) (v : Option Value) (w : WM) : mR → mH → Prop := fun r h' => r = .inl v ∧ ∃ (rI : Nat → Int32) (rA : Nat → Nat → Int32), h' = HC X cI cA rI rA ol J ∧ MV S rI rA w
section MWA
variable {d : Nat} {X : Nat × (Nat → Int32)} {cI : Nat → Int32} {cA : Nat → Nat → Int32} {rI : Nat → Int32} {rA : Nat → Nat → Int32} {ol : Int64} {J : mH} {S : CSt} {w : WM}
theorem VP_ok {v u : Option Value} {w' : WM} (ev : u = v) (es : w' = w) (h : MV S rI rA w') : VP X cI cA ol J S v w (.inl u) (HC X cI cA rI rA ol J) := by
  subst ev; subst es
  exact ⟨rfl, rI, rA, rfl, h⟩
theorem ep_callVw2 {M Nn : Mt} {pc np : Nat} {lv : List (Nat × Value)} {st st0 As : List Value} {P : mR → mH → Prop} {v : Option Value} {ix o ci : Nat} {fs : List Value} (hd : decode M.2.1 pc = .ok (.invokevirtual ix, 3)) (hl : InT (.methodLink M.1.cls ix Nn.1)) (hN : Cal Nn np) (hm : InT (.instanceMethod Nn.1)) (hs : InT (.selects Nn.1.cls Nn.1 Nn.1)) (ho : (HC X cI cA rI rA ol J)[o]? = some (.inl (ci, fs))) (hci : (vCl[ci]?).map (fun q => q.1) = some Nn.1.cls) (hnp : As.length = np) (hal : ((Value.ref o :: As).map fun v => v.category).sum ≤ Nn.2.2.1) (hcat : (st.map fun v => v.category).sum ≤ 8) (hst : st0 = As.reverse ++ .ref o :: st) (hh : M.2.2.2.2 = [])
    (ev : EvP Nn d 0 (lv_args 0 (.ref o :: As)) [] (HC X cI cA rI rA ol J) (VP X cI cA ol J S v w))
    (k : ∀ rI' rA', MV S rI' rA' w → EvP M (d + 1) (pc + 3) lv (v.toList ++ st) (HC X cI cA rI' rA' ol J) P) : EvP M (d + 1) pc lv st0 (HC X cI cA rI rA ol J) P := by
  refine ep_callV hd hl hN hm hs ho hci hnp hal hcat hst hh ev (fun u h1 q => ?_) (fun x h1 q => ?_)
  · obtain ⟨q1, rI1, rA1, q2, q3⟩ := q
    cases q1
    subst q2
    exact k rI1 rA1 q3
  · obtain ⟨q1, _⟩ := q
    cases q1
theorem MV.emit (h : MV S rI rA w) (c : Int32) : MV S (upd (upd rI 13 (bI w.ov)) 12 (nI (w.O.length + 1))) (va_up rA 11 (upd (rA 11) w.O.length c)) (WM.u_O w (w.O ++ [c])) := by
  refine ⟨h.b, ?_, ?_, rfl, h.ez, h.el, h.tz, h.tk.trans (stkW_cg (rA := rA) (rA' := va_up rA 11 (upd (rA 11) w.O.length c)) (fun i _ => ⟨rfl, rfl⟩)).symm⟩
  · show nI (w.O.length + 1) = nI (w.O ++ [c]).length
    rw [List.length_append]; rfl
  · show w.O ++ [c] = rowL (upd (rA 11) w.O.length c) (w.O ++ [c]).length
    rw [List.length_append]
    show _ = rowL (upd (rA 11) w.O.length c) (w.O.length + 1)
    rw [rowL_upd]
    exact congrArg (· ++ [c]) h.ol
theorem MV.over (h : MV S rI rA w) (b : Bool) : MV S (upd rI 13 (bI b)) rA (WM.u_ov w b) := ⟨h.b, h.oz, h.ol, rfl, h.ez, h.el, h.tz, h.tk⟩
theorem MV.push (h : MV S rI rA w) (t n : Int32) : MV S (upd rI 18 (nI (w.K.length + 1))) (va_up (va_up rA 19 (upd (rA 19) w.K.length t)) 20 (upd (rA 20) w.K.length n)) (pS t n w) := by
  refine ⟨h.b, h.oz, h.ol, h.ov, h.ez, h.el, rfl, ?_⟩
  show (t, n) :: w.K = (upd (rA 19) w.K.length t w.K.length, upd (rA 20) w.K.length n w.K.length) :: stkW _ w.K.length
  rw [upd_at, upd_at]
  refine congrArg _ (h.tk.trans (stkW_cg (rA := rA) (fun i hi => ?_)).symm)
  show upd (rA 19) w.K.length t i = rA 19 i ∧ upd (rA 20) w.K.length n i = rA 20 i
  rw [upd_ne _ _ (by omega), upd_ne _ _ (by omega)]
  exact ⟨rfl, rfl⟩
theorem MV.ent (h : MV S rI rA w) (x : Int32) : MV S (upd rI 16 (nI (w.E.length + 1))) (va_up rA 17 (upd (rA 17) w.E.length x)) (WM.u_E w (w.E ++ [x])) := by
  refine ⟨h.b, h.oz, h.ol, h.ov, ?_, ?_, h.tz, h.tk.trans (stkW_cg (rA := rA) (rA' := va_up rA 17 (upd (rA 17) w.E.length x)) (fun i _ => ⟨rfl, rfl⟩)).symm⟩
  · show nI (w.E.length + 1) = nI (w.E ++ [x]).length
    rw [List.length_append]; rfl
  · show w.E ++ [x] = rowL (upd (rA 17) w.E.length x) (w.E ++ [x]).length
    rw [List.length_append]
    show _ = rowL (upd (rA 17) w.E.length x) (w.E.length + 1)
    rw [rowL_upd]
    exact congrArg (· ++ [x]) h.el
theorem M_pushW (hd : MV S rI rA w) (hk : w.K.length < 400) (t n : Int32) : EvP m_M_push d 0 [(0, .ref 16), (1, .int t), (2, .int n)] [] (HC X cI cA rI rA ol J) (VP X cI cA ol J S none (pS t n w)) :=
  (M_push hd.tz hk t n).mono (fun r h2 q => by
    obtain ⟨q1, q2⟩ := q
    subst q1; subst q2
    exact ⟨rfl, _, _, rfl, hd.push t n⟩)
set_option maxHeartbeats 4000000 in
set_option maxRecDepth 100000 in
theorem M_emit (hd : MV S rI rA w) (ho : w.O.length ≤ 120) (c : Int32) : EvP m_M_emit d 0 [(0, .ref 16), (1, .int c)] [] (HC X cI cA rI rA ol J) (VP X cI cA ol J S none (eM c w)) := by
  by_cases hc : w.ov = true ∨ w.O.length = 120
  · refine ep_aload_n (j := 0) d_M_emit_0 rfl rfl ?_
    refine ep_join (pc2 := 22) (lv2 := [(0, .ref 16), (1, .int c)]) (st2 := [.int 1, .ref 16]) ?_ (fun k22 => ?_)
    · refine ep_putf' (fi := 13) (h2 := HC X cI cA (upd rI 13 1) rA ol J) d_M_emit_22 cl5 lf_M_98 (by decide) (Or.inl rfl) rfl rfl hI_16_13 ?_
      refine ep_aload_n (j := 0) d_M_emit_25 rfl rfl ?_
      refine ep_getf (fi := 13) (v := .int 1) d_M_emit_26 cl5 lf_M_98 (by decide) rfl rfl ?_
      refine ep_if_ne (tgt := 52) d_M_emit_29 (by decide) (fun _ => ?_) (fun z => absurd z (by decide))
      exact ep_vret d_M_emit_52 rfl (VP_ok rfl (if_pos hc).symm (hd.over true))
    · refine ep_aload_n (j := 0) d_M_emit_1 rfl rfl ?_
      refine ep_getf (fi := 13) (v := .int (bI w.ov)) d_M_emit_2 cl5 lf_M_98 (by decide) rfl (congrArg (fun z => some (Value.int z)) hd.ov) ?_
      refine ep_if_ne (tgt := 17) d_M_emit_5 (by decide) (fun c5 => ?_) (fun c5 => ?_)
      · refine ep_iconst (v := 1) d_M_emit_17 (by decide) ?_
        refine ep_goto (tgt := 22) d_M_emit_18 (by decide) ?_
        refine ep_cg (y := 1) rfl ?_
        exact k22
      · refine ep_aload_n (j := 0) d_M_emit_8 rfl rfl ?_
        refine ep_getf (fi := 12) (v := .int (nI w.O.length)) d_M_emit_9 cl5 lf_M_102 (by decide) rfl (congrArg (fun z => some (Value.int z)) hd.oz) ?_
        refine ep_bipush (v := 120) d_M_emit_12 (by decide) ?_
        refine ep_icmp_ne (tgt := 21) d_M_emit_14 (by decide) (fun c14 => ?_) (fun c14 => ?_)
        · refine ep_iconst (v := 0) d_M_emit_21 (by decide) ?_
          refine ep_cg (y := 1) (absurd hc (fun u => u.elim (fun v => by have := bI_n c5; rw [v] at this; cases this) (fun v => c14 (by rw [v]; decide)))) ?_
          exact k22
        · refine ep_iconst (v := 1) d_M_emit_17 (by decide) ?_
          refine ep_goto (tgt := 22) d_M_emit_18 (by decide) ?_
          refine ep_cg (y := 1) rfl ?_
          exact k22
  · have hov : w.ov = false := by
      cases h : w.ov with
      | false => rfl
      | true => exact absurd (Or.inl h) hc
    have hlt : w.O.length < 120 := by have : ¬ w.O.length = 120 := fun u => hc (Or.inr u); omega
    refine ep_aload_n (j := 0) d_M_emit_0 rfl rfl ?_
    refine ep_join (pc2 := 22) (lv2 := [(0, .ref 16), (1, .int c)]) (st2 := [.int 0, .ref 16]) ?_ (fun k22 => ?_)
    · refine ep_putf' (fi := 13) (h2 := HC X cI cA (upd rI 13 0) rA ol J) d_M_emit_22 cl5 lf_M_98 (by decide) (Or.inl rfl) rfl rfl hI_16_13 ?_
      refine ep_aload_n (j := 0) d_M_emit_25 rfl rfl ?_
      refine ep_getf (fi := 13) (v := .int 0) d_M_emit_26 cl5 lf_M_98 (by decide) rfl rfl ?_
      refine ep_if_ne (tgt := 52) d_M_emit_29 (by decide) (fun z => absurd (by decide) z) (fun _ => ?_)
      refine ep_aload_n (j := 0) d_M_emit_32 rfl rfl ?_
      refine ep_getf (fi := 11) (v := .ref 24) d_M_emit_33 cl5 lf_M_31 (by decide) rfl rfl ?_
      refine ep_aload_n (j := 0) d_M_emit_36 rfl rfl ?_
      refine ep_getf (fi := 12) (v := .int (nI w.O.length)) d_M_emit_37 cl5 lf_M_102 (by decide) rfl (congrArg (fun z => some (Value.int z)) hd.oz) ?_
      refine ep_iload_n (j := 1) d_M_emit_40 rfl rfl ?_
      refine ep_iast' (h2 := HC X cI cA (upd rI 13 0) (va_up rA 11 (upd (rA 11) w.O.length c)) ol J) w.O.length d_M_emit_41 rfl rfl (by omega) (by decide) hA_24 ?_
      refine ep_aload_n (j := 0) d_M_emit_42 rfl rfl ?_
      refine ep_dup d_M_emit_43 rfl ?_
      refine ep_getf (fi := 12) (v := .int (nI w.O.length)) d_M_emit_44 cl5 lf_M_102 (by decide) rfl (congrArg (fun z => some (Value.int z)) hd.oz) ?_
      refine ep_iconst (v := 1) d_M_emit_47 (by decide) ?_
      refine ep_iadd d_M_emit_48 ?_
      refine ep_cg (y := nI (w.O.length + 1)) (nI_1 _) ?_
      refine ep_putf' (fi := 12) (h2 := HC X cI cA (upd (upd rI 13 0) 12 (nI (w.O.length + 1))) (va_up rA 11 (upd (rA 11) w.O.length c)) ol J) d_M_emit_49 cl5 lf_M_102 (by decide) (Or.inl rfl) rfl rfl hI_16_12 ?_
      exact ep_vret d_M_emit_52 rfl (VP_ok rfl (if_neg hc).symm (by have := hd.emit c; rw [show bI w.ov = 0 from by rw [hov]; rfl] at this; exact this))
    · refine ep_aload_n (j := 0) d_M_emit_1 rfl rfl ?_
      refine ep_getf (fi := 13) (v := .int (bI w.ov)) d_M_emit_2 cl5 lf_M_98 (by decide) rfl (congrArg (fun z => some (Value.int z)) hd.ov) ?_
      refine ep_if_ne (tgt := 17) d_M_emit_5 (by decide) (fun c5 => ?_) (fun c5 => ?_)
      · refine ep_iconst (v := 1) d_M_emit_17 (by decide) ?_
        refine ep_goto (tgt := 22) d_M_emit_18 (by decide) ?_
        refine ep_cg (y := 0) (absurd (Or.inl (bI_t c5)) hc) ?_
        exact k22
      · refine ep_aload_n (j := 0) d_M_emit_8 rfl rfl ?_
        refine ep_getf (fi := 12) (v := .int (nI w.O.length)) d_M_emit_9 cl5 lf_M_102 (by decide) rfl (congrArg (fun z => some (Value.int z)) hd.oz) ?_
        refine ep_bipush (v := 120) d_M_emit_12 (by decide) ?_
        refine ep_icmp_ne (tgt := 21) d_M_emit_14 (by decide) (fun c14 => ?_) (fun c14 => ?_)
        · refine ep_iconst (v := 0) d_M_emit_21 (by decide) ?_
          refine ep_cg (y := 0) rfl ?_
          exact k22
        · refine ep_iconst (v := 1) d_M_emit_17 (by decide) ?_
          refine ep_goto (tgt := 22) d_M_emit_18 (by decide) ?_
          refine ep_cg (y := 0) (absurd (Or.inr ((nI_eq (by omega) (by omega)).mp (c14.trans (by decide)))) hc) ?_
          exact k22
theorem eM_o {c : Int32} (h : w.O.length ≤ 120) : (eM c w).O.length ≤ 120 := by
  unfold eM
  split
  · exact h
  · rename_i q
    have : ¬ w.O.length = 120 := fun u => q (Or.inr u)
    show (w.O ++ [c]).length ≤ 120
    rw [List.length_append]
    show w.O.length + 1 ≤ 120
    omega
theorem eM_K {c : Int32} : (eM c w).K = w.K ∧ (eM c w).E = w.E := by unfold eM; split <;> exact ⟨rfl, rfl⟩
theorem eL_o (l : List Int32) : ∀ w : WM, w.O.length ≤ 120 → (eL l w).O.length ≤ 120 := by
  induction l with
  | nil => intro w h; exact h
  | cons c l ih => intro w h; exact ih _ (eM_o h)
theorem eL_K (l : List Int32) : ∀ w : WM, (eL l w).K = w.K ∧ (eL l w).E = w.E := by
  induction l with
  | nil => intro w; exact ⟨rfl, rfl⟩
  | cons c l ih => intro w; exact ⟨(ih _).1.trans eM_K.1, (ih _).2.trans eM_K.2⟩
set_option maxHeartbeats 4000000 in
set_option maxRecDepth 100000 in
theorem M_emitNumber (hd : MV S rI rA w) (ho : w.O.length ≤ 120) {v : Int32} {b : Nat} (hv : v = nI b) (hb : b ≤ 999999) : EvP m_M_emitNumber (d + 1) 0 [(0, .ref 16), (1, .int v)] [] (HC X cI cA rI rA ol J) (VP X cI cA ol J S none (eL (nuM v) w)) := by
  have h6 : v / 100000 ≤ 9 := by rw [hv, show (100000 : Int32) = nI 100000 from by decide, pk_div (by omega) (by decide) (by decide), show (9 : Int32) = nI 9 from by decide, nI_leI (by omega) (by decide)]; omega
  refine ep_iconst (v := 1) d_M_emitNumber_0 (by decide) ?_
  refine ep_istore_n (lv' := [(0, .ref 16), (1, .int v), (2, .int 1)]) [1, 2, 0] d_M_emitNumber_1 rfl (by decide) rfl ?_
  refine ep_iload_n (j := 1) d_M_emitNumber_2 rfl rfl ?_
  refine ep_iload_n (j := 2) d_M_emitNumber_3 rfl rfl ?_
  refine ep_idiv d_M_emitNumber_4 (by decide) ?_
  refine ep_bipush (v := 9) d_M_emitNumber_5 (by decide) ?_
  refine ep_icmp_le (tgt := 18) d_M_emitNumber_7 (by decide) (fun c7 => ?_) (fun c7 => ?_)
  · refine ep_iload_n (j := 2) d_M_emitNumber_18 rfl rfl ?_
    refine ep_istore_n (lv' := [(0, .ref 16), (1, .int v), (2, .int 1), (3, .int 1)]) [1, 2, 3, 0] d_M_emitNumber_19 rfl (by decide) rfl ?_
    refine ep_iload_n (j := 3) d_M_emitNumber_20 rfl rfl ?_
    refine ep_if_le (tgt := 45) d_M_emitNumber_21 (by decide) (fun z => absurd z (by decide)) (fun _ => ?_)
    refine ep_aload_n (j := 0) d_M_emitNumber_24 rfl rfl ?_
    refine ep_bipush (v := 48) d_M_emitNumber_25 (by decide) ?_
    refine ep_iload_n (j := 1) d_M_emitNumber_27 rfl rfl ?_
    refine ep_iload_n (j := 3) d_M_emitNumber_28 rfl rfl ?_
    refine ep_idiv d_M_emitNumber_29 (by decide) ?_
    refine ep_bipush (v := 10) d_M_emitNumber_30 (by decide) ?_
    refine ep_irem d_M_emitNumber_32 (by decide) ?_
    refine ep_iadd d_M_emitNumber_33 ?_
    refine ep_callVw2 (As := [.int (48 + ((v / 1) - (v / 1) / 10 * 10))]) (st := []) d_M_emitNumber_34 lk_M_105 cal_M_emit tm_M_emit ts_M_emit rfl rfl rfl (Nat.le_of_ble_eq_true rfl) (Nat.le_of_ble_eq_true rfl) rfl rfl (M_emit hd ho (48 + ((v / 1) - (v / 1) / 10 * 10))) (fun rI1 rA1 hd1 => ?_)
    refine ep_iload_n (j := 3) d_M_emitNumber_37 rfl rfl ?_
    refine ep_bipush (v := 10) d_M_emitNumber_38 (by decide) ?_
    refine ep_idiv d_M_emitNumber_40 (by decide) ?_
    refine ep_cg (y := 0) (by decide) ?_
    refine ep_istore_n (lv' := [(0, .ref 16), (1, .int v), (2, .int 1), (3, .int 0)]) [1, 2, 3, 0] d_M_emitNumber_41 rfl (by decide) rfl ?_
    refine ep_goto (tgt := 20) d_M_emitNumber_42 (by decide) ?_
    refine ep_iload_n (j := 3) d_M_emitNumber_20 rfl rfl ?_
    refine ep_if_le (tgt := 45) d_M_emitNumber_21 (by decide) (fun _ => ?_) (fun z => absurd (by decide) z)
    exact ep_vret d_M_emitNumber_45 rfl (VP_ok rfl (by unfold nuM; rw [if_pos (Int32.not_lt.mpr c7)]; rfl) hd1)
  · refine ep_bipush (v := 10) d_M_emitNumber_10 (by decide) ?_
    refine ep_iload_n (j := 2) d_M_emitNumber_12 rfl rfl ?_
    refine ep_imul d_M_emitNumber_13 ?_
    refine ep_cg (y := 10) (by decide) ?_
    refine ep_istore_n (lv' := [(0, .ref 16), (1, .int v), (2, .int 10)]) [1, 2, 0] d_M_emitNumber_14 rfl (by decide) rfl ?_
    refine ep_goto (tgt := 2) d_M_emitNumber_15 (by decide) ?_
    refine ep_iload_n (j := 1) d_M_emitNumber_2 rfl rfl ?_
    refine ep_iload_n (j := 2) d_M_emitNumber_3 rfl rfl ?_
    refine ep_idiv d_M_emitNumber_4 (by decide) ?_
    refine ep_bipush (v := 9) d_M_emitNumber_5 (by decide) ?_
    refine ep_icmp_le (tgt := 18) d_M_emitNumber_7 (by decide) (fun c7_ => ?_) (fun c7_ => ?_)
    · refine ep_iload_n (j := 2) d_M_emitNumber_18 rfl rfl ?_
      refine ep_istore_n (lv' := [(0, .ref 16), (1, .int v), (2, .int 10), (3, .int 10)]) [1, 2, 3, 0] d_M_emitNumber_19 rfl (by decide) rfl ?_
      refine ep_iload_n (j := 3) d_M_emitNumber_20 rfl rfl ?_
      refine ep_if_le (tgt := 45) d_M_emitNumber_21 (by decide) (fun z => absurd z (by decide)) (fun _ => ?_)
      refine ep_aload_n (j := 0) d_M_emitNumber_24 rfl rfl ?_
      refine ep_bipush (v := 48) d_M_emitNumber_25 (by decide) ?_
      refine ep_iload_n (j := 1) d_M_emitNumber_27 rfl rfl ?_
      refine ep_iload_n (j := 3) d_M_emitNumber_28 rfl rfl ?_
      refine ep_idiv d_M_emitNumber_29 (by decide) ?_
      refine ep_bipush (v := 10) d_M_emitNumber_30 (by decide) ?_
      refine ep_irem d_M_emitNumber_32 (by decide) ?_
      refine ep_iadd d_M_emitNumber_33 ?_
      refine ep_callVw2 (As := [.int (48 + ((v / 10) - (v / 10) / 10 * 10))]) (st := []) d_M_emitNumber_34 lk_M_105 cal_M_emit tm_M_emit ts_M_emit rfl rfl rfl (Nat.le_of_ble_eq_true rfl) (Nat.le_of_ble_eq_true rfl) rfl rfl (M_emit hd ho (48 + ((v / 10) - (v / 10) / 10 * 10))) (fun rI2 rA2 hd2 => ?_)
      refine ep_iload_n (j := 3) d_M_emitNumber_37 rfl rfl ?_
      refine ep_bipush (v := 10) d_M_emitNumber_38 (by decide) ?_
      refine ep_idiv d_M_emitNumber_40 (by decide) ?_
      refine ep_cg (y := 1) (by decide) ?_
      refine ep_istore_n (lv' := [(0, .ref 16), (1, .int v), (2, .int 10), (3, .int 1)]) [1, 2, 3, 0] d_M_emitNumber_41 rfl (by decide) rfl ?_
      refine ep_goto (tgt := 20) d_M_emitNumber_42 (by decide) ?_
      refine ep_iload_n (j := 3) d_M_emitNumber_20 rfl rfl ?_
      refine ep_if_le (tgt := 45) d_M_emitNumber_21 (by decide) (fun z => absurd z (by decide)) (fun _ => ?_)
      refine ep_aload_n (j := 0) d_M_emitNumber_24 rfl rfl ?_
      refine ep_bipush (v := 48) d_M_emitNumber_25 (by decide) ?_
      refine ep_iload_n (j := 1) d_M_emitNumber_27 rfl rfl ?_
      refine ep_iload_n (j := 3) d_M_emitNumber_28 rfl rfl ?_
      refine ep_idiv d_M_emitNumber_29 (by decide) ?_
      refine ep_bipush (v := 10) d_M_emitNumber_30 (by decide) ?_
      refine ep_irem d_M_emitNumber_32 (by decide) ?_
      refine ep_iadd d_M_emitNumber_33 ?_
      refine ep_callVw2 (As := [.int (48 + ((v / 1) - (v / 1) / 10 * 10))]) (st := []) d_M_emitNumber_34 lk_M_105 cal_M_emit tm_M_emit ts_M_emit rfl rfl rfl (Nat.le_of_ble_eq_true rfl) (Nat.le_of_ble_eq_true rfl) rfl rfl (M_emit hd2 (eM_o ho) (48 + ((v / 1) - (v / 1) / 10 * 10))) (fun rI3 rA3 hd3 => ?_)
      refine ep_iload_n (j := 3) d_M_emitNumber_37 rfl rfl ?_
      refine ep_bipush (v := 10) d_M_emitNumber_38 (by decide) ?_
      refine ep_idiv d_M_emitNumber_40 (by decide) ?_
      refine ep_cg (y := 0) (by decide) ?_
      refine ep_istore_n (lv' := [(0, .ref 16), (1, .int v), (2, .int 10), (3, .int 0)]) [1, 2, 3, 0] d_M_emitNumber_41 rfl (by decide) rfl ?_
      refine ep_goto (tgt := 20) d_M_emitNumber_42 (by decide) ?_
      refine ep_iload_n (j := 3) d_M_emitNumber_20 rfl rfl ?_
      refine ep_if_le (tgt := 45) d_M_emitNumber_21 (by decide) (fun _ => ?_) (fun z => absurd (by decide) z)
      exact ep_vret d_M_emitNumber_45 rfl (VP_ok rfl (by unfold nuM; rw [if_neg (fun u => u (Int32.not_le.mp c7)), if_pos (Int32.not_lt.mpr c7_)]; rfl) hd3)
    · refine ep_bipush (v := 10) d_M_emitNumber_10 (by decide) ?_
      refine ep_iload_n (j := 2) d_M_emitNumber_12 rfl rfl ?_
      refine ep_imul d_M_emitNumber_13 ?_
      refine ep_cg (y := 100) (by decide) ?_
      refine ep_istore_n (lv' := [(0, .ref 16), (1, .int v), (2, .int 100)]) [1, 2, 0] d_M_emitNumber_14 rfl (by decide) rfl ?_
      refine ep_goto (tgt := 2) d_M_emitNumber_15 (by decide) ?_
      refine ep_iload_n (j := 1) d_M_emitNumber_2 rfl rfl ?_
      refine ep_iload_n (j := 2) d_M_emitNumber_3 rfl rfl ?_
      refine ep_idiv d_M_emitNumber_4 (by decide) ?_
      refine ep_bipush (v := 9) d_M_emitNumber_5 (by decide) ?_
      refine ep_icmp_le (tgt := 18) d_M_emitNumber_7 (by decide) (fun c7__ => ?_) (fun c7__ => ?_)
      · refine ep_iload_n (j := 2) d_M_emitNumber_18 rfl rfl ?_
        refine ep_istore_n (lv' := [(0, .ref 16), (1, .int v), (2, .int 100), (3, .int 100)]) [1, 2, 3, 0] d_M_emitNumber_19 rfl (by decide) rfl ?_
        refine ep_iload_n (j := 3) d_M_emitNumber_20 rfl rfl ?_
        refine ep_if_le (tgt := 45) d_M_emitNumber_21 (by decide) (fun z => absurd z (by decide)) (fun _ => ?_)
        refine ep_aload_n (j := 0) d_M_emitNumber_24 rfl rfl ?_
        refine ep_bipush (v := 48) d_M_emitNumber_25 (by decide) ?_
        refine ep_iload_n (j := 1) d_M_emitNumber_27 rfl rfl ?_
        refine ep_iload_n (j := 3) d_M_emitNumber_28 rfl rfl ?_
        refine ep_idiv d_M_emitNumber_29 (by decide) ?_
        refine ep_bipush (v := 10) d_M_emitNumber_30 (by decide) ?_
        refine ep_irem d_M_emitNumber_32 (by decide) ?_
        refine ep_iadd d_M_emitNumber_33 ?_
        refine ep_callVw2 (As := [.int (48 + ((v / 100) - (v / 100) / 10 * 10))]) (st := []) d_M_emitNumber_34 lk_M_105 cal_M_emit tm_M_emit ts_M_emit rfl rfl rfl (Nat.le_of_ble_eq_true rfl) (Nat.le_of_ble_eq_true rfl) rfl rfl (M_emit hd ho (48 + ((v / 100) - (v / 100) / 10 * 10))) (fun rI4 rA4 hd4 => ?_)
        refine ep_iload_n (j := 3) d_M_emitNumber_37 rfl rfl ?_
        refine ep_bipush (v := 10) d_M_emitNumber_38 (by decide) ?_
        refine ep_idiv d_M_emitNumber_40 (by decide) ?_
        refine ep_cg (y := 10) (by decide) ?_
        refine ep_istore_n (lv' := [(0, .ref 16), (1, .int v), (2, .int 100), (3, .int 10)]) [1, 2, 3, 0] d_M_emitNumber_41 rfl (by decide) rfl ?_
        refine ep_goto (tgt := 20) d_M_emitNumber_42 (by decide) ?_
        refine ep_iload_n (j := 3) d_M_emitNumber_20 rfl rfl ?_
        refine ep_if_le (tgt := 45) d_M_emitNumber_21 (by decide) (fun z => absurd z (by decide)) (fun _ => ?_)
        refine ep_aload_n (j := 0) d_M_emitNumber_24 rfl rfl ?_
        refine ep_bipush (v := 48) d_M_emitNumber_25 (by decide) ?_
        refine ep_iload_n (j := 1) d_M_emitNumber_27 rfl rfl ?_
        refine ep_iload_n (j := 3) d_M_emitNumber_28 rfl rfl ?_
        refine ep_idiv d_M_emitNumber_29 (by decide) ?_
        refine ep_bipush (v := 10) d_M_emitNumber_30 (by decide) ?_
        refine ep_irem d_M_emitNumber_32 (by decide) ?_
        refine ep_iadd d_M_emitNumber_33 ?_
        refine ep_callVw2 (As := [.int (48 + ((v / 10) - (v / 10) / 10 * 10))]) (st := []) d_M_emitNumber_34 lk_M_105 cal_M_emit tm_M_emit ts_M_emit rfl rfl rfl (Nat.le_of_ble_eq_true rfl) (Nat.le_of_ble_eq_true rfl) rfl rfl (M_emit hd4 (eM_o ho) (48 + ((v / 10) - (v / 10) / 10 * 10))) (fun rI5 rA5 hd5 => ?_)
        refine ep_iload_n (j := 3) d_M_emitNumber_37 rfl rfl ?_
        refine ep_bipush (v := 10) d_M_emitNumber_38 (by decide) ?_
        refine ep_idiv d_M_emitNumber_40 (by decide) ?_
        refine ep_cg (y := 1) (by decide) ?_
        refine ep_istore_n (lv' := [(0, .ref 16), (1, .int v), (2, .int 100), (3, .int 1)]) [1, 2, 3, 0] d_M_emitNumber_41 rfl (by decide) rfl ?_
        refine ep_goto (tgt := 20) d_M_emitNumber_42 (by decide) ?_
        refine ep_iload_n (j := 3) d_M_emitNumber_20 rfl rfl ?_
        refine ep_if_le (tgt := 45) d_M_emitNumber_21 (by decide) (fun z => absurd z (by decide)) (fun _ => ?_)
        refine ep_aload_n (j := 0) d_M_emitNumber_24 rfl rfl ?_
        refine ep_bipush (v := 48) d_M_emitNumber_25 (by decide) ?_
        refine ep_iload_n (j := 1) d_M_emitNumber_27 rfl rfl ?_
        refine ep_iload_n (j := 3) d_M_emitNumber_28 rfl rfl ?_
        refine ep_idiv d_M_emitNumber_29 (by decide) ?_
        refine ep_bipush (v := 10) d_M_emitNumber_30 (by decide) ?_
        refine ep_irem d_M_emitNumber_32 (by decide) ?_
        refine ep_iadd d_M_emitNumber_33 ?_
        refine ep_callVw2 (As := [.int (48 + ((v / 1) - (v / 1) / 10 * 10))]) (st := []) d_M_emitNumber_34 lk_M_105 cal_M_emit tm_M_emit ts_M_emit rfl rfl rfl (Nat.le_of_ble_eq_true rfl) (Nat.le_of_ble_eq_true rfl) rfl rfl (M_emit hd5 (eM_o (eM_o ho)) (48 + ((v / 1) - (v / 1) / 10 * 10))) (fun rI6 rA6 hd6 => ?_)
        refine ep_iload_n (j := 3) d_M_emitNumber_37 rfl rfl ?_
        refine ep_bipush (v := 10) d_M_emitNumber_38 (by decide) ?_
        refine ep_idiv d_M_emitNumber_40 (by decide) ?_
        refine ep_cg (y := 0) (by decide) ?_
        refine ep_istore_n (lv' := [(0, .ref 16), (1, .int v), (2, .int 100), (3, .int 0)]) [1, 2, 3, 0] d_M_emitNumber_41 rfl (by decide) rfl ?_
        refine ep_goto (tgt := 20) d_M_emitNumber_42 (by decide) ?_
        refine ep_iload_n (j := 3) d_M_emitNumber_20 rfl rfl ?_
        refine ep_if_le (tgt := 45) d_M_emitNumber_21 (by decide) (fun _ => ?_) (fun z => absurd (by decide) z)
        exact ep_vret d_M_emitNumber_45 rfl (VP_ok rfl (by unfold nuM; rw [if_neg (fun u => u (Int32.not_le.mp c7)), if_neg (fun u => u (Int32.not_le.mp c7_)), if_pos (Int32.not_lt.mpr c7__)]; rfl) hd6)
      · refine ep_bipush (v := 10) d_M_emitNumber_10 (by decide) ?_
        refine ep_iload_n (j := 2) d_M_emitNumber_12 rfl rfl ?_
        refine ep_imul d_M_emitNumber_13 ?_
        refine ep_cg (y := 1000) (by decide) ?_
        refine ep_istore_n (lv' := [(0, .ref 16), (1, .int v), (2, .int 1000)]) [1, 2, 0] d_M_emitNumber_14 rfl (by decide) rfl ?_
        refine ep_goto (tgt := 2) d_M_emitNumber_15 (by decide) ?_
        refine ep_iload_n (j := 1) d_M_emitNumber_2 rfl rfl ?_
        refine ep_iload_n (j := 2) d_M_emitNumber_3 rfl rfl ?_
        refine ep_idiv d_M_emitNumber_4 (by decide) ?_
        refine ep_bipush (v := 9) d_M_emitNumber_5 (by decide) ?_
        refine ep_icmp_le (tgt := 18) d_M_emitNumber_7 (by decide) (fun c7___ => ?_) (fun c7___ => ?_)
        · refine ep_iload_n (j := 2) d_M_emitNumber_18 rfl rfl ?_
          refine ep_istore_n (lv' := [(0, .ref 16), (1, .int v), (2, .int 1000), (3, .int 1000)]) [1, 2, 3, 0] d_M_emitNumber_19 rfl (by decide) rfl ?_
          refine ep_iload_n (j := 3) d_M_emitNumber_20 rfl rfl ?_
          refine ep_if_le (tgt := 45) d_M_emitNumber_21 (by decide) (fun z => absurd z (by decide)) (fun _ => ?_)
          refine ep_aload_n (j := 0) d_M_emitNumber_24 rfl rfl ?_
          refine ep_bipush (v := 48) d_M_emitNumber_25 (by decide) ?_
          refine ep_iload_n (j := 1) d_M_emitNumber_27 rfl rfl ?_
          refine ep_iload_n (j := 3) d_M_emitNumber_28 rfl rfl ?_
          refine ep_idiv d_M_emitNumber_29 (by decide) ?_
          refine ep_bipush (v := 10) d_M_emitNumber_30 (by decide) ?_
          refine ep_irem d_M_emitNumber_32 (by decide) ?_
          refine ep_iadd d_M_emitNumber_33 ?_
          refine ep_callVw2 (As := [.int (48 + ((v / 1000) - (v / 1000) / 10 * 10))]) (st := []) d_M_emitNumber_34 lk_M_105 cal_M_emit tm_M_emit ts_M_emit rfl rfl rfl (Nat.le_of_ble_eq_true rfl) (Nat.le_of_ble_eq_true rfl) rfl rfl (M_emit hd ho (48 + ((v / 1000) - (v / 1000) / 10 * 10))) (fun rI7 rA7 hd7 => ?_)
          refine ep_iload_n (j := 3) d_M_emitNumber_37 rfl rfl ?_
          refine ep_bipush (v := 10) d_M_emitNumber_38 (by decide) ?_
          refine ep_idiv d_M_emitNumber_40 (by decide) ?_
          refine ep_cg (y := 100) (by decide) ?_
          refine ep_istore_n (lv' := [(0, .ref 16), (1, .int v), (2, .int 1000), (3, .int 100)]) [1, 2, 3, 0] d_M_emitNumber_41 rfl (by decide) rfl ?_
          refine ep_goto (tgt := 20) d_M_emitNumber_42 (by decide) ?_
          refine ep_iload_n (j := 3) d_M_emitNumber_20 rfl rfl ?_
          refine ep_if_le (tgt := 45) d_M_emitNumber_21 (by decide) (fun z => absurd z (by decide)) (fun _ => ?_)
          refine ep_aload_n (j := 0) d_M_emitNumber_24 rfl rfl ?_
          refine ep_bipush (v := 48) d_M_emitNumber_25 (by decide) ?_
          refine ep_iload_n (j := 1) d_M_emitNumber_27 rfl rfl ?_
          refine ep_iload_n (j := 3) d_M_emitNumber_28 rfl rfl ?_
          refine ep_idiv d_M_emitNumber_29 (by decide) ?_
          refine ep_bipush (v := 10) d_M_emitNumber_30 (by decide) ?_
          refine ep_irem d_M_emitNumber_32 (by decide) ?_
          refine ep_iadd d_M_emitNumber_33 ?_
          refine ep_callVw2 (As := [.int (48 + ((v / 100) - (v / 100) / 10 * 10))]) (st := []) d_M_emitNumber_34 lk_M_105 cal_M_emit tm_M_emit ts_M_emit rfl rfl rfl (Nat.le_of_ble_eq_true rfl) (Nat.le_of_ble_eq_true rfl) rfl rfl (M_emit hd7 (eM_o ho) (48 + ((v / 100) - (v / 100) / 10 * 10))) (fun rI8 rA8 hd8 => ?_)
          refine ep_iload_n (j := 3) d_M_emitNumber_37 rfl rfl ?_
          refine ep_bipush (v := 10) d_M_emitNumber_38 (by decide) ?_
          refine ep_idiv d_M_emitNumber_40 (by decide) ?_
          refine ep_cg (y := 10) (by decide) ?_
          refine ep_istore_n (lv' := [(0, .ref 16), (1, .int v), (2, .int 1000), (3, .int 10)]) [1, 2, 3, 0] d_M_emitNumber_41 rfl (by decide) rfl ?_
          refine ep_goto (tgt := 20) d_M_emitNumber_42 (by decide) ?_
          refine ep_iload_n (j := 3) d_M_emitNumber_20 rfl rfl ?_
          refine ep_if_le (tgt := 45) d_M_emitNumber_21 (by decide) (fun z => absurd z (by decide)) (fun _ => ?_)
          refine ep_aload_n (j := 0) d_M_emitNumber_24 rfl rfl ?_
          refine ep_bipush (v := 48) d_M_emitNumber_25 (by decide) ?_
          refine ep_iload_n (j := 1) d_M_emitNumber_27 rfl rfl ?_
          refine ep_iload_n (j := 3) d_M_emitNumber_28 rfl rfl ?_
          refine ep_idiv d_M_emitNumber_29 (by decide) ?_
          refine ep_bipush (v := 10) d_M_emitNumber_30 (by decide) ?_
          refine ep_irem d_M_emitNumber_32 (by decide) ?_
          refine ep_iadd d_M_emitNumber_33 ?_
          refine ep_callVw2 (As := [.int (48 + ((v / 10) - (v / 10) / 10 * 10))]) (st := []) d_M_emitNumber_34 lk_M_105 cal_M_emit tm_M_emit ts_M_emit rfl rfl rfl (Nat.le_of_ble_eq_true rfl) (Nat.le_of_ble_eq_true rfl) rfl rfl (M_emit hd8 (eM_o (eM_o ho)) (48 + ((v / 10) - (v / 10) / 10 * 10))) (fun rI9 rA9 hd9 => ?_)
          refine ep_iload_n (j := 3) d_M_emitNumber_37 rfl rfl ?_
          refine ep_bipush (v := 10) d_M_emitNumber_38 (by decide) ?_
          refine ep_idiv d_M_emitNumber_40 (by decide) ?_
          refine ep_cg (y := 1) (by decide) ?_
          refine ep_istore_n (lv' := [(0, .ref 16), (1, .int v), (2, .int 1000), (3, .int 1)]) [1, 2, 3, 0] d_M_emitNumber_41 rfl (by decide) rfl ?_
          refine ep_goto (tgt := 20) d_M_emitNumber_42 (by decide) ?_
          refine ep_iload_n (j := 3) d_M_emitNumber_20 rfl rfl ?_
          refine ep_if_le (tgt := 45) d_M_emitNumber_21 (by decide) (fun z => absurd z (by decide)) (fun _ => ?_)
          refine ep_aload_n (j := 0) d_M_emitNumber_24 rfl rfl ?_
          refine ep_bipush (v := 48) d_M_emitNumber_25 (by decide) ?_
          refine ep_iload_n (j := 1) d_M_emitNumber_27 rfl rfl ?_
          refine ep_iload_n (j := 3) d_M_emitNumber_28 rfl rfl ?_
          refine ep_idiv d_M_emitNumber_29 (by decide) ?_
          refine ep_bipush (v := 10) d_M_emitNumber_30 (by decide) ?_
          refine ep_irem d_M_emitNumber_32 (by decide) ?_
          refine ep_iadd d_M_emitNumber_33 ?_
          refine ep_callVw2 (As := [.int (48 + ((v / 1) - (v / 1) / 10 * 10))]) (st := []) d_M_emitNumber_34 lk_M_105 cal_M_emit tm_M_emit ts_M_emit rfl rfl rfl (Nat.le_of_ble_eq_true rfl) (Nat.le_of_ble_eq_true rfl) rfl rfl (M_emit hd9 (eM_o (eM_o (eM_o ho))) (48 + ((v / 1) - (v / 1) / 10 * 10))) (fun rI10 rA10 hd10 => ?_)
          refine ep_iload_n (j := 3) d_M_emitNumber_37 rfl rfl ?_
          refine ep_bipush (v := 10) d_M_emitNumber_38 (by decide) ?_
          refine ep_idiv d_M_emitNumber_40 (by decide) ?_
          refine ep_cg (y := 0) (by decide) ?_
          refine ep_istore_n (lv' := [(0, .ref 16), (1, .int v), (2, .int 1000), (3, .int 0)]) [1, 2, 3, 0] d_M_emitNumber_41 rfl (by decide) rfl ?_
          refine ep_goto (tgt := 20) d_M_emitNumber_42 (by decide) ?_
          refine ep_iload_n (j := 3) d_M_emitNumber_20 rfl rfl ?_
          refine ep_if_le (tgt := 45) d_M_emitNumber_21 (by decide) (fun _ => ?_) (fun z => absurd (by decide) z)
          exact ep_vret d_M_emitNumber_45 rfl (VP_ok rfl (by unfold nuM; rw [if_neg (fun u => u (Int32.not_le.mp c7)), if_neg (fun u => u (Int32.not_le.mp c7_)), if_neg (fun u => u (Int32.not_le.mp c7__)), if_pos (Int32.not_lt.mpr c7___)]; rfl) hd10)
        · refine ep_bipush (v := 10) d_M_emitNumber_10 (by decide) ?_
          refine ep_iload_n (j := 2) d_M_emitNumber_12 rfl rfl ?_
          refine ep_imul d_M_emitNumber_13 ?_
          refine ep_cg (y := 10000) (by decide) ?_
          refine ep_istore_n (lv' := [(0, .ref 16), (1, .int v), (2, .int 10000)]) [1, 2, 0] d_M_emitNumber_14 rfl (by decide) rfl ?_
          refine ep_goto (tgt := 2) d_M_emitNumber_15 (by decide) ?_
          refine ep_iload_n (j := 1) d_M_emitNumber_2 rfl rfl ?_
          refine ep_iload_n (j := 2) d_M_emitNumber_3 rfl rfl ?_
          refine ep_idiv d_M_emitNumber_4 (by decide) ?_
          refine ep_bipush (v := 9) d_M_emitNumber_5 (by decide) ?_
          refine ep_icmp_le (tgt := 18) d_M_emitNumber_7 (by decide) (fun c7____ => ?_) (fun c7____ => ?_)
          · refine ep_iload_n (j := 2) d_M_emitNumber_18 rfl rfl ?_
            refine ep_istore_n (lv' := [(0, .ref 16), (1, .int v), (2, .int 10000), (3, .int 10000)]) [1, 2, 3, 0] d_M_emitNumber_19 rfl (by decide) rfl ?_
            refine ep_iload_n (j := 3) d_M_emitNumber_20 rfl rfl ?_
            refine ep_if_le (tgt := 45) d_M_emitNumber_21 (by decide) (fun z => absurd z (by decide)) (fun _ => ?_)
            refine ep_aload_n (j := 0) d_M_emitNumber_24 rfl rfl ?_
            refine ep_bipush (v := 48) d_M_emitNumber_25 (by decide) ?_
            refine ep_iload_n (j := 1) d_M_emitNumber_27 rfl rfl ?_
            refine ep_iload_n (j := 3) d_M_emitNumber_28 rfl rfl ?_
            refine ep_idiv d_M_emitNumber_29 (by decide) ?_
            refine ep_bipush (v := 10) d_M_emitNumber_30 (by decide) ?_
            refine ep_irem d_M_emitNumber_32 (by decide) ?_
            refine ep_iadd d_M_emitNumber_33 ?_
            refine ep_callVw2 (As := [.int (48 + ((v / 10000) - (v / 10000) / 10 * 10))]) (st := []) d_M_emitNumber_34 lk_M_105 cal_M_emit tm_M_emit ts_M_emit rfl rfl rfl (Nat.le_of_ble_eq_true rfl) (Nat.le_of_ble_eq_true rfl) rfl rfl (M_emit hd ho (48 + ((v / 10000) - (v / 10000) / 10 * 10))) (fun rI11 rA11 hd11 => ?_)
            refine ep_iload_n (j := 3) d_M_emitNumber_37 rfl rfl ?_
            refine ep_bipush (v := 10) d_M_emitNumber_38 (by decide) ?_
            refine ep_idiv d_M_emitNumber_40 (by decide) ?_
            refine ep_cg (y := 1000) (by decide) ?_
            refine ep_istore_n (lv' := [(0, .ref 16), (1, .int v), (2, .int 10000), (3, .int 1000)]) [1, 2, 3, 0] d_M_emitNumber_41 rfl (by decide) rfl ?_
            refine ep_goto (tgt := 20) d_M_emitNumber_42 (by decide) ?_
            refine ep_iload_n (j := 3) d_M_emitNumber_20 rfl rfl ?_
            refine ep_if_le (tgt := 45) d_M_emitNumber_21 (by decide) (fun z => absurd z (by decide)) (fun _ => ?_)
            refine ep_aload_n (j := 0) d_M_emitNumber_24 rfl rfl ?_
            refine ep_bipush (v := 48) d_M_emitNumber_25 (by decide) ?_
            refine ep_iload_n (j := 1) d_M_emitNumber_27 rfl rfl ?_
            refine ep_iload_n (j := 3) d_M_emitNumber_28 rfl rfl ?_
            refine ep_idiv d_M_emitNumber_29 (by decide) ?_
            refine ep_bipush (v := 10) d_M_emitNumber_30 (by decide) ?_
            refine ep_irem d_M_emitNumber_32 (by decide) ?_
            refine ep_iadd d_M_emitNumber_33 ?_
            refine ep_callVw2 (As := [.int (48 + ((v / 1000) - (v / 1000) / 10 * 10))]) (st := []) d_M_emitNumber_34 lk_M_105 cal_M_emit tm_M_emit ts_M_emit rfl rfl rfl (Nat.le_of_ble_eq_true rfl) (Nat.le_of_ble_eq_true rfl) rfl rfl (M_emit hd11 (eM_o ho) (48 + ((v / 1000) - (v / 1000) / 10 * 10))) (fun rI12 rA12 hd12 => ?_)
            refine ep_iload_n (j := 3) d_M_emitNumber_37 rfl rfl ?_
            refine ep_bipush (v := 10) d_M_emitNumber_38 (by decide) ?_
            refine ep_idiv d_M_emitNumber_40 (by decide) ?_
            refine ep_cg (y := 100) (by decide) ?_
            refine ep_istore_n (lv' := [(0, .ref 16), (1, .int v), (2, .int 10000), (3, .int 100)]) [1, 2, 3, 0] d_M_emitNumber_41 rfl (by decide) rfl ?_
            refine ep_goto (tgt := 20) d_M_emitNumber_42 (by decide) ?_
            refine ep_iload_n (j := 3) d_M_emitNumber_20 rfl rfl ?_
            refine ep_if_le (tgt := 45) d_M_emitNumber_21 (by decide) (fun z => absurd z (by decide)) (fun _ => ?_)
            refine ep_aload_n (j := 0) d_M_emitNumber_24 rfl rfl ?_
            refine ep_bipush (v := 48) d_M_emitNumber_25 (by decide) ?_
            refine ep_iload_n (j := 1) d_M_emitNumber_27 rfl rfl ?_
            refine ep_iload_n (j := 3) d_M_emitNumber_28 rfl rfl ?_
            refine ep_idiv d_M_emitNumber_29 (by decide) ?_
            refine ep_bipush (v := 10) d_M_emitNumber_30 (by decide) ?_
            refine ep_irem d_M_emitNumber_32 (by decide) ?_
            refine ep_iadd d_M_emitNumber_33 ?_
            refine ep_callVw2 (As := [.int (48 + ((v / 100) - (v / 100) / 10 * 10))]) (st := []) d_M_emitNumber_34 lk_M_105 cal_M_emit tm_M_emit ts_M_emit rfl rfl rfl (Nat.le_of_ble_eq_true rfl) (Nat.le_of_ble_eq_true rfl) rfl rfl (M_emit hd12 (eM_o (eM_o ho)) (48 + ((v / 100) - (v / 100) / 10 * 10))) (fun rI13 rA13 hd13 => ?_)
            refine ep_iload_n (j := 3) d_M_emitNumber_37 rfl rfl ?_
            refine ep_bipush (v := 10) d_M_emitNumber_38 (by decide) ?_
            refine ep_idiv d_M_emitNumber_40 (by decide) ?_
            refine ep_cg (y := 10) (by decide) ?_
            refine ep_istore_n (lv' := [(0, .ref 16), (1, .int v), (2, .int 10000), (3, .int 10)]) [1, 2, 3, 0] d_M_emitNumber_41 rfl (by decide) rfl ?_
            refine ep_goto (tgt := 20) d_M_emitNumber_42 (by decide) ?_
            refine ep_iload_n (j := 3) d_M_emitNumber_20 rfl rfl ?_
            refine ep_if_le (tgt := 45) d_M_emitNumber_21 (by decide) (fun z => absurd z (by decide)) (fun _ => ?_)
            refine ep_aload_n (j := 0) d_M_emitNumber_24 rfl rfl ?_
            refine ep_bipush (v := 48) d_M_emitNumber_25 (by decide) ?_
            refine ep_iload_n (j := 1) d_M_emitNumber_27 rfl rfl ?_
            refine ep_iload_n (j := 3) d_M_emitNumber_28 rfl rfl ?_
            refine ep_idiv d_M_emitNumber_29 (by decide) ?_
            refine ep_bipush (v := 10) d_M_emitNumber_30 (by decide) ?_
            refine ep_irem d_M_emitNumber_32 (by decide) ?_
            refine ep_iadd d_M_emitNumber_33 ?_
            refine ep_callVw2 (As := [.int (48 + ((v / 10) - (v / 10) / 10 * 10))]) (st := []) d_M_emitNumber_34 lk_M_105 cal_M_emit tm_M_emit ts_M_emit rfl rfl rfl (Nat.le_of_ble_eq_true rfl) (Nat.le_of_ble_eq_true rfl) rfl rfl (M_emit hd13 (eM_o (eM_o (eM_o ho))) (48 + ((v / 10) - (v / 10) / 10 * 10))) (fun rI14 rA14 hd14 => ?_)
            refine ep_iload_n (j := 3) d_M_emitNumber_37 rfl rfl ?_
            refine ep_bipush (v := 10) d_M_emitNumber_38 (by decide) ?_
            refine ep_idiv d_M_emitNumber_40 (by decide) ?_
            refine ep_cg (y := 1) (by decide) ?_
            refine ep_istore_n (lv' := [(0, .ref 16), (1, .int v), (2, .int 10000), (3, .int 1)]) [1, 2, 3, 0] d_M_emitNumber_41 rfl (by decide) rfl ?_
            refine ep_goto (tgt := 20) d_M_emitNumber_42 (by decide) ?_
            refine ep_iload_n (j := 3) d_M_emitNumber_20 rfl rfl ?_
            refine ep_if_le (tgt := 45) d_M_emitNumber_21 (by decide) (fun z => absurd z (by decide)) (fun _ => ?_)
            refine ep_aload_n (j := 0) d_M_emitNumber_24 rfl rfl ?_
            refine ep_bipush (v := 48) d_M_emitNumber_25 (by decide) ?_
            refine ep_iload_n (j := 1) d_M_emitNumber_27 rfl rfl ?_
            refine ep_iload_n (j := 3) d_M_emitNumber_28 rfl rfl ?_
            refine ep_idiv d_M_emitNumber_29 (by decide) ?_
            refine ep_bipush (v := 10) d_M_emitNumber_30 (by decide) ?_
            refine ep_irem d_M_emitNumber_32 (by decide) ?_
            refine ep_iadd d_M_emitNumber_33 ?_
            refine ep_callVw2 (As := [.int (48 + ((v / 1) - (v / 1) / 10 * 10))]) (st := []) d_M_emitNumber_34 lk_M_105 cal_M_emit tm_M_emit ts_M_emit rfl rfl rfl (Nat.le_of_ble_eq_true rfl) (Nat.le_of_ble_eq_true rfl) rfl rfl (M_emit hd14 (eM_o (eM_o (eM_o (eM_o ho)))) (48 + ((v / 1) - (v / 1) / 10 * 10))) (fun rI15 rA15 hd15 => ?_)
            refine ep_iload_n (j := 3) d_M_emitNumber_37 rfl rfl ?_
            refine ep_bipush (v := 10) d_M_emitNumber_38 (by decide) ?_
            refine ep_idiv d_M_emitNumber_40 (by decide) ?_
            refine ep_cg (y := 0) (by decide) ?_
            refine ep_istore_n (lv' := [(0, .ref 16), (1, .int v), (2, .int 10000), (3, .int 0)]) [1, 2, 3, 0] d_M_emitNumber_41 rfl (by decide) rfl ?_
            refine ep_goto (tgt := 20) d_M_emitNumber_42 (by decide) ?_
            refine ep_iload_n (j := 3) d_M_emitNumber_20 rfl rfl ?_
            refine ep_if_le (tgt := 45) d_M_emitNumber_21 (by decide) (fun _ => ?_) (fun z => absurd (by decide) z)
            exact ep_vret d_M_emitNumber_45 rfl (VP_ok rfl (by unfold nuM; rw [if_neg (fun u => u (Int32.not_le.mp c7)), if_neg (fun u => u (Int32.not_le.mp c7_)), if_neg (fun u => u (Int32.not_le.mp c7__)), if_neg (fun u => u (Int32.not_le.mp c7___)), if_pos (Int32.not_lt.mpr c7____)]; rfl) hd15)
          · refine ep_bipush (v := 10) d_M_emitNumber_10 (by decide) ?_
            refine ep_iload_n (j := 2) d_M_emitNumber_12 rfl rfl ?_
            refine ep_imul d_M_emitNumber_13 ?_
            refine ep_cg (y := 100000) (by decide) ?_
            refine ep_istore_n (lv' := [(0, .ref 16), (1, .int v), (2, .int 100000)]) [1, 2, 0] d_M_emitNumber_14 rfl (by decide) rfl ?_
            refine ep_goto (tgt := 2) d_M_emitNumber_15 (by decide) ?_
            refine ep_iload_n (j := 1) d_M_emitNumber_2 rfl rfl ?_
            refine ep_iload_n (j := 2) d_M_emitNumber_3 rfl rfl ?_
            refine ep_idiv d_M_emitNumber_4 (by decide) ?_
            refine ep_bipush (v := 9) d_M_emitNumber_5 (by decide) ?_
            refine ep_icmp_le (tgt := 18) d_M_emitNumber_7 (by decide) (fun _ => ?_) (fun z => absurd h6 z)
            refine ep_iload_n (j := 2) d_M_emitNumber_18 rfl rfl ?_
            refine ep_istore_n (lv' := [(0, .ref 16), (1, .int v), (2, .int 100000), (3, .int 100000)]) [1, 2, 3, 0] d_M_emitNumber_19 rfl (by decide) rfl ?_
            refine ep_iload_n (j := 3) d_M_emitNumber_20 rfl rfl ?_
            refine ep_if_le (tgt := 45) d_M_emitNumber_21 (by decide) (fun z => absurd z (by decide)) (fun _ => ?_)
            refine ep_aload_n (j := 0) d_M_emitNumber_24 rfl rfl ?_
            refine ep_bipush (v := 48) d_M_emitNumber_25 (by decide) ?_
            refine ep_iload_n (j := 1) d_M_emitNumber_27 rfl rfl ?_
            refine ep_iload_n (j := 3) d_M_emitNumber_28 rfl rfl ?_
            refine ep_idiv d_M_emitNumber_29 (by decide) ?_
            refine ep_bipush (v := 10) d_M_emitNumber_30 (by decide) ?_
            refine ep_irem d_M_emitNumber_32 (by decide) ?_
            refine ep_iadd d_M_emitNumber_33 ?_
            refine ep_callVw2 (As := [.int (48 + ((v / 100000) - (v / 100000) / 10 * 10))]) (st := []) d_M_emitNumber_34 lk_M_105 cal_M_emit tm_M_emit ts_M_emit rfl rfl rfl (Nat.le_of_ble_eq_true rfl) (Nat.le_of_ble_eq_true rfl) rfl rfl (M_emit hd ho (48 + ((v / 100000) - (v / 100000) / 10 * 10))) (fun rI16 rA16 hd16 => ?_)
            refine ep_iload_n (j := 3) d_M_emitNumber_37 rfl rfl ?_
            refine ep_bipush (v := 10) d_M_emitNumber_38 (by decide) ?_
            refine ep_idiv d_M_emitNumber_40 (by decide) ?_
            refine ep_cg (y := 10000) (by decide) ?_
            refine ep_istore_n (lv' := [(0, .ref 16), (1, .int v), (2, .int 100000), (3, .int 10000)]) [1, 2, 3, 0] d_M_emitNumber_41 rfl (by decide) rfl ?_
            refine ep_goto (tgt := 20) d_M_emitNumber_42 (by decide) ?_
            refine ep_iload_n (j := 3) d_M_emitNumber_20 rfl rfl ?_
            refine ep_if_le (tgt := 45) d_M_emitNumber_21 (by decide) (fun z => absurd z (by decide)) (fun _ => ?_)
            refine ep_aload_n (j := 0) d_M_emitNumber_24 rfl rfl ?_
            refine ep_bipush (v := 48) d_M_emitNumber_25 (by decide) ?_
            refine ep_iload_n (j := 1) d_M_emitNumber_27 rfl rfl ?_
            refine ep_iload_n (j := 3) d_M_emitNumber_28 rfl rfl ?_
            refine ep_idiv d_M_emitNumber_29 (by decide) ?_
            refine ep_bipush (v := 10) d_M_emitNumber_30 (by decide) ?_
            refine ep_irem d_M_emitNumber_32 (by decide) ?_
            refine ep_iadd d_M_emitNumber_33 ?_
            refine ep_callVw2 (As := [.int (48 + ((v / 10000) - (v / 10000) / 10 * 10))]) (st := []) d_M_emitNumber_34 lk_M_105 cal_M_emit tm_M_emit ts_M_emit rfl rfl rfl (Nat.le_of_ble_eq_true rfl) (Nat.le_of_ble_eq_true rfl) rfl rfl (M_emit hd16 (eM_o ho) (48 + ((v / 10000) - (v / 10000) / 10 * 10))) (fun rI17 rA17 hd17 => ?_)
            refine ep_iload_n (j := 3) d_M_emitNumber_37 rfl rfl ?_
            refine ep_bipush (v := 10) d_M_emitNumber_38 (by decide) ?_
            refine ep_idiv d_M_emitNumber_40 (by decide) ?_
            refine ep_cg (y := 1000) (by decide) ?_
            refine ep_istore_n (lv' := [(0, .ref 16), (1, .int v), (2, .int 100000), (3, .int 1000)]) [1, 2, 3, 0] d_M_emitNumber_41 rfl (by decide) rfl ?_
            refine ep_goto (tgt := 20) d_M_emitNumber_42 (by decide) ?_
            refine ep_iload_n (j := 3) d_M_emitNumber_20 rfl rfl ?_
            refine ep_if_le (tgt := 45) d_M_emitNumber_21 (by decide) (fun z => absurd z (by decide)) (fun _ => ?_)
            refine ep_aload_n (j := 0) d_M_emitNumber_24 rfl rfl ?_
            refine ep_bipush (v := 48) d_M_emitNumber_25 (by decide) ?_
            refine ep_iload_n (j := 1) d_M_emitNumber_27 rfl rfl ?_
            refine ep_iload_n (j := 3) d_M_emitNumber_28 rfl rfl ?_
            refine ep_idiv d_M_emitNumber_29 (by decide) ?_
            refine ep_bipush (v := 10) d_M_emitNumber_30 (by decide) ?_
            refine ep_irem d_M_emitNumber_32 (by decide) ?_
            refine ep_iadd d_M_emitNumber_33 ?_
            refine ep_callVw2 (As := [.int (48 + ((v / 1000) - (v / 1000) / 10 * 10))]) (st := []) d_M_emitNumber_34 lk_M_105 cal_M_emit tm_M_emit ts_M_emit rfl rfl rfl (Nat.le_of_ble_eq_true rfl) (Nat.le_of_ble_eq_true rfl) rfl rfl (M_emit hd17 (eM_o (eM_o ho)) (48 + ((v / 1000) - (v / 1000) / 10 * 10))) (fun rI18 rA18 hd18 => ?_)
            refine ep_iload_n (j := 3) d_M_emitNumber_37 rfl rfl ?_
            refine ep_bipush (v := 10) d_M_emitNumber_38 (by decide) ?_
            refine ep_idiv d_M_emitNumber_40 (by decide) ?_
            refine ep_cg (y := 100) (by decide) ?_
            refine ep_istore_n (lv' := [(0, .ref 16), (1, .int v), (2, .int 100000), (3, .int 100)]) [1, 2, 3, 0] d_M_emitNumber_41 rfl (by decide) rfl ?_
            refine ep_goto (tgt := 20) d_M_emitNumber_42 (by decide) ?_
            refine ep_iload_n (j := 3) d_M_emitNumber_20 rfl rfl ?_
            refine ep_if_le (tgt := 45) d_M_emitNumber_21 (by decide) (fun z => absurd z (by decide)) (fun _ => ?_)
            refine ep_aload_n (j := 0) d_M_emitNumber_24 rfl rfl ?_
            refine ep_bipush (v := 48) d_M_emitNumber_25 (by decide) ?_
            refine ep_iload_n (j := 1) d_M_emitNumber_27 rfl rfl ?_
            refine ep_iload_n (j := 3) d_M_emitNumber_28 rfl rfl ?_
            refine ep_idiv d_M_emitNumber_29 (by decide) ?_
            refine ep_bipush (v := 10) d_M_emitNumber_30 (by decide) ?_
            refine ep_irem d_M_emitNumber_32 (by decide) ?_
            refine ep_iadd d_M_emitNumber_33 ?_
            refine ep_callVw2 (As := [.int (48 + ((v / 100) - (v / 100) / 10 * 10))]) (st := []) d_M_emitNumber_34 lk_M_105 cal_M_emit tm_M_emit ts_M_emit rfl rfl rfl (Nat.le_of_ble_eq_true rfl) (Nat.le_of_ble_eq_true rfl) rfl rfl (M_emit hd18 (eM_o (eM_o (eM_o ho))) (48 + ((v / 100) - (v / 100) / 10 * 10))) (fun rI19 rA19 hd19 => ?_)
            refine ep_iload_n (j := 3) d_M_emitNumber_37 rfl rfl ?_
            refine ep_bipush (v := 10) d_M_emitNumber_38 (by decide) ?_
            refine ep_idiv d_M_emitNumber_40 (by decide) ?_
            refine ep_cg (y := 10) (by decide) ?_
            refine ep_istore_n (lv' := [(0, .ref 16), (1, .int v), (2, .int 100000), (3, .int 10)]) [1, 2, 3, 0] d_M_emitNumber_41 rfl (by decide) rfl ?_
            refine ep_goto (tgt := 20) d_M_emitNumber_42 (by decide) ?_
            refine ep_iload_n (j := 3) d_M_emitNumber_20 rfl rfl ?_
            refine ep_if_le (tgt := 45) d_M_emitNumber_21 (by decide) (fun z => absurd z (by decide)) (fun _ => ?_)
            refine ep_aload_n (j := 0) d_M_emitNumber_24 rfl rfl ?_
            refine ep_bipush (v := 48) d_M_emitNumber_25 (by decide) ?_
            refine ep_iload_n (j := 1) d_M_emitNumber_27 rfl rfl ?_
            refine ep_iload_n (j := 3) d_M_emitNumber_28 rfl rfl ?_
            refine ep_idiv d_M_emitNumber_29 (by decide) ?_
            refine ep_bipush (v := 10) d_M_emitNumber_30 (by decide) ?_
            refine ep_irem d_M_emitNumber_32 (by decide) ?_
            refine ep_iadd d_M_emitNumber_33 ?_
            refine ep_callVw2 (As := [.int (48 + ((v / 10) - (v / 10) / 10 * 10))]) (st := []) d_M_emitNumber_34 lk_M_105 cal_M_emit tm_M_emit ts_M_emit rfl rfl rfl (Nat.le_of_ble_eq_true rfl) (Nat.le_of_ble_eq_true rfl) rfl rfl (M_emit hd19 (eM_o (eM_o (eM_o (eM_o ho)))) (48 + ((v / 10) - (v / 10) / 10 * 10))) (fun rI20 rA20 hd20 => ?_)
            refine ep_iload_n (j := 3) d_M_emitNumber_37 rfl rfl ?_
            refine ep_bipush (v := 10) d_M_emitNumber_38 (by decide) ?_
            refine ep_idiv d_M_emitNumber_40 (by decide) ?_
            refine ep_cg (y := 1) (by decide) ?_
            refine ep_istore_n (lv' := [(0, .ref 16), (1, .int v), (2, .int 100000), (3, .int 1)]) [1, 2, 3, 0] d_M_emitNumber_41 rfl (by decide) rfl ?_
            refine ep_goto (tgt := 20) d_M_emitNumber_42 (by decide) ?_
            refine ep_iload_n (j := 3) d_M_emitNumber_20 rfl rfl ?_
            refine ep_if_le (tgt := 45) d_M_emitNumber_21 (by decide) (fun z => absurd z (by decide)) (fun _ => ?_)
            refine ep_aload_n (j := 0) d_M_emitNumber_24 rfl rfl ?_
            refine ep_bipush (v := 48) d_M_emitNumber_25 (by decide) ?_
            refine ep_iload_n (j := 1) d_M_emitNumber_27 rfl rfl ?_
            refine ep_iload_n (j := 3) d_M_emitNumber_28 rfl rfl ?_
            refine ep_idiv d_M_emitNumber_29 (by decide) ?_
            refine ep_bipush (v := 10) d_M_emitNumber_30 (by decide) ?_
            refine ep_irem d_M_emitNumber_32 (by decide) ?_
            refine ep_iadd d_M_emitNumber_33 ?_
            refine ep_callVw2 (As := [.int (48 + ((v / 1) - (v / 1) / 10 * 10))]) (st := []) d_M_emitNumber_34 lk_M_105 cal_M_emit tm_M_emit ts_M_emit rfl rfl rfl (Nat.le_of_ble_eq_true rfl) (Nat.le_of_ble_eq_true rfl) rfl rfl (M_emit hd20 (eM_o (eM_o (eM_o (eM_o (eM_o ho))))) (48 + ((v / 1) - (v / 1) / 10 * 10))) (fun rI21 rA21 hd21 => ?_)
            refine ep_iload_n (j := 3) d_M_emitNumber_37 rfl rfl ?_
            refine ep_bipush (v := 10) d_M_emitNumber_38 (by decide) ?_
            refine ep_idiv d_M_emitNumber_40 (by decide) ?_
            refine ep_cg (y := 0) (by decide) ?_
            refine ep_istore_n (lv' := [(0, .ref 16), (1, .int v), (2, .int 100000), (3, .int 0)]) [1, 2, 3, 0] d_M_emitNumber_41 rfl (by decide) rfl ?_
            refine ep_goto (tgt := 20) d_M_emitNumber_42 (by decide) ?_
            refine ep_iload_n (j := 3) d_M_emitNumber_20 rfl rfl ?_
            refine ep_if_le (tgt := 45) d_M_emitNumber_21 (by decide) (fun _ => ?_) (fun z => absurd (by decide) z)
            exact ep_vret d_M_emitNumber_45 rfl (VP_ok rfl (by unfold nuM; rw [if_neg (fun u => u (Int32.not_le.mp c7)), if_neg (fun u => u (Int32.not_le.mp c7_)), if_neg (fun u => u (Int32.not_le.mp c7__)), if_neg (fun u => u (Int32.not_le.mp c7___)), if_neg (fun u => u (Int32.not_le.mp c7____))]; rfl) hd21)
set_option maxHeartbeats 4000000 in
set_option maxRecDepth 100000 in
theorem M_emitId (hd : MV S rI rA w) (ho : w.O.length ≤ 120) (v : Int32) : EvP m_M_emitId (d + 1) 0 [(0, .ref 16), (1, .int v)] [] (HC X cI cA rI rA ol J) (VP X cI cA ol J S none (eL (idM v) w)) := by
  refine ep_aload_n (j := 0) d_M_emitId_0 rfl rfl ?_
  refine ep_join (pc2 := 26) (lv2 := [(0, .ref 16), (1, .int v)]) (st2 := [.int (if 65535 < v then 51 else if 255 < v then 50 else 49), .ref 16]) ?_ (fun k26 => ?_)
  · refine ep_callVw2 (As := [.int (if 65535 < v then 51 else if 255 < v then 50 else 49)]) (st := []) d_M_emitId_26 lk_M_105 cal_M_emit tm_M_emit ts_M_emit rfl rfl rfl (Nat.le_of_ble_eq_true rfl) (Nat.le_of_ble_eq_true rfl) rfl rfl (M_emit hd ho (if 65535 < v then 51 else if 255 < v then 50 else 49)) (fun rI1 rA1 hd1 => ?_)
    refine ep_iconst (v := 2) d_M_emitId_29 (by decide) ?_
    refine ep_istore_n (lv' := [(0, .ref 16), (1, .int v), (2, .int 2)]) [1, 2, 0] d_M_emitId_30 rfl (by decide) rfl ?_
    refine ep_iload_n (j := 2) d_M_emitId_31 rfl rfl ?_
    refine ep_if_lt (tgt := 61) d_M_emitId_32 (by decide) (fun z => absurd z (by decide)) (fun _ => ?_)
    refine ep_iload_n (j := 1) d_M_emitId_35 rfl rfl ?_
    refine ep_bipush (v := 8) d_M_emitId_36 (by decide) ?_
    refine ep_iload_n (j := 2) d_M_emitId_38 rfl rfl ?_
    refine ep_imul d_M_emitId_39 ?_
    refine ep_cg (y := 16) (by decide) ?_
    refine ep_ishr d_M_emitId_40 ?_
    refine ep_sipush (v := 255) d_M_emitId_41 (by decide) ?_
    refine ep_iand d_M_emitId_44 ?_
    refine ep_istore_n (lv' := [(0, .ref 16), (1, .int v), (2, .int 2), (3, .int ((v >>> (16 &&& 31)) &&& 255))]) [1, 2, 3, 0] d_M_emitId_45 rfl (by decide) rfl ?_
    refine ep_iload_n (j := 3) d_M_emitId_46 rfl rfl ?_
    refine ep_if_eq (tgt := 55) d_M_emitId_47 (by decide) (fun c47 => ?_) (fun c47 => ?_)
    · refine ep_iinc (v := 1) (j := 2) (lv' := [(0, .ref 16), (1, .int v), (2, .int 1), (3, .int ((v >>> (16 &&& 31)) &&& 255))]) [1, 2, 0, 3] d_M_emitId_55 rfl (by decide) (by decide) rfl ?_
      refine ep_goto (tgt := 31) d_M_emitId_58 (by decide) ?_
      refine ep_iload_n (j := 2) d_M_emitId_31 rfl rfl ?_
      refine ep_if_lt (tgt := 61) d_M_emitId_32 (by decide) (fun z => absurd z (by decide)) (fun _ => ?_)
      refine ep_iload_n (j := 1) d_M_emitId_35 rfl rfl ?_
      refine ep_bipush (v := 8) d_M_emitId_36 (by decide) ?_
      refine ep_iload_n (j := 2) d_M_emitId_38 rfl rfl ?_
      refine ep_imul d_M_emitId_39 ?_
      refine ep_cg (y := 8) (by decide) ?_
      refine ep_ishr d_M_emitId_40 ?_
      refine ep_sipush (v := 255) d_M_emitId_41 (by decide) ?_
      refine ep_iand d_M_emitId_44 ?_
      refine ep_istore_n (lv' := [(0, .ref 16), (1, .int v), (2, .int 1), (3, .int ((v >>> (8 &&& 31)) &&& 255))]) [1, 2, 3, 0] d_M_emitId_45 rfl (by decide) rfl ?_
      refine ep_iload_n (j := 3) d_M_emitId_46 rfl rfl ?_
      refine ep_if_eq (tgt := 55) d_M_emitId_47 (by decide) (fun c47_ => ?_) (fun c47_ => ?_)
      · refine ep_iinc (v := 0) (j := 2) (lv' := [(0, .ref 16), (1, .int v), (2, .int 0), (3, .int ((v >>> (8 &&& 31)) &&& 255))]) [1, 2, 0, 3] d_M_emitId_55 rfl (by decide) (by decide) rfl ?_
        refine ep_goto (tgt := 31) d_M_emitId_58 (by decide) ?_
        refine ep_iload_n (j := 2) d_M_emitId_31 rfl rfl ?_
        refine ep_if_lt (tgt := 61) d_M_emitId_32 (by decide) (fun z => absurd z (by decide)) (fun _ => ?_)
        refine ep_iload_n (j := 1) d_M_emitId_35 rfl rfl ?_
        refine ep_bipush (v := 8) d_M_emitId_36 (by decide) ?_
        refine ep_iload_n (j := 2) d_M_emitId_38 rfl rfl ?_
        refine ep_imul d_M_emitId_39 ?_
        refine ep_cg (y := 0) (by decide) ?_
        refine ep_ishr d_M_emitId_40 ?_
        refine ep_sipush (v := 255) d_M_emitId_41 (by decide) ?_
        refine ep_iand d_M_emitId_44 ?_
        refine ep_istore_n (lv' := [(0, .ref 16), (1, .int v), (2, .int 0), (3, .int ((v >>> (0 &&& 31)) &&& 255))]) [1, 2, 3, 0] d_M_emitId_45 rfl (by decide) rfl ?_
        refine ep_iload_n (j := 3) d_M_emitId_46 rfl rfl ?_
        refine ep_if_eq (tgt := 55) d_M_emitId_47 (by decide) (fun c47__ => ?_) (fun c47__ => ?_)
        · refine ep_iinc (v := (-1)) (j := 2) (lv' := [(0, .ref 16), (1, .int v), (2, .int (-1)), (3, .int ((v >>> (0 &&& 31)) &&& 255))]) [1, 2, 0, 3] d_M_emitId_55 rfl (by decide) (by decide) rfl ?_
          refine ep_goto (tgt := 31) d_M_emitId_58 (by decide) ?_
          refine ep_iload_n (j := 2) d_M_emitId_31 rfl rfl ?_
          refine ep_if_lt (tgt := 61) d_M_emitId_32 (by decide) (fun _ => ?_) (fun z => absurd (by decide) z)
          exact ep_vret d_M_emitId_61 rfl (VP_ok rfl (by unfold idM nz; rw [if_pos c47, if_pos c47_, if_pos c47__]; rfl) hd1)
        · refine ep_aload_n (j := 0) d_M_emitId_50 rfl rfl ?_
          refine ep_iload_n (j := 3) d_M_emitId_51 rfl rfl ?_
          refine ep_callVw2 (As := [.int ((v >>> (0 &&& 31)) &&& 255)]) (st := []) d_M_emitId_52 lk_M_105 cal_M_emit tm_M_emit ts_M_emit rfl rfl rfl (Nat.le_of_ble_eq_true rfl) (Nat.le_of_ble_eq_true rfl) rfl rfl (M_emit hd1 (eM_o ho) ((v >>> (0 &&& 31)) &&& 255)) (fun rI2 rA2 hd2 => ?_)
          refine ep_iinc (v := (-1)) (j := 2) (lv' := [(0, .ref 16), (1, .int v), (2, .int (-1)), (3, .int ((v >>> (0 &&& 31)) &&& 255))]) [1, 2, 0, 3] d_M_emitId_55 rfl (by decide) (by decide) rfl ?_
          refine ep_goto (tgt := 31) d_M_emitId_58 (by decide) ?_
          refine ep_iload_n (j := 2) d_M_emitId_31 rfl rfl ?_
          refine ep_if_lt (tgt := 61) d_M_emitId_32 (by decide) (fun _ => ?_) (fun z => absurd (by decide) z)
          exact ep_vret d_M_emitId_61 rfl (VP_ok rfl (by unfold idM nz; rw [if_pos c47, if_pos c47_, if_neg c47__]; rfl) hd2)
      · refine ep_aload_n (j := 0) d_M_emitId_50 rfl rfl ?_
        refine ep_iload_n (j := 3) d_M_emitId_51 rfl rfl ?_
        refine ep_callVw2 (As := [.int ((v >>> (8 &&& 31)) &&& 255)]) (st := []) d_M_emitId_52 lk_M_105 cal_M_emit tm_M_emit ts_M_emit rfl rfl rfl (Nat.le_of_ble_eq_true rfl) (Nat.le_of_ble_eq_true rfl) rfl rfl (M_emit hd1 (eM_o ho) ((v >>> (8 &&& 31)) &&& 255)) (fun rI3 rA3 hd3 => ?_)
        refine ep_iinc (v := 0) (j := 2) (lv' := [(0, .ref 16), (1, .int v), (2, .int 0), (3, .int ((v >>> (8 &&& 31)) &&& 255))]) [1, 2, 0, 3] d_M_emitId_55 rfl (by decide) (by decide) rfl ?_
        refine ep_goto (tgt := 31) d_M_emitId_58 (by decide) ?_
        refine ep_iload_n (j := 2) d_M_emitId_31 rfl rfl ?_
        refine ep_if_lt (tgt := 61) d_M_emitId_32 (by decide) (fun z => absurd z (by decide)) (fun _ => ?_)
        refine ep_iload_n (j := 1) d_M_emitId_35 rfl rfl ?_
        refine ep_bipush (v := 8) d_M_emitId_36 (by decide) ?_
        refine ep_iload_n (j := 2) d_M_emitId_38 rfl rfl ?_
        refine ep_imul d_M_emitId_39 ?_
        refine ep_cg (y := 0) (by decide) ?_
        refine ep_ishr d_M_emitId_40 ?_
        refine ep_sipush (v := 255) d_M_emitId_41 (by decide) ?_
        refine ep_iand d_M_emitId_44 ?_
        refine ep_istore_n (lv' := [(0, .ref 16), (1, .int v), (2, .int 0), (3, .int ((v >>> (0 &&& 31)) &&& 255))]) [1, 2, 3, 0] d_M_emitId_45 rfl (by decide) rfl ?_
        refine ep_iload_n (j := 3) d_M_emitId_46 rfl rfl ?_
        refine ep_if_eq (tgt := 55) d_M_emitId_47 (by decide) (fun c47__ => ?_) (fun c47__ => ?_)
        · refine ep_iinc (v := (-1)) (j := 2) (lv' := [(0, .ref 16), (1, .int v), (2, .int (-1)), (3, .int ((v >>> (0 &&& 31)) &&& 255))]) [1, 2, 0, 3] d_M_emitId_55 rfl (by decide) (by decide) rfl ?_
          refine ep_goto (tgt := 31) d_M_emitId_58 (by decide) ?_
          refine ep_iload_n (j := 2) d_M_emitId_31 rfl rfl ?_
          refine ep_if_lt (tgt := 61) d_M_emitId_32 (by decide) (fun _ => ?_) (fun z => absurd (by decide) z)
          exact ep_vret d_M_emitId_61 rfl (VP_ok rfl (by unfold idM nz; rw [if_pos c47, if_neg c47_, if_pos c47__]; rfl) hd3)
        · refine ep_aload_n (j := 0) d_M_emitId_50 rfl rfl ?_
          refine ep_iload_n (j := 3) d_M_emitId_51 rfl rfl ?_
          refine ep_callVw2 (As := [.int ((v >>> (0 &&& 31)) &&& 255)]) (st := []) d_M_emitId_52 lk_M_105 cal_M_emit tm_M_emit ts_M_emit rfl rfl rfl (Nat.le_of_ble_eq_true rfl) (Nat.le_of_ble_eq_true rfl) rfl rfl (M_emit hd3 (eM_o (eM_o ho)) ((v >>> (0 &&& 31)) &&& 255)) (fun rI4 rA4 hd4 => ?_)
          refine ep_iinc (v := (-1)) (j := 2) (lv' := [(0, .ref 16), (1, .int v), (2, .int (-1)), (3, .int ((v >>> (0 &&& 31)) &&& 255))]) [1, 2, 0, 3] d_M_emitId_55 rfl (by decide) (by decide) rfl ?_
          refine ep_goto (tgt := 31) d_M_emitId_58 (by decide) ?_
          refine ep_iload_n (j := 2) d_M_emitId_31 rfl rfl ?_
          refine ep_if_lt (tgt := 61) d_M_emitId_32 (by decide) (fun _ => ?_) (fun z => absurd (by decide) z)
          exact ep_vret d_M_emitId_61 rfl (VP_ok rfl (by unfold idM nz; rw [if_pos c47, if_neg c47_, if_neg c47__]; rfl) hd4)
    · refine ep_aload_n (j := 0) d_M_emitId_50 rfl rfl ?_
      refine ep_iload_n (j := 3) d_M_emitId_51 rfl rfl ?_
      refine ep_callVw2 (As := [.int ((v >>> (16 &&& 31)) &&& 255)]) (st := []) d_M_emitId_52 lk_M_105 cal_M_emit tm_M_emit ts_M_emit rfl rfl rfl (Nat.le_of_ble_eq_true rfl) (Nat.le_of_ble_eq_true rfl) rfl rfl (M_emit hd1 (eM_o ho) ((v >>> (16 &&& 31)) &&& 255)) (fun rI5 rA5 hd5 => ?_)
      refine ep_iinc (v := 1) (j := 2) (lv' := [(0, .ref 16), (1, .int v), (2, .int 1), (3, .int ((v >>> (16 &&& 31)) &&& 255))]) [1, 2, 0, 3] d_M_emitId_55 rfl (by decide) (by decide) rfl ?_
      refine ep_goto (tgt := 31) d_M_emitId_58 (by decide) ?_
      refine ep_iload_n (j := 2) d_M_emitId_31 rfl rfl ?_
      refine ep_if_lt (tgt := 61) d_M_emitId_32 (by decide) (fun z => absurd z (by decide)) (fun _ => ?_)
      refine ep_iload_n (j := 1) d_M_emitId_35 rfl rfl ?_
      refine ep_bipush (v := 8) d_M_emitId_36 (by decide) ?_
      refine ep_iload_n (j := 2) d_M_emitId_38 rfl rfl ?_
      refine ep_imul d_M_emitId_39 ?_
      refine ep_cg (y := 8) (by decide) ?_
      refine ep_ishr d_M_emitId_40 ?_
      refine ep_sipush (v := 255) d_M_emitId_41 (by decide) ?_
      refine ep_iand d_M_emitId_44 ?_
      refine ep_istore_n (lv' := [(0, .ref 16), (1, .int v), (2, .int 1), (3, .int ((v >>> (8 &&& 31)) &&& 255))]) [1, 2, 3, 0] d_M_emitId_45 rfl (by decide) rfl ?_
      refine ep_iload_n (j := 3) d_M_emitId_46 rfl rfl ?_
      refine ep_if_eq (tgt := 55) d_M_emitId_47 (by decide) (fun c47_ => ?_) (fun c47_ => ?_)
      · refine ep_iinc (v := 0) (j := 2) (lv' := [(0, .ref 16), (1, .int v), (2, .int 0), (3, .int ((v >>> (8 &&& 31)) &&& 255))]) [1, 2, 0, 3] d_M_emitId_55 rfl (by decide) (by decide) rfl ?_
        refine ep_goto (tgt := 31) d_M_emitId_58 (by decide) ?_
        refine ep_iload_n (j := 2) d_M_emitId_31 rfl rfl ?_
        refine ep_if_lt (tgt := 61) d_M_emitId_32 (by decide) (fun z => absurd z (by decide)) (fun _ => ?_)
        refine ep_iload_n (j := 1) d_M_emitId_35 rfl rfl ?_
        refine ep_bipush (v := 8) d_M_emitId_36 (by decide) ?_
        refine ep_iload_n (j := 2) d_M_emitId_38 rfl rfl ?_
        refine ep_imul d_M_emitId_39 ?_
        refine ep_cg (y := 0) (by decide) ?_
        refine ep_ishr d_M_emitId_40 ?_
        refine ep_sipush (v := 255) d_M_emitId_41 (by decide) ?_
        refine ep_iand d_M_emitId_44 ?_
        refine ep_istore_n (lv' := [(0, .ref 16), (1, .int v), (2, .int 0), (3, .int ((v >>> (0 &&& 31)) &&& 255))]) [1, 2, 3, 0] d_M_emitId_45 rfl (by decide) rfl ?_
        refine ep_iload_n (j := 3) d_M_emitId_46 rfl rfl ?_
        refine ep_if_eq (tgt := 55) d_M_emitId_47 (by decide) (fun c47__ => ?_) (fun c47__ => ?_)
        · refine ep_iinc (v := (-1)) (j := 2) (lv' := [(0, .ref 16), (1, .int v), (2, .int (-1)), (3, .int ((v >>> (0 &&& 31)) &&& 255))]) [1, 2, 0, 3] d_M_emitId_55 rfl (by decide) (by decide) rfl ?_
          refine ep_goto (tgt := 31) d_M_emitId_58 (by decide) ?_
          refine ep_iload_n (j := 2) d_M_emitId_31 rfl rfl ?_
          refine ep_if_lt (tgt := 61) d_M_emitId_32 (by decide) (fun _ => ?_) (fun z => absurd (by decide) z)
          exact ep_vret d_M_emitId_61 rfl (VP_ok rfl (by unfold idM nz; rw [if_neg c47, if_pos c47_, if_pos c47__]; rfl) hd5)
        · refine ep_aload_n (j := 0) d_M_emitId_50 rfl rfl ?_
          refine ep_iload_n (j := 3) d_M_emitId_51 rfl rfl ?_
          refine ep_callVw2 (As := [.int ((v >>> (0 &&& 31)) &&& 255)]) (st := []) d_M_emitId_52 lk_M_105 cal_M_emit tm_M_emit ts_M_emit rfl rfl rfl (Nat.le_of_ble_eq_true rfl) (Nat.le_of_ble_eq_true rfl) rfl rfl (M_emit hd5 (eM_o (eM_o ho)) ((v >>> (0 &&& 31)) &&& 255)) (fun rI6 rA6 hd6 => ?_)
          refine ep_iinc (v := (-1)) (j := 2) (lv' := [(0, .ref 16), (1, .int v), (2, .int (-1)), (3, .int ((v >>> (0 &&& 31)) &&& 255))]) [1, 2, 0, 3] d_M_emitId_55 rfl (by decide) (by decide) rfl ?_
          refine ep_goto (tgt := 31) d_M_emitId_58 (by decide) ?_
          refine ep_iload_n (j := 2) d_M_emitId_31 rfl rfl ?_
          refine ep_if_lt (tgt := 61) d_M_emitId_32 (by decide) (fun _ => ?_) (fun z => absurd (by decide) z)
          exact ep_vret d_M_emitId_61 rfl (VP_ok rfl (by unfold idM nz; rw [if_neg c47, if_pos c47_, if_neg c47__]; rfl) hd6)
      · refine ep_aload_n (j := 0) d_M_emitId_50 rfl rfl ?_
        refine ep_iload_n (j := 3) d_M_emitId_51 rfl rfl ?_
        refine ep_callVw2 (As := [.int ((v >>> (8 &&& 31)) &&& 255)]) (st := []) d_M_emitId_52 lk_M_105 cal_M_emit tm_M_emit ts_M_emit rfl rfl rfl (Nat.le_of_ble_eq_true rfl) (Nat.le_of_ble_eq_true rfl) rfl rfl (M_emit hd5 (eM_o (eM_o ho)) ((v >>> (8 &&& 31)) &&& 255)) (fun rI7 rA7 hd7 => ?_)
        refine ep_iinc (v := 0) (j := 2) (lv' := [(0, .ref 16), (1, .int v), (2, .int 0), (3, .int ((v >>> (8 &&& 31)) &&& 255))]) [1, 2, 0, 3] d_M_emitId_55 rfl (by decide) (by decide) rfl ?_
        refine ep_goto (tgt := 31) d_M_emitId_58 (by decide) ?_
        refine ep_iload_n (j := 2) d_M_emitId_31 rfl rfl ?_
        refine ep_if_lt (tgt := 61) d_M_emitId_32 (by decide) (fun z => absurd z (by decide)) (fun _ => ?_)
        refine ep_iload_n (j := 1) d_M_emitId_35 rfl rfl ?_
        refine ep_bipush (v := 8) d_M_emitId_36 (by decide) ?_
        refine ep_iload_n (j := 2) d_M_emitId_38 rfl rfl ?_
        refine ep_imul d_M_emitId_39 ?_
        refine ep_cg (y := 0) (by decide) ?_
        refine ep_ishr d_M_emitId_40 ?_
        refine ep_sipush (v := 255) d_M_emitId_41 (by decide) ?_
        refine ep_iand d_M_emitId_44 ?_
        refine ep_istore_n (lv' := [(0, .ref 16), (1, .int v), (2, .int 0), (3, .int ((v >>> (0 &&& 31)) &&& 255))]) [1, 2, 3, 0] d_M_emitId_45 rfl (by decide) rfl ?_
        refine ep_iload_n (j := 3) d_M_emitId_46 rfl rfl ?_
        refine ep_if_eq (tgt := 55) d_M_emitId_47 (by decide) (fun c47__ => ?_) (fun c47__ => ?_)
        · refine ep_iinc (v := (-1)) (j := 2) (lv' := [(0, .ref 16), (1, .int v), (2, .int (-1)), (3, .int ((v >>> (0 &&& 31)) &&& 255))]) [1, 2, 0, 3] d_M_emitId_55 rfl (by decide) (by decide) rfl ?_
          refine ep_goto (tgt := 31) d_M_emitId_58 (by decide) ?_
          refine ep_iload_n (j := 2) d_M_emitId_31 rfl rfl ?_
          refine ep_if_lt (tgt := 61) d_M_emitId_32 (by decide) (fun _ => ?_) (fun z => absurd (by decide) z)
          exact ep_vret d_M_emitId_61 rfl (VP_ok rfl (by unfold idM nz; rw [if_neg c47, if_neg c47_, if_pos c47__]; rfl) hd7)
        · refine ep_aload_n (j := 0) d_M_emitId_50 rfl rfl ?_
          refine ep_iload_n (j := 3) d_M_emitId_51 rfl rfl ?_
          refine ep_callVw2 (As := [.int ((v >>> (0 &&& 31)) &&& 255)]) (st := []) d_M_emitId_52 lk_M_105 cal_M_emit tm_M_emit ts_M_emit rfl rfl rfl (Nat.le_of_ble_eq_true rfl) (Nat.le_of_ble_eq_true rfl) rfl rfl (M_emit hd7 (eM_o (eM_o (eM_o ho))) ((v >>> (0 &&& 31)) &&& 255)) (fun rI8 rA8 hd8 => ?_)
          refine ep_iinc (v := (-1)) (j := 2) (lv' := [(0, .ref 16), (1, .int v), (2, .int (-1)), (3, .int ((v >>> (0 &&& 31)) &&& 255))]) [1, 2, 0, 3] d_M_emitId_55 rfl (by decide) (by decide) rfl ?_
          refine ep_goto (tgt := 31) d_M_emitId_58 (by decide) ?_
          refine ep_iload_n (j := 2) d_M_emitId_31 rfl rfl ?_
          refine ep_if_lt (tgt := 61) d_M_emitId_32 (by decide) (fun _ => ?_) (fun z => absurd (by decide) z)
          exact ep_vret d_M_emitId_61 rfl (VP_ok rfl (by unfold idM nz; rw [if_neg c47, if_neg c47_, if_neg c47__]; rfl) hd8)
  · refine ep_iload_n (j := 1) d_M_emitId_1 rfl rfl ?_
    refine ep_ldc (v := 65535) d_M_emitId_2 ln_M_109 ?_
    refine ep_icmp_le (tgt := 12) d_M_emitId_4 (by decide) (fun c4 => ?_) (fun c4 => ?_)
    · refine ep_iload_n (j := 1) d_M_emitId_12 rfl rfl ?_
      refine ep_sipush (v := 255) d_M_emitId_13 (by decide) ?_
      refine ep_icmp_le (tgt := 24) d_M_emitId_16 (by decide) (fun c16 => ?_) (fun c16 => ?_)
      · refine ep_bipush (v := 49) d_M_emitId_24 (by decide) ?_
        refine ep_cg (y := if 65535 < v then 51 else if 255 < v then 50 else 49) (by rw [if_neg (Int32.not_lt.mpr c4), if_neg (Int32.not_lt.mpr c16)]) ?_
        exact k26
      · refine ep_bipush (v := 50) d_M_emitId_19 (by decide) ?_
        refine ep_goto (tgt := 26) d_M_emitId_21 (by decide) ?_
        refine ep_cg (y := if 65535 < v then 51 else if 255 < v then 50 else 49) (by rw [if_neg (Int32.not_lt.mpr c4), if_pos (Int32.not_le.mp c16)]) ?_
        exact k26
    · refine ep_bipush (v := 51) d_M_emitId_7 (by decide) ?_
      refine ep_goto (tgt := 26) d_M_emitId_9 (by decide) ?_
      refine ep_cg (y := if 65535 < v then 51 else if 255 < v then 50 else 49) ((if_pos (Int32.not_le.mp c4)).symm) ?_
      exact k26
end MWA
