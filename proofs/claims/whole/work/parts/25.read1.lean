/-! the reader, method by method; by program (wip/whole/gen25.py) -/
section RD
variable {d : Nat} {X : Nat × (Nat → Int32)} {cI : Nat → Int32} {cA : Nat → Nat → Int32} {rI : Nat → Int32} {rA : Nat → Nat → Int32} {ol : Int64} {J : mH} {L : List Int32} {N0 : List (List Int32)} {s : RS}
theorem RP_fr {α : Type} {f : α → Option Value} {g : α → RS} {res : Ex α} {cI1 : Nat → Int32} {cA1 : Nat → Nat → Int32} {r : mR} {h' : mH} (F : Fr2 cI cA cI1 cA1) (q : RPg f g X cI1 cA1 rI rA ol J L N0 res r h') : RPg f g X cI cA rI rA ol J L N0 res r h' := by
  obtain ⟨a, b, F1, q⟩ := q
  exact ⟨a, b, F.trans F1, q⟩
theorem ep_callVt {M Nn : Mt} {pc np : Nat} {lv : List (Nat × Value)} {st st0 As : List Value} {P : mR → mH → Prop} {ix o ci : Nat} {fs : List Value} {s1 : RS} (hd : decode M.2.1 pc = .ok (.invokevirtual ix, 3)) (hl : InT (.methodLink M.1.cls ix Nn.1)) (hN : Cal Nn np) (hm : InT (.instanceMethod Nn.1)) (hs : InT (.selects Nn.1.cls Nn.1 Nn.1)) (ho : (HC X cI cA rI rA ol J)[o]? = some (.inl (ci, fs))) (hci : (vCl[ci]?).map (fun q => q.1) = some Nn.1.cls) (hnp : As.length = np) (hal : ((Value.ref o :: As).map fun v => v.category).sum ≤ Nn.2.2.1) (hcat : (st.map fun v => v.category).sum ≤ 8) (hst : st0 = As.reverse ++ .ref o :: st) (hh : M.2.2.2.2 = [])
    (ev : EvP Nn d 0 (lv_args 0 (.ref o :: As)) [] (HC X cI cA rI rA ol J) (fun r h' => ∃ (b : Int32) (cI' : Nat → Int32) (cA' : Nat → Nat → Int32), r = .inl (some (.int b)) ∧ h' = HC X cI' cA' rI rA ol J ∧ CR cI' cA' L N0 s1 ∧ Fr2 cI cA cI' cA'))
    (k : ∀ (b : Int32) cI' cA', CR cI' cA' L N0 s1 → Fr2 cI cA cI' cA' → EvP M (d + 1) (pc + 3) lv (.int b :: st) (HC X cI' cA' rI rA ol J) P) : EvP M (d + 1) pc lv st0 (HC X cI cA rI rA ol J) P := by
  refine ep_callV hd hl hN hm hs ho hci hnp hal hcat hst hh ev (fun v h1 q => ?_) (fun x h1 q => ?_)
  · obtain ⟨b, cI1, cA1, q1, q2, hR, F⟩ := q
    cases q1
    subst q2
    exact k b cI1 cA1 hR F
  · obtain ⟨b, cI1, cA1, q1, _⟩ := q
    cases q1
theorem T_add (hR : CR cI cA L N0 s) (x : Int32) : EvP m_W_add d 0 [(0, .ref 14), (1, .int x)] [] (HC X cI cA rI rA ol J) (fun r h' => ∃ (b : Int32) (cI' : Nat → Int32) (cA' : Nat → Nat → Int32), r = .inl (some (.int b)) ∧ h' = HC X cI' cA' rI rA ol J ∧ CR cI' cA' L N0 (tad s x) ∧ Fr2 cI cA cI' cA') := by
  have ho : (HC X cI cA rI rA ol J)[14]? = some (mO 2 [.ref 15, .int (nI s.2.1.length)]) := by rw [← hR.2.2.2.1.1]; rfl
  have ha : (HC X cI cA rI rA ol J)[15]? = some (mA 120 (cA 5)) := rfl
  by_cases z : s.2.1.length < 120
  · refine (w_add ho ha (by decide) hR.2.2.2.1.2.1 z x).mono (fun r h2 q => ?_)
    obtain ⟨q1, q2⟩ := q
    subst q1; subst q2
    exact ⟨1, _, _, rfl, rfl, hR.tadd z x, Fr2.tadd⟩
  · refine (w_add_no ho ha (by decide) hR.2.2.2.1.2.1 (by have := hR.2.2.2.1.2.1; omega) x).mono (fun r h2 q => ?_)
    obtain ⟨q1, q2⟩ := q
    subst q1; subst q2
    refine ⟨0, cI, cA, rfl, rfl, ?_, Fr2.rfl'⟩
    have e : tad s x = s := by unfold tad; rw [if_neg z]
    rw [e]; exact hR
theorem T_at (hR : CR cI cA L N0 s) (x : Int32) : EvP m_W_at d 0 [(0, .ref 14), (1, .int x)] [] (HC X cI cA rI rA ol J) (Ri (tat s.2.1 x) (HC X cI cA rI rA ol J)) := by
  have ho : (HC X cI cA rI rA ol J)[14]? = some (mO 2 [.ref 15, .int (nI s.2.1.length)]) := by rw [← hR.2.2.2.1.1]; rfl
  have e : tat s.2.1 x = rwAt (cA 5) s.2.1.length x := by
    rw [rwAt_L (by have := hR.2.2.2.1.2.1; omega)]
    exact congrArg (fun z => tat z x) hR.2.2.2.1.2.2
  rw [e]
  exact w_at ho (show (HC X cI cA rI rA ol J)[15]? = some (mA 120 (cA 5)) from rfl) (by decide) hR.2.2.2.1.2.1 x
theorem X_at (hR : CR cI cA L N0 s) : EvP m_W_at d 0 [(0, .ref 4), (1, .int (cI 7))] [] (HC X cI cA rI rA ol J) (Ri (nxt L s) (HC X cI cA rI rA ol J)) := by
  have ho : (HC X cI cA rI rA ol J)[4]? = some (mO 2 [.ref 5, .int (nI L.length)]) := by rw [← hR.2.2.1.1]; rfl
  have h120 := hR.2.2.1.2.1
  have hp := hR.2.2.2.2.2
  have e : nxt L s = rwAt (cA 1) L.length (cI 7) := by
    rw [rwAt_L (by omega), hR.2.2.2.2.1]
    unfold nxt
    rw [← tat_nI (T := L) (p := s.2.2) (by omega) (by omega)]
    exact congrArg (fun z => tat z (nI s.2.2)) hR.2.2.1.2.2
  rw [e]
  exact w_at ho (show (HC X cI cA rI rA ol J)[5]? = some (mA 120 (cA 1)) from rfl) (by decide) h120 (cI 7)
theorem RA_Builtin (hR : CR cI cA L N0 s) (k : Int32) : EvP m_D_addBuiltin (d + 3) 0 [(0, .ref 2), (1, .int k)] [] (HC X cI cA rI rA ol J) (RP X cI cA rI rA ol J L N0 (lft (aBuiltin s.1 k) s)) := (D_addBuiltin hR.1 k).mono (fun r h2 q => AP_RP hR (ifx_ext (fun q h => addN_ext h)) q)
theorem RA_Name (hR : CR cI cA L N0 s) (x : Int32) : EvP m_D_addName (d + 3) 0 [(0, .ref 2), (1, .int x)] [] (HC X cI cA rI rA ol J) (RP X cI cA rI rA ol J L N0 (lft (aName s.1 x) s)) := (D_addName hR.1 x).mono (fun r h2 q => AP_RP hR (ifx_ext (fun q h => addN_ext h)) q)
theorem RA_Member (hR : CR cI cA L N0 s) (p x : Int32) : EvP m_D_addMember (d + 3) 0 [(0, .ref 2), (1, .int p), (2, .int x)] [] (HC X cI cA rI rA ol J) (RP X cI cA rI rA ol J L N0 (lft (aMember s.1 p x) s)) := (D_addMember hR.1 p x).mono (fun r h2 q => AP_RP hR (ifx_ext (fun q h => addN_ext h)) q)
theorem RA_Filled (hR : CR cI cA L N0 s) (f a b c : Int32) : EvP m_D_addFilled (d + 3) 0 [(0, .ref 2), (1, .int f), (2, .int a), (3, .int b), (4, .int c)] [] (HC X cI cA rI rA ol J) (RP X cI cA rI rA ol J L N0 (lft (aFilled s.1 f a b c) s)) := (D_addFilled hR.1 f a b c).mono (fun r h2 q => AP_RP hR (ifx_ext (fun q h => addN_ext h)) q)
theorem RA_Wrapped (hR : CR cI cA L N0 s) (k x : Int32) : EvP m_D_addWrapped (d + 3) 0 [(0, .ref 2), (1, .int k), (2, .int x)] [] (HC X cI cA rI rA ol J) (RP X cI cA rI rA ol J L N0 (lft (aWrapped s.1 k x) s)) := (D_addWrapped hR.1 k x).mono (fun r h2 q => AP_RP hR (ifx_ext (fun q h => addN_ext h)) q)
theorem RA_Array (hR : CR cI cA L N0 s) (x n : Int32) : EvP m_D_addArray (d + 3) 0 [(0, .ref 2), (1, .int x), (2, .int n)] [] (HC X cI cA rI rA ol J) (RP X cI cA rI rA ol J L N0 (lft (aArray s.1 x n) s)) := (D_addArray hR.1 x n).mono (fun r h2 q => AP_RP hR (ifx_ext (fun q h => addN_ext h)) q)
theorem RA_Function (hR : CR cI cA L N0 s) (g a b c : Int32) : EvP m_D_addFunction (d + 3) 0 [(0, .ref 2), (1, .int g), (2, .int a), (3, .int b), (4, .int c)] [] (HC X cI cA rI rA ol J) (RP X cI cA rI rA ol J L N0 (lft (aFunction s.1 g a b c) s)) := (D_addFunction hR.1 g a b c).mono (fun r h2 q => AP_RP hR (ifx_ext (fun q h => addN_ext h)) q)
theorem RA_Literal (hR : CR cI cA L N0 s) (x v : Int32) : EvP m_D_addLiteral (d + 3) 0 [(0, .ref 2), (1, .int x), (2, .int v)] [] (HC X cI cA rI rA ol J) (RP X cI cA rI rA ol J L N0 (lft (aLiteral s.1 x v) s)) := (D_addLiteral hR.1 x v).mono (fun r h2 q => AP_RP hR (ifx_ext (fun q h => addN_ext h)) q)
theorem RA_Entity (hR : CR cI cA L N0 s) (n g a b c : Int32) : EvP m_D_addEntity (d + 3) 0 [(0, .ref 2), (1, .int n), (2, .int g), (3, .int a), (4, .int b), (5, .int c)] [] (HC X cI cA rI rA ol J) (RP X cI cA rI rA ol J L N0 (lft (aEntity s.1 n g a b c) s)) := (D_addEntity hR.1 n g a b c).mono (fun r h2 q => AP_RP hR (ifx_ext (fun q h => addN_ext h)) q)
set_option maxHeartbeats 4000000 in
set_option maxRecDepth 100000 in
theorem R_next (hR : CR cI cA L N0 s) : EvP m_R_next (d + 1) 0 [(0, .ref 13)] [] (HC X cI cA rI rA ol J) (Ri (nxt L s) (HC X cI cA rI rA ol J)) := by
  refine ep_aload_n (j := 0) d_R_next_0 rfl rfl ?_
  refine ep_getf (fi := 2) (v := .ref 4) d_R_next_1 cl1 lf_R_22 (by decide) rfl rfl ?_
  refine ep_aload_n (j := 0) d_R_next_4 rfl rfl ?_
  refine ep_getf (fi := 3) (v := .int (cI 7)) d_R_next_5 cl1 lf_R_25 (by decide) rfl rfl ?_
  refine ep_callVi (As := [.int (cI 7)]) (st := []) d_R_next_8 lk_R_74 cal_W_at tm_W_at ts_W_at rfl rfl rfl (Nat.le_of_ble_eq_true rfl) (Nat.le_of_ble_eq_true rfl) rfl rfl (X_at hR) ?_
  exact ep_iret d_R_next_11 rfl rfl (⟨rfl, rfl⟩)
set_option maxHeartbeats 4000000 in
set_option maxRecDepth 100000 in
theorem R_need1 : EvP m_R_need d 0 [(0, .int 1)] [] (HC X cI cA rI rA ol J) (Rv (HC X cI cA rI rA ol J)) := by
  refine ep_iload_n (j := 0) d_R_need_0 rfl rfl ?_
  refine ep_if_ne (tgt := 14) d_R_need_1 (by decide) (fun _ => ?_) (fun z => absurd z (by decide))
  exact ep_vret d_R_need_14 rfl (⟨rfl, rfl⟩)
set_option maxHeartbeats 4000000 in
set_option maxRecDepth 100000 in
theorem R_need0 : EvP m_R_need d 0 [(0, .int 0)] [] (HC X cI cA rI rA ol J) (Rx 0 (HC X cI cA rI rA ol J)) := by
  refine ep_iload_n (j := 0) d_R_need_0 rfl rfl ?_
  refine ep_if_ne (tgt := 14) d_R_need_1 (by decide) (fun z => absurd (by decide) z) (fun _ => ?_)
  exact ep_throw 0 d_R_need_4 d_R_need_7 d_R_need_8 d_R_need_10 d_R_need_13 lc_R_67 ti_java_lang_IllegalArgumentException (i := 21) (tx := "the text is not right") (by decide +kernel) at_R_71 (by decide +kernel) (Nat.zero_lt_succ _) (Nat.le_of_ble_eq_true rfl) rfl (⟨rfl, rfl⟩)
set_option maxHeartbeats 4000000 in
set_option maxRecDepth 100000 in
theorem R_pass (hR : CR cI cA L N0 s) (c : Int32) (hc : ¬ c = -1) : EvP m_R_pass (d + 2) 0 [(0, .ref 13), (1, .int c)] [] (HC X cI cA rI rA ol J) (RPu X cI cA rI rA ol J L N0 (rPass L c s)) := by
  refine ep_aload_n (j := 0) d_R_pass_0 rfl rfl ?_
  refine ep_callVi (As := []) (st := []) d_R_pass_1 lk_R_55 cal_R_next tm_R_next ts_R_next rfl rfl rfl (Nat.le_of_ble_eq_true rfl) (Nat.le_of_ble_eq_true rfl) rfl rfl (R_next hR) ?_
  refine ep_iload_n (j := 1) d_R_pass_4 rfl rfl ?_
  refine ep_icmp_ne (tgt := 12) d_R_pass_5 (by decide) (fun c5 => ?_) (fun c5 => ?_)
  · refine ep_iconst (v := 0) d_R_pass_12 (by decide) ?_
    exact ep_callSX (As := [.int 0]) (st := []) d_R_pass_13 (Or.inl lk_R_59) cal_R_need tm_R_need ti_R rfl (Nat.le_of_ble_eq_true rfl) (Nat.le_of_ble_eq_true rfl) rfl rfl R_need0 (RP_x Fr2.rfl' (by first | (simp [rPass, bnd_i, bnd_x, c5]; done) | simp_all [rPass, bnd_i, bnd_x]) hR)
  · refine ep_iconst (v := 1) d_R_pass_8 (by decide) ?_
    refine ep_goto (tgt := 13) d_R_pass_9 (by decide) ?_
    refine ep_callSv (As := [.int 1]) (st := []) d_R_pass_13 (Or.inl lk_R_59) cal_R_need tm_R_need ti_R rfl (Nat.le_of_ble_eq_true rfl) (Nat.le_of_ble_eq_true rfl) rfl rfl R_need1 ?_
    refine ep_adv (o := 0) (s := s) d_R_pass_16 d_R_pass_17 d_R_pass_18 d_R_pass_21 d_R_pass_22 d_R_pass_23 rfl rfl hR (nxt_lt (by rw [c5]; exact hc)) (fun cI1 hR1 f1 => ?_)
    have F1 := Fr2.trans Fr2.rfl' f1
    exact ep_vret d_R_pass_26 rfl (RP_ok (f := fun _ : RS => none) (q := adv s) F1 (by first | (simp [rPass, bnd_i, bnd_x, c5]; done) | simp_all [rPass, bnd_i, bnd_x]) hR1)
theorem digF_m1 (b : Int32) : digF (-1) b = -1 := by
  unfold digF
  rw [if_neg (by decide), if_neg (fun z => absurd z.2 (by decide))]
set_option maxHeartbeats 4000000 in
set_option maxRecDepth 100000 in
theorem R_digitOf (x b : Int32) : EvP m_R_digitOf d 0 [(0, .int x), (1, .int b)] [] (HC X cI cA rI rA ol J) (Ri (digF x b) (HC X cI cA rI rA ol J)) := by
  refine ep_iload_n (j := 0) d_R_digitOf_0 rfl rfl ?_
  refine ep_bipush (v := 48) d_R_digitOf_1 (by decide) ?_
  refine ep_icmp_lt (tgt := 17) d_R_digitOf_3 (by decide) (fun c3 => ?_) (fun c3 => ?_)
  · refine ep_iload_n (j := 1) d_R_digitOf_17 rfl rfl ?_
    refine ep_bipush (v := 36) d_R_digitOf_18 (by decide) ?_
    refine ep_icmp_ne (tgt := 45) d_R_digitOf_20 (by decide) (fun c20 => ?_) (fun c20 => ?_)
    · refine ep_iconst (v := (-1)) d_R_digitOf_45 (by decide) ?_
      exact ep_iret d_R_digitOf_46 rfl rfl (Ri_of (by first | (simp [digF, c3, c20]; done) | simp_all [digF]))
    · refine ep_iload_n (j := 0) d_R_digitOf_23 rfl rfl ?_
      refine ep_bipush (v := 65) d_R_digitOf_24 (by decide) ?_
      refine ep_icmp_lt (tgt := 45) d_R_digitOf_26 (by decide) (fun c26 => ?_) (fun c26 => ?_)
      · refine ep_iconst (v := (-1)) d_R_digitOf_45 (by decide) ?_
        exact ep_iret d_R_digitOf_46 rfl rfl (Ri_of (by first | (simp [digF, c3, c20, c26]; done) | simp_all [digF]))
      · refine ep_iload_n (j := 0) d_R_digitOf_29 rfl rfl ?_
        refine ep_bipush (v := 90) d_R_digitOf_30 (by decide) ?_
        refine ep_icmp_gt (tgt := 45) d_R_digitOf_32 (by decide) (fun c32 => ?_) (fun c32 => ?_)
        · refine ep_iconst (v := (-1)) d_R_digitOf_45 (by decide) ?_
          exact ep_iret d_R_digitOf_46 rfl rfl (Ri_of (by first | (simp [digF, c3, c20, c26, c32]; done) | simp_all [digF]))
        · refine ep_iload_n (j := 0) d_R_digitOf_35 rfl rfl ?_
          refine ep_bipush (v := 65) d_R_digitOf_36 (by decide) ?_
          refine ep_isub d_R_digitOf_38 ?_
          refine ep_bipush (v := 10) d_R_digitOf_39 (by decide) ?_
          refine ep_iadd d_R_digitOf_41 ?_
          refine ep_goto (tgt := 46) d_R_digitOf_42 (by decide) ?_
          exact ep_iret d_R_digitOf_46 rfl rfl (Ri_of (by first | (simp [digF, c3, c20, c26, c32]; done) | simp_all [digF]))
  · refine ep_iload_n (j := 0) d_R_digitOf_6 rfl rfl ?_
    refine ep_bipush (v := 57) d_R_digitOf_7 (by decide) ?_
    refine ep_icmp_gt (tgt := 17) d_R_digitOf_9 (by decide) (fun c9 => ?_) (fun c9 => ?_)
    · refine ep_iload_n (j := 1) d_R_digitOf_17 rfl rfl ?_
      refine ep_bipush (v := 36) d_R_digitOf_18 (by decide) ?_
      refine ep_icmp_ne (tgt := 45) d_R_digitOf_20 (by decide) (fun c20 => ?_) (fun c20 => ?_)
      · refine ep_iconst (v := (-1)) d_R_digitOf_45 (by decide) ?_
        exact ep_iret d_R_digitOf_46 rfl rfl (Ri_of (by first | (simp [digF, c3, c9, c20]; done) | simp_all [digF]))
      · refine ep_iload_n (j := 0) d_R_digitOf_23 rfl rfl ?_
        refine ep_bipush (v := 65) d_R_digitOf_24 (by decide) ?_
        refine ep_icmp_lt (tgt := 45) d_R_digitOf_26 (by decide) (fun c26 => ?_) (fun c26 => ?_)
        · refine ep_iconst (v := (-1)) d_R_digitOf_45 (by decide) ?_
          exact ep_iret d_R_digitOf_46 rfl rfl (Ri_of (by first | (simp [digF, c3, c9, c20, c26]; done) | simp_all [digF]))
        · refine ep_iload_n (j := 0) d_R_digitOf_29 rfl rfl ?_
          refine ep_bipush (v := 90) d_R_digitOf_30 (by decide) ?_
          refine ep_icmp_gt (tgt := 45) d_R_digitOf_32 (by decide) (fun c32 => ?_) (fun c32 => ?_)
          · refine ep_iconst (v := (-1)) d_R_digitOf_45 (by decide) ?_
            exact ep_iret d_R_digitOf_46 rfl rfl (Ri_of (by first | (simp [digF, c3, c9, c20, c26, c32]; done) | simp_all [digF]))
          · refine ep_iload_n (j := 0) d_R_digitOf_35 rfl rfl ?_
            refine ep_bipush (v := 65) d_R_digitOf_36 (by decide) ?_
            refine ep_isub d_R_digitOf_38 ?_
            refine ep_bipush (v := 10) d_R_digitOf_39 (by decide) ?_
            refine ep_iadd d_R_digitOf_41 ?_
            refine ep_goto (tgt := 46) d_R_digitOf_42 (by decide) ?_
            exact ep_iret d_R_digitOf_46 rfl rfl (Ri_of (by first | (simp [digF, c3, c9, c20, c26, c32]; done) | simp_all [digF]))
    · refine ep_iload_n (j := 0) d_R_digitOf_12 rfl rfl ?_
      refine ep_bipush (v := 48) d_R_digitOf_13 (by decide) ?_
      refine ep_isub d_R_digitOf_15 ?_
      exact ep_iret d_R_digitOf_16 rfl rfl (Ri_of (by first | (simp [digF, c3, c9]; done) | simp_all [digF]))
def rNumE (z : Int32) (q : Int32 × Nat × RS) : Ex (Int32 × RS) := if nI q.2.1 = 1 ∨ (¬ nI q.2.1 ≤ 1 ∧ z = 0) then .inr (q.1, q.2.2) else .inl 0
set_option maxHeartbeats 4000000 in
set_option maxRecDepth 100000 in
theorem R_num_t (hR : CR cI cA L N0 s) (b : Int32) (m n : Nat) (z v : Int32) : EvP m_R_readNumber (d + 2) 70 [(0, .ref 13), (1, .int b), (2, .int (nI m)), (3, .int z), (4, .int v), (5, .int (nI n))] [] (HC X cI cA rI rA ol J) (RP X cI cA rI rA ol J L N0 (rNumE z (v, n, s))) := by
  refine ep_iload (j := 5) d_R_readNumber_70 rfl ?_
  refine ep_iconst (v := 1) d_R_readNumber_72 (by decide) ?_
  refine ep_icmp_eq (tgt := 86) d_R_readNumber_73 (by decide) (fun c73 => ?_) (fun c73 => ?_)
  · refine ep_iconst (v := 1) d_R_readNumber_86 (by decide) ?_
    refine ep_goto (tgt := 91) d_R_readNumber_87 (by decide) ?_
    refine ep_callSv (As := [.int 1]) (st := []) d_R_readNumber_91 (Or.inl lk_R_59) cal_R_need tm_R_need ti_R rfl (Nat.le_of_ble_eq_true rfl) (Nat.le_of_ble_eq_true rfl) rfl rfl R_need1 ?_
    refine ep_iload (j := 4) d_R_readNumber_94 rfl ?_
    exact ep_iret d_R_readNumber_96 rfl rfl (RP_ok (f := fun q : Int32 × RS => some (.int q.1)) (q := (v, s)) Fr2.rfl' (by first | (simp [rNumE, bnd_i, bnd_x, c73]; done) | simp_all [rNumE, bnd_i, bnd_x]) hR)
  · refine ep_iload (j := 5) d_R_readNumber_76 rfl ?_
    refine ep_iconst (v := 1) d_R_readNumber_78 (by decide) ?_
    refine ep_icmp_le (tgt := 90) d_R_readNumber_79 (by decide) (fun c79 => ?_) (fun c79 => ?_)
    · refine ep_iconst (v := 0) d_R_readNumber_90 (by decide) ?_
      exact ep_callSX (As := [.int 0]) (st := []) d_R_readNumber_91 (Or.inl lk_R_59) cal_R_need tm_R_need ti_R rfl (Nat.le_of_ble_eq_true rfl) (Nat.le_of_ble_eq_true rfl) rfl rfl R_need0 (RP_x Fr2.rfl' (by first | (simp [rNumE, bnd_i, bnd_x, c73, c79]; done) | simp_all [rNumE, bnd_i, bnd_x]) hR)
    · refine ep_iload_n (j := 3) d_R_readNumber_82 rfl rfl ?_
      refine ep_if_ne (tgt := 90) d_R_readNumber_83 (by decide) (fun c83 => ?_) (fun c83 => ?_)
      · refine ep_iconst (v := 0) d_R_readNumber_90 (by decide) ?_
        exact ep_callSX (As := [.int 0]) (st := []) d_R_readNumber_91 (Or.inl lk_R_59) cal_R_need tm_R_need ti_R rfl (Nat.le_of_ble_eq_true rfl) (Nat.le_of_ble_eq_true rfl) rfl rfl R_need0 (RP_x Fr2.rfl' (by first | (simp [rNumE, bnd_i, bnd_x, c73, c79, c83]; done) | simp_all [rNumE, bnd_i, bnd_x]) hR)
      · refine ep_iconst (v := 1) d_R_readNumber_86 (by decide) ?_
        refine ep_goto (tgt := 91) d_R_readNumber_87 (by decide) ?_
        refine ep_callSv (As := [.int 1]) (st := []) d_R_readNumber_91 (Or.inl lk_R_59) cal_R_need tm_R_need ti_R rfl (Nat.le_of_ble_eq_true rfl) (Nat.le_of_ble_eq_true rfl) rfl rfl R_need1 ?_
        refine ep_iload (j := 4) d_R_readNumber_94 rfl ?_
        exact ep_iret d_R_readNumber_96 rfl rfl (RP_ok (f := fun q : Int32 × RS => some (.int q.1)) (q := (v, s)) Fr2.rfl' (by first | (simp [rNumE, bnd_i, bnd_x, c73, c79, c83]; done) | simp_all [rNumE, bnd_i, bnd_x]) hR)
set_option maxHeartbeats 4000000 in
set_option maxRecDepth 100000 in
theorem R_num_l (b : Int32) (m : Nat) (hm : m < 1000) (z : Int32) : ∀ (k n : Nat) (v : Int32) (cI : Nat → Int32) (cA : Nat → Nat → Int32) (s : RS), CR cI cA L N0 s → n + k = m → EvP m_R_readNumber (d + 2) 21 [(0, .ref 13), (1, .int b), (2, .int (nI m)), (3, .int z), (4, .int v), (5, .int (nI n))] [] (HC X cI cA rI rA ol J) (RP X cI cA rI rA ol J L N0 (rNumE z (rDigs L b k v n s))) := by
  intro k
  induction k with
  | zero =>
    intro n v cI cA s hR hk
    refine ep_iload (j := 5) d_R_readNumber_21 rfl ?_
    refine ep_iload_n (j := 2) d_R_readNumber_23 rfl rfl ?_
    refine ep_icmp_ge (tgt := 70) d_R_readNumber_24 (by decide) (fun _ => ?_) (fun z => absurd (by rw [show n = m from by omega]; exact Int32.le_refl _) z)
    exact R_num_t hR b m n z v
  | succ k ih =>
    intro n v cI cA s hR hk
    refine ep_iload (j := 5) d_R_readNumber_21 rfl ?_
    refine ep_iload_n (j := 2) d_R_readNumber_23 rfl rfl ?_
    refine ep_icmp_ge (tgt := 70) d_R_readNumber_24 (by decide) (fun z => absurd z (nI_ge (by omega) (by omega))) (fun _ => ?_)
    refine ep_aload_n (j := 0) d_R_readNumber_27 rfl rfl ?_
    refine ep_callVi (As := []) (st := []) d_R_readNumber_28 lk_R_55 cal_R_next tm_R_next ts_R_next rfl rfl rfl (Nat.le_of_ble_eq_true rfl) (Nat.le_of_ble_eq_true rfl) rfl rfl (R_next hR) ?_
    refine ep_iload_n (j := 1) d_R_readNumber_31 rfl rfl ?_
    refine ep_callSi (As := [.int (nxt L s), .int b]) (st := []) d_R_readNumber_32 (Or.inl lk_R_158) cal_R_digitOf tm_R_digitOf ti_R rfl (Nat.le_of_ble_eq_true rfl) (Nat.le_of_ble_eq_true rfl) rfl rfl (R_digitOf _ _) ?_
    refine ep_iconst (v := (-1)) d_R_readNumber_35 (by decide) ?_
    refine ep_icmp_eq (tgt := 70) d_R_readNumber_36 (by decide) (fun c36 => ?_) (fun c36 => ?_)
    · rw [show rDigs L b (k + 1) v n s = (v, n, s) from if_pos c36]
      exact R_num_t hR b m n z v
    · refine ep_iload (j := 4) d_R_readNumber_39 rfl ?_
      refine ep_iload_n (j := 1) d_R_readNumber_41 rfl rfl ?_
      refine ep_imul d_R_readNumber_42 ?_
      refine ep_aload_n (j := 0) d_R_readNumber_43 rfl rfl ?_
      refine ep_callVi (As := []) (st := [.int (v * b)]) d_R_readNumber_44 lk_R_55 cal_R_next tm_R_next ts_R_next rfl rfl rfl (Nat.le_of_ble_eq_true rfl) (Nat.le_of_ble_eq_true rfl) rfl rfl (R_next hR) ?_
      refine ep_iload_n (j := 1) d_R_readNumber_47 rfl rfl ?_
      refine ep_callSi (As := [.int (nxt L s), .int b]) (st := [.int (v * b)]) d_R_readNumber_48 (Or.inl lk_R_158) cal_R_digitOf tm_R_digitOf ti_R rfl (Nat.le_of_ble_eq_true rfl) (Nat.le_of_ble_eq_true rfl) rfl rfl (R_digitOf _ _) ?_
      refine ep_iadd d_R_readNumber_51 ?_
      refine ep_istore (lv' := [(0, .ref 13), (1, .int b), (2, .int (nI m)), (3, .int z), (4, .int ((v * b) + (digF (nxt L s) b))), (5, .int (nI n))]) [1, 2, 3, 4, 0, 5] d_R_readNumber_52 (by decide) rfl ?_
      refine ep_adv (o := 0) (s := s) d_R_readNumber_54 d_R_readNumber_55 d_R_readNumber_56 d_R_readNumber_59 d_R_readNumber_60 d_R_readNumber_61 rfl rfl hR (nxt_lt (fun y => c36 (by rw [y]; exact digF_m1 b))) (fun cI1 hR1 f1 => ?_)
      have F1 := Fr2.trans Fr2.rfl' f1
      refine ep_iinc (v := (nI (n + 1))) (j := 5) (lv' := [(0, .ref 13), (1, .int b), (2, .int (nI m)), (3, .int z), (4, .int ((v * b) + (digF (nxt L s) b))), (5, .int (nI (n + 1)))]) [1, 2, 3, 4, 5, 0] d_R_readNumber_64 rfl (nI_1 n) (by decide) rfl ?_
      refine ep_goto (tgt := 21) d_R_readNumber_67 (by decide) ?_
      rw [show rDigs L b (k + 1) v n s = rDigs L b k (v * b + digF (nxt L s) b) (n + 1) (adv s) from if_neg c36]
      exact (ih (n + 1) (v * b + digF (nxt L s) b) _ _ _ hR1 (by omega)).mono (fun r h2 q => RP_fr F1 q)
theorem rDigs_n (L : List Int32) (b : Int32) : ∀ (k : Nat) (v : Int32) (n : Nat) (s : RS), n ≤ (rDigs L b k v n s).2.1 ∧ (rDigs L b k v n s).2.1 ≤ n + k := by
  intro k
  induction k with
  | zero => intro v n s; exact ⟨Nat.le_refl _, Nat.le_refl _⟩
  | succ k ih =>
    intro v n s
    unfold rDigs
    split
    · exact ⟨Nat.le_refl _, Nat.le_add_right _ _⟩
    · have := ih (v * b + digF (nxt L s) b) (n + 1) (adv s)
      omega
theorem rNumE_eq (L : List Int32) (b : Int32) {m : Nat} (hm : m < 1000) (s : RS) {z : Int32} (hz : z = 0 ↔ ¬ nxt L s = 48) : rNumE z (rDigs L b m 0 0 s) = rNum L b m s := by
  have hn := (rDigs_n L b m 0 0 s).2
  have e1 : nI (rDigs L b m 0 0 s).2.1 = 1 ↔ (rDigs L b m 0 0 s).2.1 = 1 := by
    constructor
    · intro h
      have := congrArg Int32.toNatClampNeg h
      rw [nI_clamp (by omega)] at this
      exact this
    · intro h; rw [h]; decide +kernel
  have e2 : nI (rDigs L b m 0 0 s).2.1 ≤ 1 ↔ ¬ 1 < (rDigs L b m 0 0 s).2.1 := by
    rw [show (1 : Int32) = nI 1 from by decide +kernel, nI_leI (by omega) (by omega)]
    omega
  unfold rNumE rNum
  simp only [e1, e2, hz, Decidable.not_not]
set_option maxHeartbeats 4000000 in
set_option maxRecDepth 100000 in
theorem R_readNumber (hR : CR cI cA L N0 s) (b l : Int32) {m : Nat} (hl : l = nI m) (hm : m < 1000) : EvP m_R_readNumber (d + 2) 0 [(0, .ref 13), (1, .int b), (2, .int l)] [] (HC X cI cA rI rA ol J) (RP X cI cA rI rA ol J L N0 (rNum L b m s)) := by
  refine ep_aload_n (j := 0) d_R_readNumber_0 rfl rfl ?_
  refine ep_callVi (As := []) (st := []) d_R_readNumber_1 lk_R_55 cal_R_next tm_R_next ts_R_next rfl rfl rfl (Nat.le_of_ble_eq_true rfl) (Nat.le_of_ble_eq_true rfl) rfl rfl (R_next hR) ?_
  refine ep_bipush (v := 48) d_R_readNumber_4 (by decide) ?_
  refine ep_icmp_ne (tgt := 13) d_R_readNumber_6 (by decide) (fun c6 => ?_) (fun c6 => ?_)
  · refine ep_iconst (v := 0) d_R_readNumber_13 (by decide) ?_
    refine ep_istore_n (lv' := [(0, .ref 13), (1, .int b), (2, .int l), (3, .int 0)]) [1, 2, 3, 0] d_R_readNumber_14 rfl (by decide) rfl ?_
    refine ep_iconst (v := 0) d_R_readNumber_15 (by decide) ?_
    refine ep_istore (lv' := [(0, .ref 13), (1, .int b), (2, .int l), (3, .int 0), (4, .int 0)]) [1, 2, 3, 4, 0] d_R_readNumber_16 (by decide) rfl ?_
    refine ep_iconst (v := 0) d_R_readNumber_18 (by decide) ?_
    refine ep_istore (lv' := [(0, .ref 13), (1, .int b), (2, .int l), (3, .int 0), (4, .int 0), (5, .int 0)]) [1, 2, 3, 4, 5, 0] d_R_readNumber_19 (by decide) rfl ?_
    subst hl
    rw [← rNumE_eq L b hm s (z := 0) (by simp [c6])]
    exact R_num_l b m hm 0 m 0 0 _ _ _ hR (by omega)
  · refine ep_iconst (v := 1) d_R_readNumber_9 (by decide) ?_
    refine ep_goto (tgt := 14) d_R_readNumber_10 (by decide) ?_
    refine ep_istore_n (lv' := [(0, .ref 13), (1, .int b), (2, .int l), (3, .int 1)]) [1, 2, 3, 0] d_R_readNumber_14 rfl (by decide) rfl ?_
    refine ep_iconst (v := 0) d_R_readNumber_15 (by decide) ?_
    refine ep_istore (lv' := [(0, .ref 13), (1, .int b), (2, .int l), (3, .int 1), (4, .int 0)]) [1, 2, 3, 4, 0] d_R_readNumber_16 (by decide) rfl ?_
    refine ep_iconst (v := 0) d_R_readNumber_18 (by decide) ?_
    refine ep_istore (lv' := [(0, .ref 13), (1, .int b), (2, .int l), (3, .int 1), (4, .int 0), (5, .int 0)]) [1, 2, 3, 4, 5, 0] d_R_readNumber_19 (by decide) rfl ?_
    subst hl
    rw [← rNumE_eq L b hm s (z := 1) (by simp [c6])]
    exact R_num_l b m hm 1 m 0 0 _ _ _ hR (by omega)
set_option maxHeartbeats 4000000 in
set_option maxRecDepth 100000 in
theorem R_id_l {l : Int32} {m : Nat} (hl : l = nI m) (hm : m < 1000) : ∀ (k i : Nat) (v : Int32) (cI : Nat → Int32) (cA : Nat → Nat → Int32) (s : RS), CR cI cA L N0 s → i + k = m → EvP m_R_readId (d + 2) 30 [(0, .ref 13), (1, .int l), (2, .int v), (3, .int (nI i))] [] (HC X cI cA rI rA ol J) (RP X cI cA rI rA ol J L N0 (rLets L k v s)) := by
  intro k
  induction k with
  | zero =>
    intro i v cI cA s hR hk
    refine ep_iload_n (j := 3) d_R_readId_30 rfl rfl ?_
    refine ep_iload_n (j := 1) d_R_readId_31 rfl rfl ?_
    refine ep_icmp_ge (tgt := 71) d_R_readId_32 (by decide) (fun _ => ?_) (fun z => absurd (by rw [hl, show i = m from by omega]; exact Int32.le_refl _) z)
    refine ep_iload_n (j := 2) d_R_readId_71 rfl rfl ?_
    exact ep_iret d_R_readId_72 rfl rfl (RP_ok (f := fun q : Int32 × RS => some (.int q.1)) (q := (v, s)) Fr2.rfl' (by first | (simp [rLets]; done) | simp_all [rLets]) hR)
  | succ k ih =>
    intro i v cI cA s hR hk
    refine ep_iload_n (j := 3) d_R_readId_30 rfl rfl ?_
    refine ep_iload_n (j := 1) d_R_readId_31 rfl rfl ?_
    refine ep_icmp_ge (tgt := 71) d_R_readId_32 (by decide) (fun z => absurd z (by rw [hl]; exact nI_ge (by omega) (by omega))) (fun _ => ?_)
    refine ep_aload_n (j := 0) d_R_readId_35 rfl rfl ?_
    refine ep_callVi (As := []) (st := []) d_R_readId_36 lk_R_55 cal_R_next tm_R_next ts_R_next rfl rfl rfl (Nat.le_of_ble_eq_true rfl) (Nat.le_of_ble_eq_true rfl) rfl rfl (R_next hR) ?_
    refine ep_callSb (As := [.int (nxt L s)]) (st := []) d_R_readId_39 (Or.inr ⟨_, lk_R_155⟩) cal_N_isSmallLetter tm_N_isSmallLetter ti_N rfl (Nat.le_of_ble_eq_true rfl) (Nat.le_of_ble_eq_true rfl) rfl rfl (N_isSmallLetter _) (fun b39 => ?_) (fun b39 => ?_)
    · refine ep_callSv (As := [.int 1]) (st := []) d_R_readId_42 (Or.inl lk_R_59) cal_R_need tm_R_need ti_R rfl (Nat.le_of_ble_eq_true rfl) (Nat.le_of_ble_eq_true rfl) rfl rfl R_need1 ?_
      refine ep_iload_n (j := 2) d_R_readId_45 rfl rfl ?_
      refine ep_bipush (v := 8) d_R_readId_46 (by decide) ?_
      refine ep_ishl d_R_readId_48 ?_
      refine ep_aload_n (j := 0) d_R_readId_49 rfl rfl ?_
      refine ep_callVi (As := []) (st := [.int (v <<< (8 &&& 31))]) d_R_readId_50 lk_R_55 cal_R_next tm_R_next ts_R_next rfl rfl rfl (Nat.le_of_ble_eq_true rfl) (Nat.le_of_ble_eq_true rfl) rfl rfl (R_next hR) ?_
      refine ep_ior d_R_readId_53 ?_
      refine ep_istore_n (lv' := [(0, .ref 13), (1, .int l), (2, .int ((v <<< (8 &&& 31)) ||| (nxt L s))), (3, .int (nI i))]) [1, 2, 0, 3] d_R_readId_54 rfl (by decide) rfl ?_
      refine ep_adv (o := 0) (s := s) d_R_readId_55 d_R_readId_56 d_R_readId_57 d_R_readId_60 d_R_readId_61 d_R_readId_62 rfl rfl hR (nxt_lt (fun y => by rw [y] at b39; revert b39; decide)) (fun cI1 hR1 f1 => ?_)
      have F1 := Fr2.trans Fr2.rfl' f1
      refine ep_iinc (v := (nI (i + 1))) (j := 3) (lv' := [(0, .ref 13), (1, .int l), (2, .int ((v <<< (8 &&& 31)) ||| (nxt L s))), (3, .int (nI (i + 1)))]) [1, 2, 3, 0] d_R_readId_65 rfl (nI_1 i) (by decide) rfl ?_
      refine ep_goto (tgt := 30) d_R_readId_68 (by decide) ?_
      rw [show rLets L (k + 1) v s = rLets L k (v <<< ((8 : Int32) &&& 31) ||| nxt L s) (adv s) from if_pos b39]
      exact (ih (i + 1) _ _ _ _ hR1 (by omega)).mono (fun r h2 q => RP_fr F1 q)
    · exact ep_callSX (As := [.int 0]) (st := []) d_R_readId_42 (Or.inl lk_R_59) cal_R_need tm_R_need ti_R rfl (Nat.le_of_ble_eq_true rfl) (Nat.le_of_ble_eq_true rfl) rfl rfl R_need0 (RP_x Fr2.rfl' (by first | (simp [rLets, b39]; done) | simp_all [rLets]) hR)
set_option maxHeartbeats 4000000 in
set_option maxRecDepth 100000 in
theorem R_readId (hR : CR cI cA L N0 s)  : EvP m_R_readId (d + 3) 0 [(0, .ref 13)] [] (HC X cI cA rI rA ol J) (RP X cI cA rI rA ol J L N0 (rId L s)) := by
  refine ep_aload_n (j := 0) d_R_readId_0 rfl rfl ?_
  refine ep_bipush (v := 10) d_R_readId_1 (by decide) ?_
  refine ep_iconst (v := 1) d_R_readId_3 (by decide) ?_
  refine ep_callVq (As := [.int 10, .int 1]) (st := []) d_R_readId_4 lk_R_112 cal_R_readNumber tm_R_readNumber ts_R_readNumber rfl rfl rfl (Nat.le_of_ble_eq_true rfl) (Nat.le_of_ble_eq_true rfl) rfl rfl (R_readNumber hR 10 1 (m := 1) (by decide +kernel) (by decide)) (fun q1 cI1 cA1 e1 hR1 f1 => ?_) (fun k cI1 cA1 s1 e1 hR1 f1 => RP_x (Fr2.trans Fr2.rfl' f1) (by first | (simp [rId, bnd_i, bnd_x, e1]; done) | simp_all [rId, bnd_i, bnd_x]) hR1)
  have F1 := Fr2.trans Fr2.rfl' f1
  refine ep_istore_n (lv' := [(0, .ref 13), (1, .int q1.1)]) [1, 0] d_R_readId_7 rfl (by decide) rfl ?_
  refine ep_iload_n (j := 1) d_R_readId_8 rfl rfl ?_
  refine ep_iconst (v := 1) d_R_readId_9 (by decide) ?_
  refine ep_icmp_lt (tgt := 22) d_R_readId_10 (by decide) (fun c10 => ?_) (fun c10 => ?_)
  · refine ep_iconst (v := 0) d_R_readId_22 (by decide) ?_
    exact ep_callSX (As := [.int 0]) (st := []) d_R_readId_23 (Or.inl lk_R_59) cal_R_need tm_R_need ti_R rfl (Nat.le_of_ble_eq_true rfl) (Nat.le_of_ble_eq_true rfl) rfl rfl R_need0 (RP_x F1 (by first | (simp [rId, bnd_i, bnd_x, e1, c10]; done) | simp_all [rId, bnd_i, bnd_x]) hR1)
  · refine ep_iload_n (j := 1) d_R_readId_13 rfl rfl ?_
    refine ep_iconst (v := 3) d_R_readId_14 (by decide) ?_
    refine ep_icmp_gt (tgt := 22) d_R_readId_15 (by decide) (fun c15 => ?_) (fun c15 => ?_)
    · refine ep_iconst (v := 0) d_R_readId_22 (by decide) ?_
      exact ep_callSX (As := [.int 0]) (st := []) d_R_readId_23 (Or.inl lk_R_59) cal_R_need tm_R_need ti_R rfl (Nat.le_of_ble_eq_true rfl) (Nat.le_of_ble_eq_true rfl) rfl rfl R_need0 (RP_x F1 (by first | (simp [rId, bnd_i, bnd_x, e1, c10, c15]; done) | simp_all [rId, bnd_i, bnd_x]) hR1)
    · refine ep_iconst (v := 1) d_R_readId_18 (by decide) ?_
      refine ep_goto (tgt := 23) d_R_readId_19 (by decide) ?_
      refine ep_callSv (As := [.int 1]) (st := []) d_R_readId_23 (Or.inl lk_R_59) cal_R_need tm_R_need ti_R rfl (Nat.le_of_ble_eq_true rfl) (Nat.le_of_ble_eq_true rfl) rfl rfl R_need1 ?_
      refine ep_iconst (v := 0) d_R_readId_26 (by decide) ?_
      refine ep_istore_n (lv' := [(0, .ref 13), (1, .int q1.1), (2, .int 0)]) [1, 2, 0] d_R_readId_27 rfl (by decide) rfl ?_
      refine ep_iconst (v := 0) d_R_readId_28 (by decide) ?_
      refine ep_istore_n (lv' := [(0, .ref 13), (1, .int q1.1), (2, .int 0), (3, .int 0)]) [1, 2, 3, 0] d_R_readId_29 rfl (by decide) rfl ?_
      obtain ⟨m, hm1, hm⟩ := nI_of' (x := q1.1) (Int32.le_trans (by decide) (Int32.not_lt.mp c10))
      have hm3 : m < 1000 := by
        have : nI m ≤ nI 3 := by rw [← hm]; exact Int32.not_lt.mp c15
        have := (nI_leI hm1 (by omega)).mp this
        omega
      rw [show rId L s = rLets L m 0 q1.2 from by unfold rId; rw [e1, bnd_i, if_neg (fun z => z.elim c10 c15), hm, nI_clamp hm1]]
      exact (R_id_l hm hm3 m 0 0 _ _ _ hR1 (by omega)).mono (fun r h2 q => RP_fr F1 q)
set_option maxHeartbeats 4000000 in
set_option maxRecDepth 100000 in
theorem R_readTold (hR : CR cI cA L N0 s)  : EvP m_R_readTold (d + 3) 0 [(0, .ref 13)] [] (HC X cI cA rI rA ol J) (RP X cI cA rI rA ol J L N0 (rTold L s)) := by
  refine ep_aload_n (j := 0) d_R_readTold_0 rfl rfl ?_
  refine ep_bipush (v := 83) d_R_readTold_1 (by decide) ?_
  refine ep_callVq (As := [.int 83]) (st := []) d_R_readTold_3 lk_R_33 cal_R_pass tm_R_pass ts_R_pass rfl rfl rfl (Nat.le_of_ble_eq_true rfl) (Nat.le_of_ble_eq_true rfl) rfl rfl (R_pass hR 83 (by decide)) (fun q1 cI1 cA1 e1 hR1 f1 => ?_) (fun k cI1 cA1 s1 e1 hR1 f1 => RP_x (Fr2.trans Fr2.rfl' f1) (by first | (simp [rTold, bnd_i, bnd_x, e1]; done) | simp_all [rTold, bnd_i, bnd_x]) hR1)
  have F1 := Fr2.trans Fr2.rfl' f1
  refine ep_aload_n (j := 0) d_R_readTold_6 rfl rfl ?_
  refine ep_callVi (As := []) (st := []) d_R_readTold_7 lk_R_55 cal_R_next tm_R_next ts_R_next rfl rfl rfl (Nat.le_of_ble_eq_true rfl) (Nat.le_of_ble_eq_true rfl) rfl rfl (R_next hR1) ?_
  refine ep_bipush (v := 95) d_R_readTold_10 (by decide) ?_
  refine ep_icmp_ne (tgt := 19) d_R_readTold_12 (by decide) (fun c12 => ?_) (fun c12 => ?_)
  · refine ep_aload_n (j := 0) d_R_readTold_19 rfl rfl ?_
    refine ep_bipush (v := 36) d_R_readTold_20 (by decide) ?_
    refine ep_iconst (v := 2) d_R_readTold_22 (by decide) ?_
    refine ep_callVq (As := [.int 36, .int 2]) (st := []) d_R_readTold_23 lk_R_112 cal_R_readNumber tm_R_readNumber ts_R_readNumber rfl rfl rfl (Nat.le_of_ble_eq_true rfl) (Nat.le_of_ble_eq_true rfl) rfl rfl (R_readNumber hR1 36 2 (m := 2) (by decide +kernel) (by decide)) (fun q2 cI2 cA2 e2 hR2 f2 => ?_) (fun k cI2 cA2 s2 e2 hR2 f2 => RP_x (Fr2.trans F1 f2) (by first | (simp [rTold, bnd_i, bnd_x, e1, c12, e2]; done) | simp_all [rTold, bnd_i, bnd_x]) hR2)
    have F2 := Fr2.trans F1 f2
    refine ep_iconst (v := 1) d_R_readTold_26 (by decide) ?_
    refine ep_iadd d_R_readTold_27 ?_
    refine ep_istore_n (lv' := [(0, .ref 13), (1, .int (q2.1 + 1))]) [1, 0] d_R_readTold_28 rfl (by decide) rfl ?_
    refine ep_aload_n (j := 0) d_R_readTold_29 rfl rfl ?_
    refine ep_bipush (v := 95) d_R_readTold_30 (by decide) ?_
    refine ep_callVq (As := [.int 95]) (st := []) d_R_readTold_32 lk_R_33 cal_R_pass tm_R_pass ts_R_pass rfl rfl rfl (Nat.le_of_ble_eq_true rfl) (Nat.le_of_ble_eq_true rfl) rfl rfl (R_pass hR2 95 (by decide)) (fun q3 cI3 cA3 e3 hR3 f3 => ?_) (fun k cI3 cA3 s3 e3 hR3 f3 => RP_x (Fr2.trans F2 f3) (by first | (simp [rTold, bnd_i, bnd_x, e1, c12, e2, e3]; done) | simp_all [rTold, bnd_i, bnd_x]) hR3)
    have F3 := Fr2.trans F2 f3
    refine ep_aload_n (j := 0) d_R_readTold_35 rfl rfl ?_
    refine ep_getf (fi := 0) (v := .ref 14) d_R_readTold_36 cl1 lf_R_12 (by decide) rfl rfl ?_
    refine ep_iload_n (j := 1) d_R_readTold_39 rfl rfl ?_
    refine ep_callVi (As := [.int (q2.1 + 1)]) (st := []) d_R_readTold_40 lk_R_74 cal_W_at tm_W_at ts_W_at rfl rfl rfl (Nat.le_of_ble_eq_true rfl) (Nat.le_of_ble_eq_true rfl) rfl rfl (T_at hR3 (q2.1 + 1)) ?_
    refine ep_istore_n (lv' := [(0, .ref 13), (1, .int (q2.1 + 1)), (2, .int (tat q3.2.1 (q2.1 + 1)))]) [1, 2, 0] d_R_readTold_43 rfl (by decide) rfl ?_
    refine ep_iload_n (j := 2) d_R_readTold_44 rfl rfl ?_
    refine ep_iconst (v := (-1)) d_R_readTold_45 (by decide) ?_
    refine ep_icmp_eq (tgt := 53) d_R_readTold_46 (by decide) (fun c46 => ?_) (fun c46 => ?_)
    · refine ep_iconst (v := 0) d_R_readTold_53 (by decide) ?_
      exact ep_callSX (As := [.int 0]) (st := []) d_R_readTold_54 (Or.inl lk_R_59) cal_R_need tm_R_need ti_R rfl (Nat.le_of_ble_eq_true rfl) (Nat.le_of_ble_eq_true rfl) rfl rfl R_need0 (RP_x F3 (by first | (simp [rTold, bnd_i, bnd_x, e1, c12, e2, e3, c46]; done) | simp_all [rTold, bnd_i, bnd_x]) hR3)
    · refine ep_iconst (v := 1) d_R_readTold_49 (by decide) ?_
      refine ep_goto (tgt := 54) d_R_readTold_50 (by decide) ?_
      refine ep_callSv (As := [.int 1]) (st := []) d_R_readTold_54 (Or.inl lk_R_59) cal_R_need tm_R_need ti_R rfl (Nat.le_of_ble_eq_true rfl) (Nat.le_of_ble_eq_true rfl) rfl rfl R_need1 ?_
      refine ep_iload_n (j := 2) d_R_readTold_57 rfl rfl ?_
      exact ep_iret d_R_readTold_58 rfl rfl (RP_ok (f := fun q : Int32 × RS => some (.int q.1)) (q := (tat q3.2.1 (q2.1 + 1), q3)) F3 (by first | (simp [rTold, bnd_i, bnd_x, e1, c12, e2, e3, c46]; done) | simp_all [rTold, bnd_i, bnd_x]) hR3)
  · refine ep_iconst (v := 0) d_R_readTold_15 (by decide) ?_
    refine ep_goto (tgt := 28) d_R_readTold_16 (by decide) ?_
    refine ep_istore_n (lv' := [(0, .ref 13), (1, .int 0)]) [1, 0] d_R_readTold_28 rfl (by decide) rfl ?_
    refine ep_aload_n (j := 0) d_R_readTold_29 rfl rfl ?_
    refine ep_bipush (v := 95) d_R_readTold_30 (by decide) ?_
    refine ep_callVq (As := [.int 95]) (st := []) d_R_readTold_32 lk_R_33 cal_R_pass tm_R_pass ts_R_pass rfl rfl rfl (Nat.le_of_ble_eq_true rfl) (Nat.le_of_ble_eq_true rfl) rfl rfl (R_pass hR1 95 (by decide)) (fun q4 cI4 cA4 e4 hR4 f4 => ?_) (fun k cI4 cA4 s4 e4 hR4 f4 => RP_x (Fr2.trans F1 f4) (by first | (simp [rTold, bnd_i, bnd_x, e1, c12, e4]; done) | simp_all [rTold, bnd_i, bnd_x]) hR4)
    have F4 := Fr2.trans F1 f4
    refine ep_aload_n (j := 0) d_R_readTold_35 rfl rfl ?_
    refine ep_getf (fi := 0) (v := .ref 14) d_R_readTold_36 cl1 lf_R_12 (by decide) rfl rfl ?_
    refine ep_iload_n (j := 1) d_R_readTold_39 rfl rfl ?_
    refine ep_callVi (As := [.int 0]) (st := []) d_R_readTold_40 lk_R_74 cal_W_at tm_W_at ts_W_at rfl rfl rfl (Nat.le_of_ble_eq_true rfl) (Nat.le_of_ble_eq_true rfl) rfl rfl (T_at hR4 0) ?_
    refine ep_istore_n (lv' := [(0, .ref 13), (1, .int 0), (2, .int (tat q4.2.1 0))]) [1, 2, 0] d_R_readTold_43 rfl (by decide) rfl ?_
    refine ep_iload_n (j := 2) d_R_readTold_44 rfl rfl ?_
    refine ep_iconst (v := (-1)) d_R_readTold_45 (by decide) ?_
    refine ep_icmp_eq (tgt := 53) d_R_readTold_46 (by decide) (fun c46 => ?_) (fun c46 => ?_)
    · refine ep_iconst (v := 0) d_R_readTold_53 (by decide) ?_
      exact ep_callSX (As := [.int 0]) (st := []) d_R_readTold_54 (Or.inl lk_R_59) cal_R_need tm_R_need ti_R rfl (Nat.le_of_ble_eq_true rfl) (Nat.le_of_ble_eq_true rfl) rfl rfl R_need0 (RP_x F4 (by first | (simp [rTold, bnd_i, bnd_x, e1, c12, e4, c46]; done) | simp_all [rTold, bnd_i, bnd_x]) hR4)
    · refine ep_iconst (v := 1) d_R_readTold_49 (by decide) ?_
      refine ep_goto (tgt := 54) d_R_readTold_50 (by decide) ?_
      refine ep_callSv (As := [.int 1]) (st := []) d_R_readTold_54 (Or.inl lk_R_59) cal_R_need tm_R_need ti_R rfl (Nat.le_of_ble_eq_true rfl) (Nat.le_of_ble_eq_true rfl) rfl rfl R_need1 ?_
      refine ep_iload_n (j := 2) d_R_readTold_57 rfl rfl ?_
      exact ep_iret d_R_readTold_58 rfl rfl (RP_ok (f := fun q : Int32 × RS => some (.int q.1)) (q := (tat q4.2.1 0, q4)) F4 (by first | (simp [rTold, bnd_i, bnd_x, e1, c12, e4, c46]; done) | simp_all [rTold, bnd_i, bnd_x]) hR4)
end RD
