/-! the law: its loop, its start; by program (wip/whole/gen70.py) -/
section LLP
variable {d : Nat} {X : Nat × (Nat → Int32)} {cI : Nat → Int32} {cA : Nat → Nat → Int32} {rI : Nat → Int32} {rA : Nat → Nat → Int32} {ol : Int64} {J : mH} {S : CSt}
theorem and31 (x : Int32) : ∃ j : Nat, j < 32 ∧ x &&& 31 = nI j := by
  obtain ⟨n, hn, rfl⟩ := int32_nI x
  exact ⟨n % 2 ^ 5, by omega, pk_andN hn 5 (by decide)⟩
theorem lt6 {n a : Nat} (hn : n ≤ 3072) (ha : a ≤ 10000) : nI n - 6 < nI a ↔ n < a + 6 := by
  rw [Int32.lt_iff_toInt_lt]
  have h1 : (nI a).toInt = a := nI_toInt (by omega)
  have h2 : (nI n - 6).toInt = (n : Int) - 6 := by
    have h3 : (nI n).toInt = n := nI_toInt (by omega)
    rw [Int32.toInt_sub, h3, show (6 : Int32).toInt = 6 from by decide]
    exact Int.bmod_eq_of_le (by omega) (by omega)
  rw [h1, h2]
  omega
/-- the end of the law: true; nothing but the objects and the exceptions was made -/
def LQ (X : Nat × (Nat → Int32)) : mR → mH → Prop := fun r h' => r = .inl (some (.int 1)) ∧ ∃ (cI' : Nat → Int32) (cA' : Nat → Nat → Int32) (rI' : Nat → Int32) (rA' : Nat → Nat → Int32) (ol' : Int64) (J' : mH), h' = HC X cI' cA' rI' rA' ol' J' ∧ J'.length ≤ 4000 ∧ ∀ e ∈ J', eSz e = 6
set_option maxHeartbeats 4000000 in
set_option maxRecDepth 100000 in
theorem L_loop (hX : X.1 ≤ 3072) : ∀ (m a : Nat), X.1 + 6 - a < m → ∀ {cI : Nat → Int32} {cA : Nat → Nat → Int32} {rI : Nat → Int32} {rA : Nat → Nat → Int32} {ol : Int64} {J : mH} {S : CSt}, J.length ≤ a → (∀ e ∈ J, eSz e = 6) → a ≤ 3100 → CC cI cA S → MB rI rA S → IV S → EvP m_L_law (d + 133) 23 [(0, .ref 0), (1, .ref 1), (2, .ref 16), (3, .ref 31), (4, .int (nI a))] [] (HC X cI cA rI rA ol J) (LQ X) := by
  intro m
  induction m with
  | zero => intro a h; omega
  | succ m ih =>
    intro a hm cI cA rI rA ol J S hJ hJe ha hc hb hv
    by_cases ha6 : a + 6 ≤ X.1
    · have kk : LK d X J a (LQ X) := by
        intro cI' cA' rI' rA' ol' J' S' hc' hb' hv' hJ'
        refine ep_iinc (v := (nI (a + 6))) (j := 4) (lv' := [(0, .ref 0), (1, .ref 1), (2, .ref 16), (3, .ref 31), (4, .int (nI (a + 6)))]) [1, 2, 3, 4, 0] d_L_law_1076 rfl (nI_add a 6) (by decide) rfl ?_
        refine ep_goto (tgt := 23) d_L_law_1079 (by decide) ?_
        refine ih (a + 6) (by omega) ?_ ?_ (by omega) hc' hb' hv'
        · rcases hJ' with rfl | ⟨k, rfl⟩
          · omega
          · rw [List.length_append]; show J.length + 1 ≤ a + 6; omega
        · rcases hJ' with rfl | ⟨k, rfl⟩
          · exact hJe
          · intro e he
            rcases List.mem_append.mp he with he | he
            · exact hJe e he
            · rw [List.mem_singleton.mp he]; rfl
      refine ep_iload (j := 4) d_L_law_23 rfl ?_
      refine ep_aload_n (j := 0) d_L_law_25 rfl rfl ?_
      refine ep_xlen d_L_law_26 rfl ?_
      refine ep_bipush (v := 6) d_L_law_27 (by decide) ?_
      refine ep_isub d_L_law_29 ?_
      refine ep_icmp_gt (tgt := 1082) d_L_law_30 (by decide) (fun z => absurd z (fun u => absurd ((lt6 hX (by omega)).mp u) (by omega))) (fun _ => ?_)
      refine ep_aload_n (j := 0) d_L_law_33 rfl rfl ?_
      refine ep_iload (j := 4) d_L_law_34 rfl ?_
      refine ep_xald (f := X.2) a d_L_law_36 rfl rfl (by omega) (by omega) ?_
      refine ep_bipush (v := 31) d_L_law_37 (by decide) ?_
      refine ep_iand d_L_law_39 ?_
      obtain ⟨j, hj, ej⟩ := and31 (X.2 a)
      rw [ej]
      by_cases h17 : 17 ≤ j
      · refine ep_tsOut (tgt := 1076) d_L_law_40 (Or.inr ?_) (by decide) (kk hc hb hv (Or.inl rfl))
        rw [nI_toInt (by omega)]
        omega
      rcases (show j = 0 ∨ j = 1 ∨ j = 2 ∨ j = 3 ∨ j = 4 ∨ j = 5 ∨ j = 6 ∨ j = 7 ∨ j = 8 ∨ j = 9 ∨ j = 10 ∨ j = 11 ∨ j = 12 ∨ j = 13 ∨ j = 14 ∨ j = 15 ∨ j = 16 by omega) with e | e | e | e | e | e | e | e | e | e | e | e | e | e | e | e | e
      · subst e; exact ep_tsIn (off := 84) (tgt := 124) d_L_law_40 (by decide +kernel) (by decide +kernel) (by decide +kernel) (by decide) (L_c0 hc hb hv ha6 hX kk)
      · subst e; exact ep_tsIn (off := 140) (tgt := 180) d_L_law_40 (by decide +kernel) (by decide +kernel) (by decide +kernel) (by decide) (L_c1 hc hb hv ha6 hX kk)
      · subst e; exact ep_tsIn (off := 196) (tgt := 236) d_L_law_40 (by decide +kernel) (by decide +kernel) (by decide +kernel) (by decide) (L_c2 hc hb hv ha6 hX kk)
      · subst e; exact ep_tsIn (off := 264) (tgt := 304) d_L_law_40 (by decide +kernel) (by decide +kernel) (by decide +kernel) (by decide) (L_c3 hc hb hv ha6 hX kk)
      · subst e; exact ep_tsIn (off := 356) (tgt := 396) d_L_law_40 (by decide +kernel) (by decide +kernel) (by decide +kernel) (by decide) (L_c4 hc hb hv ha6 hX kk)
      · subst e; exact ep_tsIn (off := 424) (tgt := 464) d_L_law_40 (by decide +kernel) (by decide +kernel) (by decide +kernel) (by decide) (L_c5 hc hb hv ha6 hX kk)
      · subst e; exact ep_tsIn (off := 492) (tgt := 532) d_L_law_40 (by decide +kernel) (by decide +kernel) (by decide +kernel) (by decide) (L_c6 hc hb hv ha6 hX kk)
      · subst e; exact ep_tsIn (off := 584) (tgt := 624) d_L_law_40 (by decide +kernel) (by decide +kernel) (by decide +kernel) (by decide) (L_c7 hc hb hv ha6 hX kk)
      · subst e; exact ep_tsIn (off := 652) (tgt := 692) d_L_law_40 (by decide +kernel) (by decide +kernel) (by decide +kernel) (by decide) (L_c8 hc hb hv ha6 hX kk)
      · subst e; exact ep_tsIn (off := 756) (tgt := 796) d_L_law_40 (by decide +kernel) (by decide +kernel) (by decide +kernel) (by decide) (L_c9 hc hb hv ha6 hX kk)
      · subst e; exact ep_tsIn (off := 793) (tgt := 833) d_L_law_40 (by decide +kernel) (by decide +kernel) (by decide +kernel) (by decide) (L_c10 hc hb hv ha6 hX kk)
      · subst e; exact ep_tsIn (off := 849) (tgt := 889) d_L_law_40 (by decide +kernel) (by decide +kernel) (by decide +kernel) (by decide) (L_c11 hc hb hv ha6 hX kk)
      · subst e; exact ep_tsIn (off := 906) (tgt := 946) d_L_law_40 (by decide +kernel) (by decide +kernel) (by decide +kernel) (by decide) (L_c12 hc hb hv ha6 hX kk)
      · subst e; exact ep_tsIn (off := 917) (tgt := 957) d_L_law_40 (by decide +kernel) (by decide +kernel) (by decide +kernel) (by decide) (L_c13 hc hb hv ha6 hX kk)
      · subst e; exact ep_tsIn (off := 942) (tgt := 982) d_L_law_40 (by decide +kernel) (by decide +kernel) (by decide +kernel) (by decide) (L_c14 hc hb hv ha6 hX kk)
      · subst e; exact ep_tsIn (off := 986) (tgt := 1026) d_L_law_40 (by decide +kernel) (by decide +kernel) (by decide +kernel) (by decide) (L_c15 hc hb hv ha6 hX kk)
      · subst e; exact ep_tsIn (off := 1011) (tgt := 1051) d_L_law_40 (by decide +kernel) (by decide +kernel) (by decide +kernel) (by decide) (L_c16 hc hb hv ha6 hX kk)
    · refine ep_iload (j := 4) d_L_law_23 rfl ?_
      refine ep_aload_n (j := 0) d_L_law_25 rfl rfl ?_
      refine ep_xlen d_L_law_26 rfl ?_
      refine ep_bipush (v := 6) d_L_law_27 (by decide) ?_
      refine ep_isub d_L_law_29 ?_
      refine ep_icmp_gt (tgt := 1082) d_L_law_30 (by decide) (fun _ => ?_) (fun z => absurd ((lt6 hX (by omega)).mpr (by omega)) z)
      refine ep_iconst (v := 1) d_L_law_1082 (by decide) ?_
      exact ep_iret d_L_law_1083 rfl rfl (⟨rfl, cI, cA, rI, rA, ol, J, rfl, by omega, hJe⟩)
theorem cc_0 : CC (fun _ => 0) (fun _ _ => 0) ([], [], []) := ⟨⟨nI_0.symm, Nat.zero_le _, rfl⟩, ⟨nI_0.symm, Nat.zero_le _, rfl⟩, ⟨nI_0.symm, Nat.zero_le _, rfl⟩, ⟨[], nI_0.symm, Nat.zero_le _, rfl⟩, ⟨[], nI_0.symm, Nat.zero_le _, rfl⟩, ⟨[], nI_0.symm, Nat.zero_le _, rfl⟩⟩
theorem mb_0 : MB (fun _ => 0) (fun _ _ => 0) ([], [], []) := ⟨⟨nI_0.symm, rfl⟩, ⟨nI_0.symm, rfl⟩, ⟨nI_0.symm, rfl⟩⟩
set_option maxHeartbeats 4000000 in
set_option maxRecDepth 100000 in
theorem L_law_ev (hX : X.1 ≤ 3072) : EvP m_L_law (d + 133) 0 [(0, .ref 0)] [] [mX X.1 X.2] (LQ X) := by
  refine ep_new [.null, .null, .null, .null, .null] d_L_law_0 cl4 lc_L_8 tk_N ti_N (Nat.zero_lt_succ _) rfl (by decide) (fun _ _ _ => rfl) ?_
  refine ep_hs (h2 := [mX X.1 X.2, mO 4 [.null, .null, .null, .null, .null]]) (st2 := [.ref 1]) rfl rfl ?_
  refine ep_dup d_L_law_3 rfl ?_
  refine ep_callIv (As := []) (st := [.ref 1]) (h2 := [mX X.1 X.2, mO 4 [.ref 2, .ref 4, .ref 6, .ref 8, .ref 13], mO 0 [.ref 3, .int 0, .int 0], mA 1440 (fun _ => 0), mO 2 [.ref 5, .int 0], mA 120 (fun _ => 0), mO 2 [.ref 7, .int 0], mA 120 (fun _ => 0), mO 3 [.ref 9, .ref 11, .ref 2], mO 2 [.ref 10, .int 0], mA 120 (fun _ => 0), mO 2 [.ref 12, .int 0], mA 120 (fun _ => 0), mO 1 [.ref 14, .ref 2, .ref 4, .int 0], mO 2 [.ref 15, .int 0], mA 120 (fun _ => 0)]) d_L_law_4 (Or.inl lk_L_53) cal_N_init tm_N_init tc_N_init rfl rfl (Nat.le_of_ble_eq_true rfl) (Nat.le_of_ble_eq_true rfl) rfl N_init_c ?_
  refine ep_astore_n (lv' := [(0, .ref 0), (1, .ref 1)]) [1, 0] d_L_law_7 rfl (by decide) rfl ?_
  refine ep_new [.int 0, .int 0, .int 0, .null, .null, .null, .null, .null, .null, .null, .int 0, .null, .int 0, .int 0, .int 0, .null, .int 0, .null, .int 0, .null, .null, .null, .null, .int 0, .int 0, .int 0] d_L_law_8 cl5 lc_L_54 tk_M ti_M (Nat.zero_lt_succ _) rfl (by decide) (fun _ _ _ => rfl) ?_
  refine ep_hs (h2 := [mX X.1 X.2, mO 4 [.ref 2, .ref 4, .ref 6, .ref 8, .ref 13], mO 0 [.ref 3, .int 0, .int 0], mA 1440 (fun _ => 0), mO 2 [.ref 5, .int 0], mA 120 (fun _ => 0), mO 2 [.ref 7, .int 0], mA 120 (fun _ => 0), mO 3 [.ref 9, .ref 11, .ref 2], mO 2 [.ref 10, .int 0], mA 120 (fun _ => 0), mO 2 [.ref 12, .int 0], mA 120 (fun _ => 0), mO 1 [.ref 14, .ref 2, .ref 4, .int 0], mO 2 [.ref 15, .int 0], mA 120 (fun _ => 0), mO 5 [.int 0, .int 0, .int 0, .null, .null, .null, .null, .null, .null, .null, .int 0, .null, .int 0, .int 0, .int 0, .null, .int 0, .null, .int 0, .null, .null, .null, .null, .int 0, .int 0, .int 0]]) (st2 := [.ref 16]) rfl rfl ?_
  refine ep_dup d_L_law_11 rfl ?_
  refine ep_callIv (As := []) (st := [.ref 16]) (h2 := [mX X.1 X.2, mO 4 [.ref 2, .ref 4, .ref 6, .ref 8, .ref 13], mO 0 [.ref 3, .int 0, .int 0], mA 1440 (fun _ => 0), mO 2 [.ref 5, .int 0], mA 120 (fun _ => 0), mO 2 [.ref 7, .int 0], mA 120 (fun _ => 0), mO 3 [.ref 9, .ref 11, .ref 2], mO 2 [.ref 10, .int 0], mA 120 (fun _ => 0), mO 2 [.ref 12, .int 0], mA 120 (fun _ => 0), mO 1 [.ref 14, .ref 2, .ref 4, .int 0], mO 2 [.ref 15, .int 0], mA 120 (fun _ => 0), mO 5 [.int 0, .int 0, .int 0, .ref 17, .ref 18, .ref 19, .ref 20, .ref 21, .ref 22, .ref 23, .int 0, .ref 24, .int 0, .int 0, .int 0, .ref 25, .int 0, .ref 26, .int 0, .ref 27, .ref 28, .ref 29, .ref 30, .int 0, .int 0, .int 0], mA 320 (fun _ => 0), mA 320 (fun _ => 0), mA 320 (fun _ => 0), mA 320 (fun _ => 0), mA 960 (fun _ => 0), mA 320 (fun _ => 0), mA 120 (fun _ => 0), mA 120 (fun _ => 0), mA 320 (fun _ => 0), mA 320 (fun _ => 0), mA 400 (fun _ => 0), mA 400 (fun _ => 0), mA 400 (fun _ => 0), mA 1200 (fun _ => 0)]) d_L_law_12 (Or.inl lk_L_56) cal_M_init tm_M_init tc_M_init rfl rfl (Nat.le_of_ble_eq_true rfl) (Nat.le_of_ble_eq_true rfl) rfl M_init_c ?_
  refine ep_astore_n (lv' := [(0, .ref 0), (1, .ref 1), (2, .ref 16)]) [1, 2, 0] d_L_law_15 rfl (by decide) rfl ?_
  refine ep_iconst (v := 1) d_L_law_16 (by decide) ?_
  refine ep_newl (n := 1) d_L_law_17 (by decide) (by decide) ta_long (Nat.zero_lt_succ _) ?_
  refine ep_hs (h2 := HC X (fun _ => 0) (fun _ _ => 0) (fun _ => 0) (fun _ _ => 0) 0 []) (st2 := [.ref 31]) HC_0 rfl ?_
  refine ep_astore_n (lv' := [(0, .ref 0), (1, .ref 1), (2, .ref 16), (3, .ref 31)]) [1, 2, 3, 0] d_L_law_19 rfl (by decide) rfl ?_
  refine ep_iconst (v := 0) d_L_law_20 (by decide) ?_
  refine ep_istore (lv' := [(0, .ref 0), (1, .ref 1), (2, .ref 16), (3, .ref 31), (4, .int 0)]) [1, 2, 3, 4, 0] d_L_law_21 (by decide) rfl ?_
  rw [← nI_0]
  exact L_loop hX (X.1 + 7) 0 (by omega) (Nat.zero_le _) (fun e he => by cases he) (by omega) cc_0 mb_0 iv_0
theorem LQ_sz {r : mR} {h' : mH} (h : LQ X r h') : r = .inl (some (.int 1)) ∧ h'.length ≤ 5000 ∧ hSz h' ≤ 40000 := by
  obtain ⟨h1, cI', cA', rI', rA', ol', J', rfl, hl, he⟩ := h
  refine ⟨h1, ?_, ?_⟩
  · show J'.length + 32 ≤ 5000
    omega
  · have key : ∀ K : mH, (∀ e ∈ K, eSz e = 6) → (K.map eSz).sum = 6 * K.length := by
      intro K
      induction K with
      | nil => intro _; rfl
      | cons a K ih =>
        intro hK
        rw [List.map_cons, List.sum_cons, hK a (List.mem_cons_self ..), ih (fun e he => hK e (List.mem_cons_of_mem _ he)), List.length_cons]
        omega
    have e1 : hSz (HC X cI' cA' rI' rA' ol' J') = hSz (HC X cI' cA' rI' rA' ol' []) + (J'.map eSz).sum := by
      have : HC X cI' cA' rI' rA' ol' J' = HC X cI' cA' rI' rA' ol' [] ++ J' := rfl
      rw [this]
      unfold hSz
      rw [List.map_append, List.sum_append]
    have e2 : hSz (HC X cI' cA' rI' rA' ol' []) ≤ 10000 := by
      have : hSz (HC X cI' cA' rI' rA' ol' []) = hSz (HC (0, fun _ => 0) (fun _ => 0) (fun _ _ => 0) (fun _ => 0) (fun _ _ => 0) 0 []) := rfl
      rw [this]
      decide +kernel
    rw [e1, key J' he]
    omega
end LLP
