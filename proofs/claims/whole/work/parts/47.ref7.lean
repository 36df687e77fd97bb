/-! the reference: nests; by program (wip/whole/gen47.py) -/
section MS5
variable {d : Nat} {X : Nat × (Nat → Int32)} {cI : Nat → Int32} {cA : Nat → Nat → Int32} {rI : Nat → Int32} {rA : Nat → Nat → Int32} {ol : Int64} {J : mH} {L S : List Int32} {ct : Nat} {s : MS}
theorem mLets_N (k : Nat) : ∀ (v : Int32) (s : MS), (mLets L k v s).2.N = s.N ∧ (mLets L k v s).2.K = s.K ∧ (mLets L k v s).2.E = s.E ∧ (mLets L k v s).2.b = s.b ∧ (mLets L k v s).2.p ≤ s.p + k ∧ (s.wr = true → (mLets L k v s).2.p = s.p) := by
  induction k with
  | zero => intro v s; exact ⟨rfl, rfl, rfl, rfl, Nat.le_refl _, fun _ => rfl⟩
  | succ k ih =>
    intro v s
    by_cases h : s.wr = true
    · rw [show mLets L (k + 1) v s = (v, s) from if_pos h]
      exact ⟨rfl, rfl, rfl, rfl, by show s.p ≤ _; omega, fun _ => rfl⟩
    · rw [show mLets L (k + 1) v s = mLets L k (256 * v + pk L s) (mAv (mWr s (decide (¬ smP (pk L s)))) 1) from if_neg h]
      obtain ⟨a, b, c, e, f, g⟩ := ih (256 * v + pk L s) (mAv (mWr s (decide (¬ smP (pk L s)))) 1)
      refine ⟨a, b, c, e, ?_, fun q => absurd q h⟩
      have : (mAv (mWr s (decide (¬ smP (pk L s)))) 1).p = s.p + 1 := rfl
      omega
theorem mId_N : (mId L s).2.N = s.N ∧ (mId L s).2.K = s.K ∧ (mId L s).2.E = s.E ∧ (mId L s).2.b = s.b := by
  obtain ⟨a, b, c, e, _⟩ := mLets_N (L := L) (mNum L 1 s).1.toNatClampNeg 0 (mOr (mNum L 1 s).2 (decide ((mNum L 1 s).1 < 1 ∨ 3 < (mNum L 1 s).1)))
  exact ⟨a, b, c, e⟩
theorem mId_pb : (mId L s).2.p ≤ s.p + L.length + 3 := by
  obtain ⟨_, _, _, _, f, g⟩ := mLets_N (L := L) (mNum L 1 s).1.toNatClampNeg 0 (mOr (mNum L 1 s).2 (decide ((mNum L 1 s).1 < 1 ∨ 3 < (mNum L 1 s).1)))
  have h0 : (mOr (mNum L 1 s).2 (decide ((mNum L 1 s).1 < 1 ∨ 3 < (mNum L 1 s).1))).p = s.p + (dgs L 10 s.p).length := rfl
  have h1 := dgs_len L 10 s.p
  show (mLets L _ 0 _).2.p ≤ _
  by_cases q : (mNum L 1 s).1 < 1 ∨ 3 < (mNum L 1 s).1
  · rw [g (by simp [mOr_wr, q]), h0]; omega
  · obtain ⟨k, hk, hk3⟩ := id_len q
    rw [hk] at f
    rw [hk]
    omega
theorem mTold_N : (mTold L s).2.N = s.N ∧ (mTold L s).2.K = s.K ∧ (mTold L s).2.E = s.E ∧ (mTold L s).2.b = s.b := ⟨rfl, rfl, rfl, rfl⟩
theorem mTold_pb : (mTold L s).2.p ≤ s.p + L.length + 2 := by
  have h1 := dgs_len L 36 (s.p + 1)
  show s.p + 1 + (dgs L 36 (s.p + 1)).length + 1 ≤ _
  omega
theorem mTold_V (hE : ∀ x, x ∈ s.E → Vd s.N x) (he : s.E.length ≤ 310) (h : (mTold L s).2.wr = false) : Vd s.N (mTold L s).1 := by
  have h' : (mTo2 L (mEx L 83 s)).wr = false := h
  have e : (mTold L s).1 = s.E.getD (tlP L (mEx L 83 s)).toNatClampNeg 0 := if_neg (by rw [h']; decide)
  rw [e]
  have hw := of_decide_eq_false (Bool.or_eq_false_iff.mp (show ((mEx L 95 (mAv (mEx L 83 s) (dgs L 36 (mEx L 83 s).p).length)).wr || decide _) = false from h')).2
  have hlt : ¬ nI s.E.length ≤ tlP L (mEx L 83 s) := fun u => hw (Or.inr (Or.inr u))
  rcases id_rng (tlP L (mEx L 83 s)) with q | q
  · rw [q.2]
    have hpos : 0 < s.E.length := by
      by_cases u : 0 < s.E.length
      · exact u
      · exfalso
        have h0 : s.E.length = 0 := by omega
        rw [h0, nI_0] at hlt
        have h83 := (Bool.or_eq_false_iff.mp h').1
        -- the number told is never below 0
        have : ∃ b : Nat, b < 100000 ∧ tlP L (mEx L 83 s) = nI b := by
          unfold tlP
          by_cases z : (dgs L 36 (mEx L 83 s).p).length = 0
          · exact ⟨0, by omega, by rw [if_pos z, nI_0]⟩
          · rw [if_neg z]
            obtain ⟨b, hb, hbb⟩ : ∃ b : Nat, vlD 36 0 ((dgs L 36 (mEx L 83 s).p).take 3) = nI b ∧ b < 50000 := by
              have key : ∀ (l : List Int32), (∀ c, c ∈ l → ¬ digF c 36 = -1) → l.length ≤ 3 → ∃ b : Nat, vlD 36 0 l = nI b ∧ b < 50000 := by
                intro l hl h3
                match l, h3, hl with
                | [], _, _ => exact ⟨0, by rw [nI_0]; rfl, by omega⟩
                | [a], _, hl =>
                  obtain ⟨i, hi, ei, _⟩ := dig36 (hl a (by simp))
                  exact ⟨0 * 36 + i, by show 0 * 36 + digF a 36 = _; rw [← nI_0, vl_nI ei], by omega⟩
                | [a, c], _, hl =>
                  obtain ⟨i, hi, ei, _⟩ := dig36 (hl a (by simp))
                  obtain ⟨j, hj, ej, _⟩ := dig36 (hl c (by simp))
                  exact ⟨(0 * 36 + i) * 36 + j, by show (0 * 36 + digF a 36) * 36 + digF c 36 = _; rw [← nI_0, vl_nI ei, vl_nI ej], by omega⟩
                | [a, c, e], _, hl =>
                  obtain ⟨i, hi, ei, _⟩ := dig36 (hl a (by simp))
                  obtain ⟨j, hj, ej, _⟩ := dig36 (hl c (by simp))
                  obtain ⟨k, hk, ek, _⟩ := dig36 (hl e (by simp))
                  exact ⟨((0 * 36 + i) * 36 + j) * 36 + k, by show ((0 * 36 + digF a 36) * 36 + digF c 36) * 36 + digF e 36 = _; rw [← nI_0, vl_nI ei, vl_nI ej, vl_nI ek], by omega⟩
              exact key _ (fun c hc => dgs_all (L := L) (p := (mEx L 83 s).p) c (List.mem_of_mem_take hc)) (by rw [List.length_take]; omega)
            exact ⟨b + 1, by omega, by rw [hb, nI_1]⟩
        obtain ⟨b, hb, eb⟩ := this
        rw [eb] at q
        exact absurd q.1 (nI_pos (by omega))
    rw [List.getD_eq_getElem?_getD, List.getElem?_eq_getElem hpos]
    exact hE _ (List.getElem_mem hpos)
  · have hlt' : (tlP L (mEx L 83 s)).toNatClampNeg < s.E.length := by
      rw [q.1, nI_leI (by omega) q.2] at hlt
      omega
    rw [List.getD_eq_getElem?_getD, List.getElem?_eq_getElem hlt']
    exact hE _ (List.getElem_mem hlt')
set_option maxHeartbeats 4000000 in
set_option maxRecDepth 100000 in
theorem M_beginArgs (hd : MD L S ct rI rA s) (hp0 : s.p ≤ 124) (hk : s.K.length ≤ 380) (hl : s.N.length ≤ 280) (he : s.E.length ≤ 310) (n : Int32) (hv : Vo s.N n) : EvP m_M_beginArgs (d + 5) 0 [(0, .ref 16), (1, .int n)] [] (HC X cI cA rI rA ol J) (MPi X cI cA ol J L S ct (mBA L n s)) := by
  refine ep_aload_n (j := 0) d_M_beginArgs_0 rfl rfl ?_
  refine ep_bipush (v := 73) d_M_beginArgs_1 (by decide) ?_
  refine ep_callVm (As := [.int 73]) (st := []) d_M_beginArgs_3 lk_M_184 cal_M_expect tm_M_expect ts_M_expect rfl rfl rfl (Nat.le_of_ble_eq_true rfl) (Nat.le_of_ble_eq_true rfl) rfl rfl (M_expect hd (by omega) 73) (fun rI1 rA1 hd1 => ?_)
  refine ep_aload_n (j := 0) d_M_beginArgs_6 rfl rfl ?_
  refine ep_iconst (v := 4) d_M_beginArgs_7 (by decide) ?_
  refine ep_iload_n (j := 1) d_M_beginArgs_8 rfl rfl ?_
  refine ep_iconst (v := 0) d_M_beginArgs_9 (by decide) ?_
  refine ep_callVm (As := [.int 4, .int n, .int 0]) (st := []) d_M_beginArgs_10 lk_M_217 cal_M_begin tm_M_begin ts_M_begin rfl rfl rfl (Nat.le_of_ble_eq_true rfl) (Nat.le_of_ble_eq_true rfl) rfl rfl (M_begin hd1 (by show s.K.length ≤ 390; omega) 4 n 0) (fun rI2 rA2 hd2 => ?_)
  refine ep_aload_n (j := 0) d_M_beginArgs_13 rfl rfl ?_
  refine ep_callVm (As := []) (st := []) d_M_beginArgs_14 lk_M_221 cal_M_nextArgument tm_M_nextArgument ts_M_nextArgument rfl rfl rfl (Nat.le_of_ble_eq_true rfl) (Nat.le_of_ble_eq_true rfl) rfl rfl (M_nextArgument (i := 0) (f := ⟨4, n, 0, -1, -1, -1⟩) (K := s.K) (show (0 : Int32) = nI 0 by decide) (by decide) hd2 rfl (fun _ => by show s.p + 1 ≤ 125; omega) (by omega) (by show s.N.length + 6 ≤ 290; omega) he (fun hw => ⟨hv, no_vo _, no_vo _, no_vo _⟩)) (fun rI3 rA3 hd3 => ?_)
  exact ep_iret d_M_beginArgs_17 rfl rfl (MP_ok rfl rfl hd3)
set_option maxHeartbeats 4000000 in
set_option maxRecDepth 100000 in
theorem M_nn_E {f : FR} {K : List FR} (hd : MD L S ct rI rA s) (eK : s.K = f :: K) (hw : s.wr = false) (g : Gd L s) (hV : Vd s.N f.o) (hV3 : cN s.N f.o 0 = 3 → Vd s.N (cN s.N f.o 2)) (hE : pk L s = 69) : ∀ {lv : List (Nat × Value)}, (lv = [(0, .ref 16), (1, .int (nI (K.length + 1)))] ∨ ∃ y2 y3, lv = [(0, .ref 16), (1, .int (nI (K.length + 1))), (2, .int y2), (3, .int y3)]) → EvP m_M_nextNested (d + 6) 7 lv [] (HC X cI cA rI rA ol J) (MPi X cI cA ol J L S ct (mXt f.o (mWr (mK (mAv s 1) K) (decide (¬ cN s.N f.o 0 = 2 ∧ (¬ cN s.N f.o 0 = 3 ∨ ¬ cN s.N (cN s.N f.o 2) 0 = 2)))))) := by
  intro lv hlv
  have hkk : K.length + 1 ≤ 200 := by have := g.k; rw [eK] at this; simpa using this
  have hl := g.n
  have he := g.e
  have hp := g.p
  have hL := g.l
  obtain ⟨q, hq⟩ : ∃ q, q = mXt f.o (mWr (mK (mAv s 1) K) (decide (¬ cN s.N f.o 0 = 2 ∧ (¬ cN s.N f.o 0 = 3 ∨ ¬ cN s.N (cN s.N f.o 2) 0 = 2)))) := ⟨_, rfl⟩
  rw [← hq]
  cases K with
  | nil =>
    rcases hlv with rfl | ⟨y2, y3, rfl⟩
    · refine ep_aload_n (j := 0) d_M_nextNested_7 rfl rfl ?_
      refine ep_getf (fi := 24) (v := .int (bI s.wr)) d_M_nextNested_8 cl5 lf_M_171 (by decide) rfl (congrArg (fun z => some (Value.int z)) hd.w) ?_
      refine ep_if_ne (tgt := 220) d_M_nextNested_11 (by decide) (fun z => absurd (by rw [hw]; rfl) z) (fun _ => ?_)
      refine ep_aload_n (j := 0) d_M_nextNested_14 rfl rfl ?_
      refine ep_getf (fi := 20) (v := .ref 28) d_M_nextNested_15 cl5 lf_M_43 (by decide) rfl rfl ?_
      refine ep_iload_n (j := 1) d_M_nextNested_18 rfl rfl ?_
      refine ep_fO d_M_nextNested_19 (hd.top eK).1 (by omega) ?_
      refine ep_istore_n (lv' := [(0, .ref 16), (1, .int (nI (([] : List FR).length + 1))), (2, .int f.o)]) [1, 2, 0] d_M_nextNested_20 rfl (by decide) rfl ?_
      refine ep_aload_n (j := 0) d_M_nextNested_21 rfl rfl ?_
      refine ep_callVi (As := []) (st := []) d_M_nextNested_22 lk_M_174 cal_M_peek tm_M_peek ts_M_peek rfl rfl rfl (Nat.le_of_ble_eq_true rfl) (Nat.le_of_ble_eq_true rfl) rfl rfl (M_peek hd (by omega)) ?_
      refine ep_bipush (v := 69) d_M_nextNested_25 (by decide) ?_
      refine ep_icmp_ne (tgt := 129) d_M_nextNested_27 (by decide) (fun z => absurd hE z) (fun _ => ?_)
      refine ep_aload_n (j := 0) d_M_nextNested_30 rfl rfl ?_
      refine ep_dup d_M_nextNested_31 rfl ?_
      refine ep_getf (fi := 23) (v := .int (nI s.p)) d_M_nextNested_32 cl5 lf_M_168 (by decide) rfl (congrArg (fun z => some (Value.int z)) hd.p) ?_
      refine ep_iconst (v := 1) d_M_nextNested_35 (by decide) ?_
      refine ep_iadd d_M_nextNested_36 ?_
      refine ep_putf' (fi := 23) (h2 := HC X cI cA (upd rI 23 ((nI s.p) + 1)) rA ol J) d_M_nextNested_37 cl5 lf_M_168 (by decide) (Or.inl rfl) rfl rfl hI_16_23 ?_
      have hd1 : MD L S ct (upd rI 23 ((nI s.p) + 1)) rA (mAv s 1) := hd.sp (q := (s.p + 1)) (nI_1 _)
      generalize upd rI 23 ((nI s.p) + 1) = rI1 at hd1 ⊢
      refine ep_aload_n (j := 0) d_M_nextNested_40 rfl rfl ?_
      refine ep_dup d_M_nextNested_41 rfl ?_
      refine ep_getf (fi := 18) (v := .int (nI (([] : List FR).length + 2))) d_M_nextNested_42 cl5 lf_M_120 (by decide) rfl (congrArg (fun z => some (Value.int z)) (hd1.top eK).2.2) ?_
      refine ep_iconst (v := 1) d_M_nextNested_45 (by decide) ?_
      refine ep_isub d_M_nextNested_46 ?_
      refine ep_cg (y := nI (([] : List FR).length + 1)) (nI_pred _) ?_
      refine ep_putf' (fi := 18) (h2 := HC X cI cA (upd rI1 18 (nI (([] : List FR).length + 1))) rA ol J) d_M_nextNested_47 cl5 lf_M_120 (by decide) (Or.inl rfl) rfl rfl hI_16_18 ?_
      have hd2 : MD L S ct (upd rI1 18 (nI (([] : List FR).length + 1))) rA (mK (mAv s 1) ([] : List FR)) := hd1.pop eK rfl
      generalize upd rI1 18 (nI (([] : List FR).length + 1)) = rI2 at hd2 ⊢
      refine ep_aload_n (j := 0) d_M_nextNested_50 rfl rfl ?_
      refine ep_join (pc2 := 91) (lv2 := [(0, .ref 16), (1, .int (nI (([] : List FR).length + 1))), (2, .int f.o)]) (st2 := [.int (bI (decide (¬ cN s.N f.o 0 = 2 ∧ (¬ cN s.N f.o 0 = 3 ∨ ¬ cN s.N (cN s.N f.o 2) 0 = 2)))), .ref 16]) ?_ (fun k91 => ?_)
      · refine ep_putf' (fi := 24) (h2 := HC X cI cA (upd rI2 24 (bI (decide (¬ cN s.N f.o 0 = 2 ∧ (¬ cN s.N f.o 0 = 3 ∨ ¬ cN s.N (cN s.N f.o 2) 0 = 2))))) rA ol J) d_M_nextNested_91 cl5 lf_M_171 (by decide) (Or.inl rfl) (bI_f _) rfl hI_16_24 ?_
        have hd3 : MD L S ct (upd rI2 24 (bI (decide (¬ cN s.N f.o 0 = 2 ∧ (¬ cN s.N f.o 0 = 3 ∨ ¬ cN s.N (cN s.N f.o 2) 0 = 2))))) rA (mWr (mK (mAv s 1) ([] : List FR)) (decide (¬ cN s.N f.o 0 = 2 ∧ (¬ cN s.N f.o 0 = 3 ∨ ¬ cN s.N (cN s.N f.o 2) 0 = 2)))) := hd2.sw (q := (decide (¬ cN s.N f.o 0 = 2 ∧ (¬ cN s.N f.o 0 = 3 ∨ ¬ cN s.N (cN s.N f.o 2) 0 = 2)))) rfl
        generalize upd rI2 24 (bI (decide (¬ cN s.N f.o 0 = 2 ∧ (¬ cN s.N f.o 0 = 3 ∨ ¬ cN s.N (cN s.N f.o 2) 0 = 2)))) = rI3 at hd3 ⊢
        obtain ⟨f0, h0, e0, e1⟩ := fr0 hd3
        have e1 : f0.n = s.b := e1
        refine ep_aload_n (j := 0) d_M_nextNested_94 rfl rfl ?_
        refine ep_getf (fi := 18) (v := .int (nI ((mWr (mK (mAv s 1) ([] : List FR)) (decide (¬ cN s.N f.o 0 = 2 ∧ (¬ cN s.N f.o 0 = 3 ∨ ¬ cN s.N (cN s.N f.o 2) 0 = 2)))).K.length + 1))) d_M_nextNested_95 cl5 lf_M_120 (by decide) rfl (congrArg (fun z => some (Value.int z)) hd3.tz) ?_
        refine ep_iconst (v := 1) d_M_nextNested_98 (by decide) ?_
        refine ep_icmp_gt (tgt := 122) d_M_nextNested_99 (by decide) (fun z => absurd z (show ¬ (1 : Int32) < nI 1 by decide)) (fun _ => ?_)
        refine ep_aload_n (j := 0) d_M_nextNested_102 rfl rfl ?_
        refine ep_getf (fi := 19) (v := .ref 27) d_M_nextNested_103 cl5 lf_M_40 (by decide) rfl rfl ?_
        refine ep_iconst (v := 0) d_M_nextNested_106 (by decide) ?_
        refine ep_cg (y := nI 0) (by decide) ?_
        refine ep_fT d_M_nextNested_107 h0 (by decide) ?_
        refine ep_bipush (v := 10) d_M_nextNested_108 (by decide) ?_
        refine ep_icmp_ne (tgt := 122) d_M_nextNested_110 (by decide) (fun z => absurd e0 z) (fun _ => ?_)
        refine ep_aload_n (j := 0) d_M_nextNested_113 rfl rfl ?_
        refine ep_getf (fi := 21) (v := .ref 29) d_M_nextNested_114 cl5 lf_M_46 (by decide) rfl rfl ?_
        refine ep_iconst (v := 0) d_M_nextNested_117 (by decide) ?_
        refine ep_cg (y := nI 0) (by decide) ?_
        refine ep_fN d_M_nextNested_118 h0 (by decide) ?_
        refine ep_if_lt (tgt := 127) d_M_nextNested_119 (by decide) (fun c119 => ?_) (fun c119 => ?_)
        · refine ep_iload_n (j := 2) d_M_nextNested_127 rfl rfl ?_
          exact ep_iret d_M_nextNested_128 rfl rfl (MP_ok (by rw [hq, show mXt f.o (mWr (mK (mAv s 1) ([] : List FR)) (decide (¬ cN s.N f.o 0 = 2 ∧ (¬ cN s.N f.o 0 = 3 ∨ ¬ cN s.N (cN s.N f.o 2) 0 = 2)))) = _ from if_neg (fun u => u.elim (fun u => u rfl) (fun u => absurd u (Int32.not_le.mpr (by rw [e1] at c119; exact c119))))]) (by rw [hq, show mXt f.o (mWr (mK (mAv s 1) ([] : List FR)) (decide (¬ cN s.N f.o 0 = 2 ∧ (¬ cN s.N f.o 0 = 3 ∨ ¬ cN s.N (cN s.N f.o 2) 0 = 2)))) = _ from if_neg (fun u => u.elim (fun u => u rfl) (fun u => absurd u (Int32.not_le.mpr (by rw [e1] at c119; exact c119))))]) hd3)
        · refine ep_aload_n (j := 0) d_M_nextNested_122 rfl rfl ?_
          refine ep_iload_n (j := 2) d_M_nextNested_123 rfl rfl ?_
          refine ep_callVm (As := [.int f.o]) (st := []) d_M_nextNested_124 lk_M_211 cal_M_enter tm_M_enter ts_M_enter rfl rfl rfl (Nat.le_of_ble_eq_true rfl) (Nat.le_of_ble_eq_true rfl) rfl rfl (M_enter hd3 (by show s.E.length < 320; omega) f.o) (fun rI4 rA4 hd4 => ?_)
          refine ep_iload_n (j := 2) d_M_nextNested_127 rfl rfl ?_
          exact ep_iret d_M_nextNested_128 rfl rfl (MP_ok (by rw [hq, show mXt f.o (mWr (mK (mAv s 1) ([] : List FR)) (decide (¬ cN s.N f.o 0 = 2 ∧ (¬ cN s.N f.o 0 = 3 ∨ ¬ cN s.N (cN s.N f.o 2) 0 = 2)))) = _ from if_pos (Or.inr (Int32.not_lt.mp (by rw [e1] at c119; exact c119)))]) (by rw [hq, show mXt f.o (mWr (mK (mAv s 1) ([] : List FR)) (decide (¬ cN s.N f.o 0 = 2 ∧ (¬ cN s.N f.o 0 = 3 ∨ ¬ cN s.N (cN s.N f.o 2) 0 = 2)))) = _ from if_pos (Or.inr (Int32.not_lt.mp (by rw [e1] at c119; exact c119)))]) hd4)
      · refine ep_aload_n (j := 0) d_M_nextNested_51 rfl rfl ?_
        refine ep_getf (fi := 3) (v := .ref 17) d_M_nextNested_52 cl5 lf_M_7 (by decide) rfl rfl ?_
        refine ep_iload_n (j := 2) d_M_nextNested_55 rfl rfl ?_
        refine ep_kind (N := s.N) d_M_nextNested_56 hd2.n (by omega) hV ?_
        refine ep_iconst (v := 2) d_M_nextNested_57 (by decide) ?_
        refine ep_icmp_eq (tgt := 90) d_M_nextNested_58 (by decide) (fun c58 => ?_) (fun c58 => ?_)
        · refine ep_iconst (v := 0) d_M_nextNested_90 (by decide) ?_
          refine ep_cg (y := bI (decide (¬ cN s.N f.o 0 = 2 ∧ (¬ cN s.N f.o 0 = 3 ∨ ¬ cN s.N (cN s.N f.o 2) 0 = 2)))) (bd0 (fun u => u.1 c58)) ?_
          exact k91
        · refine ep_aload_n (j := 0) d_M_nextNested_61 rfl rfl ?_
          refine ep_getf (fi := 3) (v := .ref 17) d_M_nextNested_62 cl5 lf_M_7 (by decide) rfl rfl ?_
          refine ep_iload_n (j := 2) d_M_nextNested_65 rfl rfl ?_
          refine ep_kind (N := s.N) d_M_nextNested_66 hd2.n (by omega) hV ?_
          refine ep_iconst (v := 3) d_M_nextNested_67 (by decide) ?_
          refine ep_icmp_ne (tgt := 86) d_M_nextNested_68 (by decide) (fun c68 => ?_) (fun c68 => ?_)
          · refine ep_iconst (v := 1) d_M_nextNested_86 (by decide) ?_
            refine ep_goto (tgt := 91) d_M_nextNested_87 (by decide) ?_
            refine ep_cg (y := bI (decide (¬ cN s.N f.o 0 = 2 ∧ (¬ cN s.N f.o 0 = 3 ∨ ¬ cN s.N (cN s.N f.o 2) 0 = 2)))) (bd1 ⟨c58, Or.inl c68⟩) ?_
            exact k91
          · refine ep_aload_n (j := 0) d_M_nextNested_71 rfl rfl ?_
            refine ep_getf (fi := 3) (v := .ref 17) d_M_nextNested_72 cl5 lf_M_7 (by decide) rfl rfl ?_
            refine ep_aload_n (j := 0) d_M_nextNested_75 rfl rfl ?_
            refine ep_getf (fi := 5) (v := .ref 19) d_M_nextNested_76 cl5 lf_M_16 (by decide) rfl rfl ?_
            refine ep_iload_n (j := 2) d_M_nextNested_79 rfl rfl ?_
            refine ep_fst (N := s.N) d_M_nextNested_80 hd2.n (by omega) hV ?_
            refine ep_kind (N := s.N) d_M_nextNested_81 hd2.n (by omega) (hV3 c68) ?_
            refine ep_iconst (v := 2) d_M_nextNested_82 (by decide) ?_
            refine ep_icmp_eq (tgt := 90) d_M_nextNested_83 (by decide) (fun c83 => ?_) (fun c83 => ?_)
            · refine ep_iconst (v := 0) d_M_nextNested_90 (by decide) ?_
              refine ep_cg (y := bI (decide (¬ cN s.N f.o 0 = 2 ∧ (¬ cN s.N f.o 0 = 3 ∨ ¬ cN s.N (cN s.N f.o 2) 0 = 2)))) (bd0 (fun u => u.2.elim (fun v => v c68) (fun v => v c83))) ?_
              exact k91
            · refine ep_iconst (v := 1) d_M_nextNested_86 (by decide) ?_
              refine ep_goto (tgt := 91) d_M_nextNested_87 (by decide) ?_
              refine ep_cg (y := bI (decide (¬ cN s.N f.o 0 = 2 ∧ (¬ cN s.N f.o 0 = 3 ∨ ¬ cN s.N (cN s.N f.o 2) 0 = 2)))) (bd1 ⟨c58, Or.inr c83⟩) ?_
              exact k91
    · refine ep_aload_n (j := 0) d_M_nextNested_7 rfl rfl ?_
      refine ep_getf (fi := 24) (v := .int (bI s.wr)) d_M_nextNested_8 cl5 lf_M_171 (by decide) rfl (congrArg (fun z => some (Value.int z)) hd.w) ?_
      refine ep_if_ne (tgt := 220) d_M_nextNested_11 (by decide) (fun z => absurd (by rw [hw]; rfl) z) (fun _ => ?_)
      refine ep_aload_n (j := 0) d_M_nextNested_14 rfl rfl ?_
      refine ep_getf (fi := 20) (v := .ref 28) d_M_nextNested_15 cl5 lf_M_43 (by decide) rfl rfl ?_
      refine ep_iload_n (j := 1) d_M_nextNested_18 rfl rfl ?_
      refine ep_fO d_M_nextNested_19 (hd.top eK).1 (by omega) ?_
      refine ep_istore_n (lv' := [(0, .ref 16), (1, .int (nI (([] : List FR).length + 1))), (2, .int f.o), (3, .int y3)]) [1, 2, 0, 3] d_M_nextNested_20 rfl (by decide) rfl ?_
      refine ep_aload_n (j := 0) d_M_nextNested_21 rfl rfl ?_
      refine ep_callVi (As := []) (st := []) d_M_nextNested_22 lk_M_174 cal_M_peek tm_M_peek ts_M_peek rfl rfl rfl (Nat.le_of_ble_eq_true rfl) (Nat.le_of_ble_eq_true rfl) rfl rfl (M_peek hd (by omega)) ?_
      refine ep_bipush (v := 69) d_M_nextNested_25 (by decide) ?_
      refine ep_icmp_ne (tgt := 129) d_M_nextNested_27 (by decide) (fun z => absurd hE z) (fun _ => ?_)
      refine ep_aload_n (j := 0) d_M_nextNested_30 rfl rfl ?_
      refine ep_dup d_M_nextNested_31 rfl ?_
      refine ep_getf (fi := 23) (v := .int (nI s.p)) d_M_nextNested_32 cl5 lf_M_168 (by decide) rfl (congrArg (fun z => some (Value.int z)) hd.p) ?_
      refine ep_iconst (v := 1) d_M_nextNested_35 (by decide) ?_
      refine ep_iadd d_M_nextNested_36 ?_
      refine ep_putf' (fi := 23) (h2 := HC X cI cA (upd rI 23 ((nI s.p) + 1)) rA ol J) d_M_nextNested_37 cl5 lf_M_168 (by decide) (Or.inl rfl) rfl rfl hI_16_23 ?_
      have hd1 : MD L S ct (upd rI 23 ((nI s.p) + 1)) rA (mAv s 1) := hd.sp (q := (s.p + 1)) (nI_1 _)
      generalize upd rI 23 ((nI s.p) + 1) = rI1 at hd1 ⊢
      refine ep_aload_n (j := 0) d_M_nextNested_40 rfl rfl ?_
      refine ep_dup d_M_nextNested_41 rfl ?_
      refine ep_getf (fi := 18) (v := .int (nI (([] : List FR).length + 2))) d_M_nextNested_42 cl5 lf_M_120 (by decide) rfl (congrArg (fun z => some (Value.int z)) (hd1.top eK).2.2) ?_
      refine ep_iconst (v := 1) d_M_nextNested_45 (by decide) ?_
      refine ep_isub d_M_nextNested_46 ?_
      refine ep_cg (y := nI (([] : List FR).length + 1)) (nI_pred _) ?_
      refine ep_putf' (fi := 18) (h2 := HC X cI cA (upd rI1 18 (nI (([] : List FR).length + 1))) rA ol J) d_M_nextNested_47 cl5 lf_M_120 (by decide) (Or.inl rfl) rfl rfl hI_16_18 ?_
      have hd2 : MD L S ct (upd rI1 18 (nI (([] : List FR).length + 1))) rA (mK (mAv s 1) ([] : List FR)) := hd1.pop eK rfl
      generalize upd rI1 18 (nI (([] : List FR).length + 1)) = rI2 at hd2 ⊢
      refine ep_aload_n (j := 0) d_M_nextNested_50 rfl rfl ?_
      refine ep_join (pc2 := 91) (lv2 := [(0, .ref 16), (1, .int (nI (([] : List FR).length + 1))), (2, .int f.o), (3, .int y3)]) (st2 := [.int (bI (decide (¬ cN s.N f.o 0 = 2 ∧ (¬ cN s.N f.o 0 = 3 ∨ ¬ cN s.N (cN s.N f.o 2) 0 = 2)))), .ref 16]) ?_ (fun k91 => ?_)
      · refine ep_putf' (fi := 24) (h2 := HC X cI cA (upd rI2 24 (bI (decide (¬ cN s.N f.o 0 = 2 ∧ (¬ cN s.N f.o 0 = 3 ∨ ¬ cN s.N (cN s.N f.o 2) 0 = 2))))) rA ol J) d_M_nextNested_91 cl5 lf_M_171 (by decide) (Or.inl rfl) (bI_f _) rfl hI_16_24 ?_
        have hd3 : MD L S ct (upd rI2 24 (bI (decide (¬ cN s.N f.o 0 = 2 ∧ (¬ cN s.N f.o 0 = 3 ∨ ¬ cN s.N (cN s.N f.o 2) 0 = 2))))) rA (mWr (mK (mAv s 1) ([] : List FR)) (decide (¬ cN s.N f.o 0 = 2 ∧ (¬ cN s.N f.o 0 = 3 ∨ ¬ cN s.N (cN s.N f.o 2) 0 = 2)))) := hd2.sw (q := (decide (¬ cN s.N f.o 0 = 2 ∧ (¬ cN s.N f.o 0 = 3 ∨ ¬ cN s.N (cN s.N f.o 2) 0 = 2)))) rfl
        generalize upd rI2 24 (bI (decide (¬ cN s.N f.o 0 = 2 ∧ (¬ cN s.N f.o 0 = 3 ∨ ¬ cN s.N (cN s.N f.o 2) 0 = 2)))) = rI3 at hd3 ⊢
        obtain ⟨f0, h0, e0, e1⟩ := fr0 hd3
        have e1 : f0.n = s.b := e1
        refine ep_aload_n (j := 0) d_M_nextNested_94 rfl rfl ?_
        refine ep_getf (fi := 18) (v := .int (nI ((mWr (mK (mAv s 1) ([] : List FR)) (decide (¬ cN s.N f.o 0 = 2 ∧ (¬ cN s.N f.o 0 = 3 ∨ ¬ cN s.N (cN s.N f.o 2) 0 = 2)))).K.length + 1))) d_M_nextNested_95 cl5 lf_M_120 (by decide) rfl (congrArg (fun z => some (Value.int z)) hd3.tz) ?_
        refine ep_iconst (v := 1) d_M_nextNested_98 (by decide) ?_
        refine ep_icmp_gt (tgt := 122) d_M_nextNested_99 (by decide) (fun z => absurd z (show ¬ (1 : Int32) < nI 1 by decide)) (fun _ => ?_)
        refine ep_aload_n (j := 0) d_M_nextNested_102 rfl rfl ?_
        refine ep_getf (fi := 19) (v := .ref 27) d_M_nextNested_103 cl5 lf_M_40 (by decide) rfl rfl ?_
        refine ep_iconst (v := 0) d_M_nextNested_106 (by decide) ?_
        refine ep_cg (y := nI 0) (by decide) ?_
        refine ep_fT d_M_nextNested_107 h0 (by decide) ?_
        refine ep_bipush (v := 10) d_M_nextNested_108 (by decide) ?_
        refine ep_icmp_ne (tgt := 122) d_M_nextNested_110 (by decide) (fun z => absurd e0 z) (fun _ => ?_)
        refine ep_aload_n (j := 0) d_M_nextNested_113 rfl rfl ?_
        refine ep_getf (fi := 21) (v := .ref 29) d_M_nextNested_114 cl5 lf_M_46 (by decide) rfl rfl ?_
        refine ep_iconst (v := 0) d_M_nextNested_117 (by decide) ?_
        refine ep_cg (y := nI 0) (by decide) ?_
        refine ep_fN d_M_nextNested_118 h0 (by decide) ?_
        refine ep_if_lt (tgt := 127) d_M_nextNested_119 (by decide) (fun c119 => ?_) (fun c119 => ?_)
        · refine ep_iload_n (j := 2) d_M_nextNested_127 rfl rfl ?_
          exact ep_iret d_M_nextNested_128 rfl rfl (MP_ok (by rw [hq, show mXt f.o (mWr (mK (mAv s 1) ([] : List FR)) (decide (¬ cN s.N f.o 0 = 2 ∧ (¬ cN s.N f.o 0 = 3 ∨ ¬ cN s.N (cN s.N f.o 2) 0 = 2)))) = _ from if_neg (fun u => u.elim (fun u => u rfl) (fun u => absurd u (Int32.not_le.mpr (by rw [e1] at c119; exact c119))))]) (by rw [hq, show mXt f.o (mWr (mK (mAv s 1) ([] : List FR)) (decide (¬ cN s.N f.o 0 = 2 ∧ (¬ cN s.N f.o 0 = 3 ∨ ¬ cN s.N (cN s.N f.o 2) 0 = 2)))) = _ from if_neg (fun u => u.elim (fun u => u rfl) (fun u => absurd u (Int32.not_le.mpr (by rw [e1] at c119; exact c119))))]) hd3)
        · refine ep_aload_n (j := 0) d_M_nextNested_122 rfl rfl ?_
          refine ep_iload_n (j := 2) d_M_nextNested_123 rfl rfl ?_
          refine ep_callVm (As := [.int f.o]) (st := []) d_M_nextNested_124 lk_M_211 cal_M_enter tm_M_enter ts_M_enter rfl rfl rfl (Nat.le_of_ble_eq_true rfl) (Nat.le_of_ble_eq_true rfl) rfl rfl (M_enter hd3 (by show s.E.length < 320; omega) f.o) (fun rI4 rA4 hd4 => ?_)
          refine ep_iload_n (j := 2) d_M_nextNested_127 rfl rfl ?_
          exact ep_iret d_M_nextNested_128 rfl rfl (MP_ok (by rw [hq, show mXt f.o (mWr (mK (mAv s 1) ([] : List FR)) (decide (¬ cN s.N f.o 0 = 2 ∧ (¬ cN s.N f.o 0 = 3 ∨ ¬ cN s.N (cN s.N f.o 2) 0 = 2)))) = _ from if_pos (Or.inr (Int32.not_lt.mp (by rw [e1] at c119; exact c119)))]) (by rw [hq, show mXt f.o (mWr (mK (mAv s 1) ([] : List FR)) (decide (¬ cN s.N f.o 0 = 2 ∧ (¬ cN s.N f.o 0 = 3 ∨ ¬ cN s.N (cN s.N f.o 2) 0 = 2)))) = _ from if_pos (Or.inr (Int32.not_lt.mp (by rw [e1] at c119; exact c119)))]) hd4)
      · refine ep_aload_n (j := 0) d_M_nextNested_51 rfl rfl ?_
        refine ep_getf (fi := 3) (v := .ref 17) d_M_nextNested_52 cl5 lf_M_7 (by decide) rfl rfl ?_
        refine ep_iload_n (j := 2) d_M_nextNested_55 rfl rfl ?_
        refine ep_kind (N := s.N) d_M_nextNested_56 hd2.n (by omega) hV ?_
        refine ep_iconst (v := 2) d_M_nextNested_57 (by decide) ?_
        refine ep_icmp_eq (tgt := 90) d_M_nextNested_58 (by decide) (fun c58 => ?_) (fun c58 => ?_)
        · refine ep_iconst (v := 0) d_M_nextNested_90 (by decide) ?_
          refine ep_cg (y := bI (decide (¬ cN s.N f.o 0 = 2 ∧ (¬ cN s.N f.o 0 = 3 ∨ ¬ cN s.N (cN s.N f.o 2) 0 = 2)))) (bd0 (fun u => u.1 c58)) ?_
          exact k91
        · refine ep_aload_n (j := 0) d_M_nextNested_61 rfl rfl ?_
          refine ep_getf (fi := 3) (v := .ref 17) d_M_nextNested_62 cl5 lf_M_7 (by decide) rfl rfl ?_
          refine ep_iload_n (j := 2) d_M_nextNested_65 rfl rfl ?_
          refine ep_kind (N := s.N) d_M_nextNested_66 hd2.n (by omega) hV ?_
          refine ep_iconst (v := 3) d_M_nextNested_67 (by decide) ?_
          refine ep_icmp_ne (tgt := 86) d_M_nextNested_68 (by decide) (fun c68 => ?_) (fun c68 => ?_)
          · refine ep_iconst (v := 1) d_M_nextNested_86 (by decide) ?_
            refine ep_goto (tgt := 91) d_M_nextNested_87 (by decide) ?_
            refine ep_cg (y := bI (decide (¬ cN s.N f.o 0 = 2 ∧ (¬ cN s.N f.o 0 = 3 ∨ ¬ cN s.N (cN s.N f.o 2) 0 = 2)))) (bd1 ⟨c58, Or.inl c68⟩) ?_
            exact k91
          · refine ep_aload_n (j := 0) d_M_nextNested_71 rfl rfl ?_
            refine ep_getf (fi := 3) (v := .ref 17) d_M_nextNested_72 cl5 lf_M_7 (by decide) rfl rfl ?_
            refine ep_aload_n (j := 0) d_M_nextNested_75 rfl rfl ?_
            refine ep_getf (fi := 5) (v := .ref 19) d_M_nextNested_76 cl5 lf_M_16 (by decide) rfl rfl ?_
            refine ep_iload_n (j := 2) d_M_nextNested_79 rfl rfl ?_
            refine ep_fst (N := s.N) d_M_nextNested_80 hd2.n (by omega) hV ?_
            refine ep_kind (N := s.N) d_M_nextNested_81 hd2.n (by omega) (hV3 c68) ?_
            refine ep_iconst (v := 2) d_M_nextNested_82 (by decide) ?_
            refine ep_icmp_eq (tgt := 90) d_M_nextNested_83 (by decide) (fun c83 => ?_) (fun c83 => ?_)
            · refine ep_iconst (v := 0) d_M_nextNested_90 (by decide) ?_
              refine ep_cg (y := bI (decide (¬ cN s.N f.o 0 = 2 ∧ (¬ cN s.N f.o 0 = 3 ∨ ¬ cN s.N (cN s.N f.o 2) 0 = 2)))) (bd0 (fun u => u.2.elim (fun v => v c68) (fun v => v c83))) ?_
              exact k91
            · refine ep_iconst (v := 1) d_M_nextNested_86 (by decide) ?_
              refine ep_goto (tgt := 91) d_M_nextNested_87 (by decide) ?_
              refine ep_cg (y := bI (decide (¬ cN s.N f.o 0 = 2 ∧ (¬ cN s.N f.o 0 = 3 ∨ ¬ cN s.N (cN s.N f.o 2) 0 = 2)))) (bd1 ⟨c58, Or.inr c83⟩) ?_
              exact k91
  | cons g0 K0 =>
    rcases hlv with rfl | ⟨y2, y3, rfl⟩
    · refine ep_aload_n (j := 0) d_M_nextNested_7 rfl rfl ?_
      refine ep_getf (fi := 24) (v := .int (bI s.wr)) d_M_nextNested_8 cl5 lf_M_171 (by decide) rfl (congrArg (fun z => some (Value.int z)) hd.w) ?_
      refine ep_if_ne (tgt := 220) d_M_nextNested_11 (by decide) (fun z => absurd (by rw [hw]; rfl) z) (fun _ => ?_)
      refine ep_aload_n (j := 0) d_M_nextNested_14 rfl rfl ?_
      refine ep_getf (fi := 20) (v := .ref 28) d_M_nextNested_15 cl5 lf_M_43 (by decide) rfl rfl ?_
      refine ep_iload_n (j := 1) d_M_nextNested_18 rfl rfl ?_
      refine ep_fO d_M_nextNested_19 (hd.top eK).1 (by omega) ?_
      refine ep_istore_n (lv' := [(0, .ref 16), (1, .int (nI ((g0 :: K0).length + 1))), (2, .int f.o)]) [1, 2, 0] d_M_nextNested_20 rfl (by decide) rfl ?_
      refine ep_aload_n (j := 0) d_M_nextNested_21 rfl rfl ?_
      refine ep_callVi (As := []) (st := []) d_M_nextNested_22 lk_M_174 cal_M_peek tm_M_peek ts_M_peek rfl rfl rfl (Nat.le_of_ble_eq_true rfl) (Nat.le_of_ble_eq_true rfl) rfl rfl (M_peek hd (by omega)) ?_
      refine ep_bipush (v := 69) d_M_nextNested_25 (by decide) ?_
      refine ep_icmp_ne (tgt := 129) d_M_nextNested_27 (by decide) (fun z => absurd hE z) (fun _ => ?_)
      refine ep_aload_n (j := 0) d_M_nextNested_30 rfl rfl ?_
      refine ep_dup d_M_nextNested_31 rfl ?_
      refine ep_getf (fi := 23) (v := .int (nI s.p)) d_M_nextNested_32 cl5 lf_M_168 (by decide) rfl (congrArg (fun z => some (Value.int z)) hd.p) ?_
      refine ep_iconst (v := 1) d_M_nextNested_35 (by decide) ?_
      refine ep_iadd d_M_nextNested_36 ?_
      refine ep_putf' (fi := 23) (h2 := HC X cI cA (upd rI 23 ((nI s.p) + 1)) rA ol J) d_M_nextNested_37 cl5 lf_M_168 (by decide) (Or.inl rfl) rfl rfl hI_16_23 ?_
      have hd1 : MD L S ct (upd rI 23 ((nI s.p) + 1)) rA (mAv s 1) := hd.sp (q := (s.p + 1)) (nI_1 _)
      generalize upd rI 23 ((nI s.p) + 1) = rI1 at hd1 ⊢
      refine ep_aload_n (j := 0) d_M_nextNested_40 rfl rfl ?_
      refine ep_dup d_M_nextNested_41 rfl ?_
      refine ep_getf (fi := 18) (v := .int (nI ((g0 :: K0).length + 2))) d_M_nextNested_42 cl5 lf_M_120 (by decide) rfl (congrArg (fun z => some (Value.int z)) (hd1.top eK).2.2) ?_
      refine ep_iconst (v := 1) d_M_nextNested_45 (by decide) ?_
      refine ep_isub d_M_nextNested_46 ?_
      refine ep_cg (y := nI ((g0 :: K0).length + 1)) (nI_pred _) ?_
      refine ep_putf' (fi := 18) (h2 := HC X cI cA (upd rI1 18 (nI ((g0 :: K0).length + 1))) rA ol J) d_M_nextNested_47 cl5 lf_M_120 (by decide) (Or.inl rfl) rfl rfl hI_16_18 ?_
      have hd2 : MD L S ct (upd rI1 18 (nI ((g0 :: K0).length + 1))) rA (mK (mAv s 1) (g0 :: K0)) := hd1.pop eK rfl
      generalize upd rI1 18 (nI ((g0 :: K0).length + 1)) = rI2 at hd2 ⊢
      refine ep_aload_n (j := 0) d_M_nextNested_50 rfl rfl ?_
      refine ep_join (pc2 := 91) (lv2 := [(0, .ref 16), (1, .int (nI ((g0 :: K0).length + 1))), (2, .int f.o)]) (st2 := [.int (bI (decide (¬ cN s.N f.o 0 = 2 ∧ (¬ cN s.N f.o 0 = 3 ∨ ¬ cN s.N (cN s.N f.o 2) 0 = 2)))), .ref 16]) ?_ (fun k91 => ?_)
      · refine ep_putf' (fi := 24) (h2 := HC X cI cA (upd rI2 24 (bI (decide (¬ cN s.N f.o 0 = 2 ∧ (¬ cN s.N f.o 0 = 3 ∨ ¬ cN s.N (cN s.N f.o 2) 0 = 2))))) rA ol J) d_M_nextNested_91 cl5 lf_M_171 (by decide) (Or.inl rfl) (bI_f _) rfl hI_16_24 ?_
        have hd3 : MD L S ct (upd rI2 24 (bI (decide (¬ cN s.N f.o 0 = 2 ∧ (¬ cN s.N f.o 0 = 3 ∨ ¬ cN s.N (cN s.N f.o 2) 0 = 2))))) rA (mWr (mK (mAv s 1) (g0 :: K0)) (decide (¬ cN s.N f.o 0 = 2 ∧ (¬ cN s.N f.o 0 = 3 ∨ ¬ cN s.N (cN s.N f.o 2) 0 = 2)))) := hd2.sw (q := (decide (¬ cN s.N f.o 0 = 2 ∧ (¬ cN s.N f.o 0 = 3 ∨ ¬ cN s.N (cN s.N f.o 2) 0 = 2)))) rfl
        generalize upd rI2 24 (bI (decide (¬ cN s.N f.o 0 = 2 ∧ (¬ cN s.N f.o 0 = 3 ∨ ¬ cN s.N (cN s.N f.o 2) 0 = 2)))) = rI3 at hd3 ⊢
        refine ep_aload_n (j := 0) d_M_nextNested_94 rfl rfl ?_
        refine ep_getf (fi := 18) (v := .int (nI ((mWr (mK (mAv s 1) (g0 :: K0)) (decide (¬ cN s.N f.o 0 = 2 ∧ (¬ cN s.N f.o 0 = 3 ∨ ¬ cN s.N (cN s.N f.o 2) 0 = 2)))).K.length + 1))) d_M_nextNested_95 cl5 lf_M_120 (by decide) rfl (congrArg (fun z => some (Value.int z)) hd3.tz) ?_
        refine ep_iconst (v := 1) d_M_nextNested_98 (by decide) ?_
        refine ep_icmp_gt (tgt := 122) d_M_nextNested_99 (by decide) (fun _ => ?_) (fun z => absurd (show (1 : Int32) < nI ((g0 :: K0).length + 1) from by rw [show (1 : Int32) = nI 1 from by decide]; exact nI_lt (by simp) (by simp only [List.length_cons] at hkk ⊢; omega)) z)
        refine ep_aload_n (j := 0) d_M_nextNested_122 rfl rfl ?_
        refine ep_iload_n (j := 2) d_M_nextNested_123 rfl rfl ?_
        refine ep_callVm (As := [.int f.o]) (st := []) d_M_nextNested_124 lk_M_211 cal_M_enter tm_M_enter ts_M_enter rfl rfl rfl (Nat.le_of_ble_eq_true rfl) (Nat.le_of_ble_eq_true rfl) rfl rfl (M_enter hd3 (by show s.E.length < 320; omega) f.o) (fun rI4 rA4 hd4 => ?_)
        refine ep_iload_n (j := 2) d_M_nextNested_127 rfl rfl ?_
        exact ep_iret d_M_nextNested_128 rfl rfl (MP_ok (by rw [hq, show mXt f.o (mWr (mK (mAv s 1) (g0 :: K0)) (decide (¬ cN s.N f.o 0 = 2 ∧ (¬ cN s.N f.o 0 = 3 ∨ ¬ cN s.N (cN s.N f.o 2) 0 = 2)))) = _ from if_pos (Or.inl (fun u => by cases u))]) (by rw [hq, show mXt f.o (mWr (mK (mAv s 1) (g0 :: K0)) (decide (¬ cN s.N f.o 0 = 2 ∧ (¬ cN s.N f.o 0 = 3 ∨ ¬ cN s.N (cN s.N f.o 2) 0 = 2)))) = _ from if_pos (Or.inl (fun u => by cases u))]) hd4)
      · refine ep_aload_n (j := 0) d_M_nextNested_51 rfl rfl ?_
        refine ep_getf (fi := 3) (v := .ref 17) d_M_nextNested_52 cl5 lf_M_7 (by decide) rfl rfl ?_
        refine ep_iload_n (j := 2) d_M_nextNested_55 rfl rfl ?_
        refine ep_kind (N := s.N) d_M_nextNested_56 hd2.n (by omega) hV ?_
        refine ep_iconst (v := 2) d_M_nextNested_57 (by decide) ?_
        refine ep_icmp_eq (tgt := 90) d_M_nextNested_58 (by decide) (fun c58 => ?_) (fun c58 => ?_)
        · refine ep_iconst (v := 0) d_M_nextNested_90 (by decide) ?_
          refine ep_cg (y := bI (decide (¬ cN s.N f.o 0 = 2 ∧ (¬ cN s.N f.o 0 = 3 ∨ ¬ cN s.N (cN s.N f.o 2) 0 = 2)))) (bd0 (fun u => u.1 c58)) ?_
          exact k91
        · refine ep_aload_n (j := 0) d_M_nextNested_61 rfl rfl ?_
          refine ep_getf (fi := 3) (v := .ref 17) d_M_nextNested_62 cl5 lf_M_7 (by decide) rfl rfl ?_
          refine ep_iload_n (j := 2) d_M_nextNested_65 rfl rfl ?_
          refine ep_kind (N := s.N) d_M_nextNested_66 hd2.n (by omega) hV ?_
          refine ep_iconst (v := 3) d_M_nextNested_67 (by decide) ?_
          refine ep_icmp_ne (tgt := 86) d_M_nextNested_68 (by decide) (fun c68 => ?_) (fun c68 => ?_)
          · refine ep_iconst (v := 1) d_M_nextNested_86 (by decide) ?_
            refine ep_goto (tgt := 91) d_M_nextNested_87 (by decide) ?_
            refine ep_cg (y := bI (decide (¬ cN s.N f.o 0 = 2 ∧ (¬ cN s.N f.o 0 = 3 ∨ ¬ cN s.N (cN s.N f.o 2) 0 = 2)))) (bd1 ⟨c58, Or.inl c68⟩) ?_
            exact k91
          · refine ep_aload_n (j := 0) d_M_nextNested_71 rfl rfl ?_
            refine ep_getf (fi := 3) (v := .ref 17) d_M_nextNested_72 cl5 lf_M_7 (by decide) rfl rfl ?_
            refine ep_aload_n (j := 0) d_M_nextNested_75 rfl rfl ?_
            refine ep_getf (fi := 5) (v := .ref 19) d_M_nextNested_76 cl5 lf_M_16 (by decide) rfl rfl ?_
            refine ep_iload_n (j := 2) d_M_nextNested_79 rfl rfl ?_
            refine ep_fst (N := s.N) d_M_nextNested_80 hd2.n (by omega) hV ?_
            refine ep_kind (N := s.N) d_M_nextNested_81 hd2.n (by omega) (hV3 c68) ?_
            refine ep_iconst (v := 2) d_M_nextNested_82 (by decide) ?_
            refine ep_icmp_eq (tgt := 90) d_M_nextNested_83 (by decide) (fun c83 => ?_) (fun c83 => ?_)
            · refine ep_iconst (v := 0) d_M_nextNested_90 (by decide) ?_
              refine ep_cg (y := bI (decide (¬ cN s.N f.o 0 = 2 ∧ (¬ cN s.N f.o 0 = 3 ∨ ¬ cN s.N (cN s.N f.o 2) 0 = 2)))) (bd0 (fun u => u.2.elim (fun v => v c68) (fun v => v c83))) ?_
              exact k91
            · refine ep_iconst (v := 1) d_M_nextNested_86 (by decide) ?_
              refine ep_goto (tgt := 91) d_M_nextNested_87 (by decide) ?_
              refine ep_cg (y := bI (decide (¬ cN s.N f.o 0 = 2 ∧ (¬ cN s.N f.o 0 = 3 ∨ ¬ cN s.N (cN s.N f.o 2) 0 = 2)))) (bd1 ⟨c58, Or.inr c83⟩) ?_
              exact k91
    · refine ep_aload_n (j := 0) d_M_nextNested_7 rfl rfl ?_
      refine ep_getf (fi := 24) (v := .int (bI s.wr)) d_M_nextNested_8 cl5 lf_M_171 (by decide) rfl (congrArg (fun z => some (Value.int z)) hd.w) ?_
      refine ep_if_ne (tgt := 220) d_M_nextNested_11 (by decide) (fun z => absurd (by rw [hw]; rfl) z) (fun _ => ?_)
      refine ep_aload_n (j := 0) d_M_nextNested_14 rfl rfl ?_
      refine ep_getf (fi := 20) (v := .ref 28) d_M_nextNested_15 cl5 lf_M_43 (by decide) rfl rfl ?_
      refine ep_iload_n (j := 1) d_M_nextNested_18 rfl rfl ?_
      refine ep_fO d_M_nextNested_19 (hd.top eK).1 (by omega) ?_
      refine ep_istore_n (lv' := [(0, .ref 16), (1, .int (nI ((g0 :: K0).length + 1))), (2, .int f.o), (3, .int y3)]) [1, 2, 0, 3] d_M_nextNested_20 rfl (by decide) rfl ?_
      refine ep_aload_n (j := 0) d_M_nextNested_21 rfl rfl ?_
      refine ep_callVi (As := []) (st := []) d_M_nextNested_22 lk_M_174 cal_M_peek tm_M_peek ts_M_peek rfl rfl rfl (Nat.le_of_ble_eq_true rfl) (Nat.le_of_ble_eq_true rfl) rfl rfl (M_peek hd (by omega)) ?_
      refine ep_bipush (v := 69) d_M_nextNested_25 (by decide) ?_
      refine ep_icmp_ne (tgt := 129) d_M_nextNested_27 (by decide) (fun z => absurd hE z) (fun _ => ?_)
      refine ep_aload_n (j := 0) d_M_nextNested_30 rfl rfl ?_
      refine ep_dup d_M_nextNested_31 rfl ?_
      refine ep_getf (fi := 23) (v := .int (nI s.p)) d_M_nextNested_32 cl5 lf_M_168 (by decide) rfl (congrArg (fun z => some (Value.int z)) hd.p) ?_
      refine ep_iconst (v := 1) d_M_nextNested_35 (by decide) ?_
      refine ep_iadd d_M_nextNested_36 ?_
      refine ep_putf' (fi := 23) (h2 := HC X cI cA (upd rI 23 ((nI s.p) + 1)) rA ol J) d_M_nextNested_37 cl5 lf_M_168 (by decide) (Or.inl rfl) rfl rfl hI_16_23 ?_
      have hd1 : MD L S ct (upd rI 23 ((nI s.p) + 1)) rA (mAv s 1) := hd.sp (q := (s.p + 1)) (nI_1 _)
      generalize upd rI 23 ((nI s.p) + 1) = rI1 at hd1 ⊢
      refine ep_aload_n (j := 0) d_M_nextNested_40 rfl rfl ?_
      refine ep_dup d_M_nextNested_41 rfl ?_
      refine ep_getf (fi := 18) (v := .int (nI ((g0 :: K0).length + 2))) d_M_nextNested_42 cl5 lf_M_120 (by decide) rfl (congrArg (fun z => some (Value.int z)) (hd1.top eK).2.2) ?_
      refine ep_iconst (v := 1) d_M_nextNested_45 (by decide) ?_
      refine ep_isub d_M_nextNested_46 ?_
      refine ep_cg (y := nI ((g0 :: K0).length + 1)) (nI_pred _) ?_
      refine ep_putf' (fi := 18) (h2 := HC X cI cA (upd rI1 18 (nI ((g0 :: K0).length + 1))) rA ol J) d_M_nextNested_47 cl5 lf_M_120 (by decide) (Or.inl rfl) rfl rfl hI_16_18 ?_
      have hd2 : MD L S ct (upd rI1 18 (nI ((g0 :: K0).length + 1))) rA (mK (mAv s 1) (g0 :: K0)) := hd1.pop eK rfl
      generalize upd rI1 18 (nI ((g0 :: K0).length + 1)) = rI2 at hd2 ⊢
      refine ep_aload_n (j := 0) d_M_nextNested_50 rfl rfl ?_
      refine ep_join (pc2 := 91) (lv2 := [(0, .ref 16), (1, .int (nI ((g0 :: K0).length + 1))), (2, .int f.o), (3, .int y3)]) (st2 := [.int (bI (decide (¬ cN s.N f.o 0 = 2 ∧ (¬ cN s.N f.o 0 = 3 ∨ ¬ cN s.N (cN s.N f.o 2) 0 = 2)))), .ref 16]) ?_ (fun k91 => ?_)
      · refine ep_putf' (fi := 24) (h2 := HC X cI cA (upd rI2 24 (bI (decide (¬ cN s.N f.o 0 = 2 ∧ (¬ cN s.N f.o 0 = 3 ∨ ¬ cN s.N (cN s.N f.o 2) 0 = 2))))) rA ol J) d_M_nextNested_91 cl5 lf_M_171 (by decide) (Or.inl rfl) (bI_f _) rfl hI_16_24 ?_
        have hd3 : MD L S ct (upd rI2 24 (bI (decide (¬ cN s.N f.o 0 = 2 ∧ (¬ cN s.N f.o 0 = 3 ∨ ¬ cN s.N (cN s.N f.o 2) 0 = 2))))) rA (mWr (mK (mAv s 1) (g0 :: K0)) (decide (¬ cN s.N f.o 0 = 2 ∧ (¬ cN s.N f.o 0 = 3 ∨ ¬ cN s.N (cN s.N f.o 2) 0 = 2)))) := hd2.sw (q := (decide (¬ cN s.N f.o 0 = 2 ∧ (¬ cN s.N f.o 0 = 3 ∨ ¬ cN s.N (cN s.N f.o 2) 0 = 2)))) rfl
        generalize upd rI2 24 (bI (decide (¬ cN s.N f.o 0 = 2 ∧ (¬ cN s.N f.o 0 = 3 ∨ ¬ cN s.N (cN s.N f.o 2) 0 = 2)))) = rI3 at hd3 ⊢
        refine ep_aload_n (j := 0) d_M_nextNested_94 rfl rfl ?_
        refine ep_getf (fi := 18) (v := .int (nI ((mWr (mK (mAv s 1) (g0 :: K0)) (decide (¬ cN s.N f.o 0 = 2 ∧ (¬ cN s.N f.o 0 = 3 ∨ ¬ cN s.N (cN s.N f.o 2) 0 = 2)))).K.length + 1))) d_M_nextNested_95 cl5 lf_M_120 (by decide) rfl (congrArg (fun z => some (Value.int z)) hd3.tz) ?_
        refine ep_iconst (v := 1) d_M_nextNested_98 (by decide) ?_
        refine ep_icmp_gt (tgt := 122) d_M_nextNested_99 (by decide) (fun _ => ?_) (fun z => absurd (show (1 : Int32) < nI ((g0 :: K0).length + 1) from by rw [show (1 : Int32) = nI 1 from by decide]; exact nI_lt (by simp) (by simp only [List.length_cons] at hkk ⊢; omega)) z)
        refine ep_aload_n (j := 0) d_M_nextNested_122 rfl rfl ?_
        refine ep_iload_n (j := 2) d_M_nextNested_123 rfl rfl ?_
        refine ep_callVm (As := [.int f.o]) (st := []) d_M_nextNested_124 lk_M_211 cal_M_enter tm_M_enter ts_M_enter rfl rfl rfl (Nat.le_of_ble_eq_true rfl) (Nat.le_of_ble_eq_true rfl) rfl rfl (M_enter hd3 (by show s.E.length < 320; omega) f.o) (fun rI4 rA4 hd4 => ?_)
        refine ep_iload_n (j := 2) d_M_nextNested_127 rfl rfl ?_
        exact ep_iret d_M_nextNested_128 rfl rfl (MP_ok (by rw [hq, show mXt f.o (mWr (mK (mAv s 1) (g0 :: K0)) (decide (¬ cN s.N f.o 0 = 2 ∧ (¬ cN s.N f.o 0 = 3 ∨ ¬ cN s.N (cN s.N f.o 2) 0 = 2)))) = _ from if_pos (Or.inl (fun u => by cases u))]) (by rw [hq, show mXt f.o (mWr (mK (mAv s 1) (g0 :: K0)) (decide (¬ cN s.N f.o 0 = 2 ∧ (¬ cN s.N f.o 0 = 3 ∨ ¬ cN s.N (cN s.N f.o 2) 0 = 2)))) = _ from if_pos (Or.inl (fun u => by cases u))]) hd4)
      · refine ep_aload_n (j := 0) d_M_nextNested_51 rfl rfl ?_
        refine ep_getf (fi := 3) (v := .ref 17) d_M_nextNested_52 cl5 lf_M_7 (by decide) rfl rfl ?_
        refine ep_iload_n (j := 2) d_M_nextNested_55 rfl rfl ?_
        refine ep_kind (N := s.N) d_M_nextNested_56 hd2.n (by omega) hV ?_
        refine ep_iconst (v := 2) d_M_nextNested_57 (by decide) ?_
        refine ep_icmp_eq (tgt := 90) d_M_nextNested_58 (by decide) (fun c58 => ?_) (fun c58 => ?_)
        · refine ep_iconst (v := 0) d_M_nextNested_90 (by decide) ?_
          refine ep_cg (y := bI (decide (¬ cN s.N f.o 0 = 2 ∧ (¬ cN s.N f.o 0 = 3 ∨ ¬ cN s.N (cN s.N f.o 2) 0 = 2)))) (bd0 (fun u => u.1 c58)) ?_
          exact k91
        · refine ep_aload_n (j := 0) d_M_nextNested_61 rfl rfl ?_
          refine ep_getf (fi := 3) (v := .ref 17) d_M_nextNested_62 cl5 lf_M_7 (by decide) rfl rfl ?_
          refine ep_iload_n (j := 2) d_M_nextNested_65 rfl rfl ?_
          refine ep_kind (N := s.N) d_M_nextNested_66 hd2.n (by omega) hV ?_
          refine ep_iconst (v := 3) d_M_nextNested_67 (by decide) ?_
          refine ep_icmp_ne (tgt := 86) d_M_nextNested_68 (by decide) (fun c68 => ?_) (fun c68 => ?_)
          · refine ep_iconst (v := 1) d_M_nextNested_86 (by decide) ?_
            refine ep_goto (tgt := 91) d_M_nextNested_87 (by decide) ?_
            refine ep_cg (y := bI (decide (¬ cN s.N f.o 0 = 2 ∧ (¬ cN s.N f.o 0 = 3 ∨ ¬ cN s.N (cN s.N f.o 2) 0 = 2)))) (bd1 ⟨c58, Or.inl c68⟩) ?_
            exact k91
          · refine ep_aload_n (j := 0) d_M_nextNested_71 rfl rfl ?_
            refine ep_getf (fi := 3) (v := .ref 17) d_M_nextNested_72 cl5 lf_M_7 (by decide) rfl rfl ?_
            refine ep_aload_n (j := 0) d_M_nextNested_75 rfl rfl ?_
            refine ep_getf (fi := 5) (v := .ref 19) d_M_nextNested_76 cl5 lf_M_16 (by decide) rfl rfl ?_
            refine ep_iload_n (j := 2) d_M_nextNested_79 rfl rfl ?_
            refine ep_fst (N := s.N) d_M_nextNested_80 hd2.n (by omega) hV ?_
            refine ep_kind (N := s.N) d_M_nextNested_81 hd2.n (by omega) (hV3 c68) ?_
            refine ep_iconst (v := 2) d_M_nextNested_82 (by decide) ?_
            refine ep_icmp_eq (tgt := 90) d_M_nextNested_83 (by decide) (fun c83 => ?_) (fun c83 => ?_)
            · refine ep_iconst (v := 0) d_M_nextNested_90 (by decide) ?_
              refine ep_cg (y := bI (decide (¬ cN s.N f.o 0 = 2 ∧ (¬ cN s.N f.o 0 = 3 ∨ ¬ cN s.N (cN s.N f.o 2) 0 = 2)))) (bd0 (fun u => u.2.elim (fun v => v c68) (fun v => v c83))) ?_
              exact k91
            · refine ep_iconst (v := 1) d_M_nextNested_86 (by decide) ?_
              refine ep_goto (tgt := 91) d_M_nextNested_87 (by decide) ?_
              refine ep_cg (y := bI (decide (¬ cN s.N f.o 0 = 2 ∧ (¬ cN s.N f.o 0 = 3 ∨ ¬ cN s.N (cN s.N f.o 2) 0 = 2)))) (bd1 ⟨c58, Or.inr c83⟩) ?_
              exact k91
set_option maxHeartbeats 4000000 in
set_option maxRecDepth 100000 in
theorem M_nn_I1 {f : FR} {K : List FR} (hd : MD L S ct rI rA s) (eK : s.K = f :: K) (hw : s.wr = false) (g : Gd L s) (hV : Vd s.N f.o) (hn : f.n = 0 ∨ f.n = 1) (hE : ¬ pk L s = 69) (hI : pk L s = 73) (h3 : cN s.N f.o 0 = 3) : ∀ {lv : List (Nat × Value)}, (lv = [(0, .ref 16), (1, .int (nI (K.length + 1)))] ∨ ∃ y2 y3, lv = [(0, .ref 16), (1, .int (nI (K.length + 1))), (2, .int y2), (3, .int y3)]) → EvP m_M_nextNested (d + 6) 7 lv [] (HC X cI cA rI rA ol J) (MP X cI cA ol J L S ct (some (.int (-1))) (mWr (mN2 f K s) true)) := by
  intro lv hlv
  have hkk : K.length + 1 ≤ 200 := by have := g.k; rw [eK] at this; simpa using this
  have hl := g.n
  have he := g.e
  have hp := g.p
  have hL := g.l
  rcases hn with hn | hn
  · rcases hlv with rfl | ⟨y2, y3, rfl⟩
    · refine ep_aload_n (j := 0) d_M_nextNested_7 rfl rfl ?_
      refine ep_getf (fi := 24) (v := .int (bI s.wr)) d_M_nextNested_8 cl5 lf_M_171 (by decide) rfl (congrArg (fun z => some (Value.int z)) hd.w) ?_
      refine ep_if_ne (tgt := 220) d_M_nextNested_11 (by decide) (fun z => absurd (by rw [hw]; rfl) z) (fun _ => ?_)
      refine ep_aload_n (j := 0) d_M_nextNested_14 rfl rfl ?_
      refine ep_getf (fi := 20) (v := .ref 28) d_M_nextNested_15 cl5 lf_M_43 (by decide) rfl rfl ?_
      refine ep_iload_n (j := 1) d_M_nextNested_18 rfl rfl ?_
      refine ep_fO d_M_nextNested_19 (hd.top eK).1 (by omega) ?_
      refine ep_istore_n (lv' := [(0, .ref 16), (1, .int (nI (K.length + 1))), (2, .int f.o)]) [1, 2, 0] d_M_nextNested_20 rfl (by decide) rfl ?_
      refine ep_aload_n (j := 0) d_M_nextNested_21 rfl rfl ?_
      refine ep_callVi (As := []) (st := []) d_M_nextNested_22 lk_M_174 cal_M_peek tm_M_peek ts_M_peek rfl rfl rfl (Nat.le_of_ble_eq_true rfl) (Nat.le_of_ble_eq_true rfl) rfl rfl (M_peek hd (by omega)) ?_
      refine ep_bipush (v := 69) d_M_nextNested_25 (by decide) ?_
      refine ep_icmp_ne (tgt := 129) d_M_nextNested_27 (by decide) (fun _ => ?_) (fun z => absurd z hE)
      refine ep_aload_n (j := 0) d_M_nextNested_129 rfl rfl ?_
      refine ep_getf (fi := 21) (v := .ref 29) d_M_nextNested_130 cl5 lf_M_46 (by decide) rfl rfl ?_
      refine ep_iload_n (j := 1) d_M_nextNested_133 rfl rfl ?_
      refine ep_fN d_M_nextNested_134 (hd.top eK).1 (by omega) ?_
      refine ep_if_ne (tgt := 143) d_M_nextNested_135 (by decide) (fun z => absurd hn z) (fun _ => ?_)
      refine ep_aload_n (j := 0) d_M_nextNested_138 rfl rfl ?_
      refine ep_iload_n (j := 2) d_M_nextNested_139 rfl rfl ?_
      refine ep_callVm (As := [.int f.o]) (st := []) d_M_nextNested_140 lk_M_211 cal_M_enter tm_M_enter ts_M_enter rfl rfl rfl (Nat.le_of_ble_eq_true rfl) (Nat.le_of_ble_eq_true rfl) rfl rfl (M_enter hd (by omega) f.o) (fun rI1 rA1 hd1 => ?_)
      refine ep_aload_n (j := 0) d_M_nextNested_143 rfl rfl ?_
      refine ep_getf (fi := 21) (v := .ref 29) d_M_nextNested_144 cl5 lf_M_46 (by decide) rfl rfl ?_
      refine ep_iload_n (j := 1) d_M_nextNested_147 rfl rfl ?_
      refine ep_iconst (v := 0) d_M_nextNested_148 (by decide) ?_
      refine ep_iast' (h2 := HC X cI cA rI1 (va_up rA1 21 (upd (rA1 21) (K.length + 1) 0)) ol J) (K.length + 1) d_M_nextNested_149 rfl rfl (by omega) (by decide) hA_29 ?_
      have hd2 : MD L S ct rI1 (va_up rA1 21 (upd (rA1 21) (K.length + 1) 0)) (mK (mEn s f.o) ((FR.u_n f 0) :: K)) := hd1.sn (f := f) (K := K) eK
      generalize va_up rA1 21 (upd (rA1 21) (K.length + 1) 0) = rA2 at hd2 ⊢
      refine ep_aload_n (j := 0) d_M_nextNested_150 rfl rfl ?_
      refine ep_callVi (As := []) (st := []) d_M_nextNested_151 lk_M_174 cal_M_peek tm_M_peek ts_M_peek rfl rfl rfl (Nat.le_of_ble_eq_true rfl) (Nat.le_of_ble_eq_true rfl) rfl rfl (M_peek hd2 (by show s.p ≤ 1000; omega)) ?_
      refine ep_bipush (v := 73) d_M_nextNested_154 (by decide) ?_
      refine ep_icmp_ne (tgt := 195) d_M_nextNested_156 (by decide) (fun z => absurd hI z) (fun _ => ?_)
      refine ep_aload_n (j := 0) d_M_nextNested_159 rfl rfl ?_
      refine ep_aload_n (j := 0) d_M_nextNested_160 rfl rfl ?_
      refine ep_getf (fi := 3) (v := .ref 17) d_M_nextNested_161 cl5 lf_M_7 (by decide) rfl rfl ?_
      refine ep_iload_n (j := 2) d_M_nextNested_164 rfl rfl ?_
      refine ep_kind (N := s.N) d_M_nextNested_165 hd2.n (by omega) hV ?_
      refine ep_iconst (v := 3) d_M_nextNested_166 (by decide) ?_
      refine ep_icmp_ne (tgt := 174) d_M_nextNested_167 (by decide) (fun z => absurd h3 z) (fun _ => ?_)
      refine ep_iconst (v := 1) d_M_nextNested_170 (by decide) ?_
      refine ep_goto (tgt := 175) d_M_nextNested_171 (by decide) ?_
      refine ep_putf' (fi := 24) (h2 := HC X cI cA (upd rI1 24 1) rA2 ol J) d_M_nextNested_175 cl5 lf_M_171 (by decide) (Or.inl rfl) rfl rfl hI_16_24 ?_
      have hd3 : MD L S ct (upd rI1 24 1) rA2 (mWr (mK (mEn s f.o) ((FR.u_n f 0) :: K)) true) := hd2.sw (q := true) rfl
      generalize upd rI1 24 1 = rI3 at hd3 ⊢
      refine ep_aload_n (j := 0) d_M_nextNested_178 rfl rfl ?_
      refine ep_getf (fi := 24) (v := .int (bI (mWr (mK (mEn s f.o) ((FR.u_n f 0) :: K)) true).wr)) d_M_nextNested_179 cl5 lf_M_171 (by decide) rfl (congrArg (fun z => some (Value.int z)) hd3.w) ?_
      refine ep_if_eq (tgt := 189) d_M_nextNested_182 (by decide) (fun z => absurd z (by show ¬ bI true = 0; decide)) (fun _ => ?_)
      refine ep_iconst (v := (-1)) d_M_nextNested_185 (by decide) ?_
      refine ep_goto (tgt := 194) d_M_nextNested_186 (by decide) ?_
      exact ep_iret d_M_nextNested_194 rfl rfl (MP_ok rfl (by rw [show mN2 f K s = mK (mEn s f.o) ((FR.u_n f 0) :: K) from by unfold mN2; rw [if_pos hn]]) hd3)
    · refine ep_aload_n (j := 0) d_M_nextNested_7 rfl rfl ?_
      refine ep_getf (fi := 24) (v := .int (bI s.wr)) d_M_nextNested_8 cl5 lf_M_171 (by decide) rfl (congrArg (fun z => some (Value.int z)) hd.w) ?_
      refine ep_if_ne (tgt := 220) d_M_nextNested_11 (by decide) (fun z => absurd (by rw [hw]; rfl) z) (fun _ => ?_)
      refine ep_aload_n (j := 0) d_M_nextNested_14 rfl rfl ?_
      refine ep_getf (fi := 20) (v := .ref 28) d_M_nextNested_15 cl5 lf_M_43 (by decide) rfl rfl ?_
      refine ep_iload_n (j := 1) d_M_nextNested_18 rfl rfl ?_
      refine ep_fO d_M_nextNested_19 (hd.top eK).1 (by omega) ?_
      refine ep_istore_n (lv' := [(0, .ref 16), (1, .int (nI (K.length + 1))), (2, .int f.o), (3, .int y3)]) [1, 2, 0, 3] d_M_nextNested_20 rfl (by decide) rfl ?_
      refine ep_aload_n (j := 0) d_M_nextNested_21 rfl rfl ?_
      refine ep_callVi (As := []) (st := []) d_M_nextNested_22 lk_M_174 cal_M_peek tm_M_peek ts_M_peek rfl rfl rfl (Nat.le_of_ble_eq_true rfl) (Nat.le_of_ble_eq_true rfl) rfl rfl (M_peek hd (by omega)) ?_
      refine ep_bipush (v := 69) d_M_nextNested_25 (by decide) ?_
      refine ep_icmp_ne (tgt := 129) d_M_nextNested_27 (by decide) (fun _ => ?_) (fun z => absurd z hE)
      refine ep_aload_n (j := 0) d_M_nextNested_129 rfl rfl ?_
      refine ep_getf (fi := 21) (v := .ref 29) d_M_nextNested_130 cl5 lf_M_46 (by decide) rfl rfl ?_
      refine ep_iload_n (j := 1) d_M_nextNested_133 rfl rfl ?_
      refine ep_fN d_M_nextNested_134 (hd.top eK).1 (by omega) ?_
      refine ep_if_ne (tgt := 143) d_M_nextNested_135 (by decide) (fun z => absurd hn z) (fun _ => ?_)
      refine ep_aload_n (j := 0) d_M_nextNested_138 rfl rfl ?_
      refine ep_iload_n (j := 2) d_M_nextNested_139 rfl rfl ?_
      refine ep_callVm (As := [.int f.o]) (st := []) d_M_nextNested_140 lk_M_211 cal_M_enter tm_M_enter ts_M_enter rfl rfl rfl (Nat.le_of_ble_eq_true rfl) (Nat.le_of_ble_eq_true rfl) rfl rfl (M_enter hd (by omega) f.o) (fun rI1 rA1 hd1 => ?_)
      refine ep_aload_n (j := 0) d_M_nextNested_143 rfl rfl ?_
      refine ep_getf (fi := 21) (v := .ref 29) d_M_nextNested_144 cl5 lf_M_46 (by decide) rfl rfl ?_
      refine ep_iload_n (j := 1) d_M_nextNested_147 rfl rfl ?_
      refine ep_iconst (v := 0) d_M_nextNested_148 (by decide) ?_
      refine ep_iast' (h2 := HC X cI cA rI1 (va_up rA1 21 (upd (rA1 21) (K.length + 1) 0)) ol J) (K.length + 1) d_M_nextNested_149 rfl rfl (by omega) (by decide) hA_29 ?_
      have hd2 : MD L S ct rI1 (va_up rA1 21 (upd (rA1 21) (K.length + 1) 0)) (mK (mEn s f.o) ((FR.u_n f 0) :: K)) := hd1.sn (f := f) (K := K) eK
      generalize va_up rA1 21 (upd (rA1 21) (K.length + 1) 0) = rA2 at hd2 ⊢
      refine ep_aload_n (j := 0) d_M_nextNested_150 rfl rfl ?_
      refine ep_callVi (As := []) (st := []) d_M_nextNested_151 lk_M_174 cal_M_peek tm_M_peek ts_M_peek rfl rfl rfl (Nat.le_of_ble_eq_true rfl) (Nat.le_of_ble_eq_true rfl) rfl rfl (M_peek hd2 (by show s.p ≤ 1000; omega)) ?_
      refine ep_bipush (v := 73) d_M_nextNested_154 (by decide) ?_
      refine ep_icmp_ne (tgt := 195) d_M_nextNested_156 (by decide) (fun z => absurd hI z) (fun _ => ?_)
      refine ep_aload_n (j := 0) d_M_nextNested_159 rfl rfl ?_
      refine ep_aload_n (j := 0) d_M_nextNested_160 rfl rfl ?_
      refine ep_getf (fi := 3) (v := .ref 17) d_M_nextNested_161 cl5 lf_M_7 (by decide) rfl rfl ?_
      refine ep_iload_n (j := 2) d_M_nextNested_164 rfl rfl ?_
      refine ep_kind (N := s.N) d_M_nextNested_165 hd2.n (by omega) hV ?_
      refine ep_iconst (v := 3) d_M_nextNested_166 (by decide) ?_
      refine ep_icmp_ne (tgt := 174) d_M_nextNested_167 (by decide) (fun z => absurd h3 z) (fun _ => ?_)
      refine ep_iconst (v := 1) d_M_nextNested_170 (by decide) ?_
      refine ep_goto (tgt := 175) d_M_nextNested_171 (by decide) ?_
      refine ep_putf' (fi := 24) (h2 := HC X cI cA (upd rI1 24 1) rA2 ol J) d_M_nextNested_175 cl5 lf_M_171 (by decide) (Or.inl rfl) rfl rfl hI_16_24 ?_
      have hd3 : MD L S ct (upd rI1 24 1) rA2 (mWr (mK (mEn s f.o) ((FR.u_n f 0) :: K)) true) := hd2.sw (q := true) rfl
      generalize upd rI1 24 1 = rI3 at hd3 ⊢
      refine ep_aload_n (j := 0) d_M_nextNested_178 rfl rfl ?_
      refine ep_getf (fi := 24) (v := .int (bI (mWr (mK (mEn s f.o) ((FR.u_n f 0) :: K)) true).wr)) d_M_nextNested_179 cl5 lf_M_171 (by decide) rfl (congrArg (fun z => some (Value.int z)) hd3.w) ?_
      refine ep_if_eq (tgt := 189) d_M_nextNested_182 (by decide) (fun z => absurd z (by show ¬ bI true = 0; decide)) (fun _ => ?_)
      refine ep_iconst (v := (-1)) d_M_nextNested_185 (by decide) ?_
      refine ep_goto (tgt := 194) d_M_nextNested_186 (by decide) ?_
      exact ep_iret d_M_nextNested_194 rfl rfl (MP_ok rfl (by rw [show mN2 f K s = mK (mEn s f.o) ((FR.u_n f 0) :: K) from by unfold mN2; rw [if_pos hn]]) hd3)
  · rcases hlv with rfl | ⟨y2, y3, rfl⟩
    · refine ep_aload_n (j := 0) d_M_nextNested_7 rfl rfl ?_
      refine ep_getf (fi := 24) (v := .int (bI s.wr)) d_M_nextNested_8 cl5 lf_M_171 (by decide) rfl (congrArg (fun z => some (Value.int z)) hd.w) ?_
      refine ep_if_ne (tgt := 220) d_M_nextNested_11 (by decide) (fun z => absurd (by rw [hw]; rfl) z) (fun _ => ?_)
      refine ep_aload_n (j := 0) d_M_nextNested_14 rfl rfl ?_
      refine ep_getf (fi := 20) (v := .ref 28) d_M_nextNested_15 cl5 lf_M_43 (by decide) rfl rfl ?_
      refine ep_iload_n (j := 1) d_M_nextNested_18 rfl rfl ?_
      refine ep_fO d_M_nextNested_19 (hd.top eK).1 (by omega) ?_
      refine ep_istore_n (lv' := [(0, .ref 16), (1, .int (nI (K.length + 1))), (2, .int f.o)]) [1, 2, 0] d_M_nextNested_20 rfl (by decide) rfl ?_
      refine ep_aload_n (j := 0) d_M_nextNested_21 rfl rfl ?_
      refine ep_callVi (As := []) (st := []) d_M_nextNested_22 lk_M_174 cal_M_peek tm_M_peek ts_M_peek rfl rfl rfl (Nat.le_of_ble_eq_true rfl) (Nat.le_of_ble_eq_true rfl) rfl rfl (M_peek hd (by omega)) ?_
      refine ep_bipush (v := 69) d_M_nextNested_25 (by decide) ?_
      refine ep_icmp_ne (tgt := 129) d_M_nextNested_27 (by decide) (fun _ => ?_) (fun z => absurd z hE)
      refine ep_aload_n (j := 0) d_M_nextNested_129 rfl rfl ?_
      refine ep_getf (fi := 21) (v := .ref 29) d_M_nextNested_130 cl5 lf_M_46 (by decide) rfl rfl ?_
      refine ep_iload_n (j := 1) d_M_nextNested_133 rfl rfl ?_
      refine ep_fN d_M_nextNested_134 (hd.top eK).1 (by omega) ?_
      refine ep_if_ne (tgt := 143) d_M_nextNested_135 (by decide) (fun _ => ?_) (fun z => absurd z (fun z => absurd (hn.symm.trans z) (by decide)))
      refine ep_aload_n (j := 0) d_M_nextNested_143 rfl rfl ?_
      refine ep_getf (fi := 21) (v := .ref 29) d_M_nextNested_144 cl5 lf_M_46 (by decide) rfl rfl ?_
      refine ep_iload_n (j := 1) d_M_nextNested_147 rfl rfl ?_
      refine ep_iconst (v := 0) d_M_nextNested_148 (by decide) ?_
      refine ep_iast' (h2 := HC X cI cA rI (va_up rA 21 (upd (rA 21) (K.length + 1) 0)) ol J) (K.length + 1) d_M_nextNested_149 rfl rfl (by omega) (by decide) hA_29 ?_
      have hd1 : MD L S ct rI (va_up rA 21 (upd (rA 21) (K.length + 1) 0)) (mK (s) ((FR.u_n f 0) :: K)) := hd.sn (f := f) (K := K) eK
      generalize va_up rA 21 (upd (rA 21) (K.length + 1) 0) = rA1 at hd1 ⊢
      refine ep_aload_n (j := 0) d_M_nextNested_150 rfl rfl ?_
      refine ep_callVi (As := []) (st := []) d_M_nextNested_151 lk_M_174 cal_M_peek tm_M_peek ts_M_peek rfl rfl rfl (Nat.le_of_ble_eq_true rfl) (Nat.le_of_ble_eq_true rfl) rfl rfl (M_peek hd1 (by show s.p ≤ 1000; omega)) ?_
      refine ep_bipush (v := 73) d_M_nextNested_154 (by decide) ?_
      refine ep_icmp_ne (tgt := 195) d_M_nextNested_156 (by decide) (fun z => absurd hI z) (fun _ => ?_)
      refine ep_aload_n (j := 0) d_M_nextNested_159 rfl rfl ?_
      refine ep_aload_n (j := 0) d_M_nextNested_160 rfl rfl ?_
      refine ep_getf (fi := 3) (v := .ref 17) d_M_nextNested_161 cl5 lf_M_7 (by decide) rfl rfl ?_
      refine ep_iload_n (j := 2) d_M_nextNested_164 rfl rfl ?_
      refine ep_kind (N := s.N) d_M_nextNested_165 hd1.n (by omega) hV ?_
      refine ep_iconst (v := 3) d_M_nextNested_166 (by decide) ?_
      refine ep_icmp_ne (tgt := 174) d_M_nextNested_167 (by decide) (fun z => absurd h3 z) (fun _ => ?_)
      refine ep_iconst (v := 1) d_M_nextNested_170 (by decide) ?_
      refine ep_goto (tgt := 175) d_M_nextNested_171 (by decide) ?_
      refine ep_putf' (fi := 24) (h2 := HC X cI cA (upd rI 24 1) rA1 ol J) d_M_nextNested_175 cl5 lf_M_171 (by decide) (Or.inl rfl) rfl rfl hI_16_24 ?_
      have hd2 : MD L S ct (upd rI 24 1) rA1 (mWr (mK (s) ((FR.u_n f 0) :: K)) true) := hd1.sw (q := true) rfl
      generalize upd rI 24 1 = rI2 at hd2 ⊢
      refine ep_aload_n (j := 0) d_M_nextNested_178 rfl rfl ?_
      refine ep_getf (fi := 24) (v := .int (bI (mWr (mK (s) ((FR.u_n f 0) :: K)) true).wr)) d_M_nextNested_179 cl5 lf_M_171 (by decide) rfl (congrArg (fun z => some (Value.int z)) hd2.w) ?_
      refine ep_if_eq (tgt := 189) d_M_nextNested_182 (by decide) (fun z => absurd z (by show ¬ bI true = 0; decide)) (fun _ => ?_)
      refine ep_iconst (v := (-1)) d_M_nextNested_185 (by decide) ?_
      refine ep_goto (tgt := 194) d_M_nextNested_186 (by decide) ?_
      exact ep_iret d_M_nextNested_194 rfl rfl (MP_ok rfl (by rw [show mN2 f K s = mK (s) ((FR.u_n f 0) :: K) from by unfold mN2; rw [if_neg (by rw [hn]; decide)]]) hd2)
    · refine ep_aload_n (j := 0) d_M_nextNested_7 rfl rfl ?_
      refine ep_getf (fi := 24) (v := .int (bI s.wr)) d_M_nextNested_8 cl5 lf_M_171 (by decide) rfl (congrArg (fun z => some (Value.int z)) hd.w) ?_
      refine ep_if_ne (tgt := 220) d_M_nextNested_11 (by decide) (fun z => absurd (by rw [hw]; rfl) z) (fun _ => ?_)
      refine ep_aload_n (j := 0) d_M_nextNested_14 rfl rfl ?_
      refine ep_getf (fi := 20) (v := .ref 28) d_M_nextNested_15 cl5 lf_M_43 (by decide) rfl rfl ?_
      refine ep_iload_n (j := 1) d_M_nextNested_18 rfl rfl ?_
      refine ep_fO d_M_nextNested_19 (hd.top eK).1 (by omega) ?_
      refine ep_istore_n (lv' := [(0, .ref 16), (1, .int (nI (K.length + 1))), (2, .int f.o), (3, .int y3)]) [1, 2, 0, 3] d_M_nextNested_20 rfl (by decide) rfl ?_
      refine ep_aload_n (j := 0) d_M_nextNested_21 rfl rfl ?_
      refine ep_callVi (As := []) (st := []) d_M_nextNested_22 lk_M_174 cal_M_peek tm_M_peek ts_M_peek rfl rfl rfl (Nat.le_of_ble_eq_true rfl) (Nat.le_of_ble_eq_true rfl) rfl rfl (M_peek hd (by omega)) ?_
      refine ep_bipush (v := 69) d_M_nextNested_25 (by decide) ?_
      refine ep_icmp_ne (tgt := 129) d_M_nextNested_27 (by decide) (fun _ => ?_) (fun z => absurd z hE)
      refine ep_aload_n (j := 0) d_M_nextNested_129 rfl rfl ?_
      refine ep_getf (fi := 21) (v := .ref 29) d_M_nextNested_130 cl5 lf_M_46 (by decide) rfl rfl ?_
      refine ep_iload_n (j := 1) d_M_nextNested_133 rfl rfl ?_
      refine ep_fN d_M_nextNested_134 (hd.top eK).1 (by omega) ?_
      refine ep_if_ne (tgt := 143) d_M_nextNested_135 (by decide) (fun _ => ?_) (fun z => absurd z (fun z => absurd (hn.symm.trans z) (by decide)))
      refine ep_aload_n (j := 0) d_M_nextNested_143 rfl rfl ?_
      refine ep_getf (fi := 21) (v := .ref 29) d_M_nextNested_144 cl5 lf_M_46 (by decide) rfl rfl ?_
      refine ep_iload_n (j := 1) d_M_nextNested_147 rfl rfl ?_
      refine ep_iconst (v := 0) d_M_nextNested_148 (by decide) ?_
      refine ep_iast' (h2 := HC X cI cA rI (va_up rA 21 (upd (rA 21) (K.length + 1) 0)) ol J) (K.length + 1) d_M_nextNested_149 rfl rfl (by omega) (by decide) hA_29 ?_
      have hd1 : MD L S ct rI (va_up rA 21 (upd (rA 21) (K.length + 1) 0)) (mK (s) ((FR.u_n f 0) :: K)) := hd.sn (f := f) (K := K) eK
      generalize va_up rA 21 (upd (rA 21) (K.length + 1) 0) = rA1 at hd1 ⊢
      refine ep_aload_n (j := 0) d_M_nextNested_150 rfl rfl ?_
      refine ep_callVi (As := []) (st := []) d_M_nextNested_151 lk_M_174 cal_M_peek tm_M_peek ts_M_peek rfl rfl rfl (Nat.le_of_ble_eq_true rfl) (Nat.le_of_ble_eq_true rfl) rfl rfl (M_peek hd1 (by show s.p ≤ 1000; omega)) ?_
      refine ep_bipush (v := 73) d_M_nextNested_154 (by decide) ?_
      refine ep_icmp_ne (tgt := 195) d_M_nextNested_156 (by decide) (fun z => absurd hI z) (fun _ => ?_)
      refine ep_aload_n (j := 0) d_M_nextNested_159 rfl rfl ?_
      refine ep_aload_n (j := 0) d_M_nextNested_160 rfl rfl ?_
      refine ep_getf (fi := 3) (v := .ref 17) d_M_nextNested_161 cl5 lf_M_7 (by decide) rfl rfl ?_
      refine ep_iload_n (j := 2) d_M_nextNested_164 rfl rfl ?_
      refine ep_kind (N := s.N) d_M_nextNested_165 hd1.n (by omega) hV ?_
      refine ep_iconst (v := 3) d_M_nextNested_166 (by decide) ?_
      refine ep_icmp_ne (tgt := 174) d_M_nextNested_167 (by decide) (fun z => absurd h3 z) (fun _ => ?_)
      refine ep_iconst (v := 1) d_M_nextNested_170 (by decide) ?_
      refine ep_goto (tgt := 175) d_M_nextNested_171 (by decide) ?_
      refine ep_putf' (fi := 24) (h2 := HC X cI cA (upd rI 24 1) rA1 ol J) d_M_nextNested_175 cl5 lf_M_171 (by decide) (Or.inl rfl) rfl rfl hI_16_24 ?_
      have hd2 : MD L S ct (upd rI 24 1) rA1 (mWr (mK (s) ((FR.u_n f 0) :: K)) true) := hd1.sw (q := true) rfl
      generalize upd rI 24 1 = rI2 at hd2 ⊢
      refine ep_aload_n (j := 0) d_M_nextNested_178 rfl rfl ?_
      refine ep_getf (fi := 24) (v := .int (bI (mWr (mK (s) ((FR.u_n f 0) :: K)) true).wr)) d_M_nextNested_179 cl5 lf_M_171 (by decide) rfl (congrArg (fun z => some (Value.int z)) hd2.w) ?_
      refine ep_if_eq (tgt := 189) d_M_nextNested_182 (by decide) (fun z => absurd z (by show ¬ bI true = 0; decide)) (fun _ => ?_)
      refine ep_iconst (v := (-1)) d_M_nextNested_185 (by decide) ?_
      refine ep_goto (tgt := 194) d_M_nextNested_186 (by decide) ?_
      exact ep_iret d_M_nextNested_194 rfl rfl (MP_ok rfl (by rw [show mN2 f K s = mK (s) ((FR.u_n f 0) :: K) from by unfold mN2; rw [if_neg (by rw [hn]; decide)]]) hd2)
set_option maxHeartbeats 4000000 in
set_option maxRecDepth 100000 in
theorem M_nn_I0 {f : FR} {K : List FR} (hd : MD L S ct rI rA s) (eK : s.K = f :: K) (hw : s.wr = false) (g : Gd L s) (hV : Vd s.N f.o) (hn : f.n = 0 ∨ f.n = 1) (hE : ¬ pk L s = 69) (hI : pk L s = 73) (h3 : ¬ cN s.N f.o 0 = 3) : ∀ {lv : List (Nat × Value)}, (lv = [(0, .ref 16), (1, .int (nI (K.length + 1)))] ∨ ∃ y2 y3, lv = [(0, .ref 16), (1, .int (nI (K.length + 1))), (2, .int y2), (3, .int y3)]) → EvP m_M_nextNested (d + 6) 7 lv [] (HC X cI cA rI rA ol J) (MPi X cI cA ol J L S ct (mBA L f.o (mN2 f K s))) := by
  intro lv hlv
  have hkk : K.length + 1 ≤ 200 := by have := g.k; rw [eK] at this; simpa using this
  have hl := g.n
  have he := g.e
  have hp := g.p
  have hL := g.l
  rcases hn with hn | hn
  · rcases hlv with rfl | ⟨y2, y3, rfl⟩
    · refine ep_aload_n (j := 0) d_M_nextNested_7 rfl rfl ?_
      refine ep_getf (fi := 24) (v := .int (bI s.wr)) d_M_nextNested_8 cl5 lf_M_171 (by decide) rfl (congrArg (fun z => some (Value.int z)) hd.w) ?_
      refine ep_if_ne (tgt := 220) d_M_nextNested_11 (by decide) (fun z => absurd (by rw [hw]; rfl) z) (fun _ => ?_)
      refine ep_aload_n (j := 0) d_M_nextNested_14 rfl rfl ?_
      refine ep_getf (fi := 20) (v := .ref 28) d_M_nextNested_15 cl5 lf_M_43 (by decide) rfl rfl ?_
      refine ep_iload_n (j := 1) d_M_nextNested_18 rfl rfl ?_
      refine ep_fO d_M_nextNested_19 (hd.top eK).1 (by omega) ?_
      refine ep_istore_n (lv' := [(0, .ref 16), (1, .int (nI (K.length + 1))), (2, .int f.o)]) [1, 2, 0] d_M_nextNested_20 rfl (by decide) rfl ?_
      refine ep_aload_n (j := 0) d_M_nextNested_21 rfl rfl ?_
      refine ep_callVi (As := []) (st := []) d_M_nextNested_22 lk_M_174 cal_M_peek tm_M_peek ts_M_peek rfl rfl rfl (Nat.le_of_ble_eq_true rfl) (Nat.le_of_ble_eq_true rfl) rfl rfl (M_peek hd (by omega)) ?_
      refine ep_bipush (v := 69) d_M_nextNested_25 (by decide) ?_
      refine ep_icmp_ne (tgt := 129) d_M_nextNested_27 (by decide) (fun _ => ?_) (fun z => absurd z hE)
      refine ep_aload_n (j := 0) d_M_nextNested_129 rfl rfl ?_
      refine ep_getf (fi := 21) (v := .ref 29) d_M_nextNested_130 cl5 lf_M_46 (by decide) rfl rfl ?_
      refine ep_iload_n (j := 1) d_M_nextNested_133 rfl rfl ?_
      refine ep_fN d_M_nextNested_134 (hd.top eK).1 (by omega) ?_
      refine ep_if_ne (tgt := 143) d_M_nextNested_135 (by decide) (fun z => absurd hn z) (fun _ => ?_)
      refine ep_aload_n (j := 0) d_M_nextNested_138 rfl rfl ?_
      refine ep_iload_n (j := 2) d_M_nextNested_139 rfl rfl ?_
      refine ep_callVm (As := [.int f.o]) (st := []) d_M_nextNested_140 lk_M_211 cal_M_enter tm_M_enter ts_M_enter rfl rfl rfl (Nat.le_of_ble_eq_true rfl) (Nat.le_of_ble_eq_true rfl) rfl rfl (M_enter hd (by omega) f.o) (fun rI1 rA1 hd1 => ?_)
      refine ep_aload_n (j := 0) d_M_nextNested_143 rfl rfl ?_
      refine ep_getf (fi := 21) (v := .ref 29) d_M_nextNested_144 cl5 lf_M_46 (by decide) rfl rfl ?_
      refine ep_iload_n (j := 1) d_M_nextNested_147 rfl rfl ?_
      refine ep_iconst (v := 0) d_M_nextNested_148 (by decide) ?_
      refine ep_iast' (h2 := HC X cI cA rI1 (va_up rA1 21 (upd (rA1 21) (K.length + 1) 0)) ol J) (K.length + 1) d_M_nextNested_149 rfl rfl (by omega) (by decide) hA_29 ?_
      have hd2 : MD L S ct rI1 (va_up rA1 21 (upd (rA1 21) (K.length + 1) 0)) (mK (mEn s f.o) ((FR.u_n f 0) :: K)) := hd1.sn (f := f) (K := K) eK
      generalize va_up rA1 21 (upd (rA1 21) (K.length + 1) 0) = rA2 at hd2 ⊢
      refine ep_aload_n (j := 0) d_M_nextNested_150 rfl rfl ?_
      refine ep_callVi (As := []) (st := []) d_M_nextNested_151 lk_M_174 cal_M_peek tm_M_peek ts_M_peek rfl rfl rfl (Nat.le_of_ble_eq_true rfl) (Nat.le_of_ble_eq_true rfl) rfl rfl (M_peek hd2 (by show s.p ≤ 1000; omega)) ?_
      refine ep_bipush (v := 73) d_M_nextNested_154 (by decide) ?_
      refine ep_icmp_ne (tgt := 195) d_M_nextNested_156 (by decide) (fun z => absurd hI z) (fun _ => ?_)
      refine ep_aload_n (j := 0) d_M_nextNested_159 rfl rfl ?_
      refine ep_aload_n (j := 0) d_M_nextNested_160 rfl rfl ?_
      refine ep_getf (fi := 3) (v := .ref 17) d_M_nextNested_161 cl5 lf_M_7 (by decide) rfl rfl ?_
      refine ep_iload_n (j := 2) d_M_nextNested_164 rfl rfl ?_
      refine ep_kind (N := s.N) d_M_nextNested_165 hd2.n (by omega) hV ?_
      refine ep_iconst (v := 3) d_M_nextNested_166 (by decide) ?_
      refine ep_icmp_ne (tgt := 174) d_M_nextNested_167 (by decide) (fun _ => ?_) (fun z => absurd z h3)
      refine ep_iconst (v := 0) d_M_nextNested_174 (by decide) ?_
      refine ep_putf' (fi := 24) (h2 := HC X cI cA (upd rI1 24 0) rA2 ol J) d_M_nextNested_175 cl5 lf_M_171 (by decide) (Or.inl rfl) rfl rfl hI_16_24 ?_
      have hd3 : MD L S ct (upd rI1 24 0) rA2 (mWr (mK (mEn s f.o) ((FR.u_n f 0) :: K)) false) := hd2.sw (q := false) rfl
      generalize upd rI1 24 0 = rI3 at hd3 ⊢
      refine ep_aload_n (j := 0) d_M_nextNested_178 rfl rfl ?_
      refine ep_getf (fi := 24) (v := .int (bI (mWr (mK (mEn s f.o) ((FR.u_n f 0) :: K)) false).wr)) d_M_nextNested_179 cl5 lf_M_171 (by decide) rfl (congrArg (fun z => some (Value.int z)) hd3.w) ?_
      refine ep_if_eq (tgt := 189) d_M_nextNested_182 (by decide) (fun _ => ?_) (fun z => absurd rfl z)
      refine ep_aload_n (j := 0) d_M_nextNested_189 rfl rfl ?_
      refine ep_iload_n (j := 2) d_M_nextNested_190 rfl rfl ?_
      refine ep_callVm (As := [.int f.o]) (st := []) d_M_nextNested_191 lk_M_202 cal_M_beginArgs tm_M_beginArgs ts_M_beginArgs rfl rfl rfl (Nat.le_of_ble_eq_true rfl) (Nat.le_of_ble_eq_true rfl) rfl rfl (M_beginArgs hd3 (by show s.p ≤ 124; omega) (by show K.length + 1 ≤ 380; omega) (by show s.N.length ≤ 280; omega) (by show (s.E ++ [f.o]).length ≤ 310; simp; omega) f.o (Or.inr hV)) (fun rI4 rA4 hd4 => ?_)
      exact ep_iret d_M_nextNested_194 rfl rfl (MP_ok (by rw [show mN2 f K s = mK (mEn s f.o) ((FR.u_n f 0) :: K) from by unfold mN2; rw [if_pos hn], show mWr (mK (mEn s f.o) ((FR.u_n f 0) :: K)) false = mK (mEn s f.o) ((FR.u_n f 0) :: K) from by unfold mWr; rw [show false = s.wr from hw.symm]; rfl]) (by rw [show mN2 f K s = mK (mEn s f.o) ((FR.u_n f 0) :: K) from by unfold mN2; rw [if_pos hn], show mWr (mK (mEn s f.o) ((FR.u_n f 0) :: K)) false = mK (mEn s f.o) ((FR.u_n f 0) :: K) from by unfold mWr; rw [show false = s.wr from hw.symm]; rfl]) hd4)
    · refine ep_aload_n (j := 0) d_M_nextNested_7 rfl rfl ?_
      refine ep_getf (fi := 24) (v := .int (bI s.wr)) d_M_nextNested_8 cl5 lf_M_171 (by decide) rfl (congrArg (fun z => some (Value.int z)) hd.w) ?_
      refine ep_if_ne (tgt := 220) d_M_nextNested_11 (by decide) (fun z => absurd (by rw [hw]; rfl) z) (fun _ => ?_)
      refine ep_aload_n (j := 0) d_M_nextNested_14 rfl rfl ?_
      refine ep_getf (fi := 20) (v := .ref 28) d_M_nextNested_15 cl5 lf_M_43 (by decide) rfl rfl ?_
      refine ep_iload_n (j := 1) d_M_nextNested_18 rfl rfl ?_
      refine ep_fO d_M_nextNested_19 (hd.top eK).1 (by omega) ?_
      refine ep_istore_n (lv' := [(0, .ref 16), (1, .int (nI (K.length + 1))), (2, .int f.o), (3, .int y3)]) [1, 2, 0, 3] d_M_nextNested_20 rfl (by decide) rfl ?_
      refine ep_aload_n (j := 0) d_M_nextNested_21 rfl rfl ?_
      refine ep_callVi (As := []) (st := []) d_M_nextNested_22 lk_M_174 cal_M_peek tm_M_peek ts_M_peek rfl rfl rfl (Nat.le_of_ble_eq_true rfl) (Nat.le_of_ble_eq_true rfl) rfl rfl (M_peek hd (by omega)) ?_
      refine ep_bipush (v := 69) d_M_nextNested_25 (by decide) ?_
      refine ep_icmp_ne (tgt := 129) d_M_nextNested_27 (by decide) (fun _ => ?_) (fun z => absurd z hE)
      refine ep_aload_n (j := 0) d_M_nextNested_129 rfl rfl ?_
      refine ep_getf (fi := 21) (v := .ref 29) d_M_nextNested_130 cl5 lf_M_46 (by decide) rfl rfl ?_
      refine ep_iload_n (j := 1) d_M_nextNested_133 rfl rfl ?_
      refine ep_fN d_M_nextNested_134 (hd.top eK).1 (by omega) ?_
      refine ep_if_ne (tgt := 143) d_M_nextNested_135 (by decide) (fun z => absurd hn z) (fun _ => ?_)
      refine ep_aload_n (j := 0) d_M_nextNested_138 rfl rfl ?_
      refine ep_iload_n (j := 2) d_M_nextNested_139 rfl rfl ?_
      refine ep_callVm (As := [.int f.o]) (st := []) d_M_nextNested_140 lk_M_211 cal_M_enter tm_M_enter ts_M_enter rfl rfl rfl (Nat.le_of_ble_eq_true rfl) (Nat.le_of_ble_eq_true rfl) rfl rfl (M_enter hd (by omega) f.o) (fun rI1 rA1 hd1 => ?_)
      refine ep_aload_n (j := 0) d_M_nextNested_143 rfl rfl ?_
      refine ep_getf (fi := 21) (v := .ref 29) d_M_nextNested_144 cl5 lf_M_46 (by decide) rfl rfl ?_
      refine ep_iload_n (j := 1) d_M_nextNested_147 rfl rfl ?_
      refine ep_iconst (v := 0) d_M_nextNested_148 (by decide) ?_
      refine ep_iast' (h2 := HC X cI cA rI1 (va_up rA1 21 (upd (rA1 21) (K.length + 1) 0)) ol J) (K.length + 1) d_M_nextNested_149 rfl rfl (by omega) (by decide) hA_29 ?_
      have hd2 : MD L S ct rI1 (va_up rA1 21 (upd (rA1 21) (K.length + 1) 0)) (mK (mEn s f.o) ((FR.u_n f 0) :: K)) := hd1.sn (f := f) (K := K) eK
      generalize va_up rA1 21 (upd (rA1 21) (K.length + 1) 0) = rA2 at hd2 ⊢
      refine ep_aload_n (j := 0) d_M_nextNested_150 rfl rfl ?_
      refine ep_callVi (As := []) (st := []) d_M_nextNested_151 lk_M_174 cal_M_peek tm_M_peek ts_M_peek rfl rfl rfl (Nat.le_of_ble_eq_true rfl) (Nat.le_of_ble_eq_true rfl) rfl rfl (M_peek hd2 (by show s.p ≤ 1000; omega)) ?_
      refine ep_bipush (v := 73) d_M_nextNested_154 (by decide) ?_
      refine ep_icmp_ne (tgt := 195) d_M_nextNested_156 (by decide) (fun z => absurd hI z) (fun _ => ?_)
      refine ep_aload_n (j := 0) d_M_nextNested_159 rfl rfl ?_
      refine ep_aload_n (j := 0) d_M_nextNested_160 rfl rfl ?_
      refine ep_getf (fi := 3) (v := .ref 17) d_M_nextNested_161 cl5 lf_M_7 (by decide) rfl rfl ?_
      refine ep_iload_n (j := 2) d_M_nextNested_164 rfl rfl ?_
      refine ep_kind (N := s.N) d_M_nextNested_165 hd2.n (by omega) hV ?_
      refine ep_iconst (v := 3) d_M_nextNested_166 (by decide) ?_
      refine ep_icmp_ne (tgt := 174) d_M_nextNested_167 (by decide) (fun _ => ?_) (fun z => absurd z h3)
      refine ep_iconst (v := 0) d_M_nextNested_174 (by decide) ?_
      refine ep_putf' (fi := 24) (h2 := HC X cI cA (upd rI1 24 0) rA2 ol J) d_M_nextNested_175 cl5 lf_M_171 (by decide) (Or.inl rfl) rfl rfl hI_16_24 ?_
      have hd3 : MD L S ct (upd rI1 24 0) rA2 (mWr (mK (mEn s f.o) ((FR.u_n f 0) :: K)) false) := hd2.sw (q := false) rfl
      generalize upd rI1 24 0 = rI3 at hd3 ⊢
      refine ep_aload_n (j := 0) d_M_nextNested_178 rfl rfl ?_
      refine ep_getf (fi := 24) (v := .int (bI (mWr (mK (mEn s f.o) ((FR.u_n f 0) :: K)) false).wr)) d_M_nextNested_179 cl5 lf_M_171 (by decide) rfl (congrArg (fun z => some (Value.int z)) hd3.w) ?_
      refine ep_if_eq (tgt := 189) d_M_nextNested_182 (by decide) (fun _ => ?_) (fun z => absurd rfl z)
      refine ep_aload_n (j := 0) d_M_nextNested_189 rfl rfl ?_
      refine ep_iload_n (j := 2) d_M_nextNested_190 rfl rfl ?_
      refine ep_callVm (As := [.int f.o]) (st := []) d_M_nextNested_191 lk_M_202 cal_M_beginArgs tm_M_beginArgs ts_M_beginArgs rfl rfl rfl (Nat.le_of_ble_eq_true rfl) (Nat.le_of_ble_eq_true rfl) rfl rfl (M_beginArgs hd3 (by show s.p ≤ 124; omega) (by show K.length + 1 ≤ 380; omega) (by show s.N.length ≤ 280; omega) (by show (s.E ++ [f.o]).length ≤ 310; simp; omega) f.o (Or.inr hV)) (fun rI4 rA4 hd4 => ?_)
      exact ep_iret d_M_nextNested_194 rfl rfl (MP_ok (by rw [show mN2 f K s = mK (mEn s f.o) ((FR.u_n f 0) :: K) from by unfold mN2; rw [if_pos hn], show mWr (mK (mEn s f.o) ((FR.u_n f 0) :: K)) false = mK (mEn s f.o) ((FR.u_n f 0) :: K) from by unfold mWr; rw [show false = s.wr from hw.symm]; rfl]) (by rw [show mN2 f K s = mK (mEn s f.o) ((FR.u_n f 0) :: K) from by unfold mN2; rw [if_pos hn], show mWr (mK (mEn s f.o) ((FR.u_n f 0) :: K)) false = mK (mEn s f.o) ((FR.u_n f 0) :: K) from by unfold mWr; rw [show false = s.wr from hw.symm]; rfl]) hd4)
  · rcases hlv with rfl | ⟨y2, y3, rfl⟩
    · refine ep_aload_n (j := 0) d_M_nextNested_7 rfl rfl ?_
      refine ep_getf (fi := 24) (v := .int (bI s.wr)) d_M_nextNested_8 cl5 lf_M_171 (by decide) rfl (congrArg (fun z => some (Value.int z)) hd.w) ?_
      refine ep_if_ne (tgt := 220) d_M_nextNested_11 (by decide) (fun z => absurd (by rw [hw]; rfl) z) (fun _ => ?_)
      refine ep_aload_n (j := 0) d_M_nextNested_14 rfl rfl ?_
      refine ep_getf (fi := 20) (v := .ref 28) d_M_nextNested_15 cl5 lf_M_43 (by decide) rfl rfl ?_
      refine ep_iload_n (j := 1) d_M_nextNested_18 rfl rfl ?_
      refine ep_fO d_M_nextNested_19 (hd.top eK).1 (by omega) ?_
      refine ep_istore_n (lv' := [(0, .ref 16), (1, .int (nI (K.length + 1))), (2, .int f.o)]) [1, 2, 0] d_M_nextNested_20 rfl (by decide) rfl ?_
      refine ep_aload_n (j := 0) d_M_nextNested_21 rfl rfl ?_
      refine ep_callVi (As := []) (st := []) d_M_nextNested_22 lk_M_174 cal_M_peek tm_M_peek ts_M_peek rfl rfl rfl (Nat.le_of_ble_eq_true rfl) (Nat.le_of_ble_eq_true rfl) rfl rfl (M_peek hd (by omega)) ?_
      refine ep_bipush (v := 69) d_M_nextNested_25 (by decide) ?_
      refine ep_icmp_ne (tgt := 129) d_M_nextNested_27 (by decide) (fun _ => ?_) (fun z => absurd z hE)
      refine ep_aload_n (j := 0) d_M_nextNested_129 rfl rfl ?_
      refine ep_getf (fi := 21) (v := .ref 29) d_M_nextNested_130 cl5 lf_M_46 (by decide) rfl rfl ?_
      refine ep_iload_n (j := 1) d_M_nextNested_133 rfl rfl ?_
      refine ep_fN d_M_nextNested_134 (hd.top eK).1 (by omega) ?_
      refine ep_if_ne (tgt := 143) d_M_nextNested_135 (by decide) (fun _ => ?_) (fun z => absurd z (fun z => absurd (hn.symm.trans z) (by decide)))
      refine ep_aload_n (j := 0) d_M_nextNested_143 rfl rfl ?_
      refine ep_getf (fi := 21) (v := .ref 29) d_M_nextNested_144 cl5 lf_M_46 (by decide) rfl rfl ?_
      refine ep_iload_n (j := 1) d_M_nextNested_147 rfl rfl ?_
      refine ep_iconst (v := 0) d_M_nextNested_148 (by decide) ?_
      refine ep_iast' (h2 := HC X cI cA rI (va_up rA 21 (upd (rA 21) (K.length + 1) 0)) ol J) (K.length + 1) d_M_nextNested_149 rfl rfl (by omega) (by decide) hA_29 ?_
      have hd1 : MD L S ct rI (va_up rA 21 (upd (rA 21) (K.length + 1) 0)) (mK (s) ((FR.u_n f 0) :: K)) := hd.sn (f := f) (K := K) eK
      generalize va_up rA 21 (upd (rA 21) (K.length + 1) 0) = rA1 at hd1 ⊢
      refine ep_aload_n (j := 0) d_M_nextNested_150 rfl rfl ?_
      refine ep_callVi (As := []) (st := []) d_M_nextNested_151 lk_M_174 cal_M_peek tm_M_peek ts_M_peek rfl rfl rfl (Nat.le_of_ble_eq_true rfl) (Nat.le_of_ble_eq_true rfl) rfl rfl (M_peek hd1 (by show s.p ≤ 1000; omega)) ?_
      refine ep_bipush (v := 73) d_M_nextNested_154 (by decide) ?_
      refine ep_icmp_ne (tgt := 195) d_M_nextNested_156 (by decide) (fun z => absurd hI z) (fun _ => ?_)
      refine ep_aload_n (j := 0) d_M_nextNested_159 rfl rfl ?_
      refine ep_aload_n (j := 0) d_M_nextNested_160 rfl rfl ?_
      refine ep_getf (fi := 3) (v := .ref 17) d_M_nextNested_161 cl5 lf_M_7 (by decide) rfl rfl ?_
      refine ep_iload_n (j := 2) d_M_nextNested_164 rfl rfl ?_
      refine ep_kind (N := s.N) d_M_nextNested_165 hd1.n (by omega) hV ?_
      refine ep_iconst (v := 3) d_M_nextNested_166 (by decide) ?_
      refine ep_icmp_ne (tgt := 174) d_M_nextNested_167 (by decide) (fun _ => ?_) (fun z => absurd z h3)
      refine ep_iconst (v := 0) d_M_nextNested_174 (by decide) ?_
      refine ep_putf' (fi := 24) (h2 := HC X cI cA (upd rI 24 0) rA1 ol J) d_M_nextNested_175 cl5 lf_M_171 (by decide) (Or.inl rfl) rfl rfl hI_16_24 ?_
      have hd2 : MD L S ct (upd rI 24 0) rA1 (mWr (mK (s) ((FR.u_n f 0) :: K)) false) := hd1.sw (q := false) rfl
      generalize upd rI 24 0 = rI2 at hd2 ⊢
      refine ep_aload_n (j := 0) d_M_nextNested_178 rfl rfl ?_
      refine ep_getf (fi := 24) (v := .int (bI (mWr (mK (s) ((FR.u_n f 0) :: K)) false).wr)) d_M_nextNested_179 cl5 lf_M_171 (by decide) rfl (congrArg (fun z => some (Value.int z)) hd2.w) ?_
      refine ep_if_eq (tgt := 189) d_M_nextNested_182 (by decide) (fun _ => ?_) (fun z => absurd rfl z)
      refine ep_aload_n (j := 0) d_M_nextNested_189 rfl rfl ?_
      refine ep_iload_n (j := 2) d_M_nextNested_190 rfl rfl ?_
      refine ep_callVm (As := [.int f.o]) (st := []) d_M_nextNested_191 lk_M_202 cal_M_beginArgs tm_M_beginArgs ts_M_beginArgs rfl rfl rfl (Nat.le_of_ble_eq_true rfl) (Nat.le_of_ble_eq_true rfl) rfl rfl (M_beginArgs hd2 (by show s.p ≤ 124; omega) (by show K.length + 1 ≤ 380; omega) (by show s.N.length ≤ 280; omega) (by show s.E.length ≤ 310; omega) f.o (Or.inr hV)) (fun rI3 rA3 hd3 => ?_)
      exact ep_iret d_M_nextNested_194 rfl rfl (MP_ok (by rw [show mN2 f K s = mK (s) ((FR.u_n f 0) :: K) from by unfold mN2; rw [if_neg (by rw [hn]; decide)], show mWr (mK (s) ((FR.u_n f 0) :: K)) false = mK (s) ((FR.u_n f 0) :: K) from by unfold mWr; rw [show false = s.wr from hw.symm]; rfl]) (by rw [show mN2 f K s = mK (s) ((FR.u_n f 0) :: K) from by unfold mN2; rw [if_neg (by rw [hn]; decide)], show mWr (mK (s) ((FR.u_n f 0) :: K)) false = mK (s) ((FR.u_n f 0) :: K) from by unfold mWr; rw [show false = s.wr from hw.symm]; rfl]) hd3)
    · refine ep_aload_n (j := 0) d_M_nextNested_7 rfl rfl ?_
      refine ep_getf (fi := 24) (v := .int (bI s.wr)) d_M_nextNested_8 cl5 lf_M_171 (by decide) rfl (congrArg (fun z => some (Value.int z)) hd.w) ?_
      refine ep_if_ne (tgt := 220) d_M_nextNested_11 (by decide) (fun z => absurd (by rw [hw]; rfl) z) (fun _ => ?_)
      refine ep_aload_n (j := 0) d_M_nextNested_14 rfl rfl ?_
      refine ep_getf (fi := 20) (v := .ref 28) d_M_nextNested_15 cl5 lf_M_43 (by decide) rfl rfl ?_
      refine ep_iload_n (j := 1) d_M_nextNested_18 rfl rfl ?_
      refine ep_fO d_M_nextNested_19 (hd.top eK).1 (by omega) ?_
      refine ep_istore_n (lv' := [(0, .ref 16), (1, .int (nI (K.length + 1))), (2, .int f.o), (3, .int y3)]) [1, 2, 0, 3] d_M_nextNested_20 rfl (by decide) rfl ?_
      refine ep_aload_n (j := 0) d_M_nextNested_21 rfl rfl ?_
      refine ep_callVi (As := []) (st := []) d_M_nextNested_22 lk_M_174 cal_M_peek tm_M_peek ts_M_peek rfl rfl rfl (Nat.le_of_ble_eq_true rfl) (Nat.le_of_ble_eq_true rfl) rfl rfl (M_peek hd (by omega)) ?_
      refine ep_bipush (v := 69) d_M_nextNested_25 (by decide) ?_
      refine ep_icmp_ne (tgt := 129) d_M_nextNested_27 (by decide) (fun _ => ?_) (fun z => absurd z hE)
      refine ep_aload_n (j := 0) d_M_nextNested_129 rfl rfl ?_
      refine ep_getf (fi := 21) (v := .ref 29) d_M_nextNested_130 cl5 lf_M_46 (by decide) rfl rfl ?_
      refine ep_iload_n (j := 1) d_M_nextNested_133 rfl rfl ?_
      refine ep_fN d_M_nextNested_134 (hd.top eK).1 (by omega) ?_
      refine ep_if_ne (tgt := 143) d_M_nextNested_135 (by decide) (fun _ => ?_) (fun z => absurd z (fun z => absurd (hn.symm.trans z) (by decide)))
      refine ep_aload_n (j := 0) d_M_nextNested_143 rfl rfl ?_
      refine ep_getf (fi := 21) (v := .ref 29) d_M_nextNested_144 cl5 lf_M_46 (by decide) rfl rfl ?_
      refine ep_iload_n (j := 1) d_M_nextNested_147 rfl rfl ?_
      refine ep_iconst (v := 0) d_M_nextNested_148 (by decide) ?_
      refine ep_iast' (h2 := HC X cI cA rI (va_up rA 21 (upd (rA 21) (K.length + 1) 0)) ol J) (K.length + 1) d_M_nextNested_149 rfl rfl (by omega) (by decide) hA_29 ?_
      have hd1 : MD L S ct rI (va_up rA 21 (upd (rA 21) (K.length + 1) 0)) (mK (s) ((FR.u_n f 0) :: K)) := hd.sn (f := f) (K := K) eK
      generalize va_up rA 21 (upd (rA 21) (K.length + 1) 0) = rA1 at hd1 ⊢
      refine ep_aload_n (j := 0) d_M_nextNested_150 rfl rfl ?_
      refine ep_callVi (As := []) (st := []) d_M_nextNested_151 lk_M_174 cal_M_peek tm_M_peek ts_M_peek rfl rfl rfl (Nat.le_of_ble_eq_true rfl) (Nat.le_of_ble_eq_true rfl) rfl rfl (M_peek hd1 (by show s.p ≤ 1000; omega)) ?_
      refine ep_bipush (v := 73) d_M_nextNested_154 (by decide) ?_
      refine ep_icmp_ne (tgt := 195) d_M_nextNested_156 (by decide) (fun z => absurd hI z) (fun _ => ?_)
      refine ep_aload_n (j := 0) d_M_nextNested_159 rfl rfl ?_
      refine ep_aload_n (j := 0) d_M_nextNested_160 rfl rfl ?_
      refine ep_getf (fi := 3) (v := .ref 17) d_M_nextNested_161 cl5 lf_M_7 (by decide) rfl rfl ?_
      refine ep_iload_n (j := 2) d_M_nextNested_164 rfl rfl ?_
      refine ep_kind (N := s.N) d_M_nextNested_165 hd1.n (by omega) hV ?_
      refine ep_iconst (v := 3) d_M_nextNested_166 (by decide) ?_
      refine ep_icmp_ne (tgt := 174) d_M_nextNested_167 (by decide) (fun _ => ?_) (fun z => absurd z h3)
      refine ep_iconst (v := 0) d_M_nextNested_174 (by decide) ?_
      refine ep_putf' (fi := 24) (h2 := HC X cI cA (upd rI 24 0) rA1 ol J) d_M_nextNested_175 cl5 lf_M_171 (by decide) (Or.inl rfl) rfl rfl hI_16_24 ?_
      have hd2 : MD L S ct (upd rI 24 0) rA1 (mWr (mK (s) ((FR.u_n f 0) :: K)) false) := hd1.sw (q := false) rfl
      generalize upd rI 24 0 = rI2 at hd2 ⊢
      refine ep_aload_n (j := 0) d_M_nextNested_178 rfl rfl ?_
      refine ep_getf (fi := 24) (v := .int (bI (mWr (mK (s) ((FR.u_n f 0) :: K)) false).wr)) d_M_nextNested_179 cl5 lf_M_171 (by decide) rfl (congrArg (fun z => some (Value.int z)) hd2.w) ?_
      refine ep_if_eq (tgt := 189) d_M_nextNested_182 (by decide) (fun _ => ?_) (fun z => absurd rfl z)
      refine ep_aload_n (j := 0) d_M_nextNested_189 rfl rfl ?_
      refine ep_iload_n (j := 2) d_M_nextNested_190 rfl rfl ?_
      refine ep_callVm (As := [.int f.o]) (st := []) d_M_nextNested_191 lk_M_202 cal_M_beginArgs tm_M_beginArgs ts_M_beginArgs rfl rfl rfl (Nat.le_of_ble_eq_true rfl) (Nat.le_of_ble_eq_true rfl) rfl rfl (M_beginArgs hd2 (by show s.p ≤ 124; omega) (by show K.length + 1 ≤ 380; omega) (by show s.N.length ≤ 280; omega) (by show s.E.length ≤ 310; omega) f.o (Or.inr hV)) (fun rI3 rA3 hd3 => ?_)
      exact ep_iret d_M_nextNested_194 rfl rfl (MP_ok (by rw [show mN2 f K s = mK (s) ((FR.u_n f 0) :: K) from by unfold mN2; rw [if_neg (by rw [hn]; decide)], show mWr (mK (s) ((FR.u_n f 0) :: K)) false = mK (s) ((FR.u_n f 0) :: K) from by unfold mWr; rw [show false = s.wr from hw.symm]; rfl]) (by rw [show mN2 f K s = mK (s) ((FR.u_n f 0) :: K) from by unfold mN2; rw [if_neg (by rw [hn]; decide)], show mWr (mK (s) ((FR.u_n f 0) :: K)) false = mK (s) ((FR.u_n f 0) :: K) from by unfold mWr; rw [show false = s.wr from hw.symm]; rfl]) hd3)
set_option maxHeartbeats 4000000 in
set_option maxRecDepth 100000 in
theorem M_nn_M {f : FR} {K : List FR} (hd : MD L S ct rI rA s) (eK : s.K = f :: K) (hw : s.wr = false) (g : Gd L s) (hV : Vd s.N f.o) (hn : f.n = 0 ∨ f.n = 1) (hE : ¬ pk L s = 69) (hI : ¬ pk L s = 73) {P : mR → mH → Prop} (k : ∀ rI' rA', MD L S ct rI' rA' (mN3 f K (mN4 L f (mN2 f K s))) → ∀ {lv : List (Nat × Value)}, (lv = [(0, .ref 16), (1, .int (nI (K.length + 1)))] ∨ ∃ y2 y3, lv = [(0, .ref 16), (1, .int (nI (K.length + 1))), (2, .int y2), (3, .int y3)]) → EvP m_M_nextNested (d + 6) 7 lv [] (HC X cI cA rI' rA' ol J) P) : ∀ {lv : List (Nat × Value)}, (lv = [(0, .ref 16), (1, .int (nI (K.length + 1)))] ∨ ∃ y2 y3, lv = [(0, .ref 16), (1, .int (nI (K.length + 1))), (2, .int y2), (3, .int y3)]) → EvP m_M_nextNested (d + 6) 7 lv [] (HC X cI cA rI rA ol J) P := by
  intro lv hlv
  have hkk : K.length + 1 ≤ 200 := by have := g.k; rw [eK] at this; simpa using this
  have hl := g.n
  have he := g.e
  have hp := g.p
  have hL := g.l
  rcases hn with hn | hn
  · rcases hlv with rfl | ⟨y2, y3, rfl⟩
    · refine ep_aload_n (j := 0) d_M_nextNested_7 rfl rfl ?_
      refine ep_getf (fi := 24) (v := .int (bI s.wr)) d_M_nextNested_8 cl5 lf_M_171 (by decide) rfl (congrArg (fun z => some (Value.int z)) hd.w) ?_
      refine ep_if_ne (tgt := 220) d_M_nextNested_11 (by decide) (fun z => absurd (by rw [hw]; rfl) z) (fun _ => ?_)
      refine ep_aload_n (j := 0) d_M_nextNested_14 rfl rfl ?_
      refine ep_getf (fi := 20) (v := .ref 28) d_M_nextNested_15 cl5 lf_M_43 (by decide) rfl rfl ?_
      refine ep_iload_n (j := 1) d_M_nextNested_18 rfl rfl ?_
      refine ep_fO d_M_nextNested_19 (hd.top eK).1 (by omega) ?_
      refine ep_istore_n (lv' := [(0, .ref 16), (1, .int (nI (K.length + 1))), (2, .int f.o)]) [1, 2, 0] d_M_nextNested_20 rfl (by decide) rfl ?_
      refine ep_aload_n (j := 0) d_M_nextNested_21 rfl rfl ?_
      refine ep_callVi (As := []) (st := []) d_M_nextNested_22 lk_M_174 cal_M_peek tm_M_peek ts_M_peek rfl rfl rfl (Nat.le_of_ble_eq_true rfl) (Nat.le_of_ble_eq_true rfl) rfl rfl (M_peek hd (by omega)) ?_
      refine ep_bipush (v := 69) d_M_nextNested_25 (by decide) ?_
      refine ep_icmp_ne (tgt := 129) d_M_nextNested_27 (by decide) (fun _ => ?_) (fun z => absurd z hE)
      refine ep_aload_n (j := 0) d_M_nextNested_129 rfl rfl ?_
      refine ep_getf (fi := 21) (v := .ref 29) d_M_nextNested_130 cl5 lf_M_46 (by decide) rfl rfl ?_
      refine ep_iload_n (j := 1) d_M_nextNested_133 rfl rfl ?_
      refine ep_fN d_M_nextNested_134 (hd.top eK).1 (by omega) ?_
      refine ep_if_ne (tgt := 143) d_M_nextNested_135 (by decide) (fun z => absurd hn z) (fun _ => ?_)
      refine ep_aload_n (j := 0) d_M_nextNested_138 rfl rfl ?_
      refine ep_iload_n (j := 2) d_M_nextNested_139 rfl rfl ?_
      refine ep_callVm (As := [.int f.o]) (st := []) d_M_nextNested_140 lk_M_211 cal_M_enter tm_M_enter ts_M_enter rfl rfl rfl (Nat.le_of_ble_eq_true rfl) (Nat.le_of_ble_eq_true rfl) rfl rfl (M_enter hd (by omega) f.o) (fun rI1 rA1 hd1 => ?_)
      refine ep_aload_n (j := 0) d_M_nextNested_143 rfl rfl ?_
      refine ep_getf (fi := 21) (v := .ref 29) d_M_nextNested_144 cl5 lf_M_46 (by decide) rfl rfl ?_
      refine ep_iload_n (j := 1) d_M_nextNested_147 rfl rfl ?_
      refine ep_iconst (v := 0) d_M_nextNested_148 (by decide) ?_
      refine ep_iast' (h2 := HC X cI cA rI1 (va_up rA1 21 (upd (rA1 21) (K.length + 1) 0)) ol J) (K.length + 1) d_M_nextNested_149 rfl rfl (by omega) (by decide) hA_29 ?_
      have hd2 : MD L S ct rI1 (va_up rA1 21 (upd (rA1 21) (K.length + 1) 0)) (mK (mEn s f.o) ((FR.u_n f 0) :: K)) := hd1.sn (f := f) (K := K) eK
      generalize va_up rA1 21 (upd (rA1 21) (K.length + 1) 0) = rA2 at hd2 ⊢
      refine ep_aload_n (j := 0) d_M_nextNested_150 rfl rfl ?_
      refine ep_callVi (As := []) (st := []) d_M_nextNested_151 lk_M_174 cal_M_peek tm_M_peek ts_M_peek rfl rfl rfl (Nat.le_of_ble_eq_true rfl) (Nat.le_of_ble_eq_true rfl) rfl rfl (M_peek hd2 (by show s.p ≤ 1000; omega)) ?_
      refine ep_bipush (v := 73) d_M_nextNested_154 (by decide) ?_
      refine ep_icmp_ne (tgt := 195) d_M_nextNested_156 (by decide) (fun _ => ?_) (fun z => absurd z hI)
      refine ep_aload_n (j := 0) d_M_nextNested_195 rfl rfl ?_
      refine ep_callVm (As := []) (st := []) d_M_nextNested_196 lk_M_205 cal_M_readId tm_M_readId ts_M_readId rfl rfl rfl (Nat.le_of_ble_eq_true rfl) (Nat.le_of_ble_eq_true rfl) rfl rfl (M_readId hd2 (by show s.p ≤ 200; omega)) (fun rI3 rA3 hd3 => ?_)
      generalize hz : mId L (mK (mEn s f.o) ((FR.u_n f 0) :: K)) = z at hd3 ⊢
      have hzN : z.2.N = s.N ∧ z.2.K = (FR.u_n f 0) :: K := by rw [← hz]; exact ⟨mId_N.1, mId_N.2.1⟩
      refine ep_istore_n (lv' := [(0, .ref 16), (1, .int (nI (K.length + 1))), (2, .int f.o), (3, .int z.1)]) [1, 2, 3, 0] d_M_nextNested_199 rfl (by decide) rfl ?_
      refine ep_aload_n (j := 0) d_M_nextNested_200 rfl rfl ?_
      refine ep_getf (fi := 20) (v := .ref 28) d_M_nextNested_201 cl5 lf_M_43 (by decide) rfl rfl ?_
      refine ep_iload_n (j := 1) d_M_nextNested_204 rfl rfl ?_
      refine ep_aload_n (j := 0) d_M_nextNested_205 rfl rfl ?_
      refine ep_iconst (v := 2) d_M_nextNested_206 (by decide) ?_
      refine ep_iload_n (j := 3) d_M_nextNested_207 rfl rfl ?_
      refine ep_iload_n (j := 2) d_M_nextNested_208 rfl rfl ?_
      refine ep_iconst (v := (-1)) d_M_nextNested_209 (by decide) ?_
      refine ep_iconst (v := (-1)) d_M_nextNested_210 (by decide) ?_
      refine ep_iconst (v := (-1)) d_M_nextNested_211 (by decide) ?_
      refine ep_iconst (v := (-1)) d_M_nextNested_212 (by decide) ?_
      refine ep_callVm (As := [.int 2, .int z.1, .int f.o, .int (-1), .int (-1), .int (-1), .int (-1)]) (st := [.int (nI (K.length + 1)), .ref 28]) d_M_nextNested_213 lk_M_190 cal_M_make tm_M_make ts_M_make rfl rfl rfl (Nat.le_of_ble_eq_true rfl) (Nat.le_of_ble_eq_true rfl) rfl rfl (M_make hd3 (by rw [hzN.1]; omega) 2 z.1 f.o (-1) (-1) (-1) (-1) (fun _ => ⟨by rw [hzN.1]; exact Or.inr hV, no_vo _, no_vo _, no_vo _, no_vo _⟩)) (fun rI4 rA4 hd4 => ?_)
      generalize hx : mMk 2 z.1 f.o (-1) (-1) (-1) (-1) z.2 = x at hd4 ⊢
      have hxK : x.2.K = (FR.u_n f 0) :: K := by rw [← hx]; exact (mMk_K _ _ _ _ _ _ _ _).trans hzN.2
      refine ep_iast' (h2 := HC X cI cA rI4 (va_up rA4 20 (upd (rA4 20) (K.length + 1) x.1)) ol J) (K.length + 1) d_M_nextNested_216 rfl rfl (by omega) (by decide) hA_28 ?_
      have hd5 : MD L S ct rI4 (va_up rA4 20 (upd (rA4 20) (K.length + 1) x.1)) (mK x.2 ((FR.u_o (FR.u_n f 0) x.1) :: K)) := hd4.so (f := (FR.u_n f 0)) (K := K) hxK
      generalize va_up rA4 20 (upd (rA4 20) (K.length + 1) x.1) = rA5 at hd5 ⊢
      refine ep_goto (tgt := 7) d_M_nextNested_217 (by decide) ?_
      refine k _ _ ?_ (Or.inr ⟨_, _, rfl⟩)
      rw [show mN3 f K (mN4 L f (mN2 f K s)) = mK x.2 ((FR.u_o (FR.u_n f 0) x.1) :: K) from by rw [show mN2 f K s = mK (mEn s f.o) ((FR.u_n f 0) :: K) from by unfold mN2; rw [if_pos hn]]; unfold mN4 mN3; rw [hz, hx]]
      exact hd5
    · refine ep_aload_n (j := 0) d_M_nextNested_7 rfl rfl ?_
      refine ep_getf (fi := 24) (v := .int (bI s.wr)) d_M_nextNested_8 cl5 lf_M_171 (by decide) rfl (congrArg (fun z => some (Value.int z)) hd.w) ?_
      refine ep_if_ne (tgt := 220) d_M_nextNested_11 (by decide) (fun z => absurd (by rw [hw]; rfl) z) (fun _ => ?_)
      refine ep_aload_n (j := 0) d_M_nextNested_14 rfl rfl ?_
      refine ep_getf (fi := 20) (v := .ref 28) d_M_nextNested_15 cl5 lf_M_43 (by decide) rfl rfl ?_
      refine ep_iload_n (j := 1) d_M_nextNested_18 rfl rfl ?_
      refine ep_fO d_M_nextNested_19 (hd.top eK).1 (by omega) ?_
      refine ep_istore_n (lv' := [(0, .ref 16), (1, .int (nI (K.length + 1))), (2, .int f.o), (3, .int y3)]) [1, 2, 0, 3] d_M_nextNested_20 rfl (by decide) rfl ?_
      refine ep_aload_n (j := 0) d_M_nextNested_21 rfl rfl ?_
      refine ep_callVi (As := []) (st := []) d_M_nextNested_22 lk_M_174 cal_M_peek tm_M_peek ts_M_peek rfl rfl rfl (Nat.le_of_ble_eq_true rfl) (Nat.le_of_ble_eq_true rfl) rfl rfl (M_peek hd (by omega)) ?_
      refine ep_bipush (v := 69) d_M_nextNested_25 (by decide) ?_
      refine ep_icmp_ne (tgt := 129) d_M_nextNested_27 (by decide) (fun _ => ?_) (fun z => absurd z hE)
      refine ep_aload_n (j := 0) d_M_nextNested_129 rfl rfl ?_
      refine ep_getf (fi := 21) (v := .ref 29) d_M_nextNested_130 cl5 lf_M_46 (by decide) rfl rfl ?_
      refine ep_iload_n (j := 1) d_M_nextNested_133 rfl rfl ?_
      refine ep_fN d_M_nextNested_134 (hd.top eK).1 (by omega) ?_
      refine ep_if_ne (tgt := 143) d_M_nextNested_135 (by decide) (fun z => absurd hn z) (fun _ => ?_)
      refine ep_aload_n (j := 0) d_M_nextNested_138 rfl rfl ?_
      refine ep_iload_n (j := 2) d_M_nextNested_139 rfl rfl ?_
      refine ep_callVm (As := [.int f.o]) (st := []) d_M_nextNested_140 lk_M_211 cal_M_enter tm_M_enter ts_M_enter rfl rfl rfl (Nat.le_of_ble_eq_true rfl) (Nat.le_of_ble_eq_true rfl) rfl rfl (M_enter hd (by omega) f.o) (fun rI1 rA1 hd1 => ?_)
      refine ep_aload_n (j := 0) d_M_nextNested_143 rfl rfl ?_
      refine ep_getf (fi := 21) (v := .ref 29) d_M_nextNested_144 cl5 lf_M_46 (by decide) rfl rfl ?_
      refine ep_iload_n (j := 1) d_M_nextNested_147 rfl rfl ?_
      refine ep_iconst (v := 0) d_M_nextNested_148 (by decide) ?_
      refine ep_iast' (h2 := HC X cI cA rI1 (va_up rA1 21 (upd (rA1 21) (K.length + 1) 0)) ol J) (K.length + 1) d_M_nextNested_149 rfl rfl (by omega) (by decide) hA_29 ?_
      have hd2 : MD L S ct rI1 (va_up rA1 21 (upd (rA1 21) (K.length + 1) 0)) (mK (mEn s f.o) ((FR.u_n f 0) :: K)) := hd1.sn (f := f) (K := K) eK
      generalize va_up rA1 21 (upd (rA1 21) (K.length + 1) 0) = rA2 at hd2 ⊢
      refine ep_aload_n (j := 0) d_M_nextNested_150 rfl rfl ?_
      refine ep_callVi (As := []) (st := []) d_M_nextNested_151 lk_M_174 cal_M_peek tm_M_peek ts_M_peek rfl rfl rfl (Nat.le_of_ble_eq_true rfl) (Nat.le_of_ble_eq_true rfl) rfl rfl (M_peek hd2 (by show s.p ≤ 1000; omega)) ?_
      refine ep_bipush (v := 73) d_M_nextNested_154 (by decide) ?_
      refine ep_icmp_ne (tgt := 195) d_M_nextNested_156 (by decide) (fun _ => ?_) (fun z => absurd z hI)
      refine ep_aload_n (j := 0) d_M_nextNested_195 rfl rfl ?_
      refine ep_callVm (As := []) (st := []) d_M_nextNested_196 lk_M_205 cal_M_readId tm_M_readId ts_M_readId rfl rfl rfl (Nat.le_of_ble_eq_true rfl) (Nat.le_of_ble_eq_true rfl) rfl rfl (M_readId hd2 (by show s.p ≤ 200; omega)) (fun rI3 rA3 hd3 => ?_)
      generalize hz : mId L (mK (mEn s f.o) ((FR.u_n f 0) :: K)) = z at hd3 ⊢
      have hzN : z.2.N = s.N ∧ z.2.K = (FR.u_n f 0) :: K := by rw [← hz]; exact ⟨mId_N.1, mId_N.2.1⟩
      refine ep_istore_n (lv' := [(0, .ref 16), (1, .int (nI (K.length + 1))), (2, .int f.o), (3, .int z.1)]) [1, 2, 3, 0] d_M_nextNested_199 rfl (by decide) rfl ?_
      refine ep_aload_n (j := 0) d_M_nextNested_200 rfl rfl ?_
      refine ep_getf (fi := 20) (v := .ref 28) d_M_nextNested_201 cl5 lf_M_43 (by decide) rfl rfl ?_
      refine ep_iload_n (j := 1) d_M_nextNested_204 rfl rfl ?_
      refine ep_aload_n (j := 0) d_M_nextNested_205 rfl rfl ?_
      refine ep_iconst (v := 2) d_M_nextNested_206 (by decide) ?_
      refine ep_iload_n (j := 3) d_M_nextNested_207 rfl rfl ?_
      refine ep_iload_n (j := 2) d_M_nextNested_208 rfl rfl ?_
      refine ep_iconst (v := (-1)) d_M_nextNested_209 (by decide) ?_
      refine ep_iconst (v := (-1)) d_M_nextNested_210 (by decide) ?_
      refine ep_iconst (v := (-1)) d_M_nextNested_211 (by decide) ?_
      refine ep_iconst (v := (-1)) d_M_nextNested_212 (by decide) ?_
      refine ep_callVm (As := [.int 2, .int z.1, .int f.o, .int (-1), .int (-1), .int (-1), .int (-1)]) (st := [.int (nI (K.length + 1)), .ref 28]) d_M_nextNested_213 lk_M_190 cal_M_make tm_M_make ts_M_make rfl rfl rfl (Nat.le_of_ble_eq_true rfl) (Nat.le_of_ble_eq_true rfl) rfl rfl (M_make hd3 (by rw [hzN.1]; omega) 2 z.1 f.o (-1) (-1) (-1) (-1) (fun _ => ⟨by rw [hzN.1]; exact Or.inr hV, no_vo _, no_vo _, no_vo _, no_vo _⟩)) (fun rI4 rA4 hd4 => ?_)
      generalize hx : mMk 2 z.1 f.o (-1) (-1) (-1) (-1) z.2 = x at hd4 ⊢
      have hxK : x.2.K = (FR.u_n f 0) :: K := by rw [← hx]; exact (mMk_K _ _ _ _ _ _ _ _).trans hzN.2
      refine ep_iast' (h2 := HC X cI cA rI4 (va_up rA4 20 (upd (rA4 20) (K.length + 1) x.1)) ol J) (K.length + 1) d_M_nextNested_216 rfl rfl (by omega) (by decide) hA_28 ?_
      have hd5 : MD L S ct rI4 (va_up rA4 20 (upd (rA4 20) (K.length + 1) x.1)) (mK x.2 ((FR.u_o (FR.u_n f 0) x.1) :: K)) := hd4.so (f := (FR.u_n f 0)) (K := K) hxK
      generalize va_up rA4 20 (upd (rA4 20) (K.length + 1) x.1) = rA5 at hd5 ⊢
      refine ep_goto (tgt := 7) d_M_nextNested_217 (by decide) ?_
      refine k _ _ ?_ (Or.inr ⟨_, _, rfl⟩)
      rw [show mN3 f K (mN4 L f (mN2 f K s)) = mK x.2 ((FR.u_o (FR.u_n f 0) x.1) :: K) from by rw [show mN2 f K s = mK (mEn s f.o) ((FR.u_n f 0) :: K) from by unfold mN2; rw [if_pos hn]]; unfold mN4 mN3; rw [hz, hx]]
      exact hd5
  · rcases hlv with rfl | ⟨y2, y3, rfl⟩
    · refine ep_aload_n (j := 0) d_M_nextNested_7 rfl rfl ?_
      refine ep_getf (fi := 24) (v := .int (bI s.wr)) d_M_nextNested_8 cl5 lf_M_171 (by decide) rfl (congrArg (fun z => some (Value.int z)) hd.w) ?_
      refine ep_if_ne (tgt := 220) d_M_nextNested_11 (by decide) (fun z => absurd (by rw [hw]; rfl) z) (fun _ => ?_)
      refine ep_aload_n (j := 0) d_M_nextNested_14 rfl rfl ?_
      refine ep_getf (fi := 20) (v := .ref 28) d_M_nextNested_15 cl5 lf_M_43 (by decide) rfl rfl ?_
      refine ep_iload_n (j := 1) d_M_nextNested_18 rfl rfl ?_
      refine ep_fO d_M_nextNested_19 (hd.top eK).1 (by omega) ?_
      refine ep_istore_n (lv' := [(0, .ref 16), (1, .int (nI (K.length + 1))), (2, .int f.o)]) [1, 2, 0] d_M_nextNested_20 rfl (by decide) rfl ?_
      refine ep_aload_n (j := 0) d_M_nextNested_21 rfl rfl ?_
      refine ep_callVi (As := []) (st := []) d_M_nextNested_22 lk_M_174 cal_M_peek tm_M_peek ts_M_peek rfl rfl rfl (Nat.le_of_ble_eq_true rfl) (Nat.le_of_ble_eq_true rfl) rfl rfl (M_peek hd (by omega)) ?_
      refine ep_bipush (v := 69) d_M_nextNested_25 (by decide) ?_
      refine ep_icmp_ne (tgt := 129) d_M_nextNested_27 (by decide) (fun _ => ?_) (fun z => absurd z hE)
      refine ep_aload_n (j := 0) d_M_nextNested_129 rfl rfl ?_
      refine ep_getf (fi := 21) (v := .ref 29) d_M_nextNested_130 cl5 lf_M_46 (by decide) rfl rfl ?_
      refine ep_iload_n (j := 1) d_M_nextNested_133 rfl rfl ?_
      refine ep_fN d_M_nextNested_134 (hd.top eK).1 (by omega) ?_
      refine ep_if_ne (tgt := 143) d_M_nextNested_135 (by decide) (fun _ => ?_) (fun z => absurd z (fun z => absurd (hn.symm.trans z) (by decide)))
      refine ep_aload_n (j := 0) d_M_nextNested_143 rfl rfl ?_
      refine ep_getf (fi := 21) (v := .ref 29) d_M_nextNested_144 cl5 lf_M_46 (by decide) rfl rfl ?_
      refine ep_iload_n (j := 1) d_M_nextNested_147 rfl rfl ?_
      refine ep_iconst (v := 0) d_M_nextNested_148 (by decide) ?_
      refine ep_iast' (h2 := HC X cI cA rI (va_up rA 21 (upd (rA 21) (K.length + 1) 0)) ol J) (K.length + 1) d_M_nextNested_149 rfl rfl (by omega) (by decide) hA_29 ?_
      have hd1 : MD L S ct rI (va_up rA 21 (upd (rA 21) (K.length + 1) 0)) (mK (s) ((FR.u_n f 0) :: K)) := hd.sn (f := f) (K := K) eK
      generalize va_up rA 21 (upd (rA 21) (K.length + 1) 0) = rA1 at hd1 ⊢
      refine ep_aload_n (j := 0) d_M_nextNested_150 rfl rfl ?_
      refine ep_callVi (As := []) (st := []) d_M_nextNested_151 lk_M_174 cal_M_peek tm_M_peek ts_M_peek rfl rfl rfl (Nat.le_of_ble_eq_true rfl) (Nat.le_of_ble_eq_true rfl) rfl rfl (M_peek hd1 (by show s.p ≤ 1000; omega)) ?_
      refine ep_bipush (v := 73) d_M_nextNested_154 (by decide) ?_
      refine ep_icmp_ne (tgt := 195) d_M_nextNested_156 (by decide) (fun _ => ?_) (fun z => absurd z hI)
      refine ep_aload_n (j := 0) d_M_nextNested_195 rfl rfl ?_
      refine ep_callVm (As := []) (st := []) d_M_nextNested_196 lk_M_205 cal_M_readId tm_M_readId ts_M_readId rfl rfl rfl (Nat.le_of_ble_eq_true rfl) (Nat.le_of_ble_eq_true rfl) rfl rfl (M_readId hd1 (by show s.p ≤ 200; omega)) (fun rI2 rA2 hd2 => ?_)
      generalize hz : mId L (mK (s) ((FR.u_n f 0) :: K)) = z at hd2 ⊢
      have hzN : z.2.N = s.N ∧ z.2.K = (FR.u_n f 0) :: K := by rw [← hz]; exact ⟨mId_N.1, mId_N.2.1⟩
      refine ep_istore_n (lv' := [(0, .ref 16), (1, .int (nI (K.length + 1))), (2, .int f.o), (3, .int z.1)]) [1, 2, 3, 0] d_M_nextNested_199 rfl (by decide) rfl ?_
      refine ep_aload_n (j := 0) d_M_nextNested_200 rfl rfl ?_
      refine ep_getf (fi := 20) (v := .ref 28) d_M_nextNested_201 cl5 lf_M_43 (by decide) rfl rfl ?_
      refine ep_iload_n (j := 1) d_M_nextNested_204 rfl rfl ?_
      refine ep_aload_n (j := 0) d_M_nextNested_205 rfl rfl ?_
      refine ep_iconst (v := 2) d_M_nextNested_206 (by decide) ?_
      refine ep_iload_n (j := 3) d_M_nextNested_207 rfl rfl ?_
      refine ep_iload_n (j := 2) d_M_nextNested_208 rfl rfl ?_
      refine ep_iconst (v := (-1)) d_M_nextNested_209 (by decide) ?_
      refine ep_iconst (v := (-1)) d_M_nextNested_210 (by decide) ?_
      refine ep_iconst (v := (-1)) d_M_nextNested_211 (by decide) ?_
      refine ep_iconst (v := (-1)) d_M_nextNested_212 (by decide) ?_
      refine ep_callVm (As := [.int 2, .int z.1, .int f.o, .int (-1), .int (-1), .int (-1), .int (-1)]) (st := [.int (nI (K.length + 1)), .ref 28]) d_M_nextNested_213 lk_M_190 cal_M_make tm_M_make ts_M_make rfl rfl rfl (Nat.le_of_ble_eq_true rfl) (Nat.le_of_ble_eq_true rfl) rfl rfl (M_make hd2 (by rw [hzN.1]; omega) 2 z.1 f.o (-1) (-1) (-1) (-1) (fun _ => ⟨by rw [hzN.1]; exact Or.inr hV, no_vo _, no_vo _, no_vo _, no_vo _⟩)) (fun rI3 rA3 hd3 => ?_)
      generalize hx : mMk 2 z.1 f.o (-1) (-1) (-1) (-1) z.2 = x at hd3 ⊢
      have hxK : x.2.K = (FR.u_n f 0) :: K := by rw [← hx]; exact (mMk_K _ _ _ _ _ _ _ _).trans hzN.2
      refine ep_iast' (h2 := HC X cI cA rI3 (va_up rA3 20 (upd (rA3 20) (K.length + 1) x.1)) ol J) (K.length + 1) d_M_nextNested_216 rfl rfl (by omega) (by decide) hA_28 ?_
      have hd4 : MD L S ct rI3 (va_up rA3 20 (upd (rA3 20) (K.length + 1) x.1)) (mK x.2 ((FR.u_o (FR.u_n f 0) x.1) :: K)) := hd3.so (f := (FR.u_n f 0)) (K := K) hxK
      generalize va_up rA3 20 (upd (rA3 20) (K.length + 1) x.1) = rA4 at hd4 ⊢
      refine ep_goto (tgt := 7) d_M_nextNested_217 (by decide) ?_
      refine k _ _ ?_ (Or.inr ⟨_, _, rfl⟩)
      rw [show mN3 f K (mN4 L f (mN2 f K s)) = mK x.2 ((FR.u_o (FR.u_n f 0) x.1) :: K) from by rw [show mN2 f K s = mK (s) ((FR.u_n f 0) :: K) from by unfold mN2; rw [if_neg (by rw [hn]; decide)]]; unfold mN4 mN3; rw [hz, hx]]
      exact hd4
    · refine ep_aload_n (j := 0) d_M_nextNested_7 rfl rfl ?_
      refine ep_getf (fi := 24) (v := .int (bI s.wr)) d_M_nextNested_8 cl5 lf_M_171 (by decide) rfl (congrArg (fun z => some (Value.int z)) hd.w) ?_
      refine ep_if_ne (tgt := 220) d_M_nextNested_11 (by decide) (fun z => absurd (by rw [hw]; rfl) z) (fun _ => ?_)
      refine ep_aload_n (j := 0) d_M_nextNested_14 rfl rfl ?_
      refine ep_getf (fi := 20) (v := .ref 28) d_M_nextNested_15 cl5 lf_M_43 (by decide) rfl rfl ?_
      refine ep_iload_n (j := 1) d_M_nextNested_18 rfl rfl ?_
      refine ep_fO d_M_nextNested_19 (hd.top eK).1 (by omega) ?_
      refine ep_istore_n (lv' := [(0, .ref 16), (1, .int (nI (K.length + 1))), (2, .int f.o), (3, .int y3)]) [1, 2, 0, 3] d_M_nextNested_20 rfl (by decide) rfl ?_
      refine ep_aload_n (j := 0) d_M_nextNested_21 rfl rfl ?_
      refine ep_callVi (As := []) (st := []) d_M_nextNested_22 lk_M_174 cal_M_peek tm_M_peek ts_M_peek rfl rfl rfl (Nat.le_of_ble_eq_true rfl) (Nat.le_of_ble_eq_true rfl) rfl rfl (M_peek hd (by omega)) ?_
      refine ep_bipush (v := 69) d_M_nextNested_25 (by decide) ?_
      refine ep_icmp_ne (tgt := 129) d_M_nextNested_27 (by decide) (fun _ => ?_) (fun z => absurd z hE)
      refine ep_aload_n (j := 0) d_M_nextNested_129 rfl rfl ?_
      refine ep_getf (fi := 21) (v := .ref 29) d_M_nextNested_130 cl5 lf_M_46 (by decide) rfl rfl ?_
      refine ep_iload_n (j := 1) d_M_nextNested_133 rfl rfl ?_
      refine ep_fN d_M_nextNested_134 (hd.top eK).1 (by omega) ?_
      refine ep_if_ne (tgt := 143) d_M_nextNested_135 (by decide) (fun _ => ?_) (fun z => absurd z (fun z => absurd (hn.symm.trans z) (by decide)))
      refine ep_aload_n (j := 0) d_M_nextNested_143 rfl rfl ?_
      refine ep_getf (fi := 21) (v := .ref 29) d_M_nextNested_144 cl5 lf_M_46 (by decide) rfl rfl ?_
      refine ep_iload_n (j := 1) d_M_nextNested_147 rfl rfl ?_
      refine ep_iconst (v := 0) d_M_nextNested_148 (by decide) ?_
      refine ep_iast' (h2 := HC X cI cA rI (va_up rA 21 (upd (rA 21) (K.length + 1) 0)) ol J) (K.length + 1) d_M_nextNested_149 rfl rfl (by omega) (by decide) hA_29 ?_
      have hd1 : MD L S ct rI (va_up rA 21 (upd (rA 21) (K.length + 1) 0)) (mK (s) ((FR.u_n f 0) :: K)) := hd.sn (f := f) (K := K) eK
      generalize va_up rA 21 (upd (rA 21) (K.length + 1) 0) = rA1 at hd1 ⊢
      refine ep_aload_n (j := 0) d_M_nextNested_150 rfl rfl ?_
      refine ep_callVi (As := []) (st := []) d_M_nextNested_151 lk_M_174 cal_M_peek tm_M_peek ts_M_peek rfl rfl rfl (Nat.le_of_ble_eq_true rfl) (Nat.le_of_ble_eq_true rfl) rfl rfl (M_peek hd1 (by show s.p ≤ 1000; omega)) ?_
      refine ep_bipush (v := 73) d_M_nextNested_154 (by decide) ?_
      refine ep_icmp_ne (tgt := 195) d_M_nextNested_156 (by decide) (fun _ => ?_) (fun z => absurd z hI)
      refine ep_aload_n (j := 0) d_M_nextNested_195 rfl rfl ?_
      refine ep_callVm (As := []) (st := []) d_M_nextNested_196 lk_M_205 cal_M_readId tm_M_readId ts_M_readId rfl rfl rfl (Nat.le_of_ble_eq_true rfl) (Nat.le_of_ble_eq_true rfl) rfl rfl (M_readId hd1 (by show s.p ≤ 200; omega)) (fun rI2 rA2 hd2 => ?_)
      generalize hz : mId L (mK (s) ((FR.u_n f 0) :: K)) = z at hd2 ⊢
      have hzN : z.2.N = s.N ∧ z.2.K = (FR.u_n f 0) :: K := by rw [← hz]; exact ⟨mId_N.1, mId_N.2.1⟩
      refine ep_istore_n (lv' := [(0, .ref 16), (1, .int (nI (K.length + 1))), (2, .int f.o), (3, .int z.1)]) [1, 2, 3, 0] d_M_nextNested_199 rfl (by decide) rfl ?_
      refine ep_aload_n (j := 0) d_M_nextNested_200 rfl rfl ?_
      refine ep_getf (fi := 20) (v := .ref 28) d_M_nextNested_201 cl5 lf_M_43 (by decide) rfl rfl ?_
      refine ep_iload_n (j := 1) d_M_nextNested_204 rfl rfl ?_
      refine ep_aload_n (j := 0) d_M_nextNested_205 rfl rfl ?_
      refine ep_iconst (v := 2) d_M_nextNested_206 (by decide) ?_
      refine ep_iload_n (j := 3) d_M_nextNested_207 rfl rfl ?_
      refine ep_iload_n (j := 2) d_M_nextNested_208 rfl rfl ?_
      refine ep_iconst (v := (-1)) d_M_nextNested_209 (by decide) ?_
      refine ep_iconst (v := (-1)) d_M_nextNested_210 (by decide) ?_
      refine ep_iconst (v := (-1)) d_M_nextNested_211 (by decide) ?_
      refine ep_iconst (v := (-1)) d_M_nextNested_212 (by decide) ?_
      refine ep_callVm (As := [.int 2, .int z.1, .int f.o, .int (-1), .int (-1), .int (-1), .int (-1)]) (st := [.int (nI (K.length + 1)), .ref 28]) d_M_nextNested_213 lk_M_190 cal_M_make tm_M_make ts_M_make rfl rfl rfl (Nat.le_of_ble_eq_true rfl) (Nat.le_of_ble_eq_true rfl) rfl rfl (M_make hd2 (by rw [hzN.1]; omega) 2 z.1 f.o (-1) (-1) (-1) (-1) (fun _ => ⟨by rw [hzN.1]; exact Or.inr hV, no_vo _, no_vo _, no_vo _, no_vo _⟩)) (fun rI3 rA3 hd3 => ?_)
      generalize hx : mMk 2 z.1 f.o (-1) (-1) (-1) (-1) z.2 = x at hd3 ⊢
      have hxK : x.2.K = (FR.u_n f 0) :: K := by rw [← hx]; exact (mMk_K _ _ _ _ _ _ _ _).trans hzN.2
      refine ep_iast' (h2 := HC X cI cA rI3 (va_up rA3 20 (upd (rA3 20) (K.length + 1) x.1)) ol J) (K.length + 1) d_M_nextNested_216 rfl rfl (by omega) (by decide) hA_28 ?_
      have hd4 : MD L S ct rI3 (va_up rA3 20 (upd (rA3 20) (K.length + 1) x.1)) (mK x.2 ((FR.u_o (FR.u_n f 0) x.1) :: K)) := hd3.so (f := (FR.u_n f 0)) (K := K) hxK
      generalize va_up rA3 20 (upd (rA3 20) (K.length + 1) x.1) = rA4 at hd4 ⊢
      refine ep_goto (tgt := 7) d_M_nextNested_217 (by decide) ?_
      refine k _ _ ?_ (Or.inr ⟨_, _, rfl⟩)
      rw [show mN3 f K (mN4 L f (mN2 f K s)) = mK x.2 ((FR.u_o (FR.u_n f 0) x.1) :: K) from by rw [show mN2 f K s = mK (s) ((FR.u_n f 0) :: K) from by unfold mN2; rw [if_neg (by rw [hn]; decide)]]; unfold mN4 mN3; rw [hz, hx]]
      exact hd4
set_option maxHeartbeats 4000000 in
set_option maxRecDepth 100000 in
theorem M_nn_W {f : FR} {K : List FR} (hd : MD L S ct rI rA s) (eK : s.K = f :: K) (hw : s.wr = true) : ∀ {lv : List (Nat × Value)}, (lv = [(0, .ref 16), (1, .int (nI (K.length + 1)))] ∨ ∃ y2 y3, lv = [(0, .ref 16), (1, .int (nI (K.length + 1))), (2, .int y2), (3, .int y3)]) → EvP m_M_nextNested (d + 6) 7 lv [] (HC X cI cA rI rA ol J) (MP X cI cA ol J L S ct (some (.int (-1))) s) := by
  intro lv hlv
  rcases hlv with rfl | ⟨y2, y3, rfl⟩
  · refine ep_aload_n (j := 0) d_M_nextNested_7 rfl rfl ?_
    refine ep_getf (fi := 24) (v := .int (bI s.wr)) d_M_nextNested_8 cl5 lf_M_171 (by decide) rfl (congrArg (fun z => some (Value.int z)) hd.w) ?_
    refine ep_if_ne (tgt := 220) d_M_nextNested_11 (by decide) (fun _ => ?_) (fun z => absurd z (by rw [hw]; decide))
    refine ep_iconst (v := (-1)) d_M_nextNested_220 (by decide) ?_
    exact ep_iret d_M_nextNested_221 rfl rfl (MP_ok rfl rfl hd)
  · refine ep_aload_n (j := 0) d_M_nextNested_7 rfl rfl ?_
    refine ep_getf (fi := 24) (v := .int (bI s.wr)) d_M_nextNested_8 cl5 lf_M_171 (by decide) rfl (congrArg (fun z => some (Value.int z)) hd.w) ?_
    refine ep_if_ne (tgt := 220) d_M_nextNested_11 (by decide) (fun _ => ?_) (fun z => absurd z (by rw [hw]; decide))
    refine ep_iconst (v := (-1)) d_M_nextNested_220 (by decide) ?_
    exact ep_iret d_M_nextNested_221 rfl rfl (MP_ok rfl rfl hd)
theorem fo8 {N : List (List Int32)} {f : FR} (h : FO N f) (h8 : f.t = 8) : Vd N f.o ∧ (cN N f.o 0 = 3 → Vd N (cN N f.o 2)) ∧ (f.n = 0 ∨ f.n = 1) := by
  rcases h with o | o | o | o
  · exact absurd (h8.symm.trans o.1) (by decide)
  · exact absurd (h8.symm.trans o.1) (by decide)
  · exact absurd (h8.symm.trans o.1) (by decide)
  · exact o.2
theorem M_nn {q : IM} (h : NN L s q) : ∀ {rI : Nat → Int32} {rA : Nat → Nat → Int32} {f : FR} {K : List FR}, MD L S ct rI rA s → s.K = f :: K → ∀ {lv : List (Nat × Value)}, (lv = [(0, .ref 16), (1, .int (nI (K.length + 1)))] ∨ ∃ y2 y3, lv = [(0, .ref 16), (1, .int (nI (K.length + 1))), (2, .int y2), (3, .int y3)]) → EvP m_M_nextNested (d + 6) 7 lv [] (HC X cI cA rI rA ol J) (MPi X cI cA ol J L S ct q) := by
  induction h using NN.ind with
  | wrong hw hk => intro rI rA f K hd eK lv hlv; exact M_nn_W hd eK hw hlv
  | @done s q hw hk g h8 e =>
    intro rI rA f K hd eK lv hlv
    obtain ⟨hV, hV3, hn⟩ := fo8 (g.f f K eK) (h8 f K eK)
    rw [mNx_c eK hw] at e
    by_cases c : pk L s = 69
    · rw [if_pos c] at e
      cases e
      exact M_nn_E hd eK hw g hV hV3 c hlv
    · rw [if_neg c] at e
      by_cases c2 : pk L s = 73
      · rw [if_pos c2] at e
        by_cases c3 : cN s.N f.o 0 = 3
        · rw [if_pos c3] at e
          cases e
          exact M_nn_I1 hd eK hw g hV hn c c2 c3 hlv
        · rw [if_neg c3] at e
          cases e
          exact M_nn_I0 hd eK hw g hV hn c c2 c3 hlv
      · rw [if_neg c2] at e
        cases e
  | @more s s' q hw hk g h8 e _ ih =>
    intro rI rA f K hd eK lv hlv
    obtain ⟨hV, hV3, hn⟩ := fo8 (g.f f K eK) (h8 f K eK)
    rw [mNx_c eK hw] at e
    by_cases c : pk L s = 69
    · rw [if_pos c] at e; cases e
    · rw [if_neg c] at e
      by_cases c2 : pk L s = 73
      · rw [if_pos c2] at e
        by_cases c3 : cN s.N f.o 0 = 3
        · rw [if_pos c3] at e; cases e
        · rw [if_neg c3] at e; cases e
      · rw [if_neg c2] at e
        cases e
        refine M_nn_M hd eK hw g hV hn c c2 (fun rI1 rA1 hd1 lv1 hlv1 => ?_) hlv
        exact ih hd1 rfl hlv1
set_option maxHeartbeats 4000000 in
set_option maxRecDepth 100000 in
theorem M_nextNested {q : IM} (h : NN L s q) {f : FR} {K : List FR} (hd : MD L S ct rI rA s) (eK : s.K = f :: K) : EvP m_M_nextNested (d + 6) 0 [(0, .ref 16)] [] (HC X cI cA rI rA ol J) (MPi X cI cA ol J L S ct q) := by
  refine ep_aload_n (j := 0) d_M_nextNested_0 rfl rfl ?_
  refine ep_getf (fi := 18) (v := .int (nI (K.length + 2))) d_M_nextNested_1 cl5 lf_M_120 (by decide) rfl (congrArg (fun z => some (Value.int z)) (hd.top eK).2.2) ?_
  refine ep_iconst (v := 1) d_M_nextNested_4 (by decide) ?_
  refine ep_isub d_M_nextNested_5 ?_
  refine ep_cg (y := nI (K.length + 1)) (nI_pred _) ?_
  refine ep_istore_n (lv' := [(0, .ref 16), (1, .int (nI (K.length + 1)))]) [1, 0] d_M_nextNested_6 rfl (by decide) rfl ?_
  exact M_nn h hd eK (Or.inl rfl)
end MS5
