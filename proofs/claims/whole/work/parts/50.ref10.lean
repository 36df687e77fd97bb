/-! the reference: take; by program (wip/whole/gen50.py) -/
section MS8
variable {d : Nat} {X : Nat × (Nat → Int32)} {cI : Nat → Int32} {cA : Nat → Nat → Int32} {rI : Nat → Int32} {rA : Nat → Nat → Int32} {ol : Int64} {J : mH} {L S : List Int32} {ct : Nat} {s : MS}
set_option maxHeartbeats 4000000 in
set_option maxRecDepth 100000 in
theorem M_take_7 {f : FR} {K : List FR} (hd : MD L S ct rI rA s) (eK : s.K = f :: K) (hw : s.wr = false) (g : Gd L s) (n : Int32) (hV : Vd s.N n) (h7 : f.t = 7) : EvP m_M_take (d + 5) 0 [(0, .ref 16), (1, .int n)] [] (HC X cI cA rI rA ol J) (MPi X cI cA ol J L S ct (mTk7 f K n s)) := by
  have hl := g.n
  have he := g.e
  have hk : K.length + 1 ≤ 200 := by have := g.k; rw [eK] at this; simpa using this
  have hp := g.p
  have hL := g.l
  have hf := (hd.top eK).1

  refine ep_aload_n (j := 0) d_M_take_0 rfl rfl ?_
  refine ep_getf (fi := 18) (v := .int (nI (K.length + 2))) d_M_take_1 cl5 lf_M_120 (by decide) rfl (congrArg (fun z => some (Value.int z)) (hd.top eK).2.2) ?_
  refine ep_iconst (v := 1) d_M_take_4 (by decide) ?_
  refine ep_isub d_M_take_5 ?_
  refine ep_cg (y := nI (K.length + 1)) (nI_pred _) ?_
  refine ep_istore_n (lv' := [(0, .ref 16), (1, .int n), (2, .int (nI (K.length + 1)))]) [1, 2, 0] d_M_take_6 rfl (by decide) rfl ?_
  refine ep_aload_n (j := 0) d_M_take_7 rfl rfl ?_
  refine ep_getf (fi := 19) (v := .ref 27) d_M_take_8 cl5 lf_M_40 (by decide) rfl rfl ?_
  refine ep_iload_n (j := 2) d_M_take_11 rfl rfl ?_
  refine ep_fT d_M_take_12 (hd.top eK).1 (by omega) ?_
  refine ep_bipush (v := 7) d_M_take_13 (by decide) ?_
  refine ep_icmp_ne (tgt := 110) d_M_take_15 (by decide) (fun z => absurd h7 z) (fun _ => ?_)
  refine ep_aload_n (j := 0) d_M_take_18 rfl rfl ?_
  refine ep_dup d_M_take_19 rfl ?_
  refine ep_getf (fi := 18) (v := .int (nI (K.length + 2))) d_M_take_20 cl5 lf_M_120 (by decide) rfl (congrArg (fun z => some (Value.int z)) (hd.top eK).2.2) ?_
  refine ep_iconst (v := 1) d_M_take_23 (by decide) ?_
  refine ep_isub d_M_take_24 ?_
  refine ep_cg (y := nI (K.length + 1)) (nI_pred _) ?_
  refine ep_putf' (fi := 18) (h2 := HC X cI cA (upd rI 18 (nI (K.length + 1))) rA ol J) d_M_take_25 cl5 lf_M_120 (by decide) (Or.inl rfl) rfl rfl hI_16_18 ?_
  have hd1 : MD L S ct (upd rI 18 (nI (K.length + 1))) rA (mK s K) := hd.pop eK rfl
  generalize upd rI 18 (nI (K.length + 1)) = rI1 at hd1 ⊢
  refine ep_aload_n (j := 0) d_M_take_28 rfl rfl ?_
  refine ep_join (pc2 := 63) (lv2 := [(0, .ref 16), (1, .int n), (2, .int (nI (K.length + 1)))]) (st2 := [.int (bI ((mK s K).wr || decide (f.o = 6 ∧ cN s.N n 0 = 6))), .ref 16]) ?_ (fun k63 => ?_)
  · refine ep_putf' (fi := 24) (h2 := HC X cI cA (upd rI1 24 (bI ((mK s K).wr || decide (f.o = 6 ∧ cN s.N n 0 = 6)))) rA ol J) d_M_take_63 cl5 lf_M_171 (by decide) (Or.inl rfl) (bI_f _) rfl hI_16_24 ?_
    have hd2 : MD L S ct (upd rI1 24 (bI ((mK s K).wr || decide (f.o = 6 ∧ cN s.N n 0 = 6)))) rA (mOr (mK s K) (decide (f.o = 6 ∧ cN s.N n 0 = 6))) := hd1.sw (q := ((mK s K).wr || decide (f.o = 6 ∧ cN s.N n 0 = 6))) rfl
    generalize upd rI1 24 (bI ((mK s K).wr || decide (f.o = 6 ∧ cN s.N n 0 = 6))) = rI2 at hd2 ⊢
    refine ep_aload_n (j := 0) d_M_take_66 rfl rfl ?_
    refine ep_aload_n (j := 0) d_M_take_67 rfl rfl ?_
    refine ep_getf (fi := 20) (v := .ref 28) d_M_take_68 cl5 lf_M_43 (by decide) rfl rfl ?_
    refine ep_iload_n (j := 2) d_M_take_71 rfl rfl ?_
    refine ep_fO d_M_take_72 hf (by omega) ?_
    refine ep_join (pc2 := 94) (lv2 := [(0, .ref 16), (1, .int n), (2, .int (nI (K.length + 1)))]) (st2 := [.int (if f.o = 7 then f.n else 0), .int f.o, .ref 16]) ?_ (fun k94 => ?_)
    · refine ep_iload_n (j := 1) d_M_take_94 rfl rfl ?_
      refine ep_iconst (v := (-1)) d_M_take_95 (by decide) ?_
      refine ep_iconst (v := (-1)) d_M_take_96 (by decide) ?_
      refine ep_iconst (v := (-1)) d_M_take_97 (by decide) ?_
      refine ep_iconst (v := (-1)) d_M_take_98 (by decide) ?_
      refine ep_callVm (As := [.int f.o, .int (if f.o = 7 then f.n else 0), .int n, .int (-1), .int (-1), .int (-1), .int (-1)]) (st := []) d_M_take_99 lk_M_190 cal_M_make tm_M_make ts_M_make rfl rfl rfl (Nat.le_of_ble_eq_true rfl) (Nat.le_of_ble_eq_true rfl) rfl rfl (M_make hd2 (by show s.N.length ≤ 300; omega) f.o (if f.o = 7 then f.n else 0) n (-1) (-1) (-1) (-1) (fun _ => ⟨Or.inr hV, no_vo _, no_vo _, no_vo _, no_vo _⟩)) (fun rI3 rA3 hd3 => ?_)
      generalize hx : mMk f.o (if f.o = 7 then f.n else 0) n (-1) (-1) (-1) (-1) (mOr (mK s K) (decide (f.o = 6 ∧ cN s.N n 0 = 6))) = x at hd3
      have xE : x.2.E = s.E := by rw [← hx]; exact mMk_E _ _ _ _ _ _ _ _
      refine ep_istore_n (lv' := [(0, .ref 16), (1, .int n), (2, .int (nI (K.length + 1))), (3, .int x.1)]) [1, 2, 3, 0] d_M_take_102 rfl (by decide) rfl ?_
      refine ep_aload_n (j := 0) d_M_take_103 rfl rfl ?_
      refine ep_iload_n (j := 3) d_M_take_104 rfl rfl ?_
      refine ep_callVm (As := [.int x.1]) (st := []) d_M_take_105 lk_M_211 cal_M_enter tm_M_enter ts_M_enter rfl rfl rfl (Nat.le_of_ble_eq_true rfl) (Nat.le_of_ble_eq_true rfl) rfl rfl (M_enter hd3 (by rw [xE]; omega) x.1) (fun rI4 rA4 hd4 => ?_)
      refine ep_iload_n (j := 3) d_M_take_108 rfl rfl ?_
      exact ep_iret d_M_take_109 rfl rfl (MP_ok (by unfold mTk7 eQ; rw [hx]) (by unfold mTk7 eQ; rw [hx]) hd4)
    · refine ep_aload_n (j := 0) d_M_take_73 rfl rfl ?_
      refine ep_getf (fi := 20) (v := .ref 28) d_M_take_74 cl5 lf_M_43 (by decide) rfl rfl ?_
      refine ep_iload_n (j := 2) d_M_take_77 rfl rfl ?_
      refine ep_fO d_M_take_78 hf (by omega) ?_
      refine ep_bipush (v := 7) d_M_take_79 (by decide) ?_
      refine ep_icmp_ne (tgt := 93) d_M_take_81 (by decide) (fun c81 => ?_) (fun c81 => ?_)
      · refine ep_iconst (v := 0) d_M_take_93 (by decide) ?_
        refine ep_cg (y := if f.o = 7 then f.n else 0) ((if_neg c81).symm) ?_
        exact k94
      · refine ep_aload_n (j := 0) d_M_take_84 rfl rfl ?_
        refine ep_getf (fi := 21) (v := .ref 29) d_M_take_85 cl5 lf_M_46 (by decide) rfl rfl ?_
        refine ep_iload_n (j := 2) d_M_take_88 rfl rfl ?_
        refine ep_fN d_M_take_89 hf (by omega) ?_
        refine ep_goto (tgt := 94) d_M_take_90 (by decide) ?_
        refine ep_cg (y := if f.o = 7 then f.n else 0) ((if_pos c81).symm) ?_
        exact k94
  · refine ep_aload_n (j := 0) d_M_take_29 rfl rfl ?_
    refine ep_getf (fi := 24) (v := .int (bI (mK s K).wr)) d_M_take_30 cl5 lf_M_171 (by decide) rfl (congrArg (fun z => some (Value.int z)) hd1.w) ?_
    refine ep_if_ne (tgt := 58) d_M_take_33 (by decide) (fun c33 => ?_) (fun c33 => ?_)
    · refine ep_iconst (v := 1) d_M_take_58 (by decide) ?_
      refine ep_goto (tgt := 63) d_M_take_59 (by decide) ?_
      refine ep_cg (y := bI ((mK s K).wr || decide (f.o = 6 ∧ cN s.N n 0 = 6))) (bor1 c33) ?_
      exact k63
    · refine ep_aload_n (j := 0) d_M_take_36 rfl rfl ?_
      refine ep_getf (fi := 20) (v := .ref 28) d_M_take_37 cl5 lf_M_43 (by decide) rfl rfl ?_
      refine ep_iload_n (j := 2) d_M_take_40 rfl rfl ?_
      refine ep_fO d_M_take_41 hf (by omega) ?_
      refine ep_bipush (v := 6) d_M_take_42 (by decide) ?_
      refine ep_icmp_ne (tgt := 62) d_M_take_44 (by decide) (fun c44 => ?_) (fun c44 => ?_)
      · refine ep_iconst (v := 0) d_M_take_62 (by decide) ?_
        refine ep_cg (y := bI ((mK s K).wr || decide (f.o = 6 ∧ cN s.N n 0 = 6))) (bor0 c33 (decide_eq_false (fun u => c44 u.1))) ?_
        exact k63
      · refine ep_aload_n (j := 0) d_M_take_47 rfl rfl ?_
        refine ep_getf (fi := 3) (v := .ref 17) d_M_take_48 cl5 lf_M_7 (by decide) rfl rfl ?_
        refine ep_iload_n (j := 1) d_M_take_51 rfl rfl ?_
        refine ep_kind (N := s.N) d_M_take_52 hd1.n (by omega) hV ?_
        refine ep_bipush (v := 6) d_M_take_53 (by decide) ?_
        refine ep_icmp_ne (tgt := 62) d_M_take_55 (by decide) (fun c55 => ?_) (fun c55 => ?_)
        · refine ep_iconst (v := 0) d_M_take_62 (by decide) ?_
          refine ep_cg (y := bI ((mK s K).wr || decide (f.o = 6 ∧ cN s.N n 0 = 6))) (bor0 c33 (decide_eq_false (fun u => c55 u.2))) ?_
          exact k63
        · refine ep_iconst (v := 1) d_M_take_58 (by decide) ?_
          refine ep_goto (tgt := 63) d_M_take_59 (by decide) ?_
          refine ep_cg (y := bI ((mK s K).wr || decide (f.o = 6 ∧ cN s.N n 0 = 6))) (bor2 c33 (decide_eq_true ⟨c44, c55⟩)) ?_
          exact k63
set_option maxHeartbeats 4000000 in
set_option maxRecDepth 100000 in
theorem M_take_4 {f : FR} {K : List FR} (hd : MD L S ct rI rA s) (eK : s.K = f :: K) (hw : s.wr = false) (g : Gd L s) (n : Int32) (hV : Vd s.N n) (h4 : f.t = 4) {i : Nat} (hn : f.n = nI i) (hi3 : i < 3) (hv : Vo s.N (f.lst i n).o ∧ Vo s.N (f.lst i n).a ∧ Vo s.N (f.lst i n).b ∧ Vo s.N (f.lst i n).c) : EvP m_M_take (d + 5) 0 [(0, .ref 16), (1, .int n)] [] (HC X cI cA rI rA ol J) (MPi X cI cA ol J L S ct (mNA L (mPut s n))) := by
  have hl := g.n
  have he := g.e
  have hk : K.length + 1 ≤ 200 := by have := g.k; rw [eK] at this; simpa using this
  have hp := g.p
  have hL := g.l
  have hf := (hd.top eK).1

  refine ep_aload_n (j := 0) d_M_take_0 rfl rfl ?_
  refine ep_getf (fi := 18) (v := .int (nI (K.length + 2))) d_M_take_1 cl5 lf_M_120 (by decide) rfl (congrArg (fun z => some (Value.int z)) (hd.top eK).2.2) ?_
  refine ep_iconst (v := 1) d_M_take_4 (by decide) ?_
  refine ep_isub d_M_take_5 ?_
  refine ep_cg (y := nI (K.length + 1)) (nI_pred _) ?_
  refine ep_istore_n (lv' := [(0, .ref 16), (1, .int n), (2, .int (nI (K.length + 1)))]) [1, 2, 0] d_M_take_6 rfl (by decide) rfl ?_
  refine ep_aload_n (j := 0) d_M_take_7 rfl rfl ?_
  refine ep_getf (fi := 19) (v := .ref 27) d_M_take_8 cl5 lf_M_40 (by decide) rfl rfl ?_
  refine ep_iload_n (j := 2) d_M_take_11 rfl rfl ?_
  refine ep_fT d_M_take_12 (hd.top eK).1 (by omega) ?_
  refine ep_bipush (v := 7) d_M_take_13 (by decide) ?_
  refine ep_icmp_ne (tgt := 110) d_M_take_15 (by decide) (fun _ => ?_) (fun z => absurd z (by rw [h4]; decide))
  refine ep_aload_n (j := 0) d_M_take_110 rfl rfl ?_
  refine ep_getf (fi := 19) (v := .ref 27) d_M_take_111 cl5 lf_M_40 (by decide) rfl rfl ?_
  refine ep_iload_n (j := 2) d_M_take_114 rfl rfl ?_
  refine ep_fT d_M_take_115 (hd.top eK).1 (by omega) ?_
  refine ep_iconst (v := 4) d_M_take_116 (by decide) ?_
  refine ep_icmp_ne (tgt := 151) d_M_take_117 (by decide) (fun z => absurd h4 z) (fun _ => ?_)
  refine ep_aload_n (j := 0) d_M_take_120 rfl rfl ?_
  refine ep_getf (fi := 22) (v := .ref 30) d_M_take_121 cl5 lf_M_49 (by decide) rfl rfl ?_
  refine ep_iconst (v := 3) d_M_take_124 (by decide) ?_
  refine ep_iload_n (j := 2) d_M_take_125 rfl rfl ?_
  refine ep_imul d_M_take_126 ?_
  refine ep_cg (y := nI (3 * (K.length + 1))) (m3 _) ?_
  refine ep_aload_n (j := 0) d_M_take_127 rfl rfl ?_
  refine ep_getf (fi := 21) (v := .ref 29) d_M_take_128 cl5 lf_M_46 (by decide) rfl rfl ?_
  refine ep_iload_n (j := 2) d_M_take_131 rfl rfl ?_
  refine ep_fN d_M_take_132 hf (by omega) ?_
  refine ep_iadd d_M_take_133 ?_
  refine ep_cg (y := nI (3 * (K.length + 1) + i)) (by rw [hn, nI_add]) ?_
  refine ep_iload_n (j := 1) d_M_take_134 rfl rfl ?_
  refine ep_iast' (h2 := HC X cI cA rI (va_up rA 22 (upd (rA 22) (3 * (K.length + 1) + i) n)) ol J) (3 * (K.length + 1) + i) d_M_take_135 rfl rfl (by omega) (by decide) hA_30 ?_
  have hd1 : MD L S ct rI (va_up rA 22 (upd (rA 22) (3 * (K.length + 1) + i) n)) (mK s (f.lst i n :: K)) := hd.sl' eK i hi3
  generalize va_up rA 22 (upd (rA 22) (3 * (K.length + 1) + i) n) = rA1 at hd1 ⊢
  refine ep_aload_n (j := 0) d_M_take_136 rfl rfl ?_
  refine ep_getf (fi := 21) (v := .ref 29) d_M_take_137 cl5 lf_M_46 (by decide) rfl rfl ?_
  refine ep_iload_n (j := 2) d_M_take_140 rfl rfl ?_
  refine ep_dup2 d_M_take_141 rfl rfl ?_
  refine ep_fN (f := f.lst i n) d_M_take_142 (hd1.top rfl).1 (by omega) ?_
  refine ep_iconst (v := 1) d_M_take_143 (by decide) ?_
  refine ep_iadd d_M_take_144 ?_
  refine ep_cg (y := f.n + 1) (by rw [lst_n]) ?_
  refine ep_iast' (h2 := HC X cI cA rI (va_up rA1 21 (upd (rA1 21) (K.length + 1) (f.n + 1))) ol J) (K.length + 1) d_M_take_145 rfl rfl (by omega) (by decide) hA_29 ?_
  have hd2 : MD L S ct rI (va_up rA1 21 (upd (rA1 21) (K.length + 1) (f.n + 1))) (mK (mK s (f.lst i n :: K)) ((FR.u_n (f.lst i n) (f.n + 1)) :: K)) := hd1.sn (f := f.lst i n) (K := K) rfl
  generalize va_up rA1 21 (upd (rA1 21) (K.length + 1) (f.n + 1)) = rA2 at hd2 ⊢
  have eP := put_eq eK hn hi3 n
  rw [← eP] at hd2
  have eK2 : (mPut s n).K = (FR.u_n (f.lst i n) (f.n + 1)) :: K := by rw [eP]; rfl
  have eN2 : (mPut s n).N = s.N ∧ (mPut s n).p = s.p ∧ (mPut s n).E = s.E := by rw [eP]; exact ⟨rfl, rfl, rfl⟩
  refine ep_aload_n (j := 0) d_M_take_146 rfl rfl ?_
  refine ep_callVm (As := []) (st := []) d_M_take_147 lk_M_221 cal_M_nextArgument tm_M_nextArgument ts_M_nextArgument rfl rfl rfl (Nat.le_of_ble_eq_true rfl) (Nat.le_of_ble_eq_true rfl) rfl rfl (M_nextArgument (i := i + 1) (f := (FR.u_n (f.lst i n) (f.n + 1))) (K := K) (by show f.n + 1 = nI (i + 1); rw [hn, nI_1]) (by omega) hd2 eK2 (fun _ => by rw [eN2.2.1]; omega) (by omega) (by rw [eN2.1]; omega) (by rw [eN2.2.2]; omega) (fun _ => by rw [eN2.1]; exact hv)) (fun rI3 rA3 hd3 => ?_)
  exact ep_iret d_M_take_150 rfl rfl (MP_ok rfl rfl hd3)
set_option maxHeartbeats 4000000 in
set_option maxRecDepth 100000 in
theorem M_tk4t {f : FR} {K : List FR} (hd : MD L S ct rI rA s) (eK : s.K = f :: K) (hp : s.p ≤ 300) (hk : K.length + 1 ≤ 300) (hl : s.N.length ≤ 280) (he : s.E.length ≤ 300) (hv : s.wr = false → Vo s.N f.o ∧ Vo s.N f.a ∧ Vo s.N f.b ∧ Vo s.N f.c) {n : Int32} : EvP m_M_take (d + 5) 272 [(0, .ref 16), (1, .int n), (2, .int (nI (K.length + 1))), (3, .int 1)] [] (HC X cI cA rI rA ol J) (MPi X cI cA ol J L S ct (mTk4 L true f K s)) := by
  have hf := (hd.top eK).1
  refine ep_aload_n (j := 0) d_M_take_272 rfl rfl ?_
  refine ep_getf (fi := 24) (v := .int (bI s.wr)) d_M_take_273 cl5 lf_M_171 (by decide) rfl (congrArg (fun z => some (Value.int z)) hd.w) ?_
  refine ep_if_ne (tgt := 374) d_M_take_276 (by decide) (fun c276 => ?_) (fun c276 => ?_)
  · refine ep_aload_n (j := 0) d_M_take_374 rfl rfl ?_
    refine ep_join (pc2 := 401) (lv2 := [(0, .ref 16), (1, .int n), (2, .int (nI (K.length + 1))), (3, .int 1)]) (st2 := [.int (bI (s.wr || decide (true = true ∨ f.n = 3))), .ref 16]) ?_ (fun k401 => ?_)
    · refine ep_putf' (fi := 24) (h2 := HC X cI cA (upd rI 24 (bI (s.wr || decide (true = true ∨ f.n = 3)))) rA ol J) d_M_take_401 cl5 lf_M_171 (by decide) (Or.inl rfl) (bI_f _) rfl hI_16_24 ?_
      have hd1 : MD L S ct (upd rI 24 (bI (s.wr || decide (true = true ∨ f.n = 3)))) rA (mOr s (decide (true = true ∨ f.n = 3))) := hd.sw (q := (s.wr || decide (true = true ∨ f.n = 3))) rfl
      generalize upd rI 24 (bI (s.wr || decide (true = true ∨ f.n = 3))) = rI1 at hd1 ⊢
      refine ep_iconst (v := (-1)) d_M_take_404 (by decide) ?_
      exact ep_iret d_M_take_405 rfl rfl (MP_ok (by unfold mTk4; rw [if_neg (fun u => by have := bI_t c276; rw [u.1] at this; cases this)]) (by unfold mTk4; rw [if_neg (fun u => by have := bI_t c276; rw [u.1] at this; cases this)]) hd1)
    · refine ep_aload_n (j := 0) d_M_take_375 rfl rfl ?_
      refine ep_getf (fi := 24) (v := .int (bI s.wr)) d_M_take_376 cl5 lf_M_171 (by decide) rfl (congrArg (fun z => some (Value.int z)) hd.w) ?_
      refine ep_if_ne (tgt := 396) d_M_take_379 (by decide) (fun c379 => ?_) (fun c379 => ?_)
      · refine ep_iconst (v := 1) d_M_take_396 (by decide) ?_
        refine ep_goto (tgt := 401) d_M_take_397 (by decide) ?_
        refine ep_cg (y := bI (s.wr || decide (true = true ∨ f.n = 3))) (bor1 c379) ?_
        exact k401
      · refine ep_iload_n (j := 3) d_M_take_382 rfl rfl ?_
        refine ep_if_ne (tgt := 396) d_M_take_383 (by decide) (fun _ => ?_) (fun z => absurd z (by decide))
        refine ep_iconst (v := 1) d_M_take_396 (by decide) ?_
        refine ep_goto (tgt := 401) d_M_take_397 (by decide) ?_
        refine ep_cg (y := bI (s.wr || decide (true = true ∨ f.n = 3))) (bor2 c379 (decide_eq_true (Or.inl rfl))) ?_
        exact k401
  · refine ep_iload_n (j := 3) d_M_take_279 rfl rfl ?_
    refine ep_if_ne (tgt := 292) d_M_take_280 (by decide) (fun _ => ?_) (fun z => absurd z (by decide))
    refine ep_aload_n (j := 0) d_M_take_292 rfl rfl ?_
    refine ep_callVi (As := []) (st := []) d_M_take_293 lk_M_174 cal_M_peek tm_M_peek ts_M_peek rfl rfl rfl (Nat.le_of_ble_eq_true rfl) (Nat.le_of_ble_eq_true rfl) rfl rfl (M_peek hd (by omega)) ?_
    refine ep_bipush (v := 69) d_M_take_296 (by decide) ?_
    refine ep_icmp_ne (tgt := 374) d_M_take_298 (by decide) (fun c298 => ?_) (fun c298 => ?_)
    · refine ep_aload_n (j := 0) d_M_take_374 rfl rfl ?_
      refine ep_join (pc2 := 401) (lv2 := [(0, .ref 16), (1, .int n), (2, .int (nI (K.length + 1))), (3, .int 1)]) (st2 := [.int (bI (s.wr || decide (true = true ∨ f.n = 3))), .ref 16]) ?_ (fun k401 => ?_)
      · refine ep_putf' (fi := 24) (h2 := HC X cI cA (upd rI 24 (bI (s.wr || decide (true = true ∨ f.n = 3)))) rA ol J) d_M_take_401 cl5 lf_M_171 (by decide) (Or.inl rfl) (bI_f _) rfl hI_16_24 ?_
        have hd2 : MD L S ct (upd rI 24 (bI (s.wr || decide (true = true ∨ f.n = 3)))) rA (mOr s (decide (true = true ∨ f.n = 3))) := hd.sw (q := (s.wr || decide (true = true ∨ f.n = 3))) rfl
        generalize upd rI 24 (bI (s.wr || decide (true = true ∨ f.n = 3))) = rI2 at hd2 ⊢
        refine ep_iconst (v := (-1)) d_M_take_404 (by decide) ?_
        exact ep_iret d_M_take_405 rfl rfl (MP_ok (by unfold mTk4; rw [if_neg (fun u => c298 u.2.2)]) (by unfold mTk4; rw [if_neg (fun u => c298 u.2.2)]) hd2)
      · refine ep_aload_n (j := 0) d_M_take_375 rfl rfl ?_
        refine ep_getf (fi := 24) (v := .int (bI s.wr)) d_M_take_376 cl5 lf_M_171 (by decide) rfl (congrArg (fun z => some (Value.int z)) hd.w) ?_
        refine ep_if_ne (tgt := 396) d_M_take_379 (by decide) (fun c379 => ?_) (fun c379 => ?_)
        · refine ep_iconst (v := 1) d_M_take_396 (by decide) ?_
          refine ep_goto (tgt := 401) d_M_take_397 (by decide) ?_
          refine ep_cg (y := bI (s.wr || decide (true = true ∨ f.n = 3))) (bor1 c379) ?_
          exact k401
        · refine ep_iload_n (j := 3) d_M_take_382 rfl rfl ?_
          refine ep_if_ne (tgt := 396) d_M_take_383 (by decide) (fun _ => ?_) (fun z => absurd z (by decide))
          refine ep_iconst (v := 1) d_M_take_396 (by decide) ?_
          refine ep_goto (tgt := 401) d_M_take_397 (by decide) ?_
          refine ep_cg (y := bI (s.wr || decide (true = true ∨ f.n = 3))) (bor2 c379 (decide_eq_true (Or.inl rfl))) ?_
          exact k401
    · refine ep_aload_n (j := 0) d_M_take_301 rfl rfl ?_
      refine ep_dup d_M_take_302 rfl ?_
      refine ep_getf (fi := 23) (v := .int (nI s.p)) d_M_take_303 cl5 lf_M_168 (by decide) rfl (congrArg (fun z => some (Value.int z)) hd.p) ?_
      refine ep_iconst (v := 1) d_M_take_306 (by decide) ?_
      refine ep_iadd d_M_take_307 ?_
      refine ep_putf' (fi := 23) (h2 := HC X cI cA (upd rI 23 ((nI s.p) + 1)) rA ol J) d_M_take_308 cl5 lf_M_168 (by decide) (Or.inl rfl) rfl rfl hI_16_23 ?_
      have hd3 : MD L S ct (upd rI 23 ((nI s.p) + 1)) rA (mAv s 1) := hd.sp (q := (s.p + 1)) (nI_1 _)
      generalize upd rI 23 ((nI s.p) + 1) = rI3 at hd3 ⊢
      refine ep_aload_n (j := 0) d_M_take_311 rfl rfl ?_
      refine ep_dup d_M_take_312 rfl ?_
      refine ep_getf (fi := 18) (v := .int (nI (K.length + 2))) d_M_take_313 cl5 lf_M_120 (by decide) rfl (congrArg (fun z => some (Value.int z)) (hd3.top eK).2.2) ?_
      refine ep_iconst (v := 1) d_M_take_316 (by decide) ?_
      refine ep_isub d_M_take_317 ?_
      refine ep_cg (y := nI (K.length + 1)) (nI_pred _) ?_
      refine ep_putf' (fi := 18) (h2 := HC X cI cA (upd rI3 18 (nI (K.length + 1))) rA ol J) d_M_take_318 cl5 lf_M_120 (by decide) (Or.inl rfl) rfl rfl hI_16_18 ?_
      have hd4 : MD L S ct (upd rI3 18 (nI (K.length + 1))) rA (mK (mAv s 1) K) := hd3.pop eK rfl
      generalize upd rI3 18 (nI (K.length + 1)) = rI4 at hd4 ⊢
      refine ep_aload_n (j := 0) d_M_take_321 rfl rfl ?_
      refine ep_bipush (v := 8) d_M_take_322 (by decide) ?_
      refine ep_iconst (v := 0) d_M_take_324 (by decide) ?_
      refine ep_aload_n (j := 0) d_M_take_325 rfl rfl ?_
      refine ep_getf (fi := 20) (v := .ref 28) d_M_take_326 cl5 lf_M_43 (by decide) rfl rfl ?_
      refine ep_iload_n (j := 2) d_M_take_329 rfl rfl ?_
      refine ep_fO d_M_take_330 hf (by omega) ?_
      refine ep_iconst (v := (-1)) d_M_take_331 (by decide) ?_
      refine ep_aload_n (j := 0) d_M_take_332 rfl rfl ?_
      refine ep_getf (fi := 22) (v := .ref 30) d_M_take_333 cl5 lf_M_49 (by decide) rfl rfl ?_
      refine ep_iconst (v := 3) d_M_take_336 (by decide) ?_
      refine ep_iload_n (j := 2) d_M_take_337 rfl rfl ?_
      refine ep_imul d_M_take_338 ?_
      refine ep_cg (y := nI (3 * (K.length + 1))) (m3 _) ?_
      refine ep_fA d_M_take_339 hf (by omega) ?_
      refine ep_aload_n (j := 0) d_M_take_340 rfl rfl ?_
      refine ep_getf (fi := 22) (v := .ref 30) d_M_take_341 cl5 lf_M_49 (by decide) rfl rfl ?_
      refine ep_iconst (v := 3) d_M_take_344 (by decide) ?_
      refine ep_iload_n (j := 2) d_M_take_345 rfl rfl ?_
      refine ep_imul d_M_take_346 ?_
      refine ep_cg (y := nI (3 * (K.length + 1))) (m3 _) ?_
      refine ep_iconst (v := 1) d_M_take_347 (by decide) ?_
      refine ep_iadd d_M_take_348 ?_
      refine ep_cg (y := nI (3 * (K.length + 1) + 1)) (nI_1 _) ?_
      refine ep_fB d_M_take_349 hf (by omega) ?_
      refine ep_aload_n (j := 0) d_M_take_350 rfl rfl ?_
      refine ep_getf (fi := 22) (v := .ref 30) d_M_take_351 cl5 lf_M_49 (by decide) rfl rfl ?_
      refine ep_iconst (v := 3) d_M_take_354 (by decide) ?_
      refine ep_iload_n (j := 2) d_M_take_355 rfl rfl ?_
      refine ep_imul d_M_take_356 ?_
      refine ep_cg (y := nI (3 * (K.length + 1))) (m3 _) ?_
      refine ep_iconst (v := 2) d_M_take_357 (by decide) ?_
      refine ep_iadd d_M_take_358 ?_
      refine ep_cg (y := nI (3 * (K.length + 1) + 2)) (a2 _) ?_
      refine ep_fC d_M_take_359 hf (by omega) ?_
      refine ep_callVm (As := [.int 8, .int 0, .int f.o, .int (-1), .int f.a, .int f.b, .int f.c]) (st := []) d_M_take_360 lk_M_190 cal_M_make tm_M_make ts_M_make rfl rfl rfl (Nat.le_of_ble_eq_true rfl) (Nat.le_of_ble_eq_true rfl) rfl rfl (M_make hd4 (by show s.N.length ≤ 300; omega) 8 0 f.o (-1) f.a f.b f.c (fun hw => ⟨(hv hw).1, no_vo _, (hv hw).2⟩)) (fun rI5 rA5 hd5 => ?_)
      generalize hx : mMk 8 0 f.o (-1) f.a f.b f.c (mK (mAv s 1) K) = x at hd5
      have xE : x.2.E = s.E := by rw [← hx]; exact mMk_E _ _ _ _ _ _ _ _
      refine ep_istore (lv' := [(0, .ref 16), (1, .int n), (2, .int (nI (K.length + 1))), (3, .int 1), (4, .int x.1)]) [1, 2, 3, 4, 0] d_M_take_363 (by decide) rfl ?_
      refine ep_aload_n (j := 0) d_M_take_365 rfl rfl ?_
      refine ep_iload (j := 4) d_M_take_366 rfl ?_
      refine ep_callVm (As := [.int x.1]) (st := []) d_M_take_368 lk_M_211 cal_M_enter tm_M_enter ts_M_enter rfl rfl rfl (Nat.le_of_ble_eq_true rfl) (Nat.le_of_ble_eq_true rfl) rfl rfl (M_enter hd5 (by rw [xE]; omega) x.1) (fun rI6 rA6 hd6 => ?_)
      refine ep_iload (j := 4) d_M_take_371 rfl ?_
      exact ep_iret d_M_take_373 rfl rfl (MP_ok (by unfold mTk4; rw [if_pos ⟨bI_n c276, Or.inl rfl, c298⟩]; unfold eQ; rw [hx]) (by unfold mTk4; rw [if_pos ⟨bI_n c276, Or.inl rfl, c298⟩]; unfold eQ; rw [hx]) hd6)
set_option maxHeartbeats 4000000 in
set_option maxRecDepth 100000 in
theorem M_tk4f {f : FR} {K : List FR} (hd : MD L S ct rI rA s) (eK : s.K = f :: K) (hp : s.p ≤ 300) (hk : K.length + 1 ≤ 300) (hl : s.N.length ≤ 280) (he : s.E.length ≤ 300) (hv : s.wr = false → Vo s.N f.o ∧ Vo s.N f.a ∧ Vo s.N f.b ∧ Vo s.N f.c) {n : Int32} : EvP m_M_take (d + 5) 272 [(0, .ref 16), (1, .int n), (2, .int (nI (K.length + 1))), (3, .int 0)] [] (HC X cI cA rI rA ol J) (MPi X cI cA ol J L S ct (mTk4 L false f K s)) := by
  have hf := (hd.top eK).1
  refine ep_aload_n (j := 0) d_M_take_272 rfl rfl ?_
  refine ep_getf (fi := 24) (v := .int (bI s.wr)) d_M_take_273 cl5 lf_M_171 (by decide) rfl (congrArg (fun z => some (Value.int z)) hd.w) ?_
  refine ep_if_ne (tgt := 374) d_M_take_276 (by decide) (fun c276 => ?_) (fun c276 => ?_)
  · refine ep_aload_n (j := 0) d_M_take_374 rfl rfl ?_
    refine ep_join (pc2 := 401) (lv2 := [(0, .ref 16), (1, .int n), (2, .int (nI (K.length + 1))), (3, .int 0)]) (st2 := [.int (bI (s.wr || decide (false = true ∨ f.n = 3))), .ref 16]) ?_ (fun k401 => ?_)
    · refine ep_putf' (fi := 24) (h2 := HC X cI cA (upd rI 24 (bI (s.wr || decide (false = true ∨ f.n = 3)))) rA ol J) d_M_take_401 cl5 lf_M_171 (by decide) (Or.inl rfl) (bI_f _) rfl hI_16_24 ?_
      have hd1 : MD L S ct (upd rI 24 (bI (s.wr || decide (false = true ∨ f.n = 3)))) rA (mOr s (decide (false = true ∨ f.n = 3))) := hd.sw (q := (s.wr || decide (false = true ∨ f.n = 3))) rfl
      generalize upd rI 24 (bI (s.wr || decide (false = true ∨ f.n = 3))) = rI1 at hd1 ⊢
      refine ep_iconst (v := (-1)) d_M_take_404 (by decide) ?_
      exact ep_iret d_M_take_405 rfl rfl (MP_ok (by unfold mTk4; rw [if_neg (fun u => by have := bI_t c276; rw [u.1] at this; cases this)]) (by unfold mTk4; rw [if_neg (fun u => by have := bI_t c276; rw [u.1] at this; cases this)]) hd1)
    · refine ep_aload_n (j := 0) d_M_take_375 rfl rfl ?_
      refine ep_getf (fi := 24) (v := .int (bI s.wr)) d_M_take_376 cl5 lf_M_171 (by decide) rfl (congrArg (fun z => some (Value.int z)) hd.w) ?_
      refine ep_if_ne (tgt := 396) d_M_take_379 (by decide) (fun c379 => ?_) (fun c379 => ?_)
      · refine ep_iconst (v := 1) d_M_take_396 (by decide) ?_
        refine ep_goto (tgt := 401) d_M_take_397 (by decide) ?_
        refine ep_cg (y := bI (s.wr || decide (false = true ∨ f.n = 3))) (bor1 c379) ?_
        exact k401
      · refine ep_iload_n (j := 3) d_M_take_382 rfl rfl ?_
        refine ep_if_ne (tgt := 396) d_M_take_383 (by decide) (fun z => absurd (by decide) z) (fun _ => ?_)
        refine ep_aload_n (j := 0) d_M_take_386 rfl rfl ?_
        refine ep_getf (fi := 21) (v := .ref 29) d_M_take_387 cl5 lf_M_46 (by decide) rfl rfl ?_
        refine ep_iload_n (j := 2) d_M_take_390 rfl rfl ?_
        refine ep_fN d_M_take_391 hf (by omega) ?_
        refine ep_iconst (v := 3) d_M_take_392 (by decide) ?_
        refine ep_icmp_ne (tgt := 400) d_M_take_393 (by decide) (fun c393 => ?_) (fun c393 => ?_)
        · refine ep_iconst (v := 0) d_M_take_400 (by decide) ?_
          refine ep_cg (y := bI (s.wr || decide (false = true ∨ f.n = 3))) (bor0 c379 (decide_eq_false (fun u => u.elim (fun v => by cases v) c393))) ?_
          exact k401
        · refine ep_iconst (v := 1) d_M_take_396 (by decide) ?_
          refine ep_goto (tgt := 401) d_M_take_397 (by decide) ?_
          refine ep_cg (y := bI (s.wr || decide (false = true ∨ f.n = 3))) (bor2 c379 (decide_eq_true (Or.inr c393))) ?_
          exact k401
  · refine ep_iload_n (j := 3) d_M_take_279 rfl rfl ?_
    refine ep_if_ne (tgt := 292) d_M_take_280 (by decide) (fun z => absurd (by decide) z) (fun _ => ?_)
    refine ep_aload_n (j := 0) d_M_take_283 rfl rfl ?_
    refine ep_getf (fi := 21) (v := .ref 29) d_M_take_284 cl5 lf_M_46 (by decide) rfl rfl ?_
    refine ep_iload_n (j := 2) d_M_take_287 rfl rfl ?_
    refine ep_fN d_M_take_288 hf (by omega) ?_
    refine ep_if_le (tgt := 374) d_M_take_289 (by decide) (fun c289 => ?_) (fun c289 => ?_)
    · refine ep_aload_n (j := 0) d_M_take_374 rfl rfl ?_
      refine ep_join (pc2 := 401) (lv2 := [(0, .ref 16), (1, .int n), (2, .int (nI (K.length + 1))), (3, .int 0)]) (st2 := [.int (bI (s.wr || decide (false = true ∨ f.n = 3))), .ref 16]) ?_ (fun k401 => ?_)
      · refine ep_putf' (fi := 24) (h2 := HC X cI cA (upd rI 24 (bI (s.wr || decide (false = true ∨ f.n = 3)))) rA ol J) d_M_take_401 cl5 lf_M_171 (by decide) (Or.inl rfl) (bI_f _) rfl hI_16_24 ?_
        have hd2 : MD L S ct (upd rI 24 (bI (s.wr || decide (false = true ∨ f.n = 3)))) rA (mOr s (decide (false = true ∨ f.n = 3))) := hd.sw (q := (s.wr || decide (false = true ∨ f.n = 3))) rfl
        generalize upd rI 24 (bI (s.wr || decide (false = true ∨ f.n = 3))) = rI2 at hd2 ⊢
        refine ep_iconst (v := (-1)) d_M_take_404 (by decide) ?_
        exact ep_iret d_M_take_405 rfl rfl (MP_ok (by unfold mTk4; rw [if_neg (fun u => u.2.1.elim (fun v => by cases v) (fun v => absurd v (Int32.not_lt.mpr c289)))]) (by unfold mTk4; rw [if_neg (fun u => u.2.1.elim (fun v => by cases v) (fun v => absurd v (Int32.not_lt.mpr c289)))]) hd2)
      · refine ep_aload_n (j := 0) d_M_take_375 rfl rfl ?_
        refine ep_getf (fi := 24) (v := .int (bI s.wr)) d_M_take_376 cl5 lf_M_171 (by decide) rfl (congrArg (fun z => some (Value.int z)) hd.w) ?_
        refine ep_if_ne (tgt := 396) d_M_take_379 (by decide) (fun c379 => ?_) (fun c379 => ?_)
        · refine ep_iconst (v := 1) d_M_take_396 (by decide) ?_
          refine ep_goto (tgt := 401) d_M_take_397 (by decide) ?_
          refine ep_cg (y := bI (s.wr || decide (false = true ∨ f.n = 3))) (bor1 c379) ?_
          exact k401
        · refine ep_iload_n (j := 3) d_M_take_382 rfl rfl ?_
          refine ep_if_ne (tgt := 396) d_M_take_383 (by decide) (fun z => absurd (by decide) z) (fun _ => ?_)
          refine ep_aload_n (j := 0) d_M_take_386 rfl rfl ?_
          refine ep_getf (fi := 21) (v := .ref 29) d_M_take_387 cl5 lf_M_46 (by decide) rfl rfl ?_
          refine ep_iload_n (j := 2) d_M_take_390 rfl rfl ?_
          refine ep_fN d_M_take_391 hf (by omega) ?_
          refine ep_iconst (v := 3) d_M_take_392 (by decide) ?_
          refine ep_icmp_ne (tgt := 400) d_M_take_393 (by decide) (fun c393 => ?_) (fun c393 => ?_)
          · refine ep_iconst (v := 0) d_M_take_400 (by decide) ?_
            refine ep_cg (y := bI (s.wr || decide (false = true ∨ f.n = 3))) (bor0 c379 (decide_eq_false (fun u => u.elim (fun v => by cases v) c393))) ?_
            exact k401
          · refine ep_iconst (v := 1) d_M_take_396 (by decide) ?_
            refine ep_goto (tgt := 401) d_M_take_397 (by decide) ?_
            refine ep_cg (y := bI (s.wr || decide (false = true ∨ f.n = 3))) (bor2 c379 (decide_eq_true (Or.inr c393))) ?_
            exact k401
    · refine ep_aload_n (j := 0) d_M_take_292 rfl rfl ?_
      refine ep_callVi (As := []) (st := []) d_M_take_293 lk_M_174 cal_M_peek tm_M_peek ts_M_peek rfl rfl rfl (Nat.le_of_ble_eq_true rfl) (Nat.le_of_ble_eq_true rfl) rfl rfl (M_peek hd (by omega)) ?_
      refine ep_bipush (v := 69) d_M_take_296 (by decide) ?_
      refine ep_icmp_ne (tgt := 374) d_M_take_298 (by decide) (fun c298 => ?_) (fun c298 => ?_)
      · refine ep_aload_n (j := 0) d_M_take_374 rfl rfl ?_
        refine ep_join (pc2 := 401) (lv2 := [(0, .ref 16), (1, .int n), (2, .int (nI (K.length + 1))), (3, .int 0)]) (st2 := [.int (bI (s.wr || decide (false = true ∨ f.n = 3))), .ref 16]) ?_ (fun k401 => ?_)
        · refine ep_putf' (fi := 24) (h2 := HC X cI cA (upd rI 24 (bI (s.wr || decide (false = true ∨ f.n = 3)))) rA ol J) d_M_take_401 cl5 lf_M_171 (by decide) (Or.inl rfl) (bI_f _) rfl hI_16_24 ?_
          have hd3 : MD L S ct (upd rI 24 (bI (s.wr || decide (false = true ∨ f.n = 3)))) rA (mOr s (decide (false = true ∨ f.n = 3))) := hd.sw (q := (s.wr || decide (false = true ∨ f.n = 3))) rfl
          generalize upd rI 24 (bI (s.wr || decide (false = true ∨ f.n = 3))) = rI3 at hd3 ⊢
          refine ep_iconst (v := (-1)) d_M_take_404 (by decide) ?_
          exact ep_iret d_M_take_405 rfl rfl (MP_ok (by unfold mTk4; rw [if_neg (fun u => c298 u.2.2)]) (by unfold mTk4; rw [if_neg (fun u => c298 u.2.2)]) hd3)
        · refine ep_aload_n (j := 0) d_M_take_375 rfl rfl ?_
          refine ep_getf (fi := 24) (v := .int (bI s.wr)) d_M_take_376 cl5 lf_M_171 (by decide) rfl (congrArg (fun z => some (Value.int z)) hd.w) ?_
          refine ep_if_ne (tgt := 396) d_M_take_379 (by decide) (fun c379 => ?_) (fun c379 => ?_)
          · refine ep_iconst (v := 1) d_M_take_396 (by decide) ?_
            refine ep_goto (tgt := 401) d_M_take_397 (by decide) ?_
            refine ep_cg (y := bI (s.wr || decide (false = true ∨ f.n = 3))) (bor1 c379) ?_
            exact k401
          · refine ep_iload_n (j := 3) d_M_take_382 rfl rfl ?_
            refine ep_if_ne (tgt := 396) d_M_take_383 (by decide) (fun z => absurd (by decide) z) (fun _ => ?_)
            refine ep_aload_n (j := 0) d_M_take_386 rfl rfl ?_
            refine ep_getf (fi := 21) (v := .ref 29) d_M_take_387 cl5 lf_M_46 (by decide) rfl rfl ?_
            refine ep_iload_n (j := 2) d_M_take_390 rfl rfl ?_
            refine ep_fN d_M_take_391 hf (by omega) ?_
            refine ep_iconst (v := 3) d_M_take_392 (by decide) ?_
            refine ep_icmp_ne (tgt := 400) d_M_take_393 (by decide) (fun c393 => ?_) (fun c393 => ?_)
            · refine ep_iconst (v := 0) d_M_take_400 (by decide) ?_
              refine ep_cg (y := bI (s.wr || decide (false = true ∨ f.n = 3))) (bor0 c379 (decide_eq_false (fun u => u.elim (fun v => by cases v) c393))) ?_
              exact k401
            · refine ep_iconst (v := 1) d_M_take_396 (by decide) ?_
              refine ep_goto (tgt := 401) d_M_take_397 (by decide) ?_
              refine ep_cg (y := bI (s.wr || decide (false = true ∨ f.n = 3))) (bor2 c379 (decide_eq_true (Or.inr c393))) ?_
              exact k401
      · refine ep_aload_n (j := 0) d_M_take_301 rfl rfl ?_
        refine ep_dup d_M_take_302 rfl ?_
        refine ep_getf (fi := 23) (v := .int (nI s.p)) d_M_take_303 cl5 lf_M_168 (by decide) rfl (congrArg (fun z => some (Value.int z)) hd.p) ?_
        refine ep_iconst (v := 1) d_M_take_306 (by decide) ?_
        refine ep_iadd d_M_take_307 ?_
        refine ep_putf' (fi := 23) (h2 := HC X cI cA (upd rI 23 ((nI s.p) + 1)) rA ol J) d_M_take_308 cl5 lf_M_168 (by decide) (Or.inl rfl) rfl rfl hI_16_23 ?_
        have hd4 : MD L S ct (upd rI 23 ((nI s.p) + 1)) rA (mAv s 1) := hd.sp (q := (s.p + 1)) (nI_1 _)
        generalize upd rI 23 ((nI s.p) + 1) = rI4 at hd4 ⊢
        refine ep_aload_n (j := 0) d_M_take_311 rfl rfl ?_
        refine ep_dup d_M_take_312 rfl ?_
        refine ep_getf (fi := 18) (v := .int (nI (K.length + 2))) d_M_take_313 cl5 lf_M_120 (by decide) rfl (congrArg (fun z => some (Value.int z)) (hd4.top eK).2.2) ?_
        refine ep_iconst (v := 1) d_M_take_316 (by decide) ?_
        refine ep_isub d_M_take_317 ?_
        refine ep_cg (y := nI (K.length + 1)) (nI_pred _) ?_
        refine ep_putf' (fi := 18) (h2 := HC X cI cA (upd rI4 18 (nI (K.length + 1))) rA ol J) d_M_take_318 cl5 lf_M_120 (by decide) (Or.inl rfl) rfl rfl hI_16_18 ?_
        have hd5 : MD L S ct (upd rI4 18 (nI (K.length + 1))) rA (mK (mAv s 1) K) := hd4.pop eK rfl
        generalize upd rI4 18 (nI (K.length + 1)) = rI5 at hd5 ⊢
        refine ep_aload_n (j := 0) d_M_take_321 rfl rfl ?_
        refine ep_bipush (v := 8) d_M_take_322 (by decide) ?_
        refine ep_iconst (v := 0) d_M_take_324 (by decide) ?_
        refine ep_aload_n (j := 0) d_M_take_325 rfl rfl ?_
        refine ep_getf (fi := 20) (v := .ref 28) d_M_take_326 cl5 lf_M_43 (by decide) rfl rfl ?_
        refine ep_iload_n (j := 2) d_M_take_329 rfl rfl ?_
        refine ep_fO d_M_take_330 hf (by omega) ?_
        refine ep_iconst (v := (-1)) d_M_take_331 (by decide) ?_
        refine ep_aload_n (j := 0) d_M_take_332 rfl rfl ?_
        refine ep_getf (fi := 22) (v := .ref 30) d_M_take_333 cl5 lf_M_49 (by decide) rfl rfl ?_
        refine ep_iconst (v := 3) d_M_take_336 (by decide) ?_
        refine ep_iload_n (j := 2) d_M_take_337 rfl rfl ?_
        refine ep_imul d_M_take_338 ?_
        refine ep_cg (y := nI (3 * (K.length + 1))) (m3 _) ?_
        refine ep_fA d_M_take_339 hf (by omega) ?_
        refine ep_aload_n (j := 0) d_M_take_340 rfl rfl ?_
        refine ep_getf (fi := 22) (v := .ref 30) d_M_take_341 cl5 lf_M_49 (by decide) rfl rfl ?_
        refine ep_iconst (v := 3) d_M_take_344 (by decide) ?_
        refine ep_iload_n (j := 2) d_M_take_345 rfl rfl ?_
        refine ep_imul d_M_take_346 ?_
        refine ep_cg (y := nI (3 * (K.length + 1))) (m3 _) ?_
        refine ep_iconst (v := 1) d_M_take_347 (by decide) ?_
        refine ep_iadd d_M_take_348 ?_
        refine ep_cg (y := nI (3 * (K.length + 1) + 1)) (nI_1 _) ?_
        refine ep_fB d_M_take_349 hf (by omega) ?_
        refine ep_aload_n (j := 0) d_M_take_350 rfl rfl ?_
        refine ep_getf (fi := 22) (v := .ref 30) d_M_take_351 cl5 lf_M_49 (by decide) rfl rfl ?_
        refine ep_iconst (v := 3) d_M_take_354 (by decide) ?_
        refine ep_iload_n (j := 2) d_M_take_355 rfl rfl ?_
        refine ep_imul d_M_take_356 ?_
        refine ep_cg (y := nI (3 * (K.length + 1))) (m3 _) ?_
        refine ep_iconst (v := 2) d_M_take_357 (by decide) ?_
        refine ep_iadd d_M_take_358 ?_
        refine ep_cg (y := nI (3 * (K.length + 1) + 2)) (a2 _) ?_
        refine ep_fC d_M_take_359 hf (by omega) ?_
        refine ep_callVm (As := [.int 8, .int 0, .int f.o, .int (-1), .int f.a, .int f.b, .int f.c]) (st := []) d_M_take_360 lk_M_190 cal_M_make tm_M_make ts_M_make rfl rfl rfl (Nat.le_of_ble_eq_true rfl) (Nat.le_of_ble_eq_true rfl) rfl rfl (M_make hd5 (by show s.N.length ≤ 300; omega) 8 0 f.o (-1) f.a f.b f.c (fun hw => ⟨(hv hw).1, no_vo _, (hv hw).2⟩)) (fun rI6 rA6 hd6 => ?_)
        generalize hx : mMk 8 0 f.o (-1) f.a f.b f.c (mK (mAv s 1) K) = x at hd6
        have xE : x.2.E = s.E := by rw [← hx]; exact mMk_E _ _ _ _ _ _ _ _
        refine ep_istore (lv' := [(0, .ref 16), (1, .int n), (2, .int (nI (K.length + 1))), (3, .int 0), (4, .int x.1)]) [1, 2, 3, 4, 0] d_M_take_363 (by decide) rfl ?_
        refine ep_aload_n (j := 0) d_M_take_365 rfl rfl ?_
        refine ep_iload (j := 4) d_M_take_366 rfl ?_
        refine ep_callVm (As := [.int x.1]) (st := []) d_M_take_368 lk_M_211 cal_M_enter tm_M_enter ts_M_enter rfl rfl rfl (Nat.le_of_ble_eq_true rfl) (Nat.le_of_ble_eq_true rfl) rfl rfl (M_enter hd6 (by rw [xE]; omega) x.1) (fun rI7 rA7 hd7 => ?_)
        refine ep_iload (j := 4) d_M_take_371 rfl ?_
        exact ep_iret d_M_take_373 rfl rfl (MP_ok (by unfold mTk4; rw [if_pos ⟨bI_n c276, Or.inr (Int32.not_le.mp c289), c298⟩]; unfold eQ; rw [hx]) (by unfold mTk4; rw [if_pos ⟨bI_n c276, Or.inr (Int32.not_le.mp c289), c298⟩]; unfold eQ; rw [hx]) hd7)
set_option maxHeartbeats 4000000 in
set_option maxRecDepth 100000 in
theorem M_tk3 {f : FR} {K : List FR} (hd : MD L S ct rI rA s) (eK : s.K = f :: K) (hp : s.p ≤ 200) (hk : K.length + 1 ≤ 300) (hl : s.N.length ≤ 280) (he : s.E.length ≤ 300) (hv : s.wr = false → Vo s.N f.o ∧ Vo s.N f.a ∧ Vo s.N f.b ∧ Vo s.N f.c) {n : Int32} : EvP m_M_take (d + 5) 230 [(0, .ref 16), (1, .int n), (2, .int (nI (K.length + 1)))] [] (HC X cI cA rI rA ol J) (MPi X cI cA ol J L S ct (mTk3 L f K s)) := by
  have hf := (hd.top eK).1
  by_cases h0 : f.n = 0
  · by_cases h1 : pk L s = 118
    · refine ep_aload_n (j := 0) d_M_take_230 rfl rfl ?_
      refine ep_getf (fi := 21) (v := .ref 29) d_M_take_231 cl5 lf_M_46 (by decide) rfl rfl ?_
      refine ep_iload_n (j := 2) d_M_take_234 rfl rfl ?_
      refine ep_fN d_M_take_235 hf (by omega) ?_
      refine ep_if_ne (tgt := 252) d_M_take_236 (by decide) (fun z => absurd h0 z) (fun _ => ?_)
      refine ep_aload_n (j := 0) d_M_take_239 rfl rfl ?_
      refine ep_callVi (As := []) (st := []) d_M_take_240 lk_M_174 cal_M_peek tm_M_peek ts_M_peek rfl rfl rfl (Nat.le_of_ble_eq_true rfl) (Nat.le_of_ble_eq_true rfl) rfl rfl (M_peek hd (by omega)) ?_
      refine ep_bipush (v := 118) d_M_take_243 (by decide) ?_
      refine ep_icmp_ne (tgt := 252) d_M_take_245 (by decide) (fun z => absurd h1 z) (fun _ => ?_)
      refine ep_iconst (v := 1) d_M_take_248 (by decide) ?_
      refine ep_goto (tgt := 253) d_M_take_249 (by decide) ?_
      refine ep_istore_n (lv' := [(0, .ref 16), (1, .int n), (2, .int (nI (K.length + 1))), (3, .int 1)]) [1, 2, 3, 0] d_M_take_253 rfl (by decide) rfl ?_
      refine ep_aload_n (j := 0) d_M_take_254 rfl rfl ?_
      refine ep_dup d_M_take_255 rfl ?_
      refine ep_getf (fi := 23) (v := .int (nI s.p)) d_M_take_256 cl5 lf_M_168 (by decide) rfl (congrArg (fun z => some (Value.int z)) hd.p) ?_
      refine ep_iload_n (j := 3) d_M_take_259 rfl rfl ?_
      refine ep_if_eq (tgt := 267) d_M_take_260 (by decide) (fun z => absurd z (by decide)) (fun _ => ?_)
      refine ep_iconst (v := 1) d_M_take_263 (by decide) ?_
      refine ep_goto (tgt := 268) d_M_take_264 (by decide) ?_
      refine ep_iadd d_M_take_268 ?_
      refine ep_putf' (fi := 23) (h2 := HC X cI cA (upd rI 23 ((nI s.p) + 1)) rA ol J) d_M_take_269 cl5 lf_M_168 (by decide) (Or.inl rfl) rfl rfl hI_16_23 ?_
      have hd1 : MD L S ct (upd rI 23 ((nI s.p) + 1)) rA (mAv s 1) := hd.sp (q := (s.p + 1)) (nI_1 _)
      generalize upd rI 23 ((nI s.p) + 1) = rI1 at hd1 ⊢
      rw [show mTk3 L f K s = _ from if_pos ⟨h0, h1⟩]
      exact M_tk4t hd1 eK (by show s.p + 1 ≤ 300; omega) hk hl he hv
    · refine ep_aload_n (j := 0) d_M_take_230 rfl rfl ?_
      refine ep_getf (fi := 21) (v := .ref 29) d_M_take_231 cl5 lf_M_46 (by decide) rfl rfl ?_
      refine ep_iload_n (j := 2) d_M_take_234 rfl rfl ?_
      refine ep_fN d_M_take_235 hf (by omega) ?_
      refine ep_if_ne (tgt := 252) d_M_take_236 (by decide) (fun z => absurd h0 z) (fun _ => ?_)
      refine ep_aload_n (j := 0) d_M_take_239 rfl rfl ?_
      refine ep_callVi (As := []) (st := []) d_M_take_240 lk_M_174 cal_M_peek tm_M_peek ts_M_peek rfl rfl rfl (Nat.le_of_ble_eq_true rfl) (Nat.le_of_ble_eq_true rfl) rfl rfl (M_peek hd (by omega)) ?_
      refine ep_bipush (v := 118) d_M_take_243 (by decide) ?_
      refine ep_icmp_ne (tgt := 252) d_M_take_245 (by decide) (fun _ => ?_) (fun z => absurd z h1)
      refine ep_iconst (v := 0) d_M_take_252 (by decide) ?_
      refine ep_istore_n (lv' := [(0, .ref 16), (1, .int n), (2, .int (nI (K.length + 1))), (3, .int 0)]) [1, 2, 3, 0] d_M_take_253 rfl (by decide) rfl ?_
      refine ep_aload_n (j := 0) d_M_take_254 rfl rfl ?_
      refine ep_dup d_M_take_255 rfl ?_
      refine ep_getf (fi := 23) (v := .int (nI s.p)) d_M_take_256 cl5 lf_M_168 (by decide) rfl (congrArg (fun z => some (Value.int z)) hd.p) ?_
      refine ep_iload_n (j := 3) d_M_take_259 rfl rfl ?_
      refine ep_if_eq (tgt := 267) d_M_take_260 (by decide) (fun _ => ?_) (fun z => absurd (by decide) z)
      refine ep_iconst (v := 0) d_M_take_267 (by decide) ?_
      refine ep_iadd d_M_take_268 ?_
      refine ep_putf' (fi := 23) (h2 := HC X cI cA (upd rI 23 ((nI s.p) + 0)) rA ol J) d_M_take_269 cl5 lf_M_168 (by decide) (Or.inl rfl) rfl rfl hI_16_23 ?_
      have hd1 : MD L S ct (upd rI 23 ((nI s.p) + 0)) rA (s) := hd.sp (q := s.p) (Int32.add_zero _)
      generalize upd rI 23 ((nI s.p) + 0) = rI1 at hd1 ⊢
      rw [show mTk3 L f K s = _ from if_neg (fun u => h1 u.2)]
      exact M_tk4f hd1 eK (by omega) hk hl he hv
  · refine ep_aload_n (j := 0) d_M_take_230 rfl rfl ?_
    refine ep_getf (fi := 21) (v := .ref 29) d_M_take_231 cl5 lf_M_46 (by decide) rfl rfl ?_
    refine ep_iload_n (j := 2) d_M_take_234 rfl rfl ?_
    refine ep_fN d_M_take_235 hf (by omega) ?_
    refine ep_if_ne (tgt := 252) d_M_take_236 (by decide) (fun _ => ?_) (fun z => absurd z h0)
    refine ep_iconst (v := 0) d_M_take_252 (by decide) ?_
    refine ep_istore_n (lv' := [(0, .ref 16), (1, .int n), (2, .int (nI (K.length + 1))), (3, .int 0)]) [1, 2, 3, 0] d_M_take_253 rfl (by decide) rfl ?_
    refine ep_aload_n (j := 0) d_M_take_254 rfl rfl ?_
    refine ep_dup d_M_take_255 rfl ?_
    refine ep_getf (fi := 23) (v := .int (nI s.p)) d_M_take_256 cl5 lf_M_168 (by decide) rfl (congrArg (fun z => some (Value.int z)) hd.p) ?_
    refine ep_iload_n (j := 3) d_M_take_259 rfl rfl ?_
    refine ep_if_eq (tgt := 267) d_M_take_260 (by decide) (fun _ => ?_) (fun z => absurd (by decide) z)
    refine ep_iconst (v := 0) d_M_take_267 (by decide) ?_
    refine ep_iadd d_M_take_268 ?_
    refine ep_putf' (fi := 23) (h2 := HC X cI cA (upd rI 23 ((nI s.p) + 0)) rA ol J) d_M_take_269 cl5 lf_M_168 (by decide) (Or.inl rfl) rfl rfl hI_16_23 ?_
    have hd1 : MD L S ct (upd rI 23 ((nI s.p) + 0)) rA (s) := hd.sp (q := s.p) (Int32.add_zero _)
    generalize upd rI 23 ((nI s.p) + 0) = rI1 at hd1 ⊢
    rw [show mTk3 L f K s = _ from if_neg (fun u => h0 u.1)]
    exact M_tk4f hd1 eK (by omega) hk hl he hv
theorem set_inc {f : FR} {i : Nat} (hn : f.n = nI i) (hi : i < 3) (x : Int32) : (f.set x).inc = (FR.u_n (f.lst i x) (f.n + 1)) := by
  unfold FR.set FR.lst FR.inc
  rcases (show i = 0 ∨ i = 1 ∨ i = 2 by omega) with h | h | h <;> subst h <;> rw [hn]
  · rw [if_pos (by decide), if_pos rfl]; exact congrArg (fun z => FR.u_n (FR.u_a f x) (z + 1)) hn
  · rw [if_neg (by decide), if_pos (by decide), if_neg (by decide), if_pos rfl]; exact congrArg (fun z => FR.u_n (FR.u_b f x) (z + 1)) hn
  · rw [if_neg (by decide), if_neg (by decide), if_neg (by decide), if_neg (by decide)]; exact congrArg (fun z => FR.u_n (FR.u_c f x) (z + 1)) hn
set_option maxHeartbeats 4000000 in
set_option maxRecDepth 100000 in
theorem M_take_6n {f : FR} {K : List FR} (hd : MD L S ct rI rA s) (eK : s.K = f :: K) (hw : s.wr = false) (g : Gd L s) (n : Int32) (hV : Vd s.N n) (h7 : ¬ f.t = 7) (h4 : ¬ f.t = 4) (hn : f.n = -1) (hv : Vo s.N n ∧ Vo s.N f.a ∧ Vo s.N f.b ∧ Vo s.N f.c) : EvP m_M_take (d + 5) 0 [(0, .ref 16), (1, .int n)] [] (HC X cI cA rI rA ol J) (MPi X cI cA ol J L S ct (mTk2 L n f K s)) := by
  have hl := g.n
  have he := g.e
  have hk : K.length + 1 ≤ 200 := by have := g.k; rw [eK] at this; simpa using this
  have hp := g.p
  have hL := g.l
  have hf := (hd.top eK).1

  refine ep_aload_n (j := 0) d_M_take_0 rfl rfl ?_
  refine ep_getf (fi := 18) (v := .int (nI (K.length + 2))) d_M_take_1 cl5 lf_M_120 (by decide) rfl (congrArg (fun z => some (Value.int z)) (hd.top eK).2.2) ?_
  refine ep_iconst (v := 1) d_M_take_4 (by decide) ?_
  refine ep_isub d_M_take_5 ?_
  refine ep_cg (y := nI (K.length + 1)) (nI_pred _) ?_
  refine ep_istore_n (lv' := [(0, .ref 16), (1, .int n), (2, .int (nI (K.length + 1)))]) [1, 2, 0] d_M_take_6 rfl (by decide) rfl ?_
  refine ep_aload_n (j := 0) d_M_take_7 rfl rfl ?_
  refine ep_getf (fi := 19) (v := .ref 27) d_M_take_8 cl5 lf_M_40 (by decide) rfl rfl ?_
  refine ep_iload_n (j := 2) d_M_take_11 rfl rfl ?_
  refine ep_fT d_M_take_12 (hd.top eK).1 (by omega) ?_
  refine ep_bipush (v := 7) d_M_take_13 (by decide) ?_
  refine ep_icmp_ne (tgt := 110) d_M_take_15 (by decide) (fun _ => ?_) (fun z => absurd z h7)
  refine ep_aload_n (j := 0) d_M_take_110 rfl rfl ?_
  refine ep_getf (fi := 19) (v := .ref 27) d_M_take_111 cl5 lf_M_40 (by decide) rfl rfl ?_
  refine ep_iload_n (j := 2) d_M_take_114 rfl rfl ?_
  refine ep_fT d_M_take_115 (hd.top eK).1 (by omega) ?_
  refine ep_iconst (v := 4) d_M_take_116 (by decide) ?_
  refine ep_icmp_ne (tgt := 151) d_M_take_117 (by decide) (fun _ => ?_) (fun z => absurd z h4)
  refine ep_aload_n (j := 0) d_M_take_151 rfl rfl ?_
  refine ep_getf (fi := 21) (v := .ref 29) d_M_take_152 cl5 lf_M_46 (by decide) rfl rfl ?_
  refine ep_iload_n (j := 2) d_M_take_155 rfl rfl ?_
  refine ep_fN d_M_take_156 hf (by omega) ?_
  refine ep_if_ge (tgt := 170) d_M_take_157 (by decide) (fun z => absurd z (by rw [hn]; decide)) (fun _ => ?_)
  refine ep_aload_n (j := 0) d_M_take_160 rfl rfl ?_
  refine ep_getf (fi := 20) (v := .ref 28) d_M_take_161 cl5 lf_M_43 (by decide) rfl rfl ?_
  refine ep_iload_n (j := 2) d_M_take_164 rfl rfl ?_
  refine ep_iload_n (j := 1) d_M_take_165 rfl rfl ?_
  refine ep_iast' (h2 := HC X cI cA rI (va_up rA 20 (upd (rA 20) (K.length + 1) n)) ol J) (K.length + 1) d_M_take_166 rfl rfl (by omega) (by decide) hA_28 ?_
  have hd1 : MD L S ct rI (va_up rA 20 (upd (rA 20) (K.length + 1) n)) (mK s ((FR.u_o f n) :: K)) := hd.so eK
  generalize va_up rA 20 (upd (rA 20) (K.length + 1) n) = rA1 at hd1 ⊢
  refine ep_goto (tgt := 220) d_M_take_167 (by decide) ?_
  refine ep_aload_n (j := 0) d_M_take_220 rfl rfl ?_
  refine ep_getf (fi := 21) (v := .ref 29) d_M_take_221 cl5 lf_M_46 (by decide) rfl rfl ?_
  refine ep_iload_n (j := 2) d_M_take_224 rfl rfl ?_
  refine ep_dup2 d_M_take_225 rfl rfl ?_
  refine ep_fN (f := (FR.u_o f n)) d_M_take_226 (hd1.top rfl).1 (by omega) ?_
  refine ep_iconst (v := 1) d_M_take_227 (by decide) ?_
  refine ep_iadd d_M_take_228 ?_
  refine ep_iast' (h2 := HC X cI cA rI (va_up rA1 21 (upd (rA1 21) (K.length + 1) (f.n + 1))) ol J) (K.length + 1) d_M_take_229 rfl rfl (by omega) (by decide) hA_29 ?_
  have hd2 : MD L S ct rI (va_up rA1 21 (upd (rA1 21) (K.length + 1) (f.n + 1))) (mK (mK s ((FR.u_o f n) :: K)) ((FR.u_n (FR.u_o f n) (f.n + 1)) :: K)) := hd1.sn (f := (FR.u_o f n)) (K := K) rfl
  generalize va_up rA1 21 (upd (rA1 21) (K.length + 1) (f.n + 1)) = rA2 at hd2 ⊢
  rw [show mTk2 L n f K s = mTk3 L (FR.u_n (FR.u_o f n) (f.n + 1)) K (mK s ((FR.u_n (FR.u_o f n) (f.n + 1)) :: K)) from if_pos (by rw [hn]; decide)]
  exact M_tk3 (f := (FR.u_n (FR.u_o f n) (f.n + 1))) (K := K) hd2 rfl (by show s.p ≤ 200; omega) (by omega) (by show s.N.length ≤ 280; omega) (by show s.E.length ≤ 300; omega) (fun _ => hv)
set_option maxHeartbeats 4000000 in
set_option maxRecDepth 100000 in
theorem M_take_6p {f : FR} {K : List FR} (hd : MD L S ct rI rA s) (eK : s.K = f :: K) (hw : s.wr = false) (g : Gd L s) (n : Int32) (hV : Vd s.N n) (h7 : ¬ f.t = 7) (h4 : ¬ f.t = 4) {i : Nat} (hn : f.n = nI i) (hi3 : i < 3) (hv : Vo s.N (f.lst i n).o ∧ Vo s.N (f.lst i n).a ∧ Vo s.N (f.lst i n).b ∧ Vo s.N (f.lst i n).c) : EvP m_M_take (d + 5) 0 [(0, .ref 16), (1, .int n)] [] (HC X cI cA rI rA ol J) (MPi X cI cA ol J L S ct (mTk2 L n f K s)) := by
  have hl := g.n
  have he := g.e
  have hk : K.length + 1 ≤ 200 := by have := g.k; rw [eK] at this; simpa using this
  have hp := g.p
  have hL := g.l
  have hf := (hd.top eK).1

  refine ep_aload_n (j := 0) d_M_take_0 rfl rfl ?_
  refine ep_getf (fi := 18) (v := .int (nI (K.length + 2))) d_M_take_1 cl5 lf_M_120 (by decide) rfl (congrArg (fun z => some (Value.int z)) (hd.top eK).2.2) ?_
  refine ep_iconst (v := 1) d_M_take_4 (by decide) ?_
  refine ep_isub d_M_take_5 ?_
  refine ep_cg (y := nI (K.length + 1)) (nI_pred _) ?_
  refine ep_istore_n (lv' := [(0, .ref 16), (1, .int n), (2, .int (nI (K.length + 1)))]) [1, 2, 0] d_M_take_6 rfl (by decide) rfl ?_
  refine ep_aload_n (j := 0) d_M_take_7 rfl rfl ?_
  refine ep_getf (fi := 19) (v := .ref 27) d_M_take_8 cl5 lf_M_40 (by decide) rfl rfl ?_
  refine ep_iload_n (j := 2) d_M_take_11 rfl rfl ?_
  refine ep_fT d_M_take_12 (hd.top eK).1 (by omega) ?_
  refine ep_bipush (v := 7) d_M_take_13 (by decide) ?_
  refine ep_icmp_ne (tgt := 110) d_M_take_15 (by decide) (fun _ => ?_) (fun z => absurd z h7)
  refine ep_aload_n (j := 0) d_M_take_110 rfl rfl ?_
  refine ep_getf (fi := 19) (v := .ref 27) d_M_take_111 cl5 lf_M_40 (by decide) rfl rfl ?_
  refine ep_iload_n (j := 2) d_M_take_114 rfl rfl ?_
  refine ep_fT d_M_take_115 (hd.top eK).1 (by omega) ?_
  refine ep_iconst (v := 4) d_M_take_116 (by decide) ?_
  refine ep_icmp_ne (tgt := 151) d_M_take_117 (by decide) (fun _ => ?_) (fun z => absurd z h4)
  refine ep_aload_n (j := 0) d_M_take_151 rfl rfl ?_
  refine ep_getf (fi := 21) (v := .ref 29) d_M_take_152 cl5 lf_M_46 (by decide) rfl rfl ?_
  refine ep_iload_n (j := 2) d_M_take_155 rfl rfl ?_
  refine ep_fN d_M_take_156 hf (by omega) ?_
  refine ep_if_ge (tgt := 170) d_M_take_157 (by decide) (fun _ => ?_) (fun z => absurd (by rw [hn]; exact nI_pos' (by omega)) z)
  refine ep_aload_n (j := 0) d_M_take_170 rfl rfl ?_
  refine ep_join (pc2 := 201) (lv2 := [(0, .ref 16), (1, .int n), (2, .int (nI (K.length + 1)))]) (st2 := [.int (bI (s.wr || decide (cN s.N n 0 = 0 ∧ cN s.N n 1 = 0))), .ref 16]) ?_ (fun k201 => ?_)
  · refine ep_putf' (fi := 24) (h2 := HC X cI cA (upd rI 24 (bI (s.wr || decide (cN s.N n 0 = 0 ∧ cN s.N n 1 = 0)))) rA ol J) d_M_take_201 cl5 lf_M_171 (by decide) (Or.inl rfl) (bI_f _) rfl hI_16_24 ?_
    have hd1 : MD L S ct (upd rI 24 (bI (s.wr || decide (cN s.N n 0 = 0 ∧ cN s.N n 1 = 0)))) rA (mOr s (decide (cN s.N n 0 = 0 ∧ cN s.N n 1 = 0))) := hd.sw (q := (s.wr || decide (cN s.N n 0 = 0 ∧ cN s.N n 1 = 0))) rfl
    generalize upd rI 24 (bI (s.wr || decide (cN s.N n 0 = 0 ∧ cN s.N n 1 = 0))) = rI1 at hd1 ⊢
    refine ep_aload_n (j := 0) d_M_take_204 rfl rfl ?_
    refine ep_getf (fi := 22) (v := .ref 30) d_M_take_205 cl5 lf_M_49 (by decide) rfl rfl ?_
    refine ep_iconst (v := 3) d_M_take_208 (by decide) ?_
    refine ep_iload_n (j := 2) d_M_take_209 rfl rfl ?_
    refine ep_imul d_M_take_210 ?_
    refine ep_cg (y := nI (3 * (K.length + 1))) (m3 _) ?_
    refine ep_aload_n (j := 0) d_M_take_211 rfl rfl ?_
    refine ep_getf (fi := 21) (v := .ref 29) d_M_take_212 cl5 lf_M_46 (by decide) rfl rfl ?_
    refine ep_iload_n (j := 2) d_M_take_215 rfl rfl ?_
    refine ep_fN d_M_take_216 hf (by omega) ?_
    refine ep_iadd d_M_take_217 ?_
    refine ep_cg (y := nI (3 * (K.length + 1) + i)) (by rw [hn, nI_add]) ?_
    refine ep_iload_n (j := 1) d_M_take_218 rfl rfl ?_
    refine ep_iast' (h2 := HC X cI cA rI1 (va_up rA 22 (upd (rA 22) (3 * (K.length + 1) + i) n)) ol J) (3 * (K.length + 1) + i) d_M_take_219 rfl rfl (by omega) (by decide) hA_30 ?_
    have hd2 : MD L S ct rI1 (va_up rA 22 (upd (rA 22) (3 * (K.length + 1) + i) n)) (mK (mOr s (decide (cN s.N n 0 = 0 ∧ cN s.N n 1 = 0))) (f.lst i n :: K)) := hd1.sl' (show (mOr s (decide (cN s.N n 0 = 0 ∧ cN s.N n 1 = 0))).K = f :: K from eK) i hi3
    generalize va_up rA 22 (upd (rA 22) (3 * (K.length + 1) + i) n) = rA2 at hd2 ⊢
    refine ep_aload_n (j := 0) d_M_take_220 rfl rfl ?_
    refine ep_getf (fi := 21) (v := .ref 29) d_M_take_221 cl5 lf_M_46 (by decide) rfl rfl ?_
    refine ep_iload_n (j := 2) d_M_take_224 rfl rfl ?_
    refine ep_dup2 d_M_take_225 rfl rfl ?_
    refine ep_fN (f := f.lst i n) d_M_take_226 (hd2.top rfl).1 (by omega) ?_
    refine ep_iconst (v := 1) d_M_take_227 (by decide) ?_
    refine ep_iadd d_M_take_228 ?_
    refine ep_cg (y := f.n + 1) (by rw [lst_n]) ?_
    refine ep_iast' (h2 := HC X cI cA rI1 (va_up rA2 21 (upd (rA2 21) (K.length + 1) (f.n + 1))) ol J) (K.length + 1) d_M_take_229 rfl rfl (by omega) (by decide) hA_29 ?_
    have hd3 : MD L S ct rI1 (va_up rA2 21 (upd (rA2 21) (K.length + 1) (f.n + 1))) (mK (mK (mOr s (decide (cN s.N n 0 = 0 ∧ cN s.N n 1 = 0))) (f.lst i n :: K)) ((FR.u_n (f.lst i n) (f.n + 1)) :: K)) := hd2.sn (f := f.lst i n) (K := K) rfl
    generalize va_up rA2 21 (upd (rA2 21) (K.length + 1) (f.n + 1)) = rA3 at hd3 ⊢
    have eI := set_inc hn hi3 n
    rw [show mTk2 L n f K s = mTk3 L (f.set n).inc K (mK (mOr s (decide (cN s.N n 0 = 0 ∧ cN s.N n 1 = 0))) ((f.set n).inc :: K)) from if_neg (by rw [hn]; exact nI_pos (by omega)), eI]
    exact M_tk3 (f := (FR.u_n (f.lst i n) (f.n + 1))) (K := K) hd3 rfl (by show s.p ≤ 200; omega) (by omega) (by show s.N.length ≤ 280; omega) (by show s.E.length ≤ 300; omega) (fun _ => hv)
  · refine ep_aload_n (j := 0) d_M_take_171 rfl rfl ?_
    refine ep_getf (fi := 24) (v := .int (bI s.wr)) d_M_take_172 cl5 lf_M_171 (by decide) rfl (congrArg (fun z => some (Value.int z)) hd.w) ?_
    refine ep_if_ne (tgt := 196) d_M_take_175 (by decide) (fun c175 => ?_) (fun c175 => ?_)
    · refine ep_iconst (v := 1) d_M_take_196 (by decide) ?_
      refine ep_goto (tgt := 201) d_M_take_197 (by decide) ?_
      refine ep_cg (y := bI (s.wr || decide (cN s.N n 0 = 0 ∧ cN s.N n 1 = 0))) (bor1 c175) ?_
      exact k201
    · refine ep_aload_n (j := 0) d_M_take_178 rfl rfl ?_
      refine ep_getf (fi := 3) (v := .ref 17) d_M_take_179 cl5 lf_M_7 (by decide) rfl rfl ?_
      refine ep_iload_n (j := 1) d_M_take_182 rfl rfl ?_
      refine ep_kind (N := s.N) d_M_take_183 hd.n (by omega) hV ?_
      refine ep_if_ne (tgt := 200) d_M_take_184 (by decide) (fun c184 => ?_) (fun c184 => ?_)
      · refine ep_iconst (v := 0) d_M_take_200 (by decide) ?_
        refine ep_cg (y := bI (s.wr || decide (cN s.N n 0 = 0 ∧ cN s.N n 1 = 0))) (bor0 c175 (decide_eq_false (fun u => c184 u.1))) ?_
        exact k201
      · refine ep_aload_n (j := 0) d_M_take_187 rfl rfl ?_
        refine ep_getf (fi := 4) (v := .ref 18) d_M_take_188 cl5 lf_M_13 (by decide) rfl rfl ?_
        refine ep_iload_n (j := 1) d_M_take_191 rfl rfl ?_
        refine ep_val (N := s.N) d_M_take_192 hd.n (by omega) hV ?_
        refine ep_if_ne (tgt := 200) d_M_take_193 (by decide) (fun c193 => ?_) (fun c193 => ?_)
        · refine ep_iconst (v := 0) d_M_take_200 (by decide) ?_
          refine ep_cg (y := bI (s.wr || decide (cN s.N n 0 = 0 ∧ cN s.N n 1 = 0))) (bor0 c175 (decide_eq_false (fun u => c193 u.2))) ?_
          exact k201
        · refine ep_iconst (v := 1) d_M_take_196 (by decide) ?_
          refine ep_goto (tgt := 201) d_M_take_197 (by decide) ?_
          refine ep_cg (y := bI (s.wr || decide (cN s.N n 0 = 0 ∧ cN s.N n 1 = 0))) (bor2 c175 (decide_eq_true ⟨c184, c193⟩)) ?_
          exact k201
theorem lst_vo {N : List (List Int32)} {f : FR} {i : Nat} (hi : i < 3) {n : Int32} (hn : Vo N n) (h : Vo N f.o ∧ Vo N f.a ∧ Vo N f.b ∧ Vo N f.c) : Vo N (f.lst i n).o ∧ Vo N (f.lst i n).a ∧ Vo N (f.lst i n).b ∧ Vo N (f.lst i n).c := by
  unfold FR.lst
  rcases (show i = 0 ∨ i = 1 ∨ i = 2 by omega) with q | q | q <;> subst q
  · exact ⟨h.1, hn, h.2.2.1, h.2.2.2⟩
  · exact ⟨h.1, h.2.1, hn, h.2.2.2⟩
  · exact ⟨h.1, h.2.1, h.2.2.1, hn⟩
theorem M_take {f : FR} {K : List FR} (hd : MD L S ct rI rA s) (eK : s.K = f :: K) (hw : s.wr = false) (g : Gd L s) (n : Int32) (hV : Vd s.N n) (h8 : ¬ f.t = 8) : EvP m_M_take (d + 5) 0 [(0, .ref 16), (1, .int n)] [] (HC X cI cA rI rA ol J) (MPi X cI cA ol J L S ct (mTk L n s)) := by
  rw [mTk_c eK]
  rcases g.f f K eK with o | ⟨h4, ok, on, ov⟩ | ⟨h6, oo, on, ov⟩ | o
  · rw [if_pos o.1]; exact M_take_7 hd eK hw g n hV o.1
  · rw [if_neg (by rw [h4]; decide), if_pos h4]
    have vo : Vo s.N f.o := Or.inr (ok.elim (eq_vd (by have := g.n; omega) (by decide)) (eq_vd (by have := g.n; omega) (by decide)))
    obtain ⟨i, hi, e⟩ : ∃ i : Nat, i < 3 ∧ f.n = nI i := by
      rcases on with q | q | q
      · exact ⟨0, by omega, by rw [q]; decide⟩
      · exact ⟨1, by omega, by rw [q]; decide⟩
      · exact ⟨2, by omega, by rw [q]; decide⟩
    exact M_take_4 hd eK hw g n hV h4 e hi (lst_vo hi (Or.inr hV) ⟨vo, ov⟩)
  · rw [if_neg (by rw [h6]; decide), if_neg (by rw [h6]; decide)]
    rcases on with q | on
    · exact M_take_6n hd eK hw g n hV (by rw [h6]; decide) (by rw [h6]; decide) q ⟨Or.inr hV, ov⟩
    · obtain ⟨i, hi, e⟩ : ∃ i : Nat, i < 3 ∧ f.n = nI i := by
        rcases on with q | q | q
        · exact ⟨0, by omega, by rw [q]; decide⟩
        · exact ⟨1, by omega, by rw [q]; decide⟩
        · exact ⟨2, by omega, by rw [q]; decide⟩
      exact M_take_6p hd eK hw g n hV (by rw [h6]; decide) (by rw [h6]; decide) e hi (lst_vo hi (Or.inr hV) ⟨oo, ov⟩)
  · exact absurd o.1 h8
end MS8
