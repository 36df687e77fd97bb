/-! the reference: nextArgument; by program (wip/whole/gen46.py) -/
section MS4
variable {d : Nat} {X : Nat × (Nat → Int32)} {cI : Nat → Int32} {cA : Nat → Nat → Int32} {rI : Nat → Int32} {rA : Nat → Nat → Int32} {ol : Int64} {J : mH} {L S : List Int32} {ct : Nat} {s : MS}
theorem mNA2_c {f : FR} {K : List FR} (eK : s.K = f :: K) : mNA2 L s = if s.wr = false ∧ 0 < f.n ∧ pk L s = 69 then mFl f (mK (mAv s 1) K) else (-1, mOr s (decide (f.n = 3))) := by
  unfold mNA2
  rw [eK]
theorem put_eq {f : FR} {K : List FR} {i : Nat} (eK : s.K = f :: K) (hn : f.n = nI i) (hi : i < 3) (x : Int32) : mPut s x = mK (mK s (f.lst i x :: K)) ((FR.u_n (f.lst i x) (f.n + 1)) :: K) := by
  unfold mPut
  rw [eK]
  show (MS.u_K s ((f.set x).inc :: K)) = (MS.u_K s ((FR.u_n (f.lst i x) (f.n + 1)) :: K))
  have : (f.set x).inc = (FR.u_n (f.lst i x) (f.n + 1)) := by
    unfold FR.set FR.lst FR.inc
    rcases (show i = 0 ∨ i = 1 ∨ i = 2 by omega) with h | h | h <;> subst h <;> rw [hn]
    · rw [if_pos (by decide), if_pos rfl]; exact congrArg (fun z => FR.u_n (FR.u_a f x) (z + 1)) hn
    · rw [if_neg (by decide), if_pos (by decide), if_neg (by decide), if_pos rfl]; exact congrArg (fun z => FR.u_n (FR.u_b f x) (z + 1)) hn
    · rw [if_neg (by decide), if_neg (by decide), if_neg (by decide), if_neg (by decide)]; exact congrArg (fun z => FR.u_n (FR.u_c f x) (z + 1)) hn
  rw [this]
theorem lst_n (f : FR) (i : Nat) (x : Int32) : (f.lst i x).n = f.n := by unfold FR.lst; split; · rfl
                                                                         · split <;> rfl
theorem wr5 {B : Bool} (h : (mEx L 69 (mOr (mNum L 6 s).2 B)).wr = false) : s.wr = false := by
  cases hs : s.wr
  · rfl
  · have : (((s.wr || !nGd L 6 s) || B) || decide (¬ pk L (mOr (mNum L 6 s).2 B) = 69)) = false := h
    rw [hs] at this
    cases this
theorem ex_p {c : Int32} (hc : ¬ c = 0) (h : (mEx L c s).wr = false) : s.p + 1 ≤ L.length := by
  have h2 : (s.wr || decide (¬ pk L s = c)) = false := h
  have h3 := of_decide_eq_false (Bool.or_eq_false_iff.mp h2).2
  have h4 : pk L s = c := Classical.not_not.mp h3
  by_cases u : s.p < L.length
  · exact u
  · unfold pk at h4
    rw [List.getD_eq_getElem?_getD, List.getElem?_eq_none (by omega)] at h4
    exact absurd h4.symm hc
theorem mLit_t {q : IM} (hq : (mBi (bolF (pk L (mAv s 1))) (mWr (mAv (mAv s 1) 1) (decide (bolF (pk L (mAv s 1)) < 1)))) = q) (h : pk L q.2 = 110) : mLit L s = (mMk 9 (-(mNum L 6 (mAv q.2 1)).1) q.1 (-1) (-1) (-1) (-1) (mEx L 69 (mOr (mNum L 6 (mAv q.2 1)).2 (decide (true = true ∧ (mNum L 6 (mAv q.2 1)).1 = 0))))) := by
  unfold mLit mLit2
  rw [hq, if_pos h, decide_eq_true h]
  rfl
theorem mLit_f {q : IM} (hq : (mBi (bolF (pk L (mAv s 1))) (mWr (mAv (mAv s 1) 1) (decide (bolF (pk L (mAv s 1)) < 1)))) = q) (h : ¬ pk L q.2 = 110) : mLit L s = (mMk 9 ((mNum L 6 q.2).1) q.1 (-1) (-1) (-1) (-1) (mEx L 69 (mOr (mNum L 6 q.2).2 (decide (false = true ∧ (mNum L 6 q.2).1 = 0))))) := by
  unfold mLit mLit2
  rw [hq, if_neg h, decide_eq_false h]
  rfl
theorem mLit_x (L : List Int32) (s : MS) : ∃ (q : IM) (S3 : MS) (B : Bool) (v : Int32), (mBi (bolF (pk L (mAv s 1))) (mWr (mAv (mAv s 1) 1) (decide (bolF (pk L (mAv s 1)) < 1)))) = q ∧ S3.N = q.2.N ∧ S3.K = q.2.K ∧ S3.E = q.2.E ∧ S3.wr = q.2.wr ∧ mLit L s = mMk 9 v q.1 (-1) (-1) (-1) (-1) (mEx L 69 (mOr (mNum L 6 S3).2 B)) := by
  obtain ⟨q, hq⟩ : ∃ q, (mBi (bolF (pk L (mAv s 1))) (mWr (mAv (mAv s 1) 1) (decide (bolF (pk L (mAv s 1)) < 1)))) = q := ⟨_, rfl⟩
  by_cases h : pk L q.2 = 110
  · exact ⟨q, mAv q.2 1, _, _, hq, rfl, rfl, rfl, rfl, mLit_t hq h⟩
  · exact ⟨q, q.2, _, _, hq, rfl, rfl, rfl, rfl, mLit_f hq h⟩
theorem mLit_N : (mLit L s).2.N.length ≤ s.N.length + 2 := by
  obtain ⟨q, S3, B, v, hq, e1, e2, e3, e4, e⟩ := mLit_x L s
  rw [e]
  refine Nat.le_trans (mMk_N _ _ _ _ _ _ _ _) ?_
  show S3.N.length + 1 ≤ _
  rw [e1, ← hq]
  exact Nat.succ_le_succ (mMk_N _ _ _ _ _ _ _ _)
theorem mMk_w' {k v f g a b c : Int32} (h : (mMk k v f g a b c s).2.wr = false) : s.wr = false := by
  cases hs : s.wr
  · rfl
  · rw [mMk_w hs] at h; rw [hs] at h; cases h
theorem mLit_p (h : (mLit L s).2.wr = false) : (mLit L s).2.p ≤ L.length := by
  obtain ⟨q, S3, B, v, hq, e1, e2, e3, e4, e⟩ := mLit_x L s
  rw [e] at h ⊢
  rw [mMk_p]
  exact ex_p (by decide) (mMk_w' h)
theorem mLit_V (h : (mLit L s).2.wr = false) : Vd (mLit L s).2.N (mLit L s).1 := by
  obtain ⟨q, S3, B, v, hq, e1, e2, e3, e4, e⟩ := mLit_x L s
  rw [e] at h ⊢
  exact mMk_V _ _ _ _ _ _ _ _ h
theorem mLit_pre : s.N <+: (mLit L s).2.N := by
  obtain ⟨q, S3, B, v, hq, e1, e2, e3, e4, e⟩ := mLit_x L s
  rw [e]
  refine List.IsPrefix.trans ?_ (mMk_pre 9 _ _ _ _ _ _ _)
  show s.N <+: S3.N
  rw [e1, ← hq]
  have := mMk_pre 0 (bolF (pk L (mAv s 1))) (-1) (-1) (-1) (-1) (-1) (mWr (mAv (mAv s 1) 1) (decide (bolF (pk L (mAv s 1)) < 1)))
  exact this
theorem mLit_K : (mLit L s).2.K = s.K ∧ (mLit L s).2.E = s.E := by
  obtain ⟨q, S3, B, v, hq, e1, e2, e3, e4, e⟩ := mLit_x L s
  rw [e, mMk_K, mMk_E]
  show S3.K = s.K ∧ S3.E = s.E
  rw [e2, e3, ← hq]
  exact ⟨mMk_K 0 _ _ _ _ _ _ _, mMk_E 0 _ _ _ _ _ _ _⟩
set_option maxHeartbeats 4000000 in
set_option maxRecDepth 100000 in
theorem M_na_e {f : FR} {K : List FR} (hd : MD L S ct rI rA s) (eK : s.K = f :: K) (hp : s.wr = false → s.p ≤ 900) (hk : K.length ≤ 380) (hl : s.N.length ≤ 300) (he : s.E.length ≤ 310) (hv : (s.wr = false → Vo s.N f.o ∧ Vo s.N f.a ∧ Vo s.N f.b ∧ Vo s.N f.c)) : ∀ {lv : List (Nat × Value)}, (lv = [(0, .ref 16), (1, .int (nI (K.length + 1)))] ∨ ∃ y2 y3 y4 y5, lv = [(0, .ref 16), (1, .int (nI (K.length + 1))), (2, .int y2), (3, .int y3), (4, .int y4), (5, .int y5)]) → EvP m_M_nextArgument (d + 4) 208 lv [] (HC X cI cA rI rA ol J) (MPi X cI cA ol J L S ct (mNA2 L s)) := by
  intro lv hlv
  rcases hlv with rfl | ⟨y2, y3, y4, y5, rfl⟩
  · refine ep_aload_n (j := 0) d_M_nextArgument_208 rfl rfl ?_
    refine ep_getf (fi := 24) (v := .int (bI s.wr)) d_M_nextArgument_209 cl5 lf_M_171 (by decide) rfl (congrArg (fun z => some (Value.int z)) hd.w) ?_
    refine ep_if_ne (tgt := 259) d_M_nextArgument_212 (by decide) (fun c212 => ?_) (fun c212 => ?_)
    · refine ep_aload_n (j := 0) d_M_nextArgument_259 rfl rfl ?_
      refine ep_join (pc2 := 282) (lv2 := [(0, .ref 16), (1, .int (nI (K.length + 1)))]) (st2 := [.int (bI (s.wr || decide (f.n = 3))), .ref 16]) ?_ (fun k282 => ?_)
      · refine ep_putf' (fi := 24) (h2 := HC X cI cA (upd rI 24 (bI (s.wr || decide (f.n = 3)))) rA ol J) d_M_nextArgument_282 cl5 lf_M_171 (by decide) (Or.inl rfl) (bI_f _) rfl hI_16_24 ?_
        have hd1 : MD L S ct (upd rI 24 (bI (s.wr || decide (f.n = 3)))) rA (mOr s (decide (f.n = 3))) := hd.sw (q := (s.wr || decide (f.n = 3))) rfl
        generalize upd rI 24 (bI (s.wr || decide (f.n = 3))) = rI1 at hd1 ⊢
        refine ep_iconst (v := (-1)) d_M_nextArgument_285 (by decide) ?_
        exact ep_iret d_M_nextArgument_286 rfl rfl (MP_ok (by rw [mNA2_c eK, if_neg (fun u => by have := bI_t c212; rw [u.1] at this; cases this)]) (by rw [mNA2_c eK, if_neg (fun u => by have := bI_t c212; rw [u.1] at this; cases this)]) hd1)
      · refine ep_aload_n (j := 0) d_M_nextArgument_260 rfl rfl ?_
        refine ep_getf (fi := 24) (v := .int (bI s.wr)) d_M_nextArgument_261 cl5 lf_M_171 (by decide) rfl (congrArg (fun z => some (Value.int z)) hd.w) ?_
        refine ep_if_ne (tgt := 277) d_M_nextArgument_264 (by decide) (fun c264 => ?_) (fun c264 => ?_)
        · refine ep_iconst (v := 1) d_M_nextArgument_277 (by decide) ?_
          refine ep_goto (tgt := 282) d_M_nextArgument_278 (by decide) ?_
          refine ep_cg (y := bI (s.wr || decide (f.n = 3))) (bor1 c264) ?_
          exact k282
        · refine ep_aload_n (j := 0) d_M_nextArgument_267 rfl rfl ?_
          refine ep_getf (fi := 21) (v := .ref 29) d_M_nextArgument_268 cl5 lf_M_46 (by decide) rfl rfl ?_
          refine ep_iload_n (j := 1) d_M_nextArgument_271 rfl rfl ?_
          refine ep_fN d_M_nextArgument_272 (hd.top eK).1 (by omega) ?_
          refine ep_iconst (v := 3) d_M_nextArgument_273 (by decide) ?_
          refine ep_icmp_ne (tgt := 281) d_M_nextArgument_274 (by decide) (fun c274 => ?_) (fun c274 => ?_)
          · refine ep_iconst (v := 0) d_M_nextArgument_281 (by decide) ?_
            refine ep_cg (y := bI (s.wr || decide (f.n = 3))) (bor0 c264 (decide_eq_false c274)) ?_
            exact k282
          · refine ep_iconst (v := 1) d_M_nextArgument_277 (by decide) ?_
            refine ep_goto (tgt := 282) d_M_nextArgument_278 (by decide) ?_
            refine ep_cg (y := bI (s.wr || decide (f.n = 3))) (bor2 c264 (decide_eq_true c274)) ?_
            exact k282
    · refine ep_aload_n (j := 0) d_M_nextArgument_215 rfl rfl ?_
      refine ep_getf (fi := 21) (v := .ref 29) d_M_nextArgument_216 cl5 lf_M_46 (by decide) rfl rfl ?_
      refine ep_iload_n (j := 1) d_M_nextArgument_219 rfl rfl ?_
      refine ep_fN d_M_nextArgument_220 (hd.top eK).1 (by omega) ?_
      refine ep_if_le (tgt := 259) d_M_nextArgument_221 (by decide) (fun c221 => ?_) (fun c221 => ?_)
      · refine ep_aload_n (j := 0) d_M_nextArgument_259 rfl rfl ?_
        refine ep_join (pc2 := 282) (lv2 := [(0, .ref 16), (1, .int (nI (K.length + 1)))]) (st2 := [.int (bI (s.wr || decide (f.n = 3))), .ref 16]) ?_ (fun k282 => ?_)
        · refine ep_putf' (fi := 24) (h2 := HC X cI cA (upd rI 24 (bI (s.wr || decide (f.n = 3)))) rA ol J) d_M_nextArgument_282 cl5 lf_M_171 (by decide) (Or.inl rfl) (bI_f _) rfl hI_16_24 ?_
          have hd2 : MD L S ct (upd rI 24 (bI (s.wr || decide (f.n = 3)))) rA (mOr s (decide (f.n = 3))) := hd.sw (q := (s.wr || decide (f.n = 3))) rfl
          generalize upd rI 24 (bI (s.wr || decide (f.n = 3))) = rI2 at hd2 ⊢
          refine ep_iconst (v := (-1)) d_M_nextArgument_285 (by decide) ?_
          exact ep_iret d_M_nextArgument_286 rfl rfl (MP_ok (by rw [mNA2_c eK, if_neg (fun u => absurd u.2.1 (Int32.not_lt.mpr c221))]) (by rw [mNA2_c eK, if_neg (fun u => absurd u.2.1 (Int32.not_lt.mpr c221))]) hd2)
        · refine ep_aload_n (j := 0) d_M_nextArgument_260 rfl rfl ?_
          refine ep_getf (fi := 24) (v := .int (bI s.wr)) d_M_nextArgument_261 cl5 lf_M_171 (by decide) rfl (congrArg (fun z => some (Value.int z)) hd.w) ?_
          refine ep_if_ne (tgt := 277) d_M_nextArgument_264 (by decide) (fun c264 => ?_) (fun c264 => ?_)
          · refine ep_iconst (v := 1) d_M_nextArgument_277 (by decide) ?_
            refine ep_goto (tgt := 282) d_M_nextArgument_278 (by decide) ?_
            refine ep_cg (y := bI (s.wr || decide (f.n = 3))) (bor1 c264) ?_
            exact k282
          · refine ep_aload_n (j := 0) d_M_nextArgument_267 rfl rfl ?_
            refine ep_getf (fi := 21) (v := .ref 29) d_M_nextArgument_268 cl5 lf_M_46 (by decide) rfl rfl ?_
            refine ep_iload_n (j := 1) d_M_nextArgument_271 rfl rfl ?_
            refine ep_fN d_M_nextArgument_272 (hd.top eK).1 (by omega) ?_
            refine ep_iconst (v := 3) d_M_nextArgument_273 (by decide) ?_
            refine ep_icmp_ne (tgt := 281) d_M_nextArgument_274 (by decide) (fun c274 => ?_) (fun c274 => ?_)
            · refine ep_iconst (v := 0) d_M_nextArgument_281 (by decide) ?_
              refine ep_cg (y := bI (s.wr || decide (f.n = 3))) (bor0 c264 (decide_eq_false c274)) ?_
              exact k282
            · refine ep_iconst (v := 1) d_M_nextArgument_277 (by decide) ?_
              refine ep_goto (tgt := 282) d_M_nextArgument_278 (by decide) ?_
              refine ep_cg (y := bI (s.wr || decide (f.n = 3))) (bor2 c264 (decide_eq_true c274)) ?_
              exact k282
      · refine ep_aload_n (j := 0) d_M_nextArgument_224 rfl rfl ?_
        refine ep_callVi (As := []) (st := []) d_M_nextArgument_225 lk_M_174 cal_M_peek tm_M_peek ts_M_peek rfl rfl rfl (Nat.le_of_ble_eq_true rfl) (Nat.le_of_ble_eq_true rfl) rfl rfl (M_peek hd (by have := hp (bI_n c212); omega)) ?_
        refine ep_bipush (v := 69) d_M_nextArgument_228 (by decide) ?_
        refine ep_icmp_ne (tgt := 259) d_M_nextArgument_230 (by decide) (fun c230 => ?_) (fun c230 => ?_)
        · refine ep_aload_n (j := 0) d_M_nextArgument_259 rfl rfl ?_
          refine ep_join (pc2 := 282) (lv2 := [(0, .ref 16), (1, .int (nI (K.length + 1)))]) (st2 := [.int (bI (s.wr || decide (f.n = 3))), .ref 16]) ?_ (fun k282 => ?_)
          · refine ep_putf' (fi := 24) (h2 := HC X cI cA (upd rI 24 (bI (s.wr || decide (f.n = 3)))) rA ol J) d_M_nextArgument_282 cl5 lf_M_171 (by decide) (Or.inl rfl) (bI_f _) rfl hI_16_24 ?_
            have hd3 : MD L S ct (upd rI 24 (bI (s.wr || decide (f.n = 3)))) rA (mOr s (decide (f.n = 3))) := hd.sw (q := (s.wr || decide (f.n = 3))) rfl
            generalize upd rI 24 (bI (s.wr || decide (f.n = 3))) = rI3 at hd3 ⊢
            refine ep_iconst (v := (-1)) d_M_nextArgument_285 (by decide) ?_
            exact ep_iret d_M_nextArgument_286 rfl rfl (MP_ok (by rw [mNA2_c eK, if_neg (fun u => c230 u.2.2)]) (by rw [mNA2_c eK, if_neg (fun u => c230 u.2.2)]) hd3)
          · refine ep_aload_n (j := 0) d_M_nextArgument_260 rfl rfl ?_
            refine ep_getf (fi := 24) (v := .int (bI s.wr)) d_M_nextArgument_261 cl5 lf_M_171 (by decide) rfl (congrArg (fun z => some (Value.int z)) hd.w) ?_
            refine ep_if_ne (tgt := 277) d_M_nextArgument_264 (by decide) (fun c264 => ?_) (fun c264 => ?_)
            · refine ep_iconst (v := 1) d_M_nextArgument_277 (by decide) ?_
              refine ep_goto (tgt := 282) d_M_nextArgument_278 (by decide) ?_
              refine ep_cg (y := bI (s.wr || decide (f.n = 3))) (bor1 c264) ?_
              exact k282
            · refine ep_aload_n (j := 0) d_M_nextArgument_267 rfl rfl ?_
              refine ep_getf (fi := 21) (v := .ref 29) d_M_nextArgument_268 cl5 lf_M_46 (by decide) rfl rfl ?_
              refine ep_iload_n (j := 1) d_M_nextArgument_271 rfl rfl ?_
              refine ep_fN d_M_nextArgument_272 (hd.top eK).1 (by omega) ?_
              refine ep_iconst (v := 3) d_M_nextArgument_273 (by decide) ?_
              refine ep_icmp_ne (tgt := 281) d_M_nextArgument_274 (by decide) (fun c274 => ?_) (fun c274 => ?_)
              · refine ep_iconst (v := 0) d_M_nextArgument_281 (by decide) ?_
                refine ep_cg (y := bI (s.wr || decide (f.n = 3))) (bor0 c264 (decide_eq_false c274)) ?_
                exact k282
              · refine ep_iconst (v := 1) d_M_nextArgument_277 (by decide) ?_
                refine ep_goto (tgt := 282) d_M_nextArgument_278 (by decide) ?_
                refine ep_cg (y := bI (s.wr || decide (f.n = 3))) (bor2 c264 (decide_eq_true c274)) ?_
                exact k282
        · refine ep_aload_n (j := 0) d_M_nextArgument_233 rfl rfl ?_
          refine ep_dup d_M_nextArgument_234 rfl ?_
          refine ep_getf (fi := 23) (v := .int (nI s.p)) d_M_nextArgument_235 cl5 lf_M_168 (by decide) rfl (congrArg (fun z => some (Value.int z)) hd.p) ?_
          refine ep_iconst (v := 1) d_M_nextArgument_238 (by decide) ?_
          refine ep_iadd d_M_nextArgument_239 ?_
          refine ep_putf' (fi := 23) (h2 := HC X cI cA (upd rI 23 ((nI s.p) + 1)) rA ol J) d_M_nextArgument_240 cl5 lf_M_168 (by decide) (Or.inl rfl) rfl rfl hI_16_23 ?_
          have hd4 : MD L S ct (upd rI 23 ((nI s.p) + 1)) rA (mAv s 1) := hd.sp (q := (s.p + 1)) (nI_1 _)
          generalize upd rI 23 ((nI s.p) + 1) = rI4 at hd4 ⊢
          refine ep_aload_n (j := 0) d_M_nextArgument_243 rfl rfl ?_
          refine ep_dup d_M_nextArgument_244 rfl ?_
          refine ep_getf (fi := 18) (v := .int (nI (K.length + 2))) d_M_nextArgument_245 cl5 lf_M_120 (by decide) rfl (congrArg (fun z => some (Value.int z)) (hd4.top eK).2.2) ?_
          refine ep_iconst (v := 1) d_M_nextArgument_248 (by decide) ?_
          refine ep_isub d_M_nextArgument_249 ?_
          refine ep_cg (y := nI (K.length + 1)) (nI_pred _) ?_
          refine ep_putf' (fi := 18) (h2 := HC X cI cA (upd rI4 18 (nI (K.length + 1))) rA ol J) d_M_nextArgument_250 cl5 lf_M_120 (by decide) (Or.inl rfl) rfl rfl hI_16_18 ?_
          have hd5 : MD L S ct (upd rI4 18 (nI (K.length + 1))) rA (mK (mAv s 1) K) := hd4.pop eK rfl
          generalize upd rI4 18 (nI (K.length + 1)) = rI5 at hd5 ⊢
          refine ep_aload_n (j := 0) d_M_nextArgument_253 rfl rfl ?_
          refine ep_iload_n (j := 1) d_M_nextArgument_254 rfl rfl ?_
          refine ep_callVm (As := [.int (nI (K.length + 1))]) (st := []) d_M_nextArgument_255 lk_M_224 cal_M_filled tm_M_filled ts_M_filled rfl rfl rfl (Nat.le_of_ble_eq_true rfl) (Nat.le_of_ble_eq_true rfl) rfl rfl (M_filled (s := mK (mAv s 1) K) hd5 (hd.top eK).1 (by show K.length ≤ 390; omega) hl he (fun hw => ⟨(hv hw).1, no_vo _, (hv hw).2.1, (hv hw).2.2.1, (hv hw).2.2.2⟩)) (fun rI6 rA6 hd6 => ?_)
          exact ep_iret d_M_nextArgument_258 rfl rfl (MP_ok (by rw [mNA2_c eK, if_pos ⟨bI_n c212, Int32.not_le.mp c221, c230⟩]) (by rw [mNA2_c eK, if_pos ⟨bI_n c212, Int32.not_le.mp c221, c230⟩]) hd6)
  · refine ep_aload_n (j := 0) d_M_nextArgument_208 rfl rfl ?_
    refine ep_getf (fi := 24) (v := .int (bI s.wr)) d_M_nextArgument_209 cl5 lf_M_171 (by decide) rfl (congrArg (fun z => some (Value.int z)) hd.w) ?_
    refine ep_if_ne (tgt := 259) d_M_nextArgument_212 (by decide) (fun c212 => ?_) (fun c212 => ?_)
    · refine ep_aload_n (j := 0) d_M_nextArgument_259 rfl rfl ?_
      refine ep_join (pc2 := 282) (lv2 := [(0, .ref 16), (1, .int (nI (K.length + 1))), (2, .int y2), (3, .int y3), (4, .int y4), (5, .int y5)]) (st2 := [.int (bI (s.wr || decide (f.n = 3))), .ref 16]) ?_ (fun k282 => ?_)
      · refine ep_putf' (fi := 24) (h2 := HC X cI cA (upd rI 24 (bI (s.wr || decide (f.n = 3)))) rA ol J) d_M_nextArgument_282 cl5 lf_M_171 (by decide) (Or.inl rfl) (bI_f _) rfl hI_16_24 ?_
        have hd1 : MD L S ct (upd rI 24 (bI (s.wr || decide (f.n = 3)))) rA (mOr s (decide (f.n = 3))) := hd.sw (q := (s.wr || decide (f.n = 3))) rfl
        generalize upd rI 24 (bI (s.wr || decide (f.n = 3))) = rI1 at hd1 ⊢
        refine ep_iconst (v := (-1)) d_M_nextArgument_285 (by decide) ?_
        exact ep_iret d_M_nextArgument_286 rfl rfl (MP_ok (by rw [mNA2_c eK, if_neg (fun u => by have := bI_t c212; rw [u.1] at this; cases this)]) (by rw [mNA2_c eK, if_neg (fun u => by have := bI_t c212; rw [u.1] at this; cases this)]) hd1)
      · refine ep_aload_n (j := 0) d_M_nextArgument_260 rfl rfl ?_
        refine ep_getf (fi := 24) (v := .int (bI s.wr)) d_M_nextArgument_261 cl5 lf_M_171 (by decide) rfl (congrArg (fun z => some (Value.int z)) hd.w) ?_
        refine ep_if_ne (tgt := 277) d_M_nextArgument_264 (by decide) (fun c264 => ?_) (fun c264 => ?_)
        · refine ep_iconst (v := 1) d_M_nextArgument_277 (by decide) ?_
          refine ep_goto (tgt := 282) d_M_nextArgument_278 (by decide) ?_
          refine ep_cg (y := bI (s.wr || decide (f.n = 3))) (bor1 c264) ?_
          exact k282
        · refine ep_aload_n (j := 0) d_M_nextArgument_267 rfl rfl ?_
          refine ep_getf (fi := 21) (v := .ref 29) d_M_nextArgument_268 cl5 lf_M_46 (by decide) rfl rfl ?_
          refine ep_iload_n (j := 1) d_M_nextArgument_271 rfl rfl ?_
          refine ep_fN d_M_nextArgument_272 (hd.top eK).1 (by omega) ?_
          refine ep_iconst (v := 3) d_M_nextArgument_273 (by decide) ?_
          refine ep_icmp_ne (tgt := 281) d_M_nextArgument_274 (by decide) (fun c274 => ?_) (fun c274 => ?_)
          · refine ep_iconst (v := 0) d_M_nextArgument_281 (by decide) ?_
            refine ep_cg (y := bI (s.wr || decide (f.n = 3))) (bor0 c264 (decide_eq_false c274)) ?_
            exact k282
          · refine ep_iconst (v := 1) d_M_nextArgument_277 (by decide) ?_
            refine ep_goto (tgt := 282) d_M_nextArgument_278 (by decide) ?_
            refine ep_cg (y := bI (s.wr || decide (f.n = 3))) (bor2 c264 (decide_eq_true c274)) ?_
            exact k282
    · refine ep_aload_n (j := 0) d_M_nextArgument_215 rfl rfl ?_
      refine ep_getf (fi := 21) (v := .ref 29) d_M_nextArgument_216 cl5 lf_M_46 (by decide) rfl rfl ?_
      refine ep_iload_n (j := 1) d_M_nextArgument_219 rfl rfl ?_
      refine ep_fN d_M_nextArgument_220 (hd.top eK).1 (by omega) ?_
      refine ep_if_le (tgt := 259) d_M_nextArgument_221 (by decide) (fun c221 => ?_) (fun c221 => ?_)
      · refine ep_aload_n (j := 0) d_M_nextArgument_259 rfl rfl ?_
        refine ep_join (pc2 := 282) (lv2 := [(0, .ref 16), (1, .int (nI (K.length + 1))), (2, .int y2), (3, .int y3), (4, .int y4), (5, .int y5)]) (st2 := [.int (bI (s.wr || decide (f.n = 3))), .ref 16]) ?_ (fun k282 => ?_)
        · refine ep_putf' (fi := 24) (h2 := HC X cI cA (upd rI 24 (bI (s.wr || decide (f.n = 3)))) rA ol J) d_M_nextArgument_282 cl5 lf_M_171 (by decide) (Or.inl rfl) (bI_f _) rfl hI_16_24 ?_
          have hd2 : MD L S ct (upd rI 24 (bI (s.wr || decide (f.n = 3)))) rA (mOr s (decide (f.n = 3))) := hd.sw (q := (s.wr || decide (f.n = 3))) rfl
          generalize upd rI 24 (bI (s.wr || decide (f.n = 3))) = rI2 at hd2 ⊢
          refine ep_iconst (v := (-1)) d_M_nextArgument_285 (by decide) ?_
          exact ep_iret d_M_nextArgument_286 rfl rfl (MP_ok (by rw [mNA2_c eK, if_neg (fun u => absurd u.2.1 (Int32.not_lt.mpr c221))]) (by rw [mNA2_c eK, if_neg (fun u => absurd u.2.1 (Int32.not_lt.mpr c221))]) hd2)
        · refine ep_aload_n (j := 0) d_M_nextArgument_260 rfl rfl ?_
          refine ep_getf (fi := 24) (v := .int (bI s.wr)) d_M_nextArgument_261 cl5 lf_M_171 (by decide) rfl (congrArg (fun z => some (Value.int z)) hd.w) ?_
          refine ep_if_ne (tgt := 277) d_M_nextArgument_264 (by decide) (fun c264 => ?_) (fun c264 => ?_)
          · refine ep_iconst (v := 1) d_M_nextArgument_277 (by decide) ?_
            refine ep_goto (tgt := 282) d_M_nextArgument_278 (by decide) ?_
            refine ep_cg (y := bI (s.wr || decide (f.n = 3))) (bor1 c264) ?_
            exact k282
          · refine ep_aload_n (j := 0) d_M_nextArgument_267 rfl rfl ?_
            refine ep_getf (fi := 21) (v := .ref 29) d_M_nextArgument_268 cl5 lf_M_46 (by decide) rfl rfl ?_
            refine ep_iload_n (j := 1) d_M_nextArgument_271 rfl rfl ?_
            refine ep_fN d_M_nextArgument_272 (hd.top eK).1 (by omega) ?_
            refine ep_iconst (v := 3) d_M_nextArgument_273 (by decide) ?_
            refine ep_icmp_ne (tgt := 281) d_M_nextArgument_274 (by decide) (fun c274 => ?_) (fun c274 => ?_)
            · refine ep_iconst (v := 0) d_M_nextArgument_281 (by decide) ?_
              refine ep_cg (y := bI (s.wr || decide (f.n = 3))) (bor0 c264 (decide_eq_false c274)) ?_
              exact k282
            · refine ep_iconst (v := 1) d_M_nextArgument_277 (by decide) ?_
              refine ep_goto (tgt := 282) d_M_nextArgument_278 (by decide) ?_
              refine ep_cg (y := bI (s.wr || decide (f.n = 3))) (bor2 c264 (decide_eq_true c274)) ?_
              exact k282
      · refine ep_aload_n (j := 0) d_M_nextArgument_224 rfl rfl ?_
        refine ep_callVi (As := []) (st := []) d_M_nextArgument_225 lk_M_174 cal_M_peek tm_M_peek ts_M_peek rfl rfl rfl (Nat.le_of_ble_eq_true rfl) (Nat.le_of_ble_eq_true rfl) rfl rfl (M_peek hd (by have := hp (bI_n c212); omega)) ?_
        refine ep_bipush (v := 69) d_M_nextArgument_228 (by decide) ?_
        refine ep_icmp_ne (tgt := 259) d_M_nextArgument_230 (by decide) (fun c230 => ?_) (fun c230 => ?_)
        · refine ep_aload_n (j := 0) d_M_nextArgument_259 rfl rfl ?_
          refine ep_join (pc2 := 282) (lv2 := [(0, .ref 16), (1, .int (nI (K.length + 1))), (2, .int y2), (3, .int y3), (4, .int y4), (5, .int y5)]) (st2 := [.int (bI (s.wr || decide (f.n = 3))), .ref 16]) ?_ (fun k282 => ?_)
          · refine ep_putf' (fi := 24) (h2 := HC X cI cA (upd rI 24 (bI (s.wr || decide (f.n = 3)))) rA ol J) d_M_nextArgument_282 cl5 lf_M_171 (by decide) (Or.inl rfl) (bI_f _) rfl hI_16_24 ?_
            have hd3 : MD L S ct (upd rI 24 (bI (s.wr || decide (f.n = 3)))) rA (mOr s (decide (f.n = 3))) := hd.sw (q := (s.wr || decide (f.n = 3))) rfl
            generalize upd rI 24 (bI (s.wr || decide (f.n = 3))) = rI3 at hd3 ⊢
            refine ep_iconst (v := (-1)) d_M_nextArgument_285 (by decide) ?_
            exact ep_iret d_M_nextArgument_286 rfl rfl (MP_ok (by rw [mNA2_c eK, if_neg (fun u => c230 u.2.2)]) (by rw [mNA2_c eK, if_neg (fun u => c230 u.2.2)]) hd3)
          · refine ep_aload_n (j := 0) d_M_nextArgument_260 rfl rfl ?_
            refine ep_getf (fi := 24) (v := .int (bI s.wr)) d_M_nextArgument_261 cl5 lf_M_171 (by decide) rfl (congrArg (fun z => some (Value.int z)) hd.w) ?_
            refine ep_if_ne (tgt := 277) d_M_nextArgument_264 (by decide) (fun c264 => ?_) (fun c264 => ?_)
            · refine ep_iconst (v := 1) d_M_nextArgument_277 (by decide) ?_
              refine ep_goto (tgt := 282) d_M_nextArgument_278 (by decide) ?_
              refine ep_cg (y := bI (s.wr || decide (f.n = 3))) (bor1 c264) ?_
              exact k282
            · refine ep_aload_n (j := 0) d_M_nextArgument_267 rfl rfl ?_
              refine ep_getf (fi := 21) (v := .ref 29) d_M_nextArgument_268 cl5 lf_M_46 (by decide) rfl rfl ?_
              refine ep_iload_n (j := 1) d_M_nextArgument_271 rfl rfl ?_
              refine ep_fN d_M_nextArgument_272 (hd.top eK).1 (by omega) ?_
              refine ep_iconst (v := 3) d_M_nextArgument_273 (by decide) ?_
              refine ep_icmp_ne (tgt := 281) d_M_nextArgument_274 (by decide) (fun c274 => ?_) (fun c274 => ?_)
              · refine ep_iconst (v := 0) d_M_nextArgument_281 (by decide) ?_
                refine ep_cg (y := bI (s.wr || decide (f.n = 3))) (bor0 c264 (decide_eq_false c274)) ?_
                exact k282
              · refine ep_iconst (v := 1) d_M_nextArgument_277 (by decide) ?_
                refine ep_goto (tgt := 282) d_M_nextArgument_278 (by decide) ?_
                refine ep_cg (y := bI (s.wr || decide (f.n = 3))) (bor2 c264 (decide_eq_true c274)) ?_
                exact k282
        · refine ep_aload_n (j := 0) d_M_nextArgument_233 rfl rfl ?_
          refine ep_dup d_M_nextArgument_234 rfl ?_
          refine ep_getf (fi := 23) (v := .int (nI s.p)) d_M_nextArgument_235 cl5 lf_M_168 (by decide) rfl (congrArg (fun z => some (Value.int z)) hd.p) ?_
          refine ep_iconst (v := 1) d_M_nextArgument_238 (by decide) ?_
          refine ep_iadd d_M_nextArgument_239 ?_
          refine ep_putf' (fi := 23) (h2 := HC X cI cA (upd rI 23 ((nI s.p) + 1)) rA ol J) d_M_nextArgument_240 cl5 lf_M_168 (by decide) (Or.inl rfl) rfl rfl hI_16_23 ?_
          have hd4 : MD L S ct (upd rI 23 ((nI s.p) + 1)) rA (mAv s 1) := hd.sp (q := (s.p + 1)) (nI_1 _)
          generalize upd rI 23 ((nI s.p) + 1) = rI4 at hd4 ⊢
          refine ep_aload_n (j := 0) d_M_nextArgument_243 rfl rfl ?_
          refine ep_dup d_M_nextArgument_244 rfl ?_
          refine ep_getf (fi := 18) (v := .int (nI (K.length + 2))) d_M_nextArgument_245 cl5 lf_M_120 (by decide) rfl (congrArg (fun z => some (Value.int z)) (hd4.top eK).2.2) ?_
          refine ep_iconst (v := 1) d_M_nextArgument_248 (by decide) ?_
          refine ep_isub d_M_nextArgument_249 ?_
          refine ep_cg (y := nI (K.length + 1)) (nI_pred _) ?_
          refine ep_putf' (fi := 18) (h2 := HC X cI cA (upd rI4 18 (nI (K.length + 1))) rA ol J) d_M_nextArgument_250 cl5 lf_M_120 (by decide) (Or.inl rfl) rfl rfl hI_16_18 ?_
          have hd5 : MD L S ct (upd rI4 18 (nI (K.length + 1))) rA (mK (mAv s 1) K) := hd4.pop eK rfl
          generalize upd rI4 18 (nI (K.length + 1)) = rI5 at hd5 ⊢
          refine ep_aload_n (j := 0) d_M_nextArgument_253 rfl rfl ?_
          refine ep_iload_n (j := 1) d_M_nextArgument_254 rfl rfl ?_
          refine ep_callVm (As := [.int (nI (K.length + 1))]) (st := []) d_M_nextArgument_255 lk_M_224 cal_M_filled tm_M_filled ts_M_filled rfl rfl rfl (Nat.le_of_ble_eq_true rfl) (Nat.le_of_ble_eq_true rfl) rfl rfl (M_filled (s := mK (mAv s 1) K) hd5 (hd.top eK).1 (by show K.length ≤ 390; omega) hl he (fun hw => ⟨(hv hw).1, no_vo _, (hv hw).2.1, (hv hw).2.2.1, (hv hw).2.2.2⟩)) (fun rI6 rA6 hd6 => ?_)
          exact ep_iret d_M_nextArgument_258 rfl rfl (MP_ok (by rw [mNA2_c eK, if_pos ⟨bI_n c212, Int32.not_le.mp c221, c230⟩]) (by rw [mNA2_c eK, if_pos ⟨bI_n c212, Int32.not_le.mp c221, c230⟩]) hd6)
set_option maxHeartbeats 4000000 in
set_option maxRecDepth 100000 in
theorem M_na_l : ∀ (F i : Nat) (s : MS) (f : FR) {rI : Nat → Int32} {rA : Nat → Nat → Int32} {K : List FR}, f.n = nI i → i ≤ 3 → 4 ≤ i + F → MD L S ct rI rA s → s.K = f :: K → (s.wr = false → s.p ≤ 125) → K.length ≤ 380 → s.N.length + 2 * (3 - i) ≤ 290 → s.E.length ≤ 310 → (s.wr = false → Vo s.N f.o ∧ Vo s.N f.a ∧ Vo s.N f.b ∧ Vo s.N f.c) → ∀ {lv : List (Nat × Value)}, (lv = [(0, .ref 16), (1, .int (nI (K.length + 1)))] ∨ ∃ y2 y3 y4 y5, lv = [(0, .ref 16), (1, .int (nI (K.length + 1))), (2, .int y2), (3, .int y3), (4, .int y4), (5, .int y5)]) → EvP m_M_nextArgument (d + 4) 7 lv [] (HC X cI cA rI rA ol J) (MPi X cI cA ol J L S ct (mNA2 L (mArgs L F s))) := by
  intro F
  induction F with
  | zero => intro i s f rI rA K hn hi hF; omega
  | succ F ih =>
    intro i s f rI rA K hn hi hF hd eK hp hk hl he hv lv hlv
    rcases hlv with rfl | ⟨y2, y3, y4, y5, rfl⟩
    · refine ep_aload_n (j := 0) d_M_nextArgument_7 rfl rfl ?_
      refine ep_getf (fi := 24) (v := .int (bI s.wr)) d_M_nextArgument_8 cl5 lf_M_171 (by decide) rfl (congrArg (fun z => some (Value.int z)) hd.w) ?_
      refine ep_if_ne (tgt := 208) d_M_nextArgument_11 (by decide) (fun c11 => ?_) (fun c11 => ?_)
      · rw [show mArgs L (F + 1) s = s from if_neg (fun u => by have := bI_t c11; rw [u.1] at this; cases this)]
        exact M_na_e hd eK (fun hw => by have := hp hw; omega) hk (by omega) he hv (Or.inl rfl)
      · refine ep_aload_n (j := 0) d_M_nextArgument_14 rfl rfl ?_
        refine ep_getf (fi := 21) (v := .ref 29) d_M_nextArgument_15 cl5 lf_M_46 (by decide) rfl rfl ?_
        refine ep_iload_n (j := 1) d_M_nextArgument_18 rfl rfl ?_
        refine ep_fN d_M_nextArgument_19 (hd.top eK).1 (by omega) ?_
        refine ep_iconst (v := 3) d_M_nextArgument_20 (by decide) ?_
        refine ep_icmp_ge (tgt := 208) d_M_nextArgument_21 (by decide) (fun c21 => ?_) (fun c21 => ?_)
        · rw [show mArgs L (F + 1) s = s from if_neg (fun u => by have h := u.2.1; unfold tN at h; rw [eK] at h; exact absurd h (Int32.not_lt.mpr c21))]
          exact M_na_e hd eK (fun hw => by have := hp hw; omega) hk (by omega) he hv (Or.inl rfl)
        · refine ep_aload_n (j := 0) d_M_nextArgument_24 rfl rfl ?_
          refine ep_callVi (As := []) (st := []) d_M_nextArgument_25 lk_M_174 cal_M_peek tm_M_peek ts_M_peek rfl rfl rfl (Nat.le_of_ble_eq_true rfl) (Nat.le_of_ble_eq_true rfl) rfl rfl (M_peek hd (by have := hp (bI_n c11); omega)) ?_
          refine ep_bipush (v := 76) d_M_nextArgument_28 (by decide) ?_
          refine ep_icmp_ne (tgt := 208) d_M_nextArgument_30 (by decide) (fun c30 => ?_) (fun c30 => ?_)
          · rw [show mArgs L (F + 1) s = s from if_neg (fun u => c30 u.2.2)]
            exact M_na_e hd eK (fun hw => by have := hp hw; omega) hk (by omega) he hv (Or.inl rfl)
          · have hi3 : i < 3 := by rw [hn, show (3 : Int32) = nI 3 from by decide, nI_leI (by omega) (by omega)] at c21; omega
            refine ep_aload_n (j := 0) d_M_nextArgument_33 rfl rfl ?_
            refine ep_dup d_M_nextArgument_34 rfl ?_
            refine ep_getf (fi := 23) (v := .int (nI s.p)) d_M_nextArgument_35 cl5 lf_M_168 (by decide) rfl (congrArg (fun z => some (Value.int z)) hd.p) ?_
            refine ep_iconst (v := 1) d_M_nextArgument_38 (by decide) ?_
            refine ep_iadd d_M_nextArgument_39 ?_
            refine ep_putf' (fi := 23) (h2 := HC X cI cA (upd rI 23 ((nI s.p) + 1)) rA ol J) d_M_nextArgument_40 cl5 lf_M_168 (by decide) (Or.inl rfl) rfl rfl hI_16_23 ?_
            have hd1 : MD L S ct (upd rI 23 ((nI s.p) + 1)) rA (mAv s 1) := hd.sp (q := (s.p + 1)) (nI_1 _)
            generalize upd rI 23 ((nI s.p) + 1) = rI1 at hd1 ⊢
            refine ep_aload_n (j := 0) d_M_nextArgument_43 rfl rfl ?_
            refine ep_callVi (As := []) (st := []) d_M_nextArgument_44 lk_M_174 cal_M_peek tm_M_peek ts_M_peek rfl rfl rfl (Nat.le_of_ble_eq_true rfl) (Nat.le_of_ble_eq_true rfl) rfl rfl (M_peek hd1 (by show s.p + 1 ≤ 1000; have := hp (bI_n c11); omega)) ?_
            refine ep_callSi (As := [.int (pk L (mAv s 1))]) (st := []) d_M_nextArgument_47 (Or.inl lk_M_193) cal_M_builtinOf tm_M_builtinOf ti_M rfl (Nat.le_of_ble_eq_true rfl) (Nat.le_of_ble_eq_true rfl) rfl rfl (M_builtinOf (pk L (mAv s 1))) ?_
            refine ep_istore_n (lv' := [(0, .ref 16), (1, .int (nI (K.length + 1))), (2, .int (bolF (pk L (mAv s 1))))]) [1, 2, 0] d_M_nextArgument_50 rfl (by decide) rfl ?_
            refine ep_aload_n (j := 0) d_M_nextArgument_51 rfl rfl ?_
            refine ep_dup d_M_nextArgument_52 rfl ?_
            refine ep_getf (fi := 23) (v := .int (nI (mAv s 1).p)) d_M_nextArgument_53 cl5 lf_M_168 (by decide) rfl (congrArg (fun z => some (Value.int z)) hd1.p) ?_
            refine ep_iconst (v := 1) d_M_nextArgument_56 (by decide) ?_
            refine ep_iadd d_M_nextArgument_57 ?_
            refine ep_putf' (fi := 23) (h2 := HC X cI cA (upd rI1 23 ((nI (mAv s 1).p) + 1)) rA ol J) d_M_nextArgument_58 cl5 lf_M_168 (by decide) (Or.inl rfl) rfl rfl hI_16_23 ?_
            have hd2 : MD L S ct (upd rI1 23 ((nI (mAv s 1).p) + 1)) rA (mAv (mAv s 1) 1) := hd1.sp (q := ((mAv s 1).p + 1)) (nI_1 _)
            generalize upd rI1 23 ((nI (mAv s 1).p) + 1) = rI2 at hd2 ⊢
            refine ep_aload_n (j := 0) d_M_nextArgument_61 rfl rfl ?_
            refine ep_join (pc2 := 72) (lv2 := [(0, .ref 16), (1, .int (nI (K.length + 1))), (2, .int (bolF (pk L (mAv s 1))))]) (st2 := [.int (bI (decide (bolF (pk L (mAv s 1)) < 1))), .ref 16]) ?_ (fun k72 => ?_)
            · refine ep_putf' (fi := 24) (h2 := HC X cI cA (upd rI2 24 (bI (decide (bolF (pk L (mAv s 1)) < 1)))) rA ol J) d_M_nextArgument_72 cl5 lf_M_171 (by decide) (Or.inl rfl) (bI_f _) rfl hI_16_24 ?_
              have hd3 : MD L S ct (upd rI2 24 (bI (decide (bolF (pk L (mAv s 1)) < 1)))) rA (mWr (mAv (mAv s 1) 1) (decide (bolF (pk L (mAv s 1)) < 1))) := hd2.sw (q := (decide (bolF (pk L (mAv s 1)) < 1))) rfl
              generalize upd rI2 24 (bI (decide (bolF (pk L (mAv s 1)) < 1))) = rI3 at hd3 ⊢
              refine ep_aload_n (j := 0) d_M_nextArgument_75 rfl rfl ?_
              refine ep_iload_n (j := 2) d_M_nextArgument_76 rfl rfl ?_
              refine ep_callVm (As := [.int (bolF (pk L (mAv s 1)))]) (st := []) d_M_nextArgument_77 lk_M_196 cal_M_makeBuiltin tm_M_makeBuiltin ts_M_makeBuiltin rfl rfl rfl (Nat.le_of_ble_eq_true rfl) (Nat.le_of_ble_eq_true rfl) rfl rfl (M_makeBuiltin hd3 (by show s.N.length ≤ 300; omega) (bolF (pk L (mAv s 1)))) (fun rI4 rA4 hd4 => ?_)
              generalize hq : mBi (bolF (pk L (mAv s 1))) (mWr (mAv (mAv s 1) 1) (decide (bolF (pk L (mAv s 1)) < 1))) = q at hd4 ⊢
              have hqK : q.2.K = f :: K := by rw [← hq]; exact (mMk_K _ _ _ _ _ _ _ _).trans eK
              have hqp : q.2.p = s.p + 1 + 1 := by rw [← hq]; exact mMk_p _ _ _ _ _ _ _ _
              have hqN : q.2.N.length ≤ s.N.length + 1 := by rw [← hq]; exact mMk_N _ _ _ _ _ _ _ _
              have hqV : q.2.wr = false → Vd q.2.N q.1 := by rw [← hq]; exact mMk_V _ _ _ _ _ _ _ _
              refine ep_istore_n (lv' := [(0, .ref 16), (1, .int (nI (K.length + 1))), (2, .int (bolF (pk L (mAv s 1)))), (3, .int q.1)]) [1, 2, 3, 0] d_M_nextArgument_80 rfl (by decide) rfl ?_
              refine ep_aload_n (j := 0) d_M_nextArgument_81 rfl rfl ?_
              refine ep_callVi (As := []) (st := []) d_M_nextArgument_82 lk_M_174 cal_M_peek tm_M_peek ts_M_peek rfl rfl rfl (Nat.le_of_ble_eq_true rfl) (Nat.le_of_ble_eq_true rfl) rfl rfl (M_peek hd4 (by have := hp (bI_n c11); omega)) ?_
              refine ep_bipush (v := 110) d_M_nextArgument_85 (by decide) ?_
              refine ep_icmp_ne (tgt := 94) d_M_nextArgument_87 (by decide) (fun c87 => ?_) (fun c87 => ?_)
              · refine ep_iconst (v := 0) d_M_nextArgument_94 (by decide) ?_
                refine ep_istore (lv' := [(0, .ref 16), (1, .int (nI (K.length + 1))), (2, .int (bolF (pk L (mAv s 1)))), (3, .int q.1), (4, .int 0)]) [1, 2, 3, 4, 0] d_M_nextArgument_95 (by decide) rfl ?_
                refine ep_aload_n (j := 0) d_M_nextArgument_97 rfl rfl ?_
                refine ep_dup d_M_nextArgument_98 rfl ?_
                refine ep_getf (fi := 23) (v := .int (nI q.2.p)) d_M_nextArgument_99 cl5 lf_M_168 (by decide) rfl (congrArg (fun z => some (Value.int z)) hd4.p) ?_
                refine ep_iload (j := 4) d_M_nextArgument_102 rfl ?_
                refine ep_if_eq (tgt := 111) d_M_nextArgument_104 (by decide) (fun _ => ?_) (fun z => absurd (by decide) z)
                refine ep_iconst (v := 0) d_M_nextArgument_111 (by decide) ?_
                refine ep_iadd d_M_nextArgument_112 ?_
                refine ep_putf' (fi := 23) (h2 := HC X cI cA (upd rI4 23 ((nI q.2.p) + 0)) rA4 ol J) d_M_nextArgument_113 cl5 lf_M_168 (by decide) (Or.inl rfl) rfl rfl hI_16_23 ?_
                have hd5 : MD L S ct (upd rI4 23 ((nI q.2.p) + 0)) rA4 (q.2) := hd4.sp (q := q.2.p) (Int32.add_zero _)
                generalize upd rI4 23 ((nI q.2.p) + 0) = rI5 at hd5 ⊢
                refine ep_aload_n (j := 0) d_M_nextArgument_116 rfl rfl ?_
                refine ep_bipush (v := 6) d_M_nextArgument_117 (by decide) ?_
                refine ep_cg (y := nI 6) (by decide) ?_
                refine ep_callVm (As := [.int (nI 6)]) (st := []) d_M_nextArgument_119 lk_M_181 cal_M_readNumber tm_M_readNumber ts_M_readNumber rfl rfl rfl (Nat.le_of_ble_eq_true rfl) (Nat.le_of_ble_eq_true rfl) rfl rfl (M_readNumber (m := 6) (by decide) hd5 (by have := hp (bI_n c11); omega)) (fun rI6 rA6 hd6 => ?_)
                refine ep_istore (lv' := [(0, .ref 16), (1, .int (nI (K.length + 1))), (2, .int (bolF (pk L (mAv s 1)))), (3, .int q.1), (4, .int 0), (5, .int ((mNum L 6 q.2).1))]) [1, 2, 3, 4, 5, 0] d_M_nextArgument_122 (by decide) rfl ?_
                refine ep_aload_n (j := 0) d_M_nextArgument_124 rfl rfl ?_
                refine ep_join (pc2 := 147) (lv2 := [(0, .ref 16), (1, .int (nI (K.length + 1))), (2, .int (bolF (pk L (mAv s 1)))), (3, .int q.1), (4, .int 0), (5, .int ((mNum L 6 q.2).1))]) (st2 := [.int (bI ((mNum L 6 q.2).2.wr || decide (false = true ∧ (mNum L 6 q.2).1 = 0))), .ref 16]) ?_ (fun k147 => ?_)
                · refine ep_putf' (fi := 24) (h2 := HC X cI cA (upd rI6 24 (bI ((mNum L 6 q.2).2.wr || decide (false = true ∧ (mNum L 6 q.2).1 = 0)))) rA6 ol J) d_M_nextArgument_147 cl5 lf_M_171 (by decide) (Or.inl rfl) (bI_f _) rfl hI_16_24 ?_
                  have hd7 : MD L S ct (upd rI6 24 (bI ((mNum L 6 q.2).2.wr || decide (false = true ∧ (mNum L 6 q.2).1 = 0)))) rA6 (mOr (mNum L 6 q.2).2 (decide (false = true ∧ (mNum L 6 q.2).1 = 0))) := hd6.sw (q := ((mNum L 6 q.2).2.wr || decide (false = true ∧ (mNum L 6 q.2).1 = 0))) rfl
                  generalize upd rI6 24 (bI ((mNum L 6 q.2).2.wr || decide (false = true ∧ (mNum L 6 q.2).1 = 0))) = rI7 at hd7 ⊢
                  refine ep_aload_n (j := 0) d_M_nextArgument_150 rfl rfl ?_
                  refine ep_bipush (v := 69) d_M_nextArgument_151 (by decide) ?_
                  refine ep_callVm (As := [.int 69]) (st := []) d_M_nextArgument_153 lk_M_184 cal_M_expect tm_M_expect ts_M_expect rfl rfl rfl (Nat.le_of_ble_eq_true rfl) (Nat.le_of_ble_eq_true rfl) rfl rfl (M_expect hd7 (by show q.2.p + (dgs L 10 q.2.p).length ≤ 1000; have h7 := dgs_len L 10 q.2.p; have h9 := hp (bI_n c11); have h6 := hd.l1; have h5 : q.2.p ≤ s.p + 3 := (by omega); omega) 69) (fun rI8 rA8 hd8 => ?_)
                  refine ep_aload_n (j := 0) d_M_nextArgument_156 rfl rfl ?_
                  refine ep_getf (fi := 22) (v := .ref 30) d_M_nextArgument_157 cl5 lf_M_49 (by decide) rfl rfl ?_
                  refine ep_iconst (v := 3) d_M_nextArgument_160 (by decide) ?_
                  refine ep_iload_n (j := 1) d_M_nextArgument_161 rfl rfl ?_
                  refine ep_imul d_M_nextArgument_162 ?_
                  refine ep_cg (y := nI (3 * (K.length + 1))) (m3 _) ?_
                  refine ep_aload_n (j := 0) d_M_nextArgument_163 rfl rfl ?_
                  refine ep_getf (fi := 21) (v := .ref 29) d_M_nextArgument_164 cl5 lf_M_46 (by decide) rfl rfl ?_
                  refine ep_iload_n (j := 1) d_M_nextArgument_167 rfl rfl ?_
                  refine ep_fN d_M_nextArgument_168 (hd8.top (show _ = f :: K from hqK)).1 (by omega) ?_
                  refine ep_iadd d_M_nextArgument_169 ?_
                  refine ep_cg (y := nI (3 * (K.length + 1) + i)) (by rw [hn, nI_add]) ?_
                  refine ep_aload_n (j := 0) d_M_nextArgument_170 rfl rfl ?_
                  refine ep_bipush (v := 9) d_M_nextArgument_171 (by decide) ?_
                  refine ep_iload (j := 4) d_M_nextArgument_173 rfl ?_
                  refine ep_if_eq (tgt := 184) d_M_nextArgument_175 (by decide) (fun _ => ?_) (fun z => absurd (by decide) z)
                  refine ep_iload (j := 5) d_M_nextArgument_184 rfl ?_
                  refine ep_iload_n (j := 3) d_M_nextArgument_186 rfl rfl ?_
                  refine ep_iconst (v := (-1)) d_M_nextArgument_187 (by decide) ?_
                  refine ep_iconst (v := (-1)) d_M_nextArgument_188 (by decide) ?_
                  refine ep_iconst (v := (-1)) d_M_nextArgument_189 (by decide) ?_
                  refine ep_iconst (v := (-1)) d_M_nextArgument_190 (by decide) ?_
                  refine ep_callVm (As := [.int 9, .int ((mNum L 6 q.2).1), .int q.1, .int (-1), .int (-1), .int (-1), .int (-1)]) (st := [.int (nI (3 * (K.length + 1) + i)), .ref 30]) d_M_nextArgument_191 lk_M_190 cal_M_make tm_M_make ts_M_make rfl rfl rfl (Nat.le_of_ble_eq_true rfl) (Nat.le_of_ble_eq_true rfl) rfl rfl (M_make hd8 (by show q.2.N.length ≤ 300; omega) 9 ((mNum L 6 q.2).1) q.1 (-1) (-1) (-1) (-1) (fun hw => ⟨Or.inr (hqV (wr5 (s := q.2) hw)), no_vo _, no_vo _, no_vo _, no_vo _⟩)) (fun rI9 rA9 hd9 => ?_)
                  generalize hx : mMk 9 ((mNum L 6 q.2).1) q.1 (-1) (-1) (-1) (-1) (mEx L 69 (mOr (mNum L 6 q.2).2 (decide (false = true ∧ (mNum L 6 q.2).1 = 0)))) = x at hd9 ⊢
                  have hxK : x.2.K = f :: K := by rw [← hx]; exact (mMk_K _ _ _ _ _ _ _ _).trans hqK
                  refine ep_iast' (h2 := HC X cI cA rI9 (va_up rA9 22 (upd (rA9 22) (3 * (K.length + 1) + i) x.1)) ol J) (3 * (K.length + 1) + i) d_M_nextArgument_194 rfl rfl (by omega) (by decide) hA_30 ?_
                  have hd10 : MD L S ct rI9 (va_up rA9 22 (upd (rA9 22) (3 * (K.length + 1) + i) x.1)) (mK x.2 (f.lst i x.1 :: K)) := hd9.sl' hxK i (by omega)
                  generalize va_up rA9 22 (upd (rA9 22) (3 * (K.length + 1) + i) x.1) = rA10 at hd10 ⊢
                  refine ep_aload_n (j := 0) d_M_nextArgument_195 rfl rfl ?_
                  refine ep_getf (fi := 21) (v := .ref 29) d_M_nextArgument_196 cl5 lf_M_46 (by decide) rfl rfl ?_
                  refine ep_iload_n (j := 1) d_M_nextArgument_199 rfl rfl ?_
                  refine ep_dup2 d_M_nextArgument_200 rfl rfl ?_
                  refine ep_fN (f := f.lst i x.1) d_M_nextArgument_201 (hd10.top rfl).1 (by omega) ?_
                  refine ep_iconst (v := 1) d_M_nextArgument_202 (by decide) ?_
                  refine ep_iadd d_M_nextArgument_203 ?_
                  refine ep_cg (y := f.n + 1) (by rw [lst_n]) ?_
                  refine ep_iast' (h2 := HC X cI cA rI9 (va_up rA10 21 (upd (rA10 21) (K.length + 1) (f.n + 1))) ol J) (K.length + 1) d_M_nextArgument_204 rfl rfl (by omega) (by decide) hA_29 ?_
                  have hd11 : MD L S ct rI9 (va_up rA10 21 (upd (rA10 21) (K.length + 1) (f.n + 1))) (mK (mK x.2 (f.lst i x.1 :: K)) ((FR.u_n (f.lst i x.1) (f.n + 1)) :: K)) := hd10.sn (f := f.lst i x.1) (K := K) rfl
                  generalize va_up rA10 21 (upd (rA10 21) (K.length + 1) (f.n + 1)) = rA11 at hd11 ⊢
                  refine ep_goto (tgt := 7) d_M_nextArgument_205 (by decide) ?_
                  have eL := (mLit_f hq c87).trans hx
                  have eP : mPut (mLit L s).2 (mLit L s).1 = mK (mK x.2 (f.lst i x.1 :: K)) ((FR.u_n (f.lst i x.1) (f.n + 1)) :: K) := by rw [eL]; exact put_eq hxK hn hi3 _
                  rw [← eP] at hd11
                  have eA : mArgs L (F + 1) s = mArgs L F (mPut (mLit L s).2 (mLit L s).1) := if_pos ⟨bI_n c11, by unfold tN; rw [eK]; exact Int32.not_le.mp c21, c30⟩
                  rw [eA]
                  have eK' : (mPut (mLit L s).2 (mLit L s).1).K = (FR.u_n (f.lst i (mLit L s).1) (f.n + 1)) :: K := by rw [put_eq (mLit_K.1.trans eK) hn hi3]; rfl
                  have eN' : (mPut (mLit L s).2 (mLit L s).1).N = (mLit L s).2.N ∧ (mPut (mLit L s).2 (mLit L s).1).p = (mLit L s).2.p ∧ (mPut (mLit L s).2 (mLit L s).1).E = (mLit L s).2.E := by rw [put_eq (mLit_K.1.trans eK) hn hi3]; exact ⟨rfl, rfl, rfl⟩
                  refine ih (i + 1) _ _ (by show f.n + 1 = nI (i + 1); rw [hn, nI_1]) (by omega) (by omega) hd11 eK' (fun hw => ?_) hk ?_ ?_ (fun hw => ?_) (Or.inr ⟨_, _, _, _, rfl⟩)
                  · rw [mPut_wr] at hw
                    rw [eN'.2.1]
                    have := mLit_p hw
                    have := hd.l1
                    omega
                  · rw [eN'.1]
                    have := mLit_N (L := L) (s := s)
                    omega
                  · rw [eN'.2.2, mLit_K.2]; exact he
                  · rw [mPut_wr] at hw
                    rw [eN'.1]
                    obtain ⟨v1, v2, v3, v4⟩ := hv (bI_n c11)
                    have e1 := mLit_pre (L := L) (s := s)
                    have vx : Vo (mLit L s).2.N (mLit L s).1 := Or.inr (mLit_V hw)
                    refine ⟨?_, ?_, ?_, ?_⟩
                    · have : (f.lst i (mLit L s).1).o = f.o := by unfold FR.lst; split; · rfl
                                                                  · split <;> rfl
                      show Vo _ (f.lst i (mLit L s).1).o
                      rw [this]; exact v1.ext e1
                    all_goals
                      unfold FR.lst
                      rcases (show i = 0 ∨ i = 1 ∨ i = 2 by omega) with h | h | h <;> subst h <;> first | exact vx | exact v2.ext e1 | exact v3.ext e1 | exact v4.ext e1
                · refine ep_aload_n (j := 0) d_M_nextArgument_125 rfl rfl ?_
                  refine ep_getf (fi := 24) (v := .int (bI ((mNum L 6 q.2).2).wr)) d_M_nextArgument_126 cl5 lf_M_171 (by decide) rfl (congrArg (fun z => some (Value.int z)) hd6.w) ?_
                  refine ep_if_ne (tgt := 142) d_M_nextArgument_129 (by decide) (fun c129 => ?_) (fun c129 => ?_)
                  · refine ep_iconst (v := 1) d_M_nextArgument_142 (by decide) ?_
                    refine ep_goto (tgt := 147) d_M_nextArgument_143 (by decide) ?_
                    refine ep_cg (y := bI ((mNum L 6 q.2).2.wr || decide (false = true ∧ (mNum L 6 q.2).1 = 0))) (bor1 c129) ?_
                    exact k147
                  · refine ep_iload (j := 4) d_M_nextArgument_132 rfl ?_
                    refine ep_if_eq (tgt := 146) d_M_nextArgument_134 (by decide) (fun _ => ?_) (fun z => absurd (by decide) z)
                    refine ep_iconst (v := 0) d_M_nextArgument_146 (by decide) ?_
                    refine ep_cg (y := bI ((mNum L 6 q.2).2.wr || decide (false = true ∧ (mNum L 6 q.2).1 = 0))) (bor0 c129 (decide_eq_false (fun u => by cases u.1))) ?_
                    exact k147
              · refine ep_iconst (v := 1) d_M_nextArgument_90 (by decide) ?_
                refine ep_goto (tgt := 95) d_M_nextArgument_91 (by decide) ?_
                refine ep_istore (lv' := [(0, .ref 16), (1, .int (nI (K.length + 1))), (2, .int (bolF (pk L (mAv s 1)))), (3, .int q.1), (4, .int 1)]) [1, 2, 3, 4, 0] d_M_nextArgument_95 (by decide) rfl ?_
                refine ep_aload_n (j := 0) d_M_nextArgument_97 rfl rfl ?_
                refine ep_dup d_M_nextArgument_98 rfl ?_
                refine ep_getf (fi := 23) (v := .int (nI q.2.p)) d_M_nextArgument_99 cl5 lf_M_168 (by decide) rfl (congrArg (fun z => some (Value.int z)) hd4.p) ?_
                refine ep_iload (j := 4) d_M_nextArgument_102 rfl ?_
                refine ep_if_eq (tgt := 111) d_M_nextArgument_104 (by decide) (fun z => absurd z (by decide)) (fun _ => ?_)
                refine ep_iconst (v := 1) d_M_nextArgument_107 (by decide) ?_
                refine ep_goto (tgt := 112) d_M_nextArgument_108 (by decide) ?_
                refine ep_iadd d_M_nextArgument_112 ?_
                refine ep_putf' (fi := 23) (h2 := HC X cI cA (upd rI4 23 ((nI q.2.p) + 1)) rA4 ol J) d_M_nextArgument_113 cl5 lf_M_168 (by decide) (Or.inl rfl) rfl rfl hI_16_23 ?_
                have hd12 : MD L S ct (upd rI4 23 ((nI q.2.p) + 1)) rA4 (mAv q.2 1) := hd4.sp (q := (q.2.p + 1)) (nI_1 _)
                generalize upd rI4 23 ((nI q.2.p) + 1) = rI12 at hd12 ⊢
                refine ep_aload_n (j := 0) d_M_nextArgument_116 rfl rfl ?_
                refine ep_bipush (v := 6) d_M_nextArgument_117 (by decide) ?_
                refine ep_cg (y := nI 6) (by decide) ?_
                refine ep_callVm (As := [.int (nI 6)]) (st := []) d_M_nextArgument_119 lk_M_181 cal_M_readNumber tm_M_readNumber ts_M_readNumber rfl rfl rfl (Nat.le_of_ble_eq_true rfl) (Nat.le_of_ble_eq_true rfl) rfl rfl (M_readNumber (m := 6) (by decide) hd12 (by show q.2.p + 1 ≤ 400; have := hp (bI_n c11); omega)) (fun rI13 rA13 hd13 => ?_)
                refine ep_istore (lv' := [(0, .ref 16), (1, .int (nI (K.length + 1))), (2, .int (bolF (pk L (mAv s 1)))), (3, .int q.1), (4, .int 1), (5, .int ((mNum L 6 (mAv q.2 1)).1))]) [1, 2, 3, 4, 5, 0] d_M_nextArgument_122 (by decide) rfl ?_
                refine ep_aload_n (j := 0) d_M_nextArgument_124 rfl rfl ?_
                refine ep_join (pc2 := 147) (lv2 := [(0, .ref 16), (1, .int (nI (K.length + 1))), (2, .int (bolF (pk L (mAv s 1)))), (3, .int q.1), (4, .int 1), (5, .int ((mNum L 6 (mAv q.2 1)).1))]) (st2 := [.int (bI ((mNum L 6 (mAv q.2 1)).2.wr || decide (true = true ∧ (mNum L 6 (mAv q.2 1)).1 = 0))), .ref 16]) ?_ (fun k147 => ?_)
                · refine ep_putf' (fi := 24) (h2 := HC X cI cA (upd rI13 24 (bI ((mNum L 6 (mAv q.2 1)).2.wr || decide (true = true ∧ (mNum L 6 (mAv q.2 1)).1 = 0)))) rA13 ol J) d_M_nextArgument_147 cl5 lf_M_171 (by decide) (Or.inl rfl) (bI_f _) rfl hI_16_24 ?_
                  have hd14 : MD L S ct (upd rI13 24 (bI ((mNum L 6 (mAv q.2 1)).2.wr || decide (true = true ∧ (mNum L 6 (mAv q.2 1)).1 = 0)))) rA13 (mOr (mNum L 6 (mAv q.2 1)).2 (decide (true = true ∧ (mNum L 6 (mAv q.2 1)).1 = 0))) := hd13.sw (q := ((mNum L 6 (mAv q.2 1)).2.wr || decide (true = true ∧ (mNum L 6 (mAv q.2 1)).1 = 0))) rfl
                  generalize upd rI13 24 (bI ((mNum L 6 (mAv q.2 1)).2.wr || decide (true = true ∧ (mNum L 6 (mAv q.2 1)).1 = 0))) = rI14 at hd14 ⊢
                  refine ep_aload_n (j := 0) d_M_nextArgument_150 rfl rfl ?_
                  refine ep_bipush (v := 69) d_M_nextArgument_151 (by decide) ?_
                  refine ep_callVm (As := [.int 69]) (st := []) d_M_nextArgument_153 lk_M_184 cal_M_expect tm_M_expect ts_M_expect rfl rfl rfl (Nat.le_of_ble_eq_true rfl) (Nat.le_of_ble_eq_true rfl) rfl rfl (M_expect hd14 (by show (mAv q.2 1).p + (dgs L 10 (mAv q.2 1).p).length ≤ 1000; have h7 := dgs_len L 10 (mAv q.2 1).p; have h9 := hp (bI_n c11); have h6 := hd.l1; have h5 : (mAv q.2 1).p ≤ s.p + 3 := (by show q.2.p + 1 ≤ s.p + 3; omega); omega) 69) (fun rI15 rA15 hd15 => ?_)
                  refine ep_aload_n (j := 0) d_M_nextArgument_156 rfl rfl ?_
                  refine ep_getf (fi := 22) (v := .ref 30) d_M_nextArgument_157 cl5 lf_M_49 (by decide) rfl rfl ?_
                  refine ep_iconst (v := 3) d_M_nextArgument_160 (by decide) ?_
                  refine ep_iload_n (j := 1) d_M_nextArgument_161 rfl rfl ?_
                  refine ep_imul d_M_nextArgument_162 ?_
                  refine ep_cg (y := nI (3 * (K.length + 1))) (m3 _) ?_
                  refine ep_aload_n (j := 0) d_M_nextArgument_163 rfl rfl ?_
                  refine ep_getf (fi := 21) (v := .ref 29) d_M_nextArgument_164 cl5 lf_M_46 (by decide) rfl rfl ?_
                  refine ep_iload_n (j := 1) d_M_nextArgument_167 rfl rfl ?_
                  refine ep_fN d_M_nextArgument_168 (hd15.top (show _ = f :: K from hqK)).1 (by omega) ?_
                  refine ep_iadd d_M_nextArgument_169 ?_
                  refine ep_cg (y := nI (3 * (K.length + 1) + i)) (by rw [hn, nI_add]) ?_
                  refine ep_aload_n (j := 0) d_M_nextArgument_170 rfl rfl ?_
                  refine ep_bipush (v := 9) d_M_nextArgument_171 (by decide) ?_
                  refine ep_iload (j := 4) d_M_nextArgument_173 rfl ?_
                  refine ep_if_eq (tgt := 184) d_M_nextArgument_175 (by decide) (fun z => absurd z (by decide)) (fun _ => ?_)
                  refine ep_iload (j := 5) d_M_nextArgument_178 rfl ?_
                  refine ep_ineg d_M_nextArgument_180 ?_
                  refine ep_goto (tgt := 186) d_M_nextArgument_181 (by decide) ?_
                  refine ep_iload_n (j := 3) d_M_nextArgument_186 rfl rfl ?_
                  refine ep_iconst (v := (-1)) d_M_nextArgument_187 (by decide) ?_
                  refine ep_iconst (v := (-1)) d_M_nextArgument_188 (by decide) ?_
                  refine ep_iconst (v := (-1)) d_M_nextArgument_189 (by decide) ?_
                  refine ep_iconst (v := (-1)) d_M_nextArgument_190 (by decide) ?_
                  refine ep_callVm (As := [.int 9, .int (-((mNum L 6 (mAv q.2 1)).1)), .int q.1, .int (-1), .int (-1), .int (-1), .int (-1)]) (st := [.int (nI (3 * (K.length + 1) + i)), .ref 30]) d_M_nextArgument_191 lk_M_190 cal_M_make tm_M_make ts_M_make rfl rfl rfl (Nat.le_of_ble_eq_true rfl) (Nat.le_of_ble_eq_true rfl) rfl rfl (M_make hd15 (by show q.2.N.length ≤ 300; omega) 9 (-((mNum L 6 (mAv q.2 1)).1)) q.1 (-1) (-1) (-1) (-1) (fun hw => ⟨Or.inr (hqV (wr5 (s := (mAv q.2 1)) hw)), no_vo _, no_vo _, no_vo _, no_vo _⟩)) (fun rI16 rA16 hd16 => ?_)
                  generalize hx : mMk 9 (-(mNum L 6 (mAv q.2 1)).1) q.1 (-1) (-1) (-1) (-1) (mEx L 69 (mOr (mNum L 6 (mAv q.2 1)).2 (decide (true = true ∧ (mNum L 6 (mAv q.2 1)).1 = 0)))) = x at hd16 ⊢
                  have hxK : x.2.K = f :: K := by rw [← hx]; exact (mMk_K _ _ _ _ _ _ _ _).trans hqK
                  refine ep_iast' (h2 := HC X cI cA rI16 (va_up rA16 22 (upd (rA16 22) (3 * (K.length + 1) + i) x.1)) ol J) (3 * (K.length + 1) + i) d_M_nextArgument_194 rfl rfl (by omega) (by decide) hA_30 ?_
                  have hd17 : MD L S ct rI16 (va_up rA16 22 (upd (rA16 22) (3 * (K.length + 1) + i) x.1)) (mK x.2 (f.lst i x.1 :: K)) := hd16.sl' hxK i (by omega)
                  generalize va_up rA16 22 (upd (rA16 22) (3 * (K.length + 1) + i) x.1) = rA17 at hd17 ⊢
                  refine ep_aload_n (j := 0) d_M_nextArgument_195 rfl rfl ?_
                  refine ep_getf (fi := 21) (v := .ref 29) d_M_nextArgument_196 cl5 lf_M_46 (by decide) rfl rfl ?_
                  refine ep_iload_n (j := 1) d_M_nextArgument_199 rfl rfl ?_
                  refine ep_dup2 d_M_nextArgument_200 rfl rfl ?_
                  refine ep_fN (f := f.lst i x.1) d_M_nextArgument_201 (hd17.top rfl).1 (by omega) ?_
                  refine ep_iconst (v := 1) d_M_nextArgument_202 (by decide) ?_
                  refine ep_iadd d_M_nextArgument_203 ?_
                  refine ep_cg (y := f.n + 1) (by rw [lst_n]) ?_
                  refine ep_iast' (h2 := HC X cI cA rI16 (va_up rA17 21 (upd (rA17 21) (K.length + 1) (f.n + 1))) ol J) (K.length + 1) d_M_nextArgument_204 rfl rfl (by omega) (by decide) hA_29 ?_
                  have hd18 : MD L S ct rI16 (va_up rA17 21 (upd (rA17 21) (K.length + 1) (f.n + 1))) (mK (mK x.2 (f.lst i x.1 :: K)) ((FR.u_n (f.lst i x.1) (f.n + 1)) :: K)) := hd17.sn (f := f.lst i x.1) (K := K) rfl
                  generalize va_up rA17 21 (upd (rA17 21) (K.length + 1) (f.n + 1)) = rA18 at hd18 ⊢
                  refine ep_goto (tgt := 7) d_M_nextArgument_205 (by decide) ?_
                  have eL := (mLit_t hq c87).trans hx
                  have eP : mPut (mLit L s).2 (mLit L s).1 = mK (mK x.2 (f.lst i x.1 :: K)) ((FR.u_n (f.lst i x.1) (f.n + 1)) :: K) := by rw [eL]; exact put_eq hxK hn hi3 _
                  rw [← eP] at hd18
                  have eA : mArgs L (F + 1) s = mArgs L F (mPut (mLit L s).2 (mLit L s).1) := if_pos ⟨bI_n c11, by unfold tN; rw [eK]; exact Int32.not_le.mp c21, c30⟩
                  rw [eA]
                  have eK' : (mPut (mLit L s).2 (mLit L s).1).K = (FR.u_n (f.lst i (mLit L s).1) (f.n + 1)) :: K := by rw [put_eq (mLit_K.1.trans eK) hn hi3]; rfl
                  have eN' : (mPut (mLit L s).2 (mLit L s).1).N = (mLit L s).2.N ∧ (mPut (mLit L s).2 (mLit L s).1).p = (mLit L s).2.p ∧ (mPut (mLit L s).2 (mLit L s).1).E = (mLit L s).2.E := by rw [put_eq (mLit_K.1.trans eK) hn hi3]; exact ⟨rfl, rfl, rfl⟩
                  refine ih (i + 1) _ _ (by show f.n + 1 = nI (i + 1); rw [hn, nI_1]) (by omega) (by omega) hd18 eK' (fun hw => ?_) hk ?_ ?_ (fun hw => ?_) (Or.inr ⟨_, _, _, _, rfl⟩)
                  · rw [mPut_wr] at hw
                    rw [eN'.2.1]
                    have := mLit_p hw
                    have := hd.l1
                    omega
                  · rw [eN'.1]
                    have := mLit_N (L := L) (s := s)
                    omega
                  · rw [eN'.2.2, mLit_K.2]; exact he
                  · rw [mPut_wr] at hw
                    rw [eN'.1]
                    obtain ⟨v1, v2, v3, v4⟩ := hv (bI_n c11)
                    have e1 := mLit_pre (L := L) (s := s)
                    have vx : Vo (mLit L s).2.N (mLit L s).1 := Or.inr (mLit_V hw)
                    refine ⟨?_, ?_, ?_, ?_⟩
                    · have : (f.lst i (mLit L s).1).o = f.o := by unfold FR.lst; split; · rfl
                                                                  · split <;> rfl
                      show Vo _ (f.lst i (mLit L s).1).o
                      rw [this]; exact v1.ext e1
                    all_goals
                      unfold FR.lst
                      rcases (show i = 0 ∨ i = 1 ∨ i = 2 by omega) with h | h | h <;> subst h <;> first | exact vx | exact v2.ext e1 | exact v3.ext e1 | exact v4.ext e1
                · refine ep_aload_n (j := 0) d_M_nextArgument_125 rfl rfl ?_
                  refine ep_getf (fi := 24) (v := .int (bI ((mNum L 6 (mAv q.2 1)).2).wr)) d_M_nextArgument_126 cl5 lf_M_171 (by decide) rfl (congrArg (fun z => some (Value.int z)) hd13.w) ?_
                  refine ep_if_ne (tgt := 142) d_M_nextArgument_129 (by decide) (fun c129 => ?_) (fun c129 => ?_)
                  · refine ep_iconst (v := 1) d_M_nextArgument_142 (by decide) ?_
                    refine ep_goto (tgt := 147) d_M_nextArgument_143 (by decide) ?_
                    refine ep_cg (y := bI ((mNum L 6 (mAv q.2 1)).2.wr || decide (true = true ∧ (mNum L 6 (mAv q.2 1)).1 = 0))) (bor1 c129) ?_
                    exact k147
                  · refine ep_iload (j := 4) d_M_nextArgument_132 rfl ?_
                    refine ep_if_eq (tgt := 146) d_M_nextArgument_134 (by decide) (fun z => absurd z (by decide)) (fun _ => ?_)
                    refine ep_iload (j := 5) d_M_nextArgument_137 rfl ?_
                    refine ep_if_ne (tgt := 146) d_M_nextArgument_139 (by decide) (fun c139 => ?_) (fun c139 => ?_)
                    · refine ep_iconst (v := 0) d_M_nextArgument_146 (by decide) ?_
                      refine ep_cg (y := bI ((mNum L 6 (mAv q.2 1)).2.wr || decide (true = true ∧ (mNum L 6 (mAv q.2 1)).1 = 0))) (bor0 c129 (decide_eq_false (fun u => c139 u.2))) ?_
                      exact k147
                    · refine ep_iconst (v := 1) d_M_nextArgument_142 (by decide) ?_
                      refine ep_goto (tgt := 147) d_M_nextArgument_143 (by decide) ?_
                      refine ep_cg (y := bI ((mNum L 6 (mAv q.2 1)).2.wr || decide (true = true ∧ (mNum L 6 (mAv q.2 1)).1 = 0))) (bor2 c129 (decide_eq_true ⟨rfl, c139⟩)) ?_
                      exact k147
            · refine ep_iload_n (j := 2) d_M_nextArgument_62 rfl rfl ?_
              refine ep_iconst (v := 1) d_M_nextArgument_63 (by decide) ?_
              refine ep_icmp_ge (tgt := 71) d_M_nextArgument_64 (by decide) (fun c64 => ?_) (fun c64 => ?_)
              · refine ep_iconst (v := 0) d_M_nextArgument_71 (by decide) ?_
                refine ep_cg (y := bI (decide (bolF (pk L (mAv s 1)) < 1))) (bd0 (Int32.not_lt.mpr c64)) ?_
                exact k72
              · refine ep_iconst (v := 1) d_M_nextArgument_67 (by decide) ?_
                refine ep_goto (tgt := 72) d_M_nextArgument_68 (by decide) ?_
                refine ep_cg (y := bI (decide (bolF (pk L (mAv s 1)) < 1))) (bd1 (Int32.not_le.mp c64)) ?_
                exact k72
    · refine ep_aload_n (j := 0) d_M_nextArgument_7 rfl rfl ?_
      refine ep_getf (fi := 24) (v := .int (bI s.wr)) d_M_nextArgument_8 cl5 lf_M_171 (by decide) rfl (congrArg (fun z => some (Value.int z)) hd.w) ?_
      refine ep_if_ne (tgt := 208) d_M_nextArgument_11 (by decide) (fun c11 => ?_) (fun c11 => ?_)
      · rw [show mArgs L (F + 1) s = s from if_neg (fun u => by have := bI_t c11; rw [u.1] at this; cases this)]
        exact M_na_e hd eK (fun hw => by have := hp hw; omega) hk (by omega) he hv (Or.inr ⟨_, _, _, _, rfl⟩)
      · refine ep_aload_n (j := 0) d_M_nextArgument_14 rfl rfl ?_
        refine ep_getf (fi := 21) (v := .ref 29) d_M_nextArgument_15 cl5 lf_M_46 (by decide) rfl rfl ?_
        refine ep_iload_n (j := 1) d_M_nextArgument_18 rfl rfl ?_
        refine ep_fN d_M_nextArgument_19 (hd.top eK).1 (by omega) ?_
        refine ep_iconst (v := 3) d_M_nextArgument_20 (by decide) ?_
        refine ep_icmp_ge (tgt := 208) d_M_nextArgument_21 (by decide) (fun c21 => ?_) (fun c21 => ?_)
        · rw [show mArgs L (F + 1) s = s from if_neg (fun u => by have h := u.2.1; unfold tN at h; rw [eK] at h; exact absurd h (Int32.not_lt.mpr c21))]
          exact M_na_e hd eK (fun hw => by have := hp hw; omega) hk (by omega) he hv (Or.inr ⟨_, _, _, _, rfl⟩)
        · refine ep_aload_n (j := 0) d_M_nextArgument_24 rfl rfl ?_
          refine ep_callVi (As := []) (st := []) d_M_nextArgument_25 lk_M_174 cal_M_peek tm_M_peek ts_M_peek rfl rfl rfl (Nat.le_of_ble_eq_true rfl) (Nat.le_of_ble_eq_true rfl) rfl rfl (M_peek hd (by have := hp (bI_n c11); omega)) ?_
          refine ep_bipush (v := 76) d_M_nextArgument_28 (by decide) ?_
          refine ep_icmp_ne (tgt := 208) d_M_nextArgument_30 (by decide) (fun c30 => ?_) (fun c30 => ?_)
          · rw [show mArgs L (F + 1) s = s from if_neg (fun u => c30 u.2.2)]
            exact M_na_e hd eK (fun hw => by have := hp hw; omega) hk (by omega) he hv (Or.inr ⟨_, _, _, _, rfl⟩)
          · have hi3 : i < 3 := by rw [hn, show (3 : Int32) = nI 3 from by decide, nI_leI (by omega) (by omega)] at c21; omega
            refine ep_aload_n (j := 0) d_M_nextArgument_33 rfl rfl ?_
            refine ep_dup d_M_nextArgument_34 rfl ?_
            refine ep_getf (fi := 23) (v := .int (nI s.p)) d_M_nextArgument_35 cl5 lf_M_168 (by decide) rfl (congrArg (fun z => some (Value.int z)) hd.p) ?_
            refine ep_iconst (v := 1) d_M_nextArgument_38 (by decide) ?_
            refine ep_iadd d_M_nextArgument_39 ?_
            refine ep_putf' (fi := 23) (h2 := HC X cI cA (upd rI 23 ((nI s.p) + 1)) rA ol J) d_M_nextArgument_40 cl5 lf_M_168 (by decide) (Or.inl rfl) rfl rfl hI_16_23 ?_
            have hd1 : MD L S ct (upd rI 23 ((nI s.p) + 1)) rA (mAv s 1) := hd.sp (q := (s.p + 1)) (nI_1 _)
            generalize upd rI 23 ((nI s.p) + 1) = rI1 at hd1 ⊢
            refine ep_aload_n (j := 0) d_M_nextArgument_43 rfl rfl ?_
            refine ep_callVi (As := []) (st := []) d_M_nextArgument_44 lk_M_174 cal_M_peek tm_M_peek ts_M_peek rfl rfl rfl (Nat.le_of_ble_eq_true rfl) (Nat.le_of_ble_eq_true rfl) rfl rfl (M_peek hd1 (by show s.p + 1 ≤ 1000; have := hp (bI_n c11); omega)) ?_
            refine ep_callSi (As := [.int (pk L (mAv s 1))]) (st := []) d_M_nextArgument_47 (Or.inl lk_M_193) cal_M_builtinOf tm_M_builtinOf ti_M rfl (Nat.le_of_ble_eq_true rfl) (Nat.le_of_ble_eq_true rfl) rfl rfl (M_builtinOf (pk L (mAv s 1))) ?_
            refine ep_istore_n (lv' := [(0, .ref 16), (1, .int (nI (K.length + 1))), (2, .int (bolF (pk L (mAv s 1)))), (3, .int y3), (4, .int y4), (5, .int y5)]) [1, 2, 0, 3, 4, 5] d_M_nextArgument_50 rfl (by decide) rfl ?_
            refine ep_aload_n (j := 0) d_M_nextArgument_51 rfl rfl ?_
            refine ep_dup d_M_nextArgument_52 rfl ?_
            refine ep_getf (fi := 23) (v := .int (nI (mAv s 1).p)) d_M_nextArgument_53 cl5 lf_M_168 (by decide) rfl (congrArg (fun z => some (Value.int z)) hd1.p) ?_
            refine ep_iconst (v := 1) d_M_nextArgument_56 (by decide) ?_
            refine ep_iadd d_M_nextArgument_57 ?_
            refine ep_putf' (fi := 23) (h2 := HC X cI cA (upd rI1 23 ((nI (mAv s 1).p) + 1)) rA ol J) d_M_nextArgument_58 cl5 lf_M_168 (by decide) (Or.inl rfl) rfl rfl hI_16_23 ?_
            have hd2 : MD L S ct (upd rI1 23 ((nI (mAv s 1).p) + 1)) rA (mAv (mAv s 1) 1) := hd1.sp (q := ((mAv s 1).p + 1)) (nI_1 _)
            generalize upd rI1 23 ((nI (mAv s 1).p) + 1) = rI2 at hd2 ⊢
            refine ep_aload_n (j := 0) d_M_nextArgument_61 rfl rfl ?_
            refine ep_join (pc2 := 72) (lv2 := [(0, .ref 16), (1, .int (nI (K.length + 1))), (2, .int (bolF (pk L (mAv s 1)))), (3, .int y3), (4, .int y4), (5, .int y5)]) (st2 := [.int (bI (decide (bolF (pk L (mAv s 1)) < 1))), .ref 16]) ?_ (fun k72 => ?_)
            · refine ep_putf' (fi := 24) (h2 := HC X cI cA (upd rI2 24 (bI (decide (bolF (pk L (mAv s 1)) < 1)))) rA ol J) d_M_nextArgument_72 cl5 lf_M_171 (by decide) (Or.inl rfl) (bI_f _) rfl hI_16_24 ?_
              have hd3 : MD L S ct (upd rI2 24 (bI (decide (bolF (pk L (mAv s 1)) < 1)))) rA (mWr (mAv (mAv s 1) 1) (decide (bolF (pk L (mAv s 1)) < 1))) := hd2.sw (q := (decide (bolF (pk L (mAv s 1)) < 1))) rfl
              generalize upd rI2 24 (bI (decide (bolF (pk L (mAv s 1)) < 1))) = rI3 at hd3 ⊢
              refine ep_aload_n (j := 0) d_M_nextArgument_75 rfl rfl ?_
              refine ep_iload_n (j := 2) d_M_nextArgument_76 rfl rfl ?_
              refine ep_callVm (As := [.int (bolF (pk L (mAv s 1)))]) (st := []) d_M_nextArgument_77 lk_M_196 cal_M_makeBuiltin tm_M_makeBuiltin ts_M_makeBuiltin rfl rfl rfl (Nat.le_of_ble_eq_true rfl) (Nat.le_of_ble_eq_true rfl) rfl rfl (M_makeBuiltin hd3 (by show s.N.length ≤ 300; omega) (bolF (pk L (mAv s 1)))) (fun rI4 rA4 hd4 => ?_)
              generalize hq : mBi (bolF (pk L (mAv s 1))) (mWr (mAv (mAv s 1) 1) (decide (bolF (pk L (mAv s 1)) < 1))) = q at hd4 ⊢
              have hqK : q.2.K = f :: K := by rw [← hq]; exact (mMk_K _ _ _ _ _ _ _ _).trans eK
              have hqp : q.2.p = s.p + 1 + 1 := by rw [← hq]; exact mMk_p _ _ _ _ _ _ _ _
              have hqN : q.2.N.length ≤ s.N.length + 1 := by rw [← hq]; exact mMk_N _ _ _ _ _ _ _ _
              have hqV : q.2.wr = false → Vd q.2.N q.1 := by rw [← hq]; exact mMk_V _ _ _ _ _ _ _ _
              refine ep_istore_n (lv' := [(0, .ref 16), (1, .int (nI (K.length + 1))), (2, .int (bolF (pk L (mAv s 1)))), (3, .int q.1), (4, .int y4), (5, .int y5)]) [1, 2, 3, 0, 4, 5] d_M_nextArgument_80 rfl (by decide) rfl ?_
              refine ep_aload_n (j := 0) d_M_nextArgument_81 rfl rfl ?_
              refine ep_callVi (As := []) (st := []) d_M_nextArgument_82 lk_M_174 cal_M_peek tm_M_peek ts_M_peek rfl rfl rfl (Nat.le_of_ble_eq_true rfl) (Nat.le_of_ble_eq_true rfl) rfl rfl (M_peek hd4 (by have := hp (bI_n c11); omega)) ?_
              refine ep_bipush (v := 110) d_M_nextArgument_85 (by decide) ?_
              refine ep_icmp_ne (tgt := 94) d_M_nextArgument_87 (by decide) (fun c87 => ?_) (fun c87 => ?_)
              · refine ep_iconst (v := 0) d_M_nextArgument_94 (by decide) ?_
                refine ep_istore (lv' := [(0, .ref 16), (1, .int (nI (K.length + 1))), (2, .int (bolF (pk L (mAv s 1)))), (3, .int q.1), (4, .int 0), (5, .int y5)]) [1, 2, 3, 4, 0, 5] d_M_nextArgument_95 (by decide) rfl ?_
                refine ep_aload_n (j := 0) d_M_nextArgument_97 rfl rfl ?_
                refine ep_dup d_M_nextArgument_98 rfl ?_
                refine ep_getf (fi := 23) (v := .int (nI q.2.p)) d_M_nextArgument_99 cl5 lf_M_168 (by decide) rfl (congrArg (fun z => some (Value.int z)) hd4.p) ?_
                refine ep_iload (j := 4) d_M_nextArgument_102 rfl ?_
                refine ep_if_eq (tgt := 111) d_M_nextArgument_104 (by decide) (fun _ => ?_) (fun z => absurd (by decide) z)
                refine ep_iconst (v := 0) d_M_nextArgument_111 (by decide) ?_
                refine ep_iadd d_M_nextArgument_112 ?_
                refine ep_putf' (fi := 23) (h2 := HC X cI cA (upd rI4 23 ((nI q.2.p) + 0)) rA4 ol J) d_M_nextArgument_113 cl5 lf_M_168 (by decide) (Or.inl rfl) rfl rfl hI_16_23 ?_
                have hd5 : MD L S ct (upd rI4 23 ((nI q.2.p) + 0)) rA4 (q.2) := hd4.sp (q := q.2.p) (Int32.add_zero _)
                generalize upd rI4 23 ((nI q.2.p) + 0) = rI5 at hd5 ⊢
                refine ep_aload_n (j := 0) d_M_nextArgument_116 rfl rfl ?_
                refine ep_bipush (v := 6) d_M_nextArgument_117 (by decide) ?_
                refine ep_cg (y := nI 6) (by decide) ?_
                refine ep_callVm (As := [.int (nI 6)]) (st := []) d_M_nextArgument_119 lk_M_181 cal_M_readNumber tm_M_readNumber ts_M_readNumber rfl rfl rfl (Nat.le_of_ble_eq_true rfl) (Nat.le_of_ble_eq_true rfl) rfl rfl (M_readNumber (m := 6) (by decide) hd5 (by have := hp (bI_n c11); omega)) (fun rI6 rA6 hd6 => ?_)
                refine ep_istore (lv' := [(0, .ref 16), (1, .int (nI (K.length + 1))), (2, .int (bolF (pk L (mAv s 1)))), (3, .int q.1), (4, .int 0), (5, .int ((mNum L 6 q.2).1))]) [1, 2, 3, 4, 5, 0] d_M_nextArgument_122 (by decide) rfl ?_
                refine ep_aload_n (j := 0) d_M_nextArgument_124 rfl rfl ?_
                refine ep_join (pc2 := 147) (lv2 := [(0, .ref 16), (1, .int (nI (K.length + 1))), (2, .int (bolF (pk L (mAv s 1)))), (3, .int q.1), (4, .int 0), (5, .int ((mNum L 6 q.2).1))]) (st2 := [.int (bI ((mNum L 6 q.2).2.wr || decide (false = true ∧ (mNum L 6 q.2).1 = 0))), .ref 16]) ?_ (fun k147 => ?_)
                · refine ep_putf' (fi := 24) (h2 := HC X cI cA (upd rI6 24 (bI ((mNum L 6 q.2).2.wr || decide (false = true ∧ (mNum L 6 q.2).1 = 0)))) rA6 ol J) d_M_nextArgument_147 cl5 lf_M_171 (by decide) (Or.inl rfl) (bI_f _) rfl hI_16_24 ?_
                  have hd7 : MD L S ct (upd rI6 24 (bI ((mNum L 6 q.2).2.wr || decide (false = true ∧ (mNum L 6 q.2).1 = 0)))) rA6 (mOr (mNum L 6 q.2).2 (decide (false = true ∧ (mNum L 6 q.2).1 = 0))) := hd6.sw (q := ((mNum L 6 q.2).2.wr || decide (false = true ∧ (mNum L 6 q.2).1 = 0))) rfl
                  generalize upd rI6 24 (bI ((mNum L 6 q.2).2.wr || decide (false = true ∧ (mNum L 6 q.2).1 = 0))) = rI7 at hd7 ⊢
                  refine ep_aload_n (j := 0) d_M_nextArgument_150 rfl rfl ?_
                  refine ep_bipush (v := 69) d_M_nextArgument_151 (by decide) ?_
                  refine ep_callVm (As := [.int 69]) (st := []) d_M_nextArgument_153 lk_M_184 cal_M_expect tm_M_expect ts_M_expect rfl rfl rfl (Nat.le_of_ble_eq_true rfl) (Nat.le_of_ble_eq_true rfl) rfl rfl (M_expect hd7 (by show q.2.p + (dgs L 10 q.2.p).length ≤ 1000; have h7 := dgs_len L 10 q.2.p; have h9 := hp (bI_n c11); have h6 := hd.l1; have h5 : q.2.p ≤ s.p + 3 := (by omega); omega) 69) (fun rI8 rA8 hd8 => ?_)
                  refine ep_aload_n (j := 0) d_M_nextArgument_156 rfl rfl ?_
                  refine ep_getf (fi := 22) (v := .ref 30) d_M_nextArgument_157 cl5 lf_M_49 (by decide) rfl rfl ?_
                  refine ep_iconst (v := 3) d_M_nextArgument_160 (by decide) ?_
                  refine ep_iload_n (j := 1) d_M_nextArgument_161 rfl rfl ?_
                  refine ep_imul d_M_nextArgument_162 ?_
                  refine ep_cg (y := nI (3 * (K.length + 1))) (m3 _) ?_
                  refine ep_aload_n (j := 0) d_M_nextArgument_163 rfl rfl ?_
                  refine ep_getf (fi := 21) (v := .ref 29) d_M_nextArgument_164 cl5 lf_M_46 (by decide) rfl rfl ?_
                  refine ep_iload_n (j := 1) d_M_nextArgument_167 rfl rfl ?_
                  refine ep_fN d_M_nextArgument_168 (hd8.top (show _ = f :: K from hqK)).1 (by omega) ?_
                  refine ep_iadd d_M_nextArgument_169 ?_
                  refine ep_cg (y := nI (3 * (K.length + 1) + i)) (by rw [hn, nI_add]) ?_
                  refine ep_aload_n (j := 0) d_M_nextArgument_170 rfl rfl ?_
                  refine ep_bipush (v := 9) d_M_nextArgument_171 (by decide) ?_
                  refine ep_iload (j := 4) d_M_nextArgument_173 rfl ?_
                  refine ep_if_eq (tgt := 184) d_M_nextArgument_175 (by decide) (fun _ => ?_) (fun z => absurd (by decide) z)
                  refine ep_iload (j := 5) d_M_nextArgument_184 rfl ?_
                  refine ep_iload_n (j := 3) d_M_nextArgument_186 rfl rfl ?_
                  refine ep_iconst (v := (-1)) d_M_nextArgument_187 (by decide) ?_
                  refine ep_iconst (v := (-1)) d_M_nextArgument_188 (by decide) ?_
                  refine ep_iconst (v := (-1)) d_M_nextArgument_189 (by decide) ?_
                  refine ep_iconst (v := (-1)) d_M_nextArgument_190 (by decide) ?_
                  refine ep_callVm (As := [.int 9, .int ((mNum L 6 q.2).1), .int q.1, .int (-1), .int (-1), .int (-1), .int (-1)]) (st := [.int (nI (3 * (K.length + 1) + i)), .ref 30]) d_M_nextArgument_191 lk_M_190 cal_M_make tm_M_make ts_M_make rfl rfl rfl (Nat.le_of_ble_eq_true rfl) (Nat.le_of_ble_eq_true rfl) rfl rfl (M_make hd8 (by show q.2.N.length ≤ 300; omega) 9 ((mNum L 6 q.2).1) q.1 (-1) (-1) (-1) (-1) (fun hw => ⟨Or.inr (hqV (wr5 (s := q.2) hw)), no_vo _, no_vo _, no_vo _, no_vo _⟩)) (fun rI9 rA9 hd9 => ?_)
                  generalize hx : mMk 9 ((mNum L 6 q.2).1) q.1 (-1) (-1) (-1) (-1) (mEx L 69 (mOr (mNum L 6 q.2).2 (decide (false = true ∧ (mNum L 6 q.2).1 = 0)))) = x at hd9 ⊢
                  have hxK : x.2.K = f :: K := by rw [← hx]; exact (mMk_K _ _ _ _ _ _ _ _).trans hqK
                  refine ep_iast' (h2 := HC X cI cA rI9 (va_up rA9 22 (upd (rA9 22) (3 * (K.length + 1) + i) x.1)) ol J) (3 * (K.length + 1) + i) d_M_nextArgument_194 rfl rfl (by omega) (by decide) hA_30 ?_
                  have hd10 : MD L S ct rI9 (va_up rA9 22 (upd (rA9 22) (3 * (K.length + 1) + i) x.1)) (mK x.2 (f.lst i x.1 :: K)) := hd9.sl' hxK i (by omega)
                  generalize va_up rA9 22 (upd (rA9 22) (3 * (K.length + 1) + i) x.1) = rA10 at hd10 ⊢
                  refine ep_aload_n (j := 0) d_M_nextArgument_195 rfl rfl ?_
                  refine ep_getf (fi := 21) (v := .ref 29) d_M_nextArgument_196 cl5 lf_M_46 (by decide) rfl rfl ?_
                  refine ep_iload_n (j := 1) d_M_nextArgument_199 rfl rfl ?_
                  refine ep_dup2 d_M_nextArgument_200 rfl rfl ?_
                  refine ep_fN (f := f.lst i x.1) d_M_nextArgument_201 (hd10.top rfl).1 (by omega) ?_
                  refine ep_iconst (v := 1) d_M_nextArgument_202 (by decide) ?_
                  refine ep_iadd d_M_nextArgument_203 ?_
                  refine ep_cg (y := f.n + 1) (by rw [lst_n]) ?_
                  refine ep_iast' (h2 := HC X cI cA rI9 (va_up rA10 21 (upd (rA10 21) (K.length + 1) (f.n + 1))) ol J) (K.length + 1) d_M_nextArgument_204 rfl rfl (by omega) (by decide) hA_29 ?_
                  have hd11 : MD L S ct rI9 (va_up rA10 21 (upd (rA10 21) (K.length + 1) (f.n + 1))) (mK (mK x.2 (f.lst i x.1 :: K)) ((FR.u_n (f.lst i x.1) (f.n + 1)) :: K)) := hd10.sn (f := f.lst i x.1) (K := K) rfl
                  generalize va_up rA10 21 (upd (rA10 21) (K.length + 1) (f.n + 1)) = rA11 at hd11 ⊢
                  refine ep_goto (tgt := 7) d_M_nextArgument_205 (by decide) ?_
                  have eL := (mLit_f hq c87).trans hx
                  have eP : mPut (mLit L s).2 (mLit L s).1 = mK (mK x.2 (f.lst i x.1 :: K)) ((FR.u_n (f.lst i x.1) (f.n + 1)) :: K) := by rw [eL]; exact put_eq hxK hn hi3 _
                  rw [← eP] at hd11
                  have eA : mArgs L (F + 1) s = mArgs L F (mPut (mLit L s).2 (mLit L s).1) := if_pos ⟨bI_n c11, by unfold tN; rw [eK]; exact Int32.not_le.mp c21, c30⟩
                  rw [eA]
                  have eK' : (mPut (mLit L s).2 (mLit L s).1).K = (FR.u_n (f.lst i (mLit L s).1) (f.n + 1)) :: K := by rw [put_eq (mLit_K.1.trans eK) hn hi3]; rfl
                  have eN' : (mPut (mLit L s).2 (mLit L s).1).N = (mLit L s).2.N ∧ (mPut (mLit L s).2 (mLit L s).1).p = (mLit L s).2.p ∧ (mPut (mLit L s).2 (mLit L s).1).E = (mLit L s).2.E := by rw [put_eq (mLit_K.1.trans eK) hn hi3]; exact ⟨rfl, rfl, rfl⟩
                  refine ih (i + 1) _ _ (by show f.n + 1 = nI (i + 1); rw [hn, nI_1]) (by omega) (by omega) hd11 eK' (fun hw => ?_) hk ?_ ?_ (fun hw => ?_) (Or.inr ⟨_, _, _, _, rfl⟩)
                  · rw [mPut_wr] at hw
                    rw [eN'.2.1]
                    have := mLit_p hw
                    have := hd.l1
                    omega
                  · rw [eN'.1]
                    have := mLit_N (L := L) (s := s)
                    omega
                  · rw [eN'.2.2, mLit_K.2]; exact he
                  · rw [mPut_wr] at hw
                    rw [eN'.1]
                    obtain ⟨v1, v2, v3, v4⟩ := hv (bI_n c11)
                    have e1 := mLit_pre (L := L) (s := s)
                    have vx : Vo (mLit L s).2.N (mLit L s).1 := Or.inr (mLit_V hw)
                    refine ⟨?_, ?_, ?_, ?_⟩
                    · have : (f.lst i (mLit L s).1).o = f.o := by unfold FR.lst; split; · rfl
                                                                  · split <;> rfl
                      show Vo _ (f.lst i (mLit L s).1).o
                      rw [this]; exact v1.ext e1
                    all_goals
                      unfold FR.lst
                      rcases (show i = 0 ∨ i = 1 ∨ i = 2 by omega) with h | h | h <;> subst h <;> first | exact vx | exact v2.ext e1 | exact v3.ext e1 | exact v4.ext e1
                · refine ep_aload_n (j := 0) d_M_nextArgument_125 rfl rfl ?_
                  refine ep_getf (fi := 24) (v := .int (bI ((mNum L 6 q.2).2).wr)) d_M_nextArgument_126 cl5 lf_M_171 (by decide) rfl (congrArg (fun z => some (Value.int z)) hd6.w) ?_
                  refine ep_if_ne (tgt := 142) d_M_nextArgument_129 (by decide) (fun c129 => ?_) (fun c129 => ?_)
                  · refine ep_iconst (v := 1) d_M_nextArgument_142 (by decide) ?_
                    refine ep_goto (tgt := 147) d_M_nextArgument_143 (by decide) ?_
                    refine ep_cg (y := bI ((mNum L 6 q.2).2.wr || decide (false = true ∧ (mNum L 6 q.2).1 = 0))) (bor1 c129) ?_
                    exact k147
                  · refine ep_iload (j := 4) d_M_nextArgument_132 rfl ?_
                    refine ep_if_eq (tgt := 146) d_M_nextArgument_134 (by decide) (fun _ => ?_) (fun z => absurd (by decide) z)
                    refine ep_iconst (v := 0) d_M_nextArgument_146 (by decide) ?_
                    refine ep_cg (y := bI ((mNum L 6 q.2).2.wr || decide (false = true ∧ (mNum L 6 q.2).1 = 0))) (bor0 c129 (decide_eq_false (fun u => by cases u.1))) ?_
                    exact k147
              · refine ep_iconst (v := 1) d_M_nextArgument_90 (by decide) ?_
                refine ep_goto (tgt := 95) d_M_nextArgument_91 (by decide) ?_
                refine ep_istore (lv' := [(0, .ref 16), (1, .int (nI (K.length + 1))), (2, .int (bolF (pk L (mAv s 1)))), (3, .int q.1), (4, .int 1), (5, .int y5)]) [1, 2, 3, 4, 0, 5] d_M_nextArgument_95 (by decide) rfl ?_
                refine ep_aload_n (j := 0) d_M_nextArgument_97 rfl rfl ?_
                refine ep_dup d_M_nextArgument_98 rfl ?_
                refine ep_getf (fi := 23) (v := .int (nI q.2.p)) d_M_nextArgument_99 cl5 lf_M_168 (by decide) rfl (congrArg (fun z => some (Value.int z)) hd4.p) ?_
                refine ep_iload (j := 4) d_M_nextArgument_102 rfl ?_
                refine ep_if_eq (tgt := 111) d_M_nextArgument_104 (by decide) (fun z => absurd z (by decide)) (fun _ => ?_)
                refine ep_iconst (v := 1) d_M_nextArgument_107 (by decide) ?_
                refine ep_goto (tgt := 112) d_M_nextArgument_108 (by decide) ?_
                refine ep_iadd d_M_nextArgument_112 ?_
                refine ep_putf' (fi := 23) (h2 := HC X cI cA (upd rI4 23 ((nI q.2.p) + 1)) rA4 ol J) d_M_nextArgument_113 cl5 lf_M_168 (by decide) (Or.inl rfl) rfl rfl hI_16_23 ?_
                have hd12 : MD L S ct (upd rI4 23 ((nI q.2.p) + 1)) rA4 (mAv q.2 1) := hd4.sp (q := (q.2.p + 1)) (nI_1 _)
                generalize upd rI4 23 ((nI q.2.p) + 1) = rI12 at hd12 ⊢
                refine ep_aload_n (j := 0) d_M_nextArgument_116 rfl rfl ?_
                refine ep_bipush (v := 6) d_M_nextArgument_117 (by decide) ?_
                refine ep_cg (y := nI 6) (by decide) ?_
                refine ep_callVm (As := [.int (nI 6)]) (st := []) d_M_nextArgument_119 lk_M_181 cal_M_readNumber tm_M_readNumber ts_M_readNumber rfl rfl rfl (Nat.le_of_ble_eq_true rfl) (Nat.le_of_ble_eq_true rfl) rfl rfl (M_readNumber (m := 6) (by decide) hd12 (by show q.2.p + 1 ≤ 400; have := hp (bI_n c11); omega)) (fun rI13 rA13 hd13 => ?_)
                refine ep_istore (lv' := [(0, .ref 16), (1, .int (nI (K.length + 1))), (2, .int (bolF (pk L (mAv s 1)))), (3, .int q.1), (4, .int 1), (5, .int ((mNum L 6 (mAv q.2 1)).1))]) [1, 2, 3, 4, 5, 0] d_M_nextArgument_122 (by decide) rfl ?_
                refine ep_aload_n (j := 0) d_M_nextArgument_124 rfl rfl ?_
                refine ep_join (pc2 := 147) (lv2 := [(0, .ref 16), (1, .int (nI (K.length + 1))), (2, .int (bolF (pk L (mAv s 1)))), (3, .int q.1), (4, .int 1), (5, .int ((mNum L 6 (mAv q.2 1)).1))]) (st2 := [.int (bI ((mNum L 6 (mAv q.2 1)).2.wr || decide (true = true ∧ (mNum L 6 (mAv q.2 1)).1 = 0))), .ref 16]) ?_ (fun k147 => ?_)
                · refine ep_putf' (fi := 24) (h2 := HC X cI cA (upd rI13 24 (bI ((mNum L 6 (mAv q.2 1)).2.wr || decide (true = true ∧ (mNum L 6 (mAv q.2 1)).1 = 0)))) rA13 ol J) d_M_nextArgument_147 cl5 lf_M_171 (by decide) (Or.inl rfl) (bI_f _) rfl hI_16_24 ?_
                  have hd14 : MD L S ct (upd rI13 24 (bI ((mNum L 6 (mAv q.2 1)).2.wr || decide (true = true ∧ (mNum L 6 (mAv q.2 1)).1 = 0)))) rA13 (mOr (mNum L 6 (mAv q.2 1)).2 (decide (true = true ∧ (mNum L 6 (mAv q.2 1)).1 = 0))) := hd13.sw (q := ((mNum L 6 (mAv q.2 1)).2.wr || decide (true = true ∧ (mNum L 6 (mAv q.2 1)).1 = 0))) rfl
                  generalize upd rI13 24 (bI ((mNum L 6 (mAv q.2 1)).2.wr || decide (true = true ∧ (mNum L 6 (mAv q.2 1)).1 = 0))) = rI14 at hd14 ⊢
                  refine ep_aload_n (j := 0) d_M_nextArgument_150 rfl rfl ?_
                  refine ep_bipush (v := 69) d_M_nextArgument_151 (by decide) ?_
                  refine ep_callVm (As := [.int 69]) (st := []) d_M_nextArgument_153 lk_M_184 cal_M_expect tm_M_expect ts_M_expect rfl rfl rfl (Nat.le_of_ble_eq_true rfl) (Nat.le_of_ble_eq_true rfl) rfl rfl (M_expect hd14 (by show (mAv q.2 1).p + (dgs L 10 (mAv q.2 1).p).length ≤ 1000; have h7 := dgs_len L 10 (mAv q.2 1).p; have h9 := hp (bI_n c11); have h6 := hd.l1; have h5 : (mAv q.2 1).p ≤ s.p + 3 := (by show q.2.p + 1 ≤ s.p + 3; omega); omega) 69) (fun rI15 rA15 hd15 => ?_)
                  refine ep_aload_n (j := 0) d_M_nextArgument_156 rfl rfl ?_
                  refine ep_getf (fi := 22) (v := .ref 30) d_M_nextArgument_157 cl5 lf_M_49 (by decide) rfl rfl ?_
                  refine ep_iconst (v := 3) d_M_nextArgument_160 (by decide) ?_
                  refine ep_iload_n (j := 1) d_M_nextArgument_161 rfl rfl ?_
                  refine ep_imul d_M_nextArgument_162 ?_
                  refine ep_cg (y := nI (3 * (K.length + 1))) (m3 _) ?_
                  refine ep_aload_n (j := 0) d_M_nextArgument_163 rfl rfl ?_
                  refine ep_getf (fi := 21) (v := .ref 29) d_M_nextArgument_164 cl5 lf_M_46 (by decide) rfl rfl ?_
                  refine ep_iload_n (j := 1) d_M_nextArgument_167 rfl rfl ?_
                  refine ep_fN d_M_nextArgument_168 (hd15.top (show _ = f :: K from hqK)).1 (by omega) ?_
                  refine ep_iadd d_M_nextArgument_169 ?_
                  refine ep_cg (y := nI (3 * (K.length + 1) + i)) (by rw [hn, nI_add]) ?_
                  refine ep_aload_n (j := 0) d_M_nextArgument_170 rfl rfl ?_
                  refine ep_bipush (v := 9) d_M_nextArgument_171 (by decide) ?_
                  refine ep_iload (j := 4) d_M_nextArgument_173 rfl ?_
                  refine ep_if_eq (tgt := 184) d_M_nextArgument_175 (by decide) (fun z => absurd z (by decide)) (fun _ => ?_)
                  refine ep_iload (j := 5) d_M_nextArgument_178 rfl ?_
                  refine ep_ineg d_M_nextArgument_180 ?_
                  refine ep_goto (tgt := 186) d_M_nextArgument_181 (by decide) ?_
                  refine ep_iload_n (j := 3) d_M_nextArgument_186 rfl rfl ?_
                  refine ep_iconst (v := (-1)) d_M_nextArgument_187 (by decide) ?_
                  refine ep_iconst (v := (-1)) d_M_nextArgument_188 (by decide) ?_
                  refine ep_iconst (v := (-1)) d_M_nextArgument_189 (by decide) ?_
                  refine ep_iconst (v := (-1)) d_M_nextArgument_190 (by decide) ?_
                  refine ep_callVm (As := [.int 9, .int (-((mNum L 6 (mAv q.2 1)).1)), .int q.1, .int (-1), .int (-1), .int (-1), .int (-1)]) (st := [.int (nI (3 * (K.length + 1) + i)), .ref 30]) d_M_nextArgument_191 lk_M_190 cal_M_make tm_M_make ts_M_make rfl rfl rfl (Nat.le_of_ble_eq_true rfl) (Nat.le_of_ble_eq_true rfl) rfl rfl (M_make hd15 (by show q.2.N.length ≤ 300; omega) 9 (-((mNum L 6 (mAv q.2 1)).1)) q.1 (-1) (-1) (-1) (-1) (fun hw => ⟨Or.inr (hqV (wr5 (s := (mAv q.2 1)) hw)), no_vo _, no_vo _, no_vo _, no_vo _⟩)) (fun rI16 rA16 hd16 => ?_)
                  generalize hx : mMk 9 (-(mNum L 6 (mAv q.2 1)).1) q.1 (-1) (-1) (-1) (-1) (mEx L 69 (mOr (mNum L 6 (mAv q.2 1)).2 (decide (true = true ∧ (mNum L 6 (mAv q.2 1)).1 = 0)))) = x at hd16 ⊢
                  have hxK : x.2.K = f :: K := by rw [← hx]; exact (mMk_K _ _ _ _ _ _ _ _).trans hqK
                  refine ep_iast' (h2 := HC X cI cA rI16 (va_up rA16 22 (upd (rA16 22) (3 * (K.length + 1) + i) x.1)) ol J) (3 * (K.length + 1) + i) d_M_nextArgument_194 rfl rfl (by omega) (by decide) hA_30 ?_
                  have hd17 : MD L S ct rI16 (va_up rA16 22 (upd (rA16 22) (3 * (K.length + 1) + i) x.1)) (mK x.2 (f.lst i x.1 :: K)) := hd16.sl' hxK i (by omega)
                  generalize va_up rA16 22 (upd (rA16 22) (3 * (K.length + 1) + i) x.1) = rA17 at hd17 ⊢
                  refine ep_aload_n (j := 0) d_M_nextArgument_195 rfl rfl ?_
                  refine ep_getf (fi := 21) (v := .ref 29) d_M_nextArgument_196 cl5 lf_M_46 (by decide) rfl rfl ?_
                  refine ep_iload_n (j := 1) d_M_nextArgument_199 rfl rfl ?_
                  refine ep_dup2 d_M_nextArgument_200 rfl rfl ?_
                  refine ep_fN (f := f.lst i x.1) d_M_nextArgument_201 (hd17.top rfl).1 (by omega) ?_
                  refine ep_iconst (v := 1) d_M_nextArgument_202 (by decide) ?_
                  refine ep_iadd d_M_nextArgument_203 ?_
                  refine ep_cg (y := f.n + 1) (by rw [lst_n]) ?_
                  refine ep_iast' (h2 := HC X cI cA rI16 (va_up rA17 21 (upd (rA17 21) (K.length + 1) (f.n + 1))) ol J) (K.length + 1) d_M_nextArgument_204 rfl rfl (by omega) (by decide) hA_29 ?_
                  have hd18 : MD L S ct rI16 (va_up rA17 21 (upd (rA17 21) (K.length + 1) (f.n + 1))) (mK (mK x.2 (f.lst i x.1 :: K)) ((FR.u_n (f.lst i x.1) (f.n + 1)) :: K)) := hd17.sn (f := f.lst i x.1) (K := K) rfl
                  generalize va_up rA17 21 (upd (rA17 21) (K.length + 1) (f.n + 1)) = rA18 at hd18 ⊢
                  refine ep_goto (tgt := 7) d_M_nextArgument_205 (by decide) ?_
                  have eL := (mLit_t hq c87).trans hx
                  have eP : mPut (mLit L s).2 (mLit L s).1 = mK (mK x.2 (f.lst i x.1 :: K)) ((FR.u_n (f.lst i x.1) (f.n + 1)) :: K) := by rw [eL]; exact put_eq hxK hn hi3 _
                  rw [← eP] at hd18
                  have eA : mArgs L (F + 1) s = mArgs L F (mPut (mLit L s).2 (mLit L s).1) := if_pos ⟨bI_n c11, by unfold tN; rw [eK]; exact Int32.not_le.mp c21, c30⟩
                  rw [eA]
                  have eK' : (mPut (mLit L s).2 (mLit L s).1).K = (FR.u_n (f.lst i (mLit L s).1) (f.n + 1)) :: K := by rw [put_eq (mLit_K.1.trans eK) hn hi3]; rfl
                  have eN' : (mPut (mLit L s).2 (mLit L s).1).N = (mLit L s).2.N ∧ (mPut (mLit L s).2 (mLit L s).1).p = (mLit L s).2.p ∧ (mPut (mLit L s).2 (mLit L s).1).E = (mLit L s).2.E := by rw [put_eq (mLit_K.1.trans eK) hn hi3]; exact ⟨rfl, rfl, rfl⟩
                  refine ih (i + 1) _ _ (by show f.n + 1 = nI (i + 1); rw [hn, nI_1]) (by omega) (by omega) hd18 eK' (fun hw => ?_) hk ?_ ?_ (fun hw => ?_) (Or.inr ⟨_, _, _, _, rfl⟩)
                  · rw [mPut_wr] at hw
                    rw [eN'.2.1]
                    have := mLit_p hw
                    have := hd.l1
                    omega
                  · rw [eN'.1]
                    have := mLit_N (L := L) (s := s)
                    omega
                  · rw [eN'.2.2, mLit_K.2]; exact he
                  · rw [mPut_wr] at hw
                    rw [eN'.1]
                    obtain ⟨v1, v2, v3, v4⟩ := hv (bI_n c11)
                    have e1 := mLit_pre (L := L) (s := s)
                    have vx : Vo (mLit L s).2.N (mLit L s).1 := Or.inr (mLit_V hw)
                    refine ⟨?_, ?_, ?_, ?_⟩
                    · have : (f.lst i (mLit L s).1).o = f.o := by unfold FR.lst; split; · rfl
                                                                  · split <;> rfl
                      show Vo _ (f.lst i (mLit L s).1).o
                      rw [this]; exact v1.ext e1
                    all_goals
                      unfold FR.lst
                      rcases (show i = 0 ∨ i = 1 ∨ i = 2 by omega) with h | h | h <;> subst h <;> first | exact vx | exact v2.ext e1 | exact v3.ext e1 | exact v4.ext e1
                · refine ep_aload_n (j := 0) d_M_nextArgument_125 rfl rfl ?_
                  refine ep_getf (fi := 24) (v := .int (bI ((mNum L 6 (mAv q.2 1)).2).wr)) d_M_nextArgument_126 cl5 lf_M_171 (by decide) rfl (congrArg (fun z => some (Value.int z)) hd13.w) ?_
                  refine ep_if_ne (tgt := 142) d_M_nextArgument_129 (by decide) (fun c129 => ?_) (fun c129 => ?_)
                  · refine ep_iconst (v := 1) d_M_nextArgument_142 (by decide) ?_
                    refine ep_goto (tgt := 147) d_M_nextArgument_143 (by decide) ?_
                    refine ep_cg (y := bI ((mNum L 6 (mAv q.2 1)).2.wr || decide (true = true ∧ (mNum L 6 (mAv q.2 1)).1 = 0))) (bor1 c129) ?_
                    exact k147
                  · refine ep_iload (j := 4) d_M_nextArgument_132 rfl ?_
                    refine ep_if_eq (tgt := 146) d_M_nextArgument_134 (by decide) (fun z => absurd z (by decide)) (fun _ => ?_)
                    refine ep_iload (j := 5) d_M_nextArgument_137 rfl ?_
                    refine ep_if_ne (tgt := 146) d_M_nextArgument_139 (by decide) (fun c139 => ?_) (fun c139 => ?_)
                    · refine ep_iconst (v := 0) d_M_nextArgument_146 (by decide) ?_
                      refine ep_cg (y := bI ((mNum L 6 (mAv q.2 1)).2.wr || decide (true = true ∧ (mNum L 6 (mAv q.2 1)).1 = 0))) (bor0 c129 (decide_eq_false (fun u => c139 u.2))) ?_
                      exact k147
                    · refine ep_iconst (v := 1) d_M_nextArgument_142 (by decide) ?_
                      refine ep_goto (tgt := 147) d_M_nextArgument_143 (by decide) ?_
                      refine ep_cg (y := bI ((mNum L 6 (mAv q.2 1)).2.wr || decide (true = true ∧ (mNum L 6 (mAv q.2 1)).1 = 0))) (bor2 c129 (decide_eq_true ⟨rfl, c139⟩)) ?_
                      exact k147
            · refine ep_iload_n (j := 2) d_M_nextArgument_62 rfl rfl ?_
              refine ep_iconst (v := 1) d_M_nextArgument_63 (by decide) ?_
              refine ep_icmp_ge (tgt := 71) d_M_nextArgument_64 (by decide) (fun c64 => ?_) (fun c64 => ?_)
              · refine ep_iconst (v := 0) d_M_nextArgument_71 (by decide) ?_
                refine ep_cg (y := bI (decide (bolF (pk L (mAv s 1)) < 1))) (bd0 (Int32.not_lt.mpr c64)) ?_
                exact k72
              · refine ep_iconst (v := 1) d_M_nextArgument_67 (by decide) ?_
                refine ep_goto (tgt := 72) d_M_nextArgument_68 (by decide) ?_
                refine ep_cg (y := bI (decide (bolF (pk L (mAv s 1)) < 1))) (bd1 (Int32.not_le.mp c64)) ?_
                exact k72
set_option maxHeartbeats 4000000 in
set_option maxRecDepth 100000 in
theorem M_nextArgument {i : Nat} {f : FR} {K : List FR} (hn : f.n = nI i) (hi : i ≤ 3) (hd : MD L S ct rI rA s) (eK : s.K = f :: K) (hp : s.wr = false → s.p ≤ 125) (hk : K.length ≤ 380) (hl : s.N.length + 2 * (3 - i) ≤ 290) (he : s.E.length ≤ 310) (hv : (s.wr = false → Vo s.N f.o ∧ Vo s.N f.a ∧ Vo s.N f.b ∧ Vo s.N f.c)) : EvP m_M_nextArgument (d + 4) 0 [(0, .ref 16)] [] (HC X cI cA rI rA ol J) (MPi X cI cA ol J L S ct (mNA L s)) := by
  refine ep_aload_n (j := 0) d_M_nextArgument_0 rfl rfl ?_
  refine ep_getf (fi := 18) (v := .int (nI (K.length + 2))) d_M_nextArgument_1 cl5 lf_M_120 (by decide) rfl (congrArg (fun z => some (Value.int z)) (hd.top eK).2.2) ?_
  refine ep_iconst (v := 1) d_M_nextArgument_4 (by decide) ?_
  refine ep_isub d_M_nextArgument_5 ?_
  refine ep_cg (y := nI (K.length + 1)) (nI_pred _) ?_
  refine ep_istore_n (lv' := [(0, .ref 16), (1, .int (nI (K.length + 1)))]) [1, 0] d_M_nextArgument_6 rfl (by decide) rfl ?_
  exact M_na_l 4 i s f hn hi (by omega) hd eK hp hk hl he hv (Or.inl rfl)
end MS4
