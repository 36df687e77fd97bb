/-! the reference: entities; by program (wip/whole/gen52.py) -/
section MSA
variable {d : Nat} {X : Nat × (Nat → Int32)} {cI : Nat → Int32} {cA : Nat → Nat → Int32} {rI : Nat → Int32} {rA : Nat → Nat → Int32} {ol : Int64} {J : mH} {L S : List Int32} {ct : Nat} {s : MS}
theorem MD.b0 (hd : MD L S ct rI rA s) : MD L S ct rI (va_up rA 21 (upd (rA 21) 0 0)) (mB0 s) := by
  refine ⟨hd.c, hd.a, hd.n, hd.z, hd.l, hd.l1, hd.sz, hd.sl, hd.ez, hd.el, hd.tz, hd.tk.trans (stkR_cg (rA := rA) (rA' := va_up rA 21 (upd (rA 21) 0 0)) (fun i hi h1 => ?_)).symm, hd.t0, rfl, hd.q0, hd.q1, hd.q2, hd.p, hd.w, hd.e⟩
  show (⟨_, _, upd (rA 21) 0 0 i, _, _, _⟩ : FR) = _
  rw [upd_ne _ _ (by omega)]; rfl
theorem MD.qs (hd : MD L S ct rI rA s) (c : Nat) (hc : c < 3) (x : Int32) : MD L S ct rI (va_up rA 22 (upd (rA 22) c x)) (if c = 1 then (MS.u_q1 s x) else if c = 2 then (MS.u_q2 s x) else (MS.u_q0 s x)) := by
  have hk : s.K = stkR (va_up rA 22 (upd (rA 22) c x)) s.K.length := hd.tk.trans (stkR_cg (rA := rA) (rA' := va_up rA 22 (upd (rA 22) c x)) (fun i hi h1 => by
    show (⟨_, _, _, upd (rA 22) c x (3 * i), upd (rA 22) c x (3 * i + 1), upd (rA 22) c x (3 * i + 2)⟩ : FR) = _
    rw [upd_ne _ _ (by omega), upd_ne _ _ (by omega), upd_ne _ _ (by omega)]; rfl)).symm
  rcases (show c = 0 ∨ c = 1 ∨ c = 2 by omega) with h | h | h <;> subst h
  · rw [if_neg (by decide), if_neg (by decide)]
    exact ⟨hd.c, hd.a, hd.n, hd.z, hd.l, hd.l1, hd.sz, hd.sl, hd.ez, hd.el, hd.tz, hk, hd.t0, hd.b, rfl, hd.q1, hd.q2, hd.p, hd.w, hd.e⟩
  · rw [if_pos rfl]
    exact ⟨hd.c, hd.a, hd.n, hd.z, hd.l, hd.l1, hd.sz, hd.sl, hd.ez, hd.el, hd.tz, hk, hd.t0, hd.b, hd.q0, rfl, hd.q2, hd.p, hd.w, hd.e⟩
  · rw [if_neg (by decide), if_pos rfl]
    exact ⟨hd.c, hd.a, hd.n, hd.z, hd.l, hd.l1, hd.sz, hd.sl, hd.ez, hd.el, hd.tz, hk, hd.t0, hd.b, hd.q0, hd.q1, rfl, hd.p, hd.w, hd.e⟩
set_option maxHeartbeats 4000000 in
set_option maxRecDepth 100000 in
theorem M_make_w (hd : MD L S ct rI rA s) (hw : s.wr = true) (k v f g a b c : Int32) : EvP m_M_make (d + 2) 0 [(0, .ref 16), (1, .int k), (2, .int v), (3, .int f), (4, .int g), (5, .int a), (6, .int b), (7, .int c)] [] (HC X cI cA rI rA ol J) (MPi X cI cA ol J L S ct (mMk k v f g a b c s)) := by
  refine ep_aload_n (j := 0) d_M_make_0 rfl rfl ?_
  refine ep_getf (fi := 24) (v := .int (bI s.wr)) d_M_make_1 cl5 lf_M_171 (by decide) rfl (congrArg (fun z => some (Value.int z)) hd.w) ?_
  refine ep_if_eq (tgt := 9) d_M_make_4 (by decide) (fun z => absurd z (by rw [hw]; decide)) (fun _ => ?_)
  refine ep_iconst (v := 0) d_M_make_7 (by decide) ?_
  exact ep_iret d_M_make_8 rfl rfl (MP_ok (by rw [mMk_w hw]) (by rw [mMk_w hw]) hd)
theorem M_makeG (hd : MD L S ct rI rA s) (k v f g a b c : Int32) (hv : s.wr = false → (Vo s.N f ∧ Vo s.N g ∧ Vo s.N a ∧ Vo s.N b ∧ Vo s.N c) ∧ s.N.length ≤ 300) : EvP m_M_make (d + 2) 0 [(0, .ref 16), (1, .int k), (2, .int v), (3, .int f), (4, .int g), (5, .int a), (6, .int b), (7, .int c)] [] (HC X cI cA rI rA ol J) (MPi X cI cA ol J L S ct (mMk k v f g a b c s)) := by
  cases hw : s.wr with
  | true => exact M_make_w hd hw k v f g a b c
  | false => exact M_make hd (hv hw).2 k v f g a b c (fun _ => (hv hw).1)
set_option maxHeartbeats 4000000 in
set_option maxRecDepth 100000 in
theorem M_re_e {n gv m : Int32} (hd : MD L S ct rI rA s) (hp : s.wr = false → s.p ≤ 1000) (hv : (mOr s (decide (¬ s.p = L.length))).wr = false → (Vo s.N n ∧ Vo s.N gv ∧ Vo s.N s.q0 ∧ Vo s.N s.q1 ∧ Vo s.N s.q2) ∧ s.N.length ≤ 300) : ∀ {lv : List (Nat × Value)}, (lv = [(0, .ref 16), (1, .int n), (2, .int gv), (3, .int m)] ∨ ∃ y, lv = [(0, .ref 16), (1, .int n), (2, .int gv), (3, .int m), (4, .int y)]) → EvP m_M_readEntity (d + 10) 203 lv [] (HC X cI cA rI rA ol J) (MPi X cI cA ol J L S ct (mMk 10 0 n gv s.q0 s.q1 s.q2 (mOr s (decide (¬ s.p = L.length))))) := by
  intro lv hlv
  have hL := hd.l1
  rcases hlv with rfl | ⟨y, rfl⟩
  · refine ep_aload_n (j := 0) d_M_readEntity_203 rfl rfl ?_
    refine ep_join (pc2 := 227) (lv2 := [(0, .ref 16), (1, .int n), (2, .int gv), (3, .int m)]) (st2 := [.int (bI (s.wr || decide (¬ s.p = L.length))), .ref 16]) ?_ (fun k227 => ?_)
    · refine ep_putf' (fi := 24) (h2 := HC X cI cA (upd rI 24 (bI (s.wr || decide (¬ s.p = L.length)))) rA ol J) d_M_readEntity_227 cl5 lf_M_171 (by decide) (Or.inl rfl) (bI_f _) rfl hI_16_24 ?_
      have hd1 : MD L S ct (upd rI 24 (bI (s.wr || decide (¬ s.p = L.length)))) rA (mOr s (decide (¬ s.p = L.length))) := hd.sw (q := (s.wr || decide (¬ s.p = L.length))) rfl
      generalize upd rI 24 (bI (s.wr || decide (¬ s.p = L.length))) = rI1 at hd1 ⊢
      refine ep_aload_n (j := 0) d_M_readEntity_230 rfl rfl ?_
      refine ep_bipush (v := 10) d_M_readEntity_231 (by decide) ?_
      refine ep_iconst (v := 0) d_M_readEntity_233 (by decide) ?_
      refine ep_iload_n (j := 1) d_M_readEntity_234 rfl rfl ?_
      refine ep_iload_n (j := 2) d_M_readEntity_235 rfl rfl ?_
      refine ep_aload_n (j := 0) d_M_readEntity_236 rfl rfl ?_
      refine ep_getf (fi := 22) (v := .ref 30) d_M_readEntity_237 cl5 lf_M_49 (by decide) rfl rfl ?_
      refine ep_iconst (v := 0) d_M_readEntity_240 (by decide) ?_
      refine ep_iald (f := rA 22) 0 d_M_readEntity_241 rfl (by decide) (by decide) (by decide) ?_
      refine ep_aload_n (j := 0) d_M_readEntity_242 rfl rfl ?_
      refine ep_getf (fi := 22) (v := .ref 30) d_M_readEntity_243 cl5 lf_M_49 (by decide) rfl rfl ?_
      refine ep_iconst (v := 1) d_M_readEntity_246 (by decide) ?_
      refine ep_iald (f := rA 22) 1 d_M_readEntity_247 rfl (by decide) (by decide) (by decide) ?_
      refine ep_aload_n (j := 0) d_M_readEntity_248 rfl rfl ?_
      refine ep_getf (fi := 22) (v := .ref 30) d_M_readEntity_249 cl5 lf_M_49 (by decide) rfl rfl ?_
      refine ep_iconst (v := 2) d_M_readEntity_252 (by decide) ?_
      refine ep_iald (f := rA 22) 2 d_M_readEntity_253 rfl (by decide) (by decide) (by decide) ?_
      rw [show rA 22 0 = s.q0 from hd1.q0, show rA 22 1 = s.q1 from hd1.q1, show rA 22 2 = s.q2 from hd1.q2]
      refine ep_callVm (As := [.int 10, .int 0, .int n, .int gv, .int s.q0, .int s.q1, .int s.q2]) (st := []) d_M_readEntity_254 lk_M_190 cal_M_make tm_M_make ts_M_make rfl rfl rfl (Nat.le_of_ble_eq_true rfl) (Nat.le_of_ble_eq_true rfl) rfl rfl (M_makeG hd1 10 0 n gv s.q0 s.q1 s.q2 hv) (fun rI2 rA2 hd2 => ?_)
      exact ep_iret d_M_readEntity_257 rfl rfl (MP_ok rfl rfl hd2)
    · refine ep_aload_n (j := 0) d_M_readEntity_204 rfl rfl ?_
      refine ep_getf (fi := 24) (v := .int (bI s.wr)) d_M_readEntity_205 cl5 lf_M_171 (by decide) rfl (congrArg (fun z => some (Value.int z)) hd.w) ?_
      refine ep_if_ne (tgt := 222) d_M_readEntity_208 (by decide) (fun c208 => ?_) (fun c208 => ?_)
      · refine ep_iconst (v := 1) d_M_readEntity_222 (by decide) ?_
        refine ep_goto (tgt := 227) d_M_readEntity_223 (by decide) ?_
        refine ep_cg (y := bI (s.wr || decide (¬ s.p = L.length))) (bor1 c208) ?_
        exact k227
      · refine ep_aload_n (j := 0) d_M_readEntity_211 rfl rfl ?_
        refine ep_getf (fi := 23) (v := .int (nI s.p)) d_M_readEntity_212 cl5 lf_M_168 (by decide) rfl (congrArg (fun z => some (Value.int z)) hd.p) ?_
        refine ep_aload_n (j := 0) d_M_readEntity_215 rfl rfl ?_
        refine ep_getf (fi := 10) (v := .int (nI L.length)) d_M_readEntity_216 cl5 lf_M_157 (by decide) rfl (congrArg (fun z => some (Value.int z)) hd.z) ?_
        refine ep_icmp_eq (tgt := 226) d_M_readEntity_219 (by decide) (fun c219 => ?_) (fun c219 => ?_)
        · refine ep_iconst (v := 0) d_M_readEntity_226 (by decide) ?_
          refine ep_cg (y := bI (s.wr || decide (¬ s.p = L.length))) (bor0 c208 (decide_eq_false (fun u => u ((nI_eq (by have := hp (bI_n c208); omega) (by omega)).mp c219)))) ?_
          exact k227
        · refine ep_iconst (v := 1) d_M_readEntity_222 (by decide) ?_
          refine ep_goto (tgt := 227) d_M_readEntity_223 (by decide) ?_
          refine ep_cg (y := bI (s.wr || decide (¬ s.p = L.length))) (bor2 c208 (decide_eq_true (fun u => c219 (by rw [u])))) ?_
          exact k227
  · refine ep_aload_n (j := 0) d_M_readEntity_203 rfl rfl ?_
    refine ep_join (pc2 := 227) (lv2 := [(0, .ref 16), (1, .int n), (2, .int gv), (3, .int m), (4, .int y)]) (st2 := [.int (bI (s.wr || decide (¬ s.p = L.length))), .ref 16]) ?_ (fun k227 => ?_)
    · refine ep_putf' (fi := 24) (h2 := HC X cI cA (upd rI 24 (bI (s.wr || decide (¬ s.p = L.length)))) rA ol J) d_M_readEntity_227 cl5 lf_M_171 (by decide) (Or.inl rfl) (bI_f _) rfl hI_16_24 ?_
      have hd1 : MD L S ct (upd rI 24 (bI (s.wr || decide (¬ s.p = L.length)))) rA (mOr s (decide (¬ s.p = L.length))) := hd.sw (q := (s.wr || decide (¬ s.p = L.length))) rfl
      generalize upd rI 24 (bI (s.wr || decide (¬ s.p = L.length))) = rI1 at hd1 ⊢
      refine ep_aload_n (j := 0) d_M_readEntity_230 rfl rfl ?_
      refine ep_bipush (v := 10) d_M_readEntity_231 (by decide) ?_
      refine ep_iconst (v := 0) d_M_readEntity_233 (by decide) ?_
      refine ep_iload_n (j := 1) d_M_readEntity_234 rfl rfl ?_
      refine ep_iload_n (j := 2) d_M_readEntity_235 rfl rfl ?_
      refine ep_aload_n (j := 0) d_M_readEntity_236 rfl rfl ?_
      refine ep_getf (fi := 22) (v := .ref 30) d_M_readEntity_237 cl5 lf_M_49 (by decide) rfl rfl ?_
      refine ep_iconst (v := 0) d_M_readEntity_240 (by decide) ?_
      refine ep_iald (f := rA 22) 0 d_M_readEntity_241 rfl (by decide) (by decide) (by decide) ?_
      refine ep_aload_n (j := 0) d_M_readEntity_242 rfl rfl ?_
      refine ep_getf (fi := 22) (v := .ref 30) d_M_readEntity_243 cl5 lf_M_49 (by decide) rfl rfl ?_
      refine ep_iconst (v := 1) d_M_readEntity_246 (by decide) ?_
      refine ep_iald (f := rA 22) 1 d_M_readEntity_247 rfl (by decide) (by decide) (by decide) ?_
      refine ep_aload_n (j := 0) d_M_readEntity_248 rfl rfl ?_
      refine ep_getf (fi := 22) (v := .ref 30) d_M_readEntity_249 cl5 lf_M_49 (by decide) rfl rfl ?_
      refine ep_iconst (v := 2) d_M_readEntity_252 (by decide) ?_
      refine ep_iald (f := rA 22) 2 d_M_readEntity_253 rfl (by decide) (by decide) (by decide) ?_
      rw [show rA 22 0 = s.q0 from hd1.q0, show rA 22 1 = s.q1 from hd1.q1, show rA 22 2 = s.q2 from hd1.q2]
      refine ep_callVm (As := [.int 10, .int 0, .int n, .int gv, .int s.q0, .int s.q1, .int s.q2]) (st := []) d_M_readEntity_254 lk_M_190 cal_M_make tm_M_make ts_M_make rfl rfl rfl (Nat.le_of_ble_eq_true rfl) (Nat.le_of_ble_eq_true rfl) rfl rfl (M_makeG hd1 10 0 n gv s.q0 s.q1 s.q2 hv) (fun rI2 rA2 hd2 => ?_)
      exact ep_iret d_M_readEntity_257 rfl rfl (MP_ok rfl rfl hd2)
    · refine ep_aload_n (j := 0) d_M_readEntity_204 rfl rfl ?_
      refine ep_getf (fi := 24) (v := .int (bI s.wr)) d_M_readEntity_205 cl5 lf_M_171 (by decide) rfl (congrArg (fun z => some (Value.int z)) hd.w) ?_
      refine ep_if_ne (tgt := 222) d_M_readEntity_208 (by decide) (fun c208 => ?_) (fun c208 => ?_)
      · refine ep_iconst (v := 1) d_M_readEntity_222 (by decide) ?_
        refine ep_goto (tgt := 227) d_M_readEntity_223 (by decide) ?_
        refine ep_cg (y := bI (s.wr || decide (¬ s.p = L.length))) (bor1 c208) ?_
        exact k227
      · refine ep_aload_n (j := 0) d_M_readEntity_211 rfl rfl ?_
        refine ep_getf (fi := 23) (v := .int (nI s.p)) d_M_readEntity_212 cl5 lf_M_168 (by decide) rfl (congrArg (fun z => some (Value.int z)) hd.p) ?_
        refine ep_aload_n (j := 0) d_M_readEntity_215 rfl rfl ?_
        refine ep_getf (fi := 10) (v := .int (nI L.length)) d_M_readEntity_216 cl5 lf_M_157 (by decide) rfl (congrArg (fun z => some (Value.int z)) hd.z) ?_
        refine ep_icmp_eq (tgt := 226) d_M_readEntity_219 (by decide) (fun c219 => ?_) (fun c219 => ?_)
        · refine ep_iconst (v := 0) d_M_readEntity_226 (by decide) ?_
          refine ep_cg (y := bI (s.wr || decide (¬ s.p = L.length))) (bor0 c208 (decide_eq_false (fun u => u ((nI_eq (by have := hp (bI_n c208); omega) (by omega)).mp c219)))) ?_
          exact k227
        · refine ep_iconst (v := 1) d_M_readEntity_222 (by decide) ?_
          refine ep_goto (tgt := 227) d_M_readEntity_223 (by decide) ?_
          refine ep_cg (y := bI (s.wr || decide (¬ s.p = L.length))) (bor2 c208 (decide_eq_true (fun u => c219 (by rw [u])))) ?_
          exact k227
set_option maxHeartbeats 4000000 in
set_option maxRecDepth 100000 in
theorem M_pl {n gv : Int32} {m : Nat} {s5 : MS} (h : PL L m s s5) : ∀ {x : Int32} {rI : Nat → Int32} {rA : Nat → Nat → Int32}, ((m = 0 ∧ x = 0) ∨ (m = 1 ∧ x = 1) ∨ (m = 2 ∧ x = 2) ∨ (m = 3 ∧ x = 3) ∨ (m = 4 ∧ x = 4)) → MD L S ct rI rA s → ((s5.wr = false → s5.p ≤ 200) ∧ ((mOr s5 (decide (¬ s5.p = L.length))).wr = false → Vd s5.N n ∧ Vo s5.N gv ∧ Vo s5.N s5.q0 ∧ Vo s5.N s5.q1 ∧ Vo s5.N s5.q2 ∧ s5.N.length ≤ 200)) → ∀ {lv : List (Nat × Value)}, (lv = [(0, .ref 16), (1, .int n), (2, .int gv), (3, .int x)] ∨ ∃ y, lv = [(0, .ref 16), (1, .int n), (2, .int gv), (3, .int x), (4, .int y)]) → EvP m_M_readEntity (d + 10) 99 lv [] (HC X cI cA rI rA ol J) (MPi X cI cA ol J L S ct (mMk 10 0 n gv s5.q0 s5.q1 s5.q2 (mOr s5 (decide (¬ s5.p = L.length))))) := by
  induction h using PL.ind with
  | @stop m s hs =>
    intro x rI rA hx hd hre lv hlv
    have hL := hd.l1
    cases hs0 : s.wr with
    | true =>
      have hs := hs0
      rcases hlv with rfl | ⟨y, rfl⟩
      · refine ep_aload_n (j := 0) d_M_readEntity_99 rfl rfl ?_
        refine ep_getf (fi := 24) (v := .int (bI s.wr)) d_M_readEntity_100 cl5 lf_M_171 (by decide) rfl (congrArg (fun z => some (Value.int z)) hd.w) ?_
        refine ep_if_ne (tgt := 203) d_M_readEntity_103 (by decide) (fun _ => ?_) (fun z => absurd z (by rw [hs]; decide))
        exact M_re_e hd (fun w => by have := hre.1 w; omega) (fun w => ⟨⟨Or.inr (hre.2 w).1, (hre.2 w).2.1, (hre.2 w).2.2.1, (hre.2 w).2.2.2.1, (hre.2 w).2.2.2.2.1⟩, by have := (hre.2 w).2.2.2.2.2; omega⟩) (Or.inl rfl)
      · refine ep_aload_n (j := 0) d_M_readEntity_99 rfl rfl ?_
        refine ep_getf (fi := 24) (v := .int (bI s.wr)) d_M_readEntity_100 cl5 lf_M_171 (by decide) rfl (congrArg (fun z => some (Value.int z)) hd.w) ?_
        refine ep_if_ne (tgt := 203) d_M_readEntity_103 (by decide) (fun _ => ?_) (fun z => absurd z (by rw [hs]; decide))
        exact M_re_e hd (fun w => by have := hre.1 w; omega) (fun w => ⟨⟨Or.inr (hre.2 w).1, (hre.2 w).2.1, (hre.2 w).2.2.1, (hre.2 w).2.2.2.1, (hre.2 w).2.2.2.2.1⟩, by have := (hre.2 w).2.2.2.2.2; omega⟩) (Or.inr ⟨_, rfl⟩)
    | false =>
      obtain ⟨hm, hge, hp2⟩ := hs.resolve_left (by rw [hs0]; decide)
      have hw0 := hs0
      rcases hx with ⟨rfl, rfl⟩ | ⟨rfl, rfl⟩ | ⟨rfl, rfl⟩ | ⟨rfl, rfl⟩ | ⟨rfl, rfl⟩
      · exact absurd rfl hm
      · rcases hlv with rfl | ⟨y, rfl⟩
        · refine ep_aload_n (j := 0) d_M_readEntity_99 rfl rfl ?_
          refine ep_getf (fi := 24) (v := .int (bI s.wr)) d_M_readEntity_100 cl5 lf_M_171 (by decide) rfl (congrArg (fun z => some (Value.int z)) hd.w) ?_
          refine ep_if_ne (tgt := 203) d_M_readEntity_103 (by decide) (fun z => absurd (by rw [hw0]; rfl) z) (fun _ => ?_)
          refine ep_iload_n (j := 3) d_M_readEntity_106 rfl rfl ?_
          refine ep_if_eq (tgt := 121) d_M_readEntity_107 (by decide) (fun z => absurd z (by decide)) (fun _ => ?_)
          refine ep_aload_n (j := 0) d_M_readEntity_110 rfl rfl ?_
          refine ep_getf (fi := 23) (v := .int (nI s.p)) d_M_readEntity_111 cl5 lf_M_168 (by decide) rfl (congrArg (fun z => some (Value.int z)) hd.p) ?_
          refine ep_aload_n (j := 0) d_M_readEntity_114 rfl rfl ?_
          refine ep_getf (fi := 10) (v := .int (nI L.length)) d_M_readEntity_115 cl5 lf_M_157 (by decide) rfl (congrArg (fun z => some (Value.int z)) hd.z) ?_
          refine ep_icmp_ge (tgt := 203) d_M_readEntity_118 (by decide) (fun _ => ?_) (fun z => absurd (nI_le (by omega) (by omega)) z)
          exact M_re_e hd (fun w => by have := hre.1 w; omega) (fun w => ⟨⟨Or.inr (hre.2 w).1, (hre.2 w).2.1, (hre.2 w).2.2.1, (hre.2 w).2.2.2.1, (hre.2 w).2.2.2.2.1⟩, by have := (hre.2 w).2.2.2.2.2; omega⟩) (Or.inl rfl)
        · refine ep_aload_n (j := 0) d_M_readEntity_99 rfl rfl ?_
          refine ep_getf (fi := 24) (v := .int (bI s.wr)) d_M_readEntity_100 cl5 lf_M_171 (by decide) rfl (congrArg (fun z => some (Value.int z)) hd.w) ?_
          refine ep_if_ne (tgt := 203) d_M_readEntity_103 (by decide) (fun z => absurd (by rw [hw0]; rfl) z) (fun _ => ?_)
          refine ep_iload_n (j := 3) d_M_readEntity_106 rfl rfl ?_
          refine ep_if_eq (tgt := 121) d_M_readEntity_107 (by decide) (fun z => absurd z (by decide)) (fun _ => ?_)
          refine ep_aload_n (j := 0) d_M_readEntity_110 rfl rfl ?_
          refine ep_getf (fi := 23) (v := .int (nI s.p)) d_M_readEntity_111 cl5 lf_M_168 (by decide) rfl (congrArg (fun z => some (Value.int z)) hd.p) ?_
          refine ep_aload_n (j := 0) d_M_readEntity_114 rfl rfl ?_
          refine ep_getf (fi := 10) (v := .int (nI L.length)) d_M_readEntity_115 cl5 lf_M_157 (by decide) rfl (congrArg (fun z => some (Value.int z)) hd.z) ?_
          refine ep_icmp_ge (tgt := 203) d_M_readEntity_118 (by decide) (fun _ => ?_) (fun z => absurd (nI_le (by omega) (by omega)) z)
          exact M_re_e hd (fun w => by have := hre.1 w; omega) (fun w => ⟨⟨Or.inr (hre.2 w).1, (hre.2 w).2.1, (hre.2 w).2.2.1, (hre.2 w).2.2.2.1, (hre.2 w).2.2.2.2.1⟩, by have := (hre.2 w).2.2.2.2.2; omega⟩) (Or.inr ⟨_, rfl⟩)
      · rcases hlv with rfl | ⟨y, rfl⟩
        · refine ep_aload_n (j := 0) d_M_readEntity_99 rfl rfl ?_
          refine ep_getf (fi := 24) (v := .int (bI s.wr)) d_M_readEntity_100 cl5 lf_M_171 (by decide) rfl (congrArg (fun z => some (Value.int z)) hd.w) ?_
          refine ep_if_ne (tgt := 203) d_M_readEntity_103 (by decide) (fun z => absurd (by rw [hw0]; rfl) z) (fun _ => ?_)
          refine ep_iload_n (j := 3) d_M_readEntity_106 rfl rfl ?_
          refine ep_if_eq (tgt := 121) d_M_readEntity_107 (by decide) (fun z => absurd z (by decide)) (fun _ => ?_)
          refine ep_aload_n (j := 0) d_M_readEntity_110 rfl rfl ?_
          refine ep_getf (fi := 23) (v := .int (nI s.p)) d_M_readEntity_111 cl5 lf_M_168 (by decide) rfl (congrArg (fun z => some (Value.int z)) hd.p) ?_
          refine ep_aload_n (j := 0) d_M_readEntity_114 rfl rfl ?_
          refine ep_getf (fi := 10) (v := .int (nI L.length)) d_M_readEntity_115 cl5 lf_M_157 (by decide) rfl (congrArg (fun z => some (Value.int z)) hd.z) ?_
          refine ep_icmp_ge (tgt := 203) d_M_readEntity_118 (by decide) (fun _ => ?_) (fun z => absurd (nI_le (by omega) (by omega)) z)
          exact M_re_e hd (fun w => by have := hre.1 w; omega) (fun w => ⟨⟨Or.inr (hre.2 w).1, (hre.2 w).2.1, (hre.2 w).2.2.1, (hre.2 w).2.2.2.1, (hre.2 w).2.2.2.2.1⟩, by have := (hre.2 w).2.2.2.2.2; omega⟩) (Or.inl rfl)
        · refine ep_aload_n (j := 0) d_M_readEntity_99 rfl rfl ?_
          refine ep_getf (fi := 24) (v := .int (bI s.wr)) d_M_readEntity_100 cl5 lf_M_171 (by decide) rfl (congrArg (fun z => some (Value.int z)) hd.w) ?_
          refine ep_if_ne (tgt := 203) d_M_readEntity_103 (by decide) (fun z => absurd (by rw [hw0]; rfl) z) (fun _ => ?_)
          refine ep_iload_n (j := 3) d_M_readEntity_106 rfl rfl ?_
          refine ep_if_eq (tgt := 121) d_M_readEntity_107 (by decide) (fun z => absurd z (by decide)) (fun _ => ?_)
          refine ep_aload_n (j := 0) d_M_readEntity_110 rfl rfl ?_
          refine ep_getf (fi := 23) (v := .int (nI s.p)) d_M_readEntity_111 cl5 lf_M_168 (by decide) rfl (congrArg (fun z => some (Value.int z)) hd.p) ?_
          refine ep_aload_n (j := 0) d_M_readEntity_114 rfl rfl ?_
          refine ep_getf (fi := 10) (v := .int (nI L.length)) d_M_readEntity_115 cl5 lf_M_157 (by decide) rfl (congrArg (fun z => some (Value.int z)) hd.z) ?_
          refine ep_icmp_ge (tgt := 203) d_M_readEntity_118 (by decide) (fun _ => ?_) (fun z => absurd (nI_le (by omega) (by omega)) z)
          exact M_re_e hd (fun w => by have := hre.1 w; omega) (fun w => ⟨⟨Or.inr (hre.2 w).1, (hre.2 w).2.1, (hre.2 w).2.2.1, (hre.2 w).2.2.2.1, (hre.2 w).2.2.2.2.1⟩, by have := (hre.2 w).2.2.2.2.2; omega⟩) (Or.inr ⟨_, rfl⟩)
      · rcases hlv with rfl | ⟨y, rfl⟩
        · refine ep_aload_n (j := 0) d_M_readEntity_99 rfl rfl ?_
          refine ep_getf (fi := 24) (v := .int (bI s.wr)) d_M_readEntity_100 cl5 lf_M_171 (by decide) rfl (congrArg (fun z => some (Value.int z)) hd.w) ?_
          refine ep_if_ne (tgt := 203) d_M_readEntity_103 (by decide) (fun z => absurd (by rw [hw0]; rfl) z) (fun _ => ?_)
          refine ep_iload_n (j := 3) d_M_readEntity_106 rfl rfl ?_
          refine ep_if_eq (tgt := 121) d_M_readEntity_107 (by decide) (fun z => absurd z (by decide)) (fun _ => ?_)
          refine ep_aload_n (j := 0) d_M_readEntity_110 rfl rfl ?_
          refine ep_getf (fi := 23) (v := .int (nI s.p)) d_M_readEntity_111 cl5 lf_M_168 (by decide) rfl (congrArg (fun z => some (Value.int z)) hd.p) ?_
          refine ep_aload_n (j := 0) d_M_readEntity_114 rfl rfl ?_
          refine ep_getf (fi := 10) (v := .int (nI L.length)) d_M_readEntity_115 cl5 lf_M_157 (by decide) rfl (congrArg (fun z => some (Value.int z)) hd.z) ?_
          refine ep_icmp_ge (tgt := 203) d_M_readEntity_118 (by decide) (fun _ => ?_) (fun z => absurd (nI_le (by omega) (by omega)) z)
          exact M_re_e hd (fun w => by have := hre.1 w; omega) (fun w => ⟨⟨Or.inr (hre.2 w).1, (hre.2 w).2.1, (hre.2 w).2.2.1, (hre.2 w).2.2.2.1, (hre.2 w).2.2.2.2.1⟩, by have := (hre.2 w).2.2.2.2.2; omega⟩) (Or.inl rfl)
        · refine ep_aload_n (j := 0) d_M_readEntity_99 rfl rfl ?_
          refine ep_getf (fi := 24) (v := .int (bI s.wr)) d_M_readEntity_100 cl5 lf_M_171 (by decide) rfl (congrArg (fun z => some (Value.int z)) hd.w) ?_
          refine ep_if_ne (tgt := 203) d_M_readEntity_103 (by decide) (fun z => absurd (by rw [hw0]; rfl) z) (fun _ => ?_)
          refine ep_iload_n (j := 3) d_M_readEntity_106 rfl rfl ?_
          refine ep_if_eq (tgt := 121) d_M_readEntity_107 (by decide) (fun z => absurd z (by decide)) (fun _ => ?_)
          refine ep_aload_n (j := 0) d_M_readEntity_110 rfl rfl ?_
          refine ep_getf (fi := 23) (v := .int (nI s.p)) d_M_readEntity_111 cl5 lf_M_168 (by decide) rfl (congrArg (fun z => some (Value.int z)) hd.p) ?_
          refine ep_aload_n (j := 0) d_M_readEntity_114 rfl rfl ?_
          refine ep_getf (fi := 10) (v := .int (nI L.length)) d_M_readEntity_115 cl5 lf_M_157 (by decide) rfl (congrArg (fun z => some (Value.int z)) hd.z) ?_
          refine ep_icmp_ge (tgt := 203) d_M_readEntity_118 (by decide) (fun _ => ?_) (fun z => absurd (nI_le (by omega) (by omega)) z)
          exact M_re_e hd (fun w => by have := hre.1 w; omega) (fun w => ⟨⟨Or.inr (hre.2 w).1, (hre.2 w).2.1, (hre.2 w).2.2.1, (hre.2 w).2.2.2.1, (hre.2 w).2.2.2.2.1⟩, by have := (hre.2 w).2.2.2.2.2; omega⟩) (Or.inr ⟨_, rfl⟩)
      · rcases hlv with rfl | ⟨y, rfl⟩
        · refine ep_aload_n (j := 0) d_M_readEntity_99 rfl rfl ?_
          refine ep_getf (fi := 24) (v := .int (bI s.wr)) d_M_readEntity_100 cl5 lf_M_171 (by decide) rfl (congrArg (fun z => some (Value.int z)) hd.w) ?_
          refine ep_if_ne (tgt := 203) d_M_readEntity_103 (by decide) (fun z => absurd (by rw [hw0]; rfl) z) (fun _ => ?_)
          refine ep_iload_n (j := 3) d_M_readEntity_106 rfl rfl ?_
          refine ep_if_eq (tgt := 121) d_M_readEntity_107 (by decide) (fun z => absurd z (by decide)) (fun _ => ?_)
          refine ep_aload_n (j := 0) d_M_readEntity_110 rfl rfl ?_
          refine ep_getf (fi := 23) (v := .int (nI s.p)) d_M_readEntity_111 cl5 lf_M_168 (by decide) rfl (congrArg (fun z => some (Value.int z)) hd.p) ?_
          refine ep_aload_n (j := 0) d_M_readEntity_114 rfl rfl ?_
          refine ep_getf (fi := 10) (v := .int (nI L.length)) d_M_readEntity_115 cl5 lf_M_157 (by decide) rfl (congrArg (fun z => some (Value.int z)) hd.z) ?_
          refine ep_icmp_ge (tgt := 203) d_M_readEntity_118 (by decide) (fun _ => ?_) (fun z => absurd (nI_le (by omega) (by omega)) z)
          exact M_re_e hd (fun w => by have := hre.1 w; omega) (fun w => ⟨⟨Or.inr (hre.2 w).1, (hre.2 w).2.1, (hre.2 w).2.2.1, (hre.2 w).2.2.2.1, (hre.2 w).2.2.2.2.1⟩, by have := (hre.2 w).2.2.2.2.2; omega⟩) (Or.inl rfl)
        · refine ep_aload_n (j := 0) d_M_readEntity_99 rfl rfl ?_
          refine ep_getf (fi := 24) (v := .int (bI s.wr)) d_M_readEntity_100 cl5 lf_M_171 (by decide) rfl (congrArg (fun z => some (Value.int z)) hd.w) ?_
          refine ep_if_ne (tgt := 203) d_M_readEntity_103 (by decide) (fun z => absurd (by rw [hw0]; rfl) z) (fun _ => ?_)
          refine ep_iload_n (j := 3) d_M_readEntity_106 rfl rfl ?_
          refine ep_if_eq (tgt := 121) d_M_readEntity_107 (by decide) (fun z => absurd z (by decide)) (fun _ => ?_)
          refine ep_aload_n (j := 0) d_M_readEntity_110 rfl rfl ?_
          refine ep_getf (fi := 23) (v := .int (nI s.p)) d_M_readEntity_111 cl5 lf_M_168 (by decide) rfl (congrArg (fun z => some (Value.int z)) hd.p) ?_
          refine ep_aload_n (j := 0) d_M_readEntity_114 rfl rfl ?_
          refine ep_getf (fi := 10) (v := .int (nI L.length)) d_M_readEntity_115 cl5 lf_M_157 (by decide) rfl (congrArg (fun z => some (Value.int z)) hd.z) ?_
          refine ep_icmp_ge (tgt := 203) d_M_readEntity_118 (by decide) (fun _ => ?_) (fun z => absurd (nI_le (by omega) (by omega)) z)
          exact M_re_e hd (fun w => by have := hre.1 w; omega) (fun w => ⟨⟨Or.inr (hre.2 w).1, (hre.2 w).2.1, (hre.2 w).2.2.1, (hre.2 w).2.2.2.1, (hre.2 w).2.2.2.2.1⟩, by have := (hre.2 w).2.2.2.2.2; omega⟩) (Or.inr ⟨_, rfl⟩)
  | @step m s s1 s2 p hw hlt hp2 hm hLp hV1 _ ih =>
    intro x rI rA hx hd hre lv hlv
    have hL := hd.l1
    rcases hx with ⟨rfl, rfl⟩ | ⟨rfl, rfl⟩ | ⟨rfl, rfl⟩ | ⟨rfl, rfl⟩ | ⟨rfl, rfl⟩
    · rcases hlv with rfl | ⟨y, rfl⟩
      · refine ep_aload_n (j := 0) d_M_readEntity_99 rfl rfl ?_
        refine ep_getf (fi := 24) (v := .int (bI s.wr)) d_M_readEntity_100 cl5 lf_M_171 (by decide) rfl (congrArg (fun z => some (Value.int z)) hd.w) ?_
        refine ep_if_ne (tgt := 203) d_M_readEntity_103 (by decide) (fun z => absurd (by rw [hw]; rfl) z) (fun _ => ?_)
        refine ep_iload_n (j := 3) d_M_readEntity_106 rfl rfl ?_
        refine ep_if_eq (tgt := 121) d_M_readEntity_107 (by decide) (fun _ => ?_) (fun z => absurd rfl z)
        refine ep_aload_n (j := 0) d_M_readEntity_121 rfl rfl ?_
        refine ep_iconst (v := 1) d_M_readEntity_122 (by decide) ?_
        refine ep_callVm (As := [.int 1]) (st := []) d_M_readEntity_123 lk_M_245 cal_M_wholeType tm_M_wholeType ts_M_wholeType rfl rfl rfl (Nat.le_of_ble_eq_true rfl) (Nat.le_of_ble_eq_true rfl) rfl rfl (M_wholeType hLp hw hd) (fun rI1 rA1 hd1 => ?_)
        refine ep_istore (lv' := [(0, .ref 16), (1, .int n), (2, .int gv), (3, .int 0), (4, .int p)]) [1, 2, 3, 4, 0] d_M_readEntity_126 (by decide) rfl ?_
        refine ep_aload_n (j := 0) d_M_readEntity_128 rfl rfl ?_
        refine ep_join (pc2 := 166) (lv2 := [(0, .ref 16), (1, .int n), (2, .int gv), (3, .int 0), (4, .int p)]) (st2 := [.int (bI (mPw 0 p s1)), .ref 16]) ?_ (fun k166 => ?_)
        · refine ep_putf' (fi := 24) (h2 := HC X cI cA (upd rI1 24 (bI (mPw 0 p s1))) rA1 ol J) d_M_readEntity_166 cl5 lf_M_171 (by decide) (Or.inl rfl) (bI_f _) rfl hI_16_24 ?_
          have hd2 : MD L S ct (upd rI1 24 (bI (mPw 0 p s1))) rA1 ((MS.u_wr s1 (mPw 0 p s1))) := hd1.sw (q := (mPw 0 p s1)) rfl
          generalize upd rI1 24 (bI (mPw 0 p s1)) = rI2 at hd2 ⊢
          refine ep_aload_n (j := 0) d_M_readEntity_169 rfl rfl ?_
          refine ep_getf (fi := 22) (v := .ref 30) d_M_readEntity_170 cl5 lf_M_49 (by decide) rfl rfl ?_
          refine ep_iload_n (j := 3) d_M_readEntity_173 rfl rfl ?_
          refine ep_iconst (v := 3) d_M_readEntity_174 (by decide) ?_
          refine ep_icmp_ge (tgt := 182) d_M_readEntity_175 (by decide) (fun z => absurd z (by decide)) (fun _ => ?_)
          refine ep_iload_n (j := 3) d_M_readEntity_178 rfl rfl ?_
          refine ep_goto (tgt := 183) d_M_readEntity_179 (by decide) ?_
          refine ep_join (pc2 := 196) (lv2 := [(0, .ref 16), (1, .int n), (2, .int gv), (3, .int 0), (4, .int p)]) (st2 := [.int (if mPw 0 p s1 = true then -1 else p), .int 0, .ref 30]) ?_ (fun k196 => ?_)
          · refine ep_iast' (h2 := HC X cI cA rI2 (va_up rA1 22 (upd (rA1 22) 0 (if mPw 0 p s1 = true then -1 else p))) ol J) 0 d_M_readEntity_196 rfl (by decide) (by decide) (by decide) hA_30 ?_
            have hd3 : MD L S ct rI2 (va_up rA1 22 (upd (rA1 22) 0 (if mPw 0 p s1 = true then -1 else p))) (mPar 0 p s1) := by have := hd2.qs 0 (by decide) (if mPw 0 p s1 = true then -1 else p); exact this
            generalize va_up rA1 22 (upd (rA1 22) 0 (if mPw 0 p s1 = true then -1 else p)) = rA3 at hd3 ⊢
            refine ep_iinc (v := 1) (j := 3) (lv' := [(0, .ref 16), (1, .int n), (2, .int gv), (3, .int 1), (4, .int p)]) [1, 2, 3, 0, 4] d_M_readEntity_197 rfl (by decide) (by decide) rfl ?_
            refine ep_goto (tgt := 99) d_M_readEntity_200 (by decide) ?_
            exact ih (Or.inr (Or.inl ⟨rfl, rfl⟩)) hd3 hre (Or.inr ⟨_, rfl⟩)
          · refine ep_aload_n (j := 0) d_M_readEntity_183 rfl rfl ?_
            refine ep_getf (fi := 24) (v := .int (bI ((MS.u_wr s1 (mPw 0 p s1))).wr)) d_M_readEntity_184 cl5 lf_M_171 (by decide) rfl (congrArg (fun z => some (Value.int z)) hd2.w) ?_
            refine ep_if_eq (tgt := 194) d_M_readEntity_187 (by decide) (fun c187 => ?_) (fun c187 => ?_)
            · refine ep_iload (j := 4) d_M_readEntity_194 rfl ?_
              refine ep_cg (y := if mPw 0 p s1 = true then -1 else p) ((if_neg (by rw [show mPw 0 p s1 = false from bI_n c187]; decide)).symm) ?_
              exact k196
            · refine ep_iconst (v := (-1)) d_M_readEntity_190 (by decide) ?_
              refine ep_goto (tgt := 196) d_M_readEntity_191 (by decide) ?_
              refine ep_cg (y := if mPw 0 p s1 = true then -1 else p) ((if_pos (bI_t c187)).symm) ?_
              exact k196
        · refine ep_aload_n (j := 0) d_M_readEntity_129 rfl rfl ?_
          refine ep_getf (fi := 24) (v := .int (bI s1.wr)) d_M_readEntity_130 cl5 lf_M_171 (by decide) rfl (congrArg (fun z => some (Value.int z)) hd1.w) ?_
          refine ep_if_ne (tgt := 161) d_M_readEntity_133 (by decide) (fun c133 => ?_) (fun c133 => ?_)
          · refine ep_iconst (v := 1) d_M_readEntity_161 (by decide) ?_
            refine ep_goto (tgt := 166) d_M_readEntity_162 (by decide) ?_
            refine ep_cg (y := bI (mPw 0 p s1)) (bor1 c133) ?_
            exact k166
          · refine ep_iload_n (j := 3) d_M_readEntity_136 rfl rfl ?_
            refine ep_iconst (v := 3) d_M_readEntity_137 (by decide) ?_
            refine ep_icmp_eq (tgt := 161) d_M_readEntity_138 (by decide) (fun z => absurd z (by decide)) (fun _ => ?_)
            refine ep_aload_n (j := 0) d_M_readEntity_141 rfl rfl ?_
            refine ep_getf (fi := 3) (v := .ref 17) d_M_readEntity_142 cl5 lf_M_7 (by decide) rfl rfl ?_
            refine ep_iload (j := 4) d_M_readEntity_145 rfl ?_
            refine ep_kind (N := s1.N) d_M_readEntity_147 hd1.n (by have := (hV1 (bI_n c133)).2; omega) (hV1 (bI_n c133)).1 ?_
            refine ep_if_ne (tgt := 165) d_M_readEntity_148 (by decide) (fun c148 => ?_) (fun c148 => ?_)
            · refine ep_iconst (v := 0) d_M_readEntity_165 (by decide) ?_
              refine ep_cg (y := bI (mPw 0 p s1)) (bor0 c133 (decide_eq_false (fun u => u.elim (by decide) (fun v => c148 v.1)))) ?_
              exact k166
            · refine ep_aload_n (j := 0) d_M_readEntity_151 rfl rfl ?_
              refine ep_getf (fi := 4) (v := .ref 18) d_M_readEntity_152 cl5 lf_M_13 (by decide) rfl rfl ?_
              refine ep_iload (j := 4) d_M_readEntity_155 rfl ?_
              refine ep_val (N := s1.N) d_M_readEntity_157 hd1.n (by have := (hV1 (bI_n c133)).2; omega) (hV1 (bI_n c133)).1 ?_
              refine ep_if_ne (tgt := 165) d_M_readEntity_158 (by decide) (fun c158 => ?_) (fun c158 => ?_)
              · refine ep_iconst (v := 0) d_M_readEntity_165 (by decide) ?_
                refine ep_cg (y := bI (mPw 0 p s1)) (bor0 c133 (decide_eq_false (fun u => u.elim (by decide) (fun v => c158 v.2)))) ?_
                exact k166
              · refine ep_iconst (v := 1) d_M_readEntity_161 (by decide) ?_
                refine ep_goto (tgt := 166) d_M_readEntity_162 (by decide) ?_
                refine ep_cg (y := bI (mPw 0 p s1)) (bor2 c133 (decide_eq_true (Or.inr ⟨c148, c158⟩))) ?_
                exact k166
      · refine ep_aload_n (j := 0) d_M_readEntity_99 rfl rfl ?_
        refine ep_getf (fi := 24) (v := .int (bI s.wr)) d_M_readEntity_100 cl5 lf_M_171 (by decide) rfl (congrArg (fun z => some (Value.int z)) hd.w) ?_
        refine ep_if_ne (tgt := 203) d_M_readEntity_103 (by decide) (fun z => absurd (by rw [hw]; rfl) z) (fun _ => ?_)
        refine ep_iload_n (j := 3) d_M_readEntity_106 rfl rfl ?_
        refine ep_if_eq (tgt := 121) d_M_readEntity_107 (by decide) (fun _ => ?_) (fun z => absurd rfl z)
        refine ep_aload_n (j := 0) d_M_readEntity_121 rfl rfl ?_
        refine ep_iconst (v := 1) d_M_readEntity_122 (by decide) ?_
        refine ep_callVm (As := [.int 1]) (st := []) d_M_readEntity_123 lk_M_245 cal_M_wholeType tm_M_wholeType ts_M_wholeType rfl rfl rfl (Nat.le_of_ble_eq_true rfl) (Nat.le_of_ble_eq_true rfl) rfl rfl (M_wholeType hLp hw hd) (fun rI1 rA1 hd1 => ?_)
        refine ep_istore (lv' := [(0, .ref 16), (1, .int n), (2, .int gv), (3, .int 0), (4, .int p)]) [1, 2, 3, 4, 0] d_M_readEntity_126 (by decide) rfl ?_
        refine ep_aload_n (j := 0) d_M_readEntity_128 rfl rfl ?_
        refine ep_join (pc2 := 166) (lv2 := [(0, .ref 16), (1, .int n), (2, .int gv), (3, .int 0), (4, .int p)]) (st2 := [.int (bI (mPw 0 p s1)), .ref 16]) ?_ (fun k166 => ?_)
        · refine ep_putf' (fi := 24) (h2 := HC X cI cA (upd rI1 24 (bI (mPw 0 p s1))) rA1 ol J) d_M_readEntity_166 cl5 lf_M_171 (by decide) (Or.inl rfl) (bI_f _) rfl hI_16_24 ?_
          have hd2 : MD L S ct (upd rI1 24 (bI (mPw 0 p s1))) rA1 ((MS.u_wr s1 (mPw 0 p s1))) := hd1.sw (q := (mPw 0 p s1)) rfl
          generalize upd rI1 24 (bI (mPw 0 p s1)) = rI2 at hd2 ⊢
          refine ep_aload_n (j := 0) d_M_readEntity_169 rfl rfl ?_
          refine ep_getf (fi := 22) (v := .ref 30) d_M_readEntity_170 cl5 lf_M_49 (by decide) rfl rfl ?_
          refine ep_iload_n (j := 3) d_M_readEntity_173 rfl rfl ?_
          refine ep_iconst (v := 3) d_M_readEntity_174 (by decide) ?_
          refine ep_icmp_ge (tgt := 182) d_M_readEntity_175 (by decide) (fun z => absurd z (by decide)) (fun _ => ?_)
          refine ep_iload_n (j := 3) d_M_readEntity_178 rfl rfl ?_
          refine ep_goto (tgt := 183) d_M_readEntity_179 (by decide) ?_
          refine ep_join (pc2 := 196) (lv2 := [(0, .ref 16), (1, .int n), (2, .int gv), (3, .int 0), (4, .int p)]) (st2 := [.int (if mPw 0 p s1 = true then -1 else p), .int 0, .ref 30]) ?_ (fun k196 => ?_)
          · refine ep_iast' (h2 := HC X cI cA rI2 (va_up rA1 22 (upd (rA1 22) 0 (if mPw 0 p s1 = true then -1 else p))) ol J) 0 d_M_readEntity_196 rfl (by decide) (by decide) (by decide) hA_30 ?_
            have hd3 : MD L S ct rI2 (va_up rA1 22 (upd (rA1 22) 0 (if mPw 0 p s1 = true then -1 else p))) (mPar 0 p s1) := by have := hd2.qs 0 (by decide) (if mPw 0 p s1 = true then -1 else p); exact this
            generalize va_up rA1 22 (upd (rA1 22) 0 (if mPw 0 p s1 = true then -1 else p)) = rA3 at hd3 ⊢
            refine ep_iinc (v := 1) (j := 3) (lv' := [(0, .ref 16), (1, .int n), (2, .int gv), (3, .int 1), (4, .int p)]) [1, 2, 3, 0, 4] d_M_readEntity_197 rfl (by decide) (by decide) rfl ?_
            refine ep_goto (tgt := 99) d_M_readEntity_200 (by decide) ?_
            exact ih (Or.inr (Or.inl ⟨rfl, rfl⟩)) hd3 hre (Or.inr ⟨_, rfl⟩)
          · refine ep_aload_n (j := 0) d_M_readEntity_183 rfl rfl ?_
            refine ep_getf (fi := 24) (v := .int (bI ((MS.u_wr s1 (mPw 0 p s1))).wr)) d_M_readEntity_184 cl5 lf_M_171 (by decide) rfl (congrArg (fun z => some (Value.int z)) hd2.w) ?_
            refine ep_if_eq (tgt := 194) d_M_readEntity_187 (by decide) (fun c187 => ?_) (fun c187 => ?_)
            · refine ep_iload (j := 4) d_M_readEntity_194 rfl ?_
              refine ep_cg (y := if mPw 0 p s1 = true then -1 else p) ((if_neg (by rw [show mPw 0 p s1 = false from bI_n c187]; decide)).symm) ?_
              exact k196
            · refine ep_iconst (v := (-1)) d_M_readEntity_190 (by decide) ?_
              refine ep_goto (tgt := 196) d_M_readEntity_191 (by decide) ?_
              refine ep_cg (y := if mPw 0 p s1 = true then -1 else p) ((if_pos (bI_t c187)).symm) ?_
              exact k196
        · refine ep_aload_n (j := 0) d_M_readEntity_129 rfl rfl ?_
          refine ep_getf (fi := 24) (v := .int (bI s1.wr)) d_M_readEntity_130 cl5 lf_M_171 (by decide) rfl (congrArg (fun z => some (Value.int z)) hd1.w) ?_
          refine ep_if_ne (tgt := 161) d_M_readEntity_133 (by decide) (fun c133 => ?_) (fun c133 => ?_)
          · refine ep_iconst (v := 1) d_M_readEntity_161 (by decide) ?_
            refine ep_goto (tgt := 166) d_M_readEntity_162 (by decide) ?_
            refine ep_cg (y := bI (mPw 0 p s1)) (bor1 c133) ?_
            exact k166
          · refine ep_iload_n (j := 3) d_M_readEntity_136 rfl rfl ?_
            refine ep_iconst (v := 3) d_M_readEntity_137 (by decide) ?_
            refine ep_icmp_eq (tgt := 161) d_M_readEntity_138 (by decide) (fun z => absurd z (by decide)) (fun _ => ?_)
            refine ep_aload_n (j := 0) d_M_readEntity_141 rfl rfl ?_
            refine ep_getf (fi := 3) (v := .ref 17) d_M_readEntity_142 cl5 lf_M_7 (by decide) rfl rfl ?_
            refine ep_iload (j := 4) d_M_readEntity_145 rfl ?_
            refine ep_kind (N := s1.N) d_M_readEntity_147 hd1.n (by have := (hV1 (bI_n c133)).2; omega) (hV1 (bI_n c133)).1 ?_
            refine ep_if_ne (tgt := 165) d_M_readEntity_148 (by decide) (fun c148 => ?_) (fun c148 => ?_)
            · refine ep_iconst (v := 0) d_M_readEntity_165 (by decide) ?_
              refine ep_cg (y := bI (mPw 0 p s1)) (bor0 c133 (decide_eq_false (fun u => u.elim (by decide) (fun v => c148 v.1)))) ?_
              exact k166
            · refine ep_aload_n (j := 0) d_M_readEntity_151 rfl rfl ?_
              refine ep_getf (fi := 4) (v := .ref 18) d_M_readEntity_152 cl5 lf_M_13 (by decide) rfl rfl ?_
              refine ep_iload (j := 4) d_M_readEntity_155 rfl ?_
              refine ep_val (N := s1.N) d_M_readEntity_157 hd1.n (by have := (hV1 (bI_n c133)).2; omega) (hV1 (bI_n c133)).1 ?_
              refine ep_if_ne (tgt := 165) d_M_readEntity_158 (by decide) (fun c158 => ?_) (fun c158 => ?_)
              · refine ep_iconst (v := 0) d_M_readEntity_165 (by decide) ?_
                refine ep_cg (y := bI (mPw 0 p s1)) (bor0 c133 (decide_eq_false (fun u => u.elim (by decide) (fun v => c158 v.2)))) ?_
                exact k166
              · refine ep_iconst (v := 1) d_M_readEntity_161 (by decide) ?_
                refine ep_goto (tgt := 166) d_M_readEntity_162 (by decide) ?_
                refine ep_cg (y := bI (mPw 0 p s1)) (bor2 c133 (decide_eq_true (Or.inr ⟨c148, c158⟩))) ?_
                exact k166
    · rcases hlv with rfl | ⟨y, rfl⟩
      · refine ep_aload_n (j := 0) d_M_readEntity_99 rfl rfl ?_
        refine ep_getf (fi := 24) (v := .int (bI s.wr)) d_M_readEntity_100 cl5 lf_M_171 (by decide) rfl (congrArg (fun z => some (Value.int z)) hd.w) ?_
        refine ep_if_ne (tgt := 203) d_M_readEntity_103 (by decide) (fun z => absurd (by rw [hw]; rfl) z) (fun _ => ?_)
        refine ep_iload_n (j := 3) d_M_readEntity_106 rfl rfl ?_
        refine ep_if_eq (tgt := 121) d_M_readEntity_107 (by decide) (fun z => absurd z (by decide)) (fun _ => ?_)
        refine ep_aload_n (j := 0) d_M_readEntity_110 rfl rfl ?_
        refine ep_getf (fi := 23) (v := .int (nI s.p)) d_M_readEntity_111 cl5 lf_M_168 (by decide) rfl (congrArg (fun z => some (Value.int z)) hd.p) ?_
        refine ep_aload_n (j := 0) d_M_readEntity_114 rfl rfl ?_
        refine ep_getf (fi := 10) (v := .int (nI L.length)) d_M_readEntity_115 cl5 lf_M_157 (by decide) rfl (congrArg (fun z => some (Value.int z)) hd.z) ?_
        refine ep_icmp_ge (tgt := 203) d_M_readEntity_118 (by decide) (fun z => absurd z (fun z => absurd ((nI_leI (by omega) (by omega)).mp z) (by have := hlt.resolve_left (by decide); omega))) (fun _ => ?_)
        refine ep_aload_n (j := 0) d_M_readEntity_121 rfl rfl ?_
        refine ep_iconst (v := 1) d_M_readEntity_122 (by decide) ?_
        refine ep_callVm (As := [.int 1]) (st := []) d_M_readEntity_123 lk_M_245 cal_M_wholeType tm_M_wholeType ts_M_wholeType rfl rfl rfl (Nat.le_of_ble_eq_true rfl) (Nat.le_of_ble_eq_true rfl) rfl rfl (M_wholeType hLp hw hd) (fun rI1 rA1 hd1 => ?_)
        refine ep_istore (lv' := [(0, .ref 16), (1, .int n), (2, .int gv), (3, .int 1), (4, .int p)]) [1, 2, 3, 4, 0] d_M_readEntity_126 (by decide) rfl ?_
        refine ep_aload_n (j := 0) d_M_readEntity_128 rfl rfl ?_
        refine ep_join (pc2 := 166) (lv2 := [(0, .ref 16), (1, .int n), (2, .int gv), (3, .int 1), (4, .int p)]) (st2 := [.int (bI (mPw 1 p s1)), .ref 16]) ?_ (fun k166 => ?_)
        · refine ep_putf' (fi := 24) (h2 := HC X cI cA (upd rI1 24 (bI (mPw 1 p s1))) rA1 ol J) d_M_readEntity_166 cl5 lf_M_171 (by decide) (Or.inl rfl) (bI_f _) rfl hI_16_24 ?_
          have hd2 : MD L S ct (upd rI1 24 (bI (mPw 1 p s1))) rA1 ((MS.u_wr s1 (mPw 1 p s1))) := hd1.sw (q := (mPw 1 p s1)) rfl
          generalize upd rI1 24 (bI (mPw 1 p s1)) = rI2 at hd2 ⊢
          refine ep_aload_n (j := 0) d_M_readEntity_169 rfl rfl ?_
          refine ep_getf (fi := 22) (v := .ref 30) d_M_readEntity_170 cl5 lf_M_49 (by decide) rfl rfl ?_
          refine ep_iload_n (j := 3) d_M_readEntity_173 rfl rfl ?_
          refine ep_iconst (v := 3) d_M_readEntity_174 (by decide) ?_
          refine ep_icmp_ge (tgt := 182) d_M_readEntity_175 (by decide) (fun z => absurd z (by decide)) (fun _ => ?_)
          refine ep_iload_n (j := 3) d_M_readEntity_178 rfl rfl ?_
          refine ep_goto (tgt := 183) d_M_readEntity_179 (by decide) ?_
          refine ep_join (pc2 := 196) (lv2 := [(0, .ref 16), (1, .int n), (2, .int gv), (3, .int 1), (4, .int p)]) (st2 := [.int (if mPw 1 p s1 = true then -1 else p), .int 1, .ref 30]) ?_ (fun k196 => ?_)
          · refine ep_iast' (h2 := HC X cI cA rI2 (va_up rA1 22 (upd (rA1 22) 1 (if mPw 1 p s1 = true then -1 else p))) ol J) 1 d_M_readEntity_196 rfl (by decide) (by decide) (by decide) hA_30 ?_
            have hd3 : MD L S ct rI2 (va_up rA1 22 (upd (rA1 22) 1 (if mPw 1 p s1 = true then -1 else p))) (mPar 1 p s1) := by have := hd2.qs 1 (by decide) (if mPw 1 p s1 = true then -1 else p); exact this
            generalize va_up rA1 22 (upd (rA1 22) 1 (if mPw 1 p s1 = true then -1 else p)) = rA3 at hd3 ⊢
            refine ep_iinc (v := 2) (j := 3) (lv' := [(0, .ref 16), (1, .int n), (2, .int gv), (3, .int 2), (4, .int p)]) [1, 2, 3, 0, 4] d_M_readEntity_197 rfl (by decide) (by decide) rfl ?_
            refine ep_goto (tgt := 99) d_M_readEntity_200 (by decide) ?_
            exact ih (Or.inr (Or.inr (Or.inl ⟨rfl, rfl⟩))) hd3 hre (Or.inr ⟨_, rfl⟩)
          · refine ep_aload_n (j := 0) d_M_readEntity_183 rfl rfl ?_
            refine ep_getf (fi := 24) (v := .int (bI ((MS.u_wr s1 (mPw 1 p s1))).wr)) d_M_readEntity_184 cl5 lf_M_171 (by decide) rfl (congrArg (fun z => some (Value.int z)) hd2.w) ?_
            refine ep_if_eq (tgt := 194) d_M_readEntity_187 (by decide) (fun c187 => ?_) (fun c187 => ?_)
            · refine ep_iload (j := 4) d_M_readEntity_194 rfl ?_
              refine ep_cg (y := if mPw 1 p s1 = true then -1 else p) ((if_neg (by rw [show mPw 1 p s1 = false from bI_n c187]; decide)).symm) ?_
              exact k196
            · refine ep_iconst (v := (-1)) d_M_readEntity_190 (by decide) ?_
              refine ep_goto (tgt := 196) d_M_readEntity_191 (by decide) ?_
              refine ep_cg (y := if mPw 1 p s1 = true then -1 else p) ((if_pos (bI_t c187)).symm) ?_
              exact k196
        · refine ep_aload_n (j := 0) d_M_readEntity_129 rfl rfl ?_
          refine ep_getf (fi := 24) (v := .int (bI s1.wr)) d_M_readEntity_130 cl5 lf_M_171 (by decide) rfl (congrArg (fun z => some (Value.int z)) hd1.w) ?_
          refine ep_if_ne (tgt := 161) d_M_readEntity_133 (by decide) (fun c133 => ?_) (fun c133 => ?_)
          · refine ep_iconst (v := 1) d_M_readEntity_161 (by decide) ?_
            refine ep_goto (tgt := 166) d_M_readEntity_162 (by decide) ?_
            refine ep_cg (y := bI (mPw 1 p s1)) (bor1 c133) ?_
            exact k166
          · refine ep_iload_n (j := 3) d_M_readEntity_136 rfl rfl ?_
            refine ep_iconst (v := 3) d_M_readEntity_137 (by decide) ?_
            refine ep_icmp_eq (tgt := 161) d_M_readEntity_138 (by decide) (fun z => absurd z (by decide)) (fun _ => ?_)
            refine ep_aload_n (j := 0) d_M_readEntity_141 rfl rfl ?_
            refine ep_getf (fi := 3) (v := .ref 17) d_M_readEntity_142 cl5 lf_M_7 (by decide) rfl rfl ?_
            refine ep_iload (j := 4) d_M_readEntity_145 rfl ?_
            refine ep_kind (N := s1.N) d_M_readEntity_147 hd1.n (by have := (hV1 (bI_n c133)).2; omega) (hV1 (bI_n c133)).1 ?_
            refine ep_if_ne (tgt := 165) d_M_readEntity_148 (by decide) (fun c148 => ?_) (fun c148 => ?_)
            · refine ep_iconst (v := 0) d_M_readEntity_165 (by decide) ?_
              refine ep_cg (y := bI (mPw 1 p s1)) (bor0 c133 (decide_eq_false (fun u => u.elim (by decide) (fun v => c148 v.1)))) ?_
              exact k166
            · refine ep_aload_n (j := 0) d_M_readEntity_151 rfl rfl ?_
              refine ep_getf (fi := 4) (v := .ref 18) d_M_readEntity_152 cl5 lf_M_13 (by decide) rfl rfl ?_
              refine ep_iload (j := 4) d_M_readEntity_155 rfl ?_
              refine ep_val (N := s1.N) d_M_readEntity_157 hd1.n (by have := (hV1 (bI_n c133)).2; omega) (hV1 (bI_n c133)).1 ?_
              refine ep_if_ne (tgt := 165) d_M_readEntity_158 (by decide) (fun c158 => ?_) (fun c158 => ?_)
              · refine ep_iconst (v := 0) d_M_readEntity_165 (by decide) ?_
                refine ep_cg (y := bI (mPw 1 p s1)) (bor0 c133 (decide_eq_false (fun u => u.elim (by decide) (fun v => c158 v.2)))) ?_
                exact k166
              · refine ep_iconst (v := 1) d_M_readEntity_161 (by decide) ?_
                refine ep_goto (tgt := 166) d_M_readEntity_162 (by decide) ?_
                refine ep_cg (y := bI (mPw 1 p s1)) (bor2 c133 (decide_eq_true (Or.inr ⟨c148, c158⟩))) ?_
                exact k166
      · refine ep_aload_n (j := 0) d_M_readEntity_99 rfl rfl ?_
        refine ep_getf (fi := 24) (v := .int (bI s.wr)) d_M_readEntity_100 cl5 lf_M_171 (by decide) rfl (congrArg (fun z => some (Value.int z)) hd.w) ?_
        refine ep_if_ne (tgt := 203) d_M_readEntity_103 (by decide) (fun z => absurd (by rw [hw]; rfl) z) (fun _ => ?_)
        refine ep_iload_n (j := 3) d_M_readEntity_106 rfl rfl ?_
        refine ep_if_eq (tgt := 121) d_M_readEntity_107 (by decide) (fun z => absurd z (by decide)) (fun _ => ?_)
        refine ep_aload_n (j := 0) d_M_readEntity_110 rfl rfl ?_
        refine ep_getf (fi := 23) (v := .int (nI s.p)) d_M_readEntity_111 cl5 lf_M_168 (by decide) rfl (congrArg (fun z => some (Value.int z)) hd.p) ?_
        refine ep_aload_n (j := 0) d_M_readEntity_114 rfl rfl ?_
        refine ep_getf (fi := 10) (v := .int (nI L.length)) d_M_readEntity_115 cl5 lf_M_157 (by decide) rfl (congrArg (fun z => some (Value.int z)) hd.z) ?_
        refine ep_icmp_ge (tgt := 203) d_M_readEntity_118 (by decide) (fun z => absurd z (fun z => absurd ((nI_leI (by omega) (by omega)).mp z) (by have := hlt.resolve_left (by decide); omega))) (fun _ => ?_)
        refine ep_aload_n (j := 0) d_M_readEntity_121 rfl rfl ?_
        refine ep_iconst (v := 1) d_M_readEntity_122 (by decide) ?_
        refine ep_callVm (As := [.int 1]) (st := []) d_M_readEntity_123 lk_M_245 cal_M_wholeType tm_M_wholeType ts_M_wholeType rfl rfl rfl (Nat.le_of_ble_eq_true rfl) (Nat.le_of_ble_eq_true rfl) rfl rfl (M_wholeType hLp hw hd) (fun rI1 rA1 hd1 => ?_)
        refine ep_istore (lv' := [(0, .ref 16), (1, .int n), (2, .int gv), (3, .int 1), (4, .int p)]) [1, 2, 3, 4, 0] d_M_readEntity_126 (by decide) rfl ?_
        refine ep_aload_n (j := 0) d_M_readEntity_128 rfl rfl ?_
        refine ep_join (pc2 := 166) (lv2 := [(0, .ref 16), (1, .int n), (2, .int gv), (3, .int 1), (4, .int p)]) (st2 := [.int (bI (mPw 1 p s1)), .ref 16]) ?_ (fun k166 => ?_)
        · refine ep_putf' (fi := 24) (h2 := HC X cI cA (upd rI1 24 (bI (mPw 1 p s1))) rA1 ol J) d_M_readEntity_166 cl5 lf_M_171 (by decide) (Or.inl rfl) (bI_f _) rfl hI_16_24 ?_
          have hd2 : MD L S ct (upd rI1 24 (bI (mPw 1 p s1))) rA1 ((MS.u_wr s1 (mPw 1 p s1))) := hd1.sw (q := (mPw 1 p s1)) rfl
          generalize upd rI1 24 (bI (mPw 1 p s1)) = rI2 at hd2 ⊢
          refine ep_aload_n (j := 0) d_M_readEntity_169 rfl rfl ?_
          refine ep_getf (fi := 22) (v := .ref 30) d_M_readEntity_170 cl5 lf_M_49 (by decide) rfl rfl ?_
          refine ep_iload_n (j := 3) d_M_readEntity_173 rfl rfl ?_
          refine ep_iconst (v := 3) d_M_readEntity_174 (by decide) ?_
          refine ep_icmp_ge (tgt := 182) d_M_readEntity_175 (by decide) (fun z => absurd z (by decide)) (fun _ => ?_)
          refine ep_iload_n (j := 3) d_M_readEntity_178 rfl rfl ?_
          refine ep_goto (tgt := 183) d_M_readEntity_179 (by decide) ?_
          refine ep_join (pc2 := 196) (lv2 := [(0, .ref 16), (1, .int n), (2, .int gv), (3, .int 1), (4, .int p)]) (st2 := [.int (if mPw 1 p s1 = true then -1 else p), .int 1, .ref 30]) ?_ (fun k196 => ?_)
          · refine ep_iast' (h2 := HC X cI cA rI2 (va_up rA1 22 (upd (rA1 22) 1 (if mPw 1 p s1 = true then -1 else p))) ol J) 1 d_M_readEntity_196 rfl (by decide) (by decide) (by decide) hA_30 ?_
            have hd3 : MD L S ct rI2 (va_up rA1 22 (upd (rA1 22) 1 (if mPw 1 p s1 = true then -1 else p))) (mPar 1 p s1) := by have := hd2.qs 1 (by decide) (if mPw 1 p s1 = true then -1 else p); exact this
            generalize va_up rA1 22 (upd (rA1 22) 1 (if mPw 1 p s1 = true then -1 else p)) = rA3 at hd3 ⊢
            refine ep_iinc (v := 2) (j := 3) (lv' := [(0, .ref 16), (1, .int n), (2, .int gv), (3, .int 2), (4, .int p)]) [1, 2, 3, 0, 4] d_M_readEntity_197 rfl (by decide) (by decide) rfl ?_
            refine ep_goto (tgt := 99) d_M_readEntity_200 (by decide) ?_
            exact ih (Or.inr (Or.inr (Or.inl ⟨rfl, rfl⟩))) hd3 hre (Or.inr ⟨_, rfl⟩)
          · refine ep_aload_n (j := 0) d_M_readEntity_183 rfl rfl ?_
            refine ep_getf (fi := 24) (v := .int (bI ((MS.u_wr s1 (mPw 1 p s1))).wr)) d_M_readEntity_184 cl5 lf_M_171 (by decide) rfl (congrArg (fun z => some (Value.int z)) hd2.w) ?_
            refine ep_if_eq (tgt := 194) d_M_readEntity_187 (by decide) (fun c187 => ?_) (fun c187 => ?_)
            · refine ep_iload (j := 4) d_M_readEntity_194 rfl ?_
              refine ep_cg (y := if mPw 1 p s1 = true then -1 else p) ((if_neg (by rw [show mPw 1 p s1 = false from bI_n c187]; decide)).symm) ?_
              exact k196
            · refine ep_iconst (v := (-1)) d_M_readEntity_190 (by decide) ?_
              refine ep_goto (tgt := 196) d_M_readEntity_191 (by decide) ?_
              refine ep_cg (y := if mPw 1 p s1 = true then -1 else p) ((if_pos (bI_t c187)).symm) ?_
              exact k196
        · refine ep_aload_n (j := 0) d_M_readEntity_129 rfl rfl ?_
          refine ep_getf (fi := 24) (v := .int (bI s1.wr)) d_M_readEntity_130 cl5 lf_M_171 (by decide) rfl (congrArg (fun z => some (Value.int z)) hd1.w) ?_
          refine ep_if_ne (tgt := 161) d_M_readEntity_133 (by decide) (fun c133 => ?_) (fun c133 => ?_)
          · refine ep_iconst (v := 1) d_M_readEntity_161 (by decide) ?_
            refine ep_goto (tgt := 166) d_M_readEntity_162 (by decide) ?_
            refine ep_cg (y := bI (mPw 1 p s1)) (bor1 c133) ?_
            exact k166
          · refine ep_iload_n (j := 3) d_M_readEntity_136 rfl rfl ?_
            refine ep_iconst (v := 3) d_M_readEntity_137 (by decide) ?_
            refine ep_icmp_eq (tgt := 161) d_M_readEntity_138 (by decide) (fun z => absurd z (by decide)) (fun _ => ?_)
            refine ep_aload_n (j := 0) d_M_readEntity_141 rfl rfl ?_
            refine ep_getf (fi := 3) (v := .ref 17) d_M_readEntity_142 cl5 lf_M_7 (by decide) rfl rfl ?_
            refine ep_iload (j := 4) d_M_readEntity_145 rfl ?_
            refine ep_kind (N := s1.N) d_M_readEntity_147 hd1.n (by have := (hV1 (bI_n c133)).2; omega) (hV1 (bI_n c133)).1 ?_
            refine ep_if_ne (tgt := 165) d_M_readEntity_148 (by decide) (fun c148 => ?_) (fun c148 => ?_)
            · refine ep_iconst (v := 0) d_M_readEntity_165 (by decide) ?_
              refine ep_cg (y := bI (mPw 1 p s1)) (bor0 c133 (decide_eq_false (fun u => u.elim (by decide) (fun v => c148 v.1)))) ?_
              exact k166
            · refine ep_aload_n (j := 0) d_M_readEntity_151 rfl rfl ?_
              refine ep_getf (fi := 4) (v := .ref 18) d_M_readEntity_152 cl5 lf_M_13 (by decide) rfl rfl ?_
              refine ep_iload (j := 4) d_M_readEntity_155 rfl ?_
              refine ep_val (N := s1.N) d_M_readEntity_157 hd1.n (by have := (hV1 (bI_n c133)).2; omega) (hV1 (bI_n c133)).1 ?_
              refine ep_if_ne (tgt := 165) d_M_readEntity_158 (by decide) (fun c158 => ?_) (fun c158 => ?_)
              · refine ep_iconst (v := 0) d_M_readEntity_165 (by decide) ?_
                refine ep_cg (y := bI (mPw 1 p s1)) (bor0 c133 (decide_eq_false (fun u => u.elim (by decide) (fun v => c158 v.2)))) ?_
                exact k166
              · refine ep_iconst (v := 1) d_M_readEntity_161 (by decide) ?_
                refine ep_goto (tgt := 166) d_M_readEntity_162 (by decide) ?_
                refine ep_cg (y := bI (mPw 1 p s1)) (bor2 c133 (decide_eq_true (Or.inr ⟨c148, c158⟩))) ?_
                exact k166
    · rcases hlv with rfl | ⟨y, rfl⟩
      · refine ep_aload_n (j := 0) d_M_readEntity_99 rfl rfl ?_
        refine ep_getf (fi := 24) (v := .int (bI s.wr)) d_M_readEntity_100 cl5 lf_M_171 (by decide) rfl (congrArg (fun z => some (Value.int z)) hd.w) ?_
        refine ep_if_ne (tgt := 203) d_M_readEntity_103 (by decide) (fun z => absurd (by rw [hw]; rfl) z) (fun _ => ?_)
        refine ep_iload_n (j := 3) d_M_readEntity_106 rfl rfl ?_
        refine ep_if_eq (tgt := 121) d_M_readEntity_107 (by decide) (fun z => absurd z (by decide)) (fun _ => ?_)
        refine ep_aload_n (j := 0) d_M_readEntity_110 rfl rfl ?_
        refine ep_getf (fi := 23) (v := .int (nI s.p)) d_M_readEntity_111 cl5 lf_M_168 (by decide) rfl (congrArg (fun z => some (Value.int z)) hd.p) ?_
        refine ep_aload_n (j := 0) d_M_readEntity_114 rfl rfl ?_
        refine ep_getf (fi := 10) (v := .int (nI L.length)) d_M_readEntity_115 cl5 lf_M_157 (by decide) rfl (congrArg (fun z => some (Value.int z)) hd.z) ?_
        refine ep_icmp_ge (tgt := 203) d_M_readEntity_118 (by decide) (fun z => absurd z (fun z => absurd ((nI_leI (by omega) (by omega)).mp z) (by have := hlt.resolve_left (by decide); omega))) (fun _ => ?_)
        refine ep_aload_n (j := 0) d_M_readEntity_121 rfl rfl ?_
        refine ep_iconst (v := 1) d_M_readEntity_122 (by decide) ?_
        refine ep_callVm (As := [.int 1]) (st := []) d_M_readEntity_123 lk_M_245 cal_M_wholeType tm_M_wholeType ts_M_wholeType rfl rfl rfl (Nat.le_of_ble_eq_true rfl) (Nat.le_of_ble_eq_true rfl) rfl rfl (M_wholeType hLp hw hd) (fun rI1 rA1 hd1 => ?_)
        refine ep_istore (lv' := [(0, .ref 16), (1, .int n), (2, .int gv), (3, .int 2), (4, .int p)]) [1, 2, 3, 4, 0] d_M_readEntity_126 (by decide) rfl ?_
        refine ep_aload_n (j := 0) d_M_readEntity_128 rfl rfl ?_
        refine ep_join (pc2 := 166) (lv2 := [(0, .ref 16), (1, .int n), (2, .int gv), (3, .int 2), (4, .int p)]) (st2 := [.int (bI (mPw 2 p s1)), .ref 16]) ?_ (fun k166 => ?_)
        · refine ep_putf' (fi := 24) (h2 := HC X cI cA (upd rI1 24 (bI (mPw 2 p s1))) rA1 ol J) d_M_readEntity_166 cl5 lf_M_171 (by decide) (Or.inl rfl) (bI_f _) rfl hI_16_24 ?_
          have hd2 : MD L S ct (upd rI1 24 (bI (mPw 2 p s1))) rA1 ((MS.u_wr s1 (mPw 2 p s1))) := hd1.sw (q := (mPw 2 p s1)) rfl
          generalize upd rI1 24 (bI (mPw 2 p s1)) = rI2 at hd2 ⊢
          refine ep_aload_n (j := 0) d_M_readEntity_169 rfl rfl ?_
          refine ep_getf (fi := 22) (v := .ref 30) d_M_readEntity_170 cl5 lf_M_49 (by decide) rfl rfl ?_
          refine ep_iload_n (j := 3) d_M_readEntity_173 rfl rfl ?_
          refine ep_iconst (v := 3) d_M_readEntity_174 (by decide) ?_
          refine ep_icmp_ge (tgt := 182) d_M_readEntity_175 (by decide) (fun z => absurd z (by decide)) (fun _ => ?_)
          refine ep_iload_n (j := 3) d_M_readEntity_178 rfl rfl ?_
          refine ep_goto (tgt := 183) d_M_readEntity_179 (by decide) ?_
          refine ep_join (pc2 := 196) (lv2 := [(0, .ref 16), (1, .int n), (2, .int gv), (3, .int 2), (4, .int p)]) (st2 := [.int (if mPw 2 p s1 = true then -1 else p), .int 2, .ref 30]) ?_ (fun k196 => ?_)
          · refine ep_iast' (h2 := HC X cI cA rI2 (va_up rA1 22 (upd (rA1 22) 2 (if mPw 2 p s1 = true then -1 else p))) ol J) 2 d_M_readEntity_196 rfl (by decide) (by decide) (by decide) hA_30 ?_
            have hd3 : MD L S ct rI2 (va_up rA1 22 (upd (rA1 22) 2 (if mPw 2 p s1 = true then -1 else p))) (mPar 2 p s1) := by have := hd2.qs 2 (by decide) (if mPw 2 p s1 = true then -1 else p); exact this
            generalize va_up rA1 22 (upd (rA1 22) 2 (if mPw 2 p s1 = true then -1 else p)) = rA3 at hd3 ⊢
            refine ep_iinc (v := 3) (j := 3) (lv' := [(0, .ref 16), (1, .int n), (2, .int gv), (3, .int 3), (4, .int p)]) [1, 2, 3, 0, 4] d_M_readEntity_197 rfl (by decide) (by decide) rfl ?_
            refine ep_goto (tgt := 99) d_M_readEntity_200 (by decide) ?_
            exact ih (Or.inr (Or.inr (Or.inr (Or.inl ⟨rfl, rfl⟩)))) hd3 hre (Or.inr ⟨_, rfl⟩)
          · refine ep_aload_n (j := 0) d_M_readEntity_183 rfl rfl ?_
            refine ep_getf (fi := 24) (v := .int (bI ((MS.u_wr s1 (mPw 2 p s1))).wr)) d_M_readEntity_184 cl5 lf_M_171 (by decide) rfl (congrArg (fun z => some (Value.int z)) hd2.w) ?_
            refine ep_if_eq (tgt := 194) d_M_readEntity_187 (by decide) (fun c187 => ?_) (fun c187 => ?_)
            · refine ep_iload (j := 4) d_M_readEntity_194 rfl ?_
              refine ep_cg (y := if mPw 2 p s1 = true then -1 else p) ((if_neg (by rw [show mPw 2 p s1 = false from bI_n c187]; decide)).symm) ?_
              exact k196
            · refine ep_iconst (v := (-1)) d_M_readEntity_190 (by decide) ?_
              refine ep_goto (tgt := 196) d_M_readEntity_191 (by decide) ?_
              refine ep_cg (y := if mPw 2 p s1 = true then -1 else p) ((if_pos (bI_t c187)).symm) ?_
              exact k196
        · refine ep_aload_n (j := 0) d_M_readEntity_129 rfl rfl ?_
          refine ep_getf (fi := 24) (v := .int (bI s1.wr)) d_M_readEntity_130 cl5 lf_M_171 (by decide) rfl (congrArg (fun z => some (Value.int z)) hd1.w) ?_
          refine ep_if_ne (tgt := 161) d_M_readEntity_133 (by decide) (fun c133 => ?_) (fun c133 => ?_)
          · refine ep_iconst (v := 1) d_M_readEntity_161 (by decide) ?_
            refine ep_goto (tgt := 166) d_M_readEntity_162 (by decide) ?_
            refine ep_cg (y := bI (mPw 2 p s1)) (bor1 c133) ?_
            exact k166
          · refine ep_iload_n (j := 3) d_M_readEntity_136 rfl rfl ?_
            refine ep_iconst (v := 3) d_M_readEntity_137 (by decide) ?_
            refine ep_icmp_eq (tgt := 161) d_M_readEntity_138 (by decide) (fun z => absurd z (by decide)) (fun _ => ?_)
            refine ep_aload_n (j := 0) d_M_readEntity_141 rfl rfl ?_
            refine ep_getf (fi := 3) (v := .ref 17) d_M_readEntity_142 cl5 lf_M_7 (by decide) rfl rfl ?_
            refine ep_iload (j := 4) d_M_readEntity_145 rfl ?_
            refine ep_kind (N := s1.N) d_M_readEntity_147 hd1.n (by have := (hV1 (bI_n c133)).2; omega) (hV1 (bI_n c133)).1 ?_
            refine ep_if_ne (tgt := 165) d_M_readEntity_148 (by decide) (fun c148 => ?_) (fun c148 => ?_)
            · refine ep_iconst (v := 0) d_M_readEntity_165 (by decide) ?_
              refine ep_cg (y := bI (mPw 2 p s1)) (bor0 c133 (decide_eq_false (fun u => u.elim (by decide) (fun v => c148 v.1)))) ?_
              exact k166
            · refine ep_aload_n (j := 0) d_M_readEntity_151 rfl rfl ?_
              refine ep_getf (fi := 4) (v := .ref 18) d_M_readEntity_152 cl5 lf_M_13 (by decide) rfl rfl ?_
              refine ep_iload (j := 4) d_M_readEntity_155 rfl ?_
              refine ep_val (N := s1.N) d_M_readEntity_157 hd1.n (by have := (hV1 (bI_n c133)).2; omega) (hV1 (bI_n c133)).1 ?_
              refine ep_if_ne (tgt := 165) d_M_readEntity_158 (by decide) (fun c158 => ?_) (fun c158 => ?_)
              · refine ep_iconst (v := 0) d_M_readEntity_165 (by decide) ?_
                refine ep_cg (y := bI (mPw 2 p s1)) (bor0 c133 (decide_eq_false (fun u => u.elim (by decide) (fun v => c158 v.2)))) ?_
                exact k166
              · refine ep_iconst (v := 1) d_M_readEntity_161 (by decide) ?_
                refine ep_goto (tgt := 166) d_M_readEntity_162 (by decide) ?_
                refine ep_cg (y := bI (mPw 2 p s1)) (bor2 c133 (decide_eq_true (Or.inr ⟨c148, c158⟩))) ?_
                exact k166
      · refine ep_aload_n (j := 0) d_M_readEntity_99 rfl rfl ?_
        refine ep_getf (fi := 24) (v := .int (bI s.wr)) d_M_readEntity_100 cl5 lf_M_171 (by decide) rfl (congrArg (fun z => some (Value.int z)) hd.w) ?_
        refine ep_if_ne (tgt := 203) d_M_readEntity_103 (by decide) (fun z => absurd (by rw [hw]; rfl) z) (fun _ => ?_)
        refine ep_iload_n (j := 3) d_M_readEntity_106 rfl rfl ?_
        refine ep_if_eq (tgt := 121) d_M_readEntity_107 (by decide) (fun z => absurd z (by decide)) (fun _ => ?_)
        refine ep_aload_n (j := 0) d_M_readEntity_110 rfl rfl ?_
        refine ep_getf (fi := 23) (v := .int (nI s.p)) d_M_readEntity_111 cl5 lf_M_168 (by decide) rfl (congrArg (fun z => some (Value.int z)) hd.p) ?_
        refine ep_aload_n (j := 0) d_M_readEntity_114 rfl rfl ?_
        refine ep_getf (fi := 10) (v := .int (nI L.length)) d_M_readEntity_115 cl5 lf_M_157 (by decide) rfl (congrArg (fun z => some (Value.int z)) hd.z) ?_
        refine ep_icmp_ge (tgt := 203) d_M_readEntity_118 (by decide) (fun z => absurd z (fun z => absurd ((nI_leI (by omega) (by omega)).mp z) (by have := hlt.resolve_left (by decide); omega))) (fun _ => ?_)
        refine ep_aload_n (j := 0) d_M_readEntity_121 rfl rfl ?_
        refine ep_iconst (v := 1) d_M_readEntity_122 (by decide) ?_
        refine ep_callVm (As := [.int 1]) (st := []) d_M_readEntity_123 lk_M_245 cal_M_wholeType tm_M_wholeType ts_M_wholeType rfl rfl rfl (Nat.le_of_ble_eq_true rfl) (Nat.le_of_ble_eq_true rfl) rfl rfl (M_wholeType hLp hw hd) (fun rI1 rA1 hd1 => ?_)
        refine ep_istore (lv' := [(0, .ref 16), (1, .int n), (2, .int gv), (3, .int 2), (4, .int p)]) [1, 2, 3, 4, 0] d_M_readEntity_126 (by decide) rfl ?_
        refine ep_aload_n (j := 0) d_M_readEntity_128 rfl rfl ?_
        refine ep_join (pc2 := 166) (lv2 := [(0, .ref 16), (1, .int n), (2, .int gv), (3, .int 2), (4, .int p)]) (st2 := [.int (bI (mPw 2 p s1)), .ref 16]) ?_ (fun k166 => ?_)
        · refine ep_putf' (fi := 24) (h2 := HC X cI cA (upd rI1 24 (bI (mPw 2 p s1))) rA1 ol J) d_M_readEntity_166 cl5 lf_M_171 (by decide) (Or.inl rfl) (bI_f _) rfl hI_16_24 ?_
          have hd2 : MD L S ct (upd rI1 24 (bI (mPw 2 p s1))) rA1 ((MS.u_wr s1 (mPw 2 p s1))) := hd1.sw (q := (mPw 2 p s1)) rfl
          generalize upd rI1 24 (bI (mPw 2 p s1)) = rI2 at hd2 ⊢
          refine ep_aload_n (j := 0) d_M_readEntity_169 rfl rfl ?_
          refine ep_getf (fi := 22) (v := .ref 30) d_M_readEntity_170 cl5 lf_M_49 (by decide) rfl rfl ?_
          refine ep_iload_n (j := 3) d_M_readEntity_173 rfl rfl ?_
          refine ep_iconst (v := 3) d_M_readEntity_174 (by decide) ?_
          refine ep_icmp_ge (tgt := 182) d_M_readEntity_175 (by decide) (fun z => absurd z (by decide)) (fun _ => ?_)
          refine ep_iload_n (j := 3) d_M_readEntity_178 rfl rfl ?_
          refine ep_goto (tgt := 183) d_M_readEntity_179 (by decide) ?_
          refine ep_join (pc2 := 196) (lv2 := [(0, .ref 16), (1, .int n), (2, .int gv), (3, .int 2), (4, .int p)]) (st2 := [.int (if mPw 2 p s1 = true then -1 else p), .int 2, .ref 30]) ?_ (fun k196 => ?_)
          · refine ep_iast' (h2 := HC X cI cA rI2 (va_up rA1 22 (upd (rA1 22) 2 (if mPw 2 p s1 = true then -1 else p))) ol J) 2 d_M_readEntity_196 rfl (by decide) (by decide) (by decide) hA_30 ?_
            have hd3 : MD L S ct rI2 (va_up rA1 22 (upd (rA1 22) 2 (if mPw 2 p s1 = true then -1 else p))) (mPar 2 p s1) := by have := hd2.qs 2 (by decide) (if mPw 2 p s1 = true then -1 else p); exact this
            generalize va_up rA1 22 (upd (rA1 22) 2 (if mPw 2 p s1 = true then -1 else p)) = rA3 at hd3 ⊢
            refine ep_iinc (v := 3) (j := 3) (lv' := [(0, .ref 16), (1, .int n), (2, .int gv), (3, .int 3), (4, .int p)]) [1, 2, 3, 0, 4] d_M_readEntity_197 rfl (by decide) (by decide) rfl ?_
            refine ep_goto (tgt := 99) d_M_readEntity_200 (by decide) ?_
            exact ih (Or.inr (Or.inr (Or.inr (Or.inl ⟨rfl, rfl⟩)))) hd3 hre (Or.inr ⟨_, rfl⟩)
          · refine ep_aload_n (j := 0) d_M_readEntity_183 rfl rfl ?_
            refine ep_getf (fi := 24) (v := .int (bI ((MS.u_wr s1 (mPw 2 p s1))).wr)) d_M_readEntity_184 cl5 lf_M_171 (by decide) rfl (congrArg (fun z => some (Value.int z)) hd2.w) ?_
            refine ep_if_eq (tgt := 194) d_M_readEntity_187 (by decide) (fun c187 => ?_) (fun c187 => ?_)
            · refine ep_iload (j := 4) d_M_readEntity_194 rfl ?_
              refine ep_cg (y := if mPw 2 p s1 = true then -1 else p) ((if_neg (by rw [show mPw 2 p s1 = false from bI_n c187]; decide)).symm) ?_
              exact k196
            · refine ep_iconst (v := (-1)) d_M_readEntity_190 (by decide) ?_
              refine ep_goto (tgt := 196) d_M_readEntity_191 (by decide) ?_
              refine ep_cg (y := if mPw 2 p s1 = true then -1 else p) ((if_pos (bI_t c187)).symm) ?_
              exact k196
        · refine ep_aload_n (j := 0) d_M_readEntity_129 rfl rfl ?_
          refine ep_getf (fi := 24) (v := .int (bI s1.wr)) d_M_readEntity_130 cl5 lf_M_171 (by decide) rfl (congrArg (fun z => some (Value.int z)) hd1.w) ?_
          refine ep_if_ne (tgt := 161) d_M_readEntity_133 (by decide) (fun c133 => ?_) (fun c133 => ?_)
          · refine ep_iconst (v := 1) d_M_readEntity_161 (by decide) ?_
            refine ep_goto (tgt := 166) d_M_readEntity_162 (by decide) ?_
            refine ep_cg (y := bI (mPw 2 p s1)) (bor1 c133) ?_
            exact k166
          · refine ep_iload_n (j := 3) d_M_readEntity_136 rfl rfl ?_
            refine ep_iconst (v := 3) d_M_readEntity_137 (by decide) ?_
            refine ep_icmp_eq (tgt := 161) d_M_readEntity_138 (by decide) (fun z => absurd z (by decide)) (fun _ => ?_)
            refine ep_aload_n (j := 0) d_M_readEntity_141 rfl rfl ?_
            refine ep_getf (fi := 3) (v := .ref 17) d_M_readEntity_142 cl5 lf_M_7 (by decide) rfl rfl ?_
            refine ep_iload (j := 4) d_M_readEntity_145 rfl ?_
            refine ep_kind (N := s1.N) d_M_readEntity_147 hd1.n (by have := (hV1 (bI_n c133)).2; omega) (hV1 (bI_n c133)).1 ?_
            refine ep_if_ne (tgt := 165) d_M_readEntity_148 (by decide) (fun c148 => ?_) (fun c148 => ?_)
            · refine ep_iconst (v := 0) d_M_readEntity_165 (by decide) ?_
              refine ep_cg (y := bI (mPw 2 p s1)) (bor0 c133 (decide_eq_false (fun u => u.elim (by decide) (fun v => c148 v.1)))) ?_
              exact k166
            · refine ep_aload_n (j := 0) d_M_readEntity_151 rfl rfl ?_
              refine ep_getf (fi := 4) (v := .ref 18) d_M_readEntity_152 cl5 lf_M_13 (by decide) rfl rfl ?_
              refine ep_iload (j := 4) d_M_readEntity_155 rfl ?_
              refine ep_val (N := s1.N) d_M_readEntity_157 hd1.n (by have := (hV1 (bI_n c133)).2; omega) (hV1 (bI_n c133)).1 ?_
              refine ep_if_ne (tgt := 165) d_M_readEntity_158 (by decide) (fun c158 => ?_) (fun c158 => ?_)
              · refine ep_iconst (v := 0) d_M_readEntity_165 (by decide) ?_
                refine ep_cg (y := bI (mPw 2 p s1)) (bor0 c133 (decide_eq_false (fun u => u.elim (by decide) (fun v => c158 v.2)))) ?_
                exact k166
              · refine ep_iconst (v := 1) d_M_readEntity_161 (by decide) ?_
                refine ep_goto (tgt := 166) d_M_readEntity_162 (by decide) ?_
                refine ep_cg (y := bI (mPw 2 p s1)) (bor2 c133 (decide_eq_true (Or.inr ⟨c148, c158⟩))) ?_
                exact k166
    · rcases hlv with rfl | ⟨y, rfl⟩
      · refine ep_aload_n (j := 0) d_M_readEntity_99 rfl rfl ?_
        refine ep_getf (fi := 24) (v := .int (bI s.wr)) d_M_readEntity_100 cl5 lf_M_171 (by decide) rfl (congrArg (fun z => some (Value.int z)) hd.w) ?_
        refine ep_if_ne (tgt := 203) d_M_readEntity_103 (by decide) (fun z => absurd (by rw [hw]; rfl) z) (fun _ => ?_)
        refine ep_iload_n (j := 3) d_M_readEntity_106 rfl rfl ?_
        refine ep_if_eq (tgt := 121) d_M_readEntity_107 (by decide) (fun z => absurd z (by decide)) (fun _ => ?_)
        refine ep_aload_n (j := 0) d_M_readEntity_110 rfl rfl ?_
        refine ep_getf (fi := 23) (v := .int (nI s.p)) d_M_readEntity_111 cl5 lf_M_168 (by decide) rfl (congrArg (fun z => some (Value.int z)) hd.p) ?_
        refine ep_aload_n (j := 0) d_M_readEntity_114 rfl rfl ?_
        refine ep_getf (fi := 10) (v := .int (nI L.length)) d_M_readEntity_115 cl5 lf_M_157 (by decide) rfl (congrArg (fun z => some (Value.int z)) hd.z) ?_
        refine ep_icmp_ge (tgt := 203) d_M_readEntity_118 (by decide) (fun z => absurd z (fun z => absurd ((nI_leI (by omega) (by omega)).mp z) (by have := hlt.resolve_left (by decide); omega))) (fun _ => ?_)
        refine ep_aload_n (j := 0) d_M_readEntity_121 rfl rfl ?_
        refine ep_iconst (v := 1) d_M_readEntity_122 (by decide) ?_
        refine ep_callVm (As := [.int 1]) (st := []) d_M_readEntity_123 lk_M_245 cal_M_wholeType tm_M_wholeType ts_M_wholeType rfl rfl rfl (Nat.le_of_ble_eq_true rfl) (Nat.le_of_ble_eq_true rfl) rfl rfl (M_wholeType hLp hw hd) (fun rI1 rA1 hd1 => ?_)
        refine ep_istore (lv' := [(0, .ref 16), (1, .int n), (2, .int gv), (3, .int 3), (4, .int p)]) [1, 2, 3, 4, 0] d_M_readEntity_126 (by decide) rfl ?_
        refine ep_aload_n (j := 0) d_M_readEntity_128 rfl rfl ?_
        refine ep_join (pc2 := 166) (lv2 := [(0, .ref 16), (1, .int n), (2, .int gv), (3, .int 3), (4, .int p)]) (st2 := [.int (bI (mPw 3 p s1)), .ref 16]) ?_ (fun k166 => ?_)
        · refine ep_putf' (fi := 24) (h2 := HC X cI cA (upd rI1 24 (bI (mPw 3 p s1))) rA1 ol J) d_M_readEntity_166 cl5 lf_M_171 (by decide) (Or.inl rfl) (bI_f _) rfl hI_16_24 ?_
          have hd2 : MD L S ct (upd rI1 24 (bI (mPw 3 p s1))) rA1 ((MS.u_wr s1 (mPw 3 p s1))) := hd1.sw (q := (mPw 3 p s1)) rfl
          generalize upd rI1 24 (bI (mPw 3 p s1)) = rI2 at hd2 ⊢
          refine ep_aload_n (j := 0) d_M_readEntity_169 rfl rfl ?_
          refine ep_getf (fi := 22) (v := .ref 30) d_M_readEntity_170 cl5 lf_M_49 (by decide) rfl rfl ?_
          refine ep_iload_n (j := 3) d_M_readEntity_173 rfl rfl ?_
          refine ep_iconst (v := 3) d_M_readEntity_174 (by decide) ?_
          refine ep_icmp_ge (tgt := 182) d_M_readEntity_175 (by decide) (fun _ => ?_) (fun z => absurd (by decide) z)
          refine ep_iconst (v := 0) d_M_readEntity_182 (by decide) ?_
          refine ep_join (pc2 := 196) (lv2 := [(0, .ref 16), (1, .int n), (2, .int gv), (3, .int 3), (4, .int p)]) (st2 := [.int (if mPw 3 p s1 = true then -1 else p), .int 0, .ref 30]) ?_ (fun k196 => ?_)
          · refine ep_iast' (h2 := HC X cI cA rI2 (va_up rA1 22 (upd (rA1 22) 0 (if mPw 3 p s1 = true then -1 else p))) ol J) 0 d_M_readEntity_196 rfl (by decide) (by decide) (by decide) hA_30 ?_
            have hd3 : MD L S ct rI2 (va_up rA1 22 (upd (rA1 22) 0 (if mPw 3 p s1 = true then -1 else p))) (mPar 3 p s1) := by have := hd2.qs 0 (by decide) (if mPw 3 p s1 = true then -1 else p); exact this
            generalize va_up rA1 22 (upd (rA1 22) 0 (if mPw 3 p s1 = true then -1 else p)) = rA3 at hd3 ⊢
            refine ep_iinc (v := 4) (j := 3) (lv' := [(0, .ref 16), (1, .int n), (2, .int gv), (3, .int 4), (4, .int p)]) [1, 2, 3, 0, 4] d_M_readEntity_197 rfl (by decide) (by decide) rfl ?_
            refine ep_goto (tgt := 99) d_M_readEntity_200 (by decide) ?_
            exact ih (Or.inr (Or.inr (Or.inr (Or.inr ⟨rfl, rfl⟩)))) hd3 hre (Or.inr ⟨_, rfl⟩)
          · refine ep_aload_n (j := 0) d_M_readEntity_183 rfl rfl ?_
            refine ep_getf (fi := 24) (v := .int (bI ((MS.u_wr s1 (mPw 3 p s1))).wr)) d_M_readEntity_184 cl5 lf_M_171 (by decide) rfl (congrArg (fun z => some (Value.int z)) hd2.w) ?_
            refine ep_if_eq (tgt := 194) d_M_readEntity_187 (by decide) (fun c187 => ?_) (fun c187 => ?_)
            · refine ep_iload (j := 4) d_M_readEntity_194 rfl ?_
              refine ep_cg (y := if mPw 3 p s1 = true then -1 else p) ((if_neg (by rw [show mPw 3 p s1 = false from bI_n c187]; decide)).symm) ?_
              exact k196
            · refine ep_iconst (v := (-1)) d_M_readEntity_190 (by decide) ?_
              refine ep_goto (tgt := 196) d_M_readEntity_191 (by decide) ?_
              refine ep_cg (y := if mPw 3 p s1 = true then -1 else p) ((if_pos (bI_t c187)).symm) ?_
              exact k196
        · refine ep_aload_n (j := 0) d_M_readEntity_129 rfl rfl ?_
          refine ep_getf (fi := 24) (v := .int (bI s1.wr)) d_M_readEntity_130 cl5 lf_M_171 (by decide) rfl (congrArg (fun z => some (Value.int z)) hd1.w) ?_
          refine ep_if_ne (tgt := 161) d_M_readEntity_133 (by decide) (fun c133 => ?_) (fun c133 => ?_)
          · refine ep_iconst (v := 1) d_M_readEntity_161 (by decide) ?_
            refine ep_goto (tgt := 166) d_M_readEntity_162 (by decide) ?_
            refine ep_cg (y := bI (mPw 3 p s1)) (bor1 c133) ?_
            exact k166
          · refine ep_iload_n (j := 3) d_M_readEntity_136 rfl rfl ?_
            refine ep_iconst (v := 3) d_M_readEntity_137 (by decide) ?_
            refine ep_icmp_eq (tgt := 161) d_M_readEntity_138 (by decide) (fun _ => ?_) (fun z => absurd (by decide) z)
            refine ep_iconst (v := 1) d_M_readEntity_161 (by decide) ?_
            refine ep_goto (tgt := 166) d_M_readEntity_162 (by decide) ?_
            refine ep_cg (y := bI (mPw 3 p s1)) (bor2 c133 (decide_eq_true (Or.inl rfl))) ?_
            exact k166
      · refine ep_aload_n (j := 0) d_M_readEntity_99 rfl rfl ?_
        refine ep_getf (fi := 24) (v := .int (bI s.wr)) d_M_readEntity_100 cl5 lf_M_171 (by decide) rfl (congrArg (fun z => some (Value.int z)) hd.w) ?_
        refine ep_if_ne (tgt := 203) d_M_readEntity_103 (by decide) (fun z => absurd (by rw [hw]; rfl) z) (fun _ => ?_)
        refine ep_iload_n (j := 3) d_M_readEntity_106 rfl rfl ?_
        refine ep_if_eq (tgt := 121) d_M_readEntity_107 (by decide) (fun z => absurd z (by decide)) (fun _ => ?_)
        refine ep_aload_n (j := 0) d_M_readEntity_110 rfl rfl ?_
        refine ep_getf (fi := 23) (v := .int (nI s.p)) d_M_readEntity_111 cl5 lf_M_168 (by decide) rfl (congrArg (fun z => some (Value.int z)) hd.p) ?_
        refine ep_aload_n (j := 0) d_M_readEntity_114 rfl rfl ?_
        refine ep_getf (fi := 10) (v := .int (nI L.length)) d_M_readEntity_115 cl5 lf_M_157 (by decide) rfl (congrArg (fun z => some (Value.int z)) hd.z) ?_
        refine ep_icmp_ge (tgt := 203) d_M_readEntity_118 (by decide) (fun z => absurd z (fun z => absurd ((nI_leI (by omega) (by omega)).mp z) (by have := hlt.resolve_left (by decide); omega))) (fun _ => ?_)
        refine ep_aload_n (j := 0) d_M_readEntity_121 rfl rfl ?_
        refine ep_iconst (v := 1) d_M_readEntity_122 (by decide) ?_
        refine ep_callVm (As := [.int 1]) (st := []) d_M_readEntity_123 lk_M_245 cal_M_wholeType tm_M_wholeType ts_M_wholeType rfl rfl rfl (Nat.le_of_ble_eq_true rfl) (Nat.le_of_ble_eq_true rfl) rfl rfl (M_wholeType hLp hw hd) (fun rI1 rA1 hd1 => ?_)
        refine ep_istore (lv' := [(0, .ref 16), (1, .int n), (2, .int gv), (3, .int 3), (4, .int p)]) [1, 2, 3, 4, 0] d_M_readEntity_126 (by decide) rfl ?_
        refine ep_aload_n (j := 0) d_M_readEntity_128 rfl rfl ?_
        refine ep_join (pc2 := 166) (lv2 := [(0, .ref 16), (1, .int n), (2, .int gv), (3, .int 3), (4, .int p)]) (st2 := [.int (bI (mPw 3 p s1)), .ref 16]) ?_ (fun k166 => ?_)
        · refine ep_putf' (fi := 24) (h2 := HC X cI cA (upd rI1 24 (bI (mPw 3 p s1))) rA1 ol J) d_M_readEntity_166 cl5 lf_M_171 (by decide) (Or.inl rfl) (bI_f _) rfl hI_16_24 ?_
          have hd2 : MD L S ct (upd rI1 24 (bI (mPw 3 p s1))) rA1 ((MS.u_wr s1 (mPw 3 p s1))) := hd1.sw (q := (mPw 3 p s1)) rfl
          generalize upd rI1 24 (bI (mPw 3 p s1)) = rI2 at hd2 ⊢
          refine ep_aload_n (j := 0) d_M_readEntity_169 rfl rfl ?_
          refine ep_getf (fi := 22) (v := .ref 30) d_M_readEntity_170 cl5 lf_M_49 (by decide) rfl rfl ?_
          refine ep_iload_n (j := 3) d_M_readEntity_173 rfl rfl ?_
          refine ep_iconst (v := 3) d_M_readEntity_174 (by decide) ?_
          refine ep_icmp_ge (tgt := 182) d_M_readEntity_175 (by decide) (fun _ => ?_) (fun z => absurd (by decide) z)
          refine ep_iconst (v := 0) d_M_readEntity_182 (by decide) ?_
          refine ep_join (pc2 := 196) (lv2 := [(0, .ref 16), (1, .int n), (2, .int gv), (3, .int 3), (4, .int p)]) (st2 := [.int (if mPw 3 p s1 = true then -1 else p), .int 0, .ref 30]) ?_ (fun k196 => ?_)
          · refine ep_iast' (h2 := HC X cI cA rI2 (va_up rA1 22 (upd (rA1 22) 0 (if mPw 3 p s1 = true then -1 else p))) ol J) 0 d_M_readEntity_196 rfl (by decide) (by decide) (by decide) hA_30 ?_
            have hd3 : MD L S ct rI2 (va_up rA1 22 (upd (rA1 22) 0 (if mPw 3 p s1 = true then -1 else p))) (mPar 3 p s1) := by have := hd2.qs 0 (by decide) (if mPw 3 p s1 = true then -1 else p); exact this
            generalize va_up rA1 22 (upd (rA1 22) 0 (if mPw 3 p s1 = true then -1 else p)) = rA3 at hd3 ⊢
            refine ep_iinc (v := 4) (j := 3) (lv' := [(0, .ref 16), (1, .int n), (2, .int gv), (3, .int 4), (4, .int p)]) [1, 2, 3, 0, 4] d_M_readEntity_197 rfl (by decide) (by decide) rfl ?_
            refine ep_goto (tgt := 99) d_M_readEntity_200 (by decide) ?_
            exact ih (Or.inr (Or.inr (Or.inr (Or.inr ⟨rfl, rfl⟩)))) hd3 hre (Or.inr ⟨_, rfl⟩)
          · refine ep_aload_n (j := 0) d_M_readEntity_183 rfl rfl ?_
            refine ep_getf (fi := 24) (v := .int (bI ((MS.u_wr s1 (mPw 3 p s1))).wr)) d_M_readEntity_184 cl5 lf_M_171 (by decide) rfl (congrArg (fun z => some (Value.int z)) hd2.w) ?_
            refine ep_if_eq (tgt := 194) d_M_readEntity_187 (by decide) (fun c187 => ?_) (fun c187 => ?_)
            · refine ep_iload (j := 4) d_M_readEntity_194 rfl ?_
              refine ep_cg (y := if mPw 3 p s1 = true then -1 else p) ((if_neg (by rw [show mPw 3 p s1 = false from bI_n c187]; decide)).symm) ?_
              exact k196
            · refine ep_iconst (v := (-1)) d_M_readEntity_190 (by decide) ?_
              refine ep_goto (tgt := 196) d_M_readEntity_191 (by decide) ?_
              refine ep_cg (y := if mPw 3 p s1 = true then -1 else p) ((if_pos (bI_t c187)).symm) ?_
              exact k196
        · refine ep_aload_n (j := 0) d_M_readEntity_129 rfl rfl ?_
          refine ep_getf (fi := 24) (v := .int (bI s1.wr)) d_M_readEntity_130 cl5 lf_M_171 (by decide) rfl (congrArg (fun z => some (Value.int z)) hd1.w) ?_
          refine ep_if_ne (tgt := 161) d_M_readEntity_133 (by decide) (fun c133 => ?_) (fun c133 => ?_)
          · refine ep_iconst (v := 1) d_M_readEntity_161 (by decide) ?_
            refine ep_goto (tgt := 166) d_M_readEntity_162 (by decide) ?_
            refine ep_cg (y := bI (mPw 3 p s1)) (bor1 c133) ?_
            exact k166
          · refine ep_iload_n (j := 3) d_M_readEntity_136 rfl rfl ?_
            refine ep_iconst (v := 3) d_M_readEntity_137 (by decide) ?_
            refine ep_icmp_eq (tgt := 161) d_M_readEntity_138 (by decide) (fun _ => ?_) (fun z => absurd (by decide) z)
            refine ep_iconst (v := 1) d_M_readEntity_161 (by decide) ?_
            refine ep_goto (tgt := 166) d_M_readEntity_162 (by decide) ?_
            refine ep_cg (y := bI (mPw 3 p s1)) (bor2 c133 (decide_eq_true (Or.inl rfl))) ?_
            exact k166
    · omega
set_option maxHeartbeats 4000000 in
set_option maxRecDepth 100000 in
theorem M_re2 {n gv : Int32} {res : IM} (h : RE2 L n gv s res) (hd : MD L S ct rI rA s) : EvP m_M_readEntity (d + 10) 68 [(0, .ref 16), (1, .int n), (2, .int gv)] [] (HC X cI cA rI rA ol J) (MPi X cI cA ol J L S ct res) := by
  obtain ⟨hp, s5, h5, h6, h7, rfl⟩ := h
  have hre := And.intro h6 h7
  by_cases hc : s.wr = false ∧ pk L s = 118
  · rw [if_pos hc] at h5
    refine ep_iconst (v := 0) d_M_readEntity_68 (by decide) ?_
    refine ep_istore_n (lv' := [(0, .ref 16), (1, .int n), (2, .int gv), (3, .int 0)]) [1, 2, 3, 0] d_M_readEntity_69 rfl (by decide) rfl ?_
    refine ep_aload_n (j := 0) d_M_readEntity_70 rfl rfl ?_
    refine ep_getf (fi := 24) (v := .int (bI s.wr)) d_M_readEntity_71 cl5 lf_M_171 (by decide) rfl (congrArg (fun z => some (Value.int z)) hd.w) ?_
    refine ep_if_ne (tgt := 99) d_M_readEntity_74 (by decide) (fun z => absurd (by rw [hc.1]; rfl) z) (fun _ => ?_)
    refine ep_aload_n (j := 0) d_M_readEntity_77 rfl rfl ?_
    refine ep_callVi (As := []) (st := []) d_M_readEntity_78 lk_M_174 cal_M_peek tm_M_peek ts_M_peek rfl rfl rfl (Nat.le_of_ble_eq_true rfl) (Nat.le_of_ble_eq_true rfl) rfl rfl (M_peek hd (by have := hp hc.1; omega)) ?_
    refine ep_bipush (v := 118) d_M_readEntity_81 (by decide) ?_
    refine ep_icmp_ne (tgt := 99) d_M_readEntity_83 (by decide) (fun z => absurd hc.2 z) (fun _ => ?_)
    refine ep_aload_n (j := 0) d_M_readEntity_86 rfl rfl ?_
    refine ep_dup d_M_readEntity_87 rfl ?_
    refine ep_getf (fi := 23) (v := .int (nI s.p)) d_M_readEntity_88 cl5 lf_M_168 (by decide) rfl (congrArg (fun z => some (Value.int z)) hd.p) ?_
    refine ep_iconst (v := 1) d_M_readEntity_91 (by decide) ?_
    refine ep_iadd d_M_readEntity_92 ?_
    refine ep_putf' (fi := 23) (h2 := HC X cI cA (upd rI 23 ((nI s.p) + 1)) rA ol J) d_M_readEntity_93 cl5 lf_M_168 (by decide) (Or.inl rfl) rfl rfl hI_16_23 ?_
    have hd1 : MD L S ct (upd rI 23 ((nI s.p) + 1)) rA (mAv s 1) := hd.sp (q := (s.p + 1)) (nI_1 _)
    generalize upd rI 23 ((nI s.p) + 1) = rI1 at hd1 ⊢
    refine ep_goto (tgt := 203) d_M_readEntity_96 (by decide) ?_
    subst h5
    exact M_re_e hd1 (fun w => by have := hre.1 w; omega) (fun w => ⟨⟨Or.inr (hre.2 w).1, (hre.2 w).2.1, (hre.2 w).2.2.1, (hre.2 w).2.2.2.1, (hre.2 w).2.2.2.2.1⟩, by have := (hre.2 w).2.2.2.2.2; omega⟩) (Or.inl rfl)
  · rw [if_neg hc] at h5
    refine ep_iconst (v := 0) d_M_readEntity_68 (by decide) ?_
    refine ep_istore_n (lv' := [(0, .ref 16), (1, .int n), (2, .int gv), (3, .int 0)]) [1, 2, 3, 0] d_M_readEntity_69 rfl (by decide) rfl ?_
    refine ep_aload_n (j := 0) d_M_readEntity_70 rfl rfl ?_
    refine ep_getf (fi := 24) (v := .int (bI s.wr)) d_M_readEntity_71 cl5 lf_M_171 (by decide) rfl (congrArg (fun z => some (Value.int z)) hd.w) ?_
    refine ep_if_ne (tgt := 99) d_M_readEntity_74 (by decide) (fun c74 => ?_) (fun c74 => ?_)
    · exact M_pl h5 (Or.inl ⟨rfl, rfl⟩) hd hre (Or.inl rfl)
    · refine ep_aload_n (j := 0) d_M_readEntity_77 rfl rfl ?_
      refine ep_callVi (As := []) (st := []) d_M_readEntity_78 lk_M_174 cal_M_peek tm_M_peek ts_M_peek rfl rfl rfl (Nat.le_of_ble_eq_true rfl) (Nat.le_of_ble_eq_true rfl) rfl rfl (M_peek hd (by have := hp (bI_n c74); omega)) ?_
      refine ep_bipush (v := 118) d_M_readEntity_81 (by decide) ?_
      refine ep_icmp_ne (tgt := 99) d_M_readEntity_83 (by decide) (fun c83 => ?_) (fun c83 => ?_)
      · exact M_pl h5 (Or.inl ⟨rfl, rfl⟩) hd hre (Or.inl rfl)
      · exact absurd ⟨bI_n c74, c83⟩ hc
set_option maxHeartbeats 4000000 in
set_option maxRecDepth 100000 in
theorem M_re1 {n : Int32} {res : IM} (h : RE1 L n s res) (hV : s.wr = false → Vd s.N n ∧ s.N.length ≤ 200) (hd : MD L S ct rI rA s) : EvP m_M_readEntity (d + 10) 43 [(0, .ref 16), (1, .int n)] [] (HC X cI cA rI rA ol J) (MPi X cI cA ol J L S ct res) := by
  rcases h with ⟨hw, h3, q, hLp, h2⟩ | ⟨hc, h2⟩
  · refine ep_iconst (v := (-1)) d_M_readEntity_43 (by decide) ?_
    refine ep_istore_n (lv' := [(0, .ref 16), (1, .int n), (2, .int (-1))]) [1, 2, 0] d_M_readEntity_44 rfl (by decide) rfl ?_
    refine ep_aload_n (j := 0) d_M_readEntity_45 rfl rfl ?_
    refine ep_getf (fi := 24) (v := .int (bI s.wr)) d_M_readEntity_46 cl5 lf_M_171 (by decide) rfl (congrArg (fun z => some (Value.int z)) hd.w) ?_
    refine ep_if_ne (tgt := 68) d_M_readEntity_49 (by decide) (fun z => absurd (by rw [hw]; rfl) z) (fun _ => ?_)
    refine ep_aload_n (j := 0) d_M_readEntity_52 rfl rfl ?_
    refine ep_getf (fi := 3) (v := .ref 17) d_M_readEntity_53 cl5 lf_M_7 (by decide) rfl rfl ?_
    refine ep_iload_n (j := 1) d_M_readEntity_56 rfl rfl ?_
    refine ep_kind (N := s.N) d_M_readEntity_57 hd.n (by have := (hV hw).2; omega) (hV hw).1 ?_
    refine ep_iconst (v := 3) d_M_readEntity_58 (by decide) ?_
    refine ep_icmp_ne (tgt := 68) d_M_readEntity_59 (by decide) (fun z => absurd h3 z) (fun _ => ?_)
    refine ep_aload_n (j := 0) d_M_readEntity_62 rfl rfl ?_
    refine ep_iconst (v := 1) d_M_readEntity_63 (by decide) ?_
    refine ep_callVm (As := [.int 1]) (st := []) d_M_readEntity_64 lk_M_245 cal_M_wholeType tm_M_wholeType ts_M_wholeType rfl rfl rfl (Nat.le_of_ble_eq_true rfl) (Nat.le_of_ble_eq_true rfl) rfl rfl (M_wholeType hLp hw hd) (fun rI1 rA1 hd1 => ?_)
    refine ep_istore_n (lv' := [(0, .ref 16), (1, .int n), (2, .int q.1)]) [1, 2, 0] d_M_readEntity_67 rfl (by decide) rfl ?_
    exact M_re2 h2 hd1
  · refine ep_iconst (v := (-1)) d_M_readEntity_43 (by decide) ?_
    refine ep_istore_n (lv' := [(0, .ref 16), (1, .int n), (2, .int (-1))]) [1, 2, 0] d_M_readEntity_44 rfl (by decide) rfl ?_
    refine ep_aload_n (j := 0) d_M_readEntity_45 rfl rfl ?_
    refine ep_getf (fi := 24) (v := .int (bI s.wr)) d_M_readEntity_46 cl5 lf_M_171 (by decide) rfl (congrArg (fun z => some (Value.int z)) hd.w) ?_
    refine ep_if_ne (tgt := 68) d_M_readEntity_49 (by decide) (fun c49 => ?_) (fun c49 => ?_)
    · exact M_re2 h2 hd
    · refine ep_aload_n (j := 0) d_M_readEntity_52 rfl rfl ?_
      refine ep_getf (fi := 3) (v := .ref 17) d_M_readEntity_53 cl5 lf_M_7 (by decide) rfl rfl ?_
      refine ep_iload_n (j := 1) d_M_readEntity_56 rfl rfl ?_
      refine ep_kind (N := s.N) d_M_readEntity_57 hd.n (by have := (hV (bI_n c49)).2; omega) (hV (bI_n c49)).1 ?_
      refine ep_iconst (v := 3) d_M_readEntity_58 (by decide) ?_
      refine ep_icmp_ne (tgt := 68) d_M_readEntity_59 (by decide) (fun c59 => ?_) (fun c59 => ?_)
      · exact M_re2 h2 hd
      · exact absurd ⟨bI_n c49, c59⟩ hc
set_option maxHeartbeats 4000000 in
set_option maxRecDepth 100000 in
theorem M_re {res : IM} (h : RE L s res) (hd : MD L S ct rI rA s) : EvP m_M_readEntity (d + 10) 20 [(0, .ref 16)] [] (HC X cI cA rI rA ol J) (MPi X cI cA ol J L S ct res) := by
  rcases h with ⟨hw, h1⟩ | ⟨hw, g, q, hSC, hV, h1⟩
  · refine ep_aload_n (j := 0) d_M_readEntity_20 rfl rfl ?_
    refine ep_getf (fi := 24) (v := .int (bI s.wr)) d_M_readEntity_21 cl5 lf_M_171 (by decide) rfl (congrArg (fun z => some (Value.int z)) hd.w) ?_
    refine ep_if_eq (tgt := 31) d_M_readEntity_24 (by decide) (fun z => absurd z (by rw [hw]; decide)) (fun _ => ?_)
    refine ep_iconst (v := 0) d_M_readEntity_27 (by decide) ?_
    refine ep_goto (tgt := 35) d_M_readEntity_28 (by decide) ?_
    refine ep_istore_n (lv' := [(0, .ref 16), (1, .int 0)]) [1, 0] d_M_readEntity_35 rfl (by decide) rfl ?_
    refine ep_aload_n (j := 0) d_M_readEntity_36 rfl rfl ?_
    refine ep_getf (fi := 21) (v := .ref 29) d_M_readEntity_37 cl5 lf_M_46 (by decide) rfl rfl ?_
    refine ep_iconst (v := 0) d_M_readEntity_40 (by decide) ?_
    refine ep_iconst (v := 0) d_M_readEntity_41 (by decide) ?_
    refine ep_iast' (h2 := HC X cI cA rI (va_up rA 21 (upd (rA 21) 0 0)) ol J) 0 d_M_readEntity_42 rfl (by decide) (by decide) (by decide) hA_29 ?_
    have hd1 : MD L S ct rI (va_up rA 21 (upd (rA 21) 0 0)) (mB0 (s)) := hd.b0
    generalize va_up rA 21 (upd (rA 21) 0 0) = rA1 at hd1 ⊢
    exact M_re1 h1 (fun w => by rw [show (mB0 s).wr = s.wr from rfl, hw] at w; cases w) hd1
  · refine ep_aload_n (j := 0) d_M_readEntity_20 rfl rfl ?_
    refine ep_getf (fi := 24) (v := .int (bI s.wr)) d_M_readEntity_21 cl5 lf_M_171 (by decide) rfl (congrArg (fun z => some (Value.int z)) hd.w) ?_
    refine ep_if_eq (tgt := 31) d_M_readEntity_24 (by decide) (fun _ => ?_) (fun z => absurd (by rw [hw]; rfl) z)
    refine ep_aload_n (j := 0) d_M_readEntity_31 rfl rfl ?_
    refine ep_callVm (As := []) (st := []) d_M_readEntity_32 lk_M_242 cal_M_scoped tm_M_scoped ts_M_scoped rfl rfl rfl (Nat.le_of_ble_eq_true rfl) (Nat.le_of_ble_eq_true rfl) rfl rfl (M_scoped hSC g hw hd) (fun rI1 rA1 hd1 => ?_)
    refine ep_istore_n (lv' := [(0, .ref 16), (1, .int q.1)]) [1, 0] d_M_readEntity_35 rfl (by decide) rfl ?_
    refine ep_aload_n (j := 0) d_M_readEntity_36 rfl rfl ?_
    refine ep_getf (fi := 21) (v := .ref 29) d_M_readEntity_37 cl5 lf_M_46 (by decide) rfl rfl ?_
    refine ep_iconst (v := 0) d_M_readEntity_40 (by decide) ?_
    refine ep_iconst (v := 0) d_M_readEntity_41 (by decide) ?_
    refine ep_iast' (h2 := HC X cI cA rI1 (va_up rA1 21 (upd (rA1 21) 0 0)) ol J) 0 d_M_readEntity_42 rfl (by decide) (by decide) (by decide) hA_29 ?_
    have hd2 : MD L S ct rI1 (va_up rA1 21 (upd (rA1 21) 0 0)) (mB0 (q.2)) := hd1.b0
    generalize va_up rA1 21 (upd (rA1 21) 0 0) = rA2 at hd2 ⊢
    exact M_re1 h1 hV hd2
end MSA
