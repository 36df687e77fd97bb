/-! the reference: arguments; by program (wip/whole/gen45.py) -/
section MS3
variable {d : Nat} {X : Nat × (Nat → Int32)} {cI : Nat → Int32} {cA : Nat → Nat → Int32} {rI : Nat → Int32} {rA : Nat → Nat → Int32} {ol : Int64} {J : mH} {L S : List Int32} {ct : Nat} {s : MS}
theorem mMk_K (k v f g a b c : Int32) (s : MS) : (mMk k v f g a b c s).2.K = s.K := by unfold mMk; split <;> rfl
theorem mMk_p (k v f g a b c : Int32) (s : MS) : (mMk k v f g a b c s).2.p = s.p := by unfold mMk; split <;> rfl
theorem mMk_E (k v f g a b c : Int32) (s : MS) : (mMk k v f g a b c s).2.E = s.E := by unfold mMk; split <;> rfl
theorem mMk_N (k v f g a b c : Int32) (s : MS) : (mMk k v f g a b c s).2.N.length ≤ s.N.length + 1 := by
  unfold mMk
  split
  · show s.N.length ≤ _; omega
  · exact ndM_len k v f g a b c
theorem mMk_V (k v f g a b c : Int32) (s : MS) (h : (mMk k v f g a b c s).2.wr = false) : Vd (mMk k v f g a b c s).2.N (mMk k v f g a b c s).1 := by
  have hs : ¬ s.wr = true := by
    intro q
    rw [show mMk k v f g a b c s = (0, s) from if_pos q] at h
    rw [q] at h; cases h
  rw [show mMk k v f g a b c s = ((ndM s.N k v f g a b c).1, (MS.u_wr (MS.u_N s ((ndM s.N k v f g a b c).2)) (decide (16 < cN (ndM s.N k v f g a b c).2 (ndM s.N k v f g a b c).1 7)))) from if_neg hs]
  exact ndM_vd k v f g a b c
theorem mMk_pre (k v f g a b c : Int32) (s : MS) : s.N <+: (mMk k v f g a b c s).2.N := by
  unfold mMk
  split
  · exact List.prefix_refl _
  · show s.N <+: (ndM s.N k v f g a b c).2
    unfold ndM
    show s.N <+: (if _ then _ else _)
    split
    · exact List.prefix_refl _
    · exact List.prefix_append _ _
section FRR
variable {M : Mt} {pc : Nat} {lv : List (Nat × Value)} {st : List Value} {P : mR → mH → Prop} {f : FR} {j : Nat}
theorem ep_fT (hd : decode M.2.1 pc = .ok (.iaload, 1)) (hf : frR rA j = f) (hj : j < 400) (k : EvP M d (pc + 1) lv (.int f.t :: st) (HC X cI cA rI rA ol J) P) : EvP M d pc lv (.int (nI j) :: .ref 27 :: st) (HC X cI cA rI rA ol J) P := by
  subst hf
  exact ep_iald (f := rA 19) j hd rfl rfl hj (by decide) k
theorem ep_fO (hd : decode M.2.1 pc = .ok (.iaload, 1)) (hf : frR rA j = f) (hj : j < 400) (k : EvP M d (pc + 1) lv (.int f.o :: st) (HC X cI cA rI rA ol J) P) : EvP M d pc lv (.int (nI j) :: .ref 28 :: st) (HC X cI cA rI rA ol J) P := by
  subst hf
  exact ep_iald (f := rA 20) j hd rfl rfl hj (by decide) k
theorem ep_fN (hd : decode M.2.1 pc = .ok (.iaload, 1)) (hf : frR rA j = f) (hj : j < 400) (k : EvP M d (pc + 1) lv (.int f.n :: st) (HC X cI cA rI rA ol J) P) : EvP M d pc lv (.int (nI j) :: .ref 29 :: st) (HC X cI cA rI rA ol J) P := by
  subst hf
  exact ep_iald (f := rA 21) j hd rfl rfl hj (by decide) k
theorem ep_fA (hd : decode M.2.1 pc = .ok (.iaload, 1)) (hf : frR rA j = f) (hj : j < 400) (k : EvP M d (pc + 1) lv (.int f.a :: st) (HC X cI cA rI rA ol J) P) : EvP M d pc lv (.int (nI (3 * j)) :: .ref 30 :: st) (HC X cI cA rI rA ol J) P := by
  subst hf
  exact ep_iald (f := rA 22) (3 * j) hd rfl rfl (by omega) (by decide) k
theorem ep_fB (hd : decode M.2.1 pc = .ok (.iaload, 1)) (hf : frR rA j = f) (hj : j < 400) (k : EvP M d (pc + 1) lv (.int f.b :: st) (HC X cI cA rI rA ol J) P) : EvP M d pc lv (.int (nI (3 * j + 1)) :: .ref 30 :: st) (HC X cI cA rI rA ol J) P := by
  subst hf
  exact ep_iald (f := rA 22) (3 * j + 1) hd rfl rfl (by omega) (by decide) k
theorem ep_fC (hd : decode M.2.1 pc = .ok (.iaload, 1)) (hf : frR rA j = f) (hj : j < 400) (k : EvP M d (pc + 1) lv (.int f.c :: st) (HC X cI cA rI rA ol J) P) : EvP M d pc lv (.int (nI (3 * j + 2)) :: .ref 30 :: st) (HC X cI cA rI rA ol J) P := by
  subst hf
  exact ep_iald (f := rA 22) (3 * j + 2) hd rfl rfl (by omega) (by decide) k
end FRR
theorem m3 (j : Nat) : (3 : Int32) * nI j = nI (3 * j) := by rw [show (3 : Int32) = nI 3 from by decide, pk_mul]
theorem a2 (j : Nat) : nI j + 2 = nI (j + 2) := by rw [show (2 : Int32) = nI 2 from by decide, nI_add]
theorem fr0 (hd : MD L S ct rI rA s) : ∃ f0, frR rA 0 = f0 ∧ f0.t = 10 ∧ f0.n = s.b := ⟨_, rfl, hd.t0, hd.b⟩
theorem mMk_b (k v f g a b c : Int32) (s : MS) : (mMk k v f g a b c s).2.b = s.b := by unfold mMk; split <;> rfl
theorem mFl_n {f : FR} (eK : s.K = []) : mFl f s = if 0 ≤ s.b then ((mMk 3 0 f.o (-1) f.a f.b f.c s).1, mEn (mMk 3 0 f.o (-1) f.a f.b f.c s).2 (mMk 3 0 f.o (-1) f.a f.b f.c s).1) else mMk 3 0 f.o (-1) f.a f.b f.c s := by
  unfold mFl mFl2
  rw [mMk_K, eK, mMk_b]
theorem mFl_c {f g : FR} {K : List FR} (eK : s.K = g :: K) : mFl f s = if g.t = 8 then ((mMk 3 0 f.o (-1) f.a f.b f.c s).1, (MS.u_ne ((mMk 3 0 f.o (-1) f.a f.b f.c s).2) true)) else ((mMk 3 0 f.o (-1) f.a f.b f.c s).1, mEn (mMk 3 0 f.o (-1) f.a f.b f.c s).2 (mMk 3 0 f.o (-1) f.a f.b f.c s).1) := by
  unfold mFl mFl2
  rw [mMk_K, eK]
set_option maxHeartbeats 4000000 in
set_option maxRecDepth 100000 in
theorem M_filled {f : FR} (hd : MD L S ct rI rA s) (hf : frR rA (s.K.length + 1) = f) (hk : s.K.length ≤ 390) (hl : s.N.length ≤ 300) (he : s.E.length ≤ 310) (hv : s.wr = false → Vo s.N f.o ∧ Vo s.N (-1) ∧ Vo s.N f.a ∧ Vo s.N f.b ∧ Vo s.N f.c) : EvP m_M_filled (d + 3) 0 [(0, .ref 16), (1, .int (nI (s.K.length + 1)))] [] (HC X cI cA rI rA ol J) (MPi X cI cA ol J L S ct (mFl f s)) := by
  refine ep_aload_n (j := 0) d_M_filled_0 rfl rfl ?_
  refine ep_iconst (v := 3) d_M_filled_1 (by decide) ?_
  refine ep_iconst (v := 0) d_M_filled_2 (by decide) ?_
  refine ep_aload_n (j := 0) d_M_filled_3 rfl rfl ?_
  refine ep_getf (fi := 20) (v := .ref 28) d_M_filled_4 cl5 lf_M_43 (by decide) rfl rfl ?_
  refine ep_iload_n (j := 1) d_M_filled_7 rfl rfl ?_
  refine ep_fO d_M_filled_8 hf (by omega) ?_
  refine ep_iconst (v := (-1)) d_M_filled_9 (by decide) ?_
  refine ep_aload_n (j := 0) d_M_filled_10 rfl rfl ?_
  refine ep_getf (fi := 22) (v := .ref 30) d_M_filled_11 cl5 lf_M_49 (by decide) rfl rfl ?_
  refine ep_iconst (v := 3) d_M_filled_14 (by decide) ?_
  refine ep_iload_n (j := 1) d_M_filled_15 rfl rfl ?_
  refine ep_imul d_M_filled_16 ?_
  refine ep_cg (y := nI (3 * (s.K.length + 1))) (m3 _) ?_
  refine ep_fA d_M_filled_17 hf (by omega) ?_
  refine ep_aload_n (j := 0) d_M_filled_18 rfl rfl ?_
  refine ep_getf (fi := 22) (v := .ref 30) d_M_filled_19 cl5 lf_M_49 (by decide) rfl rfl ?_
  refine ep_iconst (v := 3) d_M_filled_22 (by decide) ?_
  refine ep_iload_n (j := 1) d_M_filled_23 rfl rfl ?_
  refine ep_imul d_M_filled_24 ?_
  refine ep_cg (y := nI (3 * (s.K.length + 1))) (m3 _) ?_
  refine ep_iconst (v := 1) d_M_filled_25 (by decide) ?_
  refine ep_iadd d_M_filled_26 ?_
  refine ep_cg (y := nI (3 * (s.K.length + 1) + 1)) (nI_1 _) ?_
  refine ep_fB d_M_filled_27 hf (by omega) ?_
  refine ep_aload_n (j := 0) d_M_filled_28 rfl rfl ?_
  refine ep_getf (fi := 22) (v := .ref 30) d_M_filled_29 cl5 lf_M_49 (by decide) rfl rfl ?_
  refine ep_iconst (v := 3) d_M_filled_32 (by decide) ?_
  refine ep_iload_n (j := 1) d_M_filled_33 rfl rfl ?_
  refine ep_imul d_M_filled_34 ?_
  refine ep_cg (y := nI (3 * (s.K.length + 1))) (m3 _) ?_
  refine ep_iconst (v := 2) d_M_filled_35 (by decide) ?_
  refine ep_iadd d_M_filled_36 ?_
  refine ep_cg (y := nI (3 * (s.K.length + 1) + 2)) (a2 _) ?_
  refine ep_fC d_M_filled_37 hf (by omega) ?_
  refine ep_callVm (As := [.int 3, .int 0, .int f.o, .int (-1), .int f.a, .int f.b, .int f.c]) (st := []) d_M_filled_38 lk_M_190 cal_M_make tm_M_make ts_M_make rfl rfl rfl (Nat.le_of_ble_eq_true rfl) (Nat.le_of_ble_eq_true rfl) rfl rfl (M_make hd hl 3 0 f.o (-1) f.a f.b f.c hv) (fun rI1 rA1 hd1 => ?_)
  refine ep_istore_n (lv' := [(0, .ref 16), (1, .int (nI (s.K.length + 1))), (2, .int ((mMk 3 0 f.o (-1) f.a f.b f.c s).1))]) [1, 2, 0] d_M_filled_41 rfl (by decide) rfl ?_
  cases eK : s.K with
  | nil =>
    obtain ⟨f0, h0, e0, e1⟩ := fr0 hd1
    refine ep_aload_n (j := 0) d_M_filled_42 rfl rfl ?_
    refine ep_getf (fi := 18) (v := .int (nI (((mMk 3 0 f.o (-1) f.a f.b f.c s).2).K.length + 1))) d_M_filled_43 cl5 lf_M_120 (by decide) rfl (congrArg (fun z => some (Value.int z)) hd1.tz) ?_
    refine ep_if_le (tgt := 72) d_M_filled_46 (by decide) (fun z => absurd z (by rw [mMk_K, eK]; decide)) (fun _ => ?_)
    refine ep_aload_n (j := 0) d_M_filled_49 rfl rfl ?_
    refine ep_getf (fi := 19) (v := .ref 27) d_M_filled_50 cl5 lf_M_40 (by decide) rfl rfl ?_
    refine ep_aload_n (j := 0) d_M_filled_53 rfl rfl ?_
    refine ep_getf (fi := 18) (v := .int (nI (((mMk 3 0 f.o (-1) f.a f.b f.c s).2).K.length + 1))) d_M_filled_54 cl5 lf_M_120 (by decide) rfl (congrArg (fun z => some (Value.int z)) hd1.tz) ?_
    refine ep_iconst (v := 1) d_M_filled_57 (by decide) ?_
    refine ep_isub d_M_filled_58 ?_
    refine ep_cg (y := nI 0) (by rw [mMk_K, eK]; decide) ?_
    refine ep_fT d_M_filled_59 h0 (by decide) ?_
    refine ep_bipush (v := 8) d_M_filled_60 (by decide) ?_
    refine ep_icmp_ne (tgt := 72) d_M_filled_62 (by decide) (fun _ => ?_) (fun z => absurd z (by rw [e0]; decide))
    refine ep_aload_n (j := 0) d_M_filled_72 rfl rfl ?_
    refine ep_getf (fi := 18) (v := .int (nI (((mMk 3 0 f.o (-1) f.a f.b f.c s).2).K.length + 1))) d_M_filled_73 cl5 lf_M_120 (by decide) rfl (congrArg (fun z => some (Value.int z)) hd1.tz) ?_
    refine ep_iconst (v := 1) d_M_filled_76 (by decide) ?_
    refine ep_icmp_gt (tgt := 100) d_M_filled_77 (by decide) (fun z => absurd z (by rw [mMk_K, eK]; decide)) (fun _ => ?_)
    refine ep_aload_n (j := 0) d_M_filled_80 rfl rfl ?_
    refine ep_getf (fi := 19) (v := .ref 27) d_M_filled_81 cl5 lf_M_40 (by decide) rfl rfl ?_
    refine ep_iconst (v := 0) d_M_filled_84 (by decide) ?_
    refine ep_cg (y := nI 0) (by decide) ?_
    refine ep_fT d_M_filled_85 h0 (by decide) ?_
    refine ep_bipush (v := 10) d_M_filled_86 (by decide) ?_
    refine ep_icmp_ne (tgt := 100) d_M_filled_88 (by decide) (fun z => absurd e0 z) (fun _ => ?_)
    refine ep_aload_n (j := 0) d_M_filled_91 rfl rfl ?_
    refine ep_getf (fi := 21) (v := .ref 29) d_M_filled_92 cl5 lf_M_46 (by decide) rfl rfl ?_
    refine ep_iconst (v := 0) d_M_filled_95 (by decide) ?_
    refine ep_cg (y := nI 0) (by decide) ?_
    refine ep_fN d_M_filled_96 h0 (by decide) ?_
    refine ep_if_lt (tgt := 105) d_M_filled_97 (by decide) (fun c97 => ?_) (fun c97 => ?_)
    · refine ep_iload_n (j := 2) d_M_filled_105 rfl rfl ?_
      exact ep_iret d_M_filled_106 rfl rfl (MP_ok (by rw [mFl_n eK, if_neg (fun u => absurd u (Int32.not_le.mpr (by rw [e1, mMk_b] at c97; exact c97)))]) (by rw [mFl_n eK, if_neg (fun u => absurd u (Int32.not_le.mpr (by rw [e1, mMk_b] at c97; exact c97)))]) hd1)
    · refine ep_aload_n (j := 0) d_M_filled_100 rfl rfl ?_
      refine ep_iload_n (j := 2) d_M_filled_101 rfl rfl ?_
      refine ep_callVm (As := [.int ((mMk 3 0 f.o (-1) f.a f.b f.c s).1)]) (st := []) d_M_filled_102 lk_M_211 cal_M_enter tm_M_enter ts_M_enter rfl rfl rfl (Nat.le_of_ble_eq_true rfl) (Nat.le_of_ble_eq_true rfl) rfl rfl (M_enter hd1 (by rw [mMk_E]; omega) (mMk 3 0 f.o (-1) f.a f.b f.c s).1) (fun rI6 rA6 hd6 => ?_)
      refine ep_iload_n (j := 2) d_M_filled_105 rfl rfl ?_
      exact ep_iret d_M_filled_106 rfl rfl (MP_ok (by rw [mFl_n eK, if_pos (Int32.not_lt.mp (by rw [e1, mMk_b] at c97; exact c97))]) (by rw [mFl_n eK, if_pos (Int32.not_lt.mp (by rw [e1, mMk_b] at c97; exact c97))]) hd6)
  | cons g K =>
    have hkk : K.length + 1 ≤ 390 := by rw [eK] at hk; simpa using hk
    have eK1 : (mMk 3 0 f.o (-1) f.a f.b f.c s).2.K = g :: K := (mMk_K _ _ _ _ _ _ _ _).trans eK
    refine ep_aload_n (j := 0) d_M_filled_42 rfl rfl ?_
    refine ep_getf (fi := 18) (v := .int (nI (((mMk 3 0 f.o (-1) f.a f.b f.c s).2).K.length + 1))) d_M_filled_43 cl5 lf_M_120 (by decide) rfl (congrArg (fun z => some (Value.int z)) hd1.tz) ?_
    refine ep_if_le (tgt := 72) d_M_filled_46 (by decide) (fun z => absurd z (by rw [mMk_K, eK, ← nI_0]; exact fun z => absurd ((nI_leI (by simp; omega) (by omega)).mp z) (by simp))) (fun _ => ?_)
    refine ep_aload_n (j := 0) d_M_filled_49 rfl rfl ?_
    refine ep_getf (fi := 19) (v := .ref 27) d_M_filled_50 cl5 lf_M_40 (by decide) rfl rfl ?_
    refine ep_aload_n (j := 0) d_M_filled_53 rfl rfl ?_
    refine ep_getf (fi := 18) (v := .int (nI (((mMk 3 0 f.o (-1) f.a f.b f.c s).2).K.length + 1))) d_M_filled_54 cl5 lf_M_120 (by decide) rfl (congrArg (fun z => some (Value.int z)) hd1.tz) ?_
    refine ep_iconst (v := 1) d_M_filled_57 (by decide) ?_
    refine ep_isub d_M_filled_58 ?_
    refine ep_cg (y := nI (K.length + 1)) (by rw [mMk_K, eK]; exact nI_pred _) ?_
    refine ep_fT d_M_filled_59 (hd1.top eK1).1 (by omega) ?_
    refine ep_bipush (v := 8) d_M_filled_60 (by decide) ?_
    refine ep_icmp_ne (tgt := 72) d_M_filled_62 (by decide) (fun c62 => ?_) (fun c62 => ?_)
    · refine ep_aload_n (j := 0) d_M_filled_72 rfl rfl ?_
      refine ep_getf (fi := 18) (v := .int (nI (((mMk 3 0 f.o (-1) f.a f.b f.c s).2).K.length + 1))) d_M_filled_73 cl5 lf_M_120 (by decide) rfl (congrArg (fun z => some (Value.int z)) hd1.tz) ?_
      refine ep_iconst (v := 1) d_M_filled_76 (by decide) ?_
      refine ep_icmp_gt (tgt := 100) d_M_filled_77 (by decide) (fun _ => ?_) (fun z => absurd (by rw [mMk_K, eK, show (1 : Int32) = nI 1 from by decide]; exact nI_lt (by simp) (by simp; omega)) z)
      refine ep_aload_n (j := 0) d_M_filled_100 rfl rfl ?_
      refine ep_iload_n (j := 2) d_M_filled_101 rfl rfl ?_
      refine ep_callVm (As := [.int ((mMk 3 0 f.o (-1) f.a f.b f.c s).1)]) (st := []) d_M_filled_102 lk_M_211 cal_M_enter tm_M_enter ts_M_enter rfl rfl rfl (Nat.le_of_ble_eq_true rfl) (Nat.le_of_ble_eq_true rfl) rfl rfl (M_enter hd1 (by rw [mMk_E]; omega) (mMk 3 0 f.o (-1) f.a f.b f.c s).1) (fun rI6 rA6 hd6 => ?_)
      refine ep_iload_n (j := 2) d_M_filled_105 rfl rfl ?_
      exact ep_iret d_M_filled_106 rfl rfl (MP_ok (by rw [mFl_c eK, if_neg c62]) (by rw [mFl_c eK, if_neg c62]) hd6)
    · refine ep_aload_n (j := 0) d_M_filled_65 rfl rfl ?_
      refine ep_iconst (v := 1) d_M_filled_66 (by decide) ?_
      refine ep_putf' (fi := 25) (h2 := HC X cI cA (upd rI1 25 1) rA1 ol J) d_M_filled_67 cl5 lf_M_227 (by decide) (Or.inl rfl) rfl rfl hI_16_25 ?_
      have hd7 : MD L S ct (upd rI1 25 1) rA1 ((MS.u_ne ((mMk 3 0 f.o (-1) f.a f.b f.c s).2) true)) := hd1.se (q := true) rfl
      generalize upd rI1 25 1 = rI7 at hd7 ⊢
      refine ep_iload_n (j := 2) d_M_filled_70 rfl rfl ?_
      exact ep_iret d_M_filled_71 rfl rfl (MP_ok (by rw [mFl_c eK, if_pos c62]) (by rw [mFl_c eK, if_pos c62]) hd7)
end MS3
