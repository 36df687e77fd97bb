/-! the reference's reading only adds nodes -/
section PRE
variable {L : List Int32} {s : MS}
theorem mPut_N (x : Int32) : (mPut s x).N = s.N := by unfold mPut; cases s.K <;> rfl
theorem mArgs_pre (F : Nat) : ∀ s : MS, s.N <+: (mArgs L F s).N := by
  induction F with
  | zero => intro s; exact List.prefix_refl _
  | succ F ih =>
    intro s
    by_cases h : s.wr = false ∧ tN s < 3 ∧ pk L s = 76
    · rw [show mArgs L (F + 1) s = mArgs L F (mPut (mLit L s).2 (mLit L s).1) from if_pos h]
      have := ih (mPut (mLit L s).2 (mLit L s).1)
      rw [mPut_N] at this
      exact mLit_pre.trans this
    · rw [show mArgs L (F + 1) s = s from if_neg h]
      exact List.prefix_refl _
theorem mFl2_N (q : IM) : (mFl2 q).2.N = q.2.N := by
  unfold mFl2
  cases q.2.K with
  | nil => show (if _ then _ else _ : IM).2.N = _; split <;> rfl
  | cons f K => show (if _ then _ else _ : IM).2.N = _; split <;> rfl
theorem mFl_pre (f : FR) : s.N <+: (mFl f s).2.N := by
  unfold mFl
  rw [mFl2_N]
  exact mMk_pre _ _ _ _ _ _ _ _
theorem mNA2_pre : s.N <+: (mNA2 L s).2.N := by
  cases eK : s.K with
  | nil => unfold mNA2; rw [eK]; exact List.prefix_refl _
  | cons f K =>
    rw [mNA2_c eK]
    split
    · exact mFl_pre (s := mK (mAv s 1) K) f
    · exact List.prefix_refl _
theorem mNA_pre : s.N <+: (mNA L s).2.N := (mArgs_pre 4 s).trans mNA2_pre
theorem mBA_pre (n : Int32) : s.N <+: (mBA L n s).2.N := mNA_pre (s := mBe 4 n 0 (mEx L 73 s))
theorem mXt_N (x : Int32) : (mXt x s).2.N = s.N := by unfold mXt; split <;> rfl
theorem mN2_N (f : FR) (K : List FR) : (mN2 f K s).N = s.N := by
  unfold mN2
  show (if f.n = 0 then mEn s f.o else s).N = s.N
  split <;> rfl
theorem mN4_pre (f : FR) : s.N <+: (mN4 L f s).2.N := by
  unfold mN4
  have := mMk_pre 2 (mId L s).1 f.o (-1) (-1) (-1) (-1) (mId L s).2
  rw [mId_N.1] at this
  exact this
theorem mNx_pre : (∀ q, mNx L s = .inl q → s.N <+: q.2.N) ∧ (∀ s', mNx L s = .inr s' → s.N <+: s'.N) := by
  cases eK : s.K with
  | nil =>
    unfold mNx
    rw [eK]
    exact ⟨fun q e => (by cases e; exact List.prefix_refl _), fun s' e => (by cases e)⟩
  | cons f K =>
    cases hw : s.wr with
    | true =>
      have e0 : mNx L s = .inl (-1, s) := by unfold mNx; rw [eK]; exact if_pos hw
      rw [e0]
      exact ⟨fun q e => (by cases e; exact List.prefix_refl _), fun s' e => (by cases e)⟩
    | false =>
      rw [mNx_c eK hw]
      by_cases c : pk L s = 69
      · rw [if_pos c]
        exact ⟨fun q e => (by cases e; rw [mXt_N]; exact List.prefix_refl _), fun s' e => (by cases e)⟩
      · rw [if_neg c]
        by_cases c2 : pk L s = 73
        · rw [if_pos c2]
          by_cases c3 : cN s.N f.o 0 = 3
          · rw [if_pos c3]
            exact ⟨fun q e => (by cases e; show s.N <+: (mN2 f K s).N; rw [mN2_N]; exact List.prefix_refl _), fun s' e => (by cases e)⟩
          · rw [if_neg c3]
            refine ⟨fun q e => ?_, fun s' e => (by cases e)⟩
            cases e
            have := mBA_pre (L := L) (s := mN2 f K s) f.o
            rw [mN2_N] at this
            exact this
        · rw [if_neg c2]
          refine ⟨fun q e => (by cases e), fun s' e => ?_⟩
          cases e
          have := mN4_pre (L := L) (s := mN2 f K s) f
          rw [mN2_N] at this
          exact this
theorem NN.pre {q : IM} (h : NN L s q) : s.N <+: q.2.N := by
  induction h using NN.ind with
  | wrong _ _ => exact List.prefix_refl _
  | done _ _ _ _ e => exact mNx_pre.1 _ e
  | more _ _ _ _ e _ ih => exact (mNx_pre.2 _ e).trans ih
theorem mSt_N (q : IM) : (mSt q).N = q.2.N := by unfold mSt; cases q.2.K <;> rfl
theorem Sl.pre {q r : IM} (h : Sl L q r) : q.2.N <+: r.2.N := by
  induction h using Sl.ind with
  | fin _ => exact List.prefix_refl _
  | @go q r t _ _ _ n _ ih =>
    have := n.pre
    rw [mSt_N] at this
    exact this.trans ih
theorem mNm_pre (x : Int32) : s.N <+: (mNm x s).2.N := mMk_pre _ _ _ _ _ _ _ _
theorem mIdNm_pre : s.N <+: (mNm (mId L s).1 (mId L s).2).2.N := by
  have := mNm_pre (s := (mId L s).2) (mId L s).1
  rw [mId_N.1] at this
  exact this
theorem mBN_pre : s.N <+: (mBN L s).N := by
  unfold mBN
  split
  · exact List.prefix_refl _
  · exact mIdNm_pre
theorem mRT_pre : s.N <+: (mRT L s).2.N := by
  unfold mRT
  split
  · exact mMk_pre 0 _ _ _ _ _ _ (mAv s 1)
  split
  · unfold mRS
    split
    · exact mBA_pre (s := (mTold L s).2) _
    · exact List.prefix_refl _
  split
  · unfold mRD
    split
    · exact mIdNm_pre.trans (mBA_pre (s := (eQ (mNm (mId L s).1 (mId L s).2)).2) _)
    · exact mIdNm_pre
  split
  · exact List.prefix_refl _
  split
  · exact List.prefix_refl _
  · exact List.prefix_refl _
theorem RT.pre {q : IM} (h : RT L s q) : s.N <+: q.2.N := by
  cases h using RT.ind with
  | nest _ n => exact (mBN_pre (s := mAv s 1)).trans n.pre
  | oth _ => exact mRT_pre
theorem mTk4_pre (no : Bool) (g : FR) (K : List FR) : s.N <+: (mTk4 L no g K s).2.N := by
  unfold mTk4
  split
  · exact mMk_pre 8 _ _ _ _ _ _ (mK (mAv s 1) K)
  · exact List.prefix_refl _
theorem mTk3_pre (g : FR) (K : List FR) : s.N <+: (mTk3 L g K s).2.N := by
  unfold mTk3
  split
  · exact mTk4_pre (s := mAv s 1) _ _ _
  · exact mTk4_pre _ _ _
theorem mTk_pre (n : Int32) : s.N <+: (mTk L n s).2.N := by
  cases eK : s.K with
  | nil => unfold mTk; rw [eK]; exact List.prefix_refl _
  | cons f K =>
    rw [mTk_c eK]
    split
    · unfold mTk7
      exact mMk_pre _ _ _ _ _ _ _ (mOr (mK s K) _)
    split
    · have := mNA_pre (L := L) (s := mPut s n)
      rw [mPut_N] at this
      exact this
    · unfold mTk2
      split
      · have := mTk3_pre (L := L) (s := mK s ((FR.u_n (FR.u_o f n) (f.n + 1)) :: K)) (FR.u_n (FR.u_o f n) (f.n + 1)) K
        exact this
      · have := mTk3_pre (L := L) (s := mK (mOr s (decide (cN s.N n 0 = 0 ∧ cN s.N n 1 = 0))) ((f.set n).inc :: K)) (f.set n).inc K
        exact this
theorem Lp.pre {q r : IM} (h : Lp L q r) : q.2.N <+: r.2.N := by
  induction h using Lp.ind with
  | fin _ => exact List.prefix_refl _
  | rd _ _ _ hR hS _ ih => exact (hR.pre.trans hS.pre).trans ih
  | tk _ _ _ _ _ _ hS _ ih => exact ((mTk_pre _).trans hS.pre).trans ih
theorem SC.pre {q : IM} (h : SC L s q) : s.N <+: q.2.N := by
  rcases h with ⟨_, r, t, n, sl, lp⟩ | ⟨_, t, c, lp⟩
  · exact (((mBN_pre (s := mAv s 1)).trans n.pre).trans sl.pre).trans lp.pre
  · refine List.IsPrefix.trans ?_ lp.pre
    split at c
    · exact ((mIdNm_pre (L := L) (s := s)).trans (mBA_pre (s := mEn (mNm (mId L s).1 (mId L s).2).2 (mNm (mId L s).1 (mId L s).2).1) _)).trans c.pre
    · rw [c]; exact mIdNm_pre
theorem mPar_N (m : Nat) (p : Int32) : (mPar m p s).N = s.N := by
  unfold mPar
  split
  · rfl
  · split <;> rfl
theorem PL.pre {m : Nat} {r : MS} (h : PL L m s r) : s.N <+: r.N := by
  induction h using PL.ind with
  | stop _ => exact List.prefix_refl _
  | @step m s s1 s2 p _ _ _ _ lp _ _ ih =>
    have := lp.pre
    rw [mPar_N] at ih
    exact List.IsPrefix.trans this ih
theorem RE2.pre {n g : Int32} {res : IM} (h : RE2 L n g s res) : s.N <+: res.2.N := by
  obtain ⟨_, s5, a, _, _, rfl⟩ := h
  refine List.IsPrefix.trans ?_ (mMk_pre 10 _ _ _ _ _ _ _)
  show s.N <+: s5.N
  split at a
  · rw [a]; exact List.prefix_refl _
  · exact a.pre
theorem RE1.pre {n : Int32} {res : IM} (h : RE1 L n s res) : s.N <+: res.2.N := by
  rcases h with ⟨_, _, q, lp, h2⟩ | ⟨_, h2⟩
  · exact List.IsPrefix.trans lp.pre h2.pre
  · exact h2.pre
theorem RE.pre {res : IM} (h : RE L s res) : s.N <+: res.2.N := by
  rcases h with ⟨_, h1⟩ | ⟨_, _, q, sc, _, h1⟩
  · exact h1.pre
  · exact List.IsPrefix.trans sc.pre h1.pre
end PRE
