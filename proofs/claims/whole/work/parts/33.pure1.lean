/-! reading: digits, ids and told ones -/
/-! reading, as functions of lists: what the reference does -/
/-- a frame of the reference's stack: task, of, number, list -/
abbrev FR : Type := Int32 × Int32 × Int32 × Int32 × Int32 × Int32
abbrev FR.t (s : FR) : Int32 := s.1
abbrev FR.o (s : FR) : Int32 := s.2.1
abbrev FR.n (s : FR) : Int32 := s.2.2.1
abbrev FR.a (s : FR) : Int32 := s.2.2.2.1
abbrev FR.b (s : FR) : Int32 := s.2.2.2.2.1
abbrev FR.c (s : FR) : Int32 := s.2.2.2.2.2
abbrev FR.u_t (s : FR) (x : Int32) : FR := (x, s.2.1, s.2.2.1, s.2.2.2.1, s.2.2.2.2.1, s.2.2.2.2.2)
abbrev FR.u_o (s : FR) (x : Int32) : FR := (s.1, x, s.2.2.1, s.2.2.2.1, s.2.2.2.2.1, s.2.2.2.2.2)
abbrev FR.u_n (s : FR) (x : Int32) : FR := (s.1, s.2.1, x, s.2.2.2.1, s.2.2.2.2.1, s.2.2.2.2.2)
abbrev FR.u_a (s : FR) (x : Int32) : FR := (s.1, s.2.1, s.2.2.1, x, s.2.2.2.2.1, s.2.2.2.2.2)
abbrev FR.u_b (s : FR) (x : Int32) : FR := (s.1, s.2.1, s.2.2.1, s.2.2.2.1, x, s.2.2.2.2.2)
abbrev FR.u_c (s : FR) (x : Int32) : FR := (s.1, s.2.1, s.2.2.1, s.2.2.2.1, s.2.2.2.2.1, x)
/-- nodes, table, stack above its first frame, place, wrong, nested; of the first frame its number and list -/
abbrev MS : Type := List (List Int32) × List Int32 × List FR × Nat × Bool × Bool × Int32 × Int32 × Int32 × Int32
abbrev MS.N (s : MS) : List (List Int32) := s.1
abbrev MS.E (s : MS) : List Int32 := s.2.1
abbrev MS.K (s : MS) : List FR := s.2.2.1
abbrev MS.p (s : MS) : Nat := s.2.2.2.1
abbrev MS.wr (s : MS) : Bool := s.2.2.2.2.1
abbrev MS.ne (s : MS) : Bool := s.2.2.2.2.2.1
abbrev MS.b (s : MS) : Int32 := s.2.2.2.2.2.2.1
abbrev MS.q0 (s : MS) : Int32 := s.2.2.2.2.2.2.2.1
abbrev MS.q1 (s : MS) : Int32 := s.2.2.2.2.2.2.2.2.1
abbrev MS.q2 (s : MS) : Int32 := s.2.2.2.2.2.2.2.2.2
abbrev MS.u_N (s : MS) (x : List (List Int32)) : MS := (x, s.2.1, s.2.2.1, s.2.2.2.1, s.2.2.2.2.1, s.2.2.2.2.2.1, s.2.2.2.2.2.2.1, s.2.2.2.2.2.2.2.1, s.2.2.2.2.2.2.2.2.1, s.2.2.2.2.2.2.2.2.2)
abbrev MS.u_E (s : MS) (x : List Int32) : MS := (s.1, x, s.2.2.1, s.2.2.2.1, s.2.2.2.2.1, s.2.2.2.2.2.1, s.2.2.2.2.2.2.1, s.2.2.2.2.2.2.2.1, s.2.2.2.2.2.2.2.2.1, s.2.2.2.2.2.2.2.2.2)
abbrev MS.u_K (s : MS) (x : List FR) : MS := (s.1, s.2.1, x, s.2.2.2.1, s.2.2.2.2.1, s.2.2.2.2.2.1, s.2.2.2.2.2.2.1, s.2.2.2.2.2.2.2.1, s.2.2.2.2.2.2.2.2.1, s.2.2.2.2.2.2.2.2.2)
abbrev MS.u_p (s : MS) (x : Nat) : MS := (s.1, s.2.1, s.2.2.1, x, s.2.2.2.2.1, s.2.2.2.2.2.1, s.2.2.2.2.2.2.1, s.2.2.2.2.2.2.2.1, s.2.2.2.2.2.2.2.2.1, s.2.2.2.2.2.2.2.2.2)
abbrev MS.u_wr (s : MS) (x : Bool) : MS := (s.1, s.2.1, s.2.2.1, s.2.2.2.1, x, s.2.2.2.2.2.1, s.2.2.2.2.2.2.1, s.2.2.2.2.2.2.2.1, s.2.2.2.2.2.2.2.2.1, s.2.2.2.2.2.2.2.2.2)
abbrev MS.u_ne (s : MS) (x : Bool) : MS := (s.1, s.2.1, s.2.2.1, s.2.2.2.1, s.2.2.2.2.1, x, s.2.2.2.2.2.2.1, s.2.2.2.2.2.2.2.1, s.2.2.2.2.2.2.2.2.1, s.2.2.2.2.2.2.2.2.2)
abbrev MS.u_b (s : MS) (x : Int32) : MS := (s.1, s.2.1, s.2.2.1, s.2.2.2.1, s.2.2.2.2.1, s.2.2.2.2.2.1, x, s.2.2.2.2.2.2.2.1, s.2.2.2.2.2.2.2.2.1, s.2.2.2.2.2.2.2.2.2)
abbrev MS.u_q0 (s : MS) (x : Int32) : MS := (s.1, s.2.1, s.2.2.1, s.2.2.2.1, s.2.2.2.2.1, s.2.2.2.2.2.1, s.2.2.2.2.2.2.1, x, s.2.2.2.2.2.2.2.2.1, s.2.2.2.2.2.2.2.2.2)
abbrev MS.u_q1 (s : MS) (x : Int32) : MS := (s.1, s.2.1, s.2.2.1, s.2.2.2.1, s.2.2.2.2.1, s.2.2.2.2.2.1, s.2.2.2.2.2.2.1, s.2.2.2.2.2.2.2.1, x, s.2.2.2.2.2.2.2.2.2)
abbrev MS.u_q2 (s : MS) (x : Int32) : MS := (s.1, s.2.1, s.2.2.1, s.2.2.2.1, s.2.2.2.2.1, s.2.2.2.2.2.1, s.2.2.2.2.2.2.1, s.2.2.2.2.2.2.2.1, s.2.2.2.2.2.2.2.2.1, x)
abbrev IM : Type := Int32 × MS
def pk (L : List Int32) (s : MS) : Int32 := L.getD s.p 0
def mAv (s : MS) (n : Nat) : MS := (MS.u_p s (s.p + n))
def mWr (s : MS) (b : Bool) : MS := (MS.u_wr s b)
def mOr (s : MS) (b : Bool) : MS := (MS.u_wr s (s.wr || b))
def mEx (L : List Int32) (c : Int32) (s : MS) : MS := (MS.u_p (MS.u_wr s (s.wr || decide (¬ pk L s = c))) (s.p + 1))
def mEn (s : MS) (x : Int32) : MS := (MS.u_E s (s.E ++ [x]))
abbrev dgP (c : Int32) : Prop := ¬ c < 48 ∧ ¬ 57 < c
def dgs (L : List Int32) (b : Int32) (p : Nat) : List Int32 := (L.drop p).takeWhile fun c => decide (¬ digF c b = -1)
def vlD (b : Int32) (v : Int32) : List Int32 → Int32
  | [] => v
  | c :: r => vlD b (v * b + digF c b) r
def nGd (L : List Int32) (m : Nat) (s : MS) : Bool := decide (0 < (dgs L 10 s.p).length ∧ (dgs L 10 s.p).length ≤ m ∧ ((dgs L 10 s.p).length = 1 ∨ ¬ pk L s = 48))
def mNum (L : List Int32) (m : Nat) (s : MS) : IM := (if nGd L m s = true then vlD 10 0 ((dgs L 10 s.p).take m) else -1, mOr (mAv s (dgs L 10 s.p).length) (!nGd L m s))
def mLets (L : List Int32) : Nat → Int32 → MS → IM
  | 0, v, s => (v, s)
  | k + 1, v, s => if s.wr = true then (v, s) else mLets L k (256 * v + pk L s) (mAv (mWr s (decide (¬ smP (pk L s)))) 1)
def mId (L : List Int32) (s : MS) : IM := mLets L (mNum L 1 s).1.toNatClampNeg 0 (mOr (mNum L 1 s).2 (decide ((mNum L 1 s).1 < 1 ∨ 3 < (mNum L 1 s).1)))
def tlP (L : List Int32) (s : MS) : Int32 := if (dgs L 36 s.p).length = 0 then 0 else vlD 36 0 ((dgs L 36 s.p).take 3) + 1
def mTo2 (L : List Int32) (s : MS) : MS := mOr (mEx L 95 (mAv s (dgs L 36 s.p).length)) (decide ((1 < (dgs L 36 s.p).length ∧ pk L s = 48) ∨ 3 < (dgs L 36 s.p).length ∨ nI s.E.length ≤ tlP L s))
def mTold (L : List Int32) (s : MS) : IM := (if (mTo2 L (mEx L 83 s)).wr = true then 0 else s.E.getD (tlP L (mEx L 83 s)).toNatClampNeg 0, mTo2 L (mEx L 83 s))
/-- the reference's node: seven cells alike -/
def ixM (N : List (List Int32)) (k v f g a b c : Int32) : Nat := N.findIdx (fun u => decide (u.take 7 = [k, v, f, g, a, b, c]))
def dpr (N : List (List Int32)) (d x : Int32) : Int32 := if 0 ≤ x ∧ d ≤ cN N x 7 then cN N x 7 + 1 else d
def dpM (N : List (List Int32)) (f g a b c : Int32) : Int32 := dpr N (dpr N (dpr N (dpr N (dpr N 1 f) g) a) b) c
def ndM (N : List (List Int32)) (k v f g a b c : Int32) : Int32 × List (List Int32) := (nI (ixM N k v f g a b c), if ixM N k v f g a b c < N.length then N else N ++ [[k, v, f, g, a, b, c, dpM N f g a b c]])
def mMk (k v f g a b c : Int32) (s : MS) : IM := if s.wr = true then (0, s) else ((ndM s.N k v f g a b c).1, (MS.u_wr (MS.u_N s ((ndM s.N k v f g a b c).2)) (decide (16 < cN (ndM s.N k v f g a b c).2 (ndM s.N k v f g a b c).1 7))))
def mBi (k : Int32) (s : MS) : IM := mMk 0 k (-1) (-1) (-1) (-1) (-1) s
def mNm (x : Int32) (s : MS) : IM := mMk 1 x (-1) (-1) (-1) (-1) (-1) s
def mBe (t n v : Int32) (s : MS) : MS := (MS.u_K s (⟨t, n, v, -1, -1, -1⟩ :: s.K))
def FR.set (f : FR) (x : Int32) : FR := if f.n = 0 then (FR.u_a f x) else if f.n = 1 then (FR.u_b f x) else (FR.u_c f x)
def FR.inc (f : FR) : FR := (FR.u_n f (f.n + 1))
def mK (s : MS) (K : List FR) : MS := (MS.u_K s K)
def mPut (s : MS) (x : Int32) : MS := match s.K with
  | [] => s
  | f :: K => (MS.u_K s ((f.set x).inc :: K))
/-- whether what is whole comes into the table -/
abbrev cE (s : MS) : Prop := ¬ s.K = [] ∨ 0 ≤ s.b
def mFl2 (q : IM) : IM := match q.2.K with
  | [] => if 0 ≤ q.2.b then (q.1, mEn q.2 q.1) else q
  | f :: _ => if f.t = 8 then (q.1, (MS.u_ne q.2 true)) else (q.1, mEn q.2 q.1)
def mFl (f : FR) (s : MS) : IM := mFl2 (mMk 3 0 f.o (-1) f.a f.b f.c s)
/-- a literal: from behind its L on -/
def mLit3 (b : Int32) (bl : Bool) (z : IM) (L : List Int32) : IM := mMk 9 (if bl = true then -z.1 else z.1) b (-1) (-1) (-1) (-1) (mEx L 69 (mOr z.2 (decide (bl = true ∧ z.1 = 0))))
def mLit2 (L : List Int32) (q : IM) : IM := mLit3 q.1 (decide (pk L q.2 = 110)) (mNum L 6 (if pk L q.2 = 110 then mAv q.2 1 else q.2)) L
def mLit (L : List Int32) (s : MS) : IM := mLit2 L (mBi (bolF (pk L (mAv s 1))) (mWr (mAv (mAv s 1) 1) (decide (bolF (pk L (mAv s 1)) < 1))))
def tN (s : MS) : Int32 := match s.K with
  | [] => 0
  | f :: _ => f.n
def mArgs (L : List Int32) : Nat → MS → MS
  | 0, s => s
  | k + 1, s => if s.wr = false ∧ tN s < 3 ∧ pk L s = 76 then mArgs L k (mPut (mLit L s).2 (mLit L s).1) else s
def mNA2 (L : List Int32) (s : MS) : IM := match s.K with
  | [] => (-1, s)
  | f :: K => if s.wr = false ∧ 0 < f.n ∧ pk L s = 69 then mFl f (mK (mAv s 1) K) else (-1, mOr s (decide (f.n = 3)))
def mNA (L : List Int32) (s : MS) : IM := mNA2 L (mArgs L 4 s)
def mBA (L : List Int32) (n : Int32) (s : MS) : IM := mNA L (mBe 4 n 0 (mEx L 73 s))
def mXt (x : Int32) (s : MS) : IM := if cE s then (x, mEn s x) else (x, s)
def mN2 (f : FR) (K : List FR) (s : MS) : MS := mK (if f.n = 0 then mEn s f.o else s) ((FR.u_n f 0) :: K)
def mN3 (f : FR) (K : List FR) (q : IM) : MS := mK q.2 ((FR.u_o (FR.u_n f 0) q.1) :: K)
def mN4 (L : List Int32) (f : FR) (s : MS) : IM := mMk 2 (mId L s).1 f.o (-1) (-1) (-1) (-1) (mId L s).2
/-- one round of nextNested: its answer, or the next round's state -/
def mNx (L : List Int32) (s : MS) : IM ⊕ MS := match s.K with
  | [] => .inl (-1, s)
  | f :: K => if s.wr = true then .inl (-1, s) else
    if pk L s = 69 then .inl (mXt f.o (mWr (mK (mAv s 1) K) (decide (¬ cN s.N f.o 0 = 2 ∧ (¬ cN s.N f.o 0 = 3 ∨ ¬ cN s.N (cN s.N f.o 2) 0 = 2)))))
    else if pk L s = 73 then (if cN s.N f.o 0 = 3 then .inl (-1, mWr (mN2 f K s) true) else .inl (mBA L f.o (mN2 f K s)))
      else .inr (mN3 f K (mN4 L f (mN2 f K s)))
/-- the start of a nest, up to its first round -/
def mBN3 (L : List Int32) (s : MS) : MS := mOr s (decide (pk L s = 69))
def mBN2 (L : List Int32) (told : Int32) (q : IM) : MS := mBN3 L (mBe 8 q.1 told (mOr q.2 (decide (cN q.2.N q.1 0 < 1 ∨ 3 < cN q.2.N q.1 0))))
def mBN (L : List Int32) (s : MS) : MS := if pk L s = 83 then mBN2 L 1 (mTold L s) else mBN2 L 0 (mNm (mId L s).1 (mId L s).2)
def eQ (q : IM) : IM := (q.1, mEn q.2 q.1)
def mRS (L : List Int32) (q : IM) : IM := if q.2.wr = false ∧ cN q.2.N q.1 0 = 1 ∧ pk L q.2 = 73 then mBA L q.1 q.2 else q
def mRD (L : List Int32) (q : IM) : IM := if pk L q.2 = 73 ∧ q.2.wr = false then mBA L q.1 q.2 else q
def mRA (L : List Int32) (q : IM) : IM := (-1, mBe 7 7 q.1 (mEx L 95 (mOr q.2 (decide (q.1 < 1)))))
/-- a type's start, where no nest begins -/
def mRT (L : List Int32) (s : MS) : IM :=
  if 0 ≤ bolF (pk L s) then mBi (bolF (pk L s)) (mAv s 1)
  else if pk L s = 83 then mRS L (mTold L s)
  else if dgP (pk L s) then mRD L (eQ (mNm (mId L s).1 (mId L s).2))
  else if pk L s = 65 then mRA L (mNum L 3 (mAv s 1))
  else if pk L s = 70 then (-1, mBe 6 (-1) (-1) (mAv s 1))
  else (-1, mBe 7 (if pk L s = 80 then 4 else if pk L s = 82 then 5 else 6) 0 (mOr (mAv s 1) (decide (¬ pk L s = 80 ∧ ¬ pk L s = 82 ∧ ¬ pk L s = 75))))
def mTk4 (L : List Int32) (no : Bool) (g : FR) (K : List FR) (s : MS) : IM := if s.wr = false ∧ (no = true ∨ 0 < g.n) ∧ pk L s = 69 then eQ (mMk 8 0 g.o (-1) g.a g.b g.c (mK (mAv s 1) K)) else (-1, mOr s (decide (no = true ∨ g.n = 3)))
def mTk3 (L : List Int32) (g : FR) (K : List FR) (s : MS) : IM := if g.n = 0 ∧ pk L s = 118 then mTk4 L true g K (mAv s 1) else mTk4 L false g K s
def mTk2 (L : List Int32) (n : Int32) (f : FR) (K : List FR) (s : MS) : IM := if f.n < 0 then mTk3 L (FR.u_n (FR.u_o f n) (f.n + 1)) K (mK s ((FR.u_n (FR.u_o f n) (f.n + 1)) :: K)) else mTk3 L (f.set n).inc K (mK (mOr s (decide (cN s.N n 0 = 0 ∧ cN s.N n 1 = 0))) ((f.set n).inc :: K))
def mTk7 (f : FR) (K : List FR) (n : Int32) (s : MS) : IM := eQ (mMk f.o (if f.o = 7 then f.n else 0) n (-1) (-1) (-1) (-1) (mOr (mK s K) (decide (f.o = 6 ∧ cN s.N n 0 = 6))))
def mTk (L : List Int32) (n : Int32) (s : MS) : IM := match s.K with
  | [] => (n, s)
  | f :: K => if f.t = 7 then mTk7 f K n s else if f.t = 4 then mNA L (mPut s n) else mTk2 L n f K s
theorem digF_none (b : Int32) : digF (-1) b = -1 := by
  unfold digF
  rw [if_neg (by decide), if_neg (by intro h; exact absurd h.2.1 (by decide))]
theorem dgs_step (L : List Int32) (b : Int32) (s : RS) : dgs L b s.2.2 = if digF (nxt L s) b = -1 then [] else nxt L s :: dgs L b (s.2.2 + 1) := by
  unfold dgs nxt
  by_cases h : s.2.2 < L.length
  · rw [List.drop_eq_getElem_cons h, List.takeWhile_cons, List.getD_eq_getElem?_getD, List.getElem?_eq_getElem h]
    by_cases z : digF L[s.2.2] b = -1 <;> simp [z]
  · rw [List.drop_eq_nil_of_le (by omega), List.getD_eq_getElem?_getD, List.getElem?_eq_none (by omega)]
    simp [digF_none]
theorem rDigs_eq (L : List Int32) (b : Int32) (m : Nat) : ∀ (v : Int32) (n : Nat) (s : RS), rDigs L b m v n s = (vlD b v ((dgs L b s.2.2).take m), n + ((dgs L b s.2.2).take m).length, (s.1, s.2.1, s.2.2 + ((dgs L b s.2.2).take m).length)) := by
  induction m with
  | zero => intro v n s; rfl
  | succ k ih =>
    intro v n s
    show (if digF (nxt L s) b = -1 then (v, n, s) else rDigs L b k (v * b + digF (nxt L s) b) (n + 1) (adv s)) = _
    rw [dgs_step]
    by_cases z : digF (nxt L s) b = -1
    · rw [if_pos z, if_pos z]; rfl
    · rw [if_neg z, if_neg z, ih]
      simp only [List.take_succ_cons, List.length_cons, vlD, adv]
      simp only [Prod.mk.injEq, true_and]
      omega
/-- what stands behind the digits is none -/
theorem dgs_end (L : List Int32) (b : Int32) (s : RS) (k : Nat) (hk : k ≤ (dgs L b s.2.2).length) : dgs L b (s.2.2 + k) = (dgs L b s.2.2).drop k := by
  induction k with
  | zero => rfl
  | succ k ih =>
    have h1 := ih (by omega)
    have h2 := dgs_step L b (s.1, s.2.1, s.2.2 + k)
    by_cases z : digF (nxt L (s.1, s.2.1, s.2.2 + k)) b = -1
    · rw [if_pos z] at h2
      have h3 : ((dgs L b s.2.2).drop k).length = 0 := by rw [← h1]; rw [show dgs L b (s.2.2 + k) = [] from h2]; rfl
      rw [List.length_drop] at h3
      omega
    · rw [if_neg z] at h2
      have h4 : dgs L b (s.2.2 + k) = nxt L (s.1, s.2.1, s.2.2 + k) :: dgs L b (s.2.2 + k + 1) := h2
      rw [h1] at h4
      have h5 := congrArg (List.drop 1) h4
      rw [List.drop_drop] at h5
      exact h5.symm
def zf (x : Int32) : Int32 := if x = -1 then 0 else x
theorem zf_eq {x c : Int32} (h0 : ¬ c = 0) (h1 : ¬ c = -1) : (zf x = c) = (x = c) := by
  unfold zf
  by_cases h : x = -1
  · rw [if_pos h, h]; exact propext ⟨fun z => absurd z.symm h0, fun z => absurd z.symm h1⟩
  · rw [if_neg h]
def LOk (L : List Int32) : Prop := ∀ c, c ∈ L → ¬ c = -1
def rs (z : MS) (s : RS) (K : List FR) : MS := (MS.u_ne (MS.u_wr (MS.u_p (MS.u_K (MS.u_E (MS.u_N z s.1) s.2.1) K) s.2.2) false) false)
theorem nxt_in {L : List Int32} (s : RS) (h : s.2.2 < L.length) : nxt L s ∈ L := by
  unfold nxt
  rw [List.getD_eq_getElem?_getD, List.getElem?_eq_getElem h]
  exact List.getElem_mem h
theorem pk_zf {L : List Int32} (hL : LOk L) (s : MS) (r : RS) (e : s.p = r.2.2) : pk L s = zf (nxt L r) := by
  unfold pk zf
  by_cases h : s.p < L.length
  · have h2 : ¬ nxt L r = -1 := hL _ (nxt_in r (e ▸ h))
    rw [if_neg h2]
    unfold nxt
    rw [← e, List.getD_eq_getElem?_getD, List.getD_eq_getElem?_getD, List.getElem?_eq_getElem h]
    rfl
  · have h2 : nxt L r = -1 := by unfold nxt; rw [← e, List.getD_eq_getElem?_getD, List.getElem?_eq_none (by omega)]; rfl
    rw [if_pos h2, List.getD_eq_getElem?_getD, List.getElem?_eq_none (by omega)]
    rfl
theorem pk_c {L : List Int32} (hL : LOk L) (s : MS) (r : RS) (e : s.p = r.2.2) {c : Int32} (h0 : ¬ c = 0) (h1 : ¬ c = -1) : (pk L s = c) = (nxt L r = c) := by rw [pk_zf hL s r e, zf_eq h0 h1]
theorem dg_10 (c : Int32) : (digF c 10 = -1) = ¬ dgP c := by
  unfold digF
  by_cases h : ¬ c < 48 ∧ ¬ 57 < c
  · rw [if_pos h]
    refine propext ⟨fun z => absurd h.1 (fun q => q ?_), fun z => absurd h z⟩
    have : c = 47 := by
      have := congrArg (· + 48) z
      simp only [Int32.sub_add_cancel] at this
      exact this
    rw [this]; decide
  · rw [if_neg h, if_neg (by intro q; exact absurd q.1 (by decide))]
    exact propext ⟨fun _ => h, fun _ => rfl⟩
section
variable {L : List Int32} {z : MS} {K : List FR} {s : RS}
theorem rNum_eq (L : List Int32) (b : Int32) (m : Nat) (s : RS) : rNum L b m s = if ((dgs L b s.2.2).take m).length = 1 ∨ (1 < ((dgs L b s.2.2).take m).length ∧ ¬ nxt L s = 48) then .inr (vlD b 0 ((dgs L b s.2.2).take m), s.1, s.2.1, s.2.2 + ((dgs L b s.2.2).take m).length) else .inl 0 := by
  unfold rNum
  rw [rDigs_eq]
  simp only [Nat.zero_add]
theorem dgs_nil {b : Int32} (h : digF (nxt L s) b = -1) : dgs L b s.2.2 = [] := by rw [dgs_step, if_pos h]
theorem dgs_nil' {b : Int32} (h : dgs L b s.2.2 = []) : digF (nxt L s) b = -1 := by
  rw [dgs_step] at h
  by_cases q : digF (nxt L s) b = -1
  · exact q
  · rw [if_neg q] at h; cases h
/-- the number is read to its end: no digit stands behind -/
theorem rNum_end {b : Int32} {m : Nat} {v : Int32} {s' : RS} (h : rNum L b m s = .inr (v, s')) (he : digF (nxt L s') b = -1) : (dgs L b s.2.2).length ≤ m ∧ s' = (s.1, s.2.1, s.2.2 + (dgs L b s.2.2).length) ∧ v = vlD b 0 (dgs L b s.2.2) ∧ ((dgs L b s.2.2).length = 1 ∨ (1 < (dgs L b s.2.2).length ∧ ¬ nxt L s = 48)) := by
  rw [rNum_eq] at h
  by_cases q : ((dgs L b s.2.2).take m).length = 1 ∨ (1 < ((dgs L b s.2.2).take m).length ∧ ¬ nxt L s = 48)
  · rw [if_pos q] at h
    cases h
    have h1 := dgs_nil he
    have h2 := dgs_end L b s ((dgs L b s.2.2).take m).length (by rw [List.length_take]; omega)
    have h3 : ((dgs L b s.2.2).drop ((dgs L b s.2.2).take m).length).length = 0 := by rw [← h2, show dgs L b (s.2.2 + ((dgs L b s.2.2).take m).length) = [] from h1]; rfl
    rw [List.length_drop, List.length_take] at h3
    have h4 : (dgs L b s.2.2).length ≤ m := by omega
    rw [List.take_of_length_le h4] at q ⊢
    exact ⟨h4, rfl, rfl, q⟩
  · rw [if_neg q] at h; cases h
theorem rNum_all {b : Int32} {m : Nat} (h1 : (dgs L b s.2.2).length ≤ m) (h2 : (dgs L b s.2.2).length = 1 ∨ (1 < (dgs L b s.2.2).length ∧ ¬ nxt L s = 48)) : rNum L b m s = .inr (vlD b 0 (dgs L b s.2.2), s.1, s.2.1, s.2.2 + (dgs L b s.2.2).length) ∧ digF (nxt L (s.1, s.2.1, s.2.2 + (dgs L b s.2.2).length)) b = -1 := by
  rw [rNum_eq, List.take_of_length_le h1, if_pos h2]
  refine ⟨rfl, dgs_nil' ?_⟩
  show dgs L b (s.2.2 + (dgs L b s.2.2).length) = []
  rw [dgs_end L b s _ (Nat.le_refl _), List.drop_length]
theorem mNum_ok (hL : LOk L) {m : Nat} {v : Int32} {s' : RS} (h : rNum L 10 m s = .inr (v, s')) (he : digF (nxt L s') 10 = -1) : mNum L m (rs z s K) = (v, rs z s' K) := by
  obtain ⟨h1, h2, h3, h4⟩ := rNum_end h he
  have hg : nGd L m (rs z s K) = true := by
    unfold nGd
    refine decide_eq_true ⟨?_, h1, ?_⟩
    · show 0 < (dgs L 10 s.2.2).length; omega
    · rw [pk_c hL (rs z s K) s rfl (by decide) (by decide)]
      rcases h4 with h4 | h4
      · exact Or.inl h4
      · exact Or.inr h4.2
  unfold mNum
  rw [hg, if_pos rfl]
  show (vlD 10 0 ((dgs L 10 s.2.2).take m), _) = _
  rw [List.take_of_length_le h1, h3, h2]
  rfl
theorem mNum_x (hL : LOk L) {m : Nat} (h : ∀ v s', rNum L 10 m s = .inr (v, s') → ¬ digF (nxt L s') 10 = -1) : (mNum L m (rs z s K)).2.wr = true := by
  have hg : nGd L m (rs z s K) = false := by
    unfold nGd
    refine decide_eq_false (fun q => ?_)
    obtain ⟨q1, q2, q3⟩ := q
    rw [pk_c hL (rs z s K) s rfl (by decide) (by decide)] at q3
    have := rNum_all (L := L) (b := 10) (m := m) (s := s) q2 (by
      have q1 : 0 < (dgs L 10 s.2.2).length := q1
      rcases q3 with q3 | q3
      · exact Or.inl q3
      · by_cases w : (dgs L 10 s.2.2).length = 1
        · exact Or.inl w
        · exact Or.inr ⟨by omega, q3⟩)
    exact h _ _ this.1 this.2
  unfold mNum
  rw [hg]
  show (false || !false) = true
  rfl
end
theorem mOr_wr (s : MS) (b : Bool) : (mOr s b).wr = (s.wr || b) := rfl
theorem mEx_wr (L : List Int32) (c : Int32) (s : MS) : (mEx L c s).wr = (s.wr || decide (¬ pk L s = c)) := rfl
theorem mAv_wr (s : MS) (n : Nat) : (mAv s n).wr = s.wr := rfl
theorem mEn_wr (s : MS) (x : Int32) : (mEn s x).wr = s.wr := rfl
theorem mBe_wr (t n v : Int32) (s : MS) : (mBe t n v s).wr = s.wr := rfl
theorem mK_wr (s : MS) (K : List FR) : (mK s K).wr = s.wr := rfl
theorem mWr_wr (s : MS) (b : Bool) : (mWr s b).wr = b := rfl
theorem mNum_w {L : List Int32} {m : Nat} {s : MS} (h : s.wr = true) : (mNum L m s).2.wr = true := by unfold mNum; simp [mOr_wr, mEx_wr, mAv_wr, mEn_wr, mBe_wr, mK_wr, mWr_wr, h]
theorem mLets_w {L : List Int32} {k : Nat} {v : Int32} {s : MS} (h : s.wr = true) : (mLets L k v s).2.wr = true := by
  cases k with
  | zero => exact h
  | succ k => show (if s.wr = true then (v, s) else _).2.wr = true; rw [if_pos h]; exact h
theorem mId_w {L : List Int32} {s : MS} (h : s.wr = true) : (mId L s).2.wr = true := mLets_w (by simp [mOr_wr, mEx_wr, mAv_wr, mEn_wr, mBe_wr, mK_wr, mWr_wr, mNum_w h])
theorem mMk_w {k v f g a b c : Int32} {s : MS} (h : s.wr = true) : mMk k v f g a b c s = (0, s) := if_pos h
section
variable {L : List Int32} {z : MS} {K : List FR} {s : RS}
theorem or_nI {a e : Nat} (ha : a < 65536) (he : e < 256) : nI (a * 256) ||| nI e = nI (a * 256 + e) := by
  have h1 : a * 256 + e < 16777216 := by omega
  have h2 : (16777216 : Nat) < 2 ^ 32 := by decide
  apply Int32.toBitVec_inj.mp
  apply BitVec.eq_of_toNat_eq
  rw [Int32.toBitVec_or, BitVec.toNat_or, pk_tn (Nat.lt_trans (Nat.lt_of_le_of_lt (Nat.le_add_right _ _) h1) h2), pk_tn (Nat.lt_trans (Nat.lt_of_le_of_lt (Nat.le_add_left _ _) h1) h2), pk_tn (Nat.lt_trans h1 h2)]
  have := Nat.shiftLeft_add_eq_or_of_lt (show e < 2 ^ 8 from he) a
  rw [Nat.shiftLeft_eq] at this
  exact this.symm
theorem sm_nI {c : Int32} (h : smP c) : ∃ e : Nat, e < 256 ∧ c = nI e := by
  obtain ⟨j, hj, rfl⟩ := nI_of (x := c) (fun q => h.1 (by
    rw [Int32.lt_iff_toInt_lt] at q ⊢
    have : (0 : Int32).toInt = 0 := by decide
    have : (97 : Int32).toInt = 97 := by decide
    omega))
  refine ⟨j, ?_, rfl⟩
  have h2 := h.2
  rw [Int32.lt_iff_toInt_lt, nI_toInt hj] at h2
  have : (122 : Int32).toInt = 122 := by decide
  omega
theorem id_step {j : Nat} {c : Int32} (hj : j < 2 ^ 16) (hc : smP c) : ∃ i : Nat, i < 256 * j + 256 ∧ (nI j <<< ((8 : Int32) &&& 31) ||| c) = nI i ∧ 256 * nI j + c = nI i := by
  obtain ⟨e, he, rfl⟩ := sm_nI hc
  refine ⟨j * 256 + e, by omega, ?_, ?_⟩
  · rw [pk_shlN _ 8 (by decide) (Nat.lt_of_le_of_lt (Nat.mul_le_mul_right _ (Nat.le_of_lt hj)) (by decide))]
    exact or_nI hj he
  · rw [show (256 : Int32) = nI 256 from by decide, pk_mul, nI_add, Nat.mul_comm]
theorem mLets_ok (hL : LOk L) (k : Nat) : ∀ (v : Int32) (s : RS) {id : Int32} {s' : RS} (j : Nat), v = nI j → j < 256 ^ (3 - k) → k ≤ 3 → rLets L k v s = .inr (id, s') → mLets L k v (rs z s K) = (id, rs z s' K) := by
  induction k with
  | zero => intro v s id s' j _ _ hk h; cases h; rfl
  | succ k ih =>
    intro v s id s' j hv hj hk h
    have h : (if smP (nxt L s) then rLets L k (v <<< ((8 : Int32) &&& 31) ||| nxt L s) (adv s) else .inl 0) = .inr (id, s') := h
    by_cases q : smP (nxt L s)
    · rw [if_pos q] at h
      have h0 : ¬ nxt L s = -1 := by intro e; rw [e] at q; exact absurd q.1 (by decide)
      have hp : pk L (rs z s K) = nxt L s := by rw [pk_zf hL (rs z s K) s rfl]; exact if_neg h0
      have hj16 : j < 2 ^ 16 := Nat.lt_of_lt_of_le hj (Nat.le_trans (Nat.pow_le_pow_right (by omega) (show 3 - (k + 1) ≤ 2 by omega)) (by decide))
      obtain ⟨i, hi, e1, e2⟩ := id_step hj16 q
      show (if false = true then _ else mLets L k (256 * v + pk L (rs z s K)) (mAv (mWr (rs z s K) (decide (¬ smP (pk L (rs z s K))))) 1)) = _
      rw [if_neg (by decide), hp, hv, e2, decide_eq_false (fun w => w q)]
      rw [hv, e1] at h
      refine ih (nI i) (adv s) i rfl ?_ (by omega) h
      have : 256 ^ (3 - k) = 256 * 256 ^ (3 - (k + 1)) := by rw [show 3 - k = 3 - (k + 1) + 1 from by omega, Nat.pow_succ, Nat.mul_comm]
      omega
    · rw [if_neg q] at h; cases h
theorem mLets_x (hL : LOk L) (k : Nat) : ∀ (v : Int32) (v' : Int32) (s : RS) {n : Nat}, rLets L k v s = .inl n → (mLets L k v' (rs z s K)).2.wr = true := by
  induction k with
  | zero => intro v v' s n h; cases h
  | succ k ih =>
    intro v v' s n h
    have h : (if smP (nxt L s) then rLets L k (v <<< ((8 : Int32) &&& 31) ||| nxt L s) (adv s) else .inl 0) = .inl n := h
    show (if false = true then _ else mLets L k (256 * v' + pk L (rs z s K)) (mAv (mWr (rs z s K) (decide (¬ smP (pk L (rs z s K))))) 1)).2.wr = true
    rw [if_neg (by decide)]
    by_cases q : smP (nxt L s)
    · rw [if_pos q] at h
      have h0 : ¬ nxt L s = -1 := by intro e; rw [e] at q; exact absurd q.1 (by decide)
      have hp : pk L (rs z s K) = nxt L s := by rw [pk_zf hL (rs z s K) s rfl]; exact if_neg h0
      rw [hp, decide_eq_false (fun w => w q)]
      exact ih _ _ (adv s) h
    · refine mLets_w ?_
      show decide (¬ smP (pk L (rs z s K))) = true
      refine decide_eq_true (fun w => q ?_)
      rw [pk_zf hL (rs z s K) s rfl] at w
      unfold zf at w
      by_cases h0 : nxt L s = -1
      · rw [if_pos h0] at w; exact absurd w.1 (by decide)
      · rw [if_neg h0] at w; exact w
/-- a digit is no letter -/
theorem sm_dg {c : Int32} (h : smP c) : digF c 10 = -1 := by
  rw [dg_10]
  intro q
  have h1 := h.1
  have h2 := q.2
  rw [Int32.lt_iff_toInt_lt] at h1 h2
  have : (97 : Int32).toInt = 97 := by decide
  have : (57 : Int32).toInt = 57 := by decide
  omega
theorem lt1 {v : Int32} (h : ¬ v < 1) : 1 ≤ v := Int32.not_lt.mp h
theorem id_len {v : Int32} (h : ¬ (v < 1 ∨ 3 < v)) : ∃ k : Nat, v.toNatClampNeg = k + 1 ∧ k + 1 ≤ 3 := by
  have h1 : ¬ v < 1 := fun q => h (Or.inl q)
  have h2 : ¬ 3 < v := fun q => h (Or.inr q)
  rw [Int32.lt_iff_toInt_lt] at h1 h2
  have a1 : (1 : Int32).toInt = 1 := by decide
  have a3 : (3 : Int32).toInt = 3 := by decide
  have e : v.toNatClampNeg = v.toInt.toNat := rfl
  exact ⟨v.toNatClampNeg - 1, by omega, by omega⟩
theorem rLets_sm {k : Nat} {v id : Int32} {s' : RS} (h : rLets L (k + 1) v s = .inr (id, s')) : smP (nxt L s) := by
  have h : (if smP (nxt L s) then rLets L k (v <<< ((8 : Int32) &&& 31) ||| nxt L s) (adv s) else .inl 0) = .inr (id, s') := h
  by_cases q : smP (nxt L s)
  · exact q
  · rw [if_neg q] at h; cases h
theorem mId_ok (hL : LOk L) {x : Int32} {s' : RS} (h : rId L s = .inr (x, s')) : mId L (rs z s K) = (x, rs z s' K) := by
  unfold rId at h
  cases h1 : rNum L 10 1 s with
  | inl k => rw [h1] at h; cases h
  | inr q =>
    rw [h1, bnd_i] at h
    by_cases w : q.1 < 1 ∨ 3 < q.1
    · rw [if_pos w] at h; cases h
    · rw [if_neg w] at h
      obtain ⟨k, hk, hk3⟩ := id_len w
      rw [hk] at h
      have h2 := mNum_ok (z := z) (K := K) hL (v := q.1) (s' := q.2) h1 (sm_dg (rLets_sm h))
      unfold mId
      rw [h2]
      show mLets L q.1.toNatClampNeg 0 (mOr (rs z q.2 K) (decide (q.1 < 1 ∨ 3 < q.1))) = _
      rw [decide_eq_false w, hk]
      exact mLets_ok hL (k + 1) 0 q.2 0 (by decide) (Nat.pow_pos (by omega)) hk3 h
theorem mId_x (hL : LOk L) {n : Nat} (h : rId L s = .inl n) : (mId L (rs z s K)).2.wr = true := by
  unfold mId
  by_cases hd : ∀ v s', rNum L 10 1 s = .inr (v, s') → ¬ digF (nxt L s') 10 = -1
  · exact mLets_w (by simp [mOr_wr, mEx_wr, mAv_wr, mEn_wr, mBe_wr, mK_wr, mWr_wr, mNum_x hL hd])
  · have ⟨v, hd⟩ := Classical.not_forall.mp hd
    have ⟨s', hd⟩ := Classical.not_forall.mp hd
    have ⟨h1, hd⟩ := Classical.not_imp.mp hd
    rw [mNum_ok hL h1 (Classical.not_not.mp hd)]
    show (mLets L v.toNatClampNeg 0 (mOr (rs z s' K) (decide (v < 1 ∨ 3 < v)))).2.wr = true
    unfold rId at h
    rw [h1, bnd_i] at h
    by_cases w : v < 1 ∨ 3 < v
    · exact mLets_w (by simp [mOr_wr, mEx_wr, mAv_wr, mEn_wr, mBe_wr, mK_wr, mWr_wr, w])
    · rw [decide_eq_false w]
      rw [if_neg w] at h
      exact mLets_x hL _ _ _ _ h
end
section
variable {L : List Int32} {z : MS} {K : List FR} {s : RS}
theorem mEx_ok (hL : LOk L) {c : Int32} (h0 : ¬ c = 0) (h1 : ¬ c = -1) (h : nxt L s = c) : mEx L c (rs z s K) = rs z (adv s) K := by
  unfold mEx
  have : pk L (rs z s K) = c := by rw [pk_c hL (rs z s K) s rfl h0 h1]; exact h
  rw [decide_eq_false (fun w => w this)]
  rfl
theorem mEx_x (hL : LOk L) {c : Int32} (h0 : ¬ c = 0) (h1 : ¬ c = -1) (h : ¬ nxt L s = c) : (mEx L c (rs z s K)).wr = true := by
  show (false || decide (¬ pk L (rs z s K) = c)) = true
  rw [decide_eq_true (p := ¬ pk L (rs z s K) = c) (by rw [pk_c hL (rs z s K) s rfl h0 h1]; exact h)]
  rfl
theorem rPass_ok {c : Int32} {s' : RS} (h : rPass L c s = .inr s') : nxt L s = c ∧ s' = adv s := by
  unfold rPass at h
  by_cases w : nxt L s = c
  · rw [if_pos w] at h; cases h; exact ⟨w, rfl⟩
  · rw [if_neg w] at h; cases h
theorem bnd_inr {α β : Type} {x : Ex α} {f : α → Ex β} {y : β} (h : bnd x f = .inr y) : ∃ a, x = .inr a ∧ f a = .inr y := by
  cases x with
  | inl k => cases h
  | inr a => exact ⟨a, rfl, h⟩
theorem i_le {a b : Int32} : a ≤ b ↔ a.toInt ≤ b.toInt := Int32.le_iff_toInt_le
theorem i_lt {a b : Int32} : a < b ↔ a.toInt < b.toInt := Int32.lt_iff_toInt_lt
theorem dig36 {c : Int32} (h : ¬ digF c 36 = -1) : ∃ e : Nat, e < 36 ∧ digF c 36 = nI e ∧ (e = 0 → c = 48) := by
  unfold digF at h ⊢
  have a0 : (48 : Int32).toInt = 48 := by decide
  have a1 : (57 : Int32).toInt = 57 := by decide
  have a2 : (65 : Int32).toInt = 65 := by decide
  have a3 : (90 : Int32).toInt = 90 := by decide
  by_cases w : ¬ c < 48 ∧ ¬ 57 < c
  · rw [if_pos w]
    obtain ⟨w1, w2⟩ := w
    rw [i_lt] at w1 w2
    obtain ⟨j, hj, rfl⟩ := nI_of (x := c) (fun q => by have q := i_lt.mp q; rw [show (0 : Int32).toInt = 0 from by decide] at q; omega)
    rw [nI_toInt hj] at w1 w2
    refine ⟨j - 48, by omega, ?_, fun q => ?_⟩
    · rw [show (48 : Int32) = nI 48 from by decide, pk_sub (by omega)]
    · rw [show j = 48 by omega]; decide
  · rw [if_neg w] at h ⊢
    by_cases u : (36 : Int32) = 36 ∧ ¬ c < 65 ∧ ¬ 90 < c
    · rw [if_pos u]
      obtain ⟨_, w1, w2⟩ := u
      rw [i_lt] at w1 w2
      obtain ⟨j, hj, rfl⟩ := nI_of (x := c) (fun q => by have q := i_lt.mp q; rw [show (0 : Int32).toInt = 0 from by decide] at q; omega)
      rw [nI_toInt hj] at w1 w2
      refine ⟨j - 65 + 10, by omega, ?_, fun q => by omega⟩
      rw [show (65 : Int32) = nI 65 from by decide, pk_sub (by omega), show (10 : Int32) = nI 10 from by decide, nI_add]
    · rw [if_neg u] at h; exact absurd rfl h
theorem vl_nI {a : Nat} {c : Int32} {e : Nat} (h : digF c 36 = nI e) : nI a * 36 + digF c 36 = nI (a * 36 + e) := by
  rw [h, show (36 : Int32) = nI 36 from by decide, pk_mul, nI_add]
theorem tat_ok {T : List Int32} {x : Int32} (hT : T.length ≤ 1000) (h : ¬ tat T x = -1) : ∃ j : Nat, j < T.length ∧ x = nI j ∧ tat T x = T.getD j 0 := by
  unfold tat at h ⊢
  by_cases w : 0 ≤ x ∧ x < nI T.length
  · rw [if_pos w]
    obtain ⟨j, hj, rfl⟩ := nI_of' w.1
    have hl := (nI_ltI hj (by omega)).mp w.2
    refine ⟨j, hl, rfl, ?_⟩
    rw [nI_clamp hj, List.getD_eq_getElem?_getD, List.getD_eq_getElem?_getD, List.getElem?_eq_getElem hl]
    rfl
  · rw [if_neg w] at h; exact absurd rfl h
theorem tat_in {T : List Int32} {j : Nat} (hT : T.length ≤ 1000) (hp : ∀ y, y ∈ T → 0 ≤ y) (h : j < T.length) : ¬ tat T (nI j) = -1 ∧ tat T (nI j) = T.getD j 0 := by
  have e : tat T (nI j) = T.getD j 0 := by
    unfold tat
    rw [if_pos ⟨nI_pos' (by omega), nI_lt h (by omega)⟩, nI_clamp (by omega), List.getD_eq_getElem?_getD, List.getD_eq_getElem?_getD, List.getElem?_eq_getElem h]
    rfl
  refine ⟨fun w => ?_, e⟩
  rw [e, List.getD_eq_getElem?_getD, List.getElem?_eq_getElem h] at w
  have := hp _ (List.getElem_mem h)
  rw [show T[j] = -1 from w] at this
  exact absurd this (by decide)
theorem tlP_nil {s : MS} (h : (dgs L 36 s.p).length = 0) : tlP L s = 0 := if_pos h
theorem mTold_ok (hL : LOk L) {x : Int32} {s' : RS} (hT : s.2.1.length ≤ 1000) (h : rTold L s = .inr (x, s')) : mTold L (rs z s K) = (x, rs z s' K) := by
  unfold rTold at h
  obtain ⟨s1, h1, h⟩ := bnd_inr h
  obtain ⟨h83, rfl⟩ := rPass_ok h1
  obtain ⟨q, h2, h⟩ := bnd_inr h
  obtain ⟨s3, h3, h⟩ := bnd_inr h
  obtain ⟨h95, rfl⟩ := rPass_ok h3
  by_cases ht : tat (adv q.2).2.1 q.1 = -1
  · rw [if_pos ht] at h; cases h
  rw [if_neg ht] at h
  cases h
  unfold mTold
  rw [mEx_ok hL (by decide) (by decide) h83]
  -- the table is the same
  have key : ∃ n : Nat, n = (dgs L 36 (adv s).2.2).length ∧ q.2 = (s.1, s.2.1, (adv s).2.2 + n) ∧ tlP L (rs z (adv s) K) = q.1 ∧ n ≤ 3 ∧ ¬ (1 < n ∧ nxt L (adv s) = 48) := by
    by_cases w : nxt L (adv s) = 95
    · rw [if_pos w] at h2
      cases h2
      have e : dgs L 36 (adv s).2.2 = [] := dgs_nil (by rw [w]; decide)
      refine ⟨0, by rw [e]; rfl, rfl, ?_, by omega, by omega⟩
      exact tlP_nil (by show (dgs L 36 (adv s).2.2).length = 0; rw [e]; rfl)
    · rw [if_neg w] at h2
      obtain ⟨v, h4, h5⟩ := bnd_inr h2
      cases h5
      obtain ⟨a1, a2, a3, a4⟩ := rNum_end (v := v.1) (s' := v.2) h4 (by rw [show nxt L v.2 = 95 from h95]; decide)
      refine ⟨_, rfl, a2, ?_, by omega, fun u => ?_⟩
      · unfold tlP
        show (if (dgs L 36 (adv s).2.2).length = 0 then 0 else vlD 36 0 ((dgs L 36 (adv s).2.2).take 3) + 1) = v.1 + 1
        rw [if_neg (by omega), List.take_of_length_le (by omega), a3]
      · rcases a4 with a4 | a4
        · omega
        · exact a4.2 u.2
  obtain ⟨n, hn, hq, htl, hn3, hz⟩ := key
  have e1 : mAv (rs z (adv s) K) (dgs L 36 (rs z (adv s) K).p).length = rs z q.2 K := by
    rw [hq]
    show mAv (rs z (adv s) K) (dgs L 36 (adv s).2.2).length = _
    rw [← hn]; rfl
  have hT2 : (adv q.2).2.1 = s.2.1 := by rw [hq]; rfl
  obtain ⟨j, hj, hx, hv⟩ := tat_ok (by rw [hT2]; exact hT) ht
  have e2 : mTo2 L (rs z (adv s) K) = rs z (adv q.2) K := by
    unfold mTo2
    rw [e1, mEx_ok hL (by decide) (by decide) h95, decide_eq_false]
    · rfl
    · rintro (u | u | u)
      · rw [pk_c hL (rs z (adv s) K) (adv s) rfl (by decide) (by decide)] at u
        exact hz ⟨by rw [hn]; exact u.1, u.2⟩
      · have : 3 < (dgs L 36 (adv s).2.2).length := u
        omega
      · have u : nI s.2.1.length ≤ tlP L (rs z (adv s) K) := u
        rw [htl, hx, nI_leI (by omega) (by rw [hT2] at hj; omega)] at u
        rw [hT2] at hj
        omega
  rw [e2, if_neg (by show ¬ (false = true); decide), htl]
  have : (rs z s K).E = (adv q.2).2.1 := by rw [hT2]; rfl
  rw [this, hv, hx, nI_clamp (by rw [hT2] at hj; omega)]
theorem mTo2_w {s : MS} (h : s.wr = true) : (mTo2 L s).wr = true := by unfold mTo2; simp [mOr_wr, mEx_wr, mAv_wr, mEn_wr, mBe_wr, mK_wr, mWr_wr, h]
theorem vlD3 {l : List Int32} (hl : l.length = 3) (hd : ∀ c, c ∈ l → ¬ digF c 36 = -1) (h0 : ¬ l.head? = some 48) : ∃ j : Nat, 1296 ≤ j ∧ j < 100000 ∧ vlD 36 0 l = nI j := by
  match l, hl with
  | [a, b, c], _ =>
    obtain ⟨i, hi, ei, ni⟩ := dig36 (hd a (by simp [mOr_wr, mEx_wr, mAv_wr, mEn_wr, mBe_wr, mK_wr, mWr_wr]))
    obtain ⟨j, hj, ej, _⟩ := dig36 (hd b (by simp [mOr_wr, mEx_wr, mAv_wr, mEn_wr, mBe_wr, mK_wr, mWr_wr]))
    obtain ⟨k, hk, ek, _⟩ := dig36 (hd c (by simp [mOr_wr, mEx_wr, mAv_wr, mEn_wr, mBe_wr, mK_wr, mWr_wr]))
    have : ¬ i = 0 := fun w => h0 (by rw [ni w]; rfl)
    refine ⟨(i * 36 + j) * 36 + k, by omega, by omega, ?_⟩
    show ((0 * 36 + digF a 36) * 36 + digF b 36) * 36 + digF c 36 = _
    rw [show (0 : Int32) = nI 0 from by decide, vl_nI ei, vl_nI ej, vl_nI ek, Nat.zero_mul, Nat.zero_add]
theorem dgs_all {b : Int32} {p : Nat} : ∀ c, c ∈ dgs L b p → ¬ digF c b = -1 := fun c hc => by
  unfold dgs at hc
  have := List.all_eq_true.mp List.all_takeWhile c hc
  simpa using this
theorem dgs_head (hp : ¬ dgs L 36 s.2.2 = []) : (dgs L 36 s.2.2).head? = some (nxt L s) := by
  rw [dgs_step] at hp ⊢
  by_cases q : digF (nxt L s) 36 = -1
  · rw [if_pos q] at hp; exact absurd rfl hp
  · rw [if_neg q]; rfl
theorem mTold_x (hL : LOk L) {n : Nat} (hT : s.2.1.length ≤ 1000) (hp : ∀ y, y ∈ s.2.1 → 0 ≤ y) (h : rTold L s = .inl n) : (mTold L (rs z s K)).2.wr = true := by
  show (mTo2 L (mEx L 83 (rs z s K))).wr = true
  by_cases h83 : nxt L s = 83
  · rw [mEx_ok hL (by decide) (by decide) h83]
    by_cases hw : (mTo2 L (rs z (adv s) K)).wr = true
    · exact hw
    exfalso
    have hw : (mTo2 L (rs z (adv s) K)).wr = false := by simpa using hw
    unfold mTo2 at hw
    simp only [mOr_wr, Bool.or_eq_false_iff, decide_eq_false_iff_not] at hw
    obtain ⟨w1, w2⟩ := hw
    have w2a : ¬ (1 < (dgs L 36 (adv s).2.2).length ∧ pk L (rs z (adv s) K) = 48) := fun q => w2 (Or.inl q)
    have w2b : ¬ 3 < (dgs L 36 (adv s).2.2).length := fun q => w2 (Or.inr (Or.inl q))
    have w2c : ¬ nI s.2.1.length ≤ tlP L (rs z (adv s) K) := fun q => w2 (Or.inr (Or.inr q))
    rw [pk_c hL (rs z (adv s) K) (adv s) rfl (by decide) (by decide)] at w2a
    have w1a : nxt L (s.1, s.2.1, (adv s).2.2 + (dgs L 36 (adv s).2.2).length) = 95 := by
      have : (mEx L 95 (rs z (s.1, s.2.1, (adv s).2.2 + (dgs L 36 (adv s).2.2).length) K)).wr = false := w1
      by_cases u : nxt L (s.1, s.2.1, (adv s).2.2 + (dgs L 36 (adv s).2.2).length) = 95
      · exact u
      · rw [mEx_x hL (by decide) (by decide) u] at this; cases this
    have htl : tlP L (rs z (adv s) K) = if (dgs L 36 (adv s).2.2).length = 0 then 0 else vlD 36 0 ((dgs L 36 (adv s).2.2).take 3) + 1 := rfl
    rw [htl] at w2c
    have fin : ∀ (v : Int32) (q : RS), q = (s.1, s.2.1, (adv s).2.2 + (dgs L 36 (adv s).2.2).length) → ¬ nI s.2.1.length ≤ v → 0 ≤ v → (if nxt L (adv s) = 95 then (.inr (0, adv s) : Ex (Int32 × RS)) else bnd (rNum L 36 2 (adv s)) fun q => .inr (q.1 + 1, q.2)) = .inr (v, q) → False := by
      intro v q hq h1 h2 h3
      unfold rTold rPass at h
      rw [if_pos h83, bnd_i, h3, bnd_i, if_pos (by rw [hq]; exact w1a), bnd_i] at h
      obtain ⟨j, hj, rfl⟩ := nI_of' h2
      have : j < s.2.1.length := by
        rw [nI_leI (by omega) hj] at h1; omega
      have ht := (tat_in hT hp this).1
      have e : (adv q).2.1 = s.2.1 := by rw [hq]; rfl
      rw [if_neg (by show ¬ tat (adv q).2.1 (nI j) = -1; rw [e]; exact ht)] at h
      cases h
    by_cases hz : (dgs L 36 (adv s).2.2).length = 0
    · rw [if_pos hz] at w2c
      have e : dgs L 36 (adv s).2.2 = [] := List.eq_nil_of_length_eq_zero hz
      rw [hz] at w1a
      exact fin 0 (adv s) (by rw [hz]; rfl) w2c (by decide) (by rw [if_pos (show nxt L (adv s) = 95 from w1a)])
    · rw [if_neg hz] at w2c
      have hne : ¬ nxt L (adv s) = 95 := by
        intro u
        exact hz (by rw [dgs_nil (show digF (nxt L (adv s)) 36 = -1 by rw [u]; decide)]; rfl)
      by_cases h3 : (dgs L 36 (adv s).2.2).length = 3
      · rw [List.take_of_length_le (by omega)] at w2c
        obtain ⟨j, j1, j2, ej⟩ := vlD3 h3 dgs_all (by
          rw [dgs_head (by intro w; rw [w] at hz; exact hz rfl)]
          intro w
          exact w2a ⟨by omega, Option.some.inj w⟩)
        rw [ej, nI_1, nI_leI (by omega) (by omega)] at w2c
        omega
      · have hr := rNum_all (L := L) (b := 36) (m := 2) (s := adv s) (by omega) (by
          by_cases w : (dgs L 36 (adv s).2.2).length = 1
          · exact Or.inl w
          · exact Or.inr ⟨by omega, fun u => w2a ⟨by omega, u⟩⟩)
        rw [List.take_of_length_le (by omega)] at w2c
        refine fin (vlD 36 0 (dgs L 36 (adv s).2.2) + 1) _ rfl w2c ?_ (by rw [if_neg hne, hr.1]; rfl)
        -- the number is not below 0
        have : ∃ j : Nat, j < 2000 ∧ vlD 36 0 (dgs L 36 (adv s).2.2) = nI j := by
          match hm : dgs L 36 (adv s).2.2, hz, h3, w2b with
          | [a], _, _, _ =>
            obtain ⟨i, hi, ei, _⟩ := dig36 (dgs_all (L := L) (p := (adv s).2.2) a (by rw [hm]; simp [mOr_wr, mEx_wr, mAv_wr, mEn_wr, mBe_wr, mK_wr, mWr_wr]))
            refine ⟨i, by omega, ?_⟩
            show 0 * 36 + digF a 36 = _
            rw [show (0 : Int32) = nI 0 from by decide, vl_nI ei, Nat.zero_mul, Nat.zero_add]
          | [a, b], _, _, _ =>
            obtain ⟨i, hi, ei, _⟩ := dig36 (dgs_all (L := L) (p := (adv s).2.2) a (by rw [hm]; simp [mOr_wr, mEx_wr, mAv_wr, mEn_wr, mBe_wr, mK_wr, mWr_wr]))
            obtain ⟨k, hk, ek, _⟩ := dig36 (dgs_all (L := L) (p := (adv s).2.2) b (by rw [hm]; simp [mOr_wr, mEx_wr, mAv_wr, mEn_wr, mBe_wr, mK_wr, mWr_wr]))
            refine ⟨i * 36 + k, by omega, ?_⟩
            show (0 * 36 + digF a 36) * 36 + digF b 36 = _
            rw [show (0 : Int32) = nI 0 from by decide, vl_nI ei, vl_nI ek, Nat.zero_mul, Nat.zero_add]
          | a :: b :: c :: d :: r, _, _, w => exact absurd (by simp [mOr_wr, mEx_wr, mAv_wr, mEn_wr, mBe_wr, mK_wr, mWr_wr]) w
        obtain ⟨j, hj, ej⟩ := this
        rw [ej, nI_1]
        exact nI_pos' (by omega)
  · exact mTo2_w (mEx_x hL (by decide) (by decide) h83)
end
