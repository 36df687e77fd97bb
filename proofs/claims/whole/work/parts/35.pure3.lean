/-! the reference reads types as the class does -/
/-! the reference's rounds, as relations; each state they pass is good -/
def FO (N : List (List Int32)) (f : FR) : Prop :=
  (f.t = 7 ∧ ((f.o = 7 ∧ ¬ f.n < 1 ∧ f.n ≤ 999) ∨ f.o = 4 ∨ f.o = 5 ∨ f.o = 6)) ∨
  (f.t = 4 ∧ (kN N f.o = 1 ∨ kN N f.o = 2) ∧ (f.n = 0 ∨ f.n = 1 ∨ f.n = 2) ∧ Vo N f.a ∧ Vo N f.b ∧ Vo N f.c) ∨
  (f.t = 6 ∧ Vo N f.o ∧ (f.n = -1 ∨ f.n = 0 ∨ f.n = 1 ∨ f.n = 2) ∧ Vo N f.a ∧ Vo N f.b ∧ Vo N f.c) ∨
  (f.t = 8 ∧ Vd N f.o ∧ (cN N f.o 0 = 3 → Vd N (cN N f.o 2)) ∧ (f.n = 0 ∨ f.n = 1))
abbrev Gd (L : List Int32) (s : MS) : Prop := (s.N.length ≤ 200) ∧ (s.E.length ≤ 250) ∧ (s.K.length ≤ 200) ∧ (s.p ≤ L.length) ∧ (L.length ≤ 120) ∧ (∀ x, x ∈ s.E → Vd s.N x) ∧ (∀ f K, s.K = f :: K → FO s.N f)
theorem Gd.n {L : List Int32} {s : MS} (h_ : Gd L s) : s.N.length ≤ 200 := h_.1
theorem Gd.e {L : List Int32} {s : MS} (h_ : Gd L s) : s.E.length ≤ 250 := h_.2.1
theorem Gd.k {L : List Int32} {s : MS} (h_ : Gd L s) : s.K.length ≤ 200 := h_.2.2.1
theorem Gd.p {L : List Int32} {s : MS} (h_ : Gd L s) : s.p ≤ L.length := h_.2.2.2.1
theorem Gd.l {L : List Int32} {s : MS} (h_ : Gd L s) : L.length ≤ 120 := h_.2.2.2.2.1
theorem Gd.v {L : List Int32} {s : MS} (h_ : Gd L s) : ∀ x, x ∈ s.E → Vd s.N x := h_.2.2.2.2.2.1
theorem Gd.f {L : List Int32} {s : MS} (h_ : Gd L s) : ∀ f K, s.K = f :: K → FO s.N f := h_.2.2.2.2.2.2
theorem FR.put0 {f : FR} {x : Int32} (h : f.n = 0) : (f.set x).inc = ⟨f.t, f.o, 1, x, f.b, f.c⟩ := by
  unfold FR.set FR.inc
  rw [if_pos h]
  show (f.t, f.o, f.n + 1, x, f.b, f.c) = _
  rw [h]; rfl
theorem FR.put1 {f : FR} {x : Int32} (h : f.n = 1) : (f.set x).inc = ⟨f.t, f.o, 2, f.a, x, f.c⟩ := by
  unfold FR.set FR.inc
  rw [if_neg (by rw [h]; decide), if_pos h]
  show (f.t, f.o, f.n + 1, f.a, x, f.c) = _
  rw [h]; rfl
theorem FR.put2 {f : FR} {x : Int32} (h : f.n = 2) : (f.set x).inc = ⟨f.t, f.o, 3, f.a, f.b, x⟩ := by
  unfold FR.set FR.inc
  rw [if_neg (by rw [h]; decide), if_neg (by rw [h]; decide)]
  show (f.t, f.o, f.n + 1, f.a, f.b, x) = _
  rw [h]; rfl
def NN (L : List Int32) (s : MS) (q : IM) : Prop := ∀ R : MS → IM → Prop, (∀ s, s.wr = true → ¬ s.K = [] → R s (-1, s)) → (∀ s q, s.wr = false → ¬ s.K = [] → Gd L s → (∀ f K, s.K = f :: K → f.t = 8) → mNx L s = .inl q → R s q) → (∀ s s' q, s.wr = false → ¬ s.K = [] → Gd L s → (∀ f K, s.K = f :: K → f.t = 8) → mNx L s = .inr s' → R s' q → R s q) → R s q
theorem NN.wrong {L : List Int32} {s : MS} (h1 : s.wr = true) (h2 : ¬ s.K = []) : NN L s (-1, s) := fun _ w _ _ => w s h1 h2
theorem NN.done {L : List Int32} {s : MS} {q : IM} (h1 : s.wr = false) (h2 : ¬ s.K = []) (h3 : Gd L s) (h4 : ∀ f K, s.K = f :: K → f.t = 8) (h5 : mNx L s = .inl q) : NN L s q := fun _ _ d _ => d s q h1 h2 h3 h4 h5
theorem NN.more {L : List Int32} {s s' : MS} {q : IM} (h1 : s.wr = false) (h2 : ¬ s.K = []) (h3 : Gd L s) (h4 : ∀ f K, s.K = f :: K → f.t = 8) (h5 : mNx L s = .inr s') (h6 : NN L s' q) : NN L s q := fun R w d m => m s s' q h1 h2 h3 h4 h5 (h6 R w d m)
theorem NN.ind {L : List Int32} {motive : (s : MS) → (q : IM) → NN L s q → Prop} (wrong : ∀ {s : MS} (h1 : s.wr = true) (h2 : ¬ s.K = []), motive s (-1, s) (NN.wrong h1 h2)) (done : ∀ {s : MS} {q : IM} (h1 : s.wr = false) (h2 : ¬ s.K = []) (h3 : Gd L s) (h4 : ∀ f K, s.K = f :: K → f.t = 8) (h5 : mNx L s = .inl q), motive s q (NN.done h1 h2 h3 h4 h5)) (more : ∀ {s s' : MS} {q : IM} (h1 : s.wr = false) (h2 : ¬ s.K = []) (h3 : Gd L s) (h4 : ∀ f K, s.K = f :: K → f.t = 8) (h5 : mNx L s = .inr s') (h6 : NN L s' q) (_ : motive s' q h6), motive s q (NN.more h1 h2 h3 h4 h5 h6)) {s : MS} {q : IM} (h : NN L s q) : motive s q h :=
  (h (fun s q => ∃ h : NN L s q, motive s q h) (fun _ h1 h2 => ⟨_, wrong h1 h2⟩) (fun _ _ h1 h2 h3 h4 h5 => ⟨_, done h1 h2 h3 h4 h5⟩) (fun _ _ _ h1 h2 h3 h4 h5 h6 => h6.elim fun h6 i => ⟨_, more h1 h2 h3 h4 h5 h6 i⟩)).elim fun _ i => i
/-- a filled one laid into its nest -/
def mSt (q : IM) : MS := match q.2.K with
  | [] => q.2
  | f :: K => (MS.u_K (MS.u_ne q.2 false) ((FR.u_n (FR.u_o f q.1) 0) :: K))
def Sl (L : List Int32) (q t : IM) : Prop := ∀ R : IM → IM → Prop, (∀ q : IM, ¬ (q.2.ne = true ∧ q.2.wr = false) → R q q) → (∀ q r t : IM, q.2.ne = true → q.2.wr = false → ¬ q.2.K = [] → NN L (mSt q) r → R r t → R q t) → R q t
theorem Sl.fin {L : List Int32} {q : IM} (h : ¬ (q.2.ne = true ∧ q.2.wr = false)) : Sl L q q := fun _ f _ => f q h
theorem Sl.go {L : List Int32} {q r t : IM} (h1 : q.2.ne = true) (h2 : q.2.wr = false) (h3 : ¬ q.2.K = []) (h4 : NN L (mSt q) r) (h5 : Sl L r t) : Sl L q t := fun R f g => g q r t h1 h2 h3 h4 (h5 R f g)
theorem Sl.ind {L : List Int32} {motive : (q t : IM) → Sl L q t → Prop} (fin : ∀ {q : IM} (h : ¬ (q.2.ne = true ∧ q.2.wr = false)), motive q q (Sl.fin h)) (go : ∀ {q r t : IM} (h1 : q.2.ne = true) (h2 : q.2.wr = false) (h3 : ¬ q.2.K = []) (h4 : NN L (mSt q) r) (h5 : Sl L r t) (_ : motive r t h5), motive q t (Sl.go h1 h2 h3 h4 h5)) {q t : IM} (h : Sl L q t) : motive q t h :=
  (h (fun q t => ∃ h : Sl L q t, motive q t h) (fun _ h => ⟨_, fin h⟩) (fun _ _ _ h1 h2 h3 h4 h5 => h5.elim fun h5 i => ⟨_, go h1 h2 h3 h4 h5 i⟩)).elim fun _ i => i
def RT (L : List Int32) (s : MS) (q : IM) : Prop := (pk L s = 78 ∧ NN L (mBN L (mAv s 1)) q) ∨ (¬ pk L s = 78 ∧ q = mRT L s)
theorem RT.nest {L : List Int32} {s : MS} {q : IM} (h1 : pk L s = 78) (h2 : NN L (mBN L (mAv s 1)) q) : RT L s q := Or.inl ⟨h1, h2⟩
theorem RT.oth {L : List Int32} {s : MS} (h1 : ¬ pk L s = 78) : RT L s (mRT L s) := Or.inr ⟨h1, rfl⟩
theorem RT.ind {L : List Int32} {motive : (s : MS) → (q : IM) → RT L s q → Prop} (nest : ∀ {s : MS} {q : IM} (h1 : pk L s = 78) (h2 : NN L (mBN L (mAv s 1)) q), motive s q (RT.nest h1 h2)) (oth : ∀ {s : MS} (h1 : ¬ pk L s = 78), motive s (mRT L s) (RT.oth h1)) {s : MS} {q : IM} (h : RT L s q) : motive s q h := by
  rcases h with ⟨h1, h2⟩ | ⟨h1, h2⟩
  · exact nest h1 h2
  · subst h2; exact oth h1
def Lp (L : List Int32) (q u : IM) : Prop := ∀ R : IM → IM → Prop, (∀ q : IM, (q.2.wr = true ∨ (0 ≤ q.1 ∧ q.2.K = [])) → R q q) → (∀ q r t u : IM, q.2.wr = false → q.1 < 0 → Gd L q.2 → RT L q.2 r → Sl L r t → R t u → R q u) → (∀ q t u : IM, q.2.wr = false → 0 ≤ q.1 → ¬ q.2.K = [] → Gd L q.2 → Vd q.2.N q.1 → (∀ f K, q.2.K = f :: K → ¬ f.t = 8) → Sl L (mTk L q.1 q.2) t → R t u → R q u) → R q u
theorem Lp.fin {L : List Int32} {q : IM} (h : q.2.wr = true ∨ (0 ≤ q.1 ∧ q.2.K = [])) : Lp L q q := fun _ f _ _ => f q h
theorem Lp.rd {L : List Int32} {q r t u : IM} (h1 : q.2.wr = false) (h2 : q.1 < 0) (h3 : Gd L q.2) (h4 : RT L q.2 r) (h5 : Sl L r t) (h6 : Lp L t u) : Lp L q u := fun R f g k => g q r t u h1 h2 h3 h4 h5 (h6 R f g k)
theorem Lp.tk {L : List Int32} {q t u : IM} (h1 : q.2.wr = false) (h2 : 0 ≤ q.1) (h3 : ¬ q.2.K = []) (h4 : Gd L q.2) (h5 : Vd q.2.N q.1) (h6 : ∀ f K, q.2.K = f :: K → ¬ f.t = 8) (h7 : Sl L (mTk L q.1 q.2) t) (h8 : Lp L t u) : Lp L q u := fun R f g k => k q t u h1 h2 h3 h4 h5 h6 h7 (h8 R f g k)
theorem Lp.ind {L : List Int32} {motive : (q u : IM) → Lp L q u → Prop} (fin : ∀ {q : IM} (h : q.2.wr = true ∨ (0 ≤ q.1 ∧ q.2.K = [])), motive q q (Lp.fin h)) (rd : ∀ {q r t u : IM} (h1 : q.2.wr = false) (h2 : q.1 < 0) (h3 : Gd L q.2) (h4 : RT L q.2 r) (h5 : Sl L r t) (h6 : Lp L t u) (_ : motive t u h6), motive q u (Lp.rd h1 h2 h3 h4 h5 h6)) (tk : ∀ {q t u : IM} (h1 : q.2.wr = false) (h2 : 0 ≤ q.1) (h3 : ¬ q.2.K = []) (h4 : Gd L q.2) (h5 : Vd q.2.N q.1) (h6 : ∀ f K, q.2.K = f :: K → ¬ f.t = 8) (h7 : Sl L (mTk L q.1 q.2) t) (h8 : Lp L t u) (_ : motive t u h8), motive q u (Lp.tk h1 h2 h3 h4 h5 h6 h7 h8)) {q u : IM} (h : Lp L q u) : motive q u h :=
  (h (fun q u => ∃ h : Lp L q u, motive q u h) (fun _ h => ⟨_, fin h⟩) (fun _ _ _ _ h1 h2 h3 h4 h5 h6 => h6.elim fun h6 i => ⟨_, rd h1 h2 h3 h4 h5 h6 i⟩) (fun _ _ _ h1 h2 h3 h4 h5 h6 h7 h8 => h8.elim fun h8 i => ⟨_, tk h1 h2 h3 h4 h5 h6 h7 h8 i⟩)).elim fun _ i => i
/-- ends that are not right: wrong, or an I stands behind a whole type -/
def Bad (L : List Int32) (q : IM) : Prop := q.2.wr = true ∨ (0 ≤ q.1 ∧ q.2.K = [] ∧ q.2.wr = false ∧ q.2.ne = false ∧ pk L q.2 = 73 ∧ Gd L q.2 ∧ Vd q.2.N q.1)
section
variable {L : List Int32} {Q : IM → Prop}
def Ok (L : List Int32) (Q : IM → Prop) (q : IM) : Prop := ∃ r, Lp L q r ∧ Q r
def SOk (L : List Int32) (Q : IM → Prop) (q : IM) : Prop := ∃ r, Sl L q r ∧ Ok L Q r
def NOk (L : List Int32) (Q : IM → Prop) (s : MS) : Prop := ∃ r, NN L s r ∧ SOk L Q r
def BQ (L : List Int32) (Q : IM → Prop) : Prop := ∀ q, Bad L q → Q q
theorem ok_wr (hB : BQ L Q) {q : IM} (h : q.2.wr = true) : Ok L Q q := ⟨q, .fin (Or.inl h), hB q (Or.inl h)⟩
theorem sok_wr (hB : BQ L Q) {q : IM} (h : q.2.wr = true) : SOk L Q q := ⟨q, .fin (fun w => by rw [h] at w; cases w.2), ok_wr hB h⟩
theorem nok_wr (hB : BQ L Q) {s : MS} (h : s.wr = true) (hk : ¬ s.K = []) : NOk L Q s := ⟨_, .wrong h hk, sok_wr hB h⟩
theorem sok_ok {q : IM} (h : q.2.ne = false) (k : Ok L Q q) : SOk L Q q := ⟨q, .fin (fun w => by rw [h] at w; cases w.1), k⟩
theorem ok_rd {q : IM} (h1 : q.2.wr = false) (h2 : q.1 < 0) (g : Gd L q.2) (hn : ¬ pk L q.2 = 78) (k : SOk L Q (mRT L q.2)) : Ok L Q q := by
  obtain ⟨r, a, t, b, c⟩ := k
  exact ⟨t, .rd h1 h2 g (.oth hn) a b, c⟩
theorem ok_nest {q : IM} (h1 : q.2.wr = false) (h2 : q.1 < 0) (g : Gd L q.2) (hn : pk L q.2 = 78) (k : NOk L Q (mBN L (mAv q.2 1))) : Ok L Q q := by
  obtain ⟨n, i, r, a, t, b, c⟩ := k
  exact ⟨t, .rd h1 h2 g (.nest hn i) a b, c⟩
theorem ok_tk {q : IM} (h1 : q.2.wr = false) (h2 : 0 ≤ q.1) (h3 : ¬ q.2.K = []) (g : Gd L q.2) (v : Vd q.2.N q.1) (h8 : ∀ f K, q.2.K = f :: K → ¬ f.t = 8) (k : SOk L Q (mTk L q.1 q.2)) : Ok L Q q := by
  obtain ⟨r, a, t, b, c⟩ := k
  exact ⟨t, .tk h1 h2 h3 g v h8 a b, c⟩
theorem nok_done {s : MS} {q : IM} (h1 : s.wr = false) (h2 : ¬ s.K = []) (g : Gd L s) (h8 : ∀ f K, s.K = f :: K → f.t = 8) (e : mNx L s = .inl q) (k : SOk L Q q) : NOk L Q s := ⟨q, .done h1 h2 g h8 e, k⟩
theorem nok_more {s s' : MS} (h1 : s.wr = false) (h2 : ¬ s.K = []) (g : Gd L s) (h8 : ∀ f K, s.K = f :: K → f.t = 8) (e : mNx L s = .inr s') (k : NOk L Q s') : NOk L Q s := by
  obtain ⟨r, a, b⟩ := k
  exact ⟨r, .more h1 h2 g h8 e a, b⟩
theorem sok_go {q : IM} (h1 : q.2.ne = true) (h2 : q.2.wr = false) (h3 : ¬ q.2.K = []) (k : NOk L Q (mSt q)) : SOk L Q q := by
  obtain ⟨r, a, t, b, c⟩ := k
  exact ⟨t, .go h1 h2 h3 a b, c⟩
end
/-- a good state -/
theorem Iv.gd {L : List Int32} {j k : Nat} {s : RS} (h : Iv L j k s) {z : MS} {K : List FR} (hK : K.length ≤ s.2.2) (hf : ∀ f K', K = f :: K' → FO s.1 f) : Gd L (rs z s K) := by
  have h1 := h.l; have h2 := h.tl; have h3 := h.p; have h4 := h.m
  exact ⟨by show s.1.length ≤ 200; omega, by show s.2.1.length ≤ 250; omega, by show K.length ≤ 200; omega, h3, h4, fun x hx => ty_vd h.l' (h.t x hx).1, hf⟩
section
variable {L : List Int32} {Q : IM → Prop} {z : MS} {K : List FR} {s : RS} {j k : Nat}
/-- where an I stands behind a type, the reading ends wrong -/
theorem rt_I {S : MS} (h : pk L S = 73) : ¬ pk L S = 78 ∧ (mRT L S).2.wr = true := by
  refine ⟨by rw [h]; decide, ?_⟩
  unfold mRT
  rw [h, if_neg (by decide), if_neg (by decide), if_neg (by decide), if_neg (by decide), if_neg (by decide)]
  show (S.wr || decide (¬ (73 : Int32) = 80 ∧ ¬ (73 : Int32) = 82 ∧ ¬ (73 : Int32) = 75)) = true
  rw [decide_eq_true (by decide), Bool.or_true]
/-- the frames below: wrapping ones, then one that takes -/
def KO (N : List (List Int32)) : List FR → Prop
  | [] => True
  | f :: K => FO N f ∧ ((f.t = 7 ∧ KO N K) ∨ f.t = 4 ∨ f.t = 6)
theorem FO.ext {N N' : List (List Int32)} (h : N <+: N') (hN : N'.length ≤ 1000) {f : FR} (o : FO N f) : FO N' f := by
  have hl := Nat.le_trans h.length_le hN
  rcases o with o | ⟨a, b, c, d⟩ | ⟨a, b, c, d⟩ | ⟨a, b, c, d⟩
  · exact Or.inl o
  · refine Or.inr (Or.inl ⟨a, ?_, c, d.1.ext h, d.2.1.ext h, d.2.2.ext h⟩)
    have : Vo N f.o := Or.inr (b.elim (eq_vd hl (by decide)) (eq_vd hl (by decide)))
    show cN N' f.o 0 = 1 ∨ cN N' f.o 0 = 2
    rw [cN_ext h hN this]; exact b
  · exact Or.inr (Or.inr (Or.inl ⟨a, b.ext h, c, d.1.ext h, d.2.1.ext h, d.2.2.ext h⟩))
  · refine Or.inr (Or.inr (Or.inr ⟨a, b.ext h, fun u => ?_, d⟩))
    rw [cN_ext h hN (Or.inr b)] at u ⊢
    exact (c u).ext h
theorem KO.ext {N N' : List (List Int32)} (h : N <+: N') (hN : N'.length ≤ 1000) : ∀ {K : List FR}, KO N K → KO N' K
  | [], _ => trivial
  | _ :: _, o => ⟨o.1.ext h hN, o.2.imp (fun u => ⟨u.1, KO.ext h hN u.2⟩) id⟩
theorem KO.no8 {N : List (List Int32)} {K : List FR} (o : KO N K) : ∀ f K', K = f :: K' → ¬ f.t = 8 := by
  intro f K' e
  subst e
  rcases o.2 with h | h | h
  · rw [h.1]; decide
  · rw [h]; decide
  · rw [h]; decide
theorem KO.fo {N : List (List Int32)} {K : List FR} (o : KO N K) : ∀ f K', K = f :: K' → FO N f := by
  intro f K' e; subst e; exact o.1
/-- a made node of the reference, from any good state -/
theorem mMk_ms {S : MS} (hw : S.wr = false) (hW : WN S.N) (hl : S.N.length < 180) {c v f g a b e : Int32} (nk : NK S.N c v f g a b e) : (mMk c v f g a b e S).2.wr = true ∨ ∃ q, AO S.N c v f g a b e q ∧ mMk c v f g a b e S = (q.1, (MS.u_N S q.2)) := by
  have hS : S = (MS.u_ne (rs S (S.N, S.E, S.p) S.K) S.ne) := by show S = (S.N, S.E, S.K, S.p, false, S.ne, S.b, S.q0, S.q1, S.q2); rw [← hw]
  obtain ⟨v1, v2, v3, v4, v5⟩ := nk.vo (by omega)
  by_cases h1 : dmN S.N f g a b e < 16
  · right
    have ha : addN S.N c v f g a b e = .inr (mkN S.N [c, v, f, g, a, b, e, dmN S.N f g a b e + 1]) := by unfold addN; rw [if_pos h1, if_pos hl]
    refine ⟨_, addN_ao hW nk ha, ?_⟩
    have := mMk_ok (z := S) (K := S.K) (s := (S.N, S.E, S.p)) hW v1 v2 v3 v4 v5 ha
    unfold mMk at this ⊢
    rw [if_neg (by show ¬ (false = true); decide)] at this
    rw [if_neg (by rw [hw]; decide)]
    have p1 := congrArg Prod.fst this
    have p2 := congrArg (fun q : IM => q.2.N) this
    have p3 := congrArg (fun q : IM => q.2.wr) this
    simp only at p1 p2 p3
    have p1 : (ndM S.N c v f g a b e).1 = _ := p1
    have p2 : (ndM S.N c v f g a b e).2 = (mkN S.N [c, v, f, g, a, b, e, dmN S.N f g a b e + 1]).2 := p2
    have p3 : decide (16 < cN (ndM S.N c v f g a b e).2 (ndM S.N c v f g a b e).1 7) = false := p3
    rw [p3, p1, p2]
    obtain ⟨N', E', K', p', w', n', b', q0', q1', q2'⟩ := S; have hw : w' = false := hw; subst hw; rfl
  · left
    have ha : addN S.N c v f g a b e = .inl 0 := by unfold addN; rw [if_neg h1]
    have := mMk_x (z := S) (K := S.K) (s := (S.N, S.E, S.p)) hW hl v1 v2 v3 v4 v5 ha
    unfold mMk at this ⊢
    rw [if_neg (by show ¬ (false = true); decide)] at this
    rw [if_neg (by rw [hw]; decide)]
    exact this
theorem doom (hB : BQ L Q) : ∀ (K : List FR) (S : MS) (n : Int32), S.K = K → S.wr = false → S.ne = false → pk L S = 73 → WN S.N → tyP S.N n → KO S.N K → S.N.length + K.length ≤ 180 → S.E.length + K.length ≤ 250 → S.p ≤ L.length → L.length ≤ 120 → (∀ x, x ∈ S.E → Vd S.N x) → Ok L Q (n, S) := by
  intro K
  induction K with
  | nil =>
    intro S n eK hw hn hp hW ht hO hl he hpp hL hv
    have hV := ty_vd (by omega) ht
    have g : Gd L S := ⟨by simp [mOr_wr, mEx_wr, mAv_wr, mEn_wr, mBe_wr, mK_wr, mWr_wr] at hl; omega, by simp [mOr_wr, mEx_wr, mAv_wr, mEn_wr, mBe_wr, mK_wr, mWr_wr] at he; omega, by rw [eK]; simp [mOr_wr, mEx_wr, mAv_wr, mEn_wr, mBe_wr, mK_wr, mWr_wr], hpp, hL, hv, fun f K e => by rw [eK] at e; cases e⟩
    have h0 := (hV.ne (by omega)).1
    exact ⟨(n, S), .fin (Or.inr ⟨h0, eK⟩), hB _ (Or.inr ⟨h0, eK, hw, hn, hp, g, hV⟩)⟩
  | cons f K ih =>
    intro S n eK hw hn hp hW ht hO hl he hpp hL hv
    simp only [List.length_cons] at hl he
    have hV := ty_vd (by omega) ht
    have g : Gd L S := ⟨by omega, by omega, by rw [eK, List.length_cons]; omega, hpp, hL, hv, fun f' K' e => by rw [eK] at e; cases e; exact hO.1⟩
    have h0 := (hV.ne (by omega)).1
    refine ok_tk hw h0 (by show ¬ S.K = []; rw [eK]; exact fun w => by cases w) g hV (fun f' K' e => by have e : S.K = _ := e; rw [eK] at e; exact hO.no8 f' K' e) ?_
    have rd : ∀ S' : MS, S'.p = S.p → S'.ne = false → Gd L S' → SOk L Q ((-1 : Int32), S') := by
      intro S' e1 e2 g'
      refine sok_ok e2 ?_
      by_cases w : S'.wr = true
      · exact ok_wr hB w
      · have hp' : pk L S' = 73 := by rw [← hp]; unfold pk; rw [e1]
        exact ok_rd (by simpa using w) (show (-1 : Int32) < 0 by decide) g' (rt_I hp').1 (sok_wr hB (rt_I hp').2)
    have hmem : ∀ x, x ∈ S.E → Vd S.N x := hv
    show SOk L Q (mTk L n S)
    unfold mTk
    rw [eK]
    show SOk L Q (if f.t = 7 then _ else if f.t = 4 then _ else _)
    rcases hO.2 with ⟨h7, hO2⟩ | h4 | h6
    · rw [if_pos h7]
      unfold mTk7 eQ
      -- wrapping
      by_cases hcc : f.o = 6 ∧ cN S.N n 0 = 6
      · refine sok_wr hB ?_
        show (mMk _ _ _ _ _ _ _ (mOr (mK S K) _)).2.wr = true
        have : (mOr (mK S K) (decide (f.o = 6 ∧ cN S.N n 0 = 6))).wr = true := by simp [mOr_wr, mEx_wr, mAv_wr, mEn_wr, mBe_wr, mK_wr, mWr_wr, hcc]
        rw [mMk_w this]; exact this
      · have e0 : mOr (mK S K) (decide (f.o = 6 ∧ cN S.N n 0 = 6)) = mK S K := by
          rw [decide_eq_false hcc]; unfold mOr mK; simp [mOr_wr, mEx_wr, mAv_wr, mEn_wr, mBe_wr, mK_wr, mWr_wr]
        have nk : NK (mK S K).N f.o (if f.o = 7 then f.n else 0) n (-1) (-1) (-1) (-1) := by
          rcases hO.1 with o | o | o | o
          · rcases o.2 with o | o
            · rw [if_pos o.1, o.1]; exact .ar ht o.2
            · have : ¬ f.o = 7 := by rcases o with o | o | o <;> rw [o] <;> decide
              rw [if_neg this]; exact .wp o ht hcc
          · have := h7.symm.trans o.1; exact absurd this (by decide)
          · have := h7.symm.trans o.1; exact absurd this (by decide)
          · have := h7.symm.trans o.1; exact absurd this (by decide)
        rw [e0]
        rcases mMk_ms (S := mK S K) hw hW (by show S.N.length < 180; omega) nk with w | ⟨q, o, eq⟩
        · exact sok_wr hB w
        · rw [eq]
          have hq : q.2.length ≤ 1000 := by have := o.l; have : (mK S K).N.length = S.N.length := rfl; omega
          refine sok_ok hn (ih _ _ rfl hw hn hp o.w (o.ty ?_) (hO2.ext o.e hq) ?_ ?_ hpp hL ?_)
          · rcases hO.1 with o | o | o | o
            · rcases o.2 with o | o | o | o
              · rw [o.1]; decide
              · rw [o]; decide
              · rw [o]; decide
              · rw [o]; decide
            · have := h7.symm.trans o.1; exact absurd this (by decide)
            · have := h7.symm.trans o.1; exact absurd this (by decide)
            · have := h7.symm.trans o.1; exact absurd this (by decide)
          · show q.2.length + K.length ≤ 180
            have := o.l; have : (mK S K).N.length = S.N.length := rfl; omega
          · show (S.E ++ [q.1]).length + K.length ≤ 250
            rw [List.length_append]; simp [mOr_wr, mEx_wr, mAv_wr, mEn_wr, mBe_wr, mK_wr, mWr_wr]; omega
          · intro x hx
            rcases List.mem_append.mp hx with hx | hx
            · exact (hmem x hx).ext o.e
            · rw [List.mem_singleton.mp hx]; exact o.d
    · rw [if_neg (by rw [h4]; decide), if_pos h4]
      -- arguments
      have fo : FO S.N f := hO.1
      rcases fo with o | o | o | o
      · have := h4.symm.trans o.1; exact absurd this (by decide)
      · obtain ⟨_, ok, on, oa, ob, oc⟩ := o
        have hput : mPut S n = (MS.u_K S ((f.set n).inc :: K)) := by unfold mPut; rw [eK]
        have hna : mNA L (mPut S n) = (-1, mOr (MS.u_K S ((f.set n).inc :: K)) (decide ((f.set n).inc.n = 3))) := by
          rw [hput]
          unfold mNA
          have : mArgs L 4 (MS.u_K S ((f.set n).inc :: K)) = (MS.u_K S ((f.set n).inc :: K)) := by
            exact if_neg (fun w => absurd (hp.symm.trans w.2.2) (by decide))
          rw [this]
          exact if_neg (fun w => absurd (hp.symm.trans w.2.2) (by decide))
        rw [hna]
        by_cases w3 : (f.set n).inc.n = 3
        · exact sok_wr hB (by simp [mOr_wr, mEx_wr, mAv_wr, mEn_wr, mBe_wr, mK_wr, mWr_wr, w3])
        · refine rd _ rfl hn ⟨g.n, g.e, by show ((f.set n).inc :: K).length ≤ 200; simp [mOr_wr, mEx_wr, mAv_wr, mEn_wr, mBe_wr, mK_wr, mWr_wr]; omega, hpp, hL, hv, ?_⟩
          intro f' K' e
          have e : (f.set n).inc :: K = f' :: K' := e
          cases e
          have hVo : Vo S.N n := Or.inr hV
          refine Or.inr (Or.inl ?_)
          rcases on with on | on | on
          · rw [FR.put0 on]; exact ⟨h4, ok, Or.inr (Or.inl rfl), hVo, ob, oc⟩
          · rw [FR.put1 on]; exact ⟨h4, ok, Or.inr (Or.inr rfl), oa, hVo, oc⟩
          · rw [FR.put2 on] at w3; exact absurd rfl w3
      · have := h4.symm.trans o.1; exact absurd this (by decide)
      · have := h4.symm.trans o.1; exact absurd this (by decide)
    · rw [if_neg (by rw [h6]; decide), if_neg (by rw [h6]; decide)]
      -- parameters
      have hVo : Vo S.N n := Or.inr hV
      rcases hO.1 with o | o | o | o
      · have := h6.symm.trans o.1; exact absurd this (by decide)
      · have := h6.symm.trans o.1; exact absurd this (by decide)
      · obtain ⟨_, oo, on, oa, ob, oc⟩ := o
        have key : ∀ (g' : FR) (S1 : MS), S1.K = g' :: K → S1.p = S.p → S1.N = S.N → S1.E = S.E → S1.ne = S.ne → (¬ g'.n = 3 → FO S.N g') → SOk L Q (mTk3 L g' K S1) := by
          intro g' S1 e1 e2 e3 e4 e5 fo
          have hp1 : pk L S1 = 73 := by rw [← hp]; unfold pk; rw [e2]
          unfold mTk3 mTk4
          rw [if_neg (fun w => absurd (hp1.symm.trans w.2) (by decide)), if_neg (fun w => absurd (hp1.symm.trans w.2.2) (by decide))]
          by_cases w3 : g'.n = 3
          · exact sok_wr hB (by simp [mOr_wr, mEx_wr, mAv_wr, mEn_wr, mBe_wr, mK_wr, mWr_wr, w3])
          · refine rd _ e2 (e5.trans hn) ⟨by show S1.N.length ≤ 200; rw [e3]; exact g.n, by show S1.E.length ≤ 250; rw [e4]; exact g.e, by show S1.K.length ≤ 200; rw [e1]; simp [mOr_wr, mEx_wr, mAv_wr, mEn_wr, mBe_wr, mK_wr, mWr_wr]; omega, by show S1.p ≤ _; rw [e2]; exact hpp, hL, by show ∀ x, x ∈ S1.E → Vd S1.N x; rw [e3, e4]; exact hv, ?_⟩
            intro f' K' e
            have e : S1.K = f' :: K' := e
            rw [e1] at e
            cases e
            show FO S1.N g'
            rw [e3]; exact fo w3
        unfold mTk2
        rcases on with on | on | on | on
        · rw [if_pos (by rw [on]; decide)]
          refine key _ (mK S _) rfl rfl rfl rfl rfl (fun _ => ?_)
          exact Or.inr (Or.inr (Or.inl ⟨h6, hVo, Or.inr (Or.inl (by show f.n + 1 = 0; rw [on]; decide)), oa, ob, oc⟩))
        all_goals
          rw [if_neg (by rw [on]; decide)]
          refine key _ (mK (mOr S _) _) rfl rfl rfl rfl rfl (fun w3 => ?_)
        · rw [FR.put0 on]; exact Or.inr (Or.inr (Or.inl ⟨h6, oo, Or.inr (Or.inr (Or.inl rfl)), hVo, ob, oc⟩))
        · rw [FR.put1 on]; exact Or.inr (Or.inr (Or.inl ⟨h6, oo, Or.inr (Or.inr (Or.inr rfl)), oa, hVo, oc⟩))
        · rw [FR.put2 on] at w3; exact absurd rfl w3
      · have := h6.symm.trans o.1; exact absurd this (by decide)
end
section
variable {L : List Int32} {Q : IM → Prop} {z : MS} {K : List FR} {s : RS} {j k : Nat} {rec : RS → Ex (Int32 × RS)}
/-- what is asked of the reading of types inside, against the reference -/
def SimT (L : List Int32) (z : MS) (rec : RS → Ex (Int32 × RS)) (m : Nat) : Prop := ∀ (Q : IM → Prop) (j k : Nat) (s : RS) (K : List FR), m ≤ s.2.2 → Iv L j k s → K.length ≤ j → K.length ≤ k → KO s.1 K → (¬ K = [] ∨ 0 ≤ z.b) → (∀ x s', rec s = .inr (x, s') → Ok L Q (x, rs z s' K)) → ((∃ n, rec s = .inl n) → BQ L Q) → Ok L Q (-1, rs z s K)
theorem mNA_w {S : MS} (h : S.wr = true) : (mNA L S).2.wr = true := by
  have e : mArgs L 4 S = S := if_neg (fun w => by rw [h] at w; cases w.1)
  unfold mNA
  rw [e]
  unfold mNA2
  cases S.K with
  | nil => exact h
  | cons f K =>
    show (if _ then _ else _ : IM).2.wr = true
    rw [if_neg (fun w => by rw [h] at w; cases w.1)]
    simp [mOr_wr, mEx_wr, mAv_wr, mEn_wr, mBe_wr, mK_wr, mWr_wr, h]
theorem mFl2_w {q : IM} (h : q.2.wr = true) : (mFl2 q).2.wr = true := by
  unfold mFl2
  cases q.2.K with
  | nil =>
    show (if _ then _ else _ : IM).2.wr = true
    by_cases w : 0 ≤ q.2.b
    · rw [if_pos w]; exact h
    · rw [if_neg w]; exact h
  | cons f K =>
    show (if _ then _ else _ : IM).2.wr = true
    by_cases w : f.t = 8
    · rw [if_pos w]; exact h
    · rw [if_neg w]; exact h
theorem mPut_wr (S : MS) (x : Int32) : (mPut S x).wr = S.wr := by
  unfold mPut
  cases S.K <;> rfl
theorem mArgs_w {S : MS} (F : Nat) (h : S.wr = true) : mArgs L F S = S := by
  cases F with
  | zero => rfl
  | succ F => exact if_neg (fun w => by rw [h] at w; cases w.1)
theorem mNA2_w {S : MS} (h : S.wr = true) : (mNA2 L S).2.wr = true := by
  have := mNA_w (L := L) h
  unfold mNA at this
  rwa [mArgs_w 4 h] at this
theorem pkc (hL : LOk L) (s : RS) {c : Int32} (h0 : ¬ c = 0) (h1 : ¬ c = -1) : (pk L (rs z s K) = c) = (nxt L s = c) := pk_c hL _ s rfl h0 h1
/-- the builtin's letter -/
theorem bol_zf (x : Int32) : bolF (zf x) = bolF x := by
  unfold zf
  by_cases h : x = -1
  · rw [if_pos h, h]; decide
  · rw [if_neg h]
theorem bol_pk (hL : LOk L) (s : RS) : bolF (pk L (rs z s K)) = bolF (nxt L s) := by rw [pk_zf hL _ s rfl, bol_zf]
theorem bol_cases (x : Int32) : bolF x = -1 ∨ bolF x = 0 ∨ bolF x = 1 ∨ bolF x = 2 ∨ bolF x = 3 ∨ bolF x = 4 ∨ bolF x = 5 ∨ bolF x = 6 ∨ bolF x = 7 := by
  unfold bolF
  split; · simp [mOr_wr, mEx_wr, mAv_wr, mEn_wr, mBe_wr, mK_wr, mWr_wr]
  split; · simp [mOr_wr, mEx_wr, mAv_wr, mEn_wr, mBe_wr, mK_wr, mWr_wr]
  split; · simp [mOr_wr, mEx_wr, mAv_wr, mEn_wr, mBe_wr, mK_wr, mWr_wr]
  split; · simp [mOr_wr, mEx_wr, mAv_wr, mEn_wr, mBe_wr, mK_wr, mWr_wr]
  split; · simp [mOr_wr, mEx_wr, mAv_wr, mEn_wr, mBe_wr, mK_wr, mWr_wr]
  split; · simp [mOr_wr, mEx_wr, mAv_wr, mEn_wr, mBe_wr, mK_wr, mWr_wr]
  split; · simp [mOr_wr, mEx_wr, mAv_wr, mEn_wr, mBe_wr, mK_wr, mWr_wr]
  split; · simp [mOr_wr, mEx_wr, mAv_wr, mEn_wr, mBe_wr, mK_wr, mWr_wr]
  · simp [mOr_wr, mEx_wr, mAv_wr, mEn_wr, mBe_wr, mK_wr, mWr_wr]
theorem bol_in {x : Int32} (h : ¬ bolF x = -1) : ¬ bolF x < 0 ∧ bolF x < 8 ∧ 0 ≤ bolF x := by
  rcases bol_cases x with e | e | e | e | e | e | e | e | e
  · exact absurd e h
  all_goals rw [e]; decide
theorem dm_none {N : List (List Int32)} : dmN N (-1) (-1) (-1) (-1) (-1) < 16 := by
  unfold dmN dN
  rw [cN_none]; decide
theorem mBi_ok (h : Iv L j (k + 1) s) {c : Int32} (hc : ¬ bolF c = -1) : ∃ q, aBuiltin s.1 (bolF c) = .inr q ∧ mBi (bolF c) (rs z s K) = (q.1, rs z (q.2, s.2) K) := by
  obtain ⟨b1, b2, _⟩ := bol_in hc
  have hl : s.1.length < 180 := by have := h.nl; have := h.p; have := h.m; omega
  have ha : addN s.1 0 (bolF c) (-1) (-1) (-1) (-1) (-1) = .inr (mkN s.1 [0, bolF c, -1, -1, -1, -1, -1, dmN s.1 (-1) (-1) (-1) (-1) (-1) + 1]) := by unfold addN; rw [if_pos dm_none, if_pos hl]
  refine ⟨_, ?_, mMk_ok h.w (no_vo _) (no_vo _) (no_vo _) (no_vo _) (no_vo _) ha⟩
  unfold aBuiltin
  rw [if_pos ⟨b1, b2⟩, ha]
theorem mNm_ok (h : Iv L j (k + 1) s) {x : Int32} (hx : idP x) : ∃ q, aName s.1 x = .inr q ∧ mNm x (rs z s K) = (q.1, rs z (q.2, s.2) K) := by
  have hl : s.1.length < 180 := by have := h.nl; have := h.p; have := h.m; omega
  have ha : addN s.1 1 x (-1) (-1) (-1) (-1) (-1) = .inr (mkN s.1 [1, x, -1, -1, -1, -1, -1, dmN s.1 (-1) (-1) (-1) (-1) (-1) + 1]) := by unfold addN; rw [if_pos dm_none, if_pos hl]
  refine ⟨_, ?_, mMk_ok h.w (no_vo _) (no_vo _) (no_vo _) (no_vo _) (no_vo _) ha⟩
  unfold aName
  rw [if_pos hx, ha]
/-- a literal's number lies where it may -/
theorem dig10 {c : Int32} (h : ¬ digF c 10 = -1) : ∃ e : Nat, e < 10 ∧ digF c 10 = nI e := by
  rw [dg_10] at h
  have h : dgP c := Classical.not_not.mp h
  unfold digF
  rw [if_pos h]
  obtain ⟨w1, w2⟩ := h
  have a0 : (48 : Int32).toInt = 48 := by decide
  have a1 : (57 : Int32).toInt = 57 := by decide
  rw [i_lt] at w1 w2
  obtain ⟨i, hi, rfl⟩ := nI_of (x := c) (fun q => by have q := i_lt.mp q; rw [show (0 : Int32).toInt = 0 from by decide] at q; omega)
  rw [nI_toInt hi] at w1 w2
  exact ⟨i - 48, by omega, by rw [show (48 : Int32) = nI 48 from by decide, pk_sub (by omega)]⟩
theorem vlD_le (l : List Int32) (hd : ∀ c, c ∈ l → ¬ digF c 10 = -1) : ∀ (a : Nat), l.length ≤ 6 → ∃ b : Nat, vlD 10 (nI a) l = nI b ∧ b + 1 ≤ (a + 1) * 10 ^ l.length := by
  induction l with
  | nil => intro a _; exact ⟨a, rfl, by simp [mOr_wr, mEx_wr, mAv_wr, mEn_wr, mBe_wr, mK_wr, mWr_wr]⟩
  | cons c l ih =>
    intro a hl
    obtain ⟨e, he, ee⟩ := dig10 (hd c (by simp [mOr_wr, mEx_wr, mAv_wr, mEn_wr, mBe_wr, mK_wr, mWr_wr]))
    have : vlD 10 (nI a) (c :: l) = vlD 10 (nI (a * 10 + e)) l := by
      show vlD 10 (nI a * 10 + digF c 10) l = _
      rw [ee, show (10 : Int32) = nI 10 from by decide, pk_mul, nI_add]
    rw [this]
    obtain ⟨b, eb, hb⟩ := ih (fun c hc => hd c (by simp [mOr_wr, mEx_wr, mAv_wr, mEn_wr, mBe_wr, mK_wr, mWr_wr, hc])) (a * 10 + e) (by simp [mOr_wr, mEx_wr, mAv_wr, mEn_wr, mBe_wr, mK_wr, mWr_wr] at hl; omega)
    refine ⟨b, eb, Nat.le_trans hb ?_⟩
    rw [List.length_cons, Nat.pow_succ, Nat.mul_comm (10 ^ l.length) 10, ← Nat.mul_assoc]
    exact Nat.mul_le_mul_right _ (by omega)
theorem num_le {m : Nat} {v : Int32} {s' : RS} (hm : m ≤ 6) (h : rNum L 10 m s = .inr (v, s')) : ∃ b : Nat, v = nI b ∧ b + 1 ≤ 10 ^ m := by
  rw [rNum_eq] at h
  obtain ⟨_, h⟩ := if_inr h
  cases h
  have hl : ((dgs L 10 s.2.2).take m).length ≤ m := by rw [List.length_take]; omega
  obtain ⟨b, eb, hb⟩ := vlD_le ((dgs L 10 s.2.2).take m) (fun c hc => dgs_all (L := L) (p := s.2.2) c (List.mem_of_mem_take hc)) 0 (by omega)
  refine ⟨b, eb, Nat.le_trans hb ?_⟩
  rw [Nat.zero_add, Nat.one_mul]
  exact Nat.pow_le_pow_right (by omega) hl
theorem lit_in {v : Int32} {b : Nat} (e : v = nI b) (hb : b ≤ 999999) : (¬ v < -999999 ∧ v ≤ 999999) ∧ (¬ -v < -999999 ∧ -v ≤ 999999) := by
  have h1 : v.toInt = (b : Int) := by rw [e]; exact nI_toInt (by omega)
  have h2 : (-v).toInt = -(b : Int) := by
    rw [Int32.toInt_neg, h1]
    exact Int.bmod_eq_of_le (by omega) (by omega)
  have a1 : (-999999 : Int32).toInt = -999999 := by decide
  have a2 : (999999 : Int32).toInt = 999999 := by decide
  refine ⟨⟨?_, ?_⟩, ?_, ?_⟩
  · rw [i_lt, h1, a1]; omega
  · rw [i_le, h1, a2]; omega
  · rw [i_lt, h2, a1]; omega
  · rw [i_le, h2, a2]; omega
theorem mLit3_w {b : Int32} {bl : Bool} {q : IM} (h : q.2.wr = true) : (mLit3 b bl q L).2.wr = true := by
  unfold mLit3
  have : (mEx L 69 (mOr q.2 (decide (bl = true ∧ q.1 = 0)))).wr = true := by simp [mOr_wr, mEx_wr, mAv_wr, mEn_wr, mBe_wr, mK_wr, mWr_wr, h]
  rw [mMk_w this]; exact this
theorem mLit2_w {q : IM} (h : q.2.wr = true) : (mLit2 L q).2.wr = true := by
  unfold mLit2
  refine mLit3_w (mNum_w ?_)
  by_cases w : pk L q.2 = 110
  · rw [if_pos w]; exact h
  · rw [if_neg w]; exact h
theorem rLit_A {x : Int32} {q : Int32 × RS} {neg : Bool} {s0 : RS} (h : rNum L 10 6 s0 = .inr q) : rLit2 L x neg s0 = if neg = true ∧ q.1 = 0 then .inl 0 else bnd (rPass L 69 q.2) fun s5 => lft (aLiteral s5.1 x (if neg = true then -q.1 else q.1)) s5 := by
  unfold rLit2; rw [h]; rfl
/-- the second half of a literal: the reference's against the class's -/
theorem mLit3_sim (hL : LOk L) {b : Int32} (neg : Bool) (h : Iv L j (k + 1) s) (hb : kN s.1 b = 0) (hv : ¬ cN s.1 b 1 = 0) : (∀ x s', rLit2 L b neg s = .inr (x, s') → mLit3 b neg (mNum L 6 (rs z s K)) L = (x, rs z s' K)) ∧ ((∃ n, rLit2 L b neg s = .inl n) → (mLit3 b neg (mNum L 6 (rs z s K)) L).2.wr = true) := by
  by_cases hd : ∀ v s', rNum L 10 6 s = .inr (v, s') → ¬ digF (nxt L s') 10 = -1
  · refine ⟨fun x s' e => ?_, fun _ => mLit3_w (mNum_x hL hd)⟩
    exfalso
    unfold rLit2 at e
    obtain ⟨q, h1, e⟩ := bnd_inr e
    by_cases w : neg = true ∧ q.1 = 0
    · rw [if_pos w] at e; cases e
    rw [if_neg w] at e
    obtain ⟨s5, h2, _⟩ := bnd_inr e
    exact hd q.1 q.2 h1 (by rw [(rPass_ok h2).1]; decide)
  · have ⟨v, hd⟩ := Classical.not_forall.mp hd
    have ⟨s1, hd⟩ := Classical.not_forall.mp hd
    have ⟨h1, hd⟩ := Classical.not_imp.mp hd
    have hd := Classical.not_not.mp hd
    rw [mNum_ok hL h1 hd, rLit_A h1]
    have P1 := PX.num (v := v) (s' := s1) h h1
    have eN := (rNum_p h1).1
    obtain ⟨m, em, hm⟩ := num_le (by omega) h1
    have hm : m ≤ 999999 := by have : 10 ^ 6 = 1000000 := by decide
                               omega
    unfold mLit3
    show (∀ x s', _ → mMk 9 (if neg = true then -v else v) b (-1) (-1) (-1) (-1) (mEx L 69 (mOr (rs z s1 K) (decide (neg = true ∧ v = 0)))) = _) ∧ (_ → (mMk 9 (if neg = true then -v else v) b (-1) (-1) (-1) (-1) (mEx L 69 (mOr (rs z s1 K) (decide (neg = true ∧ v = 0))))).2.wr = true)
    by_cases w : neg = true ∧ v = 0
    · rw [if_pos w]
      refine ⟨fun x s' e => (by cases e), fun _ => ?_⟩
      have : (mEx L 69 (mOr (rs z s1 K) (decide (neg = true ∧ v = 0)))).wr = true := by simp [mOr_wr, mEx_wr, mAv_wr, mEn_wr, mBe_wr, mK_wr, mWr_wr, w]
      rw [mMk_w this]; exact this
    · rw [if_neg w]
      have e0 : mOr (rs z s1 K) (decide (neg = true ∧ v = 0)) = rs z s1 K := by rw [decide_eq_false w]; rfl
      rw [e0]
      by_cases u : nxt L s1 = 69
      · rw [mEx_ok hL (by decide) (by decide) u]
        have e1 : rPass L 69 s1 = .inr (adv s1) := if_pos u
        rw [show (rPass L 69 (v, s1).2) = .inr (adv s1) from e1, bnd_i]
        have hb' : kN (adv s1).1 b = 0 ∧ ¬ cN (adv s1).1 b 1 = 0 := by rw [show (adv s1).1 = s.1 from eN]; exact ⟨hb, hv⟩
        have hin : ¬ (if neg = true then -v else v) < -999999 ∧ (if neg = true then -v else v) ≤ 999999 := by
          cases neg
          · exact (lit_in em hm).1
          · exact (lit_in em hm).2
        have P2 := PX.ad P1.i (by decide) u
        have hl : (adv s1).1.length < 180 := by have := P2.i.nl; have := P2.i.p; have := P2.i.m; omega
        have hvb : Vo (adv s1).1 b := Or.inr (eq_vd P2.i.l' (by decide) hb'.1)
        have ea : aLiteral (adv s1).1 b (if neg = true then -v else v) = addN (adv s1).1 9 (if neg = true then -v else v) b (-1) (-1) (-1) (-1) := if_pos ⟨hb', hin⟩
        show (∀ x s', lft (aLiteral (adv s1).1 b (if neg = true then -v else v)) (adv s1) = _ → _) ∧ ((∃ n, lft (aLiteral (adv s1).1 b (if neg = true then -v else v)) (adv s1) = _) → _)
        rw [ea]
        cases ha : addN (adv s1).1 9 (if neg = true then -v else v) b (-1) (-1) (-1) (-1) with
        | inl n =>
          refine ⟨fun x s' e => (by cases e), fun _ => ?_⟩
          exact mMk_x P2.i.w hl hvb (no_vo _) (no_vo _) (no_vo _) (no_vo _) ha
        | inr q =>
          refine ⟨fun x s' e => ?_, fun ⟨n, e⟩ => by cases e⟩
          cases e
          exact mMk_ok P2.i.w hvb (no_vo _) (no_vo _) (no_vo _) (no_vo _) ha
      · have e1 : rPass L 69 s1 = .inl 0 := if_neg u
        rw [show (rPass L 69 (v, s1).2) = .inl 0 from e1, bnd_x]
        refine ⟨fun x s' e => (by cases e), fun _ => ?_⟩
        have : (mEx L 69 (rs z s1 K)).wr = true := mEx_x hL (by decide) (by decide) u
        rw [mMk_w this]; exact this
theorem bol_0 {c : Int32} (h : bolF c < 1) : bolF c = -1 ∨ bolF c = 0 := by
  rcases bol_cases c with e | e | e | e | e | e | e | e | e
  · exact Or.inl e
  · exact Or.inr e
  all_goals rw [e] at h; exact absurd h (by decide)
theorem mLit_sim (hL : LOk L) (h : Iv L j k s) (hn : nxt L s = 76) : (∀ x s', rLit L s = .inr (x, s') → mLit L (rs z s K) = (x, rs z s' K)) ∧ ((∃ n, rLit L s = .inl n) → (mLit L (rs z s K)).2.wr = true) := by
  have P1 := PX.ad h (by decide) hn
  have e1 : rPass L 76 s = .inr (adv s) := if_pos hn
  have es : mAv (rs z s K) 1 = rs z (adv s) K := rfl
  unfold mLit rLit
  rw [es, bol_pk hL, e1]
  show (∀ x s', (if bolF (nxt L (adv s)) = -1 then _ else _) = _ → _) ∧ ((∃ n, (if bolF (nxt L (adv s)) = -1 then _ else _) = _) → _)
  by_cases w : bolF (nxt L (adv s)) = -1
  · rw [if_pos w]
    refine ⟨fun x s' e => (by cases e), fun _ => mLit2_w ?_⟩
    have : (mWr (mAv (rs z (adv s) K) 1) (decide (bolF (nxt L (adv s)) < 1))).wr = true := by rw [w]; rfl
    show (mMk _ _ _ _ _ _ _ _).2.wr = true
    rw [mMk_w this]; exact this
  · rw [if_neg w]
    have P2 := PX.ad P1.i (bol_ne w) rfl
    have es2 : mAv (rs z (adv s) K) 1 = rs z (adv (adv s)) K := rfl
    rw [es2]
    obtain ⟨q, ea, eb⟩ := mBi_ok (z := z) (K := K) P2.i w
    have o := aBuiltin_ao P2.i.w ea
    have P3 := PX.ao P2.i o
    rw [show lft (aBuiltin (adv (adv s)).1 (bolF (nxt L (adv s)))) (adv (adv s)) = .inr (q.1, q.2, (adv (adv s)).2) from by rw [ea]; rfl, bnd_i]
    by_cases u : bolF (nxt L (adv s)) < 1
    · have u0 : bolF (nxt L (adv s)) = 0 := (bol_0 u).resolve_left w
      constructor
      · intro x s' e
        exfalso
        have hc1 : cN q.2 q.1 1 = 0 := by rw [o.c1]; exact u0
        have bad : ∀ (neg : Bool) (s0 : RS), s0.1 = q.2 → ¬ rLit2 L q.1 neg s0 = .inr (x, s') := by
          intro neg s0 e0 e
          unfold rLit2 at e
          obtain ⟨v, h1, e⟩ := bnd_inr e
          by_cases w : neg = true ∧ v.1 = 0
          · rw [if_pos w] at e; cases e
          rw [if_neg w] at e
          obtain ⟨s5, h2, e⟩ := bnd_inr e
          obtain ⟨r, h3, _, _⟩ := lft_inr e
          obtain ⟨c, _⟩ := if_inr h3
          have : s5.1 = q.2 := by rw [(rPass_ok h2).2]; show v.2.1 = q.2; rw [(rNum_p (v := v.1) (s' := v.2) h1).1, e0]
          rw [this] at c
          exact c.1.2 hc1
        by_cases v : nxt L (q.2, (adv (adv s)).2) = 110
        · rw [if_pos v] at e; exact bad true _ rfl e
        · rw [if_neg v] at e; exact bad false _ rfl e
      · intro _
        refine mLit2_w ?_
        have : (mWr (rs z (adv (adv s)) K) (decide (bolF (nxt L (adv s)) < 1))).wr = true := by simp [mOr_wr, mEx_wr, mAv_wr, mEn_wr, mBe_wr, mK_wr, mWr_wr, u]
        show (mMk _ _ _ _ _ _ _ _).2.wr = true
        rw [mMk_w this]; exact this
    · have ew : mWr (rs z (adv (adv s)) K) (decide (bolF (nxt L (adv s)) < 1)) = rs z (adv (adv s)) K := by rw [decide_eq_false u]; rfl
      rw [ew, eb]
      unfold mLit2
      have hv : ¬ cN q.2 q.1 1 = 0 := by rw [o.c1]; intro e; exact u (by rw [e]; decide)
      show (∀ x s', (if nxt L (q.2, (adv (adv s)).2) = 110 then _ else _) = _ → mLit3 q.1 (decide (pk L (rs z (q.2, (adv (adv s)).2) K) = 110)) (mNum L 6 (if pk L (rs z (q.2, (adv (adv s)).2) K) = 110 then _ else _)) L = _) ∧ (_ → (mLit3 q.1 (decide (pk L (rs z (q.2, (adv (adv s)).2) K) = 110)) (mNum L 6 (if pk L (rs z (q.2, (adv (adv s)).2) K) = 110 then _ else _)) L).2.wr = true)
      by_cases v : nxt L (q.2, (adv (adv s)).2) = 110
      · have v' : pk L (rs z (q.2, (adv (adv s)).2) K) = 110 := by rw [pkc hL _ (by decide) (by decide)]; exact v
        rw [if_pos v, if_pos v', decide_eq_true v']
        have P4 := PX.ad P3.i (by decide) v
        exact mLit3_sim hL true P4.i o.c0 hv
      · have v' : ¬ pk L (rs z (q.2, (adv (adv s)).2) K) = 110 := by rw [pkc hL _ (by decide) (by decide)]; exact v
        rw [if_neg v, if_neg v', decide_eq_false v']
        exact mLit3_sim hL false P3.i o.c0 hv
end
section
variable {L : List Int32} {Q : IM → Prop} {z : MS} {K : List FR} {s : RS} {j k : Nat} {rec : RS → Ex (Int32 × RS)}
/-- the end of a filling -/
def C3 (L : List Int32) (n a b c : Int32) (s : RS) : Ex (Int32 × RS) := bnd (rPass L 69 s) fun s5 => lft (aFilled s5.1 n a b c) s5
def C2 (L : List Int32) (rec : RS → Ex (Int32 × RS)) (n a b : Int32) (s : RS) : Ex (Int32 × RS) := bnd (rArg' L rec s) fun c => C3 L n a b c.1 c.2
def C1 (L : List Int32) (rec : RS → Ex (Int32 × RS)) (n a : Int32) (s : RS) : Ex (Int32 × RS) := bnd (rArg' L rec s) fun b => C2 L rec n a b.1 b.2
def C0 (L : List Int32) (rec : RS → Ex (Int32 × RS)) (n : Int32) (s : RS) : Ex (Int32 × RS) := bnd (rArg L rec s) fun a => C1 L rec n a.1 a.2
theorem rFill_C (n : Int32) : rFill L rec n s = bnd (rPass L 73 s) (C0 L rec n) := rfl
theorem ar_ag {N : List (List Int32)} {x : Int32} (h : arP N x) : agP N x := Or.inr h
theorem ar_ext {N N' : List (List Int32)} (h : N <+: N') (hN : N'.length ≤ 1000) {x : Int32} (a : arP N x) : arP N' x := by
  rcases a with a | a
  · exact Or.inl (tyP_ext h hN a)
  · refine Or.inr ?_
    show cN N' x 0 = 9
    rw [cN_ext h hN (Or.inr (eq_vd (Nat.le_trans h.length_le hN) (by decide) a))]; exact a
theorem ar_vo {N : List (List Int32)} (hN : N.length ≤ 1000) {x : Int32} (a : arP N x) : Vo N x := ag_vo hN (ar_ag a)
theorem k12_ext {N N' : List (List Int32)} (h : N <+: N') (hN : N'.length ≤ 1000) {x : Int32} (a : kN N x = 1 ∨ kN N x = 2) : kN N' x = 1 ∨ kN N' x = 2 := by
  have hl := Nat.le_trans h.length_le hN
  show cN N' x 0 = 1 ∨ cN N' x 0 = 2
  rw [cN_ext h hN (Or.inr (a.elim (eq_vd hl (by decide)) (eq_vd hl (by decide))))]; exact a
theorem ar_ne {N : List (List Int32)} (hN : N.length ≤ 1000) {x : Int32} (a : arP N x) : ¬ x = -1 := by
  have : Vd N x := a.elim (ty_vd hN) (eq_vd hN (by decide))
  exact (this.ne hN).2
/-- the filling is at its end -/
theorem na_fin (hL : LOk L) {g : FR} (h : Iv L j (k + 1) s) (hE : nxt L s = 69) (hg : 0 < g.n) (hn : kN s.1 g.o = 1 ∨ kN s.1 g.o = 2) (ha : arP s.1 g.a) (hb : g.b = -1 ∨ arP s.1 g.b) (hc : g.c = -1 ∨ arP s.1 g.c) (hbc : g.b = -1 → g.c = -1)
    (hok : ∀ x s', C3 L g.o g.a g.b g.c s = .inr (x, s') → SOk L Q (mFl2 (x, rs z s' K))) (hx : (∃ m, C3 L g.o g.a g.b g.c s = .inl m) → BQ L Q) : SOk L Q (mNA2 L (rs z s (g :: K))) := by
  have e1 : mNA2 L (rs z s (g :: K)) = mFl g (rs z (adv s) K) := by
    show (if false = false ∧ 0 < g.n ∧ pk L (rs z s (g :: K)) = 69 then _ else _) = _
    rw [if_pos ⟨rfl, hg, by rw [pkc hL _ (by decide) (by decide)]; exact hE⟩]
    rfl
  rw [e1]
  have P1 := PX.ad h (by decide) hE
  have hl : (adv s).1.length < 180 := by have := P1.i.nl; have := P1.i.p; have := P1.i.m; omega
  have hne := ar_ne h.l' ha
  have ga : ¬ gaP g.a g.b g.c := by
    rintro (w | w)
    · exact hne w.1
    · exact w.2 (hbc w.1)
  have va : Vo s.1 g.a := ar_vo h.l' ha
  have vb : Vo s.1 g.b := hb.elim Or.inl (ar_vo h.l')
  have vc : Vo s.1 g.c := hc.elim Or.inl (ar_vo h.l')
  have vo : Vo s.1 g.o := Or.inr (hn.elim (eq_vd h.l' (by decide)) (eq_vd h.l' (by decide)))
  have ea : aFilled (adv s).1 g.o g.a g.b g.c = addN (adv s).1 3 0 g.o (-1) g.a g.b g.c := if_pos ⟨hn, ⟨ar_ag ha, hb.elim Or.inl ar_ag, hc.elim Or.inl ar_ag⟩, hne, ga⟩
  have eC : C3 L g.o g.a g.b g.c s = lft (addN (adv s).1 3 0 g.o (-1) g.a g.b g.c) (adv s) := by
    unfold C3
    rw [show rPass L 69 s = .inr (adv s) from if_pos hE, bnd_i, ea]
  unfold mFl
  cases hh : addN (adv s).1 3 0 g.o (-1) g.a g.b g.c with
  | inl n =>
    refine sok_wr (hx ⟨n, by rw [eC, hh]; rfl⟩) (mFl2_w ?_)
    exact mMk_x P1.i.w hl vo (no_vo _) va vb vc hh
  | inr q =>
    rw [mMk_ok P1.i.w vo (no_vo _) va vb vc hh]
    exact hok _ _ (by rw [eC, hh]; rfl)
/-- one argument more -/
theorem na_gen (hL : LOk L) (hr : RI L rec) {m : Nat} (hs : SimT L z rec m) (hm : m ≤ s.2.2) {g : FR} (h : Iv L j (k + 1) s) (hj : K.length + 1 ≤ j) (hk : K.length + 1 ≤ k + 1) (hfo : FO s.1 g) (h4 : g.t = 4) (h3 : g.n = 0 ∨ g.n = 1 ∨ g.n = 2) (F : Nat)
    (hE : 0 < g.n → nxt L s = 69 → SOk L Q (mNA2 L (rs z s (g :: K))))
    (hA : ¬ (0 < g.n ∧ nxt L s = 69) → ∀ x s' F', F ≤ F' → rArg L rec s = .inr (x, s') → SOk L Q (mNA2 L (mArgs L F' (rs z s' ((g.set x).inc :: K)))))
    (hX : ¬ (0 < g.n ∧ nxt L s = 69) → (∃ m, rArg L rec s = .inl m) → BQ L Q) (hF : F ≤ 3) : ∀ F', F < F' → SOk L Q (mNA2 L (mArgs L F' (rs z s (g :: K)))) := by
  intro F' hF'
  obtain ⟨F1, rfl⟩ : ∃ F1, F' = F1 + 1 := ⟨F' - 1, by omega⟩
  have h3' : g.n < 3 := by rcases h3 with h3 | h3 | h3 <;> rw [h3] <;> decide
  have h33 : ¬ g.n = 3 := by rcases h3 with h3 | h3 | h3 <;> rw [h3] <;> decide
  by_cases w : nxt L s = 76
  · have hnE : ¬ (0 < g.n ∧ nxt L s = 69) := fun u => absurd (w.symm.trans u.2) (by decide)
    have e1 : mArgs L (F1 + 1) (rs z s (g :: K)) = mArgs L F1 (mPut (mLit L (rs z s (g :: K))).2 (mLit L (rs z s (g :: K))).1) := if_pos ⟨rfl, h3', by rw [pkc hL _ (by decide) (by decide)]; exact w⟩
    rw [e1]
    obtain ⟨l1, l2⟩ := mLit_sim (z := z) (K := g :: K) hL h w
    have eA : rArg L rec s = rLit L s := if_pos w
    cases hl : rLit L s with
    | inl n =>
      have hw := l2 ⟨n, hl⟩
      have hw2 : (mPut (mLit L (rs z s (g :: K))).2 (mLit L (rs z s (g :: K))).1).wr = true := by rw [mPut_wr]; exact hw
      rw [mArgs_w _ hw2]
      exact sok_wr (hX hnE ⟨n, by rw [eA]; exact hl⟩) (mNA2_w hw2)
    | inr q =>
      rw [l1 q.1 q.2 hl]
      exact hA hnE q.1 q.2 F1 (by omega) (by rw [eA]; exact hl)
  · have e1 : mArgs L (F1 + 1) (rs z s (g :: K)) = rs z s (g :: K) := if_neg (fun u => w (by have := u.2.2; rw [pkc hL _ (by decide) (by decide)] at this; exact this))
    rw [e1]
    by_cases u : 0 < g.n ∧ nxt L s = 69
    · exact hE u.1 u.2
    · have e2 : mNA2 L (rs z s (g :: K)) = (-1, rs z s (g :: K)) := by
        show (if false = false ∧ 0 < g.n ∧ pk L (rs z s (g :: K)) = 69 then _ else (-1, mOr (rs z s (g :: K)) (decide (g.n = 3)))) = _
        rw [if_neg (fun v => u ⟨v.2.1, by have := v.2.2; rw [pkc hL _ (by decide) (by decide)] at this; exact this⟩), decide_eq_false h33]
        rfl
      rw [e2]
      have eA : rArg L rec s = rec s := if_neg w
      refine sok_ok rfl (hs Q j (k + 1) s (g :: K) hm h (by simpa using hj) (by simpa using hk) ⟨hfo, Or.inr (Or.inl h4)⟩ (Or.inl (fun v => by cases v)) (fun x s' e => ?_) (fun ⟨n, e⟩ => hX u ⟨n, by rw [eA]; exact e⟩))
      obtain ⟨P1, ht⟩ := hr _ _ _ _ _ h e
      have hV := ty_vd P1.i.l' ht
      refine ok_tk rfl (hV.ne P1.i.l').1 (fun v => by cases v) (P1.i.gd (by have := P1.i.tl; simp [mOr_wr, mEx_wr, mAv_wr, mEn_wr, mBe_wr, mK_wr, mWr_wr]; omega) (fun f' K' e => by cases e; exact hfo.ext P1.e P1.i.l')) hV (fun f' K' e => by cases e; rw [h4]; decide) ?_
      have e3 : mTk L x (rs z s' (g :: K)) = mNA2 L (mArgs L 4 (rs z s' ((g.set x).inc :: K))) := by
        show (if g.t = 7 then _ else if g.t = 4 then mNA L (mPut (rs z s' (g :: K)) x) else _) = _
        rw [if_neg (by rw [h4]; decide), if_pos h4]
        rfl
      show SOk L Q (mTk L x (rs z s' (g :: K)))
      rw [e3]
      exact hA u x s' 4 (by omega) (by rw [eA]; exact e)
theorem na3 (hL : LOk L) {g : FR} (h : Iv L j (k + 1) s) (h3 : g.n = 3) (hn : kN s.1 g.o = 1 ∨ kN s.1 g.o = 2) (ha : arP s.1 g.a) (hb : arP s.1 g.b) (hc : arP s.1 g.c)
    (hok : ∀ x s', C3 L g.o g.a g.b g.c s = .inr (x, s') → SOk L Q (mFl2 (x, rs z s' K))) (hx : (∃ m, C3 L g.o g.a g.b g.c s = .inl m) → BQ L Q) (F : Nat) : SOk L Q (mNA2 L (mArgs L F (rs z s (g :: K)))) := by
  have e1 : mArgs L F (rs z s (g :: K)) = rs z s (g :: K) := by
    cases F with
    | zero => rfl
    | succ F => exact if_neg (fun u => by have : g.n < 3 := u.2.1; rw [h3] at this; exact absurd this (by decide))
  rw [e1]
  by_cases w : nxt L s = 69
  · exact na_fin hL h w (by rw [h3]; decide) hn ha (Or.inr hb) (Or.inr hc) (fun v => absurd v (ar_ne h.l' hb)) hok hx
  · refine sok_wr (hx ⟨0, by unfold C3; rw [show rPass L 69 s = .inl 0 from if_neg w]; rfl⟩) ?_
    show (if false = false ∧ 0 < g.n ∧ pk L (rs z s (g :: K)) = 69 then _ else (-1, mOr (rs z s (g :: K)) (decide (g.n = 3))) : IM).2.wr = true
    rw [if_neg (fun v => w (by have := v.2.2; rw [pkc hL _ (by decide) (by decide)] at this; exact this))]
    simp [mOr_wr, mEx_wr, mAv_wr, mEn_wr, mBe_wr, mK_wr, mWr_wr, h3]
theorem rArg'_A (h : ¬ nxt L s = 69) : rArg' L rec s = rArg L rec s := if_neg h
theorem rArg'_E (h : nxt L s = 69) : rArg' L rec s = .inr (-1, s) := if_pos h
theorem ex_bnd {α β : Type} {x : Ex α} {f : α → Ex β} (h : ∃ n, x = .inl n) : ∃ n, bnd x f = .inl n := by
  obtain ⟨n, rfl⟩ := h
  exact ⟨n, rfl⟩
theorem na2 (hL : LOk L) (hr : RI L rec) {m : Nat} (hs : SimT L z rec m) (hm : m ≤ s.2.2) {n a b : Int32} (h : Iv L j (k + 1) s) (hj : K.length + 1 ≤ j) (hk : K.length + 1 ≤ k + 1) (hn : kN s.1 n = 1 ∨ kN s.1 n = 2) (ha : arP s.1 a) (hb : arP s.1 b)
    (hok : ∀ x s', C2 L rec n a b s = .inr (x, s') → SOk L Q (mFl2 (x, rs z s' K))) (hx : (∃ m, C2 L rec n a b s = .inl m) → BQ L Q) (F' : Nat) (hF : 1 < F') : SOk L Q (mNA2 L (mArgs L F' (rs z s (⟨4, n, 2, a, b, -1⟩ :: K)))) := by
  refine na_gen (g := ⟨4, n, 2, a, b, -1⟩) (K := K) hL hr hs hm h hj hk (Or.inr (Or.inl ⟨rfl, hn, Or.inr (Or.inr rfl), ar_vo h.l' ha, ar_vo h.l' hb, no_vo _⟩)) rfl (Or.inr (Or.inr rfl)) 1 (fun _ w => ?_) (fun u x s' F' _ e => ?_) (fun u e => ?_) (by omega) F' hF
  · have eC : C2 L rec n a b s = C3 L n a b (-1) s := by unfold C2; rw [rArg'_E w]; rfl
    exact na_fin (g := ⟨4, n, 2, a, b, -1⟩) (K := K) hL h w (show (0 : Int32) < 2 by decide) hn ha (Or.inr hb) (Or.inl rfl) (fun _ => rfl) (fun x s' e => hok x s' (by rw [eC]; exact e)) (fun e => hx (by rw [eC]; exact e))
  · have nE : ¬ nxt L s = 69 := fun v => u ⟨show (0 : Int32) < 2 by decide, v⟩
    have eC : C2 L rec n a b s = C3 L n a b x s' := by unfold C2; rw [rArg'_A nE, e]; rfl
    obtain ⟨P1, hc⟩ := PX.arg hr h e
    rw [FR.put2 (f := ⟨4, n, 2, a, b, -1⟩) rfl]
    exact na3 (g := ⟨4, n, 3, a, b, x⟩) (K := K) hL P1.i rfl (k12_ext P1.e P1.i.l' hn) (ar_ext P1.e P1.i.l' ha) (ar_ext P1.e P1.i.l' hb) hc (fun x s' e => hok x s' (by rw [eC]; exact e)) (fun e => hx (by rw [eC]; exact e)) F'
  · have nE : ¬ nxt L s = 69 := fun v => u ⟨show (0 : Int32) < 2 by decide, v⟩
    exact hx (by unfold C2; rw [rArg'_A nE]; exact ex_bnd e)
theorem na1 (hL : LOk L) (hr : RI L rec) {m : Nat} (hs : SimT L z rec m) (hm : m ≤ s.2.2) {n a : Int32} (h : Iv L j (k + 1) s) (hj : K.length + 1 ≤ j) (hk : K.length + 1 ≤ k + 1) (hn : kN s.1 n = 1 ∨ kN s.1 n = 2) (ha : arP s.1 a)
    (hok : ∀ x s', C1 L rec n a s = .inr (x, s') → SOk L Q (mFl2 (x, rs z s' K))) (hx : (∃ m, C1 L rec n a s = .inl m) → BQ L Q) (F' : Nat) (hF : 2 < F') : SOk L Q (mNA2 L (mArgs L F' (rs z s (⟨4, n, 1, a, -1, -1⟩ :: K)))) := by
  refine na_gen (g := ⟨4, n, 1, a, -1, -1⟩) (K := K) hL hr hs hm h hj hk (Or.inr (Or.inl ⟨rfl, hn, Or.inr (Or.inl rfl), ar_vo h.l' ha, no_vo _, no_vo _⟩)) rfl (Or.inr (Or.inl rfl)) 2 (fun _ w => ?_) (fun u x s' F' hF' e => ?_) (fun u e => ?_) (by omega) F' hF
  · have eC : C1 L rec n a s = C3 L n a (-1) (-1) s := by unfold C1 C2; rw [rArg'_E w]; show bnd (rArg' L rec s) _ = _; rw [rArg'_E w]; rfl
    exact na_fin (g := ⟨4, n, 1, a, -1, -1⟩) (K := K) hL h w (show (0 : Int32) < 1 by decide) hn ha (Or.inl rfl) (Or.inl rfl) (fun _ => rfl) (fun x s' e => hok x s' (by rw [eC]; exact e)) (fun e => hx (by rw [eC]; exact e))
  · have nE : ¬ nxt L s = 69 := fun v => u ⟨show (0 : Int32) < 1 by decide, v⟩
    have eC : C1 L rec n a s = C2 L rec n a x s' := by unfold C1; rw [rArg'_A nE, e]; rfl
    obtain ⟨P1, hc⟩ := PX.arg hr h e
    rw [FR.put1 (f := ⟨4, n, 1, a, -1, -1⟩) rfl]
    exact na2 (K := K) hL hr hs (Nat.le_trans hm (Nat.le_trans (Nat.le_add_right _ _) P1.p)) P1.i hj hk (k12_ext P1.e P1.i.l' hn) (ar_ext P1.e P1.i.l' ha) hc (fun x s' e => hok x s' (by rw [eC]; exact e)) (fun e => hx (by rw [eC]; exact e)) F' (by omega)
  · have nE : ¬ nxt L s = 69 := fun v => u ⟨show (0 : Int32) < 1 by decide, v⟩
    exact hx (by unfold C1; rw [rArg'_A nE]; exact ex_bnd e)
theorem na0 (hL : LOk L) (hr : RI L rec) {m : Nat} (hs : SimT L z rec m) (hm : m ≤ s.2.2) {n : Int32} (h : Iv L j (k + 1) s) (hj : K.length + 1 ≤ j) (hk : K.length + 1 ≤ k + 1) (hn : kN s.1 n = 1 ∨ kN s.1 n = 2)
    (hok : ∀ x s', C0 L rec n s = .inr (x, s') → SOk L Q (mFl2 (x, rs z s' K))) (hx : (∃ m, C0 L rec n s = .inl m) → BQ L Q) : SOk L Q (mNA L (rs z s (⟨4, n, 0, -1, -1, -1⟩ :: K))) := by
  refine na_gen (g := ⟨4, n, 0, -1, -1, -1⟩) (K := K) hL hr hs hm h hj hk (Or.inr (Or.inl ⟨rfl, hn, Or.inl rfl, no_vo _, no_vo _, no_vo _⟩)) rfl (Or.inl rfl) 3 (fun w _ => absurd w (show ¬ (0 : Int32) < 0 by decide)) (fun u x s' F' hF' e => ?_) (fun u e => ?_) (by omega) 4 (by omega)
  · have eC : C0 L rec n s = C1 L rec n x s' := by unfold C0; rw [e]; rfl
    obtain ⟨P1, hc⟩ := PX.arg hr h e
    rw [FR.put0 (f := ⟨4, n, 0, -1, -1, -1⟩) rfl]
    exact na1 (K := K) hL hr hs (Nat.le_trans hm (Nat.le_trans (Nat.le_add_right _ _) P1.p)) P1.i hj hk (k12_ext P1.e P1.i.l' hn) hc (fun x s' e => hok x s' (by rw [eC]; exact e)) (fun e => hx (by rw [eC]; exact e)) F' (by omega)
  · exact hx (by unfold C0; exact ex_bnd e)
/-- a filling, from its I on -/
theorem sim_fill (hL : LOk L) (hr : RI L rec) {m : Nat} (hs : SimT L z rec m) (hm : m ≤ s.2.2 + 1) {n : Int32} (h : Iv L j k s) (hj : K.length ≤ j) (hk : K.length ≤ k) (hn : kN s.1 n = 1 ∨ kN s.1 n = 2)
    (hok : ∀ x s', rFill L rec n s = .inr (x, s') → SOk L Q (mFl2 (x, rs z s' K))) (hx : (∃ m, rFill L rec n s = .inl m) → BQ L Q) : SOk L Q (mBA L n (rs z s K)) := by
  unfold mBA
  by_cases w : nxt L s = 73
  · have P1 := PX.ad h (by decide) w
    rw [mEx_ok hL (by decide) (by decide) w]
    have eC : rFill L rec n s = C0 L rec n (adv s) := by rw [rFill_C, show rPass L 73 s = .inr (adv s) from if_pos w]; rfl
    exact na0 (K := K) hL hr hs hm P1.i (by omega) (by omega) hn (fun x s' e => hok x s' (by rw [eC]; exact e)) (fun e => hx (by rw [eC]; exact e))
  · refine sok_wr (hx ⟨0, by rw [rFill_C, show rPass L 73 s = .inl 0 from if_neg w]; rfl⟩) (mNA_w ?_)
    exact mEx_x hL (by decide) (by decide) w
end
section
variable {L : List Int32} {Q : IM → Prop} {z : MS} {K : List FR} {s : RS} {j k : Nat} {rec : RS → Ex (Int32 × RS)}
abbrev nf (n m : Int32) : FR := ⟨8, n, m, -1, -1, -1⟩
theorem k3c {x : Int32} (h1 : ¬ x < 1) (h3 : x ≤ 3) : x = 1 ∨ x = 2 ∨ x = 3 := by
  rw [i_lt, show (1 : Int32).toInt = 1 from by decide] at h1
  rw [i_le, show (3 : Int32).toInt = 3 from by decide] at h3
  have : x.toInt = 1 ∨ x.toInt = 2 ∨ x.toInt = 3 := by omega
  rcases this with h | h | h
  · exact Or.inl (Int32.toInt_inj.mp (h.trans (by decide)))
  · exact Or.inr (Or.inl (Int32.toInt_inj.mp (h.trans (by decide))))
  · exact Or.inr (Or.inr (Int32.toInt_inj.mp (h.trans (by decide))))
theorem mNx_c {S : MS} {f : FR} {K : List FR} (e : S.K = f :: K) (hw : S.wr = false) : mNx L S = if pk L S = 69 then .inl (mXt f.o (mWr (mK (mAv S 1) K) (decide (¬ cN S.N f.o 0 = 2 ∧ (¬ cN S.N f.o 0 = 3 ∨ ¬ cN S.N (cN S.N f.o 2) 0 = 2)))))
    else if pk L S = 73 then (if cN S.N f.o 0 = 3 then .inl (-1, mWr (mN2 f K S) true) else .inl (mBA L f.o (mN2 f K S)))
      else .inr (mN3 f K (mN4 L f (mN2 f K S))) := by
  unfold mNx
  rw [e]
  exact if_neg (by rw [hw]; decide)
theorem mFl2_8 {q : IM} {f : FR} {K : List FR} (e : q.2.K = f :: K) (h : f.t = 8) : mFl2 q = (q.1, (MS.u_ne q.2 true)) := by
  unfold mFl2
  rw [e]
  exact if_pos h
/-- a nest's round that reads a step -/
theorem nest_round (hL : LOk L) (hr : RI L rec) {m : Nat} (hs : SimT L z rec m) {n mm : Int32} {s0 : RS} (hm : m ≤ s.2.2 + 1) (e0 : mN2 (nf n mm) K (rs z s0 (nf n mm :: K)) = rs z s (nf n 0 :: K)) (ep : s.2.2 = s0.2.2) (eN : s.1 = s0.1) (g : Gd L (rs z s0 (nf n mm :: K))) (h : Iv L j k s) (hj : K.length + 1 ≤ j) (hk : K.length + 1 ≤ k) (hE : ¬ nxt L s = 69) (hp : pfP s.1 n)
    (hok : ∀ x s', rStep L rec n s = .inr (x, s') → NOk L Q (rs z s' (nf x 0 :: K))) (hx : (∃ m, rStep L rec n s = .inl m) → BQ L Q) : NOk L Q (rs z s0 (nf n mm :: K)) := by
  have en : nxt L s0 = nxt L s := by unfold nxt; rw [ep]
  have pE : ¬ pk L (rs z s0 (nf n mm :: K)) = 69 := by rw [pkc hL _ (by decide) (by decide), en]; exact hE
  have h8 : ∀ f K', (rs z s0 (nf n mm :: K)).K = f :: K' → f.t = 8 := fun f K' e => by cases e; rfl
  have kne : ¬ (rs z s0 (nf n mm :: K)).K = [] := fun e => by cases e
  have hV := pf_vd h.l' hp
  by_cases w : nxt L s = 73
  · have pI : pk L (rs z s0 (nf n mm :: K)) = 73 := by rw [pkc hL _ (by decide) (by decide), en]; exact w
    have eS : rStep L rec n s = rFill L rec n s := if_pos w
    by_cases h3 : kN s.1 n = 3
    · refine nok_done rfl kne g h8 (q := (-1, mWr (mN2 (nf n mm) K (rs z s0 (nf n mm :: K))) true)) ?_ (sok_wr (hx ?_) rfl)
      · rw [mNx_c rfl rfl]
        rw [if_neg pE, if_pos pI, if_pos (by show cN s0.1 n 0 = 3; rw [← eN]; exact h3)]
      · rw [eS]
        cases e : rFill L rec n s with
        | inl m => exact ⟨m, rfl⟩
        | inr q =>
          exfalso
          obtain ⟨P, _, _, c⟩ := PX.fill (x := q.1) (s' := q.2) hr h e
          have : cN q.2.1 n 0 = 3 := by rw [cN_ext P.e P.i.l' (Or.inr hV)]; exact h3
          rcases c with c | c <;> exact absurd (this.symm.trans c) (by decide)
    · have h12 : kN s.1 n = 1 ∨ kN s.1 n = 2 := by
        rcases k3c hp.1 hp.2 with a | a | a
        · exact Or.inl a
        · exact Or.inr a
        · exact absurd a h3
      refine nok_done rfl kne g h8 (q := mBA L n (rs z s (nf n 0 :: K))) ?_ ?_
      · rw [mNx_c rfl rfl]
        rw [if_neg pE, if_pos pI, if_neg (by show ¬ cN s0.1 n 0 = 3; rw [← eN]; exact h3), e0]
      · refine sim_fill hL hr hs hm h (by simpa using hj) (by simpa using hk) h12 (fun x s' e => ?_) (fun e => hx (by rw [eS]; exact e))
        have e1 : mFl2 (x, rs z s' (nf n 0 :: K)) = (x, (MS.u_ne (rs z s' (nf n 0 :: K)) true)) := mFl2_8 rfl rfl
        rw [e1]
        exact sok_go rfl rfl (fun e => by cases e) (hok x s' (by rw [eS]; exact e))
  · have pI : ¬ pk L (rs z s0 (nf n mm :: K)) = 73 := by rw [pkc hL _ (by decide) (by decide), en]; exact w
    have eS : rStep L rec n s = bnd (rId L s) fun q => lft (aMember q.2.1 n q.1) q.2 := if_neg w
    refine nok_more rfl kne g h8 (s' := mN3 (nf n mm) K (mN4 L (nf n mm) (rs z s (nf n 0 :: K)))) ?_ ?_
    · rw [mNx_c rfl rfl]
      rw [if_neg pE, if_neg pI, e0]
    · unfold mN4
      cases e1 : rId L s with
      | inl a =>
        have hw := mId_x (z := z) (K := nf n 0 :: K) hL e1
        refine nok_wr (hx ⟨a, by rw [eS, e1]; rfl⟩) ?_ (fun e => by cases e)
        show (mMk _ _ _ _ _ _ _ _).2.wr = true
        rw [mMk_w hw]; exact hw
      | inr q =>
        obtain ⟨P1, hi⟩ := PX.id (x := q.1) (s' := q.2) h e1
        have eN1 : q.2.1 = s.1 := (rId_p (x := q.1) (s' := q.2) e1).2.1
        rw [mId_ok (z := z) (K := nf n 0 :: K) hL (x := q.1) (s' := q.2) e1]
        have hp1 : pfP q.2.1 n := by rw [eN1]; exact hp
        have hl : q.2.1.length < 180 := by have := P1.i.nl; have := P1.i.p; have := P1.i.m; omega
        have vo : Vo q.2.1 n := Or.inr (pf_vd P1.i.l' hp1)
        have ea : aMember q.2.1 n q.1 = addN q.2.1 2 q.1 n (-1) (-1) (-1) (-1) := if_pos ⟨hp1, hi⟩
        have eS2 : rStep L rec n s = lft (addN q.2.1 2 q.1 n (-1) (-1) (-1) (-1)) q.2 := by rw [eS, e1, bnd_i, ea]
        cases hh : addN q.2.1 2 q.1 n (-1) (-1) (-1) (-1) with
        | inl a =>
          refine nok_wr (hx ⟨a, by rw [eS2, hh]; rfl⟩) ?_ (fun e => by cases e)
          exact mMk_x P1.i.w hl vo (no_vo _) (no_vo _) (no_vo _) (no_vo _) hh
        | inr r =>
          show NOk L Q (mN3 (nf n mm) K (mMk 2 q.1 n (-1) (-1) (-1) (-1) (rs z q.2 (nf n 0 :: K))))
          rw [mMk_ok P1.i.w vo (no_vo _) (no_vo _) (no_vo _) (no_vo _) hh]
          exact hok _ _ (by rw [eS2, hh]; rfl)
/-- the end of a nest, as the class has it -/
def CE (L : List Int32) (c : Int32 × RS) : Ex (Int32 × RS) := bnd (rPass L 69 c.2) fun s5 => if kN s5.1 c.1 = 2 ∨ kN s5.1 (cN s5.1 c.1 2) = 2 then .inr (c.1, s5) else .inl 0
theorem nx_E (hL : LOk L) {n : Int32} (hE : nxt L s = 69) : mNx L (rs z s (nf n 0 :: K)) = .inl (mXt n (mWr (rs z (adv s) K) (decide (¬ cN s.1 n 0 = 2 ∧ (¬ cN s.1 n 0 = 3 ∨ ¬ cN s.1 (cN s.1 n 2) 0 = 2))))) := by
  rw [mNx_c rfl rfl, if_pos (by rw [pkc hL _ (by decide) (by decide)]; exact hE)]
  rfl
theorem mXt_w {x : Int32} {S : MS} (h : S.wr = true) : (mXt x S).2.wr = true := by
  unfold mXt
  by_cases w : cE S
  · rw [if_pos w]; exact h
  · rw [if_neg w]; exact h
theorem fo_nf {N : List (List Int32)} (hW : WN N) {n m : Int32} (hV : Vd N n) (hm : m = 0 ∨ m = 1) : FO N (nf n m) := by
  refine Or.inr (Or.inr (Or.inr ⟨rfl, hV, fun h3 => ?_, hm⟩))
  obtain ⟨i, hi, rfl⟩ := hV
  have hl := hW.1
  obtain ⟨c, a, f, g, x, y, w, e, nk, _⟩ := hW.get hi
  have e0 : cN N (nI i) 0 = c := by rw [cN_nI (by omega) hi, e]; rfl
  have e2 : cN N (nI i) 2 = f := by rw [cN_nI (by omega) hi, e]; rfl
  rw [e2]
  have hc := h3
  rw [e0] at hc
  have hP : (N.take i).length ≤ 1000 := by rw [List.length_take]; omega
  have : Vd (N.take i) f := by
    cases nk using NK.cs with
    | fl q _ _ _ => exact q.elim (eq_vd hP (by decide)) (eq_vd hP (by decide))
    | bi _ => exact absurd hc (by decide)
    | nm _ => exact absurd hc (by decide)
    | mb _ _ => exact absurd hc (by decide)
    | wp q _ _ => rcases q with q | q | q <;> exact absurd (q.symm.trans hc) (by decide)
    | ar _ _ => exact absurd hc (by decide)
    | fn _ _ => exact absurd hc (by decide)
    | li _ _ => exact absurd hc (by decide)
    | en _ _ _ => exact absurd hc (by decide)
  exact this.ext (take_pre i)
theorem k23_pf {N : List (List Int32)} {x : Int32} (h : kN N x = 2 ∨ kN N x = 3) : pfP N x := by
  refine ⟨?_, ?_⟩ <;> rcases h with h | h <;> rw [h] <;> decide
theorem sim_steps (hL : LOk L) (hr : RI L rec) {m : Nat} (hs : SimT L z rec m) (f : Nat) : ∀ {n : Int32} {s : RS}, m ≤ s.2.2 → L.length < s.2.2 + f → Iv L (j + 1) k s → K.length + 1 ≤ j → K.length + 1 ≤ k → (kN s.1 n = 2 ∨ kN s.1 n = 3) → (∀ x s', bnd (rSteps L rec f n s) (CE L) = .inr (x, s') → SOk L Q (mXt x (rs z s' K))) → ((∃ m, bnd (rSteps L rec f n s) (CE L) = .inl m) → BQ L Q) → NOk L Q (rs z s (nf n 0 :: K)) := by
  induction f with
  | zero => intro n s _ hf h; have := h.p; omega
  | succ f ih =>
    intro n s hm hf h hj hk h23 hok hx
    have hV := pf_vd h.l' (k23_pf h23)
    have hKp : K.length + 1 ≤ s.2.2 := by have := h.tl; omega
    have g : Gd L (rs z s (nf n 0 :: K)) := h.gd (by simpa using hKp) (fun f' K' e => by cases e; exact fo_nf h.w hV (Or.inl rfl))
    by_cases w : nxt L s = 69
    · have e1 : rSteps L rec (f + 1) n s = .inr (n, s) := if_pos w
      have e2 : bnd (rSteps L rec (f + 1) n s) (CE L) = if kN (adv s).1 n = 2 ∨ kN (adv s).1 (cN (adv s).1 n 2) = 2 then .inr (n, adv s) else .inl 0 := by
        rw [e1, bnd_i]; unfold CE
        rw [show rPass L 69 (n, s).2 = .inr (adv s) from if_pos w]; rfl
      refine nok_done rfl (fun e => by cases e) g (fun f' K' e => by cases e; rfl) (nx_E hL w) ?_
      by_cases u : kN (adv s).1 n = 2 ∨ kN (adv s).1 (cN (adv s).1 n 2) = 2
      · rw [if_pos u] at e2
        have : ¬ (¬ cN s.1 n 0 = 2 ∧ (¬ cN s.1 n 0 = 3 ∨ ¬ cN s.1 (cN s.1 n 2) 0 = 2)) := by
          rintro ⟨a, b⟩
          rcases u with u | u
          · exact a u
          · rcases b with b | b
            · rcases h23 with c | c
              · exact a c
              · exact b c
            · exact b u
        rw [decide_eq_false this]
        exact hok n (adv s) e2
      · rw [if_neg u] at e2
        have : (¬ cN s.1 n 0 = 2 ∧ (¬ cN s.1 n 0 = 3 ∨ ¬ cN s.1 (cN s.1 n 2) 0 = 2)) := ⟨fun a => u (Or.inl a), Or.inr (fun a => u (Or.inr a))⟩
        exact sok_wr (hx ⟨0, e2⟩) (mXt_w (by rw [decide_eq_true this]; rfl))
    · have e1 : rSteps L rec (f + 1) n s = bnd (rStep L rec n (tad s n)) fun q => rSteps L rec f q.1 q.2 := if_neg w
      obtain ⟨i1, e3⟩ := h.td (k23 h23).1 (k23 h23).2
      have es : mN2 (nf n 0) K (rs z s (nf n 0 :: K)) = rs z (tad s n) (nf n 0 :: K) := by
        unfold mN2
        rw [if_pos rfl]
        show (MS.u_K (MS.u_E (rs z s (nf n 0 :: K)) (s.2.1 ++ [n])) (nf n 0 :: K)) = (MS.u_K (MS.u_E (rs z s (nf n 0 :: K)) ((tad s n).2.1)) (nf n 0 :: K))
        rw [e3]
      refine nest_round hL hr hs (s := tad s n) (Nat.le_succ_of_le hm) es rfl rfl g i1 hj hk w (k23_pf h23) (fun x s' e => ?_) (fun ⟨a, e⟩ => hx ⟨a, by rw [e1, e]; rfl⟩)
      obtain ⟨P1, c, _⟩ := PX.step hr i1 e
      have e2 : bnd (rSteps L rec (f + 1) n s) (CE L) = bnd (rSteps L rec f x s') (CE L) := by rw [e1, e]; rfl
      have hp := P1.p
      refine ih (by show m ≤ s'.2.2; have : (tad s n).2.2 = s.2.2 := rfl; omega) (by have : (tad s n).2.2 = s.2.2 := rfl; omega) (P1.i.le (by omega) (by omega)) hj hk c (fun x s' e => hok x s' (by rw [e2]; exact e)) (fun e => hx (by rw [e2]; exact e))
theorem rId_nd (h : digF (nxt L s) 10 = -1) : rId L s = .inl 0 := by
  unfold rId
  rw [rNum_eq, dgs_nil h, if_neg (by rintro (q | q) <;> simp [mOr_wr, mEx_wr, mAv_wr, mEn_wr, mBe_wr, mK_wr, mWr_wr] at q)]
  rfl
theorem mBN2_w {t : Int32} {q : IM} (h : q.2.wr = true) : (mBN2 L t q).wr = true := by unfold mBN2 mBN3; simp [mOr_wr, mEx_wr, mAv_wr, mEn_wr, mBe_wr, mK_wr, mWr_wr, h]
theorem mBN2_K {t : Int32} {q : IM} : ¬ (mBN2 L t q).K = [] := fun e => by cases e
/-- a nest, from behind its N on -/
theorem sim_nest (hL : LOk L) (hr : RI L rec) {m : Nat} (hs : SimT L z rec m) (hm : m ≤ s.2.2 + 1) (h : Iv L j k s) (hj : K.length ≤ j) (hk : K.length ≤ k) (hN : nxt L s = 78)
    (hok : ∀ x s', rNest L rec s = .inr (x, s') → SOk L Q (mXt x (rs z s' K))) (hx : (∃ m, rNest L rec s = .inl m) → BQ L Q) : NOk L Q (mBN L (mAv (rs z s K) 1)) := by
  have es : mAv (rs z s K) 1 = rs z (adv s) K := rfl
  have P1 := PX.ad h (by decide) hN
  rw [es]
  have eR : rNest L rec s = bnd (rStart L (adv s)) fun a => bnd (rStep L rec a.1 a.2) fun b => bnd (rSteps L rec 119 b.1 b.2) (CE L) := by
    unfold rNest
    rw [show rPass L 78 s = .inr (adv s) from if_pos hN]
    rfl
  -- what comes behind the start
  have rest : ∀ (n mm : Int32) (s0 s1 : RS), mm = 0 ∨ mm = 1 → s1.1 = s0.1 → s1.2.2 = s0.2.2 → mN2 (nf n mm) K (rs z s0 (nf n mm :: K)) = rs z s1 (nf n 0 :: K) → Iv L (j + 1) (k + 1) s1 → s0.2.1.length ≤ s1.2.1.length → (∀ x, x ∈ s0.2.1 → x ∈ s1.2.1) → (adv s).2.2 + 2 ≤ s1.2.2 → tyP s1.1 n → rStart L (adv s) = .inr (n, s1) → NOk L Q (mBN3 L (mBe 8 n mm (mOr (rs z s0 K) (decide (cN s0.1 n 0 < 1 ∨ 3 < cN s0.1 n 0))))) := by
    intro n mm s0 s1 hmm e1 e2 e3 i1 hTl hTm hp1 ht hst
    have eR2 : rNest L rec s = bnd (rStep L rec n s1) fun b => bnd (rSteps L rec 119 b.1 b.2) (CE L) := by rw [eR, hst]; rfl
    by_cases w : cN s0.1 n 0 < 1 ∨ 3 < cN s0.1 n 0
    · refine nok_wr (hx ?_) (by unfold mBN3; simp [mOr_wr, mEx_wr, mAv_wr, mEn_wr, mBe_wr, mK_wr, mWr_wr, w]) (fun e => by cases e)
      rw [eR2]
      apply ex_bnd
      cases e : rStep L rec n s1 with
      | inl a => exact ⟨a, rfl⟩
      | inr q =>
        exfalso
        have hp : pfP s1.1 n := by
          unfold rStep at e
          by_cases u : nxt L s1 = 73
          · rw [if_pos u] at e
            obtain ⟨P, _, _, c⟩ := PX.fill (x := q.1) (s' := q.2) hr i1 e
            have : cN q.2.1 n 0 = cN s1.1 n 0 := cN_ext P.e P.i.l' (Or.inr (ty_vd i1.l' ht)) 0
            have c : cN q.2.1 n 0 = 1 ∨ cN q.2.1 n 0 = 2 := c
            rw [this] at c
            refine ⟨?_, ?_⟩ <;> rcases c with c | c <;> show _ <;> (try unfold kN) <;> rw [c] <;> decide
          · rw [if_neg u] at e
            obtain ⟨q1, h1, e⟩ := bnd_inr e
            obtain ⟨r, h3, _, _⟩ := lft_inr (x := q.1) (s' := q.2) e
            have := (if_inr h3).1.1
            rwa [(rId_p (x := q1.1) (s' := q1.2) h1).2.1] at this
        rw [e1] at hp
        rcases w with w | w
        · exact hp.1 w
        · exact absurd hp.2 (Int32.not_le.mpr w)
    · have hp : pfP s1.1 n := by rw [e1]; exact ⟨fun u => w (Or.inl u), Int32.not_lt.mp (fun u => w (Or.inr u))⟩
      have eo : mOr (rs z s0 K) (decide (cN s0.1 n 0 < 1 ∨ 3 < cN s0.1 n 0)) = rs z s0 K := by rw [decide_eq_false w]; rfl
      rw [eo]
      have eb : mBe 8 n mm (rs z s0 K) = rs z s0 (nf n mm :: K) := rfl
      rw [eb]
      unfold mBN3
      have en : nxt L s0 = nxt L s1 := by unfold nxt; rw [e2]
      by_cases u : nxt L s1 = 69
      · refine nok_wr (hx ?_) ?_ (fun e => by cases e)
        · rw [eR2]
          apply ex_bnd
          refine ⟨0, ?_⟩
          unfold rStep
          rw [if_neg (by rw [u]; decide), rId_nd (by rw [u]; decide)]
          rfl
        · have : pk L (rs z s0 (nf n mm :: K)) = 69 := by rw [pkc hL _ (by decide) (by decide), en]; exact u
          simp [mOr_wr, mEx_wr, mAv_wr, mEn_wr, mBe_wr, mK_wr, mWr_wr, this]
      · have : ¬ pk L (rs z s0 (nf n mm :: K)) = 69 := by rw [pkc hL _ (by decide) (by decide), en]; exact u
        rw [decide_eq_false this]
        have g : Gd L (rs z s0 (nf n mm :: K)) := by
          have i2 := i1.l; have i3 := i1.tl; have i4 := i1.p; have i5 := i1.m
          refine ⟨by show s0.1.length ≤ 200; rw [← e1]; omega, by show s0.2.1.length ≤ 250; omega, by show (nf n mm :: K).length ≤ 200; simp [mOr_wr, mEx_wr, mAv_wr, mEn_wr, mBe_wr, mK_wr, mWr_wr]; omega, by show s0.2.2 ≤ _; rw [← e2]; exact i4, i5, fun x hx => ?_, fun f' K' e => ?_⟩
          · show Vd s0.1 x
            rw [← e1]; exact ty_vd i1.l' (i1.t x (hTm x hx)).1
          · cases e
            show FO s0.1 _
            rw [← e1]; exact fo_nf i1.w (ty_vd i1.l' ht) hmm
        refine nest_round hL hr hs (s := s1) (by have : (adv s).2.2 = s.2.2 + 1 := rfl; omega) e3 e2 e1 g i1 (by omega) (by omega) u hp (fun x s' e => ?_) (fun ⟨a, e⟩ => hx ⟨a, by rw [eR2, e]; rfl⟩)
        obtain ⟨P2, c, _⟩ := PX.step hr i1 e
        have eR3 : rNest L rec s = bnd (rSteps L rec 119 x s') (CE L) := by rw [eR2, e]; rfl
        have hp2 := P2.p
        have : (adv s).2.2 = s.2.2 + 1 := rfl
        have hm5 := P2.i.m
        refine sim_steps (j := j + 1) (k := k + 1) hL hr hs 119 (by omega) (by omega) (P2.i.le (by omega) (by omega)) (by omega) (by omega) c (fun x s' e => hok x s' (by rw [eR3]; exact e)) (fun e => hx (by rw [eR3]; exact e))
  unfold mBN
  by_cases w : nxt L (adv s) = 83
  · rw [if_pos (by rw [pkc hL _ (by decide) (by decide)]; exact w)]
    have eT : rStart L (adv s) = rTold L (adv s) := if_pos w
    have hT : (adv s).2.1.length ≤ 1000 := by have := P1.i.tl; have := P1.i.p; have := P1.i.m; omega
    cases e : rTold L (adv s) with
    | inl a => exact nok_wr (hx ⟨a, by rw [eR, eT, e]; rfl⟩) (mBN2_w (mTold_x hL hT P1.i.tv e)) mBN2_K
    | inr q =>
      rw [mTold_ok (x := q.1) (s' := q.2) hL hT e]
      obtain ⟨P2, t1, t2, _, _⟩ := PX.told (x := q.1) (s' := q.2) P1.i e
      refine rest q.1 1 q.2 q.2 (Or.inr rfl) rfl rfl ?_ (P2.i.le (by omega) (by omega)) (Nat.le_refl _) (fun _ h => h) P2.p t1 (by rw [eT, e])
      unfold mN2
      rw [if_neg (by show ¬ (1 : Int32) = 0; decide)]
      rfl
  · rw [if_neg (by rw [pkc hL _ (by decide) (by decide)]; exact w)]
    have eT : rStart L (adv s) = bnd (rId L (adv s)) fun q => bnd (lft (aName q.2.1 q.1) q.2) fun n => .inr (n.1, tad n.2 n.1) := if_neg w
    cases e : rId L (adv s) with
    | inl a =>
      have hw := mId_x (z := z) (K := K) hL e
      refine nok_wr (hx ⟨a, by rw [eR, eT, e]; rfl⟩) (mBN2_w ?_) mBN2_K
      show (mMk _ _ _ _ _ _ _ _).2.wr = true
      rw [mMk_w hw]; exact hw
    | inr q =>
      rw [mId_ok (x := q.1) (s' := q.2) hL e]
      obtain ⟨P2, hi⟩ := PX.id (x := q.1) (s' := q.2) P1.i e
      obtain ⟨r, ea, eb⟩ := mNm_ok (z := z) (K := K) P2.i hi
      have o := aName_ao P2.i.w ea
      have P3 := PX.ao P2.i o
      obtain ⟨i4, e4⟩ := P3.i.td (o.ty (by decide)) (o.k0 (by decide))
      rw [eb]
      refine rest r.1 0 (r.2, q.2.2) (tad (r.2, q.2.2) r.1) (Or.inl rfl) rfl rfl ?_ (i4.le (by omega) (by omega)) (by rw [e4]; simp [mOr_wr, mEx_wr, mAv_wr, mEn_wr, mBe_wr, mK_wr, mWr_wr]) (fun x hx => by rw [e4]; exact List.mem_append_left _ hx) P2.p (o.ty (by decide)) (by rw [eT, e, bnd_i, ea]; rfl)
      unfold mN2
      rw [if_pos (by show (0 : Int32) = 0; rfl)]
      show (MS.u_K (MS.u_E (rs z (r.2, q.2.2) (nf r.1 0 :: K)) (q.2.2.1 ++ [r.1])) (nf r.1 0 :: K)) = (MS.u_K (MS.u_E (rs z (r.2, q.2.2) (nf r.1 0 :: K)) ((tad (r.2, q.2.2) r.1).2.1)) (nf r.1 0 :: K))
      rw [e4]
end
section
variable {L : List Int32} {Q : IM → Prop} {z : MS} {K : List FR} {s : RS} {j k : Nat} {rec : RS → Ex (Int32 × RS)}
theorem mTk_c {S : MS} {n : Int32} {f : FR} {K : List FR} (e : S.K = f :: K) : mTk L n S = if f.t = 7 then mTk7 f K n S else if f.t = 4 then mNA L (mPut S n) else mTk2 L n f K S := by
  unfold mTk
  rw [e]
theorem mEn_tad (h : Iv L (j + 1) k s) {x : Int32} (hx : tyP s.1 x) (h0 : ¬ kN s.1 x = 0) : mEn (rs z s K) x = rs z (tad s x) K := by
  obtain ⟨_, e⟩ := h.td hx h0
  show (MS.u_E (rs z s K) (s.2.1 ++ [x])) = (MS.u_E (rs z s K) ((tad s x).2.1))
  rw [e]
theorem mFl2_t {x : Int32} (hO : KO s.1 K) (hc : ¬ K = [] ∨ 0 ≤ z.b) : mFl2 (x, rs z s K) = (x, mEn (rs z s K) x) := by
  cases K with
  | nil =>
    rcases hc with hc | hc
    · exact absurd rfl hc
    · exact if_pos hc
  | cons f K => exact if_neg (hO.no8 f K rfl)
theorem mXt_t {x : Int32} (hc : ¬ K = [] ∨ 0 ≤ z.b) : mXt x (rs z s K) = (x, mEn (rs z s K) x) := if_pos hc
/-- a type inside a wrapping one -/
theorem wrap_sim (hr : RI L rec) {m : Nat} (hs : SimT L z rec m) (hm : m ≤ s.2.2) (A : List (List Int32) → Int32 → Ex (Int32 × List (List Int32))) {o v : Int32} (h : Iv L (j + 1) (k + 1) s) (hj : K.length ≤ j) (hk : K.length ≤ k) (hO : KO s.1 K) (ho : (o = 7 ∧ ¬ v < 1 ∧ v ≤ 999) ∨ o = 4 ∨ o = 5 ∨ o = 6)
    (hA : ∀ N x, tyP N x → A N x = if o = 6 ∧ kN N x = 6 then .inl 0 else addN N o (if o = 7 then v else 0) x (-1) (-1) (-1) (-1))
    (hok : ∀ x s', (bnd (rec s) fun q => lft (A q.2.1 q.1) q.2) = .inr (x, s') → Ok L Q (x, rs z (tad s' x) K)) (hx : (∃ m, (bnd (rec s) fun q => lft (A q.2.1 q.1) q.2) = .inl m) → BQ L Q) : Ok L Q (-1, rs z s (⟨7, o, v, -1, -1, -1⟩ :: K)) := by
  have fo : FO s.1 ⟨7, o, v, -1, -1, -1⟩ := Or.inl ⟨rfl, ho⟩
  refine hs Q (j + 1) (k + 1) s _ hm h (by simpa using hj) (by simpa using hk) ⟨fo, Or.inl ⟨rfl, hO⟩⟩ (Or.inl (fun e => by cases e)) (fun x s' e => ?_) (fun e => hx (ex_bnd e))
  obtain ⟨P1, ht⟩ := hr _ _ _ _ _ h e
  have hV := ty_vd P1.i.l' ht
  have hl : s'.1.length < 180 := by have := P1.i.nl; have := P1.i.p; have := P1.i.m; omega
  refine ok_tk rfl (hV.ne P1.i.l').1 (fun v => by cases v) (P1.i.gd (by have := P1.i.tl; simp [mOr_wr, mEx_wr, mAv_wr, mEn_wr, mBe_wr, mK_wr, mWr_wr]; omega) (fun f' K' e => by cases e; exact Or.inl ⟨rfl, ho⟩)) hV (fun f' K' e => by cases e; show ¬ (7 : Int32) = 8; decide) ?_
  have e1 : mTk L x (rs z s' (⟨7, o, v, -1, -1, -1⟩ :: K)) = eQ (mMk o (if o = 7 then v else 0) x (-1) (-1) (-1) (-1) (mOr (rs z s' K) (decide (o = 6 ∧ cN s'.1 x 0 = 6)))) := by
    rw [mTk_c rfl, if_pos rfl]
    rfl
  show SOk L Q (mTk L x (rs z s' (⟨7, o, v, -1, -1, -1⟩ :: K)))
  rw [e1]
  have eA : (bnd (rec s) fun q => lft (A q.2.1 q.1) q.2) = lft (A s'.1 x) s' := by rw [e]; rfl
  have hA' := hA s'.1 x ht
  by_cases w : o = 6 ∧ kN s'.1 x = 6
  · rw [if_pos w] at hA'
    have hw : (mOr (rs z s' K) (decide (o = 6 ∧ cN s'.1 x 0 = 6))).wr = true := by show (false || decide _) = true; rw [decide_eq_true w]; rfl
    refine sok_wr (hx ⟨0, by rw [eA, hA']; rfl⟩) ?_
    show (mMk _ _ _ _ _ _ _ _).2.wr = true
    rw [mMk_w hw]; exact hw
  · rw [if_neg w] at hA'
    have ew : mOr (rs z s' K) (decide (o = 6 ∧ cN s'.1 x 0 = 6)) = rs z s' K := by rw [decide_eq_false w]; rfl
    rw [ew]
    cases hh : addN s'.1 o (if o = 7 then v else 0) x (-1) (-1) (-1) (-1) with
    | inl a =>
      refine sok_wr (hx ⟨a, by rw [eA, hA', hh]; rfl⟩) ?_
      exact mMk_x P1.i.w hl (Or.inr hV) (no_vo _) (no_vo _) (no_vo _) (no_vo _) hh
    | inr q =>
      rw [mMk_ok P1.i.w (Or.inr hV) (no_vo _) (no_vo _) (no_vo _) (no_vo _) hh]
      have nk : NK s'.1 o (if o = 7 then v else 0) x (-1) (-1) (-1) (-1) := by
        rcases ho with ho | ho
        · rw [if_pos ho.1, ho.1]; exact .ar ht ho.2
        · have : ¬ o = 7 := by rcases ho with ho | ho | ho <;> rw [ho] <;> decide
          rw [if_neg this]; exact .wp ho ht w
      have oo := addN_ao P1.i.w nk hh
      have i2 := P1.i.ao oo
      have ty : tyP q.2 q.1 := oo.ty (by rcases ho with ho | ho | ho | ho <;> (try rw [ho.1]) <;> (try rw [ho]) <;> decide)
      have k0 : ¬ kN q.2 q.1 = 0 := oo.k0 (by rcases ho with ho | ho | ho | ho <;> (try rw [ho.1]) <;> (try rw [ho]) <;> decide)
      unfold eQ
      show SOk L Q (q.1, mEn (rs z (q.2, s'.2) K) q.1)
      rw [mEn_tad i2 ty k0]
      exact sok_ok rfl (hok q.1 (q.2, s'.2) (by rw [eA, hA', hh]; rfl))
def D3 (L : List Int32) (g a b c : Int32) (s : RS) : Ex (Int32 × RS) := bnd (rPass L 69 s) fun s5 => lft (aFunction s5.1 g a b c) s5
def D2 (L : List Int32) (rec : RS → Ex (Int32 × RS)) (g a b : Int32) (s : RS) : Ex (Int32 × RS) := bnd (rNext L rec b 69 s) fun c => D3 L g a b c.1 c.2
def D1 (L : List Int32) (rec : RS → Ex (Int32 × RS)) (g a : Int32) (s : RS) : Ex (Int32 × RS) := bnd (rNext L rec a 69 s) fun b => D2 L rec g a b.1 b.2
def D0 (L : List Int32) (rec : RS → Ex (Int32 × RS)) (g : Int32) (s : RS) : Ex (Int32 × RS) := bnd (rFirst L rec s) fun a => D1 L rec g a.1 a.2
/-- a parameter that is there: a type, and not void -/
abbrev prP (N : List (List Int32)) (x : Int32) : Prop := tyP N x ∧ ¬ (kN N x = 0 ∧ cN N x 1 = 0)
theorem le0 {x : Int32} (h : ¬ x < 0) (h0 : ¬ x = 0) : ¬ x ≤ 0 := by
  intro w
  rw [i_lt, show (0 : Int32).toInt = 0 from by decide] at h
  rw [i_le, show (0 : Int32).toInt = 0 from by decide] at w
  exact h0 (Int32.toInt_inj.mp (by rw [show (0 : Int32).toInt = 0 from by decide]; omega))
theorem pr_pa {N : List (List Int32)} {x : Int32} (h : prP N x) : paP N x := by
  by_cases w : kN N x = 0
  · exact Or.inl ⟨w, fun u => h.2 ⟨w, u⟩⟩
  · exact Or.inr ⟨w, Or.inr ⟨le0 h.1.1 w, h.1.2⟩⟩
theorem no_pa (N : List (List Int32)) : paP N (-1) := by
  refine Or.inr ⟨?_, Or.inl rfl⟩
  show ¬ cN N (-1) 0 = 0
  rw [cN_none]; decide
theorem pr_ext {N N' : List (List Int32)} (h : N <+: N') (hN : N'.length ≤ 1000) {x : Int32} (a : prP N x) : prP N' x := by
  have v : Vo N x := Or.inr (ty_vd (Nat.le_trans h.length_le hN) a.1)
  refine ⟨tyP_ext h hN a.1, ?_⟩
  show ¬ (cN N' x 0 = 0 ∧ cN N' x 1 = 0)
  rw [cN_ext h hN v, cN_ext h hN v]; exact a.2
theorem pr_ne {N : List (List Int32)} (hN : N.length ≤ 1000) {x : Int32} (a : prP N x) : ¬ x = -1 := ((ty_vd hN a.1).ne hN).2
/-- a function is at its end -/
theorem fn_fin {g a b c : Int32} (h : Iv L (j + 1) (k + 1) s) (hg : tyP s.1 g) (hp : psP s.1 a b c)
    (hok : ∀ x s', lft (aFunction s.1 g a b c) s = .inr (x, s') → Ok L Q (x, rs z (tad s' x) K)) (hx : (∃ m, lft (aFunction s.1 g a b c) s = .inl m) → BQ L Q) : SOk L Q (eQ (mMk 8 0 g (-1) a b c (rs z s K))) := by
  have ea : aFunction s.1 g a b c = addN s.1 8 0 g (-1) a b c := if_pos ⟨hg, hp⟩
  have hl : s.1.length < 180 := by have := h.nl; have := h.p; have := h.m; omega
  have vg : Vo s.1 g := Or.inr (ty_vd h.l' hg)
  have va := pa_vo h.l' hp.1.1
  have vb := pa_vo h.l' hp.1.2.1
  have vc := pa_vo h.l' hp.1.2.2
  cases hh : addN s.1 8 0 g (-1) a b c with
  | inl n => exact sok_wr (hx ⟨n, by rw [ea, hh]; rfl⟩) (mMk_x h.w hl vg (no_vo _) va vb vc hh)
  | inr q =>
    rw [mMk_ok h.w vg (no_vo _) va vb vc hh]
    have o := addN_ao h.w (.fn hg hp) hh
    have i2 := h.ao o
    show SOk L Q (q.1, mEn (rs z (q.2, s.2) K) q.1)
    rw [mEn_tad i2 (o.ty (by decide)) (o.k0 (by decide))]
    exact sok_ok rfl (hok q.1 (q.2, s.2) (by rw [ea, hh]; rfl))
theorem tk4_E (hL : LOk L) {no : Bool} {f : FR} (hE : nxt L s = 69) (hn : no = true ∨ 0 < f.n) : mTk4 L no f K (rs z s (f :: K)) = eQ (mMk 8 0 f.o (-1) f.a f.b f.c (rs z (adv s) K)) := by
  unfold mTk4
  rw [if_pos ⟨rfl, hn, by rw [pkc hL _ (by decide) (by decide)]; exact hE⟩]
  rfl
theorem tk4_no (hL : LOk L) {no : Bool} {f : FR} (hE : ¬ ((no = true ∨ 0 < f.n) ∧ nxt L s = 69)) : mTk4 L no f K (rs z s (f :: K)) = (-1, mOr (rs z s (f :: K)) (decide (no = true ∨ f.n = 3))) := by
  unfold mTk4
  rw [if_neg (fun w => hE ⟨w.2.1, by have := w.2.2; rw [pkc hL _ (by decide) (by decide)] at this; exact this⟩)]
abbrev pf (g n a b c : Int32) : FR := ⟨6, g, n, a, b, c⟩
/-- one parameter more -/
theorem fn_gen (hr : RI L rec) {m : Nat} (hs : SimT L z rec m) (hm : m ≤ s.2.2) {f : FR} (h : Iv L j k s) (hj : K.length + 1 ≤ j) (hk : K.length + 1 ≤ k) (hfo : FO s.1 f) (h6 : f.t = 6) (h3 : f.n = 0 ∨ f.n = 1 ∨ f.n = 2)
    (hA : ∀ x s', rec s = .inr (x, s') → prP s'.1 x → SOk L Q (mTk4 L false (f.set x).inc K (rs z s' ((f.set x).inc :: K))))
    (hV : ∀ x s', rec s = .inr (x, s') → kN s'.1 x = 0 → cN s'.1 x 1 = 0 → BQ L Q) (hX : (∃ m, rec s = .inl m) → BQ L Q) : Ok L Q (-1, rs z s (f :: K)) := by
  refine hs Q j k s _ hm h (by simpa using hj) (by simpa using hk) ⟨hfo, Or.inr (Or.inr h6)⟩ (Or.inl (fun e => by cases e)) (fun x s' e => ?_) hX
  obtain ⟨P1, ht⟩ := hr _ _ _ _ _ h e
  have hVd := ty_vd P1.i.l' ht
  refine ok_tk rfl (hVd.ne P1.i.l').1 (fun v => by cases v) (P1.i.gd (by have := P1.i.tl; simp [mOr_wr, mEx_wr, mAv_wr, mEn_wr, mBe_wr, mK_wr, mWr_wr]; omega) (fun f' K' e => by cases e; exact hfo.ext P1.e P1.i.l')) hVd (fun f' K' e => by cases e; rw [h6]; decide) ?_
  have n0 : ¬ f.n < 0 := by rcases h3 with h3 | h3 | h3 <;> rw [h3] <;> decide
  have ni : ¬ (f.set x).inc.n = 0 := by
    rcases h3 with h3 | h3 | h3
    · rw [FR.put0 h3]; show ¬ (1 : Int32) = 0; decide
    · rw [FR.put1 h3]; show ¬ (2 : Int32) = 0; decide
    · rw [FR.put2 h3]; show ¬ (3 : Int32) = 0; decide
  have e1 : mTk L x (rs z s' (f :: K)) = mTk4 L false (f.set x).inc K (mK (mOr (rs z s' (f :: K)) (decide (cN s'.1 x 0 = 0 ∧ cN s'.1 x 1 = 0))) ((f.set x).inc :: K)) := by
    show (if f.t = 7 then _ else if f.t = 4 then _ else mTk2 L x f K (rs z s' (f :: K))) = _
    rw [if_neg (by rw [h6]; decide), if_neg (by rw [h6]; decide)]
    unfold mTk2 mTk3
    rw [if_neg n0, if_neg (fun w => ni w.1)]
    rfl
  show SOk L Q (mTk L x (rs z s' (f :: K)))
  rw [e1]
  by_cases w : cN s'.1 x 0 = 0 ∧ cN s'.1 x 1 = 0
  · refine sok_wr (hV x s' e w.1 w.2) ?_
    have hw : (mK (mOr (rs z s' (f :: K)) (decide (cN s'.1 x 0 = 0 ∧ cN s'.1 x 1 = 0))) ((f.set x).inc :: K)).wr = true := by show (false || decide _) = true; rw [decide_eq_true w]; rfl
    unfold mTk4
    rw [if_neg (fun u => by rw [hw] at u; cases u.1)]
    show (_ || _) = true
    rw [hw]; rfl
  · rw [decide_eq_false w]
    exact hA x s' e ⟨ht, w⟩
theorem nxt_E {b : Int32} (h : nxt L s = 69) : rNext L rec b 69 s = .inr (-1, s) := if_pos (Or.inr h)
theorem nxt_N : rNext L rec (-1) 69 s = .inr (-1, s) := if_pos (Or.inl rfl)
theorem nxt_R {b : Int32} (hb : ¬ b = -1) (h : ¬ nxt L s = 69) : rNext L rec b 69 s = rec s := if_neg (fun w => w.elim hb h)
/-- a void parameter fails at the end -/
theorem D3_pa (h : Iv L j k s) {g a b c x : Int32} {s' : RS} (e : D3 L g a b c s = .inr (x, s')) : paP s.1 a ∧ paP s.1 b ∧ paP s.1 c := by
  unfold D3 at e
  obtain ⟨s5, h1, e⟩ := bnd_inr e
  obtain ⟨q, h2, _, _⟩ := lft_inr e
  obtain ⟨c, _⟩ := if_inr h2
  obtain ⟨_, rfl⟩ := rPass_ok h1
  exact c.2.1
theorem void_pa {N N' : List (List Int32)} (h : N <+: N') (hN : N'.length ≤ 1000) {x : Int32} (h0 : kN N x = 0) (h1 : cN N x 1 = 0) : ¬ paP N' x := by
  have v : Vo N x := Or.inr (eq_vd (Nat.le_trans h.length_le hN) (by decide) h0)
  rintro (w | w)
  · exact w.2 (by rw [cN_ext h hN v]; exact h1)
  · exact w.1 (by show cN N' x 0 = 0; rw [cN_ext h hN v]; exact h0)
theorem D2_void (hr : RI L rec) (h : Iv L j k s) {g a b : Int32} (hv : ∀ N', s.1 <+: N' → N'.length ≤ 1000 → ¬ (paP N' a ∧ paP N' b)) : ∃ n, D2 L rec g a b s = .inl n := by
  cases e : D2 L rec g a b s with
  | inl n => exact ⟨n, rfl⟩
  | inr q =>
    exfalso
    obtain ⟨c, h1, e⟩ := bnd_inr e
    have P1 := (PX.next (x := c.1) (s' := c.2) hr h h1).1
    have := D3_pa (x := q.1) (s' := q.2) P1.i e
    exact hv _ P1.e P1.i.l' ⟨this.1, this.2.1⟩
theorem D1_void (hr : RI L rec) (h : Iv L j k s) {g a : Int32} (hv : ∀ N', s.1 <+: N' → N'.length ≤ 1000 → ¬ paP N' a) : ∃ n, D1 L rec g a s = .inl n := by
  cases e : D1 L rec g a s with
  | inl n => exact ⟨n, rfl⟩
  | inr q =>
    exfalso
    obtain ⟨b, h1, e⟩ := bnd_inr e
    have P1 := (PX.next (x := b.1) (s' := b.2) hr h h1).1
    obtain ⟨n, hn⟩ := D2_void (g := g) (a := a) (b := b.1) hr P1.i (fun N' h1 h2 w => hv N' (P1.e.trans h1) h2 w.1)
    rw [hn] at e; cases e
theorem fo_pf {N : List (List Int32)} (hN : N.length ≤ 1000) {g n a b c : Int32} (hg : tyP N g) (hn : n = 0 ∨ n = 1 ∨ n = 2) (ha : Vo N a) (hb : Vo N b) (hc : Vo N c) : FO N (pf g n a b c) := Or.inr (Or.inr (Or.inl ⟨rfl, Or.inr (ty_vd hN hg), Or.inr hn, ha, hb, hc⟩))
theorem pr_vo {N : List (List Int32)} (hN : N.length ≤ 1000) {x : Int32} (a : prP N x) : Vo N x := Or.inr (ty_vd hN a.1)
theorem fn3 (hL : LOk L) {g a b c : Int32} (h : Iv L j k s) (hg : tyP s.1 g) (ha : prP s.1 a) (hb : prP s.1 b) (hc : prP s.1 c)
    (hok : ∀ x s', D3 L g a b c s = .inr (x, s') → Ok L Q (x, rs z (tad s' x) K)) (hx : (∃ m, D3 L g a b c s = .inl m) → BQ L Q) : SOk L Q (mTk4 L false (pf g 3 a b c) K (rs z s (pf g 3 a b c :: K))) := by
  by_cases w : nxt L s = 69
  · rw [tk4_E hL w (Or.inr (show (0 : Int32) < 3 by decide))]
    have eD : D3 L g a b c s = lft (aFunction (adv s).1 g a b c) (adv s) := by unfold D3; rw [show rPass L 69 s = .inr (adv s) from if_pos w]; rfl
    exact fn_fin (PX.ad h (by decide) w).i hg ⟨⟨pr_pa ha, pr_pa hb, pr_pa hc⟩, fun q => q.elim (fun q => pr_ne h.l' ha q.1) (fun q => pr_ne h.l' hb q.1)⟩ (fun x s' e => hok x s' (by rw [eD]; exact e)) (fun e => hx (by rw [eD]; exact e))
  · rw [tk4_no hL (fun u => w u.2)]
    exact sok_wr (hx ⟨0, by unfold D3; rw [show rPass L 69 s = .inl 0 from if_neg w]; rfl⟩) rfl
theorem fn2 (hL : LOk L) (hr : RI L rec) {m : Nat} (hs : SimT L z rec m) (hm : m ≤ s.2.2) {g a b : Int32} (h : Iv L j k s) (hj : K.length + 1 ≤ j) (hk : K.length + 1 ≤ k) (hg : tyP s.1 g) (ha : prP s.1 a) (hb : prP s.1 b)
    (hok : ∀ x s', D2 L rec g a b s = .inr (x, s') → Ok L Q (x, rs z (tad s' x) K)) (hx : (∃ m, D2 L rec g a b s = .inl m) → BQ L Q) : SOk L Q (mTk4 L false (pf g 2 a b (-1)) K (rs z s (pf g 2 a b (-1) :: K))) := by
  by_cases w : nxt L s = 69
  · rw [tk4_E hL w (Or.inr (show (0 : Int32) < 2 by decide))]
    have eD : D2 L rec g a b s = lft (aFunction (adv s).1 g a b (-1)) (adv s) := by unfold D2 D3; rw [nxt_E w]; show bnd (rPass L 69 s) _ = _; rw [show rPass L 69 s = .inr (adv s) from if_pos w]; rfl
    exact fn_fin (PX.ad h (by decide) w).i hg ⟨⟨pr_pa ha, pr_pa hb, no_pa _⟩, fun q => q.elim (fun q => pr_ne h.l' ha q.1) (fun q => pr_ne h.l' hb q.1)⟩ (fun x s' e => hok x s' (by rw [eD]; exact e)) (fun e => hx (by rw [eD]; exact e))
  · rw [tk4_no hL (fun u => w u.2)]
    have eR : rNext L rec b 69 s = rec s := nxt_R (pr_ne h.l' hb) w
    refine sok_ok rfl (fn_gen hr hs hm h hj hk (fo_pf h.l' hg (Or.inr (Or.inr rfl)) (pr_vo h.l' ha) (pr_vo h.l' hb) (no_vo _)) rfl (Or.inr (Or.inr rfl)) (fun x s' e hp => ?_) (fun x s' e v0 v1 => ?_) (fun e => hx (by unfold D2; rw [eR]; exact ex_bnd e)))
    · have eD : D2 L rec g a b s = D3 L g a b x s' := by unfold D2; rw [eR, e]; rfl
      obtain ⟨P1, _⟩ := hr _ _ _ _ _ h e
      rw [FR.put2 (f := pf g 2 a b (-1)) rfl]
      exact fn3 hL P1.i (tyP_ext P1.e P1.i.l' hg) (pr_ext P1.e P1.i.l' ha) (pr_ext P1.e P1.i.l' hb) hp (fun x s' e => hok x s' (by rw [eD]; exact e)) (fun e => hx (by rw [eD]; exact e))
    · have eD : D2 L rec g a b s = D3 L g a b x s' := by unfold D2; rw [eR, e]; rfl
      obtain ⟨P1, _⟩ := hr _ _ _ _ _ h e
      refine hx ?_
      rw [eD]
      cases e2 : D3 L g a b x s' with
      | inl n => exact ⟨n, rfl⟩
      | inr q => exact absurd (D3_pa (x := q.1) (s' := q.2) P1.i e2).2.2 (void_pa (List.prefix_refl _) P1.i.l' v0 v1)
theorem fn1 (hL : LOk L) (hr : RI L rec) {m : Nat} (hs : SimT L z rec m) (hm : m ≤ s.2.2) {g a : Int32} (h : Iv L j k s) (hj : K.length + 1 ≤ j) (hk : K.length + 1 ≤ k) (hg : tyP s.1 g) (ha : prP s.1 a)
    (hok : ∀ x s', D1 L rec g a s = .inr (x, s') → Ok L Q (x, rs z (tad s' x) K)) (hx : (∃ m, D1 L rec g a s = .inl m) → BQ L Q) : SOk L Q (mTk4 L false (pf g 1 a (-1) (-1)) K (rs z s (pf g 1 a (-1) (-1) :: K))) := by
  by_cases w : nxt L s = 69
  · rw [tk4_E hL w (Or.inr (show (0 : Int32) < 1 by decide))]
    have eD : D1 L rec g a s = lft (aFunction (adv s).1 g a (-1) (-1)) (adv s) := by
      unfold D1 D2 D3; rw [nxt_E w]; show bnd (rNext L rec (-1) 69 s) _ = _; rw [nxt_N]; show bnd (rPass L 69 s) _ = _; rw [show rPass L 69 s = .inr (adv s) from if_pos w]; rfl
    exact fn_fin (PX.ad h (by decide) w).i hg ⟨⟨pr_pa ha, no_pa _, no_pa _⟩, fun q => q.elim (fun q => pr_ne h.l' ha q.1) (fun q => q.2 rfl)⟩ (fun x s' e => hok x s' (by rw [eD]; exact e)) (fun e => hx (by rw [eD]; exact e))
  · rw [tk4_no hL (fun u => w u.2)]
    have eR : rNext L rec a 69 s = rec s := nxt_R (pr_ne h.l' ha) w
    refine sok_ok rfl (fn_gen hr hs hm h hj hk (fo_pf h.l' hg (Or.inr (Or.inl rfl)) (pr_vo h.l' ha) (no_vo _) (no_vo _)) rfl (Or.inr (Or.inl rfl)) (fun x s' e hp => ?_) (fun x s' e v0 v1 => ?_) (fun e => hx (by unfold D1; rw [eR]; exact ex_bnd e)))
    · have eD : D1 L rec g a s = D2 L rec g a x s' := by unfold D1; rw [eR, e]; rfl
      obtain ⟨P1, _⟩ := hr _ _ _ _ _ h e
      rw [FR.put1 (f := pf g 1 a (-1) (-1)) rfl]
      exact fn2 hL hr hs (Nat.le_trans hm (Nat.le_trans (Nat.le_add_right _ _) P1.p)) P1.i hj hk (tyP_ext P1.e P1.i.l' hg) (pr_ext P1.e P1.i.l' ha) hp (fun x s' e => hok x s' (by rw [eD]; exact e)) (fun e => hx (by rw [eD]; exact e))
    · have eD : D1 L rec g a s = D2 L rec g a x s' := by unfold D1; rw [eR, e]; rfl
      obtain ⟨P1, _⟩ := hr _ _ _ _ _ h e
      exact hx (by rw [eD]; exact D2_void hr P1.i (fun N' h1 h2 u => void_pa h1 h2 v0 v1 u.2))
theorem fn0 (hL : LOk L) (hr : RI L rec) {m : Nat} (hs : SimT L z rec m) (hm : m ≤ s.2.2) {g : Int32} (h : Iv L j k s) (hj : K.length + 1 ≤ j) (hk : K.length + 1 ≤ k) (hg : tyP s.1 g)
    (hok : ∀ x s', D0 L rec g s = .inr (x, s') → Ok L Q (x, rs z (tad s' x) K)) (hx : (∃ m, D0 L rec g s = .inl m) → BQ L Q) : SOk L Q (mTk3 L (pf g 0 (-1) (-1) (-1)) K (rs z s (pf g 0 (-1) (-1) (-1) :: K))) := by
  unfold mTk3
  by_cases u : nxt L s = 118
  · rw [if_pos ⟨rfl, by rw [pkc hL _ (by decide) (by decide)]; exact u⟩]
    have es : mAv (rs z s (pf g 0 (-1) (-1) (-1) :: K)) 1 = rs z (adv s) (pf g 0 (-1) (-1) (-1) :: K) := rfl
    rw [es]
    have P1 := PX.ad h (by decide) u
    have eD0 : D0 L rec g s = D3 L g (-1) (-1) (-1) (adv s) := by
      unfold D0 D1 D2
      rw [show rFirst L rec s = .inr (-1, adv s) from if_pos u]
      show bnd (rNext L rec (-1) 69 (adv s)) _ = _
      rw [nxt_N]
      show bnd (rNext L rec (-1) 69 (adv s)) _ = _
      rw [nxt_N]
      rfl
    by_cases w : nxt L (adv s) = 69
    · rw [tk4_E hL w (Or.inl rfl)]
      have eD : D0 L rec g s = lft (aFunction (adv (adv s)).1 g (-1) (-1) (-1)) (adv (adv s)) := by rw [eD0]; unfold D3; rw [show rPass L 69 (adv s) = .inr (adv (adv s)) from if_pos w]; rfl
      exact fn_fin (PX.ad P1.i (by decide) w).i hg ⟨⟨no_pa _, no_pa _, no_pa _⟩, fun q => q.elim (fun q => q.2 rfl) (fun q => q.2 rfl)⟩ (fun x s' e => hok x s' (by rw [eD]; exact e)) (fun e => hx (by rw [eD]; exact e))
    · rw [tk4_no hL (fun u => w u.2)]
      exact sok_wr (hx ⟨0, by rw [eD0]; unfold D3; rw [show rPass L 69 (adv s) = .inl 0 from if_neg w]; rfl⟩) rfl
  · rw [if_neg (fun w => u (by have := w.2; rw [pkc hL _ (by decide) (by decide)] at this; exact this)), tk4_no hL (fun w => w.1.elim (fun w => by cases w) (fun w => absurd w (show ¬ (0 : Int32) < 0 by decide)))]
    have eR : rFirst L rec s = rec s := if_neg u
    refine sok_ok rfl (fn_gen hr hs hm h hj hk (fo_pf h.l' hg (Or.inl rfl) (no_vo _) (no_vo _) (no_vo _)) rfl (Or.inl rfl) (fun x s' e hp => ?_) (fun x s' e v0 v1 => ?_) (fun e => hx (by unfold D0; rw [eR]; exact ex_bnd e)))
    · have eD : D0 L rec g s = D1 L rec g x s' := by unfold D0; rw [eR, e]; rfl
      obtain ⟨P1, _⟩ := hr _ _ _ _ _ h e
      rw [FR.put0 (f := pf g 0 (-1) (-1) (-1)) rfl]
      exact fn1 hL hr hs (Nat.le_trans hm (Nat.le_trans (Nat.le_add_right _ _) P1.p)) P1.i hj hk (tyP_ext P1.e P1.i.l' hg) hp (fun x s' e => hok x s' (by rw [eD]; exact e)) (fun e => hx (by rw [eD]; exact e))
    · have eD : D0 L rec g s = D1 L rec g x s' := by unfold D0; rw [eR, e]; rfl
      obtain ⟨P1, _⟩ := hr _ _ _ _ _ h e
      exact hx (by rw [eD]; exact D1_void hr P1.i (fun N' h1 h2 u => void_pa h1 h2 v0 v1 u))
end
section
variable {L : List Int32} {Q : IM → Prop} {z : MS} {K : List FR} {s : RS} {j k : Nat} {rec : RS → Ex (Int32 × RS)}
theorem typ_step (hL : LOk L) (hr : RI L rec) {m : Nat} (hs : SimT L z rec (m + 1)) (hm : m ≤ s.2.2) (h : Iv L j k s) (hj : K.length ≤ j) (hk : K.length ≤ k) (hO : KO s.1 K) (hc : ¬ K = [] ∨ 0 ≤ z.b)
    (hok : ∀ x s', rTyB L rec s = .inr (x, s') → Ok L Q (x, rs z s' K)) (hx : (∃ n, rTyB L rec s = .inl n) → BQ L Q) : Ok L Q (-1, rs z s K) := by
  have hKp : K.length ≤ s.2.2 := by have := h.tl; omega
  have g : Gd L (rs z s K) := h.gd hKp hO.fo
  have PC : ∀ {c : Int32}, ¬ c = 0 → ¬ c = -1 → (pk L (rs z s K) = c) = (nxt L s = c) := fun h0 h1 => pkc hL s h0 h1
  -- in all untold cases the whole comes into the table
  by_cases w78 : nxt L s = 78
  · have eU : rTyB L rec s = bnd (rNest L rec s) fun q => .inr (q.1, tad q.2 q.1) := by
      unfold rTyB rUnt rScop
      rw [if_pos (by rw [w78]; decide), if_neg (by rw [w78]; decide), if_neg (by rw [w78]; decide), if_neg (by rw [w78]; decide), if_neg (by rw [w78]; decide), if_neg (by rw [w78]; decide), if_neg (by rw [w78]; decide), if_pos w78]
    refine ok_nest rfl (show (-1 : Int32) < 0 by decide) g (by show pk L (rs z s K) = 78; rw [PC (by decide) (by decide)]; exact w78) ?_
    refine sim_nest hL hr hs (Nat.succ_le_succ hm) h hj hk w78 (fun x s' e => ?_) (fun ⟨n, e⟩ => hx ⟨n, by rw [eU, e]; rfl⟩)
    obtain ⟨P1, c⟩ := PX.nest hr h e
    rw [mXt_t hc, mEn_tad P1.i (k23 c).1 (k23 c).2]
    exact sok_ok rfl (hok x _ (by rw [eU, e]; rfl))
  · refine ok_rd rfl (show (-1 : Int32) < 0 by decide) g (by show ¬ pk L (rs z s K) = 78; rw [PC (by decide) (by decide)]; exact w78) ?_
    show SOk L Q (mRT L (rs z s K))
    unfold mRT
    rw [bol_pk hL]
    by_cases wb : bolF (nxt L s) = -1
    · rw [if_neg (by rw [wb]; decide)]
      by_cases w83 : nxt L s = 83
      · rw [if_pos (by rw [PC (by decide) (by decide)]; exact w83)]
        have eU : rTyB L rec s = rToT L rec s := by unfold rTyB; rw [if_pos wb, if_pos w83]
        have hT : s.2.1.length ≤ 1000 := by have := h.tl; have := h.p; have := h.m; omega
        cases e : rTold L s with
        | inl a =>
          have hw := mTold_x (z := z) (K := K) hL hT h.tv e
          refine sok_wr (hx ⟨a, by rw [eU]; unfold rToT; rw [e]; rfl⟩) ?_
          unfold mRS
          rw [if_neg (fun u => by rw [hw] at u; cases u.1)]; exact hw
        | inr q =>
          rw [mTold_ok (x := q.1) (s' := q.2) hL hT e]
          obtain ⟨P1, t1, t2, en, _⟩ := PX.told (x := q.1) (s' := q.2) h e
          have eT : rToT L rec s = if nxt L q.2 = 73 then (if kN q.2.1 q.1 = 1 then bnd (rFill L rec q.1 q.2) fun z => .inr (z.1, tad z.2 z.1) else .inl 0) else .inr q := by unfold rToT; rw [e]; rfl
          have hO' : KO q.2.1 K := hO.ext P1.e P1.i.l'
          unfold mRS
          by_cases v : nxt L q.2 = 73
          · rw [if_pos v] at eT
            have pv : pk L (rs z q.2 K) = 73 := by rw [pkc hL _ (by decide) (by decide)]; exact v
            by_cases v1 : kN q.2.1 q.1 = 1
            · rw [if_pos v1] at eT
              rw [if_pos ⟨rfl, v1, pv⟩]
              refine sim_fill hL hr hs (by have := P1.p; omega) P1.i (by omega) (by omega) (Or.inl v1) (fun x s' e2 => ?_) (fun ⟨n, e2⟩ => hx ⟨n, by rw [eU, eT, e2]; rfl⟩)
              obtain ⟨P2, c, _, _⟩ := PX.fill hr P1.i e2
              rw [mFl2_t (hO'.ext P2.e P2.i.l') hc, mEn_tad P2.i (k13 (Or.inr (Or.inr c))).1 (k13 (Or.inr (Or.inr c))).2]
              exact sok_ok rfl (hok x _ (by rw [eU, eT, e2]; rfl))
            · rw [if_neg v1] at eT
              rw [if_neg (fun u => v1 u.2.1)]
              have i1 := P1.i.nl; have i2 := P1.i.tl; have i3 := P1.i.p; have i4 := P1.i.m
              exact sok_ok rfl (doom (hx ⟨0, by rw [eU, eT]⟩) K (rs z q.2 K) q.1 rfl rfl rfl pv P1.i.w t1 hO' (by show q.2.1.length + K.length ≤ 180; omega) (by show q.2.2.1.length + K.length ≤ 250; omega) i3 i4 (fun x hx => ty_vd P1.i.l' (P1.i.t x hx).1))
          · rw [if_neg v] at eT
            have pv : ¬ pk L (rs z q.2 K) = 73 := by rw [pkc hL _ (by decide) (by decide)]; exact v
            rw [if_neg (fun u => pv u.2.2)]
            exact sok_ok rfl (hok q.1 q.2 (by rw [eU, eT]))
      · rw [if_neg (by rw [PC (by decide) (by decide)]; exact w83)]
        have eU : rTyB L rec s = bnd (rUnt L rec s) fun q => .inr (q.1, tad q.2 q.1) := by unfold rTyB; rw [if_pos wb, if_neg w83]
        have hpz := pk_zf hL (rs z s K) s rfl
        by_cases wd : dgP (nxt L s)
        · have hd : nxt L s = pk L (rs z s K) := by
            rw [hpz]; unfold zf
            rw [if_neg (fun e => by rw [e] at wd; exact absurd wd.1 (by decide))]
          rw [if_pos (by rw [← hd]; exact wd)]
          have lo : ∀ c : Int32, ¬ dgP c → ¬ nxt L s = c := fun c hc e => hc (e ▸ wd)
          have eS : rUnt L rec s = bnd (rId L s) fun q => bnd (lft (aName q.2.1 q.1) q.2) fun n => if nxt L n.2 = 73 then rFill L rec n.1 (tad n.2 n.1) else .inr n := by
            unfold rUnt rScop
            rw [if_neg (lo 80 (by decide)), if_neg (lo 82 (by decide)), if_neg (lo 75 (by decide)), if_neg (lo 65 (by decide)), if_neg (lo 70 (by decide)), if_neg w78]
          cases e : rId L s with
          | inl a =>
            have hw := mId_x (z := z) (K := K) hL e
            refine sok_wr (hx ⟨a, by rw [eU, eS, e]; rfl⟩) ?_
            have hw2 : (mNm (mId L (rs z s K)).1 (mId L (rs z s K)).2).2.wr = true := by
              show (mMk _ _ _ _ _ _ _ _).2.wr = true
              rw [mMk_w hw]; exact hw
            unfold mRD eQ
            rw [if_neg (fun u => by have u2 : (mNm (mId L (rs z s K)).1 (mId L (rs z s K)).2).2.wr = false := u.2; rw [hw2] at u2; cases u2)]
            exact hw2
          | inr q =>
            rw [mId_ok (x := q.1) (s' := q.2) hL e]
            obtain ⟨P1, hi⟩ := PX.id (x := q.1) (s' := q.2) h e
            obtain ⟨r, ea, eb⟩ := mNm_ok (z := z) (K := K) P1.i hi
            have o := aName_ao P1.i.w ea
            have P2 := PX.ao P1.i o
            have ty := o.ty (by decide); have k0 := o.k0 (by decide)
            obtain ⟨i3, e3⟩ := P2.i.td ty k0
            show SOk L Q (mRD L (eQ (mNm q.1 (rs z q.2 K))))
            rw [eb]
            have eq1 : eQ (r.1, rs z (r.2, q.2.2) K) = (r.1, rs z (tad (r.2, q.2.2) r.1) K) := by unfold eQ; show (r.1, mEn (rs z (r.2, q.2.2) K) r.1) = _; rw [mEn_tad P2.i ty k0]
            rw [eq1]
            have eS2 : rUnt L rec s = if nxt L (r.2, q.2.2) = 73 then rFill L rec r.1 (tad (r.2, q.2.2) r.1) else .inr (r.1, r.2, q.2.2) := by rw [eS, e, bnd_i, ea]; rfl
            have hO' : KO r.2 K := (hO.ext P1.e P1.i.l').ext P2.e P2.i.l'
            unfold mRD
            by_cases v : nxt L (r.2, q.2.2) = 73
            · rw [if_pos v] at eS2
              have pv : pk L (rs z (tad (r.2, q.2.2) r.1) K) = 73 := by rw [pkc hL _ (by decide) (by decide)]; exact v
              rw [if_pos ⟨pv, rfl⟩]
              refine sim_fill hL hr hs (by have := P1.p; show m + 1 ≤ q.2.2.2 + 1; omega) i3 (by omega) (by omega) (Or.inl o.c0) (fun x s' e2 => ?_) (fun ⟨n, e2⟩ => hx ⟨n, by rw [eU, eS2, e2]; rfl⟩)
              obtain ⟨P3, c, _, _⟩ := PX.fill hr i3 e2
              rw [mFl2_t (hO'.ext P3.e P3.i.l') hc, mEn_tad (P3.i.le (j' := j + 1) (k' := k) (by omega) (by omega)) (k13 (Or.inr (Or.inr c))).1 (k13 (Or.inr (Or.inr c))).2]
              exact sok_ok rfl (hok x _ (by rw [eU, eS2, e2]; rfl))
            · rw [if_neg v] at eS2
              have pv : ¬ pk L (rs z (tad (r.2, q.2.2) r.1) K) = 73 := by rw [pkc hL _ (by decide) (by decide)]; exact v
              rw [if_neg (fun u => pv u.1)]
              exact sok_ok rfl (hok r.1 _ (by rw [eU, eS2]; rfl))
        · rw [if_neg (by
            rw [hpz]; unfold zf
            by_cases e : nxt L s = -1
            · rw [if_pos e]; decide
            · rw [if_neg e]; exact wd)]
          have es : mAv (rs z s K) 1 = rs z (adv s) K := rfl
          rw [es]
          by_cases w65 : nxt L s = 65
          · rw [if_pos (by rw [PC (by decide) (by decide)]; exact w65)]
            have P1 := PX.ad h (by decide) w65
            have eS : rUnt L rec s = bnd (rNum L 10 3 (adv s)) fun n => bnd (rPass L 95 n.2) fun s3 => bnd (rec s3) fun q => lft (aArray q.2.1 q.1 n.1) q.2 := by
              unfold rUnt rArr
              rw [if_neg (by rw [w65]; decide), if_neg (by rw [w65]; decide), if_neg (by rw [w65]; decide), if_pos w65, show rPass L 65 s = .inr (adv s) from if_pos w65]
              rfl
            by_cases hd : ∀ v s', rNum L 10 3 (adv s) = .inr (v, s') → ¬ digF (nxt L s') 10 = -1
            · refine sok_wr (hx ?_) ?_
              · rw [eU, eS]
                apply ex_bnd
                cases e : rNum L 10 3 (adv s) with
                | inl a => exact ⟨a, rfl⟩
                | inr q =>
                  refine ⟨0, ?_⟩
                  have := hd q.1 q.2 e
                  rw [bnd_i, show rPass L 95 q.2 = .inl 0 from if_neg (fun u => this (by rw [u]; decide))]
                  rfl
              · unfold mRA
                simp [mOr_wr, mEx_wr, mAv_wr, mEn_wr, mBe_wr, mK_wr, mWr_wr, mNum_x hL hd]
            · have ⟨v, hd⟩ := Classical.not_forall.mp hd
              have ⟨s1, hd⟩ := Classical.not_forall.mp hd
              have ⟨h1, hd⟩ := Classical.not_imp.mp hd
              have hd := Classical.not_not.mp hd
              rw [mNum_ok hL h1 hd]
              have P2 := PX.num (v := v) (s' := s1) P1.i h1
              have eS2 : rUnt L rec s = bnd (rPass L 95 s1) fun s3 => bnd (rec s3) fun q => lft (aArray q.2.1 q.1 v) q.2 := by rw [eS, h1]; rfl
              unfold mRA
              by_cases wv : v < 1
              · refine sok_wr (hx ?_) (by simp [mOr_wr, mEx_wr, mAv_wr, mEn_wr, mBe_wr, mK_wr, mWr_wr, wv])
                rw [eU, eS2]
                apply ex_bnd
                cases e : rPass L 95 s1 with
                | inl a => exact ⟨a, rfl⟩
                | inr s3 =>
                  rw [bnd_i]
                  cases e2 : rec s3 with
                  | inl a => exact ⟨a, rfl⟩
                  | inr q =>
                    refine ⟨0, ?_⟩
                    rw [bnd_i]
                    unfold aArray
                    rw [if_neg (fun u => u.2.1 wv)]
                    rfl
              · have ew : mOr (rs z s1 K) (decide (v < 1)) = rs z s1 K := by rw [decide_eq_false wv]; rfl
                show SOk L Q (-1, mBe 7 7 v (mEx L 95 (mOr (rs z s1 K) (decide (v < 1)))))
                rw [ew]
                by_cases w95 : nxt L s1 = 95
                · rw [mEx_ok hL (by decide) (by decide) w95]
                  have P3 := PX.ad P2.i (by decide) w95
                  have eS3 : rUnt L rec s = bnd (rec (adv s1)) fun q => lft (aArray q.2.1 q.1 v) q.2 := by rw [eS2, show rPass L 95 s1 = .inr (adv s1) from if_pos w95]; rfl
                  obtain ⟨b, eb, hb⟩ := num_le (by omega) h1
                  have hv9 : v ≤ 999 := by
                    have : 10 ^ 3 = 1000 := by decide
                    rw [eb, show (999 : Int32) = nI 999 from by decide]; exact nI_le (by omega) (by omega)
                  have hq := P1.p; have hq2 := P2.p; have hq3 := P3.p
                  refine sok_ok rfl (wrap_sim (K := K) (j := j + 2) (k := k + 2) hr hs (by omega) (fun N x => aArray N x v) P3.i (by omega) (by omega) (hO.ext (P1.e.trans (P2.e.trans P3.e)) P3.i.l') (Or.inl ⟨rfl, wv, hv9⟩) (fun N x hx => ?_) (fun x s' e => hok x _ (by rw [eU, eS3, e]; rfl)) (fun ⟨n, e⟩ => hx ⟨n, by rw [eU, eS3, e]; rfl⟩))
                  rw [if_neg (fun u => absurd u.1 (by decide)), if_pos rfl]
                  exact if_pos ⟨hx, wv, hv9⟩
                · refine sok_wr (hx ⟨0, ?_⟩) (mEx_x hL (by decide) (by decide) w95)
                  rw [eU, eS2, show rPass L 95 s1 = .inl 0 from if_neg w95]
                  rfl
          · rw [if_neg (by rw [PC (by decide) (by decide)]; exact w65)]
            by_cases w70 : nxt L s = 70
            · rw [if_pos (by rw [PC (by decide) (by decide)]; exact w70)]
              have P1 := PX.ad h (by decide) w70
              have eS : rUnt L rec s = bnd (rec (adv s)) fun g => D0 L rec g.1 g.2 := by
                unfold rUnt rFun
                rw [if_neg (by rw [w70]; decide), if_neg (by rw [w70]; decide), if_neg (by rw [w70]; decide), if_neg (by rw [w70]; decide), if_pos w70, show rPass L 70 s = .inr (adv s) from if_pos w70]
                rfl
              have fo : FO (adv s).1 (pf (-1) (-1) (-1) (-1) (-1)) := Or.inr (Or.inr (Or.inl ⟨rfl, no_vo _, Or.inl rfl, no_vo _, no_vo _, no_vo _⟩))
              refine sok_ok rfl (hs Q (j + 1) (k + 1) (adv s) (pf (-1) (-1) (-1) (-1) (-1) :: K) (Nat.succ_le_succ hm) P1.i (by simpa using hj) (by simpa using hk) ⟨fo, Or.inr (Or.inr rfl)⟩ (Or.inl (fun e => by cases e)) (fun x s' e => ?_) (fun ⟨n, e⟩ => hx ⟨n, by rw [eU, eS, e]; rfl⟩))
              obtain ⟨P2, ht⟩ := hr _ _ _ _ _ P1.i e
              have hV := ty_vd P2.i.l' ht
              refine ok_tk rfl (hV.ne P2.i.l').1 (fun v => by cases v) (P2.i.gd (by have := P2.i.tl; simp [mOr_wr, mEx_wr, mAv_wr, mEn_wr, mBe_wr, mK_wr, mWr_wr]; omega) (fun f' K' e => by cases e; exact fo.ext P2.e P2.i.l')) hV (fun f' K' e => by cases e; show ¬ (6 : Int32) = 8; decide) ?_
              have e1 : mTk L x (rs z s' (pf (-1) (-1) (-1) (-1) (-1) :: K)) = mTk3 L (pf x 0 (-1) (-1) (-1)) K (rs z s' (pf x 0 (-1) (-1) (-1) :: K)) := by
                rw [mTk_c rfl, if_neg (show ¬ (6 : Int32) = 7 by decide), if_neg (show ¬ (6 : Int32) = 4 by decide)]
                exact if_pos (show (-1 : Int32) < 0 by decide)
              show SOk L Q (mTk L x (rs z s' (pf (-1) (-1) (-1) (-1) (-1) :: K)))
              rw [e1]
              have hq := P1.p; have hq2 := P2.p
              have eS2 : rUnt L rec s = D0 L rec x s' := by rw [eS, e]; rfl
              exact fn0 hL hr hs (by omega) P2.i (by omega) (by omega) ht (fun x s' e => hok x _ (by rw [eU, eS2, e]; rfl)) (fun ⟨n, e⟩ => hx ⟨n, by rw [eU, eS2, e]; rfl⟩)
            · rw [if_neg (by rw [PC (by decide) (by decide)]; exact w70)]
              have wrapc : ∀ (c o : Int32), nxt L s = c → ¬ c = -1 → (o = 4 ∨ o = 5 ∨ o = 6) → rUnt L rec s = rWrap rec o s → SOk L Q (-1, rs z (adv s) (⟨7, o, 0, -1, -1, -1⟩ :: K)) := by
                intro c o hc' hc1 ho eS
                have P1 := PX.ad h hc1 hc'
                have n7 : ¬ o = 7 := by rcases ho with ho | ho | ho <;> rw [ho] <;> decide
                refine sok_ok rfl (wrap_sim (K := K) hr hs (Nat.succ_le_succ hm) (fun N x => aWrapped N o x) P1.i hj hk (hO.ext P1.e P1.i.l') (Or.inr ho) (fun N x hx => ?_) (fun x s' e => hok x _ (by rw [eU, eS]; unfold rWrap; rw [e]; rfl)) (fun ⟨n, e⟩ => hx ⟨n, by rw [eU, eS]; unfold rWrap; rw [e]; rfl⟩))
                rw [if_neg n7]
                unfold aWrapped
                by_cases u : o = 6 ∧ kN N x = 6
                · rw [if_pos u, if_neg (fun v => v.2.2 u)]
                · rw [if_neg u, if_pos ⟨ho, hx, u⟩]
              by_cases w80 : nxt L s = 80
              · have p80 : pk L (rs z s K) = 80 := by rw [PC (by decide) (by decide)]; exact w80
                rw [if_pos p80, decide_eq_false (fun u => u.1 p80)]
                exact wrapc 80 4 w80 (by decide) (by decide) (by unfold rUnt; rw [if_pos w80])
              · have p80 : ¬ pk L (rs z s K) = 80 := by rw [PC (by decide) (by decide)]; exact w80
                rw [if_neg p80]
                by_cases w82 : nxt L s = 82
                · have p82 : pk L (rs z s K) = 82 := by rw [PC (by decide) (by decide)]; exact w82
                  rw [if_pos p82, decide_eq_false (fun u => u.2.1 p82)]
                  exact wrapc 82 5 w82 (by decide) (by decide) (by unfold rUnt; rw [if_neg w80, if_pos w82])
                · have p82 : ¬ pk L (rs z s K) = 82 := by rw [PC (by decide) (by decide)]; exact w82
                  rw [if_neg p82]
                  by_cases w75 : nxt L s = 75
                  · have p75 : pk L (rs z s K) = 75 := by rw [PC (by decide) (by decide)]; exact w75
                    rw [decide_eq_false (fun u => u.2.2 p75)]
                    exact wrapc 75 6 w75 (by decide) (by decide) (by unfold rUnt; rw [if_neg w80, if_neg w82, if_pos w75])
                  · have p75 : ¬ pk L (rs z s K) = 75 := by rw [PC (by decide) (by decide)]; exact w75
                    refine sok_wr (hx ⟨0, ?_⟩) (by simp [mOr_wr, mEx_wr, mAv_wr, mEn_wr, mBe_wr, mK_wr, mWr_wr, p80, p82, p75])
                    rw [eU]
                    unfold rUnt rScop
                    rw [if_neg w80, if_neg w82, if_neg w75, if_neg w65, if_neg w70, if_neg w78, rId_nd (by rw [dg_10]; exact wd)]
                    rfl
    · rw [if_pos (bol_in wb).2.2]
      have P1 := PX.ad h (bol_ne wb) rfl
      have es : mAv (rs z s K) 1 = rs z (adv s) K := rfl
      rw [es]
      obtain ⟨q, ea, eb⟩ := mBi_ok (z := z) (K := K) P1.i wb
      rw [eb]
      exact sok_ok rfl (hok q.1 _ (by unfold rTyB; rw [if_neg wb, ea]; rfl))
/-- reading a type: the reference against the class, without a bound of levels -/
theorem sim_typ (hL : LOk L) (z : MS) (f : Nat) : ∀ m, L.length < f + m → SimT L z (rTyp L f) m := by
  induction f with
  | zero => intro m hf Q j k s K hm h; have := h.p; omega
  | succ f ih =>
    intro m hf Q j k s K hm h hj hk hO hc hok hx
    exact typ_step hL (PX.typ L f) (ih (m + 1) (by omega)) hm h hj hk hO hc hok hx
end
