/-! levels; entities read -/
/-! levels: what is nested deeper than the class reads is too deep as a node, too -/
def dp (N : List (List Int32)) (x : Int32) : Nat := (dN N x).toNatClampNeg
theorem dp_vo {N : List (List Int32)} (hW : WN N) {x : Int32} (h : Vo N x) : dN N x = nI (dp N x) ∧ dp N x ≤ 16 := by
  obtain ⟨e, e1, e2, _⟩ := dN_nat hW h
  unfold dp
  rw [e2, nI_clamp (by omega)]
  exact ⟨rfl, e1⟩
theorem dp_vd {N : List (List Int32)} (hW : WN N) {x : Int32} (h : Vd N x) : 1 ≤ dp N x := by
  obtain ⟨i, hi, rfl⟩ := h
  obtain ⟨e, e1, e2, e3⟩ := dep_nat hW i hi
  unfold dp dN
  rw [e3, show (0 : Int32) = nI 0 from by decide, mx_N (by omega) (by omega), nI_clamp (by omega)]
  omega
theorem dp_ext {N N' : List (List Int32)} (h : N <+: N') (hN : N'.length ≤ 1000) {x : Int32} (v : Vo N x) : dp N' x = dp N x := by unfold dp; rw [dN_ext h hN v]
theorem AO.dm {N : List (List Int32)} {k v f g a b c : Int32} {q : Int32 × List (List Int32)} (o : AO N k v f g a b c q) (hW : WN N) (hf : Vo N f) (hg : Vo N g) (ha : Vo N a) (hb : Vo N b) (hc : Vo N c) : dp N f < dp q.2 q.1 ∧ dp N g < dp q.2 q.1 ∧ dp N a < dp q.2 q.1 ∧ dp N b < dp q.2 q.1 ∧ dp N c < dp q.2 q.1 := by
  obtain ⟨f1, f2⟩ := dp_vo hW hf
  obtain ⟨g1, g2⟩ := dp_vo hW hg
  obtain ⟨a1, a2⟩ := dp_vo hW ha
  obtain ⟨b1, b2⟩ := dp_vo hW hb
  obtain ⟨c1, c2⟩ := dp_vo hW hc
  have hm : dmN N f g a b c = nI (max (max (dp N f) (dp N g)) (max (dp N a) (max (dp N b) (dp N c)))) := by
    unfold dmN
    rw [f1, g1, a1, b1, c1, mx_N (by omega) (by omega), mx_N (by omega) (by omega), mx_N (by omega) (by omega), mx_N (by omega) (by omega)]
  have h7 := o.c7
  rw [hm, nI_1] at h7
  have : dp q.2 q.1 = max (max (dp N f) (dp N g)) (max (dp N a) (max (dp N b) (dp N c))) + 1 := by
    show (dN q.2 q.1).toNatClampNeg = _
    unfold dN
    rw [h7, show (0 : Int32) = nI 0 from by decide, mx_N (by omega) (by omega), nI_clamp (by omega)]
    omega
  rw [this]
  omega
/-- the second is as the first, or it fails and the first gives what is not wanted -/
def XR {α : Type} (P : α → Prop) (a b : Ex α) : Prop := b = a ∨ ((∃ n, b = .inl n) ∧ ∀ y, a = .inr y → P y)
theorem XR.rfl' {α : Type} {P : α → Prop} {a : Ex α} : XR P a a := Or.inl rfl
theorem XR.bd {α β : Type} {P : α → Prop} {P' : β → Prop} {a b : Ex α} {f g : α → Ex β} (h : XR P a b) (h1 : ∀ y, a = .inr y → XR P' (f y) (g y)) (h2 : ∀ y z, a = .inr y → P y → f y = .inr z → P' z) : XR P' (bnd a f) (bnd b g) := by
  rcases h with rfl | ⟨⟨n, rfl⟩, h⟩
  · cases b with
    | inl n => exact Or.inl rfl
    | inr y => exact h1 y rfl
  · refine Or.inr ⟨⟨n, rfl⟩, fun z e => ?_⟩
    obtain ⟨y, e1, e2⟩ := bnd_inr e
    exact h2 y z e1 (h y e1) e2
theorem XR.same {α β : Type} {P' : β → Prop} {a : Ex α} {f g : α → Ex β} (h1 : ∀ y, a = .inr y → XR P' (f y) (g y)) : XR P' (bnd a f) (bnd a g) := XR.bd (P := fun _ => False) XR.rfl' h1 (fun _ _ _ h => h.elim)
theorem XR.ite {α : Type} {P : α → Prop} {c : Prop} [Decidable c] {a b a' b' : Ex α} (h1 : c → XR P a b) (h2 : ¬ c → XR P a' b') : XR P (if c then a else a') (if c then b else b') := by
  by_cases h : c
  · rw [if_pos h, if_pos h]; exact h1 h
  · rw [if_neg h, if_neg h]; exact h2 h
theorem XR.mono {α : Type} {P P' : α → Prop} {a b : Ex α} (h : XR P a b) (m : ∀ y, a = .inr y → P y → P' y) : XR P' a b := by
  rcases h with h | ⟨h1, h2⟩
  · exact Or.inl h
  · exact Or.inr ⟨h1, fun y e => m y e (h2 y e)⟩
section
variable {L : List Int32} {s : RS} {j k : Nat} {r1 r2 : RS → Ex (Int32 × RS)} {n : Nat}
abbrev gtD (n : Nat) : Int32 × RS → Prop := fun q => n < dp q.2.1 q.1
/-- the two readings of types, up to a depth -/
def LR (L : List Int32) (n : Nat) (r1 r2 : RS → Ex (Int32 × RS)) : Prop := ∀ (j k : Nat) (s : RS), Iv L j k s → XR (gtD n) (r1 s) (r2 s)
theorem C3_dp {f a b c x : Int32} {s' : RS} (h : Iv L j k s) (e : C3 L f a b c s = .inr (x, s')) : dp s.1 a < dp s'.1 x ∧ dp s.1 b < dp s'.1 x ∧ dp s.1 c < dp s'.1 x ∧ dp s.1 f < dp s'.1 x := by
  obtain ⟨s5, h1, e⟩ := bnd_inr e
  have P1 := PX.pass h (by decide) h1
  obtain ⟨_, rfl⟩ := rPass_ok h1
  obtain ⟨q, h2, rfl, rfl⟩ := lft_inr e
  obtain ⟨w, h3⟩ := if_inr h2
  have nk : NK (adv s).1 3 0 f (-1) a b c := .fl w.1 w.2.1 w.2.2.1 w.2.2.2
  obtain ⟨v1, v2, v3, v4, v5⟩ := nk.vo P1.i.l'
  obtain ⟨d1, d2, d3, d4, d5⟩ := (addN_ao P1.i.w nk h3).dm P1.i.w v1 v2 v3 v4 v5
  exact ⟨d3, d4, d5, d1⟩
theorem XR.arg (hr1 : RI L r1) (h : Iv L j k s) (hl : LR L n r1 r2) : XR (gtD n) (rArg L r1 s) (rArg L r2 s) := XR.ite (fun _ => XR.rfl') (fun _ => hl j k s h)
theorem XR.arg' (hr1 : RI L r1) (h : Iv L j k s) (hl : LR L n r1 r2) : XR (gtD n) (rArg' L r1 s) (rArg' L r2 s) := XR.ite (fun _ => XR.rfl') (fun _ => XR.arg hr1 h hl)
theorem arg_vo (hr1 : RI L r1) {x : Int32} {s' : RS} (h : Iv L j k s) (e : rArg L r1 s = .inr (x, s')) : PX L j k 1 s s' ∧ Vo s'.1 x := by
  obtain ⟨P, a⟩ := PX.arg hr1 h e
  exact ⟨P, ar_vo P.i.l' a⟩
theorem arg'_vo (hr1 : RI L r1) {x : Int32} {s' : RS} (h : Iv L j k s) (e : rArg' L r1 s = .inr (x, s')) : PX L j k 0 s s' ∧ Vo s'.1 x := by
  obtain ⟨P, a⟩ := PX.arg' hr1 h e
  exact ⟨P, a.elim Or.inl (ar_vo P.i.l')⟩
theorem C2_dp (hr1 : RI L r1) {f a b x : Int32} {s' : RS} (h : Iv L j k s) (ha : Vo s.1 a) (hb : Vo s.1 b) (e : C2 L r1 f a b s = .inr (x, s')) : dp s.1 a < dp s'.1 x ∧ dp s.1 b < dp s'.1 x := by
  obtain ⟨c, h1, e⟩ := bnd_inr e
  obtain ⟨P, vc⟩ := arg'_vo (x := c.1) (s' := c.2) hr1 h h1
  obtain ⟨d1, d2, d3, _⟩ := C3_dp P.i e
  rw [dp_ext P.e P.i.l' ha] at d1
  rw [dp_ext P.e P.i.l' hb] at d2
  exact ⟨d1, d2⟩
theorem C1_dp (hr1 : RI L r1) {f a x : Int32} {s' : RS} (h : Iv L j k s) (ha : Vo s.1 a) (e : C1 L r1 f a s = .inr (x, s')) : dp s.1 a < dp s'.1 x := by
  obtain ⟨b, h1, e⟩ := bnd_inr e
  obtain ⟨P, vb⟩ := arg'_vo (x := b.1) (s' := b.2) hr1 h h1
  obtain ⟨d1, _⟩ := C2_dp hr1 P.i (ha.ext P.e) vb e
  rwa [dp_ext P.e P.i.l' ha] at d1
theorem XR.fill (hr1 : RI L r1) (h : Iv L j k s) (hl : LR L n r1 r2) (f : Int32) : XR (gtD (n + 1)) (rFill L r1 f s) (rFill L r2 f s) := by
  rw [rFill_C, rFill_C]
  refine XR.same (fun s1 e1 => ?_)
  have P1 := PX.pass h (by decide) e1
  refine XR.bd (XR.arg hr1 P1.i hl) (fun a e2 => ?_) (fun a x e2 g e => ?_)
  · obtain ⟨P2, va⟩ := arg_vo (x := a.1) (s' := a.2) hr1 P1.i e2
    refine XR.bd (XR.arg' hr1 P2.i hl) (fun b e3 => ?_) (fun b x e3 g e => ?_)
    · obtain ⟨P3, vb⟩ := arg'_vo (x := b.1) (s' := b.2) hr1 P2.i e3
      refine XR.bd (XR.arg' hr1 P3.i hl) (fun c e4 => XR.rfl') (fun c x e4 g e => ?_)
      obtain ⟨P4, vc⟩ := arg'_vo (x := c.1) (s' := c.2) hr1 P3.i e4
      have := (C3_dp (x := x.1) (s' := x.2) P4.i e).2.2.1
      exact Nat.lt_of_le_of_lt (show n + 1 ≤ dp c.2.1 c.1 from g) this
    · obtain ⟨P3, vb⟩ := arg'_vo (x := b.1) (s' := b.2) hr1 P2.i e3
      exact Nat.lt_of_le_of_lt (show n + 1 ≤ dp b.2.1 b.1 from g) (C2_dp (x := x.1) (s' := x.2) hr1 P3.i (va.ext P3.e) vb e).2
  · obtain ⟨P2, va⟩ := arg_vo (x := a.1) (s' := a.2) hr1 P1.i e2
    exact Nat.lt_of_le_of_lt (show n + 1 ≤ dp a.2.1 a.1 from g) (C1_dp (x := x.1) (s' := x.2) hr1 P2.i va e)
theorem fill_dp (hr1 : RI L r1) {f x : Int32} {s' : RS} (h : Iv L j k s) (hf : Vo s.1 f) (e : rFill L r1 f s = .inr (x, s')) : dp s.1 f < dp s'.1 x := by
  rw [rFill_C] at e
  obtain ⟨s1, h1, e⟩ := bnd_inr e
  have P1 := PX.pass h (by decide) h1
  obtain ⟨a, h2, e⟩ := bnd_inr e
  obtain ⟨P2, va⟩ := arg_vo (x := a.1) (s' := a.2) hr1 P1.i h2
  obtain ⟨b, h3, e⟩ := bnd_inr e
  obtain ⟨P3, vb⟩ := arg'_vo (x := b.1) (s' := b.2) hr1 P2.i h3
  obtain ⟨c, h4, e⟩ := bnd_inr e
  obtain ⟨P4, vc⟩ := arg'_vo (x := c.1) (s' := c.2) hr1 P3.i h4
  have := (C3_dp P4.i e).2.2.2
  rwa [dp_ext (P1.e.trans (P2.e.trans (P3.e.trans P4.e))) P4.i.l' hf] at this
theorem XR.step (hr1 : RI L r1) (h : Iv L j k s) (hl : LR L n r1 r2) (f : Int32) : XR (gtD (n + 1)) (rStep L r1 f s) (rStep L r2 f s) := XR.ite (fun _ => XR.fill hr1 h hl f) (fun _ => XR.rfl')
theorem step_dp (hr1 : RI L r1) {f x : Int32} {s' : RS} (h : Iv L j k s) (hf : Vo s.1 f) (e : rStep L r1 f s = .inr (x, s')) : dp s.1 f < dp s'.1 x := by
  unfold rStep at e
  by_cases w : nxt L s = 73
  · rw [if_pos w] at e; exact fill_dp hr1 h hf e
  · rw [if_neg w] at e
    obtain ⟨q, h1, e⟩ := bnd_inr e
    obtain ⟨P1, hi⟩ := PX.id (x := q.1) (s' := q.2) h h1
    obtain ⟨r, h3, rfl, rfl⟩ := lft_inr e
    obtain ⟨w, h4⟩ := if_inr h3
    have nk : NK q.2.1 2 q.1 f (-1) (-1) (-1) (-1) := .mb w.1 w.2
    obtain ⟨v1, v2, v3, v4, v5⟩ := nk.vo P1.i.l'
    have := ((addN_ao P1.i.w nk h4).dm P1.i.w v1 v2 v3 v4 v5).1
    rwa [dp_ext P1.e P1.i.l' hf] at this
theorem steps_dp (hr1 : RI L r1) (m : Nat) : ∀ {f x : Int32} {s s' : RS}, Iv L (j + 1) k s → (kN s.1 f = 2 ∨ kN s.1 f = 3) → rSteps L r1 m f s = .inr (x, s') → dp s.1 f ≤ dp s'.1 x := by
  induction m with
  | zero => intro f x s s' h hk e; cases e; exact Nat.le_refl _
  | succ m ih =>
    intro f x s s' h hk e
    have e : (if nxt L s = 69 then .inr (f, s) else bnd (rStep L r1 f (tad s f)) fun q => rSteps L r1 m q.1 q.2) = .inr (x, s') := e
    by_cases w : nxt L s = 69
    · rw [if_pos w] at e; cases e; exact Nat.le_refl _
    · rw [if_neg w] at e
      obtain ⟨q, h1, e⟩ := bnd_inr e
      have P0 := PX.td h (k23 hk).1 (k23 hk).2
      obtain ⟨P1, a, _⟩ := PX.step (x := q.1) (s' := q.2) hr1 P0.i h1
      have d1 := step_dp (x := q.1) (s' := q.2) hr1 P0.i (Or.inr (pf_vd h.l' (k23_pf hk))) h1
      have d2 := ih (P1.i.le (by omega) (by omega)) a e
      exact Nat.le_trans (Nat.le_of_lt d1) d2
theorem XR.steps (hr1 : RI L r1) (hl : LR L n r1 r2) (m : Nat) : ∀ {f : Int32} {s : RS}, Iv L (j + 1) k s → (kN s.1 f = 2 ∨ kN s.1 f = 3) → XR (gtD (n + 1)) (rSteps L r1 m f s) (rSteps L r2 m f s) := by
  induction m with
  | zero => intro f s _ _; exact XR.rfl'
  | succ m ih =>
    intro f s h hk
    refine XR.ite (fun _ => XR.rfl') (fun _ => ?_)
    have P0 := PX.td h (k23 hk).1 (k23 hk).2
    refine XR.bd (XR.step hr1 P0.i hl f) (fun q e => ?_) (fun q x e g e2 => ?_)
    · obtain ⟨P1, a, _⟩ := PX.step (x := q.1) (s' := q.2) hr1 P0.i e
      exact ih (P1.i.le (by omega) (by omega)) a
    · obtain ⟨P1, a, _⟩ := PX.step (x := q.1) (s' := q.2) hr1 P0.i e
      exact Nat.lt_of_lt_of_le g (steps_dp (j := j) (k := k) (x := x.1) (s' := x.2) hr1 m (P1.i.le (by omega) (by omega)) a e2)
theorem CE_dp {c x : Int32 × RS} (e : CE L c = .inr x) : dp c.2.1 c.1 = dp x.2.1 x.1 := by
  obtain ⟨s5, h1, e⟩ := bnd_inr e
  obtain ⟨_, rfl⟩ := rPass_ok h1
  obtain ⟨_, e⟩ := if_inr e
  cases e; rfl
theorem XR.nest (hr1 : RI L r1) (h : Iv L j k s) (hl : LR L n r1 r2) : XR (gtD (n + 1)) (rNest L r1 s) (rNest L r2 s) := by
  refine XR.same (fun s1 e1 => ?_)
  have P1 := PX.pass h (by decide) e1
  refine XR.same (fun a e2 => ?_)
  obtain ⟨P2, _, _⟩ := PX.start (x := a.1) (s' := a.2) P1.i e2
  refine XR.bd (XR.step hr1 P2.i hl a.1) (fun b e3 => ?_) (fun b x e3 g e => ?_)
  · obtain ⟨P3, kb, _⟩ := PX.step (x := b.1) (s' := b.2) hr1 P2.i e3
    refine XR.bd (XR.steps hr1 hl 119 (P3.i.le (j' := j + 1) (k' := k) (by omega) (by omega)) kb) (fun c e4 => XR.rfl') (fun c x e4 g e => ?_)
    show n + 1 < dp x.2.1 x.1
    rw [← CE_dp (c := c) (x := x) e]; exact g
  · obtain ⟨P3, kb, _⟩ := PX.step (x := b.1) (s' := b.2) hr1 P2.i e3
    obtain ⟨c, e4, e⟩ := bnd_inr e
    have d := steps_dp (x := c.1) (s' := c.2) hr1 119 (P3.i.le (j' := j + 1) (k' := k) (by omega) (by omega)) kb e4
    show n + 1 < dp x.2.1 x.1
    rw [← CE_dp (c := c) (x := x) e]; exact Nat.lt_of_lt_of_le g d
theorem XR.scop (hr1 : RI L r1) (h : Iv L j k s) (hl : LR L n r1 r2) : XR (gtD (n + 1)) (rScop L r1 s) (rScop L r2 s) := by
  refine XR.ite (fun _ => XR.nest hr1 h hl) (fun _ => XR.same (fun q e1 => XR.same (fun m e2 => XR.ite (fun u => ?_) (fun _ => XR.rfl'))))
  obtain ⟨P1, hi⟩ := PX.id (x := q.1) (s' := q.2) h e1
  obtain ⟨r, h3, f1, f2⟩ := lft_inr (x := m.1) (s' := m.2) e2
  have o := aName_ao P1.i.w h3
  have P2 := PX.ao P1.i o
  rw [f1, f2]
  exact XR.fill hr1 (PX.td P2.i (o.ty (by decide)) (o.k0 (by decide))).i hl _
theorem XR.wrap (hr1 : RI L r1) (h : Iv L j k s) (hl : LR L n r1 r2) {c o : Int32} (hc : ¬ c = -1) (en : nxt L s = c) : XR (gtD (n + 1)) (rWrap r1 o s) (rWrap r2 o s) := by
  have P1 := PX.ad h hc en
  refine XR.bd (hl _ _ _ P1.i) (fun q e => XR.rfl') (fun q x e g e2 => ?_)
  obtain ⟨P2, ht⟩ := hr1 _ _ _ q.1 q.2 P1.i e
  obtain ⟨r, h3, f1, f2⟩ := lft_inr (x := x.1) (s' := x.2) e2
  obtain ⟨w, h4⟩ := if_inr h3
  have nk : NK q.2.1 o 0 q.1 (-1) (-1) (-1) (-1) := .wp w.1 w.2.1 w.2.2
  obtain ⟨v1, v2, v3, v4, v5⟩ := nk.vo P2.i.l'
  have := ((addN_ao P2.i.w nk h4).dm P2.i.w v1 v2 v3 v4 v5).1
  show n + 1 < dp x.2.1 x.1
  rw [f1, f2]
  exact Nat.lt_of_le_of_lt (show n + 1 ≤ dp q.2.1 q.1 from g) this
theorem XR.arr (hr1 : RI L r1) (h : Iv L j k s) (hl : LR L n r1 r2) : XR (gtD (n + 1)) (rArr L r1 s) (rArr L r2 s) := by
  refine XR.same (fun s1 e1 => XR.same (fun m e2 => XR.same (fun s3 e3 => ?_)))
  have P1 := PX.pass h (by decide) e1
  have P2 := PX.num (v := m.1) (s' := m.2) P1.i e2
  have P3 := PX.pass P2.i (by decide) e3
  refine XR.bd (hl _ _ _ P3.i) (fun q e => XR.rfl') (fun q x e g e2 => ?_)
  obtain ⟨P4, ht⟩ := hr1 _ _ _ q.1 q.2 P3.i e
  obtain ⟨r, h3, f1, f2⟩ := lft_inr (x := x.1) (s' := x.2) e2
  obtain ⟨w, h4⟩ := if_inr h3
  have nk : NK q.2.1 7 m.1 q.1 (-1) (-1) (-1) (-1) := .ar w.1 w.2
  obtain ⟨v1, v2, v3, v4, v5⟩ := nk.vo P4.i.l'
  have := ((addN_ao P4.i.w nk h4).dm P4.i.w v1 v2 v3 v4 v5).1
  show n + 1 < dp x.2.1 x.1
  rw [f1, f2]
  exact Nat.lt_of_le_of_lt (show n + 1 ≤ dp q.2.1 q.1 from g) this
theorem first_vo (hr1 : RI L r1) {x : Int32} {s' : RS} (h : Iv L j k s) (e : rFirst L r1 s = .inr (x, s')) : PX L j k 1 s s' ∧ Vo s'.1 x := by
  obtain ⟨P, a⟩ := PX.first hr1 h e
  exact ⟨P, a.elim Or.inl (fun a => Or.inr (ty_vd P.i.l' a))⟩
theorem next_vo (hr1 : RI L r1) {x b c : Int32} {s' : RS} (h : Iv L j k s) (e : rNext L r1 b c s = .inr (x, s')) : PX L j k 0 s s' ∧ Vo s'.1 x := by
  obtain ⟨P, a⟩ := PX.next hr1 h e
  exact ⟨P, a.elim Or.inl (fun a => Or.inr (ty_vd P.i.l' a))⟩
theorem D3_dp {g a b c x : Int32} {s' : RS} (h : Iv L j k s) (e : D3 L g a b c s = .inr (x, s')) : dp s.1 g < dp s'.1 x ∧ dp s.1 a < dp s'.1 x ∧ dp s.1 b < dp s'.1 x ∧ dp s.1 c < dp s'.1 x := by
  obtain ⟨s5, h1, e⟩ := bnd_inr e
  have P1 := PX.pass h (by decide) h1
  obtain ⟨_, rfl⟩ := rPass_ok h1
  obtain ⟨q, h2, rfl, rfl⟩ := lft_inr e
  obtain ⟨w, h3⟩ := if_inr h2
  have nk : NK (adv s).1 8 0 g (-1) a b c := .fn w.1 w.2
  obtain ⟨v1, v2, v3, v4, v5⟩ := nk.vo P1.i.l'
  obtain ⟨d1, d2, d3, d4, d5⟩ := (addN_ao P1.i.w nk h3).dm P1.i.w v1 v2 v3 v4 v5
  exact ⟨d1, d3, d4, d5⟩
theorem D2_dp (hr1 : RI L r1) {g a b x : Int32} {s' : RS} (h : Iv L j k s) (hg : Vo s.1 g) (ha : Vo s.1 a) (hb : Vo s.1 b) (e : D2 L r1 g a b s = .inr (x, s')) : dp s.1 g < dp s'.1 x ∧ dp s.1 a < dp s'.1 x ∧ dp s.1 b < dp s'.1 x := by
  obtain ⟨c, h1, e⟩ := bnd_inr e
  obtain ⟨P, vc⟩ := next_vo (x := c.1) (s' := c.2) hr1 h h1
  obtain ⟨d1, d2, d3, _⟩ := D3_dp P.i e
  rw [dp_ext P.e P.i.l' hg] at d1
  rw [dp_ext P.e P.i.l' ha] at d2
  rw [dp_ext P.e P.i.l' hb] at d3
  exact ⟨d1, d2, d3⟩
theorem D1_dp (hr1 : RI L r1) {g a x : Int32} {s' : RS} (h : Iv L j k s) (hg : Vo s.1 g) (ha : Vo s.1 a) (e : D1 L r1 g a s = .inr (x, s')) : dp s.1 g < dp s'.1 x ∧ dp s.1 a < dp s'.1 x := by
  obtain ⟨b, h1, e⟩ := bnd_inr e
  obtain ⟨P, vb⟩ := next_vo (x := b.1) (s' := b.2) hr1 h h1
  obtain ⟨d1, d2, _⟩ := D2_dp hr1 P.i (hg.ext P.e) (ha.ext P.e) vb e
  rw [dp_ext P.e P.i.l' hg] at d1
  rw [dp_ext P.e P.i.l' ha] at d2
  exact ⟨d1, d2⟩
theorem D0_dp (hr1 : RI L r1) {g x : Int32} {s' : RS} (h : Iv L j k s) (hg : Vo s.1 g) (e : D0 L r1 g s = .inr (x, s')) : dp s.1 g < dp s'.1 x := by
  obtain ⟨a, h1, e⟩ := bnd_inr e
  obtain ⟨P, va⟩ := first_vo (x := a.1) (s' := a.2) hr1 h h1
  obtain ⟨d1, _⟩ := D1_dp hr1 P.i (hg.ext P.e) va e
  rwa [dp_ext P.e P.i.l' hg] at d1
theorem XR.first (h : Iv L j k s) (hl : LR L n r1 r2) : XR (gtD n) (rFirst L r1 s) (rFirst L r2 s) := XR.ite (fun _ => XR.rfl') (fun _ => hl j k s h)
theorem XR.next (h : Iv L j k s) (hl : LR L n r1 r2) (b c : Int32) : XR (gtD n) (rNext L r1 b c s) (rNext L r2 b c s) := XR.ite (fun _ => XR.rfl') (fun _ => hl j k s h)
theorem XR.fn (hr1 : RI L r1) (h : Iv L j k s) (hl : LR L n r1 r2) : XR (gtD (n + 1)) (rFun L r1 s) (rFun L r2 s) := by
  refine XR.same (fun s1 e1 => ?_)
  have P1 := PX.pass h (by decide) e1
  show XR _ (bnd (r1 s1) fun g => D0 L r1 g.1 g.2) (bnd (r2 s1) fun g => D0 L r2 g.1 g.2)
  refine XR.bd (hl _ _ _ P1.i) (fun g e => ?_) (fun g x e w e2 => ?_)
  · obtain ⟨P2, tg⟩ := hr1 _ _ _ g.1 g.2 P1.i e
    have vg : Vo g.2.1 g.1 := Or.inr (ty_vd P2.i.l' tg)
    refine XR.bd (XR.first P2.i hl) (fun a e3 => ?_) (fun a x e3 w e2 => ?_)
    · obtain ⟨P3, va⟩ := first_vo (x := a.1) (s' := a.2) hr1 P2.i e3
      refine XR.bd (XR.next P3.i hl a.1 69) (fun b e4 => ?_) (fun b x e4 w e2 => ?_)
      · obtain ⟨P4, vb⟩ := next_vo (x := b.1) (s' := b.2) hr1 P3.i e4
        refine XR.bd (XR.next P4.i hl b.1 69) (fun c e5 => XR.rfl') (fun c x e5 w e2 => ?_)
        obtain ⟨P5, vc⟩ := next_vo (x := c.1) (s' := c.2) hr1 P4.i e5
        exact Nat.lt_of_le_of_lt (show n + 1 ≤ dp c.2.1 c.1 from w) (D3_dp (x := x.1) (s' := x.2) P5.i e2).2.2.2
      · obtain ⟨P4, vb⟩ := next_vo (x := b.1) (s' := b.2) hr1 P3.i e4
        exact Nat.lt_of_le_of_lt (show n + 1 ≤ dp b.2.1 b.1 from w) (D2_dp (x := x.1) (s' := x.2) hr1 P4.i ((vg.ext P3.e).ext P4.e) (va.ext P4.e) vb e2).2.2
    · obtain ⟨P3, va⟩ := first_vo (x := a.1) (s' := a.2) hr1 P2.i e3
      exact Nat.lt_of_le_of_lt (show n + 1 ≤ dp a.2.1 a.1 from w) (D1_dp (x := x.1) (s' := x.2) hr1 P3.i (vg.ext P3.e) va e2).2
  · obtain ⟨P2, tg⟩ := hr1 _ _ _ g.1 g.2 P1.i e
    exact Nat.lt_of_le_of_lt (show n + 1 ≤ dp g.2.1 g.1 from w) (D0_dp (x := x.1) (s' := x.2) hr1 P2.i (Or.inr (ty_vd P2.i.l' tg)) e2)
theorem XR.unt (hr1 : RI L r1) (h : Iv L j k s) (hl : LR L n r1 r2) : XR (gtD (n + 1)) (rUnt L r1 s) (rUnt L r2 s) := by
  refine XR.ite (fun w => XR.wrap hr1 h hl (by decide) w) (fun _ => XR.ite (fun w => XR.wrap hr1 h hl (by decide) w) (fun _ => XR.ite (fun w => XR.wrap hr1 h hl (by decide) w) (fun _ => XR.ite (fun _ => XR.arr hr1 h hl) (fun _ => XR.ite (fun _ => XR.fn hr1 h hl) (fun _ => XR.scop hr1 h hl)))))
theorem tad_dp {x : Int32} : dp (tad s x).1 x = dp s.1 x := rfl
theorem LR.succ (hr1 : RI L r1) (hl : LR L n r1 r2) : LR L (n + 1) (rTyB L r1) (rTyB L r2) := by
  intro j k s h
  refine XR.ite (fun w => XR.ite (fun u => XR.same (fun q e => XR.ite (fun v => XR.ite (fun v1 => ?_) (fun _ => XR.rfl')) (fun _ => XR.rfl'))) (fun u => ?_)) (fun _ => XR.rfl')
  · obtain ⟨P1, _⟩ := PX.told (x := q.1) (s' := q.2) h e
    refine XR.bd (XR.fill hr1 P1.i hl q.1) (fun y e => XR.rfl') (fun y x e g e2 => ?_)
    cases e2; exact g
  · refine XR.bd (XR.unt hr1 h hl) (fun y e => XR.rfl') (fun y x e g e2 => ?_)
    cases e2; exact g
/-- the reading up to level n against that of any greater level -/
theorem lr_typ (L : List Int32) (n : Nat) : ∀ f, n ≤ f → LR L n (rTyp L f) (rTyp L n) := by
  induction n with
  | zero =>
    intro f _ j k s h
    refine Or.inr ⟨⟨0, rfl⟩, fun y e => ?_⟩
    obtain ⟨P, t⟩ := PX.typ L f _ _ _ y.1 y.2 h e
    exact dp_vd P.i.w (ty_vd P.i.l' t)
  | succ n ih =>
    intro f hf
    obtain ⟨f, rfl⟩ : ∃ g, f = g + 1 := ⟨f - 1, by omega⟩
    exact LR.succ (PX.typ L f) (ih f (by omega))
end
/-! the reference's reading of an entity -/
def SC (L : List Int32) (s : MS) (q : IM) : Prop := (pk L s = 78 ∧ ∃ r t, NN L (mBN L (mAv s 1)) r ∧ Sl L r t ∧ Lp L t q) ∨ (¬ pk L s = 78 ∧ ∃ t, (if pk L (mNm (mId L s).1 (mId L s).2).2 = 73 ∧ (mNm (mId L s).1 (mId L s).2).2.wr = false then Sl L (mBA L (mNm (mId L s).1 (mId L s).2).1 (mEn (mNm (mId L s).1 (mId L s).2).2 (mNm (mId L s).1 (mId L s).2).1)) t else t = mNm (mId L s).1 (mId L s).2) ∧ Lp L t q)
def mPw (m : Nat) (p : Int32) (s : MS) : Bool := s.wr || decide (m = 3 ∨ (cN s.N p 0 = 0 ∧ cN s.N p 1 = 0))
def mPar (m : Nat) (p : Int32) (s : MS) : MS := if m = 1 then (MS.u_q1 (MS.u_wr s (mPw m p s)) (if mPw m p s = true then -1 else p)) else if m = 2 then (MS.u_q2 (MS.u_wr s (mPw m p s)) (if mPw m p s = true then -1 else p)) else (MS.u_q0 (MS.u_wr s (mPw m p s)) (if mPw m p s = true then -1 else p))
def PL (L : List Int32) (m : Nat) (s s' : MS) : Prop := ∀ R : Nat → MS → MS → Prop, (∀ (m : Nat) (s : MS), (s.wr = true ∨ (¬ m = 0 ∧ ¬ s.p < L.length ∧ s.p ≤ 200)) → R m s s) → (∀ (m : Nat) (s s1 s2 : MS) (p : Int32), s.wr = false → (m = 0 ∨ s.p < L.length) → s.p ≤ 200 → m ≤ 3 → Lp L (-1, s) (p, s1) → (s1.wr = false → Vd s1.N p ∧ s1.N.length ≤ 200) → R (m + 1) (mPar m p s1) s2 → R m s s2) → R m s s'
theorem PL.stop {L : List Int32} {m : Nat} {s : MS} (h : s.wr = true ∨ (¬ m = 0 ∧ ¬ s.p < L.length ∧ s.p ≤ 200)) : PL L m s s := fun _ f _ => f m s h
theorem PL.step {L : List Int32} {m : Nat} {s s1 s2 : MS} {p : Int32} (h1 : s.wr = false) (h2 : m = 0 ∨ s.p < L.length) (h3 : s.p ≤ 200) (h4 : m ≤ 3) (h5 : Lp L (-1, s) (p, s1)) (h6 : s1.wr = false → Vd s1.N p ∧ s1.N.length ≤ 200) (h7 : PL L (m + 1) (mPar m p s1) s2) : PL L m s s2 := fun R f g => g m s s1 s2 p h1 h2 h3 h4 h5 h6 (h7 R f g)
theorem PL.ind {L : List Int32} {motive : (m : Nat) → (s s' : MS) → PL L m s s' → Prop} (stop : ∀ {m : Nat} {s : MS} (h : s.wr = true ∨ (¬ m = 0 ∧ ¬ s.p < L.length ∧ s.p ≤ 200)), motive m s s (PL.stop h)) (step : ∀ {m : Nat} {s s1 s2 : MS} {p : Int32} (h1 : s.wr = false) (h2 : m = 0 ∨ s.p < L.length) (h3 : s.p ≤ 200) (h4 : m ≤ 3) (h5 : Lp L (-1, s) (p, s1)) (h6 : s1.wr = false → Vd s1.N p ∧ s1.N.length ≤ 200) (h7 : PL L (m + 1) (mPar m p s1) s2) (_ : motive (m + 1) (mPar m p s1) s2 h7), motive m s s2 (PL.step h1 h2 h3 h4 h5 h6 h7)) {m : Nat} {s s' : MS} (h : PL L m s s') : motive m s s' h :=
  (h (fun m s s' => ∃ h : PL L m s s', motive m s s' h) (fun _ _ h => ⟨_, stop h⟩) (fun _ _ _ _ _ h1 h2 h3 h4 h5 h6 h7 => h7.elim fun h7 i => ⟨_, step h1 h2 h3 h4 h5 h6 h7 i⟩)).elim fun _ i => i
def RE2 (L : List Int32) (n g : Int32) (s : MS) (res : IM) : Prop := (s.wr = false → s.p ≤ 200) ∧ ∃ s5, (if s.wr = false ∧ pk L s = 118 then s5 = mAv s 1 else PL L 0 s s5) ∧ (s5.wr = false → s5.p ≤ 200) ∧ ((mOr s5 (decide (¬ s5.p = L.length))).wr = false → Vd s5.N n ∧ Vo s5.N g ∧ Vo s5.N s5.q0 ∧ Vo s5.N s5.q1 ∧ Vo s5.N s5.q2 ∧ s5.N.length ≤ 200) ∧ res = mMk 10 0 n g s5.q0 s5.q1 s5.q2 (mOr s5 (decide (¬ s5.p = L.length)))
def RE1 (L : List Int32) (n : Int32) (s : MS) (res : IM) : Prop := (s.wr = false ∧ cN s.N n 0 = 3 ∧ ∃ q, Lp L (-1, s) q ∧ RE2 L n q.1 q.2 res) ∨ (¬ (s.wr = false ∧ cN s.N n 0 = 3) ∧ RE2 L n (-1) s res)
def mB0 (s : MS) : MS := (MS.u_b s 0)
def RE (L : List Int32) (s : MS) (res : IM) : Prop := (s.wr = true ∧ RE1 L 0 (mB0 s) res) ∨ (s.wr = false ∧ Gd L s ∧ ∃ q, SC L s q ∧ (q.2.wr = false → Vd q.2.N q.1 ∧ q.2.N.length ≤ 200) ∧ RE1 L q.1 (mB0 q.2) res)
section
variable {L : List Int32} {Q : IM → Prop} {z : MS} {K : List FR} {s : RS} {j k : Nat} {rec : RS → Ex (Int32 × RS)}
theorem RE2_w {n g : Int32} {S : MS} (h : S.wr = true) : ∃ res, RE2 L n g S res ∧ res.2.wr = true := by
  have hw : (mOr S (decide (¬ S.p = L.length))).wr = true := by simp [mOr_wr, mEx_wr, mAv_wr, mEn_wr, mBe_wr, mK_wr, mWr_wr, h]
  refine ⟨_, ⟨fun w => (by rw [h] at w; cases w), S, ?_, fun w => (by rw [h] at w; cases w), fun w => (by rw [hw] at w; cases w), rfl⟩, ?_⟩
  · rw [if_neg (fun w => by rw [h] at w; cases w.1)]
    exact .stop (Or.inl h)
  · rw [mMk_w hw]; exact hw
theorem RE1_w {n : Int32} {S : MS} (h : S.wr = true) : ∃ res, RE1 L n S res ∧ res.2.wr = true := by
  obtain ⟨res, a, b⟩ := RE2_w (L := L) (n := n) (g := -1) h
  exact ⟨res, Or.inr ⟨fun w => (by rw [h] at w; cases w.1), a⟩, b⟩
/-- an I where a type begins: the rest ends wrong -/
theorem lp_I {S : MS} (hw : S.wr = false) (hn : S.ne = false) (hp : pk L S = 73) (g : Gd L S) : ∃ q, Lp L (-1, S) q ∧ q.2.wr = true := by
  obtain ⟨h1, h2⟩ := rt_I (S := S) hp
  exact ⟨mRT L S, .rd hw (show (-1 : Int32) < 0 by decide) g (.oth h1) (.fin (fun w => by rw [h2] at w; cases w.2)) (.fin (Or.inl h2)), h2⟩
theorem RE2_I {n g : Int32} {S : MS} (hw : S.wr = false) (hn : S.ne = false) (hp : pk L S = 73) (gd : Gd L S) : ∃ res, RE2 L n g S res ∧ res.2.wr = true := by
  obtain ⟨q, h1, h2⟩ := lp_I hw hn hp gd
  have hw2 : (mPar 0 q.1 q.2).wr = true := by
    unfold mPar mPw
    rw [if_neg (by decide), if_neg (by decide)]
    show (q.2.wr || _) = true
    rw [h2]; rfl
  have hw3 : (mOr (mPar 0 q.1 q.2) (decide (¬ (mPar 0 q.1 q.2).p = L.length))).wr = true := by simp [mOr_wr, mEx_wr, mAv_wr, mEn_wr, mBe_wr, mK_wr, mWr_wr, hw2]
  refine ⟨_, ⟨fun _ => (by have := gd.p; have := gd.l; omega), mPar 0 q.1 q.2, ?_, fun w => (by rw [hw2] at w; cases w), fun w => (by rw [hw3] at w; cases w), rfl⟩, ?_⟩
  · rw [if_neg (fun w => absurd (hp.symm.trans w.2) (by decide))]
    exact .step hw (Or.inl rfl) (by have := gd.p; have := gd.l; omega) (by omega) h1 (fun w => by rw [h2] at w; cases w) (.stop (Or.inl hw2))
  · rw [mMk_w hw3]; exact hw3
theorem RE1_I {n : Int32} {S : MS} (hw : S.wr = false) (hn : S.ne = false) (hp : pk L S = 73) (gd : Gd L S) : ∃ res, RE1 L n S res ∧ res.2.wr = true := by
  by_cases w : cN S.N n 0 = 3
  · obtain ⟨q, h1, h2⟩ := lp_I hw hn hp gd
    obtain ⟨res, a, b⟩ := RE2_w (L := L) (n := n) (g := q.1) h2
    exact ⟨res, Or.inl ⟨hw, w, q, h1, a⟩, b⟩
  · obtain ⟨res, a, b⟩ := RE2_I (n := n) (g := -1) hw hn hp gd
    exact ⟨res, Or.inr ⟨fun u => w u.2, a⟩, b⟩
/-- what is scoped, at the start of an entity -/
theorem sim_scop (hL : LOk L) (hr : RI L rec) {m : Nat} (hs : SimT L z rec m) (hm : m ≤ s.2.2 + 1) (h : Iv L j k s) (hb : z.b < 0)
    (hok : ∀ x s', rScop L rec s = .inr (x, s') → Q (x, rs z s' [])) (hx : (∃ n, rScop L rec s = .inl n) → BQ L Q) : ∃ q, SC L (rs z s []) q ∧ Q q := by
  have PC : ∀ {c : Int32}, ¬ c = 0 → ¬ c = -1 → (pk L (rs z s []) = c) = (nxt L s = c) := fun h0 h1 => pkc hL s h0 h1
  have hb0 : ¬ 0 ≤ z.b := Int32.not_le.mpr hb
  have fin : ∀ x s', Vd s'.1 x → s'.1.length ≤ 1000 → Q (x, rs z s' []) → Ok L Q (x, rs z s' []) := fun x s' hV hl hq => ⟨_, .fin (Or.inr ⟨(hV.ne hl).1, rfl⟩), hq⟩
  by_cases w78 : nxt L s = 78
  · have eU : rScop L rec s = rNest L rec s := if_pos w78
    have hN : NOk L Q (mBN L (mAv (rs z s []) 1)) := by
      refine sim_nest (K := []) hL hr hs hm h (Nat.zero_le _) (Nat.zero_le _) w78 (fun x s' e => ?_) (fun e => hx (by rw [eU]; exact e))
      obtain ⟨P1, c⟩ := PX.nest hr h e
      have e1 : mXt x (rs z s' []) = (x, rs z s' []) := if_neg (fun u => u.elim (fun u => u rfl) hb0)
      rw [e1]
      exact sok_ok rfl (fin x s' (pf_vd P1.i.l' (k23_pf c)) P1.i.l' (hok x s' (by rw [eU]; exact e)))
    obtain ⟨r, a, t, b, q, c, d⟩ := hN
    exact ⟨q, Or.inl ⟨by rw [PC (by decide) (by decide)]; exact w78, r, t, a, b, c⟩, d⟩
  · have eU : rScop L rec s = bnd (rId L s) fun q => bnd (lft (aName q.2.1 q.1) q.2) fun n => if nxt L n.2 = 73 then rFill L rec n.1 (tad n.2 n.1) else .inr n := if_neg w78
    have p78 : ¬ pk L (rs z s []) = 78 := by rw [PC (by decide) (by decide)]; exact w78
    cases e : rId L s with
    | inl a =>
      have hw := mId_x (z := z) (K := []) hL e
      have hw2 : (mNm (mId L (rs z s [])).1 (mId L (rs z s [])).2).2.wr = true := by
        show (mMk _ _ _ _ _ _ _ _).2.wr = true
        rw [mMk_w hw]; exact hw
      refine ⟨_, Or.inr ⟨p78, _, ?_, .fin (Or.inl hw2)⟩, hx ⟨a, by rw [eU, e]; rfl⟩ _ (Or.inl hw2)⟩
      rw [if_neg (fun u => by rw [hw2] at u; cases u.2)]
    | inr q =>
      have eI := mId_ok (z := z) (K := []) (x := q.1) (s' := q.2) hL e
      obtain ⟨P1, hi⟩ := PX.id (x := q.1) (s' := q.2) h e
      obtain ⟨r, ea, eb⟩ := mNm_ok (z := z) (K := []) P1.i hi
      have o := aName_ao P1.i.w ea
      have P2 := PX.ao P1.i o
      have ty := o.ty (by decide); have k0 := o.k0 (by decide)
      obtain ⟨i3, e3⟩ := P2.i.td ty k0
      have eM : mNm (mId L (rs z s [])).1 (mId L (rs z s [])).2 = (r.1, rs z (r.2, q.2.2) []) := by rw [eI]; exact eb
      have eS2 : rScop L rec s = if nxt L (r.2, q.2.2) = 73 then rFill L rec r.1 (tad (r.2, q.2.2) r.1) else .inr (r.1, r.2, q.2.2) := by rw [eU, e, bnd_i, ea]; rfl
      by_cases v : nxt L (r.2, q.2.2) = 73
      · rw [if_pos v] at eS2
        have pv : pk L (rs z (r.2, q.2.2) []) = 73 := by rw [pkc hL _ (by decide) (by decide)]; exact v
        have hS : SOk L Q (mBA L r.1 (mEn (rs z (r.2, q.2.2) []) r.1)) := by
          rw [mEn_tad P2.i ty k0]
          refine sim_fill (K := []) hL hr hs (by have := P1.p; show m ≤ q.2.2.2 + 1; omega) i3 (Nat.zero_le _) (Nat.zero_le _) (Or.inl o.c0) (fun x s' e2 => ?_) (fun ⟨n, e2⟩ => hx ⟨n, by rw [eS2, e2]⟩)
          obtain ⟨P3, c, _, _⟩ := PX.fill hr i3 e2
          have e1 : mFl2 (x, rs z s' []) = (x, rs z s' []) := if_neg hb0
          rw [e1]
          exact sok_ok rfl (fin x s' (eq_vd P3.i.l' (by decide) c) P3.i.l' (hok x s' (by rw [eS2, e2])))
        obtain ⟨t, a, q', c, d⟩ := hS
        refine ⟨q', Or.inr ⟨p78, t, ?_, c⟩, d⟩
        rw [eM, if_pos ⟨pv, rfl⟩]
        exact a
      · rw [if_neg v] at eS2
        have pv : ¬ pk L (rs z (r.2, q.2.2) []) = 73 := by rw [pkc hL _ (by decide) (by decide)]; exact v
        refine ⟨(r.1, rs z (r.2, q.2.2) []), Or.inr ⟨p78, (r.1, rs z (r.2, q.2.2) []), ?_, .fin (Or.inr ⟨(o.d.ne P2.i.l').1, rfl⟩)⟩, hok _ _ eS2⟩
        rw [eM, if_neg (fun u => pv u.1)]
/-- the rest of an entity, behind its name and what it gives, as the class has it -/
def E3 (L : List Int32) (n g a b c : Int32) (s : RS) : Ex (Int32 × RS) := rEnd L n g a b c s
def E2 (L : List Int32) (rec : RS → Ex (Int32 × RS)) (n g a b : Int32) (s : RS) : Ex (Int32 × RS) := bnd (rNext L rec b (-1) s) fun c => rEnd L n g a b c.1 c.2
def E1 (L : List Int32) (rec : RS → Ex (Int32 × RS)) (n g a : Int32) (s : RS) : Ex (Int32 × RS) := bnd (rNext L rec a (-1) s) fun b => E2 L rec n g a b.1 b.2
def E0 (L : List Int32) (rec : RS → Ex (Int32 × RS)) (n g : Int32) (s : RS) : Ex (Int32 × RS) := bnd (rFirst L rec s) fun a => E1 L rec n g a.1 a.2
/-- what the end of reading must be -/
def Good (res : IM) (c : Ex (Int32 × RS)) : Prop := (∀ x s', c = .inr (x, s') → res.1 = x ∧ res.2.wr = false ∧ res.2.N = s'.1 ∧ res.2.E = s'.2.1) ∧ ((∃ n, c = .inl n) → res.2.wr = true)
theorem good_w {res : IM} {c : Ex (Int32 × RS)} (h : res.2.wr = true) (hc : ∃ n, c = .inl n) : Good res c := ⟨fun x s' e => (by obtain ⟨n, hn⟩ := hc; rw [hn] at e; cases e), fun _ => h⟩
theorem nxt_end (hL : LOk L) : (nxt L s = -1) = ¬ s.2.2 < L.length := by
  refine propext ⟨fun e h => hL _ (nxt_in s h) e, fun h => ?_⟩
  unfold nxt
  rw [List.getD_eq_getElem?_getD, List.getElem?_eq_none (by omega)]; rfl
/-- the last node -/
theorem ent_fin (hL : LOk L) {n g : Int32} (h : Iv L j (k + 1) s) (hp : pfP s.1 n) (hg : if kN s.1 n = 3 then tyP s.1 g else g = -1) (hq : psP s.1 z.q0 z.q1 z.q2) : ∀ res, res = mMk 10 0 n g z.q0 z.q1 z.q2 (mOr (rs z s []) (decide (¬ s.2.2 = L.length))) → Good res (rEnd L n g z.q0 z.q1 z.q2 s) := by
  intro res er
  have hl : s.1.length < 180 := by have := h.nl; have := h.p; have := h.m; omega
  have e1 : nxt L s = -1 ↔ s.2.2 = L.length := by rw [nxt_end hL]; have := h.p; omega
  by_cases w : s.2.2 = L.length
  · rw [decide_eq_false (fun u => u w)] at er
    have er : res = mMk 10 0 n g z.q0 z.q1 z.q2 (rs z s []) := er
    have nk : NK s.1 10 0 n g z.q0 z.q1 z.q2 := .en hp hg hq
    obtain ⟨v1, v2, v3, v4, v5⟩ := nk.vo h.l'
    have ec : rEnd L n g z.q0 z.q1 z.q2 s = lft (addN s.1 10 0 n g z.q0 z.q1 z.q2) s := by
      unfold rEnd
      rw [if_pos (e1.mpr w)]
      unfold aEntity
      rw [if_pos ⟨hp, hg, hq⟩]
    rw [ec]
    cases hh : addN s.1 10 0 n g z.q0 z.q1 z.q2 with
    | inl a => exact good_w (by rw [er]; exact mMk_x h.w hl v1 v2 v3 v4 v5 hh) ⟨a, rfl⟩
    | inr q =>
      rw [er, mMk_ok h.w v1 v2 v3 v4 v5 hh]
      exact ⟨fun x s' e => (by cases e; exact ⟨rfl, rfl, rfl, rfl⟩), fun ⟨m, e⟩ => (by cases e)⟩
  · have ec : rEnd L n g z.q0 z.q1 z.q2 s = .inl 0 := if_neg (fun u => w (e1.mp u))
    have hw : (mOr (rs z s []) (decide (¬ s.2.2 = L.length))).wr = true := by simp [mOr_wr, mEx_wr, mAv_wr, mEn_wr, mBe_wr, mK_wr, mWr_wr, w]
    rw [ec, er, mMk_w hw]
    exact good_w hw ⟨0, rfl⟩
/-- the parameters: what the reference makes of them against the class -/
theorem psP_pr {N : List (List Int32)} {a b c : Int32} (h : psP N a b c) : paP N a ∧ paP N b ∧ paP N c := h.1
theorem rEnd_pa {n g a b c x : Int32} {s' : RS} (e : rEnd L n g a b c s = .inr (x, s')) : paP s.1 a ∧ paP s.1 b ∧ paP s.1 c := by
  obtain ⟨_, e⟩ := if_inr e
  obtain ⟨q, h2, _, _⟩ := lft_inr e
  exact (if_inr h2).1.2.2.1
theorem E2_void (hr : RI L rec) (h : Iv L j k s) {n g a b : Int32} (hv : ∀ N', s.1 <+: N' → N'.length ≤ 1000 → ¬ (paP N' a ∧ paP N' b)) : ∃ m, E2 L rec n g a b s = .inl m := by
  cases e : E2 L rec n g a b s with
  | inl n => exact ⟨n, rfl⟩
  | inr q =>
    exfalso
    obtain ⟨c, h1, e⟩ := bnd_inr e
    have P1 := (PX.next (x := c.1) (s' := c.2) hr h h1).1
    have := rEnd_pa (x := q.1) (s' := q.2) e
    exact hv _ P1.e P1.i.l' ⟨this.1, this.2.1⟩
theorem E1_void (hr : RI L rec) (h : Iv L j k s) {n g a : Int32} (hv : ∀ N', s.1 <+: N' → N'.length ≤ 1000 → ¬ paP N' a) : ∃ m, E1 L rec n g a s = .inl m := by
  cases e : E1 L rec n g a s with
  | inl n => exact ⟨n, rfl⟩
  | inr q =>
    exfalso
    obtain ⟨b, h1, e⟩ := bnd_inr e
    have P1 := (PX.next (x := b.1) (s' := b.2) hr h h1).1
    obtain ⟨m, hm⟩ := E2_void (n := n) (g := g) (a := a) (b := b.1) hr P1.i (fun N' h1 h2 w => hv N' (P1.e.trans h1) h2 w.1)
    rw [hm] at e; cases e
/-- an end of the parameters that fits -/
def PG (L : List Int32) (n g : Int32) (m : Nat) (S : MS) (c : Ex (Int32 × RS)) : Prop := ∃ s5, PL L m S s5 ∧ (s5.wr = false → s5.p ≤ 200) ∧ ((mOr s5 (decide (¬ s5.p = L.length))).wr = false → Vd s5.N n ∧ Vo s5.N g ∧ Vo s5.N s5.q0 ∧ Vo s5.N s5.q1 ∧ Vo s5.N s5.q2 ∧ s5.N.length ≤ 200) ∧ Good (mMk 10 0 n g s5.q0 s5.q1 s5.q2 (mOr s5 (decide (¬ s5.p = L.length)))) c
theorem pg_w {n g : Int32} {m : Nat} {S : MS} {c : Ex (Int32 × RS)} (h : S.wr = true) (hc : ∃ n, c = .inl n) : PG L n g m S c := by
  have hw : (mOr S (decide (¬ S.p = L.length))).wr = true := by simp [mOr_wr, mEx_wr, mAv_wr, mEn_wr, mBe_wr, mK_wr, mWr_wr, h]
  exact ⟨S, .stop (Or.inl h), fun w => (by rw [h] at w; cases w), fun w => (by rw [hw] at w; cases w), good_w (by rw [mMk_w hw]; exact hw) hc⟩
theorem pg_step {n g : Int32} {m : Nat} {S s1 : MS} {p : Int32} {c : Ex (Int32 × RS)} (h1 : S.wr = false) (h2 : m = 0 ∨ S.p < L.length) (h2p : S.p ≤ 200) (h3 : m ≤ 3) (h4 : Lp L (-1, S) (p, s1)) (h5 : s1.wr = false → Vd s1.N p ∧ s1.N.length ≤ 200) (k : PG L n g (m + 1) (mPar m p s1) c) : PG L n g m S c := by
  obtain ⟨s5, a, b⟩ := k
  exact ⟨s5, .step h1 h2 h2p h3 h4 h5 a, b⟩
theorem mPar_w {m : Nat} {p : Int32} {S : MS} (h : S.wr = true ∨ m = 3 ∨ (cN S.N p 0 = 0 ∧ cN S.N p 1 = 0)) : (mPar m p S).wr = true := by
  have hw : mPw m p S = true := by
    unfold mPw
    rcases h with h | h
    · rw [h]; rfl
    · rw [decide_eq_true h, Bool.or_true]
  unfold mPar
  by_cases a : m = 1
  · rw [if_pos a]; exact hw
  · rw [if_neg a]
    by_cases b : m = 2
    · rw [if_pos b]; exact hw
    · rw [if_neg b]; exact hw
theorem k3n {N N' : List (List Int32)} (h : N <+: N') (hN : N'.length ≤ 1000) {n g : Int32} (hp : pfP N n) (hg : if kN N n = 3 then tyP N g else g = -1) : pfP N' n ∧ (if kN N' n = 3 then tyP N' g else g = -1) := by
  have hl := Nat.le_trans h.length_le hN
  have e : kN N' n = kN N n := cN_ext h hN (Or.inr (pf_vd hl hp)) 0
  refine ⟨?_, ?_⟩
  · show ¬ kN N' n < 1 ∧ kN N' n ≤ 3
    rw [e]; exact hp
  · rw [e]
    by_cases w : kN N n = 3
    · rw [if_pos w] at hg ⊢; exact tyP_ext h hN hg
    · rw [if_neg w] at hg ⊢; exact hg
theorem g_vo {N : List (List Int32)} (hN : N.length ≤ 1000) {n g : Int32} (hg : if kN N n = 3 then tyP N g else g = -1) : Vo N g := by
  by_cases w : kN N n = 3
  · rw [if_pos w] at hg; exact Or.inr (ty_vd hN hg)
  · rw [if_neg w] at hg; exact Or.inl hg
/-- no parameter more: the end -/
theorem pg_end (hL : LOk L) {n g : Int32} {m : Nat} (h : Iv L j (k + 1) s) (hp : pfP s.1 n) (hg : if kN s.1 n = 3 then tyP s.1 g else g = -1) (hq : psP s.1 z.q0 z.q1 z.q2) (hm : ¬ m = 0) (he : nxt L s = -1) : PG L n g m (rs z s []) (rEnd L n g z.q0 z.q1 z.q2 s) := by
  rw [nxt_end hL] at he
  refine ⟨rs z s [], .stop (Or.inr ⟨hm, he, by show s.2.2 ≤ 200; have := h.p; have := h.m; omega⟩), fun _ => (by show s.2.2 ≤ 200; have := h.p; have := h.m; omega), fun _ => ⟨pf_vd h.l' hp, g_vo h.l' hg, pa_vo h.l' hq.1.1, pa_vo h.l' hq.1.2.1, pa_vo h.l' hq.1.2.2, by show s.1.length ≤ 200; have := h.l; omega⟩, ?_⟩
  exact ent_fin hL h hp hg hq _ rfl
/-- a parameter more -/
theorem pg_more (hL : LOk L) (hr : RI L rec) {mm : Nat} (hs : ∀ z, SimT L z rec mm) (hmm : mm ≤ s.2.2) {n g : Int32} {m : Nat} (h : Iv L j k s) (hb : 0 ≤ z.b) (hn : m = 0 ∨ s.2.2 < L.length) (h3 : m ≤ 3) {c : Ex (Int32 × RS)}
    (hok : ∀ x s', rec s = .inr (x, s') → prP s'.1 x → ¬ m = 3 → PG L n g (m + 1) (mPar m x (rs z s' [])) c) (hx : (∃ n, rec s = .inl n) → ∃ n, c = .inl n) (hv : ∀ x s', rec s = .inr (x, s') → ¬ (prP s'.1 x ∧ ¬ m = 3) → ∃ n, c = .inl n) : PG L n g m (rs z s []) c := by
  have := hs z (fun q => PG L n g (m + 1) (mPar m q.1 q.2) c ∧ (q.2.wr = false → Vd q.2.N q.1 ∧ q.2.N.length ≤ 200)) j k s [] hmm h (Nat.zero_le _) (Nat.zero_le _) trivial (Or.inr hb) (fun x s' e => ?_) (fun e => ?_)
  · obtain ⟨q, a, b, v⟩ := this
    exact pg_step rfl hn (by show s.2.2 ≤ 200; have := h.p; have := h.m; omega) h3 a v b
  · obtain ⟨P1, ht⟩ := hr _ _ _ _ _ h e
    have hV := ty_vd P1.i.l' ht
    refine ⟨_, .fin (Or.inr ⟨(hV.ne P1.i.l').1, rfl⟩), ?_, fun _ => ⟨hV, by show s'.1.length ≤ 200; have := P1.i.l; omega⟩⟩
    by_cases w : prP s'.1 x ∧ ¬ m = 3
    · exact hok x s' e w.1 w.2
    · refine pg_w (mPar_w ?_) (hv x s' e w)
      by_cases u : m = 3
      · exact Or.inr (Or.inl u)
      · refine Or.inr (Or.inr ?_)
        have : ¬ prP s'.1 x := fun q => w ⟨q, u⟩
        exact Classical.not_not.mp (fun q => this ⟨ht, q⟩)
  · intro q hq
    have hc := hx e
    rcases hq with hq | ⟨q1, q2, q3, q4, q5, q6, q7⟩
    · exact ⟨pg_w (mPar_w (Or.inl hq)) hc, fun w => (by rw [hq] at w; cases w)⟩
    · refine ⟨?_, fun _ => ⟨q7, q6.n⟩⟩
      by_cases w : (mPar m q.1 q.2).wr = true
      · exact pg_w w hc
      · -- an I stands there: the next parameter is wrong
        have w : (mPar m q.1 q.2).wr = false := by simpa using w
        have m3 : ¬ m = 3 := fun u => by rw [mPar_w (Or.inr (Or.inl u))] at w; cases w
        have e5 : (mPar m q.1 q.2).N = q.2.N ∧ (mPar m q.1 q.2).E = q.2.E ∧ (mPar m q.1 q.2).K = q.2.K ∧ (mPar m q.1 q.2).p = q.2.p ∧ (mPar m q.1 q.2).ne = q.2.ne := by
          unfold mPar
          by_cases a : m = 1
          · rw [if_pos a]; exact ⟨rfl, rfl, rfl, rfl, rfl⟩
          · rw [if_neg a]
            by_cases b : m = 2
            · rw [if_pos b]; exact ⟨rfl, rfl, rfl, rfl, rfl⟩
            · rw [if_neg b]; exact ⟨rfl, rfl, rfl, rfl, rfl⟩
        have p5 : pk L (mPar m q.1 q.2) = 73 := by rw [← q5]; unfold pk; rw [e5.2.2.2.1]
        have g5 : Gd L (mPar m q.1 q.2) := ⟨by rw [e5.1]; exact q6.n, by rw [e5.2.1]; exact q6.e, by rw [e5.2.2.1]; exact q6.k, by rw [e5.2.2.2.1]; exact q6.p, q6.l, by rw [e5.1, e5.2.1]; exact q6.v, by rw [e5.1, e5.2.2.1]; exact q6.f⟩
        obtain ⟨t, t1, t2⟩ := lp_I w (e5.2.2.2.2.trans q4) p5 g5
        have hlt : (mPar m q.1 q.2).p < L.length := by
          by_cases u : (mPar m q.1 q.2).p < L.length
          · exact u
          · unfold pk at p5
            rw [List.getD_eq_getElem?_getD, List.getElem?_eq_none (by omega)] at p5
            exact absurd p5 (by decide)
        exact pg_step w (Or.inr hlt) (by have := g5.p; have := g5.l; omega) (by omega) t1 (fun u => by rw [t2] at u; cases u) (pg_w (mPar_w (Or.inl t2)) hc)
theorem pw_ok {m : Nat} {x : Int32} (hx : prP s.1 x) (h3 : ¬ m = 3) : mPw m x (rs z s []) = false := by
  unfold mPw
  rw [decide_eq_false (fun u => u.elim h3 hx.2)]
  rfl
theorem mPar0 {x : Int32} (hx : prP s.1 x) : mPar 0 x (rs z s []) = rs (MS.u_q0 z x) s [] := by
  unfold mPar
  rw [pw_ok hx (by decide), if_neg (by decide), if_neg (by decide), if_neg (by decide)]
  rfl
theorem mPar1 {x : Int32} (hx : prP s.1 x) : mPar 1 x (rs z s []) = rs (MS.u_q1 z x) s [] := by
  unfold mPar
  rw [pw_ok hx (by decide), if_pos rfl, if_neg (by decide)]
  rfl
theorem mPar2 {x : Int32} (hx : prP s.1 x) : mPar 2 x (rs z s []) = rs (MS.u_q2 z x) s [] := by
  unfold mPar
  rw [pw_ok hx (by decide), if_neg (by decide), if_pos rfl, if_neg (by decide)]
  rfl
theorem nx_e {b : Int32} (h : nxt L s = -1) : rNext L rec b (-1) s = .inr (-1, s) := if_pos (Or.inr h)
theorem nx_n : rNext L rec (-1) (-1) s = .inr (-1, s) := if_pos (Or.inl rfl)
theorem nx_r {b : Int32} (hb : ¬ b = -1) (h : ¬ nxt L s = -1) : rNext L rec b (-1) s = rec s := if_neg (fun w => w.elim hb h)
theorem not_pr {m : Nat} {N : List (List Int32)} {x : Int32} (ht : tyP N x) (h : ¬ (prP N x ∧ ¬ m = 3)) (h3 : ¬ m = 3) : kN N x = 0 ∧ cN N x 1 = 0 := Classical.not_not.mp (fun q => h ⟨⟨ht, q⟩, h3⟩)
theorem pg3 (hL : LOk L) (hr : RI L rec) {mm : Nat} (hs : ∀ z, SimT L z rec mm) (hmm : mm ≤ s.2.2) {n g a b c : Int32} (h : Iv L j (k + 1) s) (hb : 0 ≤ z.b) (hp : pfP s.1 n) (hg : if kN s.1 n = 3 then tyP s.1 g else g = -1) (ha : prP s.1 a) (hb2 : prP s.1 b) (hc : prP s.1 c) (e0 : z.q0 = a) (e1 : z.q1 = b) (e2 : z.q2 = c) : PG L n g 3 (rs z s []) (rEnd L n g a b c s) := by
  have hq : psP s.1 z.q0 z.q1 z.q2 := by rw [e0, e1, e2]; exact ⟨⟨pr_pa ha, pr_pa hb2, pr_pa hc⟩, fun q => q.elim (fun q => pr_ne h.l' ha q.1) (fun q => pr_ne h.l' hb2 q.1)⟩
  by_cases w : nxt L s = -1
  · have := pg_end (m := 3) hL h hp hg hq (by decide) w
    rwa [e0, e1, e2] at this
  · have bad : ∃ m, rEnd L n g a b c s = .inl m := ⟨0, if_neg w⟩
    exact pg_more hL hr hs hmm h hb (Or.inr (c_at w)) (Nat.le_refl _) (fun _ _ _ _ q => absurd rfl q) (fun _ => bad) (fun _ _ _ _ => bad)
theorem pg2 (hL : LOk L) (hr : RI L rec) {mm : Nat} (hs : ∀ z, SimT L z rec mm) (hmm : mm ≤ s.2.2) {n g a b : Int32} (h : Iv L j (k + 1) s) (hb : 0 ≤ z.b) (hp : pfP s.1 n) (hg : if kN s.1 n = 3 then tyP s.1 g else g = -1) (ha : prP s.1 a) (hb2 : prP s.1 b) (e0 : z.q0 = a) (e1 : z.q1 = b) (e2 : z.q2 = -1) : PG L n g 2 (rs z s []) (E2 L rec n g a b s) := by
  have hq : psP s.1 z.q0 z.q1 z.q2 := by rw [e0, e1, e2]; exact ⟨⟨pr_pa ha, pr_pa hb2, no_pa _⟩, fun q => q.elim (fun q => pr_ne h.l' ha q.1) (fun q => pr_ne h.l' hb2 q.1)⟩
  by_cases w : nxt L s = -1
  · have := pg_end (m := 2) hL h hp hg hq (by decide) w
    rw [e0, e1, e2] at this
    unfold E2
    rw [nx_e w]; exact this
  · have eR : rNext L rec b (-1) s = rec s := nx_r (pr_ne h.l' hb2) w
    have eE : ∀ x s', rec s = .inr (x, s') → E2 L rec n g a b s = rEnd L n g a b x s' := fun x s' e => by unfold E2; rw [eR, e]; rfl
    refine pg_more hL hr hs hmm h hb (Or.inr (c_at w)) (by decide) (fun x s' e hx _ => ?_) (fun e => by unfold E2; rw [eR]; exact ex_bnd e) (fun x s' e hx => ?_)
    · obtain ⟨P1, _⟩ := hr _ _ _ _ _ h e
      obtain ⟨k1, k2⟩ := k3n P1.e P1.i.l' hp hg
      rw [eE x s' e, mPar2 hx]
      exact pg3 hL hr hs (Nat.le_trans hmm (Nat.le_trans (Nat.le_add_right _ _) P1.p)) P1.i hb k1 k2 (pr_ext P1.e P1.i.l' ha) (pr_ext P1.e P1.i.l' hb2) hx e0 e1 rfl
    · obtain ⟨P1, ht⟩ := hr _ _ _ _ _ h e
      obtain ⟨v0, v1⟩ := not_pr ht hx (by decide)
      rw [eE x s' e]
      cases e3 : rEnd L n g a b x s' with
      | inl n => exact ⟨n, rfl⟩
      | inr q => exact absurd (rEnd_pa (x := q.1) (s' := q.2) e3).2.2 (void_pa (List.prefix_refl _) P1.i.l' v0 v1)
theorem pg1 (hL : LOk L) (hr : RI L rec) {mm : Nat} (hs : ∀ z, SimT L z rec mm) (hmm : mm ≤ s.2.2) {n g a : Int32} (h : Iv L j (k + 1) s) (hb : 0 ≤ z.b) (hp : pfP s.1 n) (hg : if kN s.1 n = 3 then tyP s.1 g else g = -1) (ha : prP s.1 a) (e0 : z.q0 = a) (e1 : z.q1 = -1) (e2 : z.q2 = -1) : PG L n g 1 (rs z s []) (E1 L rec n g a s) := by
  have hq : psP s.1 z.q0 z.q1 z.q2 := by rw [e0, e1, e2]; exact ⟨⟨pr_pa ha, no_pa _, no_pa _⟩, fun q => q.elim (fun q => pr_ne h.l' ha q.1) (fun q => q.2 rfl)⟩
  by_cases w : nxt L s = -1
  · have := pg_end (m := 1) hL h hp hg hq (by decide) w
    rw [e0, e1, e2] at this
    unfold E1 E2
    rw [nx_e w]
    show PG L n g 1 (rs z s []) (bnd (rNext L rec (-1) (-1) s) _)
    rw [nx_n]; exact this
  · have eR : rNext L rec a (-1) s = rec s := nx_r (pr_ne h.l' ha) w
    have eE : ∀ x s', rec s = .inr (x, s') → E1 L rec n g a s = E2 L rec n g a x s' := fun x s' e => by unfold E1; rw [eR, e]; rfl
    refine pg_more hL hr hs hmm h hb (Or.inr (c_at w)) (by decide) (fun x s' e hx _ => ?_) (fun e => by unfold E1; rw [eR]; exact ex_bnd e) (fun x s' e hx => ?_)
    · obtain ⟨P1, _⟩ := hr _ _ _ _ _ h e
      obtain ⟨k1, k2⟩ := k3n P1.e P1.i.l' hp hg
      rw [eE x s' e, mPar1 hx]
      exact pg2 hL hr hs (Nat.le_trans hmm (Nat.le_trans (Nat.le_add_right _ _) P1.p)) P1.i hb k1 k2 (pr_ext P1.e P1.i.l' ha) hx e0 rfl e2
    · obtain ⟨P1, ht⟩ := hr _ _ _ _ _ h e
      obtain ⟨v0, v1⟩ := not_pr ht hx (by decide)
      rw [eE x s' e]
      exact E2_void hr P1.i (fun N' h1 h2 u => void_pa h1 h2 v0 v1 u.2)
/-- the parameters of an entity -/
theorem re2 (hL : LOk L) (hr : RI L rec) {mm : Nat} (hs : ∀ z, SimT L z rec mm) (hmm : mm ≤ s.2.2) {n g : Int32} (h : Iv L j (k + 1) s) (hb : 0 ≤ z.b) (hp : pfP s.1 n) (hg : if kN s.1 n = 3 then tyP s.1 g else g = -1) (e0 : z.q0 = -1) (e1 : z.q1 = -1) (e2 : z.q2 = -1) : ∃ res, RE2 L n g (rs z s []) res ∧ Good res (E0 L rec n g s) := by
  by_cases w : nxt L s = 118
  · have pw : pk L (rs z s []) = 118 := by rw [pkc hL _ (by decide) (by decide)]; exact w
    have P1 := PX.ad h (by decide) w
    have hq : psP (adv s).1 z.q0 z.q1 z.q2 := by rw [e0, e1, e2]; exact ⟨⟨no_pa _, no_pa _, no_pa _⟩, fun q => q.elim (fun q => q.2 rfl) (fun q => q.2 rfl)⟩
    have eE : E0 L rec n g s = rEnd L n g (-1) (-1) (-1) (adv s) := by
      unfold E0 E1 E2
      rw [show rFirst L rec s = .inr (-1, adv s) from if_pos w]
      show bnd (rNext L rec (-1) (-1) (adv s)) _ = _
      rw [nx_n]
      show bnd (rNext L rec (-1) (-1) (adv s)) _ = _
      rw [nx_n]
      rfl
    refine ⟨_, ⟨fun _ => (by show s.2.2 ≤ 200; have := h.p; have := h.m; omega), rs z (adv s) [], ?_, fun _ => (by show s.2.2 + 1 ≤ 200; have := h.p; have := h.m; omega), fun _ => ⟨pf_vd h.l' hp, g_vo h.l' hg, pa_vo h.l' hq.1.1, pa_vo h.l' hq.1.2.1, pa_vo h.l' hq.1.2.2, by show s.1.length ≤ 200; have := h.l; omega⟩, rfl⟩, ?_⟩
    · rw [if_pos ⟨rfl, pw⟩]; rfl
    · rw [eE, ← e0]
      have := ent_fin (z := z) (n := n) (g := g) hL (P1.i.le (Nat.le_succ j) (Nat.le_refl _)) hp hg hq _ rfl
      rw [e0, e1, e2] at this
      rw [e0]
      show Good (mMk 10 0 n g z.q0 z.q1 z.q2 _) _
      rw [e0, e1, e2]
      exact this
  · have pw : ¬ pk L (rs z s []) = 118 := by rw [pkc hL _ (by decide) (by decide)]; exact w
    have eR : rFirst L rec s = rec s := if_neg w
    have eE : ∀ x s', rec s = .inr (x, s') → E0 L rec n g s = E1 L rec n g x s' := fun x s' e => by unfold E0; rw [eR, e]; rfl
    have : PG L n g 0 (rs z s []) (E0 L rec n g s) := by
      refine pg_more hL hr hs hmm h hb (Or.inl rfl) (by decide) (fun x s' e hx _ => ?_) (fun e => by unfold E0; rw [eR]; exact ex_bnd e) (fun x s' e hx => ?_)
      · obtain ⟨P1, _⟩ := hr _ _ _ _ _ h e
        obtain ⟨k1, k2⟩ := k3n P1.e P1.i.l' hp hg
        rw [eE x s' e, mPar0 hx]
        exact pg1 hL hr hs (Nat.le_trans hmm (Nat.le_trans (Nat.le_add_right _ _) P1.p)) P1.i hb k1 k2 hx rfl e1 e2
      · obtain ⟨P1, ht⟩ := hr _ _ _ _ _ h e
        obtain ⟨v0, v1⟩ := not_pr ht hx (by decide)
        rw [eE x s' e]
        exact E1_void hr P1.i (fun N' h1 h2 u => void_pa h1 h2 v0 v1 u)
    obtain ⟨s5, a, b0, b, c⟩ := this
    exact ⟨_, ⟨fun _ => (by show s.2.2 ≤ 200; have := h.p; have := h.m; omega), s5, by rw [if_neg (fun u => pw u.2)]; exact a, b0, b, rfl⟩, c⟩
/-- the class's reading of an entity, with any bound of levels -/
def rEntF (L : List Int32) (f1 f2 : Nat) (N : List (List Int32)) : Ex (Int32 × RS) := bnd (rPass L 95 (N, [], 0)) fun s1 => bnd (rPass L 90 s1) fun s2 => bnd (rScop L (rTyp L f1) s2) fun n => bnd (if kN n.2.1 n.1 = 3 then rTyp L f2 n.2 else .inr (-1, n.2)) fun g => E0 L (rTyp L f2) n.1 g.1 g.2
theorem rEntF_eq (N : List (List Int32)) : rEnt L N = rEntF L 15 16 N := rfl
theorem start_iv {N : List (List Int32)} (hW : WN N) (h60 : N.length ≤ 60) (hl : L.length ≤ 120) : Iv L 0 0 (N, [], 0) := ⟨hW, fun x hx => (by cases hx), Nat.zero_le _, hl, Nat.le_refl _, by show N.length + 0 ≤ 60 + 0; omega⟩
/-- the class reads to its level as without one -/
theorem ent_level {N : List (List Int32)} (hW : WN N) (h60 : N.length ≤ 60) (hl : L.length ≤ 120) (f : Nat) (hf : 16 ≤ f) : rEnt L N = rEntF L f f N ∨ ((∃ n, rEnt L N = .inl n) ∧ ∃ n, rEntF L f f N = .inl n) := by
  rw [rEntF_eq]
  have h0 := start_iv hW h60 hl
  have key : XR (fun _ => False) (rEntF L f f N) (rEntF L 15 16 N) := by
    have hr := PX.typ L f
    have dpF : ∀ {j k : Nat} {s : RS} {x : Int32}, Iv L j k s → Vo s.1 x → ¬ 16 < dp s.1 x := fun h v u => by have := (dp_vo h.w v).2; omega
    refine XR.same (fun s1 e1 => ?_)
    have P1 := PX.pass h0 (by decide) e1
    refine XR.same (fun s2 e2 => ?_)
    have P2 := PX.pass P1.i (by decide) e2
    refine XR.bd (XR.scop hr P2.i (lr_typ L 15 f (by omega))) (fun n e3 => ?_) (fun n x e3 g e => ?_)
    · obtain ⟨P3, c3⟩ := PX.scop (x := n.1) (s' := n.2) hr P2.i e3
      refine XR.bd (P := gtD 16) (XR.ite (fun _ => lr_typ L 16 f hf _ _ _ P3.i) (fun _ => XR.rfl')) (fun g e4 => ?_) (fun g x e4 w e => ?_)
      · have P4 : ∃ m, PX L 1 1 m n.2 g.2 := by
          by_cases w : kN n.2.1 n.1 = 3
          · rw [if_pos w] at e4; exact ⟨_, ((hr _ _ _ g.1 g.2 P3.i e4).1).le (by omega) (by omega) (Nat.le_refl _)⟩
          · rw [if_neg w] at e4; cases e4; exact ⟨0, P3.i.le (by omega) (by omega), List.prefix_refl _, Nat.le_refl _⟩
        obtain ⟨_, P4⟩ := P4
        have hl16 := lr_typ L 16 f hf
        refine XR.bd (XR.first P4.i hl16) (fun a e5 => ?_) (fun a x e5 w e => ?_)
        · obtain ⟨P5, va⟩ := first_vo (x := a.1) (s' := a.2) hr P4.i e5
          refine XR.bd (XR.next P5.i hl16 _ _) (fun b e6 => ?_) (fun b x e6 w e => ?_)
          · obtain ⟨P6, vb⟩ := next_vo (x := b.1) (s' := b.2) hr P5.i e6
            refine XR.bd (XR.next P6.i hl16 _ _) (fun c e7 => XR.rfl') (fun c x e7 w e => ?_)
            obtain ⟨P7, vc⟩ := next_vo (x := c.1) (s' := c.2) hr P6.i e7
            exact dpF P7.i vc w
          · obtain ⟨P6, vb⟩ := next_vo (x := b.1) (s' := b.2) hr P5.i e6
            exact dpF P6.i vb w
        · obtain ⟨P5, va⟩ := first_vo (x := a.1) (s' := a.2) hr P4.i e5
          exact dpF P5.i va w
      · by_cases u : kN n.2.1 n.1 = 3
        · rw [if_pos u] at e4
          obtain ⟨P4, t⟩ := hr _ _ _ g.1 g.2 P3.i e4
          exact dpF P4.i (Or.inr (ty_vd P4.i.l' t)) w
        · rw [if_neg u] at e4
          cases e4
          have : dp n.2.1 (-1) ≤ 16 := (dp_vo P3.i.w (no_vo _)).2
          exact absurd w (by show ¬ 16 < dp n.2.1 (-1); omega)
    · obtain ⟨P3, c3⟩ := PX.scop (x := n.1) (s' := n.2) hr P2.i e3
      exact dpF P3.i (Or.inr (ty_vd P3.i.l' (k13 c3).1)) g
  rcases key with h | ⟨h1, h2⟩
  · exact Or.inl h
  · refine Or.inr ⟨h1, ?_⟩
    cases e : rEntF L f f N with
    | inl n => exact ⟨n, rfl⟩
    | inr q => exact (h2 q e).elim
theorem good_ent {N : List (List Int32)} (hW : WN N) (h60 : N.length ≤ 60) (hl : L.length ≤ 120) {f : Nat} (hf : 16 ≤ f) {res : IM} (h : Good res (rEntF L f f N)) : Good res (rEnt L N) := by
  rcases ent_level hW h60 hl f hf with e | ⟨⟨a, ea⟩, ⟨b, eb⟩⟩
  · rw [e]; exact h
  · exact good_w (h.2 ⟨b, eb⟩) ⟨a, ea⟩
/-- reading an entity: the reference against the class -/
theorem sim_ent (hL : LOk L) (hl : L.length ≤ 120) {N : List (List Int32)} (hW : WN N) (h60 : N.length ≤ 60) (hb : z.b = -1) (e0 : z.q0 = -1) (e1 : z.q1 = -1) (e2 : z.q2 = -1) : ∃ res, RE L (mEx L 90 (mEx L 95 (rs z (N, [], 0) []))) res ∧ Good res (rEnt L N) := by
  have h0 := start_iv hW h60 hl
  suffices h : ∃ res, RE L (mEx L 90 (mEx L 95 (rs z (N, [], 0) []))) res ∧ Good res (rEntF L 130 130 N) by
    obtain ⟨res, a, b⟩ := h
    exact ⟨res, a, good_ent hW h60 hl (by decide) b⟩
  have wrong : ∀ S : MS, S.wr = true → (∃ n, rEntF L 130 130 N = .inl n) → ∃ res, RE L S res ∧ Good res (rEntF L 130 130 N) := by
    intro S hS hc
    obtain ⟨res, a, b⟩ := RE1_w (L := L) (n := 0) (S := mB0 S) hS
    exact ⟨res, Or.inl ⟨hS, a⟩, good_w b hc⟩
  by_cases w1 : nxt L (N, [], 0) = 95
  · rw [mEx_ok hL (by decide) (by decide) w1]
    have P1 := PX.ad h0 (by decide) w1
    have p1 : rPass L 95 (N, [], 0) = .inr (adv (N, [], 0)) := if_pos w1
    by_cases w2 : nxt L (adv (N, [], 0)) = 90
    · rw [mEx_ok hL (by decide) (by decide) w2]
      have P2 := PX.ad P1.i (by decide) w2
      have p2 : rPass L 90 (adv (N, [], 0)) = .inr (adv (adv (N, [], 0))) := if_pos w2
      have hr := PX.typ L 130
      have hs : ∀ z, SimT L z (rTyp L 130) 0 := fun z => sim_typ hL z 130 0 (by omega)
      have eF : rEntF L 130 130 N = bnd (rScop L (rTyp L 130) (adv (adv (N, [], 0)))) fun n => bnd (if kN n.2.1 n.1 = 3 then rTyp L 130 n.2 else .inr (-1, n.2)) fun g => E0 L (rTyp L 130) n.1 g.1 g.2 := by unfold rEntF; rw [p1, bnd_i, p2, bnd_i]
      have := sim_scop (Q := fun q => (q.2.wr = false → Vd q.2.N q.1 ∧ q.2.N.length ≤ 200) ∧ ∃ res, RE1 L q.1 (mB0 q.2) res ∧ Good res (rEntF L 130 130 N)) hL hr (hs z) (Nat.zero_le _) P2.i (by rw [hb]; decide) (fun x s' e => ?_) (fun ⟨n, e⟩ => ?_)
      · obtain ⟨q, a, v, res, b, c⟩ := this
        exact ⟨res, Or.inr ⟨rfl, P2.i.gd (by simp [mOr_wr, mEx_wr, mAv_wr, mEn_wr, mBe_wr, mK_wr, mWr_wr]) (fun f K e => by cases e), q, a, v, b⟩, c⟩
      · obtain ⟨P3, c3⟩ := PX.scop hr P2.i e
        have hp : pfP s'.1 x := by
          refine ⟨?_, ?_⟩ <;> rcases c3 with c | c | c <;> rw [c] <;> decide
        refine ⟨fun _ => ⟨pf_vd P3.i.l' hp, by show s'.1.length ≤ 200; have := P3.i.l; omega⟩, ?_⟩
        have eb : mB0 (rs z s' []) = rs (MS.u_b z 0) s' [] := rfl
        show ∃ res, RE1 L x (mB0 (rs z s' [])) res ∧ _
        rw [eb]
        have eF2 : rEntF L 130 130 N = bnd (if kN s'.1 x = 3 then rTyp L 130 s' else .inr (-1, s')) fun g => E0 L (rTyp L 130) x g.1 g.2 := by rw [eF, e]; rfl
        by_cases w3 : kN s'.1 x = 3
        · rw [if_pos w3] at eF2
          have := hs (MS.u_b z 0) (fun q => ∃ res, RE2 L x q.1 q.2 res ∧ Good res (rEntF L 130 130 N)) _ _ s' [] (Nat.zero_le _) P3.i (Nat.zero_le _) (Nat.zero_le _) trivial (Or.inr (show (0 : Int32) ≤ 0 by decide)) (fun g s2 e4 => ?_) (fun ⟨n, e4⟩ => ?_)
          · obtain ⟨q, a, res, b, c⟩ := this
            exact ⟨res, Or.inl ⟨rfl, w3, q, a, b⟩, c⟩
          · obtain ⟨P4, tg⟩ := hr _ _ _ _ _ P3.i e4
            have hV := ty_vd P4.i.l' tg
            refine ⟨_, .fin (Or.inr ⟨(hV.ne P4.i.l').1, rfl⟩), ?_⟩
            have k1 : kN s2.1 x = 3 := (cN_ext P4.e P4.i.l' (Or.inr (pf_vd P3.i.l' hp)) 0).trans w3
            have eF3 : rEntF L 130 130 N = E0 L (rTyp L 130) x g s2 := by rw [eF2, e4]; rfl
            rw [eF3]
            refine re2 (j := 0) (k := 0) hL hr hs (Nat.zero_le _) (P4.i.le (by omega) (by omega)) (show (0 : Int32) ≤ 0 by decide) ⟨by rw [k1]; decide, by rw [k1]; decide⟩ (by rw [if_pos k1]; exact tg) e0 e1 e2
          · have hc : ∃ n, rEntF L 130 130 N = .inl n := ⟨n, by rw [eF2, e4]; rfl⟩
            intro q hq
            rcases hq with hq | ⟨q1, q2, q3, q4, q5, q6, q7⟩
            · obtain ⟨res, a, b⟩ := RE2_w (L := L) (n := x) (g := q.1) hq
              exact ⟨res, a, good_w b hc⟩
            · obtain ⟨res, a, b⟩ := RE2_I (n := x) (g := q.1) q3 q4 q5 q6
              exact ⟨res, a, good_w b hc⟩
        · rw [if_neg w3] at eF2
          have eF3 : rEntF L 130 130 N = E0 L (rTyp L 130) x (-1) s' := by rw [eF2]; rfl
          rw [eF3]
          obtain ⟨res, a, b⟩ := re2 (z := (MS.u_b z 0)) (j := 0) (k := 0) (n := x) (g := -1) hL hr hs (Nat.zero_le _) (P3.i.le (by omega) (by omega)) (show (0 : Int32) ≤ 0 by decide) hp (by rw [if_neg w3]) e0 e1 e2
          exact ⟨res, Or.inr ⟨fun u => w3 u.2, a⟩, b⟩
      · have hc : ∃ n, rEntF L 130 130 N = .inl n := ⟨n, by rw [eF, e]; rfl⟩
        intro q hq
        rcases hq with hq | ⟨q1, q2, q3, q4, q5, q6, q7⟩
        · obtain ⟨res, a, b⟩ := RE1_w (L := L) (n := q.1) (S := mB0 q.2) hq
          exact ⟨fun u => (by rw [hq] at u; cases u), res, a, good_w b hc⟩
        · obtain ⟨res, a, b⟩ := RE1_I (n := q.1) (S := mB0 q.2) q3 q4 q5 ⟨q6.n, q6.e, q6.k, q6.p, q6.l, q6.v, q6.f⟩
          exact ⟨fun _ => ⟨q7, q6.n⟩, res, a, good_w b hc⟩
    · exact wrong _ (mEx_x hL (by decide) (by decide) w2) ⟨0, by unfold rEntF; rw [p1, bnd_i, show rPass L 90 (adv (N, [], 0)) = .inl 0 from if_neg w2]; rfl⟩
  · have := mEx_x (z := z) (K := []) hL (by decide) (by decide) w1
    exact wrong _ (by show (_ || _) = true; rw [this]; rfl) ⟨0, by unfold rEntF; rw [show rPass L 95 (N, [], 0) = .inl 0 from if_neg w1]; rfl⟩
end
