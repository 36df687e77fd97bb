/-! errors of reading are of the first kind; what reading leaves -/
def Z0 {α : Type} (c : Ex α) : Prop := ∀ n, c = .inl n → n = 0
theorem Z0.r {α : Type} {x : α} : Z0 (.inr x : Ex α) := fun n e => by cases e
theorem Z0.l {α : Type} : Z0 (.inl 0 : Ex α) := fun n e => by cases e; rfl
theorem Z0.bd {α β : Type} {a : Ex α} {f : α → Ex β} (h : Z0 a) (h1 : ∀ y, a = .inr y → Z0 (f y)) : Z0 (bnd a f) := by
  cases a with
  | inl k => exact fun n e => h n (by cases e; rfl)
  | inr y => exact h1 y rfl
theorem Z0.ite {α : Type} {c : Prop} [Decidable c] {a b : Ex α} (h1 : c → Z0 a) (h2 : ¬ c → Z0 b) : Z0 (if c then a else b) := by
  by_cases h : c
  · rw [if_pos h]; exact h1 h
  · rw [if_neg h]; exact h2 h
section
variable {L : List Int32} {j k : Nat} {s s' : RS} {x : Int32} {rec : RS → Ex (Int32 × RS)}
theorem Iv.lt (h : Iv L j (k + 1) s) : s.1.length < 180 := by have := h.nl; have := h.p; have := h.m; omega
theorem Z0.add {N : List (List Int32)} (hl : N.length < 180) {k v f g a b c : Int32} : Z0 (addN N k v f g a b c) := fun _ e => addN_0 hl e
theorem Z0.lf {r : Ex (Int32 × List (List Int32))} (h : Z0 r) : Z0 (lft r s) := Z0.bd h (fun _ _ => Z0.r)
theorem Z0.ads {c : Prop} [Decidable c] {N : List (List Int32)} (hl : N.length < 180) {k v f g a b e : Int32} : Z0 (lft (if c then addN N k v f g a b e else .inl 0) s) := Z0.lf (Z0.ite (fun _ => Z0.add hl) (fun _ => Z0.l))
theorem Z0.pass {c : Int32} : Z0 (rPass L c s) := Z0.ite (fun _ => Z0.r) (fun _ => Z0.l)
theorem Z0.num {b : Int32} {m : Nat} : Z0 (rNum L b m s) := Z0.ite (fun _ => Z0.r) (fun _ => Z0.l)
theorem Z0.lets (m : Nat) : ∀ (v : Int32) (s : RS), Z0 (rLets L m v s) := by
  induction m with
  | zero => exact fun _ _ => Z0.r
  | succ m ih => exact fun v s => Z0.ite (fun _ => ih _ _) (fun _ => Z0.l)
theorem Z0.id : Z0 (rId L s) := Z0.bd Z0.num (fun _ _ => Z0.ite (fun _ => Z0.l) (fun _ => Z0.lets _ _ _))
theorem Z0.told : Z0 (rTold L s) := Z0.bd Z0.pass (fun _ _ => Z0.bd (Z0.ite (fun _ => Z0.r) (fun _ => Z0.bd Z0.num (fun _ _ => Z0.r))) (fun _ _ => Z0.bd Z0.pass (fun _ _ => Z0.ite (fun _ => Z0.l) (fun _ => Z0.r))))
theorem Z0.lit2 {b : Int32} {neg : Bool} (h : Iv L j k s) : Z0 (rLit2 L b neg s) := by
  refine Z0.bd Z0.num (fun z e1 => Z0.ite (fun _ => Z0.l) (fun _ => Z0.bd Z0.pass (fun s5 e2 => ?_)))
  have P1 := PX.num (v := z.1) (s' := z.2) h e1
  have P2 := PX.pass P1.i (by decide) e2
  exact Z0.ads P2.i.lt
theorem Z0.lit (h : Iv L j k s) : Z0 (rLit L s) := by
  refine Z0.bd Z0.pass (fun s1 e1 => Z0.ite (fun _ => Z0.l) (fun w => ?_))
  have P1 := PX.pass h (by decide) e1
  have P2 := PX.ad P1.i (bol_ne w) rfl
  refine Z0.bd (Z0.ads P2.i.lt) (fun q e2 => ?_)
  obtain ⟨q', h3, f1, f2⟩ := lft_inr (x := q.1) (s' := q.2) e2
  have P3 := PX.ao P2.i (aBuiltin_ao P2.i.w h3)
  rw [← f2] at P3
  exact Z0.ite (fun u => Z0.lit2 (PX.ad P3.i (by decide) u).i) (fun _ => Z0.lit2 P3.i)
/-- what is asked of the reading of types inside -/
def RZ (L : List Int32) (rec : RS → Ex (Int32 × RS)) : Prop := ∀ (j k : Nat) (s : RS), Iv L j k s → Z0 (rec s)
theorem Z0.arg (hz : RZ L rec) (h : Iv L j k s) : Z0 (rArg L rec s) := Z0.ite (fun _ => Z0.lit h) (fun _ => hz _ _ _ h)
theorem Z0.arg' (hz : RZ L rec) (h : Iv L j k s) : Z0 (rArg' L rec s) := Z0.ite (fun _ => Z0.r) (fun _ => Z0.arg hz h)
theorem Z0.fill (hr : RI L rec) (hz : RZ L rec) {n : Int32} (h : Iv L j k s) : Z0 (rFill L rec n s) := by
  refine Z0.bd Z0.pass (fun s1 e1 => ?_)
  have P1 := PX.pass h (by decide) e1
  refine Z0.bd (Z0.arg hz P1.i) (fun a e2 => ?_)
  have P2 := (PX.arg (x := a.1) (s' := a.2) hr P1.i e2).1
  refine Z0.bd (Z0.arg' hz P2.i) (fun b e3 => ?_)
  have P3 := (PX.arg' (x := b.1) (s' := b.2) hr P2.i e3).1
  refine Z0.bd (Z0.arg' hz P3.i) (fun c e4 => ?_)
  have P4 := (PX.arg' (x := c.1) (s' := c.2) hr P3.i e4).1
  refine Z0.bd Z0.pass (fun s5 e5 => ?_)
  have P5 := PX.pass P4.i (by decide) e5
  exact Z0.ads P5.i.lt
theorem Z0.start (h : Iv L j k s) : Z0 (rStart L s) := by
  refine Z0.ite (fun _ => Z0.told) (fun _ => Z0.bd Z0.id (fun q e1 => ?_))
  obtain ⟨P1, _⟩ := PX.id (x := q.1) (s' := q.2) h e1
  exact Z0.bd (Z0.ads P1.i.lt) (fun _ _ => Z0.r)
theorem Z0.step (hr : RI L rec) (hz : RZ L rec) {n : Int32} (h : Iv L j k s) : Z0 (rStep L rec n s) := by
  refine Z0.ite (fun _ => Z0.fill hr hz h) (fun _ => Z0.bd Z0.id (fun q e1 => ?_))
  obtain ⟨P1, _⟩ := PX.id (x := q.1) (s' := q.2) h e1
  exact Z0.ads P1.i.lt
theorem Z0.steps (hr : RI L rec) (hz : RZ L rec) (f : Nat) : ∀ {n : Int32} {s : RS}, Iv L (j + 1) k s → (kN s.1 n = 2 ∨ kN s.1 n = 3) → Z0 (rSteps L rec f n s) := by
  induction f with
  | zero => exact fun _ _ => Z0.r
  | succ f ih =>
    intro n s h hk
    refine Z0.ite (fun _ => Z0.r) (fun _ => ?_)
    have P0 := PX.td h (k23 hk).1 (k23 hk).2
    refine Z0.bd (Z0.step hr hz P0.i) (fun q e => ?_)
    obtain ⟨P1, a, _⟩ := PX.step (x := q.1) (s' := q.2) hr P0.i e
    exact ih (P1.i.le (by omega) (by omega)) a
theorem Z0.nest (hr : RI L rec) (hz : RZ L rec) (h : Iv L j k s) : Z0 (rNest L rec s) := by
  refine Z0.bd Z0.pass (fun s1 e1 => ?_)
  have P1 := PX.pass h (by decide) e1
  refine Z0.bd (Z0.start P1.i) (fun a e2 => ?_)
  obtain ⟨P2, _, _⟩ := PX.start (x := a.1) (s' := a.2) P1.i e2
  refine Z0.bd (Z0.step hr hz P2.i) (fun b e3 => ?_)
  obtain ⟨P3, kb, _⟩ := PX.step (x := b.1) (s' := b.2) hr P2.i e3
  exact Z0.bd (Z0.steps (j := j) (k := k) hr hz 119 (P3.i.le (by omega) (by omega)) kb) (fun c _ => Z0.bd Z0.pass (fun _ _ => Z0.ite (fun _ => Z0.r) (fun _ => Z0.l)))
theorem Z0.scop (hr : RI L rec) (hz : RZ L rec) (h : Iv L j k s) : Z0 (rScop L rec s) := by
  refine Z0.ite (fun _ => Z0.nest hr hz h) (fun _ => Z0.bd Z0.id (fun q e1 => ?_))
  obtain ⟨P1, _⟩ := PX.id (x := q.1) (s' := q.2) h e1
  refine Z0.bd (Z0.ads P1.i.lt) (fun n e2 => Z0.ite (fun _ => ?_) (fun _ => Z0.r))
  obtain ⟨r, h3, f1, f2⟩ := lft_inr (x := n.1) (s' := n.2) e2
  have o := aName_ao P1.i.w h3
  have P2 := PX.ao P1.i o
  rw [f1, f2]
  exact Z0.fill hr hz (PX.td P2.i (o.ty (by decide)) (o.k0 (by decide))).i
theorem Z0.wrap (hr : RI L rec) (hz : RZ L rec) {c n : Int32} (h : Iv L j k s) (hc : ¬ c = -1) (en : nxt L s = c) : Z0 (rWrap rec n s) := by
  have P1 := PX.ad h hc en
  refine Z0.bd (hz _ _ _ P1.i) (fun q e => ?_)
  obtain ⟨P2, _⟩ := hr _ _ _ q.1 q.2 P1.i e
  exact Z0.ads P2.i.lt
theorem Z0.arr (hr : RI L rec) (hz : RZ L rec) (h : Iv L j k s) : Z0 (rArr L rec s) := by
  refine Z0.bd Z0.pass (fun s1 e1 => Z0.bd Z0.num (fun n e2 => Z0.bd Z0.pass (fun s3 e3 => ?_)))
  have P1 := PX.pass h (by decide) e1
  have P2 := PX.num (v := n.1) (s' := n.2) P1.i e2
  have P3 := PX.pass P2.i (by decide) e3
  refine Z0.bd (hz _ _ _ P3.i) (fun q e => ?_)
  obtain ⟨P4, _⟩ := hr _ _ _ q.1 q.2 P3.i e
  exact Z0.ads P4.i.lt
theorem Z0.first (hz : RZ L rec) (h : Iv L j k s) : Z0 (rFirst L rec s) := Z0.ite (fun _ => Z0.r) (fun _ => hz _ _ _ h)
theorem Z0.next (hz : RZ L rec) {b c : Int32} (h : Iv L j k s) : Z0 (rNext L rec b c s) := Z0.ite (fun _ => Z0.r) (fun _ => hz _ _ _ h)
theorem Z0.fn (hr : RI L rec) (hz : RZ L rec) (h : Iv L j k s) : Z0 (rFun L rec s) := by
  refine Z0.bd Z0.pass (fun s1 e1 => ?_)
  have P1 := PX.pass h (by decide) e1
  refine Z0.bd (hz _ _ _ P1.i) (fun g e2 => ?_)
  obtain ⟨P2, _⟩ := hr _ _ _ g.1 g.2 P1.i e2
  refine Z0.bd (Z0.first hz P2.i) (fun a e3 => ?_)
  have P3 := (PX.first (x := a.1) (s' := a.2) hr P2.i e3).1
  refine Z0.bd (Z0.next hz P3.i) (fun b e4 => ?_)
  have P4 := (PX.next (x := b.1) (s' := b.2) hr P3.i e4).1
  refine Z0.bd (Z0.next hz P4.i) (fun c e5 => ?_)
  have P5 := (PX.next (x := c.1) (s' := c.2) hr P4.i e5).1
  refine Z0.bd Z0.pass (fun s6 e6 => ?_)
  have P6 := PX.pass P5.i (by decide) e6
  exact Z0.ads P6.i.lt
theorem Z0.unt (hr : RI L rec) (hz : RZ L rec) (h : Iv L j k s) : Z0 (rUnt L rec s) := Z0.ite (fun w => Z0.wrap hr hz h (by decide) w) (fun _ => Z0.ite (fun w => Z0.wrap hr hz h (by decide) w) (fun _ => Z0.ite (fun w => Z0.wrap hr hz h (by decide) w) (fun _ => Z0.ite (fun _ => Z0.arr hr hz h) (fun _ => Z0.ite (fun _ => Z0.fn hr hz h) (fun _ => Z0.scop hr hz h)))))
theorem Z0.typ (L : List Int32) (f : Nat) : RZ L (rTyp L f) := by
  induction f with
  | zero => exact fun _ _ _ _ => Z0.l
  | succ f ih =>
    intro j k s h
    have hr := PX.typ L f
    show Z0 (rTyB L (rTyp L f) s)
    refine Z0.ite (fun _ => Z0.ite (fun _ => Z0.bd Z0.told (fun q e => ?_)) (fun _ => Z0.bd (Z0.unt hr ih h) (fun _ _ => Z0.r))) (fun w => ?_)
    · obtain ⟨P1, _⟩ := PX.told (x := q.1) (s' := q.2) h e
      exact Z0.ite (fun _ => Z0.ite (fun _ => Z0.bd (Z0.fill hr ih P1.i) (fun _ _ => Z0.r)) (fun _ => Z0.l)) (fun _ => Z0.r)
    · exact Z0.ads (PX.ad h (bol_ne w) rfl).i.lt
/-- an entity: its errors, and what it leaves -/
theorem ent_pure {N : List (List Int32)} (hW : WN N) (h60 : N.length ≤ 60) (hl : L.length ≤ 120) : Z0 (rEnt L N) ∧ ∀ x s', rEnt L N = .inr (x, s') → WN s'.1 ∧ N <+: s'.1 ∧ s'.1.length ≤ 180 ∧ s'.2.1.length ≤ 120 := by
  have h0 := start_iv hW h60 hl
  have r15 := PX.typ L 15
  have r16 := PX.typ L 16
  have z15 := Z0.typ L 15
  have z16 := Z0.typ L 16
  have p4 : ∀ {n g : Int32 × RS}, Iv L 3 3 n.2 → (if kN n.2.1 n.1 = 3 then rTyp L 16 n.2 else .inr (-1, n.2)) = .inr g → ∃ m, PX L 3 3 m n.2 g.2 := by
    intro n g P e4
    by_cases w : kN n.2.1 n.1 = 3
    · rw [if_pos w] at e4; exact ⟨_, (r16 _ _ _ g.1 g.2 P e4).1⟩
    · rw [if_neg w] at e4; cases e4; exact ⟨0, P, List.prefix_refl _, Nat.le_refl _⟩
  refine ⟨?_, fun x s' e => ?_⟩
  · refine Z0.bd Z0.pass (fun s1 e1 => ?_)
    have P1 := PX.pass h0 (by decide) e1
    refine Z0.bd Z0.pass (fun s2 e2 => ?_)
    have P2 := PX.pass P1.i (by decide) e2
    refine Z0.bd (Z0.scop r15 z15 P2.i) (fun n e3 => ?_)
    obtain ⟨P3, _⟩ := PX.scop (x := n.1) (s' := n.2) r15 P2.i e3
    refine Z0.bd (Z0.ite (fun _ => z16 _ _ _ P3.i) (fun _ => Z0.r)) (fun g e4 => ?_)
    obtain ⟨_, P4⟩ := p4 P3.i e4
    refine Z0.bd (Z0.first z16 P4.i) (fun a e5 => ?_)
    have P5 := (PX.first (x := a.1) (s' := a.2) r16 P4.i e5).1
    refine Z0.bd (Z0.next z16 P5.i) (fun b e6 => ?_)
    have P6 := (PX.next (x := b.1) (s' := b.2) r16 P5.i e6).1
    refine Z0.bd (Z0.next z16 P6.i) (fun c e7 => ?_)
    have P7 := (PX.next (x := c.1) (s' := c.2) r16 P6.i e7).1
    exact Z0.ite (fun _ => Z0.ads P7.i.lt) (fun _ => Z0.l)
  · unfold rEnt at e
    obtain ⟨s1, e1, e⟩ := bnd_inr e
    have P1 := PX.pass h0 (by decide) e1
    obtain ⟨s2, e2, e⟩ := bnd_inr e
    have P2 := PX.pass P1.i (by decide) e2
    obtain ⟨n, e3, e⟩ := bnd_inr e
    obtain ⟨P3, _⟩ := PX.scop (x := n.1) (s' := n.2) r15 P2.i e3
    obtain ⟨g, e4, e⟩ := bnd_inr e
    obtain ⟨_, P4⟩ := p4 P3.i e4
    obtain ⟨a, e5, e⟩ := bnd_inr e
    have P5 := (PX.first (x := a.1) (s' := a.2) r16 P4.i e5).1
    obtain ⟨b, e6, e⟩ := bnd_inr e
    have P6 := (PX.next (x := b.1) (s' := b.2) r16 P5.i e6).1
    obtain ⟨c, e7, e⟩ := bnd_inr e
    have P7 := (PX.next (x := c.1) (s' := c.2) r16 P6.i e7).1
    unfold rEnd at e
    obtain ⟨_, e⟩ := if_inr e
    obtain ⟨q, h6, rfl, rfl⟩ := lft_inr e
    have P8 := PX.ao P7.i (aEntity_ao P7.i.w h6)
    refine ⟨P8.i.w, P1.e.trans (P2.e.trans (P3.e.trans (P4.e.trans (P5.e.trans (P6.e.trans (P7.e.trans P8.e)))))), P8.i.l, ?_⟩
    have := P8.i.tl; have := P8.i.p; have := P8.i.m
    omega
end
