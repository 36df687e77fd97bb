/-! nodes well made; what reading keeps -/
/-! nodes: what is there, what is well made -/
def Vd (N : List (List Int32)) (x : Int32) : Prop := ∃ i : Nat, i < N.length ∧ x = nI i
def Vo (N : List (List Int32)) (x : Int32) : Prop := x = -1 ∨ Vd N x
theorem cN_nI {N : List (List Int32)} (hN : N.length ≤ 1000) {i : Nat} (hi : i < N.length) (w : Nat) : cN N (nI i) w = (N[i]).getD w (-1) := by
  unfold cN nth
  rw [if_pos ⟨nI_pos' (by omega), nI_lt hi (by omega)⟩, nI_clamp (by omega), List.getD_eq_getElem?_getD (l := N), List.getElem?_eq_getElem hi]
  rfl
theorem cN_none (N : List (List Int32)) (w : Nat) : cN N (-1) w = -1 := by
  unfold cN nth
  rw [if_neg (fun h => absurd h.1 (by decide))]
  rfl
theorem kN_vd {N : List (List Int32)} (hN : N.length ≤ 1000) {x : Int32} {w : Nat} (h : ¬ cN N x w = -1) : Vd N x := by
  unfold cN nth at h
  by_cases q : 0 ≤ x ∧ x < nI N.length
  · obtain ⟨j, hj, rfl⟩ := nI_of' q.1
    exact ⟨j, (nI_ltI hj (by omega)).mp q.2, rfl⟩
  · rw [if_neg q] at h; exact absurd rfl h
theorem Vd.ne {N : List (List Int32)} (hN : N.length ≤ 1000) {x : Int32} (h : Vd N x) : 0 ≤ x ∧ ¬ x = -1 := by
  obtain ⟨i, hi, rfl⟩ := h
  have := nI_pos' (show i < 2 ^ 31 by omega)
  exact ⟨this, fun e => by rw [e] at this; exact absurd this (by decide)⟩
theorem Vd.ext {N N' : List (List Int32)} (h : N <+: N') {x : Int32} (v : Vd N x) : Vd N' x := by
  obtain ⟨i, hi, rfl⟩ := v
  exact ⟨i, Nat.lt_of_lt_of_le hi h.length_le, rfl⟩
theorem Vo.ext {N N' : List (List Int32)} (h : N <+: N') {x : Int32} (v : Vo N x) : Vo N' x := v.imp id (Vd.ext h)
theorem cN_ext {N N' : List (List Int32)} (h : N <+: N') (hN : N'.length ≤ 1000) {x : Int32} (v : Vo N x) (w : Nat) : cN N' x w = cN N x w := by
  rcases v with rfl | ⟨i, hi, rfl⟩
  · rw [cN_none, cN_none]
  · have hl := h.length_le
    rw [cN_nI hN (by omega), cN_nI (by omega) hi]
    obtain ⟨t, rfl⟩ := h
    rw [List.getElem_append_left hi]
theorem dN_ext {N N' : List (List Int32)} (h : N <+: N') (hN : N'.length ≤ 1000) {x : Int32} (v : Vo N x) : dN N' x = dN N x := by unfold dN; rw [cN_ext h hN v]
theorem dmN_ext {N N' : List (List Int32)} (h : N <+: N') (hN : N'.length ≤ 1000) {f g a b c : Int32} (hf : Vo N f) (hg : Vo N g) (ha : Vo N a) (hb : Vo N b) (hc : Vo N c) : dmN N' f g a b c = dmN N f g a b c := by
  unfold dmN
  rw [dN_ext h hN hf, dN_ext h hN hg, dN_ext h hN ha, dN_ext h hN hb, dN_ext h hN hc]
/-- a node as one of the adding methods makes it over the nodes before -/
def NK (P : List (List Int32)) (k a f g x y z : Int32) : Prop := ((¬ a < 0 ∧ a < 8) ∧ k = 0 ∧ f = -1 ∧ g = -1 ∧ x = -1 ∧ y = -1 ∧ z = -1) ∨ ((idP a) ∧ k = 1 ∧ f = -1 ∧ g = -1 ∧ x = -1 ∧ y = -1 ∧ z = -1) ∨ ((pfP P f) ∧ (idP a) ∧ k = 2 ∧ g = -1 ∧ x = -1 ∧ y = -1 ∧ z = -1) ∨ ((kN P f = 1 ∨ kN P f = 2) ∧ (agP P x ∧ agP P y ∧ agP P z) ∧ (¬ x = -1) ∧ (¬ gaP x y z) ∧ k = 3 ∧ a = 0 ∧ g = -1) ∨ ((k = 4 ∨ k = 5 ∨ k = 6) ∧ (tyP P f) ∧ (¬ (k = 6 ∧ kN P f = 6)) ∧ a = 0 ∧ g = -1 ∧ x = -1 ∧ y = -1 ∧ z = -1) ∨ ((tyP P f) ∧ (¬ a < 1 ∧ a ≤ 999) ∧ k = 7 ∧ g = -1 ∧ x = -1 ∧ y = -1 ∧ z = -1) ∨ ((tyP P f) ∧ (psP P x y z) ∧ k = 8 ∧ a = 0 ∧ g = -1) ∨ ((kN P f = 0 ∧ ¬ cN P f 1 = 0) ∧ (¬ a < -999999 ∧ a ≤ 999999) ∧ k = 9 ∧ g = -1 ∧ x = -1 ∧ y = -1 ∧ z = -1) ∨ ((pfP P f) ∧ (if kN P f = 3 then tyP P g else g = -1) ∧ (psP P x y z) ∧ k = 10 ∧ a = 0)
theorem NK.bi {P : List (List Int32)} {a : Int32} (h0 : ¬ a < 0 ∧ a < 8) : NK P 0 a (-1) (-1) (-1) (-1) (-1) := Or.inl ⟨h0, rfl, rfl, rfl, rfl, rfl, rfl⟩
theorem NK.nm {P : List (List Int32)} {a : Int32} (h0 : idP a) : NK P 1 a (-1) (-1) (-1) (-1) (-1) := Or.inr (Or.inl ⟨h0, rfl, rfl, rfl, rfl, rfl, rfl⟩)
theorem NK.mb {P : List (List Int32)} {a f : Int32} (h0 : pfP P f) (h1 : idP a) : NK P 2 a f (-1) (-1) (-1) (-1) := Or.inr (Or.inr (Or.inl ⟨h0, h1, rfl, rfl, rfl, rfl, rfl⟩))
theorem NK.fl {P : List (List Int32)} {f x y z : Int32} (h0 : kN P f = 1 ∨ kN P f = 2) (h1 : agP P x ∧ agP P y ∧ agP P z) (h2 : ¬ x = -1) (h3 : ¬ gaP x y z) : NK P 3 0 f (-1) x y z := Or.inr (Or.inr (Or.inr (Or.inl ⟨h0, h1, h2, h3, rfl, rfl, rfl⟩)))
theorem NK.wp {P : List (List Int32)} {k f : Int32} (h0 : k = 4 ∨ k = 5 ∨ k = 6) (h1 : tyP P f) (h2 : ¬ (k = 6 ∧ kN P f = 6)) : NK P k 0 f (-1) (-1) (-1) (-1) := Or.inr (Or.inr (Or.inr (Or.inr (Or.inl ⟨h0, h1, h2, rfl, rfl, rfl, rfl, rfl⟩))))
theorem NK.ar {P : List (List Int32)} {a f : Int32} (h0 : tyP P f) (h1 : ¬ a < 1 ∧ a ≤ 999) : NK P 7 a f (-1) (-1) (-1) (-1) := Or.inr (Or.inr (Or.inr (Or.inr (Or.inr (Or.inl ⟨h0, h1, rfl, rfl, rfl, rfl, rfl⟩)))))
theorem NK.fn {P : List (List Int32)} {f x y z : Int32} (h0 : tyP P f) (h1 : psP P x y z) : NK P 8 0 f (-1) x y z := Or.inr (Or.inr (Or.inr (Or.inr (Or.inr (Or.inr (Or.inl ⟨h0, h1, rfl, rfl, rfl⟩))))))
theorem NK.li {P : List (List Int32)} {a f : Int32} (h0 : kN P f = 0 ∧ ¬ cN P f 1 = 0) (h1 : ¬ a < -999999 ∧ a ≤ 999999) : NK P 9 a f (-1) (-1) (-1) (-1) := Or.inr (Or.inr (Or.inr (Or.inr (Or.inr (Or.inr (Or.inr (Or.inl ⟨h0, h1, rfl, rfl, rfl, rfl, rfl⟩)))))))
theorem NK.en {P : List (List Int32)} {f g x y z : Int32} (h0 : pfP P f) (h1 : if kN P f = 3 then tyP P g else g = -1) (h2 : psP P x y z) : NK P 10 0 f g x y z := Or.inr (Or.inr (Or.inr (Or.inr (Or.inr (Or.inr (Or.inr (Or.inr (⟨h0, h1, h2, rfl, rfl⟩))))))))
theorem NK.cs {P : List (List Int32)} {motive : (k a f g x y z : Int32) → NK P k a f g x y z → Prop} (bi : ∀ {a : Int32} (h0 : ¬ a < 0 ∧ a < 8), motive 0 a (-1) (-1) (-1) (-1) (-1) (NK.bi h0)) (nm : ∀ {a : Int32} (h0 : idP a), motive 1 a (-1) (-1) (-1) (-1) (-1) (NK.nm h0)) (mb : ∀ {a f : Int32} (h0 : pfP P f) (h1 : idP a), motive 2 a f (-1) (-1) (-1) (-1) (NK.mb h0 h1)) (fl : ∀ {f x y z : Int32} (h0 : kN P f = 1 ∨ kN P f = 2) (h1 : agP P x ∧ agP P y ∧ agP P z) (h2 : ¬ x = -1) (h3 : ¬ gaP x y z), motive 3 0 f (-1) x y z (NK.fl h0 h1 h2 h3)) (wp : ∀ {k f : Int32} (h0 : k = 4 ∨ k = 5 ∨ k = 6) (h1 : tyP P f) (h2 : ¬ (k = 6 ∧ kN P f = 6)), motive k 0 f (-1) (-1) (-1) (-1) (NK.wp h0 h1 h2)) (ar : ∀ {a f : Int32} (h0 : tyP P f) (h1 : ¬ a < 1 ∧ a ≤ 999), motive 7 a f (-1) (-1) (-1) (-1) (NK.ar h0 h1)) (fn : ∀ {f x y z : Int32} (h0 : tyP P f) (h1 : psP P x y z), motive 8 0 f (-1) x y z (NK.fn h0 h1)) (li : ∀ {a f : Int32} (h0 : kN P f = 0 ∧ ¬ cN P f 1 = 0) (h1 : ¬ a < -999999 ∧ a ≤ 999999), motive 9 a f (-1) (-1) (-1) (-1) (NK.li h0 h1)) (en : ∀ {f g x y z : Int32} (h0 : pfP P f) (h1 : if kN P f = 3 then tyP P g else g = -1) (h2 : psP P x y z), motive 10 0 f g x y z (NK.en h0 h1 h2)) {k a f g x y z : Int32} (h : NK P k a f g x y z) : motive k a f g x y z h := by
  rcases h with ⟨h0, e0, e1, e2, e3, e4, e5⟩ | ⟨h0, e0, e1, e2, e3, e4, e5⟩ | ⟨h0, h1, e0, e1, e2, e3, e4⟩ | ⟨h0, h1, h2, h3, e0, e1, e2⟩ | ⟨h0, h1, h2, e0, e1, e2, e3, e4⟩ | ⟨h0, h1, e0, e1, e2, e3, e4⟩ | ⟨h0, h1, e0, e1, e2⟩ | ⟨h0, h1, e0, e1, e2, e3, e4⟩ | ⟨h0, h1, h2, e0, e1⟩
  · subst e0; subst e1; subst e2; subst e3; subst e4; subst e5; exact bi h0
  · subst e0; subst e1; subst e2; subst e3; subst e4; subst e5; exact nm h0
  · subst e0; subst e1; subst e2; subst e3; subst e4; exact mb h0 h1
  · subst e0; subst e1; subst e2; exact fl h0 h1 h2 h3
  · subst e0; subst e1; subst e2; subst e3; subst e4; exact wp h0 h1 h2
  · subst e0; subst e1; subst e2; subst e3; subst e4; exact ar h0 h1
  · subst e0; subst e1; subst e2; exact fn h0 h1
  · subst e0; subst e1; subst e2; subst e3; subst e4; exact li h0 h1
  · subst e0; subst e1; exact en h0 h1 h2
theorem ty_vd {N : List (List Int32)} (hN : N.length ≤ 1000) {x : Int32} (h : tyP N x) : Vd N x := kN_vd hN (w := 0) (fun e => h.1 (by show cN N x 0 < 0; rw [e]; decide))
theorem pf_vd {N : List (List Int32)} (hN : N.length ≤ 1000) {x : Int32} (h : pfP N x) : Vd N x := kN_vd hN (w := 0) (fun e => h.1 (by show cN N x 0 < 1; rw [e]; decide))
theorem eq_vd {N : List (List Int32)} (hN : N.length ≤ 1000) {x k : Int32} (hk : ¬ k = -1) (h : kN N x = k) : Vd N x := kN_vd hN (w := 0) (fun e => hk (h.symm.trans e))
theorem ag_vo {N : List (List Int32)} (hN : N.length ≤ 1000) {x : Int32} (h : agP N x) : Vo N x := by
  rcases h with h | h | h
  · exact Or.inl h
  · exact Or.inr (ty_vd hN h)
  · exact Or.inr (eq_vd hN (by decide) h)
theorem pa_vo {N : List (List Int32)} (hN : N.length ≤ 1000) {x : Int32} (h : paP N x) : Vo N x := by
  rcases h with h | h
  · exact Or.inr (eq_vd hN (by decide) h.1)
  · rcases h.2 with h | h
    · exact Or.inl h
    · exact Or.inr (kN_vd hN (w := 0) (fun e => h.1 (by show cN N x 0 ≤ 0; rw [e]; decide)))
theorem no_vo (N : List (List Int32)) : Vo N (-1) := Or.inl rfl
theorem NK.vo {P : List (List Int32)} (hP : P.length ≤ 1000) {k a f g x y z : Int32} (h : NK P k a f g x y z) : Vo P f ∧ Vo P g ∧ Vo P x ∧ Vo P y ∧ Vo P z := by
  have n := no_vo P
  cases h using NK.cs with
  | bi _ => exact ⟨n, n, n, n, n⟩
  | nm _ => exact ⟨n, n, n, n, n⟩
  | mb h _ => exact ⟨Or.inr (pf_vd hP h), n, n, n, n⟩
  | fl h q _ _ => exact ⟨Or.inr (h.elim (eq_vd hP (by decide)) (eq_vd hP (by decide))), n, ag_vo hP q.1, ag_vo hP q.2.1, ag_vo hP q.2.2⟩
  | wp _ h _ => exact ⟨Or.inr (ty_vd hP h), n, n, n, n⟩
  | ar h _ => exact ⟨Or.inr (ty_vd hP h), n, n, n, n⟩
  | fn h q => exact ⟨Or.inr (ty_vd hP h), n, pa_vo hP q.1.1, pa_vo hP q.1.2.1, pa_vo hP q.1.2.2⟩
  | li h _ => exact ⟨Or.inr (eq_vd hP (by decide) h.1), n, n, n, n⟩
  | en h g q =>
    refine ⟨Or.inr (pf_vd hP h), ?_, pa_vo hP q.1.1, pa_vo hP q.1.2.1, pa_vo hP q.1.2.2⟩
    by_cases w : kN P f = 3
    · rw [if_pos w] at g; exact Or.inr (ty_vd hP g)
    · rw [if_neg w] at g; exact Or.inl g
/-- all nodes are well made -/
def WN (N : List (List Int32)) : Prop := N.length ≤ 300 ∧ ∀ i, (hi : i < N.length) → ∃ k a f g x y z, N[i] = [k, a, f, g, x, y, z, dmN (N.take i) f g x y z + 1] ∧ NK (N.take i) k a f g x y z ∧ dmN (N.take i) f g x y z < 16
theorem take_pre {N : List (List Int32)} (i : Nat) : N.take i <+: N := List.take_prefix i N
/-- a node's cells over all nodes -/
theorem WN.get {N : List (List Int32)} (h : WN N) {i : Nat} (hi : i < N.length) : ∃ k a f g x y z, N[i] = [k, a, f, g, x, y, z, dmN N f g x y z + 1] ∧ NK (N.take i) k a f g x y z ∧ dmN N f g x y z < 16 := by
  obtain ⟨hl, h⟩ := h
  obtain ⟨k, a, f, g, x, y, z, e, nk, hd⟩ := h i hi
  obtain ⟨v1, v2, v3, v4, v5⟩ := nk.vo (by rw [List.length_take]; omega)
  have e2 := dmN_ext (take_pre i) (by omega) v1 v2 v3 v4 v5
  exact ⟨k, a, f, g, x, y, z, by rw [e, e2], nk, by rw [e2]; exact hd⟩
theorem mx_N {a b : Nat} (ha : a < 2 ^ 30) (hb : b < 2 ^ 30) : mx (nI a) (nI b) = nI (max a b) := by
  unfold mx
  by_cases h : a < b
  · rw [if_pos (nI_lt h (by omega)), Nat.max_eq_right (by omega)]
  · rw [if_neg (by rw [nI_ltI (by omega) (by omega)]; exact h), Nat.max_eq_left (by omega)]
theorem lt16 {x : Int32} (n : Nat) (hx : x = nI n) (hn : n < 2 ^ 30) : x < 16 ↔ n < 16 := by
  rw [hx, show (16 : Int32) = nI 16 from by decide, nI_ltI (by omega) (by omega)]
/-- depths as numbers: by how far a node lies back -/
theorem dep_nat {N : List (List Int32)} (h : WN N) : ∀ i, i < N.length → ∃ e : Nat, 1 ≤ e ∧ e ≤ 16 ∧ cN N (nI i) 7 = nI e := by
  have key : ∀ n i, i < n → (hi : i < N.length) → ∃ e : Nat, 1 ≤ e ∧ e ≤ 16 ∧ cN N (nI i) 7 = nI e := by
    intro n
    induction n with
    | zero => intro i h; omega
    | succ n ih =>
      intro i _ hi
      obtain ⟨hl, h⟩ := h
      obtain ⟨k, a, f, g, x, y, z, e, nk, hd⟩ := h i hi
      have hlt : (N.take i).length = i := by rw [List.length_take]; omega
      obtain ⟨v1, v2, v3, v4, v5⟩ := nk.vo (by omega)
      have dv : ∀ u, Vo (N.take i) u → ∃ e : Nat, e ≤ 16 ∧ dN (N.take i) u = nI e := by
        intro u hu
        unfold dN
        rcases hu with rfl | ⟨j, hj, rfl⟩
        · exact ⟨0, by omega, by rw [cN_none]; decide⟩
        · rw [hlt] at hj
          obtain ⟨e, e1, e2, e3⟩ := ih j (by omega) (by omega)
          rw [← cN_ext (take_pre i) (by omega) (Or.inr ⟨j, by omega, rfl⟩), e3, show (0 : Int32) = nI 0 from by decide, mx_N (by omega) (by omega)]
          exact ⟨_, by omega, rfl⟩
      obtain ⟨a1, b1, c1⟩ := dv f v1
      obtain ⟨a2, b2, c2⟩ := dv g v2
      obtain ⟨a3, b3, c3⟩ := dv x v3
      obtain ⟨a4, b4, c4⟩ := dv y v4
      obtain ⟨a5, b5, c5⟩ := dv z v5
      have hm : dmN (N.take i) f g x y z = nI (max (max a1 a2) (max a3 (max a4 a5))) := by
        unfold dmN
        rw [c1, c2, c3, c4, c5, mx_N (by omega) (by omega), mx_N (by omega) (by omega), mx_N (by omega) (by omega), mx_N (by omega) (by omega)]
      have hb := (lt16 _ hm (by omega)).mp hd
      refine ⟨max (max a1 a2) (max a3 (max a4 a5)) + 1, by omega, by omega, ?_⟩
      rw [cN_nI (by omega) hi, e, hm, nI_1]
      rfl
  intro i hi
  exact key (i + 1) i (by omega) hi
theorem dN_nat {N : List (List Int32)} (h : WN N) {u : Int32} (hu : Vo N u) : ∃ e : Nat, e ≤ 16 ∧ dN N u = nI e ∧ ∀ m : Nat, m ≤ 100 → dpr N (nI (m + 1)) u = nI (max m e + 1) := by
  rcases hu with rfl | ⟨j, hj, rfl⟩
  · refine ⟨0, by omega, by unfold dN; rw [cN_none]; decide, fun m hm => ?_⟩
    unfold dpr
    rw [if_neg (fun q => absurd q.1 (by decide)), Nat.max_eq_left (Nat.zero_le _)]
  · obtain ⟨e, e1, e2, e3⟩ := dep_nat h j hj
    have hl := h.1
    refine ⟨e, e2, ?_, fun m hm => ?_⟩
    · unfold dN
      rw [e3, show (0 : Int32) = nI 0 from by decide, mx_N (by omega) (by omega)]
      exact congrArg nI (by omega)
    · unfold dpr
      rw [e3]
      by_cases q : m + 1 ≤ e
      · rw [if_pos ⟨nI_pos' (by omega), nI_le q (by omega)⟩, nI_1]
        exact congrArg nI (by omega)
      · rw [if_neg (fun u => q ((nI_leI (by omega) (by omega)).mp u.2))]
        exact congrArg nI (by omega)
/-- the depth of what is made -/
theorem dm_nat {N : List (List Int32)} (h : WN N) {f g a b c : Int32} (hf : Vo N f) (hg : Vo N g) (ha : Vo N a) (hb : Vo N b) (hc : Vo N c) : ∃ m : Nat, m ≤ 16 ∧ dmN N f g a b c = nI m ∧ dpM N f g a b c = nI (m + 1) := by
  obtain ⟨a1, b1, c1, d1⟩ := dN_nat h hf
  obtain ⟨a2, b2, c2, d2⟩ := dN_nat h hg
  obtain ⟨a3, b3, c3, d3⟩ := dN_nat h ha
  obtain ⟨a4, b4, c4, d4⟩ := dN_nat h hb
  obtain ⟨a5, b5, c5, d5⟩ := dN_nat h hc
  refine ⟨max (max a1 a2) (max a3 (max a4 a5)), by omega, ?_, ?_⟩
  · unfold dmN
    rw [c1, c2, c3, c4, c5, mx_N (by omega) (by omega), mx_N (by omega) (by omega), mx_N (by omega) (by omega), mx_N (by omega) (by omega)]
  · unfold dpM
    rw [show (1 : Int32) = nI (0 + 1) from by decide, d1 _ (by omega), d2 _ (by omega), d3 _ (by omega), d4 _ (by omega), d5 _ (by omega)]
    exact congrArg nI (by omega)
theorem findIdx_cg {α : Type} {p q : α → Bool} {l : List α} (h : ∀ u, u ∈ l → p u = q u) : l.findIdx p = l.findIdx q := by
  induction l with
  | nil => rfl
  | cons u l ih =>
    rw [List.findIdx_cons, List.findIdx_cons, h u (List.mem_cons_self ..), ih (fun v hv => h v (List.mem_cons_of_mem _ hv))]
theorem ndM_eq {N : List (List Int32)} (h : WN N) {k v f g a b c : Int32} (hf : Vo N f) (hg : Vo N g) (ha : Vo N a) (hb : Vo N b) (hc : Vo N c) : ndM N k v f g a b c = mkN N [k, v, f, g, a, b, c, dmN N f g a b c + 1] := by
  obtain ⟨m, hm, e1, e2⟩ := dm_nat h hf hg ha hb hc
  have e3 : dpM N f g a b c = dmN N f g a b c + 1 := by rw [e1, e2, nI_1]
  have ei : ixM N k v f g a b c = ixN N [k, v, f, g, a, b, c, dmN N f g a b c + 1] := by
    unfold ixM ixN
    refine findIdx_cg (fun u hu => ?_)
    obtain ⟨i, hi, rfl⟩ := List.getElem_of_mem hu
    obtain ⟨k', a', f', g', x, y, z, e, _, _⟩ := h.get hi
    rw [e]
    refine decide_eq_decide.mpr ⟨fun q => ?_, fun q => ?_⟩
    · have q : [k', a', f', g', x, y, z] = [k, v, f, g, a, b, c] := q
      cases q; rfl
    · rw [q]; rfl
  unfold ndM mkN
  rw [ei, e3]
/-- the new node's cells, and that all stays well made -/
theorem mkN_wn {N : List (List Int32)} (h : WN N) (hl : N.length < 300) {k v f g a b c : Int32} (nk : NK N k v f g a b c) (hd : dmN N f g a b c < 16) : let q := mkN N [k, v, f, g, a, b, c, dmN N f g a b c + 1]; WN q.2 ∧ N <+: q.2 ∧ q.2.length ≤ N.length + 1 ∧ Vd q.2 q.1 ∧ nth q.2 q.1 = [k, v, f, g, a, b, c, dmN N f g a b c + 1] := by
  intro q
  have hq : q = mkN N [k, v, f, g, a, b, c, dmN N f g a b c + 1] := rfl
  unfold mkN at hq
  by_cases w : ixN N [k, v, f, g, a, b, c, dmN N f g a b c + 1] < N.length
  · rw [if_pos w] at hq
    rw [hq]
    refine ⟨h, List.prefix_refl _, by simp [mOr_wr, mEx_wr, mAv_wr, mEn_wr, mBe_wr, mK_wr, mWr_wr], ⟨_, w, rfl⟩, ?_⟩
    have hb : N.length < 2 ^ 31 := by omega
    show nth N (nI (ixN N _)) = _
    unfold nth
    rw [if_pos ⟨nI_pos' (by omega), nI_lt w hb⟩, nI_clamp (by omega), List.getD_eq_getElem?_getD, List.getElem?_eq_getElem w]
    have := List.findIdx_getElem (w := w)
    exact of_decide_eq_true this
  · rw [if_neg w] at hq
    have hi : ixN N [k, v, f, g, a, b, c, dmN N f g a b c + 1] = N.length := Nat.le_antisymm (List.findIdx_le_length) (by omega)
    rw [hq, hi]
    refine ⟨⟨by simp [mOr_wr, mEx_wr, mAv_wr, mEn_wr, mBe_wr, mK_wr, mWr_wr]; omega, fun i hi => ?_⟩, List.prefix_append _ _, by simp [mOr_wr, mEx_wr, mAv_wr, mEn_wr, mBe_wr, mK_wr, mWr_wr], ⟨N.length, by simp [mOr_wr, mEx_wr, mAv_wr, mEn_wr, mBe_wr, mK_wr, mWr_wr], rfl⟩, ?_⟩
    · by_cases u : i < N.length
      · obtain ⟨k', a', f', g', x, y, z, e, nk', hd'⟩ := h.2 i u
        refine ⟨k', a', f', g', x, y, z, ?_, ?_, ?_⟩
        · rw [List.getElem_append_left u, List.take_append_of_le_length (by omega)]; exact e
        · rw [List.take_append_of_le_length (by omega)]; exact nk'
        · rw [List.take_append_of_le_length (by omega)]; exact hd'
      · have : i = N.length := by simp [mOr_wr, mEx_wr, mAv_wr, mEn_wr, mBe_wr, mK_wr, mWr_wr] at hi; omega
        subst this
        refine ⟨k, v, f, g, a, b, c, ?_, ?_, ?_⟩
        · rw [List.getElem_append_right (by omega), List.take_left]; simp [mOr_wr, mEx_wr, mAv_wr, mEn_wr, mBe_wr, mK_wr, mWr_wr]
        · rw [List.take_left]; exact nk
        · rw [List.take_left]; exact hd
    · unfold nth
      rw [if_pos ⟨nI_pos' (by omega), nI_lt (by simp [mOr_wr, mEx_wr, mAv_wr, mEn_wr, mBe_wr, mK_wr, mWr_wr]) (by simp [mOr_wr, mEx_wr, mAv_wr, mEn_wr, mBe_wr, mK_wr, mWr_wr]; omega)⟩, nI_clamp (by omega), List.getD_eq_getElem?_getD]
      simp [mOr_wr, mEx_wr, mAv_wr, mEn_wr, mBe_wr, mK_wr, mWr_wr]
theorem mkN_nth (N : List (List Int32)) (v : List Int32) (hl : N.length ≤ 1000) : nth (mkN N v).2 (mkN N v).1 = v := by
  have hb : N.length < 2 ^ 31 := by omega
  unfold mkN
  by_cases w : ixN N v < N.length
  · rw [if_pos w]
    show nth N (nI (ixN N _)) = _
    unfold nth
    rw [if_pos ⟨nI_pos' (by omega), nI_lt w hb⟩, nI_clamp (by omega), List.getD_eq_getElem?_getD, List.getElem?_eq_getElem w]
    have := List.findIdx_getElem (w := w)
    exact of_decide_eq_true this
  · rw [if_neg w]
    have hi : ixN N v = N.length := Nat.le_antisymm (List.findIdx_le_length) (by omega)
    rw [hi]
    show nth (N ++ [v]) (nI N.length) = v
    unfold nth
    rw [if_pos ⟨nI_pos' (by omega), nI_lt (by simp [mOr_wr, mEx_wr, mAv_wr, mEn_wr, mBe_wr, mK_wr, mWr_wr]) (by simp [mOr_wr, mEx_wr, mAv_wr, mEn_wr, mBe_wr, mK_wr, mWr_wr]; omega)⟩, nI_clamp (by omega), List.getD_eq_getElem?_getD]
    simp [mOr_wr, mEx_wr, mAv_wr, mEn_wr, mBe_wr, mK_wr, mWr_wr]
abbrev AO (N : List (List Int32)) (k v f g a b c : Int32) (q : Int32 × List (List Int32)) : Prop := (WN q.2) ∧ (N <+: q.2) ∧ (q.2.length ≤ N.length + 1) ∧ (Vd q.2 q.1) ∧ (nth q.2 q.1 = [k, v, f, g, a, b, c, dmN N f g a b c + 1])
theorem AO.w {N : List (List Int32)} {k v f g a b c : Int32} {q : Int32 × List (List Int32)} (h_ : AO N k v f g a b c q) : WN q.2 := h_.1
theorem AO.e {N : List (List Int32)} {k v f g a b c : Int32} {q : Int32 × List (List Int32)} (h_ : AO N k v f g a b c q) : N <+: q.2 := h_.2.1
theorem AO.l {N : List (List Int32)} {k v f g a b c : Int32} {q : Int32 × List (List Int32)} (h_ : AO N k v f g a b c q) : q.2.length ≤ N.length + 1 := h_.2.2.1
theorem AO.d {N : List (List Int32)} {k v f g a b c : Int32} {q : Int32 × List (List Int32)} (h_ : AO N k v f g a b c q) : Vd q.2 q.1 := h_.2.2.2.1
theorem AO.c {N : List (List Int32)} {k v f g a b c : Int32} {q : Int32 × List (List Int32)} (h_ : AO N k v f g a b c q) : nth q.2 q.1 = [k, v, f, g, a, b, c, dmN N f g a b c + 1] := h_.2.2.2.2
theorem AO.c0 {N : List (List Int32)} {k v f g a b c : Int32} {q : Int32 × List (List Int32)} (h : AO N k v f g a b c q) : cN q.2 q.1 0 = k := by unfold cN; rw [h.c]; rfl
theorem AO.c1 {N : List (List Int32)} {k v f g a b c : Int32} {q : Int32 × List (List Int32)} (h : AO N k v f g a b c q) : cN q.2 q.1 1 = v := by unfold cN; rw [h.c]; rfl
theorem AO.c2 {N : List (List Int32)} {k v f g a b c : Int32} {q : Int32 × List (List Int32)} (h : AO N k v f g a b c q) : cN q.2 q.1 2 = f := by unfold cN; rw [h.c]; rfl
theorem AO.c7 {N : List (List Int32)} {k v f g a b c : Int32} {q : Int32 × List (List Int32)} (h : AO N k v f g a b c q) : cN q.2 q.1 7 = dmN N f g a b c + 1 := by unfold cN; rw [h.c]; rfl
theorem addN_inr {N : List (List Int32)} {k v f g a b c : Int32} {q : Int32 × List (List Int32)} (h : addN N k v f g a b c = .inr q) : dmN N f g a b c < 16 ∧ N.length < 180 ∧ q = mkN N [k, v, f, g, a, b, c, dmN N f g a b c + 1] := by
  unfold addN at h
  by_cases h1 : dmN N f g a b c < 16
  · rw [if_pos h1] at h
    by_cases h2 : N.length < 180
    · rw [if_pos h2] at h; cases h; exact ⟨h1, h2, rfl⟩
    · rw [if_neg h2] at h; cases h
  · rw [if_neg h1] at h; cases h
theorem addN_ao {N : List (List Int32)} (hW : WN N) {k v f g a b c : Int32} (nk : NK N k v f g a b c) {q : Int32 × List (List Int32)} (h : addN N k v f g a b c = .inr q) : AO N k v f g a b c q := by
  obtain ⟨h1, h2, rfl⟩ := addN_inr h
  obtain ⟨a1, a2, a3, a4, a5⟩ := mkN_wn hW (by omega) nk h1
  exact ⟨a1, a2, a3, a4, a5⟩
section
variable {L : List Int32} {z : MS} {K : List FR} {s : RS}
theorem mMk_ok (hW : WN s.1) {k v f g a b c : Int32} (hf : Vo s.1 f) (hg : Vo s.1 g) (ha : Vo s.1 a) (hb : Vo s.1 b) (hc : Vo s.1 c) {q : Int32 × List (List Int32)} (h : addN s.1 k v f g a b c = .inr q) : mMk k v f g a b c (rs z s K) = (q.1, rs z (q.2, s.2) K) := by
  obtain ⟨h1, h2, rfl⟩ := addN_inr h
  unfold mMk
  rw [if_neg (by show ¬ (false = true); decide)]
  show ((ndM s.1 k v f g a b c).1, _) = _
  have e : ndM (rs z s K).N k v f g a b c = mkN s.1 [k, v, f, g, a, b, c, dmN s.1 f g a b c + 1] := ndM_eq hW hf hg ha hb hc
  have e2 : ndM s.1 k v f g a b c = mkN s.1 [k, v, f, g, a, b, c, dmN s.1 f g a b c + 1] := e
  rw [e, e2]
  have hn := mkN_nth s.1 [k, v, f, g, a, b, c, dmN s.1 f g a b c + 1] (by omega)
  have h7 : cN (mkN s.1 [k, v, f, g, a, b, c, dmN s.1 f g a b c + 1]).2 (mkN s.1 [k, v, f, g, a, b, c, dmN s.1 f g a b c + 1]).1 7 = dmN s.1 f g a b c + 1 := by unfold cN; rw [hn]; rfl
  rw [h7]
  obtain ⟨m, hm, e3, _⟩ := dm_nat hW hf hg ha hb hc
  have hm16 := (lt16 m e3 (by omega)).mp h1
  rw [decide_eq_false (by rw [e3, nI_1, show (16 : Int32) = nI 16 from by decide, nI_ltI (by omega) (by omega)]; omega)]
  rfl
theorem mMk_x (hW : WN s.1) (hl : s.1.length < 180) {k v f g a b c : Int32} (hf : Vo s.1 f) (hg : Vo s.1 g) (ha : Vo s.1 a) (hb : Vo s.1 b) (hc : Vo s.1 c) {n : Nat} (h : addN s.1 k v f g a b c = .inl n) : (mMk k v f g a b c (rs z s K)).2.wr = true := by
  unfold addN at h
  by_cases h1 : dmN s.1 f g a b c < 16
  · rw [if_pos h1, if_pos hl] at h; cases h
  unfold mMk
  rw [if_neg (by show ¬ (false = true); decide)]
  have e : ndM (rs z s K).N k v f g a b c = mkN s.1 [k, v, f, g, a, b, c, dmN s.1 f g a b c + 1] := ndM_eq hW hf hg ha hb hc
  rw [e]
  have hn := mkN_nth s.1 [k, v, f, g, a, b, c, dmN s.1 f g a b c + 1] (by omega)
  have h7 : cN (mkN s.1 [k, v, f, g, a, b, c, dmN s.1 f g a b c + 1]).2 (mkN s.1 [k, v, f, g, a, b, c, dmN s.1 f g a b c + 1]).1 7 = dmN s.1 f g a b c + 1 := by unfold cN; rw [hn]; rfl
  show decide (16 < cN (mkN s.1 _).2 (mkN s.1 _).1 7) = true
  rw [h7]
  obtain ⟨m, hm, e3, _⟩ := dm_nat hW hf hg ha hb hc
  have hm16 : ¬ m < 16 := fun u => h1 ((lt16 m e3 (by omega)).mpr u)
  exact decide_eq_true (by rw [e3, nI_1, show (16 : Int32) = nI 16 from by decide, nI_ltI (by omega) (by omega)]; omega)
/-- an error of adding is the first kind, where there is room -/
theorem addN_0 {N : List (List Int32)} (hl : N.length < 180) {k v f g a b c : Int32} {n : Nat} (h : addN N k v f g a b c = .inl n) : n = 0 := by
  unfold addN at h
  by_cases h1 : dmN N f g a b c < 16
  · rw [if_pos h1, if_pos hl] at h; cases h
  · rw [if_neg h1] at h; cases h; rfl
end
theorem tyP_ext {N N' : List (List Int32)} (h : N <+: N') (hN : N'.length ≤ 1000) {x : Int32} (t : tyP N x) : tyP N' x := by
  have e := cN_ext h hN (Or.inr (ty_vd (Nat.le_trans h.length_le hN) t)) 0
  exact ⟨by show ¬ cN N' x 0 < 0; rw [e]; exact t.1, by show ¬ 8 < cN N' x 0; rw [e]; exact t.2⟩
theorem ush_nI {n : Nat} (hn : n < 2 ^ 32) (s : Int32) (k : Nat) (hs : ((s.toUInt32 &&& Int32.toUInt32 31).toBitVec % 32).toNat = k) : ush (nI n) s = nI (n / 2 ^ k) := pk_ushrN hn s k hs
theorem by_nI {n : Nat} (hn : n < 2 ^ 31) (s : Int32) (k : Nat) (hs : ((s.toUInt32 &&& Int32.toUInt32 31).toBitVec % 32).toNat = k) : byId (nI n) s = nI (n / 2 ^ k % 256) := by
  unfold byId
  have h32 : n < 2 ^ 32 := by omega
  rw [ush_nI h32 s k hs]
  exact pk_andN (Nat.lt_of_le_of_lt (Nat.div_le_self _ _) h32) 8 (by decide)
theorem z_nI {n : Nat} (hn : n < 2 ^ 31) : (nI n = 0) = (n = 0) := by
  rw [show (0 : Int32) = nI 0 from by decide, nI_eq hn (by omega)]
theorem sm_of {e : Nat} (h1 : 97 ≤ e) (h2 : e ≤ 122) : smP (nI e) := by
  constructor
  · rw [show (97 : Int32) = nI 97 from by decide, nI_ltI (by omega) (by omega)]; omega
  · rw [show (122 : Int32) = nI 122 from by decide, nI_ltI (by omega) (by omega)]; omega
theorem sm_nI' {c : Int32} (h : smP c) : ∃ e : Nat, 97 ≤ e ∧ e ≤ 122 ∧ c = nI e := by
  obtain ⟨e, he, rfl⟩ := sm_nI h
  refine ⟨e, ?_, ?_, rfl⟩
  · have := h.1; rw [show (97 : Int32) = nI 97 from by decide, nI_ltI (by omega) (by omega)] at this; omega
  · have := h.2; rw [show (122 : Int32) = nI 122 from by decide, nI_ltI (by omega) (by omega)] at this; omega
theorem idP_1 {a : Nat} (h1 : 97 ≤ a) (h2 : a ≤ 122) : idP (nI a) := by
  refine Or.inl ⟨?_, ?_⟩
  · unfold lenId; rw [ush_nI (by omega) 8 8 (by decide), if_pos (by rw [z_nI (by omega)]; omega)]
  · rw [by_nI (by omega) 0 0 (by decide), show a / 2 ^ 0 % 256 = a by omega]; exact sm_of h1 h2
theorem idP_2 {a b : Nat} (h1 : 97 ≤ a) (h2 : a ≤ 122) (h3 : 97 ≤ b) (h4 : b ≤ 122) : idP (nI (a * 256 + b)) := by
  refine Or.inr (Or.inl ⟨?_, ?_, ?_⟩)
  · unfold lenId
    rw [ush_nI (by omega) 8 8 (by decide), if_neg (by rw [z_nI (by omega)]; omega), ush_nI (by omega) 16 16 (by decide), if_pos (by rw [z_nI (by omega)]; omega)]
  · rw [by_nI (by omega) 0 0 (by decide), show (a * 256 + b) / 2 ^ 0 % 256 = b by omega]; exact sm_of h3 h4
  · rw [by_nI (by omega) 8 8 (by decide), show (a * 256 + b) / 2 ^ 8 % 256 = a by omega]; exact sm_of h1 h2
theorem idP_3 {a b c : Nat} (h1 : 97 ≤ a) (h2 : a ≤ 122) (h3 : 97 ≤ b) (h4 : b ≤ 122) (h5 : 97 ≤ c) (h6 : c ≤ 122) : idP (nI ((a * 256 + b) * 256 + c)) := by
  refine Or.inr (Or.inr ⟨?_, ?_, ?_, ?_⟩)
  · unfold lenId
    rw [ush_nI (by omega) 8 8 (by decide), if_neg (by rw [z_nI (by omega)]; omega), ush_nI (by omega) 16 16 (by decide), if_neg (by rw [z_nI (by omega)]; omega), ush_nI (by omega) 24 24 (by decide), if_pos (by rw [z_nI (by omega)]; omega)]
  · rw [by_nI (by omega) 0 0 (by decide), show ((a * 256 + b) * 256 + c) / 2 ^ 0 % 256 = c by omega]; exact sm_of h5 h6
  · rw [by_nI (by omega) 8 8 (by decide), show ((a * 256 + b) * 256 + c) / 2 ^ 8 % 256 = b by omega]; exact sm_of h3 h4
  · rw [by_nI (by omega) 16 16 (by decide), show ((a * 256 + b) * 256 + c) / 2 ^ 16 % 256 = a by omega]; exact sm_of h1 h2
theorem sh_nI {j e : Nat} (hj : j < 2 ^ 16) (he : e < 256) : (nI j <<< ((8 : Int32) &&& 31) ||| nI e) = nI (j * 256 + e) := by
  rw [pk_shlN _ 8 (by decide) (Nat.lt_of_le_of_lt (Nat.mul_le_mul_right _ (Nat.le_of_lt hj)) (by decide))]
  exact or_nI hj he
theorem rLets_s {L : List Int32} {k : Nat} {v id : Int32} {s s' : RS} (h : rLets L (k + 1) v s = .inr (id, s')) : smP (nxt L s) ∧ rLets L k (v <<< ((8 : Int32) &&& 31) ||| nxt L s) (adv s) = .inr (id, s') := by
  have h : (if smP (nxt L s) then rLets L k (v <<< ((8 : Int32) &&& 31) ||| nxt L s) (adv s) else .inl 0) = .inr (id, s') := h
  by_cases q : smP (nxt L s)
  · rw [if_pos q] at h; exact ⟨q, h⟩
  · rw [if_neg q] at h; cases h
theorem sm_at {L : List Int32} {s : RS} (h : smP (nxt L s)) : s.2.2 < L.length := by
  by_cases w : s.2.2 < L.length
  · exact w
  · have : nxt L s = -1 := by unfold nxt; rw [List.getD_eq_getElem?_getD, List.getElem?_eq_none (by omega)]; rfl
    rw [this] at h; exact absurd h.1 (by decide)
theorem c_at {L : List Int32} {s : RS} (h : ¬ nxt L s = -1) : s.2.2 < L.length := by
  by_cases w : s.2.2 < L.length
  · exact w
  · exact absurd (by unfold nxt; rw [List.getD_eq_getElem?_getD, List.getElem?_eq_none (by omega)]; rfl) h
theorem dgs_len (L : List Int32) (b : Int32) (p : Nat) : (dgs L b p).length ≤ L.length - p := by
  unfold dgs
  refine Nat.le_trans (List.takeWhile_sublist _).length_le ?_
  rw [List.length_drop]; omega
theorem rNum_p {L : List Int32} {b : Int32} {m : Nat} {s s' : RS} {v : Int32} (h : rNum L b m s = .inr (v, s')) : s'.1 = s.1 ∧ s'.2.1 = s.2.1 ∧ s.2.2 < s'.2.2 ∧ s'.2.2 ≤ L.length := by
  rw [rNum_eq] at h
  by_cases q : ((dgs L b s.2.2).take m).length = 1 ∨ (1 < ((dgs L b s.2.2).take m).length ∧ ¬ nxt L s = 48)
  · rw [if_pos q] at h
    cases h
    have := dgs_len L b s.2.2
    have h2 : ((dgs L b s.2.2).take m).length ≤ (dgs L b s.2.2).length := by rw [List.length_take]; omega
    refine ⟨rfl, rfl, ?_, ?_⟩
    · show s.2.2 < s.2.2 + _; omega
    · show s.2.2 + _ ≤ _; omega
  · rw [if_neg q] at h; cases h
theorem rId_p {L : List Int32} {s s' : RS} {x : Int32} (h : rId L s = .inr (x, s')) : idP x ∧ s'.1 = s.1 ∧ s'.2.1 = s.2.1 ∧ s.2.2 + 2 ≤ s'.2.2 ∧ s'.2.2 ≤ L.length := by
  unfold rId at h
  obtain ⟨q, h1, h⟩ := bnd_inr h
  obtain ⟨p1, p2, p3, p4⟩ := rNum_p (v := q.1) (s' := q.2) h1
  by_cases w : q.1 < 1 ∨ 3 < q.1
  · rw [if_pos w] at h; cases h
  rw [if_neg w] at h
  obtain ⟨k, hk, hk3⟩ := id_len w
  rw [hk] at h
  obtain ⟨a1, h⟩ := rLets_s h
  have t1 := sm_at a1
  obtain ⟨a, ha1, ha2, ea⟩ := sm_nI' a1
  rw [ea, show (0 : Int32) = nI 0 from by decide, sh_nI (by omega) (by omega), Nat.zero_mul, Nat.zero_add] at h
  match k, hk3, h with
  | 0, _, h =>
    cases h
    refine ⟨idP_1 ha1 ha2, p1, p2, ?_, ?_⟩
    · show s.2.2 + 2 ≤ q.2.2.2 + 1; omega
    · show q.2.2.2 + 1 ≤ _; omega
  | 1, _, h =>
    obtain ⟨a2, h⟩ := rLets_s h
    have t2 := sm_at a2
    obtain ⟨b, hb1, hb2, eb⟩ := sm_nI' a2
    rw [eb, sh_nI (by omega) (by omega)] at h
    cases h
    refine ⟨idP_2 ha1 ha2 hb1 hb2, p1, p2, ?_, ?_⟩
    · show s.2.2 + 2 ≤ q.2.2.2 + 1 + 1; omega
    · show q.2.2.2 + 1 + 1 ≤ _; exact t2
  | 2, _, h =>
    obtain ⟨a2, h⟩ := rLets_s h
    obtain ⟨b, hb1, hb2, eb⟩ := sm_nI' a2
    rw [eb, sh_nI (by omega) (by omega)] at h
    obtain ⟨a3, h⟩ := rLets_s h
    have t3 := sm_at a3
    obtain ⟨c, hc1, hc2, ec⟩ := sm_nI' a3
    rw [ec, sh_nI (by omega) (by omega)] at h
    cases h
    refine ⟨idP_3 ha1 ha2 hb1 hb2 hc1 hc2, p1, p2, ?_, ?_⟩
    · show s.2.2 + 2 ≤ q.2.2.2 + 1 + 1 + 1; omega
    · show q.2.2.2 + 1 + 1 + 1 ≤ _; exact t3
/-! the class's reading keeps its nodes and its table well made; j and k: what it has in hand -/
abbrev Iv (L : List Int32) (j k : Nat) (s : RS) : Prop := (WN s.1) ∧ (∀ x, x ∈ s.2.1 → tyP s.1 x ∧ ¬ kN s.1 x = 0) ∧ (s.2.2 ≤ L.length) ∧ (L.length ≤ 120) ∧ (s.2.1.length + j ≤ s.2.2) ∧ (s.1.length + k ≤ 60 + s.2.2)
theorem Iv.w {L : List Int32} {j k : Nat} {s : RS} (h_ : Iv L j k s) : WN s.1 := h_.1
theorem Iv.t {L : List Int32} {j k : Nat} {s : RS} (h_ : Iv L j k s) : ∀ x, x ∈ s.2.1 → tyP s.1 x ∧ ¬ kN s.1 x = 0 := h_.2.1
theorem Iv.p {L : List Int32} {j k : Nat} {s : RS} (h_ : Iv L j k s) : s.2.2 ≤ L.length := h_.2.2.1
theorem Iv.m {L : List Int32} {j k : Nat} {s : RS} (h_ : Iv L j k s) : L.length ≤ 120 := h_.2.2.2.1
theorem Iv.tl {L : List Int32} {j k : Nat} {s : RS} (h_ : Iv L j k s) : s.2.1.length + j ≤ s.2.2 := h_.2.2.2.2.1
theorem Iv.nl {L : List Int32} {j k : Nat} {s : RS} (h_ : Iv L j k s) : s.1.length + k ≤ 60 + s.2.2 := h_.2.2.2.2.2
theorem Iv.l {L : List Int32} {j k : Nat} {s : RS} (h : Iv L j k s) : s.1.length ≤ 180 := by have := h.nl; have := h.p; have := h.m; omega
theorem Iv.l' {L : List Int32} {j k : Nat} {s : RS} (h : Iv L j k s) : s.1.length ≤ 1000 := by have := h.l; omega
theorem Iv.tv {L : List Int32} {j k : Nat} {s : RS} (h : Iv L j k s) : ∀ y, y ∈ s.2.1 → 0 ≤ y := fun y hy => (ty_vd h.l' (h.t y hy).1).ne h.l' |>.1
theorem Iv.le {L : List Int32} {j k j' k' : Nat} {s : RS} (h : Iv L j k s) (hj : j' ≤ j) (hk : k' ≤ k) : Iv L j' k' s := ⟨h.w, h.t, h.p, h.m, by have := h.tl; omega, by have := h.nl; omega⟩
/-- the same nodes and table, further on -/
theorem Iv.mv {L : List Int32} {j k : Nat} {s s' : RS} (h : Iv L j k s) (n : Nat) (e1 : s'.1 = s.1) (e2 : s'.2.1 = s.2.1) (hp : s.2.2 + n ≤ s'.2.2) (hl : s'.2.2 ≤ L.length) : Iv L (j + n) (k + n) s' := by
  refine ⟨by rw [e1]; exact h.w, by rw [e1, e2]; exact h.t, hl, h.m, ?_, ?_⟩
  · rw [e2]; have := h.tl; omega
  · rw [e1]; have := h.nl; omega
theorem Iv.ad {L : List Int32} {j k : Nat} {s : RS} (h : Iv L j k s) {c : Int32} (hc : ¬ c = -1) (e : nxt L s = c) : Iv L (j + 1) (k + 1) (adv s) := h.mv 1 rfl rfl (Nat.le_refl _) (c_at (by rw [e]; exact hc))
theorem Iv.td {L : List Int32} {j k : Nat} {s : RS} (h : Iv L (j + 1) k s) {x : Int32} (hx : tyP s.1 x) (h0 : ¬ kN s.1 x = 0) : Iv L j k (tad s x) ∧ (tad s x).2.1 = s.2.1 ++ [x] := by
  have hl : s.2.1.length < 120 := by have := h.tl; have := h.p; have := h.m; omega
  have e : (tad s x).2.1 = s.2.1 ++ [x] := if_pos hl
  refine ⟨⟨h.w, ?_, h.p, h.m, ?_, h.nl⟩, e⟩
  · rw [e]
    intro y hy
    rcases List.mem_append.mp hy with hy | hy
    · exact h.t y hy
    · rw [List.mem_singleton.mp hy]; exact ⟨hx, h0⟩
  · rw [e, List.length_append]
    have := h.tl
    show s.2.1.length + 1 + j ≤ s.2.2
    omega
theorem Iv.ao {L : List Int32} {j k : Nat} {s : RS} (h : Iv L j (k + 1) s) {c v f g a b e : Int32} {q : Int32 × List (List Int32)} (o : AO s.1 c v f g a b e q) : Iv L j k (q.2, s.2) := by
  have hq : q.2.length ≤ 1000 := by have := o.l; have := h.l; omega
  refine ⟨o.w, fun x hx => ?_, h.p, h.m, h.tl, ?_⟩
  · obtain ⟨t1, t2⟩ := h.t x hx
    refine ⟨tyP_ext o.e hq t1, ?_⟩
    show ¬ cN q.2 x 0 = 0
    rw [cN_ext o.e hq (Or.inr (ty_vd h.l' t1))]
    exact t2
  · have := o.l; have := h.nl
    show q.2.length + k ≤ 60 + s.2.2
    omega
theorem lft_inr {r : Ex (Int32 × List (List Int32))} {s s' : RS} {x : Int32} (h : lft r s = .inr (x, s')) : ∃ q, r = .inr q ∧ x = q.1 ∧ s' = (q.2, s.2) := by
  obtain ⟨q, h1, h2⟩ := bnd_inr h
  cases h2
  exact ⟨q, h1, rfl, rfl⟩
theorem if_inr {α : Type} {c : Prop} [Decidable c] {r : Ex α} {n : Nat} {q : α} (h : (if c then r else .inl n) = .inr q) : c ∧ r = .inr q := by
  by_cases w : c
  · rw [if_pos w] at h; exact ⟨w, h⟩
  · rw [if_neg w] at h; cases h
section
variable {L : List Int32} {j k : Nat} {s s' : RS} {x : Int32}
theorem aBuiltin_ao {N : List (List Int32)} (hW : WN N) {k : Int32} {q : Int32 × List (List Int32)} (h : aBuiltin N k = .inr q) : AO N 0 k (-1) (-1) (-1) (-1) (-1) q := by
  obtain ⟨c, h⟩ := if_inr h
  exact addN_ao hW (.bi c) h
theorem aName_ao {N : List (List Int32)} (hW : WN N) {k : Int32} {q : Int32 × List (List Int32)} (h : aName N k = .inr q) : AO N 1 k (-1) (-1) (-1) (-1) (-1) q := by
  obtain ⟨c, h⟩ := if_inr h
  exact addN_ao hW (.nm c) h
theorem aMember_ao {N : List (List Int32)} (hW : WN N) {p k : Int32} {q : Int32 × List (List Int32)} (h : aMember N p k = .inr q) : AO N 2 k p (-1) (-1) (-1) (-1) q ∧ pfP N p := by
  obtain ⟨c, h⟩ := if_inr h
  exact ⟨addN_ao hW (.mb c.1 c.2) h, c.1⟩
theorem aFilled_ao {N : List (List Int32)} (hW : WN N) {f a b c : Int32} {q : Int32 × List (List Int32)} (h : aFilled N f a b c = .inr q) : AO N 3 0 f (-1) a b c q ∧ (kN N f = 1 ∨ kN N f = 2) := by
  obtain ⟨w, h⟩ := if_inr h
  exact ⟨addN_ao hW (.fl w.1 w.2.1 w.2.2.1 w.2.2.2) h, w.1⟩
theorem aWrapped_ao {N : List (List Int32)} (hW : WN N) {k x : Int32} {q : Int32 × List (List Int32)} (h : aWrapped N k x = .inr q) : AO N k 0 x (-1) (-1) (-1) (-1) q ∧ (k = 4 ∨ k = 5 ∨ k = 6) := by
  obtain ⟨w, h⟩ := if_inr h
  exact ⟨addN_ao hW (.wp w.1 w.2.1 w.2.2) h, w.1⟩
theorem aArray_ao {N : List (List Int32)} (hW : WN N) {x n : Int32} {q : Int32 × List (List Int32)} (h : aArray N x n = .inr q) : AO N 7 n x (-1) (-1) (-1) (-1) q := by
  obtain ⟨w, h⟩ := if_inr h
  exact addN_ao hW (.ar w.1 w.2) h
theorem aFunction_ao {N : List (List Int32)} (hW : WN N) {g a b c : Int32} {q : Int32 × List (List Int32)} (h : aFunction N g a b c = .inr q) : AO N 8 0 g (-1) a b c q := by
  obtain ⟨w, h⟩ := if_inr h
  exact addN_ao hW (.fn w.1 w.2) h
theorem aLiteral_ao {N : List (List Int32)} (hW : WN N) {x v : Int32} {q : Int32 × List (List Int32)} (h : aLiteral N x v = .inr q) : AO N 9 v x (-1) (-1) (-1) (-1) q := by
  obtain ⟨w, h⟩ := if_inr h
  exact addN_ao hW (.li w.1 w.2) h
theorem aEntity_ao {N : List (List Int32)} (hW : WN N) {f g a b c : Int32} {q : Int32 × List (List Int32)} (h : aEntity N f g a b c = .inr q) : AO N 10 0 f g a b c q := by
  obtain ⟨w, h⟩ := if_inr h
  exact addN_ao hW (.en w.1 w.2.1 w.2.2) h
theorem AO.ty {N : List (List Int32)} {k v f g a b c : Int32} {q : Int32 × List (List Int32)} (h : AO N k v f g a b c q) (hk : ¬ k < 0 ∧ ¬ 8 < k) : tyP q.2 q.1 := ⟨by show ¬ cN q.2 q.1 0 < 0; rw [h.c0]; exact hk.1, by show ¬ 8 < cN q.2 q.1 0; rw [h.c0]; exact hk.2⟩
theorem AO.k0 {N : List (List Int32)} {k v f g a b c : Int32} {q : Int32 × List (List Int32)} (h : AO N k v f g a b c q) (hk : ¬ k = 0) : ¬ kN q.2 q.1 = 0 := by show ¬ cN q.2 q.1 0 = 0; rw [h.c0]; exact hk
/-- what a step of reading leaves: in hand j and k, nodes added, further on by n at least -/
abbrev PX (L : List Int32) (j k n : Nat) (s s' : RS) : Prop := (Iv L j k s') ∧ (s.1 <+: s'.1) ∧ (s.2.2 + n ≤ s'.2.2)
theorem PX.i {L : List Int32} {j k n : Nat} {s s' : RS} (h_ : PX L j k n s s') : Iv L j k s' := h_.1
theorem PX.e {L : List Int32} {j k n : Nat} {s s' : RS} (h_ : PX L j k n s s') : s.1 <+: s'.1 := h_.2.1
theorem PX.p {L : List Int32} {j k n : Nat} {s s' : RS} (h_ : PX L j k n s s') : s.2.2 + n ≤ s'.2.2 := h_.2.2
theorem PX.trans {j' k' n n' : Nat} {s'' : RS} (a : PX L j k n s s') (b : PX L j' k' n' s' s'') : PX L j' k' (n + n') s s'' := ⟨b.i, a.e.trans b.e, by have := a.p; have := b.p; omega⟩
theorem PX.le {j' k' n n' : Nat} (a : PX L j k n s s') (hj : j' ≤ j) (hk : k' ≤ k) (hn : n' ≤ n) : PX L j' k' n' s s' := ⟨a.i.le hj hk, a.e, by have := a.p; omega⟩
theorem PX.ad (h : Iv L j k s) {c : Int32} (hc : ¬ c = -1) (e : nxt L s = c) : PX L (j + 1) (k + 1) 1 s (adv s) := ⟨h.ad hc e, List.prefix_refl _, Nat.le_refl _⟩
theorem PX.pass (h : Iv L j k s) {c : Int32} (hc : ¬ c = -1) (e : rPass L c s = .inr s') : PX L (j + 1) (k + 1) 1 s s' := by
  obtain ⟨a, rfl⟩ := rPass_ok e
  exact PX.ad h hc a
theorem PX.num {b : Int32} {m : Nat} {v : Int32} (h : Iv L j k s) (e : rNum L b m s = .inr (v, s')) : PX L (j + 1) (k + 1) 1 s s' := by
  obtain ⟨a, b, c, d⟩ := rNum_p e
  exact ⟨h.mv 1 a b c d, by rw [a]; exact List.prefix_refl _, c⟩
theorem PX.id (h : Iv L j k s) (e : rId L s = .inr (x, s')) : PX L (j + 2) (k + 2) 2 s s' ∧ idP x := by
  obtain ⟨a, b, c, d, f⟩ := rId_p e
  exact ⟨⟨h.mv 2 b c d f, by rw [b]; exact List.prefix_refl _, d⟩, a⟩
theorem PX.ao (h : Iv L j (k + 1) s) {c v f g a b e : Int32} {q : Int32 × List (List Int32)} (o : AO s.1 c v f g a b e q) : PX L j k 0 s (q.2, s.2) := ⟨h.ao o, o.e, Nat.le_refl _⟩
theorem PX.td (h : Iv L (j + 1) k s) (hx : tyP s.1 x) (h0 : ¬ kN s.1 x = 0) : PX L j k 0 s (tad s x) := ⟨(h.td hx h0).1, List.prefix_refl _, Nat.le_refl _⟩
theorem PX.told (h : Iv L j k s) (e : rTold L s = .inr (x, s')) : PX L (j + 2) (k + 2) 2 s s' ∧ tyP s'.1 x ∧ ¬ kN s'.1 x = 0 ∧ s'.1 = s.1 ∧ s'.2.1 = s.2.1 := by
  unfold rTold at e
  obtain ⟨s1, h1, e⟩ := bnd_inr e
  have P1 := PX.pass h (by decide) h1
  obtain ⟨_, rfl⟩ := rPass_ok h1
  obtain ⟨q, h2, e⟩ := bnd_inr e
  obtain ⟨s3, h3, e⟩ := bnd_inr e
  have P2 : PX L (j + 1) (k + 1) 0 (adv s) q.2 ∧ q.2.1 = s.1 ∧ q.2.2.1 = s.2.1 := by
    by_cases w : nxt L (adv s) = 95
    · rw [if_pos w] at h2; cases h2; exact ⟨⟨P1.i, List.prefix_refl _, Nat.le_refl _⟩, rfl, rfl⟩
    · rw [if_neg w] at h2
      obtain ⟨v, h4, h5⟩ := bnd_inr h2
      cases h5
      obtain ⟨a, b, _, _⟩ := rNum_p (v := v.1) (s' := v.2) h4
      exact ⟨(PX.num (v := v.1) (s' := v.2) P1.i h4).le (by omega) (by omega) (by omega), a, b⟩
  have P3 := PX.pass P2.1.i (by decide) h3
  obtain ⟨_, rfl⟩ := rPass_ok h3
  by_cases ht : tat (adv q.2).2.1 q.1 = -1
  · rw [if_pos ht] at e; cases e
  rw [if_neg ht] at e
  cases e
  obtain ⟨i, hi, _, hv⟩ := tat_ok (by have := P3.i.tl; have := P3.i.p; have := P3.i.m; omega) ht
  have hm : tat (adv q.2).2.1 q.1 ∈ (adv q.2).2.1 := by
    rw [hv, List.getD_eq_getElem?_getD, List.getElem?_eq_getElem hi]
    exact List.getElem_mem hi
  have := P3.i.t _ hm
  exact ⟨((P1.trans P2.1).trans P3).le (by omega) (by omega) (by omega), this.1, this.2, P2.2.1, P2.2.2⟩
end
section
variable {L : List Int32} {j k : Nat} {s s' : RS} {x : Int32} {rec : RS → Ex (Int32 × RS)}
theorem bol_ne {c : Int32} (h : ¬ bolF c = -1) : ¬ c = -1 := fun e => h (by rw [e]; decide)
theorem PX.lit2 {b : Int32} {neg : Bool} (h : Iv L j k s) (e : rLit2 L b neg s = .inr (x, s')) : PX L (j + 1) (k + 1) 2 s s' ∧ kN s'.1 x = 9 := by
  unfold rLit2 at e
  obtain ⟨z, h1, e⟩ := bnd_inr e
  have P1 := PX.num (v := z.1) (s' := z.2) h h1
  by_cases w : neg = true ∧ z.1 = 0
  · rw [if_pos w] at e; cases e
  rw [if_neg w] at e
  obtain ⟨s5, h2, e⟩ := bnd_inr e
  have P2 := PX.pass P1.i (by decide) h2
  obtain ⟨q, h3, rfl, rfl⟩ := lft_inr e
  have o := aLiteral_ao P2.i.w h3
  exact ⟨((P1.trans P2).trans (PX.ao P2.i o)).le (by omega) (by omega) (by omega), o.c0⟩
theorem PX.lit (h : Iv L j k s) (e : rLit L s = .inr (x, s')) : PX L (j + 1) (k + 1) 4 s s' ∧ kN s'.1 x = 9 := by
  unfold rLit at e
  obtain ⟨s1, h1, e⟩ := bnd_inr e
  have P1 := PX.pass h (by decide) h1
  by_cases w : bolF (nxt L s1) = -1
  · rw [if_pos w] at e; cases e
  rw [if_neg w] at e
  have P2 := PX.ad P1.i (bol_ne w) rfl
  obtain ⟨q, h2, e⟩ := bnd_inr e
  obtain ⟨q', h3, e1, e2⟩ := lft_inr (x := q.1) (s' := q.2) h2
  have o := aBuiltin_ao P2.i.w h3
  have P3 := PX.ao P2.i o
  rw [← e2] at P3
  have P4 := (P1.trans P2).trans P3
  by_cases u : nxt L q.2 = 110
  · rw [if_pos u] at e
    have P5 := PX.ad P4.i (by decide) u
    obtain ⟨P6, c⟩ := PX.lit2 P5.i e
    exact ⟨((P4.trans P5).trans P6).le (by omega) (by omega) (by omega), c⟩
  · rw [if_neg u] at e
    obtain ⟨P6, c⟩ := PX.lit2 P4.i e
    exact ⟨(P4.trans P6).le (by omega) (by omega) (by omega), c⟩
/-- what is asked of the reading of types inside -/
def RI (L : List Int32) (rec : RS → Ex (Int32 × RS)) : Prop := ∀ (j k : Nat) (s : RS) (x : Int32) (s' : RS), Iv L j k s → rec s = .inr (x, s') → PX L j k 1 s s' ∧ tyP s'.1 x
/-- an argument: a type or a literal -/
abbrev arP (N : List (List Int32)) (x : Int32) : Prop := tyP N x ∨ kN N x = 9
theorem PX.arg (hr : RI L rec) (h : Iv L j k s) (e : rArg L rec s = .inr (x, s')) : PX L j k 1 s s' ∧ arP s'.1 x := by
  unfold rArg at e
  by_cases w : nxt L s = 76
  · rw [if_pos w] at e
    obtain ⟨P, c⟩ := PX.lit h e
    exact ⟨P.le (by omega) (by omega) (by omega), Or.inr c⟩
  · rw [if_neg w] at e
    obtain ⟨P, c⟩ := hr _ _ _ _ _ h e
    exact ⟨P, Or.inl c⟩
theorem PX.arg' (hr : RI L rec) (h : Iv L j k s) (e : rArg' L rec s = .inr (x, s')) : PX L j k 0 s s' ∧ (x = -1 ∨ arP s'.1 x) := by
  unfold rArg' at e
  by_cases w : nxt L s = 69
  · rw [if_pos w] at e; cases e; exact ⟨⟨h, List.prefix_refl _, Nat.le_refl _⟩, Or.inl rfl⟩
  · rw [if_neg w] at e
    obtain ⟨P, c⟩ := PX.arg hr h e
    exact ⟨P.le (by omega) (by omega) (by omega), Or.inr c⟩
theorem PX.fill (hr : RI L rec) {n : Int32} (h : Iv L j k s) (e : rFill L rec n s = .inr (x, s')) : PX L (j + 2) (k + 1) 3 s s' ∧ kN s'.1 x = 3 ∧ cN s'.1 x 2 = n ∧ (kN s'.1 n = 1 ∨ kN s'.1 n = 2) := by
  unfold rFill at e
  obtain ⟨s1, h1, e⟩ := bnd_inr e
  have P1 := PX.pass h (by decide) h1
  obtain ⟨a, h2, e⟩ := bnd_inr e
  have P2 := (PX.arg (x := a.1) (s' := a.2) hr P1.i h2).1
  obtain ⟨b, h3, e⟩ := bnd_inr e
  have P3 := (PX.arg' (x := b.1) (s' := b.2) hr P2.i h3).1
  obtain ⟨c, h4, e⟩ := bnd_inr e
  have P4 := (PX.arg' (x := c.1) (s' := c.2) hr P3.i h4).1
  obtain ⟨s5, h5, e⟩ := bnd_inr e
  have P5 := PX.pass P4.i (by decide) h5
  obtain ⟨q, h6, rfl, rfl⟩ := lft_inr e
  obtain ⟨o, w⟩ := aFilled_ao P5.i.w h6
  have P6 := PX.ao P5.i o
  refine ⟨(((((P1.trans P2).trans P3).trans P4).trans P5).trans P6).le (by omega) (by omega) (by omega), o.c0, o.c2, ?_⟩
  have hv : Vo s5.1 n := Or.inr (w.elim (eq_vd P5.i.l' (by decide)) (eq_vd P5.i.l' (by decide)))
  show cN q.2 n 0 = 1 ∨ cN q.2 n 0 = 2
  rw [cN_ext o.e P6.i.l' hv]
  exact w
theorem PX.start (h : Iv L j k s) (e : rStart L s = .inr (x, s')) : PX L (j + 1) (k + 1) 2 s s' ∧ tyP s'.1 x ∧ ¬ kN s'.1 x = 0 := by
  unfold rStart at e
  by_cases w : nxt L s = 83
  · rw [if_pos w] at e
    obtain ⟨P, a, b, _⟩ := PX.told h e
    exact ⟨P.le (by omega) (by omega) (by omega), a, b⟩
  · rw [if_neg w] at e
    obtain ⟨q, h1, e⟩ := bnd_inr e
    obtain ⟨P1, hi⟩ := PX.id (x := q.1) (s' := q.2) h h1
    obtain ⟨n, h2, e⟩ := bnd_inr e
    obtain ⟨r, h3, e1, e2⟩ := lft_inr (x := n.1) (s' := n.2) h2
    have o := aName_ao P1.i.w h3
    have P2 := PX.ao P1.i o
    cases e
    rw [e2, e1]
    have P3 := PX.td P2.i (o.ty (by decide)) (o.k0 (by decide))
    exact ⟨((P1.trans P2).trans P3).le (by omega) (by omega) (by omega), o.ty (by decide), o.k0 (by decide)⟩
theorem PX.step (hr : RI L rec) {n : Int32} (h : Iv L j k s) (e : rStep L rec n s = .inr (x, s')) : PX L (j + 2) (k + 1) 2 s s' ∧ (kN s'.1 x = 2 ∨ kN s'.1 x = 3) ∧ cN s'.1 x 2 = n := by
  unfold rStep at e
  by_cases w : nxt L s = 73
  · rw [if_pos w] at e
    obtain ⟨P, a, b, _⟩ := PX.fill hr h e
    exact ⟨P.le (by omega) (by omega) (by omega), Or.inr a, b⟩
  · rw [if_neg w] at e
    obtain ⟨q, h1, e⟩ := bnd_inr e
    obtain ⟨P1, hi⟩ := PX.id (x := q.1) (s' := q.2) h h1
    obtain ⟨r, h3, rfl, rfl⟩ := lft_inr e
    obtain ⟨o, _⟩ := aMember_ao P1.i.w h3
    have P2 := PX.ao P1.i o
    exact ⟨(P1.trans P2).le (by omega) (by omega) (by omega), Or.inl o.c0, o.c2⟩
theorem k23 {N : List (List Int32)} {x : Int32} (h : kN N x = 2 ∨ kN N x = 3) : tyP N x ∧ ¬ kN N x = 0 := by
  refine ⟨⟨?_, ?_⟩, ?_⟩ <;> rcases h with h | h <;> rw [h] <;> decide
theorem PX.steps (hr : RI L rec) (f : Nat) : ∀ {n : Int32} {s : RS}, Iv L (j + 1) k s → (kN s.1 n = 2 ∨ kN s.1 n = 3) → rSteps L rec f n s = .inr (x, s') → PX L (j + 1) k 0 s s' ∧ (kN s'.1 x = 2 ∨ kN s'.1 x = 3) := by
  induction f with
  | zero => intro n s h hk e; cases e; exact ⟨⟨h, List.prefix_refl _, Nat.le_refl _⟩, hk⟩
  | succ f ih =>
    intro n s h hk e
    have e : (if nxt L s = 69 then .inr (n, s) else bnd (rStep L rec n (tad s n)) fun q => rSteps L rec f q.1 q.2) = .inr (x, s') := e
    by_cases w : nxt L s = 69
    · rw [if_pos w] at e; cases e; exact ⟨⟨h, List.prefix_refl _, Nat.le_refl _⟩, hk⟩
    · rw [if_neg w] at e
      obtain ⟨q, h1, e⟩ := bnd_inr e
      have P0 := PX.td h (k23 hk).1 (k23 hk).2
      obtain ⟨P1, a, _⟩ := PX.step (x := q.1) (s' := q.2) hr P0.i h1
      obtain ⟨P2, b⟩ := ih (P1.le (Nat.le_succ _) (Nat.le_succ _) (Nat.le_refl _)).i a e
      exact ⟨((P0.trans P1).trans P2).le (by omega) (by omega) (by omega), b⟩
theorem PX.nest (hr : RI L rec) (h : Iv L j k s) (e : rNest L rec s = .inr (x, s')) : PX L (j + 2) (k + 1) 5 s s' ∧ (kN s'.1 x = 2 ∨ kN s'.1 x = 3) := by
  unfold rNest at e
  obtain ⟨s1, h1, e⟩ := bnd_inr e
  have P1 := PX.pass h (by decide) h1
  obtain ⟨a, h2, e⟩ := bnd_inr e
  obtain ⟨P2, _, _⟩ := PX.start (x := a.1) (s' := a.2) P1.i h2
  obtain ⟨b, h3, e⟩ := bnd_inr e
  obtain ⟨P3, kb, _⟩ := PX.step (x := b.1) (s' := b.2) hr P2.i h3
  obtain ⟨c, h4, e⟩ := bnd_inr e
  obtain ⟨P4, kc⟩ := PX.steps (x := c.1) (s' := c.2) hr 119 P3.i kb h4
  obtain ⟨s5, h5, e⟩ := bnd_inr e
  have P5 := PX.pass P4.i (by decide) h5
  obtain ⟨_, rfl⟩ := rPass_ok h5
  by_cases w : kN (adv c.2).1 c.1 = 2 ∨ kN (adv c.2).1 (cN (adv c.2).1 c.1 2) = 2
  · rw [if_pos w] at e
    cases e
    exact ⟨((((P1.trans P2).trans P3).trans P4).trans P5).le (by omega) (by omega) (by omega), kc⟩
  · rw [if_neg w] at e; cases e
theorem k13 {N : List (List Int32)} {x : Int32} (h : kN N x = 1 ∨ kN N x = 2 ∨ kN N x = 3) : tyP N x ∧ ¬ kN N x = 0 := by
  refine ⟨⟨?_, ?_⟩, ?_⟩ <;> rcases h with h | h | h <;> rw [h] <;> decide
theorem PX.scop (hr : RI L rec) (h : Iv L j k s) (e : rScop L rec s = .inr (x, s')) : PX L (j + 1) (k + 1) 2 s s' ∧ (kN s'.1 x = 1 ∨ kN s'.1 x = 2 ∨ kN s'.1 x = 3) := by
  unfold rScop at e
  by_cases w : nxt L s = 78
  · rw [if_pos w] at e
    obtain ⟨P, a⟩ := PX.nest hr h e
    exact ⟨P.le (by omega) (by omega) (by omega), Or.inr a⟩
  · rw [if_neg w] at e
    obtain ⟨q, h1, e⟩ := bnd_inr e
    obtain ⟨P1, hi⟩ := PX.id (x := q.1) (s' := q.2) h h1
    obtain ⟨n, h2, e⟩ := bnd_inr e
    obtain ⟨r, h3, e1, e2⟩ := lft_inr (x := n.1) (s' := n.2) h2
    have o := aName_ao P1.i.w h3
    have P2 := PX.ao P1.i o
    rw [← e2] at P2
    have t1 : tyP n.2.1 n.1 := by rw [e1, e2]; exact o.ty (by decide)
    have t2 : ¬ kN n.2.1 n.1 = 0 := by rw [e1, e2]; exact o.k0 (by decide)
    by_cases u : nxt L n.2 = 73
    · rw [if_pos u] at e
      have P3 := PX.td P2.i t1 t2
      obtain ⟨P4, a, _⟩ := PX.fill hr P3.i e
      exact ⟨(((P1.trans P2).trans P3).trans P4).le (by omega) (by omega) (by omega), Or.inr (Or.inr a)⟩
    · rw [if_neg u] at e
      cases e
      refine ⟨(P1.trans P2).le (by omega) (by omega) (by omega), Or.inl ?_⟩
      show cN (x, s').2.1 (x, s').1 0 = 1
      rw [e1, e2]; exact o.c0
theorem PX.wrap (hr : RI L rec) {c n : Int32} (h : Iv L j k s) (hc : ¬ c = -1) (en : nxt L s = c) (e : rWrap rec n s = .inr (x, s')) : PX L (j + 1) k 2 s s' ∧ (kN s'.1 x = 4 ∨ kN s'.1 x = 5 ∨ kN s'.1 x = 6) := by
  unfold rWrap at e
  have P1 := PX.ad h hc en
  obtain ⟨q, h1, e⟩ := bnd_inr e
  obtain ⟨P2, _⟩ := hr _ _ _ q.1 q.2 P1.i h1
  obtain ⟨r, h3, rfl, rfl⟩ := lft_inr e
  obtain ⟨o, w⟩ := aWrapped_ao P2.i.w h3
  refine ⟨((P1.trans P2).trans (PX.ao P2.i o)).le (by omega) (by omega) (by omega), ?_⟩
  show cN r.2 r.1 0 = 4 ∨ cN r.2 r.1 0 = 5 ∨ cN r.2 r.1 0 = 6
  rw [o.c0]; exact w
theorem PX.arr (hr : RI L rec) (h : Iv L j k s) (e : rArr L rec s = .inr (x, s')) : PX L (j + 1) k 4 s s' ∧ kN s'.1 x = 7 := by
  unfold rArr at e
  obtain ⟨s1, h1, e⟩ := bnd_inr e
  have P1 := PX.pass h (by decide) h1
  obtain ⟨n, h2, e⟩ := bnd_inr e
  have P2 := PX.num (v := n.1) (s' := n.2) P1.i h2
  obtain ⟨s3, h3, e⟩ := bnd_inr e
  have P3 := PX.pass P2.i (by decide) h3
  obtain ⟨q, h4, e⟩ := bnd_inr e
  obtain ⟨P4, _⟩ := hr _ _ _ q.1 q.2 P3.i h4
  obtain ⟨r, h5, rfl, rfl⟩ := lft_inr e
  have o := aArray_ao P4.i.w h5
  exact ⟨((((P1.trans P2).trans P3).trans P4).trans (PX.ao P4.i o)).le (by omega) (by omega) (by omega), o.c0⟩
theorem PX.first (hr : RI L rec) (h : Iv L j k s) (e : rFirst L rec s = .inr (x, s')) : PX L j k 1 s s' ∧ (x = -1 ∨ tyP s'.1 x) := by
  unfold rFirst at e
  by_cases w : nxt L s = 118
  · rw [if_pos w] at e; cases e; exact ⟨(PX.ad h (by decide) w).le (by omega) (by omega) (by omega), Or.inl rfl⟩
  · rw [if_neg w] at e
    obtain ⟨P, a⟩ := hr _ _ _ _ _ h e
    exact ⟨P, Or.inr a⟩
theorem PX.next (hr : RI L rec) {b c : Int32} (h : Iv L j k s) (e : rNext L rec b c s = .inr (x, s')) : PX L j k 0 s s' ∧ (x = -1 ∨ tyP s'.1 x) := by
  unfold rNext at e
  by_cases w : b = -1 ∨ nxt L s = c
  · rw [if_pos w] at e; cases e; exact ⟨⟨h, List.prefix_refl _, Nat.le_refl _⟩, Or.inl rfl⟩
  · rw [if_neg w] at e
    obtain ⟨P, a⟩ := hr _ _ _ _ _ h e
    exact ⟨P.le (by omega) (by omega) (by omega), Or.inr a⟩
theorem PX.fn (hr : RI L rec) (h : Iv L j k s) (e : rFun L rec s = .inr (x, s')) : PX L (j + 1) k 2 s s' ∧ kN s'.1 x = 8 := by
  unfold rFun at e
  obtain ⟨s1, h1, e⟩ := bnd_inr e
  have P1 := PX.pass h (by decide) h1
  obtain ⟨g, h2, e⟩ := bnd_inr e
  obtain ⟨P2, _⟩ := hr _ _ _ g.1 g.2 P1.i h2
  obtain ⟨a, h3, e⟩ := bnd_inr e
  have P3 := (PX.first (x := a.1) (s' := a.2) hr P2.i h3).1
  obtain ⟨b, h4, e⟩ := bnd_inr e
  have P4 := (PX.next (x := b.1) (s' := b.2) hr P3.i h4).1
  obtain ⟨c, h5, e⟩ := bnd_inr e
  have P5 := (PX.next (x := c.1) (s' := c.2) hr P4.i h5).1
  obtain ⟨s6, h6, e⟩ := bnd_inr e
  have P6 := PX.pass P5.i (by decide) h6
  obtain ⟨r, h7, rfl, rfl⟩ := lft_inr e
  have o := aFunction_ao P6.i.w h7
  exact ⟨((((((P1.trans P2).trans P3).trans P4).trans P5).trans P6).trans (PX.ao P6.i o)).le (by omega) (by omega) (by omega), o.c0⟩
theorem PX.unt (hr : RI L rec) (h : Iv L j k s) (e : rUnt L rec s = .inr (x, s')) : PX L (j + 1) k 2 s s' ∧ tyP s'.1 x ∧ ¬ kN s'.1 x = 0 := by
  unfold rUnt at e
  by_cases w1 : nxt L s = 80
  · rw [if_pos w1] at e
    obtain ⟨P, a⟩ := PX.wrap hr h (by decide) w1 e
    exact ⟨P, by rcases a with a | a | a <;> exact ⟨⟨by rw [a]; decide, by rw [a]; decide⟩, by rw [a]; decide⟩⟩
  rw [if_neg w1] at e
  by_cases w2 : nxt L s = 82
  · rw [if_pos w2] at e
    obtain ⟨P, a⟩ := PX.wrap hr h (by decide) w2 e
    exact ⟨P, by rcases a with a | a | a <;> exact ⟨⟨by rw [a]; decide, by rw [a]; decide⟩, by rw [a]; decide⟩⟩
  rw [if_neg w2] at e
  by_cases w3 : nxt L s = 75
  · rw [if_pos w3] at e
    obtain ⟨P, a⟩ := PX.wrap hr h (by decide) w3 e
    exact ⟨P, by rcases a with a | a | a <;> exact ⟨⟨by rw [a]; decide, by rw [a]; decide⟩, by rw [a]; decide⟩⟩
  rw [if_neg w3] at e
  by_cases w4 : nxt L s = 65
  · rw [if_pos w4] at e
    obtain ⟨P, a⟩ := PX.arr hr h e
    exact ⟨P.le (by omega) (by omega) (by omega), ⟨by rw [a]; decide, by rw [a]; decide⟩, by rw [a]; decide⟩
  rw [if_neg w4] at e
  by_cases w5 : nxt L s = 70
  · rw [if_pos w5] at e
    obtain ⟨P, a⟩ := PX.fn hr h e
    exact ⟨P, ⟨by rw [a]; decide, by rw [a]; decide⟩, by rw [a]; decide⟩
  rw [if_neg w5] at e
  obtain ⟨P, a⟩ := PX.scop hr h e
  exact ⟨P.le (by omega) (by omega) (by omega), k13 a⟩
theorem PX.typ (L : List Int32) (f : Nat) : RI L (rTyp L f) := by
  induction f with
  | zero => intro j k s x s' h e; cases e
  | succ f ih =>
    intro j k s x s' h e
    have e : rTyB L (rTyp L f) s = .inr (x, s') := e
    unfold rTyB at e
    by_cases w : bolF (nxt L s) = -1
    · rw [if_pos w] at e
      by_cases u : nxt L s = 83
      · rw [if_pos u] at e
        unfold rToT at e
        obtain ⟨q, h1, e⟩ := bnd_inr e
        obtain ⟨P1, a, b, _⟩ := PX.told (x := q.1) (s' := q.2) h h1
        by_cases v : nxt L q.2 = 73
        · rw [if_pos v] at e
          obtain ⟨c, e⟩ := if_inr e
          obtain ⟨z, h2, e⟩ := bnd_inr e
          obtain ⟨P2, c3, _⟩ := PX.fill (x := z.1) (s' := z.2) ih P1.i h2
          cases e
          have P3 := PX.td P2.i (k13 (Or.inr (Or.inr c3))).1 (k13 (Or.inr (Or.inr c3))).2
          exact ⟨((P1.trans P2).trans P3).le (by omega) (by omega) (by omega), (k13 (Or.inr (Or.inr c3))).1⟩
        · rw [if_neg v] at e
          cases e
          exact ⟨P1.le (by omega) (by omega) (by omega), a⟩
      · rw [if_neg u] at e
        obtain ⟨q, h1, e⟩ := bnd_inr e
        obtain ⟨P1, a, b⟩ := PX.unt (x := q.1) (s' := q.2) ih h h1
        cases e
        have P2 := PX.td P1.i a b
        exact ⟨(P1.trans P2).le (by omega) (by omega) (by omega), a⟩
    · rw [if_neg w] at e
      have P1 := PX.ad h (bol_ne w) rfl
      obtain ⟨r, h3, rfl, rfl⟩ := lft_inr e
      have o := aBuiltin_ao P1.i.w h3
      exact ⟨(P1.trans (PX.ao P1.i o)).le (by omega) (by omega) (by omega), o.ty (by decide)⟩
end
