/-! the reference's read and write answer as the class's functions do; what every call keeps -/
abbrev IV (S : CSt) : Prop := (WN S.1) ∧ (S.1.length ≤ 60) ∧ (LOk S.2.1) ∧ (S.2.1.length ≤ 120) ∧ (S.2.2.length ≤ 120)
theorem IV.w {S : CSt} (h_ : IV S) : WN S.1 := h_.1
theorem IV.l {S : CSt} (h_ : IV S) : S.1.length ≤ 60 := h_.2.1
theorem IV.t {S : CSt} (h_ : IV S) : LOk S.2.1 := h_.2.2.1
theorem IV.tl {S : CSt} (h_ : IV S) : S.2.1.length ≤ 120 := h_.2.2.2.1
theorem IV.el {S : CSt} (h_ : IV S) : S.2.2.length ≤ 120 := h_.2.2.2.2
section MCB
variable {d : Nat} {X : Nat × (Nat → Int32)} {cI : Nat → Int32} {cA : Nat → Nat → Int32} {rI : Nat → Int32} {rA : Nat → Nat → Int32} {ol : Int64} {J : mH} {S : CSt}
theorem xB_of {res : Ex (Int32 × CSt)} {q : Int32 × CSt} {r : mR} {h' : mH} (e : res = .inr q) (h : BP X cI cA ol J q.1 0 q.2 r h') : xB X cI cA ol J S res r h' := Or.inl ⟨q, e, h⟩
theorem xB_ex {res : Ex (Int32 × CSt)} (k : Nat) {t : Int32} {r : mR} {h' : mH} (e : res = .inl k) (ht : t = if k = 0 then 1 else 2) (h : BP X cI cA ol J 0 t S r h') : xB X cI cA ol J S res r h' := Or.inr ⟨k, e, ht ▸ h⟩
theorem M_readX (hb : MB rI rA S) (hv : IV S) : EvP m_M_read (d + 11) 0 [(0, .ref 16)] [] (HC X cI cA rI rA ol J) (xB X cI cA ol J S (cRead S)) := by
  obtain ⟨res, h, g⟩ := sim_ent (z := s00 []) hv.t hv.tl hv.w hv.l rfl rfl rfl rfl
  have h : RE S.2.1 (mEx S.2.1 90 (mEx S.2.1 95 (s00 S.1))) res := h
  obtain ⟨z0, zr⟩ := ent_pure (L := S.2.1) hv.w hv.l hv.tl
  have hpre : S.1 <+: res.2.N := h.pre
  cases e : rEnt S.2.1 S.1 with
  | inl n =>
    have hw := g.2 ⟨n, e⟩
    have hn := z0 n e
    have er : cRead S = .inl 0 := by unfold cRead; rw [e, hn]; rfl
    refine EvP.mono (M_read hb hv.tl h hpre (fun w => by rw [hw] at w; cases w) (fun w => by rw [hw] at w; cases w)) (fun r h' q => ?_)
    rw [if_pos hw] at q
    exact xB_ex 0 er rfl q
  | inr q =>
    obtain ⟨x, s'⟩ := q
    obtain ⟨g1, g2, g3, g4⟩ := g.1 x s' e
    obtain ⟨z1, z2, z3, z4⟩ := zr x s' e
    have er : cRead S = if s'.1.length ≤ 60 then .inr (x, s'.1, S.2.1, s'.2.1) else .inl 1 := by unfold cRead; rw [e]; rfl
    refine EvP.mono (M_read hb hv.tl h hpre (fun _ => by rw [g4]; omega) (fun _ => by rw [g3]; omega)) (fun r h' q => ?_)
    rw [if_neg (by rw [g2]; decide), g1, g3, g4] at q
    by_cases w : s'.1.length ≤ 60
    · rw [if_pos w] at er
      rw [if_neg (by omega)] at q
      exact xB_of er q
    · rw [if_neg w] at er
      rw [if_pos (by omega)] at q
      exact xB_ex 1 er rfl q
theorem read_iv (hv : IV S) {q : Int32 × CSt} (e : cRead S = .inr q) : IV q.2 := by
  obtain ⟨z0, zr⟩ := ent_pure (L := S.2.1) hv.w hv.l hv.tl
  unfold cRead at e
  obtain ⟨y, h1, e⟩ := bnd_inr e
  obtain ⟨w, e⟩ := if_inr e
  cases e
  obtain ⟨z1, z2, z3, z4⟩ := zr y.1 y.2 h1
  exact ⟨z1, w, hv.t, hv.tl, z4⟩
theorem M_writeX (hb : MB rI rA S) (hv : IV S) (e : Int32) : EvP m_M_write (d + 4) 0 [(0, .ref 16), (1, .int e)] [] (HC X cI cA rI rA ol J) (xB X cI cA ol J S (cWrite S e)) := by
  have hl := hv.l
  by_cases hn : ndP S.1 e
  · by_cases h10 : cN S.1 e 0 = 10
    · have hV := ndP_vd (by omega) hn
      obtain ⟨r, h, g1, g2⟩ := sim_wr hv.w hV h10
      have ec : cWrite S e = bnd (wEnt S.1 e) fun w => .inr (nI w.1.length, S.1, w.1, w.2) := if_pos h10
      cases ew : wEnt S.1 e with
      | inl m =>
        have ov := g2 ⟨m, ew⟩
        have hm : m = 2 := (went_pure S.1 e).1 m ew
        have er : cWrite S e = .inl 2 := by rw [ec, ew, hm]; rfl
        refine EvP.mono (M_write_w hb (by omega) e hv.w hn h10 h (fun w => by rw [ov] at w; cases w) (fun w => by rw [ov] at w; cases w)) (fun r h' q => ?_)
        rw [if_pos ov] at q
        exact xB_ex 2 er rfl q
      | inr w1 =>
        obtain ⟨a, b, c⟩ := g1 w1 ew
        have er : cWrite S e = .inr (nI w1.1.length, S.1, w1.1, w1.2) := by rw [ec, ew]; rfl
        subst a
        refine EvP.mono (M_write_w hb (by omega) e hv.w hn h10 h (fun _ => b) (fun _ => show w1.2.length ≤ 320 by omega)) (fun r h' q => ?_)
        rw [if_neg (show ¬ ((ws w1 []).ov = true) from fun u => by cases u)] at q
        exact xB_of er q
    · have er : cWrite S e = .inl 0 := if_neg h10
      exact EvP.mono (M_write_k (d := d + 3) hb (by omega) e hn h10) (fun r h' q => xB_ex 0 er rfl q)
  · have er : cWrite S e = .inl 0 := if_neg (fun u => absurd ((kN_nd hn 0).symm.trans u) (by decide))
    exact EvP.mono (M_write_n (d := d + 3) hb (by omega) e hn) (fun r h' q => xB_ex 0 er rfl q)
theorem write_iv (hv : IV S) {e : Int32} {q : Int32 × CSt} (h : cWrite S e = .inr q) : IV q.2 := by
  unfold cWrite at h
  obtain ⟨h10, h⟩ := if_inr h
  obtain ⟨w, h1, h⟩ := bnd_inr h
  cases h
  have hw := (went_pure S.1 e).2 w h1
  have hV : Vd S.1 e := eq_vd (by have := hv.l; omega) (by decide) h10
  obtain ⟨r, _, g1, _⟩ := sim_wr hv.w hV h10
  obtain ⟨_, b, c⟩ := g1 w h1
  exact ⟨hv.w, hv.l, hw.1, b, hw.2⟩
theorem gv_iv (hv : IV S) {res : Ex (Int32 × List (List Int32))} (h : ∀ q, res = .inr q → WN q.2) {q : Int32 × CSt} (e : gvN res S = .inr q) : IV q.2 := by
  unfold gvN at e
  obtain ⟨y, h1, e⟩ := bnd_inr e
  obtain ⟨w, e⟩ := if_inr e
  cases e
  exact ⟨h y h1, w, hv.t, hv.tl, hv.el⟩
theorem tys_ok (p : Int64) : ∀ (ks L T : List Int32), LOk L → L.length ≤ 120 → tys p ks L = some T → LOk T ∧ T.length ≤ 120
  | [], L, T, h, hl, e => by cases e; exact ⟨h, hl⟩
  | k :: ks, L, T, h, hl, e => by
    by_cases h0 : lby p k = 0
    · rw [tys_z h0] at e; exact tys_ok p ks L T h hl e
    · by_cases h1 : tyB (lby p k) ∧ L.length < 120
      · rw [tys_a h0 h1.1 h1.2] at e
        refine tys_ok p ks _ T (h.app (LOk.cons (fun q => ?_) LOk.nil)) (by rw [List.length_append]; exact h1.2) e
        have := h1.1.1
        rw [q] at this
        exact this (by decide)
      · rw [tys_x h0 h1] at e; cases e
theorem type_iv (hv : IV S) (p : Int64) : IV (cType S p).2 := by
  show IV (S.1, (tys p shs S.2.1).getD S.2.1, S.2.2)
  cases e : tys p shs S.2.1 with
  | none => exact ⟨hv.w, hv.l, hv.t, hv.tl, hv.el⟩
  | some T =>
    obtain ⟨a, b⟩ := tys_ok p shs S.2.1 T hv.t hv.tl e
    exact ⟨hv.w, hv.l, a, b, hv.el⟩
theorem wipe_iv (hv : IV S) : IV (S.1, [], S.2.2) := ⟨hv.w, hv.l, LOk.nil, Nat.zero_le _, hv.el⟩
theorem iv_0 : IV ([], [], []) := ⟨⟨Nat.zero_le _, fun i hi => absurd hi (Nat.not_lt_zero _)⟩, Nat.zero_le _, LOk.nil, Nat.zero_le _, Nat.zero_le _⟩
end MCB
