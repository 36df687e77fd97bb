/-! the reference's fields and arrays as lists: its nodes, its text and table, its reading and its writing -/
def bI (b : Bool) : Int32 := if b = true then 1 else 0
theorem bI_0 (b : Bool) : (bI b = 0) = (b = false) := by cases b <;> simp [bI]
theorem bI_1 (b : Bool) : (bI b = 1) = (b = true) := by cases b <;> simp [bI]
theorem bI_d (p : Prop) [Decidable p] : bI (decide p) = if p then 1 else 0 := by by_cases h : p <;> simp [bI, h]
def mdrow (rA : Nat → Nat → Int32) (i : Nat) : List Int32 := [rA 3 i, rA 4 i, rA 5 i, rA 6 i, rA 7 (3 * i), rA 7 (3 * i + 1), rA 7 (3 * i + 2), rA 8 i]
def mdL (rA : Nat → Nat → Int32) (n : Nat) : List (List Int32) := (List.range n).map (mdrow rA)
theorem mdL_len (rA : Nat → Nat → Int32) (n : Nat) : (mdL rA n).length = n := by unfold mdL; rw [List.length_map, List.length_range]
theorem mdL_at {rA : Nat → Nat → Int32} {n i : Nat} (h : i < n) : (mdL rA n)[i]? = some (mdrow rA i) := by
  unfold mdL
  rw [List.getElem?_map, List.getElem?_range h]
  rfl
theorem mdL_succ (rA : Nat → Nat → Int32) (n : Nat) : mdL rA (n + 1) = mdL rA n ++ [mdrow rA n] := by
  unfold mdL
  rw [List.range_succ, List.map_append]
  rfl
theorem mdL_cg {rA rA' : Nat → Nat → Int32} {n : Nat} (h : ∀ i, i < n → mdrow rA' i = mdrow rA i) : mdL rA' n = mdL rA n := by
  unfold mdL
  exact List.map_congr_left fun i hi => h i (List.mem_range.mp hi)
theorem mdL_pre {rA : Nat → Nat → Int32} {N0 N : List (List Int32)} (h : N0 <+: N) (hN : N = mdL rA N.length) : N0 = mdL rA N0.length := by
  obtain ⟨t, ht⟩ := h
  have hl : N.length = N0.length + t.length := by rw [← ht, List.length_append]
  have e : N0 = N.take N0.length := by rw [← ht, List.take_left]
  have e2 : (mdL rA N.length).take N0.length = mdL rA N0.length := by
    unfold mdL
    rw [← List.map_take, List.take_range, show min N0.length N.length = N0.length from by omega]
  have e3 : N.take N0.length = (mdL rA N.length).take N0.length := congrArg (fun z : List (List Int32) => z.take N0.length) hN
  exact e.trans (e3.trans e2)
theorem md_cell {rA : Nat → Nat → Int32} {N : List (List Int32)} (hN : N = mdL rA N.length) (hl : N.length ≤ 320) {i : Nat} (hi : i < N.length) (w : Nat) : cN N (nI i) w = (mdrow rA i).getD w (-1) := by
  unfold cN nth
  rw [if_pos ⟨nI_pos' (by omega), nI_lt hi (by omega)⟩, nI_clamp (by omega), List.getD_eq_getElem?_getD (l := N)]
  have : N[i]? = some (mdrow rA i) := by rw [hN]; exact mdL_at hi
  rw [this]
  rfl
section MR
variable {M : Mt} {d pc : Nat} {lv : List (Nat × Value)} {st : List Value} {P : mR → mH → Prop} {X : Nat × (Nat → Int32)} {cI : Nat → Int32} {cA : Nat → Nat → Int32} {rI : Nat → Int32} {rA : Nat → Nat → Int32} {ol : Int64} {J : mH} {N : List (List Int32)} {x : Int32}
theorem ep_kind (hd : decode M.2.1 pc = .ok (.iaload, 1)) (hN : N = mdL rA N.length) (hl : N.length ≤ 320) (hV : Vd N x) (k : EvP M d (pc + 1) lv (.int (cN N x 0) :: st) (HC X cI cA rI rA ol J) P) : EvP M d pc lv (.int x :: .ref 17 :: st) (HC X cI cA rI rA ol J) P := by
  obtain ⟨i, hi, rfl⟩ := hV
  refine ep_iald (f := rA 3) i hd rfl rfl (by omega) (by decide) ?_
  rw [md_cell hN hl hi] at k
  exact k
theorem ep_val (hd : decode M.2.1 pc = .ok (.iaload, 1)) (hN : N = mdL rA N.length) (hl : N.length ≤ 320) (hV : Vd N x) (k : EvP M d (pc + 1) lv (.int (cN N x 1) :: st) (HC X cI cA rI rA ol J) P) : EvP M d pc lv (.int x :: .ref 18 :: st) (HC X cI cA rI rA ol J) P := by
  obtain ⟨i, hi, rfl⟩ := hV
  refine ep_iald (f := rA 4) i hd rfl rfl (by omega) (by decide) ?_
  rw [md_cell hN hl hi] at k
  exact k
theorem ep_fst (hd : decode M.2.1 pc = .ok (.iaload, 1)) (hN : N = mdL rA N.length) (hl : N.length ≤ 320) (hV : Vd N x) (k : EvP M d (pc + 1) lv (.int (cN N x 2) :: st) (HC X cI cA rI rA ol J) P) : EvP M d pc lv (.int x :: .ref 19 :: st) (HC X cI cA rI rA ol J) P := by
  obtain ⟨i, hi, rfl⟩ := hV
  refine ep_iald (f := rA 5) i hd rfl rfl (by omega) (by decide) ?_
  rw [md_cell hN hl hi] at k
  exact k
theorem ep_gvs (hd : decode M.2.1 pc = .ok (.iaload, 1)) (hN : N = mdL rA N.length) (hl : N.length ≤ 320) (hV : Vd N x) (k : EvP M d (pc + 1) lv (.int (cN N x 3) :: st) (HC X cI cA rI rA ol J) P) : EvP M d pc lv (.int x :: .ref 20 :: st) (HC X cI cA rI rA ol J) P := by
  obtain ⟨i, hi, rfl⟩ := hV
  refine ep_iald (f := rA 6) i hd rfl rfl (by omega) (by decide) ?_
  rw [md_cell hN hl hi] at k
  exact k
theorem ep_dpt (hd : decode M.2.1 pc = .ok (.iaload, 1)) (hN : N = mdL rA N.length) (hl : N.length ≤ 320) (hV : Vd N x) (k : EvP M d (pc + 1) lv (.int (cN N x 7) :: st) (HC X cI cA rI rA ol J) P) : EvP M d pc lv (.int x :: .ref 22 :: st) (HC X cI cA rI rA ol J) P := by
  obtain ⟨i, hi, rfl⟩ := hV
  refine ep_iald (f := rA 8) i hd rfl rfl (by omega) (by decide) ?_
  rw [md_cell hN hl hi] at k
  exact k
theorem ep_prt (c : Nat) (hc : c < 3) {y : Int32} (hy : ∀ i, x = nI i → y = nI (3 * i + c)) (hd : decode M.2.1 pc = .ok (.iaload, 1)) (hN : N = mdL rA N.length) (hl : N.length ≤ 320) (hV : Vd N x) (k : EvP M d (pc + 1) lv (.int (cN N x (4 + c)) :: st) (HC X cI cA rI rA ol J) P) : EvP M d pc lv (.int y :: .ref 21 :: st) (HC X cI cA rI rA ol J) P := by
  obtain ⟨i, hi, rfl⟩ := hV
  refine ep_iald (f := rA 7) (3 * i + c) hd rfl (hy i rfl) (by omega) (by decide) ?_
  rw [md_cell hN hl hi] at k
  rcases (show c = 0 ∨ c = 1 ∨ c = 2 by omega) with h | h | h <;> subst h <;> exact k
theorem ep_join {pc2 : Nat} {lv2 : List (Nat × Value)} {st2 : List Value} {h : mH} (k : EvP M d pc2 lv2 st2 h P) (w : EvP M d pc2 lv2 st2 h P → EvP M d pc lv st h P) : EvP M d pc lv st h P := w k
end MR
/-- nodes, up to all -/
def MN (rI : Nat → Int32) (rA : Nat → Nat → Int32) (N : List (List Int32)) : Prop := rI 2 = nI N.length ∧ N = mdL rA N.length
def FrN (rI : Nat → Int32) (rA : Nat → Nat → Int32) (rI' : Nat → Int32) (rA' : Nat → Nat → Int32) : Prop := (∀ k, k ≠ 2 → rI' k = rI k) ∧ (∀ k, k ≠ 3 → k ≠ 4 → k ≠ 5 → k ≠ 6 → k ≠ 7 → k ≠ 8 → rA' k = rA k)
/-- frames of the reading stack, from 1 on, the last first -/
def frR (rA : Nat → Nat → Int32) (i : Nat) : FR := ⟨rA 19 i, rA 20 i, rA 21 i, rA 22 (3 * i), rA 22 (3 * i + 1), rA 22 (3 * i + 2)⟩
def stkR (rA : Nat → Nat → Int32) : Nat → List FR
  | 0 => []
  | n + 1 => frR rA (n + 1) :: stkR rA n
theorem stkR_cg {rA rA' : Nat → Nat → Int32} {n : Nat} (h : ∀ i, i ≤ n → 1 ≤ i → frR rA' i = frR rA i) : stkR rA' n = stkR rA n := by
  induction n with
  | zero => rfl
  | succ n ih =>
    show frR rA' (n + 1) :: stkR rA' n = frR rA (n + 1) :: stkR rA n
    rw [h (n + 1) (Nat.le_refl _) (by omega), ih (fun i hi h1 => h i (by omega) h1)]
theorem stkR_len (rA : Nat → Nat → Int32) (n : Nat) : (stkR rA n).length = n := by
  induction n with
  | zero => rfl
  | succ n ih => exact congrArg (· + 1) ih
/-- where the reference's reading stands -/
abbrev MD (L S : List Int32) (ct : Nat) (rI : Nat → Int32) (rA : Nat → Nat → Int32) (s : MS) : Prop := (rI 1 = nI ct) ∧ (rI 2 = nI s.N.length) ∧ (s.N = mdL rA s.N.length) ∧ (rI 10 = nI L.length) ∧ (L = rowL (rA 9) L.length) ∧ (L.length ≤ 120) ∧ (rI 14 = nI S.length) ∧ (S = rowL (rA 15) S.length) ∧ (rI 16 = nI s.E.length) ∧ (s.E = rowL (rA 17) s.E.length) ∧ (rI 18 = nI (s.K.length + 1)) ∧ (s.K = stkR rA s.K.length) ∧ (rA 19 0 = 10) ∧ (rA 21 0 = s.b) ∧ (rA 22 0 = s.q0) ∧ (rA 22 1 = s.q1) ∧ (rA 22 2 = s.q2) ∧ (rI 23 = nI s.p) ∧ (rI 24 = bI s.wr) ∧ (rI 25 = bI s.ne)
theorem MD.c {L S : List Int32} {ct : Nat} {rI : Nat → Int32} {rA : Nat → Nat → Int32} {s : MS} (h_ : MD L S ct rI rA s) : rI 1 = nI ct := h_.1
theorem MD.a {L S : List Int32} {ct : Nat} {rI : Nat → Int32} {rA : Nat → Nat → Int32} {s : MS} (h_ : MD L S ct rI rA s) : rI 2 = nI s.N.length := h_.2.1
theorem MD.n {L S : List Int32} {ct : Nat} {rI : Nat → Int32} {rA : Nat → Nat → Int32} {s : MS} (h_ : MD L S ct rI rA s) : s.N = mdL rA s.N.length := h_.2.2.1
theorem MD.z {L S : List Int32} {ct : Nat} {rI : Nat → Int32} {rA : Nat → Nat → Int32} {s : MS} (h_ : MD L S ct rI rA s) : rI 10 = nI L.length := h_.2.2.2.1
theorem MD.l {L S : List Int32} {ct : Nat} {rI : Nat → Int32} {rA : Nat → Nat → Int32} {s : MS} (h_ : MD L S ct rI rA s) : L = rowL (rA 9) L.length := h_.2.2.2.2.1
theorem MD.l1 {L S : List Int32} {ct : Nat} {rI : Nat → Int32} {rA : Nat → Nat → Int32} {s : MS} (h_ : MD L S ct rI rA s) : L.length ≤ 120 := h_.2.2.2.2.2.1
theorem MD.sz {L S : List Int32} {ct : Nat} {rI : Nat → Int32} {rA : Nat → Nat → Int32} {s : MS} (h_ : MD L S ct rI rA s) : rI 14 = nI S.length := h_.2.2.2.2.2.2.1
theorem MD.sl {L S : List Int32} {ct : Nat} {rI : Nat → Int32} {rA : Nat → Nat → Int32} {s : MS} (h_ : MD L S ct rI rA s) : S = rowL (rA 15) S.length := h_.2.2.2.2.2.2.2.1
theorem MD.ez {L S : List Int32} {ct : Nat} {rI : Nat → Int32} {rA : Nat → Nat → Int32} {s : MS} (h_ : MD L S ct rI rA s) : rI 16 = nI s.E.length := h_.2.2.2.2.2.2.2.2.1
theorem MD.el {L S : List Int32} {ct : Nat} {rI : Nat → Int32} {rA : Nat → Nat → Int32} {s : MS} (h_ : MD L S ct rI rA s) : s.E = rowL (rA 17) s.E.length := h_.2.2.2.2.2.2.2.2.2.1
theorem MD.tz {L S : List Int32} {ct : Nat} {rI : Nat → Int32} {rA : Nat → Nat → Int32} {s : MS} (h_ : MD L S ct rI rA s) : rI 18 = nI (s.K.length + 1) := h_.2.2.2.2.2.2.2.2.2.2.1
theorem MD.tk {L S : List Int32} {ct : Nat} {rI : Nat → Int32} {rA : Nat → Nat → Int32} {s : MS} (h_ : MD L S ct rI rA s) : s.K = stkR rA s.K.length := h_.2.2.2.2.2.2.2.2.2.2.2.1
theorem MD.t0 {L S : List Int32} {ct : Nat} {rI : Nat → Int32} {rA : Nat → Nat → Int32} {s : MS} (h_ : MD L S ct rI rA s) : rA 19 0 = 10 := h_.2.2.2.2.2.2.2.2.2.2.2.2.1
theorem MD.b {L S : List Int32} {ct : Nat} {rI : Nat → Int32} {rA : Nat → Nat → Int32} {s : MS} (h_ : MD L S ct rI rA s) : rA 21 0 = s.b := h_.2.2.2.2.2.2.2.2.2.2.2.2.2.1
theorem MD.q0 {L S : List Int32} {ct : Nat} {rI : Nat → Int32} {rA : Nat → Nat → Int32} {s : MS} (h_ : MD L S ct rI rA s) : rA 22 0 = s.q0 := h_.2.2.2.2.2.2.2.2.2.2.2.2.2.2.1
theorem MD.q1 {L S : List Int32} {ct : Nat} {rI : Nat → Int32} {rA : Nat → Nat → Int32} {s : MS} (h_ : MD L S ct rI rA s) : rA 22 1 = s.q1 := h_.2.2.2.2.2.2.2.2.2.2.2.2.2.2.2.1
theorem MD.q2 {L S : List Int32} {ct : Nat} {rI : Nat → Int32} {rA : Nat → Nat → Int32} {s : MS} (h_ : MD L S ct rI rA s) : rA 22 2 = s.q2 := h_.2.2.2.2.2.2.2.2.2.2.2.2.2.2.2.2.1
theorem MD.p {L S : List Int32} {ct : Nat} {rI : Nat → Int32} {rA : Nat → Nat → Int32} {s : MS} (h_ : MD L S ct rI rA s) : rI 23 = nI s.p := h_.2.2.2.2.2.2.2.2.2.2.2.2.2.2.2.2.2.1
theorem MD.w {L S : List Int32} {ct : Nat} {rI : Nat → Int32} {rA : Nat → Nat → Int32} {s : MS} (h_ : MD L S ct rI rA s) : rI 24 = bI s.wr := h_.2.2.2.2.2.2.2.2.2.2.2.2.2.2.2.2.2.2.1
theorem MD.e {L S : List Int32} {ct : Nat} {rI : Nat → Int32} {rA : Nat → Nat → Int32} {s : MS} (h_ : MD L S ct rI rA s) : rI 25 = bI s.ne := h_.2.2.2.2.2.2.2.2.2.2.2.2.2.2.2.2.2.2.2
section MDS
variable {L S : List Int32} {ct : Nat} {rI : Nat → Int32} {rA : Nat → Nat → Int32} {s : MS} {x : Int32}
theorem MD.sp (h : MD L S ct rI rA s) {q : Nat} (e : x = nI q) : MD L S ct (upd rI 23 x) rA (MS.u_p s q) := ⟨h.c, h.a, h.n, h.z, h.l, h.l1, h.sz, h.sl, h.ez, h.el, h.tz, h.tk, h.t0, h.b, h.q0, h.q1, h.q2, e, h.w, h.e⟩
theorem MD.sw (h : MD L S ct rI rA s) {q : Bool} (e : x = bI q) : MD L S ct (upd rI 24 x) rA (MS.u_wr s q) := ⟨h.c, h.a, h.n, h.z, h.l, h.l1, h.sz, h.sl, h.ez, h.el, h.tz, h.tk, h.t0, h.b, h.q0, h.q1, h.q2, h.p, e, h.e⟩
theorem MD.se (h : MD L S ct rI rA s) {q : Bool} (e : x = bI q) : MD L S ct (upd rI 25 x) rA (MS.u_ne s q) := ⟨h.c, h.a, h.n, h.z, h.l, h.l1, h.sz, h.sl, h.ez, h.el, h.tz, h.tk, h.t0, h.b, h.q0, h.q1, h.q2, h.p, h.w, e⟩
theorem MD.pop (h : MD L S ct rI rA s) {f : FR} {K : List FR} (eK : s.K = f :: K) (e : x = nI (K.length + 1)) : MD L S ct (upd rI 18 x) rA (mK s K) := by
  refine ⟨h.c, h.a, h.n, h.z, h.l, h.l1, h.sz, h.sl, h.ez, h.el, e, ?_, h.t0, h.b, h.q0, h.q1, h.q2, h.p, h.w, h.e⟩
  have := h.tk
  rw [eK] at this
  exact (List.cons.inj this).2
theorem MD.top (h : MD L S ct rI rA s) {f : FR} {K : List FR} (eK : s.K = f :: K) : frR rA (K.length + 1) = f ∧ K = stkR rA K.length ∧ rI 18 = nI (K.length + 2) := by
  have h1 := h.tk
  have h2 := h.tz
  rw [eK] at h1 h2
  exact ⟨(List.cons.inj h1).1.symm, (List.cons.inj h1).2, h2⟩
theorem MD.en (h : MD L S ct rI rA s) : MD L S ct (upd rI 16 (nI (s.E.length + 1))) (va_up rA 17 (upd (rA 17) s.E.length x)) (mEn s x) := by
  refine ⟨h.c, h.a, h.n, h.z, h.l, h.l1, h.sz, h.sl, ?_, ?_, h.tz, h.tk.trans (stkR_cg (rA := rA) (rA' := va_up rA 17 (upd (rA 17) s.E.length x)) (fun i _ _ => rfl)).symm, h.t0, h.b, h.q0, h.q1, h.q2, h.p, h.w, h.e⟩
  · show nI (s.E.length + 1) = nI (s.E ++ [x]).length
    rw [List.length_append]; rfl
  · show s.E ++ [x] = rowL (upd (rA 17) s.E.length x) (s.E ++ [x]).length
    rw [List.length_append]
    show _ = rowL (upd (rA 17) s.E.length x) (s.E.length + 1)
    rw [rowL_upd]
    exact congrArg (· ++ [x]) h.el
theorem upd_ne (f : Nat → Int32) {k j : Nat} (x : Int32) (h : j ≠ k) : upd f k x j = f j := if_neg h
theorem upd_at (f : Nat → Int32) (k : Nat) (x : Int32) : upd f k x k = x := if_pos rfl
/-- another frame on top -/
theorem MD.be (h : MD L S ct rI rA s) (t n v : Int32) : MD L S ct (upd rI 18 (nI (s.K.length + 2))) (va_up (va_up (va_up (va_up rA 19 (upd (rA 19) (s.K.length + 1) t)) 20 (upd (rA 20) (s.K.length + 1) n)) 21 (upd (rA 21) (s.K.length + 1) v)) 22 (upd (upd (upd (rA 22) (3 * (s.K.length + 1)) (-1)) (3 * (s.K.length + 1) + 1) (-1)) (3 * (s.K.length + 1) + 2) (-1))) (mBe t n v s) := by
  refine ⟨h.c, h.a, h.n, h.z, h.l, h.l1, h.sz, h.sl, h.ez, h.el, rfl, ?_, ?_, ?_, ?_, ?_, ?_, h.p, h.w, h.e⟩
  · show (⟨t, n, v, -1, -1, -1⟩ : FR) :: s.K = frR _ (s.K.length + 1) :: stkR _ s.K.length
    have e1 : frR (va_up (va_up (va_up (va_up rA 19 (upd (rA 19) (s.K.length + 1) t)) 20 (upd (rA 20) (s.K.length + 1) n)) 21 (upd (rA 21) (s.K.length + 1) v)) 22 (upd (upd (upd (rA 22) (3 * (s.K.length + 1)) (-1)) (3 * (s.K.length + 1) + 1) (-1)) (3 * (s.K.length + 1) + 2) (-1))) (s.K.length + 1) = ⟨t, n, v, -1, -1, -1⟩ := by
      show (⟨upd (rA 19) _ t _, upd (rA 20) _ n _, upd (rA 21) _ v _, upd (upd (upd (rA 22) _ (-1)) _ (-1)) _ (-1) _, upd (upd (upd (rA 22) _ (-1)) _ (-1)) _ (-1) _, upd (upd (upd (rA 22) _ (-1)) _ (-1)) _ (-1) _⟩ : FR) = _
      rw [upd_at, upd_at, upd_at, upd_at, upd_ne _ _ (by omega), upd_ne _ _ (by omega), upd_at, upd_ne _ _ (by omega), upd_at]
    rw [e1]
    refine congrArg _ (h.tk.trans (stkR_cg (fun i hi _ => ?_)).symm)
    show (⟨upd (rA 19) _ t _, upd (rA 20) _ n _, upd (rA 21) _ v _, upd (upd (upd (rA 22) _ (-1)) _ (-1)) _ (-1) _, upd (upd (upd (rA 22) _ (-1)) _ (-1)) _ (-1) _, upd (upd (upd (rA 22) _ (-1)) _ (-1)) _ (-1) _⟩ : FR) = _
    rw [upd_ne _ _ (by omega), upd_ne _ _ (by omega), upd_ne _ _ (by omega), upd_ne _ _ (by omega), upd_ne _ _ (by omega), upd_ne _ _ (by omega), upd_ne _ _ (by omega), upd_ne _ _ (by omega), upd_ne _ _ (by omega), upd_ne _ _ (by omega), upd_ne _ _ (by omega), upd_ne _ _ (by omega)]
    rfl
  · show upd (rA 19) (s.K.length + 1) t 0 = 10
    rw [upd_ne _ _ (by omega)]; exact h.t0
  · show upd (rA 21) (s.K.length + 1) v 0 = s.b
    rw [upd_ne _ _ (by omega)]; exact h.b
  · show upd (upd (upd (rA 22) (3 * (s.K.length + 1)) (-1)) (3 * (s.K.length + 1) + 1) (-1)) (3 * (s.K.length + 1) + 2) (-1) 0 = s.q0
    rw [upd_ne _ _ (by omega), upd_ne _ _ (by omega), upd_ne _ _ (by omega)]; exact h.q0
  · show upd (upd (upd (rA 22) (3 * (s.K.length + 1)) (-1)) (3 * (s.K.length + 1) + 1) (-1)) (3 * (s.K.length + 1) + 2) (-1) 1 = s.q1
    rw [upd_ne _ _ (by omega), upd_ne _ _ (by omega), upd_ne _ _ (by omega)]; exact h.q1
  · show upd (upd (upd (rA 22) (3 * (s.K.length + 1)) (-1)) (3 * (s.K.length + 1) + 1) (-1)) (3 * (s.K.length + 1) + 2) (-1) 2 = s.q2
    rw [upd_ne _ _ (by omega), upd_ne _ _ (by omega), upd_ne _ _ (by omega)]; exact h.q2
/-- the top frame's of, its number, its list -/
theorem MD.so (h : MD L S ct rI rA s) {f : FR} {K : List FR} (eK : s.K = f :: K) : MD L S ct rI (va_up rA 20 (upd (rA 20) (K.length + 1) x)) (mK s ((FR.u_o f x) :: K)) := by
  obtain ⟨h1, h2, h3⟩ := h.top eK
  refine ⟨h.c, h.a, h.n, h.z, h.l, h.l1, h.sz, h.sl, h.ez, h.el, h3, ?_, h.t0, h.b, h.q0, h.q1, h.q2, h.p, h.w, h.e⟩
  show _ :: K = frR _ (K.length + 1) :: stkR _ K.length
  have e1 : frR (va_up rA 20 (upd (rA 20) (K.length + 1) x)) (K.length + 1) = (FR.u_o f x) := by
    rw [← h1]
    show (⟨_, upd (rA 20) _ x _, _, _, _, _⟩ : FR) = _
    rw [upd_at]; rfl
  rw [e1]
  refine congrArg _ (h2.trans (stkR_cg (fun i hi _ => ?_)).symm)
  show (⟨_, upd (rA 20) _ x _, _, _, _, _⟩ : FR) = _
  rw [upd_ne _ _ (by omega)]; rfl
theorem MD.sn (h : MD L S ct rI rA s) {f : FR} {K : List FR} (eK : s.K = f :: K) : MD L S ct rI (va_up rA 21 (upd (rA 21) (K.length + 1) x)) (mK s ((FR.u_n f x) :: K)) := by
  obtain ⟨h1, h2, h3⟩ := h.top eK
  refine ⟨h.c, h.a, h.n, h.z, h.l, h.l1, h.sz, h.sl, h.ez, h.el, h3, ?_, h.t0, (by show upd (rA 21) (K.length + 1) x 0 = s.b; rw [upd_ne _ _ (by omega)]; exact h.b), h.q0, h.q1, h.q2, h.p, h.w, h.e⟩
  show _ :: K = frR _ (K.length + 1) :: stkR _ K.length
  have e1 : frR (va_up rA 21 (upd (rA 21) (K.length + 1) x)) (K.length + 1) = (FR.u_n f x) := by
    rw [← h1]
    show (⟨_, _, upd (rA 21) _ x _, _, _, _⟩ : FR) = _
    rw [upd_at]; rfl
  rw [e1]
  refine congrArg _ (h2.trans (stkR_cg (fun i hi _ => ?_)).symm)
  show (⟨_, _, upd (rA 21) _ x _, _, _, _⟩ : FR) = _
  rw [upd_ne _ _ (by omega)]; rfl
def FR.lst (f : FR) (c : Nat) (x : Int32) : FR := if c = 0 then (FR.u_a f x) else if c = 1 then (FR.u_b f x) else (FR.u_c f x)
theorem MD.sl' (h : MD L S ct rI rA s) {f : FR} {K : List FR} (eK : s.K = f :: K) (c : Nat) (hc : c < 3) : MD L S ct rI (va_up rA 22 (upd (rA 22) (3 * (K.length + 1) + c) x)) (mK s (f.lst c x :: K)) := by
  obtain ⟨h1, h2, h3⟩ := h.top eK
  refine ⟨h.c, h.a, h.n, h.z, h.l, h.l1, h.sz, h.sl, h.ez, h.el, h3, ?_, h.t0, h.b, (by show upd (rA 22) (3 * (K.length + 1) + c) x 0 = s.q0; rw [upd_ne _ _ (by omega)]; exact h.q0), (by show upd (rA 22) (3 * (K.length + 1) + c) x 1 = s.q1; rw [upd_ne _ _ (by omega)]; exact h.q1), (by show upd (rA 22) (3 * (K.length + 1) + c) x 2 = s.q2; rw [upd_ne _ _ (by omega)]; exact h.q2), h.p, h.w, h.e⟩
  show _ :: K = frR _ (K.length + 1) :: stkR _ K.length
  have e1 : frR (va_up rA 22 (upd (rA 22) (3 * (K.length + 1) + c) x)) (K.length + 1) = f.lst c x := by
    rw [← h1]
    show (⟨_, _, _, upd (rA 22) _ x _, upd (rA 22) _ x _, upd (rA 22) _ x _⟩ : FR) = _
    rcases (show c = 0 ∨ c = 1 ∨ c = 2 by omega) with e | e | e <;> subst e
    · rw [Nat.add_zero, upd_at, upd_ne _ _ (by omega), upd_ne _ _ (by omega)]; rfl
    · rw [upd_ne _ _ (by omega), upd_at, upd_ne _ _ (by omega)]; rfl
    · rw [upd_ne _ _ (by omega), upd_ne _ _ (by omega), upd_at]; rfl
  rw [e1]
  refine congrArg _ (h2.trans (stkR_cg (fun i hi _ => ?_)).symm)
  show (⟨_, _, _, upd (rA 22) _ x _, upd (rA 22) _ x _, upd (rA 22) _ x _⟩ : FR) = _
  rw [upd_ne _ _ (by omega), upd_ne _ _ (by omega), upd_ne _ _ (by omega)]; rfl
/-- other nodes -/
theorem MD.nd {rI' : Nat → Int32} {rA' : Nat → Nat → Int32} {N : List (List Int32)} (h : MD L S ct rI rA s) (hN : MN rI' rA' N) (F : FrN rI rA rI' rA') : MD L S ct rI' rA' (MS.u_N s N) := by
  have a : ∀ k, k ≠ 3 → k ≠ 4 → k ≠ 5 → k ≠ 6 → k ≠ 7 → k ≠ 8 → rA' k = rA k := F.2
  have hk : stkR rA' s.K.length = stkR rA s.K.length := stkR_cg (fun i _ _ => by
    unfold frR
    rw [a 19 (by decide) (by decide) (by decide) (by decide) (by decide) (by decide), a 20 (by decide) (by decide) (by decide) (by decide) (by decide) (by decide), a 21 (by decide) (by decide) (by decide) (by decide) (by decide) (by decide), a 22 (by decide) (by decide) (by decide) (by decide) (by decide) (by decide)])
  refine ⟨(F.1 1 (by decide)).trans h.c, hN.1, hN.2, (F.1 10 (by decide)).trans h.z, ?_, h.l1, (F.1 14 (by decide)).trans h.sz, ?_, (F.1 16 (by decide)).trans h.ez, ?_, (F.1 18 (by decide)).trans h.tz, h.tk.trans hk.symm, ?_, ?_, ?_, ?_, ?_, (F.1 23 (by decide)).trans h.p, (F.1 24 (by decide)).trans h.w, (F.1 25 (by decide)).trans h.e⟩
  · rw [a 9 (by decide) (by decide) (by decide) (by decide) (by decide) (by decide)]; exact h.l
  · rw [a 15 (by decide) (by decide) (by decide) (by decide) (by decide) (by decide)]; exact h.sl
  · rw [a 17 (by decide) (by decide) (by decide) (by decide) (by decide) (by decide)]; exact h.el
  · rw [a 19 (by decide) (by decide) (by decide) (by decide) (by decide) (by decide)]; exact h.t0
  · rw [a 21 (by decide) (by decide) (by decide) (by decide) (by decide) (by decide)]; exact h.b
  · rw [a 22 (by decide) (by decide) (by decide) (by decide) (by decide) (by decide)]; exact h.q0
  · rw [a 22 (by decide) (by decide) (by decide) (by decide) (by decide) (by decide)]; exact h.q1
  · rw [a 22 (by decide) (by decide) (by decide) (by decide) (by decide) (by decide)]; exact h.q2
end MDS
/-- the end of a method of the reference's reading -/
def MP (X : Nat × (Nat → Int32)) (cI : Nat → Int32) (cA : Nat → Nat → Int32) (ol : Int64) (J : mH) (L S : List Int32) (ct : Nat) (v : Option Value) (s : MS) : mR → mH → Prop := fun r h' => r = .inl v ∧ ∃ (rI : Nat → Int32) (rA : Nat → Nat → Int32), h' = HC X cI cA rI rA ol J ∧ MD L S ct rI rA s
abbrev MPi (X : Nat × (Nat → Int32)) (cI : Nat → Int32) (cA : Nat → Nat → Int32) (ol : Int64) (J : mH) (L S : List Int32) (ct : Nat) (q : IM) : mR → mH → Prop := MP X cI cA ol J L S ct (some (.int q.1)) q.2
section MRR
variable {M Nn : Mt} {d pc np : Nat} {lv : List (Nat × Value)} {st st0 As : List Value} {P : mR → mH → Prop} {X : Nat × (Nat → Int32)} {cI : Nat → Int32} {cA : Nat → Nat → Int32} {rI : Nat → Int32} {rA : Nat → Nat → Int32} {ol : Int64} {J : mH} {L S : List Int32} {ct : Nat} {s : MS}
theorem MP_ok {v : Option Value} {s' : MS} {u : Option Value} (ev : u = v) (es : s' = s) (h : MD L S ct rI rA s') : MP X cI cA ol J L S ct v s (.inl u) (HC X cI cA rI rA ol J) := by
  subst ev; subst es
  exact ⟨rfl, rI, rA, rfl, h⟩
theorem ep_callVm {v : Option Value} {ix o ci : Nat} {fs : List Value} (hd : decode M.2.1 pc = .ok (.invokevirtual ix, 3)) (hl : InT (.methodLink M.1.cls ix Nn.1)) (hN : Cal Nn np) (hm : InT (.instanceMethod Nn.1)) (hs : InT (.selects Nn.1.cls Nn.1 Nn.1)) (ho : (HC X cI cA rI rA ol J)[o]? = some (.inl (ci, fs))) (hci : (vCl[ci]?).map (fun q => q.1) = some Nn.1.cls) (hnp : As.length = np) (hal : ((Value.ref o :: As).map fun v => v.category).sum ≤ Nn.2.2.1) (hcat : (st.map fun v => v.category).sum ≤ 8) (hst : st0 = As.reverse ++ .ref o :: st) (hh : M.2.2.2.2 = [])
    (ev : EvP Nn d 0 (lv_args 0 (.ref o :: As)) [] (HC X cI cA rI rA ol J) (MP X cI cA ol J L S ct v s))
    (k : ∀ rI' rA', MD L S ct rI' rA' s → EvP M (d + 1) (pc + 3) lv (v.toList ++ st) (HC X cI cA rI' rA' ol J) P) : EvP M (d + 1) pc lv st0 (HC X cI cA rI rA ol J) P := by
  refine ep_callV hd hl hN hm hs ho hci hnp hal hcat hst hh ev (fun u h1 q => ?_) (fun x h1 q => ?_)
  · obtain ⟨q1, rI1, rA1, q2, q3⟩ := q
    cases q1
    subst q2
    exact k rI1 rA1 q3
  · obtain ⟨q1, _⟩ := q
    cases q1
end MRR
