/-! writing, as functions of lists: what the class's writer does; then the rules by which its methods are walked -/
/-- letters, table -/
abbrev WS : Type := List Int32 × List Int32
def wp1 (c : Int32) (w : WS) : Ex WS := if w.1.length < 120 then .inr (w.1 ++ [c], w.2) else .inl 2
def wpl : List Int32 → WS → Ex WS
  | [], w => .inr w
  | c :: cs, w => bnd (wp1 c w) (wpl cs)
def wta (w : WS) (x : Int32) : WS := (w.1, if w.2.length < 120 then w.2 ++ [x] else w.2)
/-- the place of a node in the table, -1 where it is not -/
def tix (T : List Int32) (x : Int32) : Int32 := if T.findIdx (fun y => decide (y = x)) < T.length then nI (T.findIdx (fun y => decide (y = x))) else -1
def d36 (d : Int32) : Int32 := if 10 ≤ d then 65 + d - 10 else 48 + d
def toldS (m : Int32) : List Int32 := 83 :: ((if m ≤ 36 then [] else [d36 ((m - 1) / 36)]) ++ ((if m ≤ 0 then [] else [d36 (m - 1 - (m - 1) / 36 * 36)]) ++ [95]))
def dcu (n u : Int32) : List Int32 := if n < u then [] else [48 + (n / u - n / u / 10 * 10)]
def decL (n : Int32) : List Int32 := dcu n 100000 ++ (dcu n 10000 ++ (dcu n 1000 ++ (dcu n 100 ++ (dcu n 10 ++ [48 + (n - n / 10 * 10)]))))
def idL (v : Int32) : List Int32 := if lenId v = 1 then [49, byId v 0] else if lenId v = 2 then [50, byId v 8, byId v 0] else if lenId v = 3 then [51, byId v 16, byId v 8, byId v 0] else [52, byId v 24, byId v 16, byId v 8, byId v 0]
def blL (k : Int32) : List Int32 := if k < 0 ∨ 8 ≤ k then [] else [stCh 0 k.toNatClampNeg]
def wrL (k : Int32) : List Int32 := if k - 4 < 0 ∨ 3 ≤ k - 4 then [] else [stCh 1 (k - 4).toNatClampNeg]
def abF (v : Int32) : Int32 := if 0 ≤ v then v else 0 - v
def litL (N : List (List Int32)) (x : Int32) : List Int32 := 76 :: (blL (cN N (cN N x 2) 1) ++ ((if 0 ≤ cN N x 1 then [] else [110]) ++ (decL (abF (cN N x 1)) ++ [69])))
def wTold (x : Int32) (w : WS) : Ex (Int32 × WS) := if tix w.2 x = -1 then .inr (0, w) else bnd (wpl (toldS (tix w.2 x)) w) fun w1 => .inr (1, w1)
def wArg (N : List (List Int32)) (rec : Bool → Int32 → WS → Ex WS) (x : Int32) (w : WS) : Ex WS := if kN N x = 9 then wpl (litL N x) w else if x = -1 then .inr w else rec false x w
def wArgs (N : List (List Int32)) (rec : Bool → Int32 → WS → Ex WS) (x : Int32) (w : WS) : Ex WS := bnd (wp1 73 w) fun w1 => bnd (wArg N rec (cN N x 4) w1) fun w2 => bnd (wArg N rec (cN N x 5) w2) fun w3 => bnd (wArg N rec (cN N x 6) w3) fun w4 => wp1 69 w4
def wPar (rec : Bool → Int32 → WS → Ex WS) (x : Int32) (w : WS) : Ex WS := if x = -1 then .inr w else rec false x w
def wPars (N : List (List Int32)) (rec : Bool → Int32 → WS → Ex WS) (x : Int32) (w : WS) : Ex WS := bnd (if cN N x 4 = -1 then wp1 118 w else .inr w) fun w1 => bnd (wPar rec (cN N x 4) w1) fun w2 => bnd (wPar rec (cN N x 5) w2) fun w3 => wPar rec (cN N x 6) w3
def wFil (N : List (List Int32)) (rec : Bool → Int32 → WS → Ex WS) (x : Int32) (w : WS) : Ex WS := if kN N (cN N x 2) = 2 then bnd (wp1 78 w) fun w1 => bnd (rec true (cN N x 2) w1) fun w2 => bnd (wArgs N rec x w2) fun w3 => wp1 69 w3 else bnd (rec true (cN N x 2) w) fun w2 => wArgs N rec x w2
def wUnt (N : List (List Int32)) (rec : Bool → Int32 → WS → Ex WS) (x : Int32) (w : WS) : Ex WS :=
  if kN N x = 2 then bnd (wp1 78 w) fun w1 => bnd (rec true (cN N x 2) w1) fun w2 => bnd (wpl (idL (cN N x 1)) w2) fun w3 => wp1 69 w3
  else if kN N x = 3 then wFil N rec x w
  else if kN N x = 4 ∨ kN N x = 5 ∨ kN N x = 6 then bnd (wpl (wrL (kN N x)) w) fun w1 => rec false (cN N x 2) w1
  else if kN N x = 7 then bnd (wp1 65 w) fun w1 => bnd (wpl (decL (cN N x 1)) w1) fun w2 => bnd (wp1 95 w2) fun w3 => rec false (cN N x 2) w3
  else if kN N x = 8 then bnd (wp1 70 w) fun w1 => bnd (rec false (cN N x 2) w1) fun w2 => bnd (wPars N rec x w2) fun w3 => wp1 69 w3
  else wpl (idL (cN N x 1)) w
def wPreN (N : List (List Int32)) (rec : Bool → Int32 → WS → Ex WS) (x : Int32) (w : WS) : Ex WS :=
  if kN N x = 2 then bnd (rec true (cN N x 2) w) fun w2 => wpl (idL (cN N x 1)) w2
  else if kN N x = 3 then bnd (rec true (cN N x 2) w) fun w2 => wArgs N rec x w2
  else wpl (idL (cN N x 1)) w
def wTyB (N : List (List Int32)) (unt : Int32 → WS → Ex WS) (x : Int32) (w : WS) : Ex WS := if kN N x = 0 then wpl (blL (cN N x 1)) w else bnd (wTold x w) fun q => if q.1 = 0 then bnd (unt x q.2) fun w1 => .inr (wta w1 x) else .inr q.2
def wPrB (pre : Int32 → WS → Ex WS) (x : Int32) (w : WS) : Ex WS := bnd (wTold x w) fun q => if q.1 = 0 then bnd (pre x q.2) fun w1 => .inr (wta w1 x) else .inr q.2
def wW (N : List (List Int32)) : Nat → Bool → Int32 → WS → Ex WS
  | 0, b, x, w => if b = true then wPrB (fun _ _ => .inl 2) x w else wTyB N (fun _ _ => .inl 2) x w
  | k + 1, b, x, w => if b = true then wPrB (wPreN N (wW N k)) x w else wTyB N (wUnt N (wW N k)) x w
def wEnt (N : List (List Int32)) (e : Int32) : Ex WS := bnd (wp1 95 ([], [])) fun w1 => bnd (wp1 90 w1) fun w2 => bnd (wUnt N (wW N 15) (cN N e 2) w2) fun w3 => bnd (if cN N e 3 = -1 then .inr w3 else wW N 16 false (cN N e 3) w3) fun w4 => wPars N (wW N 16) e w4
theorem wpl_app (a b : List Int32) (w : WS) : wpl (a ++ b) w = bnd (wpl a w) (wpl b) := by
  induction a generalizing w with
  | nil => rfl
  | cons c cs ih =>
    show bnd (wp1 c w) (wpl (cs ++ b)) = bnd (bnd (wp1 c w) (wpl cs)) (wpl b)
    cases wp1 c w with
    | inl k => rfl
    | inr w1 => exact ih w1
theorem wpl_c (c : Int32) (cs : List Int32) (w : WS) : wpl (c :: cs) w = bnd (wp1 c w) (wpl cs) := rfl
theorem wpl_n (w : WS) : wpl [] w = .inr w := rfl
theorem wpl_1 (c : Int32) (w : WS) : wpl [c] w = wp1 c w := by
  rw [wpl_c]
  cases wp1 c w <;> rfl
theorem tix_F {f : Nat → Int32} {n : Nat} (x : Int32) : rwFindI f n x = tix (rowL f n) x := by
  unfold tix
  rw [rowL_len]
  by_cases hi : (rowL f n).findIdx (fun y => decide (y = x)) < n
  · rw [if_pos hi]
    have hl : (rowL f n).findIdx (fun y => decide (y = x)) < (rowL f n).length := by rw [rowL_len]; exact hi
    refine rwFind_at hi ?_ (fun j hj z => ?_)
    · have h1 := List.findIdx_getElem (w := hl)
      have h2 := rowL_at (f := f) hi
      rw [List.getElem?_eq_getElem hl] at h2
      rw [Option.some.inj h2] at h1
      simpa using h1
    · have h1 := List.not_of_lt_findIdx hj
      have hjn : j < n := by omega
      have h2 := rowL_at (f := f) hjn
      rw [List.getElem?_eq_getElem (by rw [rowL_len]; exact hjn)] at h2
      rw [Option.some.inj h2] at h1
      simp [z] at h1
  · rw [if_neg hi]
    refine rwFind_no (fun j hj z => ?_)
    have he : (rowL f n).findIdx (fun y => decide (y = x)) = (rowL f n).length := by
      have := List.findIdx_le_length (p := fun y => decide (y = x)) (xs := rowL f n)
      rw [rowL_len] at this ⊢
      omega
    have := List.findIdx_eq_length.mp he (f j) (by unfold rowL; exact List.mem_map.mpr ⟨j, List.mem_range.mpr hj, rfl⟩)
    simp [z] at this
/-- where the class's writer stands -/
def CW (cI : Nat → Int32) (cA : Nat → Nat → Int32) (N : List (List Int32)) (w : WS) : Prop := CN cI cA N ∧ (cI 4 = nI w.1.length ∧ w.1.length ≤ 120 ∧ w.1 = rowL (cA 3) w.1.length) ∧ (cI 5 = nI w.2.length ∧ w.2.length ≤ 120 ∧ w.2 = rowL (cA 4) w.2.length)
def Fr3 (cI : Nat → Int32) (cA : Nat → Nat → Int32) (cI' : Nat → Int32) (cA' : Nat → Nat → Int32) : Prop := (∀ k, k ≠ 4 → k ≠ 5 → cI' k = cI k) ∧ (∀ k, k ≠ 3 → k ≠ 4 → cA' k = cA k)
theorem Fr3.rfl' {cI : Nat → Int32} {cA : Nat → Nat → Int32} : Fr3 cI cA cI cA := ⟨fun _ _ _ => rfl, fun _ _ _ => rfl⟩
theorem Fr3.trans {a b c : Nat → Int32} {a' b' c' : Nat → Nat → Int32} (h : Fr3 a a' b b') (k : Fr3 b b' c c') : Fr3 a a' c c' := ⟨fun q h1 h2 => (k.1 q h1 h2).trans (h.1 q h1 h2), fun q h1 h2 => (k.2 q h1 h2).trans (h.2 q h1 h2)⟩
theorem CW.putd {cI : Nat → Int32} {cA : Nat → Nat → Int32} {N : List (List Int32)} {w : WS} (h : CW cI cA N w) (hl : w.1.length < 120) (x : Int32) : CW (upd cI 4 (nI (w.1.length + 1))) (va_up cA 3 (upd (cA 3) w.1.length x)) N (w.1 ++ [x], w.2) := by
  refine ⟨h.1, ⟨?_, ?_, ?_⟩, h.2.2⟩
  · rw [List.length_append]; rfl
  · rw [List.length_append]; exact hl
  · rw [List.length_append]
    show _ = rowL (upd (cA 3) w.1.length x) (w.1.length + 1)
    rw [rowL_upd]
    exact congrArg (· ++ [x]) h.2.1.2.2
theorem CW.tadd {cI : Nat → Int32} {cA : Nat → Nat → Int32} {N : List (List Int32)} {w : WS} (h : CW cI cA N w) (hl : w.2.length < 120) (x : Int32) : CW (upd cI 5 (nI (w.2.length + 1))) (va_up cA 4 (upd (cA 4) w.2.length x)) N (wta w x) := by
  have e : (wta w x).2 = w.2 ++ [x] := if_pos hl
  refine ⟨h.1, h.2.1, ⟨?_, ?_, ?_⟩⟩
  · rw [e, List.length_append]; rfl
  · rw [e, List.length_append]; exact hl
  · rw [e, List.length_append]
    show _ = rowL (upd (cA 4) w.2.length x) (w.2.length + 1)
    rw [rowL_upd]
    exact congrArg (· ++ [x]) h.2.2.2.2
theorem Fr3.p {cI : Nat → Int32} {cA : Nat → Nat → Int32} {x : Int32} {f : Nat → Int32} : Fr3 cI cA (upd cI 4 x) (va_up cA 3 f) := ⟨fun k h _ => by unfold upd; rw [if_neg h], fun k h _ => by unfold va_up; rw [if_neg h]⟩
theorem Fr3.t {cI : Nat → Int32} {cA : Nat → Nat → Int32} {x : Int32} {f : Nat → Int32} : Fr3 cI cA (upd cI 5 x) (va_up cA 4 f) := ⟨fun k _ h => by unfold upd; rw [if_neg h], fun k _ h => by unfold va_up; rw [if_neg h]⟩
/-- the end of a writing method -/
def WPg {α : Type} (f : α → Option Value) (g : α → WS) (X : Nat × (Nat → Int32)) (cI : Nat → Int32) (cA : Nat → Nat → Int32) (rI : Nat → Int32) (rA : Nat → Nat → Int32) (ol : Int64) (J : mH) (N : List (List Int32)) (res : Ex α) : mR → mH → Prop := fun r h' => ∃ (cI' : Nat → Int32) (cA' : Nat → Nat → Int32), Fr3 cI cA cI' cA' ∧ ((∃ q, res = .inr q ∧ r = .inl (f q) ∧ h' = HC X cI' cA' rI rA ol J ∧ CW cI' cA' N (g q)) ∨ (∃ k s', res = .inl k ∧ Rx k (HC X cI' cA' rI rA ol J) r h' ∧ CW cI' cA' N s'))
abbrev WP := WPg (fun q : Int32 × WS => some (.int q.1)) (fun q => q.2)
abbrev WPu := WPg (fun _ : WS => none) (fun s => s)
section WW1
variable {M Nn : Mt} {d pc np : Nat} {lv : List (Nat × Value)} {st st0 As : List Value} {P : mR → mH → Prop} {X : Nat × (Nat → Int32)} {cI : Nat → Int32} {cA : Nat → Nat → Int32} {rI : Nat → Int32} {rA : Nat → Nat → Int32} {ol : Int64} {J : mH} {N : List (List Int32)} {s : WS} {α : Type} {f : α → Option Value} {g : α → WS} {res : Ex α} {cI' : Nat → Int32} {cA' : Nat → Nat → Int32}
theorem WP_ok {q : α} (F : Fr3 cI cA cI' cA') (e : res = .inr q) (hR : CW cI' cA' N (g q)) : WPg f g X cI cA rI rA ol J N res (.inl (f q)) (HC X cI' cA' rI rA ol J) := ⟨cI', cA', F, Or.inl ⟨q, e, rfl, rfl, hR⟩⟩
theorem WP_x {k : Nat} {s' : WS} (F : Fr3 cI cA cI' cA') (e : res = .inl k) (hR : CW cI' cA' N s') : WPg f g X cI cA rI rA ol J N res (.inr (HC X cI' cA' rI rA ol J).length) (HC X cI' cA' rI rA ol J ++ [mT k]) := ⟨cI', cA', F, Or.inr ⟨k, s', e, ⟨rfl, rfl⟩, hR⟩⟩
theorem WP_fr {cI1 : Nat → Int32} {cA1 : Nat → Nat → Int32} {r : mR} {h' : mH} (F : Fr3 cI cA cI1 cA1) (q : WPg f g X cI1 cA1 rI rA ol J N res r h') : WPg f g X cI cA rI rA ol J N res r h' := by
  obtain ⟨a, b, F1, q⟩ := q
  exact ⟨a, b, F.trans F1, q⟩
theorem ep_callVw {ix o ci : Nat} {fs : List Value} (hd : decode M.2.1 pc = .ok (.invokevirtual ix, 3)) (hl : InT (.methodLink M.1.cls ix Nn.1)) (hN : Cal Nn np) (hm : InT (.instanceMethod Nn.1)) (hs : InT (.selects Nn.1.cls Nn.1 Nn.1)) (ho : (HC X cI cA rI rA ol J)[o]? = some (.inl (ci, fs))) (hci : (vCl[ci]?).map (fun q => q.1) = some Nn.1.cls) (hnp : As.length = np) (hal : ((Value.ref o :: As).map fun v => v.category).sum ≤ Nn.2.2.1) (hcat : (st.map fun v => v.category).sum ≤ 8) (hst : st0 = As.reverse ++ .ref o :: st) (hh : M.2.2.2.2 = [])
    (ev : EvP Nn d 0 (lv_args 0 (.ref o :: As)) [] (HC X cI cA rI rA ol J) (WPg f g X cI cA rI rA ol J N res))
    (k1 : ∀ q cI' cA', res = .inr q → CW cI' cA' N (g q) → Fr3 cI cA cI' cA' → EvP M (d + 1) (pc + 3) lv ((f q).toList ++ st) (HC X cI' cA' rI rA ol J) P)
    (k2 : ∀ k cI' cA' s', res = .inl k → CW cI' cA' N s' → Fr3 cI cA cI' cA' → P (.inr (HC X cI' cA' rI rA ol J).length) (HC X cI' cA' rI rA ol J ++ [mT k])) : EvP M (d + 1) pc lv st0 (HC X cI cA rI rA ol J) P := by
  refine ep_callV hd hl hN hm hs ho hci hnp hal hcat hst hh ev (fun v h1 q => ?_) (fun x h1 q => ?_)
  · obtain ⟨cI1, cA1, F, ⟨q, e, q1, q2, hR⟩ | ⟨k, s', e, ⟨q1, q2⟩, hR⟩⟩ := q
    · cases q1
      subst q2
      exact k1 q cI1 cA1 e hR F
    · cases q1
  · obtain ⟨cI1, cA1, F, ⟨q, e, q1, q2, hR⟩ | ⟨k, s', e, ⟨q1, q2⟩, hR⟩⟩ := q
    · cases q1
    · cases q1
      subst q2
      exact k2 k cI1 cA1 s' e hR F
theorem ep_callVtw {ix o ci : Nat} {fs : List Value} {s1 : WS} (hd : decode M.2.1 pc = .ok (.invokevirtual ix, 3)) (hl : InT (.methodLink M.1.cls ix Nn.1)) (hN : Cal Nn np) (hm : InT (.instanceMethod Nn.1)) (hs : InT (.selects Nn.1.cls Nn.1 Nn.1)) (ho : (HC X cI cA rI rA ol J)[o]? = some (.inl (ci, fs))) (hci : (vCl[ci]?).map (fun q => q.1) = some Nn.1.cls) (hnp : As.length = np) (hal : ((Value.ref o :: As).map fun v => v.category).sum ≤ Nn.2.2.1) (hcat : (st.map fun v => v.category).sum ≤ 8) (hst : st0 = As.reverse ++ .ref o :: st) (hh : M.2.2.2.2 = [])
    (ev : EvP Nn d 0 (lv_args 0 (.ref o :: As)) [] (HC X cI cA rI rA ol J) (fun r h' => ∃ (b : Int32) (cI' : Nat → Int32) (cA' : Nat → Nat → Int32), r = .inl (some (.int b)) ∧ h' = HC X cI' cA' rI rA ol J ∧ CW cI' cA' N s1 ∧ Fr3 cI cA cI' cA'))
    (k : ∀ (b : Int32) cI' cA', CW cI' cA' N s1 → Fr3 cI cA cI' cA' → EvP M (d + 1) (pc + 3) lv (.int b :: st) (HC X cI' cA' rI rA ol J) P) : EvP M (d + 1) pc lv st0 (HC X cI cA rI rA ol J) P := by
  refine ep_callV hd hl hN hm hs ho hci hnp hal hcat hst hh ev (fun v h1 q => ?_) (fun x h1 q => ?_)
  · obtain ⟨b, cI1, cA1, q1, q2, hR, F⟩ := q
    cases q1
    subst q2
    exact k b cI1 cA1 hR F
  · obtain ⟨b, cI1, cA1, q1, _⟩ := q
    cases q1
theorem WT_add (hR : CW cI cA N s) (x : Int32) : EvP m_W_add d 0 [(0, .ref 11), (1, .int x)] [] (HC X cI cA rI rA ol J) (fun r h' => ∃ (b : Int32) (cI' : Nat → Int32) (cA' : Nat → Nat → Int32), r = .inl (some (.int b)) ∧ h' = HC X cI' cA' rI rA ol J ∧ CW cI' cA' N (wta s x) ∧ Fr3 cI cA cI' cA') := by
  have ho : (HC X cI cA rI rA ol J)[11]? = some (mO 2 [.ref 12, .int (nI s.2.length)]) := by rw [← hR.2.2.1]; rfl
  have ha : (HC X cI cA rI rA ol J)[12]? = some (mA 120 (cA 4)) := rfl
  by_cases z : s.2.length < 120
  · refine (w_add ho ha (by decide) hR.2.2.2.1 z x).mono (fun r h2 q => ?_)
    obtain ⟨q1, q2⟩ := q
    subst q1; subst q2
    exact ⟨1, _, _, rfl, rfl, hR.tadd z x, Fr3.t⟩
  · refine (w_add_no ho ha (by decide) hR.2.2.2.1 (by have := hR.2.2.2.1; omega) x).mono (fun r h2 q => ?_)
    obtain ⟨q1, q2⟩ := q
    subst q1; subst q2
    refine ⟨0, cI, cA, rfl, rfl, ?_, Fr3.rfl'⟩
    have e : wta s x = s := by unfold wta; rw [if_neg z]
    rw [e]; exact hR
theorem WL_add (hR : CW cI cA N s) (hl : s.1.length < 120) (x : Int32) : EvP m_W_add d 0 [(0, .ref 9), (1, .int x)] [] (HC X cI cA rI rA ol J) (Ri 1 (HC X (upd cI 4 (nI (s.1.length + 1))) (va_up cA 3 (upd (cA 3) s.1.length x)) rI rA ol J)) := by
  have ho : (HC X cI cA rI rA ol J)[9]? = some (mO 2 [.ref 10, .int (nI s.1.length)]) := by rw [← hR.2.1.1]; rfl
  have ha : (HC X cI cA rI rA ol J)[10]? = some (mA 120 (cA 3)) := rfl
  exact w_add ho ha (by decide) hR.2.1.2.1 hl x
theorem WL_add_no (hR : CW cI cA N s) (hl : ¬ s.1.length < 120) (x : Int32) : EvP m_W_add d 0 [(0, .ref 9), (1, .int x)] [] (HC X cI cA rI rA ol J) (Ri 0 (HC X cI cA rI rA ol J)) := by
  have ho : (HC X cI cA rI rA ol J)[9]? = some (mO 2 [.ref 10, .int (nI s.1.length)]) := by rw [← hR.2.1.1]; rfl
  have ha : (HC X cI cA rI rA ol J)[10]? = some (mA 120 (cA 3)) := rfl
  exact w_add_no ho ha (by decide) hR.2.1.2.1 (by have := hR.2.1.2.1; omega) x
theorem WT_find (hR : CW cI cA N s) (x : Int32) : EvP m_W_find d 0 [(0, .ref 11), (1, .int x)] [] (HC X cI cA rI rA ol J) (Ri (tix s.2 x) (HC X cI cA rI rA ol J)) := by
  have ho : (HC X cI cA rI rA ol J)[11]? = some (mO 2 [.ref 12, .int (nI s.2.length)]) := by rw [← hR.2.2.1]; rfl
  have e : tix s.2 x = rwFindI (cA 4) s.2.length x := by
    rw [tix_F]
    exact congrArg (fun z => tix z x) hR.2.2.2.2
  rw [e]
  exact w_find ho (show (HC X cI cA rI rA ol J)[12]? = some (mA 120 (cA 4)) from rfl) (by decide) hR.2.2.2.1 x
end WW1
