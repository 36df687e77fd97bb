/-! nodes as rows of eight; who may be what; adding; by program (wip/whole/gen21.py) -/
/-- an answer, or the kind of what is thrown -/
abbrev Ex (α : Type) : Type := Nat ⊕ α
/-- a node's eight cells -/
def ndrow (c : Nat → Int32) (i : Nat) : List Int32 := [c (i * 8 + 0), c (i * 8 + 1), c (i * 8 + 2), c (i * 8 + 3), c (i * 8 + 4), c (i * 8 + 5), c (i * 8 + 6), c (i * 8 + 7)]
def ndL (c : Nat → Int32) (n : Nat) : List (List Int32) := (List.range n).map (ndrow c)
theorem ndL_len (c : Nat → Int32) (n : Nat) : (ndL c n).length = n := by unfold ndL; rw [List.length_map, List.length_range]
theorem ndL_at {c : Nat → Int32} {n i : Nat} (h : i < n) : (ndL c n)[i]? = some (ndrow c i) := by
  unfold ndL
  rw [List.getElem?_map, List.getElem?_range h]
  rfl
theorem ndL_succ (c : Nat → Int32) (n : Nat) : ndL c (n + 1) = ndL c n ++ [ndrow c n] := by
  unfold ndL
  rw [List.range_succ, List.map_append]
  rfl
theorem ndrow_cg {c c' : Nat → Int32} {i : Nat} (h : ∀ j, j < i * 8 + 8 → i * 8 ≤ j → c' j = c j) : ndrow c' i = ndrow c i := by
  unfold ndrow
  rw [h _ (by omega) (by omega), h _ (by omega) (by omega), h _ (by omega) (by omega), h _ (by omega) (by omega), h _ (by omega) (by omega), h _ (by omega) (by omega), h _ (by omega) (by omega), h _ (by omega) (by omega)]
theorem ndL_cg {c c' : Nat → Int32} {n : Nat} (h : ∀ j, j < n * 8 → c' j = c j) : ndL c' n = ndL c n := by
  unfold ndL
  exact List.map_congr_left fun i hi => ndrow_cg fun j h1 _ => h j (by have := List.mem_range.mp hi; omega)
/-- the node of a number, no cells where there is none -/
def nth (N : List (List Int32)) (x : Int32) : List Int32 := if 0 ≤ x ∧ x < nI N.length then N.getD x.toNatClampNeg [] else []
def cN (N : List (List Int32)) (x : Int32) (w : Nat) : Int32 := (nth N x).getD w (-1)
abbrev kN (N : List (List Int32)) (x : Int32) : Int32 := cN N x 0
def CN (cI : Nat → Int32) (cA : Nat → Nat → Int32) (N : List (List Int32)) : Prop := cI 1 = nI N.length ∧ N.length ≤ 180 ∧ N = ndL (cA 0) N.length
theorem ndrow_w {c : Nat → Int32} {i w : Nat} (hw : w < 8) : (ndrow c i).getD w (-1) = c (i * 8 + w) := by
  rcases (show w = 0 ∨ w = 1 ∨ w = 2 ∨ w = 3 ∨ w = 4 ∨ w = 5 ∨ w = 6 ∨ w = 7 by omega) with h | h | h | h | h | h | h | h <;> subst h <;> rfl
theorem nth_L {c : Nat → Int32} {n i : Nat} {x : Int32} (hn : n < 2 ^ 31) (hx : x = nI i) (hi : i < n) : nth (ndL c n) x = ndrow c i := by
  unfold nth
  rw [if_pos (by rw [hx, ndL_len]; exact ⟨nI_pos' (by omega), nI_lt hi hn⟩), hx, nI_clamp (by omega), List.getD_eq_getElem?_getD, ndL_at hi]
  rfl
theorem nth_no {N : List (List Int32)} {x : Int32} (h : ¬ (0 ≤ x ∧ x < nI N.length)) : nth N x = [] := if_neg h
theorem cellF_N {cI : Nat → Int32} {cA : Nat → Nat → Int32} {N : List (List Int32)} (h : CN cI cA N) (x : Int32) {w : Int32} {v : Nat} (hw : w = nI v) (hv : v < 8) : cellF (cA 0) N.length x w = cN N x v := by
  have hw1 : 0 ≤ w ∧ w < 8 := by rw [hw, nI_8]; exact ⟨nI_pos' (by omega), nI_lt hv (by omega)⟩
  have hl := h.2.1
  unfold cellF cN
  by_cases q : 0 ≤ x ∧ x < nI N.length
  · rw [if_pos ⟨q, hw1⟩]
    obtain ⟨i, hi1, hi⟩ := nI_of' q.1
    have hin : i < N.length := (nI_ltI hi1 (by omega)).mp (by rw [← hi]; exact q.2)
    rw [h.2.2, nth_L (by omega) hi hin, hi, hw, nI_clamp hi1, nI_clamp (by omega), ndrow_w hv]
  · rw [if_neg (fun z => q z.1), nth_no q]
    rfl
theorem kindF_N {cI : Nat → Int32} {cA : Nat → Nat → Int32} {N : List (List Int32)} (h : CN cI cA N) (x : Int32) : kindF (cA 0) N.length x = kN N x := by
  show _ = cN N x 0
  rw [← cellF_N h x nI_0.symm (by omega)]
  unfold kindF cellF
  by_cases q : 0 ≤ x ∧ x < nI N.length
  · rw [if_pos q, if_pos ⟨q, by decide⟩]; rfl
  · rw [if_neg q, if_neg (fun z => q z.1)]
def mx (x y : Int32) : Int32 := if x < y then y else x
/-- a node's depth, 0 where there is none -/
def dN (N : List (List Int32)) (x : Int32) : Int32 := mx 0 (cN N x 7)
def dmN (N : List (List Int32)) (f g a b c : Int32) : Int32 := mx (mx (dN N f) (dN N g)) (mx (dN N a) (mx (dN N b) (dN N c)))
def ixN (N : List (List Int32)) (v : List Int32) : Nat := N.findIdx (fun u => decide (u = v))
/-- the node with these cells, made if it is not there -/
def mkN (N : List (List Int32)) (v : List Int32) : Int32 × List (List Int32) := (nI (ixN N v), if ixN N v < N.length then N else N ++ [v])
def addN (N : List (List Int32)) (k v f g a b c : Int32) : Ex (Int32 × List (List Int32)) := if dmN N f g a b c < 16 then (if N.length < 180 then .inr (mkN N [k, v, f, g, a, b, c, dmN N f g a b c + 1]) else .inl 1) else .inl 0
abbrev tyP (N : List (List Int32)) (x : Int32) : Prop := ¬ kN N x < 0 ∧ ¬ 8 < kN N x
abbrev agP (N : List (List Int32)) (x : Int32) : Prop := x = -1 ∨ tyP N x ∨ kN N x = 9
abbrev paP (N : List (List Int32)) (x : Int32) : Prop := (kN N x = 0 ∧ ¬ cN N x 1 = 0) ∨ (¬ kN N x = 0 ∧ (x = -1 ∨ (¬ kN N x ≤ 0 ∧ ¬ 8 < kN N x)))
abbrev gaP (a b c : Int32) : Prop := (a = -1 ∧ ¬ b = -1) ∨ (b = -1 ∧ ¬ c = -1)
abbrev pfP (N : List (List Int32)) (x : Int32) : Prop := ¬ kN N x < 1 ∧ kN N x ≤ 3
abbrev psP (N : List (List Int32)) (a b c : Int32) : Prop := (paP N a ∧ paP N b ∧ paP N c) ∧ ¬ gaP a b c
def aBuiltin (N : List (List Int32)) (k : Int32) : Ex (Int32 × List (List Int32)) := if ¬ k < 0 ∧ k < 8 then addN N 0 k (-1) (-1) (-1) (-1) (-1) else .inl 0
def aName (N : List (List Int32)) (x : Int32) : Ex (Int32 × List (List Int32)) := if idP x then addN N 1 x (-1) (-1) (-1) (-1) (-1) else .inl 0
def aMember (N : List (List Int32)) (p x : Int32) : Ex (Int32 × List (List Int32)) := if pfP N p ∧ idP x then addN N 2 x p (-1) (-1) (-1) (-1) else .inl 0
def aFilled (N : List (List Int32)) (f a b c : Int32) : Ex (Int32 × List (List Int32)) := if (kN N f = 1 ∨ kN N f = 2) ∧ ((agP N a ∧ agP N b ∧ agP N c) ∧ ¬ a = -1 ∧ ¬ gaP a b c) then addN N 3 0 f (-1) a b c else .inl 0
def aWrapped (N : List (List Int32)) (k x : Int32) : Ex (Int32 × List (List Int32)) := if (k = 4 ∨ k = 5 ∨ k = 6) ∧ tyP N x ∧ ¬ (k = 6 ∧ kN N x = 6) then addN N k 0 x (-1) (-1) (-1) (-1) else .inl 0
def aArray (N : List (List Int32)) (x n : Int32) : Ex (Int32 × List (List Int32)) := if tyP N x ∧ ¬ n < 1 ∧ n ≤ 999 then addN N 7 n x (-1) (-1) (-1) (-1) else .inl 0
def aFunction (N : List (List Int32)) (g a b c : Int32) : Ex (Int32 × List (List Int32)) := if tyP N g ∧ psP N a b c then addN N 8 0 g (-1) a b c else .inl 0
def aLiteral (N : List (List Int32)) (x v : Int32) : Ex (Int32 × List (List Int32)) := if (kN N x = 0 ∧ ¬ cN N x 1 = 0) ∧ ¬ v < -999999 ∧ v ≤ 999999 then addN N 9 v x (-1) (-1) (-1) (-1) else .inl 0
def aEntity (N : List (List Int32)) (s g a b c : Int32) : Ex (Int32 × List (List Int32)) := if pfP N s ∧ (if kN N s = 3 then tyP N g else g = -1) ∧ psP N a b c then addN N 10 0 s g a b c else .inl 0
def Fr1 (cI : Nat → Int32) (cA : Nat → Nat → Int32) (cI' : Nat → Int32) (cA' : Nat → Nat → Int32) : Prop := (∀ k, k ≠ 1 → cI' k = cI k) ∧ (∀ k, k ≠ 0 → cA' k = cA k)
/-- the end of an adding method -/
def AP (X : Nat × (Nat → Int32)) (cI : Nat → Int32) (cA : Nat → Nat → Int32) (rI : Nat → Int32) (rA : Nat → Nat → Int32) (ol : Int64) (J : mH) (res : Ex (Int32 × List (List Int32))) : mR → mH → Prop := fun r h' => (∃ k, res = .inl k ∧ Rx k (HC X cI cA rI rA ol J) r h') ∨ (∃ q, res = .inr q ∧ ∃ (cI' : Nat → Int32) (cA' : Nat → Nat → Int32), r = .inl (some (.int q.1)) ∧ h' = HC X cI' cA' rI rA ol J ∧ CN cI' cA' q.2 ∧ Fr1 cI cA cI' cA')
section EY
variable {M N : Mt} {d pc np : Nat} {lv : List (Nat × Value)} {st st0 As : List Value} {h h2 : mH} {P P1 : mR → mH → Prop}
theorem ep_callVn {ix o ci : Nat} {fs : List Value} {B : Prop} [dB : Decidable B] (hd : decode M.2.1 pc = .ok (.invokevirtual ix, 3)) (hl : InT (.methodLink M.1.cls ix N.1)) (hN : Cal N np) (hm : InT (.instanceMethod N.1)) (hs : InT (.selects N.1.cls N.1 N.1)) (ho : h[o]? = some (.inl (ci, fs))) (hci : (vCl[ci]?).map (fun q => q.1) = some N.1.cls) (hnp : As.length = np) (hal : ((Value.ref o :: As).map fun v => v.category).sum ≤ N.2.2.1) (hcat : (st.map fun v => v.category).sum ≤ 8) (hst : st0 = As.reverse ++ .ref o :: st) (hh : M.2.2.2.2 = [])
    (ev : EvP N d 0 (lv_args 0 (.ref o :: As)) [] h (RU (if B then none else some 0) h2)) (k1 : B → EvP M (d + 1) (pc + 3) lv st h2 P) (k2 : ¬ B → P (.inr h2.length) (h2 ++ [mT 0])) : EvP M (d + 1) pc lv st0 h P := by
  refine ep_callVu hd hl hN hm hs ho hci hnp hal hcat hst hh ev (fun q => ?_) (fun kd q => ?_)
  · by_cases z : B
    · exact k1 z
    · rw [if_neg z] at q; cases q
  · by_cases z : B
    · rw [if_pos z] at q; cases q
    · rw [if_neg z] at q; cases q; exact k2 z
theorem ep_callSn {ix : Nat} {B : Prop} [dB : Decidable B] (hd : decode M.2.1 pc = .ok (.invokestatic ix, 3)) (hl : InT (.methodLink M.1.cls ix N.1) ∨ ∃ host, InT (.methodLinkNest M.1.cls ix N.1 host)) (hN : Cal N np) (hm : InT (.static N.1)) (hi : InT (.initialized N.1.cls)) (hnp : As.length = np) (hal : (As.map fun v => v.category).sum ≤ N.2.2.1) (hcat : (st.map fun v => v.category).sum ≤ 8) (hst : st0 = As.reverse ++ st) (hh : M.2.2.2.2 = [])
    (ev : EvP N d 0 (lv_args 0 As) [] h (RU (if B then none else some 0) h2)) (k1 : B → EvP M (d + 1) (pc + 3) lv st h2 P) (k2 : ¬ B → P (.inr h2.length) (h2 ++ [mT 0])) : EvP M (d + 1) pc lv st0 h P := by
  refine ep_callSu hd hl hN hm hi hnp hal hcat hst hh ev (fun q => ?_) (fun kd q => ?_)
  · by_cases z : B
    · exact k1 z
    · rw [if_neg z] at q; cases q
  · by_cases z : B
    · rw [if_pos z] at q; cases q
    · rw [if_neg z] at q; cases q; exact k2 z
theorem ep_res {α : Type} {Q : α → mR → mH → Prop} {res res' : α} (e : res = res') (k : EvP M d pc lv st h (Q res')) : EvP M d pc lv st h (Q res) := by rw [e]; exact k
end EY
section NE
variable {d : Nat} {X : Nat × (Nat → Int32)} {cI : Nat → Int32} {cA : Nat → Nat → Int32} {rI : Nat → Int32} {rA : Nat → Nat → Int32} {ol : Int64} {J : mH} {D : Nat} {N : List (List Int32)}
theorem AP_x {res : Ex (Int32 × List (List Int32))} {k : Nat} (e : res = .inl k) : AP X cI cA rI rA ol J res (.inr (HC X cI cA rI rA ol J).length) (HC X cI cA rI rA ol J ++ [mT k]) := Or.inl ⟨k, e, rfl, rfl⟩
theorem ep_tail {M Nn : Mt} {pc np : Nat} {lv : List (Nat × Value)} {st0 As : List Value} {res : Ex (Int32 × List (List Int32))} {ix o ci : Nat} {fs : List Value} (hd : decode M.2.1 pc = .ok (.invokevirtual ix, 3)) (hl : InT (.methodLink M.1.cls ix Nn.1)) (hN : Cal Nn np) (hm : InT (.instanceMethod Nn.1)) (hs : InT (.selects Nn.1.cls Nn.1 Nn.1)) (ho : (HC X cI cA rI rA ol J)[o]? = some (.inl (ci, fs))) (hci : (vCl[ci]?).map (fun q => q.1) = some Nn.1.cls) (hnp : As.length = np) (hal : ((Value.ref o :: As).map fun v => v.category).sum ≤ Nn.2.2.1) (hst : st0 = As.reverse ++ [.ref o]) (hh : M.2.2.2.2 = []) (d2 : decode M.2.1 (pc + 3) = .ok (.ireturn, 1)) (hr : M.2.2.2.1 = some .int)
    (ev : EvP Nn d 0 (lv_args 0 (.ref o :: As)) [] (HC X cI cA rI rA ol J) (AP X cI cA rI rA ol J res)) : EvP M (d + 1) pc lv st0 (HC X cI cA rI rA ol J) (AP X cI cA rI rA ol J res) := by
  refine ep_callV (st := []) hd hl hN hm hs ho hci hnp hal (Nat.zero_le _) hst hh ev (fun v h1 q => ?_) (fun x h1 q => q)
  rcases q with ⟨_, _, q1, _⟩ | ⟨z, e, cI', cA', q1, q2, q3, q4⟩
  · cases q1
  · cases q1
    subst q2
    exact ep_iret d2 hr rfl (Or.inr ⟨z, e, cI', cA', rfl, rfl, q3, q4⟩)
theorem D_cellN (hN : CN cI cA N) (x : Int32) {w : Int32} (v : Nat) (hw : w = nI v) (hv : v < 8) : EvP m_D_cell d 0 [(0, .ref 2), (1, .int x), (2, .int w)] [] (HC X cI cA rI rA ol J) (Ri (cN N x v) (HC X cI cA rI rA ol J)) := by
  rw [← cellF_N hN x hw hv]
  exact D_cell hN.1 hN.2.1 x w
theorem D_kindN (hN : CN cI cA N) (x : Int32) : EvP m_D_kindOf d 0 [(0, .ref 2), (1, .int x)] [] (HC X cI cA rI rA ol J) (Ri (kN N x) (HC X cI cA rI rA ol J)) := by
  rw [← kindF_N hN x]
  exact D_kindOf hN.1 hN.2.1 x
set_option maxHeartbeats 4000000 in
set_option maxRecDepth 100000 in
theorem D_isType (hN : CN cI cA N) (x : Int32) : EvP m_D_isType (d + 1) 0 [(0, .ref 2), (1, .int x)] [] (HC X cI cA rI rA ol J) (Ri (if tyP N x then 1 else 0) (HC X cI cA rI rA ol J)) := by
  refine ep_aload_n (j := 0) d_D_isType_0 rfl rfl ?_
  refine ep_iload_n (j := 1) d_D_isType_1 rfl rfl ?_
  refine ep_callVi (As := [.int x]) (st := []) d_D_isType_2 lk_D_53 cal_D_kindOf tm_D_kindOf ts_D_kindOf rfl rfl rfl (Nat.le_of_ble_eq_true rfl) (Nat.le_of_ble_eq_true rfl) rfl rfl (D_kindN hN x) ?_
  refine ep_istore_n (lv' := [(0, .ref 2), (1, .int x), (2, .int (kN N x))]) [1, 2, 0] d_D_isType_5 rfl (by decide) rfl ?_
  refine ep_iload_n (j := 2) d_D_isType_6 rfl rfl ?_
  refine ep_if_lt (tgt := 20) d_D_isType_7 (by decide) (fun c7 => ?_) (fun c7 => ?_)
  · refine ep_iconst (v := 0) d_D_isType_20 (by decide) ?_
    exact ep_iret d_D_isType_21 rfl rfl (Ri_of (by first | (simp [tyP, c7]; done) | simp_all [tyP]))
  · refine ep_iload_n (j := 2) d_D_isType_10 rfl rfl ?_
    refine ep_bipush (v := 8) d_D_isType_11 (by decide) ?_
    refine ep_icmp_gt (tgt := 20) d_D_isType_13 (by decide) (fun c13 => ?_) (fun c13 => ?_)
    · refine ep_iconst (v := 0) d_D_isType_20 (by decide) ?_
      exact ep_iret d_D_isType_21 rfl rfl (Ri_of (by first | (simp [tyP, c7, c13]; done) | simp_all [tyP]))
    · refine ep_iconst (v := 1) d_D_isType_16 (by decide) ?_
      refine ep_goto (tgt := 21) d_D_isType_17 (by decide) ?_
      exact ep_iret d_D_isType_21 rfl rfl (Ri_of (by first | (simp [tyP, c7, c13]; done) | simp_all [tyP]))
set_option maxHeartbeats 4000000 in
set_option maxRecDepth 100000 in
theorem D_isArgumentOrNone (hN : CN cI cA N) (x : Int32) : EvP m_D_isArgumentOrNone (d + 2) 0 [(0, .ref 2), (1, .int x)] [] (HC X cI cA rI rA ol J) (Ri (if agP N x then 1 else 0) (HC X cI cA rI rA ol J)) := by
  refine ep_iload_n (j := 1) d_D_isArgumentOrNone_0 rfl rfl ?_
  refine ep_iconst (v := (-1)) d_D_isArgumentOrNone_1 (by decide) ?_
  refine ep_icmp_eq (tgt := 23) d_D_isArgumentOrNone_2 (by decide) (fun c2 => ?_) (fun c2 => ?_)
  · refine ep_iconst (v := 1) d_D_isArgumentOrNone_23 (by decide) ?_
    refine ep_goto (tgt := 28) d_D_isArgumentOrNone_24 (by decide) ?_
    exact ep_iret d_D_isArgumentOrNone_28 rfl rfl (Ri_of (by first | (simp [agP, c2]; done) | simp_all [agP]))
  · refine ep_aload_n (j := 0) d_D_isArgumentOrNone_5 rfl rfl ?_
    refine ep_iload_n (j := 1) d_D_isArgumentOrNone_6 rfl rfl ?_
    refine ep_callVb (As := [.int x]) (st := []) d_D_isArgumentOrNone_7 lk_D_101 cal_D_isType tm_D_isType ts_D_isType rfl rfl rfl (Nat.le_of_ble_eq_true rfl) (Nat.le_of_ble_eq_true rfl) rfl rfl (D_isType hN x) (fun b7 => ?_) (fun b7 => ?_)
    · refine ep_if_ne (tgt := 23) d_D_isArgumentOrNone_10 (by decide) (fun _ => ?_) (fun z => absurd z (by decide))
      refine ep_iconst (v := 1) d_D_isArgumentOrNone_23 (by decide) ?_
      refine ep_goto (tgt := 28) d_D_isArgumentOrNone_24 (by decide) ?_
      exact ep_iret d_D_isArgumentOrNone_28 rfl rfl (Ri_of (by first | (simp [agP, c2, b7]; done) | simp_all [agP]))
    · refine ep_if_ne (tgt := 23) d_D_isArgumentOrNone_10 (by decide) (fun z => absurd (by decide) z) (fun _ => ?_)
      refine ep_aload_n (j := 0) d_D_isArgumentOrNone_13 rfl rfl ?_
      refine ep_iload_n (j := 1) d_D_isArgumentOrNone_14 rfl rfl ?_
      refine ep_callVi (As := [.int x]) (st := []) d_D_isArgumentOrNone_15 lk_D_53 cal_D_kindOf tm_D_kindOf ts_D_kindOf rfl rfl rfl (Nat.le_of_ble_eq_true rfl) (Nat.le_of_ble_eq_true rfl) rfl rfl (D_kindN hN x) ?_
      refine ep_bipush (v := 9) d_D_isArgumentOrNone_18 (by decide) ?_
      refine ep_icmp_ne (tgt := 27) d_D_isArgumentOrNone_20 (by decide) (fun c20 => ?_) (fun c20 => ?_)
      · refine ep_iconst (v := 0) d_D_isArgumentOrNone_27 (by decide) ?_
        exact ep_iret d_D_isArgumentOrNone_28 rfl rfl (Ri_of (by first | (simp [agP, c2, b7, c20]; done) | simp_all [agP]))
      · refine ep_iconst (v := 1) d_D_isArgumentOrNone_23 (by decide) ?_
        refine ep_goto (tgt := 28) d_D_isArgumentOrNone_24 (by decide) ?_
        exact ep_iret d_D_isArgumentOrNone_28 rfl rfl (Ri_of (by first | (simp [agP, c2, b7, c20]; done) | simp_all [agP]))
set_option maxHeartbeats 4000000 in
set_option maxRecDepth 100000 in
theorem D_isParameterOrNone (hN : CN cI cA N) (x : Int32) : EvP m_D_isParameterOrNone (d + 1) 0 [(0, .ref 2), (1, .int x)] [] (HC X cI cA rI rA ol J) (Ri (if paP N x then 1 else 0) (HC X cI cA rI rA ol J)) := by
  refine ep_aload_n (j := 0) d_D_isParameterOrNone_0 rfl rfl ?_
  refine ep_iload_n (j := 1) d_D_isParameterOrNone_1 rfl rfl ?_
  refine ep_callVi (As := [.int x]) (st := []) d_D_isParameterOrNone_2 lk_D_53 cal_D_kindOf tm_D_kindOf ts_D_kindOf rfl rfl rfl (Nat.le_of_ble_eq_true rfl) (Nat.le_of_ble_eq_true rfl) rfl rfl (D_kindN hN x) ?_
  refine ep_istore_n (lv' := [(0, .ref 2), (1, .int x), (2, .int (kN N x))]) [1, 2, 0] d_D_isParameterOrNone_5 rfl (by decide) rfl ?_
  refine ep_iload_n (j := 2) d_D_isParameterOrNone_6 rfl rfl ?_
  refine ep_if_ne (tgt := 25) d_D_isParameterOrNone_7 (by decide) (fun c7 => ?_) (fun c7 => ?_)
  · refine ep_iload_n (j := 1) d_D_isParameterOrNone_25 rfl rfl ?_
    refine ep_iconst (v := (-1)) d_D_isParameterOrNone_26 (by decide) ?_
    refine ep_icmp_eq (tgt := 40) d_D_isParameterOrNone_27 (by decide) (fun c27 => ?_) (fun c27 => ?_)
    · refine ep_iconst (v := 1) d_D_isParameterOrNone_40 (by decide) ?_
      refine ep_goto (tgt := 45) d_D_isParameterOrNone_41 (by decide) ?_
      exact ep_iret d_D_isParameterOrNone_45 rfl rfl (Ri_of (by first | (simp [paP, c7, c27]; done) | simp_all [paP]))
    · refine ep_iload_n (j := 2) d_D_isParameterOrNone_30 rfl rfl ?_
      refine ep_if_le (tgt := 44) d_D_isParameterOrNone_31 (by decide) (fun c31 => ?_) (fun c31 => ?_)
      · refine ep_iconst (v := 0) d_D_isParameterOrNone_44 (by decide) ?_
        exact ep_iret d_D_isParameterOrNone_45 rfl rfl (Ri_of (by first | (simp [paP, c7, c27, c31]; done) | simp_all [paP]))
      · refine ep_iload_n (j := 2) d_D_isParameterOrNone_34 rfl rfl ?_
        refine ep_bipush (v := 8) d_D_isParameterOrNone_35 (by decide) ?_
        refine ep_icmp_gt (tgt := 44) d_D_isParameterOrNone_37 (by decide) (fun c37 => ?_) (fun c37 => ?_)
        · refine ep_iconst (v := 0) d_D_isParameterOrNone_44 (by decide) ?_
          exact ep_iret d_D_isParameterOrNone_45 rfl rfl (Ri_of (by first | (simp [paP, c7, c27, c31, c37]; done) | simp_all [paP]))
        · refine ep_iconst (v := 1) d_D_isParameterOrNone_40 (by decide) ?_
          refine ep_goto (tgt := 45) d_D_isParameterOrNone_41 (by decide) ?_
          exact ep_iret d_D_isParameterOrNone_45 rfl rfl (Ri_of (by first | (simp [paP, c7, c27, c31, c37]; done) | simp_all [paP]))
  · refine ep_aload_n (j := 0) d_D_isParameterOrNone_10 rfl rfl ?_
    refine ep_iload_n (j := 1) d_D_isParameterOrNone_11 rfl rfl ?_
    refine ep_iconst (v := 1) d_D_isParameterOrNone_12 (by decide) ?_
    refine ep_callVi (As := [.int x, .int 1]) (st := []) d_D_isParameterOrNone_13 lk_D_82 cal_D_cell tm_D_cell ts_D_cell rfl rfl rfl (Nat.le_of_ble_eq_true rfl) (Nat.le_of_ble_eq_true rfl) rfl rfl (D_cellN hN x 1 (by decide +kernel) (by decide)) ?_
    refine ep_if_eq (tgt := 23) d_D_isParameterOrNone_16 (by decide) (fun c16 => ?_) (fun c16 => ?_)
    · refine ep_iconst (v := 0) d_D_isParameterOrNone_23 (by decide) ?_
      exact ep_iret d_D_isParameterOrNone_24 rfl rfl (Ri_of (by first | (simp [paP, c7, c16]; done) | simp_all [paP]))
    · refine ep_iconst (v := 1) d_D_isParameterOrNone_19 (by decide) ?_
      refine ep_goto (tgt := 24) d_D_isParameterOrNone_20 (by decide) ?_
      exact ep_iret d_D_isParameterOrNone_24 rfl rfl (Ri_of (by first | (simp [paP, c7, c16]; done) | simp_all [paP]))
set_option maxHeartbeats 4000000 in
set_option maxRecDepth 100000 in
theorem D_hasGap (a b c : Int32) : EvP m_D_hasGap (d) 0 [(0, .int a), (1, .int b), (2, .int c)] [] (HC X cI cA rI rA ol J) (Ri (if gaP a b c then 1 else 0) (HC X cI cA rI rA ol J)) := by
  refine ep_iload_n (j := 0) d_D_hasGap_0 rfl rfl ?_
  refine ep_iconst (v := (-1)) d_D_hasGap_1 (by decide) ?_
  refine ep_icmp_ne (tgt := 10) d_D_hasGap_2 (by decide) (fun c2 => ?_) (fun c2 => ?_)
  · refine ep_iload_n (j := 1) d_D_hasGap_10 rfl rfl ?_
    refine ep_iconst (v := (-1)) d_D_hasGap_11 (by decide) ?_
    refine ep_icmp_ne (tgt := 24) d_D_hasGap_12 (by decide) (fun c12 => ?_) (fun c12 => ?_)
    · refine ep_iconst (v := 0) d_D_hasGap_24 (by decide) ?_
      exact ep_iret d_D_hasGap_25 rfl rfl (Ri_of (by first | (simp [gaP, c2, c12]; done) | simp_all [gaP]))
    · refine ep_iload_n (j := 2) d_D_hasGap_15 rfl rfl ?_
      refine ep_iconst (v := (-1)) d_D_hasGap_16 (by decide) ?_
      refine ep_icmp_eq (tgt := 24) d_D_hasGap_17 (by decide) (fun c17 => ?_) (fun c17 => ?_)
      · refine ep_iconst (v := 0) d_D_hasGap_24 (by decide) ?_
        exact ep_iret d_D_hasGap_25 rfl rfl (Ri_of (by first | (simp [gaP, c2, c12, c17]; done) | simp_all [gaP]))
      · refine ep_iconst (v := 1) d_D_hasGap_20 (by decide) ?_
        refine ep_goto (tgt := 25) d_D_hasGap_21 (by decide) ?_
        exact ep_iret d_D_hasGap_25 rfl rfl (Ri_of (by first | (simp [gaP, c2, c12, c17]; done) | simp_all [gaP]))
  · refine ep_iload_n (j := 1) d_D_hasGap_5 rfl rfl ?_
    refine ep_iconst (v := (-1)) d_D_hasGap_6 (by decide) ?_
    refine ep_icmp_ne (tgt := 20) d_D_hasGap_7 (by decide) (fun c7 => ?_) (fun c7 => ?_)
    · refine ep_iconst (v := 1) d_D_hasGap_20 (by decide) ?_
      refine ep_goto (tgt := 25) d_D_hasGap_21 (by decide) ?_
      exact ep_iret d_D_hasGap_25 rfl rfl (Ri_of (by first | (simp [gaP, c2, c7]; done) | simp_all [gaP]))
    · refine ep_iload_n (j := 1) d_D_hasGap_10 rfl rfl ?_
      refine ep_iconst (v := (-1)) d_D_hasGap_11 (by decide) ?_
      refine ep_icmp_ne (tgt := 24) d_D_hasGap_12 (by decide) (fun c12 => ?_) (fun c12 => ?_)
      · refine ep_iconst (v := 0) d_D_hasGap_24 (by decide) ?_
        exact ep_iret d_D_hasGap_25 rfl rfl (Ri_of (by first | (simp [gaP, c2, c7, c12]; done) | simp_all [gaP]))
      · refine ep_iload_n (j := 2) d_D_hasGap_15 rfl rfl ?_
        refine ep_iconst (v := (-1)) d_D_hasGap_16 (by decide) ?_
        refine ep_icmp_eq (tgt := 24) d_D_hasGap_17 (by decide) (fun c17 => ?_) (fun c17 => ?_)
        · refine ep_iconst (v := 0) d_D_hasGap_24 (by decide) ?_
          exact ep_iret d_D_hasGap_25 rfl rfl (Ri_of (by first | (simp [gaP, c2, c7, c12, c17]; done) | simp_all [gaP]))
        · refine ep_iconst (v := 1) d_D_hasGap_20 (by decide) ?_
          refine ep_goto (tgt := 25) d_D_hasGap_21 (by decide) ?_
          exact ep_iret d_D_hasGap_25 rfl rfl (Ri_of (by first | (simp [gaP, c2, c7, c12, c17]; done) | simp_all [gaP]))
set_option maxHeartbeats 4000000 in
set_option maxRecDepth 100000 in
theorem D_needId (x : Int32) : EvP m_D_needId (d + 2) 0 [(0, .int x)] [] (HC X cI cA rI rA ol J) (RU (if idP x then none else some 0) (HC X cI cA rI rA ol J)) := by
  refine ep_iload_n (j := 0) d_D_needId_0 rfl rfl ?_
  refine ep_callSb (As := [.int x]) (st := []) d_D_needId_1 (Or.inr ⟨_, lk_D_94⟩) cal_N_isId tm_N_isId ti_N rfl (Nat.le_of_ble_eq_true rfl) (Nat.le_of_ble_eq_true rfl) rfl rfl (N_isId x) (fun b1 => ?_) (fun b1 => ?_)
  · refine ep_if_ne (tgt := 17) d_D_needId_4 (by decide) (fun _ => ?_) (fun z => absurd z (by decide))
    exact ep_vret d_D_needId_17 rfl (RU_v (by first | (simp [b1]; done) | simp_all []))
  · refine ep_if_ne (tgt := 17) d_D_needId_4 (by decide) (fun z => absurd (by decide) z) (fun _ => ?_)
    exact ep_throw 0 d_D_needId_7 d_D_needId_10 d_D_needId_11 d_D_needId_13 d_D_needId_16 lc_D_37 ti_java_lang_IllegalArgumentException (i := 6) (tx := "an ID is one to three letters") (by decide +kernel) at_D_41 (by decide +kernel) (Nat.zero_lt_succ _) (Nat.le_of_ble_eq_true rfl) rfl (RU_x (by first | (simp [b1]; done) | simp_all []))
set_option maxHeartbeats 4000000 in
set_option maxRecDepth 100000 in
theorem D_needPrefix (hN : CN cI cA N) (x : Int32) : EvP m_D_needPrefix (d + 1) 0 [(0, .ref 2), (1, .int x)] [] (HC X cI cA rI rA ol J) (RU (if pfP N x then none else some 0) (HC X cI cA rI rA ol J)) := by
  refine ep_aload_n (j := 0) d_D_needPrefix_0 rfl rfl ?_
  refine ep_iload_n (j := 1) d_D_needPrefix_1 rfl rfl ?_
  refine ep_callVi (As := [.int x]) (st := []) d_D_needPrefix_2 lk_D_53 cal_D_kindOf tm_D_kindOf ts_D_kindOf rfl rfl rfl (Nat.le_of_ble_eq_true rfl) (Nat.le_of_ble_eq_true rfl) rfl rfl (D_kindN hN x) ?_
  refine ep_istore_n (lv' := [(0, .ref 2), (1, .int x), (2, .int (kN N x))]) [1, 2, 0] d_D_needPrefix_5 rfl (by decide) rfl ?_
  refine ep_iload_n (j := 2) d_D_needPrefix_6 rfl rfl ?_
  refine ep_iconst (v := 1) d_D_needPrefix_7 (by decide) ?_
  refine ep_icmp_lt (tgt := 16) d_D_needPrefix_8 (by decide) (fun c8 => ?_) (fun c8 => ?_)
  · exact ep_throw 0 d_D_needPrefix_16 d_D_needPrefix_19 d_D_needPrefix_20 d_D_needPrefix_22 d_D_needPrefix_25 lc_D_37 ti_java_lang_IllegalArgumentException (i := 7) (tx := "no NAME, MEMBER or FILLED") (by decide +kernel) at_D_41 (by decide +kernel) (Nat.zero_lt_succ _) (Nat.le_of_ble_eq_true rfl) rfl (RU_x (by first | (simp [pfP, c8]; done) | simp_all [pfP]))
  · refine ep_iload_n (j := 2) d_D_needPrefix_11 rfl rfl ?_
    refine ep_iconst (v := 3) d_D_needPrefix_12 (by decide) ?_
    refine ep_icmp_le (tgt := 26) d_D_needPrefix_13 (by decide) (fun c13 => ?_) (fun c13 => ?_)
    · exact ep_vret d_D_needPrefix_26 rfl (RU_v (by first | (simp [pfP, c8, c13]; done) | simp_all [pfP]))
    · exact ep_throw 0 d_D_needPrefix_16 d_D_needPrefix_19 d_D_needPrefix_20 d_D_needPrefix_22 d_D_needPrefix_25 lc_D_37 ti_java_lang_IllegalArgumentException (i := 7) (tx := "no NAME, MEMBER or FILLED") (by decide +kernel) at_D_41 (by decide +kernel) (Nat.zero_lt_succ _) (Nat.le_of_ble_eq_true rfl) rfl (RU_x (by first | (simp [pfP, c8, c13]; done) | simp_all [pfP]))
set_option maxHeartbeats 4000000 in
set_option maxRecDepth 100000 in
theorem D_needType (hN : CN cI cA N) (x : Int32) : EvP m_D_needType (d + 2) 0 [(0, .ref 2), (1, .int x)] [] (HC X cI cA rI rA ol J) (RU (if tyP N x then none else some 0) (HC X cI cA rI rA ol J)) := by
  refine ep_aload_n (j := 0) d_D_needType_0 rfl rfl ?_
  refine ep_iload_n (j := 1) d_D_needType_1 rfl rfl ?_
  refine ep_callVb (As := [.int x]) (st := []) d_D_needType_2 lk_D_101 cal_D_isType tm_D_isType ts_D_isType rfl rfl rfl (Nat.le_of_ble_eq_true rfl) (Nat.le_of_ble_eq_true rfl) rfl rfl (D_isType hN x) (fun b2 => ?_) (fun b2 => ?_)
  · refine ep_if_ne (tgt := 18) d_D_needType_5 (by decide) (fun _ => ?_) (fun z => absurd z (by decide))
    exact ep_vret d_D_needType_18 rfl (RU_v (by first | (simp [b2]; done) | simp_all []))
  · refine ep_if_ne (tgt := 18) d_D_needType_5 (by decide) (fun z => absurd (by decide) z) (fun _ => ?_)
    exact ep_throw 0 d_D_needType_8 d_D_needType_11 d_D_needType_12 d_D_needType_14 d_D_needType_17 lc_D_37 ti_java_lang_IllegalArgumentException (i := 11) (tx := "no such type") (by decide +kernel) at_D_41 (by decide +kernel) (Nat.zero_lt_succ _) (Nat.le_of_ble_eq_true rfl) rfl (RU_x (by first | (simp [b2]; done) | simp_all []))
set_option maxHeartbeats 4000000 in
set_option maxRecDepth 100000 in
theorem D_needParameters (hN : CN cI cA N) (a b c : Int32) : EvP m_D_needParameters (d + 2) 0 [(0, .ref 2), (1, .int a), (2, .int b), (3, .int c)] [] (HC X cI cA rI rA ol J) (RU (if psP N a b c then none else some 0) (HC X cI cA rI rA ol J)) := by
  refine ep_aload_n (j := 0) d_D_needParameters_0 rfl rfl ?_
  refine ep_iload_n (j := 1) d_D_needParameters_1 rfl rfl ?_
  refine ep_callVb (As := [.int a]) (st := []) d_D_needParameters_2 lk_D_106 cal_D_isParameterOrNone tm_D_isParameterOrNone ts_D_isParameterOrNone rfl rfl rfl (Nat.le_of_ble_eq_true rfl) (Nat.le_of_ble_eq_true rfl) rfl rfl (D_isParameterOrNone hN a) (fun b2 => ?_) (fun b2 => ?_)
  · refine ep_if_eq (tgt := 28) d_D_needParameters_5 (by decide) (fun z => absurd z (by decide)) (fun _ => ?_)
    refine ep_aload_n (j := 0) d_D_needParameters_8 rfl rfl ?_
    refine ep_iload_n (j := 2) d_D_needParameters_9 rfl rfl ?_
    refine ep_callVb (As := [.int b]) (st := []) d_D_needParameters_10 lk_D_106 cal_D_isParameterOrNone tm_D_isParameterOrNone ts_D_isParameterOrNone rfl rfl rfl (Nat.le_of_ble_eq_true rfl) (Nat.le_of_ble_eq_true rfl) rfl rfl (D_isParameterOrNone hN b) (fun b10 => ?_) (fun b10 => ?_)
    · refine ep_if_eq (tgt := 28) d_D_needParameters_13 (by decide) (fun z => absurd z (by decide)) (fun _ => ?_)
      refine ep_aload_n (j := 0) d_D_needParameters_16 rfl rfl ?_
      refine ep_iload_n (j := 3) d_D_needParameters_17 rfl rfl ?_
      refine ep_callVb (As := [.int c]) (st := []) d_D_needParameters_18 lk_D_106 cal_D_isParameterOrNone tm_D_isParameterOrNone ts_D_isParameterOrNone rfl rfl rfl (Nat.le_of_ble_eq_true rfl) (Nat.le_of_ble_eq_true rfl) rfl rfl (D_isParameterOrNone hN c) (fun b18 => ?_) (fun b18 => ?_)
      · refine ep_if_eq (tgt := 28) d_D_needParameters_21 (by decide) (fun z => absurd z (by decide)) (fun _ => ?_)
        refine ep_iconst (v := 1) d_D_needParameters_24 (by decide) ?_
        refine ep_goto (tgt := 29) d_D_needParameters_25 (by decide) ?_
        refine ep_istore (lv' := [(0, .ref 2), (1, .int a), (2, .int b), (3, .int c), (4, .int 1)]) [1, 2, 3, 4, 0] d_D_needParameters_29 (by decide) rfl ?_
        refine ep_iload (j := 4) d_D_needParameters_31 rfl ?_
        refine ep_if_eq (tgt := 45) d_D_needParameters_33 (by decide) (fun z => absurd z (by decide)) (fun _ => ?_)
        refine ep_iload_n (j := 1) d_D_needParameters_36 rfl rfl ?_
        refine ep_iload_n (j := 2) d_D_needParameters_37 rfl rfl ?_
        refine ep_iload_n (j := 3) d_D_needParameters_38 rfl rfl ?_
        refine ep_callSb (As := [.int a, .int b, .int c]) (st := []) d_D_needParameters_39 (Or.inl lk_D_63) cal_D_hasGap tm_D_hasGap ti_D rfl (Nat.le_of_ble_eq_true rfl) (Nat.le_of_ble_eq_true rfl) rfl rfl (D_hasGap a b c) (fun b39 => ?_) (fun b39 => ?_)
        · refine ep_if_eq (tgt := 55) d_D_needParameters_42 (by decide) (fun z => absurd z (by decide)) (fun _ => ?_)
          exact ep_throw 0 d_D_needParameters_45 d_D_needParameters_48 d_D_needParameters_49 d_D_needParameters_51 d_D_needParameters_54 lc_D_37 ti_java_lang_IllegalArgumentException (i := 14) (tx := "no such parameters") (by decide +kernel) at_D_41 (by decide +kernel) (Nat.zero_lt_succ _) (Nat.le_of_ble_eq_true rfl) rfl (RU_x (by first | (simp [psP, b2, b10, b18, b39]; done) | simp_all [psP]))
        · refine ep_if_eq (tgt := 55) d_D_needParameters_42 (by decide) (fun _ => ?_) (fun z => absurd (by decide) z)
          exact ep_vret d_D_needParameters_55 rfl (RU_v (by first | (simp [psP, b2, b10, b18, b39]; done) | simp_all [psP]))
      · refine ep_if_eq (tgt := 28) d_D_needParameters_21 (by decide) (fun _ => ?_) (fun z => absurd (by decide) z)
        refine ep_iconst (v := 0) d_D_needParameters_28 (by decide) ?_
        refine ep_istore (lv' := [(0, .ref 2), (1, .int a), (2, .int b), (3, .int c), (4, .int 0)]) [1, 2, 3, 4, 0] d_D_needParameters_29 (by decide) rfl ?_
        refine ep_iload (j := 4) d_D_needParameters_31 rfl ?_
        refine ep_if_eq (tgt := 45) d_D_needParameters_33 (by decide) (fun _ => ?_) (fun z => absurd (by decide) z)
        exact ep_throw 0 d_D_needParameters_45 d_D_needParameters_48 d_D_needParameters_49 d_D_needParameters_51 d_D_needParameters_54 lc_D_37 ti_java_lang_IllegalArgumentException (i := 14) (tx := "no such parameters") (by decide +kernel) at_D_41 (by decide +kernel) (Nat.zero_lt_succ _) (Nat.le_of_ble_eq_true rfl) rfl (RU_x (by first | (simp [psP, b2, b10, b18]; done) | simp_all [psP]))
    · refine ep_if_eq (tgt := 28) d_D_needParameters_13 (by decide) (fun _ => ?_) (fun z => absurd (by decide) z)
      refine ep_iconst (v := 0) d_D_needParameters_28 (by decide) ?_
      refine ep_istore (lv' := [(0, .ref 2), (1, .int a), (2, .int b), (3, .int c), (4, .int 0)]) [1, 2, 3, 4, 0] d_D_needParameters_29 (by decide) rfl ?_
      refine ep_iload (j := 4) d_D_needParameters_31 rfl ?_
      refine ep_if_eq (tgt := 45) d_D_needParameters_33 (by decide) (fun _ => ?_) (fun z => absurd (by decide) z)
      exact ep_throw 0 d_D_needParameters_45 d_D_needParameters_48 d_D_needParameters_49 d_D_needParameters_51 d_D_needParameters_54 lc_D_37 ti_java_lang_IllegalArgumentException (i := 14) (tx := "no such parameters") (by decide +kernel) at_D_41 (by decide +kernel) (Nat.zero_lt_succ _) (Nat.le_of_ble_eq_true rfl) rfl (RU_x (by first | (simp [psP, b2, b10]; done) | simp_all [psP]))
  · refine ep_if_eq (tgt := 28) d_D_needParameters_5 (by decide) (fun _ => ?_) (fun z => absurd (by decide) z)
    refine ep_iconst (v := 0) d_D_needParameters_28 (by decide) ?_
    refine ep_istore (lv' := [(0, .ref 2), (1, .int a), (2, .int b), (3, .int c), (4, .int 0)]) [1, 2, 3, 4, 0] d_D_needParameters_29 (by decide) rfl ?_
    refine ep_iload (j := 4) d_D_needParameters_31 rfl ?_
    refine ep_if_eq (tgt := 45) d_D_needParameters_33 (by decide) (fun _ => ?_) (fun z => absurd (by decide) z)
    exact ep_throw 0 d_D_needParameters_45 d_D_needParameters_48 d_D_needParameters_49 d_D_needParameters_51 d_D_needParameters_54 lc_D_37 ti_java_lang_IllegalArgumentException (i := 14) (tx := "no such parameters") (by decide +kernel) at_D_41 (by decide +kernel) (Nat.zero_lt_succ _) (Nat.le_of_ble_eq_true rfl) rfl (RU_x (by first | (simp [psP, b2]; done) | simp_all [psP]))
set_option maxHeartbeats 4000000 in
set_option maxRecDepth 100000 in
theorem D_depthOf (hN : CN cI cA N) (x : Int32) : EvP m_D_depthOf (d + 1) 0 [(0, .ref 2), (1, .int x)] [] (HC X cI cA rI rA ol J) (Ri (dN N x) (HC X cI cA rI rA ol J)) := by
  refine ep_iconst (v := 0) d_D_depthOf_0 (by decide) ?_
  refine ep_aload_n (j := 0) d_D_depthOf_1 rfl rfl ?_
  refine ep_iload_n (j := 1) d_D_depthOf_2 rfl rfl ?_
  refine ep_bipush (v := 7) d_D_depthOf_3 (by decide) ?_
  refine ep_callVi (As := [.int x, .int 7]) (st := [.int 0]) d_D_depthOf_5 lk_D_82 cal_D_cell tm_D_cell ts_D_cell rfl rfl rfl (Nat.le_of_ble_eq_true rfl) (Nat.le_of_ble_eq_true rfl) rfl rfl (D_cellN hN x 7 (by decide +kernel) (by decide)) ?_
  refine ep_mmax d_D_depthOf_8 lk_D_114 tm_J_max ti_JM tc_J_max (Nat.le_of_ble_eq_true rfl) ?_
  exact ep_iret d_D_depthOf_11 rfl rfl (Ri_of rfl)
end NE
