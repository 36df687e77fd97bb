/-! reading, as functions of lists: what the class's reader does; then the rules by which its methods are walked -/
def bnd {α β : Type} (x : Ex α) (f : α → Ex β) : Ex β := match x with
  | .inl k => .inl k
  | .inr a => f a
theorem bnd_x {α β : Type} (k : Nat) (f : α → Ex β) : bnd (.inl k) f = .inl k := rfl
theorem bnd_i {α β : Type} (a : α) (f : α → Ex β) : bnd (.inr a) f = f a := rfl
/-- nodes, table, place -/
abbrev RS : Type := List (List Int32) × List Int32 × Nat
def nxt (L : List Int32) (s : RS) : Int32 := L.getD s.2.2 (-1)
def adv (s : RS) : RS := (s.1, s.2.1, s.2.2 + 1)
def tad (s : RS) (x : Int32) : RS := (s.1, if s.2.1.length < 120 then s.2.1 ++ [x] else s.2.1, s.2.2)
def lft (r : Ex (Int32 × List (List Int32))) (s : RS) : Ex (Int32 × RS) := bnd r fun q => .inr (q.1, q.2, s.2)
def rPass (L : List Int32) (c : Int32) (s : RS) : Ex RS := if nxt L s = c then .inr (adv s) else .inl 0
def digF (x b : Int32) : Int32 := if ¬ x < 48 ∧ ¬ 57 < x then x - 48 else if b = 36 ∧ ¬ x < 65 ∧ ¬ 90 < x then x - 65 + 10 else -1
def rDigs (L : List Int32) (b : Int32) : Nat → Int32 → Nat → RS → Int32 × Nat × RS
  | 0, v, n, s => (v, n, s)
  | k + 1, v, n, s => if digF (nxt L s) b = -1 then (v, n, s) else rDigs L b k (v * b + digF (nxt L s) b) (n + 1) (adv s)
def rNum (L : List Int32) (b : Int32) (m : Nat) (s : RS) : Ex (Int32 × RS) := if (rDigs L b m 0 0 s).2.1 = 1 ∨ (1 < (rDigs L b m 0 0 s).2.1 ∧ ¬ nxt L s = 48) then .inr ((rDigs L b m 0 0 s).1, (rDigs L b m 0 0 s).2.2) else .inl 0
def rLets (L : List Int32) : Nat → Int32 → RS → Ex (Int32 × RS)
  | 0, v, s => .inr (v, s)
  | k + 1, v, s => if smP (nxt L s) then rLets L k (v <<< ((8 : Int32) &&& 31) ||| nxt L s) (adv s) else .inl 0
def rId (L : List Int32) (s : RS) : Ex (Int32 × RS) := bnd (rNum L 10 1 s) fun q => if q.1 < 1 ∨ 3 < q.1 then .inl 0 else rLets L q.1.toNatClampNeg 0 q.2
def tat (T : List Int32) (x : Int32) : Int32 := if 0 ≤ x ∧ x < nI T.length then T.getD x.toNatClampNeg (-1) else -1
def rTold (L : List Int32) (s : RS) : Ex (Int32 × RS) := bnd (rPass L 83 s) fun s1 => bnd (if nxt L s1 = 95 then .inr (0, s1) else bnd (rNum L 36 2 s1) fun q => .inr (q.1 + 1, q.2)) fun q => bnd (rPass L 95 q.2) fun s3 => if tat s3.2.1 q.1 = -1 then .inl 0 else .inr (tat s3.2.1 q.1, s3)
def rLit2 (L : List Int32) (b : Int32) (neg : Bool) (s : RS) : Ex (Int32 × RS) := bnd (rNum L 10 6 s) fun z => if neg = true ∧ z.1 = 0 then .inl 0 else bnd (rPass L 69 z.2) fun s5 => lft (aLiteral s5.1 b (if neg = true then -z.1 else z.1)) s5
def rLit (L : List Int32) (s : RS) : Ex (Int32 × RS) := bnd (rPass L 76 s) fun s1 => if bolF (nxt L s1) = -1 then .inl 0 else bnd (lft (aBuiltin (adv s1).1 (bolF (nxt L s1))) (adv s1)) fun q => if nxt L q.2 = 110 then rLit2 L q.1 true (adv q.2) else rLit2 L q.1 false q.2
def rArg (L : List Int32) (rec : RS → Ex (Int32 × RS)) (s : RS) : Ex (Int32 × RS) := if nxt L s = 76 then rLit L s else rec s
def rArg' (L : List Int32) (rec : RS → Ex (Int32 × RS)) (s : RS) : Ex (Int32 × RS) := if nxt L s = 69 then .inr (-1, s) else rArg L rec s
def rFill (L : List Int32) (rec : RS → Ex (Int32 × RS)) (n : Int32) (s : RS) : Ex (Int32 × RS) := bnd (rPass L 73 s) fun s1 => bnd (rArg L rec s1) fun a => bnd (rArg' L rec a.2) fun b => bnd (rArg' L rec b.2) fun c => bnd (rPass L 69 c.2) fun s5 => lft (aFilled s5.1 n a.1 b.1 c.1) s5
def rStart (L : List Int32) (s : RS) : Ex (Int32 × RS) := if nxt L s = 83 then rTold L s else bnd (rId L s) fun q => bnd (lft (aName q.2.1 q.1) q.2) fun n => .inr (n.1, tad n.2 n.1)
def rStep (L : List Int32) (rec : RS → Ex (Int32 × RS)) (n : Int32) (s : RS) : Ex (Int32 × RS) := if nxt L s = 73 then rFill L rec n s else bnd (rId L s) fun q => lft (aMember q.2.1 n q.1) q.2
def rSteps (L : List Int32) (rec : RS → Ex (Int32 × RS)) : Nat → Int32 → RS → Ex (Int32 × RS)
  | 0, n, s => .inr (n, s)
  | k + 1, n, s => if nxt L s = 69 then .inr (n, s) else bnd (rStep L rec n (tad s n)) fun q => rSteps L rec k q.1 q.2
def rNest (L : List Int32) (rec : RS → Ex (Int32 × RS)) (s : RS) : Ex (Int32 × RS) := bnd (rPass L 78 s) fun s1 => bnd (rStart L s1) fun a => bnd (rStep L rec a.1 a.2) fun b => bnd (rSteps L rec 119 b.1 b.2) fun c => bnd (rPass L 69 c.2) fun s5 => if kN s5.1 c.1 = 2 ∨ kN s5.1 (cN s5.1 c.1 2) = 2 then .inr (c.1, s5) else .inl 0
def rScop (L : List Int32) (rec : RS → Ex (Int32 × RS)) (s : RS) : Ex (Int32 × RS) := if nxt L s = 78 then rNest L rec s else bnd (rId L s) fun q => bnd (lft (aName q.2.1 q.1) q.2) fun n => if nxt L n.2 = 73 then rFill L rec n.1 (tad n.2 n.1) else .inr n
def rWrap (rec : RS → Ex (Int32 × RS)) (k : Int32) (s : RS) : Ex (Int32 × RS) := bnd (rec (adv s)) fun q => lft (aWrapped q.2.1 k q.1) q.2
def rArr (L : List Int32) (rec : RS → Ex (Int32 × RS)) (s : RS) : Ex (Int32 × RS) := bnd (rPass L 65 s) fun s1 => bnd (rNum L 10 3 s1) fun n => bnd (rPass L 95 n.2) fun s3 => bnd (rec s3) fun q => lft (aArray q.2.1 q.1 n.1) q.2
def rFirst (L : List Int32) (rec : RS → Ex (Int32 × RS)) (s : RS) : Ex (Int32 × RS) := if nxt L s = 118 then .inr (-1, adv s) else rec s
def rNext (L : List Int32) (rec : RS → Ex (Int32 × RS)) (b e : Int32) (s : RS) : Ex (Int32 × RS) := if b = -1 ∨ nxt L s = e then .inr (-1, s) else rec s
def rFun (L : List Int32) (rec : RS → Ex (Int32 × RS)) (s : RS) : Ex (Int32 × RS) := bnd (rPass L 70 s) fun s1 => bnd (rec s1) fun g => bnd (rFirst L rec g.2) fun a => bnd (rNext L rec a.1 69 a.2) fun b => bnd (rNext L rec b.1 69 b.2) fun c => bnd (rPass L 69 c.2) fun s5 => lft (aFunction s5.1 g.1 a.1 b.1 c.1) s5
def rUnt (L : List Int32) (rec : RS → Ex (Int32 × RS)) (s : RS) : Ex (Int32 × RS) := if nxt L s = 80 then rWrap rec 4 s else if nxt L s = 82 then rWrap rec 5 s else if nxt L s = 75 then rWrap rec 6 s else if nxt L s = 65 then rArr L rec s else if nxt L s = 70 then rFun L rec s else rScop L rec s
def rToT (L : List Int32) (rec : RS → Ex (Int32 × RS)) (s : RS) : Ex (Int32 × RS) := bnd (rTold L s) fun q => if nxt L q.2 = 73 then (if kN q.2.1 q.1 = 1 then bnd (rFill L rec q.1 q.2) fun z => .inr (z.1, tad z.2 z.1) else .inl 0) else .inr q
def rTyB (L : List Int32) (rec : RS → Ex (Int32 × RS)) (s : RS) : Ex (Int32 × RS) := if bolF (nxt L s) = -1 then (if nxt L s = 83 then rToT L rec s else bnd (rUnt L rec s) fun q => .inr (q.1, tad q.2 q.1)) else lft (aBuiltin (adv s).1 (bolF (nxt L s))) (adv s)
def rTyp (L : List Int32) : Nat → RS → Ex (Int32 × RS)
  | 0, _ => .inl 0
  | k + 1, s => rTyB L (rTyp L k) s
def rEnd (L : List Int32) (n g a b c : Int32) (s : RS) : Ex (Int32 × RS) := if nxt L s = -1 then lft (aEntity s.1 n g a b c) s else .inl 0
def rEnt (L : List Int32) (N : List (List Int32)) : Ex (Int32 × RS) := bnd (rPass L 95 (N, [], 0)) fun s1 => bnd (rPass L 90 s1) fun s2 => bnd (rScop L (rTyp L 15) s2) fun n => bnd (if kN n.2.1 n.1 = 3 then rTyp L 16 n.2 else .inr (-1, n.2)) fun g => bnd (rFirst L (rTyp L 16) g.2) fun a => bnd (rNext L (rTyp L 16) a.1 (-1) a.2) fun b => bnd (rNext L (rTyp L 16) b.1 (-1) b.2) fun c => rEnd L n.1 g.1 a.1 b.1 c.1 c.2
/-- a row of the class as a list -/
def rowL (f : Nat → Int32) (n : Nat) : List Int32 := (List.range n).map f
theorem rowL_len (f : Nat → Int32) (n : Nat) : (rowL f n).length = n := by unfold rowL; rw [List.length_map, List.length_range]
theorem rowL_at {f : Nat → Int32} {n i : Nat} (h : i < n) : (rowL f n)[i]? = some (f i) := by
  unfold rowL
  rw [List.getElem?_map, List.getElem?_range h]
  rfl
theorem rowL_succ (f : Nat → Int32) (n : Nat) : rowL f (n + 1) = rowL f n ++ [f n] := by
  unfold rowL
  rw [List.range_succ, List.map_append]
  rfl
theorem rowL_cg {f g : Nat → Int32} {n : Nat} (h : ∀ j, j < n → f j = g j) : rowL f n = rowL g n := by
  unfold rowL
  exact List.map_congr_left fun i hi => h i (List.mem_range.mp hi)
theorem rowL_upd (f : Nat → Int32) (n : Nat) (x : Int32) : rowL (upd f n x) (n + 1) = rowL f n ++ [x] := by
  rw [rowL_succ, rowL_cg (g := f) (fun j hj => by unfold upd; rw [if_neg (by omega)])]
  unfold upd
  rw [if_pos rfl]
theorem rwAt_L {f : Nat → Int32} {n : Nat} (hn : n < 2 ^ 31) (x : Int32) : rwAt f n x = tat (rowL f n) x := by
  unfold rwAt tat
  rw [rowL_len]
  by_cases h0 : 0 ≤ x
  · rw [if_pos h0]
    by_cases h1 : x < nI n
    · rw [if_pos h1, if_pos ⟨h0, h1⟩]
      obtain ⟨j, hj, rfl⟩ := nI_of' h0
      rw [nI_clamp hj, List.getD_eq_getElem?_getD, rowL_at ((nI_ltI hj hn).mp h1)]
      rfl
    · rw [if_neg h1, if_neg (fun z => h1 z.2)]
  · rw [if_neg h0, if_neg (fun z => h0 z.1)]
theorem tat_nI {T : List Int32} {p : Nat} (hp : p < 2 ^ 31) (hT : T.length < 2 ^ 31) : tat T (nI p) = T.getD p (-1) := by
  unfold tat
  by_cases h : p < T.length
  · rw [if_pos ⟨nI_pos' hp, nI_lt h hT⟩, nI_clamp hp]
  · rw [if_neg (fun z => h ((nI_ltI hp hT).mp z.2)), List.getD_eq_getElem?_getD, List.getElem?_eq_none (by omega)]
    rfl
/-- where the class's reader stands -/
def CR (cI : Nat → Int32) (cA : Nat → Nat → Int32) (L : List Int32) (N0 : List (List Int32)) (s : RS) : Prop := CN cI cA s.1 ∧ N0 <+: s.1 ∧ (cI 2 = nI L.length ∧ L.length ≤ 120 ∧ L = rowL (cA 1) L.length) ∧ (cI 6 = nI s.2.1.length ∧ s.2.1.length ≤ 120 ∧ s.2.1 = rowL (cA 5) s.2.1.length) ∧ cI 7 = nI s.2.2 ∧ s.2.2 ≤ L.length
def Fr2 (cI : Nat → Int32) (cA : Nat → Nat → Int32) (cI' : Nat → Int32) (cA' : Nat → Nat → Int32) : Prop := (∀ k, k ≠ 1 → k ≠ 6 → k ≠ 7 → cI' k = cI k) ∧ (∀ k, k ≠ 0 → k ≠ 5 → cA' k = cA k)
theorem Fr2.rfl' {cI : Nat → Int32} {cA : Nat → Nat → Int32} : Fr2 cI cA cI cA := ⟨fun _ _ _ _ => rfl, fun _ _ _ => rfl⟩
theorem Fr2.trans {a b c : Nat → Int32} {a' b' c' : Nat → Nat → Int32} (h : Fr2 a a' b b') (k : Fr2 b b' c c') : Fr2 a a' c c' := ⟨fun q h1 h2 h3 => (k.1 q h1 h2 h3).trans (h.1 q h1 h2 h3), fun q h1 h2 => (k.2 q h1 h2).trans (h.2 q h1 h2)⟩
theorem nxt_lt {L : List Int32} {s : RS} (h : ¬ nxt L s = -1) : s.2.2 < L.length := by
  by_cases z : s.2.2 < L.length
  · exact z
  · exfalso
    apply h
    unfold nxt
    rw [List.getD_eq_getElem?_getD, List.getElem?_eq_none (by omega)]
    rfl
theorem CR.advd {cI : Nat → Int32} {cA : Nat → Nat → Int32} {L : List Int32} {N0 : List (List Int32)} {s : RS} (h : CR cI cA L N0 s) (hl : s.2.2 < L.length) : CR (upd cI 7 (nI (s.2.2 + 1))) cA L N0 (adv s) := ⟨h.1, h.2.1, h.2.2.1, h.2.2.2.1, rfl, hl⟩
theorem Fr2.advd {cI : Nat → Int32} {cA : Nat → Nat → Int32} {x : Int32} : Fr2 cI cA (upd cI 7 x) cA := ⟨fun k _ _ h => by unfold upd; rw [if_neg h], fun _ _ _ => rfl⟩
theorem CR.tadd {cI : Nat → Int32} {cA : Nat → Nat → Int32} {L : List Int32} {N0 : List (List Int32)} {s : RS} (h : CR cI cA L N0 s) (hl : s.2.1.length < 120) (x : Int32) : CR (upd cI 6 (nI (s.2.1.length + 1))) (va_up cA 5 (upd (cA 5) s.2.1.length x)) L N0 (tad s x) := by
  have e : (tad s x).2.1 = s.2.1 ++ [x] := if_pos hl
  refine ⟨h.1, h.2.1, h.2.2.1, ⟨?_, ?_, ?_⟩, h.2.2.2.2.1, h.2.2.2.2.2⟩
  · rw [e, List.length_append]; rfl
  · rw [e, List.length_append]; exact hl
  · rw [e, List.length_append]
    show _ = rowL (upd (cA 5) s.2.1.length x) (s.2.1.length + 1)
    rw [rowL_upd]
    exact congrArg (· ++ [x]) h.2.2.2.1.2.2
theorem Fr2.tadd {cI : Nat → Int32} {cA : Nat → Nat → Int32} {x : Int32} {f : Nat → Int32} : Fr2 cI cA (upd cI 6 x) (va_up cA 5 f) := ⟨fun k _ h _ => by unfold upd; rw [if_neg h], fun k _ h => by unfold va_up; rw [if_neg h]⟩
/-- the end of a reading method -/
def RPg {α : Type} (f : α → Option Value) (g : α → RS) (X : Nat × (Nat → Int32)) (cI : Nat → Int32) (cA : Nat → Nat → Int32) (rI : Nat → Int32) (rA : Nat → Nat → Int32) (ol : Int64) (J : mH) (L : List Int32) (N0 : List (List Int32)) (res : Ex α) : mR → mH → Prop := fun r h' => ∃ (cI' : Nat → Int32) (cA' : Nat → Nat → Int32), Fr2 cI cA cI' cA' ∧ ((∃ q, res = .inr q ∧ r = .inl (f q) ∧ h' = HC X cI' cA' rI rA ol J ∧ CR cI' cA' L N0 (g q)) ∨ (∃ k s', res = .inl k ∧ Rx k (HC X cI' cA' rI rA ol J) r h' ∧ CR cI' cA' L N0 s'))
abbrev RP := RPg (fun q : Int32 × RS => some (.int q.1)) (fun q => q.2)
abbrev RPu := RPg (fun _ : RS => none) (fun s => s)
section RR1
variable {M Nn : Mt} {d pc np : Nat} {lv : List (Nat × Value)} {st st0 As : List Value} {P : mR → mH → Prop} {X : Nat × (Nat → Int32)} {cI : Nat → Int32} {cA : Nat → Nat → Int32} {rI : Nat → Int32} {rA : Nat → Nat → Int32} {ol : Int64} {J : mH} {L : List Int32} {N0 : List (List Int32)} {s : RS} {α : Type} {f : α → Option Value} {g : α → RS} {res : Ex α} {cI' : Nat → Int32} {cA' : Nat → Nat → Int32}
theorem RP_ok {q : α} (F : Fr2 cI cA cI' cA') (e : res = .inr q) (hR : CR cI' cA' L N0 (g q)) : RPg f g X cI cA rI rA ol J L N0 res (.inl (f q)) (HC X cI' cA' rI rA ol J) := ⟨cI', cA', F, Or.inl ⟨q, e, rfl, rfl, hR⟩⟩
theorem RP_x {k : Nat} {s' : RS} (F : Fr2 cI cA cI' cA') (e : res = .inl k) (hR : CR cI' cA' L N0 s') : RPg f g X cI cA rI rA ol J L N0 res (.inr (HC X cI' cA' rI rA ol J).length) (HC X cI' cA' rI rA ol J ++ [mT k]) := ⟨cI', cA', F, Or.inr ⟨k, s', e, ⟨rfl, rfl⟩, hR⟩⟩
theorem ep_callVq {ix o ci : Nat} {fs : List Value} (hd : decode M.2.1 pc = .ok (.invokevirtual ix, 3)) (hl : InT (.methodLink M.1.cls ix Nn.1)) (hN : Cal Nn np) (hm : InT (.instanceMethod Nn.1)) (hs : InT (.selects Nn.1.cls Nn.1 Nn.1)) (ho : (HC X cI cA rI rA ol J)[o]? = some (.inl (ci, fs))) (hci : (vCl[ci]?).map (fun q => q.1) = some Nn.1.cls) (hnp : As.length = np) (hal : ((Value.ref o :: As).map fun v => v.category).sum ≤ Nn.2.2.1) (hcat : (st.map fun v => v.category).sum ≤ 8) (hst : st0 = As.reverse ++ .ref o :: st) (hh : M.2.2.2.2 = [])
    (ev : EvP Nn d 0 (lv_args 0 (.ref o :: As)) [] (HC X cI cA rI rA ol J) (RPg f g X cI cA rI rA ol J L N0 res))
    (k1 : ∀ q cI' cA', res = .inr q → CR cI' cA' L N0 (g q) → Fr2 cI cA cI' cA' → EvP M (d + 1) (pc + 3) lv ((f q).toList ++ st) (HC X cI' cA' rI rA ol J) P)
    (k2 : ∀ k cI' cA' s', res = .inl k → CR cI' cA' L N0 s' → Fr2 cI cA cI' cA' → P (.inr (HC X cI' cA' rI rA ol J).length) (HC X cI' cA' rI rA ol J ++ [mT k])) : EvP M (d + 1) pc lv st0 (HC X cI cA rI rA ol J) P := by
  refine ep_callV hd hl hN hm hs ho hci hnp hal hcat hst hh ev (fun v h1 q => ?_) (fun x h1 q => ?_)
  · obtain ⟨cI1, cA1, F, ⟨q, e, q1, q2, hR⟩ | ⟨k, s', e, ⟨q1, q2⟩, hR⟩⟩ := q
    · cases q1
      subst q2
      exact k1 q cI1 cA1 e hR F
    · cases q1
  · obtain ⟨cI1, cA1, F, ⟨q, e, q1, q2, hR⟩ | ⟨k, s', e, ⟨q1, q2⟩, hR⟩⟩ := q
    · cases q1
    · cases q1
      subst q2
      exact k2 k cI1 cA1 s' e hR F
/-- place++ -/
theorem ep_adv {o : Nat} (d0 : decode M.2.1 pc = .ok (.aload_n 0, 1)) (d1 : decode M.2.1 (pc + 1) = .ok (.dup, 1)) (d2 : decode M.2.1 (pc + 2) = .ok (.getfield 25, 3)) (d5 : decode M.2.1 (pc + 5) = .ok (.iconst 1, 1)) (d6 : decode M.2.1 (pc + 6) = .ok (.iadd, 1)) (d7 : decode M.2.1 (pc + 7) = .ok (.putfield 25, 3)) (hc : M.1.cls = "NameWriter$Reader") (hj : lv[o]? = some (0, .ref 13)) (hR : CR cI cA L N0 s) (hlt : s.2.2 < L.length)
    (k : ∀ cI', CR cI' cA L N0 (adv s) → Fr2 cI cA cI' cA → EvP M d (pc + 10) lv st (HC X cI' cA rI rA ol J) P) : EvP M d pc lv st (HC X cI cA rI rA ol J) P := by
  refine ep_aload_n (j := o) d0 rfl hj ?_
  refine ep_dup d1 rfl ?_
  refine ep_getf (fi := 3) (v := .int (cI 7)) d2 cl1 (by rw [hc]; exact lf_R_25) (by decide) rfl rfl ?_
  refine ep_iconst (v := 1) d5 (by decide) ?_
  refine ep_iadd d6 ?_
  refine ep_cg (y := nI (s.2.2 + 1)) (by rw [hR.2.2.2.2.1, nI_1]) ?_
  refine ep_putf' (fi := 3) (h2 := HC X (upd cI 7 (nI (s.2.2 + 1))) cA rI rA ol J) d7 cl1 (by rw [hc]; exact lf_R_25) (by decide) (Or.inl rfl) rfl rfl hI_13_3 ?_
  exact k _ (hR.advd hlt) Fr2.advd
/-- a call that throws -/
theorem ep_callSX {ix kd : Nat} {h h2 : mH} (hd : decode M.2.1 pc = .ok (.invokestatic ix, 3)) (hl : InT (.methodLink M.1.cls ix Nn.1) ∨ ∃ host, InT (.methodLinkNest M.1.cls ix Nn.1 host)) (hN : Cal Nn np) (hm : InT (.static Nn.1)) (hi : InT (.initialized Nn.1.cls)) (hnp : As.length = np) (hal : (As.map fun v => v.category).sum ≤ Nn.2.2.1) (hcat : (st.map fun v => v.category).sum ≤ 8) (hst : st0 = As.reverse ++ st) (hh : M.2.2.2.2 = [])
    (ev : EvP Nn d 0 (lv_args 0 As) [] h (Rx kd h2)) (p : P (.inr h2.length) (h2 ++ [mT kd])) : EvP M (d + 1) pc lv st0 h P :=
  ep_callS hd hl hN hm hi hnp hal hcat hst hh ev (fun v h1 q => nomatch q.1) (fun x h1 q => by obtain ⟨q1, q2⟩ := q; cases q1; subst q2; exact p)
theorem ep_callSv {ix : Nat} {h h2 : mH} (hd : decode M.2.1 pc = .ok (.invokestatic ix, 3)) (hl : InT (.methodLink M.1.cls ix Nn.1) ∨ ∃ host, InT (.methodLinkNest M.1.cls ix Nn.1 host)) (hN : Cal Nn np) (hm : InT (.static Nn.1)) (hi : InT (.initialized Nn.1.cls)) (hnp : As.length = np) (hal : (As.map fun v => v.category).sum ≤ Nn.2.2.1) (hcat : (st.map fun v => v.category).sum ≤ 8) (hst : st0 = As.reverse ++ st) (hh : M.2.2.2.2 = [])
    (ev : EvP Nn d 0 (lv_args 0 As) [] h (Rv h2)) (k : EvP M (d + 1) (pc + 3) lv st h2 P) : EvP M (d + 1) pc lv st0 h P :=
  ep_callS hd hl hN hm hi hnp hal hcat hst hh ev (fun v h1 q => by obtain ⟨q1, q2⟩ := q; cases q1; subst q2; exact k) (fun x h1 q => nomatch q.1)
/-- an adding method, in the reader -/
theorem AP_RP {res : Ex (Int32 × List (List Int32))} (hR : CR cI cA L N0 s) (hx : ∀ q, res = .inr q → s.1 <+: q.2) {r : mR} {h' : mH} (h : AP X cI cA rI rA ol J res r h') : RP X cI cA rI rA ol J L N0 (lft res s) r h' := by
  rcases h with ⟨k, e, h1, h2⟩ | ⟨q, e, cI1, cA1, h1, h2, h3, h4⟩
  · subst h1; subst h2
    exact RP_x Fr2.rfl' (by rw [e]; rfl) hR
  · subst h1; subst h2
    refine RP_ok (f := fun q : Int32 × RS => some (.int q.1)) (q := (q.1, q.2, s.2)) ⟨fun k h1 _ _ => h4.1 k h1, fun k h1 _ => h4.2 k h1⟩ (by rw [e]; rfl) ?_
    refine ⟨h3, hR.2.1.trans (hx q e), ?_, ?_, ?_, hR.2.2.2.2.2⟩
    · rw [h4.1 2 (by decide), h4.2 1 (by decide)]; exact hR.2.2.1
    · show (cI1 6 = _ ∧ _ ∧ _ = rowL (cA1 5) _)
      rw [h4.1 6 (by decide), h4.2 5 (by decide)]; exact hR.2.2.2.1
    · show cI1 7 = _
      rw [h4.1 7 (by decide)]; exact hR.2.2.2.2.1
end RR1
theorem mkN_ext (N : List (List Int32)) (v : List Int32) : N <+: (mkN N v).2 := by
  show N <+: (if _ then N else N ++ [v])
  split
  · exact List.prefix_refl N
  · exact List.prefix_append N [v]
theorem addN_ext {N : List (List Int32)} {k v f g a b c : Int32} {q : Int32 × List (List Int32)} (h : addN N k v f g a b c = .inr q) : N <+: q.2 := by
  unfold addN at h
  split at h
  · split at h
    · cases h; exact mkN_ext N _
    · cases h
  · cases h
theorem ifx_ext {N : List (List Int32)} {B : Prop} [dB : Decidable B] {x : Ex (Int32 × List (List Int32))} (hx : ∀ q, x = .inr q → N <+: q.2) : ∀ q, (if B then x else .inl 0) = .inr q → N <+: q.2 := by
  intro q h
  split at h
  · exact hx q h
  · cases h
