/-! the reference writes as the class does -/
/-! writing, as functions of lists: what the reference does, against the class -/
abbrev WM : Type := List Int32 × Bool × List Int32 × List (Int32 × Int32)
abbrev WM.O (s : WM) : List Int32 := s.1
abbrev WM.ov (s : WM) : Bool := s.2.1
abbrev WM.E (s : WM) : List Int32 := s.2.2.1
abbrev WM.K (s : WM) : List (Int32 × Int32) := s.2.2.2
abbrev WM.u_O (s : WM) (x : List Int32) : WM := (x, s.2.1, s.2.2.1, s.2.2.2)
abbrev WM.u_ov (s : WM) (x : Bool) : WM := (s.1, x, s.2.2.1, s.2.2.2)
abbrev WM.u_E (s : WM) (x : List Int32) : WM := (s.1, s.2.1, x, s.2.2.2)
abbrev WM.u_K (s : WM) (x : List (Int32 × Int32)) : WM := (s.1, s.2.1, s.2.2.1, x)
def eM (c : Int32) (w : WM) : WM := if w.ov = true ∨ w.O.length = 120 then (WM.u_ov w true) else (WM.u_O w (w.O ++ [c]))
def eL : List Int32 → WM → WM
  | [], w => w
  | c :: l, w => eL l (eM c w)
def pS (t n : Int32) (w : WM) : WM := (WM.u_K w ((t, n) :: w.K))
def pP1 (x : Int32) (w : WM) : WM := if 0 ≤ x then pS 0 x w else w
def pPs (N : List (List Int32)) (n : Int32) (w : WM) : WM := pP1 (cN N n 4) (pP1 (cN N n 5) (pP1 (cN N n 6) w))
/-- a builtin's letter, as the reference has it -/
def ltM (v : Int32) : Int32 := if v = 0 then 118 else if v = 1 then 98 else if v = 2 then 99 else if v = 3 then 115 else if v = 4 then 105 else if v = 5 then 106 else if v = 6 then 108 else 120
/-- a number's digits -/
def dgM (v u : Int32) : Int32 := 48 + (v / u - v / u / 10 * 10)
def nuM (v : Int32) : List Int32 :=
  if ¬ 9 < v / 1 then [dgM v 1] else if ¬ 9 < v / 10 then [dgM v 10, dgM v 1] else if ¬ 9 < v / 100 then [dgM v 100, dgM v 10, dgM v 1]
  else if ¬ 9 < v / 1000 then [dgM v 1000, dgM v 100, dgM v 10, dgM v 1] else if ¬ 9 < v / 10000 then [dgM v 10000, dgM v 1000, dgM v 100, dgM v 10, dgM v 1]
  else [dgM v 100000, dgM v 10000, dgM v 1000, dgM v 100, dgM v 10, dgM v 1]
def nz (c : Int32) : List Int32 := if c = 0 then [] else [c]
def idM (v : Int32) : List Int32 := (if 65535 < v then 51 else if 255 < v then 50 else 49) :: (nz (v >>> ((16 : Int32) &&& 31) &&& 255) ++ (nz (v >>> ((8 : Int32) &&& 31) &&& 255) ++ nz (v >>> ((0 : Int32) &&& 31) &&& 255)))
def liM (N : List (List Int32)) (n : Int32) : List Int32 := 76 :: ltM (cN N (cN N n 2) 1) :: ((if cN N n 1 < 0 then [110] else []) ++ (nuM (if cN N n 1 < 0 then -(cN N n 1) else cN N n 1) ++ [69]))
def plM (N : List (List Int32)) (n : Int32) (w : WM) : WM :=
  if cN N n 0 = 1 then eL (idM (cN N n 1)) w
  else if cN N n 0 = 2 then pS 1 (cN N n 2) (pS 3 n (pS 5 69 (eM 78 w)))
  else if cN N n 0 = 3 then pS 1 (cN N n 2) (pS 4 n (if cN N (cN N n 2) 0 = 2 then pS 5 69 (eM 78 w) else w))
  else if cN N n 0 = 8 then pS 0 (cN N n 2) (pS 6 n (pS 5 69 (eM 70 w)))
  else if cN N n 0 = 7 then pS 0 (cN N n 2) (eM 95 (eL (nuM (cN N n 1)) (eM 65 w)))
  else pS 0 (cN N n 2) (eM (if cN N n 0 = 4 then 80 else if cN N n 0 = 5 then 82 else 75) w)
def prM (N : List (List Int32)) (n : Int32) (w : WM) : WM := if cN N n 0 = 1 then eL (idM (cN N n 1)) (pS 2 n w) else pS 1 (cN N n 2) (pS (if cN N n 0 = 2 then 3 else 4) n (pS 2 n w))
def paM (N : List (List Int32)) (n : Int32) (w : WM) : WM := pPs N n (if cN N n 4 < 0 then eM 118 w else w)
def toM (n : Int32) (w : WM) : WM := eL (toldS (tix w.E n)) w
def doM (N : List (List Int32)) (t n : Int32) (w : WM) : WM :=
  if t = 2 then (WM.u_E w (w.E ++ [n]))
  else if t = 5 then eM n w
  else if t = 3 then eL (idM (cN N n 1)) w
  else if t = 4 then pPs N n (pS 5 69 (eM 73 w))
  else if t = 6 then paM N n w
  else if t = 1 then (if tix w.E n < 0 then prM N n w else toM n w)
  else if cN N n 0 = 0 then eM (ltM (cN N n 1)) w
  else if cN N n 0 = 9 then eL (liM N n) w
  else if tix w.E n < 0 then plM N n (pS 2 n w) else toM n w
/-- what a task needs -/
def TO (N : List (List Int32)) (t n : Int32) : Prop := t = 2 ∨ t = 5 ∨ ((t = 0 ∨ t = 1 ∨ t = 3 ∨ t = 4 ∨ t = 6) ∧ Vd N n)
abbrev GW (w : WM) : Prop := (w.O.length ≤ 120) ∧ (w.E.length ≤ 250) ∧ (w.K.length ≤ 300)
theorem GW.o {w : WM} (h_ : GW w) : w.O.length ≤ 120 := h_.1
theorem GW.e {w : WM} (h_ : GW w) : w.E.length ≤ 250 := h_.2.1
theorem GW.k {w : WM} (h_ : GW w) : w.K.length ≤ 300 := h_.2.2
def WL (N : List (List Int32)) (w w' : WM) : Prop := ∀ R : WM → WM → Prop, (∀ w : WM, (w.ov = true ∨ w.K = []) → R w w) → (∀ (w w' : WM) (t n : Int32) (K : List (Int32 × Int32)), w.ov = false → GW w → w.K = (t, n) :: K → TO N t n → R (doM N t n (WM.u_K w K)) w' → R w w') → R w w'
theorem WL.fin {N : List (List Int32)} {w : WM} (h : w.ov = true ∨ w.K = []) : WL N w w := fun _ f _ => f w h
theorem WL.go {N : List (List Int32)} {w w' : WM} {t n : Int32} {K : List (Int32 × Int32)} (h1 : w.ov = false) (h2 : GW w) (h3 : w.K = (t, n) :: K) (h4 : TO N t n) (h5 : WL N (doM N t n (WM.u_K w K)) w') : WL N w w' := fun R f g => g w w' t n K h1 h2 h3 h4 (h5 R f g)
theorem WL.ind {N : List (List Int32)} {motive : (w w' : WM) → WL N w w' → Prop} (fin : ∀ {w : WM} (h : w.ov = true ∨ w.K = []), motive w w (WL.fin h)) (go : ∀ {w w' : WM} {t n : Int32} {K : List (Int32 × Int32)} (h1 : w.ov = false) (h2 : GW w) (h3 : w.K = (t, n) :: K) (h4 : TO N t n) (h5 : WL N (doM N t n (WM.u_K w K)) w') (_ : motive (doM N t n (WM.u_K w K)) w' h5), motive w w' (WL.go h1 h2 h3 h4 h5)) {w w' : WM} (h : WL N w w') : motive w w' h :=
  (h (fun w w' => ∃ h : WL N w w', motive w w' h) (fun _ h => ⟨_, fin h⟩) (fun _ _ _ _ _ h1 h2 h3 h4 h5 => h5.elim fun h5 i => ⟨_, go h1 h2 h3 h4 h5 i⟩)).elim fun _ i => i
def WOk (N : List (List Int32)) (Q : WM → Prop) (w : WM) : Prop := ∃ r, WL N w r ∧ Q r
def WB (Q : WM → Prop) : Prop := ∀ w : WM, w.ov = true → Q w
def ws (w : WS) (K : List (Int32 × Int32)) : WM := ⟨w.1, false, w.2, K⟩
theorem eM_ov {c : Int32} {w : WM} (h : w.ov = true) : (eM c w).ov = true := by unfold eM; rw [if_pos (Or.inl h)]
theorem eL_ov {l : List Int32} : ∀ {w : WM}, w.ov = true → (eL l w).ov = true := by
  induction l with
  | nil => intro w h; exact h
  | cons c l ih => intro w h; exact ih (eM_ov h)
theorem pS_ov {t n : Int32} {w : WM} : (pS t n w).ov = w.ov := rfl
theorem pP1_ov {x : Int32} {w : WM} : (pP1 x w).ov = w.ov := by unfold pP1; split <;> rfl
theorem pPs_ov {N : List (List Int32)} {n : Int32} {w : WM} : (pPs N n w).ov = w.ov := by unfold pPs; rw [pP1_ov, pP1_ov, pP1_ov]
theorem eM_ws {c : Int32} {w : WS} {K : List (Int32 × Int32)} (h : w.1.length < 120) : eM c (ws w K) = ws (w.1 ++ [c], w.2) K := by
  unfold eM
  rw [if_neg (fun u => u.elim (fun u => by cases u) (fun u => by have u : w.1.length = 120 := u; omega))]
  rfl
theorem eM_x {c : Int32} {w : WS} {K : List (Int32 × Int32)} (h : w.1.length = 120) : (eM c (ws w K)).ov = true := by
  unfold eM
  rw [if_pos (Or.inr (show (ws w K).O.length = 120 from h))]
/-- letters put: the reference's against the class's -/
theorem eL_sim (l : List Int32) : ∀ (w : WS) (K : List (Int32 × Int32)), w.1.length ≤ 120 → (∀ w1, wpl l w = .inr w1 → eL l (ws w K) = ws w1 K ∧ w1.1.length = w.1.length + l.length ∧ w1.1.length ≤ 120 ∧ w1.2 = w.2) ∧ ((∃ n, wpl l w = .inl n) → (eL l (ws w K)).ov = true) := by
  induction l with
  | nil =>
    intro w K hw
    exact ⟨fun w1 e => (by cases e; exact ⟨rfl, rfl, hw, rfl⟩), fun ⟨n, e⟩ => (by cases e)⟩
  | cons c l ih =>
    intro w K hw
    have e0 : wpl (c :: l) w = bnd (wp1 c w) (wpl l) := rfl
    by_cases h : w.1.length < 120
    · have e1 : wp1 c w = .inr (w.1 ++ [c], w.2) := if_pos h
      obtain ⟨a, b⟩ := ih (w.1 ++ [c], w.2) K (by simp; omega)
      rw [e0, e1]
      show (∀ w1, wpl l _ = _ → eL l (eM c (ws w K)) = _ ∧ _) ∧ (_ → (eL l (eM c (ws w K))).ov = true)
      rw [eM_ws h]
      refine ⟨fun w1 e => ?_, fun e => b e⟩
      obtain ⟨a1, a2, a3, a4⟩ := a w1 e
      refine ⟨a1, ?_, a3, a4⟩
      rw [a2]; simp; omega
    · have e1 : wp1 c w = .inl 2 := if_neg h
      rw [e0, e1]
      exact ⟨fun w1 e => (by cases e), fun _ => (show (eL l (eM c (ws w K))).ov = true from eL_ov (eM_x (show w.1.length = 120 by omega)))⟩
section
variable {N : List (List Int32)} {Q : WM → Prop} {K : List (Int32 × Int32)} {w : WS} {j k : Nat}
theorem wok_ov (hB : WB Q) {w : WM} (h : w.ov = true) : WOk N Q w := ⟨w, .fin (Or.inl h), hB w h⟩
theorem wok_go {t n : Int32} (hg : GW (ws w ((t, n) :: K))) (ht : TO N t n) (k : WOk N Q (doM N t n (ws w K))) : WOk N Q (ws w ((t, n) :: K)) := by
  obtain ⟨r, a, b⟩ := k
  exact ⟨r, .go rfl hg rfl ht a, b⟩
/-- in hand: the table is shorter than the letters; the stack has room -/
abbrev Jv (j : Nat) (w : WS) : Prop := (w.1.length ≤ 120) ∧ (w.2.length + j ≤ w.1.length)
theorem Jv.o {j : Nat} {w : WS} (h_ : Jv j w) : w.1.length ≤ 120 := h_.1
theorem Jv.e {j : Nat} {w : WS} (h_ : Jv j w) : w.2.length + j ≤ w.1.length := h_.2
theorem Jv.le {j' : Nat} (h : Jv j w) (hj : j' ≤ j) : Jv j' w := ⟨h.o, by have := h.e; omega⟩
theorem Jv.gw (h : Jv j w) (hK : K.length ≤ 300) : GW (ws w K) := ⟨h.o, by show w.2.length ≤ 250; have := h.o; have := h.e; omega, hK⟩
theorem Jv.put {l : List Int32} {w1 : WS} (h : Jv j w) (e : wpl l w = .inr w1) : Jv (j + l.length) w1 := by
  obtain ⟨_, a, b, c⟩ := (eL_sim l w [] h.o).1 w1 e
  exact ⟨b, by rw [a, c]; have := h.e; omega⟩
/-- letters put, then on -/
theorem wok_put {l : List Int32} (h : Jv j w) (hok : ∀ w1, wpl l w = .inr w1 → WOk N Q (ws w1 K)) (hx : (∃ n, wpl l w = .inl n) → WB Q) : WOk N Q (eL l (ws w K)) := by
  obtain ⟨a, b⟩ := eL_sim l w K h.o
  cases e : wpl l w with
  | inl n => exact wok_ov (hx ⟨n, e⟩) (b ⟨n, e⟩)
  | inr w1 => rw [(a w1 e).1]; exact hok w1 e
theorem wp1_l (c : Int32) (w : WS) : wp1 c w = wpl [c] w := (wpl_1 c w).symm
theorem eM_l (c : Int32) (w : WM) : eM c w = eL [c] w := rfl
/-- a node over all nodes: its cells, its kind, and that what it holds is less deep -/
theorem NK.ext {P N : List (List Int32)} (h : P <+: N) (hN : N.length ≤ 1000) {k a f g x y z : Int32} (o : NK P k a f g x y z) : NK N k a f g x y z := by
  have hP := Nat.le_trans h.length_le hN
  have pf : ∀ {u}, pfP P u → pfP N u := fun {u} q => by
    have e : kN N u = kN P u := cN_ext h hN (Or.inr (pf_vd hP q)) 0
    show ¬ kN N u < 1 ∧ kN N u ≤ 3
    rw [e]; exact q
  have ag : ∀ {u}, agP P u → agP N u := fun {u} q => by
    rcases q with q | q | q
    · exact Or.inl q
    · exact Or.inr (Or.inl (tyP_ext h hN q))
    · exact Or.inr (Or.inr ((cN_ext h hN (Or.inr (eq_vd hP (by decide) q)) 0).trans q))
  have pa : ∀ {u}, paP P u → paP N u := fun {u} q => by
    have v := pa_vo hP q
    have e0 : kN N u = kN P u := cN_ext h hN v 0
    have e1 : cN N u 1 = cN P u 1 := cN_ext h hN v 1
    show (kN N u = 0 ∧ ¬ cN N u 1 = 0) ∨ (¬ kN N u = 0 ∧ (u = -1 ∨ (¬ kN N u ≤ 0 ∧ ¬ 8 < kN N u)))
    rw [e0, e1]; exact q
  cases o using NK.cs with
  | bi q => exact .bi q
  | nm q => exact .nm q
  | mb p q => exact .mb (pf p) q
  | fl p q r t => exact .fl (k12_ext h hN p) ⟨ag q.1, ag q.2.1, ag q.2.2⟩ r t
  | wp p q r => exact .wp p (tyP_ext h hN q) (by have e : kN N f = kN P f := cN_ext h hN (Or.inr (ty_vd hP q)) 0; rw [e]; exact r)
  | ar p q => exact .ar (tyP_ext h hN p) q
  | fn p q => exact .fn (tyP_ext h hN p) ⟨⟨pa q.1.1, pa q.1.2.1, pa q.1.2.2⟩, q.2⟩
  | li p q =>
    have v : Vo P f := Or.inr (eq_vd hP (by decide) p.1)
    exact .li ⟨(cN_ext h hN v 0).trans p.1, by rw [cN_ext h hN v 1]; exact p.2⟩ q
  | en p q r =>
    refine .en (pf p) ?_ ⟨⟨pa r.1.1, pa r.1.2.1, pa r.1.2.2⟩, r.2⟩
    have e : kN N f = kN P f := cN_ext h hN (Or.inr (pf_vd hP p)) 0
    rw [e]
    by_cases w : kN P f = 3
    · rw [if_pos w] at q ⊢; exact tyP_ext h hN q
    · rw [if_neg w] at q ⊢; exact q
end
abbrev NI (N : List (List Int32)) (n : Int32) : Prop := (NK N (cN N n 0) (cN N n 1) (cN N n 2) (cN N n 3) (cN N n 4) (cN N n 5) (cN N n 6)) ∧ (dp N (cN N n 2) < dp N n) ∧ (dp N (cN N n 3) < dp N n) ∧ (dp N (cN N n 4) < dp N n) ∧ (dp N (cN N n 5) < dp N n) ∧ (dp N (cN N n 6) < dp N n)
theorem NI.k {N : List (List Int32)} {n : Int32} (h_ : NI N n) : NK N (cN N n 0) (cN N n 1) (cN N n 2) (cN N n 3) (cN N n 4) (cN N n 5) (cN N n 6) := h_.1
theorem NI.df {N : List (List Int32)} {n : Int32} (h_ : NI N n) : dp N (cN N n 2) < dp N n := h_.2.1
theorem NI.dg {N : List (List Int32)} {n : Int32} (h_ : NI N n) : dp N (cN N n 3) < dp N n := h_.2.2.1
theorem NI.da {N : List (List Int32)} {n : Int32} (h_ : NI N n) : dp N (cN N n 4) < dp N n := h_.2.2.2.1
theorem NI.db {N : List (List Int32)} {n : Int32} (h_ : NI N n) : dp N (cN N n 5) < dp N n := h_.2.2.2.2.1
theorem NI.dc {N : List (List Int32)} {n : Int32} (h_ : NI N n) : dp N (cN N n 6) < dp N n := h_.2.2.2.2.2
section
variable {N : List (List Int32)} {Q : WM → Prop} {K : List (Int32 × Int32)} {w : WS} {j k : Nat}
theorem WN.ni (hW : WN N) {n : Int32} (hV : Vd N n) : NI N n := by
  obtain ⟨i, hi, rfl⟩ := hV
  have hl := hW.1
  obtain ⟨c, a, f, g, x, y, z, e, nk, _⟩ := hW.get hi
  have e0 : cN N (nI i) 0 = c := by rw [cN_nI (by omega) hi, e]; rfl
  have e1 : cN N (nI i) 1 = a := by rw [cN_nI (by omega) hi, e]; rfl
  have e2 : cN N (nI i) 2 = f := by rw [cN_nI (by omega) hi, e]; rfl
  have e3 : cN N (nI i) 3 = g := by rw [cN_nI (by omega) hi, e]; rfl
  have e4 : cN N (nI i) 4 = x := by rw [cN_nI (by omega) hi, e]; rfl
  have e5 : cN N (nI i) 5 = y := by rw [cN_nI (by omega) hi, e]; rfl
  have e6 : cN N (nI i) 6 = z := by rw [cN_nI (by omega) hi, e]; rfl
  have e7 : cN N (nI i) 7 = dmN N f g x y z + 1 := by rw [cN_nI (by omega) hi, e]; rfl
  have nk' := nk.ext (take_pre i) (by omega)
  obtain ⟨v1, v2, v3, v4, v5⟩ := nk'.vo (by omega)
  have o : dp N f < dp N (nI i) ∧ dp N g < dp N (nI i) ∧ dp N x < dp N (nI i) ∧ dp N y < dp N (nI i) ∧ dp N z < dp N (nI i) := by
    obtain ⟨f1, f2⟩ := dp_vo hW v1
    obtain ⟨g1, g2⟩ := dp_vo hW v2
    obtain ⟨a1, a2⟩ := dp_vo hW v3
    obtain ⟨b1, b2⟩ := dp_vo hW v4
    obtain ⟨c1, c2⟩ := dp_vo hW v5
    have hm : dmN N f g x y z = nI (max (max (dp N f) (dp N g)) (max (dp N x) (max (dp N y) (dp N z)))) := by
      unfold dmN
      rw [f1, g1, a1, b1, c1, mx_N (by omega) (by omega), mx_N (by omega) (by omega), mx_N (by omega) (by omega), mx_N (by omega) (by omega)]
    have h7 := e7
    rw [hm, nI_1] at h7
    have : dp N (nI i) = max (max (dp N f) (dp N g)) (max (dp N x) (max (dp N y) (dp N z))) + 1 := by
      show (dN N (nI i)).toNatClampNeg = _
      unfold dN
      rw [h7, show (0 : Int32) = nI 0 from by decide, mx_N (by omega) (by omega), nI_clamp (by omega)]
      omega
    rw [this]; omega
  exact ⟨by rw [e0, e1, e2, e3, e4, e5, e6]; exact nk', by rw [e2]; exact o.1, by rw [e3]; exact o.2.1, by rw [e4]; exact o.2.2.1, by rw [e5]; exact o.2.2.2.1, by rw [e6]; exact o.2.2.2.2⟩
end
theorem lt_v {b : Nat} {u : Nat} (hb : b < 2 ^ 31) (hu : u < 2 ^ 31) : (nI b < nI u) = (b < u) := propext (nI_ltI hb hu)
theorem dv_v {b u : Nat} (hb : b < 2 ^ 31) (h0 : 0 < u) (hu : u < 2 ^ 31) (x : Int32) (e : x = nI u) : (9 < nI b / x) = (9 < b / u) := by
  rw [e, pk_div hb h0 hu, show (9 : Int32) = nI 9 from by decide]
  exact propext (nI_ltI (by omega) (Nat.lt_of_le_of_lt (Nat.div_le_self _ _) hb))
theorem dc_v {b u : Nat} (hb : b < 2 ^ 31) (hu : u < 2 ^ 31) (x : Int32) (e : x = nI u) : dcu (nI b) x = if b < u then [] else [dgM (nI b) x] := by
  unfold dcu dgM
  rw [e]
  by_cases h : b < u
  · rw [if_pos h, if_pos ((nI_ltI hb hu).mpr h)]
  · rw [if_neg h, if_neg (fun w => h ((nI_ltI hb hu).mp w))]
theorem nu_dec {v : Int32} {b : Nat} (e : v = nI b) (hb : b ≤ 999999) : nuM v = decL v := by
  have hb31 : b < 2 ^ 31 := by omega
  have e1 : [48 + (v - v / 10 * 10)] = [dgM v 1] := by
    unfold dgM
    have : v / 1 = v := by rw [e, show (1 : Int32) = nI 1 from by decide, pk_div hb31 (by omega) (by omega), Nat.div_one]
    rw [this]
  unfold nuM decL
  rw [e1, e]
  have c1 : (¬ 9 < nI b / 1) ↔ b < 10 := by rw [dv_v hb31 (by omega) (by omega) 1 (u := 1) (by decide)]; omega
  have c2 : (¬ 9 < nI b / 10) ↔ b < 100 := by rw [dv_v hb31 (by omega) (by omega) 10 (u := 10) (by decide)]; omega
  have c3 : (¬ 9 < nI b / 100) ↔ b < 1000 := by rw [dv_v hb31 (by omega) (by omega) 100 (u := 100) (by decide)]; omega
  have c4 : (¬ 9 < nI b / 1000) ↔ b < 10000 := by rw [dv_v hb31 (by omega) (by omega) 1000 (u := 1000) (by decide)]; omega
  have c5 : (¬ 9 < nI b / 10000) ↔ b < 100000 := by rw [dv_v hb31 (by omega) (by omega) 10000 (u := 10000) (by decide)]; omega
  rw [dc_v hb31 (by omega) 10 (u := 10) (by decide), dc_v hb31 (by omega) 100 (u := 100) (by decide), dc_v hb31 (by omega) 1000 (u := 1000) (by decide), dc_v hb31 (by omega) 10000 (u := 10000) (by decide), dc_v hb31 (by omega) 100000 (u := 100000) (by decide)]
  by_cases h1 : b < 10
  · rw [if_pos (c1.mpr h1), if_pos (show b < 100000 by omega), if_pos (show b < 10000 by omega), if_pos (show b < 1000 by omega), if_pos (show b < 100 by omega), if_pos (show b < 10 by omega)]; rfl
  rw [if_neg (fun q => h1 (c1.mp q))]
  by_cases h2 : b < 100
  · rw [if_pos (c2.mpr h2), if_pos (show b < 100000 by omega), if_pos (show b < 10000 by omega), if_pos (show b < 1000 by omega), if_pos (show b < 100 by omega), if_neg (show ¬ b < 10 by omega)]; rfl
  rw [if_neg (fun q => h2 (c2.mp q))]
  by_cases h3 : b < 1000
  · rw [if_pos (c3.mpr h3), if_pos (show b < 100000 by omega), if_pos (show b < 10000 by omega), if_pos (show b < 1000 by omega), if_neg (show ¬ b < 100 by omega), if_neg (show ¬ b < 10 by omega)]; rfl
  rw [if_neg (fun q => h3 (c3.mp q))]
  by_cases h4 : b < 10000
  · rw [if_pos (c4.mpr h4), if_pos (show b < 100000 by omega), if_pos (show b < 10000 by omega), if_neg (show ¬ b < 1000 by omega), if_neg (show ¬ b < 100 by omega), if_neg (show ¬ b < 10 by omega)]; rfl
  rw [if_neg (fun q => h4 (c4.mp q))]
  by_cases h5 : b < 100000
  · rw [if_pos (c5.mpr h5), if_pos (show b < 100000 by omega), if_neg (show ¬ b < 10000 by omega), if_neg (show ¬ b < 1000 by omega), if_neg (show ¬ b < 100 by omega), if_neg (show ¬ b < 10 by omega)]; rfl
  rw [if_neg (fun q => h5 (c5.mp q))]
  rw [if_neg (show ¬ b < 100000 by omega), if_neg (show ¬ b < 10000 by omega), if_neg (show ¬ b < 1000 by omega), if_neg (show ¬ b < 100 by omega), if_neg (show ¬ b < 10 by omega)]; rfl
theorem int32_nI (x : Int32) : ∃ n : Nat, n < 2 ^ 32 ∧ x = nI n := ⟨x.toBitVec.toNat, x.toBitVec.isLt, by
  apply Int32.toBitVec_inj.mp
  apply BitVec.eq_of_toNat_eq
  rw [pk_tn x.toBitVec.isLt]⟩
theorem z_nI' {n : Nat} (hn : n < 2 ^ 32) : (nI n = 0) = (n = 0) := by
  refine propext ⟨fun h => ?_, fun h => by rw [h]; decide⟩
  have := congrArg (fun q : Int32 => q.toBitVec.toNat) h
  simp only [pk_tn hn] at this
  exact this
/-- an id's number and letters -/
theorem idP_cases {x : Int32} (h : idP x) : (∃ a : Nat, 97 ≤ a ∧ a ≤ 122 ∧ x = nI a) ∨ (∃ a b : Nat, 97 ≤ a ∧ a ≤ 122 ∧ 97 ≤ b ∧ b ≤ 122 ∧ x = nI (a * 256 + b)) ∨ (∃ a b c : Nat, 97 ≤ a ∧ a ≤ 122 ∧ 97 ≤ b ∧ b ≤ 122 ∧ 97 ≤ c ∧ c ≤ 122 ∧ x = nI ((a * 256 + b) * 256 + c)) := by
  obtain ⟨n, hn, rfl⟩ := int32_nI x
  have l1 : lenId (nI n) = if n / 256 = 0 then 1 else if n / 65536 = 0 then 2 else if n / 16777216 = 0 then 3 else 4 := by
    unfold lenId
    rw [ush_nI hn 8 8 (by decide), ush_nI hn 16 16 (by decide), ush_nI hn 24 24 (by decide)]
    have e8 := z_nI' (n := n / 2 ^ 8) (Nat.lt_of_le_of_lt (Nat.div_le_self _ _) hn)
    have e16 := z_nI' (n := n / 2 ^ 16) (Nat.lt_of_le_of_lt (Nat.div_le_self _ _) hn)
    have e24 := z_nI' (n := n / 2 ^ 24) (Nat.lt_of_le_of_lt (Nat.div_le_self _ _) hn)
    simp only [e8, e16, e24]
  have small : n < 16777216 := by
    by_cases h1 : n / 16777216 = 0
    · omega
    · exfalso
      have : lenId (nI n) = 4 := by rw [l1, if_neg (by omega), if_neg (by omega), if_neg h1]
      rcases h with h | h | h <;> exact absurd (this.symm.trans h.1) (by decide)
  have hn31 : n < 2 ^ 31 := by omega
  have b0 := by_nI hn31 0 0 (by decide)
  have b8 := by_nI hn31 8 8 (by decide)
  have b16 := by_nI hn31 16 16 (by decide)
  have smn : ∀ m : Nat, m < 256 → smP (nI m) → 97 ≤ m ∧ m ≤ 122 := fun m hm q => by
    obtain ⟨e, e1, e2, e3⟩ := sm_nI' q
    have := (nI_eq (by omega) (by omega)).mp e3
    omega
  have p0 : n / 2 ^ 0 % 256 < 256 := Nat.mod_lt _ (by decide)
  have p8 : n / 2 ^ 8 % 256 < 256 := Nat.mod_lt _ (by decide)
  have p16 : n / 2 ^ 16 % 256 < 256 := Nat.mod_lt _ (by decide)
  rcases h with ⟨hl, s0⟩ | ⟨hl, s0, s8⟩ | ⟨hl, s0, s8, s16⟩
  · rw [b0] at s0
    have q0 := smn _ p0 s0
    have : n / 256 = 0 := by
      by_cases w : n / 256 = 0
      · exact w
      · rw [l1, if_neg w] at hl
        by_cases w2 : n / 65536 = 0
        · rw [if_pos w2] at hl; exact absurd hl (by decide)
        · rw [if_neg w2] at hl
          by_cases w3 : n / 16777216 = 0
          · rw [if_pos w3] at hl; exact absurd hl (by decide)
          · rw [if_neg w3] at hl; exact absurd hl (by decide)
    have e0 : n / 2 ^ 0 % 256 = n := by omega
    rw [e0] at q0
    exact Or.inl ⟨n, q0.1, q0.2, rfl⟩
  · rw [b0] at s0
    rw [b8] at s8
    have q0 := smn _ p0 s0
    have q8 := smn _ p8 s8
    have : n / 65536 = 0 := by
      by_cases w : n / 256 = 0
      · omega
      · rw [l1, if_neg w] at hl
        by_cases w2 : n / 65536 = 0
        · exact w2
        · rw [if_neg w2] at hl
          by_cases w3 : n / 16777216 = 0
          · rw [if_pos w3] at hl; exact absurd hl (by decide)
          · rw [if_neg w3] at hl; exact absurd hl (by decide)
    exact Or.inr (Or.inl ⟨n / 2 ^ 8 % 256, n / 2 ^ 0 % 256, q8.1, q8.2, q0.1, q0.2, congrArg nI (by omega)⟩)
  · rw [b0] at s0
    rw [b8] at s8
    rw [b16] at s16
    have q0 := smn _ p0 s0
    have q8 := smn _ p8 s8
    have q16 := smn _ p16 s16
    exact Or.inr (Or.inr ⟨n / 2 ^ 16 % 256, n / 2 ^ 8 % 256, n / 2 ^ 0 % 256, q16.1, q16.2, q8.1, q8.2, q0.1, q0.2, congrArg nI (by omega)⟩)
theorem sb_nI {n : Nat} (hn : n < 2 ^ 31) (s : Int32) (k : Nat) (hs : (s.toBitVec.smod 32).toNat = k) : nI n >>> s &&& 255 = nI (n / 2 ^ k % 256) := by
  rw [pk_shrN hn s k hs]
  exact pk_andN (Nat.lt_of_le_of_lt (Nat.div_le_self _ _) (by omega)) 8 (by decide)
theorem nz_nI {n : Nat} (hn : n < 2 ^ 31) : nz (nI n) = if n = 0 then [] else [nI n] := by
  unfold nz
  simp only [z_nI hn]
theorem id_M {x : Int32} (h : idP x) : idM x = idL x := by
  have hl : ∀ n, n < 16777216 → lenId (nI n) = if n / 256 = 0 then 1 else if n / 65536 = 0 then 2 else 3 := by
    intro n hn
    unfold lenId
    rw [ush_nI (by omega) 8 8 (by decide), ush_nI (by omega) 16 16 (by decide), ush_nI (by omega) 24 24 (by decide)]
    have e8 := z_nI' (n := n / 2 ^ 8) (by omega)
    have e16 := z_nI' (n := n / 2 ^ 16) (by omega)
    have e24 := z_nI' (n := n / 2 ^ 24) (by omega)
    simp only [e8, e16, e24]
    rw [if_pos (show n / 2 ^ 24 = 0 by omega)]
  have hc : ∀ n : Nat, n < 2 ^ 31 → (65535 < nI n) = (65535 < n) ∧ (255 < nI n) = (255 < n) := fun n hn => by
    rw [show (65535 : Int32) = nI 65535 from by decide, show (255 : Int32) = nI 255 from by decide]
    exact ⟨propext (nI_ltI (by omega) hn), propext (nI_ltI (by omega) hn)⟩
  have gen : ∀ n : Nat, n < 16777216 → idM (nI n) = (if 65535 < n then 51 else if 255 < n then 50 else 49) :: ((if n / 2 ^ 16 % 256 = 0 then [] else [nI (n / 2 ^ 16 % 256)]) ++ ((if n / 2 ^ 8 % 256 = 0 then [] else [nI (n / 2 ^ 8 % 256)]) ++ (if n / 2 ^ 0 % 256 = 0 then [] else [nI (n / 2 ^ 0 % 256)]))) := by
    intro n hn
    have hn31 : n < 2 ^ 31 := by omega
    unfold idM
    rw [sb_nI hn31 _ 16 (by decide), sb_nI hn31 _ 8 (by decide), sb_nI hn31 _ 0 (by decide), nz_nI (by omega), nz_nI (by omega), nz_nI (by omega)]
    simp only [(hc n hn31).1, (hc n hn31).2]
  have by0 : ∀ n : Nat, n < 2 ^ 31 → byId (nI n) 0 = nI (n / 2 ^ 0 % 256) := fun n hn => by_nI hn 0 0 (by decide)
  have by8 : ∀ n : Nat, n < 2 ^ 31 → byId (nI n) 8 = nI (n / 2 ^ 8 % 256) := fun n hn => by_nI hn 8 8 (by decide)
  have by16 : ∀ n : Nat, n < 2 ^ 31 → byId (nI n) 16 = nI (n / 2 ^ 16 % 256) := fun n hn => by_nI hn 16 16 (by decide)
  rcases idP_cases h with ⟨a, a1, a2, rfl⟩ | ⟨a, b, a1, a2, b1, b2, rfl⟩ | ⟨a, b, c, a1, a2, b1, b2, c1, c2, rfl⟩
  · have hn : a < 16777216 := by omega
    unfold idL
    rw [gen a hn, hl a hn, by0 a (by omega)]
    rw [if_neg (by omega), if_neg (by omega), if_pos (by omega), if_pos (by omega), if_neg (by omega), if_pos (show a / 256 = 0 by omega), if_pos rfl]
    rfl
  · have hn : a * 256 + b < 16777216 := by omega
    unfold idL
    rw [gen _ hn, hl _ hn, by0 _ (by omega), by8 _ (by omega)]
    rw [if_neg (by omega), if_pos (by omega), if_pos (by omega), if_neg (by omega), if_neg (by omega), if_neg (show ¬ (a * 256 + b) / 256 = 0 by omega), if_pos (show (a * 256 + b) / 65536 = 0 by omega), if_neg (by decide), if_pos rfl]
    rfl
  · have hn : (a * 256 + b) * 256 + c < 16777216 := by omega
    unfold idL
    rw [gen _ hn, hl _ hn, by0 _ (by omega), by8 _ (by omega), by16 _ (by omega)]
    rw [if_pos (by omega), if_neg (by omega), if_neg (by omega), if_neg (by omega), if_neg (show ¬ ((a * 256 + b) * 256 + c) / 256 = 0 by omega), if_neg (show ¬ ((a * 256 + b) * 256 + c) / 65536 = 0 by omega), if_neg (by decide), if_neg (by decide), if_pos rfl]
    rfl
theorem bl_M {v : Int32} (h : ¬ v < 0 ∧ v < 8) : blL v = [ltM v] := by
  obtain ⟨i, hi, rfl⟩ := nI_of h.1
  have h8 : i < 8 := by have := h.2; rw [show (8 : Int32) = nI 8 from by decide, nI_ltI hi (by omega)] at this; exact this
  match i, h8 with
  | 0, _ => decide
  | 1, _ => decide
  | 2, _ => decide
  | 3, _ => decide
  | 4, _ => decide
  | 5, _ => decide
  | 6, _ => decide
  | 7, _ => decide
theorem wr_M {v : Int32} (h : v = 4 ∨ v = 5 ∨ v = 6) : wrL v = [if v = 4 then 80 else if v = 5 then 82 else 75] := by
  rcases h with rfl | rfl | rfl <;> decide
theorem li_M {N : List (List Int32)} {n : Int32} (h0 : ¬ cN N (cN N n 2) 1 < 0 ∧ cN N (cN N n 2) 1 < 8) (h1 : ¬ cN N n 1 < -999999 ∧ cN N n 1 ≤ 999999) : liM N n = litL N n := by
  have a1 : (-999999 : Int32).toInt = -999999 := by decide
  have a2 : (999999 : Int32).toInt = 999999 := by decide
  have a0 : (0 : Int32).toInt = 0 := by decide
  have h2 := h1.1; have h3 := h1.2
  rw [i_lt, a1] at h2
  rw [i_le, a2] at h3
  unfold liM litL
  rw [bl_M h0]
  by_cases w : cN N n 1 < 0
  · have w' : ¬ 0 ≤ cN N n 1 := Int32.not_le.mpr w
    rw [if_pos w, if_pos w, if_neg w']
    have wi := w
    rw [i_lt, a0] at wi
    have en : (-(cN N n 1)).toInt = -(cN N n 1).toInt := by
      rw [Int32.toInt_neg]
      exact Int.bmod_eq_of_le (by omega) (by omega)
    have ev : -(cN N n 1) = nI (-(cN N n 1).toInt).toNat := by
      apply Int32.toInt_inj.mp
      rw [en, nI_toInt (by omega)]; omega
    have ea : abF (cN N n 1) = -(cN N n 1) := by
      unfold abF
      rw [if_neg w', Int32.zero_sub]
    rw [ea, nu_dec ev (by omega)]
    rfl
  · have w' : 0 ≤ cN N n 1 := Int32.not_lt.mp w
    rw [if_neg w, if_neg w, if_pos w']
    have wi := w
    rw [i_lt, a0] at wi
    have ev : cN N n 1 = nI (cN N n 1).toInt.toNat := by
      apply Int32.toInt_inj.mp
      rw [nI_toInt (by omega)]; omega
    have ea : abF (cN N n 1) = cN N n 1 := if_pos w'
    rw [ea, nu_dec ev (by omega)]
    rfl
section
variable {N : List (List Int32)} {Q : WM → Prop} {K : List (Int32 × Int32)} {w : WS} {j k : Nat} {rec : Bool → Int32 → WS → Ex WS}
/-- the writing of types and prefixes inside, against the reference; m: the room that the stack has below -/
def SimW (N : List (List Int32)) (rec : Bool → Int32 → WS → Ex WS) (d : Nat) : Prop := ∀ (Q : WM → Prop) (b : Bool) (n : Int32) (j : Nat) (w : WS) (K : List (Int32 × Int32)), (if b = true then pfP N n else tyP N n) → dp N n ≤ d → Jv j w → K.length + 6 * d ≤ 200 → (∀ w1, rec b n w = .inr w1 → Jv j w1 → WOk N Q (ws w1 K)) → ((∃ m, rec b n w = .inl m) → WB Q) → WOk N Q (ws w ((if b = true then 1 else 0, n) :: K))
theorem bndw {α β : Type} {x : Ex α} {f : α → Ex β} {y : β} {a : α} (h : x = .inr a) (e : f a = .inr y) : bnd x f = .inr y := by rw [h]; exact e
theorem bndx {α β : Type} {x : Ex α} {f : α → Ex β} {a : α} (h : x = .inr a) (e : ∃ n, f a = .inl n) : ∃ n, bnd x f = .inl n := by rw [h]; exact e
/-- a task that puts letters -/
theorem wok_lt {t n : Int32} {l : List Int32} (h : Jv j w) (hK : K.length ≤ 200) (ht : TO N t n) (e : doM N t n (ws w K) = eL l (ws w K)) (hok : ∀ w1, wpl l w = .inr w1 → WOk N Q (ws w1 K)) (hx : (∃ n, wpl l w = .inl n) → WB Q) : WOk N Q (ws w ((t, n) :: K)) := by
  refine wok_go (h.gw (by simp; omega)) ht ?_
  rw [e]
  exact wok_put h hok hx
theorem wok_sg {c : Int32} (h : Jv j w) (hK : K.length ≤ 200) (hok : ∀ w1, wp1 c w = .inr w1 → Jv (j + 1) w1 → WOk N Q (ws w1 K)) (hx : (∃ n, wp1 c w = .inl n) → WB Q) : WOk N Q (ws w ((5, c) :: K)) := by
  refine wok_lt (l := [c]) h hK (Or.inr (Or.inl rfl)) ?_ (fun w1 e => hok w1 (by rw [wp1_l]; exact e) (h.put e)) (fun e => hx (by rw [wp1_l]; exact e))
  unfold doM
  rw [if_neg (by decide), if_pos rfl]
  rfl
theorem wok_em {c : Int32} (h : Jv j w) (hok : ∀ w1, wp1 c w = .inr w1 → Jv (j + 1) w1 → WOk N Q (ws w1 K)) (hx : (∃ n, wp1 c w = .inl n) → WB Q) : WOk N Q (eM c (ws w K)) := by
  rw [eM_l]
  exact wok_put h (fun w1 e => hok w1 (by rw [wp1_l]; exact e) (h.put e)) (fun e => hx (by rw [wp1_l]; exact e))
theorem wok_id {n : Int32} (h : Jv j w) (hK : K.length ≤ 200) (hV : Vd N n) (hi : idP (cN N n 1)) (hok : ∀ w1, wpl (idL (cN N n 1)) w = .inr w1 → Jv j w1 → WOk N Q (ws w1 K)) (hx : (∃ m, wpl (idL (cN N n 1)) w = .inl m) → WB Q) : WOk N Q (ws w ((3, n) :: K)) := by
  refine wok_lt (l := idL (cN N n 1)) h hK (Or.inr (Or.inr ⟨by decide, hV⟩)) ?_ (fun w1 e => hok w1 e ((h.put e).le (by omega))) hx
  unfold doM
  rw [if_neg (by decide), if_neg (by decide), if_pos rfl, id_M hi]
theorem wok_en {n : Int32} (h : Jv (j + 1) w) (hK : K.length ≤ 200) (hok : Jv j (wta w n) → WOk N Q (ws (wta w n) K)) : WOk N Q (ws w ((2, n) :: K)) := by
  refine wok_go (h.gw (by simp; omega)) (Or.inl rfl) ?_
  have hl : w.2.length < 120 := by have := h.o; have := h.e; omega
  have e1 : wta w n = (w.1, w.2 ++ [n]) := by unfold wta; rw [if_pos hl]
  have e2 : doM N 2 n (ws w K) = ws (wta w n) K := by
    unfold doM
    rw [if_pos rfl, e1]
    rfl
  rw [e2]
  refine hok ⟨?_, ?_⟩
  · rw [e1]; exact h.o
  · rw [e1]; have := h.e; show (w.2 ++ [n]).length + j ≤ w.1.length; rw [List.length_append]; show w.2.length + 1 + j ≤ _; omega
theorem emc {c : Int32} {w1 : WS} {l : List (Int32 × Int32)} (h : wp1 c w = .inr w1) : eM c (ws w l) = ws w1 l := by
  unfold wp1 at h
  by_cases q : w.1.length < 120
  · rw [if_pos q] at h; cases h; exact eM_ws q
  · rw [if_neg q] at h; cases h
theorem emx {c : Int32} {m : Nat} {l : List (Int32 × Int32)} (hw : w.1.length ≤ 120) (h : wp1 c w = .inl m) : (eM c (ws w l)).ov = true := by
  unfold wp1 at h
  by_cases q : w.1.length < 120
  · rw [if_pos q] at h; cases h
  · exact eM_x (by omega)
theorem jput {c : Int32} {w1 : WS} (h : Jv j w) (e : wp1 c w = .inr w1) : Jv (j + 1) w1 := h.put (l := [c]) (by rw [← wp1_l]; exact e)
/-- parts: types or literals -/
theorem wok_arg {x : Int32} {d : Nat} (hW : WN N) (hs : SimW N rec d) (h : Jv j w) (hK : K.length + 6 * d ≤ 200) (hx0 : agP N x) (hd : dp N x ≤ d) (hok : ∀ w1, wArg N rec x w = .inr w1 → Jv j w1 → WOk N Q (ws w1 K)) (hx : (∃ m, wArg N rec x w = .inl m) → WB Q) : WOk N Q (pP1 x (ws w K)) := by
  have hN : N.length ≤ 1000 := by have := hW.1; omega
  by_cases w0 : x = -1
  · have e1 : pP1 x (ws w K) = ws w K := by unfold pP1; rw [if_neg (by rw [w0]; decide)]
    have e2 : wArg N rec x w = .inr w := by
      unfold wArg
      rw [if_neg (by show ¬ cN N x 0 = 9; rw [w0, cN_none]; decide), if_pos w0]
    rw [e1]
    exact hok w e2 h
  · have hV : Vd N x := (ag_vo hN hx0).resolve_left w0
    have e1 : pP1 x (ws w K) = ws w ((0, x) :: K) := by unfold pP1; rw [if_pos (hV.ne hN).1]; rfl
    rw [e1]
    by_cases w9 : kN N x = 9
    · have e2 : wArg N rec x w = wpl (litL N x) w := if_pos w9
      rw [e2] at hok hx
      have hli : liM N x = litL N x := by
        have ni := (hW.ni hV).k
        have e9 : cN N x 0 = 9 := w9
        have hpq : (kN N (cN N x 2) = 0 ∧ ¬ cN N (cN N x 2) 1 = 0) ∧ (¬ cN N x 1 < -999999 ∧ cN N x 1 ≤ 999999) := by
          generalize cN N x 0 = k0 at ni e9
          generalize cN N x 1 = a at ni ⊢
          generalize cN N x 2 = f at ni ⊢
          generalize cN N x 3 = g3 at ni
          generalize cN N x 4 = g4 at ni
          generalize cN N x 5 = g5 at ni
          generalize cN N x 6 = g6 at ni
          cases ni using NK.cs with
          | li p q => exact ⟨p, q⟩
          | wp r _ _ => rcases r with r | r | r <;> exact absurd (r.symm.trans e9) (by decide)
          | _ => exact absurd e9 (by decide)
        have nf := (hW.ni (eq_vd hN (by decide) hpq.1.1)).k
        have e0 : cN N (cN N x 2) 0 = 0 := hpq.1.1
        have hr : ¬ cN N (cN N x 2) 1 < 0 ∧ cN N (cN N x 2) 1 < 8 := by
          generalize cN N (cN N x 2) 0 = k0 at nf e0
          generalize cN N (cN N x 2) 1 = b at nf ⊢
          generalize cN N (cN N x 2) 2 = g2 at nf
          generalize cN N (cN N x 2) 3 = g3 at nf
          generalize cN N (cN N x 2) 4 = g4 at nf
          generalize cN N (cN N x 2) 5 = g5 at nf
          generalize cN N (cN N x 2) 6 = g6 at nf
          cases nf using NK.cs with
          | bi r => exact r
          | wp r _ _ => rcases r with r | r | r <;> exact absurd (r.symm.trans e0) (by decide)
          | _ => exact absurd e0 (by decide)
        exact li_M hr hpq.2
      refine wok_lt (l := litL N x) h (by omega) (Or.inr (Or.inr ⟨by decide, hV⟩)) ?_ (fun w1 e => hok w1 e ((h.put e).le (by omega))) hx
      unfold doM
      rw [if_neg (by decide), if_neg (by decide), if_neg (by decide), if_neg (by decide), if_neg (by decide), if_neg (by decide), if_neg (by rw [show cN N x 0 = 9 from w9]; decide), if_pos w9, hli]
    · have e2 : wArg N rec x w = rec false x w := by unfold wArg; rw [if_neg w9, if_neg w0]
      rw [e2] at hok hx
      have ht : tyP N x := by
        rcases hx0 with q | q | q
        · exact absurd q w0
        · exact q
        · exact absurd q w9
      exact hs Q false x j w K ht hd h hK hok hx
theorem wok_par {x : Int32} {d : Nat} (hW : WN N) (hs : SimW N rec d) (h : Jv j w) (hK : K.length + 6 * d ≤ 200) (hx0 : paP N x) (hd : dp N x ≤ d) (hok : ∀ w1, wPar rec x w = .inr w1 → Jv j w1 → WOk N Q (ws w1 K)) (hx : (∃ m, wPar rec x w = .inl m) → WB Q) : WOk N Q (pP1 x (ws w K)) := by
  have hN : N.length ≤ 1000 := by have := hW.1; omega
  by_cases w0 : x = -1
  · have e1 : pP1 x (ws w K) = ws w K := by unfold pP1; rw [if_neg (by rw [w0]; decide)]
    have e2 : wPar rec x w = .inr w := if_pos w0
    rw [e1]
    exact hok w e2 h
  · have hV : Vd N x := (pa_vo hN hx0).resolve_left w0
    have e1 : pP1 x (ws w K) = ws w ((0, x) :: K) := by unfold pP1; rw [if_pos (hV.ne hN).1]; rfl
    rw [e1]
    have e2 : wPar rec x w = rec false x w := if_neg w0
    rw [e2] at hok hx
    have ht : tyP N x := by
      rcases hx0 with q | q
      · exact ⟨by rw [q.1]; decide, by rw [q.1]; decide⟩
      · rcases q.2 with q | q
        · exact absurd q w0
        · exact ⟨fun u => q.1 (by rw [i_le]; rw [i_lt] at u; omega), q.2⟩
    exact hs Q false x j w K ht hd h hK hok hx
/-- a part pushed upon others: the same as the part, then the others -/
theorem pP1_K {x : Int32} {w : WM} : pP1 x w = (WM.u_K w ((if 0 ≤ x then [(0, x)] else []) ++ w.K)) := by
  unfold pP1
  by_cases q : 0 ≤ x
  · rw [if_pos q, if_pos q]; rfl
  · rw [if_neg q, if_neg q]; rfl
theorem pP1_len {x : Int32} {w : WM} : (pP1 x w).K.length ≤ w.K.length + 1 := by
  rw [pP1_K]
  show ((if 0 ≤ x then [((0 : Int32), x)] else []) ++ w.K).length ≤ _
  by_cases q : 0 ≤ x
  · rw [if_pos q]; simp
  · rw [if_neg q]; simp
theorem pP1_ws {x : Int32} {w : WS} {K : List (Int32 × Int32)} : pP1 x (ws w K) = ws w (pP1 x (ws w K)).K := by rw [pP1_K]; rfl
theorem pP1_any {x : Int32} {w w' : WS} {K : List (Int32 × Int32)} : (pP1 x (ws w K)).K = (pP1 x (ws w' K)).K := by rw [pP1_K, pP1_K]; rfl
theorem wok_args3 {x y z : Int32} {d : Nat} (hW : WN N) (hs : SimW N rec d) (h : Jv j w) (hK : K.length + 2 + 6 * d ≤ 200) (hx0 : agP N x ∧ agP N y ∧ agP N z) (hd : dp N x ≤ d ∧ dp N y ≤ d ∧ dp N z ≤ d) (f : WS → Ex WS) (hok : ∀ w1 w2 w3, wArg N rec x w = .inr w1 → wArg N rec y w1 = .inr w2 → wArg N rec z w2 = .inr w3 → Jv j w3 → WOk N Q (ws w3 K)) (hx : (∃ m, (bnd (wArg N rec x w) fun w1 => bnd (wArg N rec y w1) fun w2 => bnd (wArg N rec z w2) f) = .inl m) → WB Q) : WOk N Q (pP1 x (pP1 y (pP1 z (ws w K)))) := by
  have k1 : (pP1 z (ws w K)).K.length ≤ K.length + 1 := pP1_len
  have k2 : (pP1 y (ws w (pP1 z (ws w K)).K)).K.length ≤ K.length + 2 := by
    have : (pP1 y (ws w (pP1 z (ws w K)).K)).K.length ≤ (pP1 z (ws w K)).K.length + 1 := pP1_len
    omega
  rw [pP1_ws (x := z), pP1_ws (x := y)]
  refine wok_arg hW hs h (by omega) hx0.1 hd.1 (fun w1 e1 h1 => ?_) (fun ⟨m, e⟩ => hx ⟨m, by rw [e]; rfl⟩)
  rw [pP1_any (w' := w1), ← pP1_ws]
  refine wok_arg hW hs h1 (by omega) hx0.2.1 hd.2.1 (fun w2 e2 h2 => ?_) (fun ⟨m, e⟩ => hx ⟨m, by rw [e1, bnd_i, e]; rfl⟩)
  rw [pP1_any (w' := w2), ← pP1_ws]
  exact wok_arg hW hs h2 (by omega) hx0.2.2 hd.2.2 (fun w3 e3 h3 => hok w1 w2 w3 e1 e2 e3 h3) (fun ⟨m, e⟩ => hx ⟨m, by rw [e1, bnd_i, e2, bnd_i, e]; rfl⟩)
theorem wok_pars3 {x y z : Int32} {d : Nat} (hW : WN N) (hs : SimW N rec d) (h : Jv j w) (hK : K.length + 2 + 6 * d ≤ 200) (hx0 : paP N x ∧ paP N y ∧ paP N z) (hd : dp N x ≤ d ∧ dp N y ≤ d ∧ dp N z ≤ d) (hok : ∀ w3, (bnd (wPar rec x w) fun w1 => bnd (wPar rec y w1) fun w2 => wPar rec z w2) = .inr w3 → Jv j w3 → WOk N Q (ws w3 K)) (hx : (∃ m, (bnd (wPar rec x w) fun w1 => bnd (wPar rec y w1) fun w2 => wPar rec z w2) = .inl m) → WB Q) : WOk N Q (pP1 x (pP1 y (pP1 z (ws w K)))) := by
  have k1 : (pP1 z (ws w K)).K.length ≤ K.length + 1 := pP1_len
  have k2 : (pP1 y (ws w (pP1 z (ws w K)).K)).K.length ≤ K.length + 2 := by
    have : (pP1 y (ws w (pP1 z (ws w K)).K)).K.length ≤ (pP1 z (ws w K)).K.length + 1 := pP1_len
    omega
  rw [pP1_ws (x := z), pP1_ws (x := y)]
  refine wok_par hW hs h (by omega) hx0.1 hd.1 (fun w1 e1 h1 => ?_) (fun ⟨m, e⟩ => hx ⟨m, by rw [e]; rfl⟩)
  rw [pP1_any (w' := w1), ← pP1_ws]
  refine wok_par hW hs h1 (by omega) hx0.2.1 hd.2.1 (fun w2 e2 h2 => ?_) (fun ⟨m, e⟩ => hx ⟨m, by rw [e1, bnd_i, e]; rfl⟩)
  rw [pP1_any (w' := w2), ← pP1_ws]
  exact wok_par hW hs h2 (by omega) hx0.2.2 hd.2.2 (fun w3 e3 h3 => hok w3 (by rw [e1, bnd_i, e2, bnd_i, e3]) h3) (fun ⟨m, e⟩ => hx ⟨m, by rw [e1, bnd_i, e2, bnd_i, e]⟩)
/-- the task of arguments -/
theorem wok_args {n : Int32} {d : Nat} (hW : WN N) (hs : SimW N rec d) (h : Jv j w) (hK : K.length + 3 + 6 * d ≤ 200) (hV : Vd N n) (h3 : kN N n = 3) (hd : dp N n ≤ d + 1) (hok : ∀ w1, wArgs N rec n w = .inr w1 → Jv (j + 2) w1 → WOk N Q (ws w1 K)) (hx : (∃ m, wArgs N rec n w = .inl m) → WB Q) : WOk N Q (ws w ((4, n) :: K)) := by
  have hN : N.length ≤ 1000 := by have := hW.1; omega
  refine wok_go (h.gw (by simp; omega)) (Or.inr (Or.inr ⟨by decide, hV⟩)) ?_
  have e1 : doM N 4 n (ws w K) = pPs N n (pS 5 69 (eM 73 (ws w K))) := by
    unfold doM
    rw [if_neg (by decide), if_neg (by decide), if_neg (by decide), if_pos rfl]
  rw [e1]
  have ni := hW.ni hV
  have nk := ni.k
  have hag : agP N (cN N n 4) ∧ agP N (cN N n 5) ∧ agP N (cN N n 6) := by
    have h3' : cN N n 0 = 3 := h3
    generalize cN N n 0 = k at nk h3'
    generalize cN N n 1 = a at nk
    generalize cN N n 2 = f at nk
    generalize cN N n 3 = g at nk
    generalize cN N n 4 = x at nk ⊢
    generalize cN N n 5 = y at nk ⊢
    generalize cN N n 6 = z at nk ⊢
    cases nk using NK.cs with
    | fl _ q _ _ => exact q
    | wp r _ _ => rcases r with r | r | r <;> exact absurd (r.symm.trans h3') (by decide)
    | _ => exact absurd h3' (by decide)
  unfold wArgs at hok hx
  cases e2 : wp1 73 w with
  | inl m => exact wok_ov (hx ⟨m, by rw [e2]; rfl⟩) (by rw [pPs_ov]; exact emx h.o e2)
  | inr w1 =>
    rw [emc e2]
    have h1 := jput h e2
    rw [e2] at hok hx
    show WOk N Q (pP1 _ (pP1 _ (pP1 _ (ws w1 ((5, 69) :: K)))))
    have d1 := ni.da; have d2 := ni.db; have d3 := ni.dc
    refine wok_args3 hW hs h1 (by simp; omega) hag ⟨by omega, by omega, by omega⟩ (fun w4 => wp1 69 w4) (fun w2 w3 w4 a1 a2 a3 h4 => ?_) hx
    exact wok_sg h4 (by omega) (fun w5 e5 h5 => hok w5 (by rw [bnd_i, a1, bnd_i, a2, bnd_i, a3, bnd_i, e5]) h5) (fun ⟨m, e⟩ => hx ⟨m, by rw [bnd_i, a1, bnd_i, a2, bnd_i, a3, bnd_i, e]⟩)
/-- the task of parameters -/
theorem wok_pars {n : Int32} {d : Nat} (hW : WN N) (hs : SimW N rec d) (h : Jv j w) (hK : K.length + 3 + 6 * d ≤ 200) (hV : Vd N n) (hp : paP N (cN N n 4) ∧ paP N (cN N n 5) ∧ paP N (cN N n 6)) (hd : dp N n ≤ d + 1) (hok : ∀ w1, wPars N rec n w = .inr w1 → Jv j w1 → WOk N Q (ws w1 K)) (hx : (∃ m, wPars N rec n w = .inl m) → WB Q) : WOk N Q (ws w ((6, n) :: K)) := by
  have hN : N.length ≤ 1000 := by have := hW.1; omega
  refine wok_go (h.gw (by simp; omega)) (Or.inr (Or.inr ⟨by decide, hV⟩)) ?_
  have e1 : doM N 6 n (ws w K) = pPs N n (if cN N n 4 < 0 then eM 118 (ws w K) else ws w K) := by
    unfold doM
    rw [if_neg (by decide), if_neg (by decide), if_neg (by decide), if_neg (by decide), if_pos rfl]
    rfl
  rw [e1]
  have ni := hW.ni hV
  have d1 := ni.da; have d2 := ni.db; have d3 := ni.dc
  have hlt : (cN N n 4 < 0) ↔ (cN N n 4 = -1) := by
    refine ⟨fun q => (pa_vo hN hp.1).resolve_right (fun v => absurd (v.ne hN).1 (Int32.not_le.mpr q)), fun q => by rw [q]; decide⟩
  unfold wPars at hok hx
  by_cases w0 : cN N n 4 = -1
  · rw [if_pos (hlt.mpr w0)]
    rw [if_pos w0] at hok hx
    cases e2 : wp1 118 w with
    | inl m => exact wok_ov (hx ⟨m, by rw [e2]; rfl⟩) (by rw [pPs_ov]; exact emx h.o e2)
    | inr w1 =>
      rw [emc e2]
      have h1 := (jput h e2).le (Nat.le_succ j)
      rw [e2] at hok hx
      exact wok_pars3 hW hs h1 (by omega) hp ⟨by omega, by omega, by omega⟩ hok hx
  · rw [if_neg (fun q => w0 (hlt.mp q))]
    rw [if_neg w0] at hok hx
    exact wok_pars3 hW hs h (by omega) hp ⟨by omega, by omega, by omega⟩ hok hx
end
section
variable {N : List (List Int32)} {Q : WM → Prop} {K : List (Int32 × Int32)} {w : WS} {j k : Nat} {rec : Bool → Int32 → WS → Ex WS}
theorem idL_len (v : Int32) : 1 ≤ (idL v).length := by
  unfold idL
  split
  · simp
  · split
    · simp
    · split <;> simp
theorem nk_1 {N : List (List Int32)} {n : Int32} (ni : NI N n) (h : cN N n 0 = 1) : idP (cN N n 1) := by
  have nk := ni.k
  generalize cN N n 0 = k at nk h
  generalize cN N n 1 = a at nk ⊢
  generalize cN N n 2 = f at nk
  generalize cN N n 3 = g at nk
  generalize cN N n 4 = x at nk
  generalize cN N n 5 = y at nk
  generalize cN N n 6 = z at nk
  cases nk using NK.cs with
  | nm q => exact q
  | wp r _ _ => rcases r with r | r | r <;> exact absurd (r.symm.trans h) (by decide)
  | _ => exact absurd h (by decide)
theorem nk_0 {N : List (List Int32)} {n : Int32} (ni : NI N n) (h : cN N n 0 = 0) : ¬ cN N n 1 < 0 ∧ cN N n 1 < 8 := by
  have nk := ni.k
  generalize cN N n 0 = k at nk h
  generalize cN N n 1 = a at nk ⊢
  generalize cN N n 2 = f at nk
  generalize cN N n 3 = g at nk
  generalize cN N n 4 = x at nk
  generalize cN N n 5 = y at nk
  generalize cN N n 6 = z at nk
  cases nk using NK.cs with
  | bi q => exact q
  | wp r _ _ => rcases r with r | r | r <;> exact absurd (r.symm.trans h) (by decide)
  | _ => exact absurd h (by decide)
theorem nk_2 {N : List (List Int32)} {n : Int32} (ni : NI N n) (h : cN N n 0 = 2) : idP (cN N n 1) ∧ pfP N (cN N n 2) := by
  have nk := ni.k
  generalize cN N n 0 = k at nk h
  generalize cN N n 1 = a at nk ⊢
  generalize cN N n 2 = f at nk ⊢
  generalize cN N n 3 = g at nk
  generalize cN N n 4 = x at nk
  generalize cN N n 5 = y at nk
  generalize cN N n 6 = z at nk
  cases nk using NK.cs with
  | mb p q => exact ⟨q, p⟩
  | wp r _ _ => rcases r with r | r | r <;> exact absurd (r.symm.trans h) (by decide)
  | _ => exact absurd h (by decide)
theorem nk_3 {N : List (List Int32)} {n : Int32} (ni : NI N n) (h : cN N n 0 = 3) : kN N (cN N n 2) = 1 ∨ kN N (cN N n 2) = 2 := by
  have nk := ni.k
  generalize cN N n 0 = k at nk h
  generalize cN N n 1 = a at nk
  generalize cN N n 2 = f at nk ⊢
  generalize cN N n 3 = g at nk
  generalize cN N n 4 = x at nk
  generalize cN N n 5 = y at nk
  generalize cN N n 6 = z at nk
  cases nk using NK.cs with
  | fl p _ _ _ => exact p
  | wp r _ _ => rcases r with r | r | r <;> exact absurd (r.symm.trans h) (by decide)
  | _ => exact absurd h (by decide)
theorem nk_8 {N : List (List Int32)} {n : Int32} (ni : NI N n) (h : cN N n 0 = 8) : tyP N (cN N n 2) ∧ (paP N (cN N n 4) ∧ paP N (cN N n 5) ∧ paP N (cN N n 6)) := by
  have nk := ni.k
  generalize cN N n 0 = k at nk h
  generalize cN N n 1 = a at nk
  generalize cN N n 2 = f at nk ⊢
  generalize cN N n 3 = g at nk
  generalize cN N n 4 = x at nk ⊢
  generalize cN N n 5 = y at nk ⊢
  generalize cN N n 6 = z at nk ⊢
  cases nk using NK.cs with
  | fn p q => exact ⟨p, q.1⟩
  | wp r _ _ => rcases r with r | r | r <;> exact absurd (r.symm.trans h) (by decide)
  | _ => exact absurd h (by decide)
theorem nk_10 {N : List (List Int32)} {n : Int32} (ni : NI N n) (h : cN N n 0 = 10) : pfP N (cN N n 2) ∧ (if kN N (cN N n 2) = 3 then tyP N (cN N n 3) else cN N n 3 = -1) ∧ (paP N (cN N n 4) ∧ paP N (cN N n 5) ∧ paP N (cN N n 6)) := by
  have nk := ni.k
  generalize cN N n 0 = k at nk h
  generalize cN N n 1 = a at nk
  generalize cN N n 2 = f at nk ⊢
  generalize cN N n 3 = g at nk ⊢
  generalize cN N n 4 = x at nk ⊢
  generalize cN N n 5 = y at nk ⊢
  generalize cN N n 6 = z at nk ⊢
  cases nk using NK.cs with
  | en p q r => exact ⟨p, q, r.1⟩
  | wp r _ _ => rcases r with r | r | r <;> exact absurd (r.symm.trans h) (by decide)
  | _ => exact absurd h (by decide)
theorem nk_7 {N : List (List Int32)} {n : Int32} (ni : NI N n) (h : cN N n 0 = 7) : tyP N (cN N n 2) ∧ (¬ cN N n 1 < 1 ∧ cN N n 1 ≤ 999) := by
  have nk := ni.k
  generalize cN N n 0 = k at nk h
  generalize cN N n 1 = a at nk ⊢
  generalize cN N n 2 = f at nk ⊢
  generalize cN N n 3 = g at nk
  generalize cN N n 4 = x at nk
  generalize cN N n 5 = y at nk
  generalize cN N n 6 = z at nk
  cases nk using NK.cs with
  | ar p q => exact ⟨p, q⟩
  | wp r _ _ => rcases r with r | r | r <;> exact absurd (r.symm.trans h) (by decide)
  | _ => exact absurd h (by decide)
theorem nk_w {N : List (List Int32)} {n : Int32} (ni : NI N n) (h : cN N n 0 = 4 ∨ cN N n 0 = 5 ∨ cN N n 0 = 6) : tyP N (cN N n 2) := by
  have nk := ni.k
  generalize cN N n 0 = k at nk h
  generalize cN N n 1 = a at nk
  generalize cN N n 2 = f at nk ⊢
  generalize cN N n 3 = g at nk
  generalize cN N n 4 = x at nk
  generalize cN N n 5 = y at nk
  generalize cN N n 6 = z at nk
  cases nk using NK.cs with
  | wp _ q _ => exact q
  | bi _ => exact absurd h (by decide)
  | nm _ => exact absurd h (by decide)
  | mb _ _ => exact absurd h (by decide)
  | fl _ _ _ _ => exact absurd h (by decide)
  | ar _ _ => exact absurd h (by decide)
  | fn _ _ => exact absurd h (by decide)
  | li _ _ => exact absurd h (by decide)
  | en _ _ _ => exact absurd h (by decide)
theorem k08 {x : Int32} (h1 : ¬ x < 0) (h2 : ¬ 8 < x) : x = 0 ∨ x = 1 ∨ x = 2 ∨ x = 3 ∨ x = 4 ∨ x = 5 ∨ x = 6 ∨ x = 7 ∨ x = 8 := by
  obtain ⟨i, hi, rfl⟩ := nI_of h1
  have h8 : ¬ 8 < i := fun q => h2 (by rw [show (8 : Int32) = nI 8 from by decide]; exact nI_lt q hi)
  match i, h8 with
  | 0, _ => decide
  | 1, _ => decide
  | 2, _ => decide
  | 3, _ => decide
  | 4, _ => decide
  | 5, _ => decide
  | 6, _ => decide
  | 7, _ => decide
  | 8, _ => decide
  | i + 9, q => exact absurd (by omega) q
/-- an untold type -/
theorem w_unt {n : Int32} {d : Nat} (hW : WN N) (hs : SimW N rec d) (h : Jv j w) (hK : K.length + 5 + 6 * d ≤ 200) (hV : Vd N n) (ht : tyP N n) (h0 : ¬ kN N n = 0) (hd : dp N n ≤ d + 1) (hok : ∀ w1, wUnt N rec n w = .inr w1 → Jv (j + 1) w1 → WOk N Q (ws w1 K)) (hx : (∃ m, wUnt N rec n w = .inl m) → WB Q) : WOk N Q (plM N n (ws w K)) := by
  have hN : N.length ≤ 1000 := by have := hW.1; omega
  have ni := hW.ni hV
  have df := ni.df
  unfold wUnt at hok hx
  rcases k08 ht.1 ht.2 with e | e | e | e | e | e | e | e | e
  · exact absurd e h0
  · -- a name
    have e' : cN N n 0 = 1 := e
    rw [if_neg (by rw [e]; decide), if_neg (by rw [e]; decide), if_neg (by rw [e]; decide), if_neg (by rw [e]; decide), if_neg (by rw [e]; decide)] at hok hx
    unfold plM
    rw [if_pos e', id_M (nk_1 ni e')]
    exact wok_put h (fun w1 e1 => hok w1 e1 ((h.put e1).le (by have := idL_len (cN N n 1); omega))) hx
  · -- a member
    have e' : cN N n 0 = 2 := e
    rw [if_pos e] at hok hx
    unfold plM
    rw [if_neg (by rw [e']; decide), if_pos e']
    obtain ⟨q1, q2⟩ := nk_2 ni e'
    cases e1 : wp1 78 w with
    | inl m => exact wok_ov (hx ⟨m, by rw [e1]; rfl⟩) (by rw [pS_ov, pS_ov, pS_ov]; exact emx h.o e1)
    | inr w1 =>
      rw [emc e1]
      have h1 := jput h e1
      rw [e1] at hok hx
      refine hs Q true (cN N n 2) (j + 1) w1 ((3, n) :: (5, 69) :: K) q2 (by omega) h1 (by simp; omega) (fun w2 e2 h2 => ?_) (fun ⟨m, e2⟩ => hx ⟨m, by rw [bnd_i, e2]; rfl⟩)
      refine wok_id h2 (by simp; omega) hV q1 (fun w3 e3 h3 => ?_) (fun ⟨m, e3⟩ => hx ⟨m, by rw [bnd_i, e2, bnd_i, e3]; rfl⟩)
      exact wok_sg h3 (by omega) (fun w4 e4 h4 => hok w4 (by rw [bnd_i, e2, bnd_i, e3, bnd_i, e4]) (h4.le (by omega))) (fun ⟨m, e4⟩ => hx ⟨m, by rw [bnd_i, e2, bnd_i, e3, bnd_i, e4]⟩)
  · -- a filled one
    have e' : cN N n 0 = 3 := e
    rw [if_neg (by rw [e]; decide), if_pos e] at hok hx
    unfold plM
    rw [if_neg (by rw [e']; decide), if_neg (by rw [e']; decide), if_pos e']
    have q := nk_3 ni e'
    have qp : pfP N (cN N n 2) := by
      refine ⟨?_, ?_⟩ <;> rcases q with q | q <;> rw [q] <;> decide
    unfold wFil at hok hx
    by_cases u : kN N (cN N n 2) = 2
    · rw [if_pos u] at hok hx
      rw [if_pos (show cN N (cN N n 2) 0 = 2 from u)]
      cases e1 : wp1 78 w with
      | inl m => exact wok_ov (hx ⟨m, by rw [e1]; rfl⟩) (by rw [pS_ov, pS_ov, pS_ov]; exact emx h.o e1)
      | inr w1 =>
        rw [emc e1]
        have h1 := jput h e1
        rw [e1] at hok hx
        refine hs Q true (cN N n 2) (j + 1) w1 ((4, n) :: (5, 69) :: K) qp (by omega) h1 (by simp; omega) (fun w2 e2 h2 => ?_) (fun ⟨m, e2⟩ => hx ⟨m, by rw [bnd_i, e2]; rfl⟩)
        refine wok_args hW hs h2 (by simp; omega) hV e hd (fun w3 e3 h3 => ?_) (fun ⟨m, e3⟩ => hx ⟨m, by rw [bnd_i, e2, bnd_i, e3]; rfl⟩)
        exact wok_sg h3 (by omega) (fun w4 e4 h4 => hok w4 (by rw [bnd_i, e2, bnd_i, e3, bnd_i, e4]) (h4.le (by omega))) (fun ⟨m, e4⟩ => hx ⟨m, by rw [bnd_i, e2, bnd_i, e3, bnd_i, e4]⟩)
    · rw [if_neg u] at hok hx
      rw [if_neg (show ¬ cN N (cN N n 2) 0 = 2 from u)]
      refine hs Q true (cN N n 2) j w ((4, n) :: K) qp (by omega) h (by simp; omega) (fun w2 e2 h2 => ?_) (fun ⟨m, e2⟩ => hx ⟨m, by rw [e2]; rfl⟩)
      exact wok_args hW hs h2 (by omega) hV e hd (fun w3 e3 h3 => hok w3 (by rw [e2, bnd_i, e3]) (h3.le (by omega))) (fun ⟨m, e3⟩ => hx ⟨m, by rw [e2, bnd_i, e3]⟩)
  case inr.inr.inr.inr.inr.inr.inr.inl =>
    -- an array
    have e' : cN N n 0 = 7 := e
    rw [if_neg (by rw [e]; decide), if_neg (by rw [e]; decide), if_neg (by rw [e]; decide), if_pos e] at hok hx
    unfold plM
    rw [if_neg (by rw [e']; decide), if_neg (by rw [e']; decide), if_neg (by rw [e']; decide), if_neg (by rw [e']; decide), if_pos e']
    obtain ⟨q1, q2⟩ := nk_7 ni e'
    have hnu : nuM (cN N n 1) = decL (cN N n 1) := by
      have a1 : (1 : Int32).toInt = 1 := by decide
      have a9 : (999 : Int32).toInt = 999 := by decide
      have u1 := q2.1; have u2 := q2.2
      rw [i_lt, a1] at u1
      rw [i_le, a9] at u2
      have ev : cN N n 1 = nI (cN N n 1).toInt.toNat := by
        apply Int32.toInt_inj.mp
        rw [nI_toInt (by omega)]; omega
      exact nu_dec ev (by omega)
    rw [hnu]
    cases e1 : wp1 65 w with
    | inl m => exact wok_ov (hx ⟨m, by rw [e1]; rfl⟩) (by rw [pS_ov]; exact eM_ov (eL_ov (emx h.o e1)))
    | inr w1 =>
      rw [emc e1]
      have h1 := jput h e1
      rw [e1] at hok hx
      obtain ⟨a, b⟩ := eL_sim (decL (cN N n 1)) w1 K h1.o
      cases e2 : wpl (decL (cN N n 1)) w1 with
      | inl m => exact wok_ov (hx ⟨m, by rw [bnd_i, e2]; rfl⟩) (by rw [pS_ov]; exact eM_ov (b ⟨m, e2⟩))
      | inr w2 =>
        rw [(a w2 e2).1]
        have h2 := (h1.put e2).le (Nat.le_add_right _ _)
        cases e3 : wp1 95 w2 with
        | inl m => exact wok_ov (hx ⟨m, by rw [bnd_i, e2, bnd_i, e3]; rfl⟩) (by rw [pS_ov]; exact emx h2.o e3)
        | inr w3 =>
          rw [emc e3]
          have h3 := (jput h2 e3).le (Nat.le_succ _)
          exact hs Q false (cN N n 2) (j + 1) w3 K q1 (by omega) h3 (by omega) (fun w4 e4 h4 => hok w4 (by rw [bnd_i, e2, bnd_i, e3, bnd_i, e4]) h4) (fun ⟨m, e4⟩ => hx ⟨m, by rw [bnd_i, e2, bnd_i, e3, bnd_i, e4]⟩)
  case inr.inr.inr.inr.inr.inr.inr.inr =>
    -- a function
    have e' : cN N n 0 = 8 := e
    rw [if_neg (by rw [e]; decide), if_neg (by rw [e]; decide), if_neg (by rw [e]; decide), if_neg (by rw [e]; decide), if_pos e] at hok hx
    unfold plM
    rw [if_neg (by rw [e']; decide), if_neg (by rw [e']; decide), if_neg (by rw [e']; decide), if_pos e']
    obtain ⟨q1, q2⟩ := nk_8 ni e'
    cases e1 : wp1 70 w with
    | inl m => exact wok_ov (hx ⟨m, by rw [e1]; rfl⟩) (by rw [pS_ov, pS_ov, pS_ov]; exact emx h.o e1)
    | inr w1 =>
      rw [emc e1]
      have h1 := jput h e1
      rw [e1] at hok hx
      refine hs Q false (cN N n 2) (j + 1) w1 ((6, n) :: (5, 69) :: K) q1 (by omega) h1 (by simp; omega) (fun w2 e2 h2 => ?_) (fun ⟨m, e2⟩ => hx ⟨m, by rw [bnd_i, e2]; rfl⟩)
      refine wok_pars hW hs h2 (by simp; omega) hV q2 hd (fun w3 e3 h3 => ?_) (fun ⟨m, e3⟩ => hx ⟨m, by rw [bnd_i, e2, bnd_i, e3]; rfl⟩)
      exact wok_sg h3 (by omega) (fun w4 e4 h4 => hok w4 (by rw [bnd_i, e2, bnd_i, e3, bnd_i, e4]) (h4.le (by omega))) (fun ⟨m, e4⟩ => hx ⟨m, by rw [bnd_i, e2, bnd_i, e3, bnd_i, e4]⟩)
  all_goals
    -- wrapping
    have e456 : cN N n 0 = 4 ∨ cN N n 0 = 5 ∨ cN N n 0 = 6 := by
      first
        | exact Or.inl e
        | exact Or.inr (Or.inl e)
        | exact Or.inr (Or.inr e)
    have e' : kN N n = 4 ∨ kN N n = 5 ∨ kN N n = 6 := e456
    have n1 : ¬ cN N n 0 = 1 ∧ ¬ cN N n 0 = 2 ∧ ¬ cN N n 0 = 3 ∧ ¬ cN N n 0 = 8 ∧ ¬ cN N n 0 = 7 := by
      rcases e456 with u | u | u <;> rw [u] <;> decide
    rw [if_neg n1.2.1, if_neg n1.2.2.1, if_pos e', wr_M e', ← wp1_l] at hok hx
    unfold plM
    rw [if_neg n1.1, if_neg n1.2.1, if_neg n1.2.2.1, if_neg n1.2.2.2.1, if_neg n1.2.2.2.2]
    cases e1 : wp1 (if cN N n 0 = 4 then 80 else if cN N n 0 = 5 then 82 else 75) w with
    | inl m => exact wok_ov (hx ⟨m, by rw [e1]; rfl⟩) (by rw [pS_ov]; exact emx h.o e1)
    | inr w1 =>
      rw [emc e1]
      have h1 := jput h e1
      rw [e1] at hok hx
      exact hs Q false (cN N n 2) (j + 1) w1 K (nk_w ni e456) (by omega) h1 (by omega) (fun w4 e4 h4 => hok w4 (by rw [bnd_i, e4]) h4) (fun ⟨m, e4⟩ => hx ⟨m, by rw [bnd_i, e4]⟩)
theorem tix_lt (T : List Int32) (x : Int32) (hT : T.length ≤ 1000) : (tix T x < 0) ↔ (tix T x = -1) := by
  unfold tix
  by_cases h : T.findIdx (fun y => decide (y = x)) < T.length
  · rw [if_pos h]
    have := nI_pos (n := T.findIdx (fun y => decide (y = x))) (by omega)
    refine ⟨fun q => absurd q this, fun q => ?_⟩
    rw [q] at this; exact absurd (by decide) this
  · rw [if_neg h]; decide
theorem told_len (m : Int32) : 1 ≤ (toldS m).length := by unfold toldS; simp
/-- the two tasks that may tell a node by its number -/
theorem w_told {n t : Int32} {un : Int32 → WS → Ex WS} {pl : WM → WM} (h : Jv j w) (hK : K.length ≤ 200) (hV : Vd N n) (ht : t = 0 ∨ t = 1) (he : doM N t n (ws w K) = if tix w.2 n < 0 then pl (ws w ((2, n) :: K)) else toM n (ws w K))
    (hu : ∀ (Q' : WM → Prop), (∀ w1, un n w = .inr w1 → Jv (j + 1) w1 → WOk N Q' (ws w1 ((2, n) :: K))) → ((∃ m, un n w = .inl m) → WB Q') → WOk N Q' (pl (ws w ((2, n) :: K))))
    (hok : ∀ w1, (bnd (wTold n w) fun q => if q.1 = 0 then bnd (un n q.2) fun w1 => .inr (wta w1 n) else .inr q.2) = .inr w1 → Jv j w1 → WOk N Q (ws w1 K)) (hx : (∃ m, (bnd (wTold n w) fun q => if q.1 = 0 then bnd (un n q.2) fun w1 => .inr (wta w1 n) else .inr q.2) = .inl m) → WB Q) : WOk N Q (ws w ((t, n) :: K)) := by
  have hT : w.2.length ≤ 1000 := by have := h.o; have := h.e; omega
  refine wok_go (h.gw (by simp; omega)) (Or.inr (Or.inr ⟨by rcases ht with r | r <;> rw [r] <;> decide, hV⟩)) ?_
  rw [he]
  by_cases u : tix w.2 n = -1
  · have e1 : wTold n w = .inr (0, w) := if_pos u
    rw [e1, bnd_i, if_pos rfl] at hok hx
    rw [if_pos ((tix_lt w.2 n hT).mpr u)]
    refine hu Q (fun w1 e2 h2 => ?_) (fun ⟨m, e⟩ => hx ⟨m, by rw [e]; rfl⟩)
    exact wok_en h2 hK (fun h3 => hok _ (by rw [e2]; rfl) h3)
  · have e1 : wTold n w = bnd (wpl (toldS (tix w.2 n)) w) fun w1 => .inr (1, w1) := if_neg u
    rw [if_neg (fun q => u ((tix_lt w.2 n hT).mp q))]
    show WOk N Q (eL (toldS (tix w.2 n)) (ws w K))
    refine wok_put h (fun w1 e2 => hok w1 ?_ ((h.put e2).le (by omega))) (fun ⟨m, e⟩ => hx ⟨m, by rw [e1, e]; rfl⟩)
    rw [e1, e2]
    rfl
theorem pf_ty {n : Int32} (h : pfP N n) : tyP N n ∧ ¬ kN N n = 0 := by
  rcases k3c h.1 h.2 with e | e | e
  · exact k13 (Or.inl e)
  · exact k13 (Or.inr (Or.inl e))
  · exact k13 (Or.inr (Or.inr e))
theorem sim_w (hW : WN N) (d : Nat) : SimW N (wW N d) d := by
  have hN : N.length ≤ 1000 := by have := hW.1; omega
  induction d with
  | zero =>
    intro Q b n j w K hn hd h hK hok hx
    exfalso
    have hV : Vd N n := by
      cases b
      · exact ty_vd hN hn
      · exact pf_vd hN hn
    have := dp_vd hW hV
    omega
  | succ d ih =>
    intro Q b n j w K hn hd h hK hok hx
    cases b with
    | false =>
      have hn : tyP N n := hn
      have hV := ty_vd hN hn
      have ni := hW.ni hV
      have eW : wW N (d + 1) false n w = wTyB N (wUnt N (wW N d)) n w := rfl
      rw [eW] at hok hx
      unfold wTyB at hok hx
      show WOk N Q (ws w ((0, n) :: K))
      have k9 : ¬ cN N n 0 = 9 := fun q => hn.2 (by show (8 : Int32) < cN N n 0; rw [q]; decide)
      by_cases w0 : kN N n = 0
      · rw [if_pos w0] at hok hx
        have hb := bl_M (nk_0 ni w0)
        rw [hb] at hok hx
        refine wok_lt (l := [ltM (cN N n 1)]) h (by omega) (Or.inr (Or.inr ⟨by decide, hV⟩)) ?_ (fun w1 e => hok w1 e ((h.put e).le (by omega))) hx
        unfold doM
        rw [if_neg (by decide), if_neg (by decide), if_neg (by decide), if_neg (by decide), if_neg (by decide), if_neg (by decide), if_pos w0]
        rfl
      · rw [if_neg w0] at hok hx
        refine w_told (un := wUnt N (wW N d)) (pl := plM N n) h (by omega) hV (Or.inl rfl) ?_ (fun Q' a b => ?_) hok hx
        · unfold doM
          rw [if_neg (by decide), if_neg (by decide), if_neg (by decide), if_neg (by decide), if_neg (by decide), if_neg (by decide), if_neg (show ¬ cN N n 0 = 0 from w0), if_neg k9]
          rfl
        · exact w_unt hW ih h (by simp; omega) hV hn w0 hd a b
    | true =>
      have hn : pfP N n := hn
      have hV := pf_vd hN hn
      have ni := hW.ni hV
      have df := ni.df
      have eW : wW N (d + 1) true n w = wPrB (wPreN N (wW N d)) n w := rfl
      rw [eW] at hok hx
      unfold wPrB at hok hx
      show WOk N Q (ws w ((1, n) :: K))
      refine w_told (un := wPreN N (wW N d)) (pl := fun S => if cN N n 0 = 1 then eL (idM (cN N n 1)) S else pS 1 (cN N n 2) (pS (if cN N n 0 = 2 then 3 else 4) n S)) h (by omega) hV (Or.inr rfl) ?_ (fun Q' a b => ?_) hok hx
      · unfold doM
        rw [if_neg (by decide), if_neg (by decide), if_neg (by decide), if_neg (by decide), if_neg (by decide), if_pos rfl]
        rfl
      · show WOk N Q' (if cN N n 0 = 1 then _ else _)
        unfold wPreN at a b
        rcases k3c hn.1 hn.2 with e | e | e
        · have e' : cN N n 0 = 1 := e
          rw [if_pos e', id_M (nk_1 ni e')]
          rw [if_neg (by rw [e]; decide), if_neg (by rw [e]; decide)] at a b
          exact wok_put h (fun w1 e1 => a w1 e1 ((h.put e1).le (by have := idL_len (cN N n 1); omega))) b
        · have e' : cN N n 0 = 2 := e
          obtain ⟨q1, q2⟩ := nk_2 ni e'
          rw [if_neg (by rw [e']; decide), if_pos e']
          rw [if_pos e] at a b
          refine ih Q' true (cN N n 2) j w ((3, n) :: (2, n) :: K) q2 (by omega) h (by simp; omega) (fun w2 e2 h2 => ?_) (fun ⟨m, e2⟩ => b ⟨m, by rw [e2]; rfl⟩)
          refine wok_lt (l := idL (cN N n 1)) h2 (by simp; omega) (Or.inr (Or.inr ⟨by decide, hV⟩)) ?_ (fun w3 e3 => a w3 (by rw [e2, bnd_i, e3]) ((h2.put e3).le (by have := idL_len (cN N n 1); omega))) (fun ⟨m, e3⟩ => b ⟨m, by rw [e2, bnd_i, e3]⟩)
          unfold doM
          rw [if_neg (by decide), if_neg (by decide), if_pos rfl, id_M q1]
        · have e' : cN N n 0 = 3 := e
          have q := nk_3 ni e'
          have qp : pfP N (cN N n 2) := by
            refine ⟨?_, ?_⟩ <;> rcases q with q | q <;> rw [q] <;> decide
          rw [if_neg (by rw [e']; decide), if_neg (by rw [e']; decide)]
          rw [if_neg (by rw [e]; decide), if_pos e] at a b
          refine ih Q' true (cN N n 2) j w ((4, n) :: (2, n) :: K) qp (by omega) h (by simp; omega) (fun w2 e2 h2 => ?_) (fun ⟨m, e2⟩ => b ⟨m, by rw [e2]; rfl⟩)
          exact wok_args hW ih h2 (by simp; omega) hV e hd (fun w3 e3 h3 => a w3 (by rw [e2, bnd_i, e3]) (h3.le (by omega))) (fun ⟨m, e3⟩ => b ⟨m, by rw [e2, bnd_i, e3]⟩)
/-- the start of writing an entity -/
def stE (N : List (List Int32)) (e : Int32) : WM := plM N (cN N e 2) (pP1 (cN N e 3) (pS 6 e (eM 90 (eM 95 ⟨[], false, [], []⟩))))
theorem sim_wr (hW : WN N) {e : Int32} (hV : Vd N e) (h10 : kN N e = 10) : ∃ r, WL N (stE N e) r ∧ (∀ w1, wEnt N e = .inr w1 → r = ws w1 [] ∧ w1.1.length ≤ 120 ∧ w1.2.length + 2 ≤ w1.1.length) ∧ ((∃ m, wEnt N e = .inl m) → r.ov = true) := by
  have hN : N.length ≤ 1000 := by have := hW.1; omega
  have ni := hW.ni hV
  obtain ⟨p1, p2, p3⟩ := nk_10 ni h10
  have df := ni.df; have dg := ni.dg
  have d16 := (dp_vo hW (Or.inr hV)).2
  have e1 : wp1 95 ([], []) = .inr ([95], []) := rfl
  have e2 : wp1 90 ([95], []) = .inr ([95, 90], []) := rfl
  have h2 : Jv 2 (([95, 90], []) : WS) := ⟨by decide, by decide⟩
  have eS : stE N e = plM N (cN N e 2) (pP1 (cN N e 3) (ws ([95, 90], []) [(6, e)])) := rfl
  have eE : wEnt N e = bnd (wUnt N (wW N 15) (cN N e 2) ([95, 90], [])) fun w3 => bnd (if cN N e 3 = -1 then .inr w3 else wW N 16 false (cN N e 3) w3) fun w4 => wPars N (wW N 16) e w4 := rfl
  have : WOk N (fun r => (∀ w1, wEnt N e = .inr w1 → r = ws w1 [] ∧ w1.1.length ≤ 120 ∧ w1.2.length + 2 ≤ w1.1.length) ∧ ((∃ m, wEnt N e = .inl m) → r.ov = true)) (stE N e) := by
    rw [eS]
    have bad : (∃ m, wEnt N e = .inl m) → WB (fun r => (∀ w1, wEnt N e = .inr w1 → r = ws w1 [] ∧ w1.1.length ≤ 120 ∧ w1.2.length + 2 ≤ w1.1.length) ∧ ((∃ m, wEnt N e = .inl m) → r.ov = true)) := fun ⟨m, hm⟩ r hr => ⟨fun w1 q => (by rw [hm] at q; cases q), fun _ => hr⟩
    have vf := pf_vd hN p1
    rw [pP1_ws]
    have kl : (pP1 (cN N e 3) (ws ([95, 90], []) [(6, e)])).K.length ≤ 2 := pP1_len
    refine w_unt (d := 15) hW (sim_w hW 15) h2 (by omega) vf (pf_ty p1).1 (pf_ty p1).2 (by omega) (fun w3 a3 h3 => ?_) (fun ⟨m, a3⟩ => bad ⟨m, by rw [eE, a3]; rfl⟩)
    rw [pP1_any (w' := w3), ← pP1_ws]
    have pars : ∀ w4, (if cN N e 3 = -1 then .inr w3 else wW N 16 false (cN N e 3) w3) = .inr w4 → Jv 2 w4 → WOk N (fun r => (∀ w1, wEnt N e = .inr w1 → r = ws w1 [] ∧ w1.1.length ≤ 120 ∧ w1.2.length + 2 ≤ w1.1.length) ∧ ((∃ m, wEnt N e = .inl m) → r.ov = true)) (ws w4 [(6, e)]) := by
      intro w4 a4 h4
      refine wok_pars (d := 16) hW (sim_w hW 16) h4 (by decide) hV p3 (by omega) (fun w5 a5 h5 => ?_) (fun ⟨m, a5⟩ => bad ⟨m, by rw [eE, a3, bnd_i, a4, bnd_i, a5]⟩)
      have eq : wEnt N e = .inr w5 := by rw [eE, a3, bnd_i, a4, bnd_i, a5]
      exact ⟨_, .fin (Or.inr rfl), fun w1 q => (by rw [eq] at q; cases q; exact ⟨rfl, h5.o, h5.e⟩), fun ⟨m, q⟩ => (by rw [eq] at q; cases q)⟩
    by_cases u : cN N e 3 = -1
    · have : pP1 (cN N e 3) (ws w3 [(6, e)]) = ws w3 [(6, e)] := by unfold pP1; rw [if_neg (by rw [u]; decide)]
      rw [this]
      exact pars w3 (if_pos u) (h3.le (by omega))
    · have tg : tyP N (cN N e 3) := by
        by_cases v : kN N (cN N e 2) = 3
        · rw [if_pos v] at p2; exact p2
        · rw [if_neg v] at p2; exact absurd p2 u
      have vg := ty_vd hN tg
      have : pP1 (cN N e 3) (ws w3 [(6, e)]) = ws w3 ((0, cN N e 3) :: [(6, e)]) := by unfold pP1; rw [if_pos (vg.ne hN).1]; rfl
      rw [this]
      exact sim_w hW 16 _ false (cN N e 3) 2 w3 [(6, e)] tg (by omega) (h3.le (by omega)) (show 1 + 6 * 16 ≤ 200 by decide) (fun w4 a4 h4 => pars w4 (by rw [if_neg u]; exact a4) h4) (fun ⟨m, a4⟩ => bad ⟨m, by rw [eE, a3, bnd_i, if_neg u, a4]; rfl⟩)
  obtain ⟨r, a, b⟩ := this
  exact ⟨r, a, b⟩
end
