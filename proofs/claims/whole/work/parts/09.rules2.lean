/-! rules of the heap -/
def ClF (ci : Nat) (C : String) (T : u_T) (N : Nat) (Y : Nat → FieldType) : Prop := vCl[ci]? = some (C, T, N) ∧ (∀ w ∈ u_ws C T N, InT w) ∧ (∀ a, a < N → ∀ b, b < N → a ≠ b → (T a).2.1 ≠ (T b).2.1) ∧ ∀ k, k < N → parseFieldDescriptor (T k).2.2.1 = some (Y k)
theorem cl0 : ClF 0 "NameWriter$Nodes" nT0 3 nY0 := ⟨rfl, fun w hw => ⟨nU0 w hw, (by decide +kernel : ∀ w ∈ u_ws "NameWriter$Nodes" nT0 3, okW w = true) w hw⟩, nN0, nP0⟩
theorem cl1 : ClF 1 "NameWriter$Reader" nT1 4 nY1 := ⟨rfl, fun w hw => ⟨nU1 w hw, (by decide +kernel : ∀ w ∈ u_ws "NameWriter$Reader" nT1 4, okW w = true) w hw⟩, nN1, nP1⟩
theorem cl2 : ClF 2 "NameWriter$Row" nT2 2 nY2 := ⟨rfl, fun w hw => ⟨nU2 w hw, (by decide +kernel : ∀ w ∈ u_ws "NameWriter$Row" nT2 2, okW w = true) w hw⟩, nN2, nP2⟩
theorem cl3 : ClF 3 "NameWriter$Writer" nT3 3 nY3 := ⟨rfl, fun w hw => ⟨nU3 w hw, (by decide +kernel : ∀ w ∈ u_ws "NameWriter$Writer" nT3 3, okW w = true) w hw⟩, nN3, nP3⟩
theorem cl4 : ClF 4 "NameWriter" nT4 5 nY4 := ⟨rfl, fun w hw => ⟨nU4 w hw, (by decide +kernel : ∀ w ∈ u_ws "NameWriter" nT4 5, okW w = true) w hw⟩, nN4, nP4⟩
theorem cl5 : ClF 5 "NameWriterModel" nT5 26 nY5 := ⟨rfl, fun w hw => ⟨nU5 w hw, (by decide +kernel : ∀ w ∈ u_ws "NameWriterModel" nT5 26, okW w = true) w hw⟩, nN5, nP5⟩
theorem hSz_set {h : mH} {o : Nat} {e0 e : mE} (ho : h[o]? = some e0) (he : eSz e = eSz e0) : hSz (h.set o e) = hSz h := by
  unfold hSz
  induction h generalizing o with
  | nil => simp at ho
  | cons a t ih =>
    cases o with
    | zero =>
      simp only [List.getElem?_cons_zero, Option.some.injEq] at ho
      subst ho
      simp [he]
    | succ o =>
      rw [List.getElem?_cons_succ] at ho
      rw [List.set_cons_succ, List.map_cons, List.map_cons, List.sum_cons, List.sum_cons, ih ho]
theorem hSz_app (h : mH) (e : mE) : hSz (h ++ [e]) = hSz h + eSz e := by unfold hSz; simp
def fldOk : FieldType → Value → Bool
  | .int, .int _ => true
  | .boolean, .int x => x == 0 || x == 1
  | .object _, .ref _ => true
  | .array _, .ref _ => true
  | _, _ => false
theorem fldOk_spec {ty : FieldType} {v : Value} (h : fldOk ty v = true) (b B : Nat) (sd : Nat → Nat) : narrow ty (cz b B sd v) = cz b B sd v ∧ fits ty (cz b B sd v) = true := by
  match ty, v, h with
  | .int, .int x, _ => exact ⟨rfl, rfl⟩
  | .boolean, .int x, h =>
    simp only [fldOk, Bool.or_eq_true, beq_iff_eq] at h
    rcases h with h | h <;> subst h
    · exact (by decide +kernel : narrow .boolean (.int 0) = .int 0 ∧ fits .boolean (.int 0) = true)
    · exact (by decide +kernel : narrow .boolean (.int 1) = .int 1 ∧ fits .boolean (.int 1) = true)
  | .object _, .ref _, _ => exact ⟨rfl, rfl⟩
  | .array _, .ref _, _ => exact ⟨rfl, rfl⟩
section EV2
variable {M : Mt} {d pc : Nat} {lv : List (Nat × Value)} {st : List Value} {h h' : mH} {r : mR}
theorem ev_getf {o ci fi ix N : Nat} {C : String} {T : u_T} {Y : Nat → FieldType} {fs : List Value} {v : Value} (hd : decode M.2.1 pc = .ok (.getfield ix, 3)) (hc : ClF ci C T N Y) (hl : InT (.fieldLink M.1.cls ix (T fi).1 (T fi).2.1 (T fi).2.2.1)) (hn : fi < N) (ho : h[o]? = some (.inl (ci, fs))) (hv : fs[fi]? = some v) (k : Ev M d (pc + 3) lv (v :: st) h r h') : Ev M d pc lv (.ref o :: st) h r h' := by
  refine ev_go (fun {p l e R s m args below meth c H locs cells slots Q D sd b B ls} hC hlv hw k => ?_) k
  obtain ⟨r0, h1, h2, cell, q1, q2, q3, q4⟩ := hw.1 o _ ho
  have hr : r0 = (C, T, N) := Option.some.inj (h1.symm.trans hc.1)
  subst hr
  obtain ⟨hS, hfc, kC, hkC, hkind⟩ := hC.K.1 ci _ hc.1
  obtain ⟨cf, kf, fi', f, hi, hsl⟩ := hS fi hn
  refine W.getf hC.ex hC.co hC.own (hC.w hl _) hi (u_facts (args := args) hfc hkC (u_lays (ws := u_ws C T N) (fun w hw => hC.w (hc.2.1 w hw) _) (fun _ h => h) hn) hi).1 q1 (by rw [q3]; exact fun h => by cases h) (v := cz b B sd v) ?_ rfl rfl hd k
  rw [hsl, q4 fi hn]
  unfold vp_V
  rw [List.getD_eq_getElem?_getD, List.getElem?_map, hv]
  rfl
theorem ev_putf {o ci fi ix N : Nat} {C : String} {T : u_T} {Y : Nat → FieldType} {fs : List Value} {v : Value} (hd : decode M.2.1 pc = .ok (.putfield ix, 3)) (hc : ClF ci C T N Y) (hl : InT (.fieldLink M.1.cls ix (T fi).1 (T fi).2.1 (T fi).2.2.1)) (hn : fi < N) (hf : (T fi).2.2.2 = false ∨ ((T fi).2.2.2 = true ∧ M.1.name = "<init>" ∧ (T fi).1 = M.1.cls)) (hok : fldOk (Y fi) v = true) (ho : h[o]? = some (.inl (ci, fs)))
    (k : Ev M d (pc + 3) lv st (h.set o (.inl (ci, fs.set fi v))) r h') : Ev M d pc lv (v :: .ref o :: st) h r h' := by
  have e0 : eSz (.inl (ci, fs.set fi v)) = eSz (.inl (ci, fs)) := by simp [eSz]
  refine ⟨by have := k.1; rwa [List.length_set] at this, by have := k.2.1; rwa [hSz_set ho e0] at this, fun p l e R s m args below meth c H locs cells slots D sd b B ls k0 ns hK => ?_⟩
  obtain ⟨hC, hlv, hw, hL, hz, z1, z2, z3, z4⟩ := hK
  obtain ⟨r0, h1, h2, cell, q1, q2, q3, q4⟩ := hw.1 o _ ho
  have hr : r0 = (C, T, N) := Option.some.inj (h1.symm.trans hc.1)
  subst hr
  have hts : ∀ w ∈ u_ws C T N, w.before args s = true := fun w hw => hC.w (hc.2.1 w hw) _
  have hap := va_apart (own := M.1.cls) hts (fun _ h => h) Y hc.2.2.2 hc.2.2.1 hC.K hc.1
  obtain ⟨hS, hfc, kC, hkC, hkind⟩ := hC.K.1 ci _ hc.1
  obtain ⟨cf, kf, fi', f, hi, hsl⟩ := hS fi hn
  have hlay := hts _ (u_in_lay hn)
  unfold u_lay at hlay
  have hst := (u_facts hfc hkC (u_lays hts (fun _ h => h) hn) hi).1
  obtain ⟨hnar, hfit⟩ := fldOk_spec hok b B sd
  have hlen : fi < (fs.map (cz b B sd)).length := by
    rw [List.length_map]
    have h2' : fs.length = N := h2
    omega
  have fin : ∀ H' : Heap, H'[adr b B o]? = some (cell.setSlot f.slot (cz b B sd v)) → H'.size = H.size → (∀ q, q ≠ adr b B o → H'[q]? = H[q]?) → W p l e R s m args below meth c H' (locs ++ [⟨adr b B o, f.slot⟩]) cells slots (SQ below s D sd b B r h' k0 ns) (F0 m (pc + 3) ls (st.map (cz b B sd))) := by
    intro H' e1 e2 e3
    rw [hsl] at e1
    refine k.2.2 p l e R s m args below meth c H' _ cells slots D sd b B ls k0 ns ⟨hC, hlv, hw.set ho rfl ⟨_, hc.1, by show (fs.set fi v).length = _; rw [List.length_set]; exact h2, t_OB.to (V := updV (vp_V (fs.map (cz b B sd))) fi (cz b B sd v)) ⟨_, e1, q2, q3, t_set q4 hap hn _⟩ (fun j _ => by rw [vp_updV_set hlen, List.map_set])⟩ e2 e3, ?_, by rw [e2]; exact hz, by rw [List.length_set]; exact z1, by rw [hSz_set ho e0]; exact z2, z3, z4⟩
    intro q hq
    rcases List.mem_append.mp hq with hq | hq
    · exact hL q hq
    · rw [List.mem_singleton.mp hq]
      exact hw.fr ho rfl
  rcases hf with hf | ⟨hf, hin, hdecl⟩
  · rw [if_neg (by rw [hf]; decide)] at hlay
    have h6 := u_store hfc hkC hkind hlay hi (hc.2.2.2 fi hn) hnar hfit
    exact W.putK hC.ex hC.co (f := f) ⟨hC.own, hC.w hl _, ⟨_, _, _, hi⟩, hst⟩ (by rw [q2]; exact h6) q1 q3 (by rw [hsl]; exact k2_hasslot (q4 fi hn)) rfl rfl hd fin
  · rw [if_pos hf] at hlay
    have hcf : m.cls = cf := by
      obtain ⟨_, _, c', _, _, _, -, -, hf', -, -, -, hown2, -⟩ := Cond.laysFinal_spec hlay
      have e1 : c' = cf := by have := hi.symm.trans hf'; simp at this; exact this.1.symm
      rw [hdecl] at hown2
      rw [← e1]; exact Option.some.inj (hC.own.symm.trans hown2)
    have h6 := u_fits hfc hkC hkind (Or.inr hlay) hi (hc.2.2.2 fi hn) hnar hfit
    exact W.putFinK hC.ex hC.co hC.own (hC.w hl _) hi hst hcf (by rw [hC.nm]; exact hin) (by rw [q2]; exact h6) q1 q3 (by rw [hsl]; exact k2_hasslot (q4 fi hn)) rfl rfl hd fin
theorem ev_iald {o n : Nat} {f : Nat → Int32} {i : Int32} (j : Nat) (hd : decode M.2.1 pc = .ok (.iaload, 1)) (ho : h[o]? = some (mA n f)) (hi : i = nI j) (hj : j < n) (hn : n < 2 ^ 31) (k : Ev M d (pc + 1) lv (.int (f j) :: st) h r h') : Ev M d pc lv (.int i :: .ref o :: st) h r h' := by
  refine ev_go (fun {p l e R s m args below meth c H locs cells slots Q D sd b B ls} hC hlv hw k => ?_) k
  subst hi
  obtain ⟨cell, q1, q2, q3, q4, q5⟩ := mA_spec (hw.1 o _ ho)
  exact W.iald hC.ex hC.co q1 q2 (by rw [q3]; exact fun h => by cases h) (by rw [q4]; exact nI_in hj hn) (by rw [nI_clamp (by omega)]; exact q5 j hj) rfl rfl hd k
theorem ev_xald {o n : Nat} {f : Nat → Int32} {i : Int32} (j : Nat) (hd : decode M.2.1 pc = .ok (.iaload, 1)) (ho : h[o]? = some (mX n f)) (hi : i = nI j) (hj : j < n) (hn : n < 2 ^ 31) (k : Ev M d (pc + 1) lv (.int (f j) :: st) h r h') : Ev M d pc lv (.int i :: .ref o :: st) h r h' := by
  refine ev_go (fun {p l e R s m args below meth c H locs cells slots Q D sd b B ls} hC hlv hw k => ?_) k
  subst hi
  obtain ⟨cell, q1, q2, q3, q4, q5⟩ := hw.1 o _ ho
  exact W.iald hC.ex hC.co q1 q2 q3 (by rw [q4]; exact nI_in hj hn) (by rw [nI_clamp (by omega)]; exact q5 j hj) rfl rfl hd k
theorem ev_xlen {o n : Nat} {f : Nat → Int32} (hd : decode M.2.1 pc = .ok (.arraylength, 1)) (ho : h[o]? = some (mX n f)) (k : Ev M d (pc + 1) lv (.int (nI n) :: st) h r h') : Ev M d pc lv (.ref o :: st) h r h' := by
  refine ev_go (fun {p l e R s m args below meth c H locs cells slots Q D sd b B ls} hC hlv hw k => ?_) k
  obtain ⟨cell, q1, q2, q3, q4, q5⟩ := hw.1 o _ ho
  exact W.alen hC.ex hC.co q1 q2 (n := nI n) (by rw [q4]; rfl) rfl rfl hd k
theorem ev_lald {o n : Nat} {f : Nat → Int64} {i : Int32} (j : Nat) (hd : decode M.2.1 pc = .ok (.laload, 1)) (ho : h[o]? = some (mL n f)) (hi : i = nI j) (hj : j < n) (hn : n < 2 ^ 31) (k : Ev M d (pc + 1) lv (.long (f j) :: st) h r h') : Ev M d pc lv (.int i :: .ref o :: st) h r h' := by
  refine ev_go (fun {p l e R s m args below meth c H locs cells slots Q D sd b B ls} hC hlv hw k => ?_) k
  subst hi
  obtain ⟨cell, q1, q2, q3, q4, q5⟩ := mL_spec (hw.1 o _ ho)
  exact W.lald hC.ex hC.co q1 q2 (by rw [q3]; exact fun h => by cases h) (by rw [q4]; exact nI_in hj hn) (by rw [nI_clamp (by omega)]; exact q5 j hj) rfl rfl hd k
theorem ev_iast {o n : Nat} {f : Nat → Int32} {i x : Int32} (j : Nat) (hd : decode M.2.1 pc = .ok (.iastore, 1)) (ho : h[o]? = some (mA n f)) (hi : i = nI j) (hj : j < n) (hn : n < 2 ^ 31) (k : Ev M d (pc + 1) lv st (h.set o (mA n (upd f j x))) r h') : Ev M d pc lv (.int x :: .int i :: .ref o :: st) h r h' := by
  subst hi
  have e0 : eSz (mA n (upd f j x)) = eSz (mA n f) := rfl
  refine ⟨by have := k.1; rwa [List.length_set] at this, by have := k.2.1; rwa [hSz_set ho e0] at this, fun p l e R s m args below meth c H locs cells slots D sd b B ls k0 ns hK => ?_⟩
  obtain ⟨hC, hlv, hw, hL, hz, z1, z2, z3, z4⟩ := hK
  obtain ⟨cA, q1, q2⟩ := hw.1 o _ ho
  refine W.iast hC.ex hC.co q1 (q2 n _) (fun h => by cases h) (by rw [arrV_size]; exact nI_in hj hn) rfl rfl hd (fun H' e1 e2 e3 => ?_)
  rw [nI_clamp (show j < 2 ^ 31 by omega)] at e1 ⊢
  rw [arrV_store] at e1
  have e9 : (updV (fun j => Value.int (f j)) j (.int x)) = fun t => .int (upd f j x t) := by
    funext t
    by_cases ht : t = j <;> simp [updV, upd, ht]
  rw [e9] at e1
  refine k.2.2 p l e R s m args below meth c H' _ cells slots D sd b B ls k0 ns ⟨hC, hlv, hw.set ho rfl ⟨cA, e1, q2⟩ e2 e3, ?_, by rw [e2]; exact hz, by rw [List.length_set]; exact z1, by rw [hSz_set ho e0]; exact z2, z3, z4⟩
  · intro q hq
    rcases List.mem_append.mp hq with hq | hq
    · exact hL q hq
    · rw [List.mem_singleton.mp hq]
      exact hw.fr ho rfl
theorem ev_last {o n : Nat} {f : Nat → Int64} {i : Int32} {x : Int64} (j : Nat) (hd : decode M.2.1 pc = .ok (.lastore, 1)) (ho : h[o]? = some (mL n f)) (hi : i = nI j) (hj : j < n) (hn : n < 2 ^ 31) (k : Ev M d (pc + 1) lv st (h.set o (mL n (vp_updL f j x))) r h') : Ev M d pc lv (.long x :: .int i :: .ref o :: st) h r h' := by
  subst hi
  have e0 : eSz (mL n (vp_updL f j x)) = eSz (mL n f) := rfl
  refine ⟨by have := k.1; rwa [List.length_set] at this, by have := k.2.1; rwa [hSz_set ho e0] at this, fun p l e R s m args below meth c H locs cells slots D sd b B ls k0 ns hK => ?_⟩
  obtain ⟨hC, hlv, hw, hL, hz, z1, z2, z3, z4⟩ := hK
  obtain ⟨cA, q1, q2⟩ := hw.1 o _ ho
  refine W.last hC.ex hC.co q1 (q2 n _) (fun h => by cases h) (by rw [arrV_size]; exact nI_in hj hn) rfl rfl hd (fun H' e1 e2 e3 => ?_)
  rw [nI_clamp (show j < 2 ^ 31 by omega)] at e1 ⊢
  rw [arrV_store] at e1
  have e9 : (updV (fun j => Value.long (f j)) j (.long x)) = fun t => .long (vp_updL f j x t) := by
    funext t
    by_cases ht : t = j <;> simp [updV, vp_updL, ht]
  rw [e9] at e1
  refine k.2.2 p l e R s m args below meth c H' _ cells slots D sd b B ls k0 ns ⟨hC, hlv, hw.set ho rfl ⟨cA, e1, q2⟩ e2 e3, ?_, by rw [e2]; exact hz, by rw [List.length_set]; exact z1, by rw [hSz_set ho e0]; exact z2, z3, z4⟩
  · intro q hq
    rcases List.mem_append.mp hq with hq | hq
    · exact hL q hq
    · rw [List.mem_singleton.mp hq]
      exact hw.fr ho rfl
/-- the ends -/
theorem ev_iret {v : Int32} {ty : FieldType} (hd : decode M.2.1 pc = .ok (.ireturn, 1)) (hr : M.2.2.2.1 = some ty) (hn : narrow ty (.int v) = .int v) : Ev M d pc lv [.int v] h (.inl (some (.int v))) h := by
  refine ⟨Nat.le_refl _, Nat.le_refl _, fun p l e R s m args below meth c H locs cells slots D sd b B ls k0 ns hK => ?_⟩
  obtain ⟨hC, hlv, hw, hL, hz, z1, z2, z3, z4⟩ := hK
  have e1 : cells = k0 := by omega
  have e2 : slots = ns := by omega
  subst e1; subst e2
  intro T hT X
  obtain ⟨t, a1, o, b1, b2, ⟨b3, b4⟩, L, b5, b6⟩ := W.zret (Qc := fun _ _ o t => o = .returned (some (.int v)) ∧ t.heap = H) (free := fun q => B ≤ q) (ls := ls) hC.ex hC.co (hC.ret.trans hr) hn (fun t ht _ => ⟨rfl, ht⟩) hL hd hC.lo T hT X
  subst b3
  exact ⟨t, a1, L, b1, b2, b5.2.1, b5.2.2, b6, by rw [b4]; exact hw⟩
theorem ev_vret (hd : decode M.2.1 pc = .ok (.return_, 1)) (hr : M.2.2.2.1 = none) : Ev M d pc lv [] h (.inl none) h := by
  refine ⟨Nat.le_refl _, Nat.le_refl _, fun p l e R s m args below meth c H locs cells slots D sd b B ls k0 ns hK => ?_⟩
  obtain ⟨hC, hlv, hw, hL, hz, z1, z2, z3, z4⟩ := hK
  have e1 : cells = k0 := by omega
  have e2 : slots = ns := by omega
  subst e1; subst e2
  intro T hT X
  obtain ⟨t, a1, o, b1, b2, ⟨b3, b4⟩, L, b5, b6⟩ := W.vret (Qc := fun _ _ o t => o = .returned none ∧ t.heap = H) (free := fun q => B ≤ q) (ls := ls) hC.ex hC.co (hC.ret.trans hr) (fun t ht _ => ⟨rfl, ht⟩) hL hd hC.lo T hT X
  subst b3
  exact ⟨t, a1, L, b1, b2, b5.2.1, b5.2.2, b6, by rw [b4]; exact hw⟩
end EV2
