/-! calls, and what is made and thrown -/
theorem cz_args (b B : Nat) (sd : Nat → Nat) : ∀ (vs : List Value) (i : Nat), czL b B sd (lv_args i vs) = lv_args i (vs.map (cz b B sd))
  | [], _ => rfl
  | v :: vs, i => by
    simp only [lv_args, czL, List.map_cons, cz_cat]
    exact congrArg _ (cz_args b B sd vs _)
theorem sl_len (vs : List Value) : (lg_sl vs).length = (vs.map fun v => v.category).sum := by
  induction vs with
  | nil => rfl
  | cons v t ih =>
    have e : (lg_sl (v :: t)).length = (if v.category = 2 then [Slot.val v, .second] else [Slot.val v]).length + (lg_sl t).length := by simp [lg_sl]
    rw [e, ih, List.map_cons, List.sum_cons]
    rcases lv_cat v with q | q <;> simp [q]
/-- what lies outside is as it was -/
theorem st_keep {p : Program} {l : Launch} {e : Env} {R : Room} {s : State} {m : MethodId} {args : Array Value} {below : List Frame} {meth : Method} {c : Code} {T : State} {locs : List Loc} {cells slots B : Nat} (X : Stand p l e R s m args below meth c T locs cells slots) (hL : ∀ q ∈ locs, B ≤ q.base) : s.heap.size ≤ T.heap.size ∧ ∀ q : Nat, q < s.heap.size → ¬ B ≤ q → T.heap[q]? = s.heap[q]? := by
  have h := vx_frame (s := s) (U := T) (locs := locs) (k := cells) (n := slots) X.same
  exact ⟨h.1, fun q h1 h2 => h.2 q h1 (fun z hz e9 => h2 (by rw [← e9]; exact hL z hz))⟩
/-- the machine's facts, at a call -/
theorem Gx.call {s s' : State} {D : va_G} {sd : Nat → Nat} {B : Nat} (hG : Gx s D sd B) (hW : s.WarmedH s'.vm) (hz : s.heap.size ≤ s'.heap.size) (hq : ∀ q : Nat, q < s.heap.size → ¬ B ≤ q → s'.heap[q]? = s.heap[q]?) : Gx s' D sd B := by
  obtain ⟨h1, h2, h3, h4, h5, h6, h7, h8, h9, h10⟩ := hG
  exact ⟨fun w hw ho a => okV_tr ho hW (h1 w hw ho #[]), va_K.moved hW.alike h2, Nat.le_trans h3 hz, vx_Zq.moved hW.alike (h4.kept hq), vx_Zq.moved hW.alike (h5.kept hq), fun q hq => vk_R.warm hW (h6 q hq), vk_S.moved hW.alike (h7.kept hq), fun q hq => va_Nc.moved hW.alike (h8 q hq), va_Z.moved hW.alike (h9.kept hq), h10.elim (fun z => Or.inl (va_Z.moved hW.alike (z.kept hq))) (fun z => Or.inr (va_Z.moved hW.alike (z.kept hq)))⟩
/-- a method that may be called: its code, its name -/
def Cal (N : Mt) (np : Nat) : Prop := (InT (.code N.1 N.2.1 N.2.2.1 N.2.2.2.1) ∧ N.2.2.2.2 = [] ∨ InT (.codeWith N.1 N.2.1 N.2.2.1 N.2.2.2.1 N.2.2.2.2)) ∧ plainName N.1.cls = true ∧ (N.1.cls ≠ "java/lang/invoke/MethodHandle" ∧ N.1.cls ≠ "java/lang/invoke/VarHandle") ∧ (parseMethodDescriptor N.1.desc).map (fun q => q.parameters.length) = some np ∧ N.2.2.1 ≤ 40
section CALL
variable {p : Program} {l : Launch} {e : Env} {R : Room} {s : State} {m : MethodId} {args : Array Value} {below : List Frame} {meth : Method} {c : Code} {T : State} {locs : List Loc} {cells slots : Nat} {M N : Mt} {d np : Nat} {D : va_G} {sd : Nat → Nat} {b B : Nat} {h h1 : mH} {r : mR}
theorem Cal.spec (hN : Cal N np) (hw : ∀ w, InT w → w.before args s = true) {mk : MethodId} (hn : s.methodNamed? N.1 = some mk) : ∃ methk ck, s.vm.method? mk = some methk ∧ methk.code = some ck ∧ ck.code = N.2.1 ∧ ck.maxLocals = N.2.2.1 ∧ methk.sig.returnType = N.2.2.2.1 ∧ methk.locks = false ∧ ck.exceptionTable.toList = tableOf N.2.2.2.2 ∧ parseMethodDescriptor N.1.desc = some methk.sig := by
  rcases hN.1 with ⟨h1, h2⟩ | h1
  · obtain ⟨methk, ck, a1, a2, a3, a4, a5, a6, a7, a8⟩ := Cond.code_spec hn (hw _ h1)
    exact ⟨methk, ck, a1, a2, a3, a4, a5, a6, by rw [h2, Array.isEmpty_iff.mp a7]; rfl, a8⟩
  · obtain ⟨mk', methk, ck, a0, a1, a2, a3, a4, a5, a6, a7, a8⟩ := Cond.codeWith_spec (hw _ h1)
    cases Option.some.inj (a0.symm.trans hn)
    exact ⟨methk, ck, a1, a2, a3, a4, a6, a7, by rw [← a5, table_eq], a8⟩
/-- into the callee and out of it again -/
theorem call_in (X : Stand p l e R s m args below meth c T locs cells slots) (hC : Cx M (d + 1) p l R s m meth c D sd B) (hw : mW D s b B sd h T.heap) (hL : ∀ q ∈ locs, B ≤ q.base) {g : JFrame} (hg : g.method = m) (hsize : g.locals.size = c.maxLocals) {ig : Instr} {len : Nat} (hdg : decode c.code g.pc = .ok (ig, len)) (hN : Cal N np) {mk : MethodId} (hn : s.methodNamed? N.1 = some mk)
    (As : List Value) (hcat : 2 * g.monitorRoom + (g.stack.map fun v => v.category).sum ≤ 8) (hal : (As.map fun v => v.category).sum ≤ N.2.2.1) (ev : Ev N d 0 (lv_args 0 As) [] h r h1) {k1 n1 : Nat} (z1 : cells + h1.length = k1 + h.length) (z2 : slots + hSz h1 = n1 + hSz h) (z3 : k1 ≤ R.cells) (z4 : n1 ≤ R.slots) :
    ∃ (T' : State) (L : List Loc), Stand p l e R s m args below meth c T' (locs ++ L) k1 n1 ∧ (∀ q ∈ L, B ≤ q.base) ∧ mW D s b B sd h1 T'.heap ∧
      (∀ v, r = .inl v → ∀ acts, Steps p.tables e below (doInvoke e (T.setTop g) acts mk (As.map (cz b B sd)).toArray).1 (T'.setTop { g with pc := g.pc + len, stack := (v.map (cz b B sd)).toList ++ g.stack })) ∧
      (∀ x, r = .inr x → ∀ acts, Steps p.tables e below (doInvoke e (T.setTop g) acts mk (As.map (cz b B sd)).toArray).1 ((T'.setTop g).pushFrame (.throwing (adr b B x)))) := by
  obtain ⟨methk, ck, a1, a2, a3, a4, a5, a6, a7, a8⟩ := hN.spec (args := args) (s := s) (fun w hw => hC.w hw _) hn
  have hal' := X.warmed.alike
  have hmk : T.vm.method? mk = some methk := by rw [hal'.method?]; exact a1
  obtain ⟨kP, hkP, hnP⟩ := className_of_methodNamed hn
  have hpk : T.plainMethod mk := State.WarmedH.plainAt X.warmed (fun k hk => by
    cases Option.some.inj (hkP.symm.trans hk)
    rw [hnP]; exact hN.2.1)
  have hkc : cells ≤ k1 := by have := ev.1; omega
  have hkn : slots ≤ n1 := by have := ev.2.1; omega
  have hml : N.2.2.1 ≤ 40 := hN.2.2.2.2
  have hrf : d + 1 + 10 ≤ R.frames := hC.2.2.1
  have hrl : 60 * (d + 1) + 300 ≤ R.locals := hC.2.2.2
  obtain ⟨Y, hin⟩ := X.into hg hsize hdg (As.map (cz b B sd)).toArray (R' := { frames := R.frames - 1, cells := k1 - cells, slots := n1 - slots, locals := R.locals - 59 }) hmk a2 a6 hpk
    (by show R.frames - 1 + 1 ≤ R.frames; omega) (by rw [a4]; show _ + _ + (N.2.2.1 + 11) + (R.locals - 59) ≤ R.locals; omega) (by show cells + (k1 - cells) ≤ R.cells; omega) (by show slots + (n1 - slots) ≤ R.slots; omega)
  obtain ⟨hk1, hk2⟩ := st_keep X hL
  have hG : Gx (T.calling g mk (As.map (cz b B sd)).toArray) D sd B := Gx.call hC.2.1 (s' := T.calling g mk (As.map (cz b B sd)).toArray) X.warmed hk1 hk2
  have hfc : (T.calling g mk (As.map (cz b B sd)).toArray).vm.findClass N.1.cls = some mk.cls := by
    show T.vm.findClass N.1.cls = some mk.cls
    rw [hal'.findClass]
    exact findClass_of_methodNamed hn
  have hC' : Cx N d p l { frames := R.frames - 1, cells := k1 - cells, slots := n1 - slots, locals := R.locals - 59 } (T.calling g mk (As.map (cz b B sd)).toArray) mk methk ck D sd B :=
    ⟨⟨hC.ex, a3, a4, a5, a6, (name_of_methodNamed hn a1).1, hfc, a7, hC.1.2.2.2.2.2.2.2.2⟩, hG, by show d + 10 ≤ R.frames - 1; omega, by show 60 * d + 300 ≤ R.locals - 59; omega⟩
  have hl := lv_entry (As.map (cz b B sd)) (n := N.2.2.1) (by rw [sl_len, cz_cats]; exact hal)
  have he : entryFrame mk (As.map (cz b B sd)).toArray ck.maxLocals = F0 mk 0 ((lg_sl (As.map (cz b B sd)) ++ List.replicate (N.2.2.1 - (lg_sl (As.map (cz b B sd))).length) Slot.unset).toArray) [] := by rw [a4, lg_entry_eq]
  generalize hU : (T.setTop g).pushFrame (.java (entryFrame mk (As.map (cz b B sd)).toArray ck.maxLocals)) = U₀ at Y hin
  have hheap : U₀.heap = T.heap := by rw [← hU]; rfl
  have K := ev.2.2 p l e _ _ mk (As.map (cz b B sd)).toArray (.java g :: below) methk ck T.heap [] 0 0 D sd b B _ (k1 - cells) (n1 - slots)
    ⟨hC', by rw [cz_args]; exact hl, mW.moved (U := T.calling g mk (As.map (cz b B sd)).toArray) hal' hw, (fun q (hq : q ∈ ([] : List Loc)) => nomatch hq), rfl, by omega, by omega, Nat.le_refl _, Nat.le_refl _⟩
  obtain ⟨t, st1, L, b1, b2, b3, b4, b5, b6⟩ := K U₀ hheap Y
  have hst : ∀ acts, Steps p.tables e below (doInvoke e (T.setTop g) acts mk (As.map (cz b B sd)).toArray).1 t := by
    intro acts
    rw [hin acts, he]
    exact Steps.weaken (mid := [.java g]) st1
  have ec : cells + (k1 - cells) = k1 := by omega
  have en : slots + (n1 - slots) = n1 := by omega
  have hmv : mW D s b B sd h1 t.heap := mW.moved (u := T.calling g mk (As.map (cz b B sd)).toArray) hal'.symm b6
  cases r with
  | inl v =>
    obtain ⟨T', X', hW', hB', ht⟩ := X.outOf hg hdg (v := v.map (cz b B sd)) b2 b3 b4
    rw [ec, en] at X'
    have hh : t.heap = T'.heap := by rw [ht]; rfl
    refine ⟨T', L, X', b5, by rw [← hh]; exact hmv, fun v' hv' acts => ?_, fun x hx => (by cases hx)⟩
    cases hv'
    rw [← ht]
    exact hst acts
  | inr x =>
    obtain ⟨T', X', hW', hB', ht⟩ := X.outOfThrown hg (x := adr b B x) b2 b3 b4
    rw [ec, en] at X'
    have hh : t.heap = T'.heap := by rw [ht]; rfl
    refine ⟨T', L, X', b5, by rw [← hh]; exact hmv, fun v' hv' => (by cases hv'), fun x' hx' acts => ?_⟩
    cases hx'
    rw [← ht]
    exact hst acts
theorem toL (b B : Nat) (sd : Nat → Nat) (v : Option Value) (st : List Value) : (v.toList ++ st).map (cz b B sd) = (v.map (cz b B sd)).toList ++ st.map (cz b B sd) := by cases v <;> rfl
theorem call_go {lv : List (Nat × Value)} {st : List Value} {h' : mH} {ls : Array Slot} {k0 ns pc : Nat} {v : Option Value} {r' : mR} (hK : Kx M (d + 1) lv h h' p l R s m meth c T.heap locs cells slots D sd b B ls k0 ns) {vm₁ : Vm} (X₁ : Stand p l e R s m args below meth c (T.setVm vm₁) locs cells slots) {ig : Instr} (hdg : decode M.2.1 pc = .ok (ig, 3)) (hN : Cal N np) {mk : MethodId} (hn : s.methodNamed? N.1 = some mk)
    (As : List Value) (hcat : (st.map fun v => v.category).sum ≤ 8) (hal : (As.map fun v => v.category).sum ≤ N.2.2.1) (ev : Ev N d 0 (lv_args 0 As) [] h (.inl v) h1) (k : Ev M (d + 1) (pc + 3) lv (v.toList ++ st) h1 r' h') {g0 : JFrame}
    (hstep : ∀ target, (∀ acts, Steps p.tables e below (doInvoke e ((T.setVm vm₁).setTop (F0 m pc ls (st.map (cz b B sd)))) acts mk (As.map (cz b B sd)).toArray).1 target) → Steps p.tables e below (T.setTop g0) target) :
    ∃ t, Steps p.tables e below (T.setTop g0) t ∧ SQ below s D sd b B r' h' k0 ns t := by
  obtain ⟨hC, hlv, hw, hL, hz, z1, z2, z3, z4⟩ := hK
  have i1 := ev.1
  have i2 := ev.2.1
  have i3 := k.1
  have i4 := k.2.1
  obtain ⟨T', L, X', hL', hw', hr1, -⟩ := call_in X₁ hC (show mW D s b B sd h (T.setVm vm₁).heap from hw) hL (g := F0 m pc ls (st.map (cz b B sd))) rfl (hlv.1.trans hC.ml.symm) (by rw [hC.co]; exact hdg) hN hn As
    (by rw [cz_cats]; show 2 * 0 + _ ≤ 8; omega) hal ev (k1 := cells + (h1.length - h.length)) (n1 := slots + (hSz h1 - hSz h)) (by omega) (by omega) (by omega) (by omega)
  have hsz := hw'.2.2.1
  have hsz0 := hw.2.2.1
  obtain ⟨t, a1, b1⟩ := k.2.2 p l e R s m args below meth c T'.heap (locs ++ L) (cells + (h1.length - h.length)) (slots + (hSz h1 - hSz h)) D sd b B ls k0 ns ⟨hC, hlv, hw', fun q hq => (List.mem_append.mp hq).elim (hL q) (hL' q), by omega, by omega, by omega, z3, z4⟩ T' rfl X'
  rw [toL] at a1
  exact ⟨t, hstep _ (fun acts => (hr1 v rfl acts).trans a1), b1⟩
theorem call_thr {lv : List (Nat × Value)} {st : List Value} {ls : Array Slot} {k0 ns pc x : Nat} (hK : Kx M (d + 1) lv h h1 p l R s m meth c T.heap locs cells slots D sd b B ls k0 ns) {vm₁ : Vm} (X₁ : Stand p l e R s m args below meth c (T.setVm vm₁) locs cells slots) {ig : Instr} (hdg : decode M.2.1 pc = .ok (ig, 3)) (hN : Cal N np) {mk : MethodId} (hn : s.methodNamed? N.1 = some mk)
    (As : List Value) (hcat : (st.map fun v => v.category).sum ≤ 8) (hal : (As.map fun v => v.category).sum ≤ N.2.2.1) (ev : Ev N d 0 (lv_args 0 As) [] h (.inr x) h1) (hh : M.2.2.2.2 = []) {g0 : JFrame}
    (hstep : ∀ target, (∀ acts, Steps p.tables e below (doInvoke e ((T.setVm vm₁).setTop (F0 m pc ls (st.map (cz b B sd)))) acts mk (As.map (cz b B sd)).toArray).1 target) → Steps p.tables e below (T.setTop g0) target) :
    ∃ t, Steps p.tables e below (T.setTop g0) t ∧ SQ below s D sd b B (.inr x) h1 k0 ns t := by
  obtain ⟨hC, hlv, hw, hL, hz, z1, z2, z3, z4⟩ := hK
  obtain ⟨T', L, X', hL', hw', -, hr1⟩ := call_in X₁ hC (show mW D s b B sd h (T.setVm vm₁).heap from hw) hL (g := F0 m pc ls (st.map (cz b B sd))) rfl (hlv.1.trans hC.ml.symm) (by rw [hC.co]; exact hdg) hN hn As
    (by rw [cz_cats]; show 2 * 0 + _ ≤ 8; omega) hal ev (k1 := k0) (n1 := ns) z1 z2 z3 z4
  obtain ⟨y1, y2, y3, y4, y5⟩ := X'.leaveThrown (adr b B x) (g := F0 m pc ls (st.map (cz b B sd))) rfl rfl rfl (by rw [hC.tab, hh]; exact fun z hz => nomatch hz) hC.lo
  exact ⟨_, hstep _ (fun acts => (hr1 x rfl acts).trans y1), locs ++ L, y2, y3, y4, y5, fun q hq => (List.mem_append.mp hq).elim (hL q) (hL' q), hw'⟩
end CALL
section EV3
variable {M N : Mt} {d pc np : Nat} {lv : List (Nat × Value)} {st st0 As : List Value} {h h1 h' : mH} {r : mR} {v : Option Value}
/-- a call on an object: what the machine does first -/
theorem call_v {p : Program} {l : Launch} {e : Env} {R : Room} {s : State} {m : MethodId} {args : Array Value} {below : List Frame} {meth : Method} {c : Code} {T : State} {locs : List Loc} {cells slots : Nat} {D : va_G} {sd : Nat → Nat} {b B : Nat} {ls : Array Slot} {ix o ci : Nat} {fs : List Value} (X : Stand p l e R s m args below meth c T locs cells slots) (hC : Cx M d p l R s m meth c D sd B) (hw : mW D s b B sd h T.heap)
    (hd : decode M.2.1 pc = .ok (.invokevirtual ix, 3)) (hl : InT (.methodLink M.1.cls ix N.1)) (hN : Cal N np) (hm : InT (.instanceMethod N.1)) (hs : InT (.selects N.1.cls N.1 N.1)) (ho : h[o]? = some (.inl (ci, fs))) (hci : (vCl[ci]?).map (fun q => q.1) = some N.1.cls) (hnp : As.length = np) (hst : st0 = As.reverse ++ .ref o :: st) :
    ∃ (mk : MethodId) (vm₁ : Vm), s.methodNamed? N.1 = some mk ∧ Stand p l e R s m args below meth c (T.setVm vm₁) locs cells slots ∧ ∀ target, (∀ acts, Steps p.tables e below (doInvoke e ((T.setVm vm₁).setTop (F0 m pc ls (st.map (cz b B sd)))) acts mk ((Value.ref o :: As).map (cz b B sd)).toArray).1 target) → Steps p.tables e below (T.setTop (F0 m pc ls (st0.map (cz b B sd)))) target := by
  obtain ⟨mk, methM, hnamed, hmethM, hstM, habM⟩ := Cond.instanceMethod_spec (hC.w hm args)
  obtain ⟨methk, ck, a1, a2, a3, a4, a5, a6, a7, a8⟩ := hN.spec (args := args) (s := s) (fun w hw => hC.w hw _) hnamed
  cases hmethM.symm.trans a1
  obtain ⟨c2, r2, m2, q1, q2, q3, q4, kP, hkP, hkPi⟩ := Cond.selects_spec (hC.w hs args)
  obtain ⟨r0, w1, w2, cell, w3, w4, w5, w6⟩ := hw.1 o _ ho
  have hcls : s.vm.findClass N.1.cls = some cell.cls := by
    have hk := (hC.K.1 ci r0 w1).2.1
    have hr : r0.1 = N.1.cls := by
      have w1' : vCl[ci]? = some r0 := w1
      rw [w1'] at hci
      exact Option.some.inj hci
    rw [w4, ← hr]
    exact hk
  cases hcls.symm.trans q1
  cases (State.methodFound?_of_named hnamed hN.2.2.1).symm.trans q2
  cases hnamed.symm.trans q3
  have hselP : selectMethod e.platform s.vm cell.cls mk = .method mk := by rw [Launch.admits_selectMethod X.admits]; exact q4
  have hlen : (As.map (cz b B sd)).length = methM.sig.parameters.length := by
    have h2 := hN.2.2.2.1
    rw [a8] at h2
    rw [List.length_map, hnp]
    exact (Option.some.inj h2).symm
  obtain ⟨vm₁, X₁, hstep₁⟩ := X.invokevirtual hC.ex hC.own (hC.w hl _) hnamed hmethM hstM hkP hkPi hN.2.2.1 (a := adr b B o) (cell := cell) w3 (fun z h => by rw [h] at w5; cases w5) hselP hmethM habM hkP hkPi (g := F0 m pc ls (st0.map (cz b B sd))) rfl (argsL := As.map (cz b B sd)) (rest := st.map (cz b B sd)) hlen
    (by show st0.map (cz b B sd) = _; rw [hst, List.map_append, List.map_reverse, List.map_cons]; rfl) (by rw [hC.co]; exact hd)
  exact ⟨mk, vm₁, hnamed, X₁, hstep₁⟩
theorem ev_callV {ix o ci : Nat} {fs : List Value} (hd : decode M.2.1 pc = .ok (.invokevirtual ix, 3)) (hl : InT (.methodLink M.1.cls ix N.1)) (hN : Cal N np) (hm : InT (.instanceMethod N.1)) (hs : InT (.selects N.1.cls N.1 N.1)) (ho : h[o]? = some (.inl (ci, fs))) (hci : (vCl[ci]?).map (fun q => q.1) = some N.1.cls) (hnp : As.length = np) (hal : ((Value.ref o :: As).map fun v => v.category).sum ≤ N.2.2.1) (hcat : (st.map fun v => v.category).sum ≤ 8) (hst : st0 = As.reverse ++ .ref o :: st)
    (ev : Ev N d 0 (lv_args 0 (.ref o :: As)) [] h (.inl v) h1) (k : Ev M (d + 1) (pc + 3) lv (v.toList ++ st) h1 r h') : Ev M (d + 1) pc lv st0 h r h' := by
  refine ⟨Nat.le_trans ev.1 k.1, Nat.le_trans ev.2.1 k.2.1, fun p l e R s m args below meth c H locs cells slots D sd b B ls k0 ns hK => ?_⟩
  intro T hT X
  subst hT
  obtain ⟨mk, vm₁, hn, X₁, hstep⟩ := call_v X hK.1 hK.2.2.1 hd hl hN hm hs ho hci hnp hst
  exact call_go hK X₁ hd hN hn (.ref o :: As) hcat hal ev k hstep
theorem ev_callVx {ix o ci x : Nat} {fs : List Value} (hd : decode M.2.1 pc = .ok (.invokevirtual ix, 3)) (hl : InT (.methodLink M.1.cls ix N.1)) (hN : Cal N np) (hm : InT (.instanceMethod N.1)) (hs : InT (.selects N.1.cls N.1 N.1)) (ho : h[o]? = some (.inl (ci, fs))) (hci : (vCl[ci]?).map (fun q => q.1) = some N.1.cls) (hnp : As.length = np) (hal : ((Value.ref o :: As).map fun v => v.category).sum ≤ N.2.2.1) (hcat : (st.map fun v => v.category).sum ≤ 8) (hst : st0 = As.reverse ++ .ref o :: st) (hh : M.2.2.2.2 = [])
    (ev : Ev N d 0 (lv_args 0 (.ref o :: As)) [] h (.inr x) h1) : Ev M (d + 1) pc lv st0 h (.inr x) h1 := by
  refine ⟨ev.1, ev.2.1, fun p l e R s m args below meth c H locs cells slots D sd b B ls k0 ns hK => ?_⟩
  intro T hT X
  subst hT
  obtain ⟨mk, vm₁, hn, X₁, hstep⟩ := call_v X hK.1 hK.2.2.1 hd hl hN hm hs ho hci hnp hst
  exact call_thr hK X₁ hd hN hn (.ref o :: As) hcat hal ev hh hstep
end EV3
