/-! static calls, constructors, calls that are caught, new cells, throws -/
section EV4
variable {M N : Mt} {d pc np : Nat} {lv : List (Nat × Value)} {st st0 As : List Value} {h h1 h' : mH} {r : mR} {v : Option Value}
theorem call_s {p : Program} {l : Launch} {e : Env} {R : Room} {s : State} {m : MethodId} {args : Array Value} {below : List Frame} {meth : Method} {c : Code} {T : State} {locs : List Loc} {cells slots : Nat} {D : va_G} {sd : Nat → Nat} {b B : Nat} {ls : Array Slot} {ix : Nat} (X : Stand p l e R s m args below meth c T locs cells slots) (hC : Cx M d p l R s m meth c D sd B)
    (hd : decode M.2.1 pc = .ok (.invokestatic ix, 3)) (hl : InT (.methodLink M.1.cls ix N.1) ∨ ∃ host, InT (.methodLinkNest M.1.cls ix N.1 host)) (hN : Cal N np) (hm : InT (.static N.1)) (hi : InT (.initialized N.1.cls)) (hnp : As.length = np) (hst : st0 = As.reverse ++ st) :
    ∃ (mk : MethodId) (vm₁ : Vm), s.methodNamed? N.1 = some mk ∧ Stand p l e R s m args below meth c (T.setVm vm₁) locs cells slots ∧ ∀ target, (∀ acts, Steps p.tables e below (doInvoke e ((T.setVm vm₁).setTop (F0 m pc ls (st.map (cz b B sd)))) acts mk (As.map (cz b B sd)).toArray).1 target) → Steps p.tables e below (T.setTop (F0 m pc ls (st0.map (cz b B sd)))) target := by
  obtain ⟨mk, hnamed⟩ : ∃ mk, s.methodNamed? N.1 = some mk := by
    rcases hN.1 with ⟨h1, -⟩ | h1
    · exact Cond.code_named (hC.w h1 args)
    · obtain ⟨mk', -, -, a0, -⟩ := Cond.codeWith_spec (hC.w h1 args)
      exact ⟨mk', a0⟩
  obtain ⟨methM, ck, a1, a2, a3, a4, a5, a6, a7, a8⟩ := hN.spec (args := args) (s := s) (fun w hw => hC.w hw _) hnamed
  have hstatic : methM.isStatic = true := Cond.static_spec hnamed a1 (hC.w hm args)
  obtain ⟨kP, hkP, -⟩ := className_of_methodNamed hnamed
  have hinitP : kP.init = .initialized := Cond.initialized_spec (findClass_of_methodNamed hnamed) hkP (hC.w hi args)
  have hlen : (As.map (cz b B sd)).length = methM.sig.parameters.length := by
    have h2 := hN.2.2.2.1
    rw [a8] at h2
    rw [List.length_map, hnp]
    exact (Option.some.inj h2).symm
  have hstk : (F0 m pc ls (st0.map (cz b B sd))).stack = (As.map (cz b B sd)).reverse ++ st.map (cz b B sd) := by
    show st0.map (cz b B sd) = _
    rw [hst, List.map_append, List.map_reverse]
  rcases hl with hl | ⟨host, hl⟩
  · obtain ⟨vm₁, X₁, hstep₁⟩ := X.invokestatic hC.ex hC.own (hC.w hl _) hnamed a1 hstatic hkP hinitP hN.2.2.1 (g := F0 m pc ls (st0.map (cz b B sd))) rfl (argsL := As.map (cz b B sd)) (rest := st.map (cz b B sd)) hlen hstk (by rw [hC.co]; exact hd)
    exact ⟨mk, vm₁, hnamed, X₁, hstep₁⟩
  · obtain ⟨vm₁, X₁, hstep₁⟩ := X.invokestaticNest hC.ex hC.own (hC.w hl _) hnamed a1 hstatic hkP hinitP hN.2.2.1 (g := F0 m pc ls (st0.map (cz b B sd))) rfl (argsL := As.map (cz b B sd)) (rest := st.map (cz b B sd)) hlen hstk (by rw [hC.co]; exact hd)
    exact ⟨mk, vm₁, hnamed, X₁, hstep₁⟩
theorem ev_callS {ix : Nat} (hd : decode M.2.1 pc = .ok (.invokestatic ix, 3)) (hl : InT (.methodLink M.1.cls ix N.1) ∨ ∃ host, InT (.methodLinkNest M.1.cls ix N.1 host)) (hN : Cal N np) (hm : InT (.static N.1)) (hi : InT (.initialized N.1.cls)) (hnp : As.length = np) (hal : (As.map fun v => v.category).sum ≤ N.2.2.1) (hcat : (st.map fun v => v.category).sum ≤ 8) (hst : st0 = As.reverse ++ st)
    (ev : Ev N d 0 (lv_args 0 As) [] h (.inl v) h1) (k : Ev M (d + 1) (pc + 3) lv (v.toList ++ st) h1 r h') : Ev M (d + 1) pc lv st0 h r h' := by
  refine ⟨Nat.le_trans ev.1 k.1, Nat.le_trans ev.2.1 k.2.1, fun p l e R s m args below meth c H locs cells slots D sd b B ls k0 ns hK => ?_⟩
  intro T hT X
  subst hT
  obtain ⟨mk, vm₁, hn, X₁, hstep⟩ := call_s (b := b) X hK.1 hd hl hN hm hi hnp hst
  exact call_go hK X₁ hd hN hn As hcat hal ev k hstep
theorem ev_callSx {ix x : Nat} (hd : decode M.2.1 pc = .ok (.invokestatic ix, 3)) (hl : InT (.methodLink M.1.cls ix N.1) ∨ ∃ host, InT (.methodLinkNest M.1.cls ix N.1 host)) (hN : Cal N np) (hm : InT (.static N.1)) (hi : InT (.initialized N.1.cls)) (hnp : As.length = np) (hal : (As.map fun v => v.category).sum ≤ N.2.2.1) (hcat : (st.map fun v => v.category).sum ≤ 8) (hst : st0 = As.reverse ++ st) (hh : M.2.2.2.2 = [])
    (ev : Ev N d 0 (lv_args 0 As) [] h (.inr x) h1) : Ev M (d + 1) pc lv st0 h (.inr x) h1 := by
  refine ⟨ev.1, ev.2.1, fun p l e R s m args below meth c H locs cells slots D sd b B ls k0 ns hK => ?_⟩
  intro T hT X
  subst hT
  obtain ⟨mk, vm₁, hn, X₁, hstep⟩ := call_s (b := b) X hK.1 hd hl hN hm hi hnp hst
  exact call_thr hK X₁ hd hN hn As hcat hal ev hh hstep
/-- a constructor -/
theorem ev_callI {ix o : Nat} {ci : Nat} {fs : List Value} (hd : decode M.2.1 pc = .ok (.invokespecial ix, 3)) (hl : InT (.methodLink M.1.cls ix N.1) ∨ ∃ host, InT (.methodLinkNest M.1.cls ix N.1 host)) (hN : Cal N np) (hm : InT (.instanceMethod N.1)) (hc : InT (.code N.1 N.2.1 N.2.2.1 none)) (hin : N.1.name = "<init>") (hnp : As.length = np) (hal : ((Value.ref o :: As).map fun v => v.category).sum ≤ N.2.2.1) (hcat : (st.map fun v => v.category).sum ≤ 8) (hst : st0 = As.reverse ++ .ref o :: st)
    (ev : Ev N d 0 (lv_args 0 (.ref o :: As)) [] h (.inl none) h1) (k : Ev M (d + 1) (pc + 3) lv st h1 r h') : Ev M (d + 1) pc lv st0 h r h' := by
  refine ⟨Nat.le_trans ev.1 k.1, Nat.le_trans ev.2.1 k.2.1, fun p l e R s m args below meth c H locs cells slots D sd b B ls k0 ns hK => ?_⟩
  intro T hT X
  subst hT
  have hC := hK.1
  have hpl : e.platform.magicAccessors = ({} : Platform).magicAccessors := by rw [X.admits.platform]
  have hlen : ∀ sig, parseMethodDescriptor N.1.desc = some sig → (As.map (cz b B sd)).length = sig.parameters.length := by
    intro sig hs
    have h2 := hN.2.2.2.1
    rw [hs] at h2
    rw [List.length_map, hnp]
    exact (Option.some.inj h2).symm
  have hstk : (F0 m pc ls (st0.map (cz b B sd))).stack = (As.map (cz b B sd)).reverse ++ .ref (adr b B o) :: st.map (cz b B sd) := by
    show st0.map (cz b B sd) = _
    rw [hst, List.map_append, List.map_reverse, List.map_cons]
    rfl
  have hdg : decode c.code (F0 m pc ls (st0.map (cz b B sd))).pc = .ok (.invokespecial ix, 3) := by rw [hC.co]; exact hd
  rcases hl with hl | ⟨host, hl⟩
  · obtain ⟨mk, methM, cM, kP, vm₁, hn, -, -, -, -, -, -, -, hW₁, hstep⟩ := Steps.initColdArgs (e := e) X.here hC.ex X.warmed hpl hC.own hin hN.2.2.1 (hC.w hl args) (hC.w hm args) (hC.w hc args) (f := F0 m pc ls (st0.map (cz b B sd))) rfl hlen hstk hdg
    exact call_go (v := none) hK (X.noted hW₁) hd hN hn (.ref o :: As) hcat hal ev k hstep
  · obtain ⟨mk, methM, cM, kP, vm₁, hn, -, -, -, -, -, -, -, hW₁, hstep⟩ := Steps.initColdArgsNest (e := e) X.here hC.ex X.warmed hpl hC.own hin hN.2.2.1 (hC.w hl args) (hC.w hm args) (hC.w hc args) (f := F0 m pc ls (st0.map (cz b B sd))) rfl hlen hstk hdg
    exact call_go (v := none) hK (X.noted hW₁) hd hN hn (.ref o :: As) hcat hal ev k hstep
/-- Object's own constructor -/
theorem ev_objI {ix o : Nat} (hd : decode M.2.1 pc = .ok (.invokespecial ix, 3)) (hl : InT (.methodLink M.1.cls ix Lib.objectInit)) (hm : InT (.instanceMethod Lib.objectInit)) (hc : InT (.code Lib.objectInit ⟨#[0xb1]⟩ 1 none)) (hcat : (st.map fun v => v.category).sum ≤ 8) (k : Ev M d (pc + 3) lv st h r h') : Ev M d pc lv (.ref o :: st) h r h' := by
  refine ev_go (fun {p l e R s m args below meth c H locs cells slots Q D sd b B ls} hC hlv hw k => ?_) k
  have h1 : d + 10 ≤ R.frames := hC.2.2.1
  have h2 : 60 * d + 300 ≤ R.locals := hC.2.2.2
  exact W.objInit hC.ex hC.co hC.own (hC.w hl _) (hC.w hm _) (hC.w hc _) rfl (hlv.1.trans hC.ml.symm) rfl hd (by omega) (by rw [cz_cats]; show 2 * 0 + _ + 12 ≤ _; omega) k
/-- a new object -/
theorem ev_new {ix ci Nn : Nat} {C : String} {T : u_T} {Y : Nat → FieldType} (fs : List Value) (hd : decode M.2.1 pc = .ok (.new ix, 3)) (hc : ClF ci C T Nn Y) (hl : InT (.classLink M.1.cls ix C)) (hI : InT (.instantiable C Nn)) (hi : InT (.initialized C)) (h0 : 0 < h.length) (hfl : fs.length = Nn) (hfs : ∀ j, j < Nn → defaultValue (Y j) = vp_V fs j) (hfc : ∀ b B sd, fs.map (cz b B sd) = fs)
    (k : Ev M d (pc + 3) lv (.ref h.length :: st) (h ++ [.inl (ci, fs)]) r h') : Ev M d pc lv st h r h' := by
  have i1 := k.1
  have i2 := k.2.1
  rw [List.length_append] at i1
  rw [hSz_app] at i2
  have e6 : eSz (.inl (ci, fs)) = Nn := hfl
  rw [e6] at i2
  have i1' : h.length + 1 ≤ h'.length := i1
  refine ⟨by omega, by omega, fun p l e R s m args below meth c H locs cells slots D sd b B ls k0 ns hK => ?_⟩
  obtain ⟨hC, hlv, hw, hL, hz, z1, z2, z3, z4⟩ := hK
  have hts : ∀ w ∈ u_ws C T Nn, w.before args s = true := fun w hw => hC.w (hc.2.1 w hw) _
  refine W.newc hC.ex hC.co hC.own (hC.w hl _) (hC.w hI _) (hC.w hi _) rfl hd (by omega) (by omega) (fun cC kC x1 x2 x3 x4 => ?_)
  obtain ⟨hS, hfcl, kC', hkC, hkind⟩ := hC.K.1 ci _ hc.1
  have hfcl' : s.vm.findClass C = some (D.1 ci) := hfcl
  cases Option.some.inj (x1.symm.trans hfcl')
  have hkk := Option.some.inj (x2.symm.trans hkC)
  subst hkk
  have hb := u_born (H := H.push { cls := D.1 ci, slots := kC.instanceTypes.map defaultValue, vm := .none }) (o := H.size) Y hts (fun _ h => h) ⟨hS, hfcl, kC, hkC, hkind⟩ hkC (by simp [blank]) hc.2.2.2
  have hob : mAt D s b B sd (.inl (ci, fs)) H.size (H.push { cls := D.1 ci, slots := kC.instanceTypes.map defaultValue, vm := .none }) := ⟨_, hc.1, hfl, t_OB.to hb (fun j hj => by rw [hfc]; exact hfs j hj)⟩
  obtain ⟨hw1, ha⟩ := hw.push h0 hob (by simp) (fun q hq => by rw [Array.getElem?_push, if_neg (Nat.ne_of_lt hq)])
  have K := k.2.2 p l e R s m args below meth c _ locs (cells + 1) (slots + Nn) D sd b B ls k0 ns ⟨hC, hlv, hw1, hL, by simp; omega, by rw [List.length_append]; show cells + 1 + h'.length = k0 + (h.length + 1); omega, by rw [hSz_app, e6]; omega, z3, z4⟩
  have e7 : (Value.ref h.length :: st).map (cz b B sd) = .ref H.size :: st.map (cz b B sd) := by
    rw [List.map_cons]
    show Value.ref (adr b B h.length) :: _ = _
    rw [ha]
  rw [e7] at K
  exact K
/-- a new array of ints -/
theorem ev_newi {n : Nat} {i : Int32} (hd : decode M.2.1 pc = .ok (.newarray .int, 2)) (hi : i = nI n) (hn : n ≤ 100000) (ha : InT (.arrayClass .int)) (h0 : 0 < h.length) (k : Ev M d (pc + 2) lv (.ref h.length :: st) (h ++ [mA n (fun _ => 0)]) r h') : Ev M d pc lv (.int i :: st) h r h' := by
  subst hi
  have i1 := k.1
  have i2 := k.2.1
  rw [List.length_append] at i1
  rw [hSz_app] at i2
  have e6 : eSz (mA n (fun _ => 0)) = n := rfl
  rw [e6] at i2
  have i1' : h.length + 1 ≤ h'.length := i1
  refine ⟨by omega, by omega, fun p l e R s m args below meth c H locs cells slots D sd b B ls k0 ns hK => ?_⟩
  obtain ⟨hC, hlv, hw, hL, hz, z1, z2, z3, z4⟩ := hK
  have hn1 : n < 2 ^ 31 := by omega
  have hby : n * componentBytes (newarray.typeOf .int) ≤ 536870912 := by
    have e9 : componentBytes (newarray.typeOf .int) = 4 := rfl
    rw [e9]; omega
  refine va_newaK (atype := .int) (n := nI n) (N := n) (h := H.size) (g := F0 m pc ls (.int (nI n) :: st.map (cz b B sd))) (rest := st.map (cz b B sd)) hC.ex hC.co (hC.w ha _) rfl hd rfl (nI_pos hn1) (nI_clamp hn1) hby (by omega) (by omega) rfl (fun H' cA x1 x2 x3 x4 x5 => ?_)
  have hob : mAt D s b B sd (mA n (fun _ => 0)) H.size H' := ⟨cA, x1, x4⟩
  obtain ⟨hw1, hA⟩ := hw.push h0 hob x2 x3
  have K := k.2.2 p l e R s m args below meth c H' locs (cells + 1) (slots + n) D sd b B ls k0 ns ⟨hC, hlv, hw1, hL, by omega, by rw [List.length_append]; show cells + 1 + h'.length = k0 + (h.length + 1); omega, by rw [hSz_app, e6]; omega, z3, z4⟩
  have e7 : (Value.ref h.length :: st).map (cz b B sd) = .ref H.size :: st.map (cz b B sd) := by
    rw [List.map_cons]
    show Value.ref (adr b B h.length) :: _ = _
    rw [hA]
  rw [e7] at K
  exact K
/-- a new array of longs -/
theorem ev_newl {n : Nat} {i : Int32} (hd : decode M.2.1 pc = .ok (.newarray .long, 2)) (hi : i = nI n) (hn : n ≤ 100000) (ha : InT (.arrayClass .long)) (h0 : 0 < h.length) (k : Ev M d (pc + 2) lv (.ref h.length :: st) (h ++ [mL n (fun _ => 0)]) r h') : Ev M d pc lv (.int i :: st) h r h' := by
  subst hi
  have i1 := k.1
  have i2 := k.2.1
  rw [List.length_append] at i1
  rw [hSz_app] at i2
  have e6 : eSz (mL n (fun _ => 0)) = n := rfl
  rw [e6] at i2
  have i1' : h.length + 1 ≤ h'.length := i1
  refine ⟨by omega, by omega, fun p l e R s m args below meth c H locs cells slots D sd b B ls k0 ns hK => ?_⟩
  obtain ⟨hC, hlv, hw, hL, hz, z1, z2, z3, z4⟩ := hK
  have hn1 : n < 2 ^ 31 := by omega
  have hby : n * componentBytes (newarray.typeOf .long) ≤ 536870912 := by
    have e9 : componentBytes (newarray.typeOf .long) = 8 := rfl
    rw [e9]; omega
  refine va_newaK (atype := .long) (n := nI n) (N := n) (h := H.size) (g := F0 m pc ls (.int (nI n) :: st.map (cz b B sd))) (rest := st.map (cz b B sd)) hC.ex hC.co (hC.w ha _) rfl hd rfl (nI_pos hn1) (nI_clamp hn1) hby (by omega) (by omega) rfl (fun H' cA x1 x2 x3 x4 x5 => ?_)
  have hob : mAt D s b B sd (mL n (fun _ => 0)) H.size H' := ⟨cA, x1, x4⟩
  obtain ⟨hw1, hA⟩ := hw.push h0 hob x2 x3
  have K := k.2.2 p l e R s m args below meth c H' locs (cells + 1) (slots + n) D sd b B ls k0 ns ⟨hC, hlv, hw1, hL, by omega, by rw [List.length_append]; show cells + 1 + h'.length = k0 + (h.length + 1); omega, by rw [hSz_app, e6]; omega, z3, z4⟩
  have e7 : (Value.ref h.length :: st).map (cz b B sd) = .ref H.size :: st.map (cz b B sd) := by
    rw [List.map_cons]
    show Value.ref (adr b B h.length) :: _ = _
    rw [hA]
  rw [e7] at K
  exact K
end EV4
