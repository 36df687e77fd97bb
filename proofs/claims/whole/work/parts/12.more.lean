/-! throws, catches, Math, arraycopy, texts -/
abbrev exUp : List String := ["java/lang/RuntimeException", "java/lang/Exception"]
section EV5
variable {M N : Mt} {d pc np : Nat} {lv : List (Nat × Value)} {st st0 As : List Value} {h h1 h' : mH} {r : mR} {v : Option Value}
/-- throw new E("text") -/
theorem ev_throw {ik is ic i : Nat} {tx : String} (kd : Nat) (d0 : decode M.2.1 pc = .ok (.new ik, 3)) (d3 : decode M.2.1 (pc + 3) = .ok (.dup, 1)) (d4 : decode M.2.1 (pc + 4) = .ok (.ldc is, 2)) (d6 : decode M.2.1 (pc + 6) = .ok (.invokespecial ic, 3)) (d9 : decode M.2.1 (pc + 9) = .ok (.athrow, 1))
    (hk : InT (.classLink M.1.cls ik (exN kd))) (hi : InT (.initialized (exN kd))) (hs : (M.1.cls, is, tx, i) ∈ strT) (hat : ∀ w ∈ vx_atS M.1.cls ic (exN kd) exUp, w ∈ lw_tbl ∧ okV w = true ∧ vx_ot w = true) (hf : Bundle.fit (exN kd) = true) (h0 : 0 < h.length) (hcat : (st.map fun v => v.category).sum ≤ 8) (hh : M.2.2.2.2 = []) : Ev M d pc lv st h (.inr h.length) (h ++ [mT kd]) := by
  refine ⟨by simp, by rw [hSz_app]; omega, fun p l e R s m args below meth c H locs cells slots D sd b B ls k0 ns hK => ?_⟩
  obtain ⟨hC, hlv, hw, hL, hz, z1, z2, z3, z4⟩ := hK
  rw [List.length_append] at z1
  rw [hSz_app] at z2
  have z1' : cells + (h.length + 1) = k0 + h.length := z1
  have z2' : slots + (hSz h + 6) = ns + hSz h := z2
  have hr1 : d + 10 ≤ R.frames := hC.2.2.1
  have hr2 : 60 * d + 300 ≤ R.locals := hC.2.2.2
  intro T hT X
  have htr : e.platform.stackTraces = false := (show e.platform.stackTraces = l.stackTraces by rw [X.admits.platform]).trans hC.1.2.2.2.2.2.2.2.2
  have Y := vx_rebase X (R' := { frames := R.frames, locals := R.locals, cells := 1, slots := 6 }) (Nat.le_refl _) (Nat.le_refl _) (by show cells + 1 ≤ R.cells; omega) (by show slots + 6 ≤ R.slots; omega)
  obtain ⟨s', hA⟩ : ∃ z, z = (T.setVm s.vm).setFrames (.invoking m args :: below) := ⟨_, rfl⟩
  rw [← hA] at Y
  have hvm : s'.vm = s.vm := by rw [hA]; rfl
  have hhp : s'.heap = H := by rw [hA]; exact hT
  have hW0 : s.WarmedH s'.vm := by rw [hvm]; exact State.WarmedH.refl s
  obtain ⟨kp1, kp2⟩ := st_keep X hL
  rw [hT] at kp1 kp2
  have hG' : Gx s' D sd B := Gx.call hC.2.1 hW0 (by rw [hhp]; exact kp1) (by rw [hhp]; exact kp2)
  have hat' : ∀ w ∈ vx_atS M.1.cls ic (exN kd) exUp, w.before args s' = true := fun w hw => hG'.1 w (hat w hw).1 (hat w hw).2.1 _
  have hk' : (Cond.classLink M.1.cls ik (exN kd)).before args s' = true := okW_tr hk.2 hW0 (hC.w hk args)
  have hini' : (Cond.initialized (exN kd)).before args s' = true := okW_tr hi.2 hW0 (hC.w hi args)
  have hU' : vx_Zq Bundle.tN "UNASSIGNED_STACK" Bundle.steD (fun q => B ≤ q) s' s'.heap := hG'.2.2.2.1
  have hN' : vx_Zq Bundle.tN "SUPPRESSED_SENTINEL" Bundle.listD (fun q => B ≤ q) s' s'.heap := hG'.2.2.2.2.1
  have hall0 : ∀ w ∈ Bundle.ownAtoms M.1.cls ic (exN kd) exUp, w.before args s' = true := vx_own hat' (vx_isRefq hU'.1) (vx_isRefq hN'.1) hU'.2.word hN'.2.word
  have hown' : s'.vm.findClass M.1.cls = some m.cls := by rw [hvm]; exact hC.own
  have hins : (Cond.instantiable (exN kd) 6).before args s' = true := hall0 _ (by simp [Bundle.ownAtoms])
  have hb := hC.co
  obtain ⟨vm₁, cX, kX, hfX, hkX, -, -, X₁, st1⟩ := Y.newCold hC.ex (own := M.1.cls) (C := exN kd) (index := ik) (n := 6) hown' hk' hins hini'
    (g := F0 m pc ls (st.map (cz b B sd))) rfl (by rw [hb]; exact d0) (Nat.le_refl _) (Nat.le_refl _)
  generalize hT1 : (T.setVm vm₁).pushCell { cls := cX, slots := kX.instanceTypes.map defaultValue, vm := .none } = T1 at X₁ st1
  have hcatr : (Value.ref T.heap.size).category = 1 := rfl
  have hcellA : T1.heap[T.heap.size]? = some (freshCell cX kX) := by rw [← hT1]; exact State.heap_pushCell_size _ _
  have d3' : decode c.code (pc + 3) = .ok (.dup, 1) := by rw [hb]; exact d3
  have d4' : decode c.code (pc + 4) = .ok (.ldc is, 2) := by rw [hb]; exact d4
  have hstr' : vk_R M.1.cls is tx (sd i) s' := hG'.2.2.2.2.2.1 _ hs
  have hsize : ls.size = c.maxLocals := hlv.1.trans hC.ml.symm
  have hout : ∀ x ∈ c.exceptionTable.toList, covers x (pc + 9) = false := by rw [hC.tab, hh]; exact fun z hz => nomatch hz
  obtain ⟨U, hsteps, hrun, hend, hW, hsame, ce, hce, hO⟩ := X₁.ctorThrowS hC.ex htr (own := M.1.cls) (cls := exN kd) (names := exUp) (ic := ic) hown' hf (by decide) hall0 (fun x hx => nomatch hx) hfX hkX hcellA (by rw [hhp, hT]; exact Nat.le_refl _) (msg := .ref (sd i)) rfl
    (g := { method := m, pc := pc + 6, locals := ls, stack := .ref (sd i) :: .ref T.heap.size :: .ref T.heap.size :: st.map (cz b B sd), locked := none }) rfl hsize rfl rfl (rest := st.map (cz b B sd)) rfl
    (by rw [hb]; exact d6) (by rw [hb]; exact d9) hout (by show 2 + 3 < R.frames; omega) (by simp only [List.map_cons, List.sum_cons, hcatr, cz_cats]; show 2 * 0 + (1 + _) + (13 * (2 + 1) + 42) ≤ R.locals; omega) hC.lo
  obtain ⟨f1, f2⟩ := vx_frame hsame
  rw [hhp] at f1 f2
  have hWs : s.WarmedH U.vm := State.WarmedH.trans hW0 hW
  have hcl : s.vm.findClass (exN kd) = some ce.cls := by
    have h9 := hO.cls
    rw [hvm] at h9
    exact h9
  have hall : s.sameButNew ({ U with vm := s.vm } : State) locs k0 ns := by
    subst hA
    obtain ⟨e1, e2⟩ := hsame
    rw [State.setFrames_setFrames] at e1
    have h2 : (T.setVm s.vm).sameButNew ({ U with vm := s.vm } : State) [] (0 + 1) (0 + 6) := ⟨e1, e2⟩
    have h3 := X.same.trans h2
    rw [List.append_nil] at h3
    exact h3.mono (by omega) (by omega)
  have hsz : U.heap.size = H.size + 1 := by
    have u1 : U.heap.size ≤ s.heap.size + k0 := hall.2.2.1
    have u2 : T.heap.size < U.heap.size := (Array.getElem?_eq_some_iff.mp hce).1
    rw [hT] at u2
    omega
  rw [hT] at hce
  obtain ⟨hw1, ha⟩ := hw.push (e := mT kd) (H1 := U.heap) h0 ⟨ce, hce, hO.vm, hcl⟩ hsz (fun q hq => f2 q hq (fun z hz => nomatch hz))
  refine ⟨U, ?_, locs, hrun, ?_, hWs, hall, hL, hw1⟩
  · refine st1 _ ?_
    show Steps p.tables e below (T1.setTop { method := m, pc := pc + 3, locals := ls, stack := .ref T.heap.size :: st.map (cz b B sd), locked := none }) _
    have hx := hC.ex
    jvm_step X₁.here [X₁.here.top, hx, d3', Value.category]
    exact X₁.ldcString hC.ex (own := M.1.cls) (text := tx) (index := is) (a := sd i) hown' hstr'.1 hstr'.2
      (g := { method := m, pc := pc + 4, locals := ls, stack := .ref T.heap.size :: .ref T.heap.size :: st.map (cz b B sd), locked := none }) rfl d4' _ hsteps
  · show Ended U below (.threw (adr b B h.length))
    rw [ha, ← hT]
    exact hend
/-- a call that throws, and is caught here -/
theorem ev_callVc {ix o ci x : Nat} {fs : List Value} (kd : Nat) (hd : decode M.2.1 pc = .ok (.invokevirtual ix, 3)) (hl : InT (.methodLink M.1.cls ix N.1)) (hN : Cal N np) (hm : InT (.instanceMethod N.1)) (hs : InT (.selects N.1.cls N.1 N.1)) (ho : h[o]? = some (.inl (ci, fs))) (hci : (vCl[ci]?).map (fun q => q.1) = some N.1.cls) (hnp : As.length = np) (hal : ((Value.ref o :: As).map fun v => v.category).sum ≤ N.2.2.1) (hcat : (st.map fun v => v.category).sum ≤ 8) (hst : st0 = As.reverse ++ .ref o :: st)
    (pre : List (Nat × Nat × Nat × Nat)) (en : Nat × Nat × Nat × Nat) (suf : List (Nat × Nat × Nat × Nat)) (hsp : M.2.2.2.2 = pre ++ en :: suf) (hpass : ∀ z ∈ pre, z.2.2.2 ≠ 0 ∧ ∃ nm : String, InT (.classLink M.1.cls z.2.2.2 nm) ∧ (exN kd, nm) ∈ ncT) (hcov : covers ⟨en.1, en.2.1, en.2.2.1, en.2.2.2⟩ pc = true) (hne : en.2.2.2 ≠ 0) (hlk : InT (.classLink M.1.cls en.2.2.2 (exN kd))) (hct : Cond.castable (exN kd) (exN kd) ∈ lw_tbl)
    (ev : Ev N d 0 (lv_args 0 (.ref o :: As)) [] h (.inr x) h1) (hx : h1[x]? = some (mT kd)) (k : Ev M (d + 1) en.2.2.1 lv [.ref x] h1 r h') : Ev M (d + 1) pc lv st0 h r h' := by
  refine ⟨Nat.le_trans ev.1 k.1, Nat.le_trans ev.2.1 k.2.1, fun p l e R s m args below meth c H locs cells slots D sd b B ls k0 ns hK => ?_⟩
  intro T hT X
  subst hT
  obtain ⟨mk, vm₁, hn, X₁, hstep⟩ := call_v X hK.1 hK.2.2.1 hd hl hN hm hs ho hci hnp hst
  obtain ⟨hC, hlv, hw, hL, hz, z1, z2, z3, z4⟩ := hK
  have i1 := ev.1
  have i2 := ev.2.1
  have i3 := k.1
  have i4 := k.2.1
  obtain ⟨T', L, X', hL', hw', -, hr1⟩ := call_in X₁ hC (show mW D s b B sd h (T.setVm vm₁).heap from hw) hL (g := F0 m pc ls (st.map (cz b B sd))) rfl (hlv.1.trans hC.ml.symm) (by rw [hC.co]; exact hd) hN hn (.ref o :: As)
    (by rw [cz_cats]; show 2 * 0 + _ ≤ 8; omega) hal ev (k1 := cells + (h1.length - h.length)) (n1 := slots + (hSz h1 - hSz h)) (by omega) (by omega) (by omega) (by omega)
  have hsz := hw'.2.2.1
  have hsz0 := hw.2.2.1
  obtain ⟨ce, c1, c2, c3⟩ := hw'.1 x _ hx
  have K := k.2.2 p l e R s m args below meth c T'.heap (locs ++ L) (cells + (h1.length - h.length)) (slots + (hSz h1 - hSz h)) D sd b B ls k0 ns ⟨hC, hlv, hw', fun q hq => (List.mem_append.mp hq).elim (hL q) (hL' q), by omega, by omega, by omega, z3, z4⟩
  have V := vx_catch (p := p) (l := l) (e := e) (R := R) (args := args) (below := below) (meth := meth) (locs := locs ++ L) (cells := cells + (h1.length - h.length)) (slots := slots + (hSz h1 - hSz h)) (Q := SQ below s D sd b B r h' k0 ns) (pc := pc) (ls := ls) (rest := st.map (cz b B sd)) (H := T'.heap) (E := exN kd) (name := exN kd) (q := adr b B x) (ce := ce) hC.own (tableOf pre) ⟨en.1, en.2.1, en.2.2.1, en.2.2.2⟩ (tableOf suf)
    (by rw [hC.tab, hsp]; simp [tableOf]) (fun z hz => by
      obtain ⟨y, hy, rfl⟩ := List.mem_map.mp hz
      obtain ⟨g1, nm, g2, g3⟩ := hpass y hy
      exact Or.inr ⟨g1, nm, hC.w g2 _, hC.2.1.2.2.2.2.2.2.2.1 _ g3⟩) hcov hne (hC.w hlk _) (hC.2.1.1 _ hct rfl _) c1 c2 c3 K
  obtain ⟨t, a1, b1⟩ := V T' rfl X'
  exact ⟨t, hstep _ (fun acts => (hr1 x rfl acts).trans a1), b1⟩
theorem ev_mmax {ix : Nat} {x y : Int32} (hd : decode M.2.1 pc = .ok (.invokestatic ix, 3)) (hl : InT (.methodLink M.1.cls ix Lib.Math.max.name)) (hm : InT (.static Lib.Math.max.name)) (hi : InT (.initialized "java/lang/Math")) (hc : InT (.code Lib.Math.max.name Lib.Math.max.code 2 (some .int))) (hcat : (st.map fun v => v.category).sum ≤ 8) (k : Ev M d (pc + 3) lv (.int (if x < y then y else x) :: st) h r h') : Ev M d pc lv (.int y :: .int x :: st) h r h' := by
  refine ⟨k.1, k.2.1, fun p l e R s m args below meth c H locs cells slots D sd b B ls k0 ns hK => ?_⟩
  have hC := hK.1
  have h1 : d + 10 ≤ R.frames := hC.2.2.1
  have h2 : 60 * d + 300 ≤ R.locals := hC.2.2.2
  have i1 := k.1
  have i2 := k.2.1
  have i3 := hK.2.2.2.2.2
  exact va_mmax hC.ex hC.co (hC.ml.trans hK.2.1.1.symm) hC.own (hC.w hl _) (hC.w hm _) (hC.w hi _) (hC.w hc _) (by omega) (by rw [cz_cats]; omega) (by omega) (by omega) hd (k.2.2 p l e R s m args below meth c H locs cells slots D sd b B ls k0 ns hK)
theorem ev_mmin {ix : Nat} {x y : Int32} (hd : decode M.2.1 pc = .ok (.invokestatic ix, 3)) (hl : InT (.methodLink M.1.cls ix Lib.Math.min.name)) (hm : InT (.static Lib.Math.min.name)) (hi : InT (.initialized "java/lang/Math")) (hc : InT (.code Lib.Math.min.name Lib.Math.min.code 2 (some .int))) (hcat : (st.map fun v => v.category).sum ≤ 8) (k : Ev M d (pc + 3) lv (.int (if y < x then y else x) :: st) h r h') : Ev M d pc lv (.int y :: .int x :: st) h r h' := by
  refine ⟨k.1, k.2.1, fun p l e R s m args below meth c H locs cells slots D sd b B ls k0 ns hK => ?_⟩
  have hC := hK.1
  have h1 : d + 10 ≤ R.frames := hC.2.2.1
  have h2 : 60 * d + 300 ≤ R.locals := hC.2.2.2
  have i1 := k.1
  have i2 := k.2.1
  have i3 := hK.2.2.2.2.2
  exact va_mmin hC.ex hC.co (hC.ml.trans hK.2.1.1.symm) hC.own (hC.w hl _) (hC.w hm _) (hC.w hi _) (hC.w hc _) (by omega) (by rw [cz_cats]; omega) (by omega) (by omega) hd (k.2.2 p l e R s m args below meth c H locs cells slots D sd b B ls k0 ns hK)
theorem ev_mabs {ix : Nat} {x : Int32} (hd : decode M.2.1 pc = .ok (.invokestatic ix, 3)) (hl : InT (.methodLink M.1.cls ix Lib.Math.abs.name)) (hm : InT (.static Lib.Math.abs.name)) (hi : InT (.initialized "java/lang/Math")) (hc : InT (.code Lib.Math.abs.name Lib.Math.abs.code 1 (some .int))) (hcat : (st.map fun v => v.category).sum ≤ 8) (k : Ev M d (pc + 3) lv (.int (if 0 ≤ x then x else 0 - x) :: st) h r h') : Ev M d pc lv (.int x :: st) h r h' := by
  refine ⟨k.1, k.2.1, fun p l e R s m args below meth c H locs cells slots D sd b B ls k0 ns hK => ?_⟩
  have hC := hK.1
  have h1 : d + 10 ≤ R.frames := hC.2.2.1
  have h2 : 60 * d + 300 ≤ R.locals := hC.2.2.2
  have i1 := k.1
  have i2 := k.2.1
  have i3 := hK.2.2.2.2.2
  exact va_mabs hC.ex hC.co (hC.ml.trans hK.2.1.1.symm) hC.own (hC.w hl _) (hC.w hm _) (hC.w hi _) (hC.w hc _) (by omega) (by rw [cz_cats]; omega) (by omega) (by omega) hd (k.2.2 p l e R s m args below meth c H locs cells slots D sd b B ls k0 ns hK)
end EV5
