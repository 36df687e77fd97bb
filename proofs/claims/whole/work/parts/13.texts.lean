/-! arraycopy, and the JDK's texts -/
section EV6
variable {M N : Mt} {d pc np : Nat} {lv : List (Nat × Value)} {st st0 As : List Value} {h h1 h' : mH} {r : mR} {v : Option Value}
theorem ev_acopy {ix o1 o2 n1 n2 : Nat} {f g : Nat → Int32} {x0 x1 x2 : Int32} (n : Nat) (hd : decode M.2.1 pc = .ok (.invokestatic ix, 3)) (hl : InT (.methodLink M.1.cls ix arraycopyName)) (hnat : InT (.native arraycopyName)) (hm : InT (.static arraycopyName)) (hi : InT (.initialized "java/lang/System")) (ho1 : h[o1]? = some (mA n1 f)) (ho2 : h[o2]? = some (mA n2 g)) (hx0 : x0 = nI 0) (hx1 : x1 = nI 0) (hx2 : x2 = nI n) (hn1 : n ≤ n1) (hn2 : n ≤ n2) (hb1 : n1 < 2 ^ 31) (hb2 : n2 < 2 ^ 31) (hcat : (st.map fun v => v.category).sum ≤ 8)
    (k : Ev M d (pc + 3) lv st (h.set o2 (mA n2 (va_cpy f g 0 0 n))) r h') : Ev M d pc lv (.int x2 :: .int x1 :: .ref o2 :: .int x0 :: .ref o1 :: st) h r h' := by
  subst hx0; subst hx1; subst hx2
  have e0 : eSz (mA n2 (va_cpy f g 0 0 n)) = eSz (mA n2 g) := rfl
  refine ⟨by have := k.1; rwa [List.length_set] at this, by have := k.2.1; rwa [hSz_set ho2 e0] at this, fun p l e R s m args below meth c H locs cells slots D sd b B ls k0 ns hK => ?_⟩
  obtain ⟨hC, hlv, hw, hL, hz, z1, z2, z3, z4⟩ := hK
  have hr1 : d + 10 ≤ R.frames := hC.2.2.1
  have hr2 : 60 * d + 300 ≤ R.locals := hC.2.2.2
  obtain ⟨c0, q1, q2⟩ := hw.1 o1 _ ho1
  obtain ⟨c1, q3, q4⟩ := hw.1 o2 _ ho2
  obtain ⟨-, k1, hk1, cm1, hkk1⟩ := q2 n1 (fun j => .int (f j))
  obtain ⟨-, k2, hk2, cm2, hkk2⟩ := q4 n2 (fun j => .int (g j))
  have hnl : n < 2 ^ 31 := by omega
  have t0 : (nI 0).toInt = 0 := nI_toInt (by omega)
  have tn : (nI n).toInt = (n : Int) := nI_toInt hnl
  have cl0 : (nI 0).toNatClampNeg = 0 := nI_clamp (by omega)
  have cln : (nI n).toNatClampNeg = n := nI_clamp hnl
  have hlo : 2 * (F0 m pc ls (.int (nI n) :: .int (nI 0) :: .ref (adr b B o2) :: .int (nI 0) :: .ref (adr b B o1) :: st.map (cz b B sd))).monitorRoom + ((st.map (cz b B sd)).map fun v => v.category).sum + (nativeFrameWords "java/lang/System" "arraycopy" 5 + 11) ≤ R.locals := by
    have hnf : nativeFrameWords "java/lang/System" "arraycopy" 5 ≤ 200 := by decide +kernel
    rw [cz_cats]
    show 2 * 0 + _ + _ ≤ _
    omega
  intro T hT X
  obtain ⟨vm', X', step⟩ := X.arraycopy hC.ex hC.own (hC.w hl _) (hC.w hnat _) (hC.w hm _) (hC.w hi _) (src := adr b B o1) (dst := adr b B o2) (cs := arrV c0 n1 (fun j => .int (f j))) (cd := arrV c1 n2 (fun j => .int (g j))) (srcPos := nI 0) (destPos := nI 0) (n := nI n) (by rw [hT]; exact q1) (by rw [hT]; exact q3)
    (fun _ h => by cases h) (fun _ h => by cases h) (fun h => by cases h) (fun h => by cases h) hk1 hk2 hkk1 hkk2 (by simp [refKind]) (nI_pos (by omega)) (nI_pos (by omega)) (nI_pos hnl)
    (by rw [t0, tn, arrV_size]; omega) (by rw [t0, tn, arrV_size]; omega)
    (fun vm₁ _ i hi => by
      rw [cln] at hi
      have e9 : (arrV c0 n1 (fun j => Value.int (f j))).slots.getD ((nI 0).toNatClampNeg + i) .null = .int (f (0 + i)) := by
        rw [cl0, Array.getD_eq_getD_getElem?, arrV_read _ _ (by omega)]
        rfl
      rw [e9]
      exact ⟨rfl, trivial⟩)
    (g := F0 m pc ls (.int (nI n) :: .int (nI 0) :: .ref (adr b B o2) :: .int (nI 0) :: .ref (adr b B o1) :: st.map (cz b B sd))) rfl (hlv.1.trans hC.ml.symm) (rest := st.map (cz b B sd)) rfl (by rw [hC.co]; exact hd) (by omega) hlo
  have e1 : copied (arrV c0 n1 (fun j => Value.int (f j))) (arrV c1 n2 (fun j => Value.int (g j))) (nI 0) (nI 0) (nI n) = arrV c1 n2 (fun j => .int (va_cpy f g 0 0 n j)) := by
    have e2 := va_copied (sp := 0) (dp := 0) (n := n) (n0 := n1) (n1 := n2) (fun z => Value.int z) c0 c1 f g (by omega)
    unfold copied
    rw [cl0, cln]
    exact e2
  rw [e1] at X' step
  have hlt : adr b B o2 < H.size := (Array.getElem?_eq_some_iff.mp q3).1
  have hheap : ((T.setVm vm').setCell (adr b B o2) (arrV c1 n2 (fun j => .int (va_cpy f g 0 0 n j)))).heap = H.setIfInBounds (adr b B o2) (arrV c1 n2 (fun j => .int (va_cpy f g 0 0 n j))) := by rw [← hT]; rfl
  obtain ⟨t, a1, b1⟩ := k.2.2 p l e R s m args below meth c _ _ cells slots D sd b B ls k0 ns ⟨hC, hlv, hw.set (H1 := H.setIfInBounds (adr b B o2) (arrV c1 n2 (fun j => .int (va_cpy f g 0 0 n j)))) ho2 rfl ⟨c1, by simp [Array.getElem?_setIfInBounds, hlt], q4⟩ (by simp) (fun q hq => by simp [Array.getElem?_setIfInBounds, Ne.symm hq]), (fun q hq => by
      rcases List.mem_append.mp hq with hq | hq
      · exact hL q hq
      · obtain ⟨z, -, hz⟩ := List.mem_map.mp hq
        rw [← hz]
        exact hw.fr ho2 rfl), by simp; exact hz, by rw [List.length_set]; exact z1, by rw [hSz_set ho2 e0]; exact z2, z3, z4⟩ _ hheap X'
  exact ⟨t, step t a1, b1⟩
/-- the constant i of the texts: its place holds a String of latin letters -/
theorem str_at {p : Program} {l : Launch} {e : Env} {R : Room} {s : State} {m : MethodId} {args : Array Value} {below : List Frame} {meth : Method} {c : Code} {T : State} {locs : List Loc} {cells slots : Nat} {D : va_G} {sd : Nat → Nat} {b B : Nat} (X : Stand p l e R s m args below meth c T locs cells slots) (hL : ∀ q ∈ locs, B ≤ q.base) : va_S (fun q => B ≤ q) s.heap T.heap locs := ⟨(st_keep X hL).1, (st_keep X hL).2, hL⟩
theorem ev_goS {pc' : Nat} {st' : List Value}
    (f : ∀ {p : Program} {l : Launch} {e : Env} {R : Room} {s : State} {m : MethodId} {args : Array Value} {below : List Frame} {meth : Method} {c : Code} {H : Heap} {locs : List Loc} {cells slots : Nat} {Q : State → Prop} {D : va_G} {sd : Nat → Nat} {b B : Nat} {ls : Array Slot},
      Cx M d p l R s m meth c D sd B → va_S (fun q => B ≤ q) s.heap H locs → W p l e R s m args below meth c H locs cells slots Q (F0 m pc' ls (st'.map (cz b B sd))) → W p l e R s m args below meth c H locs cells slots Q (F0 m pc ls (st.map (cz b B sd))))
    (k : Ev M d pc' lv st' h r h') : Ev M d pc lv st h r h' :=
  ⟨k.1, k.2.1, fun p l e R s m args below meth c H locs cells slots D sd b B ls k0 ns hK => fun T hT X => f hK.1 (by rw [← hT]; exact str_at (b := 0) (D := D) (sd := sd) X hK.2.2.2.1) (k.2.2 p l e R s m args below meth c H locs cells slots D sd b B ls k0 ns hK) T hT X⟩
theorem ev_strval {ix i : Nat} (hd : decode M.2.1 pc = .ok (.getfield ix, 3)) (hi : i < 2) (hl : InT (.fieldLink M.1.cls ix "java/lang/String" "value" "[B")) (k : Ev M d (pc + 3) lv (.retAddr (100 + i) :: st) h r h') : Ev M d pc lv (.retAddr i :: st) h r h' :=
  ev_goS (fun hC hS k => vk_getf hC.ex hC.co ((hC.2.1.2.2.2.2.2.2.1).1 i hi).2.2.1 hS hC.own (hC.w hl _) (fun _ h => h) hd k) k
theorem ev_strcoder {ix i : Nat} (hd : decode M.2.1 pc = .ok (.getfield ix, 3)) (hi : i < 2) (hl : InT (.fieldLink M.1.cls ix "java/lang/String" "coder" "B")) (k : Ev M d (pc + 3) lv (.int 0 :: st) h r h') : Ev M d pc lv (.retAddr i :: st) h r h' :=
  ev_goS (fun hC hS k => vk_getf hC.ex hC.co ((hC.2.1.2.2.2.2.2.2.1).1 i hi).2.1 hS hC.own (hC.w hl _) (fun _ h => h) hd k) k
theorem ev_compact {ix : Nat} (hd : decode M.2.1 pc = .ok (.getstatic ix, 3)) (hl : InT (.fieldLink M.1.cls ix "java/lang/String" "COMPACT_STRINGS" "Z")) (k : Ev M d (pc + 3) lv (.int 1 :: st) h r h') : Ev M d pc lv st h r h' :=
  ev_goS (fun hC hS k => va_gets hC.ex hC.co hC.2.1.2.2.2.2.2.2.2.2.1 hS hC.own (hC.w hl _) (fun _ h => h) hd k) k
theorem ev_sioobe {ix : Nat} (hd : decode M.2.1 pc = .ok (.getstatic ix, 3)) (hl : InT (.fieldLink M.1.cls ix "jdk/internal/util/Preconditions" "SIOOBE_FORMATTER" "Ljava/util/function/BiFunction;")) (k1 : Ev M d (pc + 3) lv (.null :: st) h r h') (k2 : Ev M d (pc + 3) lv (.retAddr 200 :: st) h r h') : Ev M d pc lv st h r h' :=
  ⟨k1.1, k1.2.1, fun p l e R s m args below meth c H locs cells slots D sd b B ls k0 ns hK => fun T hT X => by
    have hS : va_S (fun q => B ≤ q) s.heap H locs := by rw [← hT]; exact str_at (b := 0) (D := D) (sd := sd) X hK.2.2.2.1
    have hC := hK.1
    rcases hC.2.1.2.2.2.2.2.2.2.2.2 with z | z
    · exact va_gets hC.ex hC.co z hS hC.own (hC.w hl _) (fun _ h => h) hd (k1.2.2 p l e R s m args below meth c H locs cells slots D sd b B ls k0 ns hK) T hT X
    · exact va_gets hC.ex hC.co z hS hC.own (hC.w hl _) (fun _ h => h) hd (k2.2.2 p l e R s m args below meth c H locs cells slots D sd b B ls k0 ns hK) T hT X⟩
theorem ev_i2c {x v : Int32} (hd : decode M.2.1 pc = .ok (.i2c, 1)) (hv : (x.toUInt32 % 65536).toInt32 = v) (k : Ev M d (pc + 1) lv (.int v :: st) h r h') : Ev M d pc lv (.int x :: st) h r h' := ev_go (fun hC hl hw k => lv_i2c hC.ex hC.co hd hv k) k
theorem ev_strlen {i n : Nat} (hd : decode M.2.1 pc = .ok (.arraylength, 1)) (hi : i < 2) (hn : lenStr.getD i 0 = n) (k : Ev M d (pc + 1) lv (.int (nI n) :: st) h r h') : Ev M d pc lv (.retAddr (100 + i) :: st) h r h' :=
  ev_goS (fun hC hS k => va_tlen hC.ex hC.co ((hC.2.1.2.2.2.2.2.2.1).1 i hi).2.2.2 hS (by rw [hn]; rfl) hd k) k
theorem ev_strb {i n j : Nat} {x : Int32} (hd : decode M.2.1 pc = .ok (.baload, 1)) (hi : i < 2) (hx : x = nI j) (hn : lenStr.getD i 0 = n) (hj : j < n) (hnb : n < 2 ^ 31) (k : Ev M d (pc + 1) lv (.int ((bytStr.getD i []).getD j 0) :: st) h r h') : Ev M d pc lv (.int x :: .retAddr (100 + i) :: st) h r h' := by
  subst hx
  exact ev_goS (fun hC hS k => va_tb hC.ex hC.co ((hC.2.1.2.2.2.2.2.2.1).1 i hi).2.2.2 hS (by rw [hn]; exact vp_in_nI hj hnb) (by rw [nI_clamp (by omega)]; rfl) hd k) k
theorem ev_aloadS {q : Fin 4} {i j o : Nat} (hd : decode M.2.1 pc = .ok (.aload_n q, 1)) (hi : (q : Nat) = i) (hj : lv[j]? = some (i, .retAddr o)) (k : Ev M d (pc + 1) lv (.retAddr o :: st) h r h') : Ev M d pc lv st h r h' := ev_go (fun hC hl hw k => lv_aload_n hC.ex hC.co hd hi (cz_at hl hj) k) k
/-- a call on a text constant -/
theorem ev_callVs {ix i : Nat} (hd : decode M.2.1 pc = .ok (.invokevirtual ix, 3)) (hl : InT (.methodLink M.1.cls ix N.1)) (hN : Cal N np) (hm : InT (.instanceMethod N.1)) (hs : InT (.selects N.1.cls N.1 N.1)) (hi : i < 2) (hci : N.1.cls = "java/lang/String") (hnp : As.length = np) (hal : ((Value.retAddr i :: As).map fun v => v.category).sum ≤ N.2.2.1) (hcat : (st.map fun v => v.category).sum ≤ 8) (hst : st0 = As.reverse ++ .retAddr i :: st)
    (ev : Ev N d 0 (lv_args 0 (.retAddr i :: As)) [] h (.inl v) h1) (k : Ev M (d + 1) (pc + 3) lv (v.toList ++ st) h1 r h') : Ev M (d + 1) pc lv st0 h r h' := by
  refine ⟨Nat.le_trans ev.1 k.1, Nat.le_trans ev.2.1 k.2.1, fun p l e R s m args below meth c H locs cells slots D sd b B ls k0 ns hK => ?_⟩
  intro T hT X
  subst hT
  have hC := hK.1
  obtain ⟨mk, methM, hnamed, hmethM, hstM, habM⟩ := Cond.instanceMethod_spec (hC.w hm args)
  obtain ⟨methk, ck, a1, a2, a3, a4, a5, a6, a7, a8⟩ := hN.spec (args := args) (s := s) (fun w hw => hC.w hw _) hnamed
  cases hmethM.symm.trans a1
  obtain ⟨c2, r2, m2, q1, q2, q3, q4, kP, hkP, hkPi⟩ := Cond.selects_spec (hC.w hs args)
  have hS : va_S (fun q => B ≤ q) s.heap T.heap locs := str_at (b := 0) (D := D) (sd := sd) X hK.2.2.2.1
  obtain ⟨cell, w3, w5, w6⟩ := vk_recv (hC.2.1.2.2.2.2.2.2.1) hi hS
  have hcls : s.vm.findClass N.1.cls = some cell.cls := by rw [hci]; exact w6
  cases hcls.symm.trans q1
  cases (State.methodFound?_of_named hnamed hN.2.2.1).symm.trans q2
  cases hnamed.symm.trans q3
  have hselP : selectMethod e.platform s.vm cell.cls mk = .method mk := by rw [Launch.admits_selectMethod X.admits]; exact q4
  have hlen : (As.map (cz b B sd)).length = methM.sig.parameters.length := by
    have h2 := hN.2.2.2.1
    rw [a8] at h2
    rw [List.length_map, hnp]
    exact (Option.some.inj h2).symm
  obtain ⟨vm₁, X₁, hstep₁⟩ := X.invokevirtual hC.ex hC.own (hC.w hl _) hnamed hmethM hstM hkP hkPi hN.2.2.1 (a := sd i) (cell := cell) w3 (fun z h => by rw [h] at w5; cases w5) hselP hmethM habM hkP hkPi (g := F0 m pc ls (st0.map (cz b B sd))) rfl (argsL := As.map (cz b B sd)) (rest := st.map (cz b B sd)) hlen
    (by show st0.map (cz b B sd) = _; rw [hst, List.map_append, List.map_reverse, List.map_cons]; rfl) (by rw [hC.co]; exact hd)
  exact call_go hK X₁ hd hN hnamed (.retAddr i :: As) hcat hal ev k hstep₁
end EV6
