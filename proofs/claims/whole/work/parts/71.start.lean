/-! THE CLAIM OUT OF ONE WALK OF THE LAW'S BODY. Your part is whole_start (and what it stands on); all else here is the same for every law, but numbers. -/
def R_law : String := "NameWriterLaw"
def lw_P (b : Addr) (xs : List Int32) (args : Array Value) (s : State) : Prop := args = #[.ref b] ∧ s.IntsAt b xs ∧ xs.length ≤ 3072 ∧ (Jvm.Cond.and given_1 narrow_1).before args s = true
def lw_Q (_ : Array Value) (s : State) (o : Outcome) (t : State) : Prop := o = .returned (some (.int 1)) ∧ Framed s o t [] 601024 7293034
def lw_Z (below : List Frame) (a : Array Value) (s : State) : State → Prop := fun t => ∃ o, t.status = .running ∧ Ended t below o ∧ lw_Q a s o t
/-- the law's own end, with 1 on the stack, nothing written that was there before, its room as the claim has it -/
theorem lw_ret {p : Program} {l : Launch} {e : Env} {s : State} {m : MethodId} {below : List Frame} {meth : Method} {c : Code} {b : Nat} (hx : p.tables.exec = Jvm.exec) (hb : c.code = code) (hr : meth.sig.returnType = ret) (hlocks : meth.locks = false) {pc : Nat} {H : Heap} {ls : Array Slot} (hdg : decode code pc = .ok (.ireturn, 1)) : W p l e room_1 s m #[Value.ref b] below meth c H [] 601024 7293034 (lw_Z below #[Value.ref b] s) (F0 m pc ls [.int 1]) := by
  intro T hT X
  obtain ⟨fs, hret, hrun, hended, hW, hframe⟩ := X.leave (v := some (.int 1)) (hlocks := hlocks) (fun h => by rw [hr] at h; cases h)
  have hmeth' : T.vm.method? m = some meth := X.method'
  refine ⟨T.setFrames fs, ?_, .returned (some (.int 1)), hrun, hended, rfl, ⟨_, rfl⟩, hW, hframe⟩
  jvm_step X.here [X.here.top, hx, hb, hdg, hmeth', hr, ret, narrow_b1]
  (try refine ⟨rfl, ?_⟩); (try refine ⟨rfl, ?_⟩)
  first | (intro acts; rw [hret _ acts rfl rfl rfl]) | rw [hret _ _ rfl rfl rfl]
  exact Steps.refl _
/-- what holds at the law's entry: the machine, the code, the tables' words (any of lw_tbl by 'hts w (by decide +kernel)'), the script of L ints xs at the cell b, what the Statement gives of the start (any of its parts by flat_of_before) -/
def lw_At (p : Program) (s : State) (m : MethodId) (meth : Method) (c : Code) (b L : Nat) (xs : Nat → Int32) : Prop :=
  p.tables.exec = Jvm.exec ∧ c.code = code ∧ meth.sig.returnType = ret ∧ c.maxLocals = 7 ∧ s.vm.findClass R_law = some m.cls ∧ (∀ w ∈ lw_tbl, w.before #[Value.ref b] s = true) ∧ va_X b L xs s s.heap ∧ b < s.heap.size ∧ meth.locks = false ∧ (Jvm.Cond.and given_1 narrow_1).before #[Value.ref b] s = true
-- ===== YOUR PART BEGINS =====
def tmStr : Nat → Term
  | 0 => .string "NameWriter$Nodes" 29
  | _ => .string "NameWriter$Writer" 112
set_option maxHeartbeats 4000000 in
set_option maxRecDepth 100000 in
theorem gx_start {p : Program} {s : State} {m : MethodId} {meth : Method} {c : Code} {b L : Nat} {xs : Nat → Int32} (C0 : lw_At p s m meth c b L xs) : ∃ (D : va_G) (sd : Nat → Nat), Gx s D sd s.heap.size := by
  obtain ⟨hx, hb, hr, hml, hown, hts, hX, hbl, hlocks, hgv⟩ := id C0
  have hf : ∀ (i : Nat) (w : Cond), (flatC (Jvm.Cond.and given_1 narrow_1))[i]? = some w → w.before #[Value.ref b] s = true := fun i w h => flat_of_before _ hgv w (List.mem_of_getElem? h)
  have hA : ∀ a : Nat, a < s.heap.size → ¬ (fun q : Nat => s.heap.size ≤ q) a := fun a ha => Nat.not_le.mpr ha
  obtain ⟨c0, i0, k0⟩ := u_known (C := "NameWriter$Nodes") (T := nT0) (N := 3) (n := 3) hts nU0 (hts (.instantiable "NameWriter$Nodes" 3) (List.mem_append_right _ (List.mem_of_getElem? (i := 28) (by decide +kernel))))
  obtain ⟨c1, i1, k1⟩ := u_known (C := "NameWriter$Reader") (T := nT1) (N := 4) (n := 4) hts nU1 (hts (.instantiable "NameWriter$Reader" 4) (List.mem_append_right _ (List.mem_of_getElem? (i := 78) (by decide +kernel))))
  obtain ⟨c2, i2, k2⟩ := u_known (C := "NameWriter$Row") (T := nT2) (N := 2) (n := 2) hts nU2 (hts (.instantiable "NameWriter$Row" 2) (List.mem_append_right _ (List.mem_of_getElem? (i := 45) (by decide +kernel))))
  obtain ⟨c3, i3, k3⟩ := u_known (C := "NameWriter$Writer") (T := nT3) (N := 3) (n := 3) hts nU3 (hts (.instantiable "NameWriter$Writer" 3) (List.mem_append_right _ (List.mem_of_getElem? (i := 58) (by decide +kernel))))
  obtain ⟨c4, i4, k4⟩ := u_known (C := "NameWriter") (T := nT4) (N := 5) (n := 5) hts nU4 (hts (.instantiable "NameWriter" 5) (List.mem_append_right _ (List.mem_of_getElem? (i := 20) (by decide +kernel))))
  obtain ⟨c5, i5, k5⟩ := u_known (C := "NameWriterModel") (T := nT5) (N := 26) (n := 26) hts nU5 (hts (.instantiable "NameWriterModel" 26) (List.mem_append_right _ (List.mem_of_getElem? (i := 724) (by decide +kernel))))
  have hK : ∃ D : va_G, va_K D vCl [] s := by
    refine ⟨(fun k => [c0, c1, c2, c3, c4, c5].getD k c0, fun k => [i0, i1, i2, i3, i4, i5].getD k i0), fun k q hq => ?_, fun k q h => by simp at h⟩
    match k, hq with
    | 0, hq => cases hq; exact k0
    | 1, hq => cases hq; exact k1
    | 2, hq => cases hq; exact k2
    | 3, hq => cases hq; exact k3
    | 4, hq => cases hq; exact k4
    | 5, hq => cases hq; exact k5
    | k + 6, hq => simp at hq
  obtain ⟨D, hK⟩ := hK
  have hS := vk_Sof (args := #[Value.ref b]) (s := s) (N := 2) (tm := tmStr) (len := lenStr) (byt := bytStr) (A := fun q => s.heap.size ≤ q)
    (fun i hi => by
      rcases (show i = 0 ∨ i = 1 by omega) with rfl | rfl <;> decide)
    (fun i hi => by
      rcases (show i = 0 ∨ i = 1 by omega) with rfl | rfl
      · exact hf 35 _ (by decide +kernel)
      · exact hf 772 _ (by decide +kernel))
    (fun i hi => by
      rcases (show i = 0 ∨ i = 1 by omega) with rfl | rfl
      · exact hf 36 _ (by decide +kernel)
      · exact hf 773 _ (by decide +kernel))
    (fun i hi => by
      rcases (show i = 0 ∨ i = 1 by omega) with rfl | rfl
      · exact hf 37 _ (by decide +kernel)
      · exact hf 774 _ (by decide +kernel))
    (fun i hi => by
      rcases (show i = 0 ∨ i = 1 by omega) with rfl | rfl
      · exact hf 38 _ (by decide +kernel)
      · exact hf 775 _ (by decide +kernel))
    (fun i hi => by
      rcases (show i = 0 ∨ i = 1 by omega) with rfl | rfl
      · intro j hj
        have hj : j < 8 := hj
        rcases (show j = 0 ∨ j = 1 ∨ j = 2 ∨ j = 3 ∨ j = 4 ∨ j = 5 ∨ j = 6 ∨ j = 7 by omega) with rfl | rfl | rfl | rfl | rfl | rfl | rfl | rfl
        · exact hf 39 _ (by decide +kernel)
        · exact hf 40 _ (by decide +kernel)
        · exact hf 41 _ (by decide +kernel)
        · exact hf 42 _ (by decide +kernel)
        · exact hf 43 _ (by decide +kernel)
        · exact hf 44 _ (by decide +kernel)
        · exact hf 45 _ (by decide +kernel)
        · exact hf 46 _ (by decide +kernel)
      · intro j hj
        have hj : j < 3 := hj
        rcases (show j = 0 ∨ j = 1 ∨ j = 2 by omega) with rfl | rfl | rfl
        · exact hf 776 _ (by decide +kernel)
        · exact hf 777 _ (by decide +kernel)
        · exact hf 778 _ (by decide +kernel))
    (fun i j hi hj hij => by
      rcases (show (i = 0 ∧ j = 1) ∨ (i = 1 ∧ j = 0) by omega) with ⟨rfl, rfl⟩ | ⟨rfl, rfl⟩
      · exact Or.inl (hf 779 _ (by decide +kernel))
      · exact Or.inr (hf 779 _ (by decide +kernel))) hA
  obtain ⟨adK, adV, hVS, hVe⟩ := hS
  obtain ⟨a2, _, _, _, e2, _⟩ := Cond.exactly_spec (args := #[Value.ref b]) (first := s) (o := none) (s := s) (idx := []) (t := .string "NameWriter$Nodes" 39) (cls := "java/lang/String") (hf 47 _ (by decide +kernel))
  obtain ⟨a3, _, _, _, e3, _⟩ := Cond.exactly_spec (args := #[Value.ref b]) (first := s) (o := none) (s := s) (idx := []) (t := .string "NameWriter$Nodes" 119) (cls := "java/lang/String") (hf 67 _ (by decide +kernel))
  obtain ⟨a4, _, _, _, e4, _⟩ := Cond.exactly_spec (args := #[Value.ref b]) (first := s) (o := none) (s := s) (idx := []) (t := .string "NameWriter$Nodes" 121) (cls := "java/lang/String") (hf 81 _ (by decide +kernel))
  obtain ⟨a5, _, _, _, e5, _⟩ := Cond.exactly_spec (args := #[Value.ref b]) (first := s) (o := none) (s := s) (idx := []) (t := .string "NameWriter$Nodes" 24) (cls := "java/lang/String") (hf 119 _ (by decide +kernel))
  obtain ⟨a6, _, _, _, e6, _⟩ := Cond.exactly_spec (args := #[Value.ref b]) (first := s) (o := none) (s := s) (idx := []) (t := .string "NameWriter$Nodes" 97) (cls := "java/lang/String") (hf 145 _ (by decide +kernel))
  obtain ⟨a7, _, _, _, e7, _⟩ := Cond.exactly_spec (args := #[Value.ref b]) (first := s) (o := none) (s := s) (idx := []) (t := .string "NameWriter$Nodes" 99) (cls := "java/lang/String") (hf 183 _ (by decide +kernel))
  obtain ⟨a8, _, _, _, e8, _⟩ := Cond.exactly_spec (args := #[Value.ref b]) (first := s) (o := none) (s := s) (idx := []) (t := .string "NameWriter$Nodes" 57) (cls := "java/lang/String") (hf 218 _ (by decide +kernel))
  obtain ⟨a9, _, _, _, e9, _⟩ := Cond.exactly_spec (args := #[Value.ref b]) (first := s) (o := none) (s := s) (idx := []) (t := .string "NameWriter$Nodes" 67) (cls := "java/lang/String") (hf 254 _ (by decide +kernel))
  obtain ⟨a10, _, _, _, e10, _⟩ := Cond.exactly_spec (args := #[Value.ref b]) (first := s) (o := none) (s := s) (idx := []) (t := .string "NameWriter$Nodes" 69) (cls := "java/lang/String") (hf 283 _ (by decide +kernel))
  obtain ⟨a11, _, _, _, e11, _⟩ := Cond.exactly_spec (args := #[Value.ref b]) (first := s) (o := none) (s := s) (idx := []) (t := .string "NameWriter$Nodes" 104) (cls := "java/lang/String") (hf 332 _ (by decide +kernel))
  obtain ⟨a12, _, _, _, e12, _⟩ := Cond.exactly_spec (args := #[Value.ref b]) (first := s) (o := none) (s := s) (idx := []) (t := .string "NameWriter$Nodes" 74) (cls := "java/lang/String") (hf 358 _ (by decide +kernel))
  obtain ⟨a13, _, _, _, e13, _⟩ := Cond.exactly_spec (args := #[Value.ref b]) (first := s) (o := none) (s := s) (idx := []) (t := .string "NameWriter$Nodes" 76) (cls := "java/lang/String") (hf 387 _ (by decide +kernel))
  obtain ⟨a14, _, _, _, e14, _⟩ := Cond.exactly_spec (args := #[Value.ref b]) (first := s) (o := none) (s := s) (idx := []) (t := .string "NameWriter$Nodes" 109) (cls := "java/lang/String") (hf 432 _ (by decide +kernel))
  obtain ⟨a15, _, _, _, e15, _⟩ := Cond.exactly_spec (args := #[Value.ref b]) (first := s) (o := none) (s := s) (idx := []) (t := .string "NameWriter$Nodes" 86) (cls := "java/lang/String") (hf 467 _ (by decide +kernel))
  obtain ⟨a16, _, _, _, e16, _⟩ := Cond.exactly_spec (args := #[Value.ref b]) (first := s) (o := none) (s := s) (idx := []) (t := .string "NameWriter$Nodes" 90) (cls := "java/lang/String") (hf 508 _ (by decide +kernel))
  obtain ⟨a17, _, _, _, e17, _⟩ := Cond.exactly_spec (args := #[Value.ref b]) (first := s) (o := none) (s := s) (idx := []) (t := .string "NameWriter$Nodes" 92) (cls := "java/lang/String") (hf 566 _ (by decide +kernel))
  obtain ⟨a18, _, _, _, e18, _⟩ := Cond.exactly_spec (args := #[Value.ref b]) (first := s) (o := none) (s := s) (idx := []) (t := .string "NameWriter" 89) (cls := "java/lang/String") (hf 616 _ (by decide +kernel))
  obtain ⟨a19, _, _, _, e19, _⟩ := Cond.exactly_spec (args := #[Value.ref b]) (first := s) (o := none) (s := s) (idx := []) (t := .string "NameWriter$Writer" 54) (cls := "java/lang/String") (hf 651 _ (by decide +kernel))
  obtain ⟨a20, _, _, _, e20, _⟩ := Cond.exactly_spec (args := #[Value.ref b]) (first := s) (o := none) (s := s) (idx := []) (t := .string "NameWriter$Writer" 90) (cls := "java/lang/String") (hf 697 _ (by decide +kernel))
  obtain ⟨a21, _, _, _, e21, _⟩ := Cond.exactly_spec (args := #[Value.ref b]) (first := s) (o := none) (s := s) (idx := []) (t := .string "NameWriter$Reader" 69) (cls := "java/lang/String") (hf 800 _ (by decide +kernel))
  have e0 : (Term.string "NameWriter$Nodes" 29).eval #[Value.ref b] s none [] s = some (.ref (adK 0)) := hVe 0 (by decide)
  have e1 : (Term.string "NameWriter$Writer" 112).eval #[Value.ref b] s none [] s = some (.ref (adK 1)) := hVe 1 (by decide)
  have z1 := vx_Zqof (args := #[Value.ref b]) (s := s) (A := fun q => s.heap.size ≤ q) (hts (.laysStatic "java/lang/Throwable" "UNASSIGNED_STACK" "[Ljava/lang/StackTraceElement;") (List.mem_append_right _ (List.mem_of_getElem? (i := 227) (by decide +kernel)))) (hts (.initialized "java/lang/Throwable") (List.mem_append_right _ (List.mem_of_getElem? (i := 8) (by decide +kernel)))) (hf 5 _ (by decide +kernel)) hA
  have z2 := vx_Zqof (args := #[Value.ref b]) (s := s) (A := fun q => s.heap.size ≤ q) (hts (.laysStatic "java/lang/Throwable" "SUPPRESSED_SENTINEL" "Ljava/util/List;") (List.mem_append_right _ (List.mem_of_getElem? (i := 229) (by decide +kernel)))) (hts (.initialized "java/lang/Throwable") (List.mem_append_right _ (List.mem_of_getElem? (i := 8) (by decide +kernel)))) (hf 6 _ (by decide +kernel)) hA
  have z3 := va_Zof (args := #[Value.ref b]) (s := s) (v := .int 1) (A := fun q => s.heap.size ≤ q) (hts (.laysStatic "java/lang/String" "COMPACT_STRINGS" "Z") (List.mem_append_right _ (List.mem_of_getElem? (i := 199) (by decide +kernel)))) (hts (.initialized "java/lang/String") (List.mem_append_right _ (List.mem_of_getElem? (i := 7) (by decide +kernel)))) (va_eqt (hf 4 _ (by decide +kernel))) hA
  have z4 := va_Zqof (args := #[Value.ref b]) (s := s) (A := fun q => s.heap.size ≤ q) (hts (.laysStatic "jdk/internal/util/Preconditions" "SIOOBE_FORMATTER" "Ljava/util/function/BiFunction;") (List.mem_append_right _ (List.mem_of_getElem? (i := 547) (by decide +kernel)))) (hts (.initialized "jdk/internal/util/Preconditions") (List.mem_append_right _ (List.mem_of_getElem? (i := 16) (by decide +kernel)))) (hf 7 _ (by decide +kernel)) hA
  have z5 : ∃ fm : Nat, va_Z "jdk/internal/util/Preconditions" "SIOOBE_FORMATTER" "Ljava/util/function/BiFunction;" .null (fun q => s.heap.size ≤ q) s s.heap ∨ va_Z "jdk/internal/util/Preconditions" "SIOOBE_FORMATTER" "Ljava/util/function/BiFunction;" (.ref fm) (fun q => s.heap.size ≤ q) s s.heap := by
    rcases z4 with z | ⟨t, z⟩
    · exact ⟨0, Or.inl z⟩
    · exact ⟨t, Or.inr z⟩
  obtain ⟨fm, z5⟩ := z5
  refine ⟨D, fun i => if i < 100 then [adK 0, adK 1, a2, a3, a4, a5, a6, a7, a8, a9, a10, a11, a12, a13, a14, a15, a16, a17, a18, a19, a20, a21].getD i 0 else if i < 200 then [adV 0, adV 1].getD (i - 100) 0 else fm, ?_, hK, Nat.le_refl _, z1, z2, ?_, ?_, ?_, z3, z5⟩
  · exact fun w hw ho a => okV_tr ho (State.WarmedH.refl s) (hts w hw)
  · unfold GxS strT
    exact List.forall_mem_cons.mpr ⟨vk_R.of (A := #[Value.ref b]) (hts (.stringRef "NameWriter$Nodes" 29 "vbcsijlx") (List.mem_append_right _ (List.mem_of_getElem? (i := 189) (by decide +kernel)))) (e0),
      List.forall_mem_cons.mpr ⟨vk_R.of (A := #[Value.ref b]) (hts (.stringRef "NameWriter$Nodes" 39 "no such BUILTIN") (List.mem_append_right _ (List.mem_of_getElem? (i := 241) (by decide +kernel)))) (e2),
      List.forall_mem_cons.mpr ⟨vk_R.of (A := #[Value.ref b]) (hts (.stringRef "NameWriter$Nodes" 119 "too deep") (List.mem_append_right _ (List.mem_of_getElem? (i := 278) (by decide +kernel)))) (e3),
      List.forall_mem_cons.mpr ⟨vk_R.of (A := #[Value.ref b]) (hts (.stringRef "NameWriter$Nodes" 121 "more nodes than a text can tell") (List.mem_append_right _ (List.mem_of_getElem? (i := 288) (by decide +kernel)))) (e4),
      List.forall_mem_cons.mpr ⟨vk_R.of (A := #[Value.ref b]) (hts (.stringRef "NameWriter$Nodes" 24 "more than 60 nodes") (List.mem_append_right _ (List.mem_of_getElem? (i := 303) (by decide +kernel)))) (e5),
      List.forall_mem_cons.mpr ⟨vk_R.of (A := #[Value.ref b]) (hts (.stringRef "NameWriter$Nodes" 97 "an ID is one to three letters") (List.mem_append_right _ (List.mem_of_getElem? (i := 327) (by decide +kernel)))) (e6),
      List.forall_mem_cons.mpr ⟨vk_R.of (A := #[Value.ref b]) (hts (.stringRef "NameWriter$Nodes" 99 "no NAME, MEMBER or FILLED") (List.mem_append_right _ (List.mem_of_getElem? (i := 347) (by decide +kernel)))) (e7),
      List.forall_mem_cons.mpr ⟨vk_R.of (A := #[Value.ref b]) (hts (.stringRef "NameWriter$Nodes" 57 "no NAME or MEMBER to fill") (List.mem_append_right _ (List.mem_of_getElem? (i := 359) (by decide +kernel)))) (e8),
      List.forall_mem_cons.mpr ⟨vk_R.of (A := #[Value.ref b]) (hts (.stringRef "NameWriter$Nodes" 67 "no such arguments") (List.mem_append_right _ (List.mem_of_getElem? (i := 371) (by decide +kernel)))) (e9),
      List.forall_mem_cons.mpr ⟨vk_R.of (A := #[Value.ref b]) (hts (.stringRef "NameWriter$Nodes" 69 "neither POINTER, REFERENCE nor CONST") (List.mem_append_right _ (List.mem_of_getElem? (i := 383) (by decide +kernel)))) (e10),
      List.forall_mem_cons.mpr ⟨vk_R.of (A := #[Value.ref b]) (hts (.stringRef "NameWriter$Nodes" 104 "no such type") (List.mem_append_right _ (List.mem_of_getElem? (i := 388) (by decide +kernel)))) (e11),
      List.forall_mem_cons.mpr ⟨vk_R.of (A := #[Value.ref b]) (hts (.stringRef "NameWriter$Nodes" 74 "CONST of CONST") (List.mem_append_right _ (List.mem_of_getElem? (i := 389) (by decide +kernel)))) (e12),
      List.forall_mem_cons.mpr ⟨vk_R.of (A := #[Value.ref b]) (hts (.stringRef "NameWriter$Nodes" 76 "an ARRAY's number is 1 .. 999") (List.mem_append_right _ (List.mem_of_getElem? (i := 401) (by decide +kernel)))) (e13),
      List.forall_mem_cons.mpr ⟨vk_R.of (A := #[Value.ref b]) (hts (.stringRef "NameWriter$Nodes" 109 "no such parameters") (List.mem_append_right _ (List.mem_of_getElem? (i := 421) (by decide +kernel)))) (e14),
      List.forall_mem_cons.mpr ⟨vk_R.of (A := #[Value.ref b]) (hts (.stringRef "NameWriter$Nodes" 86 "no BUILTIN other than v") (List.mem_append_right _ (List.mem_of_getElem? (i := 433) (by decide +kernel)))) (e15),
      List.forall_mem_cons.mpr ⟨vk_R.of (A := #[Value.ref b]) (hts (.stringRef "NameWriter$Nodes" 90 "a LITERAL's number is -999999 .. 999999") (List.mem_append_right _ (List.mem_of_getElem? (i := 436) (by decide +kernel)))) (e16),
      List.forall_mem_cons.mpr ⟨vk_R.of (A := #[Value.ref b]) (hts (.stringRef "NameWriter$Nodes" 92 "only a FILLED one gives a type") (List.mem_append_right _ (List.mem_of_getElem? (i := 448) (by decide +kernel)))) (e17),
      List.forall_mem_cons.mpr ⟨vk_R.of (A := #[Value.ref b]) (hts (.stringRef "NameWriter" 89 "no such ENTITY") (List.mem_append_right _ (List.mem_of_getElem? (i := 459) (by decide +kernel)))) (e18),
      List.forall_mem_cons.mpr ⟨vk_R.of (A := #[Value.ref b]) (hts (.stringRef "NameWriter$Writer" 54 "more than 120 characters") (List.mem_append_right _ (List.mem_of_getElem? (i := 480) (by decide +kernel)))) (e19),
      List.forall_mem_cons.mpr ⟨vk_R.of (A := #[Value.ref b]) (hts (.stringRef "NameWriter$Writer" 90 "deeper than any node") (List.mem_append_right _ (List.mem_of_getElem? (i := 495) (by decide +kernel)))) (e20),
      List.forall_mem_cons.mpr ⟨vk_R.of (A := #[Value.ref b]) (hts (.stringRef "NameWriter$Writer" 100 "vbcsijlx") (List.mem_append_right _ (List.mem_of_getElem? (i := 530) (by decide +kernel)))) (va_eqR (hf 752 _ (by decide +kernel)) e0),
      List.forall_mem_cons.mpr ⟨vk_R.of (A := #[Value.ref b]) (hts (.stringRef "NameWriter$Writer" 112 "PRK") (List.mem_append_right _ (List.mem_of_getElem? (i := 590) (by decide +kernel)))) (e1),
      List.forall_mem_cons.mpr ⟨vk_R.of (A := #[Value.ref b]) (hts (.stringRef "NameWriter$Reader" 69 "the text is not right") (List.mem_append_right _ (List.mem_of_getElem? (i := 627) (by decide +kernel)))) (e21),
      List.forall_mem_cons.mpr ⟨vk_R.of (A := #[Value.ref b]) (hts (.stringRef "NameWriter" 138 "vbcsijlx") (List.mem_append_right _ (List.mem_of_getElem? (i := 678) (by decide +kernel)))) (va_eqR (hf 859 _ (by decide +kernel)) e0),
      fun _ h => absurd h List.not_mem_nil⟩⟩⟩⟩⟩⟩⟩⟩⟩⟩⟩⟩⟩⟩⟩⟩⟩⟩⟩⟩⟩⟩⟩⟩
  · refine ⟨fun i hi => ?_, fun i j hi hj e => ?_⟩
    · have hi : i < 2 := hi
      rcases (show i = 0 ∨ i = 1 by omega) with rfl | rfl
      · exact hVS.1 0 (by decide)
      · exact hVS.1 1 (by decide)
    · have hi : i < 2 := hi
      have hj : j < 2 := hj
      refine hVS.2 i j hi hj ?_
      rcases (show i = 0 ∨ i = 1 by omega) with rfl | rfl <;> rcases (show j = 0 ∨ j = 1 by omega) with rfl | rfl <;> exact e
  · exact List.forall_mem_cons.mpr ⟨va_Nc.of (hf 17 _ (by decide +kernel)), List.forall_mem_cons.mpr ⟨va_Nc.of (hf 18 _ (by decide +kernel)), fun _ h => absurd h List.not_mem_nil⟩⟩
theorem code_of {s : State} {m : MethodId} {meth : Method} {c : Code} (h1 : s.vm.method? m = some meth) (h2 : meth.code = some c) : s.code? m = some c := by
  simp only [State.code?, Vm.method?] at h1 ⊢
  cases hk : s.vm.classes[m.cls]? with
  | none => simp [hk] at h1
  | some kk =>
    simp [hk] at h1 ⊢
    simp [h1, h2]
theorem whole_start {p : Program} {e : Env} {s : State} {m : MethodId} {below : List Frame} {meth : Method} {c : Code} (l : Launch) {b L : Nat} {xs : Nat → Int32} (hL : L ≤ 3072) (C0 : lw_At p s m meth c b L xs) (hnt : l.stackTraces = false) (hnm : meth.name = "law") (htab : c.exceptionTable.toList = []) : W p l e room_1 s m #[Value.ref b] below meth c s.heap [] 0 0 (lw_Z below #[Value.ref b] s) (entryFrame m ([Value.ref b] : List Value).toArray 7) := by
  obtain ⟨D, sd, hG⟩ := gx_start C0
  obtain ⟨hx, hb, hr, hml, hown, hts, hX, hbl, hlocks, hgv⟩ := id C0
  obtain ⟨r, h', hev, hq⟩ := L_law_ev (d := 0) (X := (L, xs)) hL
  obtain ⟨hr1, hsz1, hsz2⟩ := LQ_sz hq
  subst hr1
  have hC : Cx m_L_law 133 p l room_1 s m meth c D sd s.heap.size := ⟨⟨hx, hb, hml, hr, hlocks, hnm, hown, htab.trans rfl, hnt⟩, hG, by decide, by decide⟩
  have hl := lv_entry ([.ref b]) (n := 7) (Nat.le_of_ble_eq_true rfl)
  rw [lg_entry_eq]
  generalize (lg_sl ([.ref b]) ++ List.replicate (7 - (lg_sl ([.ref b])).length) Slot.unset).toArray = ls at hl ⊢
  have hw : mW D s b s.heap.size sd [mX L xs] s.heap := by
    refine ⟨fun k e hk => ?_, fun k e hk he => ?_, rfl, hbl⟩
    · match k, hk with
      | 0, hk => cases hk; exact hX
      | k + 1, hk => simp at hk
    · match k, hk with
      | 0, hk => cases hk; cases he
      | k + 1, hk => simp at hk
  have h1 : 1 ≤ h'.length := hev.1
  have K := hev.2.2 p l e room_1 s m #[Value.ref b] below meth c s.heap [] 0 0 D sd b s.heap.size ls (h'.length - 1) (hSz h') ⟨hC, hl, hw, (fun q (hq : q ∈ ([] : List Loc)) => nomatch hq), rfl, (by show 0 + h'.length = h'.length - 1 + 1; omega), (by show 0 + hSz h' = hSz h' + 0; omega), (by show h'.length - 1 ≤ 601024; omega), (by show hSz h' ≤ 7293034; omega)⟩
  intro T hT X
  obtain ⟨t, st1, LL, b1, b2, b3, b4, b5, b6⟩ := K T hT X
  refine ⟨t, st1, .returned (some (.int 1)), b1, b2, rfl, ⟨_, rfl⟩, b3, ?_⟩
  exact (State.sameButNew.drop_fresh (L := []) (J := LL) b4 b5).mono (by omega) (by omega)
-- ===== YOUR PART ENDS =====
set_option maxHeartbeats 4000000 in
theorem lw_walk (l : Launch) (hnt : l.stackTraces = false) (b : Addr) (xs : List Int32) : MetFree l x (headSpec (Jvm.Cond.code x code maxLocals ret :: tables_1) room_1) (lw_P b xs) (fun _ _ _ _ _ => True) lw_Q := by
  refine MetFree.of_bodyS (code := code) (maxLocals := maxLocals) (ret := ret) (by decide) ?_ ?_
  · intro args s m h hn
    obtain ⟨meth, c, h1, h2, h3, h4, h5, h6, -, -⟩ := Cond.code_spec hn (atoms_spec (ws := Jvm.Cond.code x code maxLocals ret :: tables_1) h _ List.mem_cons_self)
    exact ⟨meth, c, h1, h2, h3, h4, h5, h6⟩
  · intro p e s m args below meth c s₁ B hml0 hP _
    obtain ⟨rfl, hx, hbd, hgv⟩ := hP
    obtain ⟨scr, harrAt, hlist, hof, hsmall⟩ := hx
    obtain ⟨hcb, hkn, -, -⟩ := State.arrayAt?_spec harrAt
    have hown : s.vm.findClass R_law = some m.cls := findClass_of_methodNamed B.named
    have hts0 : ∀ c ∈ (Jvm.Cond.code x code maxLocals ret :: tables_1), c.before #[Value.ref b] s = true := atoms_spec (ws := Jvm.Cond.code x code maxLocals ret :: tables_1) B.pre
    have hts : ∀ w ∈ lw_tbl, w.before #[Value.ref b] s = true := k2_hts_sels lw_privs (fun w hw => hts0 w (List.mem_cons_of_mem _ hw)) lw_privs_ok
    have hml : c.maxLocals = 7 := B.maxLocals_eq (hts0 _ List.mem_cons_self)
    have X₀ : Stand p l e room_1 s m #[Value.ref b] below meth c s₁ [] 0 0 := Stand.of_body B
    have hh0 : s₁.heap = s.heap := by rw [B.state]; rfl
    have htab : c.exceptionTable.toList = [] := by
      obtain ⟨meth1, c1, g1, g2, -, -, -, -, g7, -⟩ := Cond.code_spec B.named (hts0 _ List.mem_cons_self)
      have g3 : s₁.code? m = some c := B.here.code
      have g4 : s₁.code? m = some c1 := by rw [B.state]; show s.code? m = some c1; exact code_of g1 g2
      have g5 : c = c1 := Option.some.inj (g3.symm.trans g4)
      rw [g5, Array.isEmpty_iff.mp g7]
    have hsz : scr.slots.size = xs.length := by rw [← Array.length_toList, hlist, List.length_map]
    have hval : ∀ j : Nat, j < xs.length → scr.slots[j]? = some (.int (xs.getD j 0)) := fun j hj => by
      rw [← Array.getElem?_toList, hlist]
      simp [hj]
    have hbl : b < s.heap.size := (Array.getElem?_eq_some_iff.mp hcb).1
    have hX : va_X b xs.length (fun j => xs.getD j 0) s s.heap := ⟨scr, hcb, hof, hkn, hsz, hval⟩
    have K : W p l e room_1 s m #[Value.ref b] below meth c s₁.heap [] 0 0 (lw_Z below #[Value.ref b] s) (entryFrame m ([Value.ref b] : List Value).toArray 7) := by
      rw [hh0]
      exact whole_start l hbd ⟨B.exec, B.bytes, B.returns, hml, hown, hts, hX, hbl, B.notSynchronized, hgv⟩ hnt (name_of_methodNamed B.named B.method).1 htab
    obtain ⟨t, a1, o, b1, b2, b3⟩ := K s₁ rfl X₀
    exact ⟨t, o, a1, b1, b2, b3⟩
theorem lw_pre_spec {args : Array Value} {s : State} (h : (Jvm.Cond.and given_1 narrow_1).before args s = true) (hr : rest_1_c.before args s = true) : ∃ (b : Addr) (xs : List Int32), lw_P b xs args s := by
  have hs := flat_of_before _ h
  have hq := flat_of_before _ hr
  have hc : (Cond.count 1).before args s = true := hs _ (by decide +kernel)
  have harr : (Cond.arrayOf (.arg 0) .int).before args s = true := hs _ (by decide +kernel)
  have hle : (Cond.le (.length (.arg 0)) (.int 3072)).before args s = true := hs _ (by decide +kernel)
  have hlen : (Cond.isInt (.length (.arg 0))).before args s = true := hq _ (by decide +kernel)
  have hall : (Cond.all (.arg 0) (.isInt (.elem (.arg 0) (.index 0)))).before args s = true := hq _ (by decide +kernel)
  obtain ⟨b, xs, hb, hx⟩ := State.ints_of_pre rfl harr hlen hall
  have hsm : xs.length < 2 ^ 31 := hx.choose_spec.2.2.2
  have hev : (Term.length (.arg 0)).eval args s none [] s = some (.int xs.length.toInt32) := hx.length_eval hb
  have hv := Cond.le_ints hev (show (Term.int 3072).eval args s none [] s = some (.int 3072) from rfl)
  have hd : xs.length.toInt32 ≤ 3072 := by
    simpa [Cond.before, Cond.holds, hv] using hle
  have hN : xs.length ≤ 3072 := (Int32.ofNat_le_ofNat hsm (by decide)).mp (show Int32.ofNat xs.length ≤ Int32.ofNat 3072 from hd)
  exact ⟨b, xs, Cond.one_arg hc (show args[0]? = some (.ref b) from hb), hx, hN, h⟩
theorem lw_comes (l : Launch) (hnt : l.stackTraces = false) : Comes l x (Jvm.Cond.code x code maxLocals ret :: tables_1) room_1 (fun tb e args s => Calls_1 tb e args s ∧ rest_1 tb e args s ∧ Pre_1 tb e args s)
    (fun _ _ args s o t => lw_Q args s o t) := by
  intro p e ha hc hk s m args below hf hfit hheap happ hpre
  obtain ⟨b, xs, hP⟩ := lw_pre_spec hpre.2.2 hpre.2.1
  obtain ⟨k, o, h1, h2, h3, hQ⟩ := lw_walk l hnt b xs p e ha hc hk s m args below hf ((Spec.applies_iff_loose hf).mp happ).1 hP trivial
  exact ⟨k, o, h1, h2, h3, hQ⟩
theorem lw_frame {s t : State} {o : Outcome} {args : Array Value} (h : Framed s o t [] 601024 7293034) :
    Framed s o t (fieldLocs frame_1_writes args s ++ arrayLocs frame_1_arrays args s ++ staticLocs frame_1_statics s) 601024 7293034 := h
theorem lw_limb (L : Cond) (hL : ∀ (args : Array Value) (s t : State), L.after args s (.returned (some (.int 1))) t = true) :
    ArmFor flags0 classFile x code maxLocals ret World_1 tables_1 room_1 Calls_1 rest_1 Pre_1
      (fun tb e a s o t => postC L tb e a s o t ∧ Framed s o t (fieldLocs frame_1_writes a s ++ arrayLocs frame_1_arrays a s ++ staticLocs frame_1_statics s) 601024 7293034) := by
  intro l hfl _ _ p e ha hc hk s m args below hf hfit hheap happ hpre
  obtain ⟨k, o, h1, h2, h3, rfl, hF⟩ := lw_comes l (by unfold Launch.stackTraces; rw [hfl]; decide +kernel) p e ha hc hk s m args below hf hfit hheap happ hpre
  exact ⟨k, _, h1, h2, h3, hL args s _, lw_frame hF⟩
theorem i_vc : Claimed_1_1 ∧ Claimed_1_2 := ⟨lw_limb limb_1_1 (fun args s t => by simp [limb_1_1, Cond.after, Cond.holds, Cond.value]), lw_limb limb_1_2 (fun args s t => Cond.after_iff.mpr (by
  first | (rw [show limb_1_2 = Cond.eq .result (.int 1) from rfl, Cond.eq_ints (x := 1) (y := 1) rfl rfl]; simp; done) | (simp [limb_1_2, Cond.value, Term.eval]; done)))⟩
