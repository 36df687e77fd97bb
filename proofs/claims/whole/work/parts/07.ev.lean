/-! THE SMALL PICTURE. A heap as a list of cells, references as places in it (place 0: the script; place k: the k-th cell that the law's run has made); 'Ev': a method, at a point of its code, comes to an end with an answer (or throws) and leaves a heap: for every frame, every room, every caller. Rules, one an instruction. -/
/-- a cell: an object (class number, fields); an int array (length, contents); the script (the same, never written); a long array; an exception (its kind) -/
abbrev mE : Type := (Nat × List Value) ⊕ ((Nat × (Nat → Int32)) ⊕ ((Nat × (Nat → Int32)) ⊕ ((Nat × (Nat → Int64)) ⊕ Nat)))
abbrev mH : Type := List mE
/-- how a method ended: an answer, or the place of what it threw -/
abbrev mR : Type := Option Value ⊕ Nat
abbrev mO (ci : Nat) (fs : List Value) : mE := .inl (ci, fs)
abbrev mA (n : Nat) (f : Nat → Int32) : mE := .inr (.inl (n, f))
abbrev mX (n : Nat) (f : Nat → Int32) : mE := .inr (.inr (.inl (n, f)))
abbrev mL (n : Nat) (f : Nat → Int64) : mE := .inr (.inr (.inr (.inl (n, f))))
abbrev mT (k : Nat) : mE := .inr (.inr (.inr (.inr k)))
def exN (k : Nat) : String := match k with
  | 0 => "java/lang/IllegalArgumentException"
  | 1 => "java/lang/IllegalStateException"
  | _ => "java/lang/UnsupportedOperationException"
def eSz : mE → Nat
  | .inl o => o.2.length
  | .inr (.inl a) => a.1
  | .inr (.inr (.inl _)) => 0
  | .inr (.inr (.inr (.inl a))) => a.1
  | .inr (.inr (.inr (.inr _))) => 6
def hSz (h : mH) : Nat := (h.map eSz).sum
def eWr : mE → Bool
  | .inr (.inr (.inl _)) => false
  | _ => true
/-- the address of a place -/
def adr (b B k : Nat) : Nat := if k = 0 then b else B + (k - 1)
/-- values to the machine's; '.retAddr i' is the i-th text constant -/
def cz (b B : Nat) (sd : Nat → Nat) : Value → Value
  | .ref k => .ref (adr b B k)
  | .retAddr i => .ref (sd i)
  | v => v
def czO (b B : Nat) (sd : Nat → Nat) : mR → Outcome
  | .inl v => .returned (v.map (cz b B sd))
  | .inr x => .threw (adr b B x)
abbrev czL (b B : Nat) (sd : Nat → Nat) (lv : List (Nat × Value)) : List (Nat × Value) := lv.map (fun q => (q.1, cz b B sd q.2))
theorem cz_cat (b B : Nat) (sd : Nat → Nat) (v : Value) : (cz b B sd v).category = v.category := by cases v <;> rfl
theorem cz_cats (b B : Nat) (sd : Nat → Nat) (st : List Value) : ((st.map (cz b B sd)).map fun v => v.category) = st.map fun v => v.category := by
  rw [List.map_map]
  exact List.map_congr_left fun v _ => cz_cat b B sd v
theorem adr_inj {b B i j : Nat} (hb : b < B) (h : adr b B i = adr b B j) : i = j := by
  unfold adr at h
  split at h <;> split at h <;> omega
/-- what a cell of the picture is in the machine's heap -/
def mAt (D : va_G) (s : State) (b B : Nat) (sd : Nat → Nat) (e : mE) (a : Nat) (H : Heap) : Prop := match e with
  | .inl o => ∃ r : vw_C, vCl[o.1]? = some r ∧ o.2.length = r.2.2 ∧ t_OB a (D.1 o.1) r.2.2 (D.2 o.1) H (vp_V (o.2.map (cz b B sd)))
  | .inr (.inl x) => ∃ cA : ClassId, H[a]? = some (arrV cA x.1 (fun j => .int (x.2 j))) ∧ ArrOfT s cA .int
  | .inr (.inr (.inl x)) => ∃ cell : Cell, H[a]? = some cell ∧ s.isArrayOf cell .int ∧ cell.vm ≠ .unknown ∧ cell.slots.size = x.1 ∧ ∀ j : Nat, j < x.1 → cell.slots[j]? = some (.int (x.2 j))
  | .inr (.inr (.inr (.inl x))) => ∃ cA : ClassId, H[a]? = some (arrV cA x.1 (fun j => .long (x.2 j))) ∧ ArrOfT s cA .long
  | .inr (.inr (.inr (.inr k))) => ∃ cell : Cell, H[a]? = some cell ∧ cell.vm = .none ∧ s.vm.findClass (exN k) = some cell.cls
theorem mAt.kept {D : va_G} {s : State} {b B : Nat} {sd : Nat → Nat} {e : mE} {a : Nat} {H H1 : Heap} (h : mAt D s b B sd e a H) (hq : H1[a]? = H[a]?) : mAt D s b B sd e a H1 := by
  match e, h with
  | .inl o, ⟨r, h1, h2, h3⟩ => exact ⟨r, h1, h2, h3.kept hq⟩
  | .inr (.inl x), ⟨ce, h1, h2⟩ => exact ⟨ce, by rw [hq]; exact h1, h2⟩
  | .inr (.inr (.inl x)), ⟨ce, h1, h2⟩ => exact ⟨ce, by rw [hq]; exact h1, h2⟩
  | .inr (.inr (.inr (.inl x))), ⟨ce, h1, h2⟩ => exact ⟨ce, by rw [hq]; exact h1, h2⟩
  | .inr (.inr (.inr (.inr k))), ⟨ce, h1, h2⟩ => exact ⟨ce, by rw [hq]; exact h1, h2⟩
theorem mAt.moved {D : va_G} {u U : State} {b B : Nat} {sd : Nat → Nat} {e : mE} {a : Nat} {H : Heap} (hvm : u.vm.Alike U.vm) (h : mAt D u b B sd e a H) : mAt D U b B sd e a H := by
  match e, h with
  | .inl o, h => exact h
  | .inr (.inl x), ⟨ce, h1, h2⟩ => exact ⟨ce, h1, arrOfT_moved hvm h2⟩
  | .inr (.inr (.inl x)), ⟨ce, h1, h2, h3⟩ => exact ⟨ce, h1, State.isArrayOf_alike hvm h2, h3⟩
  | .inr (.inr (.inr (.inl x))), ⟨ce, h1, h2⟩ => exact ⟨ce, h1, arrOfT_moved hvm h2⟩
  | .inr (.inr (.inr (.inr k))), ⟨ce, h1, h2, h3⟩ => exact ⟨ce, h1, h2, by rw [hvm.findClass]; exact h3⟩
theorem mA_spec {D : va_G} {s : State} {b B : Nat} {sd : Nat → Nat} {n a : Nat} {f : Nat → Int32} {H : Heap} (h : mAt D s b B sd (mA n f) a H) : ∃ cell : Cell, H[a]? = some cell ∧ s.isArrayOf cell .int ∧ cell.vm = .none ∧ cell.slots.size = n ∧ ∀ j : Nat, j < n → cell.slots[j]? = some (.int (f j)) := by
  obtain ⟨cA, h1, h2⟩ := h
  exact ⟨_, h1, h2 n _, rfl, arrV_size cA n _, fun j hj => arrV_read cA _ hj⟩
theorem mL_spec {D : va_G} {s : State} {b B : Nat} {sd : Nat → Nat} {n a : Nat} {f : Nat → Int64} {H : Heap} (h : mAt D s b B sd (mL n f) a H) : ∃ cell : Cell, H[a]? = some cell ∧ s.isArrayOf cell .long ∧ cell.vm = .none ∧ cell.slots.size = n ∧ ∀ j : Nat, j < n → cell.slots[j]? = some (.long (f j)) := by
  obtain ⟨cA, h1, h2⟩ := h
  exact ⟨_, h1, h2 n _, rfl, arrV_size cA n _, fun j hj => arrV_read cA _ hj⟩
/-- the whole picture: every cell as said; the script alone is never written; nothing else has been made -/
def mW (D : va_G) (s : State) (b B : Nat) (sd : Nat → Nat) (h : mH) (H : Heap) : Prop :=
  (∀ (k : Nat) (e : mE), h[k]? = some e → mAt D s b B sd e (adr b B k) H) ∧ (∀ (k : Nat) (e : mE), h[k]? = some e → eWr e = true → k ≠ 0) ∧ H.size + 1 = B + h.length ∧ b < B
theorem mW.moved {D : va_G} {u U : State} {b B : Nat} {sd : Nat → Nat} {h : mH} {H : Heap} (hvm : u.vm.Alike U.vm) (hw : mW D u b B sd h H) : mW D U b B sd h H := ⟨fun k e hk => (hw.1 k e hk).moved hvm, hw.2⟩
theorem mW.fr {D : va_G} {s : State} {b B : Nat} {sd : Nat → Nat} {h : mH} {H : Heap} (hw : mW D s b B sd h H) {o : Nat} {e : mE} (ho : h[o]? = some e) (he : eWr e = true) : B ≤ adr b B o := by
  have := hw.2.1 o e ho he
  unfold adr
  rw [if_neg this]
  omega
theorem mW.set {D : va_G} {s : State} {b B : Nat} {sd : Nat → Nat} {h : mH} {H H1 : Heap} (hw : mW D s b B sd h H) {o : Nat} {e0 e : mE} (ho : h[o]? = some e0) (hwr : eWr e0 = true) (he : mAt D s b B sd e (adr b B o) H1) (hz : H1.size = H.size) (hq : ∀ q : Nat, q ≠ adr b B o → H1[q]? = H[q]?) : mW D s b B sd (h.set o e) H1 := by
  have hl := (List.getElem?_eq_some_iff.mp ho).1
  refine ⟨fun k x hk => ?_, fun k x hk hx => ?_, ?_, hw.2.2.2⟩
  · by_cases hko : k = o
    · subst hko
      rw [List.getElem?_set_self hl] at hk
      cases hk
      exact he
    · rw [List.getElem?_set_ne (Ne.symm hko)] at hk
      exact (hw.1 k x hk).kept (hq _ (fun z => hko (adr_inj hw.2.2.2 z)))
  · by_cases hko : k = o
    · subst hko
      exact hw.2.1 k e0 ho hwr
    · rw [List.getElem?_set_ne (Ne.symm hko)] at hk
      exact hw.2.1 k x hk hx
  · rw [hz, List.length_set]
    exact hw.2.2.1
theorem mW.push {D : va_G} {s : State} {b B : Nat} {sd : Nat → Nat} {h : mH} {H H1 : Heap} (hw : mW D s b B sd h H) {e : mE} (h0 : 0 < h.length) (he : mAt D s b B sd e H.size H1) (hz : H1.size = H.size + 1) (hq : ∀ q : Nat, q < H.size → H1[q]? = H[q]?) : mW D s b B sd (h ++ [e]) H1 ∧ adr b B h.length = H.size := by
  have ha : adr b B h.length = H.size := by
    have := hw.2.2.1
    unfold adr
    rw [if_neg (by omega)]
    omega
  have key : ∀ (k : Nat) (x : mE), (h ++ [e])[k]? = some x → (k < h.length ∧ h[k]? = some x) ∨ (k = h.length ∧ x = e) := by
    intro k x hk
    by_cases hl : k < h.length
    · rw [List.getElem?_append_left hl] at hk
      exact Or.inl ⟨hl, hk⟩
    · rw [List.getElem?_append_right (by omega)] at hk
      have hz : k - h.length < 1 := (List.getElem?_eq_some_iff.mp hk).1
      have hk0 : k = h.length := by omega
      subst hk0
      rw [Nat.sub_self] at hk
      cases hk
      exact Or.inr ⟨rfl, rfl⟩
  refine ⟨⟨fun k x hk => ?_, fun k x hk hx => ?_, ?_, hw.2.2.2⟩, ha⟩
  · rcases key k x hk with ⟨h1, h2⟩ | ⟨h1, h2⟩
    · refine (hw.1 k x h2).kept (hq _ ?_)
      have := hw.2.2.1
      have := hw.2.2.2
      unfold adr
      split <;> omega
    · subst h1; subst h2
      rw [ha]; exact he
  · rcases key k x hk with ⟨h1, h2⟩ | ⟨h1, h2⟩
    · exact hw.2.1 k x h2 hx
    · omega
  · rw [hz, List.length_append]
    have := hw.2.2.1
    show H.size + 1 + 1 = B + (h.length + 1)
    omega
/-- the text constants: which words tell them (place in strT: class, pool entry, text, number) -/
def GxS (s : State) (sd : Nat → Nat) : Prop := ∀ q ∈ strT, vk_R q.1 q.2.1 q.2.2.1 (sd q.2.2.2) s
/-- more words that stay true -/
def okV (w : Cond) : Bool := okW w || (match w with
  | .declares _ => true
  | .castable .. => true
  | _ => false)
theorem castable_tr {x y : String} {s U : State} {a a' : Array Value} (hW : s.WarmedH U.vm) (hb : (Cond.castable x y).before a s = true) : (Cond.castable x y).before a' U = true := by
  have hal := hW.alike
  simpa only [Cond.before, Cond.holds, Cond.value, hal.findClass, hal.assignable] using hb
theorem okV_tr {w : Cond} (h : okV w = true) {s U : State} {a a' : Array Value} (hW : s.WarmedH U.vm) (hb : w.before a s = true) : w.before a' U = true := by
  cases hw : okW w with
  | true => exact okW_tr hw hW hb
  | false =>
    simp only [okV, hw, Bool.false_or] at h
    cases w <;> first
      | exact va_Nw.use rfl (va_Nw.warmD hW (va_Nw.of rfl hb))
      | exact castable_tr hW hb
      | (exact absurd h (by simp))
/-- what holds of the machine at the start of every method -/
def Gx (s : State) (D : va_G) (sd : Nat → Nat) (B : Nat) : Prop :=
  (∀ w ∈ lw_tbl, okV w = true → ∀ a, w.before a s = true) ∧ va_K D vCl [] s ∧ B ≤ s.heap.size ∧ vx_Zq Bundle.tN "UNASSIGNED_STACK" Bundle.steD (fun q => B ≤ q) s s.heap ∧ vx_Zq Bundle.tN "SUPPRESSED_SENTINEL" Bundle.listD (fun q => B ≤ q) s s.heap ∧ GxS s sd ∧ vk_S nStr lenStr bytStr sd (fun i => sd (100 + i)) (fun q => B ≤ q) s s.heap ∧ (∀ q ∈ ncT, va_Nc q.1 q.2 s) ∧ va_Z "java/lang/String" "COMPACT_STRINGS" "Z" (.int 1) (fun q => B ≤ q) s s.heap ∧ (va_Z "jdk/internal/util/Preconditions" "SIOOBE_FORMATTER" "Ljava/util/function/BiFunction;" .null (fun q => B ≤ q) s s.heap ∨ va_Z "jdk/internal/util/Preconditions" "SIOOBE_FORMATTER" "Ljava/util/function/BiFunction;" (.ref (sd 200)) (fun q => B ≤ q) s s.heap)
def rF (d : Nat) : Nat := d + 10
def rL (d : Nat) : Nat := 60 * d + 300
def Cx (M : Mt) (d : Nat) (p : Program) (l : Launch) (R : Room) (s : State) (m : MethodId) (meth : Method) (c : Code) (D : va_G) (sd : Nat → Nat) (B : Nat) : Prop :=
  (p.tables.exec = Jvm.exec ∧ c.code = M.2.1 ∧ c.maxLocals = M.2.2.1 ∧ meth.sig.returnType = M.2.2.2.1 ∧ meth.locks = false ∧ meth.name = M.1.name ∧ s.vm.findClass M.1.cls = some m.cls ∧ c.exceptionTable.toList = tableOf M.2.2.2.2 ∧ l.stackTraces = false) ∧ Gx s D sd B ∧ rF d ≤ R.frames ∧ rL d ≤ R.locals
section CX
variable {M : Mt} {d : Nat} {p : Program} {l : Launch} {R : Room} {s : State} {m : MethodId} {meth : Method} {c : Code} {D : va_G} {sd : Nat → Nat} {B : Nat}
theorem Cx.ex (h : Cx M d p l R s m meth c D sd B) : p.tables.exec = Jvm.exec := h.1.1
theorem Cx.co (h : Cx M d p l R s m meth c D sd B) : c.code = M.2.1 := h.1.2.1
theorem Cx.ml (h : Cx M d p l R s m meth c D sd B) : c.maxLocals = M.2.2.1 := h.1.2.2.1
theorem Cx.ret (h : Cx M d p l R s m meth c D sd B) : meth.sig.returnType = M.2.2.2.1 := h.1.2.2.2.1
theorem Cx.lo (h : Cx M d p l R s m meth c D sd B) : meth.locks = false := h.1.2.2.2.2.1
theorem Cx.nm (h : Cx M d p l R s m meth c D sd B) : meth.name = M.1.name := h.1.2.2.2.2.2.1
theorem Cx.own (h : Cx M d p l R s m meth c D sd B) : s.vm.findClass M.1.cls = some m.cls := h.1.2.2.2.2.2.2.1
theorem Cx.tab (h : Cx M d p l R s m meth c D sd B) : c.exceptionTable.toList = tableOf M.2.2.2.2 := h.1.2.2.2.2.2.2.2.1
theorem Cx.w (h : Cx M d p l R s m meth c D sd B) {w : Cond} (hw : InT w) (a : Array Value) : w.before a s = true := h.2.1.1 w hw.1 (by unfold okV; rw [hw.2]; rfl) a
theorem Cx.K (h : Cx M d p l R s m meth c D sd B) : va_K D vCl [] s := h.2.1.2.1
end CX
/-- the end of a walk: how it ended, what was written, the picture -/
def SQ (below : List Frame) (s : State) (D : va_G) (sd : Nat → Nat) (b B : Nat) (r : mR) (h' : mH) (k ns : Nat) : State → Prop := fun t =>
  ∃ L : List Loc, t.status = .running ∧ Ended t below (czO b B sd r) ∧ s.WarmedH t.vm ∧ s.sameButNew ({ t with vm := s.vm } : State) L k ns ∧ (∀ q ∈ L, B ≤ q.base) ∧ mW D s b B sd h' t.heap
/-- where a walk stands -/
def Kx (M : Mt) (d : Nat) (lv : List (Nat × Value)) (h h' : mH) (p : Program) (l : Launch) (R : Room) (s : State) (m : MethodId) (meth : Method) (c : Code) (H : Heap) (locs : List Loc) (cells slots : Nat) (D : va_G) (sd : Nat → Nat) (b B : Nat) (ls : Array Slot) (k ns : Nat) : Prop :=
  Cx M d p l R s m meth c D sd B ∧ lv_has ls M.2.2.1 (czL b B sd lv) ∧ mW D s b B sd h H ∧ (∀ q ∈ locs, B ≤ q.base) ∧ H.size = s.heap.size + cells ∧ cells + h'.length = k + h.length ∧ slots + hSz h' = ns + hSz h ∧ k ≤ R.cells ∧ ns ≤ R.slots
def Ev (M : Mt) (d : Nat) (pc : Nat) (lv : List (Nat × Value)) (st : List Value) (h : mH) (r : mR) (h' : mH) : Prop :=
  h.length ≤ h'.length ∧ hSz h ≤ hSz h' ∧
  ∀ (p : Program) (l : Launch) (e : Env) (R : Room) (s : State) (m : MethodId) (args : Array Value) (below : List Frame) (meth : Method) (c : Code) (H : Heap) (locs : List Loc) (cells slots : Nat) (D : va_G) (sd : Nat → Nat) (b B : Nat) (ls : Array Slot) (k ns : Nat),
    Kx M d lv h h' p l R s m meth c H locs cells slots D sd b B ls k ns → W p l e R s m args below meth c H locs cells slots (SQ below s D sd b B r h' k ns) (F0 m pc ls (st.map (cz b B sd)))
/-- an instruction that leaves heap and locals -/
theorem ev_go {M : Mt} {d pc pc' : Nat} {lv : List (Nat × Value)} {st st' : List Value} {h h' : mH} {r : mR}
    (f : ∀ {p : Program} {l : Launch} {e : Env} {R : Room} {s : State} {m : MethodId} {args : Array Value} {below : List Frame} {meth : Method} {c : Code} {H : Heap} {locs : List Loc} {cells slots : Nat} {Q : State → Prop} {D : va_G} {sd : Nat → Nat} {b B : Nat} {ls : Array Slot},
      Cx M d p l R s m meth c D sd B → lv_has ls M.2.2.1 (czL b B sd lv) → mW D s b B sd h H → W p l e R s m args below meth c H locs cells slots Q (F0 m pc' ls (st'.map (cz b B sd))) → W p l e R s m args below meth c H locs cells slots Q (F0 m pc ls (st.map (cz b B sd))))
    (k : Ev M d pc' lv st' h r h') : Ev M d pc lv st h r h' :=
  ⟨k.1, k.2.1, fun p l e R s m args below meth c H locs cells slots D sd b B ls k0 ns hK => f hK.1 hK.2.1 hK.2.2.1 (k.2.2 p l e R s m args below meth c H locs cells slots D sd b B ls k0 ns hK)⟩
theorem cz_at {ls : Array Slot} {n b B : Nat} {sd : Nat → Nat} {lv : List (Nat × Value)} (hl : lv_has ls n (czL b B sd lv)) {j i : Nat} {v : Value} (hj : lv[j]? = some (i, v)) : ls[i]? = some (.val (cz b B sd v)) := lv_at hl j (by rw [List.getElem?_map, hj]; rfl)
/-- the locals behind a store -/
def st1 (lv : List (Nat × Value)) (i : Nat) (v : Value) : List (Nat × Value) := (i, v) :: lv.filter (fun q => !(q.1 == i) && !(q.1 + 1 == i && q.2.category == 2))
theorem cz_st1 (b B : Nat) (sd : Nat → Nat) (lv : List (Nat × Value)) (i : Nat) (v : Value) : (i, cz b B sd v) :: (czL b B sd lv).filter (fun q => !(q.1 == i) && !(q.1 + 1 == i && q.2.category == 2)) = czL b B sd (st1 lv i v) := by
  unfold st1 czL
  rw [List.map_cons, List.filter_map]
  refine congrArg _ (congrArg _ ?_)
  refine List.filter_congr fun q _ => ?_
  simp only [Function.comp, cz_cat]
theorem cz_pick {ls : Array Slot} {n b B : Nat} {sd : Nat → Nat} {lv lv' : List (Nat × Value)} (hl : lv_has ls n (czL b B sd lv)) (ks : List Nat) (hp : lv_pick lv ks = lv') : lv_has ls n (czL b B sd lv') := by
  refine lv_sub hl ks ?_
  rw [← hp]
  unfold lv_pick czL
  rw [List.map_filterMap]
  simp only [List.getElem?_map]
