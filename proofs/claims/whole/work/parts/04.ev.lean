/-! THE SMALL PICTURE. A heap as a list of cells, references as places in it; 'Ev': a method, at a point of its code, comes to an end with an answer (or throws) and leaves a heap: for every frame, every room, every caller. Rules, one an instruction. -/
/-- a cell: an object (class number, fields); an int array (length, contents); the script (the same, never written); a long array; an exception (its kind) -/
abbrev mE : Type := (Nat × List Value) ⊕ ((Nat × (Nat → Int32)) ⊕ ((Nat × (Nat → Int32)) ⊕ ((Nat × (Nat → Int64)) ⊕ Nat)))
abbrev mH : Type := List mE
/-- how a method ended: an answer, or the place of what it threw -/
abbrev mR : Type := Option Value ⊕ Nat
abbrev mO (ci : Nat) (fs : List Value) : mE := .inl (ci, fs)
abbrev mA (n : Nat) (f : Nat → Int32) : mE := .inr (.inl (n, f))
abbrev mX (n : Nat) (f : Nat → Int32) : mE := .inr (.inr (.inl (n, f)))
abbrev mL (n : Nat) (f : Nat → Int64) : mE := .inr (.inr (.inr (.inl (n, f))))
abbrev mT (k : Nat) : mE := .inr (.inr (.inr (.inr k)))
/-- a method: name, code, locals, answer, table of handlers -/
abbrev Mt : Type := MethodName × ByteArray × Nat × Option FieldType × List (Nat × Nat × Nat × Nat)
def exN (k : Nat) : String := match k with
  | 0 => "java/lang/IllegalArgumentException"
  | 1 => "java/lang/IllegalStateException"
  | _ => "java/lang/UnsupportedOperationException"
def eSz : mE → Nat
  | .inl o => o.2.length
  | .inr (.inl a) => a.1
  | .inr (.inr (.inl _)) => 0
  | .inr (.inr (.inr (.inl a))) => a.1
  | .inr (.inr (.inr (.inr _))) => 6
def hSz (h : mH) : Nat := (h.map eSz).sum
def eWr : mE → Bool
  | .inr (.inr (.inl _)) => false
  | _ => true
/-- values to the machine's: places to addresses; '.retAddr i' is the i-th text constant -/
def cz (ad sd : Nat → Nat) : Value → Value
  | .ref k => .ref (ad k)
  | .retAddr i => .ref (sd i)
  | v => v
def czO (ad sd : Nat → Nat) : mR → Outcome
  | .inl v => .returned (v.map (cz ad sd))
  | .inr x => .threw (ad x)
abbrev czL (ad sd : Nat → Nat) (lv : List (Nat × Value)) : List (Nat × Value) := lv.map (fun q => (q.1, cz ad sd q.2))
theorem cz_cat (ad sd : Nat → Nat) (v : Value) : (cz ad sd v).category = v.category := by cases v <;> rfl
theorem cz_cats (ad sd : Nat → Nat) (st : List Value) : ((st.map (cz ad sd)).map fun v => v.category) = st.map fun v => v.category := by
  rw [List.map_map]
  exact List.map_congr_left fun v _ => cz_cat ad sd v
theorem cz_ext {ad ad' sd : Nat → Nat} {v : Value} (h : ∀ k, v = .ref k → ad' k = ad k) : cz ad' sd v = cz ad sd v := by
  cases v <;> first | rfl | (show Value.ref _ = Value.ref _; rw [h _ rfl])
/-- a word that stays true while the tables grow warmer -/
def okW : Cond → Bool
  | .fieldLinkNest .. => true
  | .methodLinkNest .. => true
  | w => goodWord w
theorem okW_tr {w : Cond} (h : okW w = true) {s U : State} {a a' : Array Value} (hW : s.WarmedH U.vm) (hb : w.before a s = true) : w.before a' U = true := by
  cases w <;> first
    | exact va_Nw.use rfl (va_Nw.warmF hW (va_Nw.of rfl hb))
    | exact va_Nw.use rfl (va_Nw.warmM hW (va_Nw.of rfl hb))
    | exact word_at hW (good_of_word h) hb
def InT (w : Cond) : Prop := w ∈ lw_tbl ∧ okW w = true
/-- what a cell of the picture is in the machine's heap -/
def mAt (D : va_G) (s : State) (ad sd : Nat → Nat) (e : mE) (a : Nat) (H : Heap) : Prop := match e with
  | .inl o => ∃ r : vw_C, vCl[o.1]? = some r ∧ o.2.length = r.2.2 ∧ t_OB a (D.1 o.1) r.2.2 (D.2 o.1) H (vp_V (o.2.map (cz ad sd)))
  | .inr (.inl x) => ∃ cell : Cell, H[a]? = some cell ∧ s.isArrayOf cell .int ∧ cell.vm = .none ∧ cell.slots.size = x.1 ∧ ∀ j : Nat, j < x.1 → cell.slots[j]? = some (.int (x.2 j))
  | .inr (.inr (.inl x)) => ∃ cell : Cell, H[a]? = some cell ∧ s.isArrayOf cell .int ∧ cell.vm ≠ .unknown ∧ cell.slots.size = x.1 ∧ ∀ j : Nat, j < x.1 → cell.slots[j]? = some (.int (x.2 j))
  | .inr (.inr (.inr (.inl x))) => ∃ cell : Cell, H[a]? = some cell ∧ s.isArrayOf cell .long ∧ cell.vm = .none ∧ cell.slots.size = x.1 ∧ ∀ j : Nat, j < x.1 → cell.slots[j]? = some (.long (x.2 j))
  | .inr (.inr (.inr (.inr k))) => ∃ cell : Cell, H[a]? = some cell ∧ cell.vm = .none ∧ s.vm.findClass (exN k) = some cell.cls
/-- the whole picture: every cell as said; what may be written lies in F; the addresses are apart -/
def mW (D : va_G) (s : State) (ad sd : Nat → Nat) (F : Nat → Prop) (h : mH) (H : Heap) : Prop :=
  (∀ (k : Nat) (e : mE), h[k]? = some e → mAt D s ad sd e (ad k) H) ∧ (∀ (k : Nat) (e : mE), h[k]? = some e → eWr e = true → F (ad k)) ∧ (∀ (k : Nat) (e : mE), h[k]? = some e → eWr e = false → ¬ F (ad k)) ∧ ∀ i j : Nat, i < h.length → j < h.length → ad i = ad j → i = j
/-- what holds of the machine at the start of every method -/
def Gx (s : State) (D : va_G) (sd : Nat → Nat) (F : Nat → Prop) : Prop :=
  (∀ w ∈ lw_tbl, okW w = true → ∀ a, w.before a s = true) ∧ va_K D vCl [] s ∧ (∀ q : Nat, s.heap.size ≤ q → F q) ∧ vx_Zq Bundle.tN "UNASSIGNED_STACK" Bundle.steD F s s.heap ∧ vx_Zq Bundle.tN "SUPPRESSED_SENTINEL" Bundle.listD F s s.heap ∧ GxS s sd F
def rF (d : Nat) : Nat := d + 10
def rL (d : Nat) : Nat := 60 * d + 300
def Cx (M : Mt) (d : Nat) (p : Program) (l : Launch) (R : Room) (s : State) (m : MethodId) (meth : Method) (c : Code) (D : va_G) (sd : Nat → Nat) (F : Nat → Prop) : Prop :=
  (p.tables.exec = Jvm.exec ∧ c.code = M.2.1 ∧ c.maxLocals = M.2.2.1 ∧ meth.sig.returnType = M.2.2.2.1 ∧ meth.locks = false ∧ meth.name = M.1.name ∧ s.vm.findClass M.1.cls = some m.cls ∧ c.exceptionTable.toList = tableOf M.2.2.2.2 ∧ l.stackTraces = false) ∧ Gx s D sd F ∧ rF d ≤ R.frames ∧ rL d ≤ R.locals
theorem Cx.ex {M : Mt} {d : Nat} {p : Program} {l : Launch} {R : Room} {s : State} {m : MethodId} {meth : Method} {c : Code} {D : va_G} {sd : Nat → Nat} {F : Nat → Prop} (h : Cx M d p l R s m meth c D sd F) : p.tables.exec = Jvm.exec := h.1.1
theorem Cx.co {M : Mt} {d : Nat} {p : Program} {l : Launch} {R : Room} {s : State} {m : MethodId} {meth : Method} {c : Code} {D : va_G} {sd : Nat → Nat} {F : Nat → Prop} (h : Cx M d p l R s m meth c D sd F) : c.code = M.2.1 := h.1.2.1
theorem Cx.ml {M : Mt} {d : Nat} {p : Program} {l : Launch} {R : Room} {s : State} {m : MethodId} {meth : Method} {c : Code} {D : va_G} {sd : Nat → Nat} {F : Nat → Prop} (h : Cx M d p l R s m meth c D sd F) : c.maxLocals = M.2.2.1 := h.1.2.2.1
theorem Cx.own {M : Mt} {d : Nat} {p : Program} {l : Launch} {R : Room} {s : State} {m : MethodId} {meth : Method} {c : Code} {D : va_G} {sd : Nat → Nat} {F : Nat → Prop} (h : Cx M d p l R s m meth c D sd F) : s.vm.findClass M.1.cls = some m.cls := h.1.2.2.2.2.2.2.1
theorem Cx.w {M : Mt} {d : Nat} {p : Program} {l : Launch} {R : Room} {s : State} {m : MethodId} {meth : Method} {c : Code} {D : va_G} {sd : Nat → Nat} {F : Nat → Prop} (h : Cx M d p l R s m meth c D sd F) {w : Cond} (hw : InT w) (a : Array Value) : w.before a s = true := h.2.1.1 w hw.1 hw.2 a
/-- the end of a walk: how it ended, what was written, the picture -/
def SQ (below : List Frame) (s : State) (D : va_G) (sd : Nat → Nat) (F : Nat → Prop) (ad : Nat → Nat) (n : Nat) (r : mR) (h' : mH) (k ns : Nat) : State → Prop := fun t =>
  ∃ (ad' : Nat → Nat) (L : List Loc), t.status = .running ∧ Ended t below (czO ad' sd r) ∧ s.WarmedH t.vm ∧ s.sameButNew ({ t with vm := s.vm } : State) L k ns ∧ (∀ q ∈ L, F q.base) ∧ mW D s ad' sd F h' t.heap ∧ ∀ j, j < n → ad' j = ad j
def Ev (M : Mt) (d : Nat) (pc : Nat) (lv : List (Nat × Value)) (st : List Value) (h : mH) (r : mR) (h' : mH) : Prop :=
  h.length ≤ h'.length ∧ hSz h ≤ hSz h' ∧
  ∀ (p : Program) (l : Launch) (e : Env) (R : Room) (s : State) (m : MethodId) (args : Array Value) (below : List Frame) (meth : Method) (c : Code) (H : Heap) (locs : List Loc) (cells slots : Nat) (D : va_G) (sd ad : Nat → Nat) (F : Nat → Prop) (ls : Array Slot) (k ns : Nat),
    Cx M d p l R s m meth c D sd F → lv_has ls M.2.2.1 (czL ad sd lv) → mW D s ad sd F h H → (∀ q ∈ locs, F q.base) → cells + h'.length = k + h.length → slots + hSz h' = ns + hSz h → k ≤ R.cells → ns ≤ R.slots →
    W p l e R s m args below meth c H locs cells slots (SQ below s D sd F ad h.length r h' k ns) (F0 m pc ls (st.map (cz ad sd)))
/-- an instruction that leaves heap and locals -/
theorem ev_go {M : Mt} {d pc pc' : Nat} {lv : List (Nat × Value)} {st st' : List Value} {h h' : mH} {r : mR}
    (f : ∀ {p : Program} {l : Launch} {e : Env} {R : Room} {s : State} {m : MethodId} {args : Array Value} {below : List Frame} {meth : Method} {c : Code} {H : Heap} {locs : List Loc} {cells slots : Nat} {Q : State → Prop} {D : va_G} {sd ad : Nat → Nat} {F : Nat → Prop} {ls : Array Slot},
      Cx M d p l R s m meth c D sd F → lv_has ls M.2.2.1 (czL ad sd lv) → mW D s ad sd F h H → W p l e R s m args below meth c H locs cells slots Q (F0 m pc' ls (st'.map (cz ad sd))) → W p l e R s m args below meth c H locs cells slots Q (F0 m pc ls (st.map (cz ad sd))))
    (k : Ev M d pc' lv st' h r h') : Ev M d pc lv st h r h' :=
  ⟨k.1, k.2.1, fun p l e R s m args below meth c H locs cells slots D sd ad F ls k0 ns hC hl hW hL h1 h2 h3 h4 => f hC hl hW (k.2.2 p l e R s m args below meth c H locs cells slots D sd ad F ls k0 ns hC hl hW hL h1 h2 h3 h4)⟩
section EV1
variable {M : Mt} {d pc : Nat} {lv : List (Nat × Value)} {st : List Value} {h h' : mH} {r : mR}
theorem ev_iadd {x y : Int32} (hd : decode M.2.1 pc = .ok (.iadd, 1)) (k : Ev M d (pc + 1) lv (.int (x + y) :: st) h r h') : Ev M d pc lv (.int y :: .int x :: st) h r h' := ev_go (fun hC _ _ k => lv_iadd hC.ex hC.co hd k) k
end EV1
