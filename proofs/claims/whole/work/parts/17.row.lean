/-! the rows (NameWriter$Row), at any places; by program (wip/whole/gen17.py) -/
/-- the answer of 'at' -/
def rwAt (f : Nat → Int32) (n : Nat) (i : Int32) : Int32 := if 0 ≤ i then (if i < nI n then f i.toNatClampNeg else -1) else -1
theorem nI_of' {x : Int32} (h : 0 ≤ x) : ∃ j : Nat, j < 2 ^ 31 ∧ x = nI j := nI_of (Int32.not_lt.mpr h)
theorem setNe {o a : Nat} (h : o ≠ a) : a ≠ o := Ne.symm h
theorem Ri_of {v F : Int32} {h : mH} (e : v = F) : Ri F h (.inl (some (.int v))) h := ⟨by rw [e], rfl⟩
theorem mn_nI {k n : Nat} (hk : k ≤ n) (hn : n < 2 ^ 31) : (if nI k < nI n then nI k else nI n) = nI k := by
  split
  · rfl
  · next z => exact Int32.le_antisymm (Int32.not_lt.mp z) (nI_le hk hn)
theorem mx_nI {k : Nat} (hk : k < 2 ^ 31) : (if (0 : Int32) < nI k then nI k else 0) = nI k := by
  split
  · rfl
  · next z => exact Int32.le_antisymm (nI_pos' hk) (Int32.not_lt.mp z)
theorem nI_120 : nI 120 = 120 := by decide +kernel
/-- where an item first stands -/
def rwFind (f : Nat → Int32) (n : Nat) (x : Int32) : Option Nat := (List.range n).find? (fun j => f j = x)
def rwFindI (f : Nat → Int32) (n : Nat) (x : Int32) : Int32 := match rwFind f n x with
  | some j => nI j
  | none => -1
theorem rwFind_no {f : Nat → Int32} {n : Nat} {x : Int32} (h : ∀ j, j < n → f j ≠ x) : rwFindI f n x = -1 := by
  have e : rwFind f n x = none := List.find?_eq_none.mpr fun j hj => by simpa using h j (List.mem_range.mp hj)
  unfold rwFindI
  rw [e]
theorem rwFind_at {f : Nat → Int32} {n i : Nat} {x : Int32} (hi : i < n) (hx : f i = x) (h : ∀ j, j < i → f j ≠ x) : rwFindI f n x = nI i := by
  have e : rwFind f n x = some i := by
    unfold rwFind
    rw [List.find?_range_eq_some]
    exact ⟨by simpa using hx, List.mem_range.mpr hi, fun j hj => by simpa using h j hj⟩
  unfold rwFindI
  rw [e]
set_option maxHeartbeats 4000000 in
set_option maxRecDepth 100000 in
theorem w_size {d o a : Nat} {h : mH} {f : Nat → Int32} {n : Nat} (ho : h[o]? = some (mO 2 [.ref a, .int (nI n)])) (ha : h[a]? = some (mA 120 f)) (hne : o ≠ a) (hn : n ≤ 120) : EvP m_W_size d 0 [(0, .ref o)] [] h (Ri (nI n) h) := by
  refine ep_aload_n (j := 0) d_W_size_0 rfl rfl ?_
  refine ep_getf (fi := 1) (v := .int (nI n)) d_W_size_1 cl2 lf_W_15 (by decide) ho rfl ?_
  exact ep_iret d_W_size_4 rfl rfl (⟨rfl, rfl⟩)
set_option maxHeartbeats 4000000 in
set_option maxRecDepth 100000 in
theorem w_at {d o a : Nat} {h : mH} {f : Nat → Int32} {n : Nat} (ho : h[o]? = some (mO 2 [.ref a, .int (nI n)])) (ha : h[a]? = some (mA 120 f)) (hne : o ≠ a) (hn : n ≤ 120) (i : Int32) : EvP m_W_at d 0 [(0, .ref o), (1, .int i)] [] h (Ri (rwAt f n i) h) := by
  refine ep_iload_n (j := 1) d_W_at_0 rfl rfl ?_
  refine ep_if_lt (tgt := 21) d_W_at_1 (by decide) (fun c1 => ?_) (fun c1 => ?_)
  · refine ep_iconst (v := (-1)) d_W_at_21 (by decide) ?_
    exact ep_iret d_W_at_22 rfl rfl (Ri_of (by unfold rwAt; first | rw [if_neg (Int32.not_le.mpr c1)] | rw [if_pos (Int32.not_lt.mp c1), if_neg (Int32.not_lt.mpr c9)]))
  · refine ep_iload_n (j := 1) d_W_at_4 rfl rfl ?_
    refine ep_aload_n (j := 0) d_W_at_5 rfl rfl ?_
    refine ep_getf (fi := 1) (v := .int (nI n)) d_W_at_6 cl2 lf_W_15 (by decide) ho rfl ?_
    refine ep_icmp_ge (tgt := 21) d_W_at_9 (by decide) (fun c9 => ?_) (fun c9 => ?_)
    · refine ep_iconst (v := (-1)) d_W_at_21 (by decide) ?_
      exact ep_iret d_W_at_22 rfl rfl (Ri_of (by unfold rwAt; first | rw [if_neg (Int32.not_le.mpr c1)] | rw [if_pos (Int32.not_lt.mp c1), if_neg (Int32.not_lt.mpr c9)]))
    · have c1' := Int32.not_lt.mp c1
      obtain ⟨j, hj1, rfl⟩ := nI_of' c1'
      have c9' : nI j < nI n := Int32.not_le.mp c9
      have hj : j < 120 := by have := (nI_ltI hj1 (by omega)).mp c9'; omega
      refine ep_aload_n (j := 0) d_W_at_12 rfl rfl ?_
      refine ep_getf (fi := 0) (v := .ref a) d_W_at_13 cl2 lf_W_9 (by decide) ho rfl ?_
      refine ep_iload_n (j := 1) d_W_at_16 rfl rfl ?_
      refine ep_iald (f := f) j d_W_at_17 ha rfl hj (by decide) ?_
      refine ep_goto (tgt := 22) d_W_at_18 (by decide) ?_
      exact ep_iret d_W_at_22 rfl rfl (Ri_of (by unfold rwAt; rw [if_pos c1', if_pos c9', nI_clamp hj1]))
set_option maxHeartbeats 4000000 in
set_option maxRecDepth 100000 in
theorem w_add_no {d o a : Nat} {h : mH} {f : Nat → Int32} {n : Nat} (ho : h[o]? = some (mO 2 [.ref a, .int (nI n)])) (ha : h[a]? = some (mA 120 f)) (hne : o ≠ a) (hn : n ≤ 120) (hn0 : n = 120) (x : Int32) : EvP m_W_add d 0 [(0, .ref o), (1, .int x)] [] h (Ri 0 h) := by
  refine ep_aload_n (j := 0) d_W_add_0 rfl rfl ?_
  refine ep_getf (fi := 1) (v := .int (nI n)) d_W_add_1 cl2 lf_W_15 (by decide) ho rfl ?_
  refine ep_bipush (v := 120) d_W_add_4 (by decide) ?_
  refine ep_icmp_lt (tgt := 11) d_W_add_6 (by decide) (fun z => absurd z (by rw [hn0]; decide +kernel)) (fun _ => ?_)
  refine ep_iconst (v := 0) d_W_add_9 (by decide) ?_
  exact ep_iret d_W_add_10 rfl rfl (⟨rfl, rfl⟩)
set_option maxHeartbeats 4000000 in
set_option maxRecDepth 100000 in
theorem w_add {d o a : Nat} {h : mH} {f : Nat → Int32} {n : Nat} (ho : h[o]? = some (mO 2 [.ref a, .int (nI n)])) (ha : h[a]? = some (mA 120 f)) (hne : o ≠ a) (hn : n ≤ 120) (hn0 : n < 120) (x : Int32) : EvP m_W_add d 0 [(0, .ref o), (1, .int x)] [] h (Ri 1 ((h.set a (mA 120 (upd f n x))).set o (mO 2 [.ref a, .int (nI (n + 1))]))) := by
  refine ep_aload_n (j := 0) d_W_add_0 rfl rfl ?_
  refine ep_getf (fi := 1) (v := .int (nI n)) d_W_add_1 cl2 lf_W_15 (by decide) ho rfl ?_
  refine ep_bipush (v := 120) d_W_add_4 (by decide) ?_
  refine ep_icmp_lt (tgt := 11) d_W_add_6 (by decide) (fun _ => ?_) (fun z => absurd (by rw [← nI_120]; exact nI_lt hn0 (by decide)) z)
  refine ep_aload_n (j := 0) d_W_add_11 rfl rfl ?_
  refine ep_getf (fi := 0) (v := .ref a) d_W_add_12 cl2 lf_W_9 (by decide) ho rfl ?_
  refine ep_aload_n (j := 0) d_W_add_15 rfl rfl ?_
  refine ep_getf (fi := 1) (v := .int (nI n)) d_W_add_16 cl2 lf_W_15 (by decide) ho rfl ?_
  refine ep_iload_n (j := 1) d_W_add_19 rfl rfl ?_
  refine ep_iast' (h2 := (h.set a (mA 120 (upd f n x)))) n d_W_add_20 ha rfl hn0 (by decide) rfl ?_
  refine ep_aload_n (j := 0) d_W_add_21 rfl rfl ?_
  refine ep_dup d_W_add_22 rfl ?_
  refine ep_getf (fi := 1) (v := .int (nI n)) d_W_add_23 cl2 lf_W_15 (by decide) ((List.getElem?_set_ne (setNe hne)).trans ho) rfl ?_
  refine ep_iconst (v := 1) d_W_add_26 (by decide) ?_
  refine ep_iadd d_W_add_27 ?_
  refine ep_cg (y := nI (n + 1)) (nI_1 n) ?_
  refine ep_putf' (fi := 1) (h2 := ((h.set a (mA 120 (upd f n x))).set o (mO 2 [.ref a, .int (nI (n + 1))]))) d_W_add_28 cl2 lf_W_15 (by decide) (Or.inl rfl) rfl ((List.getElem?_set_ne (setNe hne)).trans ho) rfl ?_
  refine ep_iconst (v := 1) d_W_add_31 (by decide) ?_
  exact ep_iret d_W_add_32 rfl rfl (⟨rfl, rfl⟩)
set_option maxHeartbeats 4000000 in
set_option maxRecDepth 100000 in
theorem w_cut {d o a : Nat} {h : mH} {f : Nat → Int32} {n : Nat} (ho : h[o]? = some (mO 2 [.ref a, .int (nI n)])) (ha : h[a]? = some (mA 120 f)) (hne : o ≠ a) (hn : n ≤ 120) {k : Nat} (hk : k ≤ n) : EvP m_W_cut d 0 [(0, .ref o), (1, .int (nI k))] [] h (Rv (h.set o (mO 2 [.ref a, .int (nI k)]))) := by
  refine ep_aload_n (j := 0) d_W_cut_0 rfl rfl ?_
  refine ep_iconst (v := 0) d_W_cut_1 (by decide) ?_
  refine ep_aload_n (j := 0) d_W_cut_2 rfl rfl ?_
  refine ep_getf (fi := 1) (v := .int (nI n)) d_W_cut_3 cl2 lf_W_15 (by decide) ho rfl ?_
  refine ep_iload_n (j := 1) d_W_cut_6 rfl rfl ?_
  refine ep_mmin d_W_cut_7 lk_W_19 tm_J_min ti_JM tc_J_min (Nat.le_of_ble_eq_true rfl) ?_
  refine ep_cg (y := nI k) (mn_nI hk (by omega)) ?_
  refine ep_mmax d_W_cut_10 lk_W_25 tm_J_max ti_JM tc_J_max (Nat.le_of_ble_eq_true rfl) ?_
  refine ep_cg (y := nI k) (mx_nI (by omega)) ?_
  refine ep_putf' (fi := 1) (h2 := (h.set o (mO 2 [.ref a, .int (nI k)]))) d_W_cut_13 cl2 lf_W_15 (by decide) (Or.inl rfl) rfl ho rfl ?_
  exact ep_vret d_W_cut_16 rfl (⟨rfl, rfl⟩)
set_option maxHeartbeats 4000000 in
set_option maxRecDepth 100000 in
theorem w_take {d o a : Nat} {h : mH} {f : Nat → Int32} {n : Nat} (ho : h[o]? = some (mO 2 [.ref a, .int (nI n)])) (ha : h[a]? = some (mA 120 f)) (hne : o ≠ a) (hn : n ≤ 120) {o1 a1 n1 : Nat} {g : Nat → Int32} (ho1 : h[o1]? = some (mO 2 [.ref a1, .int (nI n1)])) (ha1 : h[a1]? = some (mA 120 g)) (hx1 : a ≠ o1) : EvP m_W_take d 0 [(0, .ref o), (1, .ref o1)] [] h (Rv ((h.set a (mA 120 (va_cpy g f 0 0 120))).set o (mO 2 [.ref a, .int (nI n1)]))) := by
  refine ep_aload_n (j := 1) d_W_take_0 rfl rfl ?_
  refine ep_getf (fi := 0) (v := .ref a1) d_W_take_1 cl2 lf_W_9 (by decide) ho1 rfl ?_
  refine ep_iconst (v := 0) d_W_take_4 (by decide) ?_
  refine ep_aload_n (j := 0) d_W_take_5 rfl rfl ?_
  refine ep_getf (fi := 0) (v := .ref a) d_W_take_6 cl2 lf_W_9 (by decide) ho rfl ?_
  refine ep_iconst (v := 0) d_W_take_9 (by decide) ?_
  refine ep_bipush (v := 120) d_W_take_10 (by decide) ?_
  refine ep_acopy 120 d_W_take_12 lk_W_28 tn_J_acopy tm_J_acopy ti_java_lang_System ha1 ha nI_0.symm nI_0.symm nI_120.symm (by decide) (by decide) (by decide) (by decide) (by decide) ?_
  refine ep_aload_n (j := 0) d_W_take_15 rfl rfl ?_
  refine ep_aload_n (j := 1) d_W_take_16 rfl rfl ?_
  refine ep_getf (fi := 1) (v := .int (nI n1)) d_W_take_17 cl2 lf_W_15 (by decide) ((List.getElem?_set_ne hx1).trans ho1) rfl ?_
  refine ep_putf' (fi := 1) (h2 := (h.set a (mA 120 (va_cpy g f 0 0 120))).set o (mO 2 [.ref a, .int (nI n1)])) d_W_take_20 cl2 lf_W_15 (by decide) (Or.inl rfl) rfl ((List.getElem?_set_ne (setNe hne)).trans ho) rfl ?_
  exact ep_vret d_W_take_23 rfl ⟨rfl, rfl⟩
set_option maxHeartbeats 4000000 in
set_option maxRecDepth 100000 in
theorem w_find_l {d o a : Nat} {h : mH} {f : Nat → Int32} {n : Nat} (ho : h[o]? = some (mO 2 [.ref a, .int (nI n)])) (ha : h[a]? = some (mA 120 f)) (hne : o ≠ a) (hn : n ≤ 120) (x : Int32) : ∀ (k i : Nat), n + 1 - i ≤ k → i ≤ n → (∀ j, j < i → f j ≠ x) → EvP m_W_find d 2 [(0, .ref o), (1, .int x), (2, .int (nI i))] [] h (Ri (rwFindI f n x) h) := by
  intro k
  induction k with
  | zero => intro i h1 h2; omega
  | succ k ih =>
    intro i h1 h2 hno
    refine ep_iload_n (j := 2) d_W_find_2 rfl rfl ?_
    refine ep_aload_n (j := 0) d_W_find_3 rfl rfl ?_
    refine ep_getf (fi := 1) (v := .int (nI n)) d_W_find_4 cl2 lf_W_15 (by decide) ho rfl ?_
    refine ep_icmp_ge (tgt := 28) d_W_find_7 (by decide) (fun c7 => ?_) (fun c7 => ?_)
    · refine ep_iconst (v := (-1)) d_W_find_28 (by decide) ?_
      exact ep_iret d_W_find_29 rfl rfl (Ri_of (rwFind_no (fun j hj => hno j (by have := (nI_leI (by omega) (by omega)).mp c7; omega))).symm)
    · have hin : i < n := (nI_ltI (by omega) (by omega)).mp (Int32.not_le.mp c7)
      refine ep_aload_n (j := 0) d_W_find_10 rfl rfl ?_
      refine ep_getf (fi := 0) (v := .ref a) d_W_find_11 cl2 lf_W_9 (by decide) ho rfl ?_
      refine ep_iload_n (j := 2) d_W_find_14 rfl rfl ?_
      refine ep_iald (f := f) i d_W_find_15 ha rfl (by omega) (by decide) ?_
      refine ep_iload_n (j := 1) d_W_find_16 rfl rfl ?_
      refine ep_icmp_ne (tgt := 22) d_W_find_17 (by decide) (fun c17 => ?_) (fun c17 => ?_)
      · refine ep_iinc (v := (nI (i + 1))) (j := 2) (lv' := [(0, .ref o), (1, .int x), (2, .int (nI (i + 1)))]) [1, 2, 0] d_W_find_22 rfl (nI_1 i) (by decide) rfl ?_
        refine ep_goto (tgt := 2) d_W_find_25 (by decide) ?_
        exact ih (i + 1) (by omega) (by omega) (fun j hj => by
          rcases (show j < i ∨ j = i by omega) with q | q
          · exact hno j q
          · subst q; exact c17)
      · refine ep_iload_n (j := 2) d_W_find_20 rfl rfl ?_
        exact ep_iret d_W_find_21 rfl rfl (Ri_of (rwFind_at hin c17 hno).symm)
set_option maxHeartbeats 4000000 in
set_option maxRecDepth 100000 in
theorem w_find {d o a : Nat} {h : mH} {f : Nat → Int32} {n : Nat} (ho : h[o]? = some (mO 2 [.ref a, .int (nI n)])) (ha : h[a]? = some (mA 120 f)) (hne : o ≠ a) (hn : n ≤ 120) (x : Int32) : EvP m_W_find d 0 [(0, .ref o), (1, .int x)] [] h (Ri (rwFindI f n x) h) := by
  refine ep_iconst (v := 0) d_W_find_0 (by decide) ?_
  refine ep_istore_n (lv' := [(0, .ref o), (1, .int x), (2, .int 0)]) [1, 2, 0] d_W_find_1 rfl (by decide) rfl ?_
  exact w_find_l ho ha hne hn x _ 0 (Nat.le_refl _) (by omega) (fun j hj => absurd hj (Nat.not_lt_zero j))
