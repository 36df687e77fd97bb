/-! the rules once more, with a condition on the end instead of a named end; by program (wip/whole/gen14.py) -/
def EvP (M : Mt) (d : Nat) (pc : Nat) (lv : List (Nat × Value)) (st : List Value) (h : mH) (P : mR → mH → Prop) : Prop := ∃ (r : mR) (h' : mH), Ev M d pc lv st h r h' ∧ P r h'
section EP
variable {M N : Mt} {d pc np : Nat} {lv : List (Nat × Value)} {st st0 As : List Value} {h : mH} {P P1 : mR → mH → Prop}
theorem EvP.mono {P Q : mR → mH → Prop} (k : EvP M d pc lv st h P) (q : ∀ r h', P r h' → Q r h') : EvP M d pc lv st h Q := by
  obtain ⟨r, h', e, p⟩ := k
  exact ⟨r, h', e, q r h' p⟩
theorem ep_iconst {n : Int} {v : Int32} (hd : decode M.2.1 pc = .ok (.iconst n, 1)) (hv : Int32.ofInt n = v) (k : EvP M d (pc + 1) lv (.int v :: st) h P) : EvP M d pc lv (st) h P := by
  obtain ⟨r, h', e, p⟩ := k
  exact ⟨r, h', ev_iconst hd hv e, p⟩
theorem ep_bipush {n : Int} {v : Int32} (hd : decode M.2.1 pc = .ok (.bipush n, 2)) (hv : (Int8.ofInt n).toInt32 = v) (k : EvP M d (pc + 2) lv (.int v :: st) h P) : EvP M d pc lv (st) h P := by
  obtain ⟨r, h', e, p⟩ := k
  exact ⟨r, h', ev_bipush hd hv e, p⟩
theorem ep_sipush {n : Int} {v : Int32} (hd : decode M.2.1 pc = .ok (.sipush n, 3)) (hv : (Int16.ofInt n).toInt32 = v) (k : EvP M d (pc + 3) lv (.int v :: st) h P) : EvP M d pc lv (st) h P := by
  obtain ⟨r, h', e, p⟩ := k
  exact ⟨r, h', ev_sipush hd hv e, p⟩
theorem ep_iadd {x y : Int32} (hd : decode M.2.1 pc = .ok (.iadd, 1)) (k : EvP M d (pc + 1) lv (.int (x + y) :: st) h P) : EvP M d pc lv (.int y :: .int x :: st) h P := by
  obtain ⟨r, h', e, p⟩ := k
  exact ⟨r, h', ev_iadd hd e, p⟩
theorem ep_isub {x y : Int32} (hd : decode M.2.1 pc = .ok (.isub, 1)) (k : EvP M d (pc + 1) lv (.int (x - y) :: st) h P) : EvP M d pc lv (.int y :: .int x :: st) h P := by
  obtain ⟨r, h', e, p⟩ := k
  exact ⟨r, h', ev_isub hd e, p⟩
theorem ep_imul {x y : Int32} (hd : decode M.2.1 pc = .ok (.imul, 1)) (k : EvP M d (pc + 1) lv (.int (x * y) :: st) h P) : EvP M d pc lv (.int y :: .int x :: st) h P := by
  obtain ⟨r, h', e, p⟩ := k
  exact ⟨r, h', ev_imul hd e, p⟩
theorem ep_iand {x y : Int32} (hd : decode M.2.1 pc = .ok (.iand, 1)) (k : EvP M d (pc + 1) lv (.int (x &&& y) :: st) h P) : EvP M d pc lv (.int y :: .int x :: st) h P := by
  obtain ⟨r, h', e, p⟩ := k
  exact ⟨r, h', ev_iand hd e, p⟩
theorem ep_ior {x y : Int32} (hd : decode M.2.1 pc = .ok (.ior, 1)) (k : EvP M d (pc + 1) lv (.int (x ||| y) :: st) h P) : EvP M d pc lv (.int y :: .int x :: st) h P := by
  obtain ⟨r, h', e, p⟩ := k
  exact ⟨r, h', ev_ior hd e, p⟩
theorem ep_ixor {x y : Int32} (hd : decode M.2.1 pc = .ok (.ixor, 1)) (k : EvP M d (pc + 1) lv (.int (x ^^^ y) :: st) h P) : EvP M d pc lv (.int y :: .int x :: st) h P := by
  obtain ⟨r, h', e, p⟩ := k
  exact ⟨r, h', ev_ixor hd e, p⟩
theorem ep_ishl {x y : Int32} (hd : decode M.2.1 pc = .ok (.ishl, 1)) (k : EvP M d (pc + 1) lv (.int (x <<< (y &&& 31)) :: st) h P) : EvP M d pc lv (.int y :: .int x :: st) h P := by
  obtain ⟨r, h', e, p⟩ := k
  exact ⟨r, h', ev_ishl hd e, p⟩
theorem ep_ishr {x y : Int32} (hd : decode M.2.1 pc = .ok (.ishr, 1)) (k : EvP M d (pc + 1) lv (.int (x >>> (y &&& 31)) :: st) h P) : EvP M d pc lv (.int y :: .int x :: st) h P := by
  obtain ⟨r, h', e, p⟩ := k
  exact ⟨r, h', ev_ishr hd e, p⟩
theorem ep_idiv {x y : Int32} (hd : decode M.2.1 pc = .ok (.idiv, 1)) (hne : ¬ y = 0) (k : EvP M d (pc + 1) lv (.int (x / y) :: st) h P) : EvP M d pc lv (.int y :: .int x :: st) h P := by
  obtain ⟨r, h', e, p⟩ := k
  exact ⟨r, h', ev_idiv hd hne e, p⟩
theorem ep_irem {x y : Int32} (hd : decode M.2.1 pc = .ok (.irem, 1)) (hne : ¬ y = 0) (k : EvP M d (pc + 1) lv (.int (x - x / y * y) :: st) h P) : EvP M d pc lv (.int y :: .int x :: st) h P := by
  obtain ⟨r, h', e, p⟩ := k
  exact ⟨r, h', ev_irem hd hne e, p⟩
theorem ep_ineg {x : Int32} (hd : decode M.2.1 pc = .ok (.ineg, 1)) (k : EvP M d (pc + 1) lv (.int (-x) :: st) h P) : EvP M d pc lv (.int x :: st) h P := by
  obtain ⟨r, h', e, p⟩ := k
  exact ⟨r, h', ev_ineg hd e, p⟩
theorem ep_iushr {x y : Int32} (hd : decode M.2.1 pc = .ok (.iushr, 1)) (k : EvP M d (pc + 1) lv (.int ((x.toUInt32 >>> (y.toUInt32 &&& Int32.toUInt32 31)).toInt32) :: st) h P) : EvP M d pc lv (.int y :: .int x :: st) h P := by
  obtain ⟨r, h', e, p⟩ := k
  exact ⟨r, h', ev_iushr hd e, p⟩
theorem ep_i2l {x : Int32} (hd : decode M.2.1 pc = .ok (.i2l, 1)) (k : EvP M d (pc + 1) lv (.long x.toInt64 :: st) h P) : EvP M d pc lv (.int x :: st) h P := by
  obtain ⟨r, h', e, p⟩ := k
  exact ⟨r, h', ev_i2l hd e, p⟩
theorem ep_l2i {x : Int64} (hd : decode M.2.1 pc = .ok (.l2i, 1)) (k : EvP M d (pc + 1) lv (.int x.toInt32 :: st) h P) : EvP M d pc lv (.long x :: st) h P := by
  obtain ⟨r, h', e, p⟩ := k
  exact ⟨r, h', ev_l2i hd e, p⟩
theorem ep_lushr {x : Int64} {y : Int32} (hd : decode M.2.1 pc = .ok (.lushr, 1)) (k : EvP M d (pc + 1) lv (.long ((x.toUInt64 >>> (y.toInt64.toUInt64 &&& Int64.toUInt64 63)).toInt64) :: st) h P) : EvP M d pc lv (.int y :: .long x :: st) h P := by
  obtain ⟨r, h', e, p⟩ := k
  exact ⟨r, h', ev_lushr hd e, p⟩
theorem ep_lshl {x : Int64} {y : Int32} (hd : decode M.2.1 pc = .ok (.lshl, 1)) (k : EvP M d (pc + 1) lv (.long (x <<< (y.toInt64 &&& 63)) :: st) h P) : EvP M d pc lv (.int y :: .long x :: st) h P := by
  obtain ⟨r, h', e, p⟩ := k
  exact ⟨r, h', ev_lshl hd e, p⟩
theorem ep_lshr {x : Int64} {y : Int32} (hd : decode M.2.1 pc = .ok (.lshr, 1)) (k : EvP M d (pc + 1) lv (.long (x >>> (y.toInt64 &&& 63)) :: st) h P) : EvP M d pc lv (.int y :: .long x :: st) h P := by
  obtain ⟨r, h', e, p⟩ := k
  exact ⟨r, h', ev_lshr hd e, p⟩
theorem ep_land {x y : Int64} (hd : decode M.2.1 pc = .ok (.land, 1)) (k : EvP M d (pc + 1) lv (.long (x &&& y) :: st) h P) : EvP M d pc lv (.long y :: .long x :: st) h P := by
  obtain ⟨r, h', e, p⟩ := k
  exact ⟨r, h', ev_land hd e, p⟩
theorem ep_lor {x y : Int64} (hd : decode M.2.1 pc = .ok (.lor, 1)) (k : EvP M d (pc + 1) lv (.long (x ||| y) :: st) h P) : EvP M d pc lv (.long y :: .long x :: st) h P := by
  obtain ⟨r, h', e, p⟩ := k
  exact ⟨r, h', ev_lor hd e, p⟩
theorem ep_lcmp {x y : Int64} (hd : decode M.2.1 pc = .ok (.lcmp, 1)) (k : EvP M d (pc + 1) lv (.int (lg_cmp x y) :: st) h P) : EvP M d pc lv (.long y :: .long x :: st) h P := by
  obtain ⟨r, h', e, p⟩ := k
  exact ⟨r, h', ev_lcmp hd e, p⟩
theorem ep_dup {v : Value} (hd : decode M.2.1 pc = .ok (.dup, 1)) (hv : v.category = 1) (k : EvP M d (pc + 1) lv (v :: v :: st) h P) : EvP M d pc lv (v :: st) h P := by
  obtain ⟨r, h', e, p⟩ := k
  exact ⟨r, h', ev_dup hd hv e, p⟩
theorem ep_pop {v : Value} (hd : decode M.2.1 pc = .ok (.pop, 1)) (hv : v.category = 1) (k : EvP M d (pc + 1) lv (st) h P) : EvP M d pc lv (v :: st) h P := by
  obtain ⟨r, h', e, p⟩ := k
  exact ⟨r, h', ev_pop hd hv e, p⟩
theorem ep_dup_x1 {v u : Value} (hd : decode M.2.1 pc = .ok (.dup_x1, 1)) (hv : v.category = 1) (hu : u.category = 1) (k : EvP M d (pc + 1) lv (v :: u :: v :: st) h P) : EvP M d pc lv (v :: u :: st) h P := by
  obtain ⟨r, h', e, p⟩ := k
  exact ⟨r, h', ev_dup_x1 hd hv hu e, p⟩
theorem ep_dup2 {v u : Value} (hd : decode M.2.1 pc = .ok (.dup2, 1)) (hv : v.category = 1) (hu : u.category = 1) (k : EvP M d (pc + 1) lv (v :: u :: v :: u :: st) h P) : EvP M d pc lv (v :: u :: st) h P := by
  obtain ⟨r, h', e, p⟩ := k
  exact ⟨r, h', ev_dup2 hd hv hu e, p⟩
theorem ep_iload {i j : Nat} {x : Int32} (hd : decode M.2.1 pc = .ok (.iload i, 2)) (hj : lv[j]? = some (i, .int x)) (k : EvP M d (pc + 2) lv (.int x :: st) h P) : EvP M d pc lv st h P := by
  obtain ⟨r, h', e, p⟩ := k
  exact ⟨r, h', ev_iload hd hj e, p⟩
theorem ep_iload_n {q : Fin 4} {i j : Nat} {x : Int32} (hd : decode M.2.1 pc = .ok (.iload_n q, 1)) (hi : (q : Nat) = i) (hj : lv[j]? = some (i, .int x)) (k : EvP M d (pc + 1) lv (.int x :: st) h P) : EvP M d pc lv st h P := by
  obtain ⟨r, h', e, p⟩ := k
  exact ⟨r, h', ev_iload_n hd hi hj e, p⟩
theorem ep_lload {i j : Nat} {x : Int64} (hd : decode M.2.1 pc = .ok (.lload i, 2)) (hj : lv[j]? = some (i, .long x)) (k : EvP M d (pc + 2) lv (.long x :: st) h P) : EvP M d pc lv st h P := by
  obtain ⟨r, h', e, p⟩ := k
  exact ⟨r, h', ev_lload hd hj e, p⟩
theorem ep_lload_n {q : Fin 4} {i j : Nat} {x : Int64} (hd : decode M.2.1 pc = .ok (.lload_n q, 1)) (hi : (q : Nat) = i) (hj : lv[j]? = some (i, .long x)) (k : EvP M d (pc + 1) lv (.long x :: st) h P) : EvP M d pc lv st h P := by
  obtain ⟨r, h', e, p⟩ := k
  exact ⟨r, h', ev_lload_n hd hi hj e, p⟩
theorem ep_aload {i j o : Nat} (hd : decode M.2.1 pc = .ok (.aload i, 2)) (hj : lv[j]? = some (i, .ref o)) (k : EvP M d (pc + 2) lv (.ref o :: st) h P) : EvP M d pc lv st h P := by
  obtain ⟨r, h', e, p⟩ := k
  exact ⟨r, h', ev_aload hd hj e, p⟩
theorem ep_aload_n {q : Fin 4} {i j o : Nat} (hd : decode M.2.1 pc = .ok (.aload_n q, 1)) (hi : (q : Nat) = i) (hj : lv[j]? = some (i, .ref o)) (k : EvP M d (pc + 1) lv (.ref o :: st) h P) : EvP M d pc lv st h P := by
  obtain ⟨r, h', e, p⟩ := k
  exact ⟨r, h', ev_aload_n hd hi hj e, p⟩
theorem ep_istore {i : Nat} {x : Int32} {lv' : List (Nat × Value)} (ks : List Nat) (hd : decode M.2.1 pc = .ok (.istore i, 2)) (hn : i < M.2.2.1) (hp : lv_pick (st1 lv i (.int x)) ks = lv') (k : EvP M d (pc + 2) lv' st h P) : EvP M d pc lv (.int x :: st) h P := by
  obtain ⟨r, h', e, p⟩ := k
  exact ⟨r, h', ev_istore ks hd hn hp e, p⟩
theorem ep_istore_n {q : Fin 4} {i : Nat} {x : Int32} {lv' : List (Nat × Value)} (ks : List Nat) (hd : decode M.2.1 pc = .ok (.istore_n q, 1)) (hi : (q : Nat) = i) (hn : i < M.2.2.1) (hp : lv_pick (st1 lv i (.int x)) ks = lv') (k : EvP M d (pc + 1) lv' st h P) : EvP M d pc lv (.int x :: st) h P := by
  obtain ⟨r, h', e, p⟩ := k
  exact ⟨r, h', ev_istore_n ks hd hi hn hp e, p⟩
theorem ep_astore {i : Nat} {x : Nat} {lv' : List (Nat × Value)} (ks : List Nat) (hd : decode M.2.1 pc = .ok (.astore i, 2)) (hn : i < M.2.2.1) (hp : lv_pick (st1 lv i (.ref x)) ks = lv') (k : EvP M d (pc + 2) lv' st h P) : EvP M d pc lv (.ref x :: st) h P := by
  obtain ⟨r, h', e, p⟩ := k
  exact ⟨r, h', ev_astore ks hd hn hp e, p⟩
theorem ep_astore_n {q : Fin 4} {i : Nat} {x : Nat} {lv' : List (Nat × Value)} (ks : List Nat) (hd : decode M.2.1 pc = .ok (.astore_n q, 1)) (hi : (q : Nat) = i) (hn : i < M.2.2.1) (hp : lv_pick (st1 lv i (.ref x)) ks = lv') (k : EvP M d (pc + 1) lv' st h P) : EvP M d pc lv (.ref x :: st) h P := by
  obtain ⟨r, h', e, p⟩ := k
  exact ⟨r, h', ev_astore_n ks hd hi hn hp e, p⟩
theorem ep_iinc {i j : Nat} {n : Int} {x v : Int32} {lv' : List (Nat × Value)} (ks : List Nat) (hd : decode M.2.1 pc = .ok (.iinc i n, 3)) (hj : lv[j]? = some (i, .int x)) (hv : x + Int32.ofInt n = v) (hn : i < M.2.2.1) (hp : lv_pick (st1 lv i (.int v)) ks = lv') (k : EvP M d (pc + 3) lv' st h P) : EvP M d pc lv st h P := by
  obtain ⟨r, h', e, p⟩ := k
  exact ⟨r, h', ev_iinc ks hd hj hv hn hp e, p⟩
theorem ep_sub {lv' : List (Nat × Value)} (ks : List Nat) (hp : lv_pick lv ks = lv') (k : EvP M d pc lv' st h P) : EvP M d pc lv st h P := by
  obtain ⟨r, h', e, p⟩ := k
  exact ⟨r, h', ev_sub ks hp e, p⟩
theorem ep_goto {off : Int} {tgt : Nat} (hd : decode M.2.1 pc = .ok (.goto off, 3)) (ht : (pc : Int) + off = (tgt : Int)) (k : EvP M d tgt lv st h P) : EvP M d pc lv st h P := by
  obtain ⟨r, h', e, p⟩ := k
  exact ⟨r, h', ev_goto hd ht e, p⟩
theorem ep_if_eq {x : Int32} {off : Int} {tgt : Nat} (hd : decode M.2.1 pc = .ok (.ifCond .eq off, 3)) (ht : (pc : Int) + off = (tgt : Int)) (k1 : x = 0 → EvP M d tgt lv st h P) (k2 : ¬ x = 0 → EvP M d (pc + 3) lv st h P) : EvP M d pc lv (.int x :: st) h P := by
  by_cases q : x = 0
  · obtain ⟨r, h', e, p⟩ := k1 q
    exact ⟨r, h', ev_if_eq hd ht (fun _ => e) (fun n => absurd q n), p⟩
  · obtain ⟨r, h', e, p⟩ := k2 q
    exact ⟨r, h', ev_if_eq hd ht (fun n => absurd n q) (fun _ => e), p⟩
theorem ep_icmp_eq {x y : Int32} {off : Int} {tgt : Nat} (hd : decode M.2.1 pc = .ok (.if_icmp .eq off, 3)) (ht : (pc : Int) + off = (tgt : Int)) (k1 : x = y → EvP M d tgt lv st h P) (k2 : ¬ x = y → EvP M d (pc + 3) lv st h P) : EvP M d pc lv (.int y :: .int x :: st) h P := by
  by_cases q : x = y
  · obtain ⟨r, h', e, p⟩ := k1 q
    exact ⟨r, h', ev_icmp_eq hd ht (fun _ => e) (fun n => absurd q n), p⟩
  · obtain ⟨r, h', e, p⟩ := k2 q
    exact ⟨r, h', ev_icmp_eq hd ht (fun n => absurd n q) (fun _ => e), p⟩
theorem ep_if_ne {x : Int32} {off : Int} {tgt : Nat} (hd : decode M.2.1 pc = .ok (.ifCond .ne off, 3)) (ht : (pc : Int) + off = (tgt : Int)) (k1 : ¬ x = 0 → EvP M d tgt lv st h P) (k2 : x = 0 → EvP M d (pc + 3) lv st h P) : EvP M d pc lv (.int x :: st) h P := by
  by_cases q : x = 0
  · obtain ⟨r, h', e, p⟩ := k2 q
    exact ⟨r, h', ev_if_ne hd ht (fun n => absurd q n) (fun _ => e), p⟩
  · obtain ⟨r, h', e, p⟩ := k1 q
    exact ⟨r, h', ev_if_ne hd ht (fun _ => e) (fun n => absurd n q), p⟩
theorem ep_icmp_ne {x y : Int32} {off : Int} {tgt : Nat} (hd : decode M.2.1 pc = .ok (.if_icmp .ne off, 3)) (ht : (pc : Int) + off = (tgt : Int)) (k1 : ¬ x = y → EvP M d tgt lv st h P) (k2 : x = y → EvP M d (pc + 3) lv st h P) : EvP M d pc lv (.int y :: .int x :: st) h P := by
  by_cases q : x = y
  · obtain ⟨r, h', e, p⟩ := k2 q
    exact ⟨r, h', ev_icmp_ne hd ht (fun n => absurd q n) (fun _ => e), p⟩
  · obtain ⟨r, h', e, p⟩ := k1 q
    exact ⟨r, h', ev_icmp_ne hd ht (fun _ => e) (fun n => absurd n q), p⟩
theorem ep_if_lt {x : Int32} {off : Int} {tgt : Nat} (hd : decode M.2.1 pc = .ok (.ifCond .lt off, 3)) (ht : (pc : Int) + off = (tgt : Int)) (k1 : x < 0 → EvP M d tgt lv st h P) (k2 : ¬ x < 0 → EvP M d (pc + 3) lv st h P) : EvP M d pc lv (.int x :: st) h P := by
  by_cases q : x < 0
  · obtain ⟨r, h', e, p⟩ := k1 q
    exact ⟨r, h', ev_if_lt hd ht (fun _ => e) (fun n => absurd q n), p⟩
  · obtain ⟨r, h', e, p⟩ := k2 q
    exact ⟨r, h', ev_if_lt hd ht (fun n => absurd n q) (fun _ => e), p⟩
theorem ep_icmp_lt {x y : Int32} {off : Int} {tgt : Nat} (hd : decode M.2.1 pc = .ok (.if_icmp .lt off, 3)) (ht : (pc : Int) + off = (tgt : Int)) (k1 : x < y → EvP M d tgt lv st h P) (k2 : ¬ x < y → EvP M d (pc + 3) lv st h P) : EvP M d pc lv (.int y :: .int x :: st) h P := by
  by_cases q : x < y
  · obtain ⟨r, h', e, p⟩ := k1 q
    exact ⟨r, h', ev_icmp_lt hd ht (fun _ => e) (fun n => absurd q n), p⟩
  · obtain ⟨r, h', e, p⟩ := k2 q
    exact ⟨r, h', ev_icmp_lt hd ht (fun n => absurd n q) (fun _ => e), p⟩
theorem ep_if_ge {x : Int32} {off : Int} {tgt : Nat} (hd : decode M.2.1 pc = .ok (.ifCond .ge off, 3)) (ht : (pc : Int) + off = (tgt : Int)) (k1 : 0 ≤ x → EvP M d tgt lv st h P) (k2 : ¬ 0 ≤ x → EvP M d (pc + 3) lv st h P) : EvP M d pc lv (.int x :: st) h P := by
  by_cases q : 0 ≤ x
  · obtain ⟨r, h', e, p⟩ := k1 q
    exact ⟨r, h', ev_if_ge hd ht (fun _ => e) (fun n => absurd q n), p⟩
  · obtain ⟨r, h', e, p⟩ := k2 q
    exact ⟨r, h', ev_if_ge hd ht (fun n => absurd n q) (fun _ => e), p⟩
theorem ep_icmp_ge {x y : Int32} {off : Int} {tgt : Nat} (hd : decode M.2.1 pc = .ok (.if_icmp .ge off, 3)) (ht : (pc : Int) + off = (tgt : Int)) (k1 : y ≤ x → EvP M d tgt lv st h P) (k2 : ¬ y ≤ x → EvP M d (pc + 3) lv st h P) : EvP M d pc lv (.int y :: .int x :: st) h P := by
  by_cases q : y ≤ x
  · obtain ⟨r, h', e, p⟩ := k1 q
    exact ⟨r, h', ev_icmp_ge hd ht (fun _ => e) (fun n => absurd q n), p⟩
  · obtain ⟨r, h', e, p⟩ := k2 q
    exact ⟨r, h', ev_icmp_ge hd ht (fun n => absurd n q) (fun _ => e), p⟩
theorem ep_if_gt {x : Int32} {off : Int} {tgt : Nat} (hd : decode M.2.1 pc = .ok (.ifCond .gt off, 3)) (ht : (pc : Int) + off = (tgt : Int)) (k1 : 0 < x → EvP M d tgt lv st h P) (k2 : ¬ 0 < x → EvP M d (pc + 3) lv st h P) : EvP M d pc lv (.int x :: st) h P := by
  by_cases q : 0 < x
  · obtain ⟨r, h', e, p⟩ := k1 q
    exact ⟨r, h', ev_if_gt hd ht (fun _ => e) (fun n => absurd q n), p⟩
  · obtain ⟨r, h', e, p⟩ := k2 q
    exact ⟨r, h', ev_if_gt hd ht (fun n => absurd n q) (fun _ => e), p⟩
theorem ep_icmp_gt {x y : Int32} {off : Int} {tgt : Nat} (hd : decode M.2.1 pc = .ok (.if_icmp .gt off, 3)) (ht : (pc : Int) + off = (tgt : Int)) (k1 : y < x → EvP M d tgt lv st h P) (k2 : ¬ y < x → EvP M d (pc + 3) lv st h P) : EvP M d pc lv (.int y :: .int x :: st) h P := by
  by_cases q : y < x
  · obtain ⟨r, h', e, p⟩ := k1 q
    exact ⟨r, h', ev_icmp_gt hd ht (fun _ => e) (fun n => absurd q n), p⟩
  · obtain ⟨r, h', e, p⟩ := k2 q
    exact ⟨r, h', ev_icmp_gt hd ht (fun n => absurd n q) (fun _ => e), p⟩
theorem ep_if_le {x : Int32} {off : Int} {tgt : Nat} (hd : decode M.2.1 pc = .ok (.ifCond .le off, 3)) (ht : (pc : Int) + off = (tgt : Int)) (k1 : x ≤ 0 → EvP M d tgt lv st h P) (k2 : ¬ x ≤ 0 → EvP M d (pc + 3) lv st h P) : EvP M d pc lv (.int x :: st) h P := by
  by_cases q : x ≤ 0
  · obtain ⟨r, h', e, p⟩ := k1 q
    exact ⟨r, h', ev_if_le hd ht (fun _ => e) (fun n => absurd q n), p⟩
  · obtain ⟨r, h', e, p⟩ := k2 q
    exact ⟨r, h', ev_if_le hd ht (fun n => absurd n q) (fun _ => e), p⟩
theorem ep_icmp_le {x y : Int32} {off : Int} {tgt : Nat} (hd : decode M.2.1 pc = .ok (.if_icmp .le off, 3)) (ht : (pc : Int) + off = (tgt : Int)) (k1 : x ≤ y → EvP M d tgt lv st h P) (k2 : ¬ x ≤ y → EvP M d (pc + 3) lv st h P) : EvP M d pc lv (.int y :: .int x :: st) h P := by
  by_cases q : x ≤ y
  · obtain ⟨r, h', e, p⟩ := k1 q
    exact ⟨r, h', ev_icmp_le hd ht (fun _ => e) (fun n => absurd q n), p⟩
  · obtain ⟨r, h', e, p⟩ := k2 q
    exact ⟨r, h', ev_icmp_le hd ht (fun n => absurd n q) (fun _ => e), p⟩
theorem ep_ldc {ix : Nat} {v : Int32} (hd : decode M.2.1 pc = .ok (.ldc ix, 2)) (hw : InT (.constant M.1.cls ix v)) (k : EvP M d (pc + 2) lv (.int v :: st) h P) : EvP M d pc lv st h P := by
  obtain ⟨r, h', e, p⟩ := k
  exact ⟨r, h', ev_ldc hd hw e, p⟩
theorem ep_ldc2 {ix : Nat} {v : Int64} (hd : decode M.2.1 pc = .ok (.ldc2_w ix, 3)) (hw : InT (.constantLong M.1.cls ix v)) (k : EvP M d (pc + 3) lv (.long v :: st) h P) : EvP M d pc lv st h P := by
  obtain ⟨r, h', e, p⟩ := k
  exact ⟨r, h', ev_ldc2 hd hw e, p⟩
theorem ep_ldcS {ix i : Nat} {tx : String} (hd : decode M.2.1 pc = .ok (.ldc ix, 2)) (hw : (M.1.cls, ix, tx, i) ∈ strT) (k : EvP M d (pc + 2) lv (.retAddr i :: st) h P) : EvP M d pc lv st h P := by
  obtain ⟨r, h', e, p⟩ := k
  exact ⟨r, h', ev_ldcS hd hw e, p⟩
theorem ep_tsOut {df lo hi : Int} {offs : Array Int} {len : Nat} {x : Int32} {tgt : Nat} (hd : decode M.2.1 pc = .ok (.tableswitch df lo hi offs, len)) (hx : x.toInt < lo ∨ hi < x.toInt) (ht : (pc : Int) + df = (tgt : Int)) (k : EvP M d tgt lv st h P) : EvP M d pc lv (.int x :: st) h P := by
  obtain ⟨r, h', e, p⟩ := k
  exact ⟨r, h', ev_tsOut hd hx ht e, p⟩
theorem ep_tsIn {df lo hi off : Int} {offs : Array Int} {len : Nat} {x : Int32} {tgt : Nat} (hd : decode M.2.1 pc = .ok (.tableswitch df lo hi offs, len)) (h1 : ¬ x.toInt < lo) (h2 : ¬ hi < x.toInt) (ho : offs[(x.toInt - lo).toNat]? = some off) (ht : (pc : Int) + off = (tgt : Int)) (k : EvP M d tgt lv st h P) : EvP M d pc lv (.int x :: st) h P := by
  obtain ⟨r, h', e, p⟩ := k
  exact ⟨r, h', ev_tsIn hd h1 h2 ho ht e, p⟩
theorem ep_ls {df off : Int} {ps : Array (Int × Int)} {len : Nat} {x : Int32} {tgt : Nat} (hd : decode M.2.1 pc = .ok (.lookupswitch df ps, len)) (hp : (ps.toList.zip (ps.toList.drop 1)).all (fun (a, next) => a.1 < next.1) = true) (ho : Op.lookupswitch.offset ps.toList df x.toInt = off) (ht : (pc : Int) + off = (tgt : Int)) (k : EvP M d tgt lv st h P) : EvP M d pc lv (.int x :: st) h P := by
  obtain ⟨r, h', e, p⟩ := k
  exact ⟨r, h', ev_ls hd hp ho ht e, p⟩
theorem ep_getf {o ci fi ix N : Nat} {C : String} {T : u_T} {Y : Nat → FieldType} {fs : List Value} {v : Value} (hd : decode M.2.1 pc = .ok (.getfield ix, 3)) (hc : ClF ci C T N Y) (hl : InT (.fieldLink M.1.cls ix (T fi).1 (T fi).2.1 (T fi).2.2.1)) (hn : fi < N) (ho : h[o]? = some (.inl (ci, fs))) (hv : fs[fi]? = some v) (k : EvP M d (pc + 3) lv (v :: st) h P) : EvP M d pc lv (.ref o :: st) h P := by
  obtain ⟨r, h', e, p⟩ := k
  exact ⟨r, h', ev_getf hd hc hl hn ho hv e, p⟩
theorem ep_putf {o ci fi ix N : Nat} {C : String} {T : u_T} {Y : Nat → FieldType} {fs : List Value} {v : Value} (hd : decode M.2.1 pc = .ok (.putfield ix, 3)) (hc : ClF ci C T N Y) (hl : InT (.fieldLink M.1.cls ix (T fi).1 (T fi).2.1 (T fi).2.2.1)) (hn : fi < N) (hf : (T fi).2.2.2 = false ∨ ((T fi).2.2.2 = true ∧ M.1.name = "<init>" ∧ (T fi).1 = M.1.cls)) (hok : fldOk (Y fi) v = true) (ho : h[o]? = some (.inl (ci, fs))) (k : EvP M d (pc + 3) lv st (h.set o (.inl (ci, fs.set fi v))) P) : EvP M d pc lv (v :: .ref o :: st) h P := by
  obtain ⟨r, h', e, p⟩ := k
  exact ⟨r, h', ev_putf hd hc hl hn hf hok ho e, p⟩
theorem ep_iald {o n : Nat} {f : Nat → Int32} {i : Int32} (j : Nat) (hd : decode M.2.1 pc = .ok (.iaload, 1)) (ho : h[o]? = some (mA n f)) (hi : i = nI j) (hj : j < n) (hn : n < 2 ^ 31) (k : EvP M d (pc + 1) lv (.int (f j) :: st) h P) : EvP M d pc lv (.int i :: .ref o :: st) h P := by
  obtain ⟨r, h', e, p⟩ := k
  exact ⟨r, h', ev_iald j hd ho hi hj hn e, p⟩
theorem ep_xald {o n : Nat} {f : Nat → Int32} {i : Int32} (j : Nat) (hd : decode M.2.1 pc = .ok (.iaload, 1)) (ho : h[o]? = some (mX n f)) (hi : i = nI j) (hj : j < n) (hn : n < 2 ^ 31) (k : EvP M d (pc + 1) lv (.int (f j) :: st) h P) : EvP M d pc lv (.int i :: .ref o :: st) h P := by
  obtain ⟨r, h', e, p⟩ := k
  exact ⟨r, h', ev_xald j hd ho hi hj hn e, p⟩
theorem ep_xlen {o n : Nat} {f : Nat → Int32} (hd : decode M.2.1 pc = .ok (.arraylength, 1)) (ho : h[o]? = some (mX n f)) (k : EvP M d (pc + 1) lv (.int (nI n) :: st) h P) : EvP M d pc lv (.ref o :: st) h P := by
  obtain ⟨r, h', e, p⟩ := k
  exact ⟨r, h', ev_xlen hd ho e, p⟩
theorem ep_lald {o n : Nat} {f : Nat → Int64} {i : Int32} (j : Nat) (hd : decode M.2.1 pc = .ok (.laload, 1)) (ho : h[o]? = some (mL n f)) (hi : i = nI j) (hj : j < n) (hn : n < 2 ^ 31) (k : EvP M d (pc + 1) lv (.long (f j) :: st) h P) : EvP M d pc lv (.int i :: .ref o :: st) h P := by
  obtain ⟨r, h', e, p⟩ := k
  exact ⟨r, h', ev_lald j hd ho hi hj hn e, p⟩
theorem ep_iast {o n : Nat} {f : Nat → Int32} {i x : Int32} (j : Nat) (hd : decode M.2.1 pc = .ok (.iastore, 1)) (ho : h[o]? = some (mA n f)) (hi : i = nI j) (hj : j < n) (hn : n < 2 ^ 31) (k : EvP M d (pc + 1) lv st (h.set o (mA n (upd f j x))) P) : EvP M d pc lv (.int x :: .int i :: .ref o :: st) h P := by
  obtain ⟨r, h', e, p⟩ := k
  exact ⟨r, h', ev_iast j hd ho hi hj hn e, p⟩
theorem ep_last {o n : Nat} {f : Nat → Int64} {i : Int32} {x : Int64} (j : Nat) (hd : decode M.2.1 pc = .ok (.lastore, 1)) (ho : h[o]? = some (mL n f)) (hi : i = nI j) (hj : j < n) (hn : n < 2 ^ 31) (k : EvP M d (pc + 1) lv st (h.set o (mL n (vp_updL f j x))) P) : EvP M d pc lv (.long x :: .int i :: .ref o :: st) h P := by
  obtain ⟨r, h', e, p⟩ := k
  exact ⟨r, h', ev_last j hd ho hi hj hn e, p⟩
theorem ep_objI {ix o : Nat} (hd : decode M.2.1 pc = .ok (.invokespecial ix, 3)) (hl : InT (.methodLink M.1.cls ix Lib.objectInit)) (hm : InT (.instanceMethod Lib.objectInit)) (hc : InT (.code Lib.objectInit ⟨#[0xb1]⟩ 1 none)) (hcat : (st.map fun v => v.category).sum ≤ 8) (k : EvP M d (pc + 3) lv st h P) : EvP M d pc lv (.ref o :: st) h P := by
  obtain ⟨r, h', e, p⟩ := k
  exact ⟨r, h', ev_objI hd hl hm hc hcat e, p⟩
theorem ep_new {ix ci Nn : Nat} {C : String} {T : u_T} {Y : Nat → FieldType} (fs : List Value) (hd : decode M.2.1 pc = .ok (.new ix, 3)) (hc : ClF ci C T Nn Y) (hl : InT (.classLink M.1.cls ix C)) (hI : InT (.instantiable C Nn)) (hi : InT (.initialized C)) (h0 : 0 < h.length) (hfl : fs.length = Nn) (hfs : ∀ j, j < Nn → defaultValue (Y j) = vp_V fs j) (hfc : ∀ b B sd, fs.map (cz b B sd) = fs) (k : EvP M d (pc + 3) lv (.ref h.length :: st) (h ++ [.inl (ci, fs)]) P) : EvP M d pc lv st h P := by
  obtain ⟨r, h', e, p⟩ := k
  exact ⟨r, h', ev_new fs hd hc hl hI hi h0 hfl hfs hfc e, p⟩
theorem ep_newi {n : Nat} {i : Int32} (hd : decode M.2.1 pc = .ok (.newarray .int, 2)) (hi : i = nI n) (hn : n ≤ 100000) (ha : InT (.arrayClass .int)) (h0 : 0 < h.length) (k : EvP M d (pc + 2) lv (.ref h.length :: st) (h ++ [mA n (fun _ => 0)]) P) : EvP M d pc lv (.int i :: st) h P := by
  obtain ⟨r, h', e, p⟩ := k
  exact ⟨r, h', ev_newi hd hi hn ha h0 e, p⟩
theorem ep_newl {n : Nat} {i : Int32} (hd : decode M.2.1 pc = .ok (.newarray .long, 2)) (hi : i = nI n) (hn : n ≤ 100000) (ha : InT (.arrayClass .long)) (h0 : 0 < h.length) (k : EvP M d (pc + 2) lv (.ref h.length :: st) (h ++ [mL n (fun _ => 0)]) P) : EvP M d pc lv (.int i :: st) h P := by
  obtain ⟨r, h', e, p⟩ := k
  exact ⟨r, h', ev_newl hd hi hn ha h0 e, p⟩
theorem ep_mmax {ix : Nat} {x y : Int32} (hd : decode M.2.1 pc = .ok (.invokestatic ix, 3)) (hl : InT (.methodLink M.1.cls ix Lib.Math.max.name)) (hm : InT (.static Lib.Math.max.name)) (hi : InT (.initialized "java/lang/Math")) (hc : InT (.code Lib.Math.max.name Lib.Math.max.code 2 (some .int))) (hcat : (st.map fun v => v.category).sum ≤ 8) (k : EvP M d (pc + 3) lv (.int (if x < y then y else x) :: st) h P) : EvP M d pc lv (.int y :: .int x :: st) h P := by
  obtain ⟨r, h', e, p⟩ := k
  exact ⟨r, h', ev_mmax hd hl hm hi hc hcat e, p⟩
theorem ep_mmin {ix : Nat} {x y : Int32} (hd : decode M.2.1 pc = .ok (.invokestatic ix, 3)) (hl : InT (.methodLink M.1.cls ix Lib.Math.min.name)) (hm : InT (.static Lib.Math.min.name)) (hi : InT (.initialized "java/lang/Math")) (hc : InT (.code Lib.Math.min.name Lib.Math.min.code 2 (some .int))) (hcat : (st.map fun v => v.category).sum ≤ 8) (k : EvP M d (pc + 3) lv (.int (if y < x then y else x) :: st) h P) : EvP M d pc lv (.int y :: .int x :: st) h P := by
  obtain ⟨r, h', e, p⟩ := k
  exact ⟨r, h', ev_mmin hd hl hm hi hc hcat e, p⟩
theorem ep_mabs {ix : Nat} {x : Int32} (hd : decode M.2.1 pc = .ok (.invokestatic ix, 3)) (hl : InT (.methodLink M.1.cls ix Lib.Math.abs.name)) (hm : InT (.static Lib.Math.abs.name)) (hi : InT (.initialized "java/lang/Math")) (hc : InT (.code Lib.Math.abs.name Lib.Math.abs.code 1 (some .int))) (hcat : (st.map fun v => v.category).sum ≤ 8) (k : EvP M d (pc + 3) lv (.int (if 0 ≤ x then x else 0 - x) :: st) h P) : EvP M d pc lv (.int x :: st) h P := by
  obtain ⟨r, h', e, p⟩ := k
  exact ⟨r, h', ev_mabs hd hl hm hi hc hcat e, p⟩
theorem ep_acopy {ix o1 o2 n1 n2 : Nat} {f g : Nat → Int32} {x0 x1 x2 : Int32} (n : Nat) (hd : decode M.2.1 pc = .ok (.invokestatic ix, 3)) (hl : InT (.methodLink M.1.cls ix arraycopyName)) (hnat : InT (.native arraycopyName)) (hm : InT (.static arraycopyName)) (hi : InT (.initialized "java/lang/System")) (ho1 : h[o1]? = some (mA n1 f)) (ho2 : h[o2]? = some (mA n2 g)) (hx0 : x0 = nI 0) (hx1 : x1 = nI 0) (hx2 : x2 = nI n) (hn1 : n ≤ n1) (hn2 : n ≤ n2) (hb1 : n1 < 2 ^ 31) (hb2 : n2 < 2 ^ 31) (hcat : (st.map fun v => v.category).sum ≤ 8) (k : EvP M d (pc + 3) lv st (h.set o2 (mA n2 (va_cpy f g 0 0 n))) P) : EvP M d pc lv (.int x2 :: .int x1 :: .ref o2 :: .int x0 :: .ref o1 :: st) h P := by
  obtain ⟨r, h', e, p⟩ := k
  exact ⟨r, h', ev_acopy n hd hl hnat hm hi ho1 ho2 hx0 hx1 hx2 hn1 hn2 hb1 hb2 hcat e, p⟩
theorem ep_strval {ix i : Nat} (hd : decode M.2.1 pc = .ok (.getfield ix, 3)) (hi : i < 2) (hl : InT (.fieldLink M.1.cls ix "java/lang/String" "value" "[B")) (k : EvP M d (pc + 3) lv (.retAddr (100 + i) :: st) h P) : EvP M d pc lv (.retAddr i :: st) h P := by
  obtain ⟨r, h', e, p⟩ := k
  exact ⟨r, h', ev_strval hd hi hl e, p⟩
theorem ep_strcoder {ix i : Nat} (hd : decode M.2.1 pc = .ok (.getfield ix, 3)) (hi : i < 2) (hl : InT (.fieldLink M.1.cls ix "java/lang/String" "coder" "B")) (k : EvP M d (pc + 3) lv (.int 0 :: st) h P) : EvP M d pc lv (.retAddr i :: st) h P := by
  obtain ⟨r, h', e, p⟩ := k
  exact ⟨r, h', ev_strcoder hd hi hl e, p⟩
theorem ep_compact {ix : Nat} (hd : decode M.2.1 pc = .ok (.getstatic ix, 3)) (hl : InT (.fieldLink M.1.cls ix "java/lang/String" "COMPACT_STRINGS" "Z")) (k : EvP M d (pc + 3) lv (.int 1 :: st) h P) : EvP M d pc lv st h P := by
  obtain ⟨r, h', e, p⟩ := k
  exact ⟨r, h', ev_compact hd hl e, p⟩
theorem ep_i2c {x v : Int32} (hd : decode M.2.1 pc = .ok (.i2c, 1)) (hv : (x.toUInt32 % 65536).toInt32 = v) (k : EvP M d (pc + 1) lv (.int v :: st) h P) : EvP M d pc lv (.int x :: st) h P := by
  obtain ⟨r, h', e, p⟩ := k
  exact ⟨r, h', ev_i2c hd hv e, p⟩
theorem ep_strlen {i n : Nat} (hd : decode M.2.1 pc = .ok (.arraylength, 1)) (hi : i < 2) (hn : lenStr.getD i 0 = n) (k : EvP M d (pc + 1) lv (.int (nI n) :: st) h P) : EvP M d pc lv (.retAddr (100 + i) :: st) h P := by
  obtain ⟨r, h', e, p⟩ := k
  exact ⟨r, h', ev_strlen hd hi hn e, p⟩
theorem ep_strb {i n j : Nat} {x : Int32} (hd : decode M.2.1 pc = .ok (.baload, 1)) (hi : i < 2) (hx : x = nI j) (hn : lenStr.getD i 0 = n) (hj : j < n) (hnb : n < 2 ^ 31) (k : EvP M d (pc + 1) lv (.int ((bytStr.getD i []).getD j 0) :: st) h P) : EvP M d pc lv (.int x :: .retAddr (100 + i) :: st) h P := by
  obtain ⟨r, h', e, p⟩ := k
  exact ⟨r, h', ev_strb hd hi hx hn hj hnb e, p⟩
theorem ep_aloadS {q : Fin 4} {i j o : Nat} (hd : decode M.2.1 pc = .ok (.aload_n q, 1)) (hi : (q : Nat) = i) (hj : lv[j]? = some (i, .retAddr o)) (k : EvP M d (pc + 1) lv (.retAddr o :: st) h P) : EvP M d pc lv st h P := by
  obtain ⟨r, h', e, p⟩ := k
  exact ⟨r, h', ev_aloadS hd hi hj e, p⟩
theorem ep_iret {v : Int32} {ty : FieldType} (hd : decode M.2.1 pc = .ok (.ireturn, 1)) (hr : M.2.2.2.1 = some ty) (hn : narrow ty (.int v) = .int v) (p : P (.inl (some (.int v))) h) : EvP M d pc lv [.int v] h P := ⟨_, _, ev_iret hd hr hn, p⟩
theorem ep_vret (hd : decode M.2.1 pc = .ok (.return_, 1)) (hr : M.2.2.2.1 = none) (p : P (.inl none) h) : EvP M d pc lv [] h P := ⟨_, _, ev_vret hd hr, p⟩
theorem ep_throw {ik is ic i : Nat} {tx : String} (kd : Nat) (d0 : decode M.2.1 pc = .ok (.new ik, 3)) (d3 : decode M.2.1 (pc + 3) = .ok (.dup, 1)) (d4 : decode M.2.1 (pc + 4) = .ok (.ldc is, 2)) (d6 : decode M.2.1 (pc + 6) = .ok (.invokespecial ic, 3)) (d9 : decode M.2.1 (pc + 9) = .ok (.athrow, 1)) (hk : InT (.classLink M.1.cls ik (exN kd))) (hi : InT (.initialized (exN kd))) (hs : (M.1.cls, is, tx, i) ∈ strT) (hat : ∀ w ∈ vx_atS M.1.cls ic (exN kd) exUp, w ∈ lw_tbl ∧ okV w = true ∧ vx_ot w = true) (hf : Bundle.fit (exN kd) = true) (h0 : 0 < h.length) (hcat : (st.map fun v => v.category).sum ≤ 8) (hh : M.2.2.2.2 = []) (p : P (.inr h.length) (h ++ [mT kd])) : EvP M d pc lv st h P := ⟨_, _, ev_throw kd d0 d3 d4 d6 d9 hk hi hs hat hf h0 hcat hh, p⟩
theorem ep_putf' {o ci fi ix N : Nat} {C : String} {T : u_T} {Y : Nat → FieldType} {fs : List Value} {v : Value} {h2 : mH} (hd : decode M.2.1 pc = .ok (.putfield ix, 3)) (hc : ClF ci C T N Y) (hl : InT (.fieldLink M.1.cls ix (T fi).1 (T fi).2.1 (T fi).2.2.1)) (hn : fi < N) (hf : (T fi).2.2.2 = false ∨ ((T fi).2.2.2 = true ∧ M.1.name = "<init>" ∧ (T fi).1 = M.1.cls)) (hok : fldOk (Y fi) v = true) (ho : h[o]? = some (.inl (ci, fs))) (he : h.set o (.inl (ci, fs.set fi v)) = h2) (k : EvP M d (pc + 3) lv st h2 P) : EvP M d pc lv (v :: .ref o :: st) h P := ep_putf hd hc hl hn hf hok ho (he ▸ k)
theorem ep_iast' {o n : Nat} {f : Nat → Int32} {i x : Int32} {h2 : mH} (j : Nat) (hd : decode M.2.1 pc = .ok (.iastore, 1)) (ho : h[o]? = some (mA n f)) (hi : i = nI j) (hj : j < n) (hn : n < 2 ^ 31) (he : h.set o (mA n (upd f j x)) = h2) (k : EvP M d (pc + 1) lv st h2 P) : EvP M d pc lv (.int x :: .int i :: .ref o :: st) h P := ep_iast j hd ho hi hj hn (he ▸ k)
theorem ep_callV {ix o ci : Nat} {fs : List Value} (hd : decode M.2.1 pc = .ok (.invokevirtual ix, 3)) (hl : InT (.methodLink M.1.cls ix N.1)) (hN : Cal N np) (hm : InT (.instanceMethod N.1)) (hs : InT (.selects N.1.cls N.1 N.1)) (ho : h[o]? = some (.inl (ci, fs))) (hci : (vCl[ci]?).map (fun q => q.1) = some N.1.cls) (hnp : As.length = np) (hal : ((Value.ref o :: As).map fun v => v.category).sum ≤ N.2.2.1) (hcat : (st.map fun v => v.category).sum ≤ 8) (hst : st0 = As.reverse ++ .ref o :: st) (hh : M.2.2.2.2 = [])
    (ev : EvP N d 0 (lv_args 0 (.ref o :: As)) [] h P1) (kv : ∀ v h1, P1 (.inl v) h1 → EvP M (d + 1) (pc + 3) lv (v.toList ++ st) h1 P) (kx : ∀ x h1, P1 (.inr x) h1 → P (.inr x) h1) : EvP M (d + 1) pc lv st0 h P := by
  obtain ⟨r1, h1, e1, p1⟩ := ev
  cases r1 with
  | inl v =>
    obtain ⟨r, h', e, p⟩ := kv v h1 p1
    exact ⟨r, h', ev_callV hd hl hN hm hs ho hci hnp hal hcat hst e1 e, p⟩
  | inr x => exact ⟨_, _, ev_callVx hd hl hN hm hs ho hci hnp hal hcat hst hh e1, kx x h1 p1⟩
theorem ep_callS {ix : Nat} (hd : decode M.2.1 pc = .ok (.invokestatic ix, 3)) (hl : InT (.methodLink M.1.cls ix N.1) ∨ ∃ host, InT (.methodLinkNest M.1.cls ix N.1 host)) (hN : Cal N np) (hm : InT (.static N.1)) (hi : InT (.initialized N.1.cls)) (hnp : As.length = np) (hal : (As.map fun v => v.category).sum ≤ N.2.2.1) (hcat : (st.map fun v => v.category).sum ≤ 8) (hst : st0 = As.reverse ++ st) (hh : M.2.2.2.2 = [])
    (ev : EvP N d 0 (lv_args 0 As) [] h P1) (kv : ∀ v h1, P1 (.inl v) h1 → EvP M (d + 1) (pc + 3) lv (v.toList ++ st) h1 P) (kx : ∀ x h1, P1 (.inr x) h1 → P (.inr x) h1) : EvP M (d + 1) pc lv st0 h P := by
  obtain ⟨r1, h1, e1, p1⟩ := ev
  cases r1 with
  | inl v =>
    obtain ⟨r, h', e, p⟩ := kv v h1 p1
    exact ⟨r, h', ev_callS hd hl hN hm hi hnp hal hcat hst e1 e, p⟩
  | inr x => exact ⟨_, _, ev_callSx hd hl hN hm hi hnp hal hcat hst hh e1, kx x h1 p1⟩
theorem ep_callI {ix o : Nat} (hd : decode M.2.1 pc = .ok (.invokespecial ix, 3)) (hl : InT (.methodLink M.1.cls ix N.1) ∨ ∃ host, InT (.methodLinkNest M.1.cls ix N.1 host)) (hN : Cal N np) (hm : InT (.instanceMethod N.1)) (hc : InT (.code N.1 N.2.1 N.2.2.1 none)) (hin : N.1.name = "<init>") (hnp : As.length = np) (hal : ((Value.ref o :: As).map fun v => v.category).sum ≤ N.2.2.1) (hcat : (st.map fun v => v.category).sum ≤ 8) (hst : st0 = As.reverse ++ .ref o :: st)
    (ev : EvP N d 0 (lv_args 0 (.ref o :: As)) [] h P1) (kv : ∀ r h1, P1 r h1 → r = .inl none ∧ EvP M (d + 1) (pc + 3) lv st h1 P) : EvP M (d + 1) pc lv st0 h P := by
  obtain ⟨r1, h1, e1, p1⟩ := ev
  obtain ⟨q, r, h', e, p⟩ := kv r1 h1 p1
  subst q
  exact ⟨r, h', ev_callI (ci := 0) (fs := []) hd hl hN hm hc hin hnp hal hcat hst e1 e, p⟩
theorem ep_callVs {ix i : Nat} (hd : decode M.2.1 pc = .ok (.invokevirtual ix, 3)) (hl : InT (.methodLink M.1.cls ix N.1)) (hN : Cal N np) (hm : InT (.instanceMethod N.1)) (hs : InT (.selects N.1.cls N.1 N.1)) (hi : i < 2) (hci : N.1.cls = "java/lang/String") (hnp : As.length = np) (hal : ((Value.retAddr i :: As).map fun v => v.category).sum ≤ N.2.2.1) (hcat : (st.map fun v => v.category).sum ≤ 8) (hst : st0 = As.reverse ++ .retAddr i :: st)
    (ev : EvP N d 0 (lv_args 0 (.retAddr i :: As)) [] h P1) (kv : ∀ r h1, P1 r h1 → ∃ v, r = .inl v ∧ EvP M (d + 1) (pc + 3) lv (v.toList ++ st) h1 P) : EvP M (d + 1) pc lv st0 h P := by
  obtain ⟨r1, h1, e1, p1⟩ := ev
  obtain ⟨v, q, r, h', e, p⟩ := kv r1 h1 p1
  subst q
  exact ⟨r, h', ev_callVs hd hl hN hm hs hi hci hnp hal hcat hst e1 e, p⟩
theorem Ev.up {r : mR} {h' : mH} (k : Ev M d pc lv st h r h') {d' : Nat} (hd : d ≤ d') : Ev M d' pc lv st h r h' :=
  ⟨k.1, k.2.1, fun p l e R s m args below meth c H locs cells slots D sd b B ls k0 ns hK => k.2.2 p l e R s m args below meth c H locs cells slots D sd b B ls k0 ns ⟨⟨hK.1.1, hK.1.2.1, by have h1 : d' + 10 ≤ R.frames := hK.1.2.2.1; show d + 10 ≤ R.frames; omega, by have h1 : 60 * d' + 300 ≤ R.locals := hK.1.2.2.2; show 60 * d + 300 ≤ R.locals; omega⟩, hK.2⟩⟩
theorem EvP.up (k : EvP M d pc lv st h P) {d' : Nat} (hd : d ≤ d') : EvP M d' pc lv st h P := by
  obtain ⟨r, h', e, p⟩ := k
  exact ⟨r, h', e.up hd, p⟩
end EP
