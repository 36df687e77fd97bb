section EV1
variable {M : Mt} {d pc : Nat} {lv : List (Nat × Value)} {st : List Value} {h h' : mH} {r : mR}
theorem ev_iconst {n : Int} {v : Int32} (hd : decode M.2.1 pc = .ok (.iconst n, 1)) (hv : Int32.ofInt n = v) (k : Ev M d (pc + 1) lv (.int v :: st) h r h') : Ev M d pc lv (st) h r h' := ev_go (fun hC hl hw k => lv_iconst hC.ex hC.co hd hv k) k
theorem ev_bipush {n : Int} {v : Int32} (hd : decode M.2.1 pc = .ok (.bipush n, 2)) (hv : (Int8.ofInt n).toInt32 = v) (k : Ev M d (pc + 2) lv (.int v :: st) h r h') : Ev M d pc lv (st) h r h' := ev_go (fun hC hl hw k => lv_bipush hC.ex hC.co hd hv k) k
theorem ev_sipush {n : Int} {v : Int32} (hd : decode M.2.1 pc = .ok (.sipush n, 3)) (hv : (Int16.ofInt n).toInt32 = v) (k : Ev M d (pc + 3) lv (.int v :: st) h r h') : Ev M d pc lv (st) h r h' := ev_go (fun hC hl hw k => lv_sipush hC.ex hC.co hd hv k) k
theorem ev_iadd {x y : Int32} (hd : decode M.2.1 pc = .ok (.iadd, 1)) (k : Ev M d (pc + 1) lv (.int (x + y) :: st) h r h') : Ev M d pc lv (.int y :: .int x :: st) h r h' := ev_go (fun hC hl hw k => lv_iadd hC.ex hC.co hd k) k
theorem ev_isub {x y : Int32} (hd : decode M.2.1 pc = .ok (.isub, 1)) (k : Ev M d (pc + 1) lv (.int (x - y) :: st) h r h') : Ev M d pc lv (.int y :: .int x :: st) h r h' := ev_go (fun hC hl hw k => lv_isub hC.ex hC.co hd k) k
theorem ev_imul {x y : Int32} (hd : decode M.2.1 pc = .ok (.imul, 1)) (k : Ev M d (pc + 1) lv (.int (x * y) :: st) h r h') : Ev M d pc lv (.int y :: .int x :: st) h r h' := ev_go (fun hC hl hw k => lv_imul hC.ex hC.co hd k) k
theorem ev_iand {x y : Int32} (hd : decode M.2.1 pc = .ok (.iand, 1)) (k : Ev M d (pc + 1) lv (.int (x &&& y) :: st) h r h') : Ev M d pc lv (.int y :: .int x :: st) h r h' := ev_go (fun hC hl hw k => lv_iand hC.ex hC.co hd k) k
theorem ev_ior {x y : Int32} (hd : decode M.2.1 pc = .ok (.ior, 1)) (k : Ev M d (pc + 1) lv (.int (x ||| y) :: st) h r h') : Ev M d pc lv (.int y :: .int x :: st) h r h' := ev_go (fun hC hl hw k => lv_ior hC.ex hC.co hd k) k
theorem ev_ixor {x y : Int32} (hd : decode M.2.1 pc = .ok (.ixor, 1)) (k : Ev M d (pc + 1) lv (.int (x ^^^ y) :: st) h r h') : Ev M d pc lv (.int y :: .int x :: st) h r h' := ev_go (fun hC hl hw k => lv_ixor hC.ex hC.co hd k) k
theorem ev_ishl {x y : Int32} (hd : decode M.2.1 pc = .ok (.ishl, 1)) (k : Ev M d (pc + 1) lv (.int (x <<< (y &&& 31)) :: st) h r h') : Ev M d pc lv (.int y :: .int x :: st) h r h' := ev_go (fun hC hl hw k => lv_ishl hC.ex hC.co hd k) k
theorem ev_ishr {x y : Int32} (hd : decode M.2.1 pc = .ok (.ishr, 1)) (k : Ev M d (pc + 1) lv (.int (x >>> (y &&& 31)) :: st) h r h') : Ev M d pc lv (.int y :: .int x :: st) h r h' := ev_go (fun hC hl hw k => lv_ishr hC.ex hC.co hd k) k
theorem ev_idiv {x y : Int32} (hd : decode M.2.1 pc = .ok (.idiv, 1)) (hne : ¬ y = 0) (k : Ev M d (pc + 1) lv (.int (x / y) :: st) h r h') : Ev M d pc lv (.int y :: .int x :: st) h r h' := ev_go (fun hC hl hw k => lv_idiv hC.ex hC.co hd hne k) k
theorem ev_irem {x y : Int32} (hd : decode M.2.1 pc = .ok (.irem, 1)) (hne : ¬ y = 0) (k : Ev M d (pc + 1) lv (.int (x - x / y * y) :: st) h r h') : Ev M d pc lv (.int y :: .int x :: st) h r h' := ev_go (fun hC hl hw k => lv_irem hC.ex hC.co hd hne k) k
theorem ev_ineg {x : Int32} (hd : decode M.2.1 pc = .ok (.ineg, 1)) (k : Ev M d (pc + 1) lv (.int (-x) :: st) h r h') : Ev M d pc lv (.int x :: st) h r h' := ev_go (fun hC hl hw k => lv_ineg hC.ex hC.co hd k) k
theorem ev_iushr {x y : Int32} (hd : decode M.2.1 pc = .ok (.iushr, 1)) (k : Ev M d (pc + 1) lv (.int ((x.toUInt32 >>> (y.toUInt32 &&& Int32.toUInt32 31)).toInt32) :: st) h r h') : Ev M d pc lv (.int y :: .int x :: st) h r h' := ev_go (fun hC hl hw k => lv_iushr hC.ex hC.co hd rfl k) k
theorem ev_i2l {x : Int32} (hd : decode M.2.1 pc = .ok (.i2l, 1)) (k : Ev M d (pc + 1) lv (.long x.toInt64 :: st) h r h') : Ev M d pc lv (.int x :: st) h r h' := ev_go (fun hC hl hw k => lv_i2l hC.ex hC.co hd rfl k) k
theorem ev_l2i {x : Int64} (hd : decode M.2.1 pc = .ok (.l2i, 1)) (k : Ev M d (pc + 1) lv (.int x.toInt32 :: st) h r h') : Ev M d pc lv (.long x :: st) h r h' := ev_go (fun hC hl hw k => lv_l2i hC.ex hC.co hd rfl k) k
theorem ev_lushr {x : Int64} {y : Int32} (hd : decode M.2.1 pc = .ok (.lushr, 1)) (k : Ev M d (pc + 1) lv (.long ((x.toUInt64 >>> (y.toInt64.toUInt64 &&& Int64.toUInt64 63)).toInt64) :: st) h r h') : Ev M d pc lv (.int y :: .long x :: st) h r h' := ev_go (fun hC hl hw k => lv_lushr hC.ex hC.co hd rfl k) k
theorem ev_lshl {x : Int64} {y : Int32} (hd : decode M.2.1 pc = .ok (.lshl, 1)) (k : Ev M d (pc + 1) lv (.long (x <<< (y.toInt64 &&& 63)) :: st) h r h') : Ev M d pc lv (.int y :: .long x :: st) h r h' := ev_go (fun hC hl hw k => lv_lshl hC.ex hC.co hd rfl k) k
theorem ev_lshr {x : Int64} {y : Int32} (hd : decode M.2.1 pc = .ok (.lshr, 1)) (k : Ev M d (pc + 1) lv (.long (x >>> (y.toInt64 &&& 63)) :: st) h r h') : Ev M d pc lv (.int y :: .long x :: st) h r h' := ev_go (fun hC hl hw k => lv_lshr hC.ex hC.co hd rfl k) k
theorem ev_land {x y : Int64} (hd : decode M.2.1 pc = .ok (.land, 1)) (k : Ev M d (pc + 1) lv (.long (x &&& y) :: st) h r h') : Ev M d pc lv (.long y :: .long x :: st) h r h' := ev_go (fun hC hl hw k => lv_land hC.ex hC.co hd k) k
theorem ev_lor {x y : Int64} (hd : decode M.2.1 pc = .ok (.lor, 1)) (k : Ev M d (pc + 1) lv (.long (x ||| y) :: st) h r h') : Ev M d pc lv (.long y :: .long x :: st) h r h' := ev_go (fun hC hl hw k => lv_lor hC.ex hC.co hd k) k
theorem ev_lcmp {x y : Int64} (hd : decode M.2.1 pc = .ok (.lcmp, 1)) (k : Ev M d (pc + 1) lv (.int (lg_cmp x y) :: st) h r h') : Ev M d pc lv (.long y :: .long x :: st) h r h' := ev_go (fun hC hl hw k => W.lcmp hC.ex hC.co hd k) k
theorem ev_dup {v : Value} (hd : decode M.2.1 pc = .ok (.dup, 1)) (hv : v.category = 1) (k : Ev M d (pc + 1) lv (v :: v :: st) h r h') : Ev M d pc lv (v :: st) h r h' := ev_go (fun hC hl hw k => lv_dup hC.ex hC.co hd (by rw [cz_cat]; exact hv) k) k
theorem ev_pop {v : Value} (hd : decode M.2.1 pc = .ok (.pop, 1)) (hv : v.category = 1) (k : Ev M d (pc + 1) lv (st) h r h') : Ev M d pc lv (v :: st) h r h' := ev_go (fun hC hl hw k => lv_pop hC.ex hC.co hd (by rw [cz_cat]; exact hv) k) k
theorem ev_dup_x1 {v u : Value} (hd : decode M.2.1 pc = .ok (.dup_x1, 1)) (hv : v.category = 1) (hu : u.category = 1) (k : Ev M d (pc + 1) lv (v :: u :: v :: st) h r h') : Ev M d pc lv (v :: u :: st) h r h' := ev_go (fun hC hl hw k => lv_dup_x1 hC.ex hC.co hd (by rw [cz_cat]; exact hv) (by rw [cz_cat]; exact hu) k) k
theorem ev_dup2 {v u : Value} (hd : decode M.2.1 pc = .ok (.dup2, 1)) (hv : v.category = 1) (hu : u.category = 1) (k : Ev M d (pc + 1) lv (v :: u :: v :: u :: st) h r h') : Ev M d pc lv (v :: u :: st) h r h' := ev_go (fun hC hl hw k => lv_dup2_11 hC.ex hC.co hd (by rw [cz_cat]; exact hv) (by rw [cz_cat]; exact hu) k) k
theorem ev_iload {i j : Nat} {x : Int32} (hd : decode M.2.1 pc = .ok (.iload i, 2)) (hj : lv[j]? = some (i, .int x)) (k : Ev M d (pc + 2) lv (.int x :: st) h r h') : Ev M d pc lv st h r h' := ev_go (fun hC hl hw k => lv_iload hC.ex hC.co hd (cz_at hl hj) k) k
theorem ev_iload_n {q : Fin 4} {i j : Nat} {x : Int32} (hd : decode M.2.1 pc = .ok (.iload_n q, 1)) (hi : (q : Nat) = i) (hj : lv[j]? = some (i, .int x)) (k : Ev M d (pc + 1) lv (.int x :: st) h r h') : Ev M d pc lv st h r h' := ev_go (fun hC hl hw k => lv_iload_n hC.ex hC.co hd hi (cz_at hl hj) k) k
theorem ev_lload {i j : Nat} {x : Int64} (hd : decode M.2.1 pc = .ok (.lload i, 2)) (hj : lv[j]? = some (i, .long x)) (k : Ev M d (pc + 2) lv (.long x :: st) h r h') : Ev M d pc lv st h r h' := ev_go (fun hC hl hw k => lv_lload hC.ex hC.co hd (cz_at hl hj) k) k
theorem ev_lload_n {q : Fin 4} {i j : Nat} {x : Int64} (hd : decode M.2.1 pc = .ok (.lload_n q, 1)) (hi : (q : Nat) = i) (hj : lv[j]? = some (i, .long x)) (k : Ev M d (pc + 1) lv (.long x :: st) h r h') : Ev M d pc lv st h r h' := ev_go (fun hC hl hw k => lv_lload_n hC.ex hC.co hd hi (cz_at hl hj) k) k
theorem ev_aload {i j o : Nat} (hd : decode M.2.1 pc = .ok (.aload i, 2)) (hj : lv[j]? = some (i, .ref o)) (k : Ev M d (pc + 2) lv (.ref o :: st) h r h') : Ev M d pc lv st h r h' := ev_go (fun hC hl hw k => lv_aload hC.ex hC.co hd (cz_at hl hj) k) k
theorem ev_aload_n {q : Fin 4} {i j o : Nat} (hd : decode M.2.1 pc = .ok (.aload_n q, 1)) (hi : (q : Nat) = i) (hj : lv[j]? = some (i, .ref o)) (k : Ev M d (pc + 1) lv (.ref o :: st) h r h') : Ev M d pc lv st h r h' := ev_go (fun hC hl hw k => lv_aload_n hC.ex hC.co hd hi (cz_at hl hj) k) k
theorem ev_istore {i : Nat} {x : Int32} {lv' : List (Nat × Value)} (ks : List Nat) (hd : decode M.2.1 pc = .ok (.istore i, 2)) (hn : i < M.2.2.1) (hp : lv_pick (st1 lv i (.int x)) ks = lv') (k : Ev M d (pc + 2) lv' st h r h') : Ev M d pc lv (.int x :: st) h r h' :=
  ⟨k.1, k.2.1, fun p l e R s m args below meth c H locs cells slots D sd b B ls k0 ns hK => lv_istore hK.1.ex hK.1.co hd hK.2.1 hn rfl (fun ls' hl => k.2.2 p l e R s m args below meth c H locs cells slots D sd b B ls' k0 ns ⟨hK.1, cz_pick (by rw [← cz_st1]; exact hl) ks hp, hK.2.2⟩)⟩
theorem ev_istore_n {q : Fin 4} {i : Nat} {x : Int32} {lv' : List (Nat × Value)} (ks : List Nat) (hd : decode M.2.1 pc = .ok (.istore_n q, 1)) (hi : (q : Nat) = i) (hn : i < M.2.2.1) (hp : lv_pick (st1 lv i (.int x)) ks = lv') (k : Ev M d (pc + 1) lv' st h r h') : Ev M d pc lv (.int x :: st) h r h' :=
  ⟨k.1, k.2.1, fun p l e R s m args below meth c H locs cells slots D sd b B ls k0 ns hK => lv_istore_n hK.1.ex hK.1.co hd hi hK.2.1 hn rfl (fun ls' hl => k.2.2 p l e R s m args below meth c H locs cells slots D sd b B ls' k0 ns ⟨hK.1, cz_pick (by rw [← cz_st1]; exact hl) ks hp, hK.2.2⟩)⟩
theorem ev_astore {i : Nat} {x : Nat} {lv' : List (Nat × Value)} (ks : List Nat) (hd : decode M.2.1 pc = .ok (.astore i, 2)) (hn : i < M.2.2.1) (hp : lv_pick (st1 lv i (.ref x)) ks = lv') (k : Ev M d (pc + 2) lv' st h r h') : Ev M d pc lv (.ref x :: st) h r h' :=
  ⟨k.1, k.2.1, fun p l e R s m args below meth c H locs cells slots D sd b B ls k0 ns hK => lv_astore hK.1.ex hK.1.co hd hK.2.1 hn rfl (fun ls' hl => k.2.2 p l e R s m args below meth c H locs cells slots D sd b B ls' k0 ns ⟨hK.1, cz_pick (by rw [← cz_st1]; exact hl) ks hp, hK.2.2⟩)⟩
theorem ev_astore_n {q : Fin 4} {i : Nat} {x : Nat} {lv' : List (Nat × Value)} (ks : List Nat) (hd : decode M.2.1 pc = .ok (.astore_n q, 1)) (hi : (q : Nat) = i) (hn : i < M.2.2.1) (hp : lv_pick (st1 lv i (.ref x)) ks = lv') (k : Ev M d (pc + 1) lv' st h r h') : Ev M d pc lv (.ref x :: st) h r h' :=
  ⟨k.1, k.2.1, fun p l e R s m args below meth c H locs cells slots D sd b B ls k0 ns hK => lv_astore_n hK.1.ex hK.1.co hd hi hK.2.1 hn rfl (fun ls' hl => k.2.2 p l e R s m args below meth c H locs cells slots D sd b B ls' k0 ns ⟨hK.1, cz_pick (by rw [← cz_st1]; exact hl) ks hp, hK.2.2⟩)⟩
theorem ev_iinc {i j : Nat} {n : Int} {x v : Int32} {lv' : List (Nat × Value)} (ks : List Nat) (hd : decode M.2.1 pc = .ok (.iinc i n, 3)) (hj : lv[j]? = some (i, .int x)) (hv : x + Int32.ofInt n = v) (hn : i < M.2.2.1) (hp : lv_pick (st1 lv i (.int v)) ks = lv') (k : Ev M d (pc + 3) lv' st h r h') : Ev M d pc lv st h r h' :=
  ⟨k.1, k.2.1, fun p l e R s m args below meth c H locs cells slots D sd b B ls k0 ns hK => lv_iinc hK.1.ex hK.1.co hd hK.2.1 (k := j) (by rw [List.getElem?_map, hj]; rfl) hv hn rfl (fun ls' hl => k.2.2 p l e R s m args below meth c H locs cells slots D sd b B ls' k0 ns ⟨hK.1, cz_pick (by rw [← cz_st1]; exact hl) ks hp, hK.2.2⟩)⟩
theorem ev_sub {lv' : List (Nat × Value)} (ks : List Nat) (hp : lv_pick lv ks = lv') (k : Ev M d pc lv' st h r h') : Ev M d pc lv st h r h' :=
  ⟨k.1, k.2.1, fun p l e R s m args below meth c H locs cells slots D sd b B ls k0 ns hK => k.2.2 p l e R s m args below meth c H locs cells slots D sd b B ls k0 ns ⟨hK.1, cz_pick hK.2.1 ks hp, hK.2.2⟩⟩
theorem ev_goto {off : Int} {tgt : Nat} (hd : decode M.2.1 pc = .ok (.goto off, 3)) (ht : (pc : Int) + off = (tgt : Int)) (k : Ev M d tgt lv st h r h') : Ev M d pc lv st h r h' := ev_go (fun hC hl hw k => lv_goto hC.ex hC.co hd ht k) k
theorem ev_if_eq {x : Int32} {off : Int} {tgt : Nat} (hd : decode M.2.1 pc = .ok (.ifCond .eq off, 3)) (ht : (pc : Int) + off = (tgt : Int)) (k1 : x = 0 → Ev M d tgt lv st h r h') (k2 : ¬ x = 0 → Ev M d (pc + 3) lv st h r h') : Ev M d pc lv (.int x :: st) h r h' := by
  by_cases q : x = 0
  · exact ev_go (fun hC hl hw k => lv_if_eq hC.ex hC.co hd ht (fun _ => k) (fun n => absurd q n)) (k1 q)
  · exact ev_go (fun hC hl hw k => lv_if_eq hC.ex hC.co hd ht (fun n => absurd n q) (fun _ => k)) (k2 q)
theorem ev_icmp_eq {x y : Int32} {off : Int} {tgt : Nat} (hd : decode M.2.1 pc = .ok (.if_icmp .eq off, 3)) (ht : (pc : Int) + off = (tgt : Int)) (k1 : x = y → Ev M d tgt lv st h r h') (k2 : ¬ x = y → Ev M d (pc + 3) lv st h r h') : Ev M d pc lv (.int y :: .int x :: st) h r h' := by
  by_cases q : x = y
  · exact ev_go (fun hC hl hw k => lv_icmp_eq hC.ex hC.co hd ht (fun _ => k) (fun n => absurd q n)) (k1 q)
  · exact ev_go (fun hC hl hw k => lv_icmp_eq hC.ex hC.co hd ht (fun n => absurd n q) (fun _ => k)) (k2 q)
theorem ev_if_ne {x : Int32} {off : Int} {tgt : Nat} (hd : decode M.2.1 pc = .ok (.ifCond .ne off, 3)) (ht : (pc : Int) + off = (tgt : Int)) (k1 : ¬ x = 0 → Ev M d tgt lv st h r h') (k2 : x = 0 → Ev M d (pc + 3) lv st h r h') : Ev M d pc lv (.int x :: st) h r h' := by
  by_cases q : x = 0
  · exact ev_go (fun hC hl hw k => lv_if_ne hC.ex hC.co hd ht (fun n => absurd q n) (fun _ => k)) (k2 q)
  · exact ev_go (fun hC hl hw k => lv_if_ne hC.ex hC.co hd ht (fun _ => k) (fun n => absurd n q)) (k1 q)
theorem ev_icmp_ne {x y : Int32} {off : Int} {tgt : Nat} (hd : decode M.2.1 pc = .ok (.if_icmp .ne off, 3)) (ht : (pc : Int) + off = (tgt : Int)) (k1 : ¬ x = y → Ev M d tgt lv st h r h') (k2 : x = y → Ev M d (pc + 3) lv st h r h') : Ev M d pc lv (.int y :: .int x :: st) h r h' := by
  by_cases q : x = y
  · exact ev_go (fun hC hl hw k => lv_icmp_ne hC.ex hC.co hd ht (fun n => absurd q n) (fun _ => k)) (k2 q)
  · exact ev_go (fun hC hl hw k => lv_icmp_ne hC.ex hC.co hd ht (fun _ => k) (fun n => absurd n q)) (k1 q)
theorem ev_if_lt {x : Int32} {off : Int} {tgt : Nat} (hd : decode M.2.1 pc = .ok (.ifCond .lt off, 3)) (ht : (pc : Int) + off = (tgt : Int)) (k1 : x < 0 → Ev M d tgt lv st h r h') (k2 : ¬ x < 0 → Ev M d (pc + 3) lv st h r h') : Ev M d pc lv (.int x :: st) h r h' := by
  by_cases q : x < 0
  · exact ev_go (fun hC hl hw k => lv_if_lt hC.ex hC.co hd ht (fun _ => k) (fun n => absurd q n)) (k1 q)
  · exact ev_go (fun hC hl hw k => lv_if_lt hC.ex hC.co hd ht (fun n => absurd n q) (fun _ => k)) (k2 q)
theorem ev_icmp_lt {x y : Int32} {off : Int} {tgt : Nat} (hd : decode M.2.1 pc = .ok (.if_icmp .lt off, 3)) (ht : (pc : Int) + off = (tgt : Int)) (k1 : x < y → Ev M d tgt lv st h r h') (k2 : ¬ x < y → Ev M d (pc + 3) lv st h r h') : Ev M d pc lv (.int y :: .int x :: st) h r h' := by
  by_cases q : x < y
  · exact ev_go (fun hC hl hw k => lv_icmp_lt hC.ex hC.co hd ht (fun _ => k) (fun n => absurd q n)) (k1 q)
  · exact ev_go (fun hC hl hw k => lv_icmp_lt hC.ex hC.co hd ht (fun n => absurd n q) (fun _ => k)) (k2 q)
theorem ev_if_ge {x : Int32} {off : Int} {tgt : Nat} (hd : decode M.2.1 pc = .ok (.ifCond .ge off, 3)) (ht : (pc : Int) + off = (tgt : Int)) (k1 : 0 ≤ x → Ev M d tgt lv st h r h') (k2 : ¬ 0 ≤ x → Ev M d (pc + 3) lv st h r h') : Ev M d pc lv (.int x :: st) h r h' := by
  by_cases q : 0 ≤ x
  · exact ev_go (fun hC hl hw k => lv_if_ge hC.ex hC.co hd ht (fun _ => k) (fun n => absurd q n)) (k1 q)
  · exact ev_go (fun hC hl hw k => lv_if_ge hC.ex hC.co hd ht (fun n => absurd n q) (fun _ => k)) (k2 q)
theorem ev_icmp_ge {x y : Int32} {off : Int} {tgt : Nat} (hd : decode M.2.1 pc = .ok (.if_icmp .ge off, 3)) (ht : (pc : Int) + off = (tgt : Int)) (k1 : y ≤ x → Ev M d tgt lv st h r h') (k2 : ¬ y ≤ x → Ev M d (pc + 3) lv st h r h') : Ev M d pc lv (.int y :: .int x :: st) h r h' := by
  by_cases q : y ≤ x
  · exact ev_go (fun hC hl hw k => lv_icmp_ge hC.ex hC.co hd ht (fun _ => k) (fun n => absurd q n)) (k1 q)
  · exact ev_go (fun hC hl hw k => lv_icmp_ge hC.ex hC.co hd ht (fun n => absurd n q) (fun _ => k)) (k2 q)
theorem ev_if_gt {x : Int32} {off : Int} {tgt : Nat} (hd : decode M.2.1 pc = .ok (.ifCond .gt off, 3)) (ht : (pc : Int) + off = (tgt : Int)) (k1 : 0 < x → Ev M d tgt lv st h r h') (k2 : ¬ 0 < x → Ev M d (pc + 3) lv st h r h') : Ev M d pc lv (.int x :: st) h r h' := by
  by_cases q : 0 < x
  · exact ev_go (fun hC hl hw k => lv_if_gt hC.ex hC.co hd ht (fun _ => k) (fun n => absurd q n)) (k1 q)
  · exact ev_go (fun hC hl hw k => lv_if_gt hC.ex hC.co hd ht (fun n => absurd n q) (fun _ => k)) (k2 q)
theorem ev_icmp_gt {x y : Int32} {off : Int} {tgt : Nat} (hd : decode M.2.1 pc = .ok (.if_icmp .gt off, 3)) (ht : (pc : Int) + off = (tgt : Int)) (k1 : y < x → Ev M d tgt lv st h r h') (k2 : ¬ y < x → Ev M d (pc + 3) lv st h r h') : Ev M d pc lv (.int y :: .int x :: st) h r h' := by
  by_cases q : y < x
  · exact ev_go (fun hC hl hw k => lv_icmp_gt hC.ex hC.co hd ht (fun _ => k) (fun n => absurd q n)) (k1 q)
  · exact ev_go (fun hC hl hw k => lv_icmp_gt hC.ex hC.co hd ht (fun n => absurd n q) (fun _ => k)) (k2 q)
theorem ev_if_le {x : Int32} {off : Int} {tgt : Nat} (hd : decode M.2.1 pc = .ok (.ifCond .le off, 3)) (ht : (pc : Int) + off = (tgt : Int)) (k1 : x ≤ 0 → Ev M d tgt lv st h r h') (k2 : ¬ x ≤ 0 → Ev M d (pc + 3) lv st h r h') : Ev M d pc lv (.int x :: st) h r h' := by
  by_cases q : x ≤ 0
  · exact ev_go (fun hC hl hw k => lv_if_le hC.ex hC.co hd ht (fun _ => k) (fun n => absurd q n)) (k1 q)
  · exact ev_go (fun hC hl hw k => lv_if_le hC.ex hC.co hd ht (fun n => absurd n q) (fun _ => k)) (k2 q)
theorem ev_icmp_le {x y : Int32} {off : Int} {tgt : Nat} (hd : decode M.2.1 pc = .ok (.if_icmp .le off, 3)) (ht : (pc : Int) + off = (tgt : Int)) (k1 : x ≤ y → Ev M d tgt lv st h r h') (k2 : ¬ x ≤ y → Ev M d (pc + 3) lv st h r h') : Ev M d pc lv (.int y :: .int x :: st) h r h' := by
  by_cases q : x ≤ y
  · exact ev_go (fun hC hl hw k => lv_icmp_le hC.ex hC.co hd ht (fun _ => k) (fun n => absurd q n)) (k1 q)
  · exact ev_go (fun hC hl hw k => lv_icmp_le hC.ex hC.co hd ht (fun n => absurd n q) (fun _ => k)) (k2 q)
theorem ev_ldc {ix : Nat} {v : Int32} (hd : decode M.2.1 pc = .ok (.ldc ix, 2)) (hw : InT (.constant M.1.cls ix v)) (k : Ev M d (pc + 2) lv (.int v :: st) h r h') : Ev M d pc lv st h r h' := ev_go (fun hC hl _ k => lv_ldc hC.ex hC.co hC.own (hC.w hw _) hd k) k
theorem ev_ldc2 {ix : Nat} {v : Int64} (hd : decode M.2.1 pc = .ok (.ldc2_w ix, 3)) (hw : InT (.constantLong M.1.cls ix v)) (k : Ev M d (pc + 3) lv (.long v :: st) h r h') : Ev M d pc lv st h r h' := ev_go (fun hC hl _ k => lv_ldc2 hC.ex hC.co hC.own (hC.w hw _) hd k) k
theorem ev_ldcS {ix i : Nat} {tx : String} (hd : decode M.2.1 pc = .ok (.ldc ix, 2)) (hw : (M.1.cls, ix, tx, i) ∈ strT) (k : Ev M d (pc + 2) lv (.retAddr i :: st) h r h') : Ev M d pc lv st h r h' := ev_go (fun hC hl _ k => va_ldcS hC.ex hC.co hC.own (hC.2.1.2.2.2.2.2.1 _ hw) hd k) k
theorem ev_tsOut {df lo hi : Int} {offs : Array Int} {len : Nat} {x : Int32} {tgt : Nat} (hd : decode M.2.1 pc = .ok (.tableswitch df lo hi offs, len)) (hx : x.toInt < lo ∨ hi < x.toInt) (ht : (pc : Int) + df = (tgt : Int)) (k : Ev M d tgt lv st h r h') : Ev M d pc lv (.int x :: st) h r h' := ev_go (fun hC hl _ k => lv_tableOut hC.ex hC.co hd hx ht k) k
theorem ev_tsIn {df lo hi off : Int} {offs : Array Int} {len : Nat} {x : Int32} {tgt : Nat} (hd : decode M.2.1 pc = .ok (.tableswitch df lo hi offs, len)) (h1 : ¬ x.toInt < lo) (h2 : ¬ hi < x.toInt) (ho : offs[(x.toInt - lo).toNat]? = some off) (ht : (pc : Int) + off = (tgt : Int)) (k : Ev M d tgt lv st h r h') : Ev M d pc lv (.int x :: st) h r h' := ev_go (fun hC hl _ k => lv_tableIn hC.ex hC.co hd h1 h2 ho ht k) k
theorem ev_ls {df off : Int} {ps : Array (Int × Int)} {len : Nat} {x : Int32} {tgt : Nat} (hd : decode M.2.1 pc = .ok (.lookupswitch df ps, len)) (hp : (ps.toList.zip (ps.toList.drop 1)).all (fun (a, next) => a.1 < next.1) = true) (ho : Op.lookupswitch.offset ps.toList df x.toInt = off) (ht : (pc : Int) + off = (tgt : Int)) (k : Ev M d tgt lv st h r h') : Ev M d pc lv (.int x :: st) h r h' := ev_go (fun hC hl _ k => lv_lookup hC.ex hC.co hd hp ho ht k) k
end EV1
