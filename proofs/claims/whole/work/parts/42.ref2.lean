/-! the reference: its nodes; by program (wip/whole/gen42.py) -/
/-- the end of node -/
def NP (X : Nat × (Nat → Int32)) (cI : Nat → Int32) (cA : Nat → Nat → Int32) (ol : Int64) (J : mH) (rI : Nat → Int32) (rA : Nat → Nat → Int32) (q : Int32 × List (List Int32)) : mR → mH → Prop := fun r h' => r = .inl (some (.int q.1)) ∧ ∃ (rI' : Nat → Int32) (rA' : Nat → Nat → Int32), h' = HC X cI cA rI' rA' ol J ∧ MN rI' rA' q.2 ∧ FrN rI rA rI' rA'
section MH1
variable {d : Nat} {X : Nat × (Nat → Int32)} {cI : Nat → Int32} {cA : Nat → Nat → Int32} {rI : Nat → Int32} {rA : Nat → Nat → Int32} {ol : Int64} {J : mH} {N : List (List Int32)}
set_option maxHeartbeats 4000000 in
set_option maxRecDepth 100000 in
theorem M_deeper (hN : N = mdL rA N.length) (hl : N.length ≤ 320) (y n : Int32) (hv : Vo N n) : EvP m_M_deeper d 0 [(0, .ref 16), (1, .int y), (2, .int n)] [] (HC X cI cA rI rA ol J) (Ri (dpr N y n) (HC X cI cA rI rA ol J)) := by
  refine ep_iload_n (j := 2) d_M_deeper_0 rfl rfl ?_
  refine ep_if_lt (tgt := 33) d_M_deeper_1 (by decide) (fun c1 => ?_) (fun c1 => ?_)
  · refine ep_iload_n (j := 1) d_M_deeper_33 rfl rfl ?_
    exact ep_iret d_M_deeper_34 rfl rfl (⟨congrArg (fun z => Sum.inl (some (Value.int z))) (by unfold dpr; rw [if_neg (fun u => absurd u.1 (Int32.not_le.mpr c1))]), rfl⟩)
  · have hV : Vd N n := hv.resolve_left (fun e => c1 (by rw [e]; decide))
    have h0 : 0 ≤ n := Int32.not_lt.mp c1
    refine ep_aload_n (j := 0) d_M_deeper_4 rfl rfl ?_
    refine ep_getf (fi := 8) (v := .ref 22) d_M_deeper_5 cl5 lf_M_25 (by decide) rfl rfl ?_
    refine ep_iload_n (j := 2) d_M_deeper_8 rfl rfl ?_
    refine ep_if_ge (tgt := 16) d_M_deeper_9 (by decide) (fun _ => ?_) (fun z => absurd h0 z)
    refine ep_iload_n (j := 2) d_M_deeper_16 rfl rfl ?_
    refine ep_dpt d_M_deeper_17 hN hl hV ?_
    refine ep_iload_n (j := 1) d_M_deeper_18 rfl rfl ?_
    refine ep_icmp_lt (tgt := 33) d_M_deeper_19 (by decide) (fun c19 => ?_) (fun c19 => ?_)
    · refine ep_iload_n (j := 1) d_M_deeper_33 rfl rfl ?_
      exact ep_iret d_M_deeper_34 rfl rfl (⟨congrArg (fun z => Sum.inl (some (Value.int z))) (by unfold dpr; rw [if_neg (fun u => absurd u.2 (Int32.not_le.mpr c19))]), rfl⟩)
    · refine ep_aload_n (j := 0) d_M_deeper_22 rfl rfl ?_
      refine ep_getf (fi := 8) (v := .ref 22) d_M_deeper_23 cl5 lf_M_25 (by decide) rfl rfl ?_
      refine ep_iload_n (j := 2) d_M_deeper_26 rfl rfl ?_
      refine ep_dpt d_M_deeper_27 hN hl hV ?_
      refine ep_iconst (v := 1) d_M_deeper_28 (by decide) ?_
      refine ep_iadd d_M_deeper_29 ?_
      refine ep_goto (tgt := 34) d_M_deeper_30 (by decide) ?_
      exact ep_iret d_M_deeper_34 rfl rfl (⟨congrArg (fun z => Sum.inl (some (Value.int z))) (by unfold dpr; rw [if_pos ⟨h0, Int32.not_lt.mp c19⟩]), rfl⟩)
abbrev r7 (N : List (List Int32)) (i : Nat) (k v f g a b c : Int32) : Prop := cN N (nI i) 0 = k ∧ cN N (nI i) 1 = v ∧ cN N (nI i) 2 = f ∧ cN N (nI i) 3 = g ∧ cN N (nI i) 4 = a ∧ cN N (nI i) 5 = b ∧ cN N (nI i) 6 = c
theorem r7_iff (hN : N = mdL rA N.length) (hl : N.length ≤ 320) {i : Nat} (hi : i < N.length) (k v f g a b c : Int32) : (N[i]).take 7 = [k, v, f, g, a, b, c] ↔ r7 N i k v f g a b c := by
  have e : N[i] = mdrow rA i := by
    have : N[i]? = some (mdrow rA i) := by rw [hN]; exact mdL_at hi
    rw [List.getElem?_eq_getElem hi] at this
    exact Option.some.inj this
  rw [e]
  unfold r7
  rw [md_cell hN hl hi, md_cell hN hl hi, md_cell hN hl hi, md_cell hN hl hi, md_cell hN hl hi, md_cell hN hl hi, md_cell hN hl hi]
  show [rA 3 i, rA 4 i, rA 5 i, rA 6 i, rA 7 (3 * i), rA 7 (3 * i + 1), rA 7 (3 * i + 2)] = _ ↔ (rA 3 i = k ∧ rA 4 i = v ∧ rA 5 i = f ∧ rA 6 i = g ∧ rA 7 (3 * i) = a ∧ rA 7 (3 * i + 1) = b ∧ rA 7 (3 * i + 2) = c)
  simp only [List.cons.injEq, and_true]
theorem ix_found (hN : N = mdL rA N.length) (hl : N.length ≤ 320) {i : Nat} (hi : i < N.length) {k v f g a b c : Int32} (hb : ∀ j, j < i → ¬ r7 N j k v f g a b c) (h : r7 N i k v f g a b c) : ixM N k v f g a b c = i := by
  unfold ixM
  rw [List.findIdx_eq hi]
  refine ⟨decide_eq_true ((r7_iff hN hl hi k v f g a b c).mpr h), fun j hj => decide_eq_false (fun q => hb j hj ((r7_iff hN hl (by omega) k v f g a b c).mp q))⟩
theorem ix_none (hN : N = mdL rA N.length) (hl : N.length ≤ 320) {k v f g a b c : Int32} (hb : ∀ j, j < N.length → ¬ r7 N j k v f g a b c) : ixM N k v f g a b c = N.length := by
  unfold ixM
  rw [List.findIdx_eq_length]
  intro u hu
  obtain ⟨j, hj, rfl⟩ := List.getElem_of_mem hu
  exact decide_eq_false (fun q => hb j hj ((r7_iff hN hl hj k v f g a b c).mp q))
theorem FrN.rfl' : FrN rI rA rI rA := ⟨fun _ _ => rfl, fun _ _ _ _ _ _ _ => rfl⟩
theorem NP_found (hM : MN rI rA N) (hl : N.length ≤ 320) {i : Nat} (hi : i < N.length) {k v f g a b c : Int32} (hb : ∀ j, j < i → ¬ r7 N j k v f g a b c) (h : r7 N i k v f g a b c) : NP X cI cA ol J rI rA (ndM N k v f g a b c) (.inl (some (.int (nI i)))) (HC X cI cA rI rA ol J) := by
  have e := ix_found hM.2 hl hi hb h
  unfold ndM
  rw [e, if_pos hi]
  exact ⟨rfl, rI, rA, rfl, hM, FrN.rfl'⟩
theorem row_new {n i : Nat} (hi : i < n) (k v f g a b c : Int32) {F : Nat → Int32} : mdrow (va_up (va_up (va_up (va_up (va_up rA 3 (upd (rA 3) n k)) 4 (upd (rA 4) n v)) 5 (upd (rA 5) n f)) 6 (upd (rA 6) n g)) 7 (upd (upd (upd (rA 7) (3 * n) a) (3 * n + 1) b) (3 * n + 2) c)) i = mdrow rA i := by
  show [upd (rA 3) n k i, upd (rA 4) n v i, upd (rA 5) n f i, upd (rA 6) n g i, upd (upd (upd (rA 7) (3 * n) a) (3 * n + 1) b) (3 * n + 2) c (3 * i), upd (upd (upd (rA 7) (3 * n) a) (3 * n + 1) b) (3 * n + 2) c (3 * i + 1), upd (upd (upd (rA 7) (3 * n) a) (3 * n + 1) b) (3 * n + 2) c (3 * i + 2), rA 8 i] = _
  rw [upd_ne _ _ (by omega), upd_ne _ _ (by omega), upd_ne _ _ (by omega), upd_ne _ _ (by omega), upd_ne _ _ (by omega), upd_ne _ _ (by omega), upd_ne _ _ (by omega), upd_ne _ _ (by omega), upd_ne _ _ (by omega), upd_ne _ _ (by omega), upd_ne _ _ (by omega), upd_ne _ _ (by omega), upd_ne _ _ (by omega)]
  rfl
theorem NP_new (hM : MN rI rA N) (hl : N.length ≤ 300) {k v f g a b c : Int32} (hb : ∀ j, j < N.length → ¬ r7 N j k v f g a b c) {e : Int32} (he : e = dpM N f g a b c) : NP X cI cA ol J rI rA (ndM N k v f g a b c) (.inl (some (.int (nI N.length)))) (HC X cI cA (upd rI 2 (nI (N.length + 1))) (va_up (va_up (va_up (va_up (va_up (va_up rA 3 (upd (rA 3) N.length k)) 4 (upd (rA 4) N.length v)) 5 (upd (rA 5) N.length f)) 6 (upd (rA 6) N.length g)) 7 (upd (upd (upd (rA 7) (3 * N.length) a) (3 * N.length + 1) b) (3 * N.length + 2) c)) 8 (upd (rA 8) N.length e)) ol J) := by
  have ei := ix_none hM.2 (by omega) hb
  unfold ndM
  rw [ei, if_neg (Nat.lt_irrefl _)]
  refine ⟨rfl, _, _, rfl, ⟨?_, ?_⟩, fun j hj => if_neg hj, fun j h3 h4 h5 h6 h7 h8 => ?_⟩
  · show nI (N.length + 1) = nI (N ++ [_]).length
    rw [List.length_append]; rfl
  · show N ++ [_] = mdL _ (N ++ [_]).length
    rw [List.length_append]
    show N ++ [_] = mdL _ (N.length + 1)
    rw [mdL_succ]
    have e1 : mdL (va_up (va_up (va_up (va_up (va_up (va_up rA 3 (upd (rA 3) N.length k)) 4 (upd (rA 4) N.length v)) 5 (upd (rA 5) N.length f)) 6 (upd (rA 6) N.length g)) 7 (upd (upd (upd (rA 7) (3 * N.length) a) (3 * N.length + 1) b) (3 * N.length + 2) c)) 8 (upd (rA 8) N.length e)) N.length = N := by
      refine (mdL_cg (rA := rA) (fun i hi => ?_)).trans hM.2.symm
      have := row_new (rA := rA) hi k v f g a b c (F := fun _ => 0)
      unfold mdrow at this ⊢
      show [_, _, _, _, _, _, _, upd (rA 8) N.length e i] = _
      rw [upd_ne _ _ (by omega)]
      exact this
    rw [e1]
    refine congrArg (fun z => N ++ [z]) ?_
    show _ = [upd (rA 3) N.length k N.length, upd (rA 4) N.length v N.length, upd (rA 5) N.length f N.length, upd (rA 6) N.length g N.length, upd (upd (upd (rA 7) (3 * N.length) a) (3 * N.length + 1) b) (3 * N.length + 2) c (3 * N.length), upd (upd (upd (rA 7) (3 * N.length) a) (3 * N.length + 1) b) (3 * N.length + 2) c (3 * N.length + 1), upd (upd (upd (rA 7) (3 * N.length) a) (3 * N.length + 1) b) (3 * N.length + 2) c (3 * N.length + 2), upd (rA 8) N.length e N.length]
    rw [upd_at, upd_at, upd_at, upd_at, upd_ne _ _ (by omega), upd_ne _ _ (by omega), upd_at, upd_ne _ _ (by omega), upd_at, upd_at, upd_at, he]
  · show va_up (va_up (va_up (va_up (va_up (va_up rA 3 _) 4 _) 5 _) 6 _) 7 _) 8 _ j = rA j
    unfold va_up
    rw [if_neg h8, if_neg h7, if_neg h6, if_neg h5, if_neg h4, if_neg h3]
set_option maxHeartbeats 4000000 in
set_option maxRecDepth 100000 in
theorem M_node_new (hM : MN rI rA N) (hl : N.length ≤ 300) {k v f g a b c : Int32} (hv : Vo N f ∧ Vo N g ∧ Vo N a ∧ Vo N b ∧ Vo N c) (hb : ∀ j, j < N.length → ¬ r7 N j k v f g a b c) {lv : List (Nat × Value)} (hlv : lv = [(0, .ref 16), (1, .int k), (2, .int v), (3, .int f), (4, .int g), (5, .int a), (6, .int b), (7, .int c), (8, .int (nI N.length))] ∨ ∃ y, lv = [(0, .ref 16), (1, .int k), (2, .int v), (3, .int f), (4, .int g), (5, .int a), (6, .int b), (7, .int c), (8, .int (nI N.length)), (9, .int y)]) : EvP m_M_node (d + 1) 124 lv [] (HC X cI cA rI rA ol J) (NP X cI cA ol J rI rA (ndM N k v f g a b c)) := by
  rcases hlv with rfl | ⟨y, rfl⟩
  · refine ep_aload_n (j := 0) d_M_node_124 rfl rfl ?_
    refine ep_getf (fi := 3) (v := .ref 17) d_M_node_125 cl5 lf_M_7 (by decide) rfl rfl ?_
    refine ep_aload_n (j := 0) d_M_node_128 rfl rfl ?_
    refine ep_getf (fi := 2) (v := .int (rI 2)) d_M_node_129 cl5 lf_M_66 (by decide) rfl rfl ?_
    refine ep_iload_n (j := 1) d_M_node_132 rfl rfl ?_
    refine ep_iast' (h2 := HC X cI cA rI (va_up rA 3 (upd (rA 3) N.length k)) ol J) N.length d_M_node_133 rfl hM.1 (by omega) (by decide) hA_17 ?_
    refine ep_aload_n (j := 0) d_M_node_134 rfl rfl ?_
    refine ep_getf (fi := 4) (v := .ref 18) d_M_node_135 cl5 lf_M_13 (by decide) rfl rfl ?_
    refine ep_aload_n (j := 0) d_M_node_138 rfl rfl ?_
    refine ep_getf (fi := 2) (v := .int (rI 2)) d_M_node_139 cl5 lf_M_66 (by decide) rfl rfl ?_
    refine ep_iload_n (j := 2) d_M_node_142 rfl rfl ?_
    refine ep_iast' (h2 := HC X cI cA rI (va_up (va_up rA 3 (upd (rA 3) N.length k)) 4 (upd (rA 4) N.length v)) ol J) N.length d_M_node_143 rfl hM.1 (by omega) (by decide) hA_18 ?_
    refine ep_aload_n (j := 0) d_M_node_144 rfl rfl ?_
    refine ep_getf (fi := 5) (v := .ref 19) d_M_node_145 cl5 lf_M_16 (by decide) rfl rfl ?_
    refine ep_aload_n (j := 0) d_M_node_148 rfl rfl ?_
    refine ep_getf (fi := 2) (v := .int (rI 2)) d_M_node_149 cl5 lf_M_66 (by decide) rfl rfl ?_
    refine ep_iload_n (j := 3) d_M_node_152 rfl rfl ?_
    refine ep_iast' (h2 := HC X cI cA rI (va_up (va_up (va_up rA 3 (upd (rA 3) N.length k)) 4 (upd (rA 4) N.length v)) 5 (upd (rA 5) N.length f)) ol J) N.length d_M_node_153 rfl hM.1 (by omega) (by decide) hA_19 ?_
    refine ep_aload_n (j := 0) d_M_node_154 rfl rfl ?_
    refine ep_getf (fi := 6) (v := .ref 20) d_M_node_155 cl5 lf_M_19 (by decide) rfl rfl ?_
    refine ep_aload_n (j := 0) d_M_node_158 rfl rfl ?_
    refine ep_getf (fi := 2) (v := .int (rI 2)) d_M_node_159 cl5 lf_M_66 (by decide) rfl rfl ?_
    refine ep_iload (j := 4) d_M_node_162 rfl ?_
    refine ep_iast' (h2 := HC X cI cA rI (va_up (va_up (va_up (va_up rA 3 (upd (rA 3) N.length k)) 4 (upd (rA 4) N.length v)) 5 (upd (rA 5) N.length f)) 6 (upd (rA 6) N.length g)) ol J) N.length d_M_node_164 rfl hM.1 (by omega) (by decide) hA_20 ?_
    refine ep_aload_n (j := 0) d_M_node_165 rfl rfl ?_
    refine ep_getf (fi := 7) (v := .ref 21) d_M_node_166 cl5 lf_M_22 (by decide) rfl rfl ?_
    refine ep_iconst (v := 3) d_M_node_169 (by decide) ?_
    refine ep_aload_n (j := 0) d_M_node_170 rfl rfl ?_
    refine ep_getf (fi := 2) (v := .int (rI 2)) d_M_node_171 cl5 lf_M_66 (by decide) rfl rfl ?_
    refine ep_imul d_M_node_174 ?_
    refine ep_iload (j := 5) d_M_node_175 rfl ?_
    refine ep_iast' (h2 := HC X cI cA rI (va_up (va_up (va_up (va_up (va_up rA 3 (upd (rA 3) N.length k)) 4 (upd (rA 4) N.length v)) 5 (upd (rA 5) N.length f)) 6 (upd (rA 6) N.length g)) 7 (upd (rA 7) (3 * N.length) a)) ol J) (3 * N.length) d_M_node_177 rfl (by rw [hM.1, show (3 : Int32) = nI 3 from by decide, pk_mul]) (by omega) (by decide) hA_21 ?_
    refine ep_aload_n (j := 0) d_M_node_178 rfl rfl ?_
    refine ep_getf (fi := 7) (v := .ref 21) d_M_node_179 cl5 lf_M_22 (by decide) rfl rfl ?_
    refine ep_iconst (v := 3) d_M_node_182 (by decide) ?_
    refine ep_aload_n (j := 0) d_M_node_183 rfl rfl ?_
    refine ep_getf (fi := 2) (v := .int (rI 2)) d_M_node_184 cl5 lf_M_66 (by decide) rfl rfl ?_
    refine ep_imul d_M_node_187 ?_
    refine ep_iconst (v := 1) d_M_node_188 (by decide) ?_
    refine ep_iadd d_M_node_189 ?_
    refine ep_iload (j := 6) d_M_node_190 rfl ?_
    refine ep_iast' (h2 := HC X cI cA rI (va_up (va_up (va_up (va_up (va_up rA 3 (upd (rA 3) N.length k)) 4 (upd (rA 4) N.length v)) 5 (upd (rA 5) N.length f)) 6 (upd (rA 6) N.length g)) 7 (upd (upd (rA 7) (3 * N.length) a) (3 * N.length + 1) b)) ol J) (3 * N.length + 1) d_M_node_192 rfl (by rw [hM.1, show (3 : Int32) = nI 3 from by decide, pk_mul, nI_1]) (by omega) (by decide) (hA_21.trans (congrArg (fun z => HC X cI cA rI z ol J) (va_up_up _ _ _ _))) ?_
    refine ep_aload_n (j := 0) d_M_node_193 rfl rfl ?_
    refine ep_getf (fi := 7) (v := .ref 21) d_M_node_194 cl5 lf_M_22 (by decide) rfl rfl ?_
    refine ep_iconst (v := 3) d_M_node_197 (by decide) ?_
    refine ep_aload_n (j := 0) d_M_node_198 rfl rfl ?_
    refine ep_getf (fi := 2) (v := .int (rI 2)) d_M_node_199 cl5 lf_M_66 (by decide) rfl rfl ?_
    refine ep_imul d_M_node_202 ?_
    refine ep_iconst (v := 2) d_M_node_203 (by decide) ?_
    refine ep_iadd d_M_node_204 ?_
    refine ep_iload (j := 7) d_M_node_205 rfl ?_
    refine ep_iast' (h2 := HC X cI cA rI (va_up (va_up (va_up (va_up (va_up rA 3 (upd (rA 3) N.length k)) 4 (upd (rA 4) N.length v)) 5 (upd (rA 5) N.length f)) 6 (upd (rA 6) N.length g)) 7 (upd (upd (upd (rA 7) (3 * N.length) a) (3 * N.length + 1) b) (3 * N.length + 2) c)) ol J) (3 * N.length + 2) d_M_node_207 rfl (by rw [hM.1, show (3 : Int32) = nI 3 from by decide, pk_mul, show (2 : Int32) = nI 2 from by decide, nI_add]) (by omega) (by decide) (hA_21.trans (congrArg (fun z => HC X cI cA rI z ol J) (va_up_up _ _ _ _))) ?_
    have h5 : N = mdL (va_up (va_up (va_up (va_up (va_up rA 3 (upd (rA 3) N.length k)) 4 (upd (rA 4) N.length v)) 5 (upd (rA 5) N.length f)) 6 (upd (rA 6) N.length g)) 7 (upd (upd (upd (rA 7) (3 * N.length) a) (3 * N.length + 1) b) (3 * N.length + 2) c)) N.length := hM.2.trans (mdL_cg (fun i hi => row_new hi k v f g a b c (F := fun _ => 0))).symm
    refine ep_aload_n (j := 0) d_M_node_208 rfl rfl ?_
    refine ep_aload_n (j := 0) d_M_node_209 rfl rfl ?_
    refine ep_iconst (v := 1) d_M_node_210 (by decide) ?_
    refine ep_iload_n (j := 3) d_M_node_211 rfl rfl ?_
    refine ep_callVi (As := [.int 1, .int f]) (st := [.ref 16]) d_M_node_212 lk_M_69 cal_M_deeper tm_M_deeper ts_M_deeper rfl rfl rfl (Nat.le_of_ble_eq_true rfl) (Nat.le_of_ble_eq_true rfl) rfl rfl (M_deeper h5 (by omega) 1 f hv.1) ?_
    refine ep_iload (j := 4) d_M_node_215 rfl ?_
    refine ep_callVi (As := [.int (dpr N 1 f), .int g]) (st := []) d_M_node_217 lk_M_69 cal_M_deeper tm_M_deeper ts_M_deeper rfl rfl rfl (Nat.le_of_ble_eq_true rfl) (Nat.le_of_ble_eq_true rfl) rfl rfl (M_deeper h5 (by omega) (dpr N 1 f) g hv.2.1) ?_
    refine ep_istore (lv' := [(0, .ref 16), (1, .int k), (2, .int v), (3, .int f), (4, .int g), (5, .int a), (6, .int b), (7, .int c), (8, .int (dpr N (dpr N 1 f) g))]) [1, 2, 3, 4, 5, 6, 7, 8, 0] d_M_node_220 (by decide) rfl ?_
    refine ep_aload_n (j := 0) d_M_node_222 rfl rfl ?_
    refine ep_getf (fi := 8) (v := .ref 22) d_M_node_223 cl5 lf_M_25 (by decide) rfl rfl ?_
    refine ep_aload_n (j := 0) d_M_node_226 rfl rfl ?_
    refine ep_getf (fi := 2) (v := .int (rI 2)) d_M_node_227 cl5 lf_M_66 (by decide) rfl rfl ?_
    refine ep_aload_n (j := 0) d_M_node_230 rfl rfl ?_
    refine ep_aload_n (j := 0) d_M_node_231 rfl rfl ?_
    refine ep_aload_n (j := 0) d_M_node_232 rfl rfl ?_
    refine ep_iload (j := 8) d_M_node_233 rfl ?_
    refine ep_iload (j := 5) d_M_node_235 rfl ?_
    refine ep_callVi (As := [.int (dpr N (dpr N 1 f) g), .int a]) (st := [.ref 16, .ref 16, .int (rI 2), .ref 22]) d_M_node_237 lk_M_69 cal_M_deeper tm_M_deeper ts_M_deeper rfl rfl rfl (Nat.le_of_ble_eq_true rfl) (Nat.le_of_ble_eq_true rfl) rfl rfl (M_deeper h5 (by omega) (dpr N (dpr N 1 f) g) a hv.2.2.1) ?_
    refine ep_iload (j := 6) d_M_node_240 rfl ?_
    refine ep_callVi (As := [.int (dpr N (dpr N (dpr N 1 f) g) a), .int b]) (st := [.ref 16, .int (rI 2), .ref 22]) d_M_node_242 lk_M_69 cal_M_deeper tm_M_deeper ts_M_deeper rfl rfl rfl (Nat.le_of_ble_eq_true rfl) (Nat.le_of_ble_eq_true rfl) rfl rfl (M_deeper h5 (by omega) (dpr N (dpr N (dpr N 1 f) g) a) b hv.2.2.2.1) ?_
    refine ep_iload (j := 7) d_M_node_245 rfl ?_
    refine ep_callVi (As := [.int (dpr N (dpr N (dpr N (dpr N 1 f) g) a) b), .int c]) (st := [.int (rI 2), .ref 22]) d_M_node_247 lk_M_69 cal_M_deeper tm_M_deeper ts_M_deeper rfl rfl rfl (Nat.le_of_ble_eq_true rfl) (Nat.le_of_ble_eq_true rfl) rfl rfl (M_deeper h5 (by omega) (dpr N (dpr N (dpr N (dpr N 1 f) g) a) b) c hv.2.2.2.2) ?_
    refine ep_iast' (h2 := HC X cI cA rI (va_up (va_up (va_up (va_up (va_up (va_up rA 3 (upd (rA 3) N.length k)) 4 (upd (rA 4) N.length v)) 5 (upd (rA 5) N.length f)) 6 (upd (rA 6) N.length g)) 7 (upd (upd (upd (rA 7) (3 * N.length) a) (3 * N.length + 1) b) (3 * N.length + 2) c)) 8 (upd (rA 8) N.length (dpr N (dpr N (dpr N (dpr N (dpr N 1 f) g) a) b) c))) ol J) N.length d_M_node_250 rfl hM.1 (by omega) (by decide) hA_22 ?_
    refine ep_aload_n (j := 0) d_M_node_251 rfl rfl ?_
    refine ep_dup d_M_node_252 rfl ?_
    refine ep_getf (fi := 2) (v := .int (rI 2)) d_M_node_253 cl5 lf_M_66 (by decide) rfl rfl ?_
    refine ep_iconst (v := 1) d_M_node_256 (by decide) ?_
    refine ep_iadd d_M_node_257 ?_
    refine ep_cg (y := nI (N.length + 1)) (by rw [hM.1, nI_1]) ?_
    refine ep_putf' (fi := 2) (h2 := HC X cI cA (upd rI 2 (nI (N.length + 1))) (va_up (va_up (va_up (va_up (va_up (va_up rA 3 (upd (rA 3) N.length k)) 4 (upd (rA 4) N.length v)) 5 (upd (rA 5) N.length f)) 6 (upd (rA 6) N.length g)) 7 (upd (upd (upd (rA 7) (3 * N.length) a) (3 * N.length + 1) b) (3 * N.length + 2) c)) 8 (upd (rA 8) N.length (dpr N (dpr N (dpr N (dpr N (dpr N 1 f) g) a) b) c))) ol J) d_M_node_258 cl5 lf_M_66 (by decide) (Or.inl rfl) rfl rfl hI_16_2 ?_
    refine ep_aload_n (j := 0) d_M_node_261 rfl rfl ?_
    refine ep_getf (fi := 2) (v := .int (nI (N.length + 1))) d_M_node_262 cl5 lf_M_66 (by decide) rfl rfl ?_
    refine ep_iconst (v := 1) d_M_node_265 (by decide) ?_
    refine ep_isub d_M_node_266 ?_
    refine ep_cg (y := nI N.length) (nI_pred _) ?_
    exact ep_iret d_M_node_267 rfl rfl (NP_new hM (by omega) hb rfl)
  · refine ep_aload_n (j := 0) d_M_node_124 rfl rfl ?_
    refine ep_getf (fi := 3) (v := .ref 17) d_M_node_125 cl5 lf_M_7 (by decide) rfl rfl ?_
    refine ep_aload_n (j := 0) d_M_node_128 rfl rfl ?_
    refine ep_getf (fi := 2) (v := .int (rI 2)) d_M_node_129 cl5 lf_M_66 (by decide) rfl rfl ?_
    refine ep_iload_n (j := 1) d_M_node_132 rfl rfl ?_
    refine ep_iast' (h2 := HC X cI cA rI (va_up rA 3 (upd (rA 3) N.length k)) ol J) N.length d_M_node_133 rfl hM.1 (by omega) (by decide) hA_17 ?_
    refine ep_aload_n (j := 0) d_M_node_134 rfl rfl ?_
    refine ep_getf (fi := 4) (v := .ref 18) d_M_node_135 cl5 lf_M_13 (by decide) rfl rfl ?_
    refine ep_aload_n (j := 0) d_M_node_138 rfl rfl ?_
    refine ep_getf (fi := 2) (v := .int (rI 2)) d_M_node_139 cl5 lf_M_66 (by decide) rfl rfl ?_
    refine ep_iload_n (j := 2) d_M_node_142 rfl rfl ?_
    refine ep_iast' (h2 := HC X cI cA rI (va_up (va_up rA 3 (upd (rA 3) N.length k)) 4 (upd (rA 4) N.length v)) ol J) N.length d_M_node_143 rfl hM.1 (by omega) (by decide) hA_18 ?_
    refine ep_aload_n (j := 0) d_M_node_144 rfl rfl ?_
    refine ep_getf (fi := 5) (v := .ref 19) d_M_node_145 cl5 lf_M_16 (by decide) rfl rfl ?_
    refine ep_aload_n (j := 0) d_M_node_148 rfl rfl ?_
    refine ep_getf (fi := 2) (v := .int (rI 2)) d_M_node_149 cl5 lf_M_66 (by decide) rfl rfl ?_
    refine ep_iload_n (j := 3) d_M_node_152 rfl rfl ?_
    refine ep_iast' (h2 := HC X cI cA rI (va_up (va_up (va_up rA 3 (upd (rA 3) N.length k)) 4 (upd (rA 4) N.length v)) 5 (upd (rA 5) N.length f)) ol J) N.length d_M_node_153 rfl hM.1 (by omega) (by decide) hA_19 ?_
    refine ep_aload_n (j := 0) d_M_node_154 rfl rfl ?_
    refine ep_getf (fi := 6) (v := .ref 20) d_M_node_155 cl5 lf_M_19 (by decide) rfl rfl ?_
    refine ep_aload_n (j := 0) d_M_node_158 rfl rfl ?_
    refine ep_getf (fi := 2) (v := .int (rI 2)) d_M_node_159 cl5 lf_M_66 (by decide) rfl rfl ?_
    refine ep_iload (j := 4) d_M_node_162 rfl ?_
    refine ep_iast' (h2 := HC X cI cA rI (va_up (va_up (va_up (va_up rA 3 (upd (rA 3) N.length k)) 4 (upd (rA 4) N.length v)) 5 (upd (rA 5) N.length f)) 6 (upd (rA 6) N.length g)) ol J) N.length d_M_node_164 rfl hM.1 (by omega) (by decide) hA_20 ?_
    refine ep_aload_n (j := 0) d_M_node_165 rfl rfl ?_
    refine ep_getf (fi := 7) (v := .ref 21) d_M_node_166 cl5 lf_M_22 (by decide) rfl rfl ?_
    refine ep_iconst (v := 3) d_M_node_169 (by decide) ?_
    refine ep_aload_n (j := 0) d_M_node_170 rfl rfl ?_
    refine ep_getf (fi := 2) (v := .int (rI 2)) d_M_node_171 cl5 lf_M_66 (by decide) rfl rfl ?_
    refine ep_imul d_M_node_174 ?_
    refine ep_iload (j := 5) d_M_node_175 rfl ?_
    refine ep_iast' (h2 := HC X cI cA rI (va_up (va_up (va_up (va_up (va_up rA 3 (upd (rA 3) N.length k)) 4 (upd (rA 4) N.length v)) 5 (upd (rA 5) N.length f)) 6 (upd (rA 6) N.length g)) 7 (upd (rA 7) (3 * N.length) a)) ol J) (3 * N.length) d_M_node_177 rfl (by rw [hM.1, show (3 : Int32) = nI 3 from by decide, pk_mul]) (by omega) (by decide) hA_21 ?_
    refine ep_aload_n (j := 0) d_M_node_178 rfl rfl ?_
    refine ep_getf (fi := 7) (v := .ref 21) d_M_node_179 cl5 lf_M_22 (by decide) rfl rfl ?_
    refine ep_iconst (v := 3) d_M_node_182 (by decide) ?_
    refine ep_aload_n (j := 0) d_M_node_183 rfl rfl ?_
    refine ep_getf (fi := 2) (v := .int (rI 2)) d_M_node_184 cl5 lf_M_66 (by decide) rfl rfl ?_
    refine ep_imul d_M_node_187 ?_
    refine ep_iconst (v := 1) d_M_node_188 (by decide) ?_
    refine ep_iadd d_M_node_189 ?_
    refine ep_iload (j := 6) d_M_node_190 rfl ?_
    refine ep_iast' (h2 := HC X cI cA rI (va_up (va_up (va_up (va_up (va_up rA 3 (upd (rA 3) N.length k)) 4 (upd (rA 4) N.length v)) 5 (upd (rA 5) N.length f)) 6 (upd (rA 6) N.length g)) 7 (upd (upd (rA 7) (3 * N.length) a) (3 * N.length + 1) b)) ol J) (3 * N.length + 1) d_M_node_192 rfl (by rw [hM.1, show (3 : Int32) = nI 3 from by decide, pk_mul, nI_1]) (by omega) (by decide) (hA_21.trans (congrArg (fun z => HC X cI cA rI z ol J) (va_up_up _ _ _ _))) ?_
    refine ep_aload_n (j := 0) d_M_node_193 rfl rfl ?_
    refine ep_getf (fi := 7) (v := .ref 21) d_M_node_194 cl5 lf_M_22 (by decide) rfl rfl ?_
    refine ep_iconst (v := 3) d_M_node_197 (by decide) ?_
    refine ep_aload_n (j := 0) d_M_node_198 rfl rfl ?_
    refine ep_getf (fi := 2) (v := .int (rI 2)) d_M_node_199 cl5 lf_M_66 (by decide) rfl rfl ?_
    refine ep_imul d_M_node_202 ?_
    refine ep_iconst (v := 2) d_M_node_203 (by decide) ?_
    refine ep_iadd d_M_node_204 ?_
    refine ep_iload (j := 7) d_M_node_205 rfl ?_
    refine ep_iast' (h2 := HC X cI cA rI (va_up (va_up (va_up (va_up (va_up rA 3 (upd (rA 3) N.length k)) 4 (upd (rA 4) N.length v)) 5 (upd (rA 5) N.length f)) 6 (upd (rA 6) N.length g)) 7 (upd (upd (upd (rA 7) (3 * N.length) a) (3 * N.length + 1) b) (3 * N.length + 2) c)) ol J) (3 * N.length + 2) d_M_node_207 rfl (by rw [hM.1, show (3 : Int32) = nI 3 from by decide, pk_mul, show (2 : Int32) = nI 2 from by decide, nI_add]) (by omega) (by decide) (hA_21.trans (congrArg (fun z => HC X cI cA rI z ol J) (va_up_up _ _ _ _))) ?_
    have h5 : N = mdL (va_up (va_up (va_up (va_up (va_up rA 3 (upd (rA 3) N.length k)) 4 (upd (rA 4) N.length v)) 5 (upd (rA 5) N.length f)) 6 (upd (rA 6) N.length g)) 7 (upd (upd (upd (rA 7) (3 * N.length) a) (3 * N.length + 1) b) (3 * N.length + 2) c)) N.length := hM.2.trans (mdL_cg (fun i hi => row_new hi k v f g a b c (F := fun _ => 0))).symm
    refine ep_aload_n (j := 0) d_M_node_208 rfl rfl ?_
    refine ep_aload_n (j := 0) d_M_node_209 rfl rfl ?_
    refine ep_iconst (v := 1) d_M_node_210 (by decide) ?_
    refine ep_iload_n (j := 3) d_M_node_211 rfl rfl ?_
    refine ep_callVi (As := [.int 1, .int f]) (st := [.ref 16]) d_M_node_212 lk_M_69 cal_M_deeper tm_M_deeper ts_M_deeper rfl rfl rfl (Nat.le_of_ble_eq_true rfl) (Nat.le_of_ble_eq_true rfl) rfl rfl (M_deeper h5 (by omega) 1 f hv.1) ?_
    refine ep_iload (j := 4) d_M_node_215 rfl ?_
    refine ep_callVi (As := [.int (dpr N 1 f), .int g]) (st := []) d_M_node_217 lk_M_69 cal_M_deeper tm_M_deeper ts_M_deeper rfl rfl rfl (Nat.le_of_ble_eq_true rfl) (Nat.le_of_ble_eq_true rfl) rfl rfl (M_deeper h5 (by omega) (dpr N 1 f) g hv.2.1) ?_
    refine ep_istore (lv' := [(0, .ref 16), (1, .int k), (2, .int v), (3, .int f), (4, .int g), (5, .int a), (6, .int b), (7, .int c), (8, .int (dpr N (dpr N 1 f) g)), (9, .int y)]) [1, 2, 3, 4, 5, 6, 7, 8, 0, 9] d_M_node_220 (by decide) rfl ?_
    refine ep_aload_n (j := 0) d_M_node_222 rfl rfl ?_
    refine ep_getf (fi := 8) (v := .ref 22) d_M_node_223 cl5 lf_M_25 (by decide) rfl rfl ?_
    refine ep_aload_n (j := 0) d_M_node_226 rfl rfl ?_
    refine ep_getf (fi := 2) (v := .int (rI 2)) d_M_node_227 cl5 lf_M_66 (by decide) rfl rfl ?_
    refine ep_aload_n (j := 0) d_M_node_230 rfl rfl ?_
    refine ep_aload_n (j := 0) d_M_node_231 rfl rfl ?_
    refine ep_aload_n (j := 0) d_M_node_232 rfl rfl ?_
    refine ep_iload (j := 8) d_M_node_233 rfl ?_
    refine ep_iload (j := 5) d_M_node_235 rfl ?_
    refine ep_callVi (As := [.int (dpr N (dpr N 1 f) g), .int a]) (st := [.ref 16, .ref 16, .int (rI 2), .ref 22]) d_M_node_237 lk_M_69 cal_M_deeper tm_M_deeper ts_M_deeper rfl rfl rfl (Nat.le_of_ble_eq_true rfl) (Nat.le_of_ble_eq_true rfl) rfl rfl (M_deeper h5 (by omega) (dpr N (dpr N 1 f) g) a hv.2.2.1) ?_
    refine ep_iload (j := 6) d_M_node_240 rfl ?_
    refine ep_callVi (As := [.int (dpr N (dpr N (dpr N 1 f) g) a), .int b]) (st := [.ref 16, .int (rI 2), .ref 22]) d_M_node_242 lk_M_69 cal_M_deeper tm_M_deeper ts_M_deeper rfl rfl rfl (Nat.le_of_ble_eq_true rfl) (Nat.le_of_ble_eq_true rfl) rfl rfl (M_deeper h5 (by omega) (dpr N (dpr N (dpr N 1 f) g) a) b hv.2.2.2.1) ?_
    refine ep_iload (j := 7) d_M_node_245 rfl ?_
    refine ep_callVi (As := [.int (dpr N (dpr N (dpr N (dpr N 1 f) g) a) b), .int c]) (st := [.int (rI 2), .ref 22]) d_M_node_247 lk_M_69 cal_M_deeper tm_M_deeper ts_M_deeper rfl rfl rfl (Nat.le_of_ble_eq_true rfl) (Nat.le_of_ble_eq_true rfl) rfl rfl (M_deeper h5 (by omega) (dpr N (dpr N (dpr N (dpr N 1 f) g) a) b) c hv.2.2.2.2) ?_
    refine ep_iast' (h2 := HC X cI cA rI (va_up (va_up (va_up (va_up (va_up (va_up rA 3 (upd (rA 3) N.length k)) 4 (upd (rA 4) N.length v)) 5 (upd (rA 5) N.length f)) 6 (upd (rA 6) N.length g)) 7 (upd (upd (upd (rA 7) (3 * N.length) a) (3 * N.length + 1) b) (3 * N.length + 2) c)) 8 (upd (rA 8) N.length (dpr N (dpr N (dpr N (dpr N (dpr N 1 f) g) a) b) c))) ol J) N.length d_M_node_250 rfl hM.1 (by omega) (by decide) hA_22 ?_
    refine ep_aload_n (j := 0) d_M_node_251 rfl rfl ?_
    refine ep_dup d_M_node_252 rfl ?_
    refine ep_getf (fi := 2) (v := .int (rI 2)) d_M_node_253 cl5 lf_M_66 (by decide) rfl rfl ?_
    refine ep_iconst (v := 1) d_M_node_256 (by decide) ?_
    refine ep_iadd d_M_node_257 ?_
    refine ep_cg (y := nI (N.length + 1)) (by rw [hM.1, nI_1]) ?_
    refine ep_putf' (fi := 2) (h2 := HC X cI cA (upd rI 2 (nI (N.length + 1))) (va_up (va_up (va_up (va_up (va_up (va_up rA 3 (upd (rA 3) N.length k)) 4 (upd (rA 4) N.length v)) 5 (upd (rA 5) N.length f)) 6 (upd (rA 6) N.length g)) 7 (upd (upd (upd (rA 7) (3 * N.length) a) (3 * N.length + 1) b) (3 * N.length + 2) c)) 8 (upd (rA 8) N.length (dpr N (dpr N (dpr N (dpr N (dpr N 1 f) g) a) b) c))) ol J) d_M_node_258 cl5 lf_M_66 (by decide) (Or.inl rfl) rfl rfl hI_16_2 ?_
    refine ep_aload_n (j := 0) d_M_node_261 rfl rfl ?_
    refine ep_getf (fi := 2) (v := .int (nI (N.length + 1))) d_M_node_262 cl5 lf_M_66 (by decide) rfl rfl ?_
    refine ep_iconst (v := 1) d_M_node_265 (by decide) ?_
    refine ep_isub d_M_node_266 ?_
    refine ep_cg (y := nI N.length) (nI_pred _) ?_
    exact ep_iret d_M_node_267 rfl rfl (NP_new hM (by omega) hb rfl)
set_option maxHeartbeats 4000000 in
set_option maxRecDepth 100000 in
theorem M_node_l (hM : MN rI rA N) (hl : N.length ≤ 300) {k v f g a b c : Int32} (hv : Vo N f ∧ Vo N g ∧ Vo N a ∧ Vo N b ∧ Vo N c) : ∀ (m i : Nat), N.length - i < m → i ≤ N.length → (∀ j, j < i → ¬ r7 N j k v f g a b c) → ∀ {lv : List (Nat × Value)}, (lv = [(0, .ref 16), (1, .int k), (2, .int v), (3, .int f), (4, .int g), (5, .int a), (6, .int b), (7, .int c), (8, .int (nI i))] ∨ ∃ y, lv = [(0, .ref 16), (1, .int k), (2, .int v), (3, .int f), (4, .int g), (5, .int a), (6, .int b), (7, .int c), (8, .int (nI i)), (9, .int y)]) → EvP m_M_node (d + 1) 3 lv [] (HC X cI cA rI rA ol J) (NP X cI cA ol J rI rA (ndM N k v f g a b c)) := by
  intro m
  induction m with
  | zero => intro i h; omega
  | succ m ih =>
    intro i hm hil hb lv hx
    by_cases hi : i < N.length
    · rcases hx with rfl | ⟨y, rfl⟩
      · refine ep_iload (j := 8) d_M_node_3 rfl ?_
        refine ep_aload_n (j := 0) d_M_node_5 rfl rfl ?_
        refine ep_getf (fi := 2) (v := .int (rI 2)) d_M_node_6 cl5 lf_M_66 (by decide) rfl rfl ?_
        refine ep_icmp_ge (tgt := 124) d_M_node_9 (by decide) (fun z => absurd z (by rw [hM.1, nI_leI (by omega) (by omega)]; omega)) (fun _ => ?_)
        refine ep_aload_n (j := 0) d_M_node_12 rfl rfl ?_
        refine ep_getf (fi := 3) (v := .ref 17) d_M_node_13 cl5 lf_M_7 (by decide) rfl rfl ?_
        refine ep_iload (j := 8) d_M_node_16 rfl ?_
        refine ep_kind d_M_node_18 hM.2 (by omega) ⟨i, hi, rfl⟩ ?_
        refine ep_iload_n (j := 1) d_M_node_19 rfl rfl ?_
        refine ep_icmp_ne (tgt := 61) d_M_node_20 (by decide) (fun c20 => ?_) (fun c20 => ?_)
        · refine ep_iconst (v := 0) d_M_node_61 (by decide) ?_
          refine ep_istore (lv' := [(0, .ref 16), (1, .int k), (2, .int v), (3, .int f), (4, .int g), (5, .int a), (6, .int b), (7, .int c), (8, .int (nI i)), (9, .int 0)]) [1, 2, 3, 4, 5, 6, 7, 8, 9, 0] d_M_node_62 (by decide) rfl ?_
          refine ep_iload (j := 9) d_M_node_64 rfl ?_
          refine ep_if_eq (tgt := 118) d_M_node_66 (by decide) (fun _ => ?_) (fun z => absurd (by decide) z)
          refine ep_iinc (v := (nI (i + 1))) (j := 8) (lv' := [(0, .ref 16), (1, .int k), (2, .int v), (3, .int f), (4, .int g), (5, .int a), (6, .int b), (7, .int c), (8, .int (nI (i + 1))), (9, .int 0)]) [1, 2, 3, 4, 5, 6, 7, 8, 0, 9] d_M_node_118 rfl (nI_1 _) (by decide) rfl ?_
          refine ep_goto (tgt := 3) d_M_node_121 (by decide) ?_
          exact ih (i + 1) (by omega) (by omega) (fun j hj => (Nat.lt_succ_iff_lt_or_eq.mp hj).elim (hb j) (fun q => by subst q; intro u; exact c20 u.1)) (Or.inr ⟨_, rfl⟩)
        · refine ep_aload_n (j := 0) d_M_node_23 rfl rfl ?_
          refine ep_getf (fi := 4) (v := .ref 18) d_M_node_24 cl5 lf_M_13 (by decide) rfl rfl ?_
          refine ep_iload (j := 8) d_M_node_27 rfl ?_
          refine ep_val d_M_node_29 hM.2 (by omega) ⟨i, hi, rfl⟩ ?_
          refine ep_iload_n (j := 2) d_M_node_30 rfl rfl ?_
          refine ep_icmp_ne (tgt := 61) d_M_node_31 (by decide) (fun c31 => ?_) (fun c31 => ?_)
          · refine ep_iconst (v := 0) d_M_node_61 (by decide) ?_
            refine ep_istore (lv' := [(0, .ref 16), (1, .int k), (2, .int v), (3, .int f), (4, .int g), (5, .int a), (6, .int b), (7, .int c), (8, .int (nI i)), (9, .int 0)]) [1, 2, 3, 4, 5, 6, 7, 8, 9, 0] d_M_node_62 (by decide) rfl ?_
            refine ep_iload (j := 9) d_M_node_64 rfl ?_
            refine ep_if_eq (tgt := 118) d_M_node_66 (by decide) (fun _ => ?_) (fun z => absurd (by decide) z)
            refine ep_iinc (v := (nI (i + 1))) (j := 8) (lv' := [(0, .ref 16), (1, .int k), (2, .int v), (3, .int f), (4, .int g), (5, .int a), (6, .int b), (7, .int c), (8, .int (nI (i + 1))), (9, .int 0)]) [1, 2, 3, 4, 5, 6, 7, 8, 0, 9] d_M_node_118 rfl (nI_1 _) (by decide) rfl ?_
            refine ep_goto (tgt := 3) d_M_node_121 (by decide) ?_
            exact ih (i + 1) (by omega) (by omega) (fun j hj => (Nat.lt_succ_iff_lt_or_eq.mp hj).elim (hb j) (fun q => by subst q; intro u; exact c31 u.2.1)) (Or.inr ⟨_, rfl⟩)
          · refine ep_aload_n (j := 0) d_M_node_34 rfl rfl ?_
            refine ep_getf (fi := 5) (v := .ref 19) d_M_node_35 cl5 lf_M_16 (by decide) rfl rfl ?_
            refine ep_iload (j := 8) d_M_node_38 rfl ?_
            refine ep_fst d_M_node_40 hM.2 (by omega) ⟨i, hi, rfl⟩ ?_
            refine ep_iload_n (j := 3) d_M_node_41 rfl rfl ?_
            refine ep_icmp_ne (tgt := 61) d_M_node_42 (by decide) (fun c42 => ?_) (fun c42 => ?_)
            · refine ep_iconst (v := 0) d_M_node_61 (by decide) ?_
              refine ep_istore (lv' := [(0, .ref 16), (1, .int k), (2, .int v), (3, .int f), (4, .int g), (5, .int a), (6, .int b), (7, .int c), (8, .int (nI i)), (9, .int 0)]) [1, 2, 3, 4, 5, 6, 7, 8, 9, 0] d_M_node_62 (by decide) rfl ?_
              refine ep_iload (j := 9) d_M_node_64 rfl ?_
              refine ep_if_eq (tgt := 118) d_M_node_66 (by decide) (fun _ => ?_) (fun z => absurd (by decide) z)
              refine ep_iinc (v := (nI (i + 1))) (j := 8) (lv' := [(0, .ref 16), (1, .int k), (2, .int v), (3, .int f), (4, .int g), (5, .int a), (6, .int b), (7, .int c), (8, .int (nI (i + 1))), (9, .int 0)]) [1, 2, 3, 4, 5, 6, 7, 8, 0, 9] d_M_node_118 rfl (nI_1 _) (by decide) rfl ?_
              refine ep_goto (tgt := 3) d_M_node_121 (by decide) ?_
              exact ih (i + 1) (by omega) (by omega) (fun j hj => (Nat.lt_succ_iff_lt_or_eq.mp hj).elim (hb j) (fun q => by subst q; intro u; exact c42 u.2.2.1)) (Or.inr ⟨_, rfl⟩)
            · refine ep_aload_n (j := 0) d_M_node_45 rfl rfl ?_
              refine ep_getf (fi := 6) (v := .ref 20) d_M_node_46 cl5 lf_M_19 (by decide) rfl rfl ?_
              refine ep_iload (j := 8) d_M_node_49 rfl ?_
              refine ep_gvs d_M_node_51 hM.2 (by omega) ⟨i, hi, rfl⟩ ?_
              refine ep_iload (j := 4) d_M_node_52 rfl ?_
              refine ep_icmp_ne (tgt := 61) d_M_node_54 (by decide) (fun c54 => ?_) (fun c54 => ?_)
              · refine ep_iconst (v := 0) d_M_node_61 (by decide) ?_
                refine ep_istore (lv' := [(0, .ref 16), (1, .int k), (2, .int v), (3, .int f), (4, .int g), (5, .int a), (6, .int b), (7, .int c), (8, .int (nI i)), (9, .int 0)]) [1, 2, 3, 4, 5, 6, 7, 8, 9, 0] d_M_node_62 (by decide) rfl ?_
                refine ep_iload (j := 9) d_M_node_64 rfl ?_
                refine ep_if_eq (tgt := 118) d_M_node_66 (by decide) (fun _ => ?_) (fun z => absurd (by decide) z)
                refine ep_iinc (v := (nI (i + 1))) (j := 8) (lv' := [(0, .ref 16), (1, .int k), (2, .int v), (3, .int f), (4, .int g), (5, .int a), (6, .int b), (7, .int c), (8, .int (nI (i + 1))), (9, .int 0)]) [1, 2, 3, 4, 5, 6, 7, 8, 0, 9] d_M_node_118 rfl (nI_1 _) (by decide) rfl ?_
                refine ep_goto (tgt := 3) d_M_node_121 (by decide) ?_
                exact ih (i + 1) (by omega) (by omega) (fun j hj => (Nat.lt_succ_iff_lt_or_eq.mp hj).elim (hb j) (fun q => by subst q; intro u; exact c54 u.2.2.2.1)) (Or.inr ⟨_, rfl⟩)
              · refine ep_iconst (v := 1) d_M_node_57 (by decide) ?_
                refine ep_goto (tgt := 62) d_M_node_58 (by decide) ?_
                refine ep_istore (lv' := [(0, .ref 16), (1, .int k), (2, .int v), (3, .int f), (4, .int g), (5, .int a), (6, .int b), (7, .int c), (8, .int (nI i)), (9, .int 1)]) [1, 2, 3, 4, 5, 6, 7, 8, 9, 0] d_M_node_62 (by decide) rfl ?_
                refine ep_iload (j := 9) d_M_node_64 rfl ?_
                refine ep_if_eq (tgt := 118) d_M_node_66 (by decide) (fun z => absurd z (by decide)) (fun _ => ?_)
                refine ep_aload_n (j := 0) d_M_node_69 rfl rfl ?_
                refine ep_getf (fi := 7) (v := .ref 21) d_M_node_70 cl5 lf_M_22 (by decide) rfl rfl ?_
                refine ep_iconst (v := 3) d_M_node_73 (by decide) ?_
                refine ep_iload (j := 8) d_M_node_74 rfl ?_
                refine ep_imul d_M_node_76 ?_
                refine ep_prt (x := nI i) 0 (by decide) (fun q e => by rw [e, show (3 : Int32) = nI 3 from by decide, pk_mul, Nat.add_zero]) d_M_node_77 hM.2 (by omega) ⟨i, hi, rfl⟩ ?_
                refine ep_iload (j := 5) d_M_node_78 rfl ?_
                refine ep_icmp_ne (tgt := 118) d_M_node_80 (by decide) (fun c80 => ?_) (fun c80 => ?_)
                · refine ep_iinc (v := (nI (i + 1))) (j := 8) (lv' := [(0, .ref 16), (1, .int k), (2, .int v), (3, .int f), (4, .int g), (5, .int a), (6, .int b), (7, .int c), (8, .int (nI (i + 1))), (9, .int 1)]) [1, 2, 3, 4, 5, 6, 7, 8, 0, 9] d_M_node_118 rfl (nI_1 _) (by decide) rfl ?_
                  refine ep_goto (tgt := 3) d_M_node_121 (by decide) ?_
                  exact ih (i + 1) (by omega) (by omega) (fun j hj => (Nat.lt_succ_iff_lt_or_eq.mp hj).elim (hb j) (fun q => by subst q; intro u; exact c80 u.2.2.2.2.1)) (Or.inr ⟨_, rfl⟩)
                · refine ep_aload_n (j := 0) d_M_node_83 rfl rfl ?_
                  refine ep_getf (fi := 7) (v := .ref 21) d_M_node_84 cl5 lf_M_22 (by decide) rfl rfl ?_
                  refine ep_iconst (v := 3) d_M_node_87 (by decide) ?_
                  refine ep_iload (j := 8) d_M_node_88 rfl ?_
                  refine ep_imul d_M_node_90 ?_
                  refine ep_iconst (v := 1) d_M_node_91 (by decide) ?_
                  refine ep_iadd d_M_node_92 ?_
                  refine ep_prt (x := nI i) 1 (by decide) (fun q e => by rw [e, show (3 : Int32) = nI 3 from by decide, pk_mul, nI_1]) d_M_node_93 hM.2 (by omega) ⟨i, hi, rfl⟩ ?_
                  refine ep_iload (j := 6) d_M_node_94 rfl ?_
                  refine ep_icmp_ne (tgt := 118) d_M_node_96 (by decide) (fun c96 => ?_) (fun c96 => ?_)
                  · refine ep_iinc (v := (nI (i + 1))) (j := 8) (lv' := [(0, .ref 16), (1, .int k), (2, .int v), (3, .int f), (4, .int g), (5, .int a), (6, .int b), (7, .int c), (8, .int (nI (i + 1))), (9, .int 1)]) [1, 2, 3, 4, 5, 6, 7, 8, 0, 9] d_M_node_118 rfl (nI_1 _) (by decide) rfl ?_
                    refine ep_goto (tgt := 3) d_M_node_121 (by decide) ?_
                    exact ih (i + 1) (by omega) (by omega) (fun j hj => (Nat.lt_succ_iff_lt_or_eq.mp hj).elim (hb j) (fun q => by subst q; intro u; exact c96 u.2.2.2.2.2.1)) (Or.inr ⟨_, rfl⟩)
                  · refine ep_aload_n (j := 0) d_M_node_99 rfl rfl ?_
                    refine ep_getf (fi := 7) (v := .ref 21) d_M_node_100 cl5 lf_M_22 (by decide) rfl rfl ?_
                    refine ep_iconst (v := 3) d_M_node_103 (by decide) ?_
                    refine ep_iload (j := 8) d_M_node_104 rfl ?_
                    refine ep_imul d_M_node_106 ?_
                    refine ep_iconst (v := 2) d_M_node_107 (by decide) ?_
                    refine ep_iadd d_M_node_108 ?_
                    refine ep_prt (x := nI i) 2 (by decide) (fun q e => by rw [e, show (3 : Int32) = nI 3 from by decide, pk_mul, show (2 : Int32) = nI 2 from by decide, nI_add]) d_M_node_109 hM.2 (by omega) ⟨i, hi, rfl⟩ ?_
                    refine ep_iload (j := 7) d_M_node_110 rfl ?_
                    refine ep_icmp_ne (tgt := 118) d_M_node_112 (by decide) (fun c112 => ?_) (fun c112 => ?_)
                    · refine ep_iinc (v := (nI (i + 1))) (j := 8) (lv' := [(0, .ref 16), (1, .int k), (2, .int v), (3, .int f), (4, .int g), (5, .int a), (6, .int b), (7, .int c), (8, .int (nI (i + 1))), (9, .int 1)]) [1, 2, 3, 4, 5, 6, 7, 8, 0, 9] d_M_node_118 rfl (nI_1 _) (by decide) rfl ?_
                      refine ep_goto (tgt := 3) d_M_node_121 (by decide) ?_
                      exact ih (i + 1) (by omega) (by omega) (fun j hj => (Nat.lt_succ_iff_lt_or_eq.mp hj).elim (hb j) (fun q => by subst q; intro u; exact c112 u.2.2.2.2.2.2)) (Or.inr ⟨_, rfl⟩)
                    · refine ep_iload (j := 8) d_M_node_115 rfl ?_
                      exact ep_iret d_M_node_117 rfl rfl (NP_found hM (by omega) hi hb ⟨c20, c31, c42, c54, c80, c96, c112⟩)
      · refine ep_iload (j := 8) d_M_node_3 rfl ?_
        refine ep_aload_n (j := 0) d_M_node_5 rfl rfl ?_
        refine ep_getf (fi := 2) (v := .int (rI 2)) d_M_node_6 cl5 lf_M_66 (by decide) rfl rfl ?_
        refine ep_icmp_ge (tgt := 124) d_M_node_9 (by decide) (fun z => absurd z (by rw [hM.1, nI_leI (by omega) (by omega)]; omega)) (fun _ => ?_)
        refine ep_aload_n (j := 0) d_M_node_12 rfl rfl ?_
        refine ep_getf (fi := 3) (v := .ref 17) d_M_node_13 cl5 lf_M_7 (by decide) rfl rfl ?_
        refine ep_iload (j := 8) d_M_node_16 rfl ?_
        refine ep_kind d_M_node_18 hM.2 (by omega) ⟨i, hi, rfl⟩ ?_
        refine ep_iload_n (j := 1) d_M_node_19 rfl rfl ?_
        refine ep_icmp_ne (tgt := 61) d_M_node_20 (by decide) (fun c20 => ?_) (fun c20 => ?_)
        · refine ep_iconst (v := 0) d_M_node_61 (by decide) ?_
          refine ep_istore (lv' := [(0, .ref 16), (1, .int k), (2, .int v), (3, .int f), (4, .int g), (5, .int a), (6, .int b), (7, .int c), (8, .int (nI i)), (9, .int 0)]) [1, 2, 3, 4, 5, 6, 7, 8, 9, 0] d_M_node_62 (by decide) rfl ?_
          refine ep_iload (j := 9) d_M_node_64 rfl ?_
          refine ep_if_eq (tgt := 118) d_M_node_66 (by decide) (fun _ => ?_) (fun z => absurd (by decide) z)
          refine ep_iinc (v := (nI (i + 1))) (j := 8) (lv' := [(0, .ref 16), (1, .int k), (2, .int v), (3, .int f), (4, .int g), (5, .int a), (6, .int b), (7, .int c), (8, .int (nI (i + 1))), (9, .int 0)]) [1, 2, 3, 4, 5, 6, 7, 8, 0, 9] d_M_node_118 rfl (nI_1 _) (by decide) rfl ?_
          refine ep_goto (tgt := 3) d_M_node_121 (by decide) ?_
          exact ih (i + 1) (by omega) (by omega) (fun j hj => (Nat.lt_succ_iff_lt_or_eq.mp hj).elim (hb j) (fun q => by subst q; intro u; exact c20 u.1)) (Or.inr ⟨_, rfl⟩)
        · refine ep_aload_n (j := 0) d_M_node_23 rfl rfl ?_
          refine ep_getf (fi := 4) (v := .ref 18) d_M_node_24 cl5 lf_M_13 (by decide) rfl rfl ?_
          refine ep_iload (j := 8) d_M_node_27 rfl ?_
          refine ep_val d_M_node_29 hM.2 (by omega) ⟨i, hi, rfl⟩ ?_
          refine ep_iload_n (j := 2) d_M_node_30 rfl rfl ?_
          refine ep_icmp_ne (tgt := 61) d_M_node_31 (by decide) (fun c31 => ?_) (fun c31 => ?_)
          · refine ep_iconst (v := 0) d_M_node_61 (by decide) ?_
            refine ep_istore (lv' := [(0, .ref 16), (1, .int k), (2, .int v), (3, .int f), (4, .int g), (5, .int a), (6, .int b), (7, .int c), (8, .int (nI i)), (9, .int 0)]) [1, 2, 3, 4, 5, 6, 7, 8, 9, 0] d_M_node_62 (by decide) rfl ?_
            refine ep_iload (j := 9) d_M_node_64 rfl ?_
            refine ep_if_eq (tgt := 118) d_M_node_66 (by decide) (fun _ => ?_) (fun z => absurd (by decide) z)
            refine ep_iinc (v := (nI (i + 1))) (j := 8) (lv' := [(0, .ref 16), (1, .int k), (2, .int v), (3, .int f), (4, .int g), (5, .int a), (6, .int b), (7, .int c), (8, .int (nI (i + 1))), (9, .int 0)]) [1, 2, 3, 4, 5, 6, 7, 8, 0, 9] d_M_node_118 rfl (nI_1 _) (by decide) rfl ?_
            refine ep_goto (tgt := 3) d_M_node_121 (by decide) ?_
            exact ih (i + 1) (by omega) (by omega) (fun j hj => (Nat.lt_succ_iff_lt_or_eq.mp hj).elim (hb j) (fun q => by subst q; intro u; exact c31 u.2.1)) (Or.inr ⟨_, rfl⟩)
          · refine ep_aload_n (j := 0) d_M_node_34 rfl rfl ?_
            refine ep_getf (fi := 5) (v := .ref 19) d_M_node_35 cl5 lf_M_16 (by decide) rfl rfl ?_
            refine ep_iload (j := 8) d_M_node_38 rfl ?_
            refine ep_fst d_M_node_40 hM.2 (by omega) ⟨i, hi, rfl⟩ ?_
            refine ep_iload_n (j := 3) d_M_node_41 rfl rfl ?_
            refine ep_icmp_ne (tgt := 61) d_M_node_42 (by decide) (fun c42 => ?_) (fun c42 => ?_)
            · refine ep_iconst (v := 0) d_M_node_61 (by decide) ?_
              refine ep_istore (lv' := [(0, .ref 16), (1, .int k), (2, .int v), (3, .int f), (4, .int g), (5, .int a), (6, .int b), (7, .int c), (8, .int (nI i)), (9, .int 0)]) [1, 2, 3, 4, 5, 6, 7, 8, 9, 0] d_M_node_62 (by decide) rfl ?_
              refine ep_iload (j := 9) d_M_node_64 rfl ?_
              refine ep_if_eq (tgt := 118) d_M_node_66 (by decide) (fun _ => ?_) (fun z => absurd (by decide) z)
              refine ep_iinc (v := (nI (i + 1))) (j := 8) (lv' := [(0, .ref 16), (1, .int k), (2, .int v), (3, .int f), (4, .int g), (5, .int a), (6, .int b), (7, .int c), (8, .int (nI (i + 1))), (9, .int 0)]) [1, 2, 3, 4, 5, 6, 7, 8, 0, 9] d_M_node_118 rfl (nI_1 _) (by decide) rfl ?_
              refine ep_goto (tgt := 3) d_M_node_121 (by decide) ?_
              exact ih (i + 1) (by omega) (by omega) (fun j hj => (Nat.lt_succ_iff_lt_or_eq.mp hj).elim (hb j) (fun q => by subst q; intro u; exact c42 u.2.2.1)) (Or.inr ⟨_, rfl⟩)
            · refine ep_aload_n (j := 0) d_M_node_45 rfl rfl ?_
              refine ep_getf (fi := 6) (v := .ref 20) d_M_node_46 cl5 lf_M_19 (by decide) rfl rfl ?_
              refine ep_iload (j := 8) d_M_node_49 rfl ?_
              refine ep_gvs d_M_node_51 hM.2 (by omega) ⟨i, hi, rfl⟩ ?_
              refine ep_iload (j := 4) d_M_node_52 rfl ?_
              refine ep_icmp_ne (tgt := 61) d_M_node_54 (by decide) (fun c54 => ?_) (fun c54 => ?_)
              · refine ep_iconst (v := 0) d_M_node_61 (by decide) ?_
                refine ep_istore (lv' := [(0, .ref 16), (1, .int k), (2, .int v), (3, .int f), (4, .int g), (5, .int a), (6, .int b), (7, .int c), (8, .int (nI i)), (9, .int 0)]) [1, 2, 3, 4, 5, 6, 7, 8, 9, 0] d_M_node_62 (by decide) rfl ?_
                refine ep_iload (j := 9) d_M_node_64 rfl ?_
                refine ep_if_eq (tgt := 118) d_M_node_66 (by decide) (fun _ => ?_) (fun z => absurd (by decide) z)
                refine ep_iinc (v := (nI (i + 1))) (j := 8) (lv' := [(0, .ref 16), (1, .int k), (2, .int v), (3, .int f), (4, .int g), (5, .int a), (6, .int b), (7, .int c), (8, .int (nI (i + 1))), (9, .int 0)]) [1, 2, 3, 4, 5, 6, 7, 8, 0, 9] d_M_node_118 rfl (nI_1 _) (by decide) rfl ?_
                refine ep_goto (tgt := 3) d_M_node_121 (by decide) ?_
                exact ih (i + 1) (by omega) (by omega) (fun j hj => (Nat.lt_succ_iff_lt_or_eq.mp hj).elim (hb j) (fun q => by subst q; intro u; exact c54 u.2.2.2.1)) (Or.inr ⟨_, rfl⟩)
              · refine ep_iconst (v := 1) d_M_node_57 (by decide) ?_
                refine ep_goto (tgt := 62) d_M_node_58 (by decide) ?_
                refine ep_istore (lv' := [(0, .ref 16), (1, .int k), (2, .int v), (3, .int f), (4, .int g), (5, .int a), (6, .int b), (7, .int c), (8, .int (nI i)), (9, .int 1)]) [1, 2, 3, 4, 5, 6, 7, 8, 9, 0] d_M_node_62 (by decide) rfl ?_
                refine ep_iload (j := 9) d_M_node_64 rfl ?_
                refine ep_if_eq (tgt := 118) d_M_node_66 (by decide) (fun z => absurd z (by decide)) (fun _ => ?_)
                refine ep_aload_n (j := 0) d_M_node_69 rfl rfl ?_
                refine ep_getf (fi := 7) (v := .ref 21) d_M_node_70 cl5 lf_M_22 (by decide) rfl rfl ?_
                refine ep_iconst (v := 3) d_M_node_73 (by decide) ?_
                refine ep_iload (j := 8) d_M_node_74 rfl ?_
                refine ep_imul d_M_node_76 ?_
                refine ep_prt (x := nI i) 0 (by decide) (fun q e => by rw [e, show (3 : Int32) = nI 3 from by decide, pk_mul, Nat.add_zero]) d_M_node_77 hM.2 (by omega) ⟨i, hi, rfl⟩ ?_
                refine ep_iload (j := 5) d_M_node_78 rfl ?_
                refine ep_icmp_ne (tgt := 118) d_M_node_80 (by decide) (fun c80 => ?_) (fun c80 => ?_)
                · refine ep_iinc (v := (nI (i + 1))) (j := 8) (lv' := [(0, .ref 16), (1, .int k), (2, .int v), (3, .int f), (4, .int g), (5, .int a), (6, .int b), (7, .int c), (8, .int (nI (i + 1))), (9, .int 1)]) [1, 2, 3, 4, 5, 6, 7, 8, 0, 9] d_M_node_118 rfl (nI_1 _) (by decide) rfl ?_
                  refine ep_goto (tgt := 3) d_M_node_121 (by decide) ?_
                  exact ih (i + 1) (by omega) (by omega) (fun j hj => (Nat.lt_succ_iff_lt_or_eq.mp hj).elim (hb j) (fun q => by subst q; intro u; exact c80 u.2.2.2.2.1)) (Or.inr ⟨_, rfl⟩)
                · refine ep_aload_n (j := 0) d_M_node_83 rfl rfl ?_
                  refine ep_getf (fi := 7) (v := .ref 21) d_M_node_84 cl5 lf_M_22 (by decide) rfl rfl ?_
                  refine ep_iconst (v := 3) d_M_node_87 (by decide) ?_
                  refine ep_iload (j := 8) d_M_node_88 rfl ?_
                  refine ep_imul d_M_node_90 ?_
                  refine ep_iconst (v := 1) d_M_node_91 (by decide) ?_
                  refine ep_iadd d_M_node_92 ?_
                  refine ep_prt (x := nI i) 1 (by decide) (fun q e => by rw [e, show (3 : Int32) = nI 3 from by decide, pk_mul, nI_1]) d_M_node_93 hM.2 (by omega) ⟨i, hi, rfl⟩ ?_
                  refine ep_iload (j := 6) d_M_node_94 rfl ?_
                  refine ep_icmp_ne (tgt := 118) d_M_node_96 (by decide) (fun c96 => ?_) (fun c96 => ?_)
                  · refine ep_iinc (v := (nI (i + 1))) (j := 8) (lv' := [(0, .ref 16), (1, .int k), (2, .int v), (3, .int f), (4, .int g), (5, .int a), (6, .int b), (7, .int c), (8, .int (nI (i + 1))), (9, .int 1)]) [1, 2, 3, 4, 5, 6, 7, 8, 0, 9] d_M_node_118 rfl (nI_1 _) (by decide) rfl ?_
                    refine ep_goto (tgt := 3) d_M_node_121 (by decide) ?_
                    exact ih (i + 1) (by omega) (by omega) (fun j hj => (Nat.lt_succ_iff_lt_or_eq.mp hj).elim (hb j) (fun q => by subst q; intro u; exact c96 u.2.2.2.2.2.1)) (Or.inr ⟨_, rfl⟩)
                  · refine ep_aload_n (j := 0) d_M_node_99 rfl rfl ?_
                    refine ep_getf (fi := 7) (v := .ref 21) d_M_node_100 cl5 lf_M_22 (by decide) rfl rfl ?_
                    refine ep_iconst (v := 3) d_M_node_103 (by decide) ?_
                    refine ep_iload (j := 8) d_M_node_104 rfl ?_
                    refine ep_imul d_M_node_106 ?_
                    refine ep_iconst (v := 2) d_M_node_107 (by decide) ?_
                    refine ep_iadd d_M_node_108 ?_
                    refine ep_prt (x := nI i) 2 (by decide) (fun q e => by rw [e, show (3 : Int32) = nI 3 from by decide, pk_mul, show (2 : Int32) = nI 2 from by decide, nI_add]) d_M_node_109 hM.2 (by omega) ⟨i, hi, rfl⟩ ?_
                    refine ep_iload (j := 7) d_M_node_110 rfl ?_
                    refine ep_icmp_ne (tgt := 118) d_M_node_112 (by decide) (fun c112 => ?_) (fun c112 => ?_)
                    · refine ep_iinc (v := (nI (i + 1))) (j := 8) (lv' := [(0, .ref 16), (1, .int k), (2, .int v), (3, .int f), (4, .int g), (5, .int a), (6, .int b), (7, .int c), (8, .int (nI (i + 1))), (9, .int 1)]) [1, 2, 3, 4, 5, 6, 7, 8, 0, 9] d_M_node_118 rfl (nI_1 _) (by decide) rfl ?_
                      refine ep_goto (tgt := 3) d_M_node_121 (by decide) ?_
                      exact ih (i + 1) (by omega) (by omega) (fun j hj => (Nat.lt_succ_iff_lt_or_eq.mp hj).elim (hb j) (fun q => by subst q; intro u; exact c112 u.2.2.2.2.2.2)) (Or.inr ⟨_, rfl⟩)
                    · refine ep_iload (j := 8) d_M_node_115 rfl ?_
                      exact ep_iret d_M_node_117 rfl rfl (NP_found hM (by omega) hi hb ⟨c20, c31, c42, c54, c80, c96, c112⟩)
    · obtain rfl : i = N.length := by omega
      rcases hx with rfl | ⟨y, rfl⟩
      · refine ep_iload (j := 8) d_M_node_3 rfl ?_
        refine ep_aload_n (j := 0) d_M_node_5 rfl rfl ?_
        refine ep_getf (fi := 2) (v := .int (rI 2)) d_M_node_6 cl5 lf_M_66 (by decide) rfl rfl ?_
        refine ep_icmp_ge (tgt := 124) d_M_node_9 (by decide) (fun _ => ?_) (fun z => absurd (by rw [hM.1]; exact Int32.le_refl _) z)
        exact M_node_new hM hl hv hb (Or.inl rfl)
      · refine ep_iload (j := 8) d_M_node_3 rfl ?_
        refine ep_aload_n (j := 0) d_M_node_5 rfl rfl ?_
        refine ep_getf (fi := 2) (v := .int (rI 2)) d_M_node_6 cl5 lf_M_66 (by decide) rfl rfl ?_
        refine ep_icmp_ge (tgt := 124) d_M_node_9 (by decide) (fun _ => ?_) (fun z => absurd (by rw [hM.1]; exact Int32.le_refl _) z)
        exact M_node_new hM hl hv hb (Or.inr ⟨y, rfl⟩)
set_option maxHeartbeats 4000000 in
set_option maxRecDepth 100000 in
theorem M_node (hM : MN rI rA N) (hl : N.length ≤ 300) (k v f g a b c : Int32) (hv : Vo N f ∧ Vo N g ∧ Vo N a ∧ Vo N b ∧ Vo N c) : EvP m_M_node (d + 1) 0 [(0, .ref 16), (1, .int k), (2, .int v), (3, .int f), (4, .int g), (5, .int a), (6, .int b), (7, .int c)] [] (HC X cI cA rI rA ol J) (NP X cI cA ol J rI rA (ndM N k v f g a b c)) := by
  refine ep_iconst (v := 0) d_M_node_0 (by decide) ?_
  refine ep_istore (lv' := [(0, .ref 16), (1, .int k), (2, .int v), (3, .int f), (4, .int g), (5, .int a), (6, .int b), (7, .int c), (8, .int 0)]) [1, 2, 3, 4, 5, 6, 7, 8, 0] d_M_node_1 (by decide) rfl ?_
  exact M_node_l hM hl hv (N.length + 1) 0 (by omega) (Nat.zero_le _) (fun j hj => absurd hj (Nat.not_lt_zero _)) (Or.inl (by rw [nI_0]))
end MH1
