/-! the reference: write; by program (wip/whole/gen59.py) -/
section MWE
variable {d : Nat} {X : Nat × (Nat → Int32)} {cI : Nat → Int32} {cA : Nat → Nat → Int32} {rI : Nat → Int32} {rA : Nat → Nat → Int32} {ol : Int64} {J : mH} {S : CSt} {w : WM}
abbrev ndP (N : List (List Int32)) (x : Int32) : Prop := 0 ≤ x ∧ x < nI N.length
theorem ndP_vd {N : List (List Int32)} (hN : N.length ≤ 1000) {x : Int32} (h : ndP N x) : Vd N x := by
  obtain ⟨j, hj, rfl⟩ := nI_of' h.1
  exact ⟨j, (nI_ltI hj (by omega)).mp h.2, rfl⟩
set_option maxHeartbeats 4000000 in
set_option maxRecDepth 100000 in
theorem M_isNode {N : List (List Int32)} (h1 : rI 1 = nI N.length) (x : Int32) : EvP m_M_isNode d 0 [(0, .ref 16), (1, .int x)] [] (HC X cI cA rI rA ol J) (Ri (if ndP N x then 1 else 0) (HC X cI cA rI rA ol J)) := by
  refine ep_iload_n (j := 1) d_M_isNode_0 rfl rfl ?_
  refine ep_if_lt (tgt := 16) d_M_isNode_1 (by decide) (fun c1 => ?_) (fun c1 => ?_)
  · refine ep_iconst (v := 0) d_M_isNode_16 (by decide) ?_
    exact ep_iret d_M_isNode_17 rfl rfl (⟨congrArg (fun z => Sum.inl (some (Value.int z))) (by rw [if_neg (fun u => absurd u.1 (Int32.not_le.mpr c1))]), rfl⟩)
  · refine ep_iload_n (j := 1) d_M_isNode_4 rfl rfl ?_
    refine ep_aload_n (j := 0) d_M_isNode_5 rfl rfl ?_
    refine ep_getf (fi := 1) (v := .int (nI N.length)) d_M_isNode_6 cl5 lf_M_56 (by decide) rfl (congrArg (fun z => some (Value.int z)) h1) ?_
    refine ep_icmp_ge (tgt := 16) d_M_isNode_9 (by decide) (fun c9 => ?_) (fun c9 => ?_)
    · refine ep_iconst (v := 0) d_M_isNode_16 (by decide) ?_
      exact ep_iret d_M_isNode_17 rfl rfl (⟨congrArg (fun z => Sum.inl (some (Value.int z))) (by rw [if_neg (fun u => absurd u.2 (Int32.not_lt.mpr c9))]), rfl⟩)
    · refine ep_iconst (v := 1) d_M_isNode_12 (by decide) ?_
      refine ep_goto (tgt := 17) d_M_isNode_13 (by decide) ?_
      exact ep_iret d_M_isNode_17 rfl rfl (⟨congrArg (fun z => Sum.inl (some (Value.int z))) (by rw [if_pos ⟨Int32.not_lt.mp c1, Int32.not_le.mp c9⟩]), rfl⟩)
set_option maxHeartbeats 4000000 in
set_option maxRecDepth 100000 in
theorem M_wc {n : Nat} (ho : rI 12 = nI n) (hn : n ≤ 120) {e : Int32} {P : mR → mH → Prop} (kk : ∀ F : Nat → Int32, (∀ j, j < n → F j = rA 11 j) → EvP m_M_write d 234 [(0, .ref 16), (1, .int e), (2, .int (nI n))] [] (HC X cI cA rI (va_up rA 9 F) ol J) P) : ∀ (m k : Nat) (F : Nat → Int32), n - k < m → k ≤ n → (∀ j, j < k → F j = rA 11 j) → EvP m_M_write d 208 [(0, .ref 16), (1, .int e), (2, .int (nI k))] [] (HC X cI cA rI (va_up rA 9 F) ol J) P := by
  intro m
  induction m with
  | zero => intro k F h; omega
  | succ m ih =>
    intro k F hm hk hF
    by_cases hlt : k < n
    · refine ep_iload_n (j := 2) d_M_write_208 rfl rfl ?_
      refine ep_aload_n (j := 0) d_M_write_209 rfl rfl ?_
      refine ep_getf (fi := 12) (v := .int (rI 12)) d_M_write_210 cl5 lf_M_102 (by decide) rfl rfl ?_
      refine ep_icmp_ge (tgt := 234) d_M_write_213 (by decide) (fun z => absurd z (by rw [ho]; exact fun z => absurd ((nI_leI (by omega) (by omega)).mp z) (by omega))) (fun _ => ?_)
      refine ep_aload_n (j := 0) d_M_write_216 rfl rfl ?_
      refine ep_getf (fi := 9) (v := .ref 23) d_M_write_217 cl5 lf_M_28 (by decide) rfl rfl ?_
      refine ep_iload_n (j := 2) d_M_write_220 rfl rfl ?_
      refine ep_aload_n (j := 0) d_M_write_221 rfl rfl ?_
      refine ep_getf (fi := 11) (v := .ref 24) d_M_write_222 cl5 lf_M_31 (by decide) rfl rfl ?_
      refine ep_iload_n (j := 2) d_M_write_225 rfl rfl ?_
      refine ep_iald (f := rA 11) k d_M_write_226 rfl rfl (by omega) (by decide) ?_
      refine ep_iast' (h2 := HC X cI cA rI (va_up rA 9 (upd F k (rA 11 k))) ol J) k d_M_write_227 rfl rfl (by omega) (by decide) (hA_23.trans (congrArg (fun z => HC X cI cA rI z ol J) (va_up_up _ _ _ _))) ?_
      refine ep_iinc (v := (nI (k + 1))) (j := 2) (lv' := [(0, .ref 16), (1, .int e), (2, .int (nI (k + 1)))]) [1, 2, 0] d_M_write_228 rfl (nI_1 _) (by decide) rfl ?_
      refine ep_goto (tgt := 208) d_M_write_231 (by decide) ?_
      refine ih (k + 1) (upd F k (rA 11 k)) (by omega) (by omega) (fun j hj => ?_)
      by_cases q : j = k
      · subst q; exact upd_at _ _ _
      · rw [upd_ne _ _ q]; exact hF j (by omega)
    · refine ep_iload_n (j := 2) d_M_write_208 rfl rfl ?_
      refine ep_aload_n (j := 0) d_M_write_209 rfl rfl ?_
      refine ep_getf (fi := 12) (v := .int (rI 12)) d_M_write_210 cl5 lf_M_102 (by decide) rfl rfl ?_
      refine ep_icmp_ge (tgt := 234) d_M_write_213 (by decide) (fun _ => ?_) (fun z => absurd (by rw [ho]; exact nI_le (by omega) (by omega)) z)
      obtain rfl : k = n := by omega
      exact kk F hF
set_option maxHeartbeats 4000000 in
set_option maxRecDepth 100000 in
theorem M_wr_x {r : WM} {e : Int32} (hd : MV S rI rA r) (hov : r.ov = true) : EvP m_M_write (d + 1) 173 [(0, .ref 16), (1, .int e)] [] (HC X cI cA rI rA ol J) (BP X cI cA ol J 0 2 S) := by
  refine ep_aload_n (j := 0) d_M_write_173 rfl rfl ?_
  refine ep_aload_n (j := 0) d_M_write_174 rfl rfl ?_
  refine ep_getf (fi := 13) (v := .int (bI r.ov)) d_M_write_175 cl5 lf_M_98 (by decide) rfl (congrArg (fun z => some (Value.int z)) hd.ov) ?_
  refine ep_if_eq (tgt := 185) d_M_write_178 (by decide) (fun z => absurd z (by rw [hov]; decide)) (fun _ => ?_)
  refine ep_iconst (v := 2) d_M_write_181 (by decide) ?_
  refine ep_goto (tgt := 186) d_M_write_182 (by decide) ?_
  refine ep_putf' (fi := 0) (h2 := HC X cI cA (upd rI 0 2) rA ol J) d_M_write_186 cl5 lf_M_52 (by decide) (Or.inl rfl) rfl rfl hI_16_0 ?_
  refine ep_aload_n (j := 0) d_M_write_189 rfl rfl ?_
  refine ep_getf (fi := 0) (v := .int 2) d_M_write_190 cl5 lf_M_52 (by decide) rfl rfl ?_
  refine ep_if_le (tgt := 198) d_M_write_193 (by decide) (fun z => absurd z (by decide)) (fun _ => ?_)
  refine ep_iconst (v := 0) d_M_write_196 (by decide) ?_
  exact ep_iret d_M_write_197 rfl rfl (BP_ok rfl hd.b rfl)
set_option maxHeartbeats 4000000 in
set_option maxRecDepth 100000 in
theorem M_wr_k {r : WM} {e : Int32} (hd : MV S rI rA r) (hov : r.ov = false) (hO : r.O.length ≤ 120) (hE : r.E.length ≤ 320) : EvP m_M_write (d + 1) 173 [(0, .ref 16), (1, .int e)] [] (HC X cI cA rI rA ol J) (BP X cI cA ol J (nI r.O.length) 0 (S.1, r.O, r.E)) := by
  refine ep_aload_n (j := 0) d_M_write_173 rfl rfl ?_
  refine ep_aload_n (j := 0) d_M_write_174 rfl rfl ?_
  refine ep_getf (fi := 13) (v := .int (bI r.ov)) d_M_write_175 cl5 lf_M_98 (by decide) rfl (congrArg (fun z => some (Value.int z)) hd.ov) ?_
  refine ep_if_eq (tgt := 185) d_M_write_178 (by decide) (fun _ => ?_) (fun z => absurd (by rw [hov]; rfl) z)
  refine ep_iconst (v := 0) d_M_write_185 (by decide) ?_
  refine ep_putf' (fi := 0) (h2 := HC X cI cA (upd rI 0 0) rA ol J) d_M_write_186 cl5 lf_M_52 (by decide) (Or.inl rfl) rfl rfl hI_16_0 ?_
  refine ep_aload_n (j := 0) d_M_write_189 rfl rfl ?_
  refine ep_getf (fi := 0) (v := .int 0) d_M_write_190 cl5 lf_M_52 (by decide) rfl rfl ?_
  refine ep_if_le (tgt := 198) d_M_write_193 (by decide) (fun _ => ?_) (fun z => absurd (by decide) z)
  refine ep_aload_n (j := 0) d_M_write_198 rfl rfl ?_
  refine ep_aload_n (j := 0) d_M_write_199 rfl rfl ?_
  refine ep_getf (fi := 12) (v := .int (nI r.O.length)) d_M_write_200 cl5 lf_M_102 (by decide) rfl (congrArg (fun z => some (Value.int z)) hd.oz) ?_
  refine ep_putf' (fi := 10) (h2 := HC X cI cA (upd (upd rI 0 0) 10 (nI r.O.length)) rA ol J) d_M_write_203 cl5 lf_M_157 (by decide) (Or.inl rfl) rfl rfl hI_16_10 ?_
  refine ep_iconst (v := 0) d_M_write_206 (by decide) ?_
  refine ep_istore_n (lv' := [(0, .ref 16), (1, .int e), (2, .int 0)]) [1, 2, 0] d_M_write_207 rfl (by decide) rfl ?_
  have key := M_wc (d := d + 1) (X := X) (cI := cI) (cA := cA) (ol := ol) (J := J) (rI := upd (upd rI 0 0) 10 (nI r.O.length)) (rA := rA) (n := r.O.length) (e := e) (P := BP X cI cA ol J (nI r.O.length) 0 (S.1, r.O, r.E)) hd.oz hO (fun F hF => ?_) (r.O.length + 1) 0 (rA 9) (by omega) (Nat.zero_le _) (fun j hj => absurd hj (Nat.not_lt_zero _))
  · rw [show va_up rA 9 (rA 9) = rA from va_same rA 9, nI_0] at key
    exact key
  · refine ep_aload_n (j := 0) d_M_write_234 rfl rfl ?_
    refine ep_callVsh (As := []) (st := []) d_M_write_235 lk_M_160 cal_M_show tm_M_show ts_M_show rfl rfl rfl (Nat.le_of_ble_eq_true rfl) (Nat.le_of_ble_eq_true rfl) rfl rfl (M_show hd.ez hE) (fun G hG => ?_)
    refine ep_aload_n (j := 0) d_M_write_238 rfl rfl ?_
    refine ep_getf (fi := 10) (v := .int (nI r.O.length)) d_M_write_239 cl5 lf_M_157 (by decide) rfl rfl ?_
    exact ep_iret d_M_write_242 rfl rfl (BP_ok rfl ⟨⟨hd.b.1.1, hd.b.1.2⟩, ⟨rfl, hd.ol.trans (rowL_cg (fun j hj => (hF j hj).symm))⟩, ⟨rfl, hd.el.trans (rowL_cg (fun j hj => (hG j hj).symm))⟩⟩ rfl)
set_option maxHeartbeats 4000000 in
set_option maxRecDepth 100000 in
theorem M_write_n (hb : MB rI rA S) (hl : S.1.length ≤ 300) (e : Int32) (hn : ¬ ndP S.1 e) : EvP m_M_write (d + 1) 0 [(0, .ref 16), (1, .int e)] [] (HC X cI cA rI rA ol J) (BP X cI cA ol J 0 1 S) := by
  refine ep_aload_n (j := 0) d_M_write_0 rfl rfl ?_
  refine ep_aload_n (j := 0) d_M_write_1 rfl rfl ?_
  refine ep_iload_n (j := 1) d_M_write_2 rfl rfl ?_
  refine ep_callVi (As := [.int e]) (st := [.ref 16]) d_M_write_3 lk_M_59 cal_M_isNode tm_M_isNode ts_M_isNode rfl rfl rfl (Nat.le_of_ble_eq_true rfl) (Nat.le_of_ble_eq_true rfl) rfl rfl (M_isNode hb.1.1 e) ?_
  rw [if_neg hn]
  refine ep_if_eq (tgt := 13) d_M_write_6 (by decide) (fun _ => ?_) (fun z => absurd (by decide) z)
  refine ep_iconst (v := 1) d_M_write_13 (by decide) ?_
  refine ep_putf' (fi := 0) (h2 := HC X cI cA (upd rI 0 1) rA ol J) d_M_write_14 cl5 lf_M_52 (by decide) (Or.inl rfl) rfl rfl hI_16_0 ?_
  refine ep_aload_n (j := 0) d_M_write_17 rfl rfl ?_
  refine ep_getf (fi := 0) (v := .int 1) d_M_write_18 cl5 lf_M_52 (by decide) rfl rfl ?_
  refine ep_if_le (tgt := 26) d_M_write_21 (by decide) (fun z => absurd z (by decide)) (fun _ => ?_)
  refine ep_iconst (v := 0) d_M_write_24 (by decide) ?_
  exact ep_iret d_M_write_25 rfl rfl (BP_ok rfl hb rfl)
set_option maxHeartbeats 4000000 in
set_option maxRecDepth 100000 in
theorem M_write_k (hb : MB rI rA S) (hl : S.1.length ≤ 300) (e : Int32) (hn : ndP S.1 e) (h10 : ¬ cN S.1 e 0 = 10) : EvP m_M_write (d + 1) 0 [(0, .ref 16), (1, .int e)] [] (HC X cI cA rI rA ol J) (BP X cI cA ol J 0 1 S) := by
  have hV := ndP_vd (by omega) hn
  refine ep_aload_n (j := 0) d_M_write_0 rfl rfl ?_
  refine ep_aload_n (j := 0) d_M_write_1 rfl rfl ?_
  refine ep_iload_n (j := 1) d_M_write_2 rfl rfl ?_
  refine ep_callVi (As := [.int e]) (st := [.ref 16]) d_M_write_3 lk_M_59 cal_M_isNode tm_M_isNode ts_M_isNode rfl rfl rfl (Nat.le_of_ble_eq_true rfl) (Nat.le_of_ble_eq_true rfl) rfl rfl (M_isNode hb.1.1 e) ?_
  rw [if_pos hn]
  refine ep_if_eq (tgt := 13) d_M_write_6 (by decide) (fun z => absurd z (by decide)) (fun _ => ?_)
  refine ep_iconst (v := 0) d_M_write_9 (by decide) ?_
  refine ep_goto (tgt := 14) d_M_write_10 (by decide) ?_
  refine ep_putf' (fi := 0) (h2 := HC X cI cA (upd rI 0 0) rA ol J) d_M_write_14 cl5 lf_M_52 (by decide) (Or.inl rfl) rfl rfl hI_16_0 ?_
  refine ep_aload_n (j := 0) d_M_write_17 rfl rfl ?_
  refine ep_getf (fi := 0) (v := .int 0) d_M_write_18 cl5 lf_M_52 (by decide) rfl rfl ?_
  refine ep_if_le (tgt := 26) d_M_write_21 (by decide) (fun _ => ?_) (fun z => absurd (by decide) z)
  refine ep_aload_n (j := 0) d_M_write_26 rfl rfl ?_
  refine ep_aload_n (j := 0) d_M_write_27 rfl rfl ?_
  refine ep_getf (fi := 3) (v := .ref 17) d_M_write_28 cl5 lf_M_7 (by decide) rfl rfl ?_
  refine ep_iload_n (j := 1) d_M_write_31 rfl rfl ?_
  refine ep_kind (N := S.1) d_M_write_32 hb.1.2 (by omega) hV ?_
  refine ep_bipush (v := 10) d_M_write_33 (by decide) ?_
  refine ep_icmp_ne (tgt := 42) d_M_write_35 (by decide) (fun _ => ?_) (fun z => absurd z h10)
  refine ep_iconst (v := 1) d_M_write_42 (by decide) ?_
  refine ep_putf' (fi := 0) (h2 := HC X cI cA (upd rI 0 1) rA ol J) d_M_write_43 cl5 lf_M_52 (by decide) (Or.inl rfl) rfl rfl (hI_16_0.trans (congrArg (fun z => HC X cI cA z rA ol J) (upd_upd _ _ _ _))) ?_
  refine ep_aload_n (j := 0) d_M_write_46 rfl rfl ?_
  refine ep_getf (fi := 0) (v := .int 1) d_M_write_47 cl5 lf_M_52 (by decide) rfl rfl ?_
  refine ep_if_le (tgt := 55) d_M_write_50 (by decide) (fun z => absurd z (by decide)) (fun _ => ?_)
  refine ep_iconst (v := 0) d_M_write_53 (by decide) ?_
  exact ep_iret d_M_write_54 rfl rfl (BP_ok rfl hb rfl)
set_option maxHeartbeats 4000000 in
set_option maxRecDepth 100000 in
theorem M_write_w (hb : MB rI rA S) (hl : S.1.length ≤ 300) (e : Int32) (hW : WN S.1) (hn : ndP S.1 e) (h10 : cN S.1 e 0 = 10) {r : WM} (h : WL S.1 (stE S.1 e) r) (hO : r.ov = false → r.O.length ≤ 120) (hE : r.ov = false → r.E.length ≤ 320) : EvP m_M_write (d + 4) 0 [(0, .ref 16), (1, .int e)] [] (HC X cI cA rI rA ol J) (if r.ov = true then BP X cI cA ol J 0 2 S else BP X cI cA ol J (nI r.O.length) 0 (S.1, r.O, r.E)) := by
  have hV := ndP_vd (by omega) hn
  have hV2 : Vd S.1 (cN S.1 e 2) := pf_vd (by omega) (nk_10 (hW.ni hV) h10).1
  have ho0 : ([] : List Int32).length ≤ 120 := by decide
  have kk : ∀ {rI9 : Nat → Int32} {rA9 : Nat → Nat → Int32}, MV S rI9 rA9 r → EvP m_M_write (d + 4) 173 [(0, .ref 16), (1, .int e)] [] (HC X cI cA rI9 rA9 ol J) (if r.ov = true then BP X cI cA ol J 0 2 S else BP X cI cA ol J (nI r.O.length) 0 (S.1, r.O, r.E)) := by
    intro rI9 rA9 hd9
    cases hov : r.ov with
    | true => rw [if_pos rfl]; exact M_wr_x hd9 hov
    | false => rw [if_neg (by decide)]; exact M_wr_k hd9 hov (hO hov) (hE hov)
  refine ep_aload_n (j := 0) d_M_write_0 rfl rfl ?_
  refine ep_aload_n (j := 0) d_M_write_1 rfl rfl ?_
  refine ep_iload_n (j := 1) d_M_write_2 rfl rfl ?_
  refine ep_callVi (As := [.int e]) (st := [.ref 16]) d_M_write_3 lk_M_59 cal_M_isNode tm_M_isNode ts_M_isNode rfl rfl rfl (Nat.le_of_ble_eq_true rfl) (Nat.le_of_ble_eq_true rfl) rfl rfl (M_isNode hb.1.1 e) ?_
  rw [if_pos hn]
  refine ep_if_eq (tgt := 13) d_M_write_6 (by decide) (fun z => absurd z (by decide)) (fun _ => ?_)
  refine ep_iconst (v := 0) d_M_write_9 (by decide) ?_
  refine ep_goto (tgt := 14) d_M_write_10 (by decide) ?_
  refine ep_putf' (fi := 0) (h2 := HC X cI cA (upd rI 0 0) rA ol J) d_M_write_14 cl5 lf_M_52 (by decide) (Or.inl rfl) rfl rfl hI_16_0 ?_
  refine ep_aload_n (j := 0) d_M_write_17 rfl rfl ?_
  refine ep_getf (fi := 0) (v := .int 0) d_M_write_18 cl5 lf_M_52 (by decide) rfl rfl ?_
  refine ep_if_le (tgt := 26) d_M_write_21 (by decide) (fun _ => ?_) (fun z => absurd (by decide) z)
  refine ep_aload_n (j := 0) d_M_write_26 rfl rfl ?_
  refine ep_aload_n (j := 0) d_M_write_27 rfl rfl ?_
  refine ep_getf (fi := 3) (v := .ref 17) d_M_write_28 cl5 lf_M_7 (by decide) rfl rfl ?_
  refine ep_iload_n (j := 1) d_M_write_31 rfl rfl ?_
  refine ep_kind (N := S.1) d_M_write_32 hb.1.2 (by omega) hV ?_
  refine ep_bipush (v := 10) d_M_write_33 (by decide) ?_
  refine ep_icmp_ne (tgt := 42) d_M_write_35 (by decide) (fun z => absurd h10 z) (fun _ => ?_)
  refine ep_iconst (v := 0) d_M_write_38 (by decide) ?_
  refine ep_goto (tgt := 43) d_M_write_39 (by decide) ?_
  refine ep_putf' (fi := 0) (h2 := HC X cI cA (upd rI 0 0) rA ol J) d_M_write_43 cl5 lf_M_52 (by decide) (Or.inl rfl) rfl rfl (hI_16_0.trans (congrArg (fun z => HC X cI cA z rA ol J) (upd_upd _ _ _ _))) ?_
  refine ep_aload_n (j := 0) d_M_write_46 rfl rfl ?_
  refine ep_getf (fi := 0) (v := .int 0) d_M_write_47 cl5 lf_M_52 (by decide) rfl rfl ?_
  refine ep_if_le (tgt := 55) d_M_write_50 (by decide) (fun _ => ?_) (fun z => absurd (by decide) z)
  refine ep_aload_n (j := 0) d_M_write_55 rfl rfl ?_
  refine ep_iconst (v := 0) d_M_write_56 (by decide) ?_
  refine ep_putf' (fi := 12) (h2 := HC X cI cA (upd (upd rI 0 0) 12 0) rA ol J) d_M_write_57 cl5 lf_M_102 (by decide) (Or.inl rfl) rfl rfl hI_16_12 ?_
  refine ep_aload_n (j := 0) d_M_write_60 rfl rfl ?_
  refine ep_iconst (v := 0) d_M_write_61 (by decide) ?_
  refine ep_putf' (fi := 13) (h2 := HC X cI cA (upd (upd (upd rI 0 0) 12 0) 13 0) rA ol J) d_M_write_62 cl5 lf_M_98 (by decide) (Or.inl rfl) rfl rfl hI_16_13 ?_
  refine ep_aload_n (j := 0) d_M_write_65 rfl rfl ?_
  refine ep_iconst (v := 0) d_M_write_66 (by decide) ?_
  refine ep_putf' (fi := 16) (h2 := HC X cI cA (upd (upd (upd (upd rI 0 0) 12 0) 13 0) 16 0) rA ol J) d_M_write_67 cl5 lf_M_110 (by decide) (Or.inl rfl) rfl rfl hI_16_16 ?_
  refine ep_aload_n (j := 0) d_M_write_70 rfl rfl ?_
  refine ep_iconst (v := 0) d_M_write_71 (by decide) ?_
  refine ep_putf' (fi := 18) (h2 := HC X cI cA (upd (upd (upd (upd (upd rI 0 0) 12 0) 13 0) 16 0) 18 0) rA ol J) d_M_write_72 cl5 lf_M_120 (by decide) (Or.inl rfl) rfl rfl hI_16_18 ?_
  have hd0 : MV S (upd (upd (upd (upd (upd rI 0 0) 12 0) 13 0) 16 0) 18 0) rA (⟨[], false, [], []⟩ : WM) := ⟨hb, nI_0.symm, rfl, rfl, nI_0.symm, rfl, nI_0.symm, rfl⟩
  generalize (upd (upd (upd (upd (upd rI 0 0) 12 0) 13 0) 16 0) 18 0) = rI0 at hd0 ⊢
  refine ep_aload_n (j := 0) d_M_write_75 rfl rfl ?_
  refine ep_bipush (v := 95) d_M_write_76 (by decide) ?_
  refine ep_callVw2 (As := [.int 95]) (st := []) d_M_write_78 lk_M_105 cal_M_emit tm_M_emit ts_M_emit rfl rfl rfl (Nat.le_of_ble_eq_true rfl) (Nat.le_of_ble_eq_true rfl) rfl rfl (M_emit hd0 ho0 95) (fun rI1 rA1 hd1 => ?_)
  refine ep_aload_n (j := 0) d_M_write_81 rfl rfl ?_
  refine ep_bipush (v := 90) d_M_write_82 (by decide) ?_
  refine ep_callVw2 (As := [.int 90]) (st := []) d_M_write_84 lk_M_105 cal_M_emit tm_M_emit ts_M_emit rfl rfl rfl (Nat.le_of_ble_eq_true rfl) (Nat.le_of_ble_eq_true rfl) rfl rfl (M_emit hd1 (eM_o ho0) 90) (fun rI2 rA2 hd2 => ?_)
  refine ep_aload_n (j := 0) d_M_write_87 rfl rfl ?_
  refine ep_bipush (v := 6) d_M_write_88 (by decide) ?_
  refine ep_iload_n (j := 1) d_M_write_90 rfl rfl ?_
  refine ep_callVw2 (As := [.int 6, .int e]) (st := []) d_M_write_91 lk_M_123 cal_M_push tm_M_push ts_M_push rfl rfl rfl (Nat.le_of_ble_eq_true rfl) (Nat.le_of_ble_eq_true rfl) rfl rfl (M_pushW hd2 (Nat.lt_of_le_of_lt (Nat.le_of_eq ((congrArg List.length eM_K.1).trans ((congrArg List.length eM_K.1).trans rfl))) (by decide)) 6 e) (fun rI3 rA3 hd3 => ?_)
  refine ep_aload_n (j := 0) d_M_write_94 rfl rfl ?_
  refine ep_getf (fi := 6) (v := .ref 20) d_M_write_95 cl5 lf_M_19 (by decide) rfl rfl ?_
  refine ep_iload_n (j := 1) d_M_write_98 rfl rfl ?_
  refine ep_gvs (N := S.1) d_M_write_99 hd3.b.1.2 (by omega) hV ?_
  refine ep_if_lt (tgt := 114) d_M_write_100 (by decide) (fun c100 => ?_) (fun c100 => ?_)
  · refine ep_aload_n (j := 0) d_M_write_114 rfl rfl ?_
    refine ep_aload_n (j := 0) d_M_write_115 rfl rfl ?_
    refine ep_getf (fi := 5) (v := .ref 19) d_M_write_116 cl5 lf_M_16 (by decide) rfl rfl ?_
    refine ep_iload_n (j := 1) d_M_write_119 rfl rfl ?_
    refine ep_fst (N := S.1) d_M_write_120 hd3.b.1.2 (by omega) hV ?_
    refine ep_callVw2 (As := [.int (cN S.1 e 2)]) (st := []) d_M_write_121 lk_M_151 cal_M_plain tm_M_plain ts_M_plain rfl rfl rfl (Nat.le_of_ble_eq_true rfl) (Nat.le_of_ble_eq_true rfl) rfl rfl (M_plain hd3 (eM_o (eM_o ho0)) (Nat.le_trans (Nat.le_of_eq (congrArg (· + 1) ((congrArg List.length eM_K.1).trans ((congrArg List.length eM_K.1).trans rfl)))) (by decide)) hl (cN S.1 e 2) hV2 hW) (fun rI4 rA4 hd4 => ?_)
    have eS : stE S.1 e = plM S.1 (cN S.1 e 2) (pS 6 e (eM 90 (eM 95 (⟨[], false, [], []⟩ : WM)))) := by unfold stE pP1; rw [if_neg (Int32.not_le.mpr c100)]
    rw [eS] at h
    exact M_wl hW hl h hd4 (fun rI9 rA9 hd9 => kk hd9)
  · refine ep_aload_n (j := 0) d_M_write_103 rfl rfl ?_
    refine ep_iconst (v := 0) d_M_write_104 (by decide) ?_
    refine ep_aload_n (j := 0) d_M_write_105 rfl rfl ?_
    refine ep_getf (fi := 6) (v := .ref 20) d_M_write_106 cl5 lf_M_19 (by decide) rfl rfl ?_
    refine ep_iload_n (j := 1) d_M_write_109 rfl rfl ?_
    refine ep_gvs (N := S.1) d_M_write_110 hd3.b.1.2 (by omega) hV ?_
    refine ep_callVw2 (As := [.int 0, .int (cN S.1 e 3)]) (st := []) d_M_write_111 lk_M_123 cal_M_push tm_M_push ts_M_push rfl rfl rfl (Nat.le_of_ble_eq_true rfl) (Nat.le_of_ble_eq_true rfl) rfl rfl (M_pushW hd3 (Nat.lt_of_le_of_lt (Nat.le_of_eq (congrArg (· + 1) ((congrArg List.length eM_K.1).trans ((congrArg List.length eM_K.1).trans rfl)))) (by decide)) 0 (cN S.1 e 3)) (fun rI5 rA5 hd5 => ?_)
    refine ep_aload_n (j := 0) d_M_write_114 rfl rfl ?_
    refine ep_aload_n (j := 0) d_M_write_115 rfl rfl ?_
    refine ep_getf (fi := 5) (v := .ref 19) d_M_write_116 cl5 lf_M_16 (by decide) rfl rfl ?_
    refine ep_iload_n (j := 1) d_M_write_119 rfl rfl ?_
    refine ep_fst (N := S.1) d_M_write_120 hd5.b.1.2 (by omega) hV ?_
    refine ep_callVw2 (As := [.int (cN S.1 e 2)]) (st := []) d_M_write_121 lk_M_151 cal_M_plain tm_M_plain ts_M_plain rfl rfl rfl (Nat.le_of_ble_eq_true rfl) (Nat.le_of_ble_eq_true rfl) rfl rfl (M_plain hd5 (eM_o (eM_o ho0)) (Nat.le_trans (Nat.le_of_eq (congrArg (· + 1) (congrArg (· + 1) ((congrArg List.length eM_K.1).trans ((congrArg List.length eM_K.1).trans rfl))))) (by decide)) hl (cN S.1 e 2) hV2 hW) (fun rI6 rA6 hd6 => ?_)
    have eS : stE S.1 e = plM S.1 (cN S.1 e 2) (pS 0 (cN S.1 e 3) (pS 6 e (eM 90 (eM 95 (⟨[], false, [], []⟩ : WM))))) := by unfold stE pP1; rw [if_pos (Int32.not_lt.mp c100)]
    rw [eS] at h
    exact M_wl hW hl h hd6 (fun rI9 rA9 hd9 => kk hd9)
end MWE
