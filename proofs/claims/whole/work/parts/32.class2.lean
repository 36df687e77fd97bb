/-! the class: the rest of its own methods; by program (wip/whole/gen32.py) -/
section CM
variable {d : Nat} {X : Nat × (Nat → Int32)} {cI : Nat → Int32} {cA : Nat → Nat → Int32} {rI : Nat → Int32} {rA : Nat → Nat → Int32} {ol : Int64} {J : mH} {S : CSt}
theorem rowL_take {f : Nat → Int32} {n m : Nat} (h : n ≤ m) : (rowL f m).take n = rowL f n := by
  unfold rowL
  rw [← List.map_take, List.take_range, show min n m = n from by omega]
theorem rowL_cpy {f g : Nat → Int32} {n : Nat} (h : n ≤ 120) : rowL (va_cpy g f 0 0 120) n = rowL g n := rowL_cg fun j hj => by
  show (if 0 ≤ j ∧ j < 0 + 120 then g (0 + (j - 0)) else f j) = g j
  rw [if_pos ⟨Nat.zero_le _, by omega⟩, Nat.zero_add, Nat.sub_zero]
theorem Rw.pre {cI : Nat → Int32} {cA : Nat → Nat → Int32} {k a : Nat} {T U : List Int32} (h : Rw cI cA k a T) (hp : U <+: T) : U = rowL (cA a) U.length := by
  have e : U = T.take U.length := by obtain ⟨t, rfl⟩ := hp; rw [List.take_left]
  have e2 : T.take U.length = (rowL (cA a) T.length).take U.length := congrArg (fun z : List Int32 => z.take U.length) h.2.2
  exact e.trans (e2.trans (rowL_take hp.length_le))
theorem CX_o (h : Rw cI cA 2 1 S.2.1) : (HC X cI cA rI rA ol J)[4]? = some (mO 2 [.ref 5, .int (nI S.2.1.length)]) := by rw [← h.1]; rfl
theorem CX_at (h : Rw cI cA 2 1 S.2.1) (i : Int32) : EvP m_W_at d 0 [(0, .ref 4), (1, .int i)] [] (HC X cI cA rI rA ol J) (Ri (tat S.2.1 i) (HC X cI cA rI rA ol J)) := by
  have e : tat S.2.1 i = rwAt (cA 1) S.2.1.length i := by rw [rwAt_L (by have := h.2.1; omega)]; exact congrArg (fun z => tat z i) h.2.2
  rw [e]
  exact w_at (CX_o h) rfl (by decide) h.2.1 i
theorem CX_size (h : Rw cI cA 2 1 S.2.1) : EvP m_W_size d 0 [(0, .ref 4)] [] (HC X cI cA rI rA ol J) (Ri (nI S.2.1.length) (HC X cI cA rI rA ol J)) := w_size (CX_o h) (show (HC X cI cA rI rA ol J)[5]? = some (mA 120 (cA 1)) from rfl) (by decide) h.2.1
theorem CX_cut (h : Rw cI cA 2 1 S.2.1) {k : Nat} (hk : k ≤ S.2.1.length) : EvP m_W_cut d 0 [(0, .ref 4), (1, .int (nI k))] [] (HC X cI cA rI rA ol J) (Rv (HC X (upd cI 2 (nI k)) cA rI rA ol J)) := w_cut (CX_o h) (show (HC X cI cA rI rA ol J)[5]? = some (mA 120 (cA 1)) from rfl) (by decide) h.2.1 hk
theorem CX_add (h : Rw cI cA 2 1 S.2.1) (hl : S.2.1.length < 120) (x : Int32) : EvP m_W_add d 0 [(0, .ref 4), (1, .int x)] [] (HC X cI cA rI rA ol J) (Ri 1 (HC X (upd cI 2 (nI (S.2.1.length + 1))) (va_up cA 1 (upd (cA 1) S.2.1.length x)) rI rA ol J)) := w_add (CX_o h) (show (HC X cI cA rI rA ol J)[5]? = some (mA 120 (cA 1)) from rfl) (by decide) h.2.1 hl x
theorem CX_add_no (h : Rw cI cA 2 1 S.2.1) (hl : ¬ S.2.1.length < 120) (x : Int32) : EvP m_W_add d 0 [(0, .ref 4), (1, .int x)] [] (HC X cI cA rI rA ol J) (Ri 0 (HC X cI cA rI rA ol J)) := w_add_no (CX_o h) (show (HC X cI cA rI rA ol J)[5]? = some (mA 120 (cA 1)) from rfl) (by decide) h.2.1 (by have := h.2.1; omega) x
theorem CT_o (h : Rw cI cA 3 2 S.2.2) : (HC X cI cA rI rA ol J)[6]? = some (mO 2 [.ref 7, .int (nI S.2.2.length)]) := by rw [← h.1]; rfl
theorem CT_at (h : Rw cI cA 3 2 S.2.2) (i : Int32) : EvP m_W_at d 0 [(0, .ref 6), (1, .int i)] [] (HC X cI cA rI rA ol J) (Ri (tat S.2.2 i) (HC X cI cA rI rA ol J)) := by
  have e : tat S.2.2 i = rwAt (cA 2) S.2.2.length i := by rw [rwAt_L (by have := h.2.1; omega)]; exact congrArg (fun z => tat z i) h.2.2
  rw [e]
  exact w_at (CT_o h) rfl (by decide) h.2.1 i
theorem CT_size (h : Rw cI cA 3 2 S.2.2) : EvP m_W_size d 0 [(0, .ref 6)] [] (HC X cI cA rI rA ol J) (Ri (nI S.2.2.length) (HC X cI cA rI rA ol J)) := w_size (CT_o h) (show (HC X cI cA rI rA ol J)[7]? = some (mA 120 (cA 2)) from rfl) (by decide) h.2.1
/-- the text takes the writer's letters, the table its table or the reader's -/
theorem CX_take (h : Rw cI cA 2 1 S.2.1) {U : List Int32} (hU : Rw cI cA 4 3 U) : EvP m_W_take d 0 [(0, .ref 4), (1, .ref 9)] [] (HC X cI cA rI rA ol J) (Rv (HC X (upd cI 2 (nI U.length)) (va_up cA 1 (va_cpy (cA 3) (cA 1) 0 0 120)) rI rA ol J)) := by
  have ho : (HC X cI cA rI rA ol J)[9]? = some (mO 2 [.ref 10, .int (nI U.length)]) := by rw [← hU.1]; rfl
  exact w_take (CX_o h) (show (HC X cI cA rI rA ol J)[5]? = some (mA 120 (cA 1)) from rfl) (by decide) h.2.1 ho (show (HC X cI cA rI rA ol J)[10]? = some (mA 120 (cA 3)) from rfl) (by decide)
theorem CT_takeW (h : Rw cI cA 3 2 S.2.2) {U : List Int32} (hU : Rw cI cA 5 4 U) : EvP m_W_take d 0 [(0, .ref 6), (1, .ref 11)] [] (HC X cI cA rI rA ol J) (Rv (HC X (upd cI 3 (nI U.length)) (va_up cA 2 (va_cpy (cA 4) (cA 2) 0 0 120)) rI rA ol J)) := by
  have ho : (HC X cI cA rI rA ol J)[11]? = some (mO 2 [.ref 12, .int (nI U.length)]) := by rw [← hU.1]; rfl
  exact w_take (CT_o h) (show (HC X cI cA rI rA ol J)[7]? = some (mA 120 (cA 2)) from rfl) (by decide) h.2.1 ho (show (HC X cI cA rI rA ol J)[12]? = some (mA 120 (cA 4)) from rfl) (by decide)
theorem CT_takeR (h : Rw cI cA 3 2 S.2.2) {U : List Int32} (hU : Rw cI cA 6 5 U) : EvP m_W_take d 0 [(0, .ref 6), (1, .ref 14)] [] (HC X cI cA rI rA ol J) (Rv (HC X (upd cI 3 (nI U.length)) (va_up cA 2 (va_cpy (cA 5) (cA 2) 0 0 120)) rI rA ol J)) := by
  have ho : (HC X cI cA rI rA ol J)[14]? = some (mO 2 [.ref 15, .int (nI U.length)]) := by rw [← hU.1]; rfl
  exact w_take (CT_o h) (show (HC X cI cA rI rA ol J)[7]? = some (mA 120 (cA 2)) from rfl) (by decide) h.2.1 ho (show (HC X cI cA rI rA ol J)[15]? = some (mA 120 (cA 5)) from rfl) (by decide)
theorem CC.tx (h : CC cI cA S) {U : List Int32} (hU : Rw cI cA 4 3 U) : CC (upd cI 2 (nI U.length)) (va_up cA 1 (va_cpy (cA 3) (cA 1) 0 0 120)) (S.1, U, S.2.2) := ⟨h.1, ⟨rfl, hU.2.1, hU.2.2.trans (rowL_cpy hU.2.1).symm⟩, h.2.2.1, h.2.2.2⟩
theorem CC.tw (h : CC cI cA S) {U : List Int32} (hU : Rw cI cA 5 4 U) : CC (upd cI 3 (nI U.length)) (va_up cA 2 (va_cpy (cA 4) (cA 2) 0 0 120)) (S.1, S.2.1, U) := ⟨h.1, h.2.1, ⟨rfl, hU.2.1, hU.2.2.trans (rowL_cpy hU.2.1).symm⟩, h.2.2.2⟩
theorem CC.tr (h : CC cI cA S) {U : List Int32} (hU : Rw cI cA 6 5 U) : CC (upd cI 3 (nI U.length)) (va_up cA 2 (va_cpy (cA 5) (cA 2) 0 0 120)) (S.1, S.2.1, U) := ⟨h.1, h.2.1, ⟨rfl, hU.2.1, hU.2.2.trans (rowL_cpy hU.2.1).symm⟩, h.2.2.2⟩
theorem CC.cut (h : CC cI cA S) {U : List Int32} (hp : U <+: S.2.1) : CC (upd cI 2 (nI U.length)) cA (S.1, U, S.2.2) := ⟨h.1, ⟨rfl, Nat.le_trans hp.length_le h.2.1.2.1, h.2.1.pre hp⟩, h.2.2⟩
theorem CC.add (h : CC cI cA S) (hl : S.2.1.length < 120) (x : Int32) : CC (upd cI 2 (nI (S.2.1.length + 1))) (va_up cA 1 (upd (cA 1) S.2.1.length x)) (S.1, S.2.1 ++ [x], S.2.2) := by
  refine ⟨h.1, ⟨?_, ?_, ?_⟩, h.2.2⟩
  · show nI (S.2.1.length + 1) = nI (S.2.1 ++ [x]).length
    rw [List.length_append]; rfl
  · show (S.2.1 ++ [x]).length ≤ 120
    rw [List.length_append]; exact hl
  · show S.2.1 ++ [x] = rowL (upd (cA 1) S.2.1.length x) (S.2.1 ++ [x]).length
    rw [List.length_append]
    show _ = rowL (upd (cA 1) S.2.1.length x) (S.2.1.length + 1)
    rw [rowL_upd]
    exact congrArg (· ++ [x]) h.2.1.2.2
theorem CC.fr3 {cI' : Nat → Int32} {cA' : Nat → Nat → Int32} {N : List (List Int32)} {w : WS} (h : CC cI cA S) (F : Fr3 cI cA cI' cA') (hw : CW cI' cA' N w) : CC cI' cA' S :=
  ⟨⟨(F.1 0 (by decide) (by decide)).trans h.1.1, h.1.2.1, by rw [F.2 0 (by decide) (by decide)]; exact h.1.2.2⟩, h.2.1.cg (F.1 2 (by decide) (by decide)) (F.2 1 (by decide) (by decide)), h.2.2.1.cg (F.1 3 (by decide) (by decide)) (F.2 2 (by decide) (by decide)), ⟨w.1, hw.2.1⟩, ⟨w.2, hw.2.2⟩, h.2.2.2.2.2.imp fun U hU => hU.cg (F.1 6 (by decide) (by decide)) (F.2 5 (by decide) (by decide))⟩
theorem CC.fr2 {cI' : Nat → Int32} {cA' : Nat → Nat → Int32} {L : List Int32} {s : RS} (h : CC cI cA S) (F : Fr2 cI cA cI' cA') (hr : CR cI' cA' L S.1 s) : CC cI' cA' S :=
  ⟨⟨(F.1 0 (by decide) (by decide) (by decide)).trans h.1.1, h.1.2.1, ndL_pre hr.2.1 hr.1.2.2⟩, h.2.1.cg (F.1 2 (by decide) (by decide) (by decide)) (F.2 1 (by decide) (by decide)), h.2.2.1.cg (F.1 3 (by decide) (by decide) (by decide)) (F.2 2 (by decide) (by decide)), h.2.2.2.1.imp fun U hU => hU.cg (F.1 4 (by decide) (by decide) (by decide)) (F.2 3 (by decide) (by decide)), h.2.2.2.2.1.imp fun U hU => hU.cg (F.1 5 (by decide) (by decide) (by decide)) (F.2 4 (by decide) (by decide)), ⟨s.2.1, hr.2.2.2.1⟩⟩
theorem CC.keepR {cI' : Nat → Int32} {cA' : Nat → Nat → Int32} {L : List Int32} {s : RS} (h : CC cI cA S) (F : Fr2 cI cA cI' cA') (hr : CR cI' cA' L S.1 s) (hl : s.1.length ≤ 60) : CC (upd cI' 0 (cI' 1)) cA' (s.1, S.2) :=
  ⟨⟨hr.1.1, hl, hr.1.2.2⟩, (h.fr2 F hr).2.1, (h.fr2 F hr).2.2.1, (h.fr2 F hr).2.2.2⟩
theorem cell_of (h : CC cI cA S) (x w : Int32) : cellF (cA 0) S.1.length x w = cOf S x w := by
  have hN := h.drop
  unfold cOf
  by_cases q : 0 ≤ w ∧ w < 8
  · rw [if_pos q]
    obtain ⟨v, hv, rfl⟩ := nI_of' q.1
    have hv8 : v < 8 := by have := q.2; rw [nI_8, nI_ltI hv (by omega)] at this; exact this
    rw [nI_clamp hv]
    exact cellF_N hN x rfl hv8
  · rw [if_neg q]
    unfold cellF
    rw [if_neg (fun u => q u.2)]
set_option maxHeartbeats 4000000 in
set_option maxRecDepth 100000 in
theorem N_of (hc : CC cI cA S) (x w : Int32) : EvP m_N_of (d + 1) 0 [(0, .ref 1), (1, .int x), (2, .int w)] [] (HC X cI cA rI rA ol J) (CP X rI rA ol J S (.inr (cOf S x w, S))) := by
  refine ep_aload_n (j := 0) d_N_of_0 rfl rfl ?_
  refine ep_getf (fi := 0) (v := .ref 2) d_N_of_1 cl4 lf_N_13 (by decide) rfl rfl ?_
  refine ep_callVv (As := []) (st := []) d_N_of_4 lk_N_44 cal_D_dropDrafts tm_D_dropDrafts ts_D_dropDrafts rfl rfl rfl (Nat.le_of_ble_eq_true rfl) (Nat.le_of_ble_eq_true rfl) rfl rfl D_dropDrafts ?_
  refine ep_aload_n (j := 0) d_N_of_7 rfl rfl ?_
  refine ep_getf (fi := 0) (v := .ref 2) d_N_of_8 cl4 lf_N_13 (by decide) rfl rfl ?_
  refine ep_iload_n (j := 1) d_N_of_11 rfl rfl ?_
  refine ep_iload_n (j := 2) d_N_of_12 rfl rfl ?_
  refine ep_callVi (As := [.int x, .int w]) (st := []) d_N_of_13 lk_N_81 cal_D_cell tm_D_cell ts_D_cell rfl rfl rfl (Nat.le_of_ble_eq_true rfl) (Nat.le_of_ble_eq_true rfl) rfl rfl (D_cell (D := S.1.length) hc.1.1 (by have := hc.1.2.1; omega) x w) ?_
  rw [cell_of hc]
  exact ep_iret d_N_of_16 rfl rfl (CP_ok (f := fun q : Int32 × CSt => some (.int q.1)) (q := (cOf S x w, S)) rfl hc)
set_option maxHeartbeats 4000000 in
set_option maxRecDepth 100000 in
theorem N_text (hc : CC cI cA S) (i : Int32) : EvP m_N_text (d + 1) 0 [(0, .ref 1), (1, .int i)] [] (HC X cI cA rI rA ol J) (CP X rI rA ol J S (.inr (tat S.2.1 i, S))) := by
  refine ep_aload_n (j := 0) d_N_text_0 rfl rfl ?_
  refine ep_getf (fi := 1) (v := .ref 4) d_N_text_1 cl4 lf_N_19 (by decide) rfl rfl ?_
  refine ep_iload_n (j := 1) d_N_text_4 rfl rfl ?_
  refine ep_callVi (As := [.int i]) (st := []) d_N_text_5 lk_N_122 cal_W_at tm_W_at ts_W_at rfl rfl rfl (Nat.le_of_ble_eq_true rfl) (Nat.le_of_ble_eq_true rfl) rfl rfl (CX_at (S := S) hc.2.1 i) ?_
  exact ep_iret d_N_text_8 rfl rfl (CP_ok (f := fun q : Int32 × CSt => some (.int q.1)) (q := (tat S.2.1 i, S)) rfl hc)
set_option maxHeartbeats 4000000 in
set_option maxRecDepth 100000 in
theorem N_table (hc : CC cI cA S) (i : Int32) : EvP m_N_table (d + 1) 0 [(0, .ref 1), (1, .int i)] [] (HC X cI cA rI rA ol J) (CP X rI rA ol J S (.inr (tat S.2.2 i, S))) := by
  refine ep_aload_n (j := 0) d_N_table_0 rfl rfl ?_
  refine ep_getf (fi := 2) (v := .ref 6) d_N_table_1 cl4 lf_N_23 (by decide) rfl rfl ?_
  refine ep_iload_n (j := 1) d_N_table_4 rfl rfl ?_
  refine ep_callVi (As := [.int i]) (st := []) d_N_table_5 lk_N_122 cal_W_at tm_W_at ts_W_at rfl rfl rfl (Nat.le_of_ble_eq_true rfl) (Nat.le_of_ble_eq_true rfl) rfl rfl (CT_at (S := S) hc.2.2.1 i) ?_
  exact ep_iret d_N_table_8 rfl rfl (CP_ok (f := fun q : Int32 × CSt => some (.int q.1)) (q := (tat S.2.2 i, S)) rfl hc)
theorem lk_cases (i : Int32) : i = 0 ∨ i = 1 ∨ i = 2 ∨ ((i.toInt < 0 ∨ 2 < i.toInt) ∧ ¬ i = 0 ∧ ¬ i = 1 ∧ ¬ i = 2) := by
  by_cases h0 : i.toInt = 0
  · exact Or.inl (Int32.toInt_inj.mp (h0.trans (by decide)))
  by_cases h1 : i.toInt = 1
  · exact Or.inr (Or.inl (Int32.toInt_inj.mp (h1.trans (by decide))))
  by_cases h2 : i.toInt = 2
  · exact Or.inr (Or.inr (Or.inl (Int32.toInt_inj.mp (h2.trans (by decide)))))
  refine Or.inr (Or.inr (Or.inr ⟨by omega, fun e => h0 (by rw [e]; decide), fun e => h1 (by rw [e]; decide), fun e => h2 (by rw [e]; decide)⟩))
set_option maxHeartbeats 4000000 in
set_option maxRecDepth 100000 in
theorem N_look (hc : CC cI cA S) (i : Int32) : EvP m_N_look (d + 1) 0 [(0, .ref 1), (1, .int i)] [] (HC X cI cA rI rA ol J) (CP X rI rA ol J S (.inr (cLook S i, S))) := by
  refine ep_iload_n (j := 1) d_N_look_0 rfl rfl ?_
  rcases lk_cases i with c | c | c | c
  · refine ep_tsIn (tgt := 28) (off := 27) d_N_look_1 (by rw [c]; decide) (by rw [c]; decide) (by rw [c]; decide) (by decide) ?_
    refine ep_aload_n (j := 0) d_N_look_28 rfl rfl ?_
    refine ep_getf (fi := 0) (v := .ref 2) d_N_look_29 cl4 lf_N_13 (by decide) rfl rfl ?_
    refine ep_callVi (As := []) (st := []) d_N_look_32 lk_N_129 cal_D_kept tm_D_kept ts_D_kept rfl rfl rfl (Nat.le_of_ble_eq_true rfl) (Nat.le_of_ble_eq_true rfl) rfl rfl D_kept ?_
    rw [hc.1.1]
    exact ep_iret d_N_look_35 rfl rfl (CP_ok (f := fun q : Int32 × CSt => some (.int q.1)) (q := (nI S.1.length, S)) (by simp [cLook, c]) hc)
  · refine ep_tsIn (tgt := 36) (off := 35) d_N_look_1 (by rw [c]; decide) (by rw [c]; decide) (by rw [c]; decide) (by decide) ?_
    refine ep_aload_n (j := 0) d_N_look_36 rfl rfl ?_
    refine ep_getf (fi := 1) (v := .ref 4) d_N_look_37 cl4 lf_N_19 (by decide) rfl rfl ?_
    refine ep_callVi (As := []) (st := []) d_N_look_40 lk_N_108 cal_W_size tm_W_size ts_W_size rfl rfl rfl (Nat.le_of_ble_eq_true rfl) (Nat.le_of_ble_eq_true rfl) rfl rfl (CX_size (S := S) hc.2.1) ?_
    exact ep_iret d_N_look_43 rfl rfl (CP_ok (f := fun q : Int32 × CSt => some (.int q.1)) (q := (nI S.2.1.length, S)) (by simp [cLook, c]) hc)
  · refine ep_tsIn (tgt := 44) (off := 43) d_N_look_1 (by rw [c]; decide) (by rw [c]; decide) (by rw [c]; decide) (by decide) ?_
    refine ep_aload_n (j := 0) d_N_look_44 rfl rfl ?_
    refine ep_getf (fi := 2) (v := .ref 6) d_N_look_45 cl4 lf_N_23 (by decide) rfl rfl ?_
    refine ep_callVi (As := []) (st := []) d_N_look_48 lk_N_108 cal_W_size tm_W_size ts_W_size rfl rfl rfl (Nat.le_of_ble_eq_true rfl) (Nat.le_of_ble_eq_true rfl) rfl rfl (CT_size (S := S) hc.2.2.1) ?_
    exact ep_iret d_N_look_51 rfl rfl (CP_ok (f := fun q : Int32 × CSt => some (.int q.1)) (q := (nI S.2.2.length, S)) (by simp [cLook, c]) hc)
  · refine ep_tsOut (tgt := 52) d_N_look_1 c.1 (by decide) ?_
    refine ep_iconst (v := (-1)) d_N_look_52 (by decide) ?_
    exact ep_iret d_N_look_53 rfl rfl (CP_ok (f := fun q : Int32 × CSt => some (.int q.1)) (q := ((-1), S)) (by simp [cLook, c]) hc)
set_option maxHeartbeats 4000000 in
set_option maxRecDepth 100000 in
theorem N_wipe (hc : CC cI cA S) : EvP m_N_wipe (d + 1) 0 [(0, .ref 1)] [] (HC X cI cA rI rA ol J) (CPu X rI rA ol J S (.inr (S.1, [], S.2.2))) := by
  refine ep_aload_n (j := 0) d_N_wipe_0 rfl rfl ?_
  refine ep_getf (fi := 1) (v := .ref 4) d_N_wipe_1 cl4 lf_N_19 (by decide) rfl rfl ?_
  refine ep_iconst (v := 0) d_N_wipe_4 (by decide) ?_
  refine ep_cg (y := nI 0) nI_0.symm ?_
  refine ep_callVv (As := [.int (nI 0)]) (st := []) d_N_wipe_5 lk_N_119 cal_W_cut tm_W_cut ts_W_cut rfl rfl rfl (Nat.le_of_ble_eq_true rfl) (Nat.le_of_ble_eq_true rfl) rfl rfl (CX_cut (S := S) hc.2.1 (k := 0) (Nat.zero_le _)) ?_
  exact ep_vret d_N_wipe_8 rfl (CP_ok (f := fun _ : CSt => none) (q := (S.1, [], S.2.2)) rfl (hc.cut (U := []) (List.nil_prefix)))
set_option maxHeartbeats 4000000 in
set_option maxRecDepth 100000 in
theorem N_write (hc : CC cI cA S) (e : Int32) : EvP m_N_write (d + 81) 0 [(0, .ref 1), (1, .int e)] [] (HC X cI cA rI rA ol J) (CP X rI rA ol J S (cWrite S e)) := by
  obtain ⟨U4, r4⟩ := hc.2.2.2.1
  obtain ⟨U5, r5⟩ := hc.2.2.2.2.1
  have h4 : upd cI 1 (cI 0) 4 = nI U4.length := r4.1
  have hn := r4.2.1
  have h5 : upd cI 1 (cI 0) 5 = nI U5.length := r5.1
  have hm := r5.2.1
  have hc1 : CC (upd cI 1 (cI 0)) cA S := hc
  refine ep_aload_n (j := 0) d_N_write_0 rfl rfl ?_
  refine ep_getf (fi := 0) (v := .ref 2) d_N_write_1 cl4 lf_N_13 (by decide) rfl rfl ?_
  refine ep_callVv (As := []) (st := []) d_N_write_4 lk_N_44 cal_D_dropDrafts tm_D_dropDrafts ts_D_dropDrafts rfl rfl rfl (Nat.le_of_ble_eq_true rfl) (Nat.le_of_ble_eq_true rfl) rfl rfl D_dropDrafts ?_
  refine ep_aload_n (j := 0) d_N_write_7 rfl rfl ?_
  refine ep_getf (fi := 0) (v := .ref 2) d_N_write_8 cl4 lf_N_13 (by decide) rfl rfl ?_
  refine ep_iload_n (j := 1) d_N_write_11 rfl rfl ?_
  refine ep_callVi (As := [.int e]) (st := []) d_N_write_12 lk_N_84 cal_D_kindOf tm_D_kindOf ts_D_kindOf rfl rfl rfl (Nat.le_of_ble_eq_true rfl) (Nat.le_of_ble_eq_true rfl) rfl rfl (D_kindN hc.drop e) ?_
  refine ep_bipush (v := 10) d_N_write_15 (by decide) ?_
  refine ep_icmp_eq (tgt := 30) d_N_write_17 (by decide) (fun c17 => ?_) (fun c17 => ?_)
  · refine ep_aload_n (j := 0) d_N_write_30 rfl rfl ?_
    refine ep_getf (fi := 3) (v := .ref 8) d_N_write_31 cl4 lf_N_31 (by decide) rfl rfl ?_
    refine ep_iload_n (j := 1) d_N_write_34 rfl rfl ?_
    refine ep_callVw (As := [.int e]) (st := []) d_N_write_35 lk_N_94 cal_P_putEntity tm_P_putEntity ts_P_putEntity rfl rfl rfl (Nat.le_of_ble_eq_true rfl) (Nat.le_of_ble_eq_true rfl) rfl rfl (P_putEntity hc.drop h4 hn h5 hm e) (fun q cI1 cA1 e1 hw hF => ?_) (fun k cI1 cA1 s1 e1 hw hF => CP_x (by unfold cWrite; rw [if_pos c17, e1]; rfl) (hc1.fr3 hF hw))
    have hc2 := hc1.fr3 hF hw
    have hc3 : CC (upd cI1 2 (nI q.1.length)) (va_up cA1 1 (va_cpy (cA1 3) (cA1 1) 0 0 120)) (S.1, q.1, S.2.2) := hc2.tx hw.2.1
    have hc4 : CC (upd (upd cI1 2 (nI q.1.length)) 3 (nI q.2.length)) (va_up (va_up cA1 1 (va_cpy (cA1 3) (cA1 1) 0 0 120)) 2 (va_cpy (cA1 4) (cA1 2) 0 0 120)) (S.1, q.1, q.2) := hc3.tw (U := q.2) hw.2.2
    refine ep_aload_n (j := 0) d_N_write_38 rfl rfl ?_
    refine ep_getf (fi := 1) (v := .ref 4) d_N_write_39 cl4 lf_N_19 (by decide) rfl rfl ?_
    refine ep_aload_n (j := 0) d_N_write_42 rfl rfl ?_
    refine ep_getf (fi := 3) (v := .ref 8) d_N_write_43 cl4 lf_N_31 (by decide) rfl rfl ?_
    refine ep_getf (fi := 0) (v := .ref 9) d_N_write_46 cl3 lf_N_98 (by decide) rfl rfl ?_
    refine ep_callVv (As := [.ref 9]) (st := []) d_N_write_49 lk_N_101 cal_W_take tm_W_take ts_W_take rfl rfl rfl (Nat.le_of_ble_eq_true rfl) (Nat.le_of_ble_eq_true rfl) rfl rfl (CX_take (S := S) hc2.2.1 hw.2.1) ?_
    refine ep_aload_n (j := 0) d_N_write_52 rfl rfl ?_
    refine ep_getf (fi := 2) (v := .ref 6) d_N_write_53 cl4 lf_N_23 (by decide) rfl rfl ?_
    refine ep_aload_n (j := 0) d_N_write_56 rfl rfl ?_
    refine ep_getf (fi := 3) (v := .ref 8) d_N_write_57 cl4 lf_N_31 (by decide) rfl rfl ?_
    refine ep_getf (fi := 1) (v := .ref 11) d_N_write_60 cl3 lf_N_105 (by decide) rfl rfl ?_
    refine ep_callVv (As := [.ref 11]) (st := []) d_N_write_63 lk_N_101 cal_W_take tm_W_take ts_W_take rfl rfl rfl (Nat.le_of_ble_eq_true rfl) (Nat.le_of_ble_eq_true rfl) rfl rfl (CT_takeW (S := (S.1, q.1, S.2.2)) hc3.2.2.1 hw.2.2) ?_
    refine ep_aload_n (j := 0) d_N_write_66 rfl rfl ?_
    refine ep_getf (fi := 1) (v := .ref 4) d_N_write_67 cl4 lf_N_19 (by decide) rfl rfl ?_
    refine ep_callVi (As := []) (st := []) d_N_write_70 lk_N_108 cal_W_size tm_W_size ts_W_size rfl rfl rfl (Nat.le_of_ble_eq_true rfl) (Nat.le_of_ble_eq_true rfl) rfl rfl (CX_size (S := (S.1, q.1, q.2)) hc4.2.1) ?_
    exact ep_iret d_N_write_73 rfl rfl (CP_ok (f := fun q : Int32 × CSt => some (.int q.1)) (q := (nI q.1.length, S.1, q.1, q.2)) (by unfold cWrite; rw [if_pos c17, e1]; rfl) hc4)
  · exact ep_throw 0 d_N_write_20 d_N_write_23 d_N_write_24 d_N_write_26 d_N_write_29 lc_N_87 ti_java_lang_IllegalArgumentException (i := 18) (tx := "no such ENTITY") (by decide +kernel) at_N_91 (by decide +kernel) (Nat.zero_lt_succ _) (Nat.le_of_ble_eq_true rfl) rfl (CP_x (by unfold cWrite; rw [if_neg c17]) hc1)
set_option maxHeartbeats 4000000 in
set_option maxRecDepth 100000 in
theorem N_read (hc : CC cI cA S) : EvP m_N_read (d + 131) 0 [(0, .ref 1)] [] (HC X cI cA rI rA ol J) (CP X rI rA ol J S (cRead S)) := by
  obtain ⟨U6, r6⟩ := hc.2.2.2.2.2
  have h6 : upd cI 1 (cI 0) 6 = nI U6.length := r6.1
  have hn := r6.2.1
  have hc1 : CC (upd cI 1 (cI 0)) cA S := hc
  refine ep_aload_n (j := 0) d_N_read_0 rfl rfl ?_
  refine ep_getf (fi := 0) (v := .ref 2) d_N_read_1 cl4 lf_N_13 (by decide) rfl rfl ?_
  refine ep_callVv (As := []) (st := []) d_N_read_4 lk_N_44 cal_D_dropDrafts tm_D_dropDrafts ts_D_dropDrafts rfl rfl rfl (Nat.le_of_ble_eq_true rfl) (Nat.le_of_ble_eq_true rfl) rfl rfl D_dropDrafts ?_
  refine ep_aload_n (j := 0) d_N_read_7 rfl rfl ?_
  refine ep_getf (fi := 0) (v := .ref 2) d_N_read_8 cl4 lf_N_13 (by decide) rfl rfl ?_
  refine ep_aload_n (j := 0) d_N_read_11 rfl rfl ?_
  refine ep_getf (fi := 4) (v := .ref 13) d_N_read_12 cl4 lf_N_40 (by decide) rfl rfl ?_
  refine ep_callVq (As := []) (st := [.ref 2]) d_N_read_15 lk_N_125 cal_R_readEntity tm_R_readEntity ts_R_readEntity rfl rfl rfl (Nat.le_of_ble_eq_true rfl) (Nat.le_of_ble_eq_true rfl) rfl rfl (R_readEntity (N0 := S.1) hc.drop (List.prefix_refl _) hc1.2.1 h6 hn) (fun q cI1 cA1 e1 hr hF => ?_) (fun k cI1 cA1 s1 e1 hr hF => CP_x (by unfold cRead; rw [e1]; rfl) (hc1.fr2 hF hr))
  refine ep_keep d_N_read_18 lk_N_51 (Nat.le_of_ble_eq_true rfl) rfl hr.1 (fun z => ?_) (fun z => CP_x (by unfold cRead; rw [e1]; exact if_neg z) (hc1.fr2 hF hr))
  have hc2 := hc1.keepR hF hr z
  refine ep_istore_n (lv' := [(0, .ref 1), (1, .int q.1)]) [1, 0] d_N_read_21 rfl (by decide) rfl ?_
  refine ep_aload_n (j := 0) d_N_read_22 rfl rfl ?_
  refine ep_getf (fi := 2) (v := .ref 6) d_N_read_23 cl4 lf_N_23 (by decide) rfl rfl ?_
  refine ep_aload_n (j := 0) d_N_read_26 rfl rfl ?_
  refine ep_getf (fi := 4) (v := .ref 13) d_N_read_27 cl4 lf_N_40 (by decide) rfl rfl ?_
  refine ep_getf (fi := 0) (v := .ref 14) d_N_read_30 cl1 lf_N_128 (by decide) rfl rfl ?_
  refine ep_callVv (As := [.ref 14]) (st := []) d_N_read_33 lk_N_101 cal_W_take tm_W_take ts_W_take rfl rfl rfl (Nat.le_of_ble_eq_true rfl) (Nat.le_of_ble_eq_true rfl) rfl rfl (CT_takeR (S := (q.2.1, S.2)) hc2.2.2.1 hr.2.2.2.1) ?_
  refine ep_iload_n (j := 1) d_N_read_36 rfl rfl ?_
  exact ep_iret d_N_read_37 rfl rfl (CP_ok (f := fun q : Int32 × CSt => some (.int q.1)) (q := (q.1, q.2.1, S.2.1, q.2.2.1)) (by unfold cRead; rw [e1]; exact if_pos z) (hc2.tr (U := q.2.2.1) hr.2.2.2.1))
theorem CP_pre {α : Type} {f : α → Option Value} {g : α → CSt} {res : Ex α} {q : α} {cI' : Nat → Int32} {cA' : Nat → Nat → Int32} {v : Option Value} (e : res = .inr q) (ev : v = f q) (h : CC cI' cA' (g q)) : CPg f g X rI rA ol J S res (.inl v) (HC X cI' cA' rI rA ol J) := by rw [ev]; exact CP_ok e h
theorem tys_z {p : Int64} {k : Int32} {r T : List Int32} (h : lby p k = 0) : tys p (k :: r) T = tys p r T := if_pos h
theorem tys_a {p : Int64} {k : Int32} {r T : List Int32} (h0 : ¬ lby p k = 0) (h1 : tyB (lby p k)) (h2 : T.length < 120) : tys p (k :: r) T = tys p r (T ++ [lby p k]) := (if_neg h0).trans (if_pos ⟨h1, h2⟩)
theorem tys_x {p : Int64} {k : Int32} {r T : List Int32} (h0 : ¬ lby p k = 0) (h : ¬ (tyB (lby p k) ∧ T.length < 120)) : tys p (k :: r) T = none := (if_neg h0).trans (if_neg h)
set_option maxHeartbeats 4000000 in
set_option maxRecDepth 100000 in
theorem N_type_m8 {T : List Int32} (hT : CC cI cA (S.1, T, S.2.2)) (hp : S.2.1 <+: T) (p : Int64) (y : Int32) : EvP m_N_type (d + 1) 12 [(0, .ref 1), (1, .long p), (3, .int (nI S.2.1.length)), (4, .int (-8)), (5, .int y)] [] (HC X cI cA rI rA ol J) (CP X rI rA ol J S (.inr ((tys p [] T).elim 0 (fun _ => 1), S.1, (tys p [] T).getD S.2.1, S.2.2))) := by
  refine ep_iload (j := 3) d_N_type_12 rfl ?_
  refine ep_if_lt (tgt := 69) d_N_type_14 (by decide) (fun _ => ?_) (fun z => absurd (by decide) z)
  refine ep_iconst (v := 1) d_N_type_69 (by decide) ?_
  exact ep_iret d_N_type_70 rfl rfl (CP_pre (q := ((1 : Int32), S.1, T, S.2.2)) rfl rfl hT)
set_option maxHeartbeats 4000000 in
set_option maxRecDepth 100000 in
theorem N_type_0 {T : List Int32} (hT : CC cI cA (S.1, T, S.2.2)) (hp : S.2.1 <+: T) (p : Int64) (y : Int32) : EvP m_N_type (d + 1) 12 [(0, .ref 1), (1, .long p), (3, .int (nI S.2.1.length)), (4, .int 0), (5, .int y)] [] (HC X cI cA rI rA ol J) (CP X rI rA ol J S (.inr ((tys p [0] T).elim 0 (fun _ => 1), S.1, (tys p [0] T).getD S.2.1, S.2.2))) := by
  refine ep_iload (j := 3) d_N_type_12 rfl ?_
  refine ep_if_lt (tgt := 69) d_N_type_14 (by decide) (fun z => absurd z (by decide)) (fun _ => ?_)
  refine ep_lload_n (j := 1) d_N_type_17 rfl rfl ?_
  refine ep_iload (j := 3) d_N_type_18 rfl ?_
  refine ep_lushr d_N_type_20 ?_
  refine ep_l2i d_N_type_21 ?_
  refine ep_sipush (v := 255) d_N_type_22 (by decide) ?_
  refine ep_iand d_N_type_25 ?_
  refine ep_cg (y := lby p 0) rfl ?_
  refine ep_istore (lv' := [(0, .ref 1), (1, .long p), (3, .int (nI S.2.1.length)), (4, .int 0), (5, .int (lby p 0))]) [1, 2, 3, 4, 0] d_N_type_26 (by decide) rfl ?_
  refine ep_iload (j := 4) d_N_type_28 rfl ?_
  refine ep_if_eq (tgt := 63) d_N_type_30 (by decide) (fun c30 => ?_) (fun c30 => ?_)
  · refine ep_iinc (v := (-8)) (j := 3) (lv' := [(0, .ref 1), (1, .long p), (3, .int (nI S.2.1.length)), (4, .int (-8)), (5, .int (lby p 0))]) [1, 2, 3, 0, 4] d_N_type_63 rfl (by decide) (by decide) rfl ?_
    refine ep_goto (tgt := 12) d_N_type_66 (by decide) ?_
    rw [tys_z c30]
    exact N_type_m8 (S := S) hT hp p (lby p 0)
  · refine ep_iload (j := 4) d_N_type_33 rfl ?_
    refine ep_callSb (As := [.int (lby p 0)]) (st := []) d_N_type_35 (Or.inl lk_N_112) cal_N_isTypeable tm_N_isTypeable ti_N rfl (Nat.le_of_ble_eq_true rfl) (Nat.le_of_ble_eq_true rfl) rfl rfl (N_isTypeable (lby p 0)) (fun b35 => ?_) (fun b35 => ?_)
    · refine ep_if_eq (tgt := 53) d_N_type_38 (by decide) (fun z => absurd z (by decide)) (fun _ => ?_)
      refine ep_aload_n (j := 0) d_N_type_41 rfl rfl ?_
      refine ep_getf (fi := 1) (v := .ref 4) d_N_type_42 cl4 lf_N_19 (by decide) rfl rfl ?_
      refine ep_iload (j := 4) d_N_type_45 rfl ?_
      by_cases hl : T.length < 120
      · refine ep_callVi (As := [.int (lby p 0)]) (st := []) d_N_type_47 lk_N_116 cal_W_add tm_W_add ts_W_add rfl rfl rfl (Nat.le_of_ble_eq_true rfl) (Nat.le_of_ble_eq_true rfl) rfl rfl (CX_add (S := (S.1, T, S.2.2)) hT.2.1 hl (lby p 0)) ?_
        refine ep_if_ne (tgt := 63) d_N_type_50 (by decide) (fun _ => ?_) (fun z => absurd z (by decide))
        refine ep_iinc (v := (-8)) (j := 3) (lv' := [(0, .ref 1), (1, .long p), (3, .int (nI S.2.1.length)), (4, .int (-8)), (5, .int (lby p 0))]) [1, 2, 3, 0, 4] d_N_type_63 rfl (by decide) (by decide) rfl ?_
        refine ep_goto (tgt := 12) d_N_type_66 (by decide) ?_
        rw [tys_a c30 b35 hl]
        exact N_type_m8 (S := S) (T := T ++ [lby p 0]) (hT.add hl _) (hp.trans (List.prefix_append _ _)) p (lby p 0)
      · refine ep_callVi (As := [.int (lby p 0)]) (st := []) d_N_type_47 lk_N_116 cal_W_add tm_W_add ts_W_add rfl rfl rfl (Nat.le_of_ble_eq_true rfl) (Nat.le_of_ble_eq_true rfl) rfl rfl (CX_add_no (S := (S.1, T, S.2.2)) hT.2.1 hl (lby p 0)) ?_
        refine ep_if_ne (tgt := 63) d_N_type_50 (by decide) (fun z => absurd (by decide) z) (fun _ => ?_)
        refine ep_aload_n (j := 0) d_N_type_53 rfl rfl ?_
        refine ep_getf (fi := 1) (v := .ref 4) d_N_type_54 cl4 lf_N_19 (by decide) rfl rfl ?_
        refine ep_iload_n (j := 2) d_N_type_57 rfl rfl ?_
        refine ep_callVv (As := [.int (nI S.2.1.length)]) (st := []) d_N_type_58 lk_N_119 cal_W_cut tm_W_cut ts_W_cut rfl rfl rfl (Nat.le_of_ble_eq_true rfl) (Nat.le_of_ble_eq_true rfl) rfl rfl (CX_cut (S := (S.1, T, S.2.2)) hT.2.1 hp.length_le) ?_
        refine ep_iconst (v := 0) d_N_type_61 (by decide) ?_
        exact ep_iret d_N_type_62 rfl rfl (CP_pre (q := ((0 : Int32), S.1, S.2.1, S.2.2)) (by rw [tys_x c30 (fun u => hl u.2)]; rfl) rfl (hT.cut (U := S.2.1) hp))
    · refine ep_if_eq (tgt := 53) d_N_type_38 (by decide) (fun _ => ?_) (fun z => absurd (by decide) z)
      refine ep_aload_n (j := 0) d_N_type_53 rfl rfl ?_
      refine ep_getf (fi := 1) (v := .ref 4) d_N_type_54 cl4 lf_N_19 (by decide) rfl rfl ?_
      refine ep_iload_n (j := 2) d_N_type_57 rfl rfl ?_
      refine ep_callVv (As := [.int (nI S.2.1.length)]) (st := []) d_N_type_58 lk_N_119 cal_W_cut tm_W_cut ts_W_cut rfl rfl rfl (Nat.le_of_ble_eq_true rfl) (Nat.le_of_ble_eq_true rfl) rfl rfl (CX_cut (S := (S.1, T, S.2.2)) hT.2.1 hp.length_le) ?_
      refine ep_iconst (v := 0) d_N_type_61 (by decide) ?_
      exact ep_iret d_N_type_62 rfl rfl (CP_pre (q := ((0 : Int32), S.1, S.2.1, S.2.2)) (by rw [tys_x c30 (fun u => b35 u.1)]; rfl) rfl (hT.cut (U := S.2.1) hp))
set_option maxHeartbeats 4000000 in
set_option maxRecDepth 100000 in
theorem N_type_8 {T : List Int32} (hT : CC cI cA (S.1, T, S.2.2)) (hp : S.2.1 <+: T) (p : Int64) (y : Int32) : EvP m_N_type (d + 1) 12 [(0, .ref 1), (1, .long p), (3, .int (nI S.2.1.length)), (4, .int 8), (5, .int y)] [] (HC X cI cA rI rA ol J) (CP X rI rA ol J S (.inr ((tys p [8, 0] T).elim 0 (fun _ => 1), S.1, (tys p [8, 0] T).getD S.2.1, S.2.2))) := by
  refine ep_iload (j := 3) d_N_type_12 rfl ?_
  refine ep_if_lt (tgt := 69) d_N_type_14 (by decide) (fun z => absurd z (by decide)) (fun _ => ?_)
  refine ep_lload_n (j := 1) d_N_type_17 rfl rfl ?_
  refine ep_iload (j := 3) d_N_type_18 rfl ?_
  refine ep_lushr d_N_type_20 ?_
  refine ep_l2i d_N_type_21 ?_
  refine ep_sipush (v := 255) d_N_type_22 (by decide) ?_
  refine ep_iand d_N_type_25 ?_
  refine ep_cg (y := lby p 8) rfl ?_
  refine ep_istore (lv' := [(0, .ref 1), (1, .long p), (3, .int (nI S.2.1.length)), (4, .int 8), (5, .int (lby p 8))]) [1, 2, 3, 4, 0] d_N_type_26 (by decide) rfl ?_
  refine ep_iload (j := 4) d_N_type_28 rfl ?_
  refine ep_if_eq (tgt := 63) d_N_type_30 (by decide) (fun c30 => ?_) (fun c30 => ?_)
  · refine ep_iinc (v := 0) (j := 3) (lv' := [(0, .ref 1), (1, .long p), (3, .int (nI S.2.1.length)), (4, .int 0), (5, .int (lby p 8))]) [1, 2, 3, 0, 4] d_N_type_63 rfl (by decide) (by decide) rfl ?_
    refine ep_goto (tgt := 12) d_N_type_66 (by decide) ?_
    rw [tys_z c30]
    exact N_type_0 (S := S) hT hp p (lby p 8)
  · refine ep_iload (j := 4) d_N_type_33 rfl ?_
    refine ep_callSb (As := [.int (lby p 8)]) (st := []) d_N_type_35 (Or.inl lk_N_112) cal_N_isTypeable tm_N_isTypeable ti_N rfl (Nat.le_of_ble_eq_true rfl) (Nat.le_of_ble_eq_true rfl) rfl rfl (N_isTypeable (lby p 8)) (fun b35 => ?_) (fun b35 => ?_)
    · refine ep_if_eq (tgt := 53) d_N_type_38 (by decide) (fun z => absurd z (by decide)) (fun _ => ?_)
      refine ep_aload_n (j := 0) d_N_type_41 rfl rfl ?_
      refine ep_getf (fi := 1) (v := .ref 4) d_N_type_42 cl4 lf_N_19 (by decide) rfl rfl ?_
      refine ep_iload (j := 4) d_N_type_45 rfl ?_
      by_cases hl : T.length < 120
      · refine ep_callVi (As := [.int (lby p 8)]) (st := []) d_N_type_47 lk_N_116 cal_W_add tm_W_add ts_W_add rfl rfl rfl (Nat.le_of_ble_eq_true rfl) (Nat.le_of_ble_eq_true rfl) rfl rfl (CX_add (S := (S.1, T, S.2.2)) hT.2.1 hl (lby p 8)) ?_
        refine ep_if_ne (tgt := 63) d_N_type_50 (by decide) (fun _ => ?_) (fun z => absurd z (by decide))
        refine ep_iinc (v := 0) (j := 3) (lv' := [(0, .ref 1), (1, .long p), (3, .int (nI S.2.1.length)), (4, .int 0), (5, .int (lby p 8))]) [1, 2, 3, 0, 4] d_N_type_63 rfl (by decide) (by decide) rfl ?_
        refine ep_goto (tgt := 12) d_N_type_66 (by decide) ?_
        rw [tys_a c30 b35 hl]
        exact N_type_0 (S := S) (T := T ++ [lby p 8]) (hT.add hl _) (hp.trans (List.prefix_append _ _)) p (lby p 8)
      · refine ep_callVi (As := [.int (lby p 8)]) (st := []) d_N_type_47 lk_N_116 cal_W_add tm_W_add ts_W_add rfl rfl rfl (Nat.le_of_ble_eq_true rfl) (Nat.le_of_ble_eq_true rfl) rfl rfl (CX_add_no (S := (S.1, T, S.2.2)) hT.2.1 hl (lby p 8)) ?_
        refine ep_if_ne (tgt := 63) d_N_type_50 (by decide) (fun z => absurd (by decide) z) (fun _ => ?_)
        refine ep_aload_n (j := 0) d_N_type_53 rfl rfl ?_
        refine ep_getf (fi := 1) (v := .ref 4) d_N_type_54 cl4 lf_N_19 (by decide) rfl rfl ?_
        refine ep_iload_n (j := 2) d_N_type_57 rfl rfl ?_
        refine ep_callVv (As := [.int (nI S.2.1.length)]) (st := []) d_N_type_58 lk_N_119 cal_W_cut tm_W_cut ts_W_cut rfl rfl rfl (Nat.le_of_ble_eq_true rfl) (Nat.le_of_ble_eq_true rfl) rfl rfl (CX_cut (S := (S.1, T, S.2.2)) hT.2.1 hp.length_le) ?_
        refine ep_iconst (v := 0) d_N_type_61 (by decide) ?_
        exact ep_iret d_N_type_62 rfl rfl (CP_pre (q := ((0 : Int32), S.1, S.2.1, S.2.2)) (by rw [tys_x c30 (fun u => hl u.2)]; rfl) rfl (hT.cut (U := S.2.1) hp))
    · refine ep_if_eq (tgt := 53) d_N_type_38 (by decide) (fun _ => ?_) (fun z => absurd (by decide) z)
      refine ep_aload_n (j := 0) d_N_type_53 rfl rfl ?_
      refine ep_getf (fi := 1) (v := .ref 4) d_N_type_54 cl4 lf_N_19 (by decide) rfl rfl ?_
      refine ep_iload_n (j := 2) d_N_type_57 rfl rfl ?_
      refine ep_callVv (As := [.int (nI S.2.1.length)]) (st := []) d_N_type_58 lk_N_119 cal_W_cut tm_W_cut ts_W_cut rfl rfl rfl (Nat.le_of_ble_eq_true rfl) (Nat.le_of_ble_eq_true rfl) rfl rfl (CX_cut (S := (S.1, T, S.2.2)) hT.2.1 hp.length_le) ?_
      refine ep_iconst (v := 0) d_N_type_61 (by decide) ?_
      exact ep_iret d_N_type_62 rfl rfl (CP_pre (q := ((0 : Int32), S.1, S.2.1, S.2.2)) (by rw [tys_x c30 (fun u => b35 u.1)]; rfl) rfl (hT.cut (U := S.2.1) hp))
set_option maxHeartbeats 4000000 in
set_option maxRecDepth 100000 in
theorem N_type_16 {T : List Int32} (hT : CC cI cA (S.1, T, S.2.2)) (hp : S.2.1 <+: T) (p : Int64) (y : Int32) : EvP m_N_type (d + 1) 12 [(0, .ref 1), (1, .long p), (3, .int (nI S.2.1.length)), (4, .int 16), (5, .int y)] [] (HC X cI cA rI rA ol J) (CP X rI rA ol J S (.inr ((tys p [16, 8, 0] T).elim 0 (fun _ => 1), S.1, (tys p [16, 8, 0] T).getD S.2.1, S.2.2))) := by
  refine ep_iload (j := 3) d_N_type_12 rfl ?_
  refine ep_if_lt (tgt := 69) d_N_type_14 (by decide) (fun z => absurd z (by decide)) (fun _ => ?_)
  refine ep_lload_n (j := 1) d_N_type_17 rfl rfl ?_
  refine ep_iload (j := 3) d_N_type_18 rfl ?_
  refine ep_lushr d_N_type_20 ?_
  refine ep_l2i d_N_type_21 ?_
  refine ep_sipush (v := 255) d_N_type_22 (by decide) ?_
  refine ep_iand d_N_type_25 ?_
  refine ep_cg (y := lby p 16) rfl ?_
  refine ep_istore (lv' := [(0, .ref 1), (1, .long p), (3, .int (nI S.2.1.length)), (4, .int 16), (5, .int (lby p 16))]) [1, 2, 3, 4, 0] d_N_type_26 (by decide) rfl ?_
  refine ep_iload (j := 4) d_N_type_28 rfl ?_
  refine ep_if_eq (tgt := 63) d_N_type_30 (by decide) (fun c30 => ?_) (fun c30 => ?_)
  · refine ep_iinc (v := 8) (j := 3) (lv' := [(0, .ref 1), (1, .long p), (3, .int (nI S.2.1.length)), (4, .int 8), (5, .int (lby p 16))]) [1, 2, 3, 0, 4] d_N_type_63 rfl (by decide) (by decide) rfl ?_
    refine ep_goto (tgt := 12) d_N_type_66 (by decide) ?_
    rw [tys_z c30]
    exact N_type_8 (S := S) hT hp p (lby p 16)
  · refine ep_iload (j := 4) d_N_type_33 rfl ?_
    refine ep_callSb (As := [.int (lby p 16)]) (st := []) d_N_type_35 (Or.inl lk_N_112) cal_N_isTypeable tm_N_isTypeable ti_N rfl (Nat.le_of_ble_eq_true rfl) (Nat.le_of_ble_eq_true rfl) rfl rfl (N_isTypeable (lby p 16)) (fun b35 => ?_) (fun b35 => ?_)
    · refine ep_if_eq (tgt := 53) d_N_type_38 (by decide) (fun z => absurd z (by decide)) (fun _ => ?_)
      refine ep_aload_n (j := 0) d_N_type_41 rfl rfl ?_
      refine ep_getf (fi := 1) (v := .ref 4) d_N_type_42 cl4 lf_N_19 (by decide) rfl rfl ?_
      refine ep_iload (j := 4) d_N_type_45 rfl ?_
      by_cases hl : T.length < 120
      · refine ep_callVi (As := [.int (lby p 16)]) (st := []) d_N_type_47 lk_N_116 cal_W_add tm_W_add ts_W_add rfl rfl rfl (Nat.le_of_ble_eq_true rfl) (Nat.le_of_ble_eq_true rfl) rfl rfl (CX_add (S := (S.1, T, S.2.2)) hT.2.1 hl (lby p 16)) ?_
        refine ep_if_ne (tgt := 63) d_N_type_50 (by decide) (fun _ => ?_) (fun z => absurd z (by decide))
        refine ep_iinc (v := 8) (j := 3) (lv' := [(0, .ref 1), (1, .long p), (3, .int (nI S.2.1.length)), (4, .int 8), (5, .int (lby p 16))]) [1, 2, 3, 0, 4] d_N_type_63 rfl (by decide) (by decide) rfl ?_
        refine ep_goto (tgt := 12) d_N_type_66 (by decide) ?_
        rw [tys_a c30 b35 hl]
        exact N_type_8 (S := S) (T := T ++ [lby p 16]) (hT.add hl _) (hp.trans (List.prefix_append _ _)) p (lby p 16)
      · refine ep_callVi (As := [.int (lby p 16)]) (st := []) d_N_type_47 lk_N_116 cal_W_add tm_W_add ts_W_add rfl rfl rfl (Nat.le_of_ble_eq_true rfl) (Nat.le_of_ble_eq_true rfl) rfl rfl (CX_add_no (S := (S.1, T, S.2.2)) hT.2.1 hl (lby p 16)) ?_
        refine ep_if_ne (tgt := 63) d_N_type_50 (by decide) (fun z => absurd (by decide) z) (fun _ => ?_)
        refine ep_aload_n (j := 0) d_N_type_53 rfl rfl ?_
        refine ep_getf (fi := 1) (v := .ref 4) d_N_type_54 cl4 lf_N_19 (by decide) rfl rfl ?_
        refine ep_iload_n (j := 2) d_N_type_57 rfl rfl ?_
        refine ep_callVv (As := [.int (nI S.2.1.length)]) (st := []) d_N_type_58 lk_N_119 cal_W_cut tm_W_cut ts_W_cut rfl rfl rfl (Nat.le_of_ble_eq_true rfl) (Nat.le_of_ble_eq_true rfl) rfl rfl (CX_cut (S := (S.1, T, S.2.2)) hT.2.1 hp.length_le) ?_
        refine ep_iconst (v := 0) d_N_type_61 (by decide) ?_
        exact ep_iret d_N_type_62 rfl rfl (CP_pre (q := ((0 : Int32), S.1, S.2.1, S.2.2)) (by rw [tys_x c30 (fun u => hl u.2)]; rfl) rfl (hT.cut (U := S.2.1) hp))
    · refine ep_if_eq (tgt := 53) d_N_type_38 (by decide) (fun _ => ?_) (fun z => absurd (by decide) z)
      refine ep_aload_n (j := 0) d_N_type_53 rfl rfl ?_
      refine ep_getf (fi := 1) (v := .ref 4) d_N_type_54 cl4 lf_N_19 (by decide) rfl rfl ?_
      refine ep_iload_n (j := 2) d_N_type_57 rfl rfl ?_
      refine ep_callVv (As := [.int (nI S.2.1.length)]) (st := []) d_N_type_58 lk_N_119 cal_W_cut tm_W_cut ts_W_cut rfl rfl rfl (Nat.le_of_ble_eq_true rfl) (Nat.le_of_ble_eq_true rfl) rfl rfl (CX_cut (S := (S.1, T, S.2.2)) hT.2.1 hp.length_le) ?_
      refine ep_iconst (v := 0) d_N_type_61 (by decide) ?_
      exact ep_iret d_N_type_62 rfl rfl (CP_pre (q := ((0 : Int32), S.1, S.2.1, S.2.2)) (by rw [tys_x c30 (fun u => b35 u.1)]; rfl) rfl (hT.cut (U := S.2.1) hp))
set_option maxHeartbeats 4000000 in
set_option maxRecDepth 100000 in
theorem N_type_24 {T : List Int32} (hT : CC cI cA (S.1, T, S.2.2)) (hp : S.2.1 <+: T) (p : Int64) (y : Int32) : EvP m_N_type (d + 1) 12 [(0, .ref 1), (1, .long p), (3, .int (nI S.2.1.length)), (4, .int 24), (5, .int y)] [] (HC X cI cA rI rA ol J) (CP X rI rA ol J S (.inr ((tys p [24, 16, 8, 0] T).elim 0 (fun _ => 1), S.1, (tys p [24, 16, 8, 0] T).getD S.2.1, S.2.2))) := by
  refine ep_iload (j := 3) d_N_type_12 rfl ?_
  refine ep_if_lt (tgt := 69) d_N_type_14 (by decide) (fun z => absurd z (by decide)) (fun _ => ?_)
  refine ep_lload_n (j := 1) d_N_type_17 rfl rfl ?_
  refine ep_iload (j := 3) d_N_type_18 rfl ?_
  refine ep_lushr d_N_type_20 ?_
  refine ep_l2i d_N_type_21 ?_
  refine ep_sipush (v := 255) d_N_type_22 (by decide) ?_
  refine ep_iand d_N_type_25 ?_
  refine ep_cg (y := lby p 24) rfl ?_
  refine ep_istore (lv' := [(0, .ref 1), (1, .long p), (3, .int (nI S.2.1.length)), (4, .int 24), (5, .int (lby p 24))]) [1, 2, 3, 4, 0] d_N_type_26 (by decide) rfl ?_
  refine ep_iload (j := 4) d_N_type_28 rfl ?_
  refine ep_if_eq (tgt := 63) d_N_type_30 (by decide) (fun c30 => ?_) (fun c30 => ?_)
  · refine ep_iinc (v := 16) (j := 3) (lv' := [(0, .ref 1), (1, .long p), (3, .int (nI S.2.1.length)), (4, .int 16), (5, .int (lby p 24))]) [1, 2, 3, 0, 4] d_N_type_63 rfl (by decide) (by decide) rfl ?_
    refine ep_goto (tgt := 12) d_N_type_66 (by decide) ?_
    rw [tys_z c30]
    exact N_type_16 (S := S) hT hp p (lby p 24)
  · refine ep_iload (j := 4) d_N_type_33 rfl ?_
    refine ep_callSb (As := [.int (lby p 24)]) (st := []) d_N_type_35 (Or.inl lk_N_112) cal_N_isTypeable tm_N_isTypeable ti_N rfl (Nat.le_of_ble_eq_true rfl) (Nat.le_of_ble_eq_true rfl) rfl rfl (N_isTypeable (lby p 24)) (fun b35 => ?_) (fun b35 => ?_)
    · refine ep_if_eq (tgt := 53) d_N_type_38 (by decide) (fun z => absurd z (by decide)) (fun _ => ?_)
      refine ep_aload_n (j := 0) d_N_type_41 rfl rfl ?_
      refine ep_getf (fi := 1) (v := .ref 4) d_N_type_42 cl4 lf_N_19 (by decide) rfl rfl ?_
      refine ep_iload (j := 4) d_N_type_45 rfl ?_
      by_cases hl : T.length < 120
      · refine ep_callVi (As := [.int (lby p 24)]) (st := []) d_N_type_47 lk_N_116 cal_W_add tm_W_add ts_W_add rfl rfl rfl (Nat.le_of_ble_eq_true rfl) (Nat.le_of_ble_eq_true rfl) rfl rfl (CX_add (S := (S.1, T, S.2.2)) hT.2.1 hl (lby p 24)) ?_
        refine ep_if_ne (tgt := 63) d_N_type_50 (by decide) (fun _ => ?_) (fun z => absurd z (by decide))
        refine ep_iinc (v := 16) (j := 3) (lv' := [(0, .ref 1), (1, .long p), (3, .int (nI S.2.1.length)), (4, .int 16), (5, .int (lby p 24))]) [1, 2, 3, 0, 4] d_N_type_63 rfl (by decide) (by decide) rfl ?_
        refine ep_goto (tgt := 12) d_N_type_66 (by decide) ?_
        rw [tys_a c30 b35 hl]
        exact N_type_16 (S := S) (T := T ++ [lby p 24]) (hT.add hl _) (hp.trans (List.prefix_append _ _)) p (lby p 24)
      · refine ep_callVi (As := [.int (lby p 24)]) (st := []) d_N_type_47 lk_N_116 cal_W_add tm_W_add ts_W_add rfl rfl rfl (Nat.le_of_ble_eq_true rfl) (Nat.le_of_ble_eq_true rfl) rfl rfl (CX_add_no (S := (S.1, T, S.2.2)) hT.2.1 hl (lby p 24)) ?_
        refine ep_if_ne (tgt := 63) d_N_type_50 (by decide) (fun z => absurd (by decide) z) (fun _ => ?_)
        refine ep_aload_n (j := 0) d_N_type_53 rfl rfl ?_
        refine ep_getf (fi := 1) (v := .ref 4) d_N_type_54 cl4 lf_N_19 (by decide) rfl rfl ?_
        refine ep_iload_n (j := 2) d_N_type_57 rfl rfl ?_
        refine ep_callVv (As := [.int (nI S.2.1.length)]) (st := []) d_N_type_58 lk_N_119 cal_W_cut tm_W_cut ts_W_cut rfl rfl rfl (Nat.le_of_ble_eq_true rfl) (Nat.le_of_ble_eq_true rfl) rfl rfl (CX_cut (S := (S.1, T, S.2.2)) hT.2.1 hp.length_le) ?_
        refine ep_iconst (v := 0) d_N_type_61 (by decide) ?_
        exact ep_iret d_N_type_62 rfl rfl (CP_pre (q := ((0 : Int32), S.1, S.2.1, S.2.2)) (by rw [tys_x c30 (fun u => hl u.2)]; rfl) rfl (hT.cut (U := S.2.1) hp))
    · refine ep_if_eq (tgt := 53) d_N_type_38 (by decide) (fun _ => ?_) (fun z => absurd (by decide) z)
      refine ep_aload_n (j := 0) d_N_type_53 rfl rfl ?_
      refine ep_getf (fi := 1) (v := .ref 4) d_N_type_54 cl4 lf_N_19 (by decide) rfl rfl ?_
      refine ep_iload_n (j := 2) d_N_type_57 rfl rfl ?_
      refine ep_callVv (As := [.int (nI S.2.1.length)]) (st := []) d_N_type_58 lk_N_119 cal_W_cut tm_W_cut ts_W_cut rfl rfl rfl (Nat.le_of_ble_eq_true rfl) (Nat.le_of_ble_eq_true rfl) rfl rfl (CX_cut (S := (S.1, T, S.2.2)) hT.2.1 hp.length_le) ?_
      refine ep_iconst (v := 0) d_N_type_61 (by decide) ?_
      exact ep_iret d_N_type_62 rfl rfl (CP_pre (q := ((0 : Int32), S.1, S.2.1, S.2.2)) (by rw [tys_x c30 (fun u => b35 u.1)]; rfl) rfl (hT.cut (U := S.2.1) hp))
set_option maxHeartbeats 4000000 in
set_option maxRecDepth 100000 in
theorem N_type_32 {T : List Int32} (hT : CC cI cA (S.1, T, S.2.2)) (hp : S.2.1 <+: T) (p : Int64) (y : Int32) : EvP m_N_type (d + 1) 12 [(0, .ref 1), (1, .long p), (3, .int (nI S.2.1.length)), (4, .int 32), (5, .int y)] [] (HC X cI cA rI rA ol J) (CP X rI rA ol J S (.inr ((tys p [32, 24, 16, 8, 0] T).elim 0 (fun _ => 1), S.1, (tys p [32, 24, 16, 8, 0] T).getD S.2.1, S.2.2))) := by
  refine ep_iload (j := 3) d_N_type_12 rfl ?_
  refine ep_if_lt (tgt := 69) d_N_type_14 (by decide) (fun z => absurd z (by decide)) (fun _ => ?_)
  refine ep_lload_n (j := 1) d_N_type_17 rfl rfl ?_
  refine ep_iload (j := 3) d_N_type_18 rfl ?_
  refine ep_lushr d_N_type_20 ?_
  refine ep_l2i d_N_type_21 ?_
  refine ep_sipush (v := 255) d_N_type_22 (by decide) ?_
  refine ep_iand d_N_type_25 ?_
  refine ep_cg (y := lby p 32) rfl ?_
  refine ep_istore (lv' := [(0, .ref 1), (1, .long p), (3, .int (nI S.2.1.length)), (4, .int 32), (5, .int (lby p 32))]) [1, 2, 3, 4, 0] d_N_type_26 (by decide) rfl ?_
  refine ep_iload (j := 4) d_N_type_28 rfl ?_
  refine ep_if_eq (tgt := 63) d_N_type_30 (by decide) (fun c30 => ?_) (fun c30 => ?_)
  · refine ep_iinc (v := 24) (j := 3) (lv' := [(0, .ref 1), (1, .long p), (3, .int (nI S.2.1.length)), (4, .int 24), (5, .int (lby p 32))]) [1, 2, 3, 0, 4] d_N_type_63 rfl (by decide) (by decide) rfl ?_
    refine ep_goto (tgt := 12) d_N_type_66 (by decide) ?_
    rw [tys_z c30]
    exact N_type_24 (S := S) hT hp p (lby p 32)
  · refine ep_iload (j := 4) d_N_type_33 rfl ?_
    refine ep_callSb (As := [.int (lby p 32)]) (st := []) d_N_type_35 (Or.inl lk_N_112) cal_N_isTypeable tm_N_isTypeable ti_N rfl (Nat.le_of_ble_eq_true rfl) (Nat.le_of_ble_eq_true rfl) rfl rfl (N_isTypeable (lby p 32)) (fun b35 => ?_) (fun b35 => ?_)
    · refine ep_if_eq (tgt := 53) d_N_type_38 (by decide) (fun z => absurd z (by decide)) (fun _ => ?_)
      refine ep_aload_n (j := 0) d_N_type_41 rfl rfl ?_
      refine ep_getf (fi := 1) (v := .ref 4) d_N_type_42 cl4 lf_N_19 (by decide) rfl rfl ?_
      refine ep_iload (j := 4) d_N_type_45 rfl ?_
      by_cases hl : T.length < 120
      · refine ep_callVi (As := [.int (lby p 32)]) (st := []) d_N_type_47 lk_N_116 cal_W_add tm_W_add ts_W_add rfl rfl rfl (Nat.le_of_ble_eq_true rfl) (Nat.le_of_ble_eq_true rfl) rfl rfl (CX_add (S := (S.1, T, S.2.2)) hT.2.1 hl (lby p 32)) ?_
        refine ep_if_ne (tgt := 63) d_N_type_50 (by decide) (fun _ => ?_) (fun z => absurd z (by decide))
        refine ep_iinc (v := 24) (j := 3) (lv' := [(0, .ref 1), (1, .long p), (3, .int (nI S.2.1.length)), (4, .int 24), (5, .int (lby p 32))]) [1, 2, 3, 0, 4] d_N_type_63 rfl (by decide) (by decide) rfl ?_
        refine ep_goto (tgt := 12) d_N_type_66 (by decide) ?_
        rw [tys_a c30 b35 hl]
        exact N_type_24 (S := S) (T := T ++ [lby p 32]) (hT.add hl _) (hp.trans (List.prefix_append _ _)) p (lby p 32)
      · refine ep_callVi (As := [.int (lby p 32)]) (st := []) d_N_type_47 lk_N_116 cal_W_add tm_W_add ts_W_add rfl rfl rfl (Nat.le_of_ble_eq_true rfl) (Nat.le_of_ble_eq_true rfl) rfl rfl (CX_add_no (S := (S.1, T, S.2.2)) hT.2.1 hl (lby p 32)) ?_
        refine ep_if_ne (tgt := 63) d_N_type_50 (by decide) (fun z => absurd (by decide) z) (fun _ => ?_)
        refine ep_aload_n (j := 0) d_N_type_53 rfl rfl ?_
        refine ep_getf (fi := 1) (v := .ref 4) d_N_type_54 cl4 lf_N_19 (by decide) rfl rfl ?_
        refine ep_iload_n (j := 2) d_N_type_57 rfl rfl ?_
        refine ep_callVv (As := [.int (nI S.2.1.length)]) (st := []) d_N_type_58 lk_N_119 cal_W_cut tm_W_cut ts_W_cut rfl rfl rfl (Nat.le_of_ble_eq_true rfl) (Nat.le_of_ble_eq_true rfl) rfl rfl (CX_cut (S := (S.1, T, S.2.2)) hT.2.1 hp.length_le) ?_
        refine ep_iconst (v := 0) d_N_type_61 (by decide) ?_
        exact ep_iret d_N_type_62 rfl rfl (CP_pre (q := ((0 : Int32), S.1, S.2.1, S.2.2)) (by rw [tys_x c30 (fun u => hl u.2)]; rfl) rfl (hT.cut (U := S.2.1) hp))
    · refine ep_if_eq (tgt := 53) d_N_type_38 (by decide) (fun _ => ?_) (fun z => absurd (by decide) z)
      refine ep_aload_n (j := 0) d_N_type_53 rfl rfl ?_
      refine ep_getf (fi := 1) (v := .ref 4) d_N_type_54 cl4 lf_N_19 (by decide) rfl rfl ?_
      refine ep_iload_n (j := 2) d_N_type_57 rfl rfl ?_
      refine ep_callVv (As := [.int (nI S.2.1.length)]) (st := []) d_N_type_58 lk_N_119 cal_W_cut tm_W_cut ts_W_cut rfl rfl rfl (Nat.le_of_ble_eq_true rfl) (Nat.le_of_ble_eq_true rfl) rfl rfl (CX_cut (S := (S.1, T, S.2.2)) hT.2.1 hp.length_le) ?_
      refine ep_iconst (v := 0) d_N_type_61 (by decide) ?_
      exact ep_iret d_N_type_62 rfl rfl (CP_pre (q := ((0 : Int32), S.1, S.2.1, S.2.2)) (by rw [tys_x c30 (fun u => b35 u.1)]; rfl) rfl (hT.cut (U := S.2.1) hp))
set_option maxHeartbeats 4000000 in
set_option maxRecDepth 100000 in
theorem N_type_40 {T : List Int32} (hT : CC cI cA (S.1, T, S.2.2)) (hp : S.2.1 <+: T) (p : Int64) (y : Int32) : EvP m_N_type (d + 1) 12 [(0, .ref 1), (1, .long p), (3, .int (nI S.2.1.length)), (4, .int 40), (5, .int y)] [] (HC X cI cA rI rA ol J) (CP X rI rA ol J S (.inr ((tys p [40, 32, 24, 16, 8, 0] T).elim 0 (fun _ => 1), S.1, (tys p [40, 32, 24, 16, 8, 0] T).getD S.2.1, S.2.2))) := by
  refine ep_iload (j := 3) d_N_type_12 rfl ?_
  refine ep_if_lt (tgt := 69) d_N_type_14 (by decide) (fun z => absurd z (by decide)) (fun _ => ?_)
  refine ep_lload_n (j := 1) d_N_type_17 rfl rfl ?_
  refine ep_iload (j := 3) d_N_type_18 rfl ?_
  refine ep_lushr d_N_type_20 ?_
  refine ep_l2i d_N_type_21 ?_
  refine ep_sipush (v := 255) d_N_type_22 (by decide) ?_
  refine ep_iand d_N_type_25 ?_
  refine ep_cg (y := lby p 40) rfl ?_
  refine ep_istore (lv' := [(0, .ref 1), (1, .long p), (3, .int (nI S.2.1.length)), (4, .int 40), (5, .int (lby p 40))]) [1, 2, 3, 4, 0] d_N_type_26 (by decide) rfl ?_
  refine ep_iload (j := 4) d_N_type_28 rfl ?_
  refine ep_if_eq (tgt := 63) d_N_type_30 (by decide) (fun c30 => ?_) (fun c30 => ?_)
  · refine ep_iinc (v := 32) (j := 3) (lv' := [(0, .ref 1), (1, .long p), (3, .int (nI S.2.1.length)), (4, .int 32), (5, .int (lby p 40))]) [1, 2, 3, 0, 4] d_N_type_63 rfl (by decide) (by decide) rfl ?_
    refine ep_goto (tgt := 12) d_N_type_66 (by decide) ?_
    rw [tys_z c30]
    exact N_type_32 (S := S) hT hp p (lby p 40)
  · refine ep_iload (j := 4) d_N_type_33 rfl ?_
    refine ep_callSb (As := [.int (lby p 40)]) (st := []) d_N_type_35 (Or.inl lk_N_112) cal_N_isTypeable tm_N_isTypeable ti_N rfl (Nat.le_of_ble_eq_true rfl) (Nat.le_of_ble_eq_true rfl) rfl rfl (N_isTypeable (lby p 40)) (fun b35 => ?_) (fun b35 => ?_)
    · refine ep_if_eq (tgt := 53) d_N_type_38 (by decide) (fun z => absurd z (by decide)) (fun _ => ?_)
      refine ep_aload_n (j := 0) d_N_type_41 rfl rfl ?_
      refine ep_getf (fi := 1) (v := .ref 4) d_N_type_42 cl4 lf_N_19 (by decide) rfl rfl ?_
      refine ep_iload (j := 4) d_N_type_45 rfl ?_
      by_cases hl : T.length < 120
      · refine ep_callVi (As := [.int (lby p 40)]) (st := []) d_N_type_47 lk_N_116 cal_W_add tm_W_add ts_W_add rfl rfl rfl (Nat.le_of_ble_eq_true rfl) (Nat.le_of_ble_eq_true rfl) rfl rfl (CX_add (S := (S.1, T, S.2.2)) hT.2.1 hl (lby p 40)) ?_
        refine ep_if_ne (tgt := 63) d_N_type_50 (by decide) (fun _ => ?_) (fun z => absurd z (by decide))
        refine ep_iinc (v := 32) (j := 3) (lv' := [(0, .ref 1), (1, .long p), (3, .int (nI S.2.1.length)), (4, .int 32), (5, .int (lby p 40))]) [1, 2, 3, 0, 4] d_N_type_63 rfl (by decide) (by decide) rfl ?_
        refine ep_goto (tgt := 12) d_N_type_66 (by decide) ?_
        rw [tys_a c30 b35 hl]
        exact N_type_32 (S := S) (T := T ++ [lby p 40]) (hT.add hl _) (hp.trans (List.prefix_append _ _)) p (lby p 40)
      · refine ep_callVi (As := [.int (lby p 40)]) (st := []) d_N_type_47 lk_N_116 cal_W_add tm_W_add ts_W_add rfl rfl rfl (Nat.le_of_ble_eq_true rfl) (Nat.le_of_ble_eq_true rfl) rfl rfl (CX_add_no (S := (S.1, T, S.2.2)) hT.2.1 hl (lby p 40)) ?_
        refine ep_if_ne (tgt := 63) d_N_type_50 (by decide) (fun z => absurd (by decide) z) (fun _ => ?_)
        refine ep_aload_n (j := 0) d_N_type_53 rfl rfl ?_
        refine ep_getf (fi := 1) (v := .ref 4) d_N_type_54 cl4 lf_N_19 (by decide) rfl rfl ?_
        refine ep_iload_n (j := 2) d_N_type_57 rfl rfl ?_
        refine ep_callVv (As := [.int (nI S.2.1.length)]) (st := []) d_N_type_58 lk_N_119 cal_W_cut tm_W_cut ts_W_cut rfl rfl rfl (Nat.le_of_ble_eq_true rfl) (Nat.le_of_ble_eq_true rfl) rfl rfl (CX_cut (S := (S.1, T, S.2.2)) hT.2.1 hp.length_le) ?_
        refine ep_iconst (v := 0) d_N_type_61 (by decide) ?_
        exact ep_iret d_N_type_62 rfl rfl (CP_pre (q := ((0 : Int32), S.1, S.2.1, S.2.2)) (by rw [tys_x c30 (fun u => hl u.2)]; rfl) rfl (hT.cut (U := S.2.1) hp))
    · refine ep_if_eq (tgt := 53) d_N_type_38 (by decide) (fun _ => ?_) (fun z => absurd (by decide) z)
      refine ep_aload_n (j := 0) d_N_type_53 rfl rfl ?_
      refine ep_getf (fi := 1) (v := .ref 4) d_N_type_54 cl4 lf_N_19 (by decide) rfl rfl ?_
      refine ep_iload_n (j := 2) d_N_type_57 rfl rfl ?_
      refine ep_callVv (As := [.int (nI S.2.1.length)]) (st := []) d_N_type_58 lk_N_119 cal_W_cut tm_W_cut ts_W_cut rfl rfl rfl (Nat.le_of_ble_eq_true rfl) (Nat.le_of_ble_eq_true rfl) rfl rfl (CX_cut (S := (S.1, T, S.2.2)) hT.2.1 hp.length_le) ?_
      refine ep_iconst (v := 0) d_N_type_61 (by decide) ?_
      exact ep_iret d_N_type_62 rfl rfl (CP_pre (q := ((0 : Int32), S.1, S.2.1, S.2.2)) (by rw [tys_x c30 (fun u => b35 u.1)]; rfl) rfl (hT.cut (U := S.2.1) hp))
set_option maxHeartbeats 4000000 in
set_option maxRecDepth 100000 in
theorem N_type_48 {T : List Int32} (hT : CC cI cA (S.1, T, S.2.2)) (hp : S.2.1 <+: T) (p : Int64) (y : Int32) : EvP m_N_type (d + 1) 12 [(0, .ref 1), (1, .long p), (3, .int (nI S.2.1.length)), (4, .int 48), (5, .int y)] [] (HC X cI cA rI rA ol J) (CP X rI rA ol J S (.inr ((tys p [48, 40, 32, 24, 16, 8, 0] T).elim 0 (fun _ => 1), S.1, (tys p [48, 40, 32, 24, 16, 8, 0] T).getD S.2.1, S.2.2))) := by
  refine ep_iload (j := 3) d_N_type_12 rfl ?_
  refine ep_if_lt (tgt := 69) d_N_type_14 (by decide) (fun z => absurd z (by decide)) (fun _ => ?_)
  refine ep_lload_n (j := 1) d_N_type_17 rfl rfl ?_
  refine ep_iload (j := 3) d_N_type_18 rfl ?_
  refine ep_lushr d_N_type_20 ?_
  refine ep_l2i d_N_type_21 ?_
  refine ep_sipush (v := 255) d_N_type_22 (by decide) ?_
  refine ep_iand d_N_type_25 ?_
  refine ep_cg (y := lby p 48) rfl ?_
  refine ep_istore (lv' := [(0, .ref 1), (1, .long p), (3, .int (nI S.2.1.length)), (4, .int 48), (5, .int (lby p 48))]) [1, 2, 3, 4, 0] d_N_type_26 (by decide) rfl ?_
  refine ep_iload (j := 4) d_N_type_28 rfl ?_
  refine ep_if_eq (tgt := 63) d_N_type_30 (by decide) (fun c30 => ?_) (fun c30 => ?_)
  · refine ep_iinc (v := 40) (j := 3) (lv' := [(0, .ref 1), (1, .long p), (3, .int (nI S.2.1.length)), (4, .int 40), (5, .int (lby p 48))]) [1, 2, 3, 0, 4] d_N_type_63 rfl (by decide) (by decide) rfl ?_
    refine ep_goto (tgt := 12) d_N_type_66 (by decide) ?_
    rw [tys_z c30]
    exact N_type_40 (S := S) hT hp p (lby p 48)
  · refine ep_iload (j := 4) d_N_type_33 rfl ?_
    refine ep_callSb (As := [.int (lby p 48)]) (st := []) d_N_type_35 (Or.inl lk_N_112) cal_N_isTypeable tm_N_isTypeable ti_N rfl (Nat.le_of_ble_eq_true rfl) (Nat.le_of_ble_eq_true rfl) rfl rfl (N_isTypeable (lby p 48)) (fun b35 => ?_) (fun b35 => ?_)
    · refine ep_if_eq (tgt := 53) d_N_type_38 (by decide) (fun z => absurd z (by decide)) (fun _ => ?_)
      refine ep_aload_n (j := 0) d_N_type_41 rfl rfl ?_
      refine ep_getf (fi := 1) (v := .ref 4) d_N_type_42 cl4 lf_N_19 (by decide) rfl rfl ?_
      refine ep_iload (j := 4) d_N_type_45 rfl ?_
      by_cases hl : T.length < 120
      · refine ep_callVi (As := [.int (lby p 48)]) (st := []) d_N_type_47 lk_N_116 cal_W_add tm_W_add ts_W_add rfl rfl rfl (Nat.le_of_ble_eq_true rfl) (Nat.le_of_ble_eq_true rfl) rfl rfl (CX_add (S := (S.1, T, S.2.2)) hT.2.1 hl (lby p 48)) ?_
        refine ep_if_ne (tgt := 63) d_N_type_50 (by decide) (fun _ => ?_) (fun z => absurd z (by decide))
        refine ep_iinc (v := 40) (j := 3) (lv' := [(0, .ref 1), (1, .long p), (3, .int (nI S.2.1.length)), (4, .int 40), (5, .int (lby p 48))]) [1, 2, 3, 0, 4] d_N_type_63 rfl (by decide) (by decide) rfl ?_
        refine ep_goto (tgt := 12) d_N_type_66 (by decide) ?_
        rw [tys_a c30 b35 hl]
        exact N_type_40 (S := S) (T := T ++ [lby p 48]) (hT.add hl _) (hp.trans (List.prefix_append _ _)) p (lby p 48)
      · refine ep_callVi (As := [.int (lby p 48)]) (st := []) d_N_type_47 lk_N_116 cal_W_add tm_W_add ts_W_add rfl rfl rfl (Nat.le_of_ble_eq_true rfl) (Nat.le_of_ble_eq_true rfl) rfl rfl (CX_add_no (S := (S.1, T, S.2.2)) hT.2.1 hl (lby p 48)) ?_
        refine ep_if_ne (tgt := 63) d_N_type_50 (by decide) (fun z => absurd (by decide) z) (fun _ => ?_)
        refine ep_aload_n (j := 0) d_N_type_53 rfl rfl ?_
        refine ep_getf (fi := 1) (v := .ref 4) d_N_type_54 cl4 lf_N_19 (by decide) rfl rfl ?_
        refine ep_iload_n (j := 2) d_N_type_57 rfl rfl ?_
        refine ep_callVv (As := [.int (nI S.2.1.length)]) (st := []) d_N_type_58 lk_N_119 cal_W_cut tm_W_cut ts_W_cut rfl rfl rfl (Nat.le_of_ble_eq_true rfl) (Nat.le_of_ble_eq_true rfl) rfl rfl (CX_cut (S := (S.1, T, S.2.2)) hT.2.1 hp.length_le) ?_
        refine ep_iconst (v := 0) d_N_type_61 (by decide) ?_
        exact ep_iret d_N_type_62 rfl rfl (CP_pre (q := ((0 : Int32), S.1, S.2.1, S.2.2)) (by rw [tys_x c30 (fun u => hl u.2)]; rfl) rfl (hT.cut (U := S.2.1) hp))
    · refine ep_if_eq (tgt := 53) d_N_type_38 (by decide) (fun _ => ?_) (fun z => absurd (by decide) z)
      refine ep_aload_n (j := 0) d_N_type_53 rfl rfl ?_
      refine ep_getf (fi := 1) (v := .ref 4) d_N_type_54 cl4 lf_N_19 (by decide) rfl rfl ?_
      refine ep_iload_n (j := 2) d_N_type_57 rfl rfl ?_
      refine ep_callVv (As := [.int (nI S.2.1.length)]) (st := []) d_N_type_58 lk_N_119 cal_W_cut tm_W_cut ts_W_cut rfl rfl rfl (Nat.le_of_ble_eq_true rfl) (Nat.le_of_ble_eq_true rfl) rfl rfl (CX_cut (S := (S.1, T, S.2.2)) hT.2.1 hp.length_le) ?_
      refine ep_iconst (v := 0) d_N_type_61 (by decide) ?_
      exact ep_iret d_N_type_62 rfl rfl (CP_pre (q := ((0 : Int32), S.1, S.2.1, S.2.2)) (by rw [tys_x c30 (fun u => b35 u.1)]; rfl) rfl (hT.cut (U := S.2.1) hp))
set_option maxHeartbeats 4000000 in
set_option maxRecDepth 100000 in
theorem N_type_56 {T : List Int32} (hT : CC cI cA (S.1, T, S.2.2)) (hp : S.2.1 <+: T) (p : Int64) : EvP m_N_type (d + 1) 12 [(0, .ref 1), (1, .long p), (3, .int (nI S.2.1.length)), (4, .int 56)] [] (HC X cI cA rI rA ol J) (CP X rI rA ol J S (.inr ((tys p [56, 48, 40, 32, 24, 16, 8, 0] T).elim 0 (fun _ => 1), S.1, (tys p [56, 48, 40, 32, 24, 16, 8, 0] T).getD S.2.1, S.2.2))) := by
  refine ep_iload (j := 3) d_N_type_12 rfl ?_
  refine ep_if_lt (tgt := 69) d_N_type_14 (by decide) (fun z => absurd z (by decide)) (fun _ => ?_)
  refine ep_lload_n (j := 1) d_N_type_17 rfl rfl ?_
  refine ep_iload (j := 3) d_N_type_18 rfl ?_
  refine ep_lushr d_N_type_20 ?_
  refine ep_l2i d_N_type_21 ?_
  refine ep_sipush (v := 255) d_N_type_22 (by decide) ?_
  refine ep_iand d_N_type_25 ?_
  refine ep_cg (y := lby p 56) rfl ?_
  refine ep_istore (lv' := [(0, .ref 1), (1, .long p), (3, .int (nI S.2.1.length)), (4, .int 56), (5, .int (lby p 56))]) [1, 2, 3, 4, 0] d_N_type_26 (by decide) rfl ?_
  refine ep_iload (j := 4) d_N_type_28 rfl ?_
  refine ep_if_eq (tgt := 63) d_N_type_30 (by decide) (fun c30 => ?_) (fun c30 => ?_)
  · refine ep_iinc (v := 48) (j := 3) (lv' := [(0, .ref 1), (1, .long p), (3, .int (nI S.2.1.length)), (4, .int 48), (5, .int (lby p 56))]) [1, 2, 3, 0, 4] d_N_type_63 rfl (by decide) (by decide) rfl ?_
    refine ep_goto (tgt := 12) d_N_type_66 (by decide) ?_
    rw [tys_z c30]
    exact N_type_48 (S := S) hT hp p (lby p 56)
  · refine ep_iload (j := 4) d_N_type_33 rfl ?_
    refine ep_callSb (As := [.int (lby p 56)]) (st := []) d_N_type_35 (Or.inl lk_N_112) cal_N_isTypeable tm_N_isTypeable ti_N rfl (Nat.le_of_ble_eq_true rfl) (Nat.le_of_ble_eq_true rfl) rfl rfl (N_isTypeable (lby p 56)) (fun b35 => ?_) (fun b35 => ?_)
    · refine ep_if_eq (tgt := 53) d_N_type_38 (by decide) (fun z => absurd z (by decide)) (fun _ => ?_)
      refine ep_aload_n (j := 0) d_N_type_41 rfl rfl ?_
      refine ep_getf (fi := 1) (v := .ref 4) d_N_type_42 cl4 lf_N_19 (by decide) rfl rfl ?_
      refine ep_iload (j := 4) d_N_type_45 rfl ?_
      by_cases hl : T.length < 120
      · refine ep_callVi (As := [.int (lby p 56)]) (st := []) d_N_type_47 lk_N_116 cal_W_add tm_W_add ts_W_add rfl rfl rfl (Nat.le_of_ble_eq_true rfl) (Nat.le_of_ble_eq_true rfl) rfl rfl (CX_add (S := (S.1, T, S.2.2)) hT.2.1 hl (lby p 56)) ?_
        refine ep_if_ne (tgt := 63) d_N_type_50 (by decide) (fun _ => ?_) (fun z => absurd z (by decide))
        refine ep_iinc (v := 48) (j := 3) (lv' := [(0, .ref 1), (1, .long p), (3, .int (nI S.2.1.length)), (4, .int 48), (5, .int (lby p 56))]) [1, 2, 3, 0, 4] d_N_type_63 rfl (by decide) (by decide) rfl ?_
        refine ep_goto (tgt := 12) d_N_type_66 (by decide) ?_
        rw [tys_a c30 b35 hl]
        exact N_type_48 (S := S) (T := T ++ [lby p 56]) (hT.add hl _) (hp.trans (List.prefix_append _ _)) p (lby p 56)
      · refine ep_callVi (As := [.int (lby p 56)]) (st := []) d_N_type_47 lk_N_116 cal_W_add tm_W_add ts_W_add rfl rfl rfl (Nat.le_of_ble_eq_true rfl) (Nat.le_of_ble_eq_true rfl) rfl rfl (CX_add_no (S := (S.1, T, S.2.2)) hT.2.1 hl (lby p 56)) ?_
        refine ep_if_ne (tgt := 63) d_N_type_50 (by decide) (fun z => absurd (by decide) z) (fun _ => ?_)
        refine ep_aload_n (j := 0) d_N_type_53 rfl rfl ?_
        refine ep_getf (fi := 1) (v := .ref 4) d_N_type_54 cl4 lf_N_19 (by decide) rfl rfl ?_
        refine ep_iload_n (j := 2) d_N_type_57 rfl rfl ?_
        refine ep_callVv (As := [.int (nI S.2.1.length)]) (st := []) d_N_type_58 lk_N_119 cal_W_cut tm_W_cut ts_W_cut rfl rfl rfl (Nat.le_of_ble_eq_true rfl) (Nat.le_of_ble_eq_true rfl) rfl rfl (CX_cut (S := (S.1, T, S.2.2)) hT.2.1 hp.length_le) ?_
        refine ep_iconst (v := 0) d_N_type_61 (by decide) ?_
        exact ep_iret d_N_type_62 rfl rfl (CP_pre (q := ((0 : Int32), S.1, S.2.1, S.2.2)) (by rw [tys_x c30 (fun u => hl u.2)]; rfl) rfl (hT.cut (U := S.2.1) hp))
    · refine ep_if_eq (tgt := 53) d_N_type_38 (by decide) (fun _ => ?_) (fun z => absurd (by decide) z)
      refine ep_aload_n (j := 0) d_N_type_53 rfl rfl ?_
      refine ep_getf (fi := 1) (v := .ref 4) d_N_type_54 cl4 lf_N_19 (by decide) rfl rfl ?_
      refine ep_iload_n (j := 2) d_N_type_57 rfl rfl ?_
      refine ep_callVv (As := [.int (nI S.2.1.length)]) (st := []) d_N_type_58 lk_N_119 cal_W_cut tm_W_cut ts_W_cut rfl rfl rfl (Nat.le_of_ble_eq_true rfl) (Nat.le_of_ble_eq_true rfl) rfl rfl (CX_cut (S := (S.1, T, S.2.2)) hT.2.1 hp.length_le) ?_
      refine ep_iconst (v := 0) d_N_type_61 (by decide) ?_
      exact ep_iret d_N_type_62 rfl rfl (CP_pre (q := ((0 : Int32), S.1, S.2.1, S.2.2)) (by rw [tys_x c30 (fun u => b35 u.1)]; rfl) rfl (hT.cut (U := S.2.1) hp))
set_option maxHeartbeats 4000000 in
set_option maxRecDepth 100000 in
theorem N_type (hc : CC cI cA S) (p : Int64) : EvP m_N_type (d + 1) 0 [(0, .ref 1), (1, .long p)] [] (HC X cI cA rI rA ol J) (CP X rI rA ol J S (.inr (cType S p))) := by
  refine ep_aload_n (j := 0) d_N_type_0 rfl rfl ?_
  refine ep_getf (fi := 1) (v := .ref 4) d_N_type_1 cl4 lf_N_19 (by decide) rfl rfl ?_
  refine ep_callVi (As := []) (st := []) d_N_type_4 lk_N_108 cal_W_size tm_W_size ts_W_size rfl rfl rfl (Nat.le_of_ble_eq_true rfl) (Nat.le_of_ble_eq_true rfl) rfl rfl (CX_size (S := S) hc.2.1) ?_
  refine ep_istore_n (lv' := [(0, .ref 1), (1, .long p), (3, .int (nI S.2.1.length))]) [1, 2, 0] d_N_type_7 rfl (by decide) rfl ?_
  refine ep_bipush (v := 56) d_N_type_8 (by decide) ?_
  refine ep_istore (lv' := [(0, .ref 1), (1, .long p), (3, .int (nI S.2.1.length)), (4, .int 56)]) [1, 2, 3, 0] d_N_type_10 (by decide) rfl ?_
  exact N_type_56 (S := S) hc (List.prefix_refl _) p
end CM
