/-! the reader: an entity; by program (wip/whole/gen27.py) -/
section RD
variable {d : Nat} {X : Nat × (Nat → Int32)} {cI : Nat → Int32} {cA : Nat → Nat → Int32} {rI : Nat → Int32} {rA : Nat → Nat → Int32} {ol : Int64} {J : mH} {L : List Int32} {N0 : List (List Int32)} {s : RS}
set_option maxHeartbeats 4000000 in
set_option maxRecDepth 100000 in
theorem R_entity_b {N : List (List Int32)} (hR : CR cI cA L N0 (N, [], 0)) : EvP m_R_readEntity (d + 130) 13 [(0, .ref 13)] [] (HC X cI cA rI rA ol J) (RP X cI cA rI rA ol J L N0 (rEnt L N)) := by
  have hr15 : ∀ cI cA s, CR cI cA L N0 s → EvP m_R_readType (d + 105 + 6) 0 [(0, .ref 13), (1, .int ((1 : Int32) + 1))] [] (HC X cI cA rI rA ol J) (RP X cI cA rI rA ol J L N0 (rTyp L 15 s)) := fun cI cA s h => (R_readType (d := d) 15 (l := 1 + 1) (by decide +kernel) (by omega) cI cA s h).up (by omega)
  have hr16 : ∀ cI cA s, CR cI cA L N0 s → EvP m_R_readType (d + 112 + 6) 0 [(0, .ref 13), (1, .int (1 : Int32))] [] (HC X cI cA rI rA ol J) (RP X cI cA rI rA ol J L N0 (rTyp L 16 s)) := fun cI cA s h => (R_readType (d := d) 16 (l := 1) (by decide +kernel) (by omega) cI cA s h).up (by omega)
  refine ep_aload_n (j := 0) d_R_readEntity_13 rfl rfl ?_
  refine ep_bipush (v := 95) d_R_readEntity_14 (by decide) ?_
  refine ep_callVq (As := [.int 95]) (st := []) d_R_readEntity_16 lk_R_33 cal_R_pass tm_R_pass ts_R_pass rfl rfl rfl (Nat.le_of_ble_eq_true rfl) (Nat.le_of_ble_eq_true rfl) rfl rfl (R_pass hR 95 (by decide)) (fun q1 cI1 cA1 e1 hR1 f1 => ?_) (fun k cI1 cA1 s1 e1 hR1 f1 => RP_x (Fr2.trans Fr2.rfl' f1) (by first | (simp [rEnt, rEnd, bnd_i, bnd_x, e1]; done) | simp_all [rEnt, rEnd, bnd_i, bnd_x]) hR1)
  have F1 := Fr2.trans Fr2.rfl' f1
  refine ep_aload_n (j := 0) d_R_readEntity_19 rfl rfl ?_
  refine ep_bipush (v := 90) d_R_readEntity_20 (by decide) ?_
  refine ep_callVq (As := [.int 90]) (st := []) d_R_readEntity_22 lk_R_33 cal_R_pass tm_R_pass ts_R_pass rfl rfl rfl (Nat.le_of_ble_eq_true rfl) (Nat.le_of_ble_eq_true rfl) rfl rfl (R_pass hR1 90 (by decide)) (fun q2 cI2 cA2 e2 hR2 f2 => ?_) (fun k cI2 cA2 s2 e2 hR2 f2 => RP_x (Fr2.trans F1 f2) (by first | (simp [rEnt, rEnd, bnd_i, bnd_x, e1, e2]; done) | simp_all [rEnt, rEnd, bnd_i, bnd_x]) hR2)
  have F2 := Fr2.trans F1 f2
  refine ep_aload_n (j := 0) d_R_readEntity_25 rfl rfl ?_
  refine ep_iconst (v := 1) d_R_readEntity_26 (by decide) ?_
  refine ep_callVq (As := [.int 1]) (st := []) d_R_readEntity_27 lk_R_36 cal_R_readScoped tm_R_readScoped ts_R_readScoped rfl rfl rfl (Nat.le_of_ble_eq_true rfl) (Nat.le_of_ble_eq_true rfl) rfl rfl ((R_readScoped (d := d + 105) (l := 1) hR2 hr15).up (by omega)) (fun q3 cI3 cA3 e3 hR3 f3 => ?_) (fun k cI3 cA3 s3 e3 hR3 f3 => RP_x (Fr2.trans F2 f3) (by first | (simp [rEnt, rEnd, bnd_i, bnd_x, e1, e2, e3]; done) | simp_all [rEnt, rEnd, bnd_i, bnd_x]) hR3)
  have F3 := Fr2.trans F2 f3
  refine ep_istore_n (lv' := [(0, .ref 13), (1, .int q3.1)]) [1, 0] d_R_readEntity_30 rfl (by decide) rfl ?_
  refine ep_aload_n (j := 0) d_R_readEntity_31 rfl rfl ?_
  refine ep_getf (fi := 1) (v := .ref 2) d_R_readEntity_32 cl1 lf_R_18 (by decide) rfl rfl ?_
  refine ep_iload_n (j := 1) d_R_readEntity_35 rfl rfl ?_
  refine ep_callVi (As := [.int q3.1]) (st := []) d_R_readEntity_36 lk_R_40 cal_D_kindOf tm_D_kindOf ts_D_kindOf rfl rfl rfl (Nat.le_of_ble_eq_true rfl) (Nat.le_of_ble_eq_true rfl) rfl rfl (D_kindN hR3.1 _) ?_
  refine ep_iconst (v := 3) d_R_readEntity_39 (by decide) ?_
  refine ep_icmp_ne (tgt := 51) d_R_readEntity_40 (by decide) (fun c40 => ?_) (fun c40 => ?_)
  · refine ep_iconst (v := (-1)) d_R_readEntity_51 (by decide) ?_
    refine ep_istore_n (lv' := [(0, .ref 13), (1, .int q3.1), (2, .int (-1))]) [1, 2, 0] d_R_readEntity_52 rfl (by decide) rfl ?_
    refine ep_aload_n (j := 0) d_R_readEntity_53 rfl rfl ?_
    refine ep_iconst (v := 1) d_R_readEntity_54 (by decide) ?_
    refine ep_callVq (As := [.int 1]) (st := []) d_R_readEntity_55 lk_R_48 cal_R_readFirstParameter tm_R_readFirstParameter ts_R_readFirstParameter rfl rfl rfl (Nat.le_of_ble_eq_true rfl) (Nat.le_of_ble_eq_true rfl) rfl rfl ((R_readFirstParameter (d := d + 112) hR3 hr16).up (by omega)) (fun q4 cI4 cA4 e4 hR4 f4 => ?_) (fun k cI4 cA4 s4 e4 hR4 f4 => RP_x (Fr2.trans F3 f4) (by first | (simp [rEnt, rEnd, bnd_i, bnd_x, e1, e2, e3, c40, e4]; done) | simp_all [rEnt, rEnd, bnd_i, bnd_x]) hR4)
    have F4 := Fr2.trans F3 f4
    refine ep_istore_n (lv' := [(0, .ref 13), (1, .int q3.1), (2, .int (-1)), (3, .int q4.1)]) [1, 2, 3, 0] d_R_readEntity_58 rfl (by decide) rfl ?_
    refine ep_aload_n (j := 0) d_R_readEntity_59 rfl rfl ?_
    refine ep_iload_n (j := 3) d_R_readEntity_60 rfl rfl ?_
    refine ep_iconst (v := (-1)) d_R_readEntity_61 (by decide) ?_
    refine ep_iconst (v := 1) d_R_readEntity_62 (by decide) ?_
    refine ep_callVq (As := [.int q4.1, .int (-1), .int 1]) (st := []) d_R_readEntity_63 lk_R_51 cal_R_readNextParameter tm_R_readNextParameter ts_R_readNextParameter rfl rfl rfl (Nat.le_of_ble_eq_true rfl) (Nat.le_of_ble_eq_true rfl) rfl rfl ((R_readNextParameter (d := d + 112) hR4 hr16 q4.1 (-1)).up (by omega)) (fun q5 cI5 cA5 e5 hR5 f5 => ?_) (fun k cI5 cA5 s5 e5 hR5 f5 => RP_x (Fr2.trans F4 f5) (by first | (simp [rEnt, rEnd, bnd_i, bnd_x, e1, e2, e3, c40, e4, e5]; done) | simp_all [rEnt, rEnd, bnd_i, bnd_x]) hR5)
    have F5 := Fr2.trans F4 f5
    refine ep_istore (lv' := [(0, .ref 13), (1, .int q3.1), (2, .int (-1)), (3, .int q4.1), (4, .int q5.1)]) [1, 2, 3, 4, 0] d_R_readEntity_66 (by decide) rfl ?_
    refine ep_aload_n (j := 0) d_R_readEntity_68 rfl rfl ?_
    refine ep_iload (j := 4) d_R_readEntity_69 rfl ?_
    refine ep_iconst (v := (-1)) d_R_readEntity_71 (by decide) ?_
    refine ep_iconst (v := 1) d_R_readEntity_72 (by decide) ?_
    refine ep_callVq (As := [.int q5.1, .int (-1), .int 1]) (st := []) d_R_readEntity_73 lk_R_51 cal_R_readNextParameter tm_R_readNextParameter ts_R_readNextParameter rfl rfl rfl (Nat.le_of_ble_eq_true rfl) (Nat.le_of_ble_eq_true rfl) rfl rfl ((R_readNextParameter (d := d + 112) hR5 hr16 q5.1 (-1)).up (by omega)) (fun q6 cI6 cA6 e6 hR6 f6 => ?_) (fun k cI6 cA6 s6 e6 hR6 f6 => RP_x (Fr2.trans F5 f6) (by first | (simp [rEnt, rEnd, bnd_i, bnd_x, e1, e2, e3, c40, e4, e5, e6]; done) | simp_all [rEnt, rEnd, bnd_i, bnd_x]) hR6)
    have F6 := Fr2.trans F5 f6
    refine ep_istore (lv' := [(0, .ref 13), (1, .int q3.1), (2, .int (-1)), (3, .int q4.1), (4, .int q5.1), (5, .int q6.1)]) [1, 2, 3, 4, 5, 0] d_R_readEntity_76 (by decide) rfl ?_
    refine ep_aload_n (j := 0) d_R_readEntity_78 rfl rfl ?_
    refine ep_callVi (As := []) (st := []) d_R_readEntity_79 lk_R_55 cal_R_next tm_R_next ts_R_next rfl rfl rfl (Nat.le_of_ble_eq_true rfl) (Nat.le_of_ble_eq_true rfl) rfl rfl (R_next hR6) ?_
    refine ep_iconst (v := (-1)) d_R_readEntity_82 (by decide) ?_
    refine ep_icmp_ne (tgt := 90) d_R_readEntity_83 (by decide) (fun c83 => ?_) (fun c83 => ?_)
    · refine ep_iconst (v := 0) d_R_readEntity_90 (by decide) ?_
      exact ep_callSX (As := [.int 0]) (st := []) d_R_readEntity_91 (Or.inl lk_R_59) cal_R_need tm_R_need ti_R rfl (Nat.le_of_ble_eq_true rfl) (Nat.le_of_ble_eq_true rfl) rfl rfl R_need0 (RP_x F6 (by first | (simp [rEnt, rEnd, bnd_i, bnd_x, e1, e2, e3, c40, e4, e5, e6, c83]; done) | simp_all [rEnt, rEnd, bnd_i, bnd_x]) hR6)
    · refine ep_iconst (v := 1) d_R_readEntity_86 (by decide) ?_
      refine ep_goto (tgt := 91) d_R_readEntity_87 (by decide) ?_
      refine ep_callSv (As := [.int 1]) (st := []) d_R_readEntity_91 (Or.inl lk_R_59) cal_R_need tm_R_need ti_R rfl (Nat.le_of_ble_eq_true rfl) (Nat.le_of_ble_eq_true rfl) rfl rfl R_need1 ?_
      refine ep_aload_n (j := 0) d_R_readEntity_94 rfl rfl ?_
      refine ep_getf (fi := 1) (v := .ref 2) d_R_readEntity_95 cl1 lf_R_18 (by decide) rfl rfl ?_
      refine ep_iload_n (j := 1) d_R_readEntity_98 rfl rfl ?_
      refine ep_iload_n (j := 2) d_R_readEntity_99 rfl rfl ?_
      refine ep_iload_n (j := 3) d_R_readEntity_100 rfl rfl ?_
      refine ep_iload (j := 4) d_R_readEntity_101 rfl ?_
      refine ep_iload (j := 5) d_R_readEntity_103 rfl ?_
      refine ep_callVq (As := [.int q3.1, .int (-1), .int q4.1, .int q5.1, .int q6.1]) (st := []) d_R_readEntity_105 lk_R_63 cal_D_addEntity tm_D_addEntity ts_D_addEntity rfl rfl rfl (Nat.le_of_ble_eq_true rfl) (Nat.le_of_ble_eq_true rfl) rfl rfl (RA_Entity hR6 q3.1 (-1) q4.1 q5.1 q6.1) (fun q7 cI7 cA7 e7 hR7 f7 => ?_) (fun k cI7 cA7 s7 e7 hR7 f7 => RP_x (Fr2.trans F6 f7) (by first | (simp [rEnt, rEnd, bnd_i, bnd_x, e1, e2, e3, c40, e4, e5, e6, c83, e7]; done) | simp_all [rEnt, rEnd, bnd_i, bnd_x]) hR7)
      have F7 := Fr2.trans F6 f7
      exact ep_iret d_R_readEntity_108 rfl rfl (RP_ok (f := fun q : Int32 × RS => some (.int q.1)) (q := (q7.1, q7.2)) F7 (by first | (simp [rEnt, rEnd, bnd_i, bnd_x, e1, e2, e3, c40, e4, e5, e6, c83, e7]; done) | simp_all [rEnt, rEnd, bnd_i, bnd_x]) hR7)
  · refine ep_aload_n (j := 0) d_R_readEntity_43 rfl rfl ?_
    refine ep_iconst (v := 1) d_R_readEntity_44 (by decide) ?_
    refine ep_callVq (As := [.int 1]) (st := []) d_R_readEntity_45 lk_R_45 cal_R_readType tm_R_readType ts_R_readType rfl rfl rfl (Nat.le_of_ble_eq_true rfl) (Nat.le_of_ble_eq_true rfl) rfl rfl ((hr16 _ _ _ hR3).up (by omega)) (fun q8 cI8 cA8 e8 hR8 f8 => ?_) (fun k cI8 cA8 s8 e8 hR8 f8 => RP_x (Fr2.trans F3 f8) (by first | (simp [rEnt, rEnd, bnd_i, bnd_x, e1, e2, e3, c40, e8]; done) | simp_all [rEnt, rEnd, bnd_i, bnd_x]) hR8)
    have F8 := Fr2.trans F3 f8
    refine ep_goto (tgt := 52) d_R_readEntity_48 (by decide) ?_
    refine ep_istore_n (lv' := [(0, .ref 13), (1, .int q3.1), (2, .int q8.1)]) [1, 2, 0] d_R_readEntity_52 rfl (by decide) rfl ?_
    refine ep_aload_n (j := 0) d_R_readEntity_53 rfl rfl ?_
    refine ep_iconst (v := 1) d_R_readEntity_54 (by decide) ?_
    refine ep_callVq (As := [.int 1]) (st := []) d_R_readEntity_55 lk_R_48 cal_R_readFirstParameter tm_R_readFirstParameter ts_R_readFirstParameter rfl rfl rfl (Nat.le_of_ble_eq_true rfl) (Nat.le_of_ble_eq_true rfl) rfl rfl ((R_readFirstParameter (d := d + 112) hR8 hr16).up (by omega)) (fun q9 cI9 cA9 e9 hR9 f9 => ?_) (fun k cI9 cA9 s9 e9 hR9 f9 => RP_x (Fr2.trans F8 f9) (by first | (simp [rEnt, rEnd, bnd_i, bnd_x, e1, e2, e3, c40, e8, e9]; done) | simp_all [rEnt, rEnd, bnd_i, bnd_x]) hR9)
    have F9 := Fr2.trans F8 f9
    refine ep_istore_n (lv' := [(0, .ref 13), (1, .int q3.1), (2, .int q8.1), (3, .int q9.1)]) [1, 2, 3, 0] d_R_readEntity_58 rfl (by decide) rfl ?_
    refine ep_aload_n (j := 0) d_R_readEntity_59 rfl rfl ?_
    refine ep_iload_n (j := 3) d_R_readEntity_60 rfl rfl ?_
    refine ep_iconst (v := (-1)) d_R_readEntity_61 (by decide) ?_
    refine ep_iconst (v := 1) d_R_readEntity_62 (by decide) ?_
    refine ep_callVq (As := [.int q9.1, .int (-1), .int 1]) (st := []) d_R_readEntity_63 lk_R_51 cal_R_readNextParameter tm_R_readNextParameter ts_R_readNextParameter rfl rfl rfl (Nat.le_of_ble_eq_true rfl) (Nat.le_of_ble_eq_true rfl) rfl rfl ((R_readNextParameter (d := d + 112) hR9 hr16 q9.1 (-1)).up (by omega)) (fun q10 cI10 cA10 e10 hR10 f10 => ?_) (fun k cI10 cA10 s10 e10 hR10 f10 => RP_x (Fr2.trans F9 f10) (by first | (simp [rEnt, rEnd, bnd_i, bnd_x, e1, e2, e3, c40, e8, e9, e10]; done) | simp_all [rEnt, rEnd, bnd_i, bnd_x]) hR10)
    have F10 := Fr2.trans F9 f10
    refine ep_istore (lv' := [(0, .ref 13), (1, .int q3.1), (2, .int q8.1), (3, .int q9.1), (4, .int q10.1)]) [1, 2, 3, 4, 0] d_R_readEntity_66 (by decide) rfl ?_
    refine ep_aload_n (j := 0) d_R_readEntity_68 rfl rfl ?_
    refine ep_iload (j := 4) d_R_readEntity_69 rfl ?_
    refine ep_iconst (v := (-1)) d_R_readEntity_71 (by decide) ?_
    refine ep_iconst (v := 1) d_R_readEntity_72 (by decide) ?_
    refine ep_callVq (As := [.int q10.1, .int (-1), .int 1]) (st := []) d_R_readEntity_73 lk_R_51 cal_R_readNextParameter tm_R_readNextParameter ts_R_readNextParameter rfl rfl rfl (Nat.le_of_ble_eq_true rfl) (Nat.le_of_ble_eq_true rfl) rfl rfl ((R_readNextParameter (d := d + 112) hR10 hr16 q10.1 (-1)).up (by omega)) (fun q11 cI11 cA11 e11 hR11 f11 => ?_) (fun k cI11 cA11 s11 e11 hR11 f11 => RP_x (Fr2.trans F10 f11) (by first | (simp [rEnt, rEnd, bnd_i, bnd_x, e1, e2, e3, c40, e8, e9, e10, e11]; done) | simp_all [rEnt, rEnd, bnd_i, bnd_x]) hR11)
    have F11 := Fr2.trans F10 f11
    refine ep_istore (lv' := [(0, .ref 13), (1, .int q3.1), (2, .int q8.1), (3, .int q9.1), (4, .int q10.1), (5, .int q11.1)]) [1, 2, 3, 4, 5, 0] d_R_readEntity_76 (by decide) rfl ?_
    refine ep_aload_n (j := 0) d_R_readEntity_78 rfl rfl ?_
    refine ep_callVi (As := []) (st := []) d_R_readEntity_79 lk_R_55 cal_R_next tm_R_next ts_R_next rfl rfl rfl (Nat.le_of_ble_eq_true rfl) (Nat.le_of_ble_eq_true rfl) rfl rfl (R_next hR11) ?_
    refine ep_iconst (v := (-1)) d_R_readEntity_82 (by decide) ?_
    refine ep_icmp_ne (tgt := 90) d_R_readEntity_83 (by decide) (fun c83 => ?_) (fun c83 => ?_)
    · refine ep_iconst (v := 0) d_R_readEntity_90 (by decide) ?_
      exact ep_callSX (As := [.int 0]) (st := []) d_R_readEntity_91 (Or.inl lk_R_59) cal_R_need tm_R_need ti_R rfl (Nat.le_of_ble_eq_true rfl) (Nat.le_of_ble_eq_true rfl) rfl rfl R_need0 (RP_x F11 (by first | (simp [rEnt, rEnd, bnd_i, bnd_x, e1, e2, e3, c40, e8, e9, e10, e11, c83]; done) | simp_all [rEnt, rEnd, bnd_i, bnd_x]) hR11)
    · refine ep_iconst (v := 1) d_R_readEntity_86 (by decide) ?_
      refine ep_goto (tgt := 91) d_R_readEntity_87 (by decide) ?_
      refine ep_callSv (As := [.int 1]) (st := []) d_R_readEntity_91 (Or.inl lk_R_59) cal_R_need tm_R_need ti_R rfl (Nat.le_of_ble_eq_true rfl) (Nat.le_of_ble_eq_true rfl) rfl rfl R_need1 ?_
      refine ep_aload_n (j := 0) d_R_readEntity_94 rfl rfl ?_
      refine ep_getf (fi := 1) (v := .ref 2) d_R_readEntity_95 cl1 lf_R_18 (by decide) rfl rfl ?_
      refine ep_iload_n (j := 1) d_R_readEntity_98 rfl rfl ?_
      refine ep_iload_n (j := 2) d_R_readEntity_99 rfl rfl ?_
      refine ep_iload_n (j := 3) d_R_readEntity_100 rfl rfl ?_
      refine ep_iload (j := 4) d_R_readEntity_101 rfl ?_
      refine ep_iload (j := 5) d_R_readEntity_103 rfl ?_
      refine ep_callVq (As := [.int q3.1, .int q8.1, .int q9.1, .int q10.1, .int q11.1]) (st := []) d_R_readEntity_105 lk_R_63 cal_D_addEntity tm_D_addEntity ts_D_addEntity rfl rfl rfl (Nat.le_of_ble_eq_true rfl) (Nat.le_of_ble_eq_true rfl) rfl rfl (RA_Entity hR11 q3.1 q8.1 q9.1 q10.1 q11.1) (fun q12 cI12 cA12 e12 hR12 f12 => ?_) (fun k cI12 cA12 s12 e12 hR12 f12 => RP_x (Fr2.trans F11 f12) (by first | (simp [rEnt, rEnd, bnd_i, bnd_x, e1, e2, e3, c40, e8, e9, e10, e11, c83, e12]; done) | simp_all [rEnt, rEnd, bnd_i, bnd_x]) hR12)
      have F12 := Fr2.trans F11 f12
      exact ep_iret d_R_readEntity_108 rfl rfl (RP_ok (f := fun q : Int32 × RS => some (.int q.1)) (q := (q12.1, q12.2)) F12 (by first | (simp [rEnt, rEnd, bnd_i, bnd_x, e1, e2, e3, c40, e8, e9, e10, e11, c83, e12]; done) | simp_all [rEnt, rEnd, bnd_i, bnd_x]) hR12)
/-- the reader before it reads: its table of any length -/
theorem R_readEntity {N : List (List Int32)} {n : Nat} (hN : CN cI cA N) (h0 : N0 <+: N) (hT : cI 2 = nI L.length ∧ L.length ≤ 120 ∧ L = rowL (cA 1) L.length) (h6 : cI 6 = nI n) (hn : n ≤ 120) : EvP m_R_readEntity (d + 130) 0 [(0, .ref 13)] [] (HC X cI cA rI rA ol J) (RP X cI cA rI rA ol J L N0 (rEnt L N)) := by
  refine ep_aload_n (j := 0) d_R_readEntity_0 rfl rfl ?_
  refine ep_iconst (v := 0) d_R_readEntity_1 (by decide) ?_
  refine ep_putf' (fi := 3) (h2 := HC X (upd cI 7 0) cA rI rA ol J) d_R_readEntity_2 cl1 lf_R_25 (by decide) (Or.inl rfl) rfl rfl hI_13_3 ?_
  refine ep_aload_n (j := 0) d_R_readEntity_5 rfl rfl ?_
  refine ep_getf (fi := 0) (v := .ref 14) d_R_readEntity_6 cl1 lf_R_12 (by decide) rfl rfl ?_
  refine ep_iconst (v := 0) d_R_readEntity_9 (by decide) ?_
  have ho : (HC X (upd cI 7 0) cA rI rA ol J)[14]? = some (mO 2 [.ref 15, .int (nI n)]) := by rw [← h6]; rfl
  have ev := w_cut (d := d + 129) ho (show (HC X (upd cI 7 0) cA rI rA ol J)[15]? = some (mA 120 (cA 5)) from rfl) (by decide) hn (k := 0) (Nat.zero_le _)
  rw [nI_0] at ev
  refine ep_callVv (h2 := HC X (upd (upd cI 7 0) 6 0) cA rI rA ol J) (As := [.int 0]) (st := []) d_R_readEntity_10 lk_R_29 cal_W_cut tm_W_cut ts_W_cut rfl rfl rfl (Nat.le_of_ble_eq_true rfl) (Nat.le_of_ble_eq_true rfl) rfl rfl ev ?_
  refine (R_entity_b (N0 := N0) (N := N) (L := L) (cI := upd (upd cI 7 0) 6 0) ⟨hN, h0, hT, ⟨nI_0.symm, Nat.zero_le _, rfl⟩, nI_0.symm, Nat.zero_le _⟩).mono (fun r h2 q => RP_fr ⟨fun k _ h6 h7 => ?_, fun _ _ _ => rfl⟩ q)
  unfold upd
  rw [if_neg h6, if_neg h7]
end RD
