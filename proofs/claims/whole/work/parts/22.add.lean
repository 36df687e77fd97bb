/-! adding a node; by program (wip/whole/gen21.py) -/
section NE
variable {d : Nat} {X : Nat × (Nat → Int32)} {cI : Nat → Int32} {cA : Nat → Nat → Int32} {rI : Nat → Int32} {rA : Nat → Nat → Int32} {ol : Int64} {J : mH} {D : Nat} {N : List (List Int32)}
abbrev alP (c : Nat → Int32) (p q : Nat) : Prop := c (p + 0) = c (q + 0) ∧ c (p + 1) = c (q + 1) ∧ c (p + 2) = c (q + 2) ∧ c (p + 3) = c (q + 3) ∧ c (p + 4) = c (q + 4) ∧ c (p + 5) = c (q + 5) ∧ c (p + 6) = c (q + 6) ∧ c (p + 7) = c (q + 7)
theorem nI_lit (p : Nat) {k : Int32} {n : Nat} (h : k = nI n) : nI p + k = nI (p + n) := by rw [h, nI_add]
set_option maxHeartbeats 4000000 in
set_option maxRecDepth 100000 in
theorem D_areAlike {p q : Nat} (hp : p + 8 ≤ 1440) (hq : q + 8 ≤ 1440) : EvP m_D_areAlike (d) 0 [(0, .ref 2), (1, .int (nI p)), (2, .int (nI q))] [] (HC X cI cA rI rA ol J) (Ri (if alP (cA 0) p q then 1 else 0) (HC X cI cA rI rA ol J)) := by
  refine ep_iconst (v := 0) d_D_areAlike_0 (by decide) ?_
  refine ep_istore_n (lv' := [(0, .ref 2), (1, .int (nI p)), (2, .int (nI q)), (3, .int 0)]) [1, 2, 3, 0] d_D_areAlike_1 rfl (by decide) rfl ?_
  refine ep_iload_n (j := 3) d_D_areAlike_2 rfl rfl ?_
  refine ep_bipush (v := 8) d_D_areAlike_3 (by decide) ?_
  refine ep_icmp_ge (tgt := 35) d_D_areAlike_5 (by decide) (fun z => absurd z (by decide)) (fun _ => ?_)
  refine ep_aload_n (j := 0) d_D_areAlike_8 rfl rfl ?_
  refine ep_getf (fi := 0) (v := .ref 3) d_D_areAlike_9 cl0 lf_D_11 (by decide) rfl rfl ?_
  refine ep_iload_n (j := 1) d_D_areAlike_12 rfl rfl ?_
  refine ep_iload_n (j := 3) d_D_areAlike_13 rfl rfl ?_
  refine ep_iadd d_D_areAlike_14 ?_
  refine ep_iald (f := cA 0) (p + 0) d_D_areAlike_15 rfl (nI_lit p (by decide +kernel)) (by omega) (by decide) ?_
  refine ep_aload_n (j := 0) d_D_areAlike_16 rfl rfl ?_
  refine ep_getf (fi := 0) (v := .ref 3) d_D_areAlike_17 cl0 lf_D_11 (by decide) rfl rfl ?_
  refine ep_iload_n (j := 2) d_D_areAlike_20 rfl rfl ?_
  refine ep_iload_n (j := 3) d_D_areAlike_21 rfl rfl ?_
  refine ep_iadd d_D_areAlike_22 ?_
  refine ep_iald (f := cA 0) (q + 0) d_D_areAlike_23 rfl (nI_lit q (by decide +kernel)) (by omega) (by decide) ?_
  refine ep_icmp_eq (tgt := 29) d_D_areAlike_24 (by decide) (fun c24 => ?_) (fun c24 => ?_)
  · refine ep_iinc (v := 1) (j := 3) (lv' := [(0, .ref 2), (1, .int (nI p)), (2, .int (nI q)), (3, .int 1)]) [1, 2, 3, 0] d_D_areAlike_29 rfl (by decide) (by decide) rfl ?_
    refine ep_goto (tgt := 2) d_D_areAlike_32 (by decide) ?_
    refine ep_iload_n (j := 3) d_D_areAlike_2 rfl rfl ?_
    refine ep_bipush (v := 8) d_D_areAlike_3 (by decide) ?_
    refine ep_icmp_ge (tgt := 35) d_D_areAlike_5 (by decide) (fun z => absurd z (by decide)) (fun _ => ?_)
    refine ep_aload_n (j := 0) d_D_areAlike_8 rfl rfl ?_
    refine ep_getf (fi := 0) (v := .ref 3) d_D_areAlike_9 cl0 lf_D_11 (by decide) rfl rfl ?_
    refine ep_iload_n (j := 1) d_D_areAlike_12 rfl rfl ?_
    refine ep_iload_n (j := 3) d_D_areAlike_13 rfl rfl ?_
    refine ep_iadd d_D_areAlike_14 ?_
    refine ep_iald (f := cA 0) (p + 1) d_D_areAlike_15 rfl (nI_lit p (by decide +kernel)) (by omega) (by decide) ?_
    refine ep_aload_n (j := 0) d_D_areAlike_16 rfl rfl ?_
    refine ep_getf (fi := 0) (v := .ref 3) d_D_areAlike_17 cl0 lf_D_11 (by decide) rfl rfl ?_
    refine ep_iload_n (j := 2) d_D_areAlike_20 rfl rfl ?_
    refine ep_iload_n (j := 3) d_D_areAlike_21 rfl rfl ?_
    refine ep_iadd d_D_areAlike_22 ?_
    refine ep_iald (f := cA 0) (q + 1) d_D_areAlike_23 rfl (nI_lit q (by decide +kernel)) (by omega) (by decide) ?_
    refine ep_icmp_eq (tgt := 29) d_D_areAlike_24 (by decide) (fun c24_ => ?_) (fun c24_ => ?_)
    · refine ep_iinc (v := 2) (j := 3) (lv' := [(0, .ref 2), (1, .int (nI p)), (2, .int (nI q)), (3, .int 2)]) [1, 2, 3, 0] d_D_areAlike_29 rfl (by decide) (by decide) rfl ?_
      refine ep_goto (tgt := 2) d_D_areAlike_32 (by decide) ?_
      refine ep_iload_n (j := 3) d_D_areAlike_2 rfl rfl ?_
      refine ep_bipush (v := 8) d_D_areAlike_3 (by decide) ?_
      refine ep_icmp_ge (tgt := 35) d_D_areAlike_5 (by decide) (fun z => absurd z (by decide)) (fun _ => ?_)
      refine ep_aload_n (j := 0) d_D_areAlike_8 rfl rfl ?_
      refine ep_getf (fi := 0) (v := .ref 3) d_D_areAlike_9 cl0 lf_D_11 (by decide) rfl rfl ?_
      refine ep_iload_n (j := 1) d_D_areAlike_12 rfl rfl ?_
      refine ep_iload_n (j := 3) d_D_areAlike_13 rfl rfl ?_
      refine ep_iadd d_D_areAlike_14 ?_
      refine ep_iald (f := cA 0) (p + 2) d_D_areAlike_15 rfl (nI_lit p (by decide +kernel)) (by omega) (by decide) ?_
      refine ep_aload_n (j := 0) d_D_areAlike_16 rfl rfl ?_
      refine ep_getf (fi := 0) (v := .ref 3) d_D_areAlike_17 cl0 lf_D_11 (by decide) rfl rfl ?_
      refine ep_iload_n (j := 2) d_D_areAlike_20 rfl rfl ?_
      refine ep_iload_n (j := 3) d_D_areAlike_21 rfl rfl ?_
      refine ep_iadd d_D_areAlike_22 ?_
      refine ep_iald (f := cA 0) (q + 2) d_D_areAlike_23 rfl (nI_lit q (by decide +kernel)) (by omega) (by decide) ?_
      refine ep_icmp_eq (tgt := 29) d_D_areAlike_24 (by decide) (fun c24__ => ?_) (fun c24__ => ?_)
      · refine ep_iinc (v := 3) (j := 3) (lv' := [(0, .ref 2), (1, .int (nI p)), (2, .int (nI q)), (3, .int 3)]) [1, 2, 3, 0] d_D_areAlike_29 rfl (by decide) (by decide) rfl ?_
        refine ep_goto (tgt := 2) d_D_areAlike_32 (by decide) ?_
        refine ep_iload_n (j := 3) d_D_areAlike_2 rfl rfl ?_
        refine ep_bipush (v := 8) d_D_areAlike_3 (by decide) ?_
        refine ep_icmp_ge (tgt := 35) d_D_areAlike_5 (by decide) (fun z => absurd z (by decide)) (fun _ => ?_)
        refine ep_aload_n (j := 0) d_D_areAlike_8 rfl rfl ?_
        refine ep_getf (fi := 0) (v := .ref 3) d_D_areAlike_9 cl0 lf_D_11 (by decide) rfl rfl ?_
        refine ep_iload_n (j := 1) d_D_areAlike_12 rfl rfl ?_
        refine ep_iload_n (j := 3) d_D_areAlike_13 rfl rfl ?_
        refine ep_iadd d_D_areAlike_14 ?_
        refine ep_iald (f := cA 0) (p + 3) d_D_areAlike_15 rfl (nI_lit p (by decide +kernel)) (by omega) (by decide) ?_
        refine ep_aload_n (j := 0) d_D_areAlike_16 rfl rfl ?_
        refine ep_getf (fi := 0) (v := .ref 3) d_D_areAlike_17 cl0 lf_D_11 (by decide) rfl rfl ?_
        refine ep_iload_n (j := 2) d_D_areAlike_20 rfl rfl ?_
        refine ep_iload_n (j := 3) d_D_areAlike_21 rfl rfl ?_
        refine ep_iadd d_D_areAlike_22 ?_
        refine ep_iald (f := cA 0) (q + 3) d_D_areAlike_23 rfl (nI_lit q (by decide +kernel)) (by omega) (by decide) ?_
        refine ep_icmp_eq (tgt := 29) d_D_areAlike_24 (by decide) (fun c24___ => ?_) (fun c24___ => ?_)
        · refine ep_iinc (v := 4) (j := 3) (lv' := [(0, .ref 2), (1, .int (nI p)), (2, .int (nI q)), (3, .int 4)]) [1, 2, 3, 0] d_D_areAlike_29 rfl (by decide) (by decide) rfl ?_
          refine ep_goto (tgt := 2) d_D_areAlike_32 (by decide) ?_
          refine ep_iload_n (j := 3) d_D_areAlike_2 rfl rfl ?_
          refine ep_bipush (v := 8) d_D_areAlike_3 (by decide) ?_
          refine ep_icmp_ge (tgt := 35) d_D_areAlike_5 (by decide) (fun z => absurd z (by decide)) (fun _ => ?_)
          refine ep_aload_n (j := 0) d_D_areAlike_8 rfl rfl ?_
          refine ep_getf (fi := 0) (v := .ref 3) d_D_areAlike_9 cl0 lf_D_11 (by decide) rfl rfl ?_
          refine ep_iload_n (j := 1) d_D_areAlike_12 rfl rfl ?_
          refine ep_iload_n (j := 3) d_D_areAlike_13 rfl rfl ?_
          refine ep_iadd d_D_areAlike_14 ?_
          refine ep_iald (f := cA 0) (p + 4) d_D_areAlike_15 rfl (nI_lit p (by decide +kernel)) (by omega) (by decide) ?_
          refine ep_aload_n (j := 0) d_D_areAlike_16 rfl rfl ?_
          refine ep_getf (fi := 0) (v := .ref 3) d_D_areAlike_17 cl0 lf_D_11 (by decide) rfl rfl ?_
          refine ep_iload_n (j := 2) d_D_areAlike_20 rfl rfl ?_
          refine ep_iload_n (j := 3) d_D_areAlike_21 rfl rfl ?_
          refine ep_iadd d_D_areAlike_22 ?_
          refine ep_iald (f := cA 0) (q + 4) d_D_areAlike_23 rfl (nI_lit q (by decide +kernel)) (by omega) (by decide) ?_
          refine ep_icmp_eq (tgt := 29) d_D_areAlike_24 (by decide) (fun c24____ => ?_) (fun c24____ => ?_)
          · refine ep_iinc (v := 5) (j := 3) (lv' := [(0, .ref 2), (1, .int (nI p)), (2, .int (nI q)), (3, .int 5)]) [1, 2, 3, 0] d_D_areAlike_29 rfl (by decide) (by decide) rfl ?_
            refine ep_goto (tgt := 2) d_D_areAlike_32 (by decide) ?_
            refine ep_iload_n (j := 3) d_D_areAlike_2 rfl rfl ?_
            refine ep_bipush (v := 8) d_D_areAlike_3 (by decide) ?_
            refine ep_icmp_ge (tgt := 35) d_D_areAlike_5 (by decide) (fun z => absurd z (by decide)) (fun _ => ?_)
            refine ep_aload_n (j := 0) d_D_areAlike_8 rfl rfl ?_
            refine ep_getf (fi := 0) (v := .ref 3) d_D_areAlike_9 cl0 lf_D_11 (by decide) rfl rfl ?_
            refine ep_iload_n (j := 1) d_D_areAlike_12 rfl rfl ?_
            refine ep_iload_n (j := 3) d_D_areAlike_13 rfl rfl ?_
            refine ep_iadd d_D_areAlike_14 ?_
            refine ep_iald (f := cA 0) (p + 5) d_D_areAlike_15 rfl (nI_lit p (by decide +kernel)) (by omega) (by decide) ?_
            refine ep_aload_n (j := 0) d_D_areAlike_16 rfl rfl ?_
            refine ep_getf (fi := 0) (v := .ref 3) d_D_areAlike_17 cl0 lf_D_11 (by decide) rfl rfl ?_
            refine ep_iload_n (j := 2) d_D_areAlike_20 rfl rfl ?_
            refine ep_iload_n (j := 3) d_D_areAlike_21 rfl rfl ?_
            refine ep_iadd d_D_areAlike_22 ?_
            refine ep_iald (f := cA 0) (q + 5) d_D_areAlike_23 rfl (nI_lit q (by decide +kernel)) (by omega) (by decide) ?_
            refine ep_icmp_eq (tgt := 29) d_D_areAlike_24 (by decide) (fun c24_____ => ?_) (fun c24_____ => ?_)
            · refine ep_iinc (v := 6) (j := 3) (lv' := [(0, .ref 2), (1, .int (nI p)), (2, .int (nI q)), (3, .int 6)]) [1, 2, 3, 0] d_D_areAlike_29 rfl (by decide) (by decide) rfl ?_
              refine ep_goto (tgt := 2) d_D_areAlike_32 (by decide) ?_
              refine ep_iload_n (j := 3) d_D_areAlike_2 rfl rfl ?_
              refine ep_bipush (v := 8) d_D_areAlike_3 (by decide) ?_
              refine ep_icmp_ge (tgt := 35) d_D_areAlike_5 (by decide) (fun z => absurd z (by decide)) (fun _ => ?_)
              refine ep_aload_n (j := 0) d_D_areAlike_8 rfl rfl ?_
              refine ep_getf (fi := 0) (v := .ref 3) d_D_areAlike_9 cl0 lf_D_11 (by decide) rfl rfl ?_
              refine ep_iload_n (j := 1) d_D_areAlike_12 rfl rfl ?_
              refine ep_iload_n (j := 3) d_D_areAlike_13 rfl rfl ?_
              refine ep_iadd d_D_areAlike_14 ?_
              refine ep_iald (f := cA 0) (p + 6) d_D_areAlike_15 rfl (nI_lit p (by decide +kernel)) (by omega) (by decide) ?_
              refine ep_aload_n (j := 0) d_D_areAlike_16 rfl rfl ?_
              refine ep_getf (fi := 0) (v := .ref 3) d_D_areAlike_17 cl0 lf_D_11 (by decide) rfl rfl ?_
              refine ep_iload_n (j := 2) d_D_areAlike_20 rfl rfl ?_
              refine ep_iload_n (j := 3) d_D_areAlike_21 rfl rfl ?_
              refine ep_iadd d_D_areAlike_22 ?_
              refine ep_iald (f := cA 0) (q + 6) d_D_areAlike_23 rfl (nI_lit q (by decide +kernel)) (by omega) (by decide) ?_
              refine ep_icmp_eq (tgt := 29) d_D_areAlike_24 (by decide) (fun c24______ => ?_) (fun c24______ => ?_)
              · refine ep_iinc (v := 7) (j := 3) (lv' := [(0, .ref 2), (1, .int (nI p)), (2, .int (nI q)), (3, .int 7)]) [1, 2, 3, 0] d_D_areAlike_29 rfl (by decide) (by decide) rfl ?_
                refine ep_goto (tgt := 2) d_D_areAlike_32 (by decide) ?_
                refine ep_iload_n (j := 3) d_D_areAlike_2 rfl rfl ?_
                refine ep_bipush (v := 8) d_D_areAlike_3 (by decide) ?_
                refine ep_icmp_ge (tgt := 35) d_D_areAlike_5 (by decide) (fun z => absurd z (by decide)) (fun _ => ?_)
                refine ep_aload_n (j := 0) d_D_areAlike_8 rfl rfl ?_
                refine ep_getf (fi := 0) (v := .ref 3) d_D_areAlike_9 cl0 lf_D_11 (by decide) rfl rfl ?_
                refine ep_iload_n (j := 1) d_D_areAlike_12 rfl rfl ?_
                refine ep_iload_n (j := 3) d_D_areAlike_13 rfl rfl ?_
                refine ep_iadd d_D_areAlike_14 ?_
                refine ep_iald (f := cA 0) (p + 7) d_D_areAlike_15 rfl (nI_lit p (by decide +kernel)) (by omega) (by decide) ?_
                refine ep_aload_n (j := 0) d_D_areAlike_16 rfl rfl ?_
                refine ep_getf (fi := 0) (v := .ref 3) d_D_areAlike_17 cl0 lf_D_11 (by decide) rfl rfl ?_
                refine ep_iload_n (j := 2) d_D_areAlike_20 rfl rfl ?_
                refine ep_iload_n (j := 3) d_D_areAlike_21 rfl rfl ?_
                refine ep_iadd d_D_areAlike_22 ?_
                refine ep_iald (f := cA 0) (q + 7) d_D_areAlike_23 rfl (nI_lit q (by decide +kernel)) (by omega) (by decide) ?_
                refine ep_icmp_eq (tgt := 29) d_D_areAlike_24 (by decide) (fun c24_______ => ?_) (fun c24_______ => ?_)
                · refine ep_iinc (v := 8) (j := 3) (lv' := [(0, .ref 2), (1, .int (nI p)), (2, .int (nI q)), (3, .int 8)]) [1, 2, 3, 0] d_D_areAlike_29 rfl (by decide) (by decide) rfl ?_
                  refine ep_goto (tgt := 2) d_D_areAlike_32 (by decide) ?_
                  refine ep_iload_n (j := 3) d_D_areAlike_2 rfl rfl ?_
                  refine ep_bipush (v := 8) d_D_areAlike_3 (by decide) ?_
                  refine ep_icmp_ge (tgt := 35) d_D_areAlike_5 (by decide) (fun _ => ?_) (fun z => absurd (by decide) z)
                  refine ep_iconst (v := 1) d_D_areAlike_35 (by decide) ?_
                  exact ep_iret d_D_areAlike_36 rfl rfl (Ri_of (by rw [if_pos ⟨c24, c24_, c24__, c24___, c24____, c24_____, c24______, c24_______⟩]))
                · refine ep_iconst (v := 0) d_D_areAlike_27 (by decide) ?_
                  exact ep_iret d_D_areAlike_28 rfl rfl (Ri_of (by rw [if_neg (fun z => c24_______ z.2.2.2.2.2.2.2)]))
              · refine ep_iconst (v := 0) d_D_areAlike_27 (by decide) ?_
                exact ep_iret d_D_areAlike_28 rfl rfl (Ri_of (by rw [if_neg (fun z => c24______ z.2.2.2.2.2.2.1)]))
            · refine ep_iconst (v := 0) d_D_areAlike_27 (by decide) ?_
              exact ep_iret d_D_areAlike_28 rfl rfl (Ri_of (by rw [if_neg (fun z => c24_____ z.2.2.2.2.2.1)]))
          · refine ep_iconst (v := 0) d_D_areAlike_27 (by decide) ?_
            exact ep_iret d_D_areAlike_28 rfl rfl (Ri_of (by rw [if_neg (fun z => c24____ z.2.2.2.2.1)]))
        · refine ep_iconst (v := 0) d_D_areAlike_27 (by decide) ?_
          exact ep_iret d_D_areAlike_28 rfl rfl (Ri_of (by rw [if_neg (fun z => c24___ z.2.2.2.1)]))
      · refine ep_iconst (v := 0) d_D_areAlike_27 (by decide) ?_
        exact ep_iret d_D_areAlike_28 rfl rfl (Ri_of (by rw [if_neg (fun z => c24__ z.2.2.1)]))
    · refine ep_iconst (v := 0) d_D_areAlike_27 (by decide) ?_
      exact ep_iret d_D_areAlike_28 rfl rfl (Ri_of (by rw [if_neg (fun z => c24_ z.2.1)]))
  · refine ep_iconst (v := 0) d_D_areAlike_27 (by decide) ?_
    exact ep_iret d_D_areAlike_28 rfl rfl (Ri_of (by rw [if_neg (fun z => c24 z.1)]))
def AL (X : Nat × (Nat → Int32)) (cI : Nat → Int32) (cA : Nat → Nat → Int32) (rI : Nat → Int32) (rA : Nat → Nat → Int32) (ol : Int64) (J : mH) (D : Nat) : mR → mH → Prop := fun r h' => ∃ i, (∀ j, j < i → ¬ alP (cA 0) (j * 8) (D * 8)) ∧ r = .inl (some (.int (nI i))) ∧ ((i < D ∧ alP (cA 0) (i * 8) (D * 8) ∧ h' = HC X cI cA rI rA ol J) ∨ (i = D ∧ h' = HC X (upd cI 1 (nI (D + 1))) cA rI rA ol J))
theorem nI_m1 (D : Nat) (h : D + 1 < 2 ^ 31) : nI (D + 1) - 1 = nI D := by rw [nI_succ]; exact Int32.add_sub_cancel _ _
set_option maxHeartbeats 4000000 in
set_option maxRecDepth 100000 in
theorem D_add_l (hD : cI 1 = nI D) (hDl : D < 180) (k v f g a b c e : Int32) : ∀ (n i : Nat), D + 1 - i ≤ n → i ≤ D → (∀ j, j < i → ¬ alP (cA 0) (j * 8) (D * 8)) → EvP m_D_add (d + 1) 185 [(0, .ref 2), (1, .int k), (2, .int v), (3, .int f), (4, .int g), (5, .int a), (6, .int b), (7, .int c), (8, .int e), (9, .int (nI (D * 8))), (10, .int (nI i))] [] (HC X cI cA rI rA ol J) (AL X cI cA rI rA ol J D) := by
  intro n
  induction n with
  | zero => intro i h1 h2; omega
  | succ n ih =>
    intro i h1 h2 hno
    refine ep_iload (j := 10) d_D_add_185 rfl ?_
    refine ep_aload_n (j := 0) d_D_add_187 rfl rfl ?_
    refine ep_getf (fi := 2) (v := .int (cI 1)) d_D_add_188 cl0 lf_D_19 (by decide) rfl rfl ?_
    refine ep_icmp_ge (tgt := 217) d_D_add_191 (by decide) (fun c191 => ?_) (fun c191 => ?_)
    · refine ep_aload_n (j := 0) d_D_add_217 rfl rfl ?_
      refine ep_dup d_D_add_218 rfl ?_
      refine ep_getf (fi := 2) (v := .int (cI 1)) d_D_add_219 cl0 lf_D_19 (by decide) rfl rfl ?_
      refine ep_iconst (v := 1) d_D_add_222 (by decide) ?_
      refine ep_iadd d_D_add_223 ?_
      refine ep_cg (y := nI (D + 1)) (by rw [hD, nI_1]) ?_
      refine ep_putf' (fi := 2) (h2 := HC X (upd cI 1 (nI (D + 1))) cA rI rA ol J) d_D_add_224 cl0 lf_D_19 (by decide) (Or.inl rfl) rfl rfl hI_2_2 ?_
      refine ep_aload_n (j := 0) d_D_add_227 rfl rfl ?_
      refine ep_getf (fi := 2) (v := .int (nI (D + 1))) d_D_add_228 cl0 lf_D_19 (by decide) rfl rfl ?_
      refine ep_iconst (v := 1) d_D_add_231 (by decide) ?_
      refine ep_isub d_D_add_232 ?_
      refine ep_cg (y := nI D) (nI_m1 D (by omega)) ?_
      exact ep_iret d_D_add_233 rfl rfl (⟨D, (fun j hj => hno j (by have z : nI D ≤ nI i := (by rw [← hD]; exact c191); have := (nI_leI (by omega) (by omega)).mp z; omega)), rfl, Or.inr ⟨rfl, rfl⟩⟩)
    · have hiD : i < D := (nI_ltI (by omega) (by omega)).mp (by have := Int32.not_le.mp c191; rw [hD] at this; exact this)
      refine ep_aload_n (j := 0) d_D_add_194 rfl rfl ?_
      refine ep_iload (j := 10) d_D_add_195 rfl ?_
      refine ep_bipush (v := 8) d_D_add_197 (by decide) ?_
      refine ep_imul d_D_add_199 ?_
      refine ep_cg (y := nI (i * 8)) (by rw [nI_8, pk_mul]) ?_
      refine ep_iload (j := 9) d_D_add_200 rfl ?_
      refine ep_callVb (As := [.int (nI (i * 8)), .int (nI (D * 8))]) (st := []) d_D_add_202 lk_D_123 cal_D_areAlike tm_D_areAlike ts_D_areAlike rfl rfl rfl (Nat.le_of_ble_eq_true rfl) (Nat.le_of_ble_eq_true rfl) rfl rfl (D_areAlike (by omega) (by omega)) (fun b202 => ?_) (fun b202 => ?_)
      · refine ep_if_eq (tgt := 211) d_D_add_205 (by decide) (fun z => absurd z (by decide)) (fun _ => ?_)
        refine ep_iload (j := 10) d_D_add_208 rfl ?_
        exact ep_iret d_D_add_210 rfl rfl (⟨i, hno, rfl, Or.inl ⟨hiD, b202, rfl⟩⟩)
      · refine ep_if_eq (tgt := 211) d_D_add_205 (by decide) (fun _ => ?_) (fun z => absurd (by decide) z)
        refine ep_iinc (v := (nI (i + 1))) (j := 10) (lv' := [(0, .ref 2), (1, .int k), (2, .int v), (3, .int f), (4, .int g), (5, .int a), (6, .int b), (7, .int c), (8, .int e), (9, .int (nI (D * 8))), (10, .int (nI (i + 1)))]) [1, 2, 3, 4, 5, 6, 7, 8, 9, 10, 0] d_D_add_211 rfl (nI_1 i) (by decide) rfl ?_
        refine ep_goto (tgt := 185) d_D_add_214 (by decide) ?_
        exact ih (i + 1) (by omega) (by omega) (fun j hj => by
          rcases (show j < i ∨ j = i by omega) with q | q
          · exact hno j q
          · subst q; exact b202)
/-- the eight cells written at the end of the nodes -/
def put8 (c : Nat → Int32) (D : Nat) (k v f g a b e x : Int32) : Nat → Int32 := upd (upd (upd (upd (upd (upd (upd (upd c (D * 8 + 0) k) (D * 8 + 1) v) (D * 8 + 2) f) (D * 8 + 3) g) (D * 8 + 4) a) (D * 8 + 5) b) (D * 8 + 6) e) (D * 8 + 7) x
theorem put8_lo {c : Nat → Int32} {D : Nat} {k v f g a b e x : Int32} {j : Nat} (h : j < D * 8) : put8 c D k v f g a b e x j = c j := by
  unfold put8 upd
  rw [if_neg (by omega), if_neg (by omega), if_neg (by omega), if_neg (by omega), if_neg (by omega), if_neg (by omega), if_neg (by omega), if_neg (by omega)]
theorem put8_row {c : Nat → Int32} {D : Nat} {k v f g a b e x : Int32} : ndrow (put8 c D k v f g a b e x) D = [k, v, f, g, a, b, e, x] := by
  unfold ndrow put8 upd
  simp
theorem al_row {c : Nat → Int32} {i j : Nat} : alP c (i * 8) (j * 8) ↔ ndrow c i = ndrow c j := by
  unfold ndrow
  simp
theorem ixN_some {N : List (List Int32)} {v : List Int32} {i : Nat} (hi : N[i]? = some v) (hno : ∀ j, j < i → N[j]? ≠ some v) : ixN N v = i := by
  obtain ⟨hl, he⟩ := List.getElem?_eq_some_iff.mp hi
  unfold ixN
  rw [List.findIdx_eq hl]
  refine ⟨by simpa using he, fun j hj => ?_⟩
  have := hno j hj
  rw [List.getElem?_eq_getElem (by omega)] at this
  simpa using this
theorem ixN_none {N : List (List Int32)} {v : List Int32} (hno : ∀ j, j < N.length → N[j]? ≠ some v) : ixN N v = N.length := by
  unfold ixN
  rw [List.findIdx_eq_length]
  intro u hu
  obtain ⟨j, hj, rfl⟩ := List.getElem_of_mem hu
  have := hno j hj
  rw [List.getElem?_eq_getElem hj] at this
  simpa using this
theorem AL_AP {cA0 : Nat → Nat → Int32} {k v f g a b c e : Int32} (hN : CN cI cA0 N) (hl : N.length < 180) (hcA : cA = va_up cA0 0 (put8 (cA0 0) N.length k v f g a b c e)) {r : mR} {h' : mH} (q : AL X cI cA rI rA ol J N.length r h') : AP X cI cA0 rI rA ol J (.inr (mkN N [k, v, f, g, a, b, c, e])) r h' := by
  obtain ⟨i, hno, hr, q⟩ := q
  have h0 : cA 0 = put8 (cA0 0) N.length k v f g a b c e := by rw [hcA]; rfl
  have hk : ∀ q, q ≠ 0 → cA q = cA0 q := by
    intro q hq
    rw [hcA]
    unfold va_up
    rw [if_neg hq]
  have hrow : ∀ j, j < N.length → N[j]? = some (ndrow (cA 0) j) := by
    intro j hj
    have e1 : N[j]? = (ndL (cA0 0) N.length)[j]? := congrArg (fun z : List (List Int32) => z[j]?) hN.2.2
    rw [e1, ndL_at hj, h0]
    exact congrArg some (ndrow_cg fun m h1 _ => put8_lo (by omega)).symm
  have hlast : ndrow (cA 0) N.length = [k, v, f, g, a, b, c, e] := by rw [h0]; exact put8_row
  have hsame : ndL (cA 0) N.length = N := by
    rw [h0, ndL_cg (c := cA0 0) (fun j hj => put8_lo hj)]
    exact hN.2.2.symm
  have hne : ∀ j, j < i → j < N.length → N[j]? ≠ some [k, v, f, g, a, b, c, e] := by
    intro j hj hjl hq
    rw [hrow j hjl] at hq
    exact hno j hj (al_row.mpr (by rw [Option.some.inj hq, hlast]))
  rcases q with ⟨q1, q2, q3⟩ | ⟨q1, q2⟩
  · have e : ixN N [k, v, f, g, a, b, c, e] = i := ixN_some (by rw [hrow i q1, al_row.mp q2, hlast]) (fun j hj => hne j hj (by omega))
    refine Or.inr ⟨_, rfl, cI, cA, ?_, q3, ?_, fun _ _ => rfl, hk⟩
    · show r = .inl (some (.int (nI (ixN N _))))
      rw [e]; exact hr
    · show CN cI cA (if ixN N _ < N.length then N else _)
      rw [e, if_pos q1]
      exact ⟨hN.1, hN.2.1, hsame.symm⟩
  · subst q1
    have e : ixN N [k, v, f, g, a, b, c, e] = N.length := ixN_none (fun j hj => hne j hj hj)
    refine Or.inr ⟨_, rfl, upd cI 1 (nI (N.length + 1)), cA, ?_, q2, ?_, ?_, hk⟩
    · show r = .inl (some (.int (nI (ixN N _))))
      rw [e]; exact hr
    · show CN _ cA (if ixN N _ < N.length then N else _)
      rw [e, if_neg (Nat.lt_irrefl _)]
      refine ⟨?_, ?_, ?_⟩
      · rw [List.length_append]; rfl
      · rw [List.length_append]; exact hl
      · rw [List.length_append]
        show _ = ndL (cA 0) (N.length + 1)
        rw [ndL_succ, hsame, hlast]
    · intro q hq
      unfold upd
      rw [if_neg hq]
set_option maxHeartbeats 4000000 in
set_option maxRecDepth 100000 in
theorem D_add_w (hN : CN cI cA N) (hl : N.length < 180) (k v f g a b c e : Int32) : EvP m_D_add (d + 1) 93 [(0, .ref 2), (1, .int k), (2, .int v), (3, .int f), (4, .int g), (5, .int a), (6, .int b), (7, .int c), (8, .int e), (9, .int (nI (N.length * 8)))] [] (HC X cI cA rI rA ol J) (AP X cI cA rI rA ol J (.inr (mkN N [k, v, f, g, a, b, c, e + 1]))) := by
  refine ep_aload_n (j := 0) d_D_add_93 rfl rfl ?_
  refine ep_getf (fi := 0) (v := .ref 3) d_D_add_94 cl0 lf_D_11 (by decide) rfl rfl ?_
  refine ep_iload (j := 9) d_D_add_97 rfl ?_
  refine ep_iconst (v := 0) d_D_add_99 (by decide) ?_
  refine ep_iadd d_D_add_100 ?_
  refine ep_iload_n (j := 1) d_D_add_101 rfl rfl ?_
  refine ep_iast' (h2 := HC X cI (va_up cA 0 (upd (cA 0) (N.length * 8 + 0) k)) rI rA ol J) (N.length * 8 + 0) d_D_add_102 rfl (nI_lit (N.length * 8) (by decide +kernel)) (by omega) (by decide) hA_3 ?_
  refine ep_aload_n (j := 0) d_D_add_103 rfl rfl ?_
  refine ep_getf (fi := 0) (v := .ref 3) d_D_add_104 cl0 lf_D_11 (by decide) rfl rfl ?_
  refine ep_iload (j := 9) d_D_add_107 rfl ?_
  refine ep_iconst (v := 1) d_D_add_109 (by decide) ?_
  refine ep_iadd d_D_add_110 ?_
  refine ep_iload_n (j := 2) d_D_add_111 rfl rfl ?_
  refine ep_iast' (h2 := HC X cI (va_up cA 0 (upd (upd (cA 0) (N.length * 8 + 0) k) (N.length * 8 + 1) v)) rI rA ol J) (N.length * 8 + 1) d_D_add_112 rfl (nI_lit (N.length * 8) (by decide +kernel)) (by omega) (by decide) (hA_3.trans (congrArg (fun z => HC X cI z rI rA ol J) (va_up_up _ _ _ _))) ?_
  refine ep_aload_n (j := 0) d_D_add_113 rfl rfl ?_
  refine ep_getf (fi := 0) (v := .ref 3) d_D_add_114 cl0 lf_D_11 (by decide) rfl rfl ?_
  refine ep_iload (j := 9) d_D_add_117 rfl ?_
  refine ep_iconst (v := 2) d_D_add_119 (by decide) ?_
  refine ep_iadd d_D_add_120 ?_
  refine ep_iload_n (j := 3) d_D_add_121 rfl rfl ?_
  refine ep_iast' (h2 := HC X cI (va_up cA 0 (upd (upd (upd (cA 0) (N.length * 8 + 0) k) (N.length * 8 + 1) v) (N.length * 8 + 2) f)) rI rA ol J) (N.length * 8 + 2) d_D_add_122 rfl (nI_lit (N.length * 8) (by decide +kernel)) (by omega) (by decide) (hA_3.trans (congrArg (fun z => HC X cI z rI rA ol J) (va_up_up _ _ _ _))) ?_
  refine ep_aload_n (j := 0) d_D_add_123 rfl rfl ?_
  refine ep_getf (fi := 0) (v := .ref 3) d_D_add_124 cl0 lf_D_11 (by decide) rfl rfl ?_
  refine ep_iload (j := 9) d_D_add_127 rfl ?_
  refine ep_iconst (v := 3) d_D_add_129 (by decide) ?_
  refine ep_iadd d_D_add_130 ?_
  refine ep_iload (j := 4) d_D_add_131 rfl ?_
  refine ep_iast' (h2 := HC X cI (va_up cA 0 (upd (upd (upd (upd (cA 0) (N.length * 8 + 0) k) (N.length * 8 + 1) v) (N.length * 8 + 2) f) (N.length * 8 + 3) g)) rI rA ol J) (N.length * 8 + 3) d_D_add_133 rfl (nI_lit (N.length * 8) (by decide +kernel)) (by omega) (by decide) (hA_3.trans (congrArg (fun z => HC X cI z rI rA ol J) (va_up_up _ _ _ _))) ?_
  refine ep_aload_n (j := 0) d_D_add_134 rfl rfl ?_
  refine ep_getf (fi := 0) (v := .ref 3) d_D_add_135 cl0 lf_D_11 (by decide) rfl rfl ?_
  refine ep_iload (j := 9) d_D_add_138 rfl ?_
  refine ep_iconst (v := 4) d_D_add_140 (by decide) ?_
  refine ep_iadd d_D_add_141 ?_
  refine ep_iload (j := 5) d_D_add_142 rfl ?_
  refine ep_iast' (h2 := HC X cI (va_up cA 0 (upd (upd (upd (upd (upd (cA 0) (N.length * 8 + 0) k) (N.length * 8 + 1) v) (N.length * 8 + 2) f) (N.length * 8 + 3) g) (N.length * 8 + 4) a)) rI rA ol J) (N.length * 8 + 4) d_D_add_144 rfl (nI_lit (N.length * 8) (by decide +kernel)) (by omega) (by decide) (hA_3.trans (congrArg (fun z => HC X cI z rI rA ol J) (va_up_up _ _ _ _))) ?_
  refine ep_aload_n (j := 0) d_D_add_145 rfl rfl ?_
  refine ep_getf (fi := 0) (v := .ref 3) d_D_add_146 cl0 lf_D_11 (by decide) rfl rfl ?_
  refine ep_iload (j := 9) d_D_add_149 rfl ?_
  refine ep_iconst (v := 5) d_D_add_151 (by decide) ?_
  refine ep_iadd d_D_add_152 ?_
  refine ep_iload (j := 6) d_D_add_153 rfl ?_
  refine ep_iast' (h2 := HC X cI (va_up cA 0 (upd (upd (upd (upd (upd (upd (cA 0) (N.length * 8 + 0) k) (N.length * 8 + 1) v) (N.length * 8 + 2) f) (N.length * 8 + 3) g) (N.length * 8 + 4) a) (N.length * 8 + 5) b)) rI rA ol J) (N.length * 8 + 5) d_D_add_155 rfl (nI_lit (N.length * 8) (by decide +kernel)) (by omega) (by decide) (hA_3.trans (congrArg (fun z => HC X cI z rI rA ol J) (va_up_up _ _ _ _))) ?_
  refine ep_aload_n (j := 0) d_D_add_156 rfl rfl ?_
  refine ep_getf (fi := 0) (v := .ref 3) d_D_add_157 cl0 lf_D_11 (by decide) rfl rfl ?_
  refine ep_iload (j := 9) d_D_add_160 rfl ?_
  refine ep_bipush (v := 6) d_D_add_162 (by decide) ?_
  refine ep_iadd d_D_add_164 ?_
  refine ep_iload (j := 7) d_D_add_165 rfl ?_
  refine ep_iast' (h2 := HC X cI (va_up cA 0 (upd (upd (upd (upd (upd (upd (upd (cA 0) (N.length * 8 + 0) k) (N.length * 8 + 1) v) (N.length * 8 + 2) f) (N.length * 8 + 3) g) (N.length * 8 + 4) a) (N.length * 8 + 5) b) (N.length * 8 + 6) c)) rI rA ol J) (N.length * 8 + 6) d_D_add_167 rfl (nI_lit (N.length * 8) (by decide +kernel)) (by omega) (by decide) (hA_3.trans (congrArg (fun z => HC X cI z rI rA ol J) (va_up_up _ _ _ _))) ?_
  refine ep_aload_n (j := 0) d_D_add_168 rfl rfl ?_
  refine ep_getf (fi := 0) (v := .ref 3) d_D_add_169 cl0 lf_D_11 (by decide) rfl rfl ?_
  refine ep_iload (j := 9) d_D_add_172 rfl ?_
  refine ep_bipush (v := 7) d_D_add_174 (by decide) ?_
  refine ep_iadd d_D_add_176 ?_
  refine ep_iload (j := 8) d_D_add_177 rfl ?_
  refine ep_iconst (v := 1) d_D_add_179 (by decide) ?_
  refine ep_iadd d_D_add_180 ?_
  refine ep_iast' (h2 := HC X cI (va_up cA 0 (upd (upd (upd (upd (upd (upd (upd (upd (cA 0) (N.length * 8 + 0) k) (N.length * 8 + 1) v) (N.length * 8 + 2) f) (N.length * 8 + 3) g) (N.length * 8 + 4) a) (N.length * 8 + 5) b) (N.length * 8 + 6) c) (N.length * 8 + 7) (e + 1))) rI rA ol J) (N.length * 8 + 7) d_D_add_181 rfl (nI_lit (N.length * 8) (by decide +kernel)) (by omega) (by decide) (hA_3.trans (congrArg (fun z => HC X cI z rI rA ol J) (va_up_up _ _ _ _))) ?_
  refine ep_iconst (v := 0) d_D_add_182 (by decide) ?_
  refine ep_istore (lv' := [(0, .ref 2), (1, .int k), (2, .int v), (3, .int f), (4, .int g), (5, .int a), (6, .int b), (7, .int c), (8, .int e), (9, .int (nI (N.length * 8))), (10, .int 0)]) [1, 2, 3, 4, 5, 6, 7, 8, 9, 10, 0] d_D_add_183 (by decide) rfl ?_
  refine (EvP.mono (D_add_l (cA := va_up cA 0 (upd (upd (upd (upd (upd (upd (upd (upd (cA 0) (N.length * 8 + 0) k) (N.length * 8 + 1) v) (N.length * 8 + 2) f) (N.length * 8 + 3) g) (N.length * 8 + 4) a) (N.length * 8 + 5) b) (N.length * 8 + 6) c) (N.length * 8 + 7) (e + 1))) (D := N.length) hN.1 hl k v f g a b c e _ 0 (Nat.le_refl _) (by omega) (fun j hj => absurd hj (Nat.not_lt_zero j))) (fun r h2 q => ?_))
  exact AL_AP (cA := va_up cA 0 (upd (upd (upd (upd (upd (upd (upd (upd (cA 0) (N.length * 8 + 0) k) (N.length * 8 + 1) v) (N.length * 8 + 2) f) (N.length * 8 + 3) g) (N.length * 8 + 4) a) (N.length * 8 + 5) b) (N.length * 8 + 6) c) (N.length * 8 + 7) (e + 1))) hN hl rfl q
set_option maxHeartbeats 4000000 in
set_option maxRecDepth 100000 in
theorem D_add (hN : CN cI cA N) (k v f g a b c : Int32) : EvP m_D_add (d + 2) 0 [(0, .ref 2), (1, .int k), (2, .int v), (3, .int f), (4, .int g), (5, .int a), (6, .int b), (7, .int c)] [] (HC X cI cA rI rA ol J) (AP X cI cA rI rA ol J (addN N k v f g a b c)) := by
  refine ep_aload_n (j := 0) d_D_add_0 rfl rfl ?_
  refine ep_iload_n (j := 3) d_D_add_1 rfl rfl ?_
  refine ep_callVi (As := [.int f]) (st := []) d_D_add_2 lk_D_111 cal_D_depthOf tm_D_depthOf ts_D_depthOf rfl rfl rfl (Nat.le_of_ble_eq_true rfl) (Nat.le_of_ble_eq_true rfl) rfl rfl (D_depthOf hN f) ?_
  refine ep_aload_n (j := 0) d_D_add_5 rfl rfl ?_
  refine ep_iload (j := 4) d_D_add_6 rfl ?_
  refine ep_callVi (As := [.int g]) (st := [.int (dN N f)]) d_D_add_8 lk_D_111 cal_D_depthOf tm_D_depthOf ts_D_depthOf rfl rfl rfl (Nat.le_of_ble_eq_true rfl) (Nat.le_of_ble_eq_true rfl) rfl rfl (D_depthOf hN g) ?_
  refine ep_mmax d_D_add_11 lk_D_114 tm_J_max ti_JM tc_J_max (Nat.le_of_ble_eq_true rfl) ?_
  refine ep_cg (y := mx (dN N f) (dN N g)) rfl ?_
  refine ep_istore (lv' := [(0, .ref 2), (1, .int k), (2, .int v), (3, .int f), (4, .int g), (5, .int a), (6, .int b), (7, .int c), (8, .int (mx (dN N f) (dN N g)))]) [1, 2, 3, 4, 5, 6, 7, 8, 0] d_D_add_14 (by decide) rfl ?_
  refine ep_iload (j := 8) d_D_add_16 rfl ?_
  refine ep_aload_n (j := 0) d_D_add_18 rfl rfl ?_
  refine ep_iload (j := 5) d_D_add_19 rfl ?_
  refine ep_callVi (As := [.int a]) (st := [.int (mx (dN N f) (dN N g))]) d_D_add_21 lk_D_111 cal_D_depthOf tm_D_depthOf ts_D_depthOf rfl rfl rfl (Nat.le_of_ble_eq_true rfl) (Nat.le_of_ble_eq_true rfl) rfl rfl (D_depthOf hN a) ?_
  refine ep_aload_n (j := 0) d_D_add_24 rfl rfl ?_
  refine ep_iload (j := 6) d_D_add_25 rfl ?_
  refine ep_callVi (As := [.int b]) (st := [.int (dN N a), .int (mx (dN N f) (dN N g))]) d_D_add_27 lk_D_111 cal_D_depthOf tm_D_depthOf ts_D_depthOf rfl rfl rfl (Nat.le_of_ble_eq_true rfl) (Nat.le_of_ble_eq_true rfl) rfl rfl (D_depthOf hN b) ?_
  refine ep_aload_n (j := 0) d_D_add_30 rfl rfl ?_
  refine ep_iload (j := 7) d_D_add_31 rfl ?_
  refine ep_callVi (As := [.int c]) (st := [.int (dN N b), .int (dN N a), .int (mx (dN N f) (dN N g))]) d_D_add_33 lk_D_111 cal_D_depthOf tm_D_depthOf ts_D_depthOf rfl rfl rfl (Nat.le_of_ble_eq_true rfl) (Nat.le_of_ble_eq_true rfl) rfl rfl (D_depthOf hN c) ?_
  refine ep_mmax d_D_add_36 lk_D_114 tm_J_max ti_JM tc_J_max (Nat.le_of_ble_eq_true rfl) ?_
  refine ep_cg (y := mx (dN N b) (dN N c)) rfl ?_
  refine ep_mmax d_D_add_39 lk_D_114 tm_J_max ti_JM tc_J_max (Nat.le_of_ble_eq_true rfl) ?_
  refine ep_cg (y := mx (dN N a) (mx (dN N b) (dN N c))) rfl ?_
  refine ep_mmax d_D_add_42 lk_D_114 tm_J_max ti_JM tc_J_max (Nat.le_of_ble_eq_true rfl) ?_
  refine ep_cg (y := dmN N f g a b c) rfl ?_
  refine ep_istore (lv' := [(0, .ref 2), (1, .int k), (2, .int v), (3, .int f), (4, .int g), (5, .int a), (6, .int b), (7, .int c), (8, .int (dmN N f g a b c))]) [1, 2, 3, 4, 5, 6, 7, 8, 0] d_D_add_45 (by decide) rfl ?_
  refine ep_iload (j := 8) d_D_add_47 rfl ?_
  refine ep_bipush (v := 16) d_D_add_49 (by decide) ?_
  refine ep_icmp_lt (tgt := 64) d_D_add_51 (by decide) (fun c51 => ?_) (fun c51 => ?_)
  · refine ep_aload_n (j := 0) d_D_add_64 rfl rfl ?_
    refine ep_getf (fi := 2) (v := .int (cI 1)) d_D_add_65 cl0 lf_D_19 (by decide) rfl rfl ?_
    refine ep_sipush (v := 180) d_D_add_68 (by decide) ?_
    refine ep_icmp_lt (tgt := 84) d_D_add_71 (by decide) (fun c71 => ?_) (fun c71 => ?_)
    · refine ep_aload_n (j := 0) d_D_add_84 rfl rfl ?_
      refine ep_getf (fi := 2) (v := .int (cI 1)) d_D_add_85 cl0 lf_D_19 (by decide) rfl rfl ?_
      refine ep_bipush (v := 8) d_D_add_88 (by decide) ?_
      refine ep_imul d_D_add_90 ?_
      refine ep_cg (y := nI (N.length * 8)) (by rw [hN.1, nI_8, pk_mul]) ?_
      refine ep_istore (lv' := [(0, .ref 2), (1, .int k), (2, .int v), (3, .int f), (4, .int g), (5, .int a), (6, .int b), (7, .int c), (8, .int (dmN N f g a b c)), (9, .int (nI (N.length * 8)))]) [1, 2, 3, 4, 5, 6, 7, 8, 9, 0] d_D_add_91 (by decide) rfl ?_
      have hl : N.length < 180 := (nI_ltI (by have := hN.2.1; omega) (by omega)).mp (by have z := c71; rw [hN.1, show (180 : Int32) = nI 180 from by decide +kernel] at z; exact z)
      rw [show addN N k v f g a b c = .inr (mkN N [k, v, f, g, a, b, c, dmN N f g a b c + 1]) from by unfold addN; rw [if_pos c51, if_pos hl]]
      exact D_add_w hN hl k v f g a b c (dmN N f g a b c)
    · exact ep_throw 1 d_D_add_74 d_D_add_77 d_D_add_78 d_D_add_80 d_D_add_83 lc_D_22 ti_java_lang_IllegalStateException (i := 4) (tx := "more nodes than a text can tell") (by decide +kernel) at_D_26 (by decide +kernel) (Nat.zero_lt_succ _) (Nat.le_of_ble_eq_true rfl) rfl (AP_x (k := 1) (by have hl : ¬ N.length < 180 := (fun z => c71 (by rw [hN.1, show (180 : Int32) = nI 180 from by decide +kernel]; exact nI_lt z (by omega))); simp [addN, c51, hl]))
  · exact ep_throw 0 d_D_add_54 d_D_add_57 d_D_add_58 d_D_add_60 d_D_add_63 lc_D_37 ti_java_lang_IllegalArgumentException (i := 3) (tx := "too deep") (by decide +kernel) at_D_41 (by decide +kernel) (Nat.zero_lt_succ _) (Nat.le_of_ble_eq_true rfl) rfl (AP_x (by simp [addN, c51]))
end NE
