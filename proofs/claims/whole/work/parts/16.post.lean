/-! ends of methods in a few forms, and calls by them -/
def Ri (e : Int32) (h2 : mH) : mR → mH → Prop := fun r h' => r = .inl (some (.int e)) ∧ h' = h2
def Rv (h2 : mH) : mR → mH → Prop := fun r h' => r = .inl none ∧ h' = h2
def Rx (kd : Nat) (h2 : mH) : mR → mH → Prop := fun r h' => r = .inr h2.length ∧ h' = h2 ++ [mT kd]
/-- an int, or an exception of a kind -/
def RR (res : Int32 ⊕ Nat) (h2 : mH) : mR → mH → Prop := match res with
  | .inl e => Ri e h2
  | .inr kd => Rx kd h2
/-- nothing, or an exception of a kind -/
def RU (res : Option Nat) (h2 : mH) : mR → mH → Prop := match res with
  | none => Rv h2
  | some kd => Rx kd h2
theorem RR_i {e : Int32} {res : Int32 ⊕ Nat} {h2 : mH} (hr : res = .inl e) : RR res h2 (.inl (some (.int e))) h2 := by subst hr; exact ⟨rfl, rfl⟩
theorem RR_x {kd : Nat} {res : Int32 ⊕ Nat} {h2 : mH} (hr : res = .inr kd) : RR res h2 (.inr h2.length) (h2 ++ [mT kd]) := by subst hr; exact ⟨rfl, rfl⟩
theorem RU_v {res : Option Nat} {h2 : mH} (hr : res = none) : RU res h2 (.inl none) h2 := by subst hr; exact ⟨rfl, rfl⟩
theorem RU_x {kd : Nat} {res : Option Nat} {h2 : mH} (hr : res = some kd) : RU res h2 (.inr h2.length) (h2 ++ [mT kd]) := by subst hr; exact ⟨rfl, rfl⟩
section EQ
variable {M N : Mt} {d pc np : Nat} {lv : List (Nat × Value)} {st st0 As : List Value} {h h2 : mH} {P P1 : mR → mH → Prop}
theorem ep_nm {x : Int32} (k : ∀ y : Int32, y = x → EvP M d pc lv (.int y :: st) h P) : EvP M d pc lv (.int x :: st) h P := k x rfl
theorem ep_cg {x y : Int32} (e : x = y) (k : EvP M d pc lv (.int y :: st) h P) : EvP M d pc lv (.int x :: st) h P := by rw [e]; exact k
theorem ep_callVi {ix o ci : Nat} {fs : List Value} {e : Int32} (hd : decode M.2.1 pc = .ok (.invokevirtual ix, 3)) (hl : InT (.methodLink M.1.cls ix N.1)) (hN : Cal N np) (hm : InT (.instanceMethod N.1)) (hs : InT (.selects N.1.cls N.1 N.1)) (ho : h[o]? = some (.inl (ci, fs))) (hci : (vCl[ci]?).map (fun q => q.1) = some N.1.cls) (hnp : As.length = np) (hal : ((Value.ref o :: As).map fun v => v.category).sum ≤ N.2.2.1) (hcat : (st.map fun v => v.category).sum ≤ 8) (hst : st0 = As.reverse ++ .ref o :: st) (hh : M.2.2.2.2 = [])
    (ev : EvP N d 0 (lv_args 0 (.ref o :: As)) [] h (Ri e h2)) (k : EvP M (d + 1) (pc + 3) lv (.int e :: st) h2 P) : EvP M (d + 1) pc lv st0 h P :=
  ep_callV hd hl hN hm hs ho hci hnp hal hcat hst hh ev (fun v h1 q => by obtain ⟨q1, q2⟩ := q; cases q1; subst q2; exact k) (fun x h1 q => nomatch q.1)
theorem ep_callVv {ix o ci : Nat} {fs : List Value} (hd : decode M.2.1 pc = .ok (.invokevirtual ix, 3)) (hl : InT (.methodLink M.1.cls ix N.1)) (hN : Cal N np) (hm : InT (.instanceMethod N.1)) (hs : InT (.selects N.1.cls N.1 N.1)) (ho : h[o]? = some (.inl (ci, fs))) (hci : (vCl[ci]?).map (fun q => q.1) = some N.1.cls) (hnp : As.length = np) (hal : ((Value.ref o :: As).map fun v => v.category).sum ≤ N.2.2.1) (hcat : (st.map fun v => v.category).sum ≤ 8) (hst : st0 = As.reverse ++ .ref o :: st) (hh : M.2.2.2.2 = [])
    (ev : EvP N d 0 (lv_args 0 (.ref o :: As)) [] h (Rv h2)) (k : EvP M (d + 1) (pc + 3) lv st h2 P) : EvP M (d + 1) pc lv st0 h P :=
  ep_callV hd hl hN hm hs ho hci hnp hal hcat hst hh ev (fun v h1 q => by obtain ⟨q1, q2⟩ := q; cases q1; subst q2; exact k) (fun x h1 q => nomatch q.1)
theorem ep_callVr {ix o ci : Nat} {fs : List Value} {res : Int32 ⊕ Nat} (hd : decode M.2.1 pc = .ok (.invokevirtual ix, 3)) (hl : InT (.methodLink M.1.cls ix N.1)) (hN : Cal N np) (hm : InT (.instanceMethod N.1)) (hs : InT (.selects N.1.cls N.1 N.1)) (ho : h[o]? = some (.inl (ci, fs))) (hci : (vCl[ci]?).map (fun q => q.1) = some N.1.cls) (hnp : As.length = np) (hal : ((Value.ref o :: As).map fun v => v.category).sum ≤ N.2.2.1) (hcat : (st.map fun v => v.category).sum ≤ 8) (hst : st0 = As.reverse ++ .ref o :: st) (hh : M.2.2.2.2 = [])
    (ev : EvP N d 0 (lv_args 0 (.ref o :: As)) [] h (RR res h2)) (k1 : ∀ e, res = .inl e → EvP M (d + 1) (pc + 3) lv (.int e :: st) h2 P) (k2 : ∀ kd, res = .inr kd → P (.inr h2.length) (h2 ++ [mT kd])) : EvP M (d + 1) pc lv st0 h P := by
  cases res with
  | inl e => exact ep_callVi hd hl hN hm hs ho hci hnp hal hcat hst hh ev (k1 e rfl)
  | inr kd => exact ep_callV hd hl hN hm hs ho hci hnp hal hcat hst hh ev (fun v h1 q => nomatch q.1) (fun x h1 q => by obtain ⟨q1, q2⟩ := q; cases q1; subst q2; exact k2 kd rfl)
theorem ep_callVu {ix o ci : Nat} {fs : List Value} {res : Option Nat} (hd : decode M.2.1 pc = .ok (.invokevirtual ix, 3)) (hl : InT (.methodLink M.1.cls ix N.1)) (hN : Cal N np) (hm : InT (.instanceMethod N.1)) (hs : InT (.selects N.1.cls N.1 N.1)) (ho : h[o]? = some (.inl (ci, fs))) (hci : (vCl[ci]?).map (fun q => q.1) = some N.1.cls) (hnp : As.length = np) (hal : ((Value.ref o :: As).map fun v => v.category).sum ≤ N.2.2.1) (hcat : (st.map fun v => v.category).sum ≤ 8) (hst : st0 = As.reverse ++ .ref o :: st) (hh : M.2.2.2.2 = [])
    (ev : EvP N d 0 (lv_args 0 (.ref o :: As)) [] h (RU res h2)) (k1 : res = none → EvP M (d + 1) (pc + 3) lv st h2 P) (k2 : ∀ kd, res = some kd → P (.inr h2.length) (h2 ++ [mT kd])) : EvP M (d + 1) pc lv st0 h P := by
  cases res with
  | none => exact ep_callVv hd hl hN hm hs ho hci hnp hal hcat hst hh ev (k1 rfl)
  | some kd => exact ep_callV hd hl hN hm hs ho hci hnp hal hcat hst hh ev (fun v h1 q => nomatch q.1) (fun x h1 q => by obtain ⟨q1, q2⟩ := q; cases q1; subst q2; exact k2 kd rfl)
theorem ep_callSi {ix : Nat} {e : Int32} (hd : decode M.2.1 pc = .ok (.invokestatic ix, 3)) (hl : InT (.methodLink M.1.cls ix N.1) ∨ ∃ host, InT (.methodLinkNest M.1.cls ix N.1 host)) (hN : Cal N np) (hm : InT (.static N.1)) (hi : InT (.initialized N.1.cls)) (hnp : As.length = np) (hal : (As.map fun v => v.category).sum ≤ N.2.2.1) (hcat : (st.map fun v => v.category).sum ≤ 8) (hst : st0 = As.reverse ++ st) (hh : M.2.2.2.2 = [])
    (ev : EvP N d 0 (lv_args 0 As) [] h (Ri e h2)) (k : EvP M (d + 1) (pc + 3) lv (.int e :: st) h2 P) : EvP M (d + 1) pc lv st0 h P :=
  ep_callS hd hl hN hm hi hnp hal hcat hst hh ev (fun v h1 q => by obtain ⟨q1, q2⟩ := q; cases q1; subst q2; exact k) (fun x h1 q => nomatch q.1)
theorem ep_callSu {ix : Nat} {res : Option Nat} (hd : decode M.2.1 pc = .ok (.invokestatic ix, 3)) (hl : InT (.methodLink M.1.cls ix N.1) ∨ ∃ host, InT (.methodLinkNest M.1.cls ix N.1 host)) (hN : Cal N np) (hm : InT (.static N.1)) (hi : InT (.initialized N.1.cls)) (hnp : As.length = np) (hal : (As.map fun v => v.category).sum ≤ N.2.2.1) (hcat : (st.map fun v => v.category).sum ≤ 8) (hst : st0 = As.reverse ++ st) (hh : M.2.2.2.2 = [])
    (ev : EvP N d 0 (lv_args 0 As) [] h (RU res h2)) (k1 : res = none → EvP M (d + 1) (pc + 3) lv st h2 P) (k2 : ∀ kd, res = some kd → P (.inr h2.length) (h2 ++ [mT kd])) : EvP M (d + 1) pc lv st0 h P := by
  cases res with
  | none => exact ep_callS hd hl hN hm hi hnp hal hcat hst hh ev (fun v h1 q => by obtain ⟨q1, q2⟩ := q; cases q1; subst q2; exact k1 rfl) (fun x h1 q => nomatch q.1)
  | some kd => exact ep_callS hd hl hN hm hi hnp hal hcat hst hh ev (fun v h1 q => nomatch q.1) (fun x h1 q => by obtain ⟨q1, q2⟩ := q; cases q1; subst q2; exact k2 kd rfl)
end EQ
