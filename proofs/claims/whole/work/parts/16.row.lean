/-! the rows (NameWriter$Row), at any places -/
def rwAt (f : Nat → Int32) (n : Nat) (i : Int32) : Int32 := if 0 ≤ i.toInt ∧ i.toInt < n then f i.toInt.toNat else -1
set_option maxHeartbeats 4000000 in
theorem w_size {d o a : Nat} {h : mH} {n : Int32} (ho : h[o]? = some (mO 2 [.ref a, .int n])) : EvP m_W_size d 0 [(0, .ref o)] [] h (fun r h' => r = .inl (some (.int n)) ∧ h' = h) := by
  refine ep_aload_n (j := 0) d_W_size_0 rfl rfl ?_
  refine ep_getf (fi := 1) d_W_size_1 cl2 lf_W_15 (by decide) ho rfl ?_
  exact ep_iret d_W_size_4 rfl rfl ⟨rfl, rfl⟩
