/-! what writing leaves: letters, never -1; its errors are of the third kind -/
def WG (w : WS) : Prop := LOk w.1 ∧ w.2.length ≤ 120
def YO (c : Ex WS) : Prop := (∀ m, c = .inl m → m = 2) ∧ (∀ w1, c = .inr w1 → WG w1)
theorem YO.r {w : WS} (h : WG w) : YO (.inr w) := ⟨fun _ e => (by cases e), fun _ e => by cases e; exact h⟩
theorem YO.l : YO (.inl 2) := ⟨fun _ e => (by cases e; rfl), fun _ e => (by cases e)⟩
theorem YO.bd {a : Ex WS} {f : WS → Ex WS} (h : YO a) (h1 : ∀ y, WG y → YO (f y)) : YO (bnd a f) := by
  cases a with
  | inl k => exact ⟨fun n e => h.1 n (by cases e; rfl), fun _ e => by cases e⟩
  | inr y => exact h1 y (h.2 y rfl)
theorem YO.ite {c : Prop} [Decidable c] {a b : Ex WS} (h1 : c → YO a) (h2 : ¬ c → YO b) : YO (if c then a else b) := by
  by_cases h : c
  · rw [if_pos h]; exact h1 h
  · rw [if_neg h]; exact h2 h
section
variable {N : List (List Int32)} {w : WS} {x : Int32} {rec : Bool → Int32 → WS → Ex WS}
theorem YO.p1 {c : Int32} (hc : ¬ c = -1) (h : WG w) : YO (wp1 c w) := YO.ite (fun _ => YO.r ⟨fun y hy => (List.mem_append.mp hy).elim (h.1 y) (fun q => by rw [List.mem_singleton.mp q]; exact hc), h.2⟩) (fun _ => YO.l)
theorem YO.pl : ∀ {cs : List Int32} {w : WS}, LOk cs → WG w → YO (wpl cs w)
  | [], _, _, h => YO.r h
  | c :: cs, _, hc, h => YO.bd (YO.p1 (hc c (List.mem_cons_self ..)) h) (fun _ h1 => YO.pl (fun y hy => hc y (List.mem_cons_of_mem _ hy)) h1)
theorem LOk.app {a b : List Int32} (ha : LOk a) (hb : LOk b) : LOk (a ++ b) := fun y hy => (List.mem_append.mp hy).elim (ha y) (hb y)
theorem LOk.nil : LOk [] := fun _ hy => by cases hy
theorem LOk.cons {c : Int32} {b : List Int32} (hc : ¬ c = -1) (hb : LOk b) : LOk (c :: b) := fun y hy => (List.mem_cons.mp hy).elim (fun q => by rw [q]; exact hc) (hb y)
theorem LOk.ite {c : Prop} [Decidable c] {a b : List Int32} (ha : c → LOk a) (hb : ¬ c → LOk b) : LOk (if c then a else b) := by
  by_cases h : c
  · rw [if_pos h]; exact ha h
  · rw [if_neg h]; exact hb h
theorem by_ne (v k : Int32) : ¬ byId v k = -1 := fun e => by
  have e1 := congrArg (fun q : Int32 => q.toBitVec.getLsbD 8) e
  have e2 : (byId v k).toBitVec = (ush v k).toBitVec &&& 255#32 := rfl
  simp only [e2, BitVec.getLsbD_and] at e1
  rw [show (255#32).getLsbD 8 = false from by decide, Bool.and_false] at e1
  exact absurd e1 (by decide)
theorem rem_ne (q : Int32) : ¬ 48 + (q - q / 10 * 10) = -1 := fun e => by
  have h1 : (q / 10).toInt = q.toInt.tdiv 10 := Int32.toInt_div_of_ne_right q 10 (by decide)
  have e1 : q + 49 = q / 10 * 10 := by
    have e2 : 48 + (q - q / 10 * 10) + (q / 10 * 10 + 1) = -1 + (q / 10 * 10 + 1) := by rw [e]
    have e3 : 48 + (q - q / 10 * 10) + (q / 10 * 10 + 1) = q + 49 := by
      generalize q / 10 * 10 = m
      rw [Int32.sub_eq_add_neg]
      rw [show (48 : Int32) + (q + -m) + (m + 1) = q + (48 + 1) + (-m + m) from by ac_rfl]
      rw [Int32.add_left_neg, Int32.add_zero]
      rfl
    have e4 : -1 + (q / 10 * 10 + 1) = q / 10 * 10 := by
      generalize q / 10 * 10 = m
      rw [show (-1 : Int32) + (m + 1) = m + (-1 + 1) from by ac_rfl]
      rw [show (-1 : Int32) + 1 = 0 from by decide, Int32.add_zero]
    rw [← e3, e2, e4]
  have e5 := congrArg Int32.toInt e1
  rw [Int32.toInt_add, Int32.toInt_mul, h1] at e5
  have hq1 := q.le_toInt
  have hq2 := q.toInt_lt
  have t1 : (49 : Int32).toInt = 49 := by decide
  have t2 : (10 : Int32).toInt = 10 := by decide
  rw [t1, t2] at e5
  have hm : q.toInt.tdiv 10 * 10 = q.toInt - q.toInt.tmod 10 := by
    have := Int.mul_tdiv_add_tmod q.toInt 10
    omega
  have hm1 : -10 < q.toInt.tmod 10 ∧ q.toInt.tmod 10 < 10 := by
    constructor
    · exact Int.lt_tmod_of_pos _ (by decide)
    · exact Int.tmod_lt_of_pos _ (by decide)
  have e6 := Int.emod_emod_of_dvd (q.toInt + 49 - q.toInt.tdiv 10 * 10) (Int.dvd_refl ((2 : Int) ^ 32))
  have e7 : ((2 : Int) ^ 32) ∣ (q.toInt + 49) - (q.toInt.tdiv 10 * 10) := by
    have a := Int.bmod_eq_bmod_iff_bmod_sub_eq_zero.mp e5
    exact Int.dvd_of_bmod_eq_zero a
  rw [hm] at e7
  obtain ⟨c, hc⟩ := e7
  omega
theorem dcu_ok (n u : Int32) : LOk (dcu n u) := LOk.ite (fun _ => LOk.nil) (fun _ => LOk.cons (rem_ne _) LOk.nil)
theorem decL_ok (n : Int32) : LOk (decL n) := (dcu_ok _ _).app ((dcu_ok _ _).app ((dcu_ok _ _).app ((dcu_ok _ _).app ((dcu_ok _ _).app (LOk.cons (rem_ne _) LOk.nil)))))
theorem idL_ok (v : Int32) : LOk (idL v) := LOk.ite (fun _ => LOk.cons (by decide) (LOk.cons (by_ne _ _) LOk.nil)) (fun _ => LOk.ite (fun _ => LOk.cons (by decide) (LOk.cons (by_ne _ _) (LOk.cons (by_ne _ _) LOk.nil))) (fun _ => LOk.ite (fun _ => LOk.cons (by decide) (LOk.cons (by_ne _ _) (LOk.cons (by_ne _ _) (LOk.cons (by_ne _ _) LOk.nil)))) (fun _ => LOk.cons (by decide) (LOk.cons (by_ne _ _) (LOk.cons (by_ne _ _) (LOk.cons (by_ne _ _) (LOk.cons (by_ne _ _) LOk.nil)))))))
theorem st_ok : ∀ j : Nat, j < 8 → ¬ stCh 0 j = -1 := by decide
theorem st_ok1 : ∀ j : Nat, j < 3 → ¬ stCh 1 j = -1 := by decide
theorem blL_ok (k : Int32) : LOk (blL k) := LOk.ite (fun _ => LOk.nil) (fun h => by
  obtain ⟨j, hj, rfl⟩ := nI_of' (Int32.not_lt.mp (fun q => h (Or.inl q)))
  have : j < 8 := by
    by_cases w : j < 8
    · exact w
    · exact absurd (Or.inr ((nI_leI (a := 8) (by omega) hj).mpr (by omega))) h
  rw [nI_clamp hj]
  exact LOk.cons (st_ok j this) LOk.nil)
theorem wrL_ok (k : Int32) : LOk (wrL k) := LOk.ite (fun _ => LOk.nil) (fun h => by
  generalize k - 4 = k at h ⊢
  obtain ⟨j, hj, rfl⟩ := nI_of' (Int32.not_lt.mp (fun q => h (Or.inl q)))
  have : j < 3 := by
    by_cases w : j < 3
    · exact w
    · exact absurd (Or.inr ((nI_leI (a := 3) (by omega) hj).mpr (by omega))) h
  rw [nI_clamp hj]
  exact LOk.cons (st_ok1 j this) LOk.nil)
theorem litL_ok : LOk (litL N x) := LOk.cons (by decide) ((blL_ok _).app ((LOk.ite (fun _ => LOk.nil) (fun _ => LOk.cons (by decide) LOk.nil)).app ((decL_ok _).app (LOk.cons (by decide) LOk.nil))))
theorem d36_ok {b : Nat} (hb : b ≤ 1000) : ¬ d36 (nI b) = -1 := by
  have hn : ∀ c : Nat, c < 2 ^ 31 → ¬ nI c = -1 := fun c hc e => absurd (nI_pos' hc) (by rw [e]; decide)
  unfold d36
  split
  · rw [show (65 : Int32) = nI 65 from by decide, show (10 : Int32) = nI 10 from by decide, nI_add, pk_sub (by omega)]
    exact hn _ (by omega)
  · rw [show (48 : Int32) = nI 48 from by decide, nI_add]
    exact hn _ (by omega)
theorem toldS_ok {i : Nat} (hi : i ≤ 120) : LOk (toldS (nI i)) := by
  refine LOk.cons (by decide) ((LOk.ite (fun _ => LOk.nil) (fun h => LOk.cons ?_ LOk.nil)).app ((LOk.ite (fun _ => LOk.nil) (fun h => LOk.cons ?_ LOk.nil)).app (LOk.cons (by decide) LOk.nil)))
  · have : 36 < i := by
      by_cases w : i ≤ 36
      · exact absurd ((nI_leI (b := 36) (by omega) (by omega)).mpr w) h
      · omega
    rw [show (1 : Int32) = nI 1 from by decide, show (36 : Int32) = nI 36 from by decide, pk_sub (by omega), pk_div (by omega) (by omega) (by omega)]
    exact d36_ok (by omega)
  · have : 0 < i := by
      by_cases w : i ≤ 0
      · exact absurd ((nI_leI (b := 0) (by omega) (by omega)).mpr w) h
      · omega
    rw [show (1 : Int32) = nI 1 from by decide, show (36 : Int32) = nI 36 from by decide, pk_sub (by omega), pk_div (by omega) (by omega) (by omega), pk_mul, pk_sub (by omega)]
    exact d36_ok (by omega)
theorem tix_ok {T : List Int32} (hT : T.length ≤ 120) (h : ¬ tix T x = -1) : ∃ i, i ≤ 120 ∧ tix T x = nI i := by
  unfold tix at h ⊢
  by_cases w : T.findIdx (fun y => decide (y = x)) < T.length
  · rw [if_pos w]; exact ⟨_, by omega, rfl⟩
  · rw [if_neg w] at h; exact absurd rfl h
/-- a told node, or none -/
theorem YO.told {f : Int32 × WS → Ex WS} (h : WG w) (h1 : ∀ q, WG q.2 → YO (f q)) : YO (bnd (wTold x w) f) := by
  unfold wTold
  by_cases e : tix w.2 x = -1
  · rw [if_pos e]; exact h1 (0, w) h
  · rw [if_neg e]
    obtain ⟨i, hi, ei⟩ := tix_ok h.2 e
    rw [ei]
    have := YO.pl (toldS_ok hi) h
    cases hc : wpl (toldS (nI i)) w with
    | inl k => exact ⟨fun n e => this.1 n (by rw [hc]; cases e; rfl), fun _ e => by cases e⟩
    | inr w1 => exact h1 (1, w1) (this.2 w1 hc)
theorem WG.ta (h : WG w) (x : Int32) : WG (wta w x) := ⟨h.1, by
  unfold wta
  by_cases q : w.2.length < 120
  · rw [if_pos q, List.length_append]; exact q
  · rw [if_neg q]; exact h.2⟩
def YR (rec : Bool → Int32 → WS → Ex WS) : Prop := ∀ b x w, WG w → YO (rec b x w)
theorem YO.arg (hr : YR rec) (h : WG w) : YO (wArg N rec x w) := YO.ite (fun _ => YO.pl litL_ok h) (fun _ => YO.ite (fun _ => YO.r h) (fun _ => hr _ _ _ h))
theorem YO.args (hr : YR rec) (h : WG w) : YO (wArgs N rec x w) := YO.bd (YO.p1 (by decide) h) (fun _ h => YO.bd (YO.arg hr h) (fun _ h => YO.bd (YO.arg hr h) (fun _ h => YO.bd (YO.arg hr h) (fun _ h => YO.p1 (by decide) h))))
theorem YO.par (hr : YR rec) (h : WG w) : YO (wPar rec x w) := YO.ite (fun _ => YO.r h) (fun _ => hr _ _ _ h)
theorem YO.pars (hr : YR rec) (h : WG w) : YO (wPars N rec x w) := YO.bd (YO.ite (fun _ => YO.p1 (by decide) h) (fun _ => YO.r h)) (fun _ h => YO.bd (YO.par hr h) (fun _ h => YO.bd (YO.par hr h) (fun _ h => YO.par hr h)))
theorem YO.fil (hr : YR rec) (h : WG w) : YO (wFil N rec x w) := YO.ite (fun _ => YO.bd (YO.p1 (by decide) h) (fun _ h => YO.bd (hr _ _ _ h) (fun _ h => YO.bd (YO.args hr h) (fun _ h => YO.p1 (by decide) h)))) (fun _ => YO.bd (hr _ _ _ h) (fun _ h => YO.args hr h))
theorem YO.unt (hr : YR rec) (h : WG w) : YO (wUnt N rec x w) :=
  YO.ite (fun _ => YO.bd (YO.p1 (by decide) h) (fun _ h => YO.bd (hr _ _ _ h) (fun _ h => YO.bd (YO.pl (idL_ok _) h) (fun _ h => YO.p1 (by decide) h))))
  (fun _ => YO.ite (fun _ => YO.fil hr h)
  (fun _ => YO.ite (fun _ => YO.bd (YO.pl (wrL_ok _) h) (fun _ h => hr _ _ _ h))
  (fun _ => YO.ite (fun _ => YO.bd (YO.p1 (by decide) h) (fun _ h => YO.bd (YO.pl (decL_ok _) h) (fun _ h => YO.bd (YO.p1 (by decide) h) (fun _ h => hr _ _ _ h))))
  (fun _ => YO.ite (fun _ => YO.bd (YO.p1 (by decide) h) (fun _ h => YO.bd (hr _ _ _ h) (fun _ h => YO.bd (YO.pars hr h) (fun _ h => YO.p1 (by decide) h))))
  (fun _ => YO.pl (idL_ok _) h)))))
theorem YO.pre (hr : YR rec) (h : WG w) : YO (wPreN N rec x w) :=
  YO.ite (fun _ => YO.bd (hr _ _ _ h) (fun _ h => YO.pl (idL_ok _) h)) (fun _ => YO.ite (fun _ => YO.bd (hr _ _ _ h) (fun _ h => YO.args hr h)) (fun _ => YO.pl (idL_ok _) h))
theorem YO.tyB {u : Int32 → WS → Ex WS} (hu : ∀ x w, WG w → YO (u x w)) (h : WG w) : YO (wTyB N u x w) := YO.ite (fun _ => YO.pl (blL_ok _) h) (fun _ => YO.told h (fun q hq => YO.ite (fun _ => YO.bd (hu _ _ hq) (fun _ h => YO.r (h.ta x))) (fun _ => YO.r hq)))
theorem YO.prB {u : Int32 → WS → Ex WS} (hu : ∀ x w, WG w → YO (u x w)) (h : WG w) : YO (wPrB u x w) := YO.told h (fun q hq => YO.ite (fun _ => YO.bd (hu _ _ hq) (fun _ h => YO.r (h.ta x))) (fun _ => YO.r hq))
theorem YR.all (N : List (List Int32)) : ∀ d, YR (wW N d)
  | 0 => fun _ _ _ h => YO.ite (fun _ => YO.prB (fun _ _ _ => YO.l) h) (fun _ => YO.tyB (fun _ _ _ => YO.l) h)
  | d + 1 => fun _ _ _ h => YO.ite (fun _ => YO.prB (fun _ _ h => YO.pre (YR.all N d) h) h) (fun _ => YO.tyB (fun _ _ h => YO.unt (YR.all N d) h) h)
theorem went_pure (N : List (List Int32)) (e : Int32) : YO (wEnt N e) := YO.bd (YO.p1 (by decide) ⟨LOk.nil, Nat.zero_le _⟩) (fun _ h => YO.bd (YO.p1 (by decide) h) (fun _ h => YO.bd (YO.unt (YR.all N 15) h) (fun _ h => YO.bd (YO.ite (fun _ => YO.r h) (fun _ => YR.all N 16 _ _ _ h)) (fun _ h => YO.pars (YR.all N 16) h))))
end
