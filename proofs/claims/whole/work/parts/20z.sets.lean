/-! writes into the heap of the run; by program (wip/whole/gen20z.py) -/
section SETS
variable {X : Nat × (Nat → Int32)} {cI : Nat → Int32} {cA : Nat → Nat → Int32} {rI : Nat → Int32} {rA : Nat → Nat → Int32} {ol : Int64} {J : mH} {F : Nat → Int32} {x : Int32}
theorem va_up_up {α : Type} (f : Nat → α) (k : Nat) (x y : α) : va_up (va_up f k x) k y = va_up f k y := bx_uu f k x y
theorem upd_upd (f : Nat → Int32) (k : Nat) (x y : Int32) : upd (upd f k x) k y = upd f k y := by
  funext j
  unfold upd
  split <;> rfl
theorem hA_3 : (HC X cI cA rI rA ol J).set 3 (mA 1440 F) = HC X cI (va_up cA 0 F) rI rA ol J := rfl
theorem hA_5 : (HC X cI cA rI rA ol J).set 5 (mA 120 F) = HC X cI (va_up cA 1 F) rI rA ol J := rfl
theorem hA_7 : (HC X cI cA rI rA ol J).set 7 (mA 120 F) = HC X cI (va_up cA 2 F) rI rA ol J := rfl
theorem hA_10 : (HC X cI cA rI rA ol J).set 10 (mA 120 F) = HC X cI (va_up cA 3 F) rI rA ol J := rfl
theorem hA_12 : (HC X cI cA rI rA ol J).set 12 (mA 120 F) = HC X cI (va_up cA 4 F) rI rA ol J := rfl
theorem hA_15 : (HC X cI cA rI rA ol J).set 15 (mA 120 F) = HC X cI (va_up cA 5 F) rI rA ol J := rfl
theorem hA_17 : (HC X cI cA rI rA ol J).set 17 (mA 320 F) = HC X cI cA rI (va_up rA 3 F) ol J := rfl
theorem hA_18 : (HC X cI cA rI rA ol J).set 18 (mA 320 F) = HC X cI cA rI (va_up rA 4 F) ol J := rfl
theorem hA_19 : (HC X cI cA rI rA ol J).set 19 (mA 320 F) = HC X cI cA rI (va_up rA 5 F) ol J := rfl
theorem hA_20 : (HC X cI cA rI rA ol J).set 20 (mA 320 F) = HC X cI cA rI (va_up rA 6 F) ol J := rfl
theorem hA_21 : (HC X cI cA rI rA ol J).set 21 (mA 960 F) = HC X cI cA rI (va_up rA 7 F) ol J := rfl
theorem hA_22 : (HC X cI cA rI rA ol J).set 22 (mA 320 F) = HC X cI cA rI (va_up rA 8 F) ol J := rfl
theorem hA_23 : (HC X cI cA rI rA ol J).set 23 (mA 120 F) = HC X cI cA rI (va_up rA 9 F) ol J := rfl
theorem hA_24 : (HC X cI cA rI rA ol J).set 24 (mA 120 F) = HC X cI cA rI (va_up rA 11 F) ol J := rfl
theorem hA_25 : (HC X cI cA rI rA ol J).set 25 (mA 320 F) = HC X cI cA rI (va_up rA 15 F) ol J := rfl
theorem hA_26 : (HC X cI cA rI rA ol J).set 26 (mA 320 F) = HC X cI cA rI (va_up rA 17 F) ol J := rfl
theorem hA_27 : (HC X cI cA rI rA ol J).set 27 (mA 400 F) = HC X cI cA rI (va_up rA 19 F) ol J := rfl
theorem hA_28 : (HC X cI cA rI rA ol J).set 28 (mA 400 F) = HC X cI cA rI (va_up rA 20 F) ol J := rfl
theorem hA_29 : (HC X cI cA rI rA ol J).set 29 (mA 400 F) = HC X cI cA rI (va_up rA 21 F) ol J := rfl
theorem hA_30 : (HC X cI cA rI rA ol J).set 30 (mA 1200 F) = HC X cI cA rI (va_up rA 22 F) ol J := rfl
theorem hI_2_1 : (HC X cI cA rI rA ol J).set 2 (mO 0 [.ref 3, .int x, .int (cI 1)]) = HC X (upd cI 0 x) cA rI rA ol J := rfl
theorem hI_2_2 : (HC X cI cA rI rA ol J).set 2 (mO 0 [.ref 3, .int (cI 0), .int x]) = HC X (upd cI 1 x) cA rI rA ol J := rfl
theorem hI_4_1 : (HC X cI cA rI rA ol J).set 4 (mO 2 [.ref 5, .int x]) = HC X (upd cI 2 x) cA rI rA ol J := rfl
theorem hI_6_1 : (HC X cI cA rI rA ol J).set 6 (mO 2 [.ref 7, .int x]) = HC X (upd cI 3 x) cA rI rA ol J := rfl
theorem hI_9_1 : (HC X cI cA rI rA ol J).set 9 (mO 2 [.ref 10, .int x]) = HC X (upd cI 4 x) cA rI rA ol J := rfl
theorem hI_11_1 : (HC X cI cA rI rA ol J).set 11 (mO 2 [.ref 12, .int x]) = HC X (upd cI 5 x) cA rI rA ol J := rfl
theorem hI_14_1 : (HC X cI cA rI rA ol J).set 14 (mO 2 [.ref 15, .int x]) = HC X (upd cI 6 x) cA rI rA ol J := rfl
theorem hI_13_3 : (HC X cI cA rI rA ol J).set 13 (mO 1 [.ref 14, .ref 2, .ref 4, .int x]) = HC X (upd cI 7 x) cA rI rA ol J := rfl
theorem hI_16_0 : (HC X cI cA rI rA ol J).set 16 (mO 5 [.int x, .int (rI 1), .int (rI 2), .ref 17, .ref 18, .ref 19, .ref 20, .ref 21, .ref 22, .ref 23, .int (rI 10), .ref 24, .int (rI 12), .int (rI 13), .int (rI 14), .ref 25, .int (rI 16), .ref 26, .int (rI 18), .ref 27, .ref 28, .ref 29, .ref 30, .int (rI 23), .int (rI 24), .int (rI 25)]) = HC X cI cA (upd rI 0 x) rA ol J := rfl
theorem hI_16_1 : (HC X cI cA rI rA ol J).set 16 (mO 5 [.int (rI 0), .int x, .int (rI 2), .ref 17, .ref 18, .ref 19, .ref 20, .ref 21, .ref 22, .ref 23, .int (rI 10), .ref 24, .int (rI 12), .int (rI 13), .int (rI 14), .ref 25, .int (rI 16), .ref 26, .int (rI 18), .ref 27, .ref 28, .ref 29, .ref 30, .int (rI 23), .int (rI 24), .int (rI 25)]) = HC X cI cA (upd rI 1 x) rA ol J := rfl
theorem hI_16_2 : (HC X cI cA rI rA ol J).set 16 (mO 5 [.int (rI 0), .int (rI 1), .int x, .ref 17, .ref 18, .ref 19, .ref 20, .ref 21, .ref 22, .ref 23, .int (rI 10), .ref 24, .int (rI 12), .int (rI 13), .int (rI 14), .ref 25, .int (rI 16), .ref 26, .int (rI 18), .ref 27, .ref 28, .ref 29, .ref 30, .int (rI 23), .int (rI 24), .int (rI 25)]) = HC X cI cA (upd rI 2 x) rA ol J := rfl
theorem hI_16_10 : (HC X cI cA rI rA ol J).set 16 (mO 5 [.int (rI 0), .int (rI 1), .int (rI 2), .ref 17, .ref 18, .ref 19, .ref 20, .ref 21, .ref 22, .ref 23, .int x, .ref 24, .int (rI 12), .int (rI 13), .int (rI 14), .ref 25, .int (rI 16), .ref 26, .int (rI 18), .ref 27, .ref 28, .ref 29, .ref 30, .int (rI 23), .int (rI 24), .int (rI 25)]) = HC X cI cA (upd rI 10 x) rA ol J := rfl
theorem hI_16_12 : (HC X cI cA rI rA ol J).set 16 (mO 5 [.int (rI 0), .int (rI 1), .int (rI 2), .ref 17, .ref 18, .ref 19, .ref 20, .ref 21, .ref 22, .ref 23, .int (rI 10), .ref 24, .int x, .int (rI 13), .int (rI 14), .ref 25, .int (rI 16), .ref 26, .int (rI 18), .ref 27, .ref 28, .ref 29, .ref 30, .int (rI 23), .int (rI 24), .int (rI 25)]) = HC X cI cA (upd rI 12 x) rA ol J := rfl
theorem hI_16_13 : (HC X cI cA rI rA ol J).set 16 (mO 5 [.int (rI 0), .int (rI 1), .int (rI 2), .ref 17, .ref 18, .ref 19, .ref 20, .ref 21, .ref 22, .ref 23, .int (rI 10), .ref 24, .int (rI 12), .int x, .int (rI 14), .ref 25, .int (rI 16), .ref 26, .int (rI 18), .ref 27, .ref 28, .ref 29, .ref 30, .int (rI 23), .int (rI 24), .int (rI 25)]) = HC X cI cA (upd rI 13 x) rA ol J := rfl
theorem hI_16_14 : (HC X cI cA rI rA ol J).set 16 (mO 5 [.int (rI 0), .int (rI 1), .int (rI 2), .ref 17, .ref 18, .ref 19, .ref 20, .ref 21, .ref 22, .ref 23, .int (rI 10), .ref 24, .int (rI 12), .int (rI 13), .int x, .ref 25, .int (rI 16), .ref 26, .int (rI 18), .ref 27, .ref 28, .ref 29, .ref 30, .int (rI 23), .int (rI 24), .int (rI 25)]) = HC X cI cA (upd rI 14 x) rA ol J := rfl
theorem hI_16_16 : (HC X cI cA rI rA ol J).set 16 (mO 5 [.int (rI 0), .int (rI 1), .int (rI 2), .ref 17, .ref 18, .ref 19, .ref 20, .ref 21, .ref 22, .ref 23, .int (rI 10), .ref 24, .int (rI 12), .int (rI 13), .int (rI 14), .ref 25, .int x, .ref 26, .int (rI 18), .ref 27, .ref 28, .ref 29, .ref 30, .int (rI 23), .int (rI 24), .int (rI 25)]) = HC X cI cA (upd rI 16 x) rA ol J := rfl
theorem hI_16_18 : (HC X cI cA rI rA ol J).set 16 (mO 5 [.int (rI 0), .int (rI 1), .int (rI 2), .ref 17, .ref 18, .ref 19, .ref 20, .ref 21, .ref 22, .ref 23, .int (rI 10), .ref 24, .int (rI 12), .int (rI 13), .int (rI 14), .ref 25, .int (rI 16), .ref 26, .int x, .ref 27, .ref 28, .ref 29, .ref 30, .int (rI 23), .int (rI 24), .int (rI 25)]) = HC X cI cA (upd rI 18 x) rA ol J := rfl
theorem hI_16_23 : (HC X cI cA rI rA ol J).set 16 (mO 5 [.int (rI 0), .int (rI 1), .int (rI 2), .ref 17, .ref 18, .ref 19, .ref 20, .ref 21, .ref 22, .ref 23, .int (rI 10), .ref 24, .int (rI 12), .int (rI 13), .int (rI 14), .ref 25, .int (rI 16), .ref 26, .int (rI 18), .ref 27, .ref 28, .ref 29, .ref 30, .int x, .int (rI 24), .int (rI 25)]) = HC X cI cA (upd rI 23 x) rA ol J := rfl
theorem hI_16_24 : (HC X cI cA rI rA ol J).set 16 (mO 5 [.int (rI 0), .int (rI 1), .int (rI 2), .ref 17, .ref 18, .ref 19, .ref 20, .ref 21, .ref 22, .ref 23, .int (rI 10), .ref 24, .int (rI 12), .int (rI 13), .int (rI 14), .ref 25, .int (rI 16), .ref 26, .int (rI 18), .ref 27, .ref 28, .ref 29, .ref 30, .int (rI 23), .int x, .int (rI 25)]) = HC X cI cA (upd rI 24 x) rA ol J := rfl
theorem hI_16_25 : (HC X cI cA rI rA ol J).set 16 (mO 5 [.int (rI 0), .int (rI 1), .int (rI 2), .ref 17, .ref 18, .ref 19, .ref 20, .ref 21, .ref 22, .ref 23, .int (rI 10), .ref 24, .int (rI 12), .int (rI 13), .int (rI 14), .ref 25, .int (rI 16), .ref 26, .int (rI 18), .ref 27, .ref 28, .ref 29, .ref 30, .int (rI 23), .int (rI 24), .int x]) = HC X cI cA (upd rI 25 x) rA ol J := rfl
end SETS
