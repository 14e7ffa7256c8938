theorem tl_11_104 : (tf_ 111)[Int.toNat 104]? = some (1, 304, (-2147483648), 2147483647) := by decide +kernel
theorem tl_11_105 : (tf_ 111)[Int.toNat 105]? = some (1, 305, (-2147483648), 2147483647) := by decide +kernel
theorem tl_11_106 : (tf_ 111)[Int.toNat 106]? = some (1, 306, (-2147483648), 2147483647) := by decide +kernel
theorem tl_11_107 : (tf_ 111)[Int.toNat 107]? = some (0, 0, 0, 400) := by decide +kernel
theorem tl_11_108 : (tf_ 111)[Int.toNat 108]? = some (1, 308, (-2147483648), 2147483647) := by decide +kernel
theorem tl_11_109 : (tf_ 111)[Int.toNat 109]? = some (1, 309, (-2147483648), 2147483647) := by decide +kernel
theorem tl_11_110 : (tf_ 111)[Int.toNat 110]? = some (1, 310, (-2147483648), 2147483647) := by decide +kernel
theorem tl_11_111 : (tf_ 111)[Int.toNat 111]? = some (1, 311, (-2147483648), 2147483647) := by decide +kernel
theorem tl_11_112 : (tf_ 111)[Int.toNat 112]? = some (0, 0, (-2147483648), 2147483647) := by decide +kernel
theorem tl_11_113 : (tf_ 111)[Int.toNat 113]? = some (0, 0, (-2147483648), 2147483647) := by decide +kernel
/-- a number is not below 0 -/
theorem nn_ (n : Nat) : (0 : Int) ≤ @OfNat.ofNat Int n _ := Int.natCast_nonneg n
def rfb_ (Yc Y : Zm) : Bool := Nat.ble (Yc.2.2.2.2.frames + 1) Y.2.2.2.2.frames && Nat.ble (8 + (Yc.2.2.1 + 11) + Yc.2.2.2.2.locals) Y.2.2.2.2.locals
theorem rf_of {Yc Y : Zm} (h : rfb_ Yc Y = true) : rf_ Yc Y = true := by
  unfold rfb_ at h
  rw [Bool.and_eq_true] at h
  unfold rf_
  rw [Bool.and_eq_true]
  exact ⟨decide_eq_true (Nat.le_of_ble_eq_true h.1), decide_eq_true (Nat.le_of_ble_eq_true h.2)⟩
theorem ni_ {a b : Nat} (h : Nat.beq a b = false) : (@OfNat.ofNat Int a _) ≠ @OfNat.ofNat Int b _ := fun e => Nat.ne_of_beq_eq_false h (Int.ofNat.inj e)
theorem pn_0 : plainName RX0 = true := by decide
theorem pn_1 : plainName RX1 = true := by decide
theorem pn_2 : plainName RX2 = true := by decide
theorem pn_3 : plainName RX3 = true := by decide
theorem pn_4 : plainName RX4 = true := by decide
theorem pn_5 : plainName RX5 = true := by decide
theorem pn_6 : plainName RX6 = true := by decide
theorem pn_7 : plainName RX7 = true := by decide
theorem pn_8 : plainName RX8 = true := by decide
theorem pn_9 : plainName RX9 = true := by decide
theorem pn_10 : plainName RX10 = true := by decide
theorem pn_11 : plainName RX11 = true := by decide
