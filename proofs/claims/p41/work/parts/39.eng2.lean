-- Math.max, min and abs of ints, by the library's contracts
section J2
variable {Y : Zm} {T0 T : Zt} {P : Zt → Option Zv → Prop} {bc bs : Nat} {pc : Int} {ls : Zl} {rest : List Zv}
theorem j_mx {idx : Nat} {a b : Int} (hml : Cond.methodLink Y.1 idx Lib.Math.max.name ∈ lw_g) (hst : Cond.static Lib.Math.max.name ∈ lw_g) (hin : Cond.initialized "java/lang/Math" ∈ lw_g) (hco : Cond.code Lib.Math.max.name Lib.Math.max.code 2 (some .int) ∈ lw_g) (hd : decode Y.2.1 pc.toNat = .ok (.invokestatic idx, 3)) (hp : 0 ≤ pc) (hf : 1 ≤ Y.2.2.2.2.frames) (hlo : 21 ≤ Y.2.2.2.2.locals) (hrest : rest.length ≤ 4)
    (k : J_ Y T0 P bc bs (pc + 3) ls (vI (if a < b then b else a) :: rest) T) : J_ Y T0 P bc bs pc ls (vI b :: vI a :: rest) T := by
  intro l p e s m args below meth c D cA ad0 A X ad H locs cells slots lsC hc hs hR hS hB hT hL hl hln
  have ab : -2147483648 ≤ b ∧ b ≤ 2147483647 := ok_head hL
  have aa : -2147483648 ≤ a ∧ a ≤ 2147483647 := ok_head (ok_tail hL)
  have w := X.2.2.2.2.2.1
  have sm := en_sum (ad := ad) rest
  have kk := k l p e s m args below meth c D cA ad0 A X ad H locs cells slots lsC hc hs hR hS hB hT (ok_push (show ok_v T (vI (if a < b then b else a)) from (by split; exact ab; exact aa)) (ok_tail (ok_tail hL))) hl hln
  refine va_mmax (x := Int32.ofInt a) (y := Int32.ofInt b) X.1 X.2.1 (X.2.2.1.trans hl.1.symm) X.2.2.2.2.2.2.1 (w _ hml) (w _ hst) (w _ hin) (w _ hco) hf (by omega) (by omega) (by omega) hd ?_
  have e1 : (if Int32.ofInt a < Int32.ofInt b then Int32.ofInt b else Int32.ofInt a) = Int32.ofInt (if a < b then b else a) := by
    by_cases z : a < b
    · rw [if_pos z, if_pos ((i3_lt aa ab).mpr z)]
    · rw [if_neg z, if_neg (fun q => z ((i3_lt aa ab).mp q))]
  rw [e1]
  rw [show (pc + 3).toNat = pc.toNat + 3 by omega] at kk
  exact kk
end J2
section J3
variable {Y : Zm} {T0 T : Zt} {P : Zt → Option Zv → Prop} {bc bs : Nat} {pc : Int} {ls : Zl} {rest : List Zv}
theorem j_mn {idx : Nat} {a b : Int} (hml : Cond.methodLink Y.1 idx Lib.Math.min.name ∈ lw_g) (hst : Cond.static Lib.Math.min.name ∈ lw_g) (hin : Cond.initialized "java/lang/Math" ∈ lw_g) (hco : Cond.code Lib.Math.min.name Lib.Math.min.code 2 (some .int) ∈ lw_g) (hd : decode Y.2.1 pc.toNat = .ok (.invokestatic idx, 3)) (hp : 0 ≤ pc) (hf : 1 ≤ Y.2.2.2.2.frames) (hlo : 21 ≤ Y.2.2.2.2.locals) (hrest : rest.length ≤ 4)
    (k : J_ Y T0 P bc bs (pc + 3) ls (vI (if b < a then b else a) :: rest) T) : J_ Y T0 P bc bs pc ls (vI b :: vI a :: rest) T := by
  intro l p e s m args below meth c D cA ad0 A X ad H locs cells slots lsC hc hs hR hS hB hT hL hl hln
  have ab : -2147483648 ≤ b ∧ b ≤ 2147483647 := ok_head hL
  have aa : -2147483648 ≤ a ∧ a ≤ 2147483647 := ok_head (ok_tail hL)
  have w := X.2.2.2.2.2.1
  have sm := en_sum (ad := ad) rest
  have kk := k l p e s m args below meth c D cA ad0 A X ad H locs cells slots lsC hc hs hR hS hB hT (ok_push (show ok_v T (vI (if b < a then b else a)) from (by split; exact ab; exact aa)) (ok_tail (ok_tail hL))) hl hln
  refine va_mmin (x := Int32.ofInt a) (y := Int32.ofInt b) X.1 X.2.1 (X.2.2.1.trans hl.1.symm) X.2.2.2.2.2.2.1 (w _ hml) (w _ hst) (w _ hin) (w _ hco) hf (by omega) (by omega) (by omega) hd ?_
  have e1 : (if Int32.ofInt b < Int32.ofInt a then Int32.ofInt b else Int32.ofInt a) = Int32.ofInt (if b < a then b else a) := by
    by_cases z : b < a
    · rw [if_pos z, if_pos ((i3_lt ab aa).mpr z)]
    · rw [if_neg z, if_neg (fun q => z ((i3_lt ab aa).mp q))]
  rw [e1]
  rw [show (pc + 3).toNat = pc.toNat + 3 by omega] at kk
  exact kk
theorem j_ab {idx : Nat} {a : Int} (ha : -2147483647 ≤ a) (hml : Cond.methodLink Y.1 idx Lib.Math.abs.name ∈ lw_g) (hst : Cond.static Lib.Math.abs.name ∈ lw_g) (hin : Cond.initialized "java/lang/Math" ∈ lw_g) (hco : Cond.code Lib.Math.abs.name Lib.Math.abs.code 1 (some .int) ∈ lw_g) (hd : decode Y.2.1 pc.toNat = .ok (.invokestatic idx, 3)) (hp : 0 ≤ pc) (hf : 1 ≤ Y.2.2.2.2.frames) (hlo : 21 ≤ Y.2.2.2.2.locals) (hrest : rest.length ≤ 4)
    (k : J_ Y T0 P bc bs (pc + 3) ls (vI (if 0 ≤ a then a else -a) :: rest) T) : J_ Y T0 P bc bs pc ls (vI a :: rest) T := by
  intro l p e s m args below meth c D cA ad0 A X ad H locs cells slots lsC hc hs hR hS hB hT hL hl hln
  have aa : -2147483648 ≤ a ∧ a ≤ 2147483647 := ok_head hL
  have w := X.2.2.2.2.2.1
  have sm := en_sum (ad := ad) rest
  have kk := k l p e s m args below meth c D cA ad0 A X ad H locs cells slots lsC hc hs hR hS hB hT (ok_push (show ok_v T (vI (if 0 ≤ a then a else -a)) from (by split; exact aa; exact ⟨by omega, by omega⟩)) (ok_tail hL)) hl hln
  refine va_mabs (x := Int32.ofInt a) X.1 X.2.1 (X.2.2.1.trans hl.1.symm) X.2.2.2.2.2.2.1 (w _ hml) (w _ hst) (w _ hin) (w _ hco) hf (by omega) (by omega) (by omega) hd ?_
  have e1 : (if 0 ≤ Int32.ofInt a then Int32.ofInt a else 0 - Int32.ofInt a) = Int32.ofInt (if 0 ≤ a then a else -a) := by
    have z0 : (0 : Int32) ≤ Int32.ofInt a ↔ 0 ≤ a := by
      rw [Int32.le_iff_toInt_le, i3_t aa.1 aa.2]; exact Iff.rfl
    by_cases z : 0 ≤ a
    · rw [if_pos z, if_pos (z0.mpr z)]
    · rw [if_neg z, if_neg (fun q => z (z0.mp q)), Int32.ofInt_neg]; exact Int32.zero_sub _
  rw [e1]
  rw [show (pc + 3).toNat = pc.toNat + 3 by omega] at kk
  exact kk
end J3

