def x_g4 (kk k' : Nat) (j : Int) (C : Zl → List Zv → Zt → Prop) : Zl → List Zv → Zt → Prop := fun ls st T => match st with
  | .inr (.inr (some (k, i))) :: st => (match Nat.beq k kk with
    | true => (T k i j = 0 → C ls (vN :: st) T) ∧ (¬ T k i j = 0 → C ls (vR k' i :: st) T)
    | false => False)
  | _ => False
theorem xe_g4 {K : Int → Zl → List Zv → Zt → Prop} {P : Zt → Option Zv → Prop} {r : List Instr} {pe ci j : Int} {q : Array Int} {kk : Nat} {k' : Nat} {a : Int × Int} (hk : kk = 100 + ci.toNat) (h : (tf_ kk)[j.toNat]? = some (4, k', a)) : sx_ K P (.tableswitch 0 ci j q :: r) pe = x_g4 kk k' j (sx_ K P r pe) := by
  funext ls st T
  match st with
  | [] => rfl
  | .inl _ :: _ => rfl
  | .inr (.inl _) :: _ => rfl
  | .inr (.inr none) :: _ => rfl
  | .inr (.inr (some (k, i))) :: st =>
    show (if k = 100 + ci.toNat then (match (tf_ k)[j.toNat]? with
            | some (0, _, lo, hi) => lo ≤ T k i j → T k i j ≤ hi → sx_ K P r pe ls (vI (T k i j) :: st) T
            | some (1, k', _) => sx_ K P r pe ls (vR k' 0 :: st) T
            | some (2, k', _) => sx_ K P r pe ls (vR k' i :: st) T
            | some (3, k', _) => sx_ K P r pe ls (vR k' (T k i j) :: st) T
            | some (4, k', _) => (T k i j = 0 → sx_ K P r pe ls (vN :: st) T) ∧ (¬ T k i j = 0 → sx_ K P r pe ls (vR k' i :: st) T)
            | some (5, k', _) => (T k i j = 0 → sx_ K P r pe ls (vN :: st) T) ∧ (¬ T k i j = 0 → sx_ K P r pe ls (vR k' (T k i j - 1) :: st) T)
            | _ => False) else False) = (match Nat.beq k kk with
      | true => (T k i j = 0 → sx_ K P r pe ls (vN :: st) T) ∧ (¬ T k i j = 0 → sx_ K P r pe ls (vR k' i :: st) T)
      | false => False)
    by_cases z : k = kk
    · rw [if_pos (z.trans hk), show Nat.beq k kk = true by rw [z]; exact Nat.beq_refl kk, z, h] <;> rfl
    · rw [if_neg (fun w => z (w.trans hk.symm)), show Nat.beq k kk = false from Bool.eq_false_iff.mpr (fun w => z (Nat.eq_of_beq_eq_true w))] <;> rfl
def x_g5 (kk k' : Nat) (j : Int) (C : Zl → List Zv → Zt → Prop) : Zl → List Zv → Zt → Prop := fun ls st T => match st with
  | .inr (.inr (some (k, i))) :: st => (match Nat.beq k kk with
    | true => (T k i j = 0 → C ls (vN :: st) T) ∧ (¬ T k i j = 0 → C ls (vR k' (T k i j - 1) :: st) T)
    | false => False)
  | _ => False
theorem xe_g5 {K : Int → Zl → List Zv → Zt → Prop} {P : Zt → Option Zv → Prop} {r : List Instr} {pe ci j : Int} {q : Array Int} {kk : Nat} {k' : Nat} {a : Int × Int} (hk : kk = 100 + ci.toNat) (h : (tf_ kk)[j.toNat]? = some (5, k', a)) : sx_ K P (.tableswitch 0 ci j q :: r) pe = x_g5 kk k' j (sx_ K P r pe) := by
  funext ls st T
  match st with
  | [] => rfl
  | .inl _ :: _ => rfl
  | .inr (.inl _) :: _ => rfl
  | .inr (.inr none) :: _ => rfl
  | .inr (.inr (some (k, i))) :: st =>
    show (if k = 100 + ci.toNat then (match (tf_ k)[j.toNat]? with
            | some (0, _, lo, hi) => lo ≤ T k i j → T k i j ≤ hi → sx_ K P r pe ls (vI (T k i j) :: st) T
            | some (1, k', _) => sx_ K P r pe ls (vR k' 0 :: st) T
            | some (2, k', _) => sx_ K P r pe ls (vR k' i :: st) T
            | some (3, k', _) => sx_ K P r pe ls (vR k' (T k i j) :: st) T
            | some (4, k', _) => (T k i j = 0 → sx_ K P r pe ls (vN :: st) T) ∧ (¬ T k i j = 0 → sx_ K P r pe ls (vR k' i :: st) T)
            | some (5, k', _) => (T k i j = 0 → sx_ K P r pe ls (vN :: st) T) ∧ (¬ T k i j = 0 → sx_ K P r pe ls (vR k' (T k i j - 1) :: st) T)
            | _ => False) else False) = (match Nat.beq k kk with
      | true => (T k i j = 0 → sx_ K P r pe ls (vN :: st) T) ∧ (¬ T k i j = 0 → sx_ K P r pe ls (vR k' (T k i j - 1) :: st) T)
      | false => False)
    by_cases z : k = kk
    · rw [if_pos (z.trans hk), show Nat.beq k kk = true by rw [z]; exact Nat.beq_refl kk, z, h] <;> rfl
    · rw [if_neg (fun w => z (w.trans hk.symm)), show Nat.beq k kk = false from Bool.eq_false_iff.mpr (fun w => z (Nat.eq_of_beq_eq_true w))] <;> rfl
def x_p (kk : Nat) (j lo hi : Int) (C : Zl → List Zv → Zt → Prop) : Zl → List Zv → Zt → Prop := fun ls st T => match st with
  | .inl x :: .inr (.inr (some (k, i))) :: st => (match Nat.beq k kk with
    | true => lo ≤ x ∧ x ≤ hi ∧ C ls st (up_ T k i j x)
    | false => False)
  | _ => False
theorem xe_p {K : Int → Zl → List Zv → Zt → Prop} {P : Zt → Option Zv → Prop} {r : List Instr} {pe ci j : Int} {q : Array Int} {kk : Nat} {a : Nat} {lo hi : Int} (hk : kk = 100 + ci.toNat) (h : (tf_ kk)[j.toNat]? = some (0, a, lo, hi)) : sx_ K P (.tableswitch 1 ci j q :: r) pe = x_p kk j lo hi (sx_ K P r pe) := by
  funext ls st T
  match st with
  | [] => rfl
  | [.inl _] => rfl
  | .inl _ :: .inl _ :: _ => rfl
  | .inl _ :: .inr (.inl _) :: _ => rfl
  | .inl _ :: .inr (.inr none) :: _ => rfl
  | .inr _ :: _ => rfl
  | .inl x :: .inr (.inr (some (k, i))) :: st =>
    show (if k = 100 + ci.toNat then (match (tf_ k)[j.toNat]? with
            | some (0, _, lo, hi) => lo ≤ x ∧ x ≤ hi ∧ sx_ K P r pe ls st (up_ T k i j x)
            | _ => False) else False) = (match Nat.beq k kk with
      | true => lo ≤ x ∧ x ≤ hi ∧ sx_ K P r pe ls st (up_ T k i j x)
      | false => False)
    by_cases z : k = kk
    · rw [if_pos (z.trans hk), show Nat.beq k kk = true by rw [z]; exact Nat.beq_refl kk, z, h] <;> rfl
    · rw [if_neg (fun w => z (w.trans hk.symm)), show Nat.beq k kk = false from Bool.eq_false_iff.mpr (fun w => z (Nat.eq_of_beq_eq_true w))] <;> rfl
/-- a picture named -/
theorem x_nm {C : Zl → List Zv → Zt → Prop} {ls : Zl} {st : List Zv} {t : Zt} (h : ∀ T1, T1 = t → C ls st T1) : C ls st t := h t rfl
section JX
variable {Y : Zm} {T0 T : Zt} {P : Zt → Option Zv → Prop} {bc bs : Nat} {pc : Int} {ls : Zl} {rest : List Zv}
/-- a block runs, told by its own words -/
theorem j_blx {F : Zf} {pe : Int} {blk : List Instr} {X : (Int → Zl → List Zv → Zt → Prop) → Zl → List Zv → Zt → Prop} (hF : tb_ Y.1 F) (hp : 0 ≤ pc) (hck : ck_ F Y.2.2.2.1 Y.2.1 pc blk pe = true) (hX : ∀ K, sx_ K P blk pe = X K) (hz : Y.2.2.2.1 = some .boolean → ∀ T x, P T (some (vI x)) → 0 ≤ x ∧ x ≤ 1) (h : ∀ K : Int → Zl → List Zv → Zt → Prop, (∀ pc ls st T, J_ Y T0 P bc bs pc ls st T → K pc ls st T) → X K ls rest T) : J_ Y T0 P bc bs pc ls rest T := j_blk hF hp hck hz (fun K hK => by rw [hX K]; exact h K hK)
end JX
theorem tl_0_0 : (tf_ 100)[Int.toNat 0]? = some (0, 0, 0, 3) := by decide +kernel
theorem tl_0_1 : (tf_ 100)[Int.toNat 1]? = some (2, 401, (-2147483648), 2147483647) := by decide +kernel
theorem tl_0_2 : (tf_ 100)[Int.toNat 2]? = some (2, 402, (-2147483648), 2147483647) := by decide +kernel
theorem tl_0_3 : (tf_ 100)[Int.toNat 3]? = some (2, 403, (-2147483648), 2147483647) := by decide +kernel
theorem tl_0_4 : (tf_ 100)[Int.toNat 4]? = some (2, 404, (-2147483648), 2147483647) := by decide +kernel
theorem tl_0_5 : (tf_ 100)[Int.toNat 5]? = some (0, 0, 0, 12) := by decide +kernel
theorem tl_0_6 : (tf_ 100)[Int.toNat 6]? = some (0, 0, 0, 1) := by decide +kernel
theorem tl_0_7 : (tf_ 100)[Int.toNat 7]? = some (0, 0, 0, 400) := by decide +kernel
theorem tl_0_8 : (tf_ 100)[Int.toNat 8]? = some (0, 0, 0, 400) := by decide +kernel
theorem tl_1_0 : (tf_ 101)[Int.toNat 0]? = some (1, 108, (-2147483648), 2147483647) := by decide +kernel
theorem tl_1_1 : (tf_ 101)[Int.toNat 1]? = some (0, 0, 0, 4) := by decide +kernel
theorem tl_1_2 : (tf_ 101)[Int.toNat 2]? = some (0, 0, 0, 3) := by decide +kernel
theorem tl_1_3 : (tf_ 101)[Int.toNat 3]? = some (0, 0, (-2147483648), 2147483647) := by decide +kernel
theorem tl_1_4 : (tf_ 101)[Int.toNat 4]? = some (0, 0, (-2147483648), 2147483647) := by decide +kernel
theorem tl_1_5 : (tf_ 101)[Int.toNat 5]? = some (0, 0, (-2147483648), 2147483647) := by decide +kernel
theorem tl_1_6 : (tf_ 101)[Int.toNat 6]? = some (0, 0, (-2147483648), 2147483647) := by decide +kernel
theorem tl_1_7 : (tf_ 101)[Int.toNat 7]? = some (0, 0, 0, 1) := by decide +kernel
theorem tl_1_8 : (tf_ 101)[Int.toNat 8]? = some (1, 428, (-2147483648), 2147483647) := by decide +kernel
theorem tl_1_9 : (tf_ 101)[Int.toNat 9]? = some (1, 429, (-2147483648), 2147483647) := by decide +kernel
theorem tl_1_10 : (tf_ 101)[Int.toNat 10]? = some (1, 430, (-2147483648), 2147483647) := by decide +kernel
theorem tl_1_11 : (tf_ 101)[Int.toNat 11]? = some (1, 431, (-2147483648), 2147483647) := by decide +kernel
theorem tl_1_12 : (tf_ 101)[Int.toNat 12]? = some (1, 432, (-2147483648), 2147483647) := by decide +kernel
theorem tl_1_13 : (tf_ 101)[Int.toNat 13]? = some (0, 0, 0, 12) := by decide +kernel
theorem tl_1_14 : (tf_ 101)[Int.toNat 14]? = some (1, 434, (-2147483648), 2147483647) := by decide +kernel
theorem tl_1_15 : (tf_ 101)[Int.toNat 15]? = some (1, 435, (-2147483648), 2147483647) := by decide +kernel
theorem tl_2_0 : (tf_ 102)[Int.toNat 0]? = some (3, 100, (-2147483648), 2147483647) := by decide +kernel
theorem tl_2_1 : (tf_ 102)[Int.toNat 1]? = some (0, 0, 0, 399) := by decide +kernel
theorem tl_2_2 : (tf_ 102)[Int.toNat 2]? = some (0, 0, (-2147483648), 2147483647) := by decide +kernel
theorem tl_2_3 : (tf_ 102)[Int.toNat 3]? = some (0, 0, 0, 11) := by decide +kernel
theorem tl_2_4 : (tf_ 102)[Int.toNat 4]? = some (0, 0, 0, 11) := by decide +kernel
theorem tl_2_5 : (tf_ 102)[Int.toNat 5]? = some (0, 0, 0, 999) := by decide +kernel
theorem tl_2_6 : (tf_ 102)[Int.toNat 6]? = some (0, 0, (-1), 1) := by decide +kernel
theorem tl_2_7 : (tf_ 102)[Int.toNat 7]? = some (0, 0, (-1), 7) := by decide +kernel
theorem tl_2_8 : (tf_ 102)[Int.toNat 8]? = some (2, 448, (-2147483648), 2147483647) := by decide +kernel
theorem tl_2_9 : (tf_ 102)[Int.toNat 9]? = some (2, 449, (-2147483648), 2147483647) := by decide +kernel
theorem tl_2_10 : (tf_ 102)[Int.toNat 10]? = some (4, 103, (-2147483648), 2147483647) := by decide +kernel
theorem tl_3_0 : (tf_ 103)[Int.toNat 0]? = some (3, 401, (-2147483648), 2147483647) := by decide +kernel
theorem tl_3_1 : (tf_ 103)[Int.toNat 1]? = some (2, 448, (-2147483648), 2147483647) := by decide +kernel
theorem tl_3_2 : (tf_ 103)[Int.toNat 2]? = some (2, 449, (-2147483648), 2147483647) := by decide +kernel
theorem tl_3_3 : (tf_ 103)[Int.toNat 3]? = some (0, 0, 0, 1) := by decide +kernel
theorem tl_3_4 : (tf_ 103)[Int.toNat 4]? = some (0, 0, (-2147483648), 2147483647) := by decide +kernel
theorem tl_3_5 : (tf_ 103)[Int.toNat 5]? = some (0, 0, 0, 1) := by decide +kernel
theorem tl_3_6 : (tf_ 103)[Int.toNat 6]? = some (2, 466, (-2147483648), 2147483647) := by decide +kernel
theorem tl_3_7 : (tf_ 103)[Int.toNat 7]? = some (2, 467, (-2147483648), 2147483647) := by decide +kernel
theorem tl_3_8 : (tf_ 103)[Int.toNat 8]? = some (2, 468, (-2147483648), 2147483647) := by decide +kernel
theorem tl_3_9 : (tf_ 103)[Int.toNat 9]? = some (2, 469, (-2147483648), 2147483647) := by decide +kernel
theorem tl_3_10 : (tf_ 103)[Int.toNat 10]? = some (2, 470, (-2147483648), 2147483647) := by decide +kernel
theorem tl_3_11 : (tf_ 103)[Int.toNat 11]? = some (2, 471, (-2147483648), 2147483647) := by decide +kernel
theorem tl_3_12 : (tf_ 103)[Int.toNat 12]? = some (2, 472, (-2147483648), 2147483647) := by decide +kernel
theorem tl_3_13 : (tf_ 103)[Int.toNat 13]? = some (2, 473, (-2147483648), 2147483647) := by decide +kernel
theorem tl_3_14 : (tf_ 103)[Int.toNat 14]? = some (3, 190, (-2147483648), 2147483647) := by decide +kernel
theorem tl_3_15 : (tf_ 103)[Int.toNat 15]? = some (0, 0, 0, 3000) := by decide +kernel
theorem tl_3_16 : (tf_ 103)[Int.toNat 16]? = some (3, 190, (-2147483648), 2147483647) := by decide +kernel
theorem tl_3_17 : (tf_ 103)[Int.toNat 17]? = some (0, 0, 0, 3000) := by decide +kernel
theorem tl_4_0 : (tf_ 104)[Int.toNat 0]? = some (1, 106, (-2147483648), 2147483647) := by decide +kernel
theorem tl_4_1 : (tf_ 104)[Int.toNat 1]? = some (1, 108, (-2147483648), 2147483647) := by decide +kernel
theorem tl_4_2 : (tf_ 104)[Int.toNat 2]? = some (1, 482, (-2147483648), 2147483647) := by decide +kernel
theorem tl_4_3 : (tf_ 104)[Int.toNat 3]? = some (0, 0, 0, 400) := by decide +kernel
theorem tl_4_4 : (tf_ 104)[Int.toNat 4]? = some (3, 190, (-2147483648), 2147483647) := by decide +kernel
theorem tl_5_0 : (tf_ 105)[Int.toNat 0]? = some (1, 500, (-2147483648), 2147483647) := by decide +kernel
theorem tl_5_1 : (tf_ 105)[Int.toNat 1]? = some (0, 0, 0, 400) := by decide +kernel
theorem tl_5_2 : (tf_ 105)[Int.toNat 2]? = some (0, 0, 0, 5) := by decide +kernel
theorem tl_5_3 : (tf_ 105)[Int.toNat 3]? = some (0, 0, (-1), 400) := by decide +kernel
theorem tl_5_4 : (tf_ 105)[Int.toNat 4]? = some (1, 504, (-2147483648), 2147483647) := by decide +kernel
theorem tl_5_5 : (tf_ 105)[Int.toNat 5]? = some (1, 505, (-2147483648), 2147483647) := by decide +kernel
theorem tl_5_6 : (tf_ 105)[Int.toNat 6]? = some (0, 0, (-2147483648), 2147483647) := by decide +kernel
theorem tl_5_7 : (tf_ 105)[Int.toNat 7]? = some (0, 0, 0, 5) := by decide +kernel
theorem tl_5_8 : (tf_ 105)[Int.toNat 8]? = some (0, 0, 0, 400) := by decide +kernel
theorem tl_5_9 : (tf_ 105)[Int.toNat 9]? = some (0, 0, 0, 400) := by decide +kernel
theorem tl_6_0 : (tf_ 106)[Int.toNat 0]? = some (1, 108, (-2147483648), 2147483647) := by decide +kernel
theorem tl_6_1 : (tf_ 106)[Int.toNat 1]? = some (1, 521, (-2147483648), 2147483647) := by decide +kernel
theorem tl_6_2 : (tf_ 106)[Int.toNat 2]? = some (0, 0, 0, 4) := by decide +kernel
theorem tl_6_3 : (tf_ 106)[Int.toNat 3]? = some (1, 523, (-2147483648), 2147483647) := by decide +kernel
theorem tl_6_4 : (tf_ 106)[Int.toNat 4]? = some (0, 0, 0, 400) := by decide +kernel
theorem tl_6_5 : (tf_ 106)[Int.toNat 5]? = some (0, 0, 0, 3000) := by decide +kernel
theorem tl_6_6 : (tf_ 106)[Int.toNat 6]? = some (0, 0, 0, 50) := by decide +kernel
theorem tl_6_7 : (tf_ 106)[Int.toNat 7]? = some (1, 527, (-2147483648), 2147483647) := by decide +kernel
theorem tl_6_8 : (tf_ 106)[Int.toNat 8]? = some (1, 528, (-2147483648), 2147483647) := by decide +kernel
theorem tl_6_9 : (tf_ 106)[Int.toNat 9]? = some (1, 529, (-2147483648), 2147483647) := by decide +kernel
theorem tl_6_10 : (tf_ 106)[Int.toNat 10]? = some (1, 530, (-2147483648), 2147483647) := by decide +kernel
theorem tl_6_11 : (tf_ 106)[Int.toNat 11]? = some (1, 531, (-2147483648), 2147483647) := by decide +kernel
theorem tl_6_12 : (tf_ 106)[Int.toNat 12]? = some (0, 0, 0, 400) := by decide +kernel
theorem tl_6_13 : (tf_ 106)[Int.toNat 13]? = some (1, 533, (-2147483648), 2147483647) := by decide +kernel
theorem tl_6_14 : (tf_ 106)[Int.toNat 14]? = some (1, 534, (-2147483648), 2147483647) := by decide +kernel
theorem tl_6_15 : (tf_ 106)[Int.toNat 15]? = some (1, 535, (-2147483648), 2147483647) := by decide +kernel
theorem tl_7_0 : (tf_ 107)[Int.toNat 0]? = some (1, 106, (-2147483648), 2147483647) := by decide +kernel
theorem tl_7_1 : (tf_ 107)[Int.toNat 1]? = some (5, 100, (-2147483648), 2147483647) := by decide +kernel
theorem tl_7_2 : (tf_ 107)[Int.toNat 2]? = some (1, 542, (-2147483648), 2147483647) := by decide +kernel
theorem tl_7_3 : (tf_ 107)[Int.toNat 3]? = some (1, 543, (-2147483648), 2147483647) := by decide +kernel
theorem tl_7_4 : (tf_ 107)[Int.toNat 4]? = some (1, 544, (-2147483648), 2147483647) := by decide +kernel
theorem tl_7_5 : (tf_ 107)[Int.toNat 5]? = some (1, 545, (-2147483648), 2147483647) := by decide +kernel
theorem tl_7_6 : (tf_ 107)[Int.toNat 6]? = some (1, 546, (-2147483648), 2147483647) := by decide +kernel
theorem tl_7_7 : (tf_ 107)[Int.toNat 7]? = some (1, 547, (-2147483648), 2147483647) := by decide +kernel
theorem tl_7_8 : (tf_ 107)[Int.toNat 8]? = some (1, 548, (-2147483648), 2147483647) := by decide +kernel
theorem tl_7_9 : (tf_ 107)[Int.toNat 9]? = some (1, 549, (-2147483648), 2147483647) := by decide +kernel
theorem tl_7_10 : (tf_ 107)[Int.toNat 10]? = some (1, 550, (-2147483648), 2147483647) := by decide +kernel
theorem tl_7_11 : (tf_ 107)[Int.toNat 11]? = some (1, 551, (-2147483648), 2147483647) := by decide +kernel
theorem tl_7_12 : (tf_ 107)[Int.toNat 12]? = some (1, 552, (-2147483648), 2147483647) := by decide +kernel
theorem tl_7_13 : (tf_ 107)[Int.toNat 13]? = some (0, 0, 0, 16) := by decide +kernel
theorem tl_8_0 : (tf_ 108)[Int.toNat 0]? = some (1, 560, (-2147483648), 2147483647) := by decide +kernel
theorem tl_8_1 : (tf_ 108)[Int.toNat 1]? = some (1, 561, (-2147483648), 2147483647) := by decide +kernel
theorem tl_8_2 : (tf_ 108)[Int.toNat 2]? = some (0, 0, 0, 12) := by decide +kernel
theorem tl_8_3 : (tf_ 108)[Int.toNat 3]? = some (0, 0, 0, 200) := by decide +kernel
theorem tl_8_4 : (tf_ 108)[Int.toNat 4]? = some (1, 564, (-2147483648), 2147483647) := by decide +kernel
theorem tl_8_5 : (tf_ 108)[Int.toNat 5]? = some (0, 0, 0, 300) := by decide +kernel
theorem tl_8_6 : (tf_ 108)[Int.toNat 6]? = some (1, 566, (-2147483648), 2147483647) := by decide +kernel
theorem tl_8_7 : (tf_ 108)[Int.toNat 7]? = some (1, 567, (-2147483648), 2147483647) := by decide +kernel
theorem tl_8_8 : (tf_ 108)[Int.toNat 8]? = some (1, 568, (-2147483648), 2147483647) := by decide +kernel
theorem tl_8_9 : (tf_ 108)[Int.toNat 9]? = some (1, 569, (-2147483648), 2147483647) := by decide +kernel
theorem tl_8_10 : (tf_ 108)[Int.toNat 10]? = some (1, 570, (-2147483648), 2147483647) := by decide +kernel
theorem tl_8_11 : (tf_ 108)[Int.toNat 11]? = some (1, 571, (-2147483648), 2147483647) := by decide +kernel
theorem tl_8_12 : (tf_ 108)[Int.toNat 12]? = some (0, 0, 0, 8) := by decide +kernel
theorem tl_8_13 : (tf_ 108)[Int.toNat 13]? = some (0, 0, 0, 999) := by decide +kernel
theorem tl_9_0 : (tf_ 109)[Int.toNat 0]? = some (1, 106, (-2147483648), 2147483647) := by decide +kernel
theorem tl_9_1 : (tf_ 109)[Int.toNat 1]? = some (1, 107, (-2147483648), 2147483647) := by decide +kernel
theorem tl_9_2 : (tf_ 109)[Int.toNat 2]? = some (0, 0, (-1), 2) := by decide +kernel
theorem tl_9_3 : (tf_ 109)[Int.toNat 3]? = some (0, 0, 0, 4095) := by decide +kernel
theorem tl_9_4 : (tf_ 109)[Int.toNat 4]? = some (1, 584, (-2147483648), 2147483647) := by decide +kernel
theorem tl_9_5 : (tf_ 109)[Int.toNat 5]? = some (5, 100, (-2147483648), 2147483647) := by decide +kernel
theorem tl_9_6 : (tf_ 109)[Int.toNat 6]? = some (0, 0, (-2147483648), 2147483647) := by decide +kernel
theorem tl_9_7 : (tf_ 109)[Int.toNat 7]? = some (1, 587, (-2147483648), 2147483647) := by decide +kernel
theorem tl_9_8 : (tf_ 109)[Int.toNat 8]? = some (1, 588, (-2147483648), 2147483647) := by decide +kernel
theorem tl_9_9 : (tf_ 109)[Int.toNat 9]? = some (0, 0, 0, 40) := by decide +kernel
theorem tl_9_10 : (tf_ 109)[Int.toNat 10]? = some (1, 590, (-2147483648), 2147483647) := by decide +kernel
theorem tl_9_11 : (tf_ 109)[Int.toNat 11]? = some (1, 591, (-2147483648), 2147483647) := by decide +kernel
theorem tl_9_12 : (tf_ 109)[Int.toNat 12]? = some (1, 592, (-2147483648), 2147483647) := by decide +kernel
theorem tl_9_13 : (tf_ 109)[Int.toNat 13]? = some (1, 593, (-2147483648), 2147483647) := by decide +kernel
theorem tl_9_14 : (tf_ 109)[Int.toNat 14]? = some (1, 594, (-2147483648), 2147483647) := by decide +kernel
theorem tl_9_15 : (tf_ 109)[Int.toNat 15]? = some (5, 190, (-2147483648), 2147483647) := by decide +kernel
theorem tl_10_0 : (tf_ 110)[Int.toNat 0]? = some (1, 105, (-2147483648), 2147483647) := by decide +kernel
theorem tl_10_1 : (tf_ 110)[Int.toNat 1]? = some (1, 108, (-2147483648), 2147483647) := by decide +kernel
theorem tl_10_2 : (tf_ 110)[Int.toNat 2]? = some (1, 106, (-2147483648), 2147483647) := by decide +kernel
theorem tl_10_3 : (tf_ 110)[Int.toNat 3]? = some (1, 107, (-2147483648), 2147483647) := by decide +kernel
theorem tl_10_4 : (tf_ 110)[Int.toNat 4]? = some (1, 109, (-2147483648), 2147483647) := by decide +kernel
theorem tl_10_5 : (tf_ 110)[Int.toNat 5]? = some (1, 101, (-2147483648), 2147483647) := by decide +kernel
theorem tl_10_6 : (tf_ 110)[Int.toNat 6]? = some (1, 104, (-2147483648), 2147483647) := by decide +kernel
theorem tl_11_0 : (tf_ 111)[Int.toNat 0]? = some (1, 200, (-2147483648), 2147483647) := by decide +kernel
theorem tl_11_1 : (tf_ 111)[Int.toNat 1]? = some (0, 0, 0, 400) := by decide +kernel
theorem tl_11_2 : (tf_ 111)[Int.toNat 2]? = some (0, 0, (-1), 400) := by decide +kernel
theorem tl_11_3 : (tf_ 111)[Int.toNat 3]? = some (0, 0, 0, 999) := by decide +kernel
theorem tl_11_4 : (tf_ 111)[Int.toNat 4]? = some (1, 204, (-2147483648), 2147483647) := by decide +kernel
theorem tl_11_5 : (tf_ 111)[Int.toNat 5]? = some (1, 205, (-2147483648), 2147483647) := by decide +kernel
theorem tl_11_6 : (tf_ 111)[Int.toNat 6]? = some (0, 0, 0, 4) := by decide +kernel
theorem tl_11_7 : (tf_ 111)[Int.toNat 7]? = some (1, 207, (-2147483648), 2147483647) := by decide +kernel
theorem tl_11_8 : (tf_ 111)[Int.toNat 8]? = some (1, 208, (-2147483648), 2147483647) := by decide +kernel
theorem tl_11_9 : (tf_ 111)[Int.toNat 9]? = some (1, 209, (-2147483648), 2147483647) := by decide +kernel
theorem tl_11_10 : (tf_ 111)[Int.toNat 10]? = some (1, 210, (-2147483648), 2147483647) := by decide +kernel
theorem tl_11_11 : (tf_ 111)[Int.toNat 11]? = some (1, 211, (-2147483648), 2147483647) := by decide +kernel
theorem tl_11_12 : (tf_ 111)[Int.toNat 12]? = some (0, 0, 0, 12) := by decide +kernel
theorem tl_11_13 : (tf_ 111)[Int.toNat 13]? = some (1, 213, (-2147483648), 2147483647) := by decide +kernel
theorem tl_11_14 : (tf_ 111)[Int.toNat 14]? = some (1, 214, (-2147483648), 2147483647) := by decide +kernel
theorem tl_11_15 : (tf_ 111)[Int.toNat 15]? = some (0, 0, 0, 200) := by decide +kernel
theorem tl_11_16 : (tf_ 111)[Int.toNat 16]? = some (0, 0, 0, 300) := by decide +kernel
theorem tl_11_17 : (tf_ 111)[Int.toNat 17]? = some (1, 217, (-2147483648), 2147483647) := by decide +kernel
theorem tl_11_18 : (tf_ 111)[Int.toNat 18]? = some (1, 218, (-2147483648), 2147483647) := by decide +kernel
theorem tl_11_19 : (tf_ 111)[Int.toNat 19]? = some (1, 219, (-2147483648), 2147483647) := by decide +kernel
theorem tl_11_20 : (tf_ 111)[Int.toNat 20]? = some (1, 220, (-2147483648), 2147483647) := by decide +kernel
theorem tl_11_21 : (tf_ 111)[Int.toNat 21]? = some (0, 0, 0, 8) := by decide +kernel
theorem tl_11_22 : (tf_ 111)[Int.toNat 22]? = some (1, 222, (-2147483648), 2147483647) := by decide +kernel
theorem tl_11_23 : (tf_ 111)[Int.toNat 23]? = some (1, 223, (-2147483648), 2147483647) := by decide +kernel
theorem tl_11_24 : (tf_ 111)[Int.toNat 24]? = some (0, 0, 0, 50) := by decide +kernel
theorem tl_11_25 : (tf_ 111)[Int.toNat 25]? = some (1, 225, (-2147483648), 2147483647) := by decide +kernel
theorem tl_11_26 : (tf_ 111)[Int.toNat 26]? = some (1, 226, (-2147483648), 2147483647) := by decide +kernel
theorem tl_11_27 : (tf_ 111)[Int.toNat 27]? = some (1, 227, (-2147483648), 2147483647) := by decide +kernel
theorem tl_11_28 : (tf_ 111)[Int.toNat 28]? = some (1, 228, (-2147483648), 2147483647) := by decide +kernel
theorem tl_11_29 : (tf_ 111)[Int.toNat 29]? = some (0, 0, 0, 400) := by decide +kernel
theorem tl_11_30 : (tf_ 111)[Int.toNat 30]? = some (1, 230, (-2147483648), 2147483647) := by decide +kernel
theorem tl_11_31 : (tf_ 111)[Int.toNat 31]? = some (1, 231, (-2147483648), 2147483647) := by decide +kernel
theorem tl_11_32 : (tf_ 111)[Int.toNat 32]? = some (1, 232, (-2147483648), 2147483647) := by decide +kernel
theorem tl_11_33 : (tf_ 111)[Int.toNat 33]? = some (1, 233, (-2147483648), 2147483647) := by decide +kernel
theorem tl_11_34 : (tf_ 111)[Int.toNat 34]? = some (1, 234, (-2147483648), 2147483647) := by decide +kernel
theorem tl_11_35 : (tf_ 111)[Int.toNat 35]? = some (1, 235, (-2147483648), 2147483647) := by decide +kernel
theorem tl_11_36 : (tf_ 111)[Int.toNat 36]? = some (1, 236, (-2147483648), 2147483647) := by decide +kernel
theorem tl_11_37 : (tf_ 111)[Int.toNat 37]? = some (1, 237, (-2147483648), 2147483647) := by decide +kernel
theorem tl_11_38 : (tf_ 111)[Int.toNat 38]? = some (1, 238, (-2147483648), 2147483647) := by decide +kernel
theorem tl_11_39 : (tf_ 111)[Int.toNat 39]? = some (1, 239, (-2147483648), 2147483647) := by decide +kernel
theorem tl_11_40 : (tf_ 111)[Int.toNat 40]? = some (1, 240, (-2147483648), 2147483647) := by decide +kernel
theorem tl_11_41 : (tf_ 111)[Int.toNat 41]? = some (1, 241, (-2147483648), 2147483647) := by decide +kernel
theorem tl_11_42 : (tf_ 111)[Int.toNat 42]? = some (1, 242, (-2147483648), 2147483647) := by decide +kernel
theorem tl_11_43 : (tf_ 111)[Int.toNat 43]? = some (1, 243, (-2147483648), 2147483647) := by decide +kernel
theorem tl_11_44 : (tf_ 111)[Int.toNat 44]? = some (1, 244, (-2147483648), 2147483647) := by decide +kernel
theorem tl_11_45 : (tf_ 111)[Int.toNat 45]? = some (1, 245, (-2147483648), 2147483647) := by decide +kernel
theorem tl_11_46 : (tf_ 111)[Int.toNat 46]? = some (1, 246, (-2147483648), 2147483647) := by decide +kernel
theorem tl_11_47 : (tf_ 111)[Int.toNat 47]? = some (0, 0, 0, 3000) := by decide +kernel
theorem tl_11_48 : (tf_ 111)[Int.toNat 48]? = some (1, 248, (-2147483648), 2147483647) := by decide +kernel
theorem tl_11_49 : (tf_ 111)[Int.toNat 49]? = some (1, 249, (-2147483648), 2147483647) := by decide +kernel
theorem tl_11_50 : (tf_ 111)[Int.toNat 50]? = some (1, 250, (-2147483648), 2147483647) := by decide +kernel
theorem tl_11_51 : (tf_ 111)[Int.toNat 51]? = some (1, 251, (-2147483648), 2147483647) := by decide +kernel
theorem tl_11_52 : (tf_ 111)[Int.toNat 52]? = some (1, 252, (-2147483648), 2147483647) := by decide +kernel
theorem tl_11_53 : (tf_ 111)[Int.toNat 53]? = some (1, 253, (-2147483648), 2147483647) := by decide +kernel
theorem tl_11_54 : (tf_ 111)[Int.toNat 54]? = some (1, 254, (-2147483648), 2147483647) := by decide +kernel
theorem tl_11_55 : (tf_ 111)[Int.toNat 55]? = some (1, 255, (-2147483648), 2147483647) := by decide +kernel
theorem tl_11_56 : (tf_ 111)[Int.toNat 56]? = some (1, 256, (-2147483648), 2147483647) := by decide +kernel
theorem tl_11_57 : (tf_ 111)[Int.toNat 57]? = some (0, 0, 0, 400) := by decide +kernel
theorem tl_11_58 : (tf_ 111)[Int.toNat 58]? = some (0, 0, 0, 4) := by decide +kernel
theorem tl_11_59 : (tf_ 111)[Int.toNat 59]? = some (0, 0, 0, 400) := by decide +kernel
theorem tl_11_60 : (tf_ 111)[Int.toNat 60]? = some (0, 0, 0, 400) := by decide +kernel
theorem tl_11_61 : (tf_ 111)[Int.toNat 61]? = some (0, 0, (-2147483648), 2147483647) := by decide +kernel
theorem tl_11_62 : (tf_ 111)[Int.toNat 62]? = some (0, 0, 0, 5) := by decide +kernel
theorem tl_11_63 : (tf_ 111)[Int.toNat 63]? = some (0, 0, (-1), 400) := by decide +kernel
theorem tl_11_64 : (tf_ 111)[Int.toNat 64]? = some (1, 264, (-2147483648), 2147483647) := by decide +kernel
theorem tl_11_65 : (tf_ 111)[Int.toNat 65]? = some (1, 265, (-2147483648), 2147483647) := by decide +kernel
theorem tl_11_66 : (tf_ 111)[Int.toNat 66]? = some (1, 266, (-2147483648), 2147483647) := by decide +kernel
theorem tl_11_67 : (tf_ 111)[Int.toNat 67]? = some (1, 267, (-2147483648), 2147483647) := by decide +kernel
theorem tl_11_68 : (tf_ 111)[Int.toNat 68]? = some (1, 268, (-2147483648), 2147483647) := by decide +kernel
theorem tl_11_69 : (tf_ 111)[Int.toNat 69]? = some (1, 269, (-2147483648), 2147483647) := by decide +kernel
theorem tl_11_70 : (tf_ 111)[Int.toNat 70]? = some (1, 270, (-2147483648), 2147483647) := by decide +kernel
theorem tl_11_71 : (tf_ 111)[Int.toNat 71]? = some (1, 271, (-2147483648), 2147483647) := by decide +kernel
theorem tl_11_72 : (tf_ 111)[Int.toNat 72]? = some (1, 272, (-2147483648), 2147483647) := by decide +kernel
theorem tl_11_73 : (tf_ 111)[Int.toNat 73]? = some (0, 0, 0, 400) := by decide +kernel
theorem tl_11_74 : (tf_ 111)[Int.toNat 74]? = some (1, 274, (-2147483648), 2147483647) := by decide +kernel
theorem tl_11_75 : (tf_ 111)[Int.toNat 75]? = some (0, 0, 0, 400) := by decide +kernel
theorem tl_11_76 : (tf_ 111)[Int.toNat 76]? = some (1, 276, (-2147483648), 2147483647) := by decide +kernel
theorem tl_11_77 : (tf_ 111)[Int.toNat 77]? = some (1, 277, (-2147483648), 2147483647) := by decide +kernel
theorem tl_11_78 : (tf_ 111)[Int.toNat 78]? = some (1, 278, (-2147483648), 2147483647) := by decide +kernel
theorem tl_11_79 : (tf_ 111)[Int.toNat 79]? = some (0, 0, 0, 12) := by decide +kernel
theorem tl_11_80 : (tf_ 111)[Int.toNat 80]? = some (0, 0, 0, 1) := by decide +kernel
theorem tl_11_81 : (tf_ 111)[Int.toNat 81]? = some (1, 281, (-2147483648), 2147483647) := by decide +kernel
theorem tl_11_82 : (tf_ 111)[Int.toNat 82]? = some (0, 0, (-2147483648), 2147483647) := by decide +kernel
theorem tl_11_83 : (tf_ 111)[Int.toNat 83]? = some (0, 0, (-2147483648), 2147483647) := by decide +kernel
theorem tl_11_84 : (tf_ 111)[Int.toNat 84]? = some (1, 284, (-2147483648), 2147483647) := by decide +kernel
theorem tl_11_85 : (tf_ 111)[Int.toNat 85]? = some (0, 0, 0, 4095) := by decide +kernel
theorem tl_11_86 : (tf_ 111)[Int.toNat 86]? = some (1, 286, (-2147483648), 2147483647) := by decide +kernel
theorem tl_11_87 : (tf_ 111)[Int.toNat 87]? = some (0, 0, 0, 120) := by decide +kernel
theorem tl_11_88 : (tf_ 111)[Int.toNat 88]? = some (0, 0, (-1), 3) := by decide +kernel
theorem tl_11_89 : (tf_ 111)[Int.toNat 89]? = some (1, 289, (-2147483648), 2147483647) := by decide +kernel
theorem tl_11_90 : (tf_ 111)[Int.toNat 90]? = some (0, 0, 0, 4095) := by decide +kernel
theorem tl_11_91 : (tf_ 111)[Int.toNat 91]? = some (1, 291, (-2147483648), 2147483647) := by decide +kernel
theorem tl_11_92 : (tf_ 111)[Int.toNat 92]? = some (1, 292, (-2147483648), 2147483647) := by decide +kernel
theorem tl_11_93 : (tf_ 111)[Int.toNat 93]? = some (1, 293, (-2147483648), 2147483647) := by decide +kernel
theorem tl_11_94 : (tf_ 111)[Int.toNat 94]? = some (1, 294, (-2147483648), 2147483647) := by decide +kernel
theorem tl_11_95 : (tf_ 111)[Int.toNat 95]? = some (0, 0, (-2147483648), 2147483647) := by decide +kernel
theorem tl_11_96 : (tf_ 111)[Int.toNat 96]? = some (1, 296, (-2147483648), 2147483647) := by decide +kernel
theorem tl_11_97 : (tf_ 111)[Int.toNat 97]? = some (1, 297, (-2147483648), 2147483647) := by decide +kernel
theorem tl_11_98 : (tf_ 111)[Int.toNat 98]? = some (0, 0, 0, 1) := by decide +kernel
theorem tl_11_99 : (tf_ 111)[Int.toNat 99]? = some (0, 0, 0, 4) := by decide +kernel
theorem tl_11_100 : (tf_ 111)[Int.toNat 100]? = some (0, 0, 0, 3) := by decide +kernel
theorem tl_11_101 : (tf_ 111)[Int.toNat 101]? = some (1, 301, (-2147483648), 2147483647) := by decide +kernel
theorem tl_11_102 : (tf_ 111)[Int.toNat 102]? = some (1, 302, (-2147483648), 2147483647) := by decide +kernel
theorem tl_11_103 : (tf_ 111)[Int.toNat 103]? = some (0, 0, (-2147483648), 2147483647) := by decide +kernel
