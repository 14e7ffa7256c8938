/-- places apart -/
def dj_ : List (Nat × List Int) → List (Nat × List Int) → Bool
  | [], _ => true
  | (k, l) :: r, F => (match l with
    | [] => F.all fun q => q.1 != k
    | l => l.all fun j => !(fw_ F k j)) && dj_ r F
theorem fw_no {F : List (Nat × List Int)} {k : Nat} (h : (F.all fun q => q.1 != k) = true) (j : Int) : fw_ F k j = false := by
  induction F with
  | nil => rfl
  | cons q r ih =>
    obtain ⟨k', l⟩ := q
    simp only [List.all_cons, Bool.and_eq_true, bne_iff_ne, ne_eq] at h
    unfold fw_
    rw [ih (by simpa using h.2)]
    have z : (k == k') = false := by
      rw [beq_eq_false_iff_ne]
      exact fun e => h.1 e.symm
    rw [z]
    rfl
theorem dj_s {a F : List (Nat × List Int)} (h : dj_ a F = true) {k : Nat} {j : Int} (w : fw_ a k j = true) : fw_ F k j = false := by
  induction a with
  | nil => simp [fw_] at w
  | cons q r ih =>
    obtain ⟨k', l⟩ := q
    unfold dj_ at h
    unfold fw_ at w
    simp only [Bool.and_eq_true] at h
    simp only [Bool.or_eq_true, Bool.and_eq_true, beq_iff_eq] at w
    rcases w with ⟨rfl, w⟩ | w
    · cases l with
      | nil => exact fw_no h.1 j
      | cons x t =>
        have h1 := List.all_eq_true.mp h.1 j (by simpa using w)
        simpa using h1
    · exact ih h.2 w
/-- what a footprint names is as it was -/
def ks_ (F : List (Nat × List Int)) (T T' : Zt) : Prop := ∀ k i j, fw_ F k j = true → T' k i j = T k i j
theorem ks_f {a F : List (Nat × List Int)} {T T' : Zt} (f : fr_ a T T') (h : dj_ a F = true) : ks_ F T T' := fun k i j w => f k i j (by
  cases z : fw_ a k j
  · rfl
  · rw [dj_s h z] at w
    cases w)
theorem ks_t {F : List (Nat × List Int)} {T T1 T2 : Zt} (a : ks_ F T T1) (b : ks_ F T1 T2) : ks_ F T T2 := fun k i j w => (b k i j w).trans (a k i j w)
theorem ks_s {F G : List (Nat × List Int)} {T T' : Zt} (h : ks_ G T T') (s : fs_ F G = true) : ks_ F T T' := fun k i j w => h k i j (fs_sub s w)
-- breaks: one count for both sides (how many; the last side, -1 none)
def bs9_ (H : Int → Int) (b m : Int) : Int := if H m = b then 0 else 1
def bk9_ (H A : Int → Int) (b f : Int) : Nat → Int × Int
  | 0 => (0, -1)
  | k + 1 => if H (f + k) = b ∨ A (f + k) = b then ((bk9_ H A b f k).1 + (if bs9_ H b (f + k) = (bk9_ H A b f k).2 then 1 else 0), bs9_ H b (f + k)) else bk9_ H A b f k
theorem bk9_t {H A : Int → Int} {b f k : Int} (hk : 0 ≤ k) (c : H (f + k) = b ∨ A (f + k) = b) : bk9_ H A b f (k + 1).toNat = ((bk9_ H A b f k.toNat).1 + (if bs9_ H b (f + k) = (bk9_ H A b f k.toNat).2 then 1 else 0), bs9_ H b (f + k)) := by
  rw [show (k + 1).toNat = k.toNat + 1 by omega]
  show (if H (f + (k.toNat : Int)) = b ∨ A (f + (k.toNat : Int)) = b then _ else _) = _
  rw [show ((k.toNat : Nat) : Int) = k by omega, if_pos c]
theorem bk9_f {H A : Int → Int} {b f k : Int} (hk : 0 ≤ k) (c : ¬ (H (f + k) = b ∨ A (f + k) = b)) : bk9_ H A b f (k + 1).toNat = bk9_ H A b f k.toNat := by
  rw [show (k + 1).toNat = k.toNat + 1 by omega]
  show (if H (f + (k.toNat : Int)) = b ∨ A (f + (k.toNat : Int)) = b then _ else _) = _
  rw [show ((k.toNat : Nat) : Int) = k by omega, if_neg c]
theorem bk9_e {H A H2 A2 : Int → Int} {b f : Int} : ∀ n : Nat, (∀ j, f ≤ j → j < f + n → H j = H2 j ∧ A j = A2 j) → bk9_ H A b f n = bk9_ H2 A2 b f n
  | 0, _ => rfl
  | n + 1, h => by
    have i := bk9_e (b := b) n (fun j a c => h j a (by omega))
    obtain ⟨h1, h2⟩ := h (f + n) (by omega) (by omega)
    unfold bk9_
    rw [i, h1, h2]
    unfold bs9_
    rw [h1]
theorem bs9_y {H : Int → Int} {b m : Int} (h : H m = b) : bs9_ H b m = 0 := if_pos h
theorem bs9_n {H : Int → Int} {b m : Int} (h : H m ≠ b) : bs9_ H b m = 1 := if_neg h
theorem bk9_u {H A : Int → Int} {b f k s : Int} (hk : 0 ≤ k) (c : H (f + k) = b ∨ A (f + k) = b) (hs : bs9_ H b (f + k) = s) : (bk9_ H A b f (k + 1).toNat).2 = s ∧ ((s = (bk9_ H A b f k.toNat).2 ∧ (bk9_ H A b f (k + 1).toNat).1 = (bk9_ H A b f k.toNat).1 + 1) ∨ (s ≠ (bk9_ H A b f k.toNat).2 ∧ (bk9_ H A b f (k + 1).toNat).1 = (bk9_ H A b f k.toNat).1)) := by
  have e := bk9_t (A := A) hk c
  rw [hs] at e
  rw [e]
  refine ⟨rfl, ?_⟩
  by_cases z : s = (bk9_ H A b f k.toNat).2
  · exact Or.inl ⟨z, by rw [if_pos z]⟩
  · exact Or.inr ⟨z, by rw [if_neg z]; exact Int.add_zero _⟩
/-- what breaks answers, of the house and of the reference -/
def BH9_ (T : Zt) (c b x : Int) : Prop := (x = -2 ∧ ¬ ((0 ≤ c ∧ c < T 106 0 2) ∧ 0 ≤ b ∧ b < T 108 0 2)) ∨ (((0 ≤ c ∧ c < T 106 0 2) ∧ 0 ≤ b ∧ b < T 108 0 2) ∧ ((x = -4 ∧ (T 404 c b = -1 ∨ T 100 c 6 = 0)) ∨ (T 404 c b ≠ -1 ∧ T 100 c 6 ≠ 0 ∧ x = (bk9_ (fun m => T 102 m 3) (fun m => T 102 m 4) b (T 100 c 7) (T 100 c 8).toNat).1)))
def BR9_ (T : Zt) (c b x : Int) : Prop := (x = -2 ∧ ¬ ((0 ≤ c ∧ c < T 111 0 6) ∧ 0 ≤ b ∧ b < T 111 0 12)) ∨ (((0 ≤ c ∧ c < T 111 0 6) ∧ 0 ≤ b ∧ b < T 111 0 12) ∧ ((x = -4 ∧ (T 209 0 c = 0 ∨ ¬ HE_ T c b)) ∨ (T 209 0 c ≠ 0 ∧ HE_ T c b ∧ x = (bk9_ (fun m => T 232 0 m) (fun m => T 233 0 m) b (T 210 0 c) (T 211 0 c).toNat).1)))
/-- breaks on both sides -/
theorem brk_e {T : Zt} {c b x1 x2 : Int} (h : ENR_ T) (hm : MAR_ T) (hk : KE_ T) (hl : KC_ T) (hcc : T 106 0 2 = T 111 0 6) (hc : T 108 0 2 = T 111 0 12) (hc12 : T 108 0 2 ≤ 12) (hb7 : ∀ d, 0 ≤ T 100 d 7 ∧ 0 ≤ T 100 d 8) (d1 : BH9_ T c b x1) (d2 : BR9_ T c b x2) : x1 = x2 := by
  rcases d1 with ⟨a1, a2⟩ | ⟨a0, a1⟩
  · rcases d2 with ⟨f1, f2⟩ | ⟨f0, f1⟩
    · omega
    · exact absurd (by omega) a2
  · rcases d2 with ⟨f1, f2⟩ | ⟨f0, f1⟩
    · exact absurd (by omega) f2
    · have z := h.1 c a0.1.1 a0.1.2
      have g := he9_i z (hk c a0.1.1 a0.1.2) ⟨a0.2.1, by omega⟩
      obtain ⟨z1, z2, z3, z4, z5, z6⟩ := z
      rcases a1 with ⟨a1, a2⟩ | ⟨a1, a2, a3⟩
      · rcases f1 with ⟨f1, f2⟩ | ⟨f1, f2, f3⟩
        · omega
        · exfalso
          have := g.mpr f2
          omega
      · rcases f1 with ⟨f1, f2⟩ | ⟨f1, f2, f3⟩
        · exfalso
          rcases f2 with f2 | f2
          · omega
          · exact f2 (g.mp a1)
        · have l := hl c a0.1.1 a0.1.2
          have q := hb7 c
          rw [a3, f3, ← z3, ← z4]
          rw [bk9_e (H2 := fun m => T 232 0 m) (A2 := fun m => T 233 0 m) (T 100 c 8).toNat (fun j p r => ?_)]
          have y := hm.2 j (by omega) (by omega)
          exact ⟨y.2.2.1, y.2.2.2⟩
theorem bk_X2_has_e_0 : ck_ fX2 (some .boolean) cX2_has 0 [.aload 0, .tableswitch 0 2 3 #[], .iload 1, .if_icmp .eq 16, .aload 0, .tableswitch 0 2 4 #[], .iload 1, .if_icmp .ne 20, .iconst 1, .goto 21] 20 = true := qck_r (nn_ _) (by decide +kernel)
theorem bs_X2_has_e_0 {P : Zt → Option Zv → Prop} (K : Int → Zl → List Zv → Zt → Prop) : sx_ K P [.aload 0, .tableswitch 0 2 3 #[], .iload 1, .if_icmp .eq 16, .aload 0, .tableswitch 0 2 4 #[], .iload 1, .if_icmp .ne 20, .iconst 1, .goto 21] 20 = x_aload 0 (x_g0 102 3 0 11 (x_iload 1 (x_if_icmp .eq 16 K (x_aload 0 (x_g0 102 4 0 11 (x_iload 1 (x_if_icmp .ne 20 K (x_iconst 1 (x_goto 21 K))))))))) := ((xe_aload 0).trans (congrArg (x_aload 0) ((xe_g0 (kk := 102) rfl tl_2_3).trans (congrArg (x_g0 102 3 0 11) ((xe_iload 1).trans (congrArg (x_iload 1) ((xe_if_icmp .eq 16).trans (congrArg (x_if_icmp .eq 16 K) ((xe_aload 0).trans (congrArg (x_aload 0) ((xe_g0 (kk := 102) rfl tl_2_4).trans (congrArg (x_g0 102 4 0 11) ((xe_iload 1).trans (congrArg (x_iload 1) ((xe_if_icmp .ne 20).trans (congrArg (x_if_icmp .ne 20 K) ((xe_iconst 1).trans (congrArg (x_iconst 1) (xe_goto 21)))))))))))))))))))
theorem bk_X2_has_e_16 : ck_ fX2 (some .boolean) cX2_has 16 [.iconst 1, .goto 21] 20 = true := qck_r (nn_ _) (by decide +kernel)
theorem bs_X2_has_e_16 {P : Zt → Option Zv → Prop} (K : Int → Zl → List Zv → Zt → Prop) : sx_ K P [.iconst 1, .goto 21] 20 = x_iconst 1 (x_goto 21 K) := ((xe_iconst 1).trans (congrArg (x_iconst 1) (xe_goto 21)))
theorem bk_X2_has_e_21 : ck_ fX2 (some .boolean) cX2_has 21 [.ireturn] 22 = true := qck_r (nn_ _) (by decide +kernel)
theorem bs_X2_has_e_21 {P : Zt → Option Zv → Prop} (K : Int → Zl → List Zv → Zt → Prop) : sx_ K P [.ireturn] 22 = x_ireturn P := (xe_ireturn)
theorem bk_X2_has_e_20 : ck_ fX2 (some .boolean) cX2_has 20 [.iconst 0, .ireturn] 22 = true := qck_r (nn_ _) (by decide +kernel)
theorem bs_X2_has_e_20 {P : Zt → Option Zv → Prop} (K : Int → Zl → List Zv → Zt → Prop) : sx_ K P [.iconst 0, .ireturn] 22 = x_iconst 0 (x_ireturn P) := ((xe_iconst 0).trans (congrArg (x_iconst 0) (xe_ireturn)))
abbrev po_X2_has_e (T : Zt) (p : Int) (c : Int) : Zt → Option Zv → Prop := fun T' r => T = T' ∧ ∃ x : Int, r = some (vI x) ∧ ((x = 1 ∧ (T 102 p 3 = c ∨ T 102 p 4 = c)) ∨ (x = 0 ∧ ¬ (T 102 p 3 = c ∨ T 102 p 4 = c)))
set_option maxHeartbeats 4000000 in
theorem ct_X2_has_e {T : Zt} {p : Int} {c : Int} : Ct_ yX2_has zX2_has T [vR 102 p, vI c] (po_X2_has_e T p c) := by
  refine ct_of pn_2 rfl rfl (Nat.le_of_ble_eq_true rfl) (fun hT hav => ?_)
  have hr_c : -2147483648 ≤ c ∧ c ≤ 2147483647 := hav (vI c) (List.mem_cons_of_mem _ List.mem_cons_self)
  have hz : zX2_has.2.2.2.1 = some .boolean → ∀ (T' : Zt) (x : Int), po_X2_has_e T p c T' (some (vI x)) → 0 ≤ x ∧ x ≤ 1 := fun _ T' x h => by obtain ⟨-, y, e, hy⟩ := h; cases e; omega
  show J_ zX2_has T (po_X2_has_e T p c) 0 0 0 [some (vR 102 p), some (vI c)] [] T
  refine j_blx (F := fX2) tb_X2 (nn_ _) bk_X2_has_e_0 bs_X2_has_e_0 hz (fun K hK => ?_)
  intro b1 b1b
  refine And.intro (fun c2 => ?_) (fun c2 => ?_)
  · refine hK 16 _ [] T ?_
    refine j_blx (F := fX2) tb_X2 (nn_ _) bk_X2_has_e_16 bs_X2_has_e_16 hz (fun K hK => ?_)
    refine hK 21 _ [vI 1] T ?_
    refine j_blx (F := fX2) tb_X2 (nn_ _) bk_X2_has_e_21 bs_X2_has_e_21 hz (fun K hK => ?_)
    refine (show po_X2_has_e T p c T (some (vI 1)) from ?_)
    exact ⟨rfl, _, rfl, Or.inl ⟨rfl, by omega⟩⟩
  · intro b3 b3b
    refine And.intro (fun c4 => ?_) (fun c4 => ?_)
    · refine hK 20 _ [] T ?_
      refine j_blx (F := fX2) tb_X2 (nn_ _) bk_X2_has_e_20 bs_X2_has_e_20 hz (fun K hK => ?_)
      refine (show po_X2_has_e T p c T (some (vI 0)) from ?_)
      exact ⟨rfl, _, rfl, Or.inr ⟨rfl, by omega⟩⟩
    · refine hK 21 _ [vI 1] T ?_
      refine j_blx (F := fX2) tb_X2 (nn_ _) bk_X2_has_e_21 bs_X2_has_e_21 hz (fun K hK => ?_)
      refine (show po_X2_has_e T p c T (some (vI 1)) from ?_)
      exact ⟨rfl, _, rfl, Or.inl ⟨rfl, by omega⟩⟩
theorem bk_X6_countBreaks_e_11 : ck_ fX6 (some .int) cX6_countBreaks 11 [.iload 6, .aload 1, .tableswitch 0 0 8 #[], .if_icmp .ge 87, .aload 0, .tableswitch 0 6 3 #[], .aload 1, .tableswitch 0 0 7 #[], .iload 6, .iadd, .aaload, .astore 7, .aload 7, .iload 2] 37 = true := qck_r (nn_ _) (by decide +kernel)
theorem bs_X6_countBreaks_e_11 {P : Zt → Option Zv → Prop} (K : Int → Zl → List Zv → Zt → Prop) : sx_ K P [.iload 6, .aload 1, .tableswitch 0 0 8 #[], .if_icmp .ge 87, .aload 0, .tableswitch 0 6 3 #[], .aload 1, .tableswitch 0 0 7 #[], .iload 6, .iadd, .aaload, .astore 7, .aload 7, .iload 2] 37 = x_iload 6 (x_aload 1 (x_g0 100 8 0 400 (x_if_icmp .ge 87 K (x_aload 0 (x_g1 106 523 (x_aload 1 (x_g0 100 7 0 400 (x_iload 6 (x_iadd (x_aaload (x_astore 7 (x_aload 7 (x_iload 2 (K 37)))))))))))))) := ((xe_iload 6).trans (congrArg (x_iload 6) ((xe_aload 1).trans (congrArg (x_aload 1) ((xe_g0 (kk := 100) rfl tl_0_8).trans (congrArg (x_g0 100 8 0 400) ((xe_if_icmp .ge 87).trans (congrArg (x_if_icmp .ge 87 K) ((xe_aload 0).trans (congrArg (x_aload 0) ((xe_g1 (kk := 106) rfl tl_6_3).trans (congrArg (x_g1 106 523) ((xe_aload 1).trans (congrArg (x_aload 1) ((xe_g0 (kk := 100) rfl tl_0_7).trans (congrArg (x_g0 100 7 0 400) ((xe_iload 6).trans (congrArg (x_iload 6) ((xe_iadd).trans (congrArg (x_iadd) ((xe_aaload).trans (congrArg (x_aaload) ((xe_astore 7).trans (congrArg (x_astore 7) ((xe_aload 7).trans (congrArg (x_aload 7) ((xe_iload 2).trans (congrArg (x_iload 2) xe_nil))))))))))))))))))))))))))))
theorem bk_X6_countBreaks_e_87 : ck_ fX6 (some .int) cX6_countBreaks 87 [.iload 3, .ireturn] 89 = true := qck_r (nn_ _) (by decide +kernel)
theorem bs_X6_countBreaks_e_87 {P : Zt → Option Zv → Prop} (K : Int → Zl → List Zv → Zt → Prop) : sx_ K P [.iload 3, .ireturn] 89 = x_iload 3 (x_ireturn P) := ((xe_iload 3).trans (congrArg (x_iload 3) (xe_ireturn)))
theorem bk_X6_countBreaks_e_40 : ck_ fX6 (some .int) cX6_countBreaks 40 [.ifCond .eq 81, .aload 7, .tableswitch 0 2 3 #[], .iload 2, .if_icmp .ne 56, .iconst 1, .goto 57] 56 = true := qck_r (nn_ _) (by decide +kernel)
theorem bs_X6_countBreaks_e_40 {P : Zt → Option Zv → Prop} (K : Int → Zl → List Zv → Zt → Prop) : sx_ K P [.ifCond .eq 81, .aload 7, .tableswitch 0 2 3 #[], .iload 2, .if_icmp .ne 56, .iconst 1, .goto 57] 56 = x_ifCond .eq 81 K (x_aload 7 (x_g0 102 3 0 11 (x_iload 2 (x_if_icmp .ne 56 K (x_iconst 1 (x_goto 57 K)))))) := ((xe_ifCond .eq 81).trans (congrArg (x_ifCond .eq 81 K) ((xe_aload 7).trans (congrArg (x_aload 7) ((xe_g0 (kk := 102) rfl tl_2_3).trans (congrArg (x_g0 102 3 0 11) ((xe_iload 2).trans (congrArg (x_iload 2) ((xe_if_icmp .ne 56).trans (congrArg (x_if_icmp .ne 56 K) ((xe_iconst 1).trans (congrArg (x_iconst 1) (xe_goto 57)))))))))))))
theorem bk_X6_countBreaks_e_81 : ck_ fX6 (some .int) cX6_countBreaks 81 [.iinc 6 1, .goto 11] 87 = true := qck_r (nn_ _) (by decide +kernel)
theorem bs_X6_countBreaks_e_81 {P : Zt → Option Zv → Prop} (K : Int → Zl → List Zv → Zt → Prop) : sx_ K P [.iinc 6 1, .goto 11] 87 = x_iinc 6 1 (x_goto 11 K) := ((xe_iinc 6 1).trans (congrArg (x_iinc 6 1) (xe_goto 11)))
theorem bk_X6_countBreaks_e_56 : ck_ fX6 (some .int) cX6_countBreaks 56 [.iconst 0, .istore 8, .iload 4, .ifCond .eq 74, .iload 8, .iload 5, .if_icmp .ne 74, .iinc 3 1, .iconst 1, .istore 4, .iload 8, .istore 5, .iinc 6 1, .goto 11] 87 = true := qck_r (nn_ _) (by decide +kernel)
theorem bs_X6_countBreaks_e_56 {P : Zt → Option Zv → Prop} (K : Int → Zl → List Zv → Zt → Prop) : sx_ K P [.iconst 0, .istore 8, .iload 4, .ifCond .eq 74, .iload 8, .iload 5, .if_icmp .ne 74, .iinc 3 1, .iconst 1, .istore 4, .iload 8, .istore 5, .iinc 6 1, .goto 11] 87 = x_iconst 0 (x_istore 8 (x_iload 4 (x_ifCond .eq 74 K (x_iload 8 (x_iload 5 (x_if_icmp .ne 74 K (x_iinc 3 1 (x_iconst 1 (x_istore 4 (x_iload 8 (x_istore 5 (x_iinc 6 1 (x_goto 11 K))))))))))))) := ((xe_iconst 0).trans (congrArg (x_iconst 0) ((xe_istore 8).trans (congrArg (x_istore 8) ((xe_iload 4).trans (congrArg (x_iload 4) ((xe_ifCond .eq 74).trans (congrArg (x_ifCond .eq 74 K) ((xe_iload 8).trans (congrArg (x_iload 8) ((xe_iload 5).trans (congrArg (x_iload 5) ((xe_if_icmp .ne 74).trans (congrArg (x_if_icmp .ne 74 K) ((xe_iinc 3 1).trans (congrArg (x_iinc 3 1) ((xe_iconst 1).trans (congrArg (x_iconst 1) ((xe_istore 4).trans (congrArg (x_istore 4) ((xe_iload 8).trans (congrArg (x_iload 8) ((xe_istore 5).trans (congrArg (x_istore 5) ((xe_iinc 6 1).trans (congrArg (x_iinc 6 1) (xe_goto 11)))))))))))))))))))))))))))
theorem bk_X6_countBreaks_e_74 : ck_ fX6 (some .int) cX6_countBreaks 74 [.iconst 1, .istore 4, .iload 8, .istore 5, .iinc 6 1, .goto 11] 87 = true := qck_r (nn_ _) (by decide +kernel)
theorem bs_X6_countBreaks_e_74 {P : Zt → Option Zv → Prop} (K : Int → Zl → List Zv → Zt → Prop) : sx_ K P [.iconst 1, .istore 4, .iload 8, .istore 5, .iinc 6 1, .goto 11] 87 = x_iconst 1 (x_istore 4 (x_iload 8 (x_istore 5 (x_iinc 6 1 (x_goto 11 K))))) := ((xe_iconst 1).trans (congrArg (x_iconst 1) ((xe_istore 4).trans (congrArg (x_istore 4) ((xe_iload 8).trans (congrArg (x_iload 8) ((xe_istore 5).trans (congrArg (x_istore 5) ((xe_iinc 6 1).trans (congrArg (x_iinc 6 1) (xe_goto 11)))))))))))
theorem bk_X6_countBreaks_e_57 : ck_ fX6 (some .int) cX6_countBreaks 57 [.istore 8, .iload 4, .ifCond .eq 74, .iload 8, .iload 5, .if_icmp .ne 74, .iinc 3 1, .iconst 1, .istore 4, .iload 8, .istore 5, .iinc 6 1, .goto 11] 87 = true := qck_r (nn_ _) (by decide +kernel)
theorem bs_X6_countBreaks_e_57 {P : Zt → Option Zv → Prop} (K : Int → Zl → List Zv → Zt → Prop) : sx_ K P [.istore 8, .iload 4, .ifCond .eq 74, .iload 8, .iload 5, .if_icmp .ne 74, .iinc 3 1, .iconst 1, .istore 4, .iload 8, .istore 5, .iinc 6 1, .goto 11] 87 = x_istore 8 (x_iload 4 (x_ifCond .eq 74 K (x_iload 8 (x_iload 5 (x_if_icmp .ne 74 K (x_iinc 3 1 (x_iconst 1 (x_istore 4 (x_iload 8 (x_istore 5 (x_iinc 6 1 (x_goto 11 K)))))))))))) := ((xe_istore 8).trans (congrArg (x_istore 8) ((xe_iload 4).trans (congrArg (x_iload 4) ((xe_ifCond .eq 74).trans (congrArg (x_ifCond .eq 74 K) ((xe_iload 8).trans (congrArg (x_iload 8) ((xe_iload 5).trans (congrArg (x_iload 5) ((xe_if_icmp .ne 74).trans (congrArg (x_if_icmp .ne 74 K) ((xe_iinc 3 1).trans (congrArg (x_iinc 3 1) ((xe_iconst 1).trans (congrArg (x_iconst 1) ((xe_istore 4).trans (congrArg (x_istore 4) ((xe_iload 8).trans (congrArg (x_iload 8) ((xe_istore 5).trans (congrArg (x_istore 5) ((xe_iinc 6 1).trans (congrArg (x_iinc 6 1) (xe_goto 11)))))))))))))))))))))))))
theorem bk_X6_countBreaks_e_0 : ck_ fX6 (some .int) cX6_countBreaks 0 [.iconst 0, .istore 3, .iconst 0, .istore 4, .iconst 0, .istore 5, .iconst 0, .istore 6] 11 = true := qck_r (nn_ _) (by decide +kernel)
theorem bs_X6_countBreaks_e_0 {P : Zt → Option Zv → Prop} (K : Int → Zl → List Zv → Zt → Prop) : sx_ K P [.iconst 0, .istore 3, .iconst 0, .istore 4, .iconst 0, .istore 5, .iconst 0, .istore 6] 11 = x_iconst 0 (x_istore 3 (x_iconst 0 (x_istore 4 (x_iconst 0 (x_istore 5 (x_iconst 0 (x_istore 6 (K 11)))))))) := ((xe_iconst 0).trans (congrArg (x_iconst 0) ((xe_istore 3).trans (congrArg (x_istore 3) ((xe_iconst 0).trans (congrArg (x_iconst 0) ((xe_istore 4).trans (congrArg (x_istore 4) ((xe_iconst 0).trans (congrArg (x_iconst 0) ((xe_istore 5).trans (congrArg (x_istore 5) ((xe_iconst 0).trans (congrArg (x_iconst 0) ((xe_istore 6).trans (congrArg (x_istore 6) xe_nil))))))))))))))))
abbrev po_X6_countBreaks_e (T : Zt) (c : Int) (cl : Int) : Zt → Option Zv → Prop := fun T' r => T = T' ∧ ∃ x : Int, r = some (vI x) ∧ (x = (bk9_ (fun m => T 102 m 3) (fun m => T 102 m 4) cl (T 100 c 7) (T 100 c 8).toNat).1)
set_option maxHeartbeats 4000000 in
theorem ct_X6_countBreaks_e {T : Zt} {c : Int} {cl : Int} (hka : KA_ T) (hcm : T 100 c 7 + T 100 c 8 ≤ T 106 0 4) : Ct_ yX6_countBreaks zX6_countBreaks T [vR 106 0, vR 100 c, vI cl] (po_X6_countBreaks_e T c cl) := by
  refine ct_of pn_6 rfl rfl (Nat.le_of_ble_eq_true rfl) (fun hT hav => ?_)
  have hr_cl : -2147483648 ≤ cl ∧ cl ≤ 2147483647 := hav (vI cl) (List.mem_cons_of_mem _ (List.mem_cons_of_mem _ List.mem_cons_self))
  have hz : zX6_countBreaks.2.2.2.1 = some .boolean → ∀ (T' : Zt) (x : Int), po_X6_countBreaks_e T c cl T' (some (vI x)) → 0 ≤ x ∧ x ≤ 1 := fun h => by cases h
  have hb_matchCount : 0 ≤ T 106 0 4 ∧ T 106 0 4 ≤ 400 := bd_f hT 106 4 tl_6_4 0
  have hb7 : 0 ≤ T 100 c 7 ∧ T 100 c 7 ≤ 400 := bd_f hT 100 7 tl_0_7 c
  have hb8 : 0 ≤ T 100 c 8 ∧ T 100 c 8 ≤ 400 := bd_f hT 100 8 tl_0_8 c
  show J_ zX6_countBreaks T (po_X6_countBreaks_e T c cl) 0 0 0 [some (vR 106 0), some (vR 100 c), some (vI cl), none, none, none, none, none, none] [] T
  have c_11 : ∀ (nn : Nat) (n : Int) (a : Int) (w : Int) (k : Int), ((400 - k).toNat) ≤ nn → (0 ≤ n ∧ n ≤ k ∧ 0 ≤ k ∧ k ≤ T 100 c 8) → (n = (bk9_ (fun m => T 102 m 3) (fun m => T 102 m 4) cl (T 100 c 7) k.toNat).1 ∧ ((a = 0 ∧ (bk9_ (fun m => T 102 m 3) (fun m => T 102 m 4) cl (T 100 c 7) k.toNat).2 = -1) ∨ (a = 1 ∧ (bk9_ (fun m => T 102 m 3) (fun m => T 102 m 4) cl (T 100 c 7) k.toNat).2 = 1 - w ∧ (w = 0 ∨ w = 1)))) → J_ zX6_countBreaks T (po_X6_countBreaks_e T c cl) 0 0 11 [some (vR 106 0), some (vR 100 c), some (vI cl), some (vI n), some (vI a), some (vI w), some (vI k), none, none] [] T := by
    intro nn
    induction nn using Nat.strongRecOn with
    | _ nn ih_11 =>
      intro n a w k hm_11 i1 ib
      replace hm_11 := fun (_ : Unit) => hm_11
      refine j_blx (F := fX6) tb_X6 (nn_ _) bk_X6_countBreaks_e_11 bs_X6_countBreaks_e_11 hz (fun K hK => ?_)
      intro b1 b1b
      refine And.intro (fun c2 => ?_) (fun c2 => ?_)
      · refine hK 87 _ [] T ?_
        refine j_blx (F := fX6) tb_X6 (nn_ _) bk_X6_countBreaks_e_87 bs_X6_countBreaks_e_87 hz (fun K hK => ?_)
        refine (show po_X6_countBreaks_e T c cl T (some (vI n)) from ?_)
        exact ⟨rfl, _, rfl, by rw [show T 100 c 8 = k by omega]; exact ib.1⟩
      · intro b3 b3b
        refine rg_i (by omega) ?_
        refine ix_i (by omega) ?_
        refine And.intro (fun c4 => ?_) (fun c4 => ?_)
        · exact absurd c4 (hka.2 _ (by omega) (by omega))
        · refine hK 37 [some (vR 106 0), some (vR 100 c), some (vI cl), some (vI n), some (vI a), some (vI w), some (vI k), some (vR 102 ((T 100 c 7) + k)), none] [vI cl, vR 102 ((T 100 c 7) + k)] T ?_
          refine j_callV (y := yX2_has) (Yc := zX2_has) (rest := []) [vI cl] (ct_X2_has_e (T := T)) cl_X6_88 (qd_c (by decide +kernel)) (nn_ _) rfl (rf_of rfl) (Nat.le_of_ble_eq_true rfl) (Nat.le_of_ble_eq_true rfl) (Nat.le_of_ble_eq_true rfl) rfl ?_
          rintro _ _ ⟨rfl, x5, rfl, hx5⟩
          show J_ zX6_countBreaks T (po_X6_countBreaks_e T c cl) 0 0 40 _ [vI x5] T
          refine j_blx (F := fX6) tb_X6 (nn_ _) bk_X6_countBreaks_e_40 bs_X6_countBreaks_e_40 hz (fun K hK => ?_)
          refine And.intro (fun c6 => ?_) (fun c6 => ?_)
          · replace hx5 := hx5.resolve_left (fun z => absurd (c6.symm.trans z.1) (by decide))
            clear c6
            refine hK 81 _ [] T ?_
            refine j_blx (F := fX6) tb_X6 (nn_ _) bk_X6_countBreaks_e_81 bs_X6_countBreaks_e_81 hz (fun K hK => ?_)
            refine rg_i (by omega) ?_
            refine hK 11 [some (vR 106 0), some (vR 100 c), some (vI cl), some (vI n), some (vI a), some (vI w), some (vI (k + 1)), some (vR 102 ((T 100 c 7) + k)), none] [] T ?_
            refine j_drop [some (vR 106 0), some (vR 100 c), some (vI cl), some (vI n), some (vI a), some (vI w), some (vI (k + 1)), none, none] (fun k v hk => ?_) rfl ?_
            · match k, hk with
              | 0, hk => exact hk
              | 1, hk => exact hk
              | 2, hk => exact hk
              | 3, hk => exact hk
              | 4, hk => exact hk
              | 5, hk => exact hk
              | 6, hk => exact hk
              | 7, hk => cases hk
              | 8, hk => cases hk
              | k + 9, hk => cases hk
            refine ih_11 _ ?_ n a w (k + 1) (Nat.le_refl _) ?_ ?_
            · have hm_11 := hm_11 (); omega
            · omega
            · rw [bk9_f (H := fun m => T 102 m 3) (A := fun m => T 102 m 4) (b := cl) (f := T 100 c 7) (k := k) (by omega) (show ¬ (T 102 (T 100 c 7 + k) 3 = cl ∨ T 102 (T 100 c 7 + k) 4 = cl) by omega)]
              exact ib
          · replace hx5 := hx5.resolve_right (fun z => c6 z.1)
            clear c6
            intro b7 b7b
            refine And.intro (fun c8 => ?_) (fun c8 => ?_)
            · refine hK 56 [some (vR 106 0), some (vR 100 c), some (vI cl), some (vI n), some (vI a), some (vI w), some (vI k), some (vR 102 ((T 100 c 7) + k)), none] [] T ?_
              refine j_blx (F := fX6) tb_X6 (nn_ _) bk_X6_countBreaks_e_56 bs_X6_countBreaks_e_56 hz (fun K hK => ?_)
              refine And.intro (fun c9 => ?_) (fun c9 => ?_)
              · refine hK 74 [some (vR 106 0), some (vR 100 c), some (vI cl), some (vI n), some (vI a), some (vI w), some (vI k), some (vR 102 ((T 100 c 7) + k)), some (vI 0)] [] T ?_
                refine j_blx (F := fX6) tb_X6 (nn_ _) bk_X6_countBreaks_e_74 bs_X6_countBreaks_e_74 hz (fun K hK => ?_)
                refine rg_i (by omega) ?_
                refine hK 11 [some (vR 106 0), some (vR 100 c), some (vI cl), some (vI n), some (vI 1), some (vI 0), some (vI (k + 1)), some (vR 102 ((T 100 c 7) + k)), some (vI 0)] [] T ?_
                refine j_drop [some (vR 106 0), some (vR 100 c), some (vI cl), some (vI n), some (vI 1), some (vI 0), some (vI (k + 1)), none, none] (fun k v hk => ?_) rfl ?_
                · match k, hk with
                  | 0, hk => exact hk
                  | 1, hk => exact hk
                  | 2, hk => exact hk
                  | 3, hk => exact hk
                  | 4, hk => exact hk
                  | 5, hk => exact hk
                  | 6, hk => exact hk
                  | 7, hk => cases hk
                  | 8, hk => cases hk
                  | k + 9, hk => cases hk
                refine ih_11 _ ?_ n 1 0 (k + 1) (Nat.le_refl _) ?_ ?_
                · have hm_11 := hm_11 (); omega
                · omega
                · have y9 := bk9_u (H := fun m => T 102 m 3) (A := fun m => T 102 m 4) (b := cl) (f := T 100 c 7) (k := k) (by omega) (show T 102 (T 100 c 7 + k) 3 = cl ∨ T 102 (T 100 c 7 + k) 4 = cl by omega) (bs9_n (H := fun m => T 102 m 3) (show T 102 (T 100 c 7 + k) 3 ≠ cl by omega))
                  omega
              · refine And.intro (fun c10 => ?_) (fun c10 => ?_)
                · refine hK 74 [some (vR 106 0), some (vR 100 c), some (vI cl), some (vI n), some (vI a), some (vI w), some (vI k), some (vR 102 ((T 100 c 7) + k)), some (vI 0)] [] T ?_
                  refine j_blx (F := fX6) tb_X6 (nn_ _) bk_X6_countBreaks_e_74 bs_X6_countBreaks_e_74 hz (fun K hK => ?_)
                  refine rg_i (by omega) ?_
                  refine hK 11 [some (vR 106 0), some (vR 100 c), some (vI cl), some (vI n), some (vI 1), some (vI 0), some (vI (k + 1)), some (vR 102 ((T 100 c 7) + k)), some (vI 0)] [] T ?_
                  refine j_drop [some (vR 106 0), some (vR 100 c), some (vI cl), some (vI n), some (vI 1), some (vI 0), some (vI (k + 1)), none, none] (fun k v hk => ?_) rfl ?_
                  · match k, hk with
                    | 0, hk => exact hk
                    | 1, hk => exact hk
                    | 2, hk => exact hk
                    | 3, hk => exact hk
                    | 4, hk => exact hk
                    | 5, hk => exact hk
                    | 6, hk => exact hk
                    | 7, hk => cases hk
                    | 8, hk => cases hk
                    | k + 9, hk => cases hk
                  refine ih_11 _ ?_ n 1 0 (k + 1) (Nat.le_refl _) ?_ ?_
                  · have hm_11 := hm_11 (); omega
                  · omega
                  · have y9 := bk9_u (H := fun m => T 102 m 3) (A := fun m => T 102 m 4) (b := cl) (f := T 100 c 7) (k := k) (by omega) (show T 102 (T 100 c 7 + k) 3 = cl ∨ T 102 (T 100 c 7 + k) 4 = cl by omega) (bs9_n (H := fun m => T 102 m 3) (show T 102 (T 100 c 7 + k) 3 ≠ cl by omega))
                    omega
                · refine rg_i (by omega) ?_
                  refine rg_i (by omega) ?_
                  refine hK 11 [some (vR 106 0), some (vR 100 c), some (vI cl), some (vI (n + 1)), some (vI 1), some (vI 0), some (vI (k + 1)), some (vR 102 ((T 100 c 7) + k)), some (vI 0)] [] T ?_
                  refine j_drop [some (vR 106 0), some (vR 100 c), some (vI cl), some (vI (n + 1)), some (vI 1), some (vI 0), some (vI (k + 1)), none, none] (fun k v hk => ?_) rfl ?_
                  · match k, hk with
                    | 0, hk => exact hk
                    | 1, hk => exact hk
                    | 2, hk => exact hk
                    | 3, hk => exact hk
                    | 4, hk => exact hk
                    | 5, hk => exact hk
                    | 6, hk => exact hk
                    | 7, hk => cases hk
                    | 8, hk => cases hk
                    | k + 9, hk => cases hk
                  refine ih_11 _ ?_ (n + 1) 1 0 (k + 1) (Nat.le_refl _) ?_ ?_
                  · have hm_11 := hm_11 (); omega
                  · omega
                  · have y9 := bk9_u (H := fun m => T 102 m 3) (A := fun m => T 102 m 4) (b := cl) (f := T 100 c 7) (k := k) (by omega) (show T 102 (T 100 c 7 + k) 3 = cl ∨ T 102 (T 100 c 7 + k) 4 = cl by omega) (bs9_n (H := fun m => T 102 m 3) (show T 102 (T 100 c 7 + k) 3 ≠ cl by omega))
                    omega
            · refine hK 57 _ [vI 1] T ?_
              refine j_blx (F := fX6) tb_X6 (nn_ _) bk_X6_countBreaks_e_57 bs_X6_countBreaks_e_57 hz (fun K hK => ?_)
              refine And.intro (fun c11 => ?_) (fun c11 => ?_)
              · refine hK 74 [some (vR 106 0), some (vR 100 c), some (vI cl), some (vI n), some (vI a), some (vI w), some (vI k), some (vR 102 ((T 100 c 7) + k)), some (vI 1)] [] T ?_
                refine j_blx (F := fX6) tb_X6 (nn_ _) bk_X6_countBreaks_e_74 bs_X6_countBreaks_e_74 hz (fun K hK => ?_)
                refine rg_i (by omega) ?_
                refine hK 11 [some (vR 106 0), some (vR 100 c), some (vI cl), some (vI n), some (vI 1), some (vI 1), some (vI (k + 1)), some (vR 102 ((T 100 c 7) + k)), some (vI 1)] [] T ?_
                refine j_drop [some (vR 106 0), some (vR 100 c), some (vI cl), some (vI n), some (vI 1), some (vI 1), some (vI (k + 1)), none, none] (fun k v hk => ?_) rfl ?_
                · match k, hk with
                  | 0, hk => exact hk
                  | 1, hk => exact hk
                  | 2, hk => exact hk
                  | 3, hk => exact hk
                  | 4, hk => exact hk
                  | 5, hk => exact hk
                  | 6, hk => exact hk
                  | 7, hk => cases hk
                  | 8, hk => cases hk
                  | k + 9, hk => cases hk
                refine ih_11 _ ?_ n 1 1 (k + 1) (Nat.le_refl _) ?_ ?_
                · have hm_11 := hm_11 (); omega
                · omega
                · have y9 := bk9_u (H := fun m => T 102 m 3) (A := fun m => T 102 m 4) (b := cl) (f := T 100 c 7) (k := k) (by omega) (show T 102 (T 100 c 7 + k) 3 = cl ∨ T 102 (T 100 c 7 + k) 4 = cl by omega) (bs9_y (H := fun m => T 102 m 3) (show T 102 (T 100 c 7 + k) 3 = cl by omega))
                  omega
              · refine And.intro (fun c12 => ?_) (fun c12 => ?_)
                · refine hK 74 [some (vR 106 0), some (vR 100 c), some (vI cl), some (vI n), some (vI a), some (vI w), some (vI k), some (vR 102 ((T 100 c 7) + k)), some (vI 1)] [] T ?_
                  refine j_blx (F := fX6) tb_X6 (nn_ _) bk_X6_countBreaks_e_74 bs_X6_countBreaks_e_74 hz (fun K hK => ?_)
                  refine rg_i (by omega) ?_
                  refine hK 11 [some (vR 106 0), some (vR 100 c), some (vI cl), some (vI n), some (vI 1), some (vI 1), some (vI (k + 1)), some (vR 102 ((T 100 c 7) + k)), some (vI 1)] [] T ?_
                  refine j_drop [some (vR 106 0), some (vR 100 c), some (vI cl), some (vI n), some (vI 1), some (vI 1), some (vI (k + 1)), none, none] (fun k v hk => ?_) rfl ?_
                  · match k, hk with
                    | 0, hk => exact hk
                    | 1, hk => exact hk
                    | 2, hk => exact hk
                    | 3, hk => exact hk
                    | 4, hk => exact hk
                    | 5, hk => exact hk
                    | 6, hk => exact hk
                    | 7, hk => cases hk
                    | 8, hk => cases hk
                    | k + 9, hk => cases hk
                  refine ih_11 _ ?_ n 1 1 (k + 1) (Nat.le_refl _) ?_ ?_
                  · have hm_11 := hm_11 (); omega
                  · omega
                  · have y9 := bk9_u (H := fun m => T 102 m 3) (A := fun m => T 102 m 4) (b := cl) (f := T 100 c 7) (k := k) (by omega) (show T 102 (T 100 c 7 + k) 3 = cl ∨ T 102 (T 100 c 7 + k) 4 = cl by omega) (bs9_y (H := fun m => T 102 m 3) (show T 102 (T 100 c 7 + k) 3 = cl by omega))
                    omega
                · refine rg_i (by omega) ?_
                  refine rg_i (by omega) ?_
                  refine hK 11 [some (vR 106 0), some (vR 100 c), some (vI cl), some (vI (n + 1)), some (vI 1), some (vI 1), some (vI (k + 1)), some (vR 102 ((T 100 c 7) + k)), some (vI 1)] [] T ?_
                  refine j_drop [some (vR 106 0), some (vR 100 c), some (vI cl), some (vI (n + 1)), some (vI 1), some (vI 1), some (vI (k + 1)), none, none] (fun k v hk => ?_) rfl ?_
                  · match k, hk with
                    | 0, hk => exact hk
                    | 1, hk => exact hk
                    | 2, hk => exact hk
                    | 3, hk => exact hk
                    | 4, hk => exact hk
                    | 5, hk => exact hk
                    | 6, hk => exact hk
                    | 7, hk => cases hk
                    | 8, hk => cases hk
                    | k + 9, hk => cases hk
                  refine ih_11 _ ?_ (n + 1) 1 1 (k + 1) (Nat.le_refl _) ?_ ?_
                  · have hm_11 := hm_11 (); omega
                  · omega
                  · have y9 := bk9_u (H := fun m => T 102 m 3) (A := fun m => T 102 m 4) (b := cl) (f := T 100 c 7) (k := k) (by omega) (show T 102 (T 100 c 7 + k) 3 = cl ∨ T 102 (T 100 c 7 + k) 4 = cl by omega) (bs9_y (H := fun m => T 102 m 3) (show T 102 (T 100 c 7 + k) 3 = cl by omega))
                    omega
  refine j_blx (F := fX6) tb_X6 (nn_ _) bk_X6_countBreaks_e_0 bs_X6_countBreaks_e_0 hz (fun K hK => ?_)
  refine hK 11 [some (vR 106 0), some (vR 100 c), some (vI cl), some (vI 0), some (vI 0), some (vI 0), some (vI 0), none, none] [] T ?_
  refine c_11 _ 0 0 0 0 (Nat.le_refl _) ?_ ?_
  · omega
  · exact ⟨rfl, Or.inl ⟨rfl, rfl⟩⟩
theorem bk_X10_breaks_e_0 : ck_ fX10 (some .int) cX10_breaks 0 [.aload 0, .iload 1] 2 = true := qck_r (nn_ _) (by decide +kernel)
theorem bs_X10_breaks_e_0 {P : Zt → Option Zv → Prop} (K : Int → Zl → List Zv → Zt → Prop) : sx_ K P [.aload 0, .iload 1] 2 = x_aload 0 (x_iload 1 (K 2)) := ((xe_aload 0).trans (congrArg (x_aload 0) ((xe_iload 1).trans (congrArg (x_iload 1) xe_nil))))
theorem bk_X10_breaks_e_5 : ck_ fX10 (some .int) cX10_breaks 5 [.ifCond .eq 16, .aload 0, .iload 2] 10 = true := qck_r (nn_ _) (by decide +kernel)
theorem bs_X10_breaks_e_5 {P : Zt → Option Zv → Prop} (K : Int → Zl → List Zv → Zt → Prop) : sx_ K P [.ifCond .eq 16, .aload 0, .iload 2] 10 = x_ifCond .eq 16 K (x_aload 0 (x_iload 2 (K 10))) := ((xe_ifCond .eq 16).trans (congrArg (x_ifCond .eq 16 K) ((xe_aload 0).trans (congrArg (x_aload 0) ((xe_iload 2).trans (congrArg (x_iload 2) xe_nil))))))
theorem bk_X10_breaks_e_16 : ck_ fX10 (some .int) cX10_breaks 16 [.iconst (-2), .ireturn] 19 = true := qck_r (nn_ _) (by decide +kernel)
theorem bs_X10_breaks_e_16 {P : Zt → Option Zv → Prop} (K : Int → Zl → List Zv → Zt → Prop) : sx_ K P [.iconst (-2), .ireturn] 19 = x_iconst (-2) (x_ireturn P) := ((xe_iconst (-2)).trans (congrArg (x_iconst (-2)) (xe_ireturn)))
theorem bk_X10_breaks_e_13 : ck_ fX10 (some .int) cX10_breaks 13 [.ifCond .ne 19, .iconst (-2), .ireturn] 19 = true := qck_r (nn_ _) (by decide +kernel)
theorem bs_X10_breaks_e_13 {P : Zt → Option Zv → Prop} (K : Int → Zl → List Zv → Zt → Prop) : sx_ K P [.ifCond .ne 19, .iconst (-2), .ireturn] 19 = x_ifCond .ne 19 K (x_iconst (-2) (x_ireturn P)) := ((xe_ifCond .ne 19).trans (congrArg (x_ifCond .ne 19 K) ((xe_iconst (-2)).trans (congrArg (x_iconst (-2)) (xe_ireturn)))))
theorem bk_X10_breaks_e_19 : ck_ fX10 (some .int) cX10_breaks 19 [.aload 0, .tableswitch 0 10 2 #[], .tableswitch 0 6 1 #[], .iload 1, .aaload, .astore 3, .aload 3, .tableswitch 0 0 4 #[], .iload 2, .iaload, .iconst (-1), .if_icmp .eq 46, .aload 3, .tableswitch 0 0 6 #[], .ifCond .ne 49, .iconst (-4), .ireturn] 49 = true := qck_r (nn_ _) (by decide +kernel)
theorem bs_X10_breaks_e_19 {P : Zt → Option Zv → Prop} (K : Int → Zl → List Zv → Zt → Prop) : sx_ K P [.aload 0, .tableswitch 0 10 2 #[], .tableswitch 0 6 1 #[], .iload 1, .aaload, .astore 3, .aload 3, .tableswitch 0 0 4 #[], .iload 2, .iaload, .iconst (-1), .if_icmp .eq 46, .aload 3, .tableswitch 0 0 6 #[], .ifCond .ne 49, .iconst (-4), .ireturn] 49 = x_aload 0 (x_g1 110 106 (x_g1 106 521 (x_iload 1 (x_aaload (x_astore 3 (x_aload 3 (x_g2 100 404 (x_iload 2 (x_iaload (x_iconst (-1) (x_if_icmp .eq 46 K (x_aload 3 (x_g0 100 6 0 1 (x_ifCond .ne 49 K (x_iconst (-4) (x_ireturn P)))))))))))))))) := ((xe_aload 0).trans (congrArg (x_aload 0) ((xe_g1 (kk := 110) rfl tl_10_2).trans (congrArg (x_g1 110 106) ((xe_g1 (kk := 106) rfl tl_6_1).trans (congrArg (x_g1 106 521) ((xe_iload 1).trans (congrArg (x_iload 1) ((xe_aaload).trans (congrArg (x_aaload) ((xe_astore 3).trans (congrArg (x_astore 3) ((xe_aload 3).trans (congrArg (x_aload 3) ((xe_g2 (kk := 100) rfl tl_0_4).trans (congrArg (x_g2 100 404) ((xe_iload 2).trans (congrArg (x_iload 2) ((xe_iaload).trans (congrArg (x_iaload) ((xe_iconst (-1)).trans (congrArg (x_iconst (-1)) ((xe_if_icmp .eq 46).trans (congrArg (x_if_icmp .eq 46 K) ((xe_aload 3).trans (congrArg (x_aload 3) ((xe_g0 (kk := 100) rfl tl_0_6).trans (congrArg (x_g0 100 6 0 1) ((xe_ifCond .ne 49).trans (congrArg (x_ifCond .ne 49 K) ((xe_iconst (-4)).trans (congrArg (x_iconst (-4)) (xe_ireturn)))))))))))))))))))))))))))))))))
theorem bk_X10_breaks_e_46 : ck_ fX10 (some .int) cX10_breaks 46 [.iconst (-4), .ireturn] 49 = true := qck_r (nn_ _) (by decide +kernel)
theorem bs_X10_breaks_e_46 {P : Zt → Option Zv → Prop} (K : Int → Zl → List Zv → Zt → Prop) : sx_ K P [.iconst (-4), .ireturn] 49 = x_iconst (-4) (x_ireturn P) := ((xe_iconst (-4)).trans (congrArg (x_iconst (-4)) (xe_ireturn)))
theorem bk_X10_breaks_e_49 : ck_ fX10 (some .int) cX10_breaks 49 [.aload 0, .tableswitch 0 10 2 #[], .aload 3, .iload 2] 55 = true := qck_r (nn_ _) (by decide +kernel)
theorem bs_X10_breaks_e_49 {P : Zt → Option Zv → Prop} (K : Int → Zl → List Zv → Zt → Prop) : sx_ K P [.aload 0, .tableswitch 0 10 2 #[], .aload 3, .iload 2] 55 = x_aload 0 (x_g1 110 106 (x_aload 3 (x_iload 2 (K 55)))) := ((xe_aload 0).trans (congrArg (x_aload 0) ((xe_g1 (kk := 110) rfl tl_10_2).trans (congrArg (x_g1 110 106) ((xe_aload 3).trans (congrArg (x_aload 3) ((xe_iload 2).trans (congrArg (x_iload 2) xe_nil))))))))
theorem bk_X10_breaks_e_58 : ck_ fX10 (some .int) cX10_breaks 58 [.ireturn] 59 = true := qck_r (nn_ _) (by decide +kernel)
theorem bs_X10_breaks_e_58 {P : Zt → Option Zv → Prop} (K : Int → Zl → List Zv → Zt → Prop) : sx_ K P [.ireturn] 59 = x_ireturn P := (xe_ireturn)
abbrev po_X10_breaks_e (T : Zt) (c cl : Int) : Zt → Option Zv → Prop := fun T' r => T = T' ∧ ∃ x : Int, r = some (vI x) ∧ (BH9_ T c cl x)
set_option maxHeartbeats 4000000 in
theorem ct_X10_breaks_e {T : Zt} {c cl : Int} (hka : KA_ T) (hkc : KC_ T) : Ct_ yX10_breaks zX10_breaks T [vR 110 0, vI c, vI cl] (po_X10_breaks_e T c cl) := by
  refine ct_of pn_10 rfl rfl (Nat.le_of_ble_eq_true rfl) (fun hT hav => ?_)
  have hr_c : -2147483648 ≤ c ∧ c ≤ 2147483647 := hav (vI c) (List.mem_cons_of_mem _ List.mem_cons_self)
  have hr_cl : -2147483648 ≤ cl ∧ cl ≤ 2147483647 := hav (vI cl) (List.mem_cons_of_mem _ (List.mem_cons_of_mem _ List.mem_cons_self))
  have hz : zX10_breaks.2.2.2.1 = some .boolean → ∀ (T' : Zt) (x : Int), po_X10_breaks_e T c cl T' (some (vI x)) → 0 ≤ x ∧ x ≤ 1 := fun h => by cases h
  have hb_competitionCount : 0 ≤ T 106 0 2 ∧ T 106 0 2 ≤ 4 := bd_f hT 106 2 tl_6_2 0
  have hb_clubs : 0 ≤ T 108 0 2 ∧ T 108 0 2 ≤ 12 := bd_f hT 108 2 tl_8_2 0
  have hb_matchCount : 0 ≤ T 106 0 4 ∧ T 106 0 4 ≤ 400 := bd_f hT 106 4 tl_6_4 0
  show J_ zX10_breaks T (po_X10_breaks_e T c cl) 0 0 0 [some (vR 110 0), some (vI c), some (vI cl), none] [] T
  refine j_blx (F := fX10) tb_X10 (nn_ _) bk_X10_breaks_e_0 bs_X10_breaks_e_0 hz (fun K hK => ?_)
  refine hK 2 _ [vI c, vR 110 0] T ?_
  refine j_callV (y := yX10_isCompetition) (Yc := zX10_isCompetition) (rest := []) [vI c] (ct_X10_isCompetition (T := T)) cl_X10_107 (qd_c (by decide +kernel)) (nn_ _) rfl (rf_of rfl) (Nat.le_of_ble_eq_true rfl) (Nat.le_of_ble_eq_true rfl) (Nat.le_of_ble_eq_true rfl) rfl ?_
  rintro _ _ ⟨rfl, x1, rfl, hx1⟩
  show J_ zX10_breaks T (po_X10_breaks_e T c cl) 0 0 5 _ [vI x1] T
  refine j_blx (F := fX10) tb_X10 (nn_ _) bk_X10_breaks_e_5 bs_X10_breaks_e_5 hz (fun K hK => ?_)
  refine And.intro (fun c2 => ?_) (fun c2 => ?_)
  · replace hx1 := hx1.resolve_left (fun z => absurd (c2.symm.trans z.1) (by decide))
    clear c2
    refine hK 16 _ [] T ?_
    refine j_blx (F := fX10) tb_X10 (nn_ _) bk_X10_breaks_e_16 bs_X10_breaks_e_16 hz (fun K hK => ?_)
    refine (show po_X10_breaks_e T c cl T (some (vI (-2))) from ?_)
    exact ⟨rfl, _, rfl, Or.inl ⟨rfl, by omega⟩⟩
  · replace hx1 := hx1.resolve_right (fun z => c2 z.1)
    clear c2
    refine hK 10 _ [vI cl, vR 110 0] T ?_
    refine j_callV (y := yX10_isClub) (Yc := zX10_isClub) (rest := []) [vI cl] (ct_X10_isClub (T := T)) cl_X10_137 (qd_c (by decide +kernel)) (nn_ _) rfl (rf_of rfl) (Nat.le_of_ble_eq_true rfl) (Nat.le_of_ble_eq_true rfl) (Nat.le_of_ble_eq_true rfl) rfl ?_
    rintro _ _ ⟨rfl, x3, rfl, hx3⟩
    show J_ zX10_breaks T (po_X10_breaks_e T c cl) 0 0 13 _ [vI x3] T
    refine j_blx (F := fX10) tb_X10 (nn_ _) bk_X10_breaks_e_13 bs_X10_breaks_e_13 hz (fun K hK => ?_)
    refine And.intro (fun c4 => ?_) (fun c4 => ?_)
    · replace hx3 := hx3.resolve_right (fun z => c4 z.1)
      clear c4
      refine hK 19 _ [] T ?_
      refine j_blx (F := fX10) tb_X10 (nn_ _) bk_X10_breaks_e_19 bs_X10_breaks_e_19 hz (fun K hK => ?_)
      refine ix_i (by omega) ?_
      refine And.intro (fun c5 => ?_) (fun c5 => ?_)
      · exact absurd (show T 521 0 c = 0 by omega) (hka.1 _ (by omega) (by omega))
      · refine ix_i (by omega) ?_
        intro b6 b6b
        refine And.intro (fun c7 => ?_) (fun c7 => ?_)
        · refine hK 46 [some (vR 110 0), some (vI c), some (vI cl), some (vR 100 c)] [] T ?_
          refine j_blx (F := fX10) tb_X10 (nn_ _) bk_X10_breaks_e_46 bs_X10_breaks_e_46 hz (fun K hK => ?_)
          refine (show po_X10_breaks_e T c cl T (some (vI (-4))) from ?_)
          exact ⟨rfl, _, rfl, Or.inr ⟨by omega, Or.inl ⟨rfl, by omega⟩⟩⟩
        · intro b8 b8b
          refine And.intro (fun c9 => ?_) (fun c9 => ?_)
          · refine hK 49 _ [] T ?_
            refine j_blx (F := fX10) tb_X10 (nn_ _) bk_X10_breaks_e_49 bs_X10_breaks_e_49 hz (fun K hK => ?_)
            refine hK 55 _ [vI cl, vR 100 c, vR 106 0] T ?_
            refine j_callV (y := yX6_countBreaks) (Yc := zX6_countBreaks) (rest := []) [vR 100 c, vI cl] (ct_X6_countBreaks_e (T := T) (by exact hka) (by exact hkc c (by omega) (by omega))) cl_X10_230 (qd_c (by decide +kernel)) (nn_ _) rfl (rf_of rfl) (Nat.le_of_ble_eq_true rfl) (Nat.le_of_ble_eq_true rfl) (Nat.le_of_ble_eq_true rfl) rfl ?_
            rintro _ _ ⟨rfl, x10, rfl, hx10⟩
            show J_ zX10_breaks T (po_X10_breaks_e T c cl) 0 0 58 _ [vI x10] T
            refine j_blx (F := fX10) tb_X10 (nn_ _) bk_X10_breaks_e_58 bs_X10_breaks_e_58 hz (fun K hK => ?_)
            refine (show po_X10_breaks_e T c cl T (some (vI x10)) from ?_)
            exact ⟨rfl, _, rfl, Or.inr ⟨by omega, Or.inr ⟨by omega, by omega, hx10⟩⟩⟩
          · refine (show po_X10_breaks_e T c cl T (some (vI (-4))) from ?_)
            exact ⟨rfl, _, rfl, Or.inr ⟨by omega, Or.inl ⟨rfl, by omega⟩⟩⟩
    · replace hx3 := hx3.resolve_left (fun z => absurd (c4.symm.trans z.1) (by decide))
      clear c4
      refine (show po_X10_breaks_e T c cl T (some (vI (-2))) from ?_)
      exact ⟨rfl, _, rfl, Or.inl ⟨rfl, by omega⟩⟩
theorem bk_X11_breaks_e_59 : ck_ fX11 (some .int) cX11_breaks 59 [.iload 5, .aload 0, .tableswitch 0 11 10 #[], .iload 1, .iaload, .aload 0, .tableswitch 0 11 11 #[], .iload 1, .iaload, .iadd, .if_icmp .ge 142, .aload 0, .tableswitch 0 11 32 #[], .iload 5, .iaload, .iload 2, .if_icmp .eq 99, .aload 0, .tableswitch 0 11 33 #[], .iload 5, .iaload, .iload 2, .if_icmp .ne 136, .aload 0, .tableswitch 0 11 32 #[], .iload 5, .iaload, .iload 2, .if_icmp .ne 114, .iconst 0, .goto 115] 114 = true := qck_r (nn_ _) (by decide +kernel)
theorem bs_X11_breaks_e_59 {P : Zt → Option Zv → Prop} (K : Int → Zl → List Zv → Zt → Prop) : sx_ K P [.iload 5, .aload 0, .tableswitch 0 11 10 #[], .iload 1, .iaload, .aload 0, .tableswitch 0 11 11 #[], .iload 1, .iaload, .iadd, .if_icmp .ge 142, .aload 0, .tableswitch 0 11 32 #[], .iload 5, .iaload, .iload 2, .if_icmp .eq 99, .aload 0, .tableswitch 0 11 33 #[], .iload 5, .iaload, .iload 2, .if_icmp .ne 136, .aload 0, .tableswitch 0 11 32 #[], .iload 5, .iaload, .iload 2, .if_icmp .ne 114, .iconst 0, .goto 115] 114 = x_iload 5 (x_aload 0 (x_g1 111 210 (x_iload 1 (x_iaload (x_aload 0 (x_g1 111 211 (x_iload 1 (x_iaload (x_iadd (x_if_icmp .ge 142 K (x_aload 0 (x_g1 111 232 (x_iload 5 (x_iaload (x_iload 2 (x_if_icmp .eq 99 K (x_aload 0 (x_g1 111 233 (x_iload 5 (x_iaload (x_iload 2 (x_if_icmp .ne 136 K (x_aload 0 (x_g1 111 232 (x_iload 5 (x_iaload (x_iload 2 (x_if_icmp .ne 114 K (x_iconst 0 (x_goto 115 K)))))))))))))))))))))))))))))) := ((xe_iload 5).trans (congrArg (x_iload 5) ((xe_aload 0).trans (congrArg (x_aload 0) ((xe_g1 (kk := 111) rfl tl_11_10).trans (congrArg (x_g1 111 210) ((xe_iload 1).trans (congrArg (x_iload 1) ((xe_iaload).trans (congrArg (x_iaload) ((xe_aload 0).trans (congrArg (x_aload 0) ((xe_g1 (kk := 111) rfl tl_11_11).trans (congrArg (x_g1 111 211) ((xe_iload 1).trans (congrArg (x_iload 1) ((xe_iaload).trans (congrArg (x_iaload) ((xe_iadd).trans (congrArg (x_iadd) ((xe_if_icmp .ge 142).trans (congrArg (x_if_icmp .ge 142 K) ((xe_aload 0).trans (congrArg (x_aload 0) ((xe_g1 (kk := 111) rfl tl_11_32).trans (congrArg (x_g1 111 232) ((xe_iload 5).trans (congrArg (x_iload 5) ((xe_iaload).trans (congrArg (x_iaload) ((xe_iload 2).trans (congrArg (x_iload 2) ((xe_if_icmp .eq 99).trans (congrArg (x_if_icmp .eq 99 K) ((xe_aload 0).trans (congrArg (x_aload 0) ((xe_g1 (kk := 111) rfl tl_11_33).trans (congrArg (x_g1 111 233) ((xe_iload 5).trans (congrArg (x_iload 5) ((xe_iaload).trans (congrArg (x_iaload) ((xe_iload 2).trans (congrArg (x_iload 2) ((xe_if_icmp .ne 136).trans (congrArg (x_if_icmp .ne 136 K) ((xe_aload 0).trans (congrArg (x_aload 0) ((xe_g1 (kk := 111) rfl tl_11_32).trans (congrArg (x_g1 111 232) ((xe_iload 5).trans (congrArg (x_iload 5) ((xe_iaload).trans (congrArg (x_iaload) ((xe_iload 2).trans (congrArg (x_iload 2) ((xe_if_icmp .ne 114).trans (congrArg (x_if_icmp .ne 114 K) ((xe_iconst 0).trans (congrArg (x_iconst 0) (xe_goto 115)))))))))))))))))))))))))))))))))))))))))))))))))))))))))))))
theorem bk_X11_breaks_e_142 : ck_ fX11 (some .int) cX11_breaks 142 [.iload 4, .ireturn] 145 = true := qck_r (nn_ _) (by decide +kernel)
theorem bs_X11_breaks_e_142 {P : Zt → Option Zv → Prop} (K : Int → Zl → List Zv → Zt → Prop) : sx_ K P [.iload 4, .ireturn] 145 = x_iload 4 (x_ireturn P) := ((xe_iload 4).trans (congrArg (x_iload 4) (xe_ireturn)))
theorem bk_X11_breaks_e_99 : ck_ fX11 (some .int) cX11_breaks 99 [.aload 0, .tableswitch 0 11 32 #[], .iload 5, .iaload, .iload 2, .if_icmp .ne 114, .iconst 0, .goto 115] 114 = true := qck_r (nn_ _) (by decide +kernel)
theorem bs_X11_breaks_e_99 {P : Zt → Option Zv → Prop} (K : Int → Zl → List Zv → Zt → Prop) : sx_ K P [.aload 0, .tableswitch 0 11 32 #[], .iload 5, .iaload, .iload 2, .if_icmp .ne 114, .iconst 0, .goto 115] 114 = x_aload 0 (x_g1 111 232 (x_iload 5 (x_iaload (x_iload 2 (x_if_icmp .ne 114 K (x_iconst 0 (x_goto 115 K))))))) := ((xe_aload 0).trans (congrArg (x_aload 0) ((xe_g1 (kk := 111) rfl tl_11_32).trans (congrArg (x_g1 111 232) ((xe_iload 5).trans (congrArg (x_iload 5) ((xe_iaload).trans (congrArg (x_iaload) ((xe_iload 2).trans (congrArg (x_iload 2) ((xe_if_icmp .ne 114).trans (congrArg (x_if_icmp .ne 114 K) ((xe_iconst 0).trans (congrArg (x_iconst 0) (xe_goto 115)))))))))))))))
theorem bk_X11_breaks_e_114 : ck_ fX11 (some .int) cX11_breaks 114 [.iconst 1, .istore 6, .iload 4, .iload 6, .iload 3, .if_icmp .ne 129, .iconst 1, .goto 130] 129 = true := qck_r (nn_ _) (by decide +kernel)
theorem bs_X11_breaks_e_114 {P : Zt → Option Zv → Prop} (K : Int → Zl → List Zv → Zt → Prop) : sx_ K P [.iconst 1, .istore 6, .iload 4, .iload 6, .iload 3, .if_icmp .ne 129, .iconst 1, .goto 130] 129 = x_iconst 1 (x_istore 6 (x_iload 4 (x_iload 6 (x_iload 3 (x_if_icmp .ne 129 K (x_iconst 1 (x_goto 130 K))))))) := ((xe_iconst 1).trans (congrArg (x_iconst 1) ((xe_istore 6).trans (congrArg (x_istore 6) ((xe_iload 4).trans (congrArg (x_iload 4) ((xe_iload 6).trans (congrArg (x_iload 6) ((xe_iload 3).trans (congrArg (x_iload 3) ((xe_if_icmp .ne 129).trans (congrArg (x_if_icmp .ne 129 K) ((xe_iconst 1).trans (congrArg (x_iconst 1) (xe_goto 130)))))))))))))))
theorem bk_X11_breaks_e_129 : ck_ fX11 (some .int) cX11_breaks 129 [.iconst 0, .iadd, .istore 4, .iload 6, .istore 3, .iinc 5 1, .goto 59] 142 = true := qck_r (nn_ _) (by decide +kernel)
theorem bs_X11_breaks_e_129 {P : Zt → Option Zv → Prop} (K : Int → Zl → List Zv → Zt → Prop) : sx_ K P [.iconst 0, .iadd, .istore 4, .iload 6, .istore 3, .iinc 5 1, .goto 59] 142 = x_iconst 0 (x_iadd (x_istore 4 (x_iload 6 (x_istore 3 (x_iinc 5 1 (x_goto 59 K)))))) := ((xe_iconst 0).trans (congrArg (x_iconst 0) ((xe_iadd).trans (congrArg (x_iadd) ((xe_istore 4).trans (congrArg (x_istore 4) ((xe_iload 6).trans (congrArg (x_iload 6) ((xe_istore 3).trans (congrArg (x_istore 3) ((xe_iinc 5 1).trans (congrArg (x_iinc 5 1) (xe_goto 59)))))))))))))
theorem bk_X11_breaks_e_130 : ck_ fX11 (some .int) cX11_breaks 130 [.iadd, .istore 4, .iload 6, .istore 3, .iinc 5 1, .goto 59] 142 = true := qck_r (nn_ _) (by decide +kernel)
theorem bs_X11_breaks_e_130 {P : Zt → Option Zv → Prop} (K : Int → Zl → List Zv → Zt → Prop) : sx_ K P [.iadd, .istore 4, .iload 6, .istore 3, .iinc 5 1, .goto 59] 142 = x_iadd (x_istore 4 (x_iload 6 (x_istore 3 (x_iinc 5 1 (x_goto 59 K))))) := ((xe_iadd).trans (congrArg (x_iadd) ((xe_istore 4).trans (congrArg (x_istore 4) ((xe_iload 6).trans (congrArg (x_iload 6) ((xe_istore 3).trans (congrArg (x_istore 3) ((xe_iinc 5 1).trans (congrArg (x_iinc 5 1) (xe_goto 59)))))))))))
theorem bk_X11_breaks_e_115 : ck_ fX11 (some .int) cX11_breaks 115 [.istore 6, .iload 4, .iload 6, .iload 3, .if_icmp .ne 129, .iconst 1, .goto 130] 129 = true := qck_r (nn_ _) (by decide +kernel)
theorem bs_X11_breaks_e_115 {P : Zt → Option Zv → Prop} (K : Int → Zl → List Zv → Zt → Prop) : sx_ K P [.istore 6, .iload 4, .iload 6, .iload 3, .if_icmp .ne 129, .iconst 1, .goto 130] 129 = x_istore 6 (x_iload 4 (x_iload 6 (x_iload 3 (x_if_icmp .ne 129 K (x_iconst 1 (x_goto 130 K)))))) := ((xe_istore 6).trans (congrArg (x_istore 6) ((xe_iload 4).trans (congrArg (x_iload 4) ((xe_iload 6).trans (congrArg (x_iload 6) ((xe_iload 3).trans (congrArg (x_iload 3) ((xe_if_icmp .ne 129).trans (congrArg (x_if_icmp .ne 129 K) ((xe_iconst 1).trans (congrArg (x_iconst 1) (xe_goto 130)))))))))))))
theorem bk_X11_breaks_e_136 : ck_ fX11 (some .int) cX11_breaks 136 [.iinc 5 1, .goto 59] 142 = true := qck_r (nn_ _) (by decide +kernel)
theorem bs_X11_breaks_e_136 {P : Zt → Option Zv → Prop} (K : Int → Zl → List Zv → Zt → Prop) : sx_ K P [.iinc 5 1, .goto 59] 142 = x_iinc 5 1 (x_goto 59 K) := ((xe_iinc 5 1).trans (congrArg (x_iinc 5 1) (xe_goto 59)))
theorem bk_X11_breaks_e_0 : ck_ fX11 (some .int) cX11_breaks 0 [.iload 1, .aload 0, .tableswitch 0 11 6 #[]] 5 = true := qck_r (nn_ _) (by decide +kernel)
theorem bs_X11_breaks_e_0 {P : Zt → Option Zv → Prop} (K : Int → Zl → List Zv → Zt → Prop) : sx_ K P [.iload 1, .aload 0, .tableswitch 0 11 6 #[]] 5 = x_iload 1 (x_aload 0 (x_g0 111 6 0 4 (K 5))) := ((xe_iload 1).trans (congrArg (x_iload 1) ((xe_aload 0).trans (congrArg (x_aload 0) ((xe_g0 (kk := 111) rfl tl_11_6).trans (congrArg (x_g0 111 6 0 4) xe_nil))))))
theorem bk_X11_breaks_e_8 : ck_ fX11 (some .int) cX11_breaks 8 [.ifCond .eq 22, .iload 2, .aload 0, .tableswitch 0 11 12 #[]] 16 = true := qck_r (nn_ _) (by decide +kernel)
theorem bs_X11_breaks_e_8 {P : Zt → Option Zv → Prop} (K : Int → Zl → List Zv → Zt → Prop) : sx_ K P [.ifCond .eq 22, .iload 2, .aload 0, .tableswitch 0 11 12 #[]] 16 = x_ifCond .eq 22 K (x_iload 2 (x_aload 0 (x_g0 111 12 0 12 (K 16)))) := ((xe_ifCond .eq 22).trans (congrArg (x_ifCond .eq 22 K) ((xe_iload 2).trans (congrArg (x_iload 2) ((xe_aload 0).trans (congrArg (x_aload 0) ((xe_g0 (kk := 111) rfl tl_11_12).trans (congrArg (x_g0 111 12 0 12) xe_nil))))))))
theorem bk_X11_breaks_e_22 : ck_ fX11 (some .int) cX11_breaks 22 [.iconst (-2), .ireturn] 25 = true := qck_r (nn_ _) (by decide +kernel)
theorem bs_X11_breaks_e_22 {P : Zt → Option Zv → Prop} (K : Int → Zl → List Zv → Zt → Prop) : sx_ K P [.iconst (-2), .ireturn] 25 = x_iconst (-2) (x_ireturn P) := ((xe_iconst (-2)).trans (congrArg (x_iconst (-2)) (xe_ireturn)))
theorem bk_X11_breaks_e_19 : ck_ fX11 (some .int) cX11_breaks 19 [.ifCond .ne 25, .iconst (-2), .ireturn] 25 = true := qck_r (nn_ _) (by decide +kernel)
theorem bs_X11_breaks_e_19 {P : Zt → Option Zv → Prop} (K : Int → Zl → List Zv → Zt → Prop) : sx_ K P [.ifCond .ne 25, .iconst (-2), .ireturn] 25 = x_ifCond .ne 25 K (x_iconst (-2) (x_ireturn P)) := ((xe_ifCond .ne 25).trans (congrArg (x_ifCond .ne 25 K) ((xe_iconst (-2)).trans (congrArg (x_iconst (-2)) (xe_ireturn)))))
theorem bk_X11_breaks_e_25 : ck_ fX11 (some .int) cX11_breaks 25 [.aload 0, .tableswitch 0 11 9 #[], .iload 1, .baload, .ifCond .eq 43, .aload 0, .iload 1, .iload 2] 37 = true := qck_r (nn_ _) (by decide +kernel)
theorem bs_X11_breaks_e_25 {P : Zt → Option Zv → Prop} (K : Int → Zl → List Zv → Zt → Prop) : sx_ K P [.aload 0, .tableswitch 0 11 9 #[], .iload 1, .baload, .ifCond .eq 43, .aload 0, .iload 1, .iload 2] 37 = x_aload 0 (x_g1 111 209 (x_iload 1 (x_baload (x_ifCond .eq 43 K (x_aload 0 (x_iload 1 (x_iload 2 (K 37)))))))) := ((xe_aload 0).trans (congrArg (x_aload 0) ((xe_g1 (kk := 111) rfl tl_11_9).trans (congrArg (x_g1 111 209) ((xe_iload 1).trans (congrArg (x_iload 1) ((xe_baload).trans (congrArg (x_baload) ((xe_ifCond .eq 43).trans (congrArg (x_ifCond .eq 43 K) ((xe_aload 0).trans (congrArg (x_aload 0) ((xe_iload 1).trans (congrArg (x_iload 1) ((xe_iload 2).trans (congrArg (x_iload 2) xe_nil))))))))))))))))
theorem bk_X11_breaks_e_43 : ck_ fX11 (some .int) cX11_breaks 43 [.iconst (-4), .ireturn] 46 = true := qck_r (nn_ _) (by decide +kernel)
theorem bs_X11_breaks_e_43 {P : Zt → Option Zv → Prop} (K : Int → Zl → List Zv → Zt → Prop) : sx_ K P [.iconst (-4), .ireturn] 46 = x_iconst (-4) (x_ireturn P) := ((xe_iconst (-4)).trans (congrArg (x_iconst (-4)) (xe_ireturn)))
theorem bk_X11_breaks_e_40 : ck_ fX11 (some .int) cX11_breaks 40 [.ifCond .ne 46, .iconst (-4), .ireturn] 46 = true := qck_r (nn_ _) (by decide +kernel)
theorem bs_X11_breaks_e_40 {P : Zt → Option Zv → Prop} (K : Int → Zl → List Zv → Zt → Prop) : sx_ K P [.ifCond .ne 46, .iconst (-4), .ireturn] 46 = x_ifCond .ne 46 K (x_iconst (-4) (x_ireturn P)) := ((xe_ifCond .ne 46).trans (congrArg (x_ifCond .ne 46 K) ((xe_iconst (-4)).trans (congrArg (x_iconst (-4)) (xe_ireturn)))))
theorem bk_X11_breaks_e_46 : ck_ fX11 (some .int) cX11_breaks 46 [.iconst (-1), .istore 3, .iconst 0, .istore 4, .aload 0, .tableswitch 0 11 10 #[], .iload 1, .iaload, .istore 5] 59 = true := qck_r (nn_ _) (by decide +kernel)
theorem bs_X11_breaks_e_46 {P : Zt → Option Zv → Prop} (K : Int → Zl → List Zv → Zt → Prop) : sx_ K P [.iconst (-1), .istore 3, .iconst 0, .istore 4, .aload 0, .tableswitch 0 11 10 #[], .iload 1, .iaload, .istore 5] 59 = x_iconst (-1) (x_istore 3 (x_iconst 0 (x_istore 4 (x_aload 0 (x_g1 111 210 (x_iload 1 (x_iaload (x_istore 5 (K 59))))))))) := ((xe_iconst (-1)).trans (congrArg (x_iconst (-1)) ((xe_istore 3).trans (congrArg (x_istore 3) ((xe_iconst 0).trans (congrArg (x_iconst 0) ((xe_istore 4).trans (congrArg (x_istore 4) ((xe_aload 0).trans (congrArg (x_aload 0) ((xe_g1 (kk := 111) rfl tl_11_10).trans (congrArg (x_g1 111 210) ((xe_iload 1).trans (congrArg (x_iload 1) ((xe_iaload).trans (congrArg (x_iaload) ((xe_istore 5).trans (congrArg (x_istore 5) xe_nil))))))))))))))))))
abbrev po_X11_breaks_e (T : Zt) (c cl : Int) : Zt → Option Zv → Prop := fun T' r => T = T' ∧ ∃ x : Int, r = some (vI x) ∧ (BR9_ T c cl x)
set_option maxHeartbeats 4000000 in
theorem ct_X11_breaks_e {T : Zt} {c cl : Int} (hML : ML_ T) : Ct_ yX11_breaks zX11_breaks T [vR 111 0, vI c, vI cl] (po_X11_breaks_e T c cl) := by
  refine ct_of pn_11 rfl rfl (Nat.le_of_ble_eq_true rfl) (fun hT hav => ?_)
  have hr_c : -2147483648 ≤ c ∧ c ≤ 2147483647 := hav (vI c) (List.mem_cons_of_mem _ List.mem_cons_self)
  have hr_cl : -2147483648 ≤ cl ∧ cl ≤ 2147483647 := hav (vI cl) (List.mem_cons_of_mem _ (List.mem_cons_of_mem _ List.mem_cons_self))
  have hz : zX11_breaks.2.2.2.1 = some .boolean → ∀ (T' : Zt) (x : Int), po_X11_breaks_e T c cl T' (some (vI x)) → 0 ≤ x ∧ x ≤ 1 := fun h => by cases h
  have hb_29 : 0 ≤ T 111 0 29 ∧ T 111 0 29 ≤ 400 := bd_f hT 111 29 tl_11_29 0
  have hb_6 : 0 ≤ T 111 0 6 ∧ T 111 0 6 ≤ 4 := bd_f hT 111 6 tl_11_6 0
  have hb_12 : 0 ≤ T 111 0 12 ∧ T 111 0 12 ≤ 12 := bd_f hT 111 12 tl_11_12 0
  show J_ zX11_breaks T (po_X11_breaks_e T c cl) 0 0 0 [some (vR 111 0), some (vI c), some (vI cl), none, none, none, none] [] T
  have c_59 : ∀ (nn : Nat) (la : Int) (mn : Int) (m : Int), ((400 - m).toNat) ≤ nn → ((0 ≤ c ∧ c < T 111 0 6) ∧ 0 ≤ cl ∧ cl < T 111 0 12) → (T 209 0 c ≠ 0) → (HE_ T c cl) → (T 210 0 c ≤ m ∧ m ≤ T 210 0 c + T 211 0 c ∧ 0 ≤ mn ∧ mn ≤ m - T 210 0 c ∧ 0 ≤ T 210 0 c ∧ 0 ≤ T 211 0 c ∧ T 210 0 c + T 211 0 c ≤ 400) → (mn = (bk9_ (fun m => T 232 0 m) (fun m => T 233 0 m) cl (T 210 0 c) (m - T 210 0 c).toNat).1 ∧ la = (bk9_ (fun m => T 232 0 m) (fun m => T 233 0 m) cl (T 210 0 c) (m - T 210 0 c).toNat).2) → J_ zX11_breaks T (po_X11_breaks_e T c cl) 0 0 59 [some (vR 111 0), some (vI c), some (vI cl), some (vI la), some (vI mn), some (vI m), none] [] T := by
    intro nn
    induction nn using Nat.strongRecOn with
    | _ nn ih_59 =>
      intro la mn m hm_59 c0 hpl hhe i1 ib
      replace hm_59 := fun (_ : Unit) => hm_59
      refine j_blx (F := fX11) tb_X11 (nn_ _) bk_X11_breaks_e_59 bs_X11_breaks_e_59 hz (fun K hK => ?_)
      refine ix_i (by omega) ?_
      intro b1 b1b
      refine ix_i (by omega) ?_
      intro b2 b2b
      refine rg_i (by omega) ?_
      refine And.intro (fun c3 => ?_) (fun c3 => ?_)
      · refine hK 142 _ [] T ?_
        refine j_blx (F := fX11) tb_X11 (nn_ _) bk_X11_breaks_e_142 bs_X11_breaks_e_142 hz (fun K hK => ?_)
        refine (show po_X11_breaks_e T c cl T (some (vI mn)) from ?_)
        exact ⟨rfl, _, rfl, Or.inr ⟨by omega, Or.inr ⟨hpl, hhe, by rw [show T 211 0 c = m - T 210 0 c by omega]; exact ib.1⟩⟩⟩
      · refine ix_i (by omega) ?_
        intro b4 b4b
        refine And.intro (fun c5 => ?_) (fun c5 => ?_)
        · refine hK 99 _ [] T ?_
          refine j_blx (F := fX11) tb_X11 (nn_ _) bk_X11_breaks_e_99 bs_X11_breaks_e_99 hz (fun K hK => ?_)
          refine ix_i (by omega) ?_
          intro b6 b6b
          refine And.intro (fun c7 => ?_) (fun c7 => ?_)
          · refine hK 114 _ [] T ?_
            refine j_blx (F := fX11) tb_X11 (nn_ _) bk_X11_breaks_e_114 bs_X11_breaks_e_114 hz (fun K hK => ?_)
            refine And.intro (fun c8 => ?_) (fun c8 => ?_)
            · refine hK 129 [some (vR 111 0), some (vI c), some (vI cl), some (vI la), some (vI mn), some (vI m), some (vI 1)] [vI mn] T ?_
              refine j_blx (F := fX11) tb_X11 (nn_ _) bk_X11_breaks_e_129 bs_X11_breaks_e_129 hz (fun K hK => ?_)
              refine rg_i (by omega) ?_
              refine rg_i (by omega) ?_
              refine hK 59 [some (vR 111 0), some (vI c), some (vI cl), some (vI 1), some (vI (mn + 0)), some (vI (m + 1)), some (vI 1)] [] T ?_
              refine j_drop [some (vR 111 0), some (vI c), some (vI cl), some (vI 1), some (vI (mn + 0)), some (vI (m + 1)), none] (fun k v hk => ?_) rfl ?_
              · match k, hk with
                | 0, hk => exact hk
                | 1, hk => exact hk
                | 2, hk => exact hk
                | 3, hk => exact hk
                | 4, hk => exact hk
                | 5, hk => exact hk
                | 6, hk => cases hk
                | k + 7, hk => cases hk
              refine ih_59 _ ?_ 1 (mn + 0) (m + 1) (Nat.le_refl _) ?_ ?_ ?_ ?_ ?_
              · have hm_59 := hm_59 (); omega
              · omega
              · omega
              · exact hhe
              · first
                | omega
                | (have hml9 := hML c (by omega) (by omega); omega)
              · have em : (m + 1 - T 210 0 c).toNat = ((m - T 210 0 c) + 1).toNat := by omega
                rw [em]
                have y9 := bk9_u (H := fun m => T 232 0 m) (A := fun m => T 233 0 m) (b := cl) (f := T 210 0 c) (k := m - T 210 0 c) (by omega) (show T 232 0 (T 210 0 c + (m - T 210 0 c)) = cl ∨ T 233 0 (T 210 0 c + (m - T 210 0 c)) = cl by rw [show T 210 0 c + (m - T 210 0 c) = m by omega]; omega) (bs9_n (H := fun m => T 232 0 m) (show T 232 0 (T 210 0 c + (m - T 210 0 c)) ≠ cl by rw [show T 210 0 c + (m - T 210 0 c) = m by omega]; omega))
                omega
            · refine hK 130 [some (vR 111 0), some (vI c), some (vI cl), some (vI la), some (vI mn), some (vI m), some (vI 1)] [vI 1, vI mn] T ?_
              refine j_blx (F := fX11) tb_X11 (nn_ _) bk_X11_breaks_e_130 bs_X11_breaks_e_130 hz (fun K hK => ?_)
              refine rg_i (by omega) ?_
              refine rg_i (by omega) ?_
              refine hK 59 [some (vR 111 0), some (vI c), some (vI cl), some (vI 1), some (vI (mn + 1)), some (vI (m + 1)), some (vI 1)] [] T ?_
              refine j_drop [some (vR 111 0), some (vI c), some (vI cl), some (vI 1), some (vI (mn + 1)), some (vI (m + 1)), none] (fun k v hk => ?_) rfl ?_
              · match k, hk with
                | 0, hk => exact hk
                | 1, hk => exact hk
                | 2, hk => exact hk
                | 3, hk => exact hk
                | 4, hk => exact hk
                | 5, hk => exact hk
                | 6, hk => cases hk
                | k + 7, hk => cases hk
              refine ih_59 _ ?_ 1 (mn + 1) (m + 1) (Nat.le_refl _) ?_ ?_ ?_ ?_ ?_
              · have hm_59 := hm_59 (); omega
              · omega
              · omega
              · exact hhe
              · first
                | omega
                | (have hml9 := hML c (by omega) (by omega); omega)
              · have em : (m + 1 - T 210 0 c).toNat = ((m - T 210 0 c) + 1).toNat := by omega
                rw [em]
                have y9 := bk9_u (H := fun m => T 232 0 m) (A := fun m => T 233 0 m) (b := cl) (f := T 210 0 c) (k := m - T 210 0 c) (by omega) (show T 232 0 (T 210 0 c + (m - T 210 0 c)) = cl ∨ T 233 0 (T 210 0 c + (m - T 210 0 c)) = cl by rw [show T 210 0 c + (m - T 210 0 c) = m by omega]; omega) (bs9_n (H := fun m => T 232 0 m) (show T 232 0 (T 210 0 c + (m - T 210 0 c)) ≠ cl by rw [show T 210 0 c + (m - T 210 0 c) = m by omega]; omega))
                omega
          · refine hK 115 _ [vI 0] T ?_
            refine j_blx (F := fX11) tb_X11 (nn_ _) bk_X11_breaks_e_115 bs_X11_breaks_e_115 hz (fun K hK => ?_)
            refine And.intro (fun c9 => ?_) (fun c9 => ?_)
            · refine hK 129 [some (vR 111 0), some (vI c), some (vI cl), some (vI la), some (vI mn), some (vI m), some (vI 0)] [vI mn] T ?_
              refine j_blx (F := fX11) tb_X11 (nn_ _) bk_X11_breaks_e_129 bs_X11_breaks_e_129 hz (fun K hK => ?_)
              refine rg_i (by omega) ?_
              refine rg_i (by omega) ?_
              refine hK 59 [some (vR 111 0), some (vI c), some (vI cl), some (vI 0), some (vI (mn + 0)), some (vI (m + 1)), some (vI 0)] [] T ?_
              refine j_drop [some (vR 111 0), some (vI c), some (vI cl), some (vI 0), some (vI (mn + 0)), some (vI (m + 1)), none] (fun k v hk => ?_) rfl ?_
              · match k, hk with
                | 0, hk => exact hk
                | 1, hk => exact hk
                | 2, hk => exact hk
                | 3, hk => exact hk
                | 4, hk => exact hk
                | 5, hk => exact hk
                | 6, hk => cases hk
                | k + 7, hk => cases hk
              refine ih_59 _ ?_ 0 (mn + 0) (m + 1) (Nat.le_refl _) ?_ ?_ ?_ ?_ ?_
              · have hm_59 := hm_59 (); omega
              · omega
              · omega
              · exact hhe
              · first
                | omega
                | (have hml9 := hML c (by omega) (by omega); omega)
              · have em : (m + 1 - T 210 0 c).toNat = ((m - T 210 0 c) + 1).toNat := by omega
                rw [em]
                have y9 := bk9_u (H := fun m => T 232 0 m) (A := fun m => T 233 0 m) (b := cl) (f := T 210 0 c) (k := m - T 210 0 c) (by omega) (show T 232 0 (T 210 0 c + (m - T 210 0 c)) = cl ∨ T 233 0 (T 210 0 c + (m - T 210 0 c)) = cl by rw [show T 210 0 c + (m - T 210 0 c) = m by omega]; omega) (bs9_y (H := fun m => T 232 0 m) (show T 232 0 (T 210 0 c + (m - T 210 0 c)) = cl by rw [show T 210 0 c + (m - T 210 0 c) = m by omega]; omega))
                omega
            · refine hK 130 [some (vR 111 0), some (vI c), some (vI cl), some (vI la), some (vI mn), some (vI m), some (vI 0)] [vI 1, vI mn] T ?_
              refine j_blx (F := fX11) tb_X11 (nn_ _) bk_X11_breaks_e_130 bs_X11_breaks_e_130 hz (fun K hK => ?_)
              refine rg_i (by omega) ?_
              refine rg_i (by omega) ?_
              refine hK 59 [some (vR 111 0), some (vI c), some (vI cl), some (vI 0), some (vI (mn + 1)), some (vI (m + 1)), some (vI 0)] [] T ?_
              refine j_drop [some (vR 111 0), some (vI c), some (vI cl), some (vI 0), some (vI (mn + 1)), some (vI (m + 1)), none] (fun k v hk => ?_) rfl ?_
              · match k, hk with
                | 0, hk => exact hk
                | 1, hk => exact hk
                | 2, hk => exact hk
                | 3, hk => exact hk
                | 4, hk => exact hk
                | 5, hk => exact hk
                | 6, hk => cases hk
                | k + 7, hk => cases hk
              refine ih_59 _ ?_ 0 (mn + 1) (m + 1) (Nat.le_refl _) ?_ ?_ ?_ ?_ ?_
              · have hm_59 := hm_59 (); omega
              · omega
              · omega
              · exact hhe
              · first
                | omega
                | (have hml9 := hML c (by omega) (by omega); omega)
              · have em : (m + 1 - T 210 0 c).toNat = ((m - T 210 0 c) + 1).toNat := by omega
                rw [em]
                have y9 := bk9_u (H := fun m => T 232 0 m) (A := fun m => T 233 0 m) (b := cl) (f := T 210 0 c) (k := m - T 210 0 c) (by omega) (show T 232 0 (T 210 0 c + (m - T 210 0 c)) = cl ∨ T 233 0 (T 210 0 c + (m - T 210 0 c)) = cl by rw [show T 210 0 c + (m - T 210 0 c) = m by omega]; omega) (bs9_y (H := fun m => T 232 0 m) (show T 232 0 (T 210 0 c + (m - T 210 0 c)) = cl by rw [show T 210 0 c + (m - T 210 0 c) = m by omega]; omega))
                omega
        · refine ix_i (by omega) ?_
          intro b10 b10b
          refine And.intro (fun c11 => ?_) (fun c11 => ?_)
          · refine hK 136 _ [] T ?_
            refine j_blx (F := fX11) tb_X11 (nn_ _) bk_X11_breaks_e_136 bs_X11_breaks_e_136 hz (fun K hK => ?_)
            refine rg_i (by omega) ?_
            refine hK 59 [some (vR 111 0), some (vI c), some (vI cl), some (vI la), some (vI mn), some (vI (m + 1)), none] [] T ?_
            refine ih_59 _ ?_ la mn (m + 1) (Nat.le_refl _) ?_ ?_ ?_ ?_ ?_
            · have hm_59 := hm_59 (); omega
            · omega
            · omega
            · exact hhe
            · first
              | omega
              | (have hml9 := hML c (by omega) (by omega); omega)
            · have em : (m + 1 - T 210 0 c).toNat = ((m - T 210 0 c) + 1).toNat := by omega
              rw [em]
              rw [bk9_f (H := fun m => T 232 0 m) (A := fun m => T 233 0 m) (b := cl) (f := T 210 0 c) (k := m - T 210 0 c) (by omega) (show ¬ (T 232 0 (T 210 0 c + (m - T 210 0 c)) = cl ∨ T 233 0 (T 210 0 c + (m - T 210 0 c)) = cl) by rw [show T 210 0 c + (m - T 210 0 c) = m by omega]; omega)]
              exact ib
          · refine ix_i (by omega) ?_
            intro b12 b12b
            refine And.intro (fun c13 => ?_) (fun c13 => ?_)
            · refine hK 114 [some (vR 111 0), some (vI c), some (vI cl), some (vI la), some (vI mn), some (vI m), none] [] T ?_
              refine j_blx (F := fX11) tb_X11 (nn_ _) bk_X11_breaks_e_114 bs_X11_breaks_e_114 hz (fun K hK => ?_)
              refine And.intro (fun c14 => ?_) (fun c14 => ?_)
              · refine hK 129 [some (vR 111 0), some (vI c), some (vI cl), some (vI la), some (vI mn), some (vI m), some (vI 1)] [vI mn] T ?_
                refine j_blx (F := fX11) tb_X11 (nn_ _) bk_X11_breaks_e_129 bs_X11_breaks_e_129 hz (fun K hK => ?_)
                refine rg_i (by omega) ?_
                refine rg_i (by omega) ?_
                refine hK 59 [some (vR 111 0), some (vI c), some (vI cl), some (vI 1), some (vI (mn + 0)), some (vI (m + 1)), some (vI 1)] [] T ?_
                refine j_drop [some (vR 111 0), some (vI c), some (vI cl), some (vI 1), some (vI (mn + 0)), some (vI (m + 1)), none] (fun k v hk => ?_) rfl ?_
                · match k, hk with
                  | 0, hk => exact hk
                  | 1, hk => exact hk
                  | 2, hk => exact hk
                  | 3, hk => exact hk
                  | 4, hk => exact hk
                  | 5, hk => exact hk
                  | 6, hk => cases hk
                  | k + 7, hk => cases hk
                refine ih_59 _ ?_ 1 (mn + 0) (m + 1) (Nat.le_refl _) ?_ ?_ ?_ ?_ ?_
                · have hm_59 := hm_59 (); omega
                · omega
                · omega
                · exact hhe
                · first
                  | omega
                  | (have hml9 := hML c (by omega) (by omega); omega)
                · have em : (m + 1 - T 210 0 c).toNat = ((m - T 210 0 c) + 1).toNat := by omega
                  rw [em]
                  have y9 := bk9_u (H := fun m => T 232 0 m) (A := fun m => T 233 0 m) (b := cl) (f := T 210 0 c) (k := m - T 210 0 c) (by omega) (show T 232 0 (T 210 0 c + (m - T 210 0 c)) = cl ∨ T 233 0 (T 210 0 c + (m - T 210 0 c)) = cl by rw [show T 210 0 c + (m - T 210 0 c) = m by omega]; omega) (bs9_n (H := fun m => T 232 0 m) (show T 232 0 (T 210 0 c + (m - T 210 0 c)) ≠ cl by rw [show T 210 0 c + (m - T 210 0 c) = m by omega]; omega))
                  omega
              · refine hK 130 [some (vR 111 0), some (vI c), some (vI cl), some (vI la), some (vI mn), some (vI m), some (vI 1)] [vI 1, vI mn] T ?_
                refine j_blx (F := fX11) tb_X11 (nn_ _) bk_X11_breaks_e_130 bs_X11_breaks_e_130 hz (fun K hK => ?_)
                refine rg_i (by omega) ?_
                refine rg_i (by omega) ?_
                refine hK 59 [some (vR 111 0), some (vI c), some (vI cl), some (vI 1), some (vI (mn + 1)), some (vI (m + 1)), some (vI 1)] [] T ?_
                refine j_drop [some (vR 111 0), some (vI c), some (vI cl), some (vI 1), some (vI (mn + 1)), some (vI (m + 1)), none] (fun k v hk => ?_) rfl ?_
                · match k, hk with
                  | 0, hk => exact hk
                  | 1, hk => exact hk
                  | 2, hk => exact hk
                  | 3, hk => exact hk
                  | 4, hk => exact hk
                  | 5, hk => exact hk
                  | 6, hk => cases hk
                  | k + 7, hk => cases hk
                refine ih_59 _ ?_ 1 (mn + 1) (m + 1) (Nat.le_refl _) ?_ ?_ ?_ ?_ ?_
                · have hm_59 := hm_59 (); omega
                · omega
                · omega
                · exact hhe
                · first
                  | omega
                  | (have hml9 := hML c (by omega) (by omega); omega)
                · have em : (m + 1 - T 210 0 c).toNat = ((m - T 210 0 c) + 1).toNat := by omega
                  rw [em]
                  have y9 := bk9_u (H := fun m => T 232 0 m) (A := fun m => T 233 0 m) (b := cl) (f := T 210 0 c) (k := m - T 210 0 c) (by omega) (show T 232 0 (T 210 0 c + (m - T 210 0 c)) = cl ∨ T 233 0 (T 210 0 c + (m - T 210 0 c)) = cl by rw [show T 210 0 c + (m - T 210 0 c) = m by omega]; omega) (bs9_n (H := fun m => T 232 0 m) (show T 232 0 (T 210 0 c + (m - T 210 0 c)) ≠ cl by rw [show T 210 0 c + (m - T 210 0 c) = m by omega]; omega))
                  omega
            · refine hK 115 _ [vI 0] T ?_
              refine j_blx (F := fX11) tb_X11 (nn_ _) bk_X11_breaks_e_115 bs_X11_breaks_e_115 hz (fun K hK => ?_)
              refine And.intro (fun c15 => ?_) (fun c15 => ?_)
              · refine hK 129 [some (vR 111 0), some (vI c), some (vI cl), some (vI la), some (vI mn), some (vI m), some (vI 0)] [vI mn] T ?_
                refine j_blx (F := fX11) tb_X11 (nn_ _) bk_X11_breaks_e_129 bs_X11_breaks_e_129 hz (fun K hK => ?_)
                refine rg_i (by omega) ?_
                refine rg_i (by omega) ?_
                refine hK 59 [some (vR 111 0), some (vI c), some (vI cl), some (vI 0), some (vI (mn + 0)), some (vI (m + 1)), some (vI 0)] [] T ?_
                refine j_drop [some (vR 111 0), some (vI c), some (vI cl), some (vI 0), some (vI (mn + 0)), some (vI (m + 1)), none] (fun k v hk => ?_) rfl ?_
                · match k, hk with
                  | 0, hk => exact hk
                  | 1, hk => exact hk
                  | 2, hk => exact hk
                  | 3, hk => exact hk
                  | 4, hk => exact hk
                  | 5, hk => exact hk
                  | 6, hk => cases hk
                  | k + 7, hk => cases hk
                refine ih_59 _ ?_ 0 (mn + 0) (m + 1) (Nat.le_refl _) ?_ ?_ ?_ ?_ ?_
                · have hm_59 := hm_59 (); omega
                · omega
                · omega
                · exact hhe
                · first
                  | omega
                  | (have hml9 := hML c (by omega) (by omega); omega)
                · have em : (m + 1 - T 210 0 c).toNat = ((m - T 210 0 c) + 1).toNat := by omega
                  rw [em]
                  have y9 := bk9_u (H := fun m => T 232 0 m) (A := fun m => T 233 0 m) (b := cl) (f := T 210 0 c) (k := m - T 210 0 c) (by omega) (show T 232 0 (T 210 0 c + (m - T 210 0 c)) = cl ∨ T 233 0 (T 210 0 c + (m - T 210 0 c)) = cl by rw [show T 210 0 c + (m - T 210 0 c) = m by omega]; omega) (bs9_y (H := fun m => T 232 0 m) (show T 232 0 (T 210 0 c + (m - T 210 0 c)) = cl by rw [show T 210 0 c + (m - T 210 0 c) = m by omega]; omega))
                  omega
              · refine hK 130 [some (vR 111 0), some (vI c), some (vI cl), some (vI la), some (vI mn), some (vI m), some (vI 0)] [vI 1, vI mn] T ?_
                refine j_blx (F := fX11) tb_X11 (nn_ _) bk_X11_breaks_e_130 bs_X11_breaks_e_130 hz (fun K hK => ?_)
                refine rg_i (by omega) ?_
                refine rg_i (by omega) ?_
                refine hK 59 [some (vR 111 0), some (vI c), some (vI cl), some (vI 0), some (vI (mn + 1)), some (vI (m + 1)), some (vI 0)] [] T ?_
                refine j_drop [some (vR 111 0), some (vI c), some (vI cl), some (vI 0), some (vI (mn + 1)), some (vI (m + 1)), none] (fun k v hk => ?_) rfl ?_
                · match k, hk with
                  | 0, hk => exact hk
                  | 1, hk => exact hk
                  | 2, hk => exact hk
                  | 3, hk => exact hk
                  | 4, hk => exact hk
                  | 5, hk => exact hk
                  | 6, hk => cases hk
                  | k + 7, hk => cases hk
                refine ih_59 _ ?_ 0 (mn + 1) (m + 1) (Nat.le_refl _) ?_ ?_ ?_ ?_ ?_
                · have hm_59 := hm_59 (); omega
                · omega
                · omega
                · exact hhe
                · first
                  | omega
                  | (have hml9 := hML c (by omega) (by omega); omega)
                · have em : (m + 1 - T 210 0 c).toNat = ((m - T 210 0 c) + 1).toNat := by omega
                  rw [em]
                  have y9 := bk9_u (H := fun m => T 232 0 m) (A := fun m => T 233 0 m) (b := cl) (f := T 210 0 c) (k := m - T 210 0 c) (by omega) (show T 232 0 (T 210 0 c + (m - T 210 0 c)) = cl ∨ T 233 0 (T 210 0 c + (m - T 210 0 c)) = cl by rw [show T 210 0 c + (m - T 210 0 c) = m by omega]; omega) (bs9_y (H := fun m => T 232 0 m) (show T 232 0 (T 210 0 c + (m - T 210 0 c)) = cl by rw [show T 210 0 c + (m - T 210 0 c) = m by omega]; omega))
                  omega
  refine j_blx (F := fX11) tb_X11 (nn_ _) bk_X11_breaks_e_0 bs_X11_breaks_e_0 hz (fun K hK => ?_)
  intro b16 b16b
  refine hK 5 _ [vI (T 111 0 6), vI c] T ?_
  refine j_callS (y := yX11_isOf) (Yc := zX11_isOf) (rest := []) [vI c, vI (T 111 0 6)] (ct_X11_isOf (T := T) (by omega)) cl_X11_317 (qd_c (by decide +kernel)) (nn_ _) rfl (rf_of rfl) (Nat.le_of_ble_eq_true rfl) (Nat.le_of_ble_eq_true rfl) (Nat.le_of_ble_eq_true rfl) rfl ?_
  rintro _ _ ⟨rfl, x17, rfl, hx17⟩
  show J_ zX11_breaks T (po_X11_breaks_e T c cl) 0 0 8 _ [vI x17] T
  refine j_blx (F := fX11) tb_X11 (nn_ _) bk_X11_breaks_e_8 bs_X11_breaks_e_8 hz (fun K hK => ?_)
  refine And.intro (fun c18 => ?_) (fun c18 => ?_)
  · replace hx17 := hx17.resolve_left (fun z => absurd (c18.symm.trans z.1) (by decide))
    clear c18
    refine hK 22 _ [] T ?_
    refine j_blx (F := fX11) tb_X11 (nn_ _) bk_X11_breaks_e_22 bs_X11_breaks_e_22 hz (fun K hK => ?_)
    refine (show po_X11_breaks_e T c cl T (some (vI (-2))) from ?_)
    exact ⟨rfl, _, rfl, Or.inl ⟨rfl, by omega⟩⟩
  · replace hx17 := hx17.resolve_right (fun z => c18 z.1)
    clear c18
    intro b19 b19b
    refine hK 16 _ [vI (T 111 0 12), vI cl] T ?_
    refine j_callS (y := yX11_isOf) (Yc := zX11_isOf) (rest := []) [vI cl, vI (T 111 0 12)] (ct_X11_isOf (T := T) (by omega)) cl_X11_317 (qd_c (by decide +kernel)) (nn_ _) rfl (rf_of rfl) (Nat.le_of_ble_eq_true rfl) (Nat.le_of_ble_eq_true rfl) (Nat.le_of_ble_eq_true rfl) rfl ?_
    rintro _ _ ⟨rfl, x20, rfl, hx20⟩
    show J_ zX11_breaks T (po_X11_breaks_e T c cl) 0 0 19 _ [vI x20] T
    refine j_blx (F := fX11) tb_X11 (nn_ _) bk_X11_breaks_e_19 bs_X11_breaks_e_19 hz (fun K hK => ?_)
    refine And.intro (fun c21 => ?_) (fun c21 => ?_)
    · replace hx20 := hx20.resolve_right (fun z => c21 z.1)
      clear c21
      refine hK 25 _ [] T ?_
      refine j_blx (F := fX11) tb_X11 (nn_ _) bk_X11_breaks_e_25 bs_X11_breaks_e_25 hz (fun K hK => ?_)
      refine ix_i (by omega) ?_
      intro b22 b22b
      refine And.intro (fun c23 => ?_) (fun c23 => ?_)
      · refine hK 43 _ [] T ?_
        refine j_blx (F := fX11) tb_X11 (nn_ _) bk_X11_breaks_e_43 bs_X11_breaks_e_43 hz (fun K hK => ?_)
        refine (show po_X11_breaks_e T c cl T (some (vI (-4))) from ?_)
        exact ⟨rfl, _, rfl, Or.inr ⟨by omega, Or.inl ⟨rfl, Or.inl (by omega)⟩⟩⟩
      · refine hK 37 _ [vI cl, vI c, vR 111 0] T ?_
        refine j_callV (y := yX11_hasEntered) (Yc := zX11_hasEntered) (rest := []) [vI c, vI cl] (ct_X11_hasEntered (T := T) (by omega)) cl_X11_340 (qd_c (by decide +kernel)) (nn_ _) rfl (rf_of rfl) (Nat.le_of_ble_eq_true rfl) (Nat.le_of_ble_eq_true rfl) (Nat.le_of_ble_eq_true rfl) rfl ?_
        rintro _ _ ⟨rfl, x24, rfl, hx24⟩
        show J_ zX11_breaks T (po_X11_breaks_e T c cl) 0 0 40 _ [vI x24] T
        refine j_blx (F := fX11) tb_X11 (nn_ _) bk_X11_breaks_e_40 bs_X11_breaks_e_40 hz (fun K hK => ?_)
        refine And.intro (fun c25 => ?_) (fun c25 => ?_)
        · refine hK 46 _ [] T ?_
          have hb211 : 0 ≤ T 211 0 c ∧ T 211 0 c ≤ 400 := bd_a hT 211 (by decide +kernel : ta_ 211 = some (1, some 4, 0, 400)) 0 (by omega)
          have hb210 : 0 ≤ T 210 0 c ∧ T 210 0 c ≤ 400 := bd_a hT 210 (by decide +kernel : ta_ 210 = some (1, some 4, 0, 400)) 0 (by omega)
          refine j_blx (F := fX11) tb_X11 (nn_ _) bk_X11_breaks_e_46 bs_X11_breaks_e_46 hz (fun K hK => ?_)
          refine ix_i (by omega) ?_
          intro b26 b26b
          refine hK 59 [some (vR 111 0), some (vI c), some (vI cl), some (vI (-1)), some (vI 0), some (vI (T 210 0 c)), none] [] T ?_
          refine c_59 _ (-1) 0 (T 210 0 c) (Nat.le_refl _) ?_ ?_ ?_ ?_ ?_
          · omega
          · omega
          · exact (hx24.resolve_right (fun z => by omega)).2
          · first
            | omega
            | (have hml9 := hML c (by omega) (by omega); omega)
          · rw [show (T 210 0 c - T 210 0 c).toNat = 0 by omega]
            exact ⟨rfl, rfl⟩
        · refine (show po_X11_breaks_e T c cl T (some (vI (-4))) from ?_)
          exact ⟨rfl, _, rfl, Or.inr ⟨by omega, Or.inl ⟨rfl, by first | exact Or.inl (by omega) | exact Or.inr (hx24.resolve_left (fun z => by omega)).2⟩⟩⟩
    · replace hx20 := hx20.resolve_left (fun z => absurd (c21.symm.trans z.1) (by decide))
      clear c21
      refine (show po_X11_breaks_e T c cl T (some (vI (-2))) from ?_)
      exact ⟨rfl, _, rfl, Or.inl ⟨rfl, by omega⟩⟩
-- clubs and officials: one more of two rows
def TG9_ (a : Nat) (sl mx : Int) (k1 k2 : Nat) (T T' : Zt) (s c x : Int) : Prop := (T' = T ∧ ((x = -3 ∧ ¬ (0 ≤ s ∧ s ≤ 11 ∧ 0 ≤ c ∧ c ≤ 7)) ∨ ((0 ≤ s ∧ s ≤ 11 ∧ 0 ≤ c ∧ c ≤ 7) ∧ T a 0 sl = mx ∧ x = -5))) ∨ ((0 ≤ s ∧ s ≤ 11 ∧ 0 ≤ c ∧ c ≤ 7) ∧ T a 0 sl < mx ∧ x = T a 0 sl ∧ T' a 0 sl = T a 0 sl + 1 ∧ SG9_ k1 T T' (T a 0 sl) s ∧ SG9_ k2 T T' (T a 0 sl) c)
theorem tg9_e {a1 a2 : Nat} {s1 s2 mx : Int} {k1 k2 k3 k4 : Nat} {T T1 T2 : Zt} {s c x1 x2 : Int} (h : ∀ j, 0 ≤ j → j < T a1 0 s1 → T k1 0 j = T k3 0 j ∧ T k2 0 j = T k4 0 j) (hn : T a1 0 s1 = T a2 0 s2) (d1 : TG9_ a1 s1 mx k1 k2 T T1 s c x1) (e2 : T1 a2 0 s2 = T a2 0 s2) (e3 : ∀ j, T1 k3 0 j = T k3 0 j) (e4 : ∀ j, T1 k4 0 j = T k4 0 j) (d2 : TG9_ a2 s2 mx k3 k4 T1 T2 s c x2) (g1 : T2 a1 0 s1 = T1 a1 0 s1) (g3 : ∀ j, T2 k1 0 j = T1 k1 0 j) (g4 : ∀ j, T2 k2 0 j = T1 k2 0 j) : x1 = x2 ∧ T2 a1 0 s1 = T2 a2 0 s2 ∧ ∀ j, 0 ≤ j → j < T2 a1 0 s1 → T2 k1 0 j = T2 k3 0 j ∧ T2 k2 0 j = T2 k4 0 j := by
  rcases d1 with ⟨rfl, u⟩ | ⟨u1, u2, u3, u4, u5, u6⟩
  · rcases d2 with ⟨rfl, v⟩ | ⟨v1, v2, v3, v4, v5, v6⟩
    · exact ⟨by omega, hn, h⟩
    · exfalso; omega
  · rcases d2 with ⟨rfl, v⟩ | ⟨v1, v2, v3, v4, v5, v6⟩
    · exfalso; omega
    · refine ⟨by omega, by omega, fun j p q => ?_⟩
      rw [g3, g4]
      rw [e2, ← hn] at v5 v6
      by_cases z : j = T a1 0 s1
      · rw [z, u5.1, u6.1, v5.1, v6.1]
        exact ⟨rfl, rfl⟩
      · rw [u5.2 j z, u6.2 j z, v5.2 j z, v6.2 j z, e3, e4]
        exact h j p (by omega)
/-- counters alike -/
def CNR_ (T : Zt) : Prop := T 108 0 2 = T 111 0 12 ∧ T 108 0 3 = T 111 0 15 ∧ T 108 0 12 = T 111 0 21 ∧ T 108 0 13 = T 111 0 3
/-- stadiums, countries, homes alike -/
def THR_ (T : Zt) : Prop := (∀ j, 0 ≤ j → j < T 108 0 2 → T 560 0 j = T 213 0 j ∧ T 561 0 j = T 214 0 j) ∧ ∀ j, 0 ≤ j → j < T 108 0 12 → T 570 0 j = T 222 0 j ∧ T 571 0 j = T 223 0 j
theorem bk_X10_club_e_0 : ck_ fX10 (some .int) cX10_club 0 [.iload 1, .iconst 12] 3 = true := qck_r (nn_ _) (by decide +kernel)
theorem bs_X10_club_e_0 {P : Zt → Option Zv → Prop} (K : Int → Zl → List Zv → Zt → Prop) : sx_ K P [.iload 1, .iconst 12] 3 = x_iload 1 (x_iconst 12 (K 3)) := ((xe_iload 1).trans (congrArg (x_iload 1) ((xe_iconst 12).trans (congrArg (x_iconst 12) xe_nil))))
theorem bk_X10_club_e_6 : ck_ fX10 (some .int) cX10_club 6 [.ifCond .eq 18, .iload 2, .iconst 8] 12 = true := qck_r (nn_ _) (by decide +kernel)
theorem bs_X10_club_e_6 {P : Zt → Option Zv → Prop} (K : Int → Zl → List Zv → Zt → Prop) : sx_ K P [.ifCond .eq 18, .iload 2, .iconst 8] 12 = x_ifCond .eq 18 K (x_iload 2 (x_iconst 8 (K 12))) := ((xe_ifCond .eq 18).trans (congrArg (x_ifCond .eq 18 K) ((xe_iload 2).trans (congrArg (x_iload 2) ((xe_iconst 8).trans (congrArg (x_iconst 8) xe_nil))))))
theorem bk_X10_club_e_18 : ck_ fX10 (some .int) cX10_club 18 [.iconst (-3), .ireturn] 21 = true := qck_r (nn_ _) (by decide +kernel)
theorem bs_X10_club_e_18 {P : Zt → Option Zv → Prop} (K : Int → Zl → List Zv → Zt → Prop) : sx_ K P [.iconst (-3), .ireturn] 21 = x_iconst (-3) (x_ireturn P) := ((xe_iconst (-3)).trans (congrArg (x_iconst (-3)) (xe_ireturn)))
theorem bk_X10_club_e_15 : ck_ fX10 (some .int) cX10_club 15 [.ifCond .ne 21, .iconst (-3), .ireturn] 21 = true := qck_r (nn_ _) (by decide +kernel)
theorem bs_X10_club_e_15 {P : Zt → Option Zv → Prop} (K : Int → Zl → List Zv → Zt → Prop) : sx_ K P [.ifCond .ne 21, .iconst (-3), .ireturn] 21 = x_ifCond .ne 21 K (x_iconst (-3) (x_ireturn P)) := ((xe_ifCond .ne 21).trans (congrArg (x_ifCond .ne 21 K) ((xe_iconst (-3)).trans (congrArg (x_iconst (-3)) (xe_ireturn)))))
theorem bk_X10_club_e_21 : ck_ fX10 (some .int) cX10_club 21 [.aload 0, .tableswitch 0 10 1 #[], .tableswitch 0 8 2 #[], .iconst 12, .if_icmp .lt 36, .iconst (-5), .ireturn] 36 = true := qck_r (nn_ _) (by decide +kernel)
theorem bs_X10_club_e_21 {P : Zt → Option Zv → Prop} (K : Int → Zl → List Zv → Zt → Prop) : sx_ K P [.aload 0, .tableswitch 0 10 1 #[], .tableswitch 0 8 2 #[], .iconst 12, .if_icmp .lt 36, .iconst (-5), .ireturn] 36 = x_aload 0 (x_g1 110 108 (x_g0 108 2 0 12 (x_iconst 12 (x_if_icmp .lt 36 K (x_iconst (-5) (x_ireturn P)))))) := ((xe_aload 0).trans (congrArg (x_aload 0) ((xe_g1 (kk := 110) rfl tl_10_1).trans (congrArg (x_g1 110 108) ((xe_g0 (kk := 108) rfl tl_8_2).trans (congrArg (x_g0 108 2 0 12) ((xe_iconst 12).trans (congrArg (x_iconst 12) ((xe_if_icmp .lt 36).trans (congrArg (x_if_icmp .lt 36 K) ((xe_iconst (-5)).trans (congrArg (x_iconst (-5)) (xe_ireturn)))))))))))))
theorem bk_X10_club_e_36 : ck_ fX10 (some .int) cX10_club 36 [.aload 0, .tableswitch 0 10 1 #[], .tableswitch 0 8 2 #[], .istore 3, .aload 0, .tableswitch 0 10 1 #[], .tableswitch 0 8 0 #[], .iload 3, .iload 1, .iastore, .aload 0, .tableswitch 0 10 1 #[], .tableswitch 0 8 1 #[], .iload 3, .iload 2, .iastore, .aload 0, .tableswitch 0 10 1 #[], .dup, .tableswitch 0 8 2 #[], .iconst 1, .iadd, .tableswitch 1 8 2 #[], .iload 3, .ireturn] 79 = true := qck_r (nn_ _) (by decide +kernel)
theorem bs_X10_club_e_36 {P : Zt → Option Zv → Prop} (K : Int → Zl → List Zv → Zt → Prop) : sx_ K P [.aload 0, .tableswitch 0 10 1 #[], .tableswitch 0 8 2 #[], .istore 3, .aload 0, .tableswitch 0 10 1 #[], .tableswitch 0 8 0 #[], .iload 3, .iload 1, .iastore, .aload 0, .tableswitch 0 10 1 #[], .tableswitch 0 8 1 #[], .iload 3, .iload 2, .iastore, .aload 0, .tableswitch 0 10 1 #[], .dup, .tableswitch 0 8 2 #[], .iconst 1, .iadd, .tableswitch 1 8 2 #[], .iload 3, .ireturn] 79 = x_aload 0 (x_g1 110 108 (x_g0 108 2 0 12 (x_istore 3 (x_aload 0 (x_g1 110 108 (x_g1 108 560 (x_iload 3 (x_iload 1 (x_iastore (x_aload 0 (x_g1 110 108 (x_g1 108 561 (x_iload 3 (x_iload 2 (x_iastore (x_aload 0 (x_g1 110 108 (x_dup (x_g0 108 2 0 12 (x_iconst 1 (x_iadd (x_p 108 2 0 12 (x_iload 3 (x_ireturn P)))))))))))))))))))))))) := ((xe_aload 0).trans (congrArg (x_aload 0) ((xe_g1 (kk := 110) rfl tl_10_1).trans (congrArg (x_g1 110 108) ((xe_g0 (kk := 108) rfl tl_8_2).trans (congrArg (x_g0 108 2 0 12) ((xe_istore 3).trans (congrArg (x_istore 3) ((xe_aload 0).trans (congrArg (x_aload 0) ((xe_g1 (kk := 110) rfl tl_10_1).trans (congrArg (x_g1 110 108) ((xe_g1 (kk := 108) rfl tl_8_0).trans (congrArg (x_g1 108 560) ((xe_iload 3).trans (congrArg (x_iload 3) ((xe_iload 1).trans (congrArg (x_iload 1) ((xe_iastore).trans (congrArg (x_iastore) ((xe_aload 0).trans (congrArg (x_aload 0) ((xe_g1 (kk := 110) rfl tl_10_1).trans (congrArg (x_g1 110 108) ((xe_g1 (kk := 108) rfl tl_8_1).trans (congrArg (x_g1 108 561) ((xe_iload 3).trans (congrArg (x_iload 3) ((xe_iload 2).trans (congrArg (x_iload 2) ((xe_iastore).trans (congrArg (x_iastore) ((xe_aload 0).trans (congrArg (x_aload 0) ((xe_g1 (kk := 110) rfl tl_10_1).trans (congrArg (x_g1 110 108) ((xe_dup).trans (congrArg (x_dup) ((xe_g0 (kk := 108) rfl tl_8_2).trans (congrArg (x_g0 108 2 0 12) ((xe_iconst 1).trans (congrArg (x_iconst 1) ((xe_iadd).trans (congrArg (x_iadd) ((xe_p (kk := 108) rfl tl_8_2).trans (congrArg (x_p 108 2 0 12) ((xe_iload 3).trans (congrArg (x_iload 3) (xe_ireturn)))))))))))))))))))))))))))))))))))))))))))))))))
abbrev po_X10_club_e (T : Zt) (s c : Int) : Zt → Option Zv → Prop := fun T' r => ∃ x : Int, r = some (vI x) ∧ fr_ [(108, [2]), (560, []), (561, [])] T T' ∧ (((x = -3 ∧ ¬ (0 ≤ s ∧ s ≤ 11 ∧ 0 ≤ c ∧ c ≤ 7) ∧ T' 108 0 2 = T 108 0 2) ∨ ((0 ≤ s ∧ s ≤ 11 ∧ 0 ≤ c ∧ c ≤ 7) ∧ T 108 0 2 = 12 ∧ x = -5 ∧ T' 108 0 2 = T 108 0 2) ∨ ((0 ≤ s ∧ s ≤ 11 ∧ 0 ≤ c ∧ c ≤ 7) ∧ T 108 0 2 < 12 ∧ x = T 108 0 2 ∧ T' 108 0 2 = T 108 0 2 + 1)) ∧ TG9_ 108 2 12 560 561 T T' s c x)
set_option maxHeartbeats 4000000 in
theorem ct_X10_club_e {T : Zt} {s c : Int} : Ct_ yX10_club zX10_club T [vR 110 0, vI s, vI c] (po_X10_club_e T s c) := by
  refine ct_of pn_10 rfl rfl (Nat.le_of_ble_eq_true rfl) (fun hT hav => ?_)
  have hr_s : -2147483648 ≤ s ∧ s ≤ 2147483647 := hav (vI s) (List.mem_cons_of_mem _ List.mem_cons_self)
  have hr_c : -2147483648 ≤ c ∧ c ≤ 2147483647 := hav (vI c) (List.mem_cons_of_mem _ (List.mem_cons_of_mem _ List.mem_cons_self))
  have hz : zX10_club.2.2.2.1 = some .boolean → ∀ (T' : Zt) (x : Int), po_X10_club_e T s c T' (some (vI x)) → 0 ≤ x ∧ x ≤ 1 := fun h => by cases h
  have hb_2 : 0 ≤ T 108 0 2 ∧ T 108 0 2 ≤ 12 := bd_f hT 108 2 tl_8_2 0
  show J_ zX10_club T (po_X10_club_e T s c) 0 0 0 [some (vR 110 0), some (vI s), some (vI c), none] [] T
  refine j_blx (F := fX10) tb_X10 (nn_ _) bk_X10_club_e_0 bs_X10_club_e_0 hz (fun K hK => ?_)
  refine hK 3 _ [vI 12, vI s] T ?_
  refine j_callS (y := yX10_isBelow) (Yc := zX10_isBelow) (rest := []) [vI s, vI 12] (ct_X10_isBelow (T := T)) cl_X10_115 (qd_c (by decide +kernel)) (nn_ _) rfl (rf_of rfl) (Nat.le_of_ble_eq_true rfl) (Nat.le_of_ble_eq_true rfl) (Nat.le_of_ble_eq_true rfl) rfl ?_
  rintro _ _ ⟨rfl, x1, rfl, hx1⟩
  show J_ zX10_club T (po_X10_club_e T s c) 0 0 6 _ [vI x1] T
  refine j_blx (F := fX10) tb_X10 (nn_ _) bk_X10_club_e_6 bs_X10_club_e_6 hz (fun K hK => ?_)
  refine And.intro (fun c2 => ?_) (fun c2 => ?_)
  · replace hx1 := hx1.resolve_left (fun z => absurd (c2.symm.trans z.1) (by decide))
    clear c2
    refine hK 18 _ [] T ?_
    refine j_blx (F := fX10) tb_X10 (nn_ _) bk_X10_club_e_18 bs_X10_club_e_18 hz (fun K hK => ?_)
    refine (show po_X10_club_e T s c T (some (vI (-3))) from ?_)
    exact ⟨_, rfl, fr_0 _ _, by omega, Or.inl ⟨rfl, Or.inl ⟨rfl, by omega⟩⟩⟩
  · replace hx1 := hx1.resolve_right (fun z => c2 z.1)
    clear c2
    refine hK 12 _ [vI 8, vI c] T ?_
    refine j_callS (y := yX10_isBelow) (Yc := zX10_isBelow) (rest := []) [vI c, vI 8] (ct_X10_isBelow (T := T)) cl_X10_115 (qd_c (by decide +kernel)) (nn_ _) rfl (rf_of rfl) (Nat.le_of_ble_eq_true rfl) (Nat.le_of_ble_eq_true rfl) (Nat.le_of_ble_eq_true rfl) rfl ?_
    rintro _ _ ⟨rfl, x3, rfl, hx3⟩
    show J_ zX10_club T (po_X10_club_e T s c) 0 0 15 _ [vI x3] T
    refine j_blx (F := fX10) tb_X10 (nn_ _) bk_X10_club_e_15 bs_X10_club_e_15 hz (fun K hK => ?_)
    refine And.intro (fun c4 => ?_) (fun c4 => ?_)
    · replace hx3 := hx3.resolve_right (fun z => c4 z.1)
      clear c4
      refine hK 21 _ [] T ?_
      refine j_blx (F := fX10) tb_X10 (nn_ _) bk_X10_club_e_21 bs_X10_club_e_21 hz (fun K hK => ?_)
      intro b5 b5b
      refine And.intro (fun c6 => ?_) (fun c6 => ?_)
      · refine hK 36 _ [] T ?_
        refine j_blx (F := fX10) tb_X10 (nn_ _) bk_X10_club_e_36 bs_X10_club_e_36 hz (fun K hK => ?_)
        intro b7 b7b
        refine iy_i (by omega) (by omega) ?_
        refine x_nm (fun U8 hU8 => ?_)
        have e9 := up_f hU8
        refine iy_i (by omega) (by omega) ?_
        refine x_nm (fun U10 hU10 => ?_)
        have e11 := up_f hU10
        intro b12 b12b
        have e13 : U10 108 0 2 = T 108 0 2 := (up_k hU10 (by exact Nat.ne_of_beq_eq_false rfl) 0 2).trans (up_k hU8 (by exact Nat.ne_of_beq_eq_false rfl) 0 2)
        rw [e13] at b12 b12b ⊢
        refine rg_i (by omega) ?_
        refine bd_i (by omega) ?_
        refine x_nm (fun U14 hU14 => ?_)
        have e15 := up_f hU14
        refine (show po_X10_club_e T s c U14 (some (vI (T 108 0 2))) from ?_)
        have e16 : U14 108 0 2 = (T 108 0 2) + 1 := up_f hU14
        have e17 : U14 108 0 2 = (T 108 0 2) + 1 := up_f hU14
        exact ⟨_, rfl, fr_u (fr_u (fr_u (fr_0 _ _) hU8 rfl) hU10 rfl) hU14 rfl, by omega, Or.inr ⟨by omega, by omega, by omega, by omega, ⟨(up_k hU14 (by exact Nat.ne_of_beq_eq_false rfl) 0 _).trans ((up_k hU10 (by exact Nat.ne_of_beq_eq_false rfl) 0 _).trans (up_f hU8)), fun j hj => (up_k hU14 (by exact Nat.ne_of_beq_eq_false rfl) 0 j).trans ((up_k hU10 (by exact Nat.ne_of_beq_eq_false rfl) 0 j).trans (up_g hU8 (fun z => hj z.2.2)))⟩, ⟨(up_k hU14 (by exact Nat.ne_of_beq_eq_false rfl) 0 _).trans (up_f hU10), fun j hj => (up_k hU14 (by exact Nat.ne_of_beq_eq_false rfl) 0 j).trans ((up_g hU10 (fun z => hj z.2.2)).trans (up_k hU8 (by exact Nat.ne_of_beq_eq_false rfl) 0 j))⟩⟩⟩
      · refine (show po_X10_club_e T s c T (some (vI (-5))) from ?_)
        exact ⟨_, rfl, fr_0 _ _, by omega, Or.inl ⟨rfl, Or.inr ⟨by omega, by omega, rfl⟩⟩⟩
    · replace hx3 := hx3.resolve_left (fun z => absurd (c4.symm.trans z.1) (by decide))
      clear c4
      refine (show po_X10_club_e T s c T (some (vI (-3))) from ?_)
      exact ⟨_, rfl, fr_0 _ _, by omega, Or.inl ⟨rfl, Or.inl ⟨rfl, by omega⟩⟩⟩
theorem bk_X11_club_e_0 : ck_ fX11 (some .int) cX11_club 0 [.iload 1, .iconst 0, .iconst 11] 4 = true := qck_r (nn_ _) (by decide +kernel)
theorem bs_X11_club_e_0 {P : Zt → Option Zv → Prop} (K : Int → Zl → List Zv → Zt → Prop) : sx_ K P [.iload 1, .iconst 0, .iconst 11] 4 = x_iload 1 (x_iconst 0 (x_iconst 11 (K 4))) := ((xe_iload 1).trans (congrArg (x_iload 1) ((xe_iconst 0).trans (congrArg (x_iconst 0) ((xe_iconst 11).trans (congrArg (x_iconst 11) xe_nil))))))
theorem bk_X11_club_e_7 : ck_ fX11 (some .int) cX11_club 7 [.ifCond .eq 20, .iload 2, .iconst 0, .iconst 7] 14 = true := qck_r (nn_ _) (by decide +kernel)
theorem bs_X11_club_e_7 {P : Zt → Option Zv → Prop} (K : Int → Zl → List Zv → Zt → Prop) : sx_ K P [.ifCond .eq 20, .iload 2, .iconst 0, .iconst 7] 14 = x_ifCond .eq 20 K (x_iload 2 (x_iconst 0 (x_iconst 7 (K 14)))) := ((xe_ifCond .eq 20).trans (congrArg (x_ifCond .eq 20 K) ((xe_iload 2).trans (congrArg (x_iload 2) ((xe_iconst 0).trans (congrArg (x_iconst 0) ((xe_iconst 7).trans (congrArg (x_iconst 7) xe_nil))))))))
theorem bk_X11_club_e_20 : ck_ fX11 (some .int) cX11_club 20 [.iconst (-3), .ireturn] 23 = true := qck_r (nn_ _) (by decide +kernel)
theorem bs_X11_club_e_20 {P : Zt → Option Zv → Prop} (K : Int → Zl → List Zv → Zt → Prop) : sx_ K P [.iconst (-3), .ireturn] 23 = x_iconst (-3) (x_ireturn P) := ((xe_iconst (-3)).trans (congrArg (x_iconst (-3)) (xe_ireturn)))
theorem bk_X11_club_e_17 : ck_ fX11 (some .int) cX11_club 17 [.ifCond .ne 23, .iconst (-3), .ireturn] 23 = true := qck_r (nn_ _) (by decide +kernel)
theorem bs_X11_club_e_17 {P : Zt → Option Zv → Prop} (K : Int → Zl → List Zv → Zt → Prop) : sx_ K P [.ifCond .ne 23, .iconst (-3), .ireturn] 23 = x_ifCond .ne 23 K (x_iconst (-3) (x_ireturn P)) := ((xe_ifCond .ne 23).trans (congrArg (x_ifCond .ne 23 K) ((xe_iconst (-3)).trans (congrArg (x_iconst (-3)) (xe_ireturn)))))
theorem bk_X11_club_e_23 : ck_ fX11 (some .int) cX11_club 23 [.aload 0, .tableswitch 0 11 12 #[], .iconst 12, .if_icmp .ne 35, .iconst (-5), .ireturn] 35 = true := qck_r (nn_ _) (by decide +kernel)
theorem bs_X11_club_e_23 {P : Zt → Option Zv → Prop} (K : Int → Zl → List Zv → Zt → Prop) : sx_ K P [.aload 0, .tableswitch 0 11 12 #[], .iconst 12, .if_icmp .ne 35, .iconst (-5), .ireturn] 35 = x_aload 0 (x_g0 111 12 0 12 (x_iconst 12 (x_if_icmp .ne 35 K (x_iconst (-5) (x_ireturn P))))) := ((xe_aload 0).trans (congrArg (x_aload 0) ((xe_g0 (kk := 111) rfl tl_11_12).trans (congrArg (x_g0 111 12 0 12) ((xe_iconst 12).trans (congrArg (x_iconst 12) ((xe_if_icmp .ne 35).trans (congrArg (x_if_icmp .ne 35 K) ((xe_iconst (-5)).trans (congrArg (x_iconst (-5)) (xe_ireturn)))))))))))
theorem bk_X11_club_e_35 : ck_ fX11 (some .int) cX11_club 35 [.aload 0, .tableswitch 0 11 13 #[], .aload 0, .tableswitch 0 11 12 #[], .iload 1, .iastore, .aload 0, .tableswitch 0 11 14 #[], .aload 0, .tableswitch 0 11 12 #[], .iload 2, .iastore, .aload 0, .dup, .tableswitch 0 11 12 #[], .iconst 1, .iadd, .tableswitch 1 11 12 #[], .aload 0, .tableswitch 0 11 12 #[], .iconst 1, .isub, .ireturn] 72 = true := qck_r (nn_ _) (by decide +kernel)
theorem bs_X11_club_e_35 {P : Zt → Option Zv → Prop} (K : Int → Zl → List Zv → Zt → Prop) : sx_ K P [.aload 0, .tableswitch 0 11 13 #[], .aload 0, .tableswitch 0 11 12 #[], .iload 1, .iastore, .aload 0, .tableswitch 0 11 14 #[], .aload 0, .tableswitch 0 11 12 #[], .iload 2, .iastore, .aload 0, .dup, .tableswitch 0 11 12 #[], .iconst 1, .iadd, .tableswitch 1 11 12 #[], .aload 0, .tableswitch 0 11 12 #[], .iconst 1, .isub, .ireturn] 72 = x_aload 0 (x_g1 111 213 (x_aload 0 (x_g0 111 12 0 12 (x_iload 1 (x_iastore (x_aload 0 (x_g1 111 214 (x_aload 0 (x_g0 111 12 0 12 (x_iload 2 (x_iastore (x_aload 0 (x_dup (x_g0 111 12 0 12 (x_iconst 1 (x_iadd (x_p 111 12 0 12 (x_aload 0 (x_g0 111 12 0 12 (x_iconst 1 (x_isub (x_ireturn P)))))))))))))))))))))) := ((xe_aload 0).trans (congrArg (x_aload 0) ((xe_g1 (kk := 111) rfl tl_11_13).trans (congrArg (x_g1 111 213) ((xe_aload 0).trans (congrArg (x_aload 0) ((xe_g0 (kk := 111) rfl tl_11_12).trans (congrArg (x_g0 111 12 0 12) ((xe_iload 1).trans (congrArg (x_iload 1) ((xe_iastore).trans (congrArg (x_iastore) ((xe_aload 0).trans (congrArg (x_aload 0) ((xe_g1 (kk := 111) rfl tl_11_14).trans (congrArg (x_g1 111 214) ((xe_aload 0).trans (congrArg (x_aload 0) ((xe_g0 (kk := 111) rfl tl_11_12).trans (congrArg (x_g0 111 12 0 12) ((xe_iload 2).trans (congrArg (x_iload 2) ((xe_iastore).trans (congrArg (x_iastore) ((xe_aload 0).trans (congrArg (x_aload 0) ((xe_dup).trans (congrArg (x_dup) ((xe_g0 (kk := 111) rfl tl_11_12).trans (congrArg (x_g0 111 12 0 12) ((xe_iconst 1).trans (congrArg (x_iconst 1) ((xe_iadd).trans (congrArg (x_iadd) ((xe_p (kk := 111) rfl tl_11_12).trans (congrArg (x_p 111 12 0 12) ((xe_aload 0).trans (congrArg (x_aload 0) ((xe_g0 (kk := 111) rfl tl_11_12).trans (congrArg (x_g0 111 12 0 12) ((xe_iconst 1).trans (congrArg (x_iconst 1) ((xe_isub).trans (congrArg (x_isub) (xe_ireturn)))))))))))))))))))))))))))))))))))))))))))))
abbrev po_X11_club_e (T : Zt) (s c : Int) : Zt → Option Zv → Prop := fun T' r => ∃ x : Int, r = some (vI x) ∧ fr_ [(111, [12]), (213, []), (214, [])] T T' ∧ (((x = -3 ∧ ¬ (0 ≤ s ∧ s ≤ 11 ∧ 0 ≤ c ∧ c ≤ 7) ∧ T' 111 0 12 = T 111 0 12) ∨ ((0 ≤ s ∧ s ≤ 11 ∧ 0 ≤ c ∧ c ≤ 7) ∧ T 111 0 12 = 12 ∧ x = -5 ∧ T' 111 0 12 = T 111 0 12) ∨ ((0 ≤ s ∧ s ≤ 11 ∧ 0 ≤ c ∧ c ≤ 7) ∧ T 111 0 12 < 12 ∧ x = T 111 0 12 ∧ T' 111 0 12 = T 111 0 12 + 1)) ∧ TG9_ 111 12 12 213 214 T T' s c x)
set_option maxHeartbeats 4000000 in
theorem ct_X11_club_e {T : Zt} {s c : Int} : Ct_ yX11_club zX11_club T [vR 111 0, vI s, vI c] (po_X11_club_e T s c) := by
  refine ct_of pn_11 rfl rfl (Nat.le_of_ble_eq_true rfl) (fun hT hav => ?_)
  have hr_s : -2147483648 ≤ s ∧ s ≤ 2147483647 := hav (vI s) (List.mem_cons_of_mem _ List.mem_cons_self)
  have hr_c : -2147483648 ≤ c ∧ c ≤ 2147483647 := hav (vI c) (List.mem_cons_of_mem _ (List.mem_cons_of_mem _ List.mem_cons_self))
  have hz : zX11_club.2.2.2.1 = some .boolean → ∀ (T' : Zt) (x : Int), po_X11_club_e T s c T' (some (vI x)) → 0 ≤ x ∧ x ≤ 1 := fun h => by cases h
  have hb_12 : 0 ≤ T 111 0 12 ∧ T 111 0 12 ≤ 12 := bd_f hT 111 12 tl_11_12 0
  show J_ zX11_club T (po_X11_club_e T s c) 0 0 0 [some (vR 111 0), some (vI s), some (vI c)] [] T
  refine j_blx (F := fX11) tb_X11 (nn_ _) bk_X11_club_e_0 bs_X11_club_e_0 hz (fun K hK => ?_)
  refine hK 4 _ [vI 11, vI 0, vI s] T ?_
  refine j_callS (y := yX11_in) (Yc := zX11_in) (rest := []) [vI s, vI 0, vI 11] (ct_X11_in (T := T)) cl_X11_255 (qd_c (by decide +kernel)) (nn_ _) rfl (rf_of rfl) (Nat.le_of_ble_eq_true rfl) (Nat.le_of_ble_eq_true rfl) (Nat.le_of_ble_eq_true rfl) rfl ?_
  rintro _ _ ⟨rfl, x1, rfl, hx1⟩
  show J_ zX11_club T (po_X11_club_e T s c) 0 0 7 _ [vI x1] T
  refine j_blx (F := fX11) tb_X11 (nn_ _) bk_X11_club_e_7 bs_X11_club_e_7 hz (fun K hK => ?_)
  refine And.intro (fun c2 => ?_) (fun c2 => ?_)
  · replace hx1 := hx1.resolve_left (fun z => absurd (c2.symm.trans z.1) (by decide))
    clear c2
    refine hK 20 _ [] T ?_
    refine j_blx (F := fX11) tb_X11 (nn_ _) bk_X11_club_e_20 bs_X11_club_e_20 hz (fun K hK => ?_)
    refine (show po_X11_club_e T s c T (some (vI (-3))) from ?_)
    exact ⟨_, rfl, fr_0 _ _, by omega, Or.inl ⟨rfl, Or.inl ⟨rfl, by omega⟩⟩⟩
  · replace hx1 := hx1.resolve_right (fun z => c2 z.1)
    clear c2
    refine hK 14 _ [vI 7, vI 0, vI c] T ?_
    refine j_callS (y := yX11_in) (Yc := zX11_in) (rest := []) [vI c, vI 0, vI 7] (ct_X11_in (T := T)) cl_X11_255 (qd_c (by decide +kernel)) (nn_ _) rfl (rf_of rfl) (Nat.le_of_ble_eq_true rfl) (Nat.le_of_ble_eq_true rfl) (Nat.le_of_ble_eq_true rfl) rfl ?_
    rintro _ _ ⟨rfl, x3, rfl, hx3⟩
    show J_ zX11_club T (po_X11_club_e T s c) 0 0 17 _ [vI x3] T
    refine j_blx (F := fX11) tb_X11 (nn_ _) bk_X11_club_e_17 bs_X11_club_e_17 hz (fun K hK => ?_)
    refine And.intro (fun c4 => ?_) (fun c4 => ?_)
    · replace hx3 := hx3.resolve_right (fun z => c4 z.1)
      clear c4
      refine hK 23 _ [] T ?_
      refine j_blx (F := fX11) tb_X11 (nn_ _) bk_X11_club_e_23 bs_X11_club_e_23 hz (fun K hK => ?_)
      intro b5 b5b
      refine And.intro (fun c6 => ?_) (fun c6 => ?_)
      · refine hK 35 _ [] T ?_
        refine j_blx (F := fX11) tb_X11 (nn_ _) bk_X11_club_e_35 bs_X11_club_e_35 hz (fun K hK => ?_)
        intro b7 b7b
        refine iy_i (by omega) (by omega) ?_
        refine x_nm (fun U8 hU8 => ?_)
        have e9 := up_f hU8
        intro b10 b10b
        have e11 : U8 111 0 12 = T 111 0 12 := up_k hU8 (by exact Nat.ne_of_beq_eq_false rfl) 0 12
        rw [e11] at b10 b10b ⊢
        refine iy_i (by omega) (by omega) ?_
        refine x_nm (fun U12 hU12 => ?_)
        have e13 := up_f hU12
        intro b14 b14b
        have e15 : U12 111 0 12 = T 111 0 12 := (up_k hU12 (by exact Nat.ne_of_beq_eq_false rfl) 0 12).trans (up_k hU8 (by exact Nat.ne_of_beq_eq_false rfl) 0 12)
        rw [e15] at b14 b14b ⊢
        refine rg_i (by omega) ?_
        refine bd_i (by omega) ?_
        refine x_nm (fun U16 hU16 => ?_)
        have e17 := up_f hU16
        intro b18 b18b
        have e19 : U16 111 0 12 = (T 111 0 12) + 1 := up_f hU16
        rw [e19] at b18 b18b ⊢
        refine rg_i (by omega) ?_
        refine (show po_X11_club_e T s c U16 (some (vI (((T 111 0 12) + 1) - 1))) from ?_)
        have e20 : U16 111 0 12 = (T 111 0 12) + 1 := up_f hU16
        have e21 : U16 111 0 12 = (T 111 0 12) + 1 := up_f hU16
        exact ⟨_, rfl, fr_u (fr_u (fr_u (fr_0 _ _) hU8 rfl) hU12 rfl) hU16 rfl, by omega, Or.inr ⟨by omega, by omega, by omega, by omega, ⟨(up_k hU16 (by exact Nat.ne_of_beq_eq_false rfl) 0 _).trans ((up_k hU12 (by exact Nat.ne_of_beq_eq_false rfl) 0 _).trans (up_f hU8)), fun j hj => (up_k hU16 (by exact Nat.ne_of_beq_eq_false rfl) 0 j).trans ((up_k hU12 (by exact Nat.ne_of_beq_eq_false rfl) 0 j).trans (up_g hU8 (fun z => hj z.2.2)))⟩, ⟨(up_k hU16 (by exact Nat.ne_of_beq_eq_false rfl) 0 _).trans (up_f hU12), fun j hj => (up_k hU16 (by exact Nat.ne_of_beq_eq_false rfl) 0 j).trans ((up_g hU12 (fun z => hj z.2.2)).trans (up_k hU8 (by exact Nat.ne_of_beq_eq_false rfl) 0 j))⟩⟩⟩
      · refine (show po_X11_club_e T s c T (some (vI (-5))) from ?_)
        exact ⟨_, rfl, fr_0 _ _, by omega, Or.inl ⟨rfl, Or.inr ⟨by omega, by omega, rfl⟩⟩⟩
    · replace hx3 := hx3.resolve_left (fun z => absurd (c4.symm.trans z.1) (by decide))
      clear c4
      refine (show po_X11_club_e T s c T (some (vI (-3))) from ?_)
      exact ⟨_, rfl, fr_0 _ _, by omega, Or.inl ⟨rfl, Or.inl ⟨rfl, by omega⟩⟩⟩
theorem bk_X10_official_e_0 : ck_ fX10 (some .int) cX10_official 0 [.iload 1, .iconst 12] 3 = true := qck_r (nn_ _) (by decide +kernel)
theorem bs_X10_official_e_0 {P : Zt → Option Zv → Prop} (K : Int → Zl → List Zv → Zt → Prop) : sx_ K P [.iload 1, .iconst 12] 3 = x_iload 1 (x_iconst 12 (K 3)) := ((xe_iload 1).trans (congrArg (x_iload 1) ((xe_iconst 12).trans (congrArg (x_iconst 12) xe_nil))))
theorem bk_X10_official_e_6 : ck_ fX10 (some .int) cX10_official 6 [.ifCond .eq 18, .iload 2, .iconst 8] 12 = true := qck_r (nn_ _) (by decide +kernel)
theorem bs_X10_official_e_6 {P : Zt → Option Zv → Prop} (K : Int → Zl → List Zv → Zt → Prop) : sx_ K P [.ifCond .eq 18, .iload 2, .iconst 8] 12 = x_ifCond .eq 18 K (x_iload 2 (x_iconst 8 (K 12))) := ((xe_ifCond .eq 18).trans (congrArg (x_ifCond .eq 18 K) ((xe_iload 2).trans (congrArg (x_iload 2) ((xe_iconst 8).trans (congrArg (x_iconst 8) xe_nil))))))
theorem bk_X10_official_e_18 : ck_ fX10 (some .int) cX10_official 18 [.iconst (-3), .ireturn] 21 = true := qck_r (nn_ _) (by decide +kernel)
theorem bs_X10_official_e_18 {P : Zt → Option Zv → Prop} (K : Int → Zl → List Zv → Zt → Prop) : sx_ K P [.iconst (-3), .ireturn] 21 = x_iconst (-3) (x_ireturn P) := ((xe_iconst (-3)).trans (congrArg (x_iconst (-3)) (xe_ireturn)))
theorem bk_X10_official_e_15 : ck_ fX10 (some .int) cX10_official 15 [.ifCond .ne 21, .iconst (-3), .ireturn] 21 = true := qck_r (nn_ _) (by decide +kernel)
theorem bs_X10_official_e_15 {P : Zt → Option Zv → Prop} (K : Int → Zl → List Zv → Zt → Prop) : sx_ K P [.ifCond .ne 21, .iconst (-3), .ireturn] 21 = x_ifCond .ne 21 K (x_iconst (-3) (x_ireturn P)) := ((xe_ifCond .ne 21).trans (congrArg (x_ifCond .ne 21 K) ((xe_iconst (-3)).trans (congrArg (x_iconst (-3)) (xe_ireturn)))))
theorem bk_X10_official_e_21 : ck_ fX10 (some .int) cX10_official 21 [.aload 0, .tableswitch 0 10 1 #[], .tableswitch 0 8 12 #[], .iconst 8, .if_icmp .lt 36, .iconst (-5), .ireturn] 36 = true := qck_r (nn_ _) (by decide +kernel)
theorem bs_X10_official_e_21 {P : Zt → Option Zv → Prop} (K : Int → Zl → List Zv → Zt → Prop) : sx_ K P [.aload 0, .tableswitch 0 10 1 #[], .tableswitch 0 8 12 #[], .iconst 8, .if_icmp .lt 36, .iconst (-5), .ireturn] 36 = x_aload 0 (x_g1 110 108 (x_g0 108 12 0 8 (x_iconst 8 (x_if_icmp .lt 36 K (x_iconst (-5) (x_ireturn P)))))) := ((xe_aload 0).trans (congrArg (x_aload 0) ((xe_g1 (kk := 110) rfl tl_10_1).trans (congrArg (x_g1 110 108) ((xe_g0 (kk := 108) rfl tl_8_12).trans (congrArg (x_g0 108 12 0 8) ((xe_iconst 8).trans (congrArg (x_iconst 8) ((xe_if_icmp .lt 36).trans (congrArg (x_if_icmp .lt 36 K) ((xe_iconst (-5)).trans (congrArg (x_iconst (-5)) (xe_ireturn)))))))))))))
theorem bk_X10_official_e_36 : ck_ fX10 (some .int) cX10_official 36 [.aload 0, .tableswitch 0 10 1 #[], .tableswitch 0 8 12 #[], .istore 3, .aload 0, .tableswitch 0 10 1 #[], .tableswitch 0 8 10 #[], .iload 3, .iload 1, .iastore, .aload 0, .tableswitch 0 10 1 #[], .tableswitch 0 8 11 #[], .iload 3, .iload 2, .iastore, .aload 0, .tableswitch 0 10 1 #[], .dup, .tableswitch 0 8 12 #[], .iconst 1, .iadd, .tableswitch 1 8 12 #[], .iload 3, .ireturn] 79 = true := qck_r (nn_ _) (by decide +kernel)
theorem bs_X10_official_e_36 {P : Zt → Option Zv → Prop} (K : Int → Zl → List Zv → Zt → Prop) : sx_ K P [.aload 0, .tableswitch 0 10 1 #[], .tableswitch 0 8 12 #[], .istore 3, .aload 0, .tableswitch 0 10 1 #[], .tableswitch 0 8 10 #[], .iload 3, .iload 1, .iastore, .aload 0, .tableswitch 0 10 1 #[], .tableswitch 0 8 11 #[], .iload 3, .iload 2, .iastore, .aload 0, .tableswitch 0 10 1 #[], .dup, .tableswitch 0 8 12 #[], .iconst 1, .iadd, .tableswitch 1 8 12 #[], .iload 3, .ireturn] 79 = x_aload 0 (x_g1 110 108 (x_g0 108 12 0 8 (x_istore 3 (x_aload 0 (x_g1 110 108 (x_g1 108 570 (x_iload 3 (x_iload 1 (x_iastore (x_aload 0 (x_g1 110 108 (x_g1 108 571 (x_iload 3 (x_iload 2 (x_iastore (x_aload 0 (x_g1 110 108 (x_dup (x_g0 108 12 0 8 (x_iconst 1 (x_iadd (x_p 108 12 0 8 (x_iload 3 (x_ireturn P)))))))))))))))))))))))) := ((xe_aload 0).trans (congrArg (x_aload 0) ((xe_g1 (kk := 110) rfl tl_10_1).trans (congrArg (x_g1 110 108) ((xe_g0 (kk := 108) rfl tl_8_12).trans (congrArg (x_g0 108 12 0 8) ((xe_istore 3).trans (congrArg (x_istore 3) ((xe_aload 0).trans (congrArg (x_aload 0) ((xe_g1 (kk := 110) rfl tl_10_1).trans (congrArg (x_g1 110 108) ((xe_g1 (kk := 108) rfl tl_8_10).trans (congrArg (x_g1 108 570) ((xe_iload 3).trans (congrArg (x_iload 3) ((xe_iload 1).trans (congrArg (x_iload 1) ((xe_iastore).trans (congrArg (x_iastore) ((xe_aload 0).trans (congrArg (x_aload 0) ((xe_g1 (kk := 110) rfl tl_10_1).trans (congrArg (x_g1 110 108) ((xe_g1 (kk := 108) rfl tl_8_11).trans (congrArg (x_g1 108 571) ((xe_iload 3).trans (congrArg (x_iload 3) ((xe_iload 2).trans (congrArg (x_iload 2) ((xe_iastore).trans (congrArg (x_iastore) ((xe_aload 0).trans (congrArg (x_aload 0) ((xe_g1 (kk := 110) rfl tl_10_1).trans (congrArg (x_g1 110 108) ((xe_dup).trans (congrArg (x_dup) ((xe_g0 (kk := 108) rfl tl_8_12).trans (congrArg (x_g0 108 12 0 8) ((xe_iconst 1).trans (congrArg (x_iconst 1) ((xe_iadd).trans (congrArg (x_iadd) ((xe_p (kk := 108) rfl tl_8_12).trans (congrArg (x_p 108 12 0 8) ((xe_iload 3).trans (congrArg (x_iload 3) (xe_ireturn)))))))))))))))))))))))))))))))))))))))))))))))))
abbrev po_X10_official_e (T : Zt) (s c : Int) : Zt → Option Zv → Prop := fun T' r => ∃ x : Int, r = some (vI x) ∧ fr_ [(108, [12]), (570, []), (571, [])] T T' ∧ (((x = -3 ∧ ¬ (0 ≤ s ∧ s ≤ 11 ∧ 0 ≤ c ∧ c ≤ 7) ∧ T' 108 0 12 = T 108 0 12) ∨ ((0 ≤ s ∧ s ≤ 11 ∧ 0 ≤ c ∧ c ≤ 7) ∧ T 108 0 12 = 8 ∧ x = -5 ∧ T' 108 0 12 = T 108 0 12) ∨ ((0 ≤ s ∧ s ≤ 11 ∧ 0 ≤ c ∧ c ≤ 7) ∧ T 108 0 12 < 8 ∧ x = T 108 0 12 ∧ T' 108 0 12 = T 108 0 12 + 1)) ∧ TG9_ 108 12 8 570 571 T T' s c x)
set_option maxHeartbeats 4000000 in
theorem ct_X10_official_e {T : Zt} {s c : Int} : Ct_ yX10_official zX10_official T [vR 110 0, vI s, vI c] (po_X10_official_e T s c) := by
  refine ct_of pn_10 rfl rfl (Nat.le_of_ble_eq_true rfl) (fun hT hav => ?_)
  have hr_s : -2147483648 ≤ s ∧ s ≤ 2147483647 := hav (vI s) (List.mem_cons_of_mem _ List.mem_cons_self)
  have hr_c : -2147483648 ≤ c ∧ c ≤ 2147483647 := hav (vI c) (List.mem_cons_of_mem _ (List.mem_cons_of_mem _ List.mem_cons_self))
  have hz : zX10_official.2.2.2.1 = some .boolean → ∀ (T' : Zt) (x : Int), po_X10_official_e T s c T' (some (vI x)) → 0 ≤ x ∧ x ≤ 1 := fun h => by cases h
  have hb_12 : 0 ≤ T 108 0 12 ∧ T 108 0 12 ≤ 8 := bd_f hT 108 12 tl_8_12 0
  show J_ zX10_official T (po_X10_official_e T s c) 0 0 0 [some (vR 110 0), some (vI s), some (vI c), none] [] T
  refine j_blx (F := fX10) tb_X10 (nn_ _) bk_X10_official_e_0 bs_X10_official_e_0 hz (fun K hK => ?_)
  refine hK 3 _ [vI 12, vI s] T ?_
  refine j_callS (y := yX10_isBelow) (Yc := zX10_isBelow) (rest := []) [vI s, vI 12] (ct_X10_isBelow (T := T)) cl_X10_115 (qd_c (by decide +kernel)) (nn_ _) rfl (rf_of rfl) (Nat.le_of_ble_eq_true rfl) (Nat.le_of_ble_eq_true rfl) (Nat.le_of_ble_eq_true rfl) rfl ?_
  rintro _ _ ⟨rfl, x1, rfl, hx1⟩
  show J_ zX10_official T (po_X10_official_e T s c) 0 0 6 _ [vI x1] T
  refine j_blx (F := fX10) tb_X10 (nn_ _) bk_X10_official_e_6 bs_X10_official_e_6 hz (fun K hK => ?_)
  refine And.intro (fun c2 => ?_) (fun c2 => ?_)
  · replace hx1 := hx1.resolve_left (fun z => absurd (c2.symm.trans z.1) (by decide))
    clear c2
    refine hK 18 _ [] T ?_
    refine j_blx (F := fX10) tb_X10 (nn_ _) bk_X10_official_e_18 bs_X10_official_e_18 hz (fun K hK => ?_)
    refine (show po_X10_official_e T s c T (some (vI (-3))) from ?_)
    exact ⟨_, rfl, fr_0 _ _, by omega, Or.inl ⟨rfl, Or.inl ⟨rfl, by omega⟩⟩⟩
  · replace hx1 := hx1.resolve_right (fun z => c2 z.1)
    clear c2
    refine hK 12 _ [vI 8, vI c] T ?_
    refine j_callS (y := yX10_isBelow) (Yc := zX10_isBelow) (rest := []) [vI c, vI 8] (ct_X10_isBelow (T := T)) cl_X10_115 (qd_c (by decide +kernel)) (nn_ _) rfl (rf_of rfl) (Nat.le_of_ble_eq_true rfl) (Nat.le_of_ble_eq_true rfl) (Nat.le_of_ble_eq_true rfl) rfl ?_
    rintro _ _ ⟨rfl, x3, rfl, hx3⟩
    show J_ zX10_official T (po_X10_official_e T s c) 0 0 15 _ [vI x3] T
    refine j_blx (F := fX10) tb_X10 (nn_ _) bk_X10_official_e_15 bs_X10_official_e_15 hz (fun K hK => ?_)
    refine And.intro (fun c4 => ?_) (fun c4 => ?_)
    · replace hx3 := hx3.resolve_right (fun z => c4 z.1)
      clear c4
      refine hK 21 _ [] T ?_
      refine j_blx (F := fX10) tb_X10 (nn_ _) bk_X10_official_e_21 bs_X10_official_e_21 hz (fun K hK => ?_)
      intro b5 b5b
      refine And.intro (fun c6 => ?_) (fun c6 => ?_)
      · refine hK 36 _ [] T ?_
        refine j_blx (F := fX10) tb_X10 (nn_ _) bk_X10_official_e_36 bs_X10_official_e_36 hz (fun K hK => ?_)
        intro b7 b7b
        refine iy_i (by omega) (by omega) ?_
        refine x_nm (fun U8 hU8 => ?_)
        have e9 := up_f hU8
        refine iy_i (by omega) (by omega) ?_
        refine x_nm (fun U10 hU10 => ?_)
        have e11 := up_f hU10
        intro b12 b12b
        have e13 : U10 108 0 12 = T 108 0 12 := (up_k hU10 (by exact Nat.ne_of_beq_eq_false rfl) 0 12).trans (up_k hU8 (by exact Nat.ne_of_beq_eq_false rfl) 0 12)
        rw [e13] at b12 b12b ⊢
        refine rg_i (by omega) ?_
        refine bd_i (by omega) ?_
        refine x_nm (fun U14 hU14 => ?_)
        have e15 := up_f hU14
        refine (show po_X10_official_e T s c U14 (some (vI (T 108 0 12))) from ?_)
        have e16 : U14 108 0 12 = (T 108 0 12) + 1 := up_f hU14
        have e17 : U14 108 0 12 = (T 108 0 12) + 1 := up_f hU14
        exact ⟨_, rfl, fr_u (fr_u (fr_u (fr_0 _ _) hU8 rfl) hU10 rfl) hU14 rfl, by omega, Or.inr ⟨by omega, by omega, by omega, by omega, ⟨(up_k hU14 (by exact Nat.ne_of_beq_eq_false rfl) 0 _).trans ((up_k hU10 (by exact Nat.ne_of_beq_eq_false rfl) 0 _).trans (up_f hU8)), fun j hj => (up_k hU14 (by exact Nat.ne_of_beq_eq_false rfl) 0 j).trans ((up_k hU10 (by exact Nat.ne_of_beq_eq_false rfl) 0 j).trans (up_g hU8 (fun z => hj z.2.2)))⟩, ⟨(up_k hU14 (by exact Nat.ne_of_beq_eq_false rfl) 0 _).trans (up_f hU10), fun j hj => (up_k hU14 (by exact Nat.ne_of_beq_eq_false rfl) 0 j).trans ((up_g hU10 (fun z => hj z.2.2)).trans (up_k hU8 (by exact Nat.ne_of_beq_eq_false rfl) 0 j))⟩⟩⟩
      · refine (show po_X10_official_e T s c T (some (vI (-5))) from ?_)
        exact ⟨_, rfl, fr_0 _ _, by omega, Or.inl ⟨rfl, Or.inr ⟨by omega, by omega, rfl⟩⟩⟩
    · replace hx3 := hx3.resolve_left (fun z => absurd (c4.symm.trans z.1) (by decide))
      clear c4
      refine (show po_X10_official_e T s c T (some (vI (-3))) from ?_)
      exact ⟨_, rfl, fr_0 _ _, by omega, Or.inl ⟨rfl, Or.inl ⟨rfl, by omega⟩⟩⟩
theorem bk_X11_official_e_0 : ck_ fX11 (some .int) cX11_official 0 [.iload 1, .iconst 0, .iconst 11] 4 = true := qck_r (nn_ _) (by decide +kernel)
theorem bs_X11_official_e_0 {P : Zt → Option Zv → Prop} (K : Int → Zl → List Zv → Zt → Prop) : sx_ K P [.iload 1, .iconst 0, .iconst 11] 4 = x_iload 1 (x_iconst 0 (x_iconst 11 (K 4))) := ((xe_iload 1).trans (congrArg (x_iload 1) ((xe_iconst 0).trans (congrArg (x_iconst 0) ((xe_iconst 11).trans (congrArg (x_iconst 11) xe_nil))))))
theorem bk_X11_official_e_7 : ck_ fX11 (some .int) cX11_official 7 [.ifCond .eq 20, .iload 2, .iconst 0, .iconst 7] 14 = true := qck_r (nn_ _) (by decide +kernel)
theorem bs_X11_official_e_7 {P : Zt → Option Zv → Prop} (K : Int → Zl → List Zv → Zt → Prop) : sx_ K P [.ifCond .eq 20, .iload 2, .iconst 0, .iconst 7] 14 = x_ifCond .eq 20 K (x_iload 2 (x_iconst 0 (x_iconst 7 (K 14)))) := ((xe_ifCond .eq 20).trans (congrArg (x_ifCond .eq 20 K) ((xe_iload 2).trans (congrArg (x_iload 2) ((xe_iconst 0).trans (congrArg (x_iconst 0) ((xe_iconst 7).trans (congrArg (x_iconst 7) xe_nil))))))))
theorem bk_X11_official_e_20 : ck_ fX11 (some .int) cX11_official 20 [.iconst (-3), .ireturn] 23 = true := qck_r (nn_ _) (by decide +kernel)
theorem bs_X11_official_e_20 {P : Zt → Option Zv → Prop} (K : Int → Zl → List Zv → Zt → Prop) : sx_ K P [.iconst (-3), .ireturn] 23 = x_iconst (-3) (x_ireturn P) := ((xe_iconst (-3)).trans (congrArg (x_iconst (-3)) (xe_ireturn)))
theorem bk_X11_official_e_17 : ck_ fX11 (some .int) cX11_official 17 [.ifCond .ne 23, .iconst (-3), .ireturn] 23 = true := qck_r (nn_ _) (by decide +kernel)
theorem bs_X11_official_e_17 {P : Zt → Option Zv → Prop} (K : Int → Zl → List Zv → Zt → Prop) : sx_ K P [.ifCond .ne 23, .iconst (-3), .ireturn] 23 = x_ifCond .ne 23 K (x_iconst (-3) (x_ireturn P)) := ((xe_ifCond .ne 23).trans (congrArg (x_ifCond .ne 23 K) ((xe_iconst (-3)).trans (congrArg (x_iconst (-3)) (xe_ireturn)))))
theorem bk_X11_official_e_23 : ck_ fX11 (some .int) cX11_official 23 [.aload 0, .tableswitch 0 11 21 #[], .iconst 8, .if_icmp .ne 35, .iconst (-5), .ireturn] 35 = true := qck_r (nn_ _) (by decide +kernel)
theorem bs_X11_official_e_23 {P : Zt → Option Zv → Prop} (K : Int → Zl → List Zv → Zt → Prop) : sx_ K P [.aload 0, .tableswitch 0 11 21 #[], .iconst 8, .if_icmp .ne 35, .iconst (-5), .ireturn] 35 = x_aload 0 (x_g0 111 21 0 8 (x_iconst 8 (x_if_icmp .ne 35 K (x_iconst (-5) (x_ireturn P))))) := ((xe_aload 0).trans (congrArg (x_aload 0) ((xe_g0 (kk := 111) rfl tl_11_21).trans (congrArg (x_g0 111 21 0 8) ((xe_iconst 8).trans (congrArg (x_iconst 8) ((xe_if_icmp .ne 35).trans (congrArg (x_if_icmp .ne 35 K) ((xe_iconst (-5)).trans (congrArg (x_iconst (-5)) (xe_ireturn)))))))))))
theorem bk_X11_official_e_35 : ck_ fX11 (some .int) cX11_official 35 [.aload 0, .tableswitch 0 11 22 #[], .aload 0, .tableswitch 0 11 21 #[], .iload 1, .iastore, .aload 0, .tableswitch 0 11 23 #[], .aload 0, .tableswitch 0 11 21 #[], .iload 2, .iastore, .aload 0, .dup, .tableswitch 0 11 21 #[], .iconst 1, .iadd, .tableswitch 1 11 21 #[], .aload 0, .tableswitch 0 11 21 #[], .iconst 1, .isub, .ireturn] 72 = true := qck_r (nn_ _) (by decide +kernel)
theorem bs_X11_official_e_35 {P : Zt → Option Zv → Prop} (K : Int → Zl → List Zv → Zt → Prop) : sx_ K P [.aload 0, .tableswitch 0 11 22 #[], .aload 0, .tableswitch 0 11 21 #[], .iload 1, .iastore, .aload 0, .tableswitch 0 11 23 #[], .aload 0, .tableswitch 0 11 21 #[], .iload 2, .iastore, .aload 0, .dup, .tableswitch 0 11 21 #[], .iconst 1, .iadd, .tableswitch 1 11 21 #[], .aload 0, .tableswitch 0 11 21 #[], .iconst 1, .isub, .ireturn] 72 = x_aload 0 (x_g1 111 222 (x_aload 0 (x_g0 111 21 0 8 (x_iload 1 (x_iastore (x_aload 0 (x_g1 111 223 (x_aload 0 (x_g0 111 21 0 8 (x_iload 2 (x_iastore (x_aload 0 (x_dup (x_g0 111 21 0 8 (x_iconst 1 (x_iadd (x_p 111 21 0 8 (x_aload 0 (x_g0 111 21 0 8 (x_iconst 1 (x_isub (x_ireturn P)))))))))))))))))))))) := ((xe_aload 0).trans (congrArg (x_aload 0) ((xe_g1 (kk := 111) rfl tl_11_22).trans (congrArg (x_g1 111 222) ((xe_aload 0).trans (congrArg (x_aload 0) ((xe_g0 (kk := 111) rfl tl_11_21).trans (congrArg (x_g0 111 21 0 8) ((xe_iload 1).trans (congrArg (x_iload 1) ((xe_iastore).trans (congrArg (x_iastore) ((xe_aload 0).trans (congrArg (x_aload 0) ((xe_g1 (kk := 111) rfl tl_11_23).trans (congrArg (x_g1 111 223) ((xe_aload 0).trans (congrArg (x_aload 0) ((xe_g0 (kk := 111) rfl tl_11_21).trans (congrArg (x_g0 111 21 0 8) ((xe_iload 2).trans (congrArg (x_iload 2) ((xe_iastore).trans (congrArg (x_iastore) ((xe_aload 0).trans (congrArg (x_aload 0) ((xe_dup).trans (congrArg (x_dup) ((xe_g0 (kk := 111) rfl tl_11_21).trans (congrArg (x_g0 111 21 0 8) ((xe_iconst 1).trans (congrArg (x_iconst 1) ((xe_iadd).trans (congrArg (x_iadd) ((xe_p (kk := 111) rfl tl_11_21).trans (congrArg (x_p 111 21 0 8) ((xe_aload 0).trans (congrArg (x_aload 0) ((xe_g0 (kk := 111) rfl tl_11_21).trans (congrArg (x_g0 111 21 0 8) ((xe_iconst 1).trans (congrArg (x_iconst 1) ((xe_isub).trans (congrArg (x_isub) (xe_ireturn)))))))))))))))))))))))))))))))))))))))))))))
abbrev po_X11_official_e (T : Zt) (s c : Int) : Zt → Option Zv → Prop := fun T' r => ∃ x : Int, r = some (vI x) ∧ fr_ [(111, [21]), (222, []), (223, [])] T T' ∧ (((x = -3 ∧ ¬ (0 ≤ s ∧ s ≤ 11 ∧ 0 ≤ c ∧ c ≤ 7) ∧ T' 111 0 21 = T 111 0 21) ∨ ((0 ≤ s ∧ s ≤ 11 ∧ 0 ≤ c ∧ c ≤ 7) ∧ T 111 0 21 = 8 ∧ x = -5 ∧ T' 111 0 21 = T 111 0 21) ∨ ((0 ≤ s ∧ s ≤ 11 ∧ 0 ≤ c ∧ c ≤ 7) ∧ T 111 0 21 < 8 ∧ x = T 111 0 21 ∧ T' 111 0 21 = T 111 0 21 + 1)) ∧ TG9_ 111 21 8 222 223 T T' s c x)
set_option maxHeartbeats 4000000 in
theorem ct_X11_official_e {T : Zt} {s c : Int} : Ct_ yX11_official zX11_official T [vR 111 0, vI s, vI c] (po_X11_official_e T s c) := by
  refine ct_of pn_11 rfl rfl (Nat.le_of_ble_eq_true rfl) (fun hT hav => ?_)
  have hr_s : -2147483648 ≤ s ∧ s ≤ 2147483647 := hav (vI s) (List.mem_cons_of_mem _ List.mem_cons_self)
  have hr_c : -2147483648 ≤ c ∧ c ≤ 2147483647 := hav (vI c) (List.mem_cons_of_mem _ (List.mem_cons_of_mem _ List.mem_cons_self))
  have hz : zX11_official.2.2.2.1 = some .boolean → ∀ (T' : Zt) (x : Int), po_X11_official_e T s c T' (some (vI x)) → 0 ≤ x ∧ x ≤ 1 := fun h => by cases h
  have hb_21 : 0 ≤ T 111 0 21 ∧ T 111 0 21 ≤ 8 := bd_f hT 111 21 tl_11_21 0
  show J_ zX11_official T (po_X11_official_e T s c) 0 0 0 [some (vR 111 0), some (vI s), some (vI c)] [] T
  refine j_blx (F := fX11) tb_X11 (nn_ _) bk_X11_official_e_0 bs_X11_official_e_0 hz (fun K hK => ?_)
  refine hK 4 _ [vI 11, vI 0, vI s] T ?_
  refine j_callS (y := yX11_in) (Yc := zX11_in) (rest := []) [vI s, vI 0, vI 11] (ct_X11_in (T := T)) cl_X11_255 (qd_c (by decide +kernel)) (nn_ _) rfl (rf_of rfl) (Nat.le_of_ble_eq_true rfl) (Nat.le_of_ble_eq_true rfl) (Nat.le_of_ble_eq_true rfl) rfl ?_
  rintro _ _ ⟨rfl, x1, rfl, hx1⟩
  show J_ zX11_official T (po_X11_official_e T s c) 0 0 7 _ [vI x1] T
  refine j_blx (F := fX11) tb_X11 (nn_ _) bk_X11_official_e_7 bs_X11_official_e_7 hz (fun K hK => ?_)
  refine And.intro (fun c2 => ?_) (fun c2 => ?_)
  · replace hx1 := hx1.resolve_left (fun z => absurd (c2.symm.trans z.1) (by decide))
    clear c2
    refine hK 20 _ [] T ?_
    refine j_blx (F := fX11) tb_X11 (nn_ _) bk_X11_official_e_20 bs_X11_official_e_20 hz (fun K hK => ?_)
    refine (show po_X11_official_e T s c T (some (vI (-3))) from ?_)
    exact ⟨_, rfl, fr_0 _ _, by omega, Or.inl ⟨rfl, Or.inl ⟨rfl, by omega⟩⟩⟩
  · replace hx1 := hx1.resolve_right (fun z => c2 z.1)
    clear c2
    refine hK 14 _ [vI 7, vI 0, vI c] T ?_
    refine j_callS (y := yX11_in) (Yc := zX11_in) (rest := []) [vI c, vI 0, vI 7] (ct_X11_in (T := T)) cl_X11_255 (qd_c (by decide +kernel)) (nn_ _) rfl (rf_of rfl) (Nat.le_of_ble_eq_true rfl) (Nat.le_of_ble_eq_true rfl) (Nat.le_of_ble_eq_true rfl) rfl ?_
    rintro _ _ ⟨rfl, x3, rfl, hx3⟩
    show J_ zX11_official T (po_X11_official_e T s c) 0 0 17 _ [vI x3] T
    refine j_blx (F := fX11) tb_X11 (nn_ _) bk_X11_official_e_17 bs_X11_official_e_17 hz (fun K hK => ?_)
    refine And.intro (fun c4 => ?_) (fun c4 => ?_)
    · replace hx3 := hx3.resolve_right (fun z => c4 z.1)
      clear c4
      refine hK 23 _ [] T ?_
      refine j_blx (F := fX11) tb_X11 (nn_ _) bk_X11_official_e_23 bs_X11_official_e_23 hz (fun K hK => ?_)
      intro b5 b5b
      refine And.intro (fun c6 => ?_) (fun c6 => ?_)
      · refine hK 35 _ [] T ?_
        refine j_blx (F := fX11) tb_X11 (nn_ _) bk_X11_official_e_35 bs_X11_official_e_35 hz (fun K hK => ?_)
        intro b7 b7b
        refine iy_i (by omega) (by omega) ?_
        refine x_nm (fun U8 hU8 => ?_)
        have e9 := up_f hU8
        intro b10 b10b
        have e11 : U8 111 0 21 = T 111 0 21 := up_k hU8 (by exact Nat.ne_of_beq_eq_false rfl) 0 21
        rw [e11] at b10 b10b ⊢
        refine iy_i (by omega) (by omega) ?_
        refine x_nm (fun U12 hU12 => ?_)
        have e13 := up_f hU12
        intro b14 b14b
        have e15 : U12 111 0 21 = T 111 0 21 := (up_k hU12 (by exact Nat.ne_of_beq_eq_false rfl) 0 21).trans (up_k hU8 (by exact Nat.ne_of_beq_eq_false rfl) 0 21)
        rw [e15] at b14 b14b ⊢
        refine rg_i (by omega) ?_
        refine bd_i (by omega) ?_
        refine x_nm (fun U16 hU16 => ?_)
        have e17 := up_f hU16
        intro b18 b18b
        have e19 : U16 111 0 21 = (T 111 0 21) + 1 := up_f hU16
        rw [e19] at b18 b18b ⊢
        refine rg_i (by omega) ?_
        refine (show po_X11_official_e T s c U16 (some (vI (((T 111 0 21) + 1) - 1))) from ?_)
        have e20 : U16 111 0 21 = (T 111 0 21) + 1 := up_f hU16
        have e21 : U16 111 0 21 = (T 111 0 21) + 1 := up_f hU16
        exact ⟨_, rfl, fr_u (fr_u (fr_u (fr_0 _ _) hU8 rfl) hU12 rfl) hU16 rfl, by omega, Or.inr ⟨by omega, by omega, by omega, by omega, ⟨(up_k hU16 (by exact Nat.ne_of_beq_eq_false rfl) 0 _).trans ((up_k hU12 (by exact Nat.ne_of_beq_eq_false rfl) 0 _).trans (up_f hU8)), fun j hj => (up_k hU16 (by exact Nat.ne_of_beq_eq_false rfl) 0 j).trans ((up_k hU12 (by exact Nat.ne_of_beq_eq_false rfl) 0 j).trans (up_g hU8 (fun z => hj z.2.2)))⟩, ⟨(up_k hU16 (by exact Nat.ne_of_beq_eq_false rfl) 0 _).trans (up_f hU12), fun j hj => (up_k hU16 (by exact Nat.ne_of_beq_eq_false rfl) 0 j).trans ((up_g hU12 (fun z => hj z.2.2)).trans (up_k hU8 (by exact Nat.ne_of_beq_eq_false rfl) 0 j))⟩⟩⟩
      · refine (show po_X11_official_e T s c T (some (vI (-5))) from ?_)
        exact ⟨_, rfl, fr_0 _ _, by omega, Or.inl ⟨rfl, Or.inr ⟨by omega, by omega, rfl⟩⟩⟩
    · replace hx3 := hx3.resolve_left (fun z => absurd (c4.symm.trans z.1) (by decide))
      clear c4
      refine (show po_X11_official_e T s c T (some (vI (-3))) from ?_)
      exact ⟨_, rfl, fr_0 _ _, by omega, Or.inl ⟨rfl, Or.inl ⟨rfl, by omega⟩⟩⟩
