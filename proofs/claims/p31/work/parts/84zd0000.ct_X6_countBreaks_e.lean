/-- places apart -/
def dj_ : List (Nat × List Int) → List (Nat × List Int) → Bool
  | [], _ => true
  | (k, l) :: r, F => (match l with
    | [] => F.all fun q => q.1 != k
    | l => l.all fun j => !(fw_ F k j)) && dj_ r F
theorem fw_no {F : List (Nat × List Int)} {k : Nat} (h : (F.all fun q => q.1 != k) = true) (j : Int) : fw_ F k j = false := by
  induction F with
  | nil => rfl
  | cons q r ih =>
    obtain ⟨k', l⟩ := q
    simp only [List.all_cons, Bool.and_eq_true, bne_iff_ne, ne_eq] at h
    unfold fw_
    rw [ih (by simpa using h.2)]
    have z : (k == k') = false := by
      rw [beq_eq_false_iff_ne]
      exact fun e => h.1 e.symm
    rw [z]
    rfl
theorem dj_s {a F : List (Nat × List Int)} (h : dj_ a F = true) {k : Nat} {j : Int} (w : fw_ a k j = true) : fw_ F k j = false := by
  induction a with
  | nil => simp [fw_] at w
  | cons q r ih =>
    obtain ⟨k', l⟩ := q
    unfold dj_ at h
    unfold fw_ at w
    simp only [Bool.and_eq_true] at h
    simp only [Bool.or_eq_true, Bool.and_eq_true, beq_iff_eq] at w
    rcases w with ⟨rfl, w⟩ | w
    · cases l with
      | nil => exact fw_no h.1 j
      | cons x t =>
        have h1 := List.all_eq_true.mp h.1 j (by simpa using w)
        simpa using h1
    · exact ih h.2 w
/-- what a footprint names is as it was -/
def ks_ (F : List (Nat × List Int)) (T T' : Zt) : Prop := ∀ k i j, fw_ F k j = true → T' k i j = T k i j
theorem ks_f {a F : List (Nat × List Int)} {T T' : Zt} (f : fr_ a T T') (h : dj_ a F = true) : ks_ F T T' := fun k i j w => f k i j (by
  cases z : fw_ a k j
  · rfl
  · rw [dj_s h z] at w
    cases w)
theorem ks_t {F : List (Nat × List Int)} {T T1 T2 : Zt} (a : ks_ F T T1) (b : ks_ F T1 T2) : ks_ F T T2 := fun k i j w => (b k i j w).trans (a k i j w)
theorem ks_s {F G : List (Nat × List Int)} {T T' : Zt} (h : ks_ G T T') (s : fs_ F G = true) : ks_ F T T' := fun k i j w => h k i j (fs_sub s w)
-- breaks: one count for both sides (how many; the last side, -1 none)
def bs9_ (H : Int → Int) (b m : Int) : Int := if H m = b then 0 else 1
def bk9_ (H A : Int → Int) (b f : Int) : Nat → Int × Int
  | 0 => (0, -1)
  | k + 1 => if H (f + k) = b ∨ A (f + k) = b then ((bk9_ H A b f k).1 + (if bs9_ H b (f + k) = (bk9_ H A b f k).2 then 1 else 0), bs9_ H b (f + k)) else bk9_ H A b f k
theorem bk9_t {H A : Int → Int} {b f k : Int} (hk : 0 ≤ k) (c : H (f + k) = b ∨ A (f + k) = b) : bk9_ H A b f (k + 1).toNat = ((bk9_ H A b f k.toNat).1 + (if bs9_ H b (f + k) = (bk9_ H A b f k.toNat).2 then 1 else 0), bs9_ H b (f + k)) := by
  rw [show (k + 1).toNat = k.toNat + 1 by omega]
  show (if H (f + (k.toNat : Int)) = b ∨ A (f + (k.toNat : Int)) = b then _ else _) = _
  rw [show ((k.toNat : Nat) : Int) = k by omega, if_pos c]
theorem bk9_f {H A : Int → Int} {b f k : Int} (hk : 0 ≤ k) (c : ¬ (H (f + k) = b ∨ A (f + k) = b)) : bk9_ H A b f (k + 1).toNat = bk9_ H A b f k.toNat := by
  rw [show (k + 1).toNat = k.toNat + 1 by omega]
  show (if H (f + (k.toNat : Int)) = b ∨ A (f + (k.toNat : Int)) = b then _ else _) = _
  rw [show ((k.toNat : Nat) : Int) = k by omega, if_neg c]
theorem bk9_e {H A H2 A2 : Int → Int} {b f : Int} : ∀ n : Nat, (∀ j, f ≤ j → j < f + n → H j = H2 j ∧ A j = A2 j) → bk9_ H A b f n = bk9_ H2 A2 b f n
  | 0, _ => rfl
  | n + 1, h => by
    have i := bk9_e (b := b) n (fun j a c => h j a (by omega))
    obtain ⟨h1, h2⟩ := h (f + n) (by omega) (by omega)
    unfold bk9_
    rw [i, h1, h2]
    unfold bs9_
    rw [h1]
theorem bs9_y {H : Int → Int} {b m : Int} (h : H m = b) : bs9_ H b m = 0 := if_pos h
theorem bs9_n {H : Int → Int} {b m : Int} (h : H m ≠ b) : bs9_ H b m = 1 := if_neg h
theorem bk9_u {H A : Int → Int} {b f k s : Int} (hk : 0 ≤ k) (c : H (f + k) = b ∨ A (f + k) = b) (hs : bs9_ H b (f + k) = s) : (bk9_ H A b f (k + 1).toNat).2 = s ∧ ((s = (bk9_ H A b f k.toNat).2 ∧ (bk9_ H A b f (k + 1).toNat).1 = (bk9_ H A b f k.toNat).1 + 1) ∨ (s ≠ (bk9_ H A b f k.toNat).2 ∧ (bk9_ H A b f (k + 1).toNat).1 = (bk9_ H A b f k.toNat).1)) := by
  have e := bk9_t (A := A) hk c
  rw [hs] at e
  rw [e]
  refine ⟨rfl, ?_⟩
  by_cases z : s = (bk9_ H A b f k.toNat).2
  · exact Or.inl ⟨z, by rw [if_pos z]⟩
  · exact Or.inr ⟨z, by rw [if_neg z]; exact Int.add_zero _⟩
/-- what breaks answers, of the house and of the reference -/
def BH9_ (T : Zt) (c b x : Int) : Prop := (x = -2 ∧ ¬ ((0 ≤ c ∧ c < T 106 0 2) ∧ 0 ≤ b ∧ b < T 108 0 2)) ∨ (((0 ≤ c ∧ c < T 106 0 2) ∧ 0 ≤ b ∧ b < T 108 0 2) ∧ ((x = -4 ∧ (T 404 c b = -1 ∨ T 100 c 6 = 0)) ∨ (T 404 c b ≠ -1 ∧ T 100 c 6 ≠ 0 ∧ x = (bk9_ (fun m => T 102 m 3) (fun m => T 102 m 4) b (T 100 c 7) (T 100 c 8).toNat).1)))
def BR9_ (T : Zt) (c b x : Int) : Prop := (x = -2 ∧ ¬ ((0 ≤ c ∧ c < T 111 0 6) ∧ 0 ≤ b ∧ b < T 111 0 12)) ∨ (((0 ≤ c ∧ c < T 111 0 6) ∧ 0 ≤ b ∧ b < T 111 0 12) ∧ ((x = -4 ∧ (T 209 0 c = 0 ∨ ¬ HE_ T c b)) ∨ (T 209 0 c ≠ 0 ∧ HE_ T c b ∧ x = (bk9_ (fun m => T 232 0 m) (fun m => T 233 0 m) b (T 210 0 c) (T 211 0 c).toNat).1)))
/-- breaks on both sides -/
theorem brk_e {T : Zt} {c b x1 x2 : Int} (h : ENR_ T) (hm : MAR_ T) (hk : KE_ T) (hl : KC_ T) (hcc : T 106 0 2 = T 111 0 6) (hc : T 108 0 2 = T 111 0 12) (hc12 : T 108 0 2 ≤ 12) (hb7 : ∀ d, 0 ≤ T 100 d 7 ∧ 0 ≤ T 100 d 8) (d1 : BH9_ T c b x1) (d2 : BR9_ T c b x2) : x1 = x2 := by
  rcases d1 with ⟨a1, a2⟩ | ⟨a0, a1⟩
  · rcases d2 with ⟨f1, f2⟩ | ⟨f0, f1⟩
    · omega
    · exact absurd (by omega) a2
  · rcases d2 with ⟨f1, f2⟩ | ⟨f0, f1⟩
    · exact absurd (by omega) f2
    · have z := h.1 c a0.1.1 a0.1.2
      have g := he9_i z (hk c a0.1.1 a0.1.2) ⟨a0.2.1, by omega⟩
      obtain ⟨z1, z2, z3, z4, z5, z6⟩ := z
      rcases a1 with ⟨a1, a2⟩ | ⟨a1, a2, a3⟩
      · rcases f1 with ⟨f1, f2⟩ | ⟨f1, f2, f3⟩
        · omega
        · exfalso
          have := g.mpr f2
          omega
      · rcases f1 with ⟨f1, f2⟩ | ⟨f1, f2, f3⟩
        · exfalso
          rcases f2 with f2 | f2
          · omega
          · exact f2 (g.mp a1)
        · have l := hl c a0.1.1 a0.1.2
          have q := hb7 c
          rw [a3, f3, ← z3, ← z4]
          rw [bk9_e (H2 := fun m => T 232 0 m) (A2 := fun m => T 233 0 m) (T 100 c 8).toNat (fun j p r => ?_)]
          have y := hm.2 j (by omega) (by omega)
          exact ⟨y.2.2.1, y.2.2.2⟩
theorem bk_X2_has_e_0 : ck_ fX2 (some .boolean) cX2_has 0 [.aload 0, .tableswitch 0 2 3 #[], .iload 1, .if_icmp .eq 16, .aload 0, .tableswitch 0 2 4 #[], .iload 1, .if_icmp .ne 20, .iconst 1, .goto 21] 20 = true := qck_r (nn_ _) (by decide +kernel)
theorem bs_X2_has_e_0 {P : Zt → Option Zv → Prop} (K : Int → Zl → List Zv → Zt → Prop) : sx_ K P [.aload 0, .tableswitch 0 2 3 #[], .iload 1, .if_icmp .eq 16, .aload 0, .tableswitch 0 2 4 #[], .iload 1, .if_icmp .ne 20, .iconst 1, .goto 21] 20 = x_aload 0 (x_g0 102 3 0 11 (x_iload 1 (x_if_icmp .eq 16 K (x_aload 0 (x_g0 102 4 0 11 (x_iload 1 (x_if_icmp .ne 20 K (x_iconst 1 (x_goto 21 K))))))))) := ((xe_aload 0).trans (congrArg (x_aload 0) ((xe_g0 (kk := 102) rfl tl_2_3).trans (congrArg (x_g0 102 3 0 11) ((xe_iload 1).trans (congrArg (x_iload 1) ((xe_if_icmp .eq 16).trans (congrArg (x_if_icmp .eq 16 K) ((xe_aload 0).trans (congrArg (x_aload 0) ((xe_g0 (kk := 102) rfl tl_2_4).trans (congrArg (x_g0 102 4 0 11) ((xe_iload 1).trans (congrArg (x_iload 1) ((xe_if_icmp .ne 20).trans (congrArg (x_if_icmp .ne 20 K) ((xe_iconst 1).trans (congrArg (x_iconst 1) (xe_goto 21)))))))))))))))))))
theorem bk_X2_has_e_16 : ck_ fX2 (some .boolean) cX2_has 16 [.iconst 1, .goto 21] 20 = true := qck_r (nn_ _) (by decide +kernel)
theorem bs_X2_has_e_16 {P : Zt → Option Zv → Prop} (K : Int → Zl → List Zv → Zt → Prop) : sx_ K P [.iconst 1, .goto 21] 20 = x_iconst 1 (x_goto 21 K) := ((xe_iconst 1).trans (congrArg (x_iconst 1) (xe_goto 21)))
theorem bk_X2_has_e_21 : ck_ fX2 (some .boolean) cX2_has 21 [.ireturn] 22 = true := qck_r (nn_ _) (by decide +kernel)
theorem bs_X2_has_e_21 {P : Zt → Option Zv → Prop} (K : Int → Zl → List Zv → Zt → Prop) : sx_ K P [.ireturn] 22 = x_ireturn P := (xe_ireturn)
theorem bk_X2_has_e_20 : ck_ fX2 (some .boolean) cX2_has 20 [.iconst 0, .ireturn] 22 = true := qck_r (nn_ _) (by decide +kernel)
theorem bs_X2_has_e_20 {P : Zt → Option Zv → Prop} (K : Int → Zl → List Zv → Zt → Prop) : sx_ K P [.iconst 0, .ireturn] 22 = x_iconst 0 (x_ireturn P) := ((xe_iconst 0).trans (congrArg (x_iconst 0) (xe_ireturn)))
abbrev po_X2_has_e (T : Zt) (p : Int) (c : Int) : Zt → Option Zv → Prop := fun T' r => T = T' ∧ ∃ x : Int, r = some (vI x) ∧ ((x = 1 ∧ (T 102 p 3 = c ∨ T 102 p 4 = c)) ∨ (x = 0 ∧ ¬ (T 102 p 3 = c ∨ T 102 p 4 = c)))
set_option maxHeartbeats 4000000 in
theorem ct_X2_has_e {T : Zt} {p : Int} {c : Int} : Ct_ yX2_has zX2_has T [vR 102 p, vI c] (po_X2_has_e T p c) := by
  refine ct_of pn_2 rfl rfl (Nat.le_of_ble_eq_true rfl) (fun hT hav => ?_)
  have hr_c : -2147483648 ≤ c ∧ c ≤ 2147483647 := hav (vI c) (List.mem_cons_of_mem _ List.mem_cons_self)
  have hz : zX2_has.2.2.2.1 = some .boolean → ∀ (T' : Zt) (x : Int), po_X2_has_e T p c T' (some (vI x)) → 0 ≤ x ∧ x ≤ 1 := fun _ T' x h => by obtain ⟨-, y, e, hy⟩ := h; cases e; omega
  show J_ zX2_has T (po_X2_has_e T p c) 0 0 0 [some (vR 102 p), some (vI c)] [] T
  refine j_blx (F := fX2) tb_X2 (nn_ _) bk_X2_has_e_0 bs_X2_has_e_0 hz (fun K hK => ?_)
  intro b1 b1b
  refine And.intro (fun c2 => ?_) (fun c2 => ?_)
  · refine hK 16 _ [] T ?_
    refine j_blx (F := fX2) tb_X2 (nn_ _) bk_X2_has_e_16 bs_X2_has_e_16 hz (fun K hK => ?_)
    refine hK 21 _ [vI 1] T ?_
    refine j_blx (F := fX2) tb_X2 (nn_ _) bk_X2_has_e_21 bs_X2_has_e_21 hz (fun K hK => ?_)
    refine (show po_X2_has_e T p c T (some (vI 1)) from ?_)
    exact ⟨rfl, _, rfl, Or.inl ⟨rfl, by omega⟩⟩
  · intro b3 b3b
    refine And.intro (fun c4 => ?_) (fun c4 => ?_)
    · refine hK 20 _ [] T ?_
      refine j_blx (F := fX2) tb_X2 (nn_ _) bk_X2_has_e_20 bs_X2_has_e_20 hz (fun K hK => ?_)
      refine (show po_X2_has_e T p c T (some (vI 0)) from ?_)
      exact ⟨rfl, _, rfl, Or.inr ⟨rfl, by omega⟩⟩
    · refine hK 21 _ [vI 1] T ?_
      refine j_blx (F := fX2) tb_X2 (nn_ _) bk_X2_has_e_21 bs_X2_has_e_21 hz (fun K hK => ?_)
      refine (show po_X2_has_e T p c T (some (vI 1)) from ?_)
      exact ⟨rfl, _, rfl, Or.inl ⟨rfl, by omega⟩⟩
theorem bk_X6_countBreaks_e_11 : ck_ fX6 (some .int) cX6_countBreaks 11 [.iload 6, .aload 1, .tableswitch 0 0 8 #[], .if_icmp .ge 87, .aload 0, .tableswitch 0 6 3 #[], .aload 1, .tableswitch 0 0 7 #[], .iload 6, .iadd, .aaload, .astore 7, .aload 7, .iload 2] 37 = true := qck_r (nn_ _) (by decide +kernel)
theorem bs_X6_countBreaks_e_11 {P : Zt → Option Zv → Prop} (K : Int → Zl → List Zv → Zt → Prop) : sx_ K P [.iload 6, .aload 1, .tableswitch 0 0 8 #[], .if_icmp .ge 87, .aload 0, .tableswitch 0 6 3 #[], .aload 1, .tableswitch 0 0 7 #[], .iload 6, .iadd, .aaload, .astore 7, .aload 7, .iload 2] 37 = x_iload 6 (x_aload 1 (x_g0 100 8 0 400 (x_if_icmp .ge 87 K (x_aload 0 (x_g1 106 523 (x_aload 1 (x_g0 100 7 0 400 (x_iload 6 (x_iadd (x_aaload (x_astore 7 (x_aload 7 (x_iload 2 (K 37)))))))))))))) := ((xe_iload 6).trans (congrArg (x_iload 6) ((xe_aload 1).trans (congrArg (x_aload 1) ((xe_g0 (kk := 100) rfl tl_0_8).trans (congrArg (x_g0 100 8 0 400) ((xe_if_icmp .ge 87).trans (congrArg (x_if_icmp .ge 87 K) ((xe_aload 0).trans (congrArg (x_aload 0) ((xe_g1 (kk := 106) rfl tl_6_3).trans (congrArg (x_g1 106 523) ((xe_aload 1).trans (congrArg (x_aload 1) ((xe_g0 (kk := 100) rfl tl_0_7).trans (congrArg (x_g0 100 7 0 400) ((xe_iload 6).trans (congrArg (x_iload 6) ((xe_iadd).trans (congrArg (x_iadd) ((xe_aaload).trans (congrArg (x_aaload) ((xe_astore 7).trans (congrArg (x_astore 7) ((xe_aload 7).trans (congrArg (x_aload 7) ((xe_iload 2).trans (congrArg (x_iload 2) xe_nil))))))))))))))))))))))))))))
theorem bk_X6_countBreaks_e_87 : ck_ fX6 (some .int) cX6_countBreaks 87 [.iload 3, .ireturn] 89 = true := qck_r (nn_ _) (by decide +kernel)
theorem bs_X6_countBreaks_e_87 {P : Zt → Option Zv → Prop} (K : Int → Zl → List Zv → Zt → Prop) : sx_ K P [.iload 3, .ireturn] 89 = x_iload 3 (x_ireturn P) := ((xe_iload 3).trans (congrArg (x_iload 3) (xe_ireturn)))
theorem bk_X6_countBreaks_e_40 : ck_ fX6 (some .int) cX6_countBreaks 40 [.ifCond .eq 81, .aload 7, .tableswitch 0 2 3 #[], .iload 2, .if_icmp .ne 56, .iconst 1, .goto 57] 56 = true := qck_r (nn_ _) (by decide +kernel)
theorem bs_X6_countBreaks_e_40 {P : Zt → Option Zv → Prop} (K : Int → Zl → List Zv → Zt → Prop) : sx_ K P [.ifCond .eq 81, .aload 7, .tableswitch 0 2 3 #[], .iload 2, .if_icmp .ne 56, .iconst 1, .goto 57] 56 = x_ifCond .eq 81 K (x_aload 7 (x_g0 102 3 0 11 (x_iload 2 (x_if_icmp .ne 56 K (x_iconst 1 (x_goto 57 K)))))) := ((xe_ifCond .eq 81).trans (congrArg (x_ifCond .eq 81 K) ((xe_aload 7).trans (congrArg (x_aload 7) ((xe_g0 (kk := 102) rfl tl_2_3).trans (congrArg (x_g0 102 3 0 11) ((xe_iload 2).trans (congrArg (x_iload 2) ((xe_if_icmp .ne 56).trans (congrArg (x_if_icmp .ne 56 K) ((xe_iconst 1).trans (congrArg (x_iconst 1) (xe_goto 57)))))))))))))
theorem bk_X6_countBreaks_e_81 : ck_ fX6 (some .int) cX6_countBreaks 81 [.iinc 6 1, .goto 11] 87 = true := qck_r (nn_ _) (by decide +kernel)
theorem bs_X6_countBreaks_e_81 {P : Zt → Option Zv → Prop} (K : Int → Zl → List Zv → Zt → Prop) : sx_ K P [.iinc 6 1, .goto 11] 87 = x_iinc 6 1 (x_goto 11 K) := ((xe_iinc 6 1).trans (congrArg (x_iinc 6 1) (xe_goto 11)))
theorem bk_X6_countBreaks_e_56 : ck_ fX6 (some .int) cX6_countBreaks 56 [.iconst 0, .istore 8, .iload 4, .ifCond .eq 74, .iload 8, .iload 5, .if_icmp .ne 74, .iinc 3 1, .iconst 1, .istore 4, .iload 8, .istore 5, .iinc 6 1, .goto 11] 87 = true := qck_r (nn_ _) (by decide +kernel)
theorem bs_X6_countBreaks_e_56 {P : Zt → Option Zv → Prop} (K : Int → Zl → List Zv → Zt → Prop) : sx_ K P [.iconst 0, .istore 8, .iload 4, .ifCond .eq 74, .iload 8, .iload 5, .if_icmp .ne 74, .iinc 3 1, .iconst 1, .istore 4, .iload 8, .istore 5, .iinc 6 1, .goto 11] 87 = x_iconst 0 (x_istore 8 (x_iload 4 (x_ifCond .eq 74 K (x_iload 8 (x_iload 5 (x_if_icmp .ne 74 K (x_iinc 3 1 (x_iconst 1 (x_istore 4 (x_iload 8 (x_istore 5 (x_iinc 6 1 (x_goto 11 K))))))))))))) := ((xe_iconst 0).trans (congrArg (x_iconst 0) ((xe_istore 8).trans (congrArg (x_istore 8) ((xe_iload 4).trans (congrArg (x_iload 4) ((xe_ifCond .eq 74).trans (congrArg (x_ifCond .eq 74 K) ((xe_iload 8).trans (congrArg (x_iload 8) ((xe_iload 5).trans (congrArg (x_iload 5) ((xe_if_icmp .ne 74).trans (congrArg (x_if_icmp .ne 74 K) ((xe_iinc 3 1).trans (congrArg (x_iinc 3 1) ((xe_iconst 1).trans (congrArg (x_iconst 1) ((xe_istore 4).trans (congrArg (x_istore 4) ((xe_iload 8).trans (congrArg (x_iload 8) ((xe_istore 5).trans (congrArg (x_istore 5) ((xe_iinc 6 1).trans (congrArg (x_iinc 6 1) (xe_goto 11)))))))))))))))))))))))))))
theorem bk_X6_countBreaks_e_74 : ck_ fX6 (some .int) cX6_countBreaks 74 [.iconst 1, .istore 4, .iload 8, .istore 5, .iinc 6 1, .goto 11] 87 = true := qck_r (nn_ _) (by decide +kernel)
theorem bs_X6_countBreaks_e_74 {P : Zt → Option Zv → Prop} (K : Int → Zl → List Zv → Zt → Prop) : sx_ K P [.iconst 1, .istore 4, .iload 8, .istore 5, .iinc 6 1, .goto 11] 87 = x_iconst 1 (x_istore 4 (x_iload 8 (x_istore 5 (x_iinc 6 1 (x_goto 11 K))))) := ((xe_iconst 1).trans (congrArg (x_iconst 1) ((xe_istore 4).trans (congrArg (x_istore 4) ((xe_iload 8).trans (congrArg (x_iload 8) ((xe_istore 5).trans (congrArg (x_istore 5) ((xe_iinc 6 1).trans (congrArg (x_iinc 6 1) (xe_goto 11)))))))))))
theorem bk_X6_countBreaks_e_57 : ck_ fX6 (some .int) cX6_countBreaks 57 [.istore 8, .iload 4, .ifCond .eq 74, .iload 8, .iload 5, .if_icmp .ne 74, .iinc 3 1, .iconst 1, .istore 4, .iload 8, .istore 5, .iinc 6 1, .goto 11] 87 = true := qck_r (nn_ _) (by decide +kernel)
theorem bs_X6_countBreaks_e_57 {P : Zt → Option Zv → Prop} (K : Int → Zl → List Zv → Zt → Prop) : sx_ K P [.istore 8, .iload 4, .ifCond .eq 74, .iload 8, .iload 5, .if_icmp .ne 74, .iinc 3 1, .iconst 1, .istore 4, .iload 8, .istore 5, .iinc 6 1, .goto 11] 87 = x_istore 8 (x_iload 4 (x_ifCond .eq 74 K (x_iload 8 (x_iload 5 (x_if_icmp .ne 74 K (x_iinc 3 1 (x_iconst 1 (x_istore 4 (x_iload 8 (x_istore 5 (x_iinc 6 1 (x_goto 11 K)))))))))))) := ((xe_istore 8).trans (congrArg (x_istore 8) ((xe_iload 4).trans (congrArg (x_iload 4) ((xe_ifCond .eq 74).trans (congrArg (x_ifCond .eq 74 K) ((xe_iload 8).trans (congrArg (x_iload 8) ((xe_iload 5).trans (congrArg (x_iload 5) ((xe_if_icmp .ne 74).trans (congrArg (x_if_icmp .ne 74 K) ((xe_iinc 3 1).trans (congrArg (x_iinc 3 1) ((xe_iconst 1).trans (congrArg (x_iconst 1) ((xe_istore 4).trans (congrArg (x_istore 4) ((xe_iload 8).trans (congrArg (x_iload 8) ((xe_istore 5).trans (congrArg (x_istore 5) ((xe_iinc 6 1).trans (congrArg (x_iinc 6 1) (xe_goto 11)))))))))))))))))))))))))
theorem bk_X6_countBreaks_e_0 : ck_ fX6 (some .int) cX6_countBreaks 0 [.iconst 0, .istore 3, .iconst 0, .istore 4, .iconst 0, .istore 5, .iconst 0, .istore 6] 11 = true := qck_r (nn_ _) (by decide +kernel)
theorem bs_X6_countBreaks_e_0 {P : Zt → Option Zv → Prop} (K : Int → Zl → List Zv → Zt → Prop) : sx_ K P [.iconst 0, .istore 3, .iconst 0, .istore 4, .iconst 0, .istore 5, .iconst 0, .istore 6] 11 = x_iconst 0 (x_istore 3 (x_iconst 0 (x_istore 4 (x_iconst 0 (x_istore 5 (x_iconst 0 (x_istore 6 (K 11)))))))) := ((xe_iconst 0).trans (congrArg (x_iconst 0) ((xe_istore 3).trans (congrArg (x_istore 3) ((xe_iconst 0).trans (congrArg (x_iconst 0) ((xe_istore 4).trans (congrArg (x_istore 4) ((xe_iconst 0).trans (congrArg (x_iconst 0) ((xe_istore 5).trans (congrArg (x_istore 5) ((xe_iconst 0).trans (congrArg (x_iconst 0) ((xe_istore 6).trans (congrArg (x_istore 6) xe_nil))))))))))))))))
abbrev po_X6_countBreaks_e (T : Zt) (c : Int) (cl : Int) : Zt → Option Zv → Prop := fun T' r => T = T' ∧ ∃ x : Int, r = some (vI x) ∧ (x = (bk9_ (fun m => T 102 m 3) (fun m => T 102 m 4) cl (T 100 c 7) (T 100 c 8).toNat).1)
set_option maxHeartbeats 4000000 in
theorem ct_X6_countBreaks_e {T : Zt} {c : Int} {cl : Int} (hka : KA_ T) (hcm : T 100 c 7 + T 100 c 8 ≤ T 106 0 4) : Ct_ yX6_countBreaks zX6_countBreaks T [vR 106 0, vR 100 c, vI cl] (po_X6_countBreaks_e T c cl) := by
  refine ct_of pn_6 rfl rfl (Nat.le_of_ble_eq_true rfl) (fun hT hav => ?_)
  have hr_cl : -2147483648 ≤ cl ∧ cl ≤ 2147483647 := hav (vI cl) (List.mem_cons_of_mem _ (List.mem_cons_of_mem _ List.mem_cons_self))
  have hz : zX6_countBreaks.2.2.2.1 = some .boolean → ∀ (T' : Zt) (x : Int), po_X6_countBreaks_e T c cl T' (some (vI x)) → 0 ≤ x ∧ x ≤ 1 := fun h => by cases h
  have hb_matchCount : 0 ≤ T 106 0 4 ∧ T 106 0 4 ≤ 400 := bd_f hT 106 4 tl_6_4 0
  have hb7 : 0 ≤ T 100 c 7 ∧ T 100 c 7 ≤ 400 := bd_f hT 100 7 tl_0_7 c
  have hb8 : 0 ≤ T 100 c 8 ∧ T 100 c 8 ≤ 400 := bd_f hT 100 8 tl_0_8 c
  show J_ zX6_countBreaks T (po_X6_countBreaks_e T c cl) 0 0 0 [some (vR 106 0), some (vR 100 c), some (vI cl), none, none, none, none, none, none] [] T
  have c_11 : ∀ (nn : Nat) (n : Int) (a : Int) (w : Int) (k : Int), ((400 - k).toNat) ≤ nn → (0 ≤ n ∧ n ≤ k ∧ 0 ≤ k ∧ k ≤ T 100 c 8) → (n = (bk9_ (fun m => T 102 m 3) (fun m => T 102 m 4) cl (T 100 c 7) k.toNat).1 ∧ ((a = 0 ∧ (bk9_ (fun m => T 102 m 3) (fun m => T 102 m 4) cl (T 100 c 7) k.toNat).2 = -1) ∨ (a = 1 ∧ (bk9_ (fun m => T 102 m 3) (fun m => T 102 m 4) cl (T 100 c 7) k.toNat).2 = 1 - w ∧ (w = 0 ∨ w = 1)))) → J_ zX6_countBreaks T (po_X6_countBreaks_e T c cl) 0 0 11 [some (vR 106 0), some (vR 100 c), some (vI cl), some (vI n), some (vI a), some (vI w), some (vI k), none, none] [] T := by
    intro nn
    induction nn using Nat.strongRecOn with
    | _ nn ih_11 =>
      intro n a w k hm_11 i1 ib
      replace hm_11 := fun (_ : Unit) => hm_11
      refine j_blx (F := fX6) tb_X6 (nn_ _) bk_X6_countBreaks_e_11 bs_X6_countBreaks_e_11 hz (fun K hK => ?_)
      intro b1 b1b
      refine And.intro (fun c2 => ?_) (fun c2 => ?_)
      · refine hK 87 _ [] T ?_
        refine j_blx (F := fX6) tb_X6 (nn_ _) bk_X6_countBreaks_e_87 bs_X6_countBreaks_e_87 hz (fun K hK => ?_)
        refine (show po_X6_countBreaks_e T c cl T (some (vI n)) from ?_)
        exact ⟨rfl, _, rfl, by rw [show T 100 c 8 = k by omega]; exact ib.1⟩
      · intro b3 b3b
        refine rg_i (by omega) ?_
        refine ix_i (by omega) ?_
        refine And.intro (fun c4 => ?_) (fun c4 => ?_)
        · exact absurd c4 (hka.2 _ (by omega) (by omega))
        · refine hK 37 [some (vR 106 0), some (vR 100 c), some (vI cl), some (vI n), some (vI a), some (vI w), some (vI k), some (vR 102 ((T 100 c 7) + k)), none] [vI cl, vR 102 ((T 100 c 7) + k)] T ?_
          refine j_callV (y := yX2_has) (Yc := zX2_has) (rest := []) [vI cl] (ct_X2_has_e (T := T)) cl_X6_88 (qd_c (by decide +kernel)) (nn_ _) rfl (rf_of rfl) (Nat.le_of_ble_eq_true rfl) (Nat.le_of_ble_eq_true rfl) (Nat.le_of_ble_eq_true rfl) rfl ?_
          rintro _ _ ⟨rfl, x5, rfl, hx5⟩
          show J_ zX6_countBreaks T (po_X6_countBreaks_e T c cl) 0 0 40 _ [vI x5] T
          refine j_blx (F := fX6) tb_X6 (nn_ _) bk_X6_countBreaks_e_40 bs_X6_countBreaks_e_40 hz (fun K hK => ?_)
          refine And.intro (fun c6 => ?_) (fun c6 => ?_)
          · replace hx5 := hx5.resolve_left (fun z => absurd (c6.symm.trans z.1) (by decide))
            clear c6
            refine hK 81 _ [] T ?_
            refine j_blx (F := fX6) tb_X6 (nn_ _) bk_X6_countBreaks_e_81 bs_X6_countBreaks_e_81 hz (fun K hK => ?_)
            refine rg_i (by omega) ?_
            refine hK 11 [some (vR 106 0), some (vR 100 c), some (vI cl), some (vI n), some (vI a), some (vI w), some (vI (k + 1)), some (vR 102 ((T 100 c 7) + k)), none] [] T ?_
            refine j_drop [some (vR 106 0), some (vR 100 c), some (vI cl), some (vI n), some (vI a), some (vI w), some (vI (k + 1)), none, none] (fun k v hk => ?_) rfl ?_
            · match k, hk with
              | 0, hk => exact hk
              | 1, hk => exact hk
              | 2, hk => exact hk
              | 3, hk => exact hk
              | 4, hk => exact hk
              | 5, hk => exact hk
              | 6, hk => exact hk
              | 7, hk => cases hk
              | 8, hk => cases hk
              | k + 9, hk => cases hk
            refine ih_11 _ ?_ n a w (k + 1) (Nat.le_refl _) ?_ ?_
            · have hm_11 := hm_11 (); omega
            · omega
            · rw [bk9_f (H := fun m => T 102 m 3) (A := fun m => T 102 m 4) (b := cl) (f := T 100 c 7) (k := k) (by omega) (show ¬ (T 102 (T 100 c 7 + k) 3 = cl ∨ T 102 (T 100 c 7 + k) 4 = cl) by omega)]
              exact ib
          · replace hx5 := hx5.resolve_right (fun z => c6 z.1)
            clear c6
            intro b7 b7b
            refine And.intro (fun c8 => ?_) (fun c8 => ?_)
            · refine hK 56 [some (vR 106 0), some (vR 100 c), some (vI cl), some (vI n), some (vI a), some (vI w), some (vI k), some (vR 102 ((T 100 c 7) + k)), none] [] T ?_
              refine j_blx (F := fX6) tb_X6 (nn_ _) bk_X6_countBreaks_e_56 bs_X6_countBreaks_e_56 hz (fun K hK => ?_)
              refine And.intro (fun c9 => ?_) (fun c9 => ?_)
              · refine hK 74 [some (vR 106 0), some (vR 100 c), some (vI cl), some (vI n), some (vI a), some (vI w), some (vI k), some (vR 102 ((T 100 c 7) + k)), some (vI 0)] [] T ?_
                refine j_blx (F := fX6) tb_X6 (nn_ _) bk_X6_countBreaks_e_74 bs_X6_countBreaks_e_74 hz (fun K hK => ?_)
                refine rg_i (by omega) ?_
                refine hK 11 [some (vR 106 0), some (vR 100 c), some (vI cl), some (vI n), some (vI 1), some (vI 0), some (vI (k + 1)), some (vR 102 ((T 100 c 7) + k)), some (vI 0)] [] T ?_
                refine j_drop [some (vR 106 0), some (vR 100 c), some (vI cl), some (vI n), some (vI 1), some (vI 0), some (vI (k + 1)), none, none] (fun k v hk => ?_) rfl ?_
                · match k, hk with
                  | 0, hk => exact hk
                  | 1, hk => exact hk
                  | 2, hk => exact hk
                  | 3, hk => exact hk
                  | 4, hk => exact hk
                  | 5, hk => exact hk
                  | 6, hk => exact hk
                  | 7, hk => cases hk
                  | 8, hk => cases hk
                  | k + 9, hk => cases hk
                refine ih_11 _ ?_ n 1 0 (k + 1) (Nat.le_refl _) ?_ ?_
                · have hm_11 := hm_11 (); omega
                · omega
                · have y9 := bk9_u (H := fun m => T 102 m 3) (A := fun m => T 102 m 4) (b := cl) (f := T 100 c 7) (k := k) (by omega) (show T 102 (T 100 c 7 + k) 3 = cl ∨ T 102 (T 100 c 7 + k) 4 = cl by omega) (bs9_n (H := fun m => T 102 m 3) (show T 102 (T 100 c 7 + k) 3 ≠ cl by omega))
                  omega
              · refine And.intro (fun c10 => ?_) (fun c10 => ?_)
                · refine hK 74 [some (vR 106 0), some (vR 100 c), some (vI cl), some (vI n), some (vI a), some (vI w), some (vI k), some (vR 102 ((T 100 c 7) + k)), some (vI 0)] [] T ?_
                  refine j_blx (F := fX6) tb_X6 (nn_ _) bk_X6_countBreaks_e_74 bs_X6_countBreaks_e_74 hz (fun K hK => ?_)
                  refine rg_i (by omega) ?_
                  refine hK 11 [some (vR 106 0), some (vR 100 c), some (vI cl), some (vI n), some (vI 1), some (vI 0), some (vI (k + 1)), some (vR 102 ((T 100 c 7) + k)), some (vI 0)] [] T ?_
                  refine j_drop [some (vR 106 0), some (vR 100 c), some (vI cl), some (vI n), some (vI 1), some (vI 0), some (vI (k + 1)), none, none] (fun k v hk => ?_) rfl ?_
                  · match k, hk with
                    | 0, hk => exact hk
                    | 1, hk => exact hk
                    | 2, hk => exact hk
                    | 3, hk => exact hk
                    | 4, hk => exact hk
                    | 5, hk => exact hk
                    | 6, hk => exact hk
                    | 7, hk => cases hk
                    | 8, hk => cases hk
                    | k + 9, hk => cases hk
                  refine ih_11 _ ?_ n 1 0 (k + 1) (Nat.le_refl _) ?_ ?_
                  · have hm_11 := hm_11 (); omega
                  · omega
                  · have y9 := bk9_u (H := fun m => T 102 m 3) (A := fun m => T 102 m 4) (b := cl) (f := T 100 c 7) (k := k) (by omega) (show T 102 (T 100 c 7 + k) 3 = cl ∨ T 102 (T 100 c 7 + k) 4 = cl by omega) (bs9_n (H := fun m => T 102 m 3) (show T 102 (T 100 c 7 + k) 3 ≠ cl by omega))
                    omega
                · refine rg_i (by omega) ?_
                  refine rg_i (by omega) ?_
                  refine hK 11 [some (vR 106 0), some (vR 100 c), some (vI cl), some (vI (n + 1)), some (vI 1), some (vI 0), some (vI (k + 1)), some (vR 102 ((T 100 c 7) + k)), some (vI 0)] [] T ?_
                  refine j_drop [some (vR 106 0), some (vR 100 c), some (vI cl), some (vI (n + 1)), some (vI 1), some (vI 0), some (vI (k + 1)), none, none] (fun k v hk => ?_) rfl ?_
                  · match k, hk with
                    | 0, hk => exact hk
                    | 1, hk => exact hk
                    | 2, hk => exact hk
                    | 3, hk => exact hk
                    | 4, hk => exact hk
                    | 5, hk => exact hk
                    | 6, hk => exact hk
                    | 7, hk => cases hk
                    | 8, hk => cases hk
                    | k + 9, hk => cases hk
                  refine ih_11 _ ?_ (n + 1) 1 0 (k + 1) (Nat.le_refl _) ?_ ?_
                  · have hm_11 := hm_11 (); omega
                  · omega
                  · have y9 := bk9_u (H := fun m => T 102 m 3) (A := fun m => T 102 m 4) (b := cl) (f := T 100 c 7) (k := k) (by omega) (show T 102 (T 100 c 7 + k) 3 = cl ∨ T 102 (T 100 c 7 + k) 4 = cl by omega) (bs9_n (H := fun m => T 102 m 3) (show T 102 (T 100 c 7 + k) 3 ≠ cl by omega))
                    omega
            · refine hK 57 _ [vI 1] T ?_
              refine j_blx (F := fX6) tb_X6 (nn_ _) bk_X6_countBreaks_e_57 bs_X6_countBreaks_e_57 hz (fun K hK => ?_)
              refine And.intro (fun c11 => ?_) (fun c11 => ?_)
              · refine hK 74 [some (vR 106 0), some (vR 100 c), some (vI cl), some (vI n), some (vI a), some (vI w), some (vI k), some (vR 102 ((T 100 c 7) + k)), some (vI 1)] [] T ?_
                refine j_blx (F := fX6) tb_X6 (nn_ _) bk_X6_countBreaks_e_74 bs_X6_countBreaks_e_74 hz (fun K hK => ?_)
                refine rg_i (by omega) ?_
                refine hK 11 [some (vR 106 0), some (vR 100 c), some (vI cl), some (vI n), some (vI 1), some (vI 1), some (vI (k + 1)), some (vR 102 ((T 100 c 7) + k)), some (vI 1)] [] T ?_
                refine j_drop [some (vR 106 0), some (vR 100 c), some (vI cl), some (vI n), some (vI 1), some (vI 1), some (vI (k + 1)), none, none] (fun k v hk => ?_) rfl ?_
                · match k, hk with
                  | 0, hk => exact hk
                  | 1, hk => exact hk
                  | 2, hk => exact hk
                  | 3, hk => exact hk
                  | 4, hk => exact hk
                  | 5, hk => exact hk
                  | 6, hk => exact hk
                  | 7, hk => cases hk
                  | 8, hk => cases hk
                  | k + 9, hk => cases hk
                refine ih_11 _ ?_ n 1 1 (k + 1) (Nat.le_refl _) ?_ ?_
                · have hm_11 := hm_11 (); omega
                · omega
                · have y9 := bk9_u (H := fun m => T 102 m 3) (A := fun m => T 102 m 4) (b := cl) (f := T 100 c 7) (k := k) (by omega) (show T 102 (T 100 c 7 + k) 3 = cl ∨ T 102 (T 100 c 7 + k) 4 = cl by omega) (bs9_y (H := fun m => T 102 m 3) (show T 102 (T 100 c 7 + k) 3 = cl by omega))
                  omega
              · refine And.intro (fun c12 => ?_) (fun c12 => ?_)
                · refine hK 74 [some (vR 106 0), some (vR 100 c), some (vI cl), some (vI n), some (vI a), some (vI w), some (vI k), some (vR 102 ((T 100 c 7) + k)), some (vI 1)] [] T ?_
                  refine j_blx (F := fX6) tb_X6 (nn_ _) bk_X6_countBreaks_e_74 bs_X6_countBreaks_e_74 hz (fun K hK => ?_)
                  refine rg_i (by omega) ?_
                  refine hK 11 [some (vR 106 0), some (vR 100 c), some (vI cl), some (vI n), some (vI 1), some (vI 1), some (vI (k + 1)), some (vR 102 ((T 100 c 7) + k)), some (vI 1)] [] T ?_
                  refine j_drop [some (vR 106 0), some (vR 100 c), some (vI cl), some (vI n), some (vI 1), some (vI 1), some (vI (k + 1)), none, none] (fun k v hk => ?_) rfl ?_
                  · match k, hk with
                    | 0, hk => exact hk
                    | 1, hk => exact hk
                    | 2, hk => exact hk
                    | 3, hk => exact hk
                    | 4, hk => exact hk
                    | 5, hk => exact hk
                    | 6, hk => exact hk
                    | 7, hk => cases hk
                    | 8, hk => cases hk
                    | k + 9, hk => cases hk
                  refine ih_11 _ ?_ n 1 1 (k + 1) (Nat.le_refl _) ?_ ?_
                  · have hm_11 := hm_11 (); omega
                  · omega
                  · have y9 := bk9_u (H := fun m => T 102 m 3) (A := fun m => T 102 m 4) (b := cl) (f := T 100 c 7) (k := k) (by omega) (show T 102 (T 100 c 7 + k) 3 = cl ∨ T 102 (T 100 c 7 + k) 4 = cl by omega) (bs9_y (H := fun m => T 102 m 3) (show T 102 (T 100 c 7 + k) 3 = cl by omega))
                    omega
                · refine rg_i (by omega) ?_
                  refine rg_i (by omega) ?_
                  refine hK 11 [some (vR 106 0), some (vR 100 c), some (vI cl), some (vI (n + 1)), some (vI 1), some (vI 1), some (vI (k + 1)), some (vR 102 ((T 100 c 7) + k)), some (vI 1)] [] T ?_
                  refine j_drop [some (vR 106 0), some (vR 100 c), some (vI cl), some (vI (n + 1)), some (vI 1), some (vI 1), some (vI (k + 1)), none, none] (fun k v hk => ?_) rfl ?_
                  · match k, hk with
                    | 0, hk => exact hk
                    | 1, hk => exact hk
                    | 2, hk => exact hk
                    | 3, hk => exact hk
                    | 4, hk => exact hk
                    | 5, hk => exact hk
                    | 6, hk => exact hk
                    | 7, hk => cases hk
                    | 8, hk => cases hk
                    | k + 9, hk => cases hk
                  refine ih_11 _ ?_ (n + 1) 1 1 (k + 1) (Nat.le_refl _) ?_ ?_
                  · have hm_11 := hm_11 (); omega
                  · omega
                  · have y9 := bk9_u (H := fun m => T 102 m 3) (A := fun m => T 102 m 4) (b := cl) (f := T 100 c 7) (k := k) (by omega) (show T 102 (T 100 c 7 + k) 3 = cl ∨ T 102 (T 100 c 7 + k) 4 = cl by omega) (bs9_y (H := fun m => T 102 m 3) (show T 102 (T 100 c 7 + k) 3 = cl by omega))
                    omega
  refine j_blx (F := fX6) tb_X6 (nn_ _) bk_X6_countBreaks_e_0 bs_X6_countBreaks_e_0 hz (fun K hK => ?_)
  refine hK 11 [some (vR 106 0), some (vR 100 c), some (vI cl), some (vI 0), some (vI 0), some (vI 0), some (vI 0), none, none] [] T ?_
  refine c_11 _ 0 0 0 0 (Nat.le_refl _) ?_ ?_
  · omega
  · exact ⟨rfl, Or.inl ⟨rfl, rfl⟩⟩
