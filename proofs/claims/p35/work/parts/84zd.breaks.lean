/-- places apart -/
def dj_ : List (Nat × List Int) → List (Nat × List Int) → Bool
  | [], _ => true
  | (k, l) :: r, F => (match l with
    | [] => F.all fun q => q.1 != k
    | l => l.all fun j => !(fw_ F k j)) && dj_ r F
theorem fw_no {F : List (Nat × List Int)} {k : Nat} (h : (F.all fun q => q.1 != k) = true) (j : Int) : fw_ F k j = false := by
  induction F with
  | nil => rfl
  | cons q r ih =>
    obtain ⟨k', l⟩ := q
    simp only [List.all_cons, Bool.and_eq_true, bne_iff_ne, ne_eq] at h
    unfold fw_
    rw [ih (by simpa using h.2)]
    have z : (k == k') = false := by
      rw [beq_eq_false_iff_ne]
      exact fun e => h.1 e.symm
    rw [z]
    rfl
theorem dj_s {a F : List (Nat × List Int)} (h : dj_ a F = true) {k : Nat} {j : Int} (w : fw_ a k j = true) : fw_ F k j = false := by
  induction a with
  | nil => simp [fw_] at w
  | cons q r ih =>
    obtain ⟨k', l⟩ := q
    unfold dj_ at h
    unfold fw_ at w
    simp only [Bool.and_eq_true] at h
    simp only [Bool.or_eq_true, Bool.and_eq_true, beq_iff_eq] at w
    rcases w with ⟨rfl, w⟩ | w
    · cases l with
      | nil => exact fw_no h.1 j
      | cons x t =>
        have h1 := List.all_eq_true.mp h.1 j (by simpa using w)
        simpa using h1
    · exact ih h.2 w
/-- what a footprint names is as it was -/
def ks_ (F : List (Nat × List Int)) (T T' : Zt) : Prop := ∀ k i j, fw_ F k j = true → T' k i j = T k i j
theorem ks_f {a F : List (Nat × List Int)} {T T' : Zt} (f : fr_ a T T') (h : dj_ a F = true) : ks_ F T T' := fun k i j w => f k i j (by
  cases z : fw_ a k j
  · rfl
  · rw [dj_s h z] at w
    cases w)
theorem ks_t {F : List (Nat × List Int)} {T T1 T2 : Zt} (a : ks_ F T T1) (b : ks_ F T1 T2) : ks_ F T T2 := fun k i j w => (b k i j w).trans (a k i j w)
theorem ks_s {F G : List (Nat × List Int)} {T T' : Zt} (h : ks_ G T T') (s : fs_ F G = true) : ks_ F T T' := fun k i j w => h k i j (fs_sub s w)
-- breaks: one count for both sides (how many; the last side, -1 none)
def bs9_ (H : Int → Int) (b m : Int) : Int := if H m = b then 0 else 1
def bk9_ (H A : Int → Int) (b f : Int) : Nat → Int × Int
  | 0 => (0, -1)
  | k + 1 => if H (f + k) = b ∨ A (f + k) = b then ((bk9_ H A b f k).1 + (if bs9_ H b (f + k) = (bk9_ H A b f k).2 then 1 else 0), bs9_ H b (f + k)) else bk9_ H A b f k
theorem bk9_t {H A : Int → Int} {b f k : Int} (hk : 0 ≤ k) (c : H (f + k) = b ∨ A (f + k) = b) : bk9_ H A b f (k + 1).toNat = ((bk9_ H A b f k.toNat).1 + (if bs9_ H b (f + k) = (bk9_ H A b f k.toNat).2 then 1 else 0), bs9_ H b (f + k)) := by
  rw [show (k + 1).toNat = k.toNat + 1 by omega]
  show (if H (f + (k.toNat : Int)) = b ∨ A (f + (k.toNat : Int)) = b then _ else _) = _
  rw [show ((k.toNat : Nat) : Int) = k by omega, if_pos c]
theorem bk9_f {H A : Int → Int} {b f k : Int} (hk : 0 ≤ k) (c : ¬ (H (f + k) = b ∨ A (f + k) = b)) : bk9_ H A b f (k + 1).toNat = bk9_ H A b f k.toNat := by
  rw [show (k + 1).toNat = k.toNat + 1 by omega]
  show (if H (f + (k.toNat : Int)) = b ∨ A (f + (k.toNat : Int)) = b then _ else _) = _
  rw [show ((k.toNat : Nat) : Int) = k by omega, if_neg c]
theorem bk9_e {H A H2 A2 : Int → Int} {b f : Int} : ∀ n : Nat, (∀ j, f ≤ j → j < f + n → H j = H2 j ∧ A j = A2 j) → bk9_ H A b f n = bk9_ H2 A2 b f n
  | 0, _ => rfl
  | n + 1, h => by
    have i := bk9_e (b := b) n (fun j a c => h j a (by omega))
    obtain ⟨h1, h2⟩ := h (f + n) (by omega) (by omega)
    unfold bk9_
    rw [i, h1, h2]
    unfold bs9_
    rw [h1]
theorem bs9_y {H : Int → Int} {b m : Int} (h : H m = b) : bs9_ H b m = 0 := if_pos h
theorem bs9_n {H : Int → Int} {b m : Int} (h : H m ≠ b) : bs9_ H b m = 1 := if_neg h
theorem bk9_u {H A : Int → Int} {b f k s : Int} (hk : 0 ≤ k) (c : H (f + k) = b ∨ A (f + k) = b) (hs : bs9_ H b (f + k) = s) : (bk9_ H A b f (k + 1).toNat).2 = s ∧ ((s = (bk9_ H A b f k.toNat).2 ∧ (bk9_ H A b f (k + 1).toNat).1 = (bk9_ H A b f k.toNat).1 + 1) ∨ (s ≠ (bk9_ H A b f k.toNat).2 ∧ (bk9_ H A b f (k + 1).toNat).1 = (bk9_ H A b f k.toNat).1)) := by
  have e := bk9_t (A := A) hk c
  rw [hs] at e
  rw [e]
  refine ⟨rfl, ?_⟩
  by_cases z : s = (bk9_ H A b f k.toNat).2
  · exact Or.inl ⟨z, by rw [if_pos z]⟩
  · exact Or.inr ⟨z, by rw [if_neg z]; exact Int.add_zero _⟩
/-- what breaks answers, of the house and of the reference -/
def BH9_ (T : Zt) (c b x : Int) : Prop := (x = -2 ∧ ¬ ((0 ≤ c ∧ c < T 106 0 2) ∧ 0 ≤ b ∧ b < T 108 0 2)) ∨ (((0 ≤ c ∧ c < T 106 0 2) ∧ 0 ≤ b ∧ b < T 108 0 2) ∧ ((x = -4 ∧ (T 404 c b = -1 ∨ T 100 c 6 = 0)) ∨ (T 404 c b ≠ -1 ∧ T 100 c 6 ≠ 0 ∧ x = (bk9_ (fun m => T 102 m 3) (fun m => T 102 m 4) b (T 100 c 7) (T 100 c 8).toNat).1)))
def BR9_ (T : Zt) (c b x : Int) : Prop := (x = -2 ∧ ¬ ((0 ≤ c ∧ c < T 111 0 6) ∧ 0 ≤ b ∧ b < T 111 0 12)) ∨ (((0 ≤ c ∧ c < T 111 0 6) ∧ 0 ≤ b ∧ b < T 111 0 12) ∧ ((x = -4 ∧ (T 209 0 c = 0 ∨ ¬ HE_ T c b)) ∨ (T 209 0 c ≠ 0 ∧ HE_ T c b ∧ x = (bk9_ (fun m => T 232 0 m) (fun m => T 233 0 m) b (T 210 0 c) (T 211 0 c).toNat).1)))
/-- breaks on both sides -/
theorem brk_e {T : Zt} {c b x1 x2 : Int} (h : ENR_ T) (hm : MAR_ T) (hk : KE_ T) (hl : KC_ T) (hcc : T 106 0 2 = T 111 0 6) (hc : T 108 0 2 = T 111 0 12) (hc12 : T 108 0 2 ≤ 12) (hb7 : ∀ d, 0 ≤ T 100 d 7 ∧ 0 ≤ T 100 d 8) (d1 : BH9_ T c b x1) (d2 : BR9_ T c b x2) : x1 = x2 := by
  rcases d1 with ⟨a1, a2⟩ | ⟨a0, a1⟩
  · rcases d2 with ⟨f1, f2⟩ | ⟨f0, f1⟩
    · omega
    · exact absurd (by omega) a2
  · rcases d2 with ⟨f1, f2⟩ | ⟨f0, f1⟩
    · exact absurd (by omega) f2
    · have z := h.1 c a0.1.1 a0.1.2
      have g := he9_i z (hk c a0.1.1 a0.1.2) ⟨a0.2.1, by omega⟩
      obtain ⟨z1, z2, z3, z4, z5, z6⟩ := z
      rcases a1 with ⟨a1, a2⟩ | ⟨a1, a2, a3⟩
      · rcases f1 with ⟨f1, f2⟩ | ⟨f1, f2, f3⟩
        · omega
        · exfalso
          have := g.mpr f2
          omega
      · rcases f1 with ⟨f1, f2⟩ | ⟨f1, f2, f3⟩
        · exfalso
          rcases f2 with f2 | f2
          · omega
          · exact f2 (g.mp a1)
        · have l := hl c a0.1.1 a0.1.2
          have q := hb7 c
          rw [a3, f3, ← z3, ← z4]
          rw [bk9_e (H2 := fun m => T 232 0 m) (A2 := fun m => T 233 0 m) (T 100 c 8).toNat (fun j p r => ?_)]
          have y := hm.2 j (by omega) (by omega)
          exact ⟨y.2.2.1, y.2.2.2⟩
theorem bk_X2_has_e_0 : ck_ fX2 (some .boolean) cX2_has 0 [.aload 0, .tableswitch 0 2 3 #[], .iload 1, .if_icmp .eq 16, .aload 0, .tableswitch 0 2 4 #[], .iload 1, .if_icmp .ne 20, .iconst 1, .goto 21] 20 = true := qck_r (nn_ _) (by decide +kernel)
theorem bs_X2_has_e_0 {P : Zt → Option Zv → Prop} (K : Int → Zl → List Zv → Zt → Prop) : sx_ K P [.aload 0, .tableswitch 0 2 3 #[], .iload 1, .if_icmp .eq 16, .aload 0, .tableswitch 0 2 4 #[], .iload 1, .if_icmp .ne 20, .iconst 1, .goto 21] 20 = x_aload 0 (x_g0 102 3 0 11 (x_iload 1 (x_if_icmp .eq 16 K (x_aload 0 (x_g0 102 4 0 11 (x_iload 1 (x_if_icmp .ne 20 K (x_iconst 1 (x_goto 21 K))))))))) := ((xe_aload 0).trans (congrArg (x_aload 0) ((xe_g0 (kk := 102) rfl tl_2_3).trans (congrArg (x_g0 102 3 0 11) ((xe_iload 1).trans (congrArg (x_iload 1) ((xe_if_icmp .eq 16).trans (congrArg (x_if_icmp .eq 16 K) ((xe_aload 0).trans (congrArg (x_aload 0) ((xe_g0 (kk := 102) rfl tl_2_4).trans (congrArg (x_g0 102 4 0 11) ((xe_iload 1).trans (congrArg (x_iload 1) ((xe_if_icmp .ne 20).trans (congrArg (x_if_icmp .ne 20 K) ((xe_iconst 1).trans (congrArg (x_iconst 1) (xe_goto 21)))))))))))))))))))
theorem bk_X2_has_e_16 : ck_ fX2 (some .boolean) cX2_has 16 [.iconst 1, .goto 21] 20 = true := qck_r (nn_ _) (by decide +kernel)
theorem bs_X2_has_e_16 {P : Zt → Option Zv → Prop} (K : Int → Zl → List Zv → Zt → Prop) : sx_ K P [.iconst 1, .goto 21] 20 = x_iconst 1 (x_goto 21 K) := ((xe_iconst 1).trans (congrArg (x_iconst 1) (xe_goto 21)))
theorem bk_X2_has_e_21 : ck_ fX2 (some .boolean) cX2_has 21 [.ireturn] 22 = true := qck_r (nn_ _) (by decide +kernel)
theorem bs_X2_has_e_21 {P : Zt → Option Zv → Prop} (K : Int → Zl → List Zv → Zt → Prop) : sx_ K P [.ireturn] 22 = x_ireturn P := (xe_ireturn)
theorem bk_X2_has_e_20 : ck_ fX2 (some .boolean) cX2_has 20 [.iconst 0, .ireturn] 22 = true := qck_r (nn_ _) (by decide +kernel)
theorem bs_X2_has_e_20 {P : Zt → Option Zv → Prop} (K : Int → Zl → List Zv → Zt → Prop) : sx_ K P [.iconst 0, .ireturn] 22 = x_iconst 0 (x_ireturn P) := ((xe_iconst 0).trans (congrArg (x_iconst 0) (xe_ireturn)))
abbrev po_X2_has_e (T : Zt) (p : Int) (c : Int) : Zt → Option Zv → Prop := fun T' r => T = T' ∧ ∃ x : Int, r = some (vI x) ∧ ((x = 1 ∧ (T 102 p 3 = c ∨ T 102 p 4 = c)) ∨ (x = 0 ∧ ¬ (T 102 p 3 = c ∨ T 102 p 4 = c)))
set_option maxHeartbeats 4000000 in
theorem ct_X2_has_e {T : Zt} {p : Int} {c : Int} : Ct_ yX2_has zX2_has T [vR 102 p, vI c] (po_X2_has_e T p c) := by
  refine ct_of pn_2 rfl rfl (Nat.le_of_ble_eq_true rfl) (fun hT hav => ?_)
  have hr_c : -2147483648 ≤ c ∧ c ≤ 2147483647 := hav (vI c) (List.mem_cons_of_mem _ List.mem_cons_self)
  have hz : zX2_has.2.2.2.1 = some .boolean → ∀ (T' : Zt) (x : Int), po_X2_has_e T p c T' (some (vI x)) → 0 ≤ x ∧ x ≤ 1 := fun _ T' x h => by obtain ⟨-, y, e, hy⟩ := h; cases e; omega
  show J_ zX2_has T (po_X2_has_e T p c) 0 0 0 [some (vR 102 p), some (vI c)] [] T
  refine j_blx (F := fX2) tb_X2 (nn_ _) bk_X2_has_e_0 bs_X2_has_e_0 hz (fun K hK => ?_)
  intro b1 b1b
  refine And.intro (fun c2 => ?_) (fun c2 => ?_)
  · refine hK 16 _ [] T ?_
    refine j_blx (F := fX2) tb_X2 (nn_ _) bk_X2_has_e_16 bs_X2_has_e_16 hz (fun K hK => ?_)
    refine hK 21 _ [vI 1] T ?_
    refine j_blx (F := fX2) tb_X2 (nn_ _) bk_X2_has_e_21 bs_X2_has_e_21 hz (fun K hK => ?_)
    refine (show po_X2_has_e T p c T (some (vI 1)) from ?_)
    exact ⟨rfl, _, rfl, Or.inl ⟨rfl, by omega⟩⟩
  · intro b3 b3b
    refine And.intro (fun c4 => ?_) (fun c4 => ?_)
    · refine hK 20 _ [] T ?_
      refine j_blx (F := fX2) tb_X2 (nn_ _) bk_X2_has_e_20 bs_X2_has_e_20 hz (fun K hK => ?_)
      refine (show po_X2_has_e T p c T (some (vI 0)) from ?_)
      exact ⟨rfl, _, rfl, Or.inr ⟨rfl, by omega⟩⟩
    · refine hK 21 _ [vI 1] T ?_
      refine j_blx (F := fX2) tb_X2 (nn_ _) bk_X2_has_e_21 bs_X2_has_e_21 hz (fun K hK => ?_)
      refine (show po_X2_has_e T p c T (some (vI 1)) from ?_)
      exact ⟨rfl, _, rfl, Or.inl ⟨rfl, by omega⟩⟩
theorem bk_X6_countBreaks_e_11 : ck_ fX6 (some .int) cX6_countBreaks 11 [.iload 6, .aload 1, .tableswitch 0 0 8 #[], .if_icmp .ge 87, .aload 0, .tableswitch 0 6 3 #[], .aload 1, .tableswitch 0 0 7 #[], .iload 6, .iadd, .aaload, .astore 7, .aload 7, .iload 2] 37 = true := qck_r (nn_ _) (by decide +kernel)
theorem bs_X6_countBreaks_e_11 {P : Zt → Option Zv → Prop} (K : Int → Zl → List Zv → Zt → Prop) : sx_ K P [.iload 6, .aload 1, .tableswitch 0 0 8 #[], .if_icmp .ge 87, .aload 0, .tableswitch 0 6 3 #[], .aload 1, .tableswitch 0 0 7 #[], .iload 6, .iadd, .aaload, .astore 7, .aload 7, .iload 2] 37 = x_iload 6 (x_aload 1 (x_g0 100 8 0 400 (x_if_icmp .ge 87 K (x_aload 0 (x_g1 106 523 (x_aload 1 (x_g0 100 7 0 400 (x_iload 6 (x_iadd (x_aaload (x_astore 7 (x_aload 7 (x_iload 2 (K 37)))))))))))))) := ((xe_iload 6).trans (congrArg (x_iload 6) ((xe_aload 1).trans (congrArg (x_aload 1) ((xe_g0 (kk := 100) rfl tl_0_8).trans (congrArg (x_g0 100 8 0 400) ((xe_if_icmp .ge 87).trans (congrArg (x_if_icmp .ge 87 K) ((xe_aload 0).trans (congrArg (x_aload 0) ((xe_g1 (kk := 106) rfl tl_6_3).trans (congrArg (x_g1 106 523) ((xe_aload 1).trans (congrArg (x_aload 1) ((xe_g0 (kk := 100) rfl tl_0_7).trans (congrArg (x_g0 100 7 0 400) ((xe_iload 6).trans (congrArg (x_iload 6) ((xe_iadd).trans (congrArg (x_iadd) ((xe_aaload).trans (congrArg (x_aaload) ((xe_astore 7).trans (congrArg (x_astore 7) ((xe_aload 7).trans (congrArg (x_aload 7) ((xe_iload 2).trans (congrArg (x_iload 2) xe_nil))))))))))))))))))))))))))))
theorem bk_X6_countBreaks_e_87 : ck_ fX6 (some .int) cX6_countBreaks 87 [.iload 3, .ireturn] 89 = true := qck_r (nn_ _) (by decide +kernel)
theorem bs_X6_countBreaks_e_87 {P : Zt → Option Zv → Prop} (K : Int → Zl → List Zv → Zt → Prop) : sx_ K P [.iload 3, .ireturn] 89 = x_iload 3 (x_ireturn P) := ((xe_iload 3).trans (congrArg (x_iload 3) (xe_ireturn)))
theorem bk_X6_countBreaks_e_40 : ck_ fX6 (some .int) cX6_countBreaks 40 [.ifCond .eq 81, .aload 7, .tableswitch 0 2 3 #[], .iload 2, .if_icmp .ne 56, .iconst 1, .goto 57] 56 = true := qck_r (nn_ _) (by decide +kernel)
theorem bs_X6_countBreaks_e_40 {P : Zt → Option Zv → Prop} (K : Int → Zl → List Zv → Zt → Prop) : sx_ K P [.ifCond .eq 81, .aload 7, .tableswitch 0 2 3 #[], .iload 2, .if_icmp .ne 56, .iconst 1, .goto 57] 56 = x_ifCond .eq 81 K (x_aload 7 (x_g0 102 3 0 11 (x_iload 2 (x_if_icmp .ne 56 K (x_iconst 1 (x_goto 57 K)))))) := ((xe_ifCond .eq 81).trans (congrArg (x_ifCond .eq 81 K) ((xe_aload 7).trans (congrArg (x_aload 7) ((xe_g0 (kk := 102) rfl tl_2_3).trans (congrArg (x_g0 102 3 0 11) ((xe_iload 2).trans (congrArg (x_iload 2) ((xe_if_icmp .ne 56).trans (congrArg (x_if_icmp .ne 56 K) ((xe_iconst 1).trans (congrArg (x_iconst 1) (xe_goto 57)))))))))))))
theorem bk_X6_countBreaks_e_81 : ck_ fX6 (some .int) cX6_countBreaks 81 [.iinc 6 1, .goto 11] 87 = true := qck_r (nn_ _) (by decide +kernel)
theorem bs_X6_countBreaks_e_81 {P : Zt → Option Zv → Prop} (K : Int → Zl → List Zv → Zt → Prop) : sx_ K P [.iinc 6 1, .goto 11] 87 = x_iinc 6 1 (x_goto 11 K) := ((xe_iinc 6 1).trans (congrArg (x_iinc 6 1) (xe_goto 11)))
theorem bk_X6_countBreaks_e_56 : ck_ fX6 (some .int) cX6_countBreaks 56 [.iconst 0, .istore 8, .iload 4, .ifCond .eq 74, .iload 8, .iload 5, .if_icmp .ne 74, .iinc 3 1, .iconst 1, .istore 4, .iload 8, .istore 5, .iinc 6 1, .goto 11] 87 = true := qck_r (nn_ _) (by decide +kernel)
theorem bs_X6_countBreaks_e_56 {P : Zt → Option Zv → Prop} (K : Int → Zl → List Zv → Zt → Prop) : sx_ K P [.iconst 0, .istore 8, .iload 4, .ifCond .eq 74, .iload 8, .iload 5, .if_icmp .ne 74, .iinc 3 1, .iconst 1, .istore 4, .iload 8, .istore 5, .iinc 6 1, .goto 11] 87 = x_iconst 0 (x_istore 8 (x_iload 4 (x_ifCond .eq 74 K (x_iload 8 (x_iload 5 (x_if_icmp .ne 74 K (x_iinc 3 1 (x_iconst 1 (x_istore 4 (x_iload 8 (x_istore 5 (x_iinc 6 1 (x_goto 11 K))))))))))))) := ((xe_iconst 0).trans (congrArg (x_iconst 0) ((xe_istore 8).trans (congrArg (x_istore 8) ((xe_iload 4).trans (congrArg (x_iload 4) ((xe_ifCond .eq 74).trans (congrArg (x_ifCond .eq 74 K) ((xe_iload 8).trans (congrArg (x_iload 8) ((xe_iload 5).trans (congrArg (x_iload 5) ((xe_if_icmp .ne 74).trans (congrArg (x_if_icmp .ne 74 K) ((xe_iinc 3 1).trans (congrArg (x_iinc 3 1) ((xe_iconst 1).trans (congrArg (x_iconst 1) ((xe_istore 4).trans (congrArg (x_istore 4) ((xe_iload 8).trans (congrArg (x_iload 8) ((xe_istore 5).trans (congrArg (x_istore 5) ((xe_iinc 6 1).trans (congrArg (x_iinc 6 1) (xe_goto 11)))))))))))))))))))))))))))
theorem bk_X6_countBreaks_e_74 : ck_ fX6 (some .int) cX6_countBreaks 74 [.iconst 1, .istore 4, .iload 8, .istore 5, .iinc 6 1, .goto 11] 87 = true := qck_r (nn_ _) (by decide +kernel)
theorem bs_X6_countBreaks_e_74 {P : Zt → Option Zv → Prop} (K : Int → Zl → List Zv → Zt → Prop) : sx_ K P [.iconst 1, .istore 4, .iload 8, .istore 5, .iinc 6 1, .goto 11] 87 = x_iconst 1 (x_istore 4 (x_iload 8 (x_istore 5 (x_iinc 6 1 (x_goto 11 K))))) := ((xe_iconst 1).trans (congrArg (x_iconst 1) ((xe_istore 4).trans (congrArg (x_istore 4) ((xe_iload 8).trans (congrArg (x_iload 8) ((xe_istore 5).trans (congrArg (x_istore 5) ((xe_iinc 6 1).trans (congrArg (x_iinc 6 1) (xe_goto 11)))))))))))
theorem bk_X6_countBreaks_e_57 : ck_ fX6 (some .int) cX6_countBreaks 57 [.istore 8, .iload 4, .ifCond .eq 74, .iload 8, .iload 5, .if_icmp .ne 74, .iinc 3 1, .iconst 1, .istore 4, .iload 8, .istore 5, .iinc 6 1, .goto 11] 87 = true := qck_r (nn_ _) (by decide +kernel)
theorem bs_X6_countBreaks_e_57 {P : Zt → Option Zv → Prop} (K : Int → Zl → List Zv → Zt → Prop) : sx_ K P [.istore 8, .iload 4, .ifCond .eq 74, .iload 8, .iload 5, .if_icmp .ne 74, .iinc 3 1, .iconst 1, .istore 4, .iload 8, .istore 5, .iinc 6 1, .goto 11] 87 = x_istore 8 (x_iload 4 (x_ifCond .eq 74 K (x_iload 8 (x_iload 5 (x_if_icmp .ne 74 K (x_iinc 3 1 (x_iconst 1 (x_istore 4 (x_iload 8 (x_istore 5 (x_iinc 6 1 (x_goto 11 K)))))))))))) := ((xe_istore 8).trans (congrArg (x_istore 8) ((xe_iload 4).trans (congrArg (x_iload 4) ((xe_ifCond .eq 74).trans (congrArg (x_ifCond .eq 74 K) ((xe_iload 8).trans (congrArg (x_iload 8) ((xe_iload 5).trans (congrArg (x_iload 5) ((xe_if_icmp .ne 74).trans (congrArg (x_if_icmp .ne 74 K) ((xe_iinc 3 1).trans (congrArg (x_iinc 3 1) ((xe_iconst 1).trans (congrArg (x_iconst 1) ((xe_istore 4).trans (congrArg (x_istore 4) ((xe_iload 8).trans (congrArg (x_iload 8) ((xe_istore 5).trans (congrArg (x_istore 5) ((xe_iinc 6 1).trans (congrArg (x_iinc 6 1) (xe_goto 11)))))))))))))))))))))))))
theorem bk_X6_countBreaks_e_0 : ck_ fX6 (some .int) cX6_countBreaks 0 [.iconst 0, .istore 3, .iconst 0, .istore 4, .iconst 0, .istore 5, .iconst 0, .istore 6] 11 = true := qck_r (nn_ _) (by decide +kernel)
theorem bs_X6_countBreaks_e_0 {P : Zt → Option Zv → Prop} (K : Int → Zl → List Zv → Zt → Prop) : sx_ K P [.iconst 0, .istore 3, .iconst 0, .istore 4, .iconst 0, .istore 5, .iconst 0, .istore 6] 11 = x_iconst 0 (x_istore 3 (x_iconst 0 (x_istore 4 (x_iconst 0 (x_istore 5 (x_iconst 0 (x_istore 6 (K 11)))))))) := ((xe_iconst 0).trans (congrArg (x_iconst 0) ((xe_istore 3).trans (congrArg (x_istore 3) ((xe_iconst 0).trans (congrArg (x_iconst 0) ((xe_istore 4).trans (congrArg (x_istore 4) ((xe_iconst 0).trans (congrArg (x_iconst 0) ((xe_istore 5).trans (congrArg (x_istore 5) ((xe_iconst 0).trans (congrArg (x_iconst 0) ((xe_istore 6).trans (congrArg (x_istore 6) xe_nil))))))))))))))))
abbrev po_X6_countBreaks_e (T : Zt) (c : Int) (cl : Int) : Zt → Option Zv → Prop := fun T' r => T = T' ∧ ∃ x : Int, r = some (vI x) ∧ (x = (bk9_ (fun m => T 102 m 3) (fun m => T 102 m 4) cl (T 100 c 7) (T 100 c 8).toNat).1)
set_option maxHeartbeats 4000000 in
theorem ct_X6_countBreaks_e {T : Zt} {c : Int} {cl : Int} (hka : KA_ T) (hcm : T 100 c 7 + T 100 c 8 ≤ T 106 0 4) : Ct_ yX6_countBreaks zX6_countBreaks T [vR 106 0, vR 100 c, vI cl] (po_X6_countBreaks_e T c cl) := by
  refine ct_of pn_6 rfl rfl (Nat.le_of_ble_eq_true rfl) (fun hT hav => ?_)
  have hr_cl : -2147483648 ≤ cl ∧ cl ≤ 2147483647 := hav (vI cl) (List.mem_cons_of_mem _ (List.mem_cons_of_mem _ List.mem_cons_self))
  have hz : zX6_countBreaks.2.2.2.1 = some .boolean → ∀ (T' : Zt) (x : Int), po_X6_countBreaks_e T c cl T' (some (vI x)) → 0 ≤ x ∧ x ≤ 1 := fun h => by cases h
  have hb_matchCount : 0 ≤ T 106 0 4 ∧ T 106 0 4 ≤ 400 := bd_f hT 106 4 tl_6_4 0
  have hb7 : 0 ≤ T 100 c 7 ∧ T 100 c 7 ≤ 400 := bd_f hT 100 7 tl_0_7 c
  have hb8 : 0 ≤ T 100 c 8 ∧ T 100 c 8 ≤ 400 := bd_f hT 100 8 tl_0_8 c
  show J_ zX6_countBreaks T (po_X6_countBreaks_e T c cl) 0 0 0 [some (vR 106 0), some (vR 100 c), some (vI cl), none, none, none, none, none, none] [] T
  have c_11 : ∀ (nn : Nat) (n : Int) (a : Int) (w : Int) (k : Int), ((400 - k).toNat) ≤ nn → (0 ≤ n ∧ n ≤ k ∧ 0 ≤ k ∧ k ≤ T 100 c 8) → (n = (bk9_ (fun m => T 102 m 3) (fun m => T 102 m 4) cl (T 100 c 7) k.toNat).1 ∧ ((a = 0 ∧ (bk9_ (fun m => T 102 m 3) (fun m => T 102 m 4) cl (T 100 c 7) k.toNat).2 = -1) ∨ (a = 1 ∧ (bk9_ (fun m => T 102 m 3) (fun m => T 102 m 4) cl (T 100 c 7) k.toNat).2 = 1 - w ∧ (w = 0 ∨ w = 1)))) → J_ zX6_countBreaks T (po_X6_countBreaks_e T c cl) 0 0 11 [some (vR 106 0), some (vR 100 c), some (vI cl), some (vI n), some (vI a), some (vI w), some (vI k), none, none] [] T := by
    intro nn
    induction nn using Nat.strongRecOn with
    | _ nn ih_11 =>
      intro n a w k hm_11 i1 ib
      replace hm_11 := fun (_ : Unit) => hm_11
      refine j_blx (F := fX6) tb_X6 (nn_ _) bk_X6_countBreaks_e_11 bs_X6_countBreaks_e_11 hz (fun K hK => ?_)
      intro b1 b1b
      refine And.intro (fun c2 => ?_) (fun c2 => ?_)
      · refine hK 87 _ [] T ?_
        refine j_blx (F := fX6) tb_X6 (nn_ _) bk_X6_countBreaks_e_87 bs_X6_countBreaks_e_87 hz (fun K hK => ?_)
        refine (show po_X6_countBreaks_e T c cl T (some (vI n)) from ?_)
        exact ⟨rfl, _, rfl, by rw [show T 100 c 8 = k by omega]; exact ib.1⟩
      · intro b3 b3b
        refine rg_i (by omega) ?_
        refine ix_i (by omega) ?_
        refine And.intro (fun c4 => ?_) (fun c4 => ?_)
        · exact absurd c4 (hka.2 _ (by omega) (by omega))
        · refine hK 37 [some (vR 106 0), some (vR 100 c), some (vI cl), some (vI n), some (vI a), some (vI w), some (vI k), some (vR 102 ((T 100 c 7) + k)), none] [vI cl, vR 102 ((T 100 c 7) + k)] T ?_
          refine j_callV (y := yX2_has) (Yc := zX2_has) (rest := []) [vI cl] (ct_X2_has_e (T := T)) cl_X6_88 (qd_c (by decide +kernel)) (nn_ _) rfl (rf_of rfl) (Nat.le_of_ble_eq_true rfl) (Nat.le_of_ble_eq_true rfl) (Nat.le_of_ble_eq_true rfl) rfl ?_
          rintro _ _ ⟨rfl, x5, rfl, hx5⟩
          show J_ zX6_countBreaks T (po_X6_countBreaks_e T c cl) 0 0 40 _ [vI x5] T
          refine j_blx (F := fX6) tb_X6 (nn_ _) bk_X6_countBreaks_e_40 bs_X6_countBreaks_e_40 hz (fun K hK => ?_)
          refine And.intro (fun c6 => ?_) (fun c6 => ?_)
          · replace hx5 := hx5.resolve_left (fun z => absurd (c6.symm.trans z.1) (by decide))
            clear c6
            refine hK 81 _ [] T ?_
            refine j_blx (F := fX6) tb_X6 (nn_ _) bk_X6_countBreaks_e_81 bs_X6_countBreaks_e_81 hz (fun K hK => ?_)
            refine rg_i (by omega) ?_
            refine hK 11 [some (vR 106 0), some (vR 100 c), some (vI cl), some (vI n), some (vI a), some (vI w), some (vI (k + 1)), some (vR 102 ((T 100 c 7) + k)), none] [] T ?_
            refine j_drop [some (vR 106 0), some (vR 100 c), some (vI cl), some (vI n), some (vI a), some (vI w), some (vI (k + 1)), none, none] (fun k v hk => ?_) rfl ?_
            · match k, hk with
              | 0, hk => exact hk
              | 1, hk => exact hk
              | 2, hk => exact hk
              | 3, hk => exact hk
              | 4, hk => exact hk
              | 5, hk => exact hk
              | 6, hk => exact hk
              | 7, hk => cases hk
              | 8, hk => cases hk
              | k + 9, hk => cases hk
            refine ih_11 _ ?_ n a w (k + 1) (Nat.le_refl _) ?_ ?_
            · have hm_11 := hm_11 (); omega
            · omega
            · rw [bk9_f (H := fun m => T 102 m 3) (A := fun m => T 102 m 4) (b := cl) (f := T 100 c 7) (k := k) (by omega) (show ¬ (T 102 (T 100 c 7 + k) 3 = cl ∨ T 102 (T 100 c 7 + k) 4 = cl) by omega)]
              exact ib
          · replace hx5 := hx5.resolve_right (fun z => c6 z.1)
            clear c6
            intro b7 b7b
            refine And.intro (fun c8 => ?_) (fun c8 => ?_)
            · refine hK 56 [some (vR 106 0), some (vR 100 c), some (vI cl), some (vI n), some (vI a), some (vI w), some (vI k), some (vR 102 ((T 100 c 7) + k)), none] [] T ?_
              refine j_blx (F := fX6) tb_X6 (nn_ _) bk_X6_countBreaks_e_56 bs_X6_countBreaks_e_56 hz (fun K hK => ?_)
              refine And.intro (fun c9 => ?_) (fun c9 => ?_)
              · refine hK 74 [some (vR 106 0), some (vR 100 c), some (vI cl), some (vI n), some (vI a), some (vI w), some (vI k), some (vR 102 ((T 100 c 7) + k)), some (vI 0)] [] T ?_
                refine j_blx (F := fX6) tb_X6 (nn_ _) bk_X6_countBreaks_e_74 bs_X6_countBreaks_e_74 hz (fun K hK => ?_)
                refine rg_i (by omega) ?_
                refine hK 11 [some (vR 106 0), some (vR 100 c), some (vI cl), some (vI n), some (vI 1), some (vI 0), some (vI (k + 1)), some (vR 102 ((T 100 c 7) + k)), some (vI 0)] [] T ?_
                refine j_drop [some (vR 106 0), some (vR 100 c), some (vI cl), some (vI n), some (vI 1), some (vI 0), some (vI (k + 1)), none, none] (fun k v hk => ?_) rfl ?_
                · match k, hk with
                  | 0, hk => exact hk
                  | 1, hk => exact hk
                  | 2, hk => exact hk
                  | 3, hk => exact hk
                  | 4, hk => exact hk
                  | 5, hk => exact hk
                  | 6, hk => exact hk
                  | 7, hk => cases hk
                  | 8, hk => cases hk
                  | k + 9, hk => cases hk
                refine ih_11 _ ?_ n 1 0 (k + 1) (Nat.le_refl _) ?_ ?_
                · have hm_11 := hm_11 (); omega
                · omega
                · have y9 := bk9_u (H := fun m => T 102 m 3) (A := fun m => T 102 m 4) (b := cl) (f := T 100 c 7) (k := k) (by omega) (show T 102 (T 100 c 7 + k) 3 = cl ∨ T 102 (T 100 c 7 + k) 4 = cl by omega) (bs9_n (H := fun m => T 102 m 3) (show T 102 (T 100 c 7 + k) 3 ≠ cl by omega))
                  omega
              · refine And.intro (fun c10 => ?_) (fun c10 => ?_)
                · refine hK 74 [some (vR 106 0), some (vR 100 c), some (vI cl), some (vI n), some (vI a), some (vI w), some (vI k), some (vR 102 ((T 100 c 7) + k)), some (vI 0)] [] T ?_
                  refine j_blx (F := fX6) tb_X6 (nn_ _) bk_X6_countBreaks_e_74 bs_X6_countBreaks_e_74 hz (fun K hK => ?_)
                  refine rg_i (by omega) ?_
                  refine hK 11 [some (vR 106 0), some (vR 100 c), some (vI cl), some (vI n), some (vI 1), some (vI 0), some (vI (k + 1)), some (vR 102 ((T 100 c 7) + k)), some (vI 0)] [] T ?_
                  refine j_drop [some (vR 106 0), some (vR 100 c), some (vI cl), some (vI n), some (vI 1), some (vI 0), some (vI (k + 1)), none, none] (fun k v hk => ?_) rfl ?_
                  · match k, hk with
                    | 0, hk => exact hk
                    | 1, hk => exact hk
                    | 2, hk => exact hk
                    | 3, hk => exact hk
                    | 4, hk => exact hk
                    | 5, hk => exact hk
                    | 6, hk => exact hk
                    | 7, hk => cases hk
                    | 8, hk => cases hk
                    | k + 9, hk => cases hk
                  refine ih_11 _ ?_ n 1 0 (k + 1) (Nat.le_refl _) ?_ ?_
                  · have hm_11 := hm_11 (); omega
                  · omega
                  · have y9 := bk9_u (H := fun m => T 102 m 3) (A := fun m => T 102 m 4) (b := cl) (f := T 100 c 7) (k := k) (by omega) (show T 102 (T 100 c 7 + k) 3 = cl ∨ T 102 (T 100 c 7 + k) 4 = cl by omega) (bs9_n (H := fun m => T 102 m 3) (show T 102 (T 100 c 7 + k) 3 ≠ cl by omega))
                    omega
                · refine rg_i (by omega) ?_
                  refine rg_i (by omega) ?_
                  refine hK 11 [some (vR 106 0), some (vR 100 c), some (vI cl), some (vI (n + 1)), some (vI 1), some (vI 0), some (vI (k + 1)), some (vR 102 ((T 100 c 7) + k)), some (vI 0)] [] T ?_
                  refine j_drop [some (vR 106 0), some (vR 100 c), some (vI cl), some (vI (n + 1)), some (vI 1), some (vI 0), some (vI (k + 1)), none, none] (fun k v hk => ?_) rfl ?_
                  · match k, hk with
                    | 0, hk => exact hk
                    | 1, hk => exact hk
                    | 2, hk => exact hk
                    | 3, hk => exact hk
                    | 4, hk => exact hk
                    | 5, hk => exact hk
                    | 6, hk => exact hk
                    | 7, hk => cases hk
                    | 8, hk => cases hk
                    | k + 9, hk => cases hk
                  refine ih_11 _ ?_ (n + 1) 1 0 (k + 1) (Nat.le_refl _) ?_ ?_
                  · have hm_11 := hm_11 (); omega
                  · omega
                  · have y9 := bk9_u (H := fun m => T 102 m 3) (A := fun m => T 102 m 4) (b := cl) (f := T 100 c 7) (k := k) (by omega) (show T 102 (T 100 c 7 + k) 3 = cl ∨ T 102 (T 100 c 7 + k) 4 = cl by omega) (bs9_n (H := fun m => T 102 m 3) (show T 102 (T 100 c 7 + k) 3 ≠ cl by omega))
                    omega
            · refine hK 57 _ [vI 1] T ?_
              refine j_blx (F := fX6) tb_X6 (nn_ _) bk_X6_countBreaks_e_57 bs_X6_countBreaks_e_57 hz (fun K hK => ?_)
              refine And.intro (fun c11 => ?_) (fun c11 => ?_)
              · refine hK 74 [some (vR 106 0), some (vR 100 c), some (vI cl), some (vI n), some (vI a), some (vI w), some (vI k), some (vR 102 ((T 100 c 7) + k)), some (vI 1)] [] T ?_
                refine j_blx (F := fX6) tb_X6 (nn_ _) bk_X6_countBreaks_e_74 bs_X6_countBreaks_e_74 hz (fun K hK => ?_)
                refine rg_i (by omega) ?_
                refine hK 11 [some (vR 106 0), some (vR 100 c), some (vI cl), some (vI n), some (vI 1), some (vI 1), some (vI (k + 1)), some (vR 102 ((T 100 c 7) + k)), some (vI 1)] [] T ?_
                refine j_drop [some (vR 106 0), some (vR 100 c), some (vI cl), some (vI n), some (vI 1), some (vI 1), some (vI (k + 1)), none, none] (fun k v hk => ?_) rfl ?_
                · match k, hk with
                  | 0, hk => exact hk
                  | 1, hk => exact hk
                  | 2, hk => exact hk
                  | 3, hk => exact hk
                  | 4, hk => exact hk
                  | 5, hk => exact hk
                  | 6, hk => exact hk
                  | 7, hk => cases hk
                  | 8, hk => cases hk
                  | k + 9, hk => cases hk
                refine ih_11 _ ?_ n 1 1 (k + 1) (Nat.le_refl _) ?_ ?_
                · have hm_11 := hm_11 (); omega
                · omega
                · have y9 := bk9_u (H := fun m => T 102 m 3) (A := fun m => T 102 m 4) (b := cl) (f := T 100 c 7) (k := k) (by omega) (show T 102 (T 100 c 7 + k) 3 = cl ∨ T 102 (T 100 c 7 + k) 4 = cl by omega) (bs9_y (H := fun m => T 102 m 3) (show T 102 (T 100 c 7 + k) 3 = cl by omega))
                  omega
              · refine And.intro (fun c12 => ?_) (fun c12 => ?_)
                · refine hK 74 [some (vR 106 0), some (vR 100 c), some (vI cl), some (vI n), some (vI a), some (vI w), some (vI k), some (vR 102 ((T 100 c 7) + k)), some (vI 1)] [] T ?_
                  refine j_blx (F := fX6) tb_X6 (nn_ _) bk_X6_countBreaks_e_74 bs_X6_countBreaks_e_74 hz (fun K hK => ?_)
                  refine rg_i (by omega) ?_
                  refine hK 11 [some (vR 106 0), some (vR 100 c), some (vI cl), some (vI n), some (vI 1), some (vI 1), some (vI (k + 1)), some (vR 102 ((T 100 c 7) + k)), some (vI 1)] [] T ?_
                  refine j_drop [some (vR 106 0), some (vR 100 c), some (vI cl), some (vI n), some (vI 1), some (vI 1), some (vI (k + 1)), none, none] (fun k v hk => ?_) rfl ?_
                  · match k, hk with
                    | 0, hk => exact hk
                    | 1, hk => exact hk
                    | 2, hk => exact hk
                    | 3, hk => exact hk
                    | 4, hk => exact hk
                    | 5, hk => exact hk
                    | 6, hk => exact hk
                    | 7, hk => cases hk
                    | 8, hk => cases hk
                    | k + 9, hk => cases hk
                  refine ih_11 _ ?_ n 1 1 (k + 1) (Nat.le_refl _) ?_ ?_
                  · have hm_11 := hm_11 (); omega
                  · omega
                  · have y9 := bk9_u (H := fun m => T 102 m 3) (A := fun m => T 102 m 4) (b := cl) (f := T 100 c 7) (k := k) (by omega) (show T 102 (T 100 c 7 + k) 3 = cl ∨ T 102 (T 100 c 7 + k) 4 = cl by omega) (bs9_y (H := fun m => T 102 m 3) (show T 102 (T 100 c 7 + k) 3 = cl by omega))
                    omega
                · refine rg_i (by omega) ?_
                  refine rg_i (by omega) ?_
                  refine hK 11 [some (vR 106 0), some (vR 100 c), some (vI cl), some (vI (n + 1)), some (vI 1), some (vI 1), some (vI (k + 1)), some (vR 102 ((T 100 c 7) + k)), some (vI 1)] [] T ?_
                  refine j_drop [some (vR 106 0), some (vR 100 c), some (vI cl), some (vI (n + 1)), some (vI 1), some (vI 1), some (vI (k + 1)), none, none] (fun k v hk => ?_) rfl ?_
                  · match k, hk with
                    | 0, hk => exact hk
                    | 1, hk => exact hk
                    | 2, hk => exact hk
                    | 3, hk => exact hk
                    | 4, hk => exact hk
                    | 5, hk => exact hk
                    | 6, hk => exact hk
                    | 7, hk => cases hk
                    | 8, hk => cases hk
                    | k + 9, hk => cases hk
                  refine ih_11 _ ?_ (n + 1) 1 1 (k + 1) (Nat.le_refl _) ?_ ?_
                  · have hm_11 := hm_11 (); omega
                  · omega
                  · have y9 := bk9_u (H := fun m => T 102 m 3) (A := fun m => T 102 m 4) (b := cl) (f := T 100 c 7) (k := k) (by omega) (show T 102 (T 100 c 7 + k) 3 = cl ∨ T 102 (T 100 c 7 + k) 4 = cl by omega) (bs9_y (H := fun m => T 102 m 3) (show T 102 (T 100 c 7 + k) 3 = cl by omega))
                    omega
  refine j_blx (F := fX6) tb_X6 (nn_ _) bk_X6_countBreaks_e_0 bs_X6_countBreaks_e_0 hz (fun K hK => ?_)
  refine hK 11 [some (vR 106 0), some (vR 100 c), some (vI cl), some (vI 0), some (vI 0), some (vI 0), some (vI 0), none, none] [] T ?_
  refine c_11 _ 0 0 0 0 (Nat.le_refl _) ?_ ?_
  · omega
  · exact ⟨rfl, Or.inl ⟨rfl, rfl⟩⟩
theorem bk_X10_breaks_e_0 : ck_ fX10 (some .int) cX10_breaks 0 [.aload 0, .iload 1] 2 = true := qck_r (nn_ _) (by decide +kernel)
theorem bs_X10_breaks_e_0 {P : Zt → Option Zv → Prop} (K : Int → Zl → List Zv → Zt → Prop) : sx_ K P [.aload 0, .iload 1] 2 = x_aload 0 (x_iload 1 (K 2)) := ((xe_aload 0).trans (congrArg (x_aload 0) ((xe_iload 1).trans (congrArg (x_iload 1) xe_nil))))
theorem bk_X10_breaks_e_5 : ck_ fX10 (some .int) cX10_breaks 5 [.ifCond .eq 16, .aload 0, .iload 2] 10 = true := qck_r (nn_ _) (by decide +kernel)
theorem bs_X10_breaks_e_5 {P : Zt → Option Zv → Prop} (K : Int → Zl → List Zv → Zt → Prop) : sx_ K P [.ifCond .eq 16, .aload 0, .iload 2] 10 = x_ifCond .eq 16 K (x_aload 0 (x_iload 2 (K 10))) := ((xe_ifCond .eq 16).trans (congrArg (x_ifCond .eq 16 K) ((xe_aload 0).trans (congrArg (x_aload 0) ((xe_iload 2).trans (congrArg (x_iload 2) xe_nil))))))
theorem bk_X10_breaks_e_16 : ck_ fX10 (some .int) cX10_breaks 16 [.iconst (-2), .ireturn] 19 = true := qck_r (nn_ _) (by decide +kernel)
theorem bs_X10_breaks_e_16 {P : Zt → Option Zv → Prop} (K : Int → Zl → List Zv → Zt → Prop) : sx_ K P [.iconst (-2), .ireturn] 19 = x_iconst (-2) (x_ireturn P) := ((xe_iconst (-2)).trans (congrArg (x_iconst (-2)) (xe_ireturn)))
theorem bk_X10_breaks_e_13 : ck_ fX10 (some .int) cX10_breaks 13 [.ifCond .ne 19, .iconst (-2), .ireturn] 19 = true := qck_r (nn_ _) (by decide +kernel)
theorem bs_X10_breaks_e_13 {P : Zt → Option Zv → Prop} (K : Int → Zl → List Zv → Zt → Prop) : sx_ K P [.ifCond .ne 19, .iconst (-2), .ireturn] 19 = x_ifCond .ne 19 K (x_iconst (-2) (x_ireturn P)) := ((xe_ifCond .ne 19).trans (congrArg (x_ifCond .ne 19 K) ((xe_iconst (-2)).trans (congrArg (x_iconst (-2)) (xe_ireturn)))))
theorem bk_X10_breaks_e_19 : ck_ fX10 (some .int) cX10_breaks 19 [.aload 0, .tableswitch 0 10 2 #[], .tableswitch 0 6 1 #[], .iload 1, .aaload, .astore 3, .aload 3, .tableswitch 0 0 4 #[], .iload 2, .iaload, .iconst (-1), .if_icmp .eq 46, .aload 3, .tableswitch 0 0 6 #[], .ifCond .ne 49, .iconst (-4), .ireturn] 49 = true := qck_r (nn_ _) (by decide +kernel)
theorem bs_X10_breaks_e_19 {P : Zt → Option Zv → Prop} (K : Int → Zl → List Zv → Zt → Prop) : sx_ K P [.aload 0, .tableswitch 0 10 2 #[], .tableswitch 0 6 1 #[], .iload 1, .aaload, .astore 3, .aload 3, .tableswitch 0 0 4 #[], .iload 2, .iaload, .iconst (-1), .if_icmp .eq 46, .aload 3, .tableswitch 0 0 6 #[], .ifCond .ne 49, .iconst (-4), .ireturn] 49 = x_aload 0 (x_g1 110 106 (x_g1 106 521 (x_iload 1 (x_aaload (x_astore 3 (x_aload 3 (x_g2 100 404 (x_iload 2 (x_iaload (x_iconst (-1) (x_if_icmp .eq 46 K (x_aload 3 (x_g0 100 6 0 1 (x_ifCond .ne 49 K (x_iconst (-4) (x_ireturn P)))))))))))))))) := ((xe_aload 0).trans (congrArg (x_aload 0) ((xe_g1 (kk := 110) rfl tl_10_2).trans (congrArg (x_g1 110 106) ((xe_g1 (kk := 106) rfl tl_6_1).trans (congrArg (x_g1 106 521) ((xe_iload 1).trans (congrArg (x_iload 1) ((xe_aaload).trans (congrArg (x_aaload) ((xe_astore 3).trans (congrArg (x_astore 3) ((xe_aload 3).trans (congrArg (x_aload 3) ((xe_g2 (kk := 100) rfl tl_0_4).trans (congrArg (x_g2 100 404) ((xe_iload 2).trans (congrArg (x_iload 2) ((xe_iaload).trans (congrArg (x_iaload) ((xe_iconst (-1)).trans (congrArg (x_iconst (-1)) ((xe_if_icmp .eq 46).trans (congrArg (x_if_icmp .eq 46 K) ((xe_aload 3).trans (congrArg (x_aload 3) ((xe_g0 (kk := 100) rfl tl_0_6).trans (congrArg (x_g0 100 6 0 1) ((xe_ifCond .ne 49).trans (congrArg (x_ifCond .ne 49 K) ((xe_iconst (-4)).trans (congrArg (x_iconst (-4)) (xe_ireturn)))))))))))))))))))))))))))))))))
theorem bk_X10_breaks_e_46 : ck_ fX10 (some .int) cX10_breaks 46 [.iconst (-4), .ireturn] 49 = true := qck_r (nn_ _) (by decide +kernel)
theorem bs_X10_breaks_e_46 {P : Zt → Option Zv → Prop} (K : Int → Zl → List Zv → Zt → Prop) : sx_ K P [.iconst (-4), .ireturn] 49 = x_iconst (-4) (x_ireturn P) := ((xe_iconst (-4)).trans (congrArg (x_iconst (-4)) (xe_ireturn)))
theorem bk_X10_breaks_e_49 : ck_ fX10 (some .int) cX10_breaks 49 [.aload 0, .tableswitch 0 10 2 #[], .aload 3, .iload 2] 55 = true := qck_r (nn_ _) (by decide +kernel)
theorem bs_X10_breaks_e_49 {P : Zt → Option Zv → Prop} (K : Int → Zl → List Zv → Zt → Prop) : sx_ K P [.aload 0, .tableswitch 0 10 2 #[], .aload 3, .iload 2] 55 = x_aload 0 (x_g1 110 106 (x_aload 3 (x_iload 2 (K 55)))) := ((xe_aload 0).trans (congrArg (x_aload 0) ((xe_g1 (kk := 110) rfl tl_10_2).trans (congrArg (x_g1 110 106) ((xe_aload 3).trans (congrArg (x_aload 3) ((xe_iload 2).trans (congrArg (x_iload 2) xe_nil))))))))
theorem bk_X10_breaks_e_58 : ck_ fX10 (some .int) cX10_breaks 58 [.ireturn] 59 = true := qck_r (nn_ _) (by decide +kernel)
theorem bs_X10_breaks_e_58 {P : Zt → Option Zv → Prop} (K : Int → Zl → List Zv → Zt → Prop) : sx_ K P [.ireturn] 59 = x_ireturn P := (xe_ireturn)
abbrev po_X10_breaks_e (T : Zt) (c cl : Int) : Zt → Option Zv → Prop := fun T' r => T = T' ∧ ∃ x : Int, r = some (vI x) ∧ (BH9_ T c cl x)
set_option maxHeartbeats 4000000 in
theorem ct_X10_breaks_e {T : Zt} {c cl : Int} (hka : KA_ T) (hkc : KC_ T) : Ct_ yX10_breaks zX10_breaks T [vR 110 0, vI c, vI cl] (po_X10_breaks_e T c cl) := by
  refine ct_of pn_10 rfl rfl (Nat.le_of_ble_eq_true rfl) (fun hT hav => ?_)
  have hr_c : -2147483648 ≤ c ∧ c ≤ 2147483647 := hav (vI c) (List.mem_cons_of_mem _ List.mem_cons_self)
  have hr_cl : -2147483648 ≤ cl ∧ cl ≤ 2147483647 := hav (vI cl) (List.mem_cons_of_mem _ (List.mem_cons_of_mem _ List.mem_cons_self))
  have hz : zX10_breaks.2.2.2.1 = some .boolean → ∀ (T' : Zt) (x : Int), po_X10_breaks_e T c cl T' (some (vI x)) → 0 ≤ x ∧ x ≤ 1 := fun h => by cases h
  have hb_competitionCount : 0 ≤ T 106 0 2 ∧ T 106 0 2 ≤ 4 := bd_f hT 106 2 tl_6_2 0
  have hb_clubs : 0 ≤ T 108 0 2 ∧ T 108 0 2 ≤ 12 := bd_f hT 108 2 tl_8_2 0
  have hb_matchCount : 0 ≤ T 106 0 4 ∧ T 106 0 4 ≤ 400 := bd_f hT 106 4 tl_6_4 0
  show J_ zX10_breaks T (po_X10_breaks_e T c cl) 0 0 0 [some (vR 110 0), some (vI c), some (vI cl), none] [] T
  refine j_blx (F := fX10) tb_X10 (nn_ _) bk_X10_breaks_e_0 bs_X10_breaks_e_0 hz (fun K hK => ?_)
  refine hK 2 _ [vI c, vR 110 0] T ?_
  refine j_callV (y := yX10_isCompetition) (Yc := zX10_isCompetition) (rest := []) [vI c] (ct_X10_isCompetition (T := T)) cl_X10_107 (qd_c (by decide +kernel)) (nn_ _) rfl (rf_of rfl) (Nat.le_of_ble_eq_true rfl) (Nat.le_of_ble_eq_true rfl) (Nat.le_of_ble_eq_true rfl) rfl ?_
  rintro _ _ ⟨rfl, x1, rfl, hx1⟩
  show J_ zX10_breaks T (po_X10_breaks_e T c cl) 0 0 5 _ [vI x1] T
  refine j_blx (F := fX10) tb_X10 (nn_ _) bk_X10_breaks_e_5 bs_X10_breaks_e_5 hz (fun K hK => ?_)
  refine And.intro (fun c2 => ?_) (fun c2 => ?_)
  · replace hx1 := hx1.resolve_left (fun z => absurd (c2.symm.trans z.1) (by decide))
    clear c2
    refine hK 16 _ [] T ?_
    refine j_blx (F := fX10) tb_X10 (nn_ _) bk_X10_breaks_e_16 bs_X10_breaks_e_16 hz (fun K hK => ?_)
    refine (show po_X10_breaks_e T c cl T (some (vI (-2))) from ?_)
    exact ⟨rfl, _, rfl, Or.inl ⟨rfl, by omega⟩⟩
  · replace hx1 := hx1.resolve_right (fun z => c2 z.1)
    clear c2
    refine hK 10 _ [vI cl, vR 110 0] T ?_
    refine j_callV (y := yX10_isClub) (Yc := zX10_isClub) (rest := []) [vI cl] (ct_X10_isClub (T := T)) cl_X10_137 (qd_c (by decide +kernel)) (nn_ _) rfl (rf_of rfl) (Nat.le_of_ble_eq_true rfl) (Nat.le_of_ble_eq_true rfl) (Nat.le_of_ble_eq_true rfl) rfl ?_
    rintro _ _ ⟨rfl, x3, rfl, hx3⟩
    show J_ zX10_breaks T (po_X10_breaks_e T c cl) 0 0 13 _ [vI x3] T
    refine j_blx (F := fX10) tb_X10 (nn_ _) bk_X10_breaks_e_13 bs_X10_breaks_e_13 hz (fun K hK => ?_)
    refine And.intro (fun c4 => ?_) (fun c4 => ?_)
    · replace hx3 := hx3.resolve_right (fun z => c4 z.1)
      clear c4
      refine hK 19 _ [] T ?_
      refine j_blx (F := fX10) tb_X10 (nn_ _) bk_X10_breaks_e_19 bs_X10_breaks_e_19 hz (fun K hK => ?_)
      refine ix_i (by omega) ?_
      refine And.intro (fun c5 => ?_) (fun c5 => ?_)
      · exact absurd (show T 521 0 c = 0 by omega) (hka.1 _ (by omega) (by omega))
      · refine ix_i (by omega) ?_
        intro b6 b6b
        refine And.intro (fun c7 => ?_) (fun c7 => ?_)
        · refine hK 46 [some (vR 110 0), some (vI c), some (vI cl), some (vR 100 c)] [] T ?_
          refine j_blx (F := fX10) tb_X10 (nn_ _) bk_X10_breaks_e_46 bs_X10_breaks_e_46 hz (fun K hK => ?_)
          refine (show po_X10_breaks_e T c cl T (some (vI (-4))) from ?_)
          exact ⟨rfl, _, rfl, Or.inr ⟨by omega, Or.inl ⟨rfl, by omega⟩⟩⟩
        · intro b8 b8b
          refine And.intro (fun c9 => ?_) (fun c9 => ?_)
          · refine hK 49 _ [] T ?_
            refine j_blx (F := fX10) tb_X10 (nn_ _) bk_X10_breaks_e_49 bs_X10_breaks_e_49 hz (fun K hK => ?_)
            refine hK 55 _ [vI cl, vR 100 c, vR 106 0] T ?_
            refine j_callV (y := yX6_countBreaks) (Yc := zX6_countBreaks) (rest := []) [vR 100 c, vI cl] (ct_X6_countBreaks_e (T := T) (by exact hka) (by exact hkc c (by omega) (by omega))) cl_X10_230 (qd_c (by decide +kernel)) (nn_ _) rfl (rf_of rfl) (Nat.le_of_ble_eq_true rfl) (Nat.le_of_ble_eq_true rfl) (Nat.le_of_ble_eq_true rfl) rfl ?_
            rintro _ _ ⟨rfl, x10, rfl, hx10⟩
            show J_ zX10_breaks T (po_X10_breaks_e T c cl) 0 0 58 _ [vI x10] T
            refine j_blx (F := fX10) tb_X10 (nn_ _) bk_X10_breaks_e_58 bs_X10_breaks_e_58 hz (fun K hK => ?_)
            refine (show po_X10_breaks_e T c cl T (some (vI x10)) from ?_)
            exact ⟨rfl, _, rfl, Or.inr ⟨by omega, Or.inr ⟨by omega, by omega, hx10⟩⟩⟩
          · refine (show po_X10_breaks_e T c cl T (some (vI (-4))) from ?_)
            exact ⟨rfl, _, rfl, Or.inr ⟨by omega, Or.inl ⟨rfl, by omega⟩⟩⟩
    · replace hx3 := hx3.resolve_left (fun z => absurd (c4.symm.trans z.1) (by decide))
      clear c4
      refine (show po_X10_breaks_e T c cl T (some (vI (-2))) from ?_)
      exact ⟨rfl, _, rfl, Or.inl ⟨rfl, by omega⟩⟩
theorem bk_X11_breaks_e_59 : ck_ fX11 (some .int) cX11_breaks 59 [.iload 5, .aload 0, .tableswitch 0 11 10 #[], .iload 1, .iaload, .aload 0, .tableswitch 0 11 11 #[], .iload 1, .iaload, .iadd, .if_icmp .ge 142, .aload 0, .tableswitch 0 11 32 #[], .iload 5, .iaload, .iload 2, .if_icmp .eq 99, .aload 0, .tableswitch 0 11 33 #[], .iload 5, .iaload, .iload 2, .if_icmp .ne 136, .aload 0, .tableswitch 0 11 32 #[], .iload 5, .iaload, .iload 2, .if_icmp .ne 114, .iconst 0, .goto 115] 114 = true := qck_r (nn_ _) (by decide +kernel)
theorem bs_X11_breaks_e_59 {P : Zt → Option Zv → Prop} (K : Int → Zl → List Zv → Zt → Prop) : sx_ K P [.iload 5, .aload 0, .tableswitch 0 11 10 #[], .iload 1, .iaload, .aload 0, .tableswitch 0 11 11 #[], .iload 1, .iaload, .iadd, .if_icmp .ge 142, .aload 0, .tableswitch 0 11 32 #[], .iload 5, .iaload, .iload 2, .if_icmp .eq 99, .aload 0, .tableswitch 0 11 33 #[], .iload 5, .iaload, .iload 2, .if_icmp .ne 136, .aload 0, .tableswitch 0 11 32 #[], .iload 5, .iaload, .iload 2, .if_icmp .ne 114, .iconst 0, .goto 115] 114 = x_iload 5 (x_aload 0 (x_g1 111 210 (x_iload 1 (x_iaload (x_aload 0 (x_g1 111 211 (x_iload 1 (x_iaload (x_iadd (x_if_icmp .ge 142 K (x_aload 0 (x_g1 111 232 (x_iload 5 (x_iaload (x_iload 2 (x_if_icmp .eq 99 K (x_aload 0 (x_g1 111 233 (x_iload 5 (x_iaload (x_iload 2 (x_if_icmp .ne 136 K (x_aload 0 (x_g1 111 232 (x_iload 5 (x_iaload (x_iload 2 (x_if_icmp .ne 114 K (x_iconst 0 (x_goto 115 K)))))))))))))))))))))))))))))) := ((xe_iload 5).trans (congrArg (x_iload 5) ((xe_aload 0).trans (congrArg (x_aload 0) ((xe_g1 (kk := 111) rfl tl_11_10).trans (congrArg (x_g1 111 210) ((xe_iload 1).trans (congrArg (x_iload 1) ((xe_iaload).trans (congrArg (x_iaload) ((xe_aload 0).trans (congrArg (x_aload 0) ((xe_g1 (kk := 111) rfl tl_11_11).trans (congrArg (x_g1 111 211) ((xe_iload 1).trans (congrArg (x_iload 1) ((xe_iaload).trans (congrArg (x_iaload) ((xe_iadd).trans (congrArg (x_iadd) ((xe_if_icmp .ge 142).trans (congrArg (x_if_icmp .ge 142 K) ((xe_aload 0).trans (congrArg (x_aload 0) ((xe_g1 (kk := 111) rfl tl_11_32).trans (congrArg (x_g1 111 232) ((xe_iload 5).trans (congrArg (x_iload 5) ((xe_iaload).trans (congrArg (x_iaload) ((xe_iload 2).trans (congrArg (x_iload 2) ((xe_if_icmp .eq 99).trans (congrArg (x_if_icmp .eq 99 K) ((xe_aload 0).trans (congrArg (x_aload 0) ((xe_g1 (kk := 111) rfl tl_11_33).trans (congrArg (x_g1 111 233) ((xe_iload 5).trans (congrArg (x_iload 5) ((xe_iaload).trans (congrArg (x_iaload) ((xe_iload 2).trans (congrArg (x_iload 2) ((xe_if_icmp .ne 136).trans (congrArg (x_if_icmp .ne 136 K) ((xe_aload 0).trans (congrArg (x_aload 0) ((xe_g1 (kk := 111) rfl tl_11_32).trans (congrArg (x_g1 111 232) ((xe_iload 5).trans (congrArg (x_iload 5) ((xe_iaload).trans (congrArg (x_iaload) ((xe_iload 2).trans (congrArg (x_iload 2) ((xe_if_icmp .ne 114).trans (congrArg (x_if_icmp .ne 114 K) ((xe_iconst 0).trans (congrArg (x_iconst 0) (xe_goto 115)))))))))))))))))))))))))))))))))))))))))))))))))))))))))))))
theorem bk_X11_breaks_e_142 : ck_ fX11 (some .int) cX11_breaks 142 [.iload 4, .ireturn] 145 = true := qck_r (nn_ _) (by decide +kernel)
theorem bs_X11_breaks_e_142 {P : Zt → Option Zv → Prop} (K : Int → Zl → List Zv → Zt → Prop) : sx_ K P [.iload 4, .ireturn] 145 = x_iload 4 (x_ireturn P) := ((xe_iload 4).trans (congrArg (x_iload 4) (xe_ireturn)))
theorem bk_X11_breaks_e_99 : ck_ fX11 (some .int) cX11_breaks 99 [.aload 0, .tableswitch 0 11 32 #[], .iload 5, .iaload, .iload 2, .if_icmp .ne 114, .iconst 0, .goto 115] 114 = true := qck_r (nn_ _) (by decide +kernel)
theorem bs_X11_breaks_e_99 {P : Zt → Option Zv → Prop} (K : Int → Zl → List Zv → Zt → Prop) : sx_ K P [.aload 0, .tableswitch 0 11 32 #[], .iload 5, .iaload, .iload 2, .if_icmp .ne 114, .iconst 0, .goto 115] 114 = x_aload 0 (x_g1 111 232 (x_iload 5 (x_iaload (x_iload 2 (x_if_icmp .ne 114 K (x_iconst 0 (x_goto 115 K))))))) := ((xe_aload 0).trans (congrArg (x_aload 0) ((xe_g1 (kk := 111) rfl tl_11_32).trans (congrArg (x_g1 111 232) ((xe_iload 5).trans (congrArg (x_iload 5) ((xe_iaload).trans (congrArg (x_iaload) ((xe_iload 2).trans (congrArg (x_iload 2) ((xe_if_icmp .ne 114).trans (congrArg (x_if_icmp .ne 114 K) ((xe_iconst 0).trans (congrArg (x_iconst 0) (xe_goto 115)))))))))))))))
theorem bk_X11_breaks_e_114 : ck_ fX11 (some .int) cX11_breaks 114 [.iconst 1, .istore 6, .iload 4, .iload 6, .iload 3, .if_icmp .ne 129, .iconst 1, .goto 130] 129 = true := qck_r (nn_ _) (by decide +kernel)
theorem bs_X11_breaks_e_114 {P : Zt → Option Zv → Prop} (K : Int → Zl → List Zv → Zt → Prop) : sx_ K P [.iconst 1, .istore 6, .iload 4, .iload 6, .iload 3, .if_icmp .ne 129, .iconst 1, .goto 130] 129 = x_iconst 1 (x_istore 6 (x_iload 4 (x_iload 6 (x_iload 3 (x_if_icmp .ne 129 K (x_iconst 1 (x_goto 130 K))))))) := ((xe_iconst 1).trans (congrArg (x_iconst 1) ((xe_istore 6).trans (congrArg (x_istore 6) ((xe_iload 4).trans (congrArg (x_iload 4) ((xe_iload 6).trans (congrArg (x_iload 6) ((xe_iload 3).trans (congrArg (x_iload 3) ((xe_if_icmp .ne 129).trans (congrArg (x_if_icmp .ne 129 K) ((xe_iconst 1).trans (congrArg (x_iconst 1) (xe_goto 130)))))))))))))))
theorem bk_X11_breaks_e_129 : ck_ fX11 (some .int) cX11_breaks 129 [.iconst 0, .iadd, .istore 4, .iload 6, .istore 3, .iinc 5 1, .goto 59] 142 = true := qck_r (nn_ _) (by decide +kernel)
theorem bs_X11_breaks_e_129 {P : Zt → Option Zv → Prop} (K : Int → Zl → List Zv → Zt → Prop) : sx_ K P [.iconst 0, .iadd, .istore 4, .iload 6, .istore 3, .iinc 5 1, .goto 59] 142 = x_iconst 0 (x_iadd (x_istore 4 (x_iload 6 (x_istore 3 (x_iinc 5 1 (x_goto 59 K)))))) := ((xe_iconst 0).trans (congrArg (x_iconst 0) ((xe_iadd).trans (congrArg (x_iadd) ((xe_istore 4).trans (congrArg (x_istore 4) ((xe_iload 6).trans (congrArg (x_iload 6) ((xe_istore 3).trans (congrArg (x_istore 3) ((xe_iinc 5 1).trans (congrArg (x_iinc 5 1) (xe_goto 59)))))))))))))
theorem bk_X11_breaks_e_130 : ck_ fX11 (some .int) cX11_breaks 130 [.iadd, .istore 4, .iload 6, .istore 3, .iinc 5 1, .goto 59] 142 = true := qck_r (nn_ _) (by decide +kernel)
theorem bs_X11_breaks_e_130 {P : Zt → Option Zv → Prop} (K : Int → Zl → List Zv → Zt → Prop) : sx_ K P [.iadd, .istore 4, .iload 6, .istore 3, .iinc 5 1, .goto 59] 142 = x_iadd (x_istore 4 (x_iload 6 (x_istore 3 (x_iinc 5 1 (x_goto 59 K))))) := ((xe_iadd).trans (congrArg (x_iadd) ((xe_istore 4).trans (congrArg (x_istore 4) ((xe_iload 6).trans (congrArg (x_iload 6) ((xe_istore 3).trans (congrArg (x_istore 3) ((xe_iinc 5 1).trans (congrArg (x_iinc 5 1) (xe_goto 59)))))))))))
theorem bk_X11_breaks_e_115 : ck_ fX11 (some .int) cX11_breaks 115 [.istore 6, .iload 4, .iload 6, .iload 3, .if_icmp .ne 129, .iconst 1, .goto 130] 129 = true := qck_r (nn_ _) (by decide +kernel)
theorem bs_X11_breaks_e_115 {P : Zt → Option Zv → Prop} (K : Int → Zl → List Zv → Zt → Prop) : sx_ K P [.istore 6, .iload 4, .iload 6, .iload 3, .if_icmp .ne 129, .iconst 1, .goto 130] 129 = x_istore 6 (x_iload 4 (x_iload 6 (x_iload 3 (x_if_icmp .ne 129 K (x_iconst 1 (x_goto 130 K)))))) := ((xe_istore 6).trans (congrArg (x_istore 6) ((xe_iload 4).trans (congrArg (x_iload 4) ((xe_iload 6).trans (congrArg (x_iload 6) ((xe_iload 3).trans (congrArg (x_iload 3) ((xe_if_icmp .ne 129).trans (congrArg (x_if_icmp .ne 129 K) ((xe_iconst 1).trans (congrArg (x_iconst 1) (xe_goto 130)))))))))))))
theorem bk_X11_breaks_e_136 : ck_ fX11 (some .int) cX11_breaks 136 [.iinc 5 1, .goto 59] 142 = true := qck_r (nn_ _) (by decide +kernel)
theorem bs_X11_breaks_e_136 {P : Zt → Option Zv → Prop} (K : Int → Zl → List Zv → Zt → Prop) : sx_ K P [.iinc 5 1, .goto 59] 142 = x_iinc 5 1 (x_goto 59 K) := ((xe_iinc 5 1).trans (congrArg (x_iinc 5 1) (xe_goto 59)))
theorem bk_X11_breaks_e_0 : ck_ fX11 (some .int) cX11_breaks 0 [.iload 1, .aload 0, .tableswitch 0 11 6 #[]] 5 = true := qck_r (nn_ _) (by decide +kernel)
theorem bs_X11_breaks_e_0 {P : Zt → Option Zv → Prop} (K : Int → Zl → List Zv → Zt → Prop) : sx_ K P [.iload 1, .aload 0, .tableswitch 0 11 6 #[]] 5 = x_iload 1 (x_aload 0 (x_g0 111 6 0 4 (K 5))) := ((xe_iload 1).trans (congrArg (x_iload 1) ((xe_aload 0).trans (congrArg (x_aload 0) ((xe_g0 (kk := 111) rfl tl_11_6).trans (congrArg (x_g0 111 6 0 4) xe_nil))))))
theorem bk_X11_breaks_e_8 : ck_ fX11 (some .int) cX11_breaks 8 [.ifCond .eq 22, .iload 2, .aload 0, .tableswitch 0 11 12 #[]] 16 = true := qck_r (nn_ _) (by decide +kernel)
theorem bs_X11_breaks_e_8 {P : Zt → Option Zv → Prop} (K : Int → Zl → List Zv → Zt → Prop) : sx_ K P [.ifCond .eq 22, .iload 2, .aload 0, .tableswitch 0 11 12 #[]] 16 = x_ifCond .eq 22 K (x_iload 2 (x_aload 0 (x_g0 111 12 0 12 (K 16)))) := ((xe_ifCond .eq 22).trans (congrArg (x_ifCond .eq 22 K) ((xe_iload 2).trans (congrArg (x_iload 2) ((xe_aload 0).trans (congrArg (x_aload 0) ((xe_g0 (kk := 111) rfl tl_11_12).trans (congrArg (x_g0 111 12 0 12) xe_nil))))))))
theorem bk_X11_breaks_e_22 : ck_ fX11 (some .int) cX11_breaks 22 [.iconst (-2), .ireturn] 25 = true := qck_r (nn_ _) (by decide +kernel)
theorem bs_X11_breaks_e_22 {P : Zt → Option Zv → Prop} (K : Int → Zl → List Zv → Zt → Prop) : sx_ K P [.iconst (-2), .ireturn] 25 = x_iconst (-2) (x_ireturn P) := ((xe_iconst (-2)).trans (congrArg (x_iconst (-2)) (xe_ireturn)))
theorem bk_X11_breaks_e_19 : ck_ fX11 (some .int) cX11_breaks 19 [.ifCond .ne 25, .iconst (-2), .ireturn] 25 = true := qck_r (nn_ _) (by decide +kernel)
theorem bs_X11_breaks_e_19 {P : Zt → Option Zv → Prop} (K : Int → Zl → List Zv → Zt → Prop) : sx_ K P [.ifCond .ne 25, .iconst (-2), .ireturn] 25 = x_ifCond .ne 25 K (x_iconst (-2) (x_ireturn P)) := ((xe_ifCond .ne 25).trans (congrArg (x_ifCond .ne 25 K) ((xe_iconst (-2)).trans (congrArg (x_iconst (-2)) (xe_ireturn)))))
theorem bk_X11_breaks_e_25 : ck_ fX11 (some .int) cX11_breaks 25 [.aload 0, .tableswitch 0 11 9 #[], .iload 1, .baload, .ifCond .eq 43, .aload 0, .iload 1, .iload 2] 37 = true := qck_r (nn_ _) (by decide +kernel)
theorem bs_X11_breaks_e_25 {P : Zt → Option Zv → Prop} (K : Int → Zl → List Zv → Zt → Prop) : sx_ K P [.aload 0, .tableswitch 0 11 9 #[], .iload 1, .baload, .ifCond .eq 43, .aload 0, .iload 1, .iload 2] 37 = x_aload 0 (x_g1 111 209 (x_iload 1 (x_baload (x_ifCond .eq 43 K (x_aload 0 (x_iload 1 (x_iload 2 (K 37)))))))) := ((xe_aload 0).trans (congrArg (x_aload 0) ((xe_g1 (kk := 111) rfl tl_11_9).trans (congrArg (x_g1 111 209) ((xe_iload 1).trans (congrArg (x_iload 1) ((xe_baload).trans (congrArg (x_baload) ((xe_ifCond .eq 43).trans (congrArg (x_ifCond .eq 43 K) ((xe_aload 0).trans (congrArg (x_aload 0) ((xe_iload 1).trans (congrArg (x_iload 1) ((xe_iload 2).trans (congrArg (x_iload 2) xe_nil))))))))))))))))
theorem bk_X11_breaks_e_43 : ck_ fX11 (some .int) cX11_breaks 43 [.iconst (-4), .ireturn] 46 = true := qck_r (nn_ _) (by decide +kernel)
theorem bs_X11_breaks_e_43 {P : Zt → Option Zv → Prop} (K : Int → Zl → List Zv → Zt → Prop) : sx_ K P [.iconst (-4), .ireturn] 46 = x_iconst (-4) (x_ireturn P) := ((xe_iconst (-4)).trans (congrArg (x_iconst (-4)) (xe_ireturn)))
theorem bk_X11_breaks_e_40 : ck_ fX11 (some .int) cX11_breaks 40 [.ifCond .ne 46, .iconst (-4), .ireturn] 46 = true := qck_r (nn_ _) (by decide +kernel)
theorem bs_X11_breaks_e_40 {P : Zt → Option Zv → Prop} (K : Int → Zl → List Zv → Zt → Prop) : sx_ K P [.ifCond .ne 46, .iconst (-4), .ireturn] 46 = x_ifCond .ne 46 K (x_iconst (-4) (x_ireturn P)) := ((xe_ifCond .ne 46).trans (congrArg (x_ifCond .ne 46 K) ((xe_iconst (-4)).trans (congrArg (x_iconst (-4)) (xe_ireturn)))))
theorem bk_X11_breaks_e_46 : ck_ fX11 (some .int) cX11_breaks 46 [.iconst (-1), .istore 3, .iconst 0, .istore 4, .aload 0, .tableswitch 0 11 10 #[], .iload 1, .iaload, .istore 5] 59 = true := qck_r (nn_ _) (by decide +kernel)
theorem bs_X11_breaks_e_46 {P : Zt → Option Zv → Prop} (K : Int → Zl → List Zv → Zt → Prop) : sx_ K P [.iconst (-1), .istore 3, .iconst 0, .istore 4, .aload 0, .tableswitch 0 11 10 #[], .iload 1, .iaload, .istore 5] 59 = x_iconst (-1) (x_istore 3 (x_iconst 0 (x_istore 4 (x_aload 0 (x_g1 111 210 (x_iload 1 (x_iaload (x_istore 5 (K 59))))))))) := ((xe_iconst (-1)).trans (congrArg (x_iconst (-1)) ((xe_istore 3).trans (congrArg (x_istore 3) ((xe_iconst 0).trans (congrArg (x_iconst 0) ((xe_istore 4).trans (congrArg (x_istore 4) ((xe_aload 0).trans (congrArg (x_aload 0) ((xe_g1 (kk := 111) rfl tl_11_10).trans (congrArg (x_g1 111 210) ((xe_iload 1).trans (congrArg (x_iload 1) ((xe_iaload).trans (congrArg (x_iaload) ((xe_istore 5).trans (congrArg (x_istore 5) xe_nil))))))))))))))))))
abbrev po_X11_breaks_e (T : Zt) (c cl : Int) : Zt → Option Zv → Prop := fun T' r => T = T' ∧ ∃ x : Int, r = some (vI x) ∧ (BR9_ T c cl x)
set_option maxHeartbeats 4000000 in
theorem ct_X11_breaks_e {T : Zt} {c cl : Int} (hML : ML_ T) : Ct_ yX11_breaks zX11_breaks T [vR 111 0, vI c, vI cl] (po_X11_breaks_e T c cl) := by
  refine ct_of pn_11 rfl rfl (Nat.le_of_ble_eq_true rfl) (fun hT hav => ?_)
  have hr_c : -2147483648 ≤ c ∧ c ≤ 2147483647 := hav (vI c) (List.mem_cons_of_mem _ List.mem_cons_self)
  have hr_cl : -2147483648 ≤ cl ∧ cl ≤ 2147483647 := hav (vI cl) (List.mem_cons_of_mem _ (List.mem_cons_of_mem _ List.mem_cons_self))
  have hz : zX11_breaks.2.2.2.1 = some .boolean → ∀ (T' : Zt) (x : Int), po_X11_breaks_e T c cl T' (some (vI x)) → 0 ≤ x ∧ x ≤ 1 := fun h => by cases h
  have hb_29 : 0 ≤ T 111 0 29 ∧ T 111 0 29 ≤ 400 := bd_f hT 111 29 tl_11_29 0
  have hb_6 : 0 ≤ T 111 0 6 ∧ T 111 0 6 ≤ 4 := bd_f hT 111 6 tl_11_6 0
  have hb_12 : 0 ≤ T 111 0 12 ∧ T 111 0 12 ≤ 12 := bd_f hT 111 12 tl_11_12 0
  show J_ zX11_breaks T (po_X11_breaks_e T c cl) 0 0 0 [some (vR 111 0), some (vI c), some (vI cl), none, none, none, none] [] T
  have c_59 : ∀ (nn : Nat) (la : Int) (mn : Int) (m : Int), ((400 - m).toNat) ≤ nn → ((0 ≤ c ∧ c < T 111 0 6) ∧ 0 ≤ cl ∧ cl < T 111 0 12) → (T 209 0 c ≠ 0) → (HE_ T c cl) → (T 210 0 c ≤ m ∧ m ≤ T 210 0 c + T 211 0 c ∧ 0 ≤ mn ∧ mn ≤ m - T 210 0 c ∧ 0 ≤ T 210 0 c ∧ 0 ≤ T 211 0 c ∧ T 210 0 c + T 211 0 c ≤ 400) → (mn = (bk9_ (fun m => T 232 0 m) (fun m => T 233 0 m) cl (T 210 0 c) (m - T 210 0 c).toNat).1 ∧ la = (bk9_ (fun m => T 232 0 m) (fun m => T 233 0 m) cl (T 210 0 c) (m - T 210 0 c).toNat).2) → J_ zX11_breaks T (po_X11_breaks_e T c cl) 0 0 59 [some (vR 111 0), some (vI c), some (vI cl), some (vI la), some (vI mn), some (vI m), none] [] T := by
    intro nn
    induction nn using Nat.strongRecOn with
    | _ nn ih_59 =>
      intro la mn m hm_59 c0 hpl hhe i1 ib
      replace hm_59 := fun (_ : Unit) => hm_59
      refine j_blx (F := fX11) tb_X11 (nn_ _) bk_X11_breaks_e_59 bs_X11_breaks_e_59 hz (fun K hK => ?_)
      refine ix_i (by omega) ?_
      intro b1 b1b
      refine ix_i (by omega) ?_
      intro b2 b2b
      refine rg_i (by omega) ?_
      refine And.intro (fun c3 => ?_) (fun c3 => ?_)
      · refine hK 142 _ [] T ?_
        refine j_blx (F := fX11) tb_X11 (nn_ _) bk_X11_breaks_e_142 bs_X11_breaks_e_142 hz (fun K hK => ?_)
        refine (show po_X11_breaks_e T c cl T (some (vI mn)) from ?_)
        exact ⟨rfl, _, rfl, Or.inr ⟨by omega, Or.inr ⟨hpl, hhe, by rw [show T 211 0 c = m - T 210 0 c by omega]; exact ib.1⟩⟩⟩
      · refine ix_i (by omega) ?_
        intro b4 b4b
        refine And.intro (fun c5 => ?_) (fun c5 => ?_)
        · refine hK 99 _ [] T ?_
          refine j_blx (F := fX11) tb_X11 (nn_ _) bk_X11_breaks_e_99 bs_X11_breaks_e_99 hz (fun K hK => ?_)
          refine ix_i (by omega) ?_
          intro b6 b6b
          refine And.intro (fun c7 => ?_) (fun c7 => ?_)
          · refine hK 114 _ [] T ?_
            refine j_blx (F := fX11) tb_X11 (nn_ _) bk_X11_breaks_e_114 bs_X11_breaks_e_114 hz (fun K hK => ?_)
            refine And.intro (fun c8 => ?_) (fun c8 => ?_)
            · refine hK 129 [some (vR 111 0), some (vI c), some (vI cl), some (vI la), some (vI mn), some (vI m), some (vI 1)] [vI mn] T ?_
              refine j_blx (F := fX11) tb_X11 (nn_ _) bk_X11_breaks_e_129 bs_X11_breaks_e_129 hz (fun K hK => ?_)
              refine rg_i (by omega) ?_
              refine rg_i (by omega) ?_
              refine hK 59 [some (vR 111 0), some (vI c), some (vI cl), some (vI 1), some (vI (mn + 0)), some (vI (m + 1)), some (vI 1)] [] T ?_
              refine j_drop [some (vR 111 0), some (vI c), some (vI cl), some (vI 1), some (vI (mn + 0)), some (vI (m + 1)), none] (fun k v hk => ?_) rfl ?_
              · match k, hk with
                | 0, hk => exact hk
                | 1, hk => exact hk
                | 2, hk => exact hk
                | 3, hk => exact hk
                | 4, hk => exact hk
                | 5, hk => exact hk
                | 6, hk => cases hk
                | k + 7, hk => cases hk
              refine ih_59 _ ?_ 1 (mn + 0) (m + 1) (Nat.le_refl _) ?_ ?_ ?_ ?_ ?_
              · have hm_59 := hm_59 (); omega
              · omega
              · omega
              · exact hhe
              · first
                | omega
                | (have hml9 := hML c (by omega) (by omega); omega)
              · have em : (m + 1 - T 210 0 c).toNat = ((m - T 210 0 c) + 1).toNat := by omega
                rw [em]
                have y9 := bk9_u (H := fun m => T 232 0 m) (A := fun m => T 233 0 m) (b := cl) (f := T 210 0 c) (k := m - T 210 0 c) (by omega) (show T 232 0 (T 210 0 c + (m - T 210 0 c)) = cl ∨ T 233 0 (T 210 0 c + (m - T 210 0 c)) = cl by rw [show T 210 0 c + (m - T 210 0 c) = m by omega]; omega) (bs9_n (H := fun m => T 232 0 m) (show T 232 0 (T 210 0 c + (m - T 210 0 c)) ≠ cl by rw [show T 210 0 c + (m - T 210 0 c) = m by omega]; omega))
                omega
            · refine hK 130 [some (vR 111 0), some (vI c), some (vI cl), some (vI la), some (vI mn), some (vI m), some (vI 1)] [vI 1, vI mn] T ?_
              refine j_blx (F := fX11) tb_X11 (nn_ _) bk_X11_breaks_e_130 bs_X11_breaks_e_130 hz (fun K hK => ?_)
              refine rg_i (by omega) ?_
              refine rg_i (by omega) ?_
              refine hK 59 [some (vR 111 0), some (vI c), some (vI cl), some (vI 1), some (vI (mn + 1)), some (vI (m + 1)), some (vI 1)] [] T ?_
              refine j_drop [some (vR 111 0), some (vI c), some (vI cl), some (vI 1), some (vI (mn + 1)), some (vI (m + 1)), none] (fun k v hk => ?_) rfl ?_
              · match k, hk with
                | 0, hk => exact hk
                | 1, hk => exact hk
                | 2, hk => exact hk
                | 3, hk => exact hk
                | 4, hk => exact hk
                | 5, hk => exact hk
                | 6, hk => cases hk
                | k + 7, hk => cases hk
              refine ih_59 _ ?_ 1 (mn + 1) (m + 1) (Nat.le_refl _) ?_ ?_ ?_ ?_ ?_
              · have hm_59 := hm_59 (); omega
              · omega
              · omega
              · exact hhe
              · first
                | omega
                | (have hml9 := hML c (by omega) (by omega); omega)
              · have em : (m + 1 - T 210 0 c).toNat = ((m - T 210 0 c) + 1).toNat := by omega
                rw [em]
                have y9 := bk9_u (H := fun m => T 232 0 m) (A := fun m => T 233 0 m) (b := cl) (f := T 210 0 c) (k := m - T 210 0 c) (by omega) (show T 232 0 (T 210 0 c + (m - T 210 0 c)) = cl ∨ T 233 0 (T 210 0 c + (m - T 210 0 c)) = cl by rw [show T 210 0 c + (m - T 210 0 c) = m by omega]; omega) (bs9_n (H := fun m => T 232 0 m) (show T 232 0 (T 210 0 c + (m - T 210 0 c)) ≠ cl by rw [show T 210 0 c + (m - T 210 0 c) = m by omega]; omega))
                omega
          · refine hK 115 _ [vI 0] T ?_
            refine j_blx (F := fX11) tb_X11 (nn_ _) bk_X11_breaks_e_115 bs_X11_breaks_e_115 hz (fun K hK => ?_)
            refine And.intro (fun c9 => ?_) (fun c9 => ?_)
            · refine hK 129 [some (vR 111 0), some (vI c), some (vI cl), some (vI la), some (vI mn), some (vI m), some (vI 0)] [vI mn] T ?_
              refine j_blx (F := fX11) tb_X11 (nn_ _) bk_X11_breaks_e_129 bs_X11_breaks_e_129 hz (fun K hK => ?_)
              refine rg_i (by omega) ?_
              refine rg_i (by omega) ?_
              refine hK 59 [some (vR 111 0), some (vI c), some (vI cl), some (vI 0), some (vI (mn + 0)), some (vI (m + 1)), some (vI 0)] [] T ?_
              refine j_drop [some (vR 111 0), some (vI c), some (vI cl), some (vI 0), some (vI (mn + 0)), some (vI (m + 1)), none] (fun k v hk => ?_) rfl ?_
              · match k, hk with
                | 0, hk => exact hk
                | 1, hk => exact hk
                | 2, hk => exact hk
                | 3, hk => exact hk
                | 4, hk => exact hk
                | 5, hk => exact hk
                | 6, hk => cases hk
                | k + 7, hk => cases hk
              refine ih_59 _ ?_ 0 (mn + 0) (m + 1) (Nat.le_refl _) ?_ ?_ ?_ ?_ ?_
              · have hm_59 := hm_59 (); omega
              · omega
              · omega
              · exact hhe
              · first
                | omega
                | (have hml9 := hML c (by omega) (by omega); omega)
              · have em : (m + 1 - T 210 0 c).toNat = ((m - T 210 0 c) + 1).toNat := by omega
                rw [em]
                have y9 := bk9_u (H := fun m => T 232 0 m) (A := fun m => T 233 0 m) (b := cl) (f := T 210 0 c) (k := m - T 210 0 c) (by omega) (show T 232 0 (T 210 0 c + (m - T 210 0 c)) = cl ∨ T 233 0 (T 210 0 c + (m - T 210 0 c)) = cl by rw [show T 210 0 c + (m - T 210 0 c) = m by omega]; omega) (bs9_y (H := fun m => T 232 0 m) (show T 232 0 (T 210 0 c + (m - T 210 0 c)) = cl by rw [show T 210 0 c + (m - T 210 0 c) = m by omega]; omega))
                omega
            · refine hK 130 [some (vR 111 0), some (vI c), some (vI cl), some (vI la), some (vI mn), some (vI m), some (vI 0)] [vI 1, vI mn] T ?_
              refine j_blx (F := fX11) tb_X11 (nn_ _) bk_X11_breaks_e_130 bs_X11_breaks_e_130 hz (fun K hK => ?_)
              refine rg_i (by omega) ?_
              refine rg_i (by omega) ?_
              refine hK 59 [some (vR 111 0), some (vI c), some (vI cl), some (vI 0), some (vI (mn + 1)), some (vI (m + 1)), some (vI 0)] [] T ?_
              refine j_drop [some (vR 111 0), some (vI c), some (vI cl), some (vI 0), some (vI (mn + 1)), some (vI (m + 1)), none] (fun k v hk => ?_) rfl ?_
              · match k, hk with
                | 0, hk => exact hk
                | 1, hk => exact hk
                | 2, hk => exact hk
                | 3, hk => exact hk
                | 4, hk => exact hk
                | 5, hk => exact hk
                | 6, hk => cases hk
                | k + 7, hk => cases hk
              refine ih_59 _ ?_ 0 (mn + 1) (m + 1) (Nat.le_refl _) ?_ ?_ ?_ ?_ ?_
              · have hm_59 := hm_59 (); omega
              · omega
              · omega
              · exact hhe
              · first
                | omega
                | (have hml9 := hML c (by omega) (by omega); omega)
              · have em : (m + 1 - T 210 0 c).toNat = ((m - T 210 0 c) + 1).toNat := by omega
                rw [em]
                have y9 := bk9_u (H := fun m => T 232 0 m) (A := fun m => T 233 0 m) (b := cl) (f := T 210 0 c) (k := m - T 210 0 c) (by omega) (show T 232 0 (T 210 0 c + (m - T 210 0 c)) = cl ∨ T 233 0 (T 210 0 c + (m - T 210 0 c)) = cl by rw [show T 210 0 c + (m - T 210 0 c) = m by omega]; omega) (bs9_y (H := fun m => T 232 0 m) (show T 232 0 (T 210 0 c + (m - T 210 0 c)) = cl by rw [show T 210 0 c + (m - T 210 0 c) = m by omega]; omega))
                omega
        · refine ix_i (by omega) ?_
          intro b10 b10b
          refine And.intro (fun c11 => ?_) (fun c11 => ?_)
          · refine hK 136 _ [] T ?_
            refine j_blx (F := fX11) tb_X11 (nn_ _) bk_X11_breaks_e_136 bs_X11_breaks_e_136 hz (fun K hK => ?_)
            refine rg_i (by omega) ?_
            refine hK 59 [some (vR 111 0), some (vI c), some (vI cl), some (vI la), some (vI mn), some (vI (m + 1)), none] [] T ?_
            refine ih_59 _ ?_ la mn (m + 1) (Nat.le_refl _) ?_ ?_ ?_ ?_ ?_
            · have hm_59 := hm_59 (); omega
            · omega
            · omega
            · exact hhe
            · first
              | omega
              | (have hml9 := hML c (by omega) (by omega); omega)
            · have em : (m + 1 - T 210 0 c).toNat = ((m - T 210 0 c) + 1).toNat := by omega
              rw [em]
              rw [bk9_f (H := fun m => T 232 0 m) (A := fun m => T 233 0 m) (b := cl) (f := T 210 0 c) (k := m - T 210 0 c) (by omega) (show ¬ (T 232 0 (T 210 0 c + (m - T 210 0 c)) = cl ∨ T 233 0 (T 210 0 c + (m - T 210 0 c)) = cl) by rw [show T 210 0 c + (m - T 210 0 c) = m by omega]; omega)]
              exact ib
          · refine ix_i (by omega) ?_
            intro b12 b12b
            refine And.intro (fun c13 => ?_) (fun c13 => ?_)
            · refine hK 114 [some (vR 111 0), some (vI c), some (vI cl), some (vI la), some (vI mn), some (vI m), none] [] T ?_
              refine j_blx (F := fX11) tb_X11 (nn_ _) bk_X11_breaks_e_114 bs_X11_breaks_e_114 hz (fun K hK => ?_)
              refine And.intro (fun c14 => ?_) (fun c14 => ?_)
              · refine hK 129 [some (vR 111 0), some (vI c), some (vI cl), some (vI la), some (vI mn), some (vI m), some (vI 1)] [vI mn] T ?_
                refine j_blx (F := fX11) tb_X11 (nn_ _) bk_X11_breaks_e_129 bs_X11_breaks_e_129 hz (fun K hK => ?_)
                refine rg_i (by omega) ?_
                refine rg_i (by omega) ?_
                refine hK 59 [some (vR 111 0), some (vI c), some (vI cl), some (vI 1), some (vI (mn + 0)), some (vI (m + 1)), some (vI 1)] [] T ?_
                refine j_drop [some (vR 111 0), some (vI c), some (vI cl), some (vI 1), some (vI (mn + 0)), some (vI (m + 1)), none] (fun k v hk => ?_) rfl ?_
                · match k, hk with
                  | 0, hk => exact hk
                  | 1, hk => exact hk
                  | 2, hk => exact hk
                  | 3, hk => exact hk
                  | 4, hk => exact hk
                  | 5, hk => exact hk
                  | 6, hk => cases hk
                  | k + 7, hk => cases hk
                refine ih_59 _ ?_ 1 (mn + 0) (m + 1) (Nat.le_refl _) ?_ ?_ ?_ ?_ ?_
                · have hm_59 := hm_59 (); omega
                · omega
                · omega
                · exact hhe
                · first
                  | omega
                  | (have hml9 := hML c (by omega) (by omega); omega)
                · have em : (m + 1 - T 210 0 c).toNat = ((m - T 210 0 c) + 1).toNat := by omega
                  rw [em]
                  have y9 := bk9_u (H := fun m => T 232 0 m) (A := fun m => T 233 0 m) (b := cl) (f := T 210 0 c) (k := m - T 210 0 c) (by omega) (show T 232 0 (T 210 0 c + (m - T 210 0 c)) = cl ∨ T 233 0 (T 210 0 c + (m - T 210 0 c)) = cl by rw [show T 210 0 c + (m - T 210 0 c) = m by omega]; omega) (bs9_n (H := fun m => T 232 0 m) (show T 232 0 (T 210 0 c + (m - T 210 0 c)) ≠ cl by rw [show T 210 0 c + (m - T 210 0 c) = m by omega]; omega))
                  omega
              · refine hK 130 [some (vR 111 0), some (vI c), some (vI cl), some (vI la), some (vI mn), some (vI m), some (vI 1)] [vI 1, vI mn] T ?_
                refine j_blx (F := fX11) tb_X11 (nn_ _) bk_X11_breaks_e_130 bs_X11_breaks_e_130 hz (fun K hK => ?_)
                refine rg_i (by omega) ?_
                refine rg_i (by omega) ?_
                refine hK 59 [some (vR 111 0), some (vI c), some (vI cl), some (vI 1), some (vI (mn + 1)), some (vI (m + 1)), some (vI 1)] [] T ?_
                refine j_drop [some (vR 111 0), some (vI c), some (vI cl), some (vI 1), some (vI (mn + 1)), some (vI (m + 1)), none] (fun k v hk => ?_) rfl ?_
                · match k, hk with
                  | 0, hk => exact hk
                  | 1, hk => exact hk
                  | 2, hk => exact hk
                  | 3, hk => exact hk
                  | 4, hk => exact hk
                  | 5, hk => exact hk
                  | 6, hk => cases hk
                  | k + 7, hk => cases hk
                refine ih_59 _ ?_ 1 (mn + 1) (m + 1) (Nat.le_refl _) ?_ ?_ ?_ ?_ ?_
                · have hm_59 := hm_59 (); omega
                · omega
                · omega
                · exact hhe
                · first
                  | omega
                  | (have hml9 := hML c (by omega) (by omega); omega)
                · have em : (m + 1 - T 210 0 c).toNat = ((m - T 210 0 c) + 1).toNat := by omega
                  rw [em]
                  have y9 := bk9_u (H := fun m => T 232 0 m) (A := fun m => T 233 0 m) (b := cl) (f := T 210 0 c) (k := m - T 210 0 c) (by omega) (show T 232 0 (T 210 0 c + (m - T 210 0 c)) = cl ∨ T 233 0 (T 210 0 c + (m - T 210 0 c)) = cl by rw [show T 210 0 c + (m - T 210 0 c) = m by omega]; omega) (bs9_n (H := fun m => T 232 0 m) (show T 232 0 (T 210 0 c + (m - T 210 0 c)) ≠ cl by rw [show T 210 0 c + (m - T 210 0 c) = m by omega]; omega))
                  omega
            · refine hK 115 _ [vI 0] T ?_
              refine j_blx (F := fX11) tb_X11 (nn_ _) bk_X11_breaks_e_115 bs_X11_breaks_e_115 hz (fun K hK => ?_)
              refine And.intro (fun c15 => ?_) (fun c15 => ?_)
              · refine hK 129 [some (vR 111 0), some (vI c), some (vI cl), some (vI la), some (vI mn), some (vI m), some (vI 0)] [vI mn] T ?_
                refine j_blx (F := fX11) tb_X11 (nn_ _) bk_X11_breaks_e_129 bs_X11_breaks_e_129 hz (fun K hK => ?_)
                refine rg_i (by omega) ?_
                refine rg_i (by omega) ?_
                refine hK 59 [some (vR 111 0), some (vI c), some (vI cl), some (vI 0), some (vI (mn + 0)), some (vI (m + 1)), some (vI 0)] [] T ?_
                refine j_drop [some (vR 111 0), some (vI c), some (vI cl), some (vI 0), some (vI (mn + 0)), some (vI (m + 1)), none] (fun k v hk => ?_) rfl ?_
                · match k, hk with
                  | 0, hk => exact hk
                  | 1, hk => exact hk
                  | 2, hk => exact hk
                  | 3, hk => exact hk
                  | 4, hk => exact hk
                  | 5, hk => exact hk
                  | 6, hk => cases hk
                  | k + 7, hk => cases hk
                refine ih_59 _ ?_ 0 (mn + 0) (m + 1) (Nat.le_refl _) ?_ ?_ ?_ ?_ ?_
                · have hm_59 := hm_59 (); omega
                · omega
                · omega
                · exact hhe
                · first
                  | omega
                  | (have hml9 := hML c (by omega) (by omega); omega)
                · have em : (m + 1 - T 210 0 c).toNat = ((m - T 210 0 c) + 1).toNat := by omega
                  rw [em]
                  have y9 := bk9_u (H := fun m => T 232 0 m) (A := fun m => T 233 0 m) (b := cl) (f := T 210 0 c) (k := m - T 210 0 c) (by omega) (show T 232 0 (T 210 0 c + (m - T 210 0 c)) = cl ∨ T 233 0 (T 210 0 c + (m - T 210 0 c)) = cl by rw [show T 210 0 c + (m - T 210 0 c) = m by omega]; omega) (bs9_y (H := fun m => T 232 0 m) (show T 232 0 (T 210 0 c + (m - T 210 0 c)) = cl by rw [show T 210 0 c + (m - T 210 0 c) = m by omega]; omega))
                  omega
              · refine hK 130 [some (vR 111 0), some (vI c), some (vI cl), some (vI la), some (vI mn), some (vI m), some (vI 0)] [vI 1, vI mn] T ?_
                refine j_blx (F := fX11) tb_X11 (nn_ _) bk_X11_breaks_e_130 bs_X11_breaks_e_130 hz (fun K hK => ?_)
                refine rg_i (by omega) ?_
                refine rg_i (by omega) ?_
                refine hK 59 [some (vR 111 0), some (vI c), some (vI cl), some (vI 0), some (vI (mn + 1)), some (vI (m + 1)), some (vI 0)] [] T ?_
                refine j_drop [some (vR 111 0), some (vI c), some (vI cl), some (vI 0), some (vI (mn + 1)), some (vI (m + 1)), none] (fun k v hk => ?_) rfl ?_
                · match k, hk with
                  | 0, hk => exact hk
                  | 1, hk => exact hk
                  | 2, hk => exact hk
                  | 3, hk => exact hk
                  | 4, hk => exact hk
                  | 5, hk => exact hk
                  | 6, hk => cases hk
                  | k + 7, hk => cases hk
                refine ih_59 _ ?_ 0 (mn + 1) (m + 1) (Nat.le_refl _) ?_ ?_ ?_ ?_ ?_
                · have hm_59 := hm_59 (); omega
                · omega
                · omega
                · exact hhe
                · first
                  | omega
                  | (have hml9 := hML c (by omega) (by omega); omega)
                · have em : (m + 1 - T 210 0 c).toNat = ((m - T 210 0 c) + 1).toNat := by omega
                  rw [em]
                  have y9 := bk9_u (H := fun m => T 232 0 m) (A := fun m => T 233 0 m) (b := cl) (f := T 210 0 c) (k := m - T 210 0 c) (by omega) (show T 232 0 (T 210 0 c + (m - T 210 0 c)) = cl ∨ T 233 0 (T 210 0 c + (m - T 210 0 c)) = cl by rw [show T 210 0 c + (m - T 210 0 c) = m by omega]; omega) (bs9_y (H := fun m => T 232 0 m) (show T 232 0 (T 210 0 c + (m - T 210 0 c)) = cl by rw [show T 210 0 c + (m - T 210 0 c) = m by omega]; omega))
                  omega
  refine j_blx (F := fX11) tb_X11 (nn_ _) bk_X11_breaks_e_0 bs_X11_breaks_e_0 hz (fun K hK => ?_)
  intro b16 b16b
  refine hK 5 _ [vI (T 111 0 6), vI c] T ?_
  refine j_callS (y := yX11_isOf) (Yc := zX11_isOf) (rest := []) [vI c, vI (T 111 0 6)] (ct_X11_isOf (T := T) (by omega)) cl_X11_317 (qd_c (by decide +kernel)) (nn_ _) rfl (rf_of rfl) (Nat.le_of_ble_eq_true rfl) (Nat.le_of_ble_eq_true rfl) (Nat.le_of_ble_eq_true rfl) rfl ?_
  rintro _ _ ⟨rfl, x17, rfl, hx17⟩
  show J_ zX11_breaks T (po_X11_breaks_e T c cl) 0 0 8 _ [vI x17] T
  refine j_blx (F := fX11) tb_X11 (nn_ _) bk_X11_breaks_e_8 bs_X11_breaks_e_8 hz (fun K hK => ?_)
  refine And.intro (fun c18 => ?_) (fun c18 => ?_)
  · replace hx17 := hx17.resolve_left (fun z => absurd (c18.symm.trans z.1) (by decide))
    clear c18
    refine hK 22 _ [] T ?_
    refine j_blx (F := fX11) tb_X11 (nn_ _) bk_X11_breaks_e_22 bs_X11_breaks_e_22 hz (fun K hK => ?_)
    refine (show po_X11_breaks_e T c cl T (some (vI (-2))) from ?_)
    exact ⟨rfl, _, rfl, Or.inl ⟨rfl, by omega⟩⟩
  · replace hx17 := hx17.resolve_right (fun z => c18 z.1)
    clear c18
    intro b19 b19b
    refine hK 16 _ [vI (T 111 0 12), vI cl] T ?_
    refine j_callS (y := yX11_isOf) (Yc := zX11_isOf) (rest := []) [vI cl, vI (T 111 0 12)] (ct_X11_isOf (T := T) (by omega)) cl_X11_317 (qd_c (by decide +kernel)) (nn_ _) rfl (rf_of rfl) (Nat.le_of_ble_eq_true rfl) (Nat.le_of_ble_eq_true rfl) (Nat.le_of_ble_eq_true rfl) rfl ?_
    rintro _ _ ⟨rfl, x20, rfl, hx20⟩
    show J_ zX11_breaks T (po_X11_breaks_e T c cl) 0 0 19 _ [vI x20] T
    refine j_blx (F := fX11) tb_X11 (nn_ _) bk_X11_breaks_e_19 bs_X11_breaks_e_19 hz (fun K hK => ?_)
    refine And.intro (fun c21 => ?_) (fun c21 => ?_)
    · replace hx20 := hx20.resolve_right (fun z => c21 z.1)
      clear c21
      refine hK 25 _ [] T ?_
      refine j_blx (F := fX11) tb_X11 (nn_ _) bk_X11_breaks_e_25 bs_X11_breaks_e_25 hz (fun K hK => ?_)
      refine ix_i (by omega) ?_
      intro b22 b22b
      refine And.intro (fun c23 => ?_) (fun c23 => ?_)
      · refine hK 43 _ [] T ?_
        refine j_blx (F := fX11) tb_X11 (nn_ _) bk_X11_breaks_e_43 bs_X11_breaks_e_43 hz (fun K hK => ?_)
        refine (show po_X11_breaks_e T c cl T (some (vI (-4))) from ?_)
        exact ⟨rfl, _, rfl, Or.inr ⟨by omega, Or.inl ⟨rfl, Or.inl (by omega)⟩⟩⟩
      · refine hK 37 _ [vI cl, vI c, vR 111 0] T ?_
        refine j_callV (y := yX11_hasEntered) (Yc := zX11_hasEntered) (rest := []) [vI c, vI cl] (ct_X11_hasEntered (T := T) (by omega)) cl_X11_340 (qd_c (by decide +kernel)) (nn_ _) rfl (rf_of rfl) (Nat.le_of_ble_eq_true rfl) (Nat.le_of_ble_eq_true rfl) (Nat.le_of_ble_eq_true rfl) rfl ?_
        rintro _ _ ⟨rfl, x24, rfl, hx24⟩
        show J_ zX11_breaks T (po_X11_breaks_e T c cl) 0 0 40 _ [vI x24] T
        refine j_blx (F := fX11) tb_X11 (nn_ _) bk_X11_breaks_e_40 bs_X11_breaks_e_40 hz (fun K hK => ?_)
        refine And.intro (fun c25 => ?_) (fun c25 => ?_)
        · refine hK 46 _ [] T ?_
          have hb211 : 0 ≤ T 211 0 c ∧ T 211 0 c ≤ 400 := bd_a hT 211 (by decide +kernel : ta_ 211 = some (1, some 4, 0, 400)) 0 (by omega)
          have hb210 : 0 ≤ T 210 0 c ∧ T 210 0 c ≤ 400 := bd_a hT 210 (by decide +kernel : ta_ 210 = some (1, some 4, 0, 400)) 0 (by omega)
          refine j_blx (F := fX11) tb_X11 (nn_ _) bk_X11_breaks_e_46 bs_X11_breaks_e_46 hz (fun K hK => ?_)
          refine ix_i (by omega) ?_
          intro b26 b26b
          refine hK 59 [some (vR 111 0), some (vI c), some (vI cl), some (vI (-1)), some (vI 0), some (vI (T 210 0 c)), none] [] T ?_
          refine c_59 _ (-1) 0 (T 210 0 c) (Nat.le_refl _) ?_ ?_ ?_ ?_ ?_
          · omega
          · omega
          · exact (hx24.resolve_right (fun z => by omega)).2
          · first
            | omega
            | (have hml9 := hML c (by omega) (by omega); omega)
          · rw [show (T 210 0 c - T 210 0 c).toNat = 0 by omega]
            exact ⟨rfl, rfl⟩
        · refine (show po_X11_breaks_e T c cl T (some (vI (-4))) from ?_)
          exact ⟨rfl, _, rfl, Or.inr ⟨by omega, Or.inl ⟨rfl, by first | exact Or.inl (by omega) | exact Or.inr (hx24.resolve_left (fun z => by omega)).2⟩⟩⟩
    · replace hx20 := hx20.resolve_left (fun z => absurd (c21.symm.trans z.1) (by decide))
      clear c21
      refine (show po_X11_breaks_e T c cl T (some (vI (-2))) from ?_)
      exact ⟨rfl, _, rfl, Or.inl ⟨rfl, by omega⟩⟩
-- clubs and officials: one more of two rows
def TG9_ (a : Nat) (sl mx : Int) (k1 k2 : Nat) (T T' : Zt) (s c x : Int) : Prop := (T' = T ∧ ((x = -3 ∧ ¬ (0 ≤ s ∧ s ≤ 11 ∧ 0 ≤ c ∧ c ≤ 7)) ∨ ((0 ≤ s ∧ s ≤ 11 ∧ 0 ≤ c ∧ c ≤ 7) ∧ T a 0 sl = mx ∧ x = -5))) ∨ ((0 ≤ s ∧ s ≤ 11 ∧ 0 ≤ c ∧ c ≤ 7) ∧ T a 0 sl < mx ∧ x = T a 0 sl ∧ T' a 0 sl = T a 0 sl + 1 ∧ SG9_ k1 T T' (T a 0 sl) s ∧ SG9_ k2 T T' (T a 0 sl) c)
theorem tg9_e {a1 a2 : Nat} {s1 s2 mx : Int} {k1 k2 k3 k4 : Nat} {T T1 T2 : Zt} {s c x1 x2 : Int} (h : ∀ j, 0 ≤ j → j < T a1 0 s1 → T k1 0 j = T k3 0 j ∧ T k2 0 j = T k4 0 j) (hn : T a1 0 s1 = T a2 0 s2) (d1 : TG9_ a1 s1 mx k1 k2 T T1 s c x1) (e2 : T1 a2 0 s2 = T a2 0 s2) (e3 : ∀ j, T1 k3 0 j = T k3 0 j) (e4 : ∀ j, T1 k4 0 j = T k4 0 j) (d2 : TG9_ a2 s2 mx k3 k4 T1 T2 s c x2) (g1 : T2 a1 0 s1 = T1 a1 0 s1) (g3 : ∀ j, T2 k1 0 j = T1 k1 0 j) (g4 : ∀ j, T2 k2 0 j = T1 k2 0 j) : x1 = x2 ∧ T2 a1 0 s1 = T2 a2 0 s2 ∧ ∀ j, 0 ≤ j → j < T2 a1 0 s1 → T2 k1 0 j = T2 k3 0 j ∧ T2 k2 0 j = T2 k4 0 j := by
  rcases d1 with ⟨rfl, u⟩ | ⟨u1, u2, u3, u4, u5, u6⟩
  · rcases d2 with ⟨rfl, v⟩ | ⟨v1, v2, v3, v4, v5, v6⟩
    · exact ⟨by omega, hn, h⟩
    · exfalso; omega
  · rcases d2 with ⟨rfl, v⟩ | ⟨v1, v2, v3, v4, v5, v6⟩
    · exfalso; omega
    · refine ⟨by omega, by omega, fun j p q => ?_⟩
      rw [g3, g4]
      rw [e2, ← hn] at v5 v6
      by_cases z : j = T a1 0 s1
      · rw [z, u5.1, u6.1, v5.1, v6.1]
        exact ⟨rfl, rfl⟩
      · rw [u5.2 j z, u6.2 j z, v5.2 j z, v6.2 j z, e3, e4]
        exact h j p (by omega)
/-- counters alike -/
def CNR_ (T : Zt) : Prop := T 108 0 2 = T 111 0 12 ∧ T 108 0 3 = T 111 0 15 ∧ T 108 0 12 = T 111 0 21 ∧ T 108 0 13 = T 111 0 3
/-- stadiums, countries, homes alike -/
def THR_ (T : Zt) : Prop := (∀ j, 0 ≤ j → j < T 108 0 2 → T 560 0 j = T 213 0 j ∧ T 561 0 j = T 214 0 j) ∧ ∀ j, 0 ≤ j → j < T 108 0 12 → T 570 0 j = T 222 0 j ∧ T 571 0 j = T 223 0 j
theorem bk_X10_club_e_0 : ck_ fX10 (some .int) cX10_club 0 [.iload 1, .iconst 12] 3 = true := qck_r (nn_ _) (by decide +kernel)
theorem bs_X10_club_e_0 {P : Zt → Option Zv → Prop} (K : Int → Zl → List Zv → Zt → Prop) : sx_ K P [.iload 1, .iconst 12] 3 = x_iload 1 (x_iconst 12 (K 3)) := ((xe_iload 1).trans (congrArg (x_iload 1) ((xe_iconst 12).trans (congrArg (x_iconst 12) xe_nil))))
theorem bk_X10_club_e_6 : ck_ fX10 (some .int) cX10_club 6 [.ifCond .eq 18, .iload 2, .iconst 8] 12 = true := qck_r (nn_ _) (by decide +kernel)
theorem bs_X10_club_e_6 {P : Zt → Option Zv → Prop} (K : Int → Zl → List Zv → Zt → Prop) : sx_ K P [.ifCond .eq 18, .iload 2, .iconst 8] 12 = x_ifCond .eq 18 K (x_iload 2 (x_iconst 8 (K 12))) := ((xe_ifCond .eq 18).trans (congrArg (x_ifCond .eq 18 K) ((xe_iload 2).trans (congrArg (x_iload 2) ((xe_iconst 8).trans (congrArg (x_iconst 8) xe_nil))))))
theorem bk_X10_club_e_18 : ck_ fX10 (some .int) cX10_club 18 [.iconst (-3), .ireturn] 21 = true := qck_r (nn_ _) (by decide +kernel)
theorem bs_X10_club_e_18 {P : Zt → Option Zv → Prop} (K : Int → Zl → List Zv → Zt → Prop) : sx_ K P [.iconst (-3), .ireturn] 21 = x_iconst (-3) (x_ireturn P) := ((xe_iconst (-3)).trans (congrArg (x_iconst (-3)) (xe_ireturn)))
theorem bk_X10_club_e_15 : ck_ fX10 (some .int) cX10_club 15 [.ifCond .ne 21, .iconst (-3), .ireturn] 21 = true := qck_r (nn_ _) (by decide +kernel)
theorem bs_X10_club_e_15 {P : Zt → Option Zv → Prop} (K : Int → Zl → List Zv → Zt → Prop) : sx_ K P [.ifCond .ne 21, .iconst (-3), .ireturn] 21 = x_ifCond .ne 21 K (x_iconst (-3) (x_ireturn P)) := ((xe_ifCond .ne 21).trans (congrArg (x_ifCond .ne 21 K) ((xe_iconst (-3)).trans (congrArg (x_iconst (-3)) (xe_ireturn)))))
theorem bk_X10_club_e_21 : ck_ fX10 (some .int) cX10_club 21 [.aload 0, .tableswitch 0 10 1 #[], .tableswitch 0 8 2 #[], .iconst 12, .if_icmp .lt 36, .iconst (-5), .ireturn] 36 = true := qck_r (nn_ _) (by decide +kernel)
theorem bs_X10_club_e_21 {P : Zt → Option Zv → Prop} (K : Int → Zl → List Zv → Zt → Prop) : sx_ K P [.aload 0, .tableswitch 0 10 1 #[], .tableswitch 0 8 2 #[], .iconst 12, .if_icmp .lt 36, .iconst (-5), .ireturn] 36 = x_aload 0 (x_g1 110 108 (x_g0 108 2 0 12 (x_iconst 12 (x_if_icmp .lt 36 K (x_iconst (-5) (x_ireturn P)))))) := ((xe_aload 0).trans (congrArg (x_aload 0) ((xe_g1 (kk := 110) rfl tl_10_1).trans (congrArg (x_g1 110 108) ((xe_g0 (kk := 108) rfl tl_8_2).trans (congrArg (x_g0 108 2 0 12) ((xe_iconst 12).trans (congrArg (x_iconst 12) ((xe_if_icmp .lt 36).trans (congrArg (x_if_icmp .lt 36 K) ((xe_iconst (-5)).trans (congrArg (x_iconst (-5)) (xe_ireturn)))))))))))))
theorem bk_X10_club_e_36 : ck_ fX10 (some .int) cX10_club 36 [.aload 0, .tableswitch 0 10 1 #[], .tableswitch 0 8 2 #[], .istore 3, .aload 0, .tableswitch 0 10 1 #[], .tableswitch 0 8 0 #[], .iload 3, .iload 1, .iastore, .aload 0, .tableswitch 0 10 1 #[], .tableswitch 0 8 1 #[], .iload 3, .iload 2, .iastore, .aload 0, .tableswitch 0 10 1 #[], .dup, .tableswitch 0 8 2 #[], .iconst 1, .iadd, .tableswitch 1 8 2 #[], .iload 3, .ireturn] 79 = true := qck_r (nn_ _) (by decide +kernel)
theorem bs_X10_club_e_36 {P : Zt → Option Zv → Prop} (K : Int → Zl → List Zv → Zt → Prop) : sx_ K P [.aload 0, .tableswitch 0 10 1 #[], .tableswitch 0 8 2 #[], .istore 3, .aload 0, .tableswitch 0 10 1 #[], .tableswitch 0 8 0 #[], .iload 3, .iload 1, .iastore, .aload 0, .tableswitch 0 10 1 #[], .tableswitch 0 8 1 #[], .iload 3, .iload 2, .iastore, .aload 0, .tableswitch 0 10 1 #[], .dup, .tableswitch 0 8 2 #[], .iconst 1, .iadd, .tableswitch 1 8 2 #[], .iload 3, .ireturn] 79 = x_aload 0 (x_g1 110 108 (x_g0 108 2 0 12 (x_istore 3 (x_aload 0 (x_g1 110 108 (x_g1 108 560 (x_iload 3 (x_iload 1 (x_iastore (x_aload 0 (x_g1 110 108 (x_g1 108 561 (x_iload 3 (x_iload 2 (x_iastore (x_aload 0 (x_g1 110 108 (x_dup (x_g0 108 2 0 12 (x_iconst 1 (x_iadd (x_p 108 2 0 12 (x_iload 3 (x_ireturn P)))))))))))))))))))))))) := ((xe_aload 0).trans (congrArg (x_aload 0) ((xe_g1 (kk := 110) rfl tl_10_1).trans (congrArg (x_g1 110 108) ((xe_g0 (kk := 108) rfl tl_8_2).trans (congrArg (x_g0 108 2 0 12) ((xe_istore 3).trans (congrArg (x_istore 3) ((xe_aload 0).trans (congrArg (x_aload 0) ((xe_g1 (kk := 110) rfl tl_10_1).trans (congrArg (x_g1 110 108) ((xe_g1 (kk := 108) rfl tl_8_0).trans (congrArg (x_g1 108 560) ((xe_iload 3).trans (congrArg (x_iload 3) ((xe_iload 1).trans (congrArg (x_iload 1) ((xe_iastore).trans (congrArg (x_iastore) ((xe_aload 0).trans (congrArg (x_aload 0) ((xe_g1 (kk := 110) rfl tl_10_1).trans (congrArg (x_g1 110 108) ((xe_g1 (kk := 108) rfl tl_8_1).trans (congrArg (x_g1 108 561) ((xe_iload 3).trans (congrArg (x_iload 3) ((xe_iload 2).trans (congrArg (x_iload 2) ((xe_iastore).trans (congrArg (x_iastore) ((xe_aload 0).trans (congrArg (x_aload 0) ((xe_g1 (kk := 110) rfl tl_10_1).trans (congrArg (x_g1 110 108) ((xe_dup).trans (congrArg (x_dup) ((xe_g0 (kk := 108) rfl tl_8_2).trans (congrArg (x_g0 108 2 0 12) ((xe_iconst 1).trans (congrArg (x_iconst 1) ((xe_iadd).trans (congrArg (x_iadd) ((xe_p (kk := 108) rfl tl_8_2).trans (congrArg (x_p 108 2 0 12) ((xe_iload 3).trans (congrArg (x_iload 3) (xe_ireturn)))))))))))))))))))))))))))))))))))))))))))))))))
abbrev po_X10_club_e (T : Zt) (s c : Int) : Zt → Option Zv → Prop := fun T' r => ∃ x : Int, r = some (vI x) ∧ fr_ [(108, [2]), (560, []), (561, [])] T T' ∧ (((x = -3 ∧ ¬ (0 ≤ s ∧ s ≤ 11 ∧ 0 ≤ c ∧ c ≤ 7) ∧ T' 108 0 2 = T 108 0 2) ∨ ((0 ≤ s ∧ s ≤ 11 ∧ 0 ≤ c ∧ c ≤ 7) ∧ T 108 0 2 = 12 ∧ x = -5 ∧ T' 108 0 2 = T 108 0 2) ∨ ((0 ≤ s ∧ s ≤ 11 ∧ 0 ≤ c ∧ c ≤ 7) ∧ T 108 0 2 < 12 ∧ x = T 108 0 2 ∧ T' 108 0 2 = T 108 0 2 + 1)) ∧ TG9_ 108 2 12 560 561 T T' s c x)
set_option maxHeartbeats 4000000 in
theorem ct_X10_club_e {T : Zt} {s c : Int} : Ct_ yX10_club zX10_club T [vR 110 0, vI s, vI c] (po_X10_club_e T s c) := by
  refine ct_of pn_10 rfl rfl (Nat.le_of_ble_eq_true rfl) (fun hT hav => ?_)
  have hr_s : -2147483648 ≤ s ∧ s ≤ 2147483647 := hav (vI s) (List.mem_cons_of_mem _ List.mem_cons_self)
  have hr_c : -2147483648 ≤ c ∧ c ≤ 2147483647 := hav (vI c) (List.mem_cons_of_mem _ (List.mem_cons_of_mem _ List.mem_cons_self))
  have hz : zX10_club.2.2.2.1 = some .boolean → ∀ (T' : Zt) (x : Int), po_X10_club_e T s c T' (some (vI x)) → 0 ≤ x ∧ x ≤ 1 := fun h => by cases h
  have hb_2 : 0 ≤ T 108 0 2 ∧ T 108 0 2 ≤ 12 := bd_f hT 108 2 tl_8_2 0
  show J_ zX10_club T (po_X10_club_e T s c) 0 0 0 [some (vR 110 0), some (vI s), some (vI c), none] [] T
  refine j_blx (F := fX10) tb_X10 (nn_ _) bk_X10_club_e_0 bs_X10_club_e_0 hz (fun K hK => ?_)
  refine hK 3 _ [vI 12, vI s] T ?_
  refine j_callS (y := yX10_isBelow) (Yc := zX10_isBelow) (rest := []) [vI s, vI 12] (ct_X10_isBelow (T := T)) cl_X10_115 (qd_c (by decide +kernel)) (nn_ _) rfl (rf_of rfl) (Nat.le_of_ble_eq_true rfl) (Nat.le_of_ble_eq_true rfl) (Nat.le_of_ble_eq_true rfl) rfl ?_
  rintro _ _ ⟨rfl, x1, rfl, hx1⟩
  show J_ zX10_club T (po_X10_club_e T s c) 0 0 6 _ [vI x1] T
  refine j_blx (F := fX10) tb_X10 (nn_ _) bk_X10_club_e_6 bs_X10_club_e_6 hz (fun K hK => ?_)
  refine And.intro (fun c2 => ?_) (fun c2 => ?_)
  · replace hx1 := hx1.resolve_left (fun z => absurd (c2.symm.trans z.1) (by decide))
    clear c2
    refine hK 18 _ [] T ?_
    refine j_blx (F := fX10) tb_X10 (nn_ _) bk_X10_club_e_18 bs_X10_club_e_18 hz (fun K hK => ?_)
    refine (show po_X10_club_e T s c T (some (vI (-3))) from ?_)
    exact ⟨_, rfl, fr_0 _ _, by omega, Or.inl ⟨rfl, Or.inl ⟨rfl, by omega⟩⟩⟩
  · replace hx1 := hx1.resolve_right (fun z => c2 z.1)
    clear c2
    refine hK 12 _ [vI 8, vI c] T ?_
    refine j_callS (y := yX10_isBelow) (Yc := zX10_isBelow) (rest := []) [vI c, vI 8] (ct_X10_isBelow (T := T)) cl_X10_115 (qd_c (by decide +kernel)) (nn_ _) rfl (rf_of rfl) (Nat.le_of_ble_eq_true rfl) (Nat.le_of_ble_eq_true rfl) (Nat.le_of_ble_eq_true rfl) rfl ?_
    rintro _ _ ⟨rfl, x3, rfl, hx3⟩
    show J_ zX10_club T (po_X10_club_e T s c) 0 0 15 _ [vI x3] T
    refine j_blx (F := fX10) tb_X10 (nn_ _) bk_X10_club_e_15 bs_X10_club_e_15 hz (fun K hK => ?_)
    refine And.intro (fun c4 => ?_) (fun c4 => ?_)
    · replace hx3 := hx3.resolve_right (fun z => c4 z.1)
      clear c4
      refine hK 21 _ [] T ?_
      refine j_blx (F := fX10) tb_X10 (nn_ _) bk_X10_club_e_21 bs_X10_club_e_21 hz (fun K hK => ?_)
      intro b5 b5b
      refine And.intro (fun c6 => ?_) (fun c6 => ?_)
      · refine hK 36 _ [] T ?_
        refine j_blx (F := fX10) tb_X10 (nn_ _) bk_X10_club_e_36 bs_X10_club_e_36 hz (fun K hK => ?_)
        intro b7 b7b
        refine iy_i (by omega) (by omega) ?_
        refine x_nm (fun U8 hU8 => ?_)
        have e9 := up_f hU8
        refine iy_i (by omega) (by omega) ?_
        refine x_nm (fun U10 hU10 => ?_)
        have e11 := up_f hU10
        intro b12 b12b
        have e13 : U10 108 0 2 = T 108 0 2 := (up_k hU10 (by exact Nat.ne_of_beq_eq_false rfl) 0 2).trans (up_k hU8 (by exact Nat.ne_of_beq_eq_false rfl) 0 2)
        rw [e13] at b12 b12b ⊢
        refine rg_i (by omega) ?_
        refine bd_i (by omega) ?_
        refine x_nm (fun U14 hU14 => ?_)
        have e15 := up_f hU14
        refine (show po_X10_club_e T s c U14 (some (vI (T 108 0 2))) from ?_)
        have e16 : U14 108 0 2 = (T 108 0 2) + 1 := up_f hU14
        have e17 : U14 108 0 2 = (T 108 0 2) + 1 := up_f hU14
        exact ⟨_, rfl, fr_u (fr_u (fr_u (fr_0 _ _) hU8 rfl) hU10 rfl) hU14 rfl, by omega, Or.inr ⟨by omega, by omega, by omega, by omega, ⟨(up_k hU14 (by exact Nat.ne_of_beq_eq_false rfl) 0 _).trans ((up_k hU10 (by exact Nat.ne_of_beq_eq_false rfl) 0 _).trans (up_f hU8)), fun j hj => (up_k hU14 (by exact Nat.ne_of_beq_eq_false rfl) 0 j).trans ((up_k hU10 (by exact Nat.ne_of_beq_eq_false rfl) 0 j).trans (up_g hU8 (fun z => hj z.2.2)))⟩, ⟨(up_k hU14 (by exact Nat.ne_of_beq_eq_false rfl) 0 _).trans (up_f hU10), fun j hj => (up_k hU14 (by exact Nat.ne_of_beq_eq_false rfl) 0 j).trans ((up_g hU10 (fun z => hj z.2.2)).trans (up_k hU8 (by exact Nat.ne_of_beq_eq_false rfl) 0 j))⟩⟩⟩
      · refine (show po_X10_club_e T s c T (some (vI (-5))) from ?_)
        exact ⟨_, rfl, fr_0 _ _, by omega, Or.inl ⟨rfl, Or.inr ⟨by omega, by omega, rfl⟩⟩⟩
    · replace hx3 := hx3.resolve_left (fun z => absurd (c4.symm.trans z.1) (by decide))
      clear c4
      refine (show po_X10_club_e T s c T (some (vI (-3))) from ?_)
      exact ⟨_, rfl, fr_0 _ _, by omega, Or.inl ⟨rfl, Or.inl ⟨rfl, by omega⟩⟩⟩
theorem bk_X11_club_e_0 : ck_ fX11 (some .int) cX11_club 0 [.iload 1, .iconst 0, .iconst 11] 4 = true := qck_r (nn_ _) (by decide +kernel)
theorem bs_X11_club_e_0 {P : Zt → Option Zv → Prop} (K : Int → Zl → List Zv → Zt → Prop) : sx_ K P [.iload 1, .iconst 0, .iconst 11] 4 = x_iload 1 (x_iconst 0 (x_iconst 11 (K 4))) := ((xe_iload 1).trans (congrArg (x_iload 1) ((xe_iconst 0).trans (congrArg (x_iconst 0) ((xe_iconst 11).trans (congrArg (x_iconst 11) xe_nil))))))
theorem bk_X11_club_e_7 : ck_ fX11 (some .int) cX11_club 7 [.ifCond .eq 20, .iload 2, .iconst 0, .iconst 7] 14 = true := qck_r (nn_ _) (by decide +kernel)
theorem bs_X11_club_e_7 {P : Zt → Option Zv → Prop} (K : Int → Zl → List Zv → Zt → Prop) : sx_ K P [.ifCond .eq 20, .iload 2, .iconst 0, .iconst 7] 14 = x_ifCond .eq 20 K (x_iload 2 (x_iconst 0 (x_iconst 7 (K 14)))) := ((xe_ifCond .eq 20).trans (congrArg (x_ifCond .eq 20 K) ((xe_iload 2).trans (congrArg (x_iload 2) ((xe_iconst 0).trans (congrArg (x_iconst 0) ((xe_iconst 7).trans (congrArg (x_iconst 7) xe_nil))))))))
theorem bk_X11_club_e_20 : ck_ fX11 (some .int) cX11_club 20 [.iconst (-3), .ireturn] 23 = true := qck_r (nn_ _) (by decide +kernel)
theorem bs_X11_club_e_20 {P : Zt → Option Zv → Prop} (K : Int → Zl → List Zv → Zt → Prop) : sx_ K P [.iconst (-3), .ireturn] 23 = x_iconst (-3) (x_ireturn P) := ((xe_iconst (-3)).trans (congrArg (x_iconst (-3)) (xe_ireturn)))
theorem bk_X11_club_e_17 : ck_ fX11 (some .int) cX11_club 17 [.ifCond .ne 23, .iconst (-3), .ireturn] 23 = true := qck_r (nn_ _) (by decide +kernel)
theorem bs_X11_club_e_17 {P : Zt → Option Zv → Prop} (K : Int → Zl → List Zv → Zt → Prop) : sx_ K P [.ifCond .ne 23, .iconst (-3), .ireturn] 23 = x_ifCond .ne 23 K (x_iconst (-3) (x_ireturn P)) := ((xe_ifCond .ne 23).trans (congrArg (x_ifCond .ne 23 K) ((xe_iconst (-3)).trans (congrArg (x_iconst (-3)) (xe_ireturn)))))
theorem bk_X11_club_e_23 : ck_ fX11 (some .int) cX11_club 23 [.aload 0, .tableswitch 0 11 12 #[], .iconst 12, .if_icmp .ne 35, .iconst (-5), .ireturn] 35 = true := qck_r (nn_ _) (by decide +kernel)
theorem bs_X11_club_e_23 {P : Zt → Option Zv → Prop} (K : Int → Zl → List Zv → Zt → Prop) : sx_ K P [.aload 0, .tableswitch 0 11 12 #[], .iconst 12, .if_icmp .ne 35, .iconst (-5), .ireturn] 35 = x_aload 0 (x_g0 111 12 0 12 (x_iconst 12 (x_if_icmp .ne 35 K (x_iconst (-5) (x_ireturn P))))) := ((xe_aload 0).trans (congrArg (x_aload 0) ((xe_g0 (kk := 111) rfl tl_11_12).trans (congrArg (x_g0 111 12 0 12) ((xe_iconst 12).trans (congrArg (x_iconst 12) ((xe_if_icmp .ne 35).trans (congrArg (x_if_icmp .ne 35 K) ((xe_iconst (-5)).trans (congrArg (x_iconst (-5)) (xe_ireturn)))))))))))
theorem bk_X11_club_e_35 : ck_ fX11 (some .int) cX11_club 35 [.aload 0, .tableswitch 0 11 13 #[], .aload 0, .tableswitch 0 11 12 #[], .iload 1, .iastore, .aload 0, .tableswitch 0 11 14 #[], .aload 0, .tableswitch 0 11 12 #[], .iload 2, .iastore, .aload 0, .dup, .tableswitch 0 11 12 #[], .iconst 1, .iadd, .tableswitch 1 11 12 #[], .aload 0, .tableswitch 0 11 12 #[], .iconst 1, .isub, .ireturn] 72 = true := qck_r (nn_ _) (by decide +kernel)
theorem bs_X11_club_e_35 {P : Zt → Option Zv → Prop} (K : Int → Zl → List Zv → Zt → Prop) : sx_ K P [.aload 0, .tableswitch 0 11 13 #[], .aload 0, .tableswitch 0 11 12 #[], .iload 1, .iastore, .aload 0, .tableswitch 0 11 14 #[], .aload 0, .tableswitch 0 11 12 #[], .iload 2, .iastore, .aload 0, .dup, .tableswitch 0 11 12 #[], .iconst 1, .iadd, .tableswitch 1 11 12 #[], .aload 0, .tableswitch 0 11 12 #[], .iconst 1, .isub, .ireturn] 72 = x_aload 0 (x_g1 111 213 (x_aload 0 (x_g0 111 12 0 12 (x_iload 1 (x_iastore (x_aload 0 (x_g1 111 214 (x_aload 0 (x_g0 111 12 0 12 (x_iload 2 (x_iastore (x_aload 0 (x_dup (x_g0 111 12 0 12 (x_iconst 1 (x_iadd (x_p 111 12 0 12 (x_aload 0 (x_g0 111 12 0 12 (x_iconst 1 (x_isub (x_ireturn P)))))))))))))))))))))) := ((xe_aload 0).trans (congrArg (x_aload 0) ((xe_g1 (kk := 111) rfl tl_11_13).trans (congrArg (x_g1 111 213) ((xe_aload 0).trans (congrArg (x_aload 0) ((xe_g0 (kk := 111) rfl tl_11_12).trans (congrArg (x_g0 111 12 0 12) ((xe_iload 1).trans (congrArg (x_iload 1) ((xe_iastore).trans (congrArg (x_iastore) ((xe_aload 0).trans (congrArg (x_aload 0) ((xe_g1 (kk := 111) rfl tl_11_14).trans (congrArg (x_g1 111 214) ((xe_aload 0).trans (congrArg (x_aload 0) ((xe_g0 (kk := 111) rfl tl_11_12).trans (congrArg (x_g0 111 12 0 12) ((xe_iload 2).trans (congrArg (x_iload 2) ((xe_iastore).trans (congrArg (x_iastore) ((xe_aload 0).trans (congrArg (x_aload 0) ((xe_dup).trans (congrArg (x_dup) ((xe_g0 (kk := 111) rfl tl_11_12).trans (congrArg (x_g0 111 12 0 12) ((xe_iconst 1).trans (congrArg (x_iconst 1) ((xe_iadd).trans (congrArg (x_iadd) ((xe_p (kk := 111) rfl tl_11_12).trans (congrArg (x_p 111 12 0 12) ((xe_aload 0).trans (congrArg (x_aload 0) ((xe_g0 (kk := 111) rfl tl_11_12).trans (congrArg (x_g0 111 12 0 12) ((xe_iconst 1).trans (congrArg (x_iconst 1) ((xe_isub).trans (congrArg (x_isub) (xe_ireturn)))))))))))))))))))))))))))))))))))))))))))))
abbrev po_X11_club_e (T : Zt) (s c : Int) : Zt → Option Zv → Prop := fun T' r => ∃ x : Int, r = some (vI x) ∧ fr_ [(111, [12]), (213, []), (214, [])] T T' ∧ (((x = -3 ∧ ¬ (0 ≤ s ∧ s ≤ 11 ∧ 0 ≤ c ∧ c ≤ 7) ∧ T' 111 0 12 = T 111 0 12) ∨ ((0 ≤ s ∧ s ≤ 11 ∧ 0 ≤ c ∧ c ≤ 7) ∧ T 111 0 12 = 12 ∧ x = -5 ∧ T' 111 0 12 = T 111 0 12) ∨ ((0 ≤ s ∧ s ≤ 11 ∧ 0 ≤ c ∧ c ≤ 7) ∧ T 111 0 12 < 12 ∧ x = T 111 0 12 ∧ T' 111 0 12 = T 111 0 12 + 1)) ∧ TG9_ 111 12 12 213 214 T T' s c x)
set_option maxHeartbeats 4000000 in
theorem ct_X11_club_e {T : Zt} {s c : Int} : Ct_ yX11_club zX11_club T [vR 111 0, vI s, vI c] (po_X11_club_e T s c) := by
  refine ct_of pn_11 rfl rfl (Nat.le_of_ble_eq_true rfl) (fun hT hav => ?_)
  have hr_s : -2147483648 ≤ s ∧ s ≤ 2147483647 := hav (vI s) (List.mem_cons_of_mem _ List.mem_cons_self)
  have hr_c : -2147483648 ≤ c ∧ c ≤ 2147483647 := hav (vI c) (List.mem_cons_of_mem _ (List.mem_cons_of_mem _ List.mem_cons_self))
  have hz : zX11_club.2.2.2.1 = some .boolean → ∀ (T' : Zt) (x : Int), po_X11_club_e T s c T' (some (vI x)) → 0 ≤ x ∧ x ≤ 1 := fun h => by cases h
  have hb_12 : 0 ≤ T 111 0 12 ∧ T 111 0 12 ≤ 12 := bd_f hT 111 12 tl_11_12 0
  show J_ zX11_club T (po_X11_club_e T s c) 0 0 0 [some (vR 111 0), some (vI s), some (vI c)] [] T
  refine j_blx (F := fX11) tb_X11 (nn_ _) bk_X11_club_e_0 bs_X11_club_e_0 hz (fun K hK => ?_)
  refine hK 4 _ [vI 11, vI 0, vI s] T ?_
  refine j_callS (y := yX11_in) (Yc := zX11_in) (rest := []) [vI s, vI 0, vI 11] (ct_X11_in (T := T)) cl_X11_255 (qd_c (by decide +kernel)) (nn_ _) rfl (rf_of rfl) (Nat.le_of_ble_eq_true rfl) (Nat.le_of_ble_eq_true rfl) (Nat.le_of_ble_eq_true rfl) rfl ?_
  rintro _ _ ⟨rfl, x1, rfl, hx1⟩
  show J_ zX11_club T (po_X11_club_e T s c) 0 0 7 _ [vI x1] T
  refine j_blx (F := fX11) tb_X11 (nn_ _) bk_X11_club_e_7 bs_X11_club_e_7 hz (fun K hK => ?_)
  refine And.intro (fun c2 => ?_) (fun c2 => ?_)
  · replace hx1 := hx1.resolve_left (fun z => absurd (c2.symm.trans z.1) (by decide))
    clear c2
    refine hK 20 _ [] T ?_
    refine j_blx (F := fX11) tb_X11 (nn_ _) bk_X11_club_e_20 bs_X11_club_e_20 hz (fun K hK => ?_)
    refine (show po_X11_club_e T s c T (some (vI (-3))) from ?_)
    exact ⟨_, rfl, fr_0 _ _, by omega, Or.inl ⟨rfl, Or.inl ⟨rfl, by omega⟩⟩⟩
  · replace hx1 := hx1.resolve_right (fun z => c2 z.1)
    clear c2
    refine hK 14 _ [vI 7, vI 0, vI c] T ?_
    refine j_callS (y := yX11_in) (Yc := zX11_in) (rest := []) [vI c, vI 0, vI 7] (ct_X11_in (T := T)) cl_X11_255 (qd_c (by decide +kernel)) (nn_ _) rfl (rf_of rfl) (Nat.le_of_ble_eq_true rfl) (Nat.le_of_ble_eq_true rfl) (Nat.le_of_ble_eq_true rfl) rfl ?_
    rintro _ _ ⟨rfl, x3, rfl, hx3⟩
    show J_ zX11_club T (po_X11_club_e T s c) 0 0 17 _ [vI x3] T
    refine j_blx (F := fX11) tb_X11 (nn_ _) bk_X11_club_e_17 bs_X11_club_e_17 hz (fun K hK => ?_)
    refine And.intro (fun c4 => ?_) (fun c4 => ?_)
    · replace hx3 := hx3.resolve_right (fun z => c4 z.1)
      clear c4
      refine hK 23 _ [] T ?_
      refine j_blx (F := fX11) tb_X11 (nn_ _) bk_X11_club_e_23 bs_X11_club_e_23 hz (fun K hK => ?_)
      intro b5 b5b
      refine And.intro (fun c6 => ?_) (fun c6 => ?_)
      · refine hK 35 _ [] T ?_
        refine j_blx (F := fX11) tb_X11 (nn_ _) bk_X11_club_e_35 bs_X11_club_e_35 hz (fun K hK => ?_)
        intro b7 b7b
        refine iy_i (by omega) (by omega) ?_
        refine x_nm (fun U8 hU8 => ?_)
        have e9 := up_f hU8
        intro b10 b10b
        have e11 : U8 111 0 12 = T 111 0 12 := up_k hU8 (by exact Nat.ne_of_beq_eq_false rfl) 0 12
        rw [e11] at b10 b10b ⊢
        refine iy_i (by omega) (by omega) ?_
        refine x_nm (fun U12 hU12 => ?_)
        have e13 := up_f hU12
        intro b14 b14b
        have e15 : U12 111 0 12 = T 111 0 12 := (up_k hU12 (by exact Nat.ne_of_beq_eq_false rfl) 0 12).trans (up_k hU8 (by exact Nat.ne_of_beq_eq_false rfl) 0 12)
        rw [e15] at b14 b14b ⊢
        refine rg_i (by omega) ?_
        refine bd_i (by omega) ?_
        refine x_nm (fun U16 hU16 => ?_)
        have e17 := up_f hU16
        intro b18 b18b
        have e19 : U16 111 0 12 = (T 111 0 12) + 1 := up_f hU16
        rw [e19] at b18 b18b ⊢
        refine rg_i (by omega) ?_
        refine (show po_X11_club_e T s c U16 (some (vI (((T 111 0 12) + 1) - 1))) from ?_)
        have e20 : U16 111 0 12 = (T 111 0 12) + 1 := up_f hU16
        have e21 : U16 111 0 12 = (T 111 0 12) + 1 := up_f hU16
        exact ⟨_, rfl, fr_u (fr_u (fr_u (fr_0 _ _) hU8 rfl) hU12 rfl) hU16 rfl, by omega, Or.inr ⟨by omega, by omega, by omega, by omega, ⟨(up_k hU16 (by exact Nat.ne_of_beq_eq_false rfl) 0 _).trans ((up_k hU12 (by exact Nat.ne_of_beq_eq_false rfl) 0 _).trans (up_f hU8)), fun j hj => (up_k hU16 (by exact Nat.ne_of_beq_eq_false rfl) 0 j).trans ((up_k hU12 (by exact Nat.ne_of_beq_eq_false rfl) 0 j).trans (up_g hU8 (fun z => hj z.2.2)))⟩, ⟨(up_k hU16 (by exact Nat.ne_of_beq_eq_false rfl) 0 _).trans (up_f hU12), fun j hj => (up_k hU16 (by exact Nat.ne_of_beq_eq_false rfl) 0 j).trans ((up_g hU12 (fun z => hj z.2.2)).trans (up_k hU8 (by exact Nat.ne_of_beq_eq_false rfl) 0 j))⟩⟩⟩
      · refine (show po_X11_club_e T s c T (some (vI (-5))) from ?_)
        exact ⟨_, rfl, fr_0 _ _, by omega, Or.inl ⟨rfl, Or.inr ⟨by omega, by omega, rfl⟩⟩⟩
    · replace hx3 := hx3.resolve_left (fun z => absurd (c4.symm.trans z.1) (by decide))
      clear c4
      refine (show po_X11_club_e T s c T (some (vI (-3))) from ?_)
      exact ⟨_, rfl, fr_0 _ _, by omega, Or.inl ⟨rfl, Or.inl ⟨rfl, by omega⟩⟩⟩
theorem bk_X10_official_e_0 : ck_ fX10 (some .int) cX10_official 0 [.iload 1, .iconst 12] 3 = true := qck_r (nn_ _) (by decide +kernel)
theorem bs_X10_official_e_0 {P : Zt → Option Zv → Prop} (K : Int → Zl → List Zv → Zt → Prop) : sx_ K P [.iload 1, .iconst 12] 3 = x_iload 1 (x_iconst 12 (K 3)) := ((xe_iload 1).trans (congrArg (x_iload 1) ((xe_iconst 12).trans (congrArg (x_iconst 12) xe_nil))))
theorem bk_X10_official_e_6 : ck_ fX10 (some .int) cX10_official 6 [.ifCond .eq 18, .iload 2, .iconst 8] 12 = true := qck_r (nn_ _) (by decide +kernel)
theorem bs_X10_official_e_6 {P : Zt → Option Zv → Prop} (K : Int → Zl → List Zv → Zt → Prop) : sx_ K P [.ifCond .eq 18, .iload 2, .iconst 8] 12 = x_ifCond .eq 18 K (x_iload 2 (x_iconst 8 (K 12))) := ((xe_ifCond .eq 18).trans (congrArg (x_ifCond .eq 18 K) ((xe_iload 2).trans (congrArg (x_iload 2) ((xe_iconst 8).trans (congrArg (x_iconst 8) xe_nil))))))
theorem bk_X10_official_e_18 : ck_ fX10 (some .int) cX10_official 18 [.iconst (-3), .ireturn] 21 = true := qck_r (nn_ _) (by decide +kernel)
theorem bs_X10_official_e_18 {P : Zt → Option Zv → Prop} (K : Int → Zl → List Zv → Zt → Prop) : sx_ K P [.iconst (-3), .ireturn] 21 = x_iconst (-3) (x_ireturn P) := ((xe_iconst (-3)).trans (congrArg (x_iconst (-3)) (xe_ireturn)))
theorem bk_X10_official_e_15 : ck_ fX10 (some .int) cX10_official 15 [.ifCond .ne 21, .iconst (-3), .ireturn] 21 = true := qck_r (nn_ _) (by decide +kernel)
theorem bs_X10_official_e_15 {P : Zt → Option Zv → Prop} (K : Int → Zl → List Zv → Zt → Prop) : sx_ K P [.ifCond .ne 21, .iconst (-3), .ireturn] 21 = x_ifCond .ne 21 K (x_iconst (-3) (x_ireturn P)) := ((xe_ifCond .ne 21).trans (congrArg (x_ifCond .ne 21 K) ((xe_iconst (-3)).trans (congrArg (x_iconst (-3)) (xe_ireturn)))))
theorem bk_X10_official_e_21 : ck_ fX10 (some .int) cX10_official 21 [.aload 0, .tableswitch 0 10 1 #[], .tableswitch 0 8 12 #[], .iconst 8, .if_icmp .lt 36, .iconst (-5), .ireturn] 36 = true := qck_r (nn_ _) (by decide +kernel)
theorem bs_X10_official_e_21 {P : Zt → Option Zv → Prop} (K : Int → Zl → List Zv → Zt → Prop) : sx_ K P [.aload 0, .tableswitch 0 10 1 #[], .tableswitch 0 8 12 #[], .iconst 8, .if_icmp .lt 36, .iconst (-5), .ireturn] 36 = x_aload 0 (x_g1 110 108 (x_g0 108 12 0 8 (x_iconst 8 (x_if_icmp .lt 36 K (x_iconst (-5) (x_ireturn P)))))) := ((xe_aload 0).trans (congrArg (x_aload 0) ((xe_g1 (kk := 110) rfl tl_10_1).trans (congrArg (x_g1 110 108) ((xe_g0 (kk := 108) rfl tl_8_12).trans (congrArg (x_g0 108 12 0 8) ((xe_iconst 8).trans (congrArg (x_iconst 8) ((xe_if_icmp .lt 36).trans (congrArg (x_if_icmp .lt 36 K) ((xe_iconst (-5)).trans (congrArg (x_iconst (-5)) (xe_ireturn)))))))))))))
theorem bk_X10_official_e_36 : ck_ fX10 (some .int) cX10_official 36 [.aload 0, .tableswitch 0 10 1 #[], .tableswitch 0 8 12 #[], .istore 3, .aload 0, .tableswitch 0 10 1 #[], .tableswitch 0 8 10 #[], .iload 3, .iload 1, .iastore, .aload 0, .tableswitch 0 10 1 #[], .tableswitch 0 8 11 #[], .iload 3, .iload 2, .iastore, .aload 0, .tableswitch 0 10 1 #[], .dup, .tableswitch 0 8 12 #[], .iconst 1, .iadd, .tableswitch 1 8 12 #[], .iload 3, .ireturn] 79 = true := qck_r (nn_ _) (by decide +kernel)
theorem bs_X10_official_e_36 {P : Zt → Option Zv → Prop} (K : Int → Zl → List Zv → Zt → Prop) : sx_ K P [.aload 0, .tableswitch 0 10 1 #[], .tableswitch 0 8 12 #[], .istore 3, .aload 0, .tableswitch 0 10 1 #[], .tableswitch 0 8 10 #[], .iload 3, .iload 1, .iastore, .aload 0, .tableswitch 0 10 1 #[], .tableswitch 0 8 11 #[], .iload 3, .iload 2, .iastore, .aload 0, .tableswitch 0 10 1 #[], .dup, .tableswitch 0 8 12 #[], .iconst 1, .iadd, .tableswitch 1 8 12 #[], .iload 3, .ireturn] 79 = x_aload 0 (x_g1 110 108 (x_g0 108 12 0 8 (x_istore 3 (x_aload 0 (x_g1 110 108 (x_g1 108 570 (x_iload 3 (x_iload 1 (x_iastore (x_aload 0 (x_g1 110 108 (x_g1 108 571 (x_iload 3 (x_iload 2 (x_iastore (x_aload 0 (x_g1 110 108 (x_dup (x_g0 108 12 0 8 (x_iconst 1 (x_iadd (x_p 108 12 0 8 (x_iload 3 (x_ireturn P)))))))))))))))))))))))) := ((xe_aload 0).trans (congrArg (x_aload 0) ((xe_g1 (kk := 110) rfl tl_10_1).trans (congrArg (x_g1 110 108) ((xe_g0 (kk := 108) rfl tl_8_12).trans (congrArg (x_g0 108 12 0 8) ((xe_istore 3).trans (congrArg (x_istore 3) ((xe_aload 0).trans (congrArg (x_aload 0) ((xe_g1 (kk := 110) rfl tl_10_1).trans (congrArg (x_g1 110 108) ((xe_g1 (kk := 108) rfl tl_8_10).trans (congrArg (x_g1 108 570) ((xe_iload 3).trans (congrArg (x_iload 3) ((xe_iload 1).trans (congrArg (x_iload 1) ((xe_iastore).trans (congrArg (x_iastore) ((xe_aload 0).trans (congrArg (x_aload 0) ((xe_g1 (kk := 110) rfl tl_10_1).trans (congrArg (x_g1 110 108) ((xe_g1 (kk := 108) rfl tl_8_11).trans (congrArg (x_g1 108 571) ((xe_iload 3).trans (congrArg (x_iload 3) ((xe_iload 2).trans (congrArg (x_iload 2) ((xe_iastore).trans (congrArg (x_iastore) ((xe_aload 0).trans (congrArg (x_aload 0) ((xe_g1 (kk := 110) rfl tl_10_1).trans (congrArg (x_g1 110 108) ((xe_dup).trans (congrArg (x_dup) ((xe_g0 (kk := 108) rfl tl_8_12).trans (congrArg (x_g0 108 12 0 8) ((xe_iconst 1).trans (congrArg (x_iconst 1) ((xe_iadd).trans (congrArg (x_iadd) ((xe_p (kk := 108) rfl tl_8_12).trans (congrArg (x_p 108 12 0 8) ((xe_iload 3).trans (congrArg (x_iload 3) (xe_ireturn)))))))))))))))))))))))))))))))))))))))))))))))))
abbrev po_X10_official_e (T : Zt) (s c : Int) : Zt → Option Zv → Prop := fun T' r => ∃ x : Int, r = some (vI x) ∧ fr_ [(108, [12]), (570, []), (571, [])] T T' ∧ (((x = -3 ∧ ¬ (0 ≤ s ∧ s ≤ 11 ∧ 0 ≤ c ∧ c ≤ 7) ∧ T' 108 0 12 = T 108 0 12) ∨ ((0 ≤ s ∧ s ≤ 11 ∧ 0 ≤ c ∧ c ≤ 7) ∧ T 108 0 12 = 8 ∧ x = -5 ∧ T' 108 0 12 = T 108 0 12) ∨ ((0 ≤ s ∧ s ≤ 11 ∧ 0 ≤ c ∧ c ≤ 7) ∧ T 108 0 12 < 8 ∧ x = T 108 0 12 ∧ T' 108 0 12 = T 108 0 12 + 1)) ∧ TG9_ 108 12 8 570 571 T T' s c x)
set_option maxHeartbeats 4000000 in
theorem ct_X10_official_e {T : Zt} {s c : Int} : Ct_ yX10_official zX10_official T [vR 110 0, vI s, vI c] (po_X10_official_e T s c) := by
  refine ct_of pn_10 rfl rfl (Nat.le_of_ble_eq_true rfl) (fun hT hav => ?_)
  have hr_s : -2147483648 ≤ s ∧ s ≤ 2147483647 := hav (vI s) (List.mem_cons_of_mem _ List.mem_cons_self)
  have hr_c : -2147483648 ≤ c ∧ c ≤ 2147483647 := hav (vI c) (List.mem_cons_of_mem _ (List.mem_cons_of_mem _ List.mem_cons_self))
  have hz : zX10_official.2.2.2.1 = some .boolean → ∀ (T' : Zt) (x : Int), po_X10_official_e T s c T' (some (vI x)) → 0 ≤ x ∧ x ≤ 1 := fun h => by cases h
  have hb_12 : 0 ≤ T 108 0 12 ∧ T 108 0 12 ≤ 8 := bd_f hT 108 12 tl_8_12 0
  show J_ zX10_official T (po_X10_official_e T s c) 0 0 0 [some (vR 110 0), some (vI s), some (vI c), none] [] T
  refine j_blx (F := fX10) tb_X10 (nn_ _) bk_X10_official_e_0 bs_X10_official_e_0 hz (fun K hK => ?_)
  refine hK 3 _ [vI 12, vI s] T ?_
  refine j_callS (y := yX10_isBelow) (Yc := zX10_isBelow) (rest := []) [vI s, vI 12] (ct_X10_isBelow (T := T)) cl_X10_115 (qd_c (by decide +kernel)) (nn_ _) rfl (rf_of rfl) (Nat.le_of_ble_eq_true rfl) (Nat.le_of_ble_eq_true rfl) (Nat.le_of_ble_eq_true rfl) rfl ?_
  rintro _ _ ⟨rfl, x1, rfl, hx1⟩
  show J_ zX10_official T (po_X10_official_e T s c) 0 0 6 _ [vI x1] T
  refine j_blx (F := fX10) tb_X10 (nn_ _) bk_X10_official_e_6 bs_X10_official_e_6 hz (fun K hK => ?_)
  refine And.intro (fun c2 => ?_) (fun c2 => ?_)
  · replace hx1 := hx1.resolve_left (fun z => absurd (c2.symm.trans z.1) (by decide))
    clear c2
    refine hK 18 _ [] T ?_
    refine j_blx (F := fX10) tb_X10 (nn_ _) bk_X10_official_e_18 bs_X10_official_e_18 hz (fun K hK => ?_)
    refine (show po_X10_official_e T s c T (some (vI (-3))) from ?_)
    exact ⟨_, rfl, fr_0 _ _, by omega, Or.inl ⟨rfl, Or.inl ⟨rfl, by omega⟩⟩⟩
  · replace hx1 := hx1.resolve_right (fun z => c2 z.1)
    clear c2
    refine hK 12 _ [vI 8, vI c] T ?_
    refine j_callS (y := yX10_isBelow) (Yc := zX10_isBelow) (rest := []) [vI c, vI 8] (ct_X10_isBelow (T := T)) cl_X10_115 (qd_c (by decide +kernel)) (nn_ _) rfl (rf_of rfl) (Nat.le_of_ble_eq_true rfl) (Nat.le_of_ble_eq_true rfl) (Nat.le_of_ble_eq_true rfl) rfl ?_
    rintro _ _ ⟨rfl, x3, rfl, hx3⟩
    show J_ zX10_official T (po_X10_official_e T s c) 0 0 15 _ [vI x3] T
    refine j_blx (F := fX10) tb_X10 (nn_ _) bk_X10_official_e_15 bs_X10_official_e_15 hz (fun K hK => ?_)
    refine And.intro (fun c4 => ?_) (fun c4 => ?_)
    · replace hx3 := hx3.resolve_right (fun z => c4 z.1)
      clear c4
      refine hK 21 _ [] T ?_
      refine j_blx (F := fX10) tb_X10 (nn_ _) bk_X10_official_e_21 bs_X10_official_e_21 hz (fun K hK => ?_)
      intro b5 b5b
      refine And.intro (fun c6 => ?_) (fun c6 => ?_)
      · refine hK 36 _ [] T ?_
        refine j_blx (F := fX10) tb_X10 (nn_ _) bk_X10_official_e_36 bs_X10_official_e_36 hz (fun K hK => ?_)
        intro b7 b7b
        refine iy_i (by omega) (by omega) ?_
        refine x_nm (fun U8 hU8 => ?_)
        have e9 := up_f hU8
        refine iy_i (by omega) (by omega) ?_
        refine x_nm (fun U10 hU10 => ?_)
        have e11 := up_f hU10
        intro b12 b12b
        have e13 : U10 108 0 12 = T 108 0 12 := (up_k hU10 (by exact Nat.ne_of_beq_eq_false rfl) 0 12).trans (up_k hU8 (by exact Nat.ne_of_beq_eq_false rfl) 0 12)
        rw [e13] at b12 b12b ⊢
        refine rg_i (by omega) ?_
        refine bd_i (by omega) ?_
        refine x_nm (fun U14 hU14 => ?_)
        have e15 := up_f hU14
        refine (show po_X10_official_e T s c U14 (some (vI (T 108 0 12))) from ?_)
        have e16 : U14 108 0 12 = (T 108 0 12) + 1 := up_f hU14
        have e17 : U14 108 0 12 = (T 108 0 12) + 1 := up_f hU14
        exact ⟨_, rfl, fr_u (fr_u (fr_u (fr_0 _ _) hU8 rfl) hU10 rfl) hU14 rfl, by omega, Or.inr ⟨by omega, by omega, by omega, by omega, ⟨(up_k hU14 (by exact Nat.ne_of_beq_eq_false rfl) 0 _).trans ((up_k hU10 (by exact Nat.ne_of_beq_eq_false rfl) 0 _).trans (up_f hU8)), fun j hj => (up_k hU14 (by exact Nat.ne_of_beq_eq_false rfl) 0 j).trans ((up_k hU10 (by exact Nat.ne_of_beq_eq_false rfl) 0 j).trans (up_g hU8 (fun z => hj z.2.2)))⟩, ⟨(up_k hU14 (by exact Nat.ne_of_beq_eq_false rfl) 0 _).trans (up_f hU10), fun j hj => (up_k hU14 (by exact Nat.ne_of_beq_eq_false rfl) 0 j).trans ((up_g hU10 (fun z => hj z.2.2)).trans (up_k hU8 (by exact Nat.ne_of_beq_eq_false rfl) 0 j))⟩⟩⟩
      · refine (show po_X10_official_e T s c T (some (vI (-5))) from ?_)
        exact ⟨_, rfl, fr_0 _ _, by omega, Or.inl ⟨rfl, Or.inr ⟨by omega, by omega, rfl⟩⟩⟩
    · replace hx3 := hx3.resolve_left (fun z => absurd (c4.symm.trans z.1) (by decide))
      clear c4
      refine (show po_X10_official_e T s c T (some (vI (-3))) from ?_)
      exact ⟨_, rfl, fr_0 _ _, by omega, Or.inl ⟨rfl, Or.inl ⟨rfl, by omega⟩⟩⟩
theorem bk_X11_official_e_0 : ck_ fX11 (some .int) cX11_official 0 [.iload 1, .iconst 0, .iconst 11] 4 = true := qck_r (nn_ _) (by decide +kernel)
theorem bs_X11_official_e_0 {P : Zt → Option Zv → Prop} (K : Int → Zl → List Zv → Zt → Prop) : sx_ K P [.iload 1, .iconst 0, .iconst 11] 4 = x_iload 1 (x_iconst 0 (x_iconst 11 (K 4))) := ((xe_iload 1).trans (congrArg (x_iload 1) ((xe_iconst 0).trans (congrArg (x_iconst 0) ((xe_iconst 11).trans (congrArg (x_iconst 11) xe_nil))))))
theorem bk_X11_official_e_7 : ck_ fX11 (some .int) cX11_official 7 [.ifCond .eq 20, .iload 2, .iconst 0, .iconst 7] 14 = true := qck_r (nn_ _) (by decide +kernel)
theorem bs_X11_official_e_7 {P : Zt → Option Zv → Prop} (K : Int → Zl → List Zv → Zt → Prop) : sx_ K P [.ifCond .eq 20, .iload 2, .iconst 0, .iconst 7] 14 = x_ifCond .eq 20 K (x_iload 2 (x_iconst 0 (x_iconst 7 (K 14)))) := ((xe_ifCond .eq 20).trans (congrArg (x_ifCond .eq 20 K) ((xe_iload 2).trans (congrArg (x_iload 2) ((xe_iconst 0).trans (congrArg (x_iconst 0) ((xe_iconst 7).trans (congrArg (x_iconst 7) xe_nil))))))))
theorem bk_X11_official_e_20 : ck_ fX11 (some .int) cX11_official 20 [.iconst (-3), .ireturn] 23 = true := qck_r (nn_ _) (by decide +kernel)
theorem bs_X11_official_e_20 {P : Zt → Option Zv → Prop} (K : Int → Zl → List Zv → Zt → Prop) : sx_ K P [.iconst (-3), .ireturn] 23 = x_iconst (-3) (x_ireturn P) := ((xe_iconst (-3)).trans (congrArg (x_iconst (-3)) (xe_ireturn)))
theorem bk_X11_official_e_17 : ck_ fX11 (some .int) cX11_official 17 [.ifCond .ne 23, .iconst (-3), .ireturn] 23 = true := qck_r (nn_ _) (by decide +kernel)
theorem bs_X11_official_e_17 {P : Zt → Option Zv → Prop} (K : Int → Zl → List Zv → Zt → Prop) : sx_ K P [.ifCond .ne 23, .iconst (-3), .ireturn] 23 = x_ifCond .ne 23 K (x_iconst (-3) (x_ireturn P)) := ((xe_ifCond .ne 23).trans (congrArg (x_ifCond .ne 23 K) ((xe_iconst (-3)).trans (congrArg (x_iconst (-3)) (xe_ireturn)))))
theorem bk_X11_official_e_23 : ck_ fX11 (some .int) cX11_official 23 [.aload 0, .tableswitch 0 11 21 #[], .iconst 8, .if_icmp .ne 35, .iconst (-5), .ireturn] 35 = true := qck_r (nn_ _) (by decide +kernel)
theorem bs_X11_official_e_23 {P : Zt → Option Zv → Prop} (K : Int → Zl → List Zv → Zt → Prop) : sx_ K P [.aload 0, .tableswitch 0 11 21 #[], .iconst 8, .if_icmp .ne 35, .iconst (-5), .ireturn] 35 = x_aload 0 (x_g0 111 21 0 8 (x_iconst 8 (x_if_icmp .ne 35 K (x_iconst (-5) (x_ireturn P))))) := ((xe_aload 0).trans (congrArg (x_aload 0) ((xe_g0 (kk := 111) rfl tl_11_21).trans (congrArg (x_g0 111 21 0 8) ((xe_iconst 8).trans (congrArg (x_iconst 8) ((xe_if_icmp .ne 35).trans (congrArg (x_if_icmp .ne 35 K) ((xe_iconst (-5)).trans (congrArg (x_iconst (-5)) (xe_ireturn)))))))))))
theorem bk_X11_official_e_35 : ck_ fX11 (some .int) cX11_official 35 [.aload 0, .tableswitch 0 11 22 #[], .aload 0, .tableswitch 0 11 21 #[], .iload 1, .iastore, .aload 0, .tableswitch 0 11 23 #[], .aload 0, .tableswitch 0 11 21 #[], .iload 2, .iastore, .aload 0, .dup, .tableswitch 0 11 21 #[], .iconst 1, .iadd, .tableswitch 1 11 21 #[], .aload 0, .tableswitch 0 11 21 #[], .iconst 1, .isub, .ireturn] 72 = true := qck_r (nn_ _) (by decide +kernel)
theorem bs_X11_official_e_35 {P : Zt → Option Zv → Prop} (K : Int → Zl → List Zv → Zt → Prop) : sx_ K P [.aload 0, .tableswitch 0 11 22 #[], .aload 0, .tableswitch 0 11 21 #[], .iload 1, .iastore, .aload 0, .tableswitch 0 11 23 #[], .aload 0, .tableswitch 0 11 21 #[], .iload 2, .iastore, .aload 0, .dup, .tableswitch 0 11 21 #[], .iconst 1, .iadd, .tableswitch 1 11 21 #[], .aload 0, .tableswitch 0 11 21 #[], .iconst 1, .isub, .ireturn] 72 = x_aload 0 (x_g1 111 222 (x_aload 0 (x_g0 111 21 0 8 (x_iload 1 (x_iastore (x_aload 0 (x_g1 111 223 (x_aload 0 (x_g0 111 21 0 8 (x_iload 2 (x_iastore (x_aload 0 (x_dup (x_g0 111 21 0 8 (x_iconst 1 (x_iadd (x_p 111 21 0 8 (x_aload 0 (x_g0 111 21 0 8 (x_iconst 1 (x_isub (x_ireturn P)))))))))))))))))))))) := ((xe_aload 0).trans (congrArg (x_aload 0) ((xe_g1 (kk := 111) rfl tl_11_22).trans (congrArg (x_g1 111 222) ((xe_aload 0).trans (congrArg (x_aload 0) ((xe_g0 (kk := 111) rfl tl_11_21).trans (congrArg (x_g0 111 21 0 8) ((xe_iload 1).trans (congrArg (x_iload 1) ((xe_iastore).trans (congrArg (x_iastore) ((xe_aload 0).trans (congrArg (x_aload 0) ((xe_g1 (kk := 111) rfl tl_11_23).trans (congrArg (x_g1 111 223) ((xe_aload 0).trans (congrArg (x_aload 0) ((xe_g0 (kk := 111) rfl tl_11_21).trans (congrArg (x_g0 111 21 0 8) ((xe_iload 2).trans (congrArg (x_iload 2) ((xe_iastore).trans (congrArg (x_iastore) ((xe_aload 0).trans (congrArg (x_aload 0) ((xe_dup).trans (congrArg (x_dup) ((xe_g0 (kk := 111) rfl tl_11_21).trans (congrArg (x_g0 111 21 0 8) ((xe_iconst 1).trans (congrArg (x_iconst 1) ((xe_iadd).trans (congrArg (x_iadd) ((xe_p (kk := 111) rfl tl_11_21).trans (congrArg (x_p 111 21 0 8) ((xe_aload 0).trans (congrArg (x_aload 0) ((xe_g0 (kk := 111) rfl tl_11_21).trans (congrArg (x_g0 111 21 0 8) ((xe_iconst 1).trans (congrArg (x_iconst 1) ((xe_isub).trans (congrArg (x_isub) (xe_ireturn)))))))))))))))))))))))))))))))))))))))))))))
abbrev po_X11_official_e (T : Zt) (s c : Int) : Zt → Option Zv → Prop := fun T' r => ∃ x : Int, r = some (vI x) ∧ fr_ [(111, [21]), (222, []), (223, [])] T T' ∧ (((x = -3 ∧ ¬ (0 ≤ s ∧ s ≤ 11 ∧ 0 ≤ c ∧ c ≤ 7) ∧ T' 111 0 21 = T 111 0 21) ∨ ((0 ≤ s ∧ s ≤ 11 ∧ 0 ≤ c ∧ c ≤ 7) ∧ T 111 0 21 = 8 ∧ x = -5 ∧ T' 111 0 21 = T 111 0 21) ∨ ((0 ≤ s ∧ s ≤ 11 ∧ 0 ≤ c ∧ c ≤ 7) ∧ T 111 0 21 < 8 ∧ x = T 111 0 21 ∧ T' 111 0 21 = T 111 0 21 + 1)) ∧ TG9_ 111 21 8 222 223 T T' s c x)
set_option maxHeartbeats 4000000 in
theorem ct_X11_official_e {T : Zt} {s c : Int} : Ct_ yX11_official zX11_official T [vR 111 0, vI s, vI c] (po_X11_official_e T s c) := by
  refine ct_of pn_11 rfl rfl (Nat.le_of_ble_eq_true rfl) (fun hT hav => ?_)
  have hr_s : -2147483648 ≤ s ∧ s ≤ 2147483647 := hav (vI s) (List.mem_cons_of_mem _ List.mem_cons_self)
  have hr_c : -2147483648 ≤ c ∧ c ≤ 2147483647 := hav (vI c) (List.mem_cons_of_mem _ (List.mem_cons_of_mem _ List.mem_cons_self))
  have hz : zX11_official.2.2.2.1 = some .boolean → ∀ (T' : Zt) (x : Int), po_X11_official_e T s c T' (some (vI x)) → 0 ≤ x ∧ x ≤ 1 := fun h => by cases h
  have hb_21 : 0 ≤ T 111 0 21 ∧ T 111 0 21 ≤ 8 := bd_f hT 111 21 tl_11_21 0
  show J_ zX11_official T (po_X11_official_e T s c) 0 0 0 [some (vR 111 0), some (vI s), some (vI c)] [] T
  refine j_blx (F := fX11) tb_X11 (nn_ _) bk_X11_official_e_0 bs_X11_official_e_0 hz (fun K hK => ?_)
  refine hK 4 _ [vI 11, vI 0, vI s] T ?_
  refine j_callS (y := yX11_in) (Yc := zX11_in) (rest := []) [vI s, vI 0, vI 11] (ct_X11_in (T := T)) cl_X11_255 (qd_c (by decide +kernel)) (nn_ _) rfl (rf_of rfl) (Nat.le_of_ble_eq_true rfl) (Nat.le_of_ble_eq_true rfl) (Nat.le_of_ble_eq_true rfl) rfl ?_
  rintro _ _ ⟨rfl, x1, rfl, hx1⟩
  show J_ zX11_official T (po_X11_official_e T s c) 0 0 7 _ [vI x1] T
  refine j_blx (F := fX11) tb_X11 (nn_ _) bk_X11_official_e_7 bs_X11_official_e_7 hz (fun K hK => ?_)
  refine And.intro (fun c2 => ?_) (fun c2 => ?_)
  · replace hx1 := hx1.resolve_left (fun z => absurd (c2.symm.trans z.1) (by decide))
    clear c2
    refine hK 20 _ [] T ?_
    refine j_blx (F := fX11) tb_X11 (nn_ _) bk_X11_official_e_20 bs_X11_official_e_20 hz (fun K hK => ?_)
    refine (show po_X11_official_e T s c T (some (vI (-3))) from ?_)
    exact ⟨_, rfl, fr_0 _ _, by omega, Or.inl ⟨rfl, Or.inl ⟨rfl, by omega⟩⟩⟩
  · replace hx1 := hx1.resolve_right (fun z => c2 z.1)
    clear c2
    refine hK 14 _ [vI 7, vI 0, vI c] T ?_
    refine j_callS (y := yX11_in) (Yc := zX11_in) (rest := []) [vI c, vI 0, vI 7] (ct_X11_in (T := T)) cl_X11_255 (qd_c (by decide +kernel)) (nn_ _) rfl (rf_of rfl) (Nat.le_of_ble_eq_true rfl) (Nat.le_of_ble_eq_true rfl) (Nat.le_of_ble_eq_true rfl) rfl ?_
    rintro _ _ ⟨rfl, x3, rfl, hx3⟩
    show J_ zX11_official T (po_X11_official_e T s c) 0 0 17 _ [vI x3] T
    refine j_blx (F := fX11) tb_X11 (nn_ _) bk_X11_official_e_17 bs_X11_official_e_17 hz (fun K hK => ?_)
    refine And.intro (fun c4 => ?_) (fun c4 => ?_)
    · replace hx3 := hx3.resolve_right (fun z => c4 z.1)
      clear c4
      refine hK 23 _ [] T ?_
      refine j_blx (F := fX11) tb_X11 (nn_ _) bk_X11_official_e_23 bs_X11_official_e_23 hz (fun K hK => ?_)
      intro b5 b5b
      refine And.intro (fun c6 => ?_) (fun c6 => ?_)
      · refine hK 35 _ [] T ?_
        refine j_blx (F := fX11) tb_X11 (nn_ _) bk_X11_official_e_35 bs_X11_official_e_35 hz (fun K hK => ?_)
        intro b7 b7b
        refine iy_i (by omega) (by omega) ?_
        refine x_nm (fun U8 hU8 => ?_)
        have e9 := up_f hU8
        intro b10 b10b
        have e11 : U8 111 0 21 = T 111 0 21 := up_k hU8 (by exact Nat.ne_of_beq_eq_false rfl) 0 21
        rw [e11] at b10 b10b ⊢
        refine iy_i (by omega) (by omega) ?_
        refine x_nm (fun U12 hU12 => ?_)
        have e13 := up_f hU12
        intro b14 b14b
        have e15 : U12 111 0 21 = T 111 0 21 := (up_k hU12 (by exact Nat.ne_of_beq_eq_false rfl) 0 21).trans (up_k hU8 (by exact Nat.ne_of_beq_eq_false rfl) 0 21)
        rw [e15] at b14 b14b ⊢
        refine rg_i (by omega) ?_
        refine bd_i (by omega) ?_
        refine x_nm (fun U16 hU16 => ?_)
        have e17 := up_f hU16
        intro b18 b18b
        have e19 : U16 111 0 21 = (T 111 0 21) + 1 := up_f hU16
        rw [e19] at b18 b18b ⊢
        refine rg_i (by omega) ?_
        refine (show po_X11_official_e T s c U16 (some (vI (((T 111 0 21) + 1) - 1))) from ?_)
        have e20 : U16 111 0 21 = (T 111 0 21) + 1 := up_f hU16
        have e21 : U16 111 0 21 = (T 111 0 21) + 1 := up_f hU16
        exact ⟨_, rfl, fr_u (fr_u (fr_u (fr_0 _ _) hU8 rfl) hU12 rfl) hU16 rfl, by omega, Or.inr ⟨by omega, by omega, by omega, by omega, ⟨(up_k hU16 (by exact Nat.ne_of_beq_eq_false rfl) 0 _).trans ((up_k hU12 (by exact Nat.ne_of_beq_eq_false rfl) 0 _).trans (up_f hU8)), fun j hj => (up_k hU16 (by exact Nat.ne_of_beq_eq_false rfl) 0 j).trans ((up_k hU12 (by exact Nat.ne_of_beq_eq_false rfl) 0 j).trans (up_g hU8 (fun z => hj z.2.2)))⟩, ⟨(up_k hU16 (by exact Nat.ne_of_beq_eq_false rfl) 0 _).trans (up_f hU12), fun j hj => (up_k hU16 (by exact Nat.ne_of_beq_eq_false rfl) 0 j).trans ((up_g hU12 (fun z => hj z.2.2)).trans (up_k hU8 (by exact Nat.ne_of_beq_eq_false rfl) 0 j))⟩⟩⟩
      · refine (show po_X11_official_e T s c T (some (vI (-5))) from ?_)
        exact ⟨_, rfl, fr_0 _ _, by omega, Or.inl ⟨rfl, Or.inr ⟨by omega, by omega, rfl⟩⟩⟩
    · replace hx3 := hx3.resolve_left (fun z => absurd (c4.symm.trans z.1) (by decide))
      clear c4
      refine (show po_X11_official_e T s c T (some (vI (-3))) from ?_)
      exact ⟨_, rfl, fr_0 _ _, by omega, Or.inl ⟨rfl, Or.inl ⟨rfl, by omega⟩⟩⟩
-- the draw as the house counts it
theorem qs_g1 {C : Int → Prop} {V : Int → Nat} {g : Int} (h0 : 0 ≤ g) (h4 : g < 4) (c : C g) : qs_ C V (g - 1) = V g + qs_ C V g := qs_f h0 h4 (by omega) c (fun u a b d => by omega)
theorem qs_g0 {C : Int → Prop} {V : Int → Nat} {g : Int} (nc : ¬ C g) : qs_ C V (g - 1) = qs_ C V g := by
  have e : ∀ u : Int, q1_ (g - 1 < u ∧ C u) (V u) = q1_ (g < u ∧ C u) (V u) := fun u => q1_e ⟨fun q => ⟨by
    have := q.1
    by_cases z : u = g
    · exact absurd (z ▸ q.2) nc
    · omega, q.2⟩, fun q => ⟨by have := q.1; omega, q.2⟩⟩ (fun _ => rfl)
  unfold qs_
  rw [e 0, e 1, e 2, e 3]
theorem wr_w (a b : Int) : wr_ (wr_ a + b) = wr_ (a + b) := by unfold wr_; omega
theorem wr_i {a : Int} (h : -2147483648 ≤ a ∧ a ≤ 2147483647) : wr_ a = a := by unfold wr_; omega
/-- how many of the clubs below k stand in a group and are of a country -/
def cmk_ (E C f : Int → Int) (g c : Int) : Nat → Int
  | 0 => 0
  | k + 1 => cmk_ E C f g c k + (if E k ≠ -1 ∧ f k = g ∧ C k = c then 1 else 0)
theorem cmk_b (E C f : Int → Int) (g c : Int) : ∀ k : Nat, 0 ≤ cmk_ E C f g c k ∧ cmk_ E C f g c k ≤ k
  | 0 => by simp [cmk_]
  | k + 1 => by
      have i := cmk_b E C f g c k
      unfold cmk_
      split <;> omega
theorem cmk_a {E C f : Int → Int} {x g : Int} (hx : f x ≠ g) : ∀ k : Nat, alk_ E C f x g k = cmk_ E C f g (C x) k
  | 0 => rfl
  | k + 1 => by
      have i := cmk_a (E := E) (C := C) hx k
      show alk_ E C f x g k + (if ((k : Nat) : Int) ≠ x ∧ E k ≠ -1 ∧ f k = g ∧ C k = C x then (1 : Int) else 0) = cmk_ E C f g (C x) k + (if E k ≠ -1 ∧ f k = g ∧ C k = C x then (1 : Int) else 0)
      rw [i]
      by_cases z : ((k : Nat) : Int) = x
      · have n1 : ¬ (((k : Nat) : Int) ≠ x ∧ E k ≠ -1 ∧ f k = g ∧ C k = C x) := fun q => q.1 z
        have n2 : ¬ (E k ≠ -1 ∧ f k = g ∧ C k = C x) := fun q => hx (by rw [← z]; exact q.2.1)
        rw [if_neg n1, if_neg n2]
      · by_cases y : E k ≠ -1 ∧ f k = g ∧ C k = C x
        · have y1 : ((k : Nat) : Int) ≠ x ∧ E k ≠ -1 ∧ f k = g ∧ C k = C x := ⟨z, y⟩
          rw [if_pos y, if_pos y1]
        · have y1 : ¬ (((k : Nat) : Int) ≠ x ∧ E k ≠ -1 ∧ f k = g ∧ C k = C x) := fun q => y q.2
          rw [if_neg y, if_neg y1]
theorem cmk_u {E C f : Int → Int} {x g : Int} (hx : f x = -1) (hg : 0 ≤ g) (he : E x ≠ -1) (h0 : 0 ≤ x) (g2 c : Int) (h2 : 0 ≤ g2) : ∀ k : Nat, cmk_ E C (fu_ f x g) g2 c k = cmk_ E C f g2 c k + (if x < k ∧ g2 = g ∧ C x = c then 1 else 0)
  | 0 => by
      have n1 : ¬ (x < ((0 : Nat) : Int) ∧ g2 = g ∧ C x = c) := fun q => by have := q.1; omega
      rw [if_neg n1]; rfl
  | k + 1 => by
      have i := cmk_u (C := C) hx hg he h0 g2 c h2 k
      show cmk_ E C (fu_ f x g) g2 c k + (if E k ≠ -1 ∧ fu_ f x g k = g2 ∧ C k = c then (1 : Int) else 0) = cmk_ E C f g2 c k + (if E k ≠ -1 ∧ f k = g2 ∧ C k = c then (1 : Int) else 0) + (if x < ((k + 1 : Nat) : Int) ∧ g2 = g ∧ C x = c then (1 : Int) else 0)
      rw [i]
      by_cases z : ((k : Nat) : Int) = x
      · have n1 : ¬ (x < ((k : Nat) : Int) ∧ g2 = g ∧ C x = c) := fun q => by have := q.1; omega
        have n2 : ¬ (E k ≠ -1 ∧ f k = g2 ∧ C k = c) := fun q => by have := q.2.1; rw [z, hx] at this; omega
        rw [if_neg n1, if_neg n2]
        by_cases y : g2 = g ∧ C x = c
        · rw [if_pos (show E k ≠ -1 ∧ fu_ f x g k = g2 ∧ C k = c from ⟨by rw [z]; exact he, by rw [z, fu_s]; exact y.1.symm, by rw [z]; exact y.2⟩), if_pos (show x < ((k + 1 : Nat) : Int) ∧ g2 = g ∧ C x = c from ⟨by omega, y⟩)]
        · rw [if_neg (show ¬ (E k ≠ -1 ∧ fu_ f x g k = g2 ∧ C k = c) from fun q => y ⟨by have := q.2.1; rw [z, fu_s] at this; exact this.symm, by have := q.2.2; rw [z] at this; exact this⟩), if_neg (show ¬ (x < ((k + 1 : Nat) : Int) ∧ g2 = g ∧ C x = c) from fun q => y q.2)]
      · rw [show fu_ f x g k = f k from fu_n z]
        by_cases y : x < ((k : Nat) : Int) ∧ g2 = g ∧ C x = c
        · rw [if_pos y, if_pos (show x < ((k + 1 : Nat) : Int) ∧ g2 = g ∧ C x = c from ⟨by have := y.1; omega, y.2⟩)]; omega
        · rw [if_neg y, if_neg (show ¬ (x < ((k + 1 : Nat) : Int) ∧ g2 = g ∧ C x = c) from fun q => y ⟨by have := q.1; omega, q.2⟩)]; omega
/-- a club of a pot stands in a group -/
def OX_ (E f : Int → Int) (p g : Int) : Prop := ∃ k, 0 ≤ k ∧ k < 12 ∧ E k = p ∧ f k = g
theorem ox_u {E f : Int → Int} {x g p g2 : Int} (hx : f x = -1) (h0 : 0 ≤ x ∧ x < 12) (hg2 : 0 ≤ g2) : OX_ E (fu_ f x g) p g2 ↔ OX_ E f p g2 ∨ (p = E x ∧ g2 = g) := by
  constructor
  · rintro ⟨k, a, b, c, e⟩
    by_cases z : k = x
    · rw [z, fu_s] at e
      exact Or.inr ⟨by rw [← c, z], e.symm⟩
    · rw [fu_n z] at e
      exact Or.inl ⟨k, a, b, c, e⟩
  · rintro (⟨k, a, b, c, e⟩ | ⟨a, b⟩)
    · exact ⟨k, a, b, c, by rw [fu_n (fun z => by rw [z, hx] at e; omega)]; exact e⟩
    · exact ⟨x, h0.1, h0.2, a.symm, by rw [fu_s]; exact b.symm⟩
/-- the rows taken, countrymen say where the clubs stand -/
def OCW_ (T : Zt) (E C f : Int → Int) : Prop := (∀ p g, 0 ≤ p → p ≤ 2 → 0 ≤ g → g < 4 → (T 434 0 (p * 4 + g) = 0 ↔ ¬ OX_ E f p g)) ∧ ∀ g c, 0 ≤ g → g < 4 → 0 ≤ c → c < 8 → T 435 0 (g * 8 + c) = cmk_ E C f g c 12
theorem oc_e {T T' : Zt} {E C f : Int → Int} (h : OCW_ T E C f) (a : ∀ j, T' 434 0 j = T 434 0 j) (b : ∀ j, T' 435 0 j = T 435 0 j) : OCW_ T' E C f := ⟨fun p g x y z w => by rw [a]; exact h.1 p g x y z w, fun g c x y z w => by rw [b]; exact h.2 g c x y z w⟩
theorem oc_u {T T' : Zt} {E C f : Int → Int} {x g : Int} (h : OCW_ T E C f) (hx : 0 ≤ x ∧ x < 12) (hf : f x = -1) (he : 0 ≤ E x ∧ E x ≤ 2) (hc : 0 ≤ C x ∧ C x < 8) (hg : 0 ≤ g ∧ g < 4) (t1 : T' 434 0 (E x * 4 + g) ≠ 0) (t2 : ∀ j, j ≠ E x * 4 + g → T' 434 0 j = T 434 0 j) (c1 : T' 435 0 (g * 8 + C x) = T 435 0 (g * 8 + C x) + 1) (c2 : ∀ j, j ≠ g * 8 + C x → T' 435 0 j = T 435 0 j) : OCW_ T' E C (fu_ f x g) := by
  refine ⟨fun p g2 a b c e => ?_, fun g2 cc a b c e => ?_⟩
  · rw [ox_u hf hx c]
    by_cases z : p * 4 + g2 = E x * 4 + g
    · have z1 : p = E x ∧ g2 = g := by omega
      rw [z]
      exact ⟨fun q => absurd q t1, fun q => absurd (Or.inr z1) q⟩
    · rw [t2 _ z, h.1 p g2 a b c e]
      exact ⟨fun q r => r.elim q (fun y => z (by rw [y.1, y.2])), fun q r => q (Or.inl r)⟩
  · rw [cmk_u hf hg.1 (by omega) hx.1 g2 cc a 12]
    by_cases z : g2 * 8 + cc = g * 8 + C x
    · have z1 : g2 = g ∧ cc = C x := by omega
      rw [z, c1, if_pos (show x < ((12 : Nat) : Int) ∧ g2 = g ∧ C x = cc from ⟨by have := hx.2; omega, z1.1, z1.2.symm⟩), h.2 g (C x) hg.1 hg.2 hc.1 hc.2, z1.1, z1.2]
    · have n1 : ¬ (x < ((12 : Nat) : Int) ∧ g2 = g ∧ C x = cc) := fun q => z (by rw [q.2.1, q.2.2])
      rw [c2 _ z, if_neg n1, h.2 g2 cc a b c e]; omega
/-- the house's draw -/
def dh_ (T : Zt) : Dr_ := ⟨fun k => T 428 0 k, fun k => T 561 0 k, 12, T 101 0 1, T 101 0 2⟩
def ghw_ (T : Zt) : Int → Int := fun k => T 429 0 k
def lhw_ (T : Zt) : List Int := lq_ (fun k => T 428 0 k) (ghw_ T) 12 3
theorem dq_f {ws : List (Nat × List Int)} {T T' : Zt} {d : Dr_} (h : d = dh_ T) (f : fr_ ws T T') (w : (∀ j, fw_ ws 428 j = false) ∧ (∀ j, fw_ ws 561 j = false) ∧ fw_ ws 101 1 = false ∧ fw_ ws 101 2 = false) : d = dh_ T' := by
  rw [h]
  unfold dh_
  rw [f 101 0 1 w.2.2.1, f 101 0 2 w.2.2.2, show (fun k => T' 428 0 k) = (fun k => T 428 0 k) from funext (fun k => f 428 0 k (w.1 k)), show (fun k => T' 561 0 k) = (fun k => T 561 0 k) from funext (fun k => f 561 0 k (w.2.1 k))]
theorem oc_t {T : Zt} {d : Dr_} {f : Int → Int} {x g : Int} (hd : d = dh_ T) (h : OCW_ T d.E d.C f) (hx : 0 ≤ x ∧ x < 12) (hf : f x = -1) (he : 0 ≤ T 428 0 x ∧ T 428 0 x ≤ 2) (hc : 0 ≤ T 561 0 x ∧ T 561 0 x ≤ 7) (hg : 0 ≤ g ∧ g < 4) : (T 434 0 (T 428 0 x * 4 + g) = 0 ∧ T 435 0 (g * 8 + T 561 0 x) < T 101 0 2) ↔ ms_ d f x g := by
  subst hd
  have a := h.1 (T 428 0 x) g he.1 he.2 hg.1 hg.2
  have b : T 435 0 (g * 8 + T 561 0 x) = cmk_ (dh_ T).E (dh_ T).C f g (T 561 0 x) 12 := h.2 g (T 561 0 x) hg.1 hg.2 hc.1 (by omega)
  have c : alk_ (dh_ T).E (dh_ T).C f x g 12 = cmk_ (dh_ T).E (dh_ T).C f g (T 561 0 x) 12 := cmk_a (by omega) 12
  have hn2 : (dh_ T).n.toNat = 12 := rfl
  unfold ms_
  rw [a, b, hn2, c]
  constructor
  · rintro ⟨q, r⟩
    exact ⟨fun k p1 p2 p3 p4 p5 p6 => q ⟨k, p1, p2, p6, p5⟩, r⟩
  · rintro ⟨q, r⟩
    refine ⟨fun ⟨k, p1, p2, p3, p4⟩ => q k p1 p2 (fun z => by rw [z, hf] at p4; omega) (by rw [p3]; omega) p4 p3, r⟩
/-- the row waiting, from k on -/
def WL_ (T : Zt) : List Int → Int → Prop
  | [], k => k = T 101 0 13
  | x :: l, k => T 432 0 k = x ∧ WL_ T l (k + 1)
theorem wl_c {T : Zt} : ∀ {l : List Int} {k : Int}, WL_ T l k → k + (l.length : Int) = T 101 0 13
  | [], k, h => by
    have h : k = T 101 0 13 := h
    rw [List.length_nil]; omega
  | x :: l, k, h => by
    have i := wl_c h.2
    rw [List.length_cons]; omega
theorem wl_e {T T' : Zt} (a : ∀ j, T' 432 0 j = T 432 0 j) (b : T' 101 0 13 = T 101 0 13) : ∀ {l : List Int} {k : Int}, WL_ T l k → WL_ T' l k
  | [], k, h => by
    have h : k = T 101 0 13 := h
    show k = T' 101 0 13
    omega
  | x :: l, k, h => ⟨(a k).trans h.1, wl_e a b h.2⟩
/-- what is asked of the clubs that wait -/
def FZ_ (T : Zt) (f : Int → Int) (l : List Int) : Prop := l.Nodup ∧ ∀ z ∈ l, (0 ≤ z ∧ z < 12) ∧ f z = -1 ∧ (0 ≤ T 428 0 z ∧ T 428 0 z ≤ 2) ∧ (0 ≤ T 561 0 z ∧ T 561 0 z ≤ 7)
theorem fz_u {T T' : Zt} {f : Int → Int} {x g : Int} {l : List Int} (h : FZ_ T f (x :: l)) (a : ∀ j, T' 428 0 j = T 428 0 j) (b : ∀ j, T' 561 0 j = T 561 0 j) : FZ_ T' (fu_ f x g) l := by
  obtain ⟨n, h⟩ := h
  rw [List.nodup_cons] at n
  refine ⟨n.2, fun z hz => ?_⟩
  have q := h z (List.mem_cons_of_mem _ hz)
  refine ⟨q.1, ?_, by rw [a]; exact q.2.2.1, by rw [b]; exact q.2.2.2⟩
  rw [fu_n (fun y => n.1 (by rw [← y]; exact hz))]
  exact q.2.1
theorem fz_b {T : Zt} {d : Dr_} {f : Int → Int} {l : List Int} {fx gp : Int} (hd : d = dh_ T) (h : FZ_ T f l) : nw_ d fx gp l f ≤ 13824 := by
  subst hd
  exact nw_m h.1 (fun x hx => by
    have q := h.2 x hx
    exact ⟨q.1.1, q.1.2, q.2.1, q.2.2.1.1, q.2.2.1.2⟩)
/-- what counting from a list leaves -/
def PC_ (T T' : Zt) (d : Dr_) (l : List Int) (f : Int → Int) (x : Int) : Prop := x = (nw_ d (-1) (-1) l f : Nat) ∧ (∀ j, T' 434 0 j = T 434 0 j) ∧ (∀ j, T' 435 0 j = T 435 0 j) ∧ (∀ c ∈ l, ∀ u, 0 ≤ u → u < 4 → T' 431 0 (c * 4 + u) = wr_ (T 431 0 (c * 4 + u) + (nw_ d c u l f : Nat))) ∧ ∀ c, c ∉ l → ∀ u, 0 ≤ u → u < 4 → T' 431 0 (c * 4 + u) = T 431 0 (c * 4 + u)
/-- the count of a club's groups, below g -/
def CI_ (T T1 : Zt) (d : Dr_) (x : Int) (l : List Int) (f : Int → Int) (v g : Int) : Prop := v + (qs_ (ok_ d (-1) (-1) f x) (fun u => nw_ d (-1) (-1) l (fu_ f x u)) (g - 1) : Nat) = (nw_ d (-1) (-1) (x :: l) f : Nat) ∧ (∀ c ∈ x :: l, ∀ u, 0 ≤ u → u < 4 → T1 431 0 (c * 4 + u) = wr_ (T 431 0 (c * 4 + u) + (nw_ d c u (x :: l) f : Nat) - (qs_ (ok_ d c u f x) (fun w => nw_ d c u l (fu_ f x w)) (g - 1) : Nat))) ∧ ∀ c, c ∉ x :: l → ∀ u, 0 ≤ u → u < 4 → T1 431 0 (c * 4 + u) = T 431 0 (c * 4 + u)
theorem ci_0 {T : Zt} {d : Dr_} {x : Int} {l : List Int} {f : Int → Int} (hl : ∀ z ∈ x :: l, 0 ≤ z) (hb : ∀ j, 0 ≤ j → -2147483648 ≤ T 431 0 j ∧ T 431 0 j ≤ 2147483647) : CI_ T T d x l f 0 0 := by
  refine ⟨?_, fun c hc u a b => ?_, fun _ _ _ _ _ => rfl⟩
  · show (0 : Int) + (qs_ (ok_ d (-1) (-1) f x) (fun u => nw_ d (-1) (-1) l (fu_ f x u)) (-1) : Nat) = (qs_ (ok_ d (-1) (-1) f x) (fun u => nw_ d (-1) (-1) l (fu_ f x u)) (-1) : Nat)
    omega
  · have e : nw_ d c u (x :: l) f = qs_ (ok_ d c u f x) (fun w => nw_ d c u l (fu_ f x w)) (0 - 1) := rfl
    have z := hl c hc
    rw [e, show T 431 0 (c * 4 + u) + ((qs_ (ok_ d c u f x) (fun w => nw_ d c u l (fu_ f x w)) (0 - 1) : Nat) : Int) - ((qs_ (ok_ d c u f x) (fun w => nw_ d c u l (fu_ f x w)) (0 - 1) : Nat) : Int) = T 431 0 (c * 4 + u) by omega, wr_i (hb _ (by omega))]
theorem ci_n {T T1 : Zt} {d : Dr_} {x : Int} {l : List Int} {f : Int → Int} {v g : Int} (h : CI_ T T1 d x l f v g) (n : ¬ ms_ d f x g) : CI_ T T1 d x l f v (g + 1) := by
  have e : ∀ c u, qs_ (ok_ d c u f x) (fun w => nw_ d c u l (fu_ f x w)) (g - 1) = qs_ (ok_ d c u f x) (fun w => nw_ d c u l (fu_ f x w)) (g + 1 - 1) := fun c u => by
    rw [show g + 1 - 1 = g by omega]
    exact qs_g0 (fun q => n q.2.2)
  refine ⟨by rw [← e]; exact h.1, fun c hc u a b => by rw [← e]; exact h.2.1 c hc u a b, h.2.2⟩
theorem ci_y {T T1 T2 T3 T4 : Zt} {d : Dr_} {x : Int} {l : List Int} {f : Int → Int} {v w g : Int} (h : CI_ T T1 d x l f v g) (hn : (x :: l).Nodup) (hl : ∀ z ∈ x :: l, 0 ≤ z) (hg : 0 ≤ g ∧ g < 4) (hG : g < d.G) (m : ms_ d f x g) (e2 : ∀ j, T2 431 0 j = T1 431 0 j) (p : PC_ T2 T3 d l (fu_ f x g) w) (e4 : T4 431 0 (x * 4 + g) = wr_ (T3 431 0 (x * 4 + g) + w)) (e5 : ∀ j, j ≠ x * 4 + g → T4 431 0 j = T3 431 0 j) : CI_ T T4 d x l f (v + w) (g + 1) := by
  rw [List.nodup_cons] at hn
  have s : ∀ c u, ok_ d c u f x g → qs_ (ok_ d c u f x) (fun w => nw_ d c u l (fu_ f x w)) (g - 1) = nw_ d c u l (fu_ f x g) + qs_ (ok_ d c u f x) (fun w => nw_ d c u l (fu_ f x w)) (g + 1 - 1) := fun c u o => by
    rw [show g + 1 - 1 = g by omega]
    exact qs_g1 (C := ok_ d c u f x) (V := fun w => nw_ d c u l (fu_ f x w)) hg.1 hg.2 o
  obtain ⟨h1, h2, h3⟩ := h
  obtain ⟨p1, -, -, p4, p5⟩ := p
  have x0 := hl x List.mem_cons_self
  refine ⟨?_, fun c hc u a b => ?_, fun c hc u a b => ?_⟩
  · have s0 := s (-1) (-1) ⟨hG, fun z => by omega, m⟩
    rw [s0] at h1
    rw [p1]
    omega
  · rcases List.mem_cons.mp hc with z | z
    · subst z
      by_cases y : u = g
      · subst y
        have s0 := s c u ⟨hG, fun _ => rfl, m⟩
        have o : nw_ d c u l (fu_ f c u) = nw_ d (-1) (-1) l (fu_ f c u) := nw_o l _ (fun y hy => ⟨fun e => hn.1 (by rw [← e]; exact hy), by have := hl y (List.mem_cons_of_mem _ hy); omega⟩)
        rw [e4, p5 c hn.1 u a b, e2, h2 c hc u a b, wr_w, s0, p1, o]
        congr 1
        omega
      · have z0 : qs_ (ok_ d c u f c) (fun w => nw_ d c u l (fu_ f c w)) (g - 1) = qs_ (ok_ d c u f c) (fun w => nw_ d c u l (fu_ f c w)) g := qs_g0 (C := ok_ d c u f c) (fun q => y (q.2.1 rfl).symm)
        rw [e5 _ (by omega), p5 c hn.1 u a b, e2, h2 c hc u a b, show g + 1 - 1 = g by omega, z0]
    · have cx : c ≠ x := fun e => hn.1 (by rw [← e]; exact z)
      have s0 := s c u ⟨hG, fun e => absurd e.symm cx, m⟩
      have c0 := hl c hc
      rw [e5 _ (by omega), p4 c z u a b, e2, h2 c hc u a b, wr_w, s0]
      congr 1
      omega
  · have cx : c ≠ x := fun e => hc (by rw [e]; exact List.mem_cons_self)
    have cl : c ∉ l := fun e => hc (List.mem_cons_of_mem _ e)
    rw [e5 _ (by omega), p5 c cl u a b, e2]
    exact h3 c hc u a b
theorem ci_e {T T1 : Zt} {d : Dr_} {x : Int} {l : List Int} {f : Int → Int} {v g : Int} (h : CI_ T T1 d x l f v g) (hg : d.G ≤ g) (a : ∀ j, T1 434 0 j = T 434 0 j) (b : ∀ j, T1 435 0 j = T 435 0 j) : PC_ T T1 d (x :: l) f v := by
  have e : ∀ c u, qs_ (ok_ d c u f x) (fun w => nw_ d c u l (fu_ f x w)) (g - 1) = 0 := fun c u => qs_n (fun u p _ _ q => by have := q.1; omega)
  obtain ⟨h1, h2, h3⟩ := h
  refine ⟨?_, a, b, fun c hc u p q => ?_, h3⟩
  · rw [e] at h1
    omega
  · rw [h2 c hc u p q, e]
    congr 1
    omega
theorem pc_n {T : Zt} {d : Dr_} {f : Int → Int} : PC_ T T d [] f 1 := ⟨rfl, fun _ => rfl, fun _ => rfl, fun c hc => absurd hc List.not_mem_nil, fun _ _ _ _ _ => rfl⟩
def zX1_cf (n : Nat) : Zm := (RX1, cX1_countFrom, 8, (some .int), { frames := n + 1, cells := 0, slots := 0, locals := 27 * (n + 1) })
theorem rf_cf (n : Nat) : rf_ (zX1_cf n) (zX1_cf (n + 1)) = true := by
  unfold rf_
  rw [Bool.and_eq_true, decide_eq_true_eq, decide_eq_true_eq]
  show n + 1 + 1 ≤ n + 1 + 1 ∧ 8 + (8 + 11) + 27 * (n + 1) ≤ 27 * (n + 1 + 1)
  omega
set_option maxRecDepth 100000 in
theorem cl_cf (n : Nat) : cv_ RX1 68 yX1_countFrom (zX1_cf n) 1 1 := ⟨gi_V (lwq_6 (dqc_m (dqc_m (dqc_m (dqc_m (dqa_m (dqa_m (List.mem_of_getElem? (i := 2) rfl))))))) rfl : Cond.methodLink RX1 68 yX1_countFrom ∈ lw_g) (lwq_6 (dqc_m (dqc_m (dqc_m (dqc_m (dqa_m (dqa_m (List.mem_of_getElem? (i := 4) rfl))))))) rfl : Cond.instanceMethod yX1_countFrom ∈ lw_g) (lw_sel 81 rfl : Cond.selects yX1_countFrom.cls yX1_countFrom yX1_countFrom ∈ lw_g) (lwq_1 (dqa_m (List.mem_of_getElem? (i := 0) rfl)) rfl : Cond.initialized yX1_countFrom.cls ∈ lw_g) (lwq_6 (dqc_m (dqc_m (dqc_m (dqc_m (dqa_m (dqa_m (List.mem_of_getElem? (i := 5) rfl))))))) rfl : Cond.code yX1_countFrom cX1_countFrom 8 (some .int) ∈ lw_g), ⟨by decide, by decide, by decide +kernel⟩, ⟨_, _, rfl⟩⟩
abbrev po_X1_cf (T : Zt) (d : Dr_) (l : List Int) (f : Int → Int) : Zt → Option Zv → Prop := fun T' r => ∃ x : Int, r = some (vI x) ∧ fr_ [(434, []), (435, []), (431, [])] T T' ∧ PC_ T T' d l f x
theorem bk_X1_cf_0 : ck_ fX1 (some .int) cX1_countFrom 0 [.iload 1, .aload 0, .tableswitch 0 1 13 #[], .if_icmp .lt 10, .iconst 1, .ireturn] 10 = true := qck_r (nn_ _) (by decide +kernel)
theorem bs_X1_cf_0 {P : Zt → Option Zv → Prop} (K : Int → Zl → List Zv → Zt → Prop) : sx_ K P [.iload 1, .aload 0, .tableswitch 0 1 13 #[], .if_icmp .lt 10, .iconst 1, .ireturn] 10 = x_iload 1 (x_aload 0 (x_g0 101 13 0 12 (x_if_icmp .lt 10 K (x_iconst 1 (x_ireturn P))))) := ((xe_iload 1).trans (congrArg (x_iload 1) ((xe_aload 0).trans (congrArg (x_aload 0) ((xe_g0 (kk := 101) rfl tl_1_13).trans (congrArg (x_g0 101 13 0 12) ((xe_if_icmp .lt 10).trans (congrArg (x_if_icmp .lt 10 K) ((xe_iconst 1).trans (congrArg (x_iconst 1) (xe_ireturn)))))))))))
abbrev po_X1_cf_n (T : Zt) (d : Dr_) (f : Int → Int) (n : Nat) (k : Int) : Zt → Option Zv → Prop := fun T' r => ∃ x : Int, r = some (vI x) ∧ fr_ [(434, []), (435, []), (431, [])] T T' ∧ (PC_ T T' d [] f x)
set_option maxHeartbeats 4000000 in
theorem ct_X1_cf_n {T : Zt} {d : Dr_} {f : Int → Int} {n : Nat} {k : Int} (hk : k = T 101 0 13) : Ct_ yX1_countFrom (zX1_cf n) T [vR 101 0, vI k] (po_X1_cf_n T d f n k) := by
  refine ct_of pn_1 rfl rfl (Nat.le_of_ble_eq_true rfl) (fun hT hav => ?_) (hi := fun h => absurd (show im_ 0 = true from h) (by decide))
  have hr_k : -2147483648 ≤ k ∧ k ≤ 2147483647 := hav (vI k) (List.mem_cons_of_mem _ List.mem_cons_self)
  have hz : (zX1_cf n).2.2.2.1 = some .boolean → ∀ (T' : Zt) (x : Int), po_X1_cf_n T d f n k T' (some (vI x)) → 0 ≤ x ∧ x ≤ 1 := fun h => by cases h
  show J_ (zX1_cf n) T (po_X1_cf_n T d f n k) 0 0 0 [some (vR 101 0), some (vI k), none, none, none, none, none, none] [] T
  refine j_blx (F := fX1) tb_X1 (nn_ _) bk_X1_cf_0 bs_X1_cf_0 hz (fun K hK => ?_)
  intro b1 b1b
  refine And.intro (fun c2 => ?_) (fun c2 => ?_)
  · exact absurd c2 (by omega)
  · refine (show po_X1_cf_n T d f n k T (some (vI 1)) from ?_)
    exact ⟨_, rfl, fr_0 _ _, pc_n⟩
theorem bk_X1_cf_22 : ck_ fX1 (some .int) cX1_countFrom 22 [.iload 4, .aload 0, .tableswitch 0 1 1 #[], .if_icmp .ge 159, .aload 0, .tableswitch 0 1 8 #[], .iload 2, .iaload, .iconst 4, .imul, .iload 4, .iadd, .istore 5, .iload 4, .iconst 8, .imul, .aload 0, .tableswitch 0 1 0 #[], .tableswitch 0 8 1 #[], .iload 2, .iaload, .iadd, .istore 6, .aload 0, .tableswitch 0 1 14 #[], .iload 5, .iaload, .ifCond .ne 153, .aload 0, .tableswitch 0 1 15 #[], .iload 6, .iaload, .aload 0, .tableswitch 0 1 2 #[], .if_icmp .ge 153, .aload 0, .tableswitch 0 1 14 #[], .iload 5, .iconst 1, .iastore, .aload 0, .tableswitch 0 1 15 #[], .iload 6, .dup2, .iaload, .iconst 1, .iadd, .iastore, .aload 0, .iload 1, .iconst 1, .iadd] 108 = true := qck_r (nn_ _) (by decide +kernel)
theorem bs_X1_cf_22 {P : Zt → Option Zv → Prop} (K : Int → Zl → List Zv → Zt → Prop) : sx_ K P [.iload 4, .aload 0, .tableswitch 0 1 1 #[], .if_icmp .ge 159, .aload 0, .tableswitch 0 1 8 #[], .iload 2, .iaload, .iconst 4, .imul, .iload 4, .iadd, .istore 5, .iload 4, .iconst 8, .imul, .aload 0, .tableswitch 0 1 0 #[], .tableswitch 0 8 1 #[], .iload 2, .iaload, .iadd, .istore 6, .aload 0, .tableswitch 0 1 14 #[], .iload 5, .iaload, .ifCond .ne 153, .aload 0, .tableswitch 0 1 15 #[], .iload 6, .iaload, .aload 0, .tableswitch 0 1 2 #[], .if_icmp .ge 153, .aload 0, .tableswitch 0 1 14 #[], .iload 5, .iconst 1, .iastore, .aload 0, .tableswitch 0 1 15 #[], .iload 6, .dup2, .iaload, .iconst 1, .iadd, .iastore, .aload 0, .iload 1, .iconst 1, .iadd] 108 = x_iload 4 (x_aload 0 (x_g0 101 1 0 4 (x_if_icmp .ge 159 K (x_aload 0 (x_g1 101 428 (x_iload 2 (x_iaload (x_iconst 4 (x_imul (x_iload 4 (x_iadd (x_istore 5 (x_iload 4 (x_iconst 8 (x_imul (x_aload 0 (x_g1 101 108 (x_g1 108 561 (x_iload 2 (x_iaload (x_iadd (x_istore 6 (x_aload 0 (x_g1 101 434 (x_iload 5 (x_iaload (x_ifCond .ne 153 K (x_aload 0 (x_g1 101 435 (x_iload 6 (x_iaload (x_aload 0 (x_g0 101 2 0 3 (x_if_icmp .ge 153 K (x_aload 0 (x_g1 101 434 (x_iload 5 (x_iconst 1 (x_iastore (x_aload 0 (x_g1 101 435 (x_iload 6 (x_dup2 (x_iaload (x_iconst 1 (x_iadd (x_iastore (x_aload 0 (x_iload 1 (x_iconst 1 (x_iadd (K 108)))))))))))))))))))))))))))))))))))))))))))))))))))) := ((xe_iload 4).trans (congrArg (x_iload 4) ((xe_aload 0).trans (congrArg (x_aload 0) ((xe_g0 (kk := 101) rfl tl_1_1).trans (congrArg (x_g0 101 1 0 4) ((xe_if_icmp .ge 159).trans (congrArg (x_if_icmp .ge 159 K) ((xe_aload 0).trans (congrArg (x_aload 0) ((xe_g1 (kk := 101) rfl tl_1_8).trans (congrArg (x_g1 101 428) ((xe_iload 2).trans (congrArg (x_iload 2) ((xe_iaload).trans (congrArg (x_iaload) ((xe_iconst 4).trans (congrArg (x_iconst 4) ((xe_imul).trans (congrArg (x_imul) ((xe_iload 4).trans (congrArg (x_iload 4) ((xe_iadd).trans (congrArg (x_iadd) ((xe_istore 5).trans (congrArg (x_istore 5) ((xe_iload 4).trans (congrArg (x_iload 4) ((xe_iconst 8).trans (congrArg (x_iconst 8) ((xe_imul).trans (congrArg (x_imul) ((xe_aload 0).trans (congrArg (x_aload 0) ((xe_g1 (kk := 101) rfl tl_1_0).trans (congrArg (x_g1 101 108) ((xe_g1 (kk := 108) rfl tl_8_1).trans (congrArg (x_g1 108 561) ((xe_iload 2).trans (congrArg (x_iload 2) ((xe_iaload).trans (congrArg (x_iaload) ((xe_iadd).trans (congrArg (x_iadd) ((xe_istore 6).trans (congrArg (x_istore 6) ((xe_aload 0).trans (congrArg (x_aload 0) ((xe_g1 (kk := 101) rfl tl_1_14).trans (congrArg (x_g1 101 434) ((xe_iload 5).trans (congrArg (x_iload 5) ((xe_iaload).trans (congrArg (x_iaload) ((xe_ifCond .ne 153).trans (congrArg (x_ifCond .ne 153 K) ((xe_aload 0).trans (congrArg (x_aload 0) ((xe_g1 (kk := 101) rfl tl_1_15).trans (congrArg (x_g1 101 435) ((xe_iload 6).trans (congrArg (x_iload 6) ((xe_iaload).trans (congrArg (x_iaload) ((xe_aload 0).trans (congrArg (x_aload 0) ((xe_g0 (kk := 101) rfl tl_1_2).trans (congrArg (x_g0 101 2 0 3) ((xe_if_icmp .ge 153).trans (congrArg (x_if_icmp .ge 153 K) ((xe_aload 0).trans (congrArg (x_aload 0) ((xe_g1 (kk := 101) rfl tl_1_14).trans (congrArg (x_g1 101 434) ((xe_iload 5).trans (congrArg (x_iload 5) ((xe_iconst 1).trans (congrArg (x_iconst 1) ((xe_iastore).trans (congrArg (x_iastore) ((xe_aload 0).trans (congrArg (x_aload 0) ((xe_g1 (kk := 101) rfl tl_1_15).trans (congrArg (x_g1 101 435) ((xe_iload 6).trans (congrArg (x_iload 6) ((xe_dup2).trans (congrArg (x_dup2) ((xe_iaload).trans (congrArg (x_iaload) ((xe_iconst 1).trans (congrArg (x_iconst 1) ((xe_iadd).trans (congrArg (x_iadd) ((xe_iastore).trans (congrArg (x_iastore) ((xe_aload 0).trans (congrArg (x_aload 0) ((xe_iload 1).trans (congrArg (x_iload 1) ((xe_iconst 1).trans (congrArg (x_iconst 1) ((xe_iadd).trans (congrArg (x_iadd) xe_nil))))))))))))))))))))))))))))))))))))))))))))))))))))))))))))))))))))))))))))))))))))))))))))))))))))))))
theorem bk_X1_cf_159 : ck_ fX1 (some .int) cX1_countFrom 159 [.iload 3, .ireturn] 161 = true := qck_r (nn_ _) (by decide +kernel)
theorem bs_X1_cf_159 {P : Zt → Option Zv → Prop} (K : Int → Zl → List Zv → Zt → Prop) : sx_ K P [.iload 3, .ireturn] 161 = x_iload 3 (x_ireturn P) := ((xe_iload 3).trans (congrArg (x_iload 3) (xe_ireturn)))
theorem bk_X1_cf_153 : ck_ fX1 (some .int) cX1_countFrom 153 [.iinc 4 1, .goto 22] 159 = true := qck_r (nn_ _) (by decide +kernel)
theorem bs_X1_cf_153 {P : Zt → Option Zv → Prop} (K : Int → Zl → List Zv → Zt → Prop) : sx_ K P [.iinc 4 1, .goto 22] 159 = x_iinc 4 1 (x_goto 22 K) := ((xe_iinc 4 1).trans (congrArg (x_iinc 4 1) (xe_goto 22)))
theorem bk_X1_cf_111 : ck_ fX1 (some .int) cX1_countFrom 111 [.istore 7, .aload 0, .tableswitch 0 1 11 #[], .iload 2, .iconst 4, .imul, .iload 4, .iadd, .dup2, .iaload, .iload 7, .fadd, .iastore, .iload 3, .iload 7, .iadd, .istore 3, .aload 0, .tableswitch 0 1 15 #[], .iload 6, .dup2, .iaload, .iconst 1, .isub, .iastore, .aload 0, .tableswitch 0 1 14 #[], .iload 5, .iconst 0, .iastore, .iinc 4 1, .goto 22] 159 = true := qck_r (nn_ _) (by decide +kernel)
theorem bs_X1_cf_111 {P : Zt → Option Zv → Prop} (K : Int → Zl → List Zv → Zt → Prop) : sx_ K P [.istore 7, .aload 0, .tableswitch 0 1 11 #[], .iload 2, .iconst 4, .imul, .iload 4, .iadd, .dup2, .iaload, .iload 7, .fadd, .iastore, .iload 3, .iload 7, .iadd, .istore 3, .aload 0, .tableswitch 0 1 15 #[], .iload 6, .dup2, .iaload, .iconst 1, .isub, .iastore, .aload 0, .tableswitch 0 1 14 #[], .iload 5, .iconst 0, .iastore, .iinc 4 1, .goto 22] 159 = x_istore 7 (x_aload 0 (x_g1 101 431 (x_iload 2 (x_iconst 4 (x_imul (x_iload 4 (x_iadd (x_dup2 (x_iaload (x_iload 7 (x_fadd (x_iastore (x_iload 3 (x_iload 7 (x_iadd (x_istore 3 (x_aload 0 (x_g1 101 435 (x_iload 6 (x_dup2 (x_iaload (x_iconst 1 (x_isub (x_iastore (x_aload 0 (x_g1 101 434 (x_iload 5 (x_iconst 0 (x_iastore (x_iinc 4 1 (x_goto 22 K))))))))))))))))))))))))))))))) := ((xe_istore 7).trans (congrArg (x_istore 7) ((xe_aload 0).trans (congrArg (x_aload 0) ((xe_g1 (kk := 101) rfl tl_1_11).trans (congrArg (x_g1 101 431) ((xe_iload 2).trans (congrArg (x_iload 2) ((xe_iconst 4).trans (congrArg (x_iconst 4) ((xe_imul).trans (congrArg (x_imul) ((xe_iload 4).trans (congrArg (x_iload 4) ((xe_iadd).trans (congrArg (x_iadd) ((xe_dup2).trans (congrArg (x_dup2) ((xe_iaload).trans (congrArg (x_iaload) ((xe_iload 7).trans (congrArg (x_iload 7) ((xe_fadd).trans (congrArg (x_fadd) ((xe_iastore).trans (congrArg (x_iastore) ((xe_iload 3).trans (congrArg (x_iload 3) ((xe_iload 7).trans (congrArg (x_iload 7) ((xe_iadd).trans (congrArg (x_iadd) ((xe_istore 3).trans (congrArg (x_istore 3) ((xe_aload 0).trans (congrArg (x_aload 0) ((xe_g1 (kk := 101) rfl tl_1_15).trans (congrArg (x_g1 101 435) ((xe_iload 6).trans (congrArg (x_iload 6) ((xe_dup2).trans (congrArg (x_dup2) ((xe_iaload).trans (congrArg (x_iaload) ((xe_iconst 1).trans (congrArg (x_iconst 1) ((xe_isub).trans (congrArg (x_isub) ((xe_iastore).trans (congrArg (x_iastore) ((xe_aload 0).trans (congrArg (x_aload 0) ((xe_g1 (kk := 101) rfl tl_1_14).trans (congrArg (x_g1 101 434) ((xe_iload 5).trans (congrArg (x_iload 5) ((xe_iconst 0).trans (congrArg (x_iconst 0) ((xe_iastore).trans (congrArg (x_iastore) ((xe_iinc 4 1).trans (congrArg (x_iinc 4 1) (xe_goto 22)))))))))))))))))))))))))))))))))))))))))))))))))))))))))))))))
theorem bk_X1_cf_10 : ck_ fX1 (some .int) cX1_countFrom 10 [.aload 0, .tableswitch 0 1 12 #[], .iload 1, .iaload, .istore 2, .iconst 0, .istore 3, .iconst 0, .istore 4] 22 = true := qck_r (nn_ _) (by decide +kernel)
theorem bs_X1_cf_10 {P : Zt → Option Zv → Prop} (K : Int → Zl → List Zv → Zt → Prop) : sx_ K P [.aload 0, .tableswitch 0 1 12 #[], .iload 1, .iaload, .istore 2, .iconst 0, .istore 3, .iconst 0, .istore 4] 22 = x_aload 0 (x_g1 101 432 (x_iload 1 (x_iaload (x_istore 2 (x_iconst 0 (x_istore 3 (x_iconst 0 (x_istore 4 (K 22))))))))) := ((xe_aload 0).trans (congrArg (x_aload 0) ((xe_g1 (kk := 101) rfl tl_1_12).trans (congrArg (x_g1 101 432) ((xe_iload 1).trans (congrArg (x_iload 1) ((xe_iaload).trans (congrArg (x_iaload) ((xe_istore 2).trans (congrArg (x_istore 2) ((xe_iconst 0).trans (congrArg (x_iconst 0) ((xe_istore 3).trans (congrArg (x_istore 3) ((xe_iconst 0).trans (congrArg (x_iconst 0) ((xe_istore 4).trans (congrArg (x_istore 4) xe_nil))))))))))))))))))
abbrev po_X1_cf_s (T : Zt) (d : Dr_) (l : List Int) (f : Int → Int) (n : Nat) (k : Int) : Zt → Option Zv → Prop := fun T' r => ∃ x : Int, r = some (vI x) ∧ fr_ [(434, []), (435, []), (431, [])] T T' ∧ (PC_ T T' d ((T 432 0 k) :: l) f x)
set_option maxHeartbeats 4000000 in
theorem ct_X1_cf_s {T : Zt} {d : Dr_} {l : List Int} {f : Int → Int} {n : Nat} {k : Int} (IH : ∀ (T1 : Zt) (f1 : Int → Int) (k1 : Int), d = dh_ T1 → WL_ T1 l k1 → OCW_ T1 d.E d.C f1 → FZ_ T1 f1 l → 0 ≤ k1 → Ct_ yX1_countFrom (zX1_cf n) T1 [vR 101 0, vI k1] (po_X1_cf T1 d l f1)) (hd : d = dh_ T) (hw : WL_ T l (k + 1)) (ho : OCW_ T d.E d.C f) (hz9 : FZ_ T f ((T 432 0 k) :: l)) (hk : 0 ≤ k) : Ct_ yX1_countFrom (zX1_cf (n + 1)) T [vR 101 0, vI k] (po_X1_cf_s T d l f n k) := by
  refine ct_of pn_1 rfl rfl (Nat.le_of_ble_eq_true rfl) (fun hT hav => ?_) (hi := fun h => absurd (show im_ 0 = true from h) (by decide))
  have hr_k : -2147483648 ≤ k ∧ k ≤ 2147483647 := hav (vI k) (by simp)
  have hz : (zX1_cf (n + 1)).2.2.2.1 = some .boolean → ∀ (T' : Zt) (x : Int), po_X1_cf_s T d l f n k T' (some (vI x)) → 0 ≤ x ∧ x ≤ 1 := fun h => by cases h
  have hwc : 0 ≤ T 101 0 13 ∧ T 101 0 13 ≤ 12 := bd_f hT 101 13 tl_1_13 0
  have hgr : 0 ≤ T 101 0 1 ∧ T 101 0 1 ≤ 4 := bd_f hT 101 1 tl_1_1 0
  have hwk := wl_c hw
  have hy := hz9.2 (T 432 0 k) List.mem_cons_self
  have hN := fz_b (fx := -1) (gp := -1) hd hz9
  show J_ (zX1_cf (n + 1)) T (po_X1_cf_s T d l f n k) 0 0 0 [some (vR 101 0), some (vI k), none, none, none, none, none, none] [] T
  have c_22 : ∀ (nn : Nat) (v : Int) (g : Int) (T1 : Zt), ((4 - g).toNat) ≤ nn → (fr_ [(434, []), (435, []), (431, [])] T T1) → (0 ≤ v ∧ v ≤ 13824) → (0 ≤ g ∧ g ≤ T 101 0 1) → (∀ j, T1 434 0 j = T 434 0 j) → (∀ j, T1 435 0 j = T 435 0 j) → (CI_ T T1 d (T 432 0 k) l f v g) → J_ (zX1_cf (n + 1)) T (po_X1_cf_s T d l f n k) 0 0 22 [some (vR 101 0), some (vI k), some (vI (T 432 0 k)), some (vI v), some (vI g), none, none, none] [] T1 := by
    intro nn
    induction nn using Nat.strongRecOn with
    | _ nn ih_22 =>
      intro v g T1 hm_22 hf_22 i2 i1 ta1 cm1 ci1
      replace hm_22 := fun (_ : Unit) => hm_22
      have hv1 := ci1.1
      refine j_blx (F := fX1) tb_X1 (nn_ _) bk_X1_cf_22 bs_X1_cf_22 hz (fun K hK => ?_)
      intro b1 b1b
      have e2 : T1 101 0 1 = T 101 0 1 := hf_22 101 0 1 rfl
      rw [e2] at b1 b1b ⊢
      refine And.intro (fun c3 => ?_) (fun c3 => ?_)
      · refine hK 159 _ [] T1 ?_
        refine j_blx (F := fX1) tb_X1 (nn_ _) bk_X1_cf_159 bs_X1_cf_159 hz (fun K hK => ?_)
        refine (show po_X1_cf_s T d l f n k T1 (some (vI v)) from ?_)
        exact ⟨_, rfl, hf_22, ci_e ci1 (by rw [hd]; show T 101 0 1 ≤ g; omega) ta1 cm1⟩
      · have hms := oc_t (x := (T 432 0 k)) (g := g) hd ho hy.1 hy.2.1 hy.2.2.1 hy.2.2.2 ⟨by omega, by omega⟩
        have ht1 := ta1 (T 428 0 (T 432 0 k) * 4 + g)
        have hc1 := cm1 (g * 8 + T 561 0 (T 432 0 k))
        have hcb : T 435 0 (g * 8 + T 561 0 (T 432 0 k)) = cmk_ d.E d.C f g (T 561 0 (T 432 0 k)) 12 := ho.2 g (T 561 0 (T 432 0 k)) (by omega) (by omega) hy.2.2.2.1 (by omega)
        have hcc := cmk_b d.E d.C f g (T 561 0 (T 432 0 k)) 12
        refine ix_i (by omega) ?_
        intro b4 b4b
        have e5 : T1 428 0 (T 432 0 k) = T 428 0 (T 432 0 k) := hf_22 428 0 (T 432 0 k) rfl
        rw [e5] at b4 b4b ⊢
        refine rg_i (by omega) ?_
        refine rg_i (by omega) ?_
        refine rg_i (by omega) ?_
        refine ix_i (by omega) ?_
        intro b6 b6b
        have e7 : T1 561 0 (T 432 0 k) = T 561 0 (T 432 0 k) := hf_22 561 0 (T 432 0 k) rfl
        rw [e7] at b6 b6b ⊢
        refine rg_i (by omega) ?_
        refine ix_i (by omega) ?_
        intro b8 b8b
        refine And.intro (fun c9 => ?_) (fun c9 => ?_)
        · refine hK 153 [some (vR 101 0), some (vI k), some (vI (T 432 0 k)), some (vI v), some (vI g), some (vI (((T 428 0 (T 432 0 k)) * 4) + g)), some (vI ((g * 8) + (T 561 0 (T 432 0 k)))), none] [] T1 ?_
          refine j_blx (F := fX1) tb_X1 (nn_ _) bk_X1_cf_153 bs_X1_cf_153 hz (fun K hK => ?_)
          refine rg_i (by omega) ?_
          refine hK 22 [some (vR 101 0), some (vI k), some (vI (T 432 0 k)), some (vI v), some (vI (g + 1)), some (vI (((T 428 0 (T 432 0 k)) * 4) + g)), some (vI ((g * 8) + (T 561 0 (T 432 0 k)))), none] [] T1 ?_
          refine j_drop [some (vR 101 0), some (vI k), some (vI (T 432 0 k)), some (vI v), some (vI (g + 1)), none, none, none] (fun k v hk => ?_) rfl ?_
          · match k, hk with
            | 0, hk => exact hk
            | 1, hk => exact hk
            | 2, hk => exact hk
            | 3, hk => exact hk
            | 4, hk => exact hk
            | 5, hk => cases hk
            | 6, hk => cases hk
            | 7, hk => cases hk
            | k + 8, hk => cases hk
          refine ih_22 _ ?_ v (g + 1) T1 (Nat.le_refl _) ?_ ?_ ?_ ?_ ?_ ?_
          · have hm_22 := hm_22 (); omega
          · exact fr_t (fr_0 _ _) (fr_s hf_22 rfl)
          · omega
          · omega
          · exact ta1
          · exact cm1
          · exact ci_n ci1 (fun z9 => by have z := hms.mpr z9; omega)
        · refine ix_i (by omega) ?_
          intro b10 b10b
          intro b11 b11b
          have e12 : T1 101 0 2 = T 101 0 2 := hf_22 101 0 2 rfl
          rw [e12] at b11 b11b ⊢
          refine And.intro (fun c13 => ?_) (fun c13 => ?_)
          · refine hK 153 [some (vR 101 0), some (vI k), some (vI (T 432 0 k)), some (vI v), some (vI g), some (vI (((T 428 0 (T 432 0 k)) * 4) + g)), some (vI ((g * 8) + (T 561 0 (T 432 0 k)))), none] [] T1 ?_
            refine j_blx (F := fX1) tb_X1 (nn_ _) bk_X1_cf_153 bs_X1_cf_153 hz (fun K hK => ?_)
            refine rg_i (by omega) ?_
            refine hK 22 [some (vR 101 0), some (vI k), some (vI (T 432 0 k)), some (vI v), some (vI (g + 1)), some (vI (((T 428 0 (T 432 0 k)) * 4) + g)), some (vI ((g * 8) + (T 561 0 (T 432 0 k)))), none] [] T1 ?_
            refine j_drop [some (vR 101 0), some (vI k), some (vI (T 432 0 k)), some (vI v), some (vI (g + 1)), none, none, none] (fun k v hk => ?_) rfl ?_
            · match k, hk with
              | 0, hk => exact hk
              | 1, hk => exact hk
              | 2, hk => exact hk
              | 3, hk => exact hk
              | 4, hk => exact hk
              | 5, hk => cases hk
              | 6, hk => cases hk
              | 7, hk => cases hk
              | k + 8, hk => cases hk
            refine ih_22 _ ?_ v (g + 1) T1 (Nat.le_refl _) ?_ ?_ ?_ ?_ ?_ ?_
            · have hm_22 := hm_22 (); omega
            · exact fr_t (fr_0 _ _) (fr_s hf_22 rfl)
            · omega
            · omega
            · exact ta1
            · exact cm1
            · exact ci_n ci1 (fun z9 => by have z := hms.mpr z9; omega)
          · refine iy_i (by omega) (by omega) ?_
            refine x_nm (fun U14 hU14 => ?_)
            have e15 := up_f hU14
            refine ix_i (by omega) ?_
            intro b16 b16b
            have e17 : U14 435 0 ((g * 8) + (T 561 0 (T 432 0 k))) = T1 435 0 ((g * 8) + (T 561 0 (T 432 0 k))) := up_k hU14 (by exact Nat.ne_of_beq_eq_false rfl) 0 ((g * 8) + (T 561 0 (T 432 0 k)))
            rw [e17] at b16 b16b ⊢
            refine rg_i (by omega) ?_
            refine iy_i (by omega) (by omega) ?_
            refine x_nm (fun U18 hU18 => ?_)
            have e19 := up_f hU18
            refine rg_i (by omega) ?_
            refine hK 108 [some (vR 101 0), some (vI k), some (vI (T 432 0 k)), some (vI v), some (vI g), some (vI (((T 428 0 (T 432 0 k)) * 4) + g)), some (vI ((g * 8) + (T 561 0 (T 432 0 k)))), none] [vI (k + 1), vR 101 0] U18 ?_
            have fq := (show fr_ [(434, []), (435, []), (431, [])] T U18 from fr_u (fr_u (fr_t (fr_0 _ _) (fr_s hf_22 rfl)) hU14 rfl) hU18 rfl)
            have okm : ms_ d f (T 432 0 k) g := hms.mp ⟨by omega, by omega⟩
            have hoc : OCW_ U18 d.E d.C (fu_ f (T 432 0 k) g) := oc_u (T := T1) (oc_e ho ta1 cm1) ⟨hy.1.1, hy.1.2⟩ hy.2.1 (by rw [hd]; exact hy.2.2.1) (by rw [hd]; exact ⟨hy.2.2.2.1, by have := hy.2.2.2.2; show T 561 0 (T 432 0 k) < 8; omega⟩) ⟨by omega, by omega⟩ (by rw [hd]; show U18 434 0 (T 428 0 (T 432 0 k) * 4 + g) ≠ 0; rw [up_k hU18 (by exact Nat.ne_of_beq_eq_false rfl), up_f hU14]; decide) (by rw [hd]; exact fun j hj => (up_k hU18 (by exact Nat.ne_of_beq_eq_false rfl) 0 j).trans (up_g hU14 (fun q => hj q.2.2))) (by rw [hd]; show U18 435 0 (g * 8 + T 561 0 (T 432 0 k)) = T1 435 0 (g * 8 + T 561 0 (T 432 0 k)) + 1; exact up_f hU18) (by rw [hd]; exact fun j hj => (up_g hU18 (fun q => hj q.2.2)).trans (up_k hU14 (by exact Nat.ne_of_beq_eq_false rfl) 0 j))
            have hwl2 := wl_e (fun j => fq 432 0 j rfl) (fq 101 0 13 rfl) hw
            have hfz2 : FZ_ U18 (fu_ f (T 432 0 k) g) l := fz_u hz9 (fun j => fq 428 0 j rfl) (fun j => fq 561 0 j rfl)
            have hdq2 : d = dh_ U18 := dq_f hd fq ⟨fun _ => rfl, fun _ => rfl, rfl, rfl⟩
            refine j_callV (pc := 108) (y := yX1_countFrom) (Yc := zX1_cf n) (rest := []) [vI (k + 1)] (IH U18 (fu_ f (T 432 0 k) g) (k + 1) hdq2 hwl2 hoc hfz2 (by omega)) (cl_cf n) (by show decode cX1_countFrom (Int.toNat 108) = _; decide +kernel) (by decide) rfl (rf_cf n) (Nat.le_of_ble_eq_true rfl) (Nat.le_refl _) (Nat.le_refl _) rfl ?_
            rintro U21 _ ⟨x20, rfl, fU21, qU21⟩
            have hb9 := fz_b (fx := -1) (gp := -1) hdq2 hfz2
            have hx9 : 0 ≤ x20 ∧ x20 ≤ 13824 := by have := qU21.1; omega
            have hvw : v + x20 ≤ 13824 := by
              have s0 := qs_g1 (C := ok_ d (-1) (-1) f (T 432 0 k)) (V := fun u => nw_ d (-1) (-1) l (fu_ f (T 432 0 k) u)) (g := g) (by omega) (by omega) ⟨by rw [hd]; show g < T 101 0 1; omega, fun z => by omega, okm⟩
              have s1 := ci1.1
              rw [s0] at s1
              have s2 := qU21.1
              have s3 := hN
              omega
            show J_ (zX1_cf (n + 1)) T (po_X1_cf_s T d l f n k) 0 0 111 _ [vI x20] U21
            refine j_blx (F := fX1) tb_X1 (nn_ _) bk_X1_cf_111 bs_X1_cf_111 hz (fun K hK => ?_)
            refine rg_i (by omega) ?_
            refine rg_i (by omega) ?_
            refine ix_i (by omega) ?_
            intro b22 b22b
            intro w23 w23b
            refine iy_i (by omega) (by omega) ?_
            refine x_nm (fun U24 hU24 => ?_)
            have e25 := up_f hU24
            refine rg_i (by omega) ?_
            refine ix_i (by omega) ?_
            intro b26 b26b
            have e27 : U24 435 0 ((g * 8) + (T 561 0 (T 432 0 k))) = U21 435 0 ((g * 8) + (T 561 0 (T 432 0 k))) := up_k hU24 (by exact Nat.ne_of_beq_eq_false rfl) 0 ((g * 8) + (T 561 0 (T 432 0 k)))
            rw [e27] at b26 b26b ⊢
            have y5 := qU21.2.2.1 (g * 8 + T 561 0 (T 432 0 k))
            have y6 := up_f hU18
            have y7 : U24 435 0 (g * 8 + T 561 0 (T 432 0 k)) = U21 435 0 (g * 8 + T 561 0 (T 432 0 k)) := up_k hU24 (by exact Nat.ne_of_beq_eq_false rfl) 0 _
            refine rg_i (by omega) ?_
            refine iy_i (by omega) (by omega) ?_
            refine x_nm (fun U28 hU28 => ?_)
            have e29 := up_f hU28
            refine iy_i (by omega) (by omega) ?_
            refine x_nm (fun U30 hU30 => ?_)
            have e31 := up_f hU30
            refine rg_i (by omega) ?_
            refine hK 22 [some (vR 101 0), some (vI k), some (vI (T 432 0 k)), some (vI (v + x20)), some (vI (g + 1)), some (vI (((T 428 0 (T 432 0 k)) * 4) + g)), some (vI ((g * 8) + (T 561 0 (T 432 0 k)))), some (vI x20)] [] U30 ?_
            refine j_drop [some (vR 101 0), some (vI k), some (vI (T 432 0 k)), some (vI (v + x20)), some (vI (g + 1)), none, none, none] (fun k v hk => ?_) rfl ?_
            · match k, hk with
              | 0, hk => exact hk
              | 1, hk => exact hk
              | 2, hk => exact hk
              | 3, hk => exact hk
              | 4, hk => exact hk
              | 5, hk => cases hk
              | 6, hk => cases hk
              | 7, hk => cases hk
              | k + 8, hk => cases hk
            refine ih_22 _ ?_ (v + x20) (g + 1) U30 (Nat.le_refl _) ?_ ?_ ?_ ?_ ?_ ?_
            · have hm_22 := hm_22 (); omega
            · exact fr_u (fr_u (fr_u (fr_t (fr_u (fr_u (fr_t (fr_0 _ _) (fr_s hf_22 rfl)) hU14 rfl) hU18 rfl) (fr_s fU21 rfl)) hU24 rfl) hU28 rfl) hU30 rfl
            · omega
            · omega
            · intro j
              by_cases z : j = T 428 0 (T 432 0 k) * 4 + g
              · rw [z, up_f hU30]; omega
              · rw [up_g hU30 (fun q => z q.2.2), up_k hU28 (by exact Nat.ne_of_beq_eq_false rfl), up_k hU24 (by exact Nat.ne_of_beq_eq_false rfl), qU21.2.1, up_k hU18 (by exact Nat.ne_of_beq_eq_false rfl), up_g hU14 (fun q => z q.2.2)]; exact ta1 j
            · intro j
              by_cases z : j = g * 8 + T 561 0 (T 432 0 k)
              · rw [z, up_k hU30 (by exact Nat.ne_of_beq_eq_false rfl), up_f hU28]; have y1 := qU21.2.2.1 (g * 8 + T 561 0 (T 432 0 k)); have y2 := up_f hU18; have y3 := cm1 (g * 8 + T 561 0 (T 432 0 k)); omega
              · rw [up_k hU30 (by exact Nat.ne_of_beq_eq_false rfl), up_g hU28 (fun q => z q.2.2), up_k hU24 (by exact Nat.ne_of_beq_eq_false rfl), qU21.2.2.1, up_g hU18 (fun q => z q.2.2), up_k hU14 (by exact Nat.ne_of_beq_eq_false rfl)]; exact cm1 j
            · exact ci_y (T1 := T1) (T2 := U18) (T3 := U21) ci1 hz9.1 (fun z hz => (hz9.2 z hz).1.1) ⟨by omega, by omega⟩ (by rw [hd]; show g < T 101 0 1; omega) okm (fun j => (up_k hU18 (by exact Nat.ne_of_beq_eq_false rfl) 0 j).trans (up_k hU14 (by exact Nat.ne_of_beq_eq_false rfl) 0 j)) qU21 ((up_k hU30 (by exact Nat.ne_of_beq_eq_false rfl) 0 _).trans ((up_k hU28 (by exact Nat.ne_of_beq_eq_false rfl) 0 _).trans (up_f hU24))) (fun j hj => (up_k hU30 (by exact Nat.ne_of_beq_eq_false rfl) 0 j).trans ((up_k hU28 (by exact Nat.ne_of_beq_eq_false rfl) 0 j).trans (up_g hU24 (fun q => hj q.2.2))))
  refine j_blx (F := fX1) tb_X1 (nn_ _) bk_X1_cf_0 bs_X1_cf_0 hz (fun K hK => ?_)
  intro b32 b32b
  refine And.intro (fun c33 => ?_) (fun c33 => ?_)
  · refine hK 10 _ [] T ?_
    refine j_blx (F := fX1) tb_X1 (nn_ _) bk_X1_cf_10 bs_X1_cf_10 hz (fun K hK => ?_)
    refine ix_i (by omega) ?_
    intro b34 b34b
    refine hK 22 [some (vR 101 0), some (vI k), some (vI (T 432 0 k)), some (vI 0), some (vI 0), none, none, none] [] T ?_
    refine c_22 _ 0 0 T (Nat.le_refl _) ?_ ?_ ?_ ?_ ?_ ?_
    · exact fr_0 _ _
    · omega
    · omega
    · exact fun _ => rfl
    · exact fun _ => rfl
    · exact ci_0 (fun z hz => (hz9.2 z hz).1.1) (fun j hj => bd_a hT 431 (by decide +kernel : ta_ 431 = some (1, some 48, -2147483648, 2147483647)) 0 hj)
  · exact absurd c33 (by omega)
theorem ct_cf {d : Dr_} : ∀ (l : List Int) (n : Nat), l.length ≤ n → ∀ (T : Zt) (f : Int → Int) (k : Int), d = dh_ T → WL_ T l k → OCW_ T d.E d.C f → FZ_ T f l → 0 ≤ k → Ct_ yX1_countFrom (zX1_cf n) T [vR 101 0, vI k] (po_X1_cf T d l f)
  | [], n, _, T, f, k, _, hw, _, _, _ => ct_X1_cf_n (T := T) (d := d) (f := f) (n := n) (k := k) hw
  | y :: l, 0, h, _, _, _, _, _, _, _, _ => by rw [List.length_cons] at h; omega
  | y :: l, n + 1, h, T, f, k, hd, hw, ho, hz, hk => by
    obtain ⟨e, hw⟩ := hw
    subst e
    exact ct_X1_cf_s (T := T) (d := d) (l := l) (f := f) (n := n) (k := k) (fun T1 f1 k1 a b c e g => ct_cf l n (by rw [List.length_cons] at h; omega) T1 f1 k1 a b c e g) hd hw ho hz hk
-- refresh: pots seen so far
def ep_ (E : Int → Int) (p c k : Int) : Int := if (0 ≤ E k ∧ E k < p) ∨ (E k = p ∧ k < c) then E k else -1
theorem ep_0 {E : Int → Int} {k : Int} (h : 0 ≤ k) : ep_ E 0 0 k = -1 := if_neg (fun q => by omega)
theorem ep_n {E : Int → Int} {p c k : Int} (h : ¬ (k = c ∧ E c = p)) : ep_ E p (c + 1) k = ep_ E p c k := by
  unfold ep_
  by_cases z : k = c
  · subst z
    have n1 : ((0 ≤ E k ∧ E k < p) ∨ (E k = p ∧ k < k + 1)) ↔ ((0 ≤ E k ∧ E k < p) ∨ (E k = p ∧ k < k)) := by
      constructor
      · rintro (q | q)
        · exact Or.inl q
        · exact absurd ⟨rfl, q.1⟩ h
      · rintro (q | q)
        · exact Or.inl q
        · omega
    by_cases y : (0 ≤ E k ∧ E k < p) ∨ (E k = p ∧ k < k)
    · rw [if_pos y, if_pos (n1.mpr y)]
    · rw [if_neg y, if_neg (fun q => y (n1.mp q))]
  · have n1 : ((0 ≤ E k ∧ E k < p) ∨ (E k = p ∧ k < c + 1)) ↔ ((0 ≤ E k ∧ E k < p) ∨ (E k = p ∧ k < c)) := by omega
    by_cases y : (0 ≤ E k ∧ E k < p) ∨ (E k = p ∧ k < c)
    · rw [if_pos y, if_pos (n1.mpr y)]
    · rw [if_neg y, if_neg (fun q => y (n1.mp q))]
theorem ep_c {E : Int → Int} {p c : Int} (h : E c = p) : ep_ E p c c = -1 ∧ ep_ E p (c + 1) c = p := ⟨if_neg (fun q => by omega), (if_pos (Or.inr ⟨h, by omega⟩)).trans h⟩
theorem ep_p {E : Int → Int} {p k : Int} (hp : 0 ≤ p) (hk : k < 12) (h0 : 0 ≤ k) : ep_ E (p + 1) 0 k = ep_ E p 12 k := by
  unfold ep_
  have n1 : ((0 ≤ E k ∧ E k < p + 1) ∨ (E k = p + 1 ∧ k < 0)) ↔ ((0 ≤ E k ∧ E k < p) ∨ (E k = p ∧ k < 12)) := by omega
  by_cases y : (0 ≤ E k ∧ E k < p) ∨ (E k = p ∧ k < 12)
  · rw [if_pos y, if_pos (n1.mpr y)]
  · rw [if_neg y, if_neg (fun q => y (n1.mp q))]
theorem ep_3 {E : Int → Int} {k : Int} (h : -1 ≤ E k ∧ E k ≤ 2) : ep_ E 3 0 k = E k := by
  unfold ep_
  by_cases y : (0 ≤ E k ∧ E k < 3) ∨ (E k = 3 ∧ k < 0)
  · rw [if_pos y]
  · rw [if_neg y]; omega
theorem cmk_c {E E2 C f : Int → Int} {g c : Int} (hg : 0 ≤ g) : ∀ n : Nat, (∀ k : Int, 0 ≤ k → k < n → E2 k = E k ∨ f k = -1) → cmk_ E2 C f g c n = cmk_ E C f g c n
  | 0, _ => rfl
  | n + 1, h => by
    have i := cmk_c (C := C) (c := c) hg n (fun k a b => h k a (by omega))
    show cmk_ E2 C f g c n + (if E2 n ≠ -1 ∧ f n = g ∧ C n = c then (1 : Int) else 0) = cmk_ E C f g c n + (if E n ≠ -1 ∧ f n = g ∧ C n = c then (1 : Int) else 0)
    rw [i]
    rcases h n (by omega) (by omega) with z | z
    · rw [z]
    · have n1 : ¬ (E2 n ≠ -1 ∧ f n = g ∧ C n = c) := fun q => by have := q.2.1; omega
      have n2 : ¬ (E n ≠ -1 ∧ f n = g ∧ C n = c) := fun q => by have := q.2.1; omega
      rw [if_neg n1, if_neg n2]
theorem oc_c {T : Zt} {E E2 C f : Int → Int} (h : OCW_ T E C f) (e : ∀ k, 0 ≤ k → k < 12 → E2 k = E k ∨ f k = -1) : OCW_ T E2 C f := by
  refine ⟨fun p g a b c d => ?_, fun g c a b x y => ?_⟩
  · rw [h.1 p g a b c d]
    have n1 : OX_ E f p g ↔ OX_ E2 f p g := by
      constructor
      · rintro ⟨k, x, y, z, w⟩
        exact ⟨k, x, y, by rcases e k x y with q | q <;> omega, w⟩
      · rintro ⟨k, x, y, z, w⟩
        exact ⟨k, x, y, by rcases e k x y with q | q <;> omega, w⟩
    exact not_congr n1
  · rw [h.2 g c a b x y]
    exact (cmk_c a 12 (fun k p q => e k p (by omega))).symm
theorem cmk_p {E E2 C f : Int → Int} {x g0 : Int} (h0 : 0 ≤ x) (e1 : E x = -1) (e2 : E2 x ≠ -1) (e3 : ∀ k, k ≠ x → E2 k = E k) (hf : f x = g0) (g c : Int) : ∀ n : Nat, cmk_ E2 C f g c n = cmk_ E C f g c n + (if x < n ∧ g = g0 ∧ C x = c then 1 else 0)
  | 0 => by
      have n1 : ¬ (x < ((0 : Nat) : Int) ∧ g = g0 ∧ C x = c) := fun q => by have := q.1; omega
      rw [if_neg n1]; rfl
  | k + 1 => by
      have i := cmk_p (C := C) h0 e1 e2 e3 hf g c k
      show cmk_ E2 C f g c k + (if E2 k ≠ -1 ∧ f k = g ∧ C k = c then (1 : Int) else 0) = cmk_ E C f g c k + (if E k ≠ -1 ∧ f k = g ∧ C k = c then (1 : Int) else 0) + (if x < ((k + 1 : Nat) : Int) ∧ g = g0 ∧ C x = c then (1 : Int) else 0)
      rw [i]
      by_cases z : ((k : Nat) : Int) = x
      · have n1 : ¬ (x < ((k : Nat) : Int) ∧ g = g0 ∧ C x = c) := fun q => by have := q.1; omega
        have n2 : ¬ (E k ≠ -1 ∧ f k = g ∧ C k = c) := fun q => q.1 (by rw [z]; exact e1)
        rw [if_neg n1, if_neg n2]
        by_cases y : g = g0 ∧ C x = c
        · have y1 : E2 k ≠ -1 ∧ f k = g ∧ C k = c := ⟨by rw [z]; exact e2, by rw [z, hf]; exact y.1.symm, by rw [z]; exact y.2⟩
          have y2 : x < ((k + 1 : Nat) : Int) ∧ g = g0 ∧ C x = c := ⟨by omega, y⟩
          rw [if_pos y1, if_pos y2]
        · have y1 : ¬ (E2 k ≠ -1 ∧ f k = g ∧ C k = c) := fun q => y ⟨by have := q.2.1; rw [z, hf] at this; exact this.symm, by have := q.2.2; rw [z] at this; exact this⟩
          have y2 : ¬ (x < ((k + 1 : Nat) : Int) ∧ g = g0 ∧ C x = c) := fun q => y q.2
          rw [if_neg y1, if_neg y2]
      · rw [e3 _ z]
        by_cases y : x < ((k : Nat) : Int) ∧ g = g0 ∧ C x = c
        · have y2 : x < ((k + 1 : Nat) : Int) ∧ g = g0 ∧ C x = c := ⟨by have := y.1; omega, y.2⟩
          rw [if_pos y, if_pos y2]; omega
        · have y2 : ¬ (x < ((k + 1 : Nat) : Int) ∧ g = g0 ∧ C x = c) := fun q => y ⟨by have := q.1; omega, q.2⟩
          rw [if_neg y, if_neg y2]; omega
theorem oc_p {T T' : Zt} {E E2 C f : Int → Int} {x p0 g0 : Int} (h : OCW_ T E C f) (hx : 0 ≤ x ∧ x < 12) (e1 : E x = -1) (e2 : E2 x = p0) (e3 : ∀ k, k ≠ x → E2 k = E k) (hf : f x = g0) (hp : 0 ≤ p0 ∧ p0 ≤ 2) (hg : 0 ≤ g0 ∧ g0 < 4) (hc : 0 ≤ C x ∧ C x < 8) (t1 : T' 434 0 (p0 * 4 + g0) ≠ 0) (t2 : ∀ j, j ≠ p0 * 4 + g0 → T' 434 0 j = T 434 0 j) (c1 : T' 435 0 (g0 * 8 + C x) = T 435 0 (g0 * 8 + C x) + 1) (c2 : ∀ j, j ≠ g0 * 8 + C x → T' 435 0 j = T 435 0 j) : OCW_ T' E2 C f := by
  refine ⟨fun p g a b c d => ?_, fun g cc a b c d => ?_⟩
  · have n1 : OX_ E2 f p g ↔ OX_ E f p g ∨ (p = p0 ∧ g = g0) := by
      constructor
      · rintro ⟨k, q1, q2, q3, q4⟩
        by_cases z : k = x
        · rw [z] at q3 q4
          exact Or.inr ⟨by omega, by omega⟩
        · rw [e3 k z] at q3
          exact Or.inl ⟨k, q1, q2, q3, q4⟩
      · rintro (⟨k, q1, q2, q3, q4⟩ | ⟨q1, q2⟩)
        · exact ⟨k, q1, q2, by rw [e3 k (fun z => by rw [z] at q3; omega)]; exact q3, q4⟩
        · exact ⟨x, hx.1, hx.2, by omega, by omega⟩
    rw [n1]
    by_cases z : p * 4 + g = p0 * 4 + g0
    · have z1 : p = p0 ∧ g = g0 := by omega
      rw [z]
      exact ⟨fun q => absurd q t1, fun q => absurd (Or.inr z1) q⟩
    · rw [t2 _ z, h.1 p g a b c d]
      exact ⟨fun q r => r.elim q (fun y => z (by rw [y.1, y.2])), fun q r => q (Or.inl r)⟩
  · rw [cmk_p hx.1 e1 (by omega) e3 hf g cc 12]
    by_cases z : g * 8 + cc = g0 * 8 + C x
    · have z1 : g = g0 ∧ cc = C x := by omega
      have z2 : x < ((12 : Nat) : Int) ∧ g = g0 ∧ C x = cc := ⟨by have := hx.2; omega, z1.1, z1.2.symm⟩
      rw [z, c1, if_pos z2, h.2 g0 (C x) hg.1 hg.2 hc.1 hc.2, z1.1, z1.2]
    · have z2 : ¬ (x < ((12 : Nat) : Int) ∧ g = g0 ∧ C x = cc) := fun q => z (by rw [q.2.1, q.2.2])
      rw [c2 _ z, if_neg z2, h.2 g cc a b c d]; omega
theorem cmk_z {E C f : Int → Int} {g c : Int} : ∀ n : Nat, (∀ k : Int, 0 ≤ k → k < n → E k = -1) → cmk_ E C f g c n = 0
  | 0, _ => rfl
  | n + 1, h => by
    have i := cmk_z (C := C) (f := f) (g := g) (c := c) n (fun k a b => h k a (by omega))
    show cmk_ E C f g c n + (if E n ≠ -1 ∧ f n = g ∧ C n = c then (1 : Int) else 0) = 0
    have n1 : ¬ (E n ≠ -1 ∧ f n = g ∧ C n = c) := fun q => q.1 (h n (by omega) (by omega))
    rw [i, if_neg n1]; rfl
theorem oc_z {T : Zt} {E C f : Int → Int} (a : ∀ j, 0 ≤ j → j < 12 → T 434 0 j = 0) (b : ∀ j, 0 ≤ j → j < 32 → T 435 0 j = 0) : OCW_ T (ep_ E 0 0) C f := by
  refine ⟨fun p g x y z w => ?_, fun g c x y z w => ?_⟩
  · rw [a _ (by omega) (by omega)]
    exact ⟨fun _ ⟨k, q1, q2, q3, q4⟩ => by rw [ep_0 q1] at q3; omega, fun _ => rfl⟩
  · rw [b _ (by omega) (by omega)]
    exact (cmk_z 12 (fun k p q => ep_0 p)).symm
/-- the row waiting holds a list from k on -/
def WB_ (T : Zt) : List Int → Int → Prop
  | [], _ => True
  | x :: l, k => T 432 0 k = x ∧ WB_ T l (k + 1)
theorem wb_s {T : Zt} {x : Int} : ∀ {l : List Int} {k : Int}, WB_ T l k → T 432 0 (k + (l.length : Int)) = x → WB_ T (l ++ [x]) k
  | [], k, _, e => by
    rw [List.length_nil, show k + ((0 : Nat) : Int) = k by omega] at e
    exact ⟨e, trivial⟩
  | y :: l, k, h, e => by
    rw [List.length_cons, show k + ((l.length + 1 : Nat) : Int) = k + 1 + (l.length : Int) by omega] at e
    exact ⟨h.1, wb_s h.2 e⟩
theorem wb_e {T T' : Zt} : ∀ {l : List Int} {k : Int}, WB_ T l k → (∀ j, k ≤ j → j < k + (l.length : Int) → T' 432 0 j = T 432 0 j) → WB_ T' l k
  | [], _, _, _ => trivial
  | y :: l, k, h, e => ⟨(e k (by omega) (by rw [List.length_cons]; omega)).trans h.1, wb_e h.2 (fun j a b => e j (by omega) (by rw [List.length_cons]; omega))⟩
theorem wb_w {T : Zt} : ∀ {l : List Int} {k : Int}, WB_ T l k → k + (l.length : Int) = T 101 0 13 → WL_ T l k
  | [], k, _, e => by
    rw [List.length_nil] at e
    show k = T 101 0 13
    omega
  | y :: l, k, h, e => ⟨h.1, wb_w h.2 (by rw [List.length_cons] at e; omega)⟩
/-- what was counted is what there is -/
def FV_ (T : Zt) : Prop := T 101 0 6 = (nw_ (dh_ T) (-1) (-1) (lhw_ T) (ghw_ T) : Nat) ∧ (∀ c ∈ lhw_ T, ∀ u, 0 ≤ u → u < 4 → T 431 0 (c * 4 + u) = (nw_ (dh_ T) c u (lhw_ T) (ghw_ T) : Nat)) ∧ WL_ T (lhw_ T) 0
def RFP_ (T T' : Zt) : Prop := (T 101 0 7 ≠ 0 ∧ T' = T) ∨ (T 101 0 7 = 0 ∧ T' 101 0 7 = 1 ∧ FV_ T')
theorem lhw_m {T : Zt} {x : Int} (h : x ∈ lhw_ T) : 0 ≤ x ∧ x < 12 ∧ T 429 0 x = -1 ∧ 0 ≤ T 428 0 x ∧ T 428 0 x ≤ 2 := by
  have q := lq_m h
  have r : T 429 0 x = -1 := q.2.2.2.2
  have r2 : T 428 0 x < ((3 : Nat) : Int) := q.2.2.2.1
  have r3 := q.2.1
  exact ⟨q.1, by omega, r, q.2.2.1, by omega⟩
theorem lhw_d (T : Zt) : (lhw_ T).Nodup := by
  have := lq_d (fun k => T 428 0 k) (ghw_ T) 12 3 0
  have e : lpk_ (fun k => T 428 0 k) (ghw_ T) ((3 : Nat) : Int) 0 = [] := rfl
  rw [e, List.append_nil] at this
  exact this
theorem lhw_i {T : Zt} {x : Int} (h0 : 0 ≤ x) (hn : x < 12) (hg : T 429 0 x = -1) (h1 : 0 ≤ T 428 0 x) (h2 : T 428 0 x ≤ 2) : x ∈ lhw_ T := lq_i h0 (by omega) h1 hg (by show T 428 0 x < 3; omega)
theorem dh_e {T T1 : Zt} (a : ∀ k, T1 428 0 k = T 428 0 k) (b : ∀ k, T1 561 0 k = T 561 0 k) (d : T1 101 0 1 = T 101 0 1) (e : T1 101 0 2 = T 101 0 2) : dh_ T1 = dh_ T := by
  unfold dh_
  rw [d, e, show (fun k => T1 428 0 k) = (fun k => T 428 0 k) from funext a, show (fun k => T1 561 0 k) = (fun k => T 561 0 k) from funext b]
theorem ghw_e {T T1 : Zt} (a : ∀ k, T1 429 0 k = T 429 0 k) : ghw_ T1 = ghw_ T := funext a
theorem lhw_e {T T1 : Zt} (a : ∀ k, T1 428 0 k = T 428 0 k) (b : ∀ k, T1 429 0 k = T 429 0 k) : lhw_ T1 = lhw_ T := by
  unfold lhw_
  rw [ghw_e b, show (fun k => T1 428 0 k) = (fun k => T 428 0 k) from funext a]
theorem fv_i {T T1 U U2 : Zt} {x : Int} (hE : ∀ k, U2 428 0 k = T 428 0 k) (hC : ∀ k, U2 561 0 k = T 561 0 k) (hG : ∀ k, U2 429 0 k = T 429 0 k) (h1 : U2 101 0 1 = T 101 0 1) (h2 : U2 101 0 2 = T 101 0 2) (p : PC_ T1 U (dh_ T) (lhw_ T) (ghw_ T) x) (h6 : U2 101 0 6 = x) (h4 : ∀ j, U2 431 0 j = U 431 0 j) (z : ∀ j, 0 ≤ j → j < 48 → T1 431 0 j = 0) (fz : FZ_ T (ghw_ T) (lhw_ T)) (wl : WL_ U2 (lhw_ T) 0) : FV_ U2 := by
  unfold FV_
  rw [dh_e hE hC h1 h2, lhw_e hE hG, ghw_e hG]
  refine ⟨h6.trans p.1, fun c hc u a b => ?_, (wl :)⟩
  have q := fz.2 c hc
  have b9 := fz_b (T := T) (fx := c) (gp := u) rfl fz
  rw [h4, p.2.2.2.1 c hc u a b, z _ (by omega) (by omega), show (0 : Int) + ((nw_ (dh_ T) c u (lhw_ T) (ghw_ T) : Nat) : Int) = ((nw_ (dh_ T) c u (lhw_ T) (ghw_ T) : Nat) : Int) by omega]
  exact wr_i (by omega)
theorem bk_X1_refresh_e_46 : ck_ fX1 none cX1_refresh 46 [.iload 2, .iconst 12, .if_icmp .ge 155, .aload 0, .tableswitch 0 1 8 #[], .iload 2, .iaload, .iload 1, .if_icmp .ne 95, .aload 0, .tableswitch 0 1 9 #[], .iload 2, .iaload, .iconst (-1), .if_icmp .ne 95, .aload 0, .tableswitch 0 1 12 #[], .aload 0, .tableswitch 0 1 13 #[], .iload 2, .iastore, .aload 0, .dup, .tableswitch 0 1 13 #[], .iconst 1, .iadd, .tableswitch 1 1 13 #[], .goto 149] 95 = true := qck_r (nn_ _) (by decide +kernel)
theorem bs_X1_refresh_e_46 {P : Zt → Option Zv → Prop} (K : Int → Zl → List Zv → Zt → Prop) : sx_ K P [.iload 2, .iconst 12, .if_icmp .ge 155, .aload 0, .tableswitch 0 1 8 #[], .iload 2, .iaload, .iload 1, .if_icmp .ne 95, .aload 0, .tableswitch 0 1 9 #[], .iload 2, .iaload, .iconst (-1), .if_icmp .ne 95, .aload 0, .tableswitch 0 1 12 #[], .aload 0, .tableswitch 0 1 13 #[], .iload 2, .iastore, .aload 0, .dup, .tableswitch 0 1 13 #[], .iconst 1, .iadd, .tableswitch 1 1 13 #[], .goto 149] 95 = x_iload 2 (x_iconst 12 (x_if_icmp .ge 155 K (x_aload 0 (x_g1 101 428 (x_iload 2 (x_iaload (x_iload 1 (x_if_icmp .ne 95 K (x_aload 0 (x_g1 101 429 (x_iload 2 (x_iaload (x_iconst (-1) (x_if_icmp .ne 95 K (x_aload 0 (x_g1 101 432 (x_aload 0 (x_g0 101 13 0 12 (x_iload 2 (x_iastore (x_aload 0 (x_dup (x_g0 101 13 0 12 (x_iconst 1 (x_iadd (x_p 101 13 0 12 (x_goto 149 K))))))))))))))))))))))))))) := ((xe_iload 2).trans (congrArg (x_iload 2) ((xe_iconst 12).trans (congrArg (x_iconst 12) ((xe_if_icmp .ge 155).trans (congrArg (x_if_icmp .ge 155 K) ((xe_aload 0).trans (congrArg (x_aload 0) ((xe_g1 (kk := 101) rfl tl_1_8).trans (congrArg (x_g1 101 428) ((xe_iload 2).trans (congrArg (x_iload 2) ((xe_iaload).trans (congrArg (x_iaload) ((xe_iload 1).trans (congrArg (x_iload 1) ((xe_if_icmp .ne 95).trans (congrArg (x_if_icmp .ne 95 K) ((xe_aload 0).trans (congrArg (x_aload 0) ((xe_g1 (kk := 101) rfl tl_1_9).trans (congrArg (x_g1 101 429) ((xe_iload 2).trans (congrArg (x_iload 2) ((xe_iaload).trans (congrArg (x_iaload) ((xe_iconst (-1)).trans (congrArg (x_iconst (-1)) ((xe_if_icmp .ne 95).trans (congrArg (x_if_icmp .ne 95 K) ((xe_aload 0).trans (congrArg (x_aload 0) ((xe_g1 (kk := 101) rfl tl_1_12).trans (congrArg (x_g1 101 432) ((xe_aload 0).trans (congrArg (x_aload 0) ((xe_g0 (kk := 101) rfl tl_1_13).trans (congrArg (x_g0 101 13 0 12) ((xe_iload 2).trans (congrArg (x_iload 2) ((xe_iastore).trans (congrArg (x_iastore) ((xe_aload 0).trans (congrArg (x_aload 0) ((xe_dup).trans (congrArg (x_dup) ((xe_g0 (kk := 101) rfl tl_1_13).trans (congrArg (x_g0 101 13 0 12) ((xe_iconst 1).trans (congrArg (x_iconst 1) ((xe_iadd).trans (congrArg (x_iadd) ((xe_p (kk := 101) rfl tl_1_13).trans (congrArg (x_p 101 13 0 12) (xe_goto 149)))))))))))))))))))))))))))))))))))))))))))))))))))))))
theorem bk_X1_refresh_e_155 : ck_ fX1 none cX1_refresh 155 [.iinc 1 1, .goto 39] 161 = true := qck_r (nn_ _) (by decide +kernel)
theorem bs_X1_refresh_e_155 {P : Zt → Option Zv → Prop} (K : Int → Zl → List Zv → Zt → Prop) : sx_ K P [.iinc 1 1, .goto 39] 161 = x_iinc 1 1 (x_goto 39 K) := ((xe_iinc 1 1).trans (congrArg (x_iinc 1 1) (xe_goto 39)))
theorem bk_X1_refresh_e_95 : ck_ fX1 none cX1_refresh 95 [.aload 0, .tableswitch 0 1 8 #[], .iload 2, .iaload, .iload 1, .if_icmp .ne 149, .aload 0, .tableswitch 0 1 14 #[], .iload 1, .iconst 4, .imul, .aload 0, .tableswitch 0 1 9 #[], .iload 2, .iaload, .iadd, .iconst 1, .iastore, .aload 0, .tableswitch 0 1 15 #[], .aload 0, .tableswitch 0 1 9 #[], .iload 2, .iaload, .iconst 8, .imul, .aload 0, .tableswitch 0 1 0 #[], .tableswitch 0 8 1 #[], .iload 2, .iaload, .iadd, .dup2, .iaload, .iconst 1, .iadd, .iastore, .iinc 2 1, .goto 46] 155 = true := qck_r (nn_ _) (by decide +kernel)
theorem bs_X1_refresh_e_95 {P : Zt → Option Zv → Prop} (K : Int → Zl → List Zv → Zt → Prop) : sx_ K P [.aload 0, .tableswitch 0 1 8 #[], .iload 2, .iaload, .iload 1, .if_icmp .ne 149, .aload 0, .tableswitch 0 1 14 #[], .iload 1, .iconst 4, .imul, .aload 0, .tableswitch 0 1 9 #[], .iload 2, .iaload, .iadd, .iconst 1, .iastore, .aload 0, .tableswitch 0 1 15 #[], .aload 0, .tableswitch 0 1 9 #[], .iload 2, .iaload, .iconst 8, .imul, .aload 0, .tableswitch 0 1 0 #[], .tableswitch 0 8 1 #[], .iload 2, .iaload, .iadd, .dup2, .iaload, .iconst 1, .iadd, .iastore, .iinc 2 1, .goto 46] 155 = x_aload 0 (x_g1 101 428 (x_iload 2 (x_iaload (x_iload 1 (x_if_icmp .ne 149 K (x_aload 0 (x_g1 101 434 (x_iload 1 (x_iconst 4 (x_imul (x_aload 0 (x_g1 101 429 (x_iload 2 (x_iaload (x_iadd (x_iconst 1 (x_iastore (x_aload 0 (x_g1 101 435 (x_aload 0 (x_g1 101 429 (x_iload 2 (x_iaload (x_iconst 8 (x_imul (x_aload 0 (x_g1 101 108 (x_g1 108 561 (x_iload 2 (x_iaload (x_iadd (x_dup2 (x_iaload (x_iconst 1 (x_iadd (x_iastore (x_iinc 2 1 (x_goto 46 K)))))))))))))))))))))))))))))))))))))) := ((xe_aload 0).trans (congrArg (x_aload 0) ((xe_g1 (kk := 101) rfl tl_1_8).trans (congrArg (x_g1 101 428) ((xe_iload 2).trans (congrArg (x_iload 2) ((xe_iaload).trans (congrArg (x_iaload) ((xe_iload 1).trans (congrArg (x_iload 1) ((xe_if_icmp .ne 149).trans (congrArg (x_if_icmp .ne 149 K) ((xe_aload 0).trans (congrArg (x_aload 0) ((xe_g1 (kk := 101) rfl tl_1_14).trans (congrArg (x_g1 101 434) ((xe_iload 1).trans (congrArg (x_iload 1) ((xe_iconst 4).trans (congrArg (x_iconst 4) ((xe_imul).trans (congrArg (x_imul) ((xe_aload 0).trans (congrArg (x_aload 0) ((xe_g1 (kk := 101) rfl tl_1_9).trans (congrArg (x_g1 101 429) ((xe_iload 2).trans (congrArg (x_iload 2) ((xe_iaload).trans (congrArg (x_iaload) ((xe_iadd).trans (congrArg (x_iadd) ((xe_iconst 1).trans (congrArg (x_iconst 1) ((xe_iastore).trans (congrArg (x_iastore) ((xe_aload 0).trans (congrArg (x_aload 0) ((xe_g1 (kk := 101) rfl tl_1_15).trans (congrArg (x_g1 101 435) ((xe_aload 0).trans (congrArg (x_aload 0) ((xe_g1 (kk := 101) rfl tl_1_9).trans (congrArg (x_g1 101 429) ((xe_iload 2).trans (congrArg (x_iload 2) ((xe_iaload).trans (congrArg (x_iaload) ((xe_iconst 8).trans (congrArg (x_iconst 8) ((xe_imul).trans (congrArg (x_imul) ((xe_aload 0).trans (congrArg (x_aload 0) ((xe_g1 (kk := 101) rfl tl_1_0).trans (congrArg (x_g1 101 108) ((xe_g1 (kk := 108) rfl tl_8_1).trans (congrArg (x_g1 108 561) ((xe_iload 2).trans (congrArg (x_iload 2) ((xe_iaload).trans (congrArg (x_iaload) ((xe_iadd).trans (congrArg (x_iadd) ((xe_dup2).trans (congrArg (x_dup2) ((xe_iaload).trans (congrArg (x_iaload) ((xe_iconst 1).trans (congrArg (x_iconst 1) ((xe_iadd).trans (congrArg (x_iadd) ((xe_iastore).trans (congrArg (x_iastore) ((xe_iinc 2 1).trans (congrArg (x_iinc 2 1) (xe_goto 46)))))))))))))))))))))))))))))))))))))))))))))))))))))))))))))))))))))))))))))
theorem bk_X1_refresh_e_149 : ck_ fX1 none cX1_refresh 149 [.iinc 2 1, .goto 46] 155 = true := qck_r (nn_ _) (by decide +kernel)
theorem bs_X1_refresh_e_149 {P : Zt → Option Zv → Prop} (K : Int → Zl → List Zv → Zt → Prop) : sx_ K P [.iinc 2 1, .goto 46] 155 = x_iinc 2 1 (x_goto 46 K) := ((xe_iinc 2 1).trans (congrArg (x_iinc 2 1) (xe_goto 46)))
theorem bk_X1_refresh_e_39 : ck_ fX1 none cX1_refresh 39 [.iload 1, .iconst 3, .if_icmp .ge 161, .iconst 0, .istore 2] 46 = true := qck_r (nn_ _) (by decide +kernel)
theorem bs_X1_refresh_e_39 {P : Zt → Option Zv → Prop} (K : Int → Zl → List Zv → Zt → Prop) : sx_ K P [.iload 1, .iconst 3, .if_icmp .ge 161, .iconst 0, .istore 2] 46 = x_iload 1 (x_iconst 3 (x_if_icmp .ge 161 K (x_iconst 0 (x_istore 2 (K 46))))) := ((xe_iload 1).trans (congrArg (x_iload 1) ((xe_iconst 3).trans (congrArg (x_iconst 3) ((xe_if_icmp .ge 161).trans (congrArg (x_if_icmp .ge 161 K) ((xe_iconst 0).trans (congrArg (x_iconst 0) ((xe_istore 2).trans (congrArg (x_istore 2) xe_nil))))))))))
theorem bk_X1_refresh_e_161 : ck_ fX1 none cX1_refresh 161 [.aload 0, .aload 0, .iconst 0] 164 = true := qck_r (nn_ _) (by decide +kernel)
theorem bs_X1_refresh_e_161 {P : Zt → Option Zv → Prop} (K : Int → Zl → List Zv → Zt → Prop) : sx_ K P [.aload 0, .aload 0, .iconst 0] 164 = x_aload 0 (x_aload 0 (x_iconst 0 (K 164))) := ((xe_aload 0).trans (congrArg (x_aload 0) ((xe_aload 0).trans (congrArg (x_aload 0) ((xe_iconst 0).trans (congrArg (x_iconst 0) xe_nil))))))
theorem bk_X1_refresh_e_167 : ck_ fX1 none cX1_refresh 167 [.tableswitch 1 1 6 #[], .aload 0, .iconst 1, .tableswitch 1 1 7 #[], .return_] 176 = true := qck_r (nn_ _) (by decide +kernel)
theorem bs_X1_refresh_e_167 {P : Zt → Option Zv → Prop} (K : Int → Zl → List Zv → Zt → Prop) : sx_ K P [.tableswitch 1 1 6 #[], .aload 0, .iconst 1, .tableswitch 1 1 7 #[], .return_] 176 = x_p 101 6 (-2147483648) 2147483647 (x_aload 0 (x_iconst 1 (x_p 101 7 0 1 (x_return_ P)))) := ((xe_p (kk := 101) rfl tl_1_6).trans (congrArg (x_p 101 6 (-2147483648) 2147483647) ((xe_aload 0).trans (congrArg (x_aload 0) ((xe_iconst 1).trans (congrArg (x_iconst 1) ((xe_p (kk := 101) rfl tl_1_7).trans (congrArg (x_p 101 7 0 1) (xe_return_)))))))))
theorem bk_X1_refresh_e_0 : ck_ fX1 none cX1_refresh 0 [.aload 0, .tableswitch 0 1 7 #[], .ifCond .eq 8, .return_] 8 = true := qck_r (nn_ _) (by decide +kernel)
theorem bs_X1_refresh_e_0 {P : Zt → Option Zv → Prop} (K : Int → Zl → List Zv → Zt → Prop) : sx_ K P [.aload 0, .tableswitch 0 1 7 #[], .ifCond .eq 8, .return_] 8 = x_aload 0 (x_g0 101 7 0 1 (x_ifCond .eq 8 K (x_return_ P))) := ((xe_aload 0).trans (congrArg (x_aload 0) ((xe_g0 (kk := 101) rfl tl_1_7).trans (congrArg (x_g0 101 7 0 1) ((xe_ifCond .eq 8).trans (congrArg (x_ifCond .eq 8 K) (xe_return_)))))))
theorem bk_X1_refresh_e_8 : ck_ fX1 none cX1_refresh 8 [.aload 0, .tableswitch 0 1 11 #[], .iconst 0] 13 = true := qck_r (nn_ _) (by decide +kernel)
theorem bs_X1_refresh_e_8 {P : Zt → Option Zv → Prop} (K : Int → Zl → List Zv → Zt → Prop) : sx_ K P [.aload 0, .tableswitch 0 1 11 #[], .iconst 0] 13 = x_aload 0 (x_g1 101 431 (x_iconst 0 (K 13))) := ((xe_aload 0).trans (congrArg (x_aload 0) ((xe_g1 (kk := 101) rfl tl_1_11).trans (congrArg (x_g1 101 431) ((xe_iconst 0).trans (congrArg (x_iconst 0) xe_nil))))))
theorem bk_X1_refresh_e_16 : ck_ fX1 none cX1_refresh 16 [.aload 0, .tableswitch 0 1 14 #[], .iconst 0] 21 = true := qck_r (nn_ _) (by decide +kernel)
theorem bs_X1_refresh_e_16 {P : Zt → Option Zv → Prop} (K : Int → Zl → List Zv → Zt → Prop) : sx_ K P [.aload 0, .tableswitch 0 1 14 #[], .iconst 0] 21 = x_aload 0 (x_g1 101 434 (x_iconst 0 (K 21))) := ((xe_aload 0).trans (congrArg (x_aload 0) ((xe_g1 (kk := 101) rfl tl_1_14).trans (congrArg (x_g1 101 434) ((xe_iconst 0).trans (congrArg (x_iconst 0) xe_nil))))))
theorem bk_X1_refresh_e_24 : ck_ fX1 none cX1_refresh 24 [.aload 0, .tableswitch 0 1 15 #[], .iconst 0] 29 = true := qck_r (nn_ _) (by decide +kernel)
theorem bs_X1_refresh_e_24 {P : Zt → Option Zv → Prop} (K : Int → Zl → List Zv → Zt → Prop) : sx_ K P [.aload 0, .tableswitch 0 1 15 #[], .iconst 0] 29 = x_aload 0 (x_g1 101 435 (x_iconst 0 (K 29))) := ((xe_aload 0).trans (congrArg (x_aload 0) ((xe_g1 (kk := 101) rfl tl_1_15).trans (congrArg (x_g1 101 435) ((xe_iconst 0).trans (congrArg (x_iconst 0) xe_nil))))))
theorem bk_X1_refresh_e_32 : ck_ fX1 none cX1_refresh 32 [.aload 0, .iconst 0, .tableswitch 1 1 13 #[], .iconst 0, .istore 1] 39 = true := qck_r (nn_ _) (by decide +kernel)
theorem bs_X1_refresh_e_32 {P : Zt → Option Zv → Prop} (K : Int → Zl → List Zv → Zt → Prop) : sx_ K P [.aload 0, .iconst 0, .tableswitch 1 1 13 #[], .iconst 0, .istore 1] 39 = x_aload 0 (x_iconst 0 (x_p 101 13 0 12 (x_iconst 0 (x_istore 1 (K 39))))) := ((xe_aload 0).trans (congrArg (x_aload 0) ((xe_iconst 0).trans (congrArg (x_iconst 0) ((xe_p (kk := 101) rfl tl_1_13).trans (congrArg (x_p 101 13 0 12) ((xe_iconst 0).trans (congrArg (x_iconst 0) ((xe_istore 1).trans (congrArg (x_istore 1) xe_nil))))))))))
abbrev po_X1_refresh_e (T : Zt) : Zt → Option Zv → Prop := fun T' r => r = none ∧ fr_ [(101, [13, 6, 7]), (434, []), (435, []), (431, []), (432, [])] T T' ∧ (RFP_ T T')
set_option maxHeartbeats 4000000 in
theorem ct_X1_refresh_e {T : Zt} : Ct_ yX1_refresh zX1_refresh T [vR 101 0] (po_X1_refresh_e T) := by
  refine ct_of pn_1 rfl rfl (Nat.le_of_ble_eq_true rfl) (fun hT hav => ?_)
  have hz : zX1_refresh.2.2.2.1 = some .boolean → ∀ (T' : Zt) (x : Int), po_X1_refresh_e T T' (some (vI x)) → 0 ≤ x ∧ x ≤ 1 := fun h => by cases h
  show J_ zX1_refresh T (po_X1_refresh_e T) 0 0 0 [some (vR 101 0), none, none] [] T
  have c_39 : ∀ (nn : Nat) (p : Int) (T1 : Zt), ((3 - p).toNat) ≤ nn → (fr_ [(101, [13]), (434, []), (435, []), (431, []), (432, [])] T T1) → (0 ≤ p ∧ p ≤ 3 ∧ T 101 0 7 = 0) → (T1 101 0 13 = ((lq_ (fun k => T 428 0 k) (ghw_ T) 12 p.toNat).length : Int)) → (WB_ T1 (lq_ (fun k => T 428 0 k) (ghw_ T) 12 p.toNat) 0) → (OCW_ T1 (ep_ (fun k => T 428 0 k) p 0) (fun k => T 561 0 k) (ghw_ T)) → (∀ j, 0 ≤ j → j < 48 → T1 431 0 j = 0) → J_ zX1_refresh T (po_X1_refresh_e T) 0 0 39 [some (vR 101 0), some (vI p), none] [] T1 := by
    intro nn
    induction nn using Nat.strongRecOn with
    | _ nn ih_39 =>
      intro p T1 hm_39 hf_39 i1 wc1 wb1 oc1 wi1
      replace hm_39 := fun (_ : Unit) => hm_39
      have c_46 : ∀ (nn : Nat) (c : Int) (T2 : Zt), ((12 - c).toNat) ≤ nn → (fr_ [(101, [13]), (434, []), (435, []), (431, []), (432, [])] T T2) → (0 ≤ c ∧ c ≤ 12 ∧ p < 3) → (T2 101 0 13 = ((lq_ (fun k => T 428 0 k) (ghw_ T) 12 p.toNat ++ lpk_ (fun k => T 428 0 k) (ghw_ T) p c.toNat).length : Int)) → (WB_ T2 (lq_ (fun k => T 428 0 k) (ghw_ T) 12 p.toNat ++ lpk_ (fun k => T 428 0 k) (ghw_ T) p c.toNat) 0) → (OCW_ T2 (ep_ (fun k => T 428 0 k) p c) (fun k => T 561 0 k) (ghw_ T)) → (∀ j, 0 ≤ j → j < 48 → T2 431 0 j = 0) → J_ zX1_refresh T (po_X1_refresh_e T) 0 0 46 [some (vR 101 0), some (vI p), some (vI c)] [] T2 := by
        intro nn
        induction nn using Nat.strongRecOn with
        | _ nn ih_46 =>
          intro c T2 hm_46 hf_46 i2 wc2 wb2 oc2 wi2
          replace hm_46 := fun (_ : Unit) => hm_46
          refine j_blx (F := fX1) tb_X1 (nn_ _) bk_X1_refresh_e_46 bs_X1_refresh_e_46 hz (fun K hK => ?_)
          refine And.intro (fun c1 => ?_) (fun c1 => ?_)
          · refine hK 155 _ [] T2 ?_
            refine j_blx (F := fX1) tb_X1 (nn_ _) bk_X1_refresh_e_155 bs_X1_refresh_e_155 hz (fun K hK => ?_)
            refine rg_i (by omega) ?_
            refine hK 39 [some (vR 101 0), some (vI (p + 1)), some (vI c)] [] T2 ?_
            refine j_drop [some (vR 101 0), some (vI (p + 1)), none] (fun k v hk => ?_) rfl ?_
            · match k, hk with
              | 0, hk => exact hk
              | 1, hk => exact hk
              | 2, hk => cases hk
              | k + 3, hk => cases hk
            refine ih_39 _ ?_ (p + 1) T2 (Nat.le_refl _) ?_ ?_ ?_ ?_ ?_ ?_
            · have hm_39 := hm_39 (); omega
            · exact fr_t (fr_0 _ _) (fr_s hf_46 rfl)
            · omega
            · rw [lq_t (by omega)]
              have h9 := wc2
              rw [show c.toNat = 12 by omega] at h9
              exact h9
            · rw [lq_t (by omega)]
              have h9 := wb2
              rw [show c.toNat = 12 by omega] at h9
              exact h9
            · refine oc_c oc2 (fun k a b => Or.inl ?_)
              rw [show c = 12 by omega]
              exact ep_p (by omega) b a
            · exact wi2
          · refine ix_i (by omega) ?_
            intro b2 b2b
            have e3 : T2 428 0 c = T 428 0 c := hf_46 428 0 c rfl
            rw [e3] at b2 b2b ⊢
            refine And.intro (fun c4 => ?_) (fun c4 => ?_)
            · refine hK 95 [some (vR 101 0), some (vI p), some (vI c)] [] T2 ?_
              refine j_blx (F := fX1) tb_X1 (nn_ _) bk_X1_refresh_e_95 bs_X1_refresh_e_95 hz (fun K hK => ?_)
              refine ix_i (by omega) ?_
              intro b5 b5b
              have e6 : T2 428 0 c = T 428 0 c := hf_46 428 0 c rfl
              rw [e6] at b5 b5b ⊢
              refine And.intro (fun c7 => ?_) (fun c7 => ?_)
              · refine hK 149 _ [] T2 ?_
                refine j_blx (F := fX1) tb_X1 (nn_ _) bk_X1_refresh_e_149 bs_X1_refresh_e_149 hz (fun K hK => ?_)
                refine rg_i (by omega) ?_
                refine hK 46 [some (vR 101 0), some (vI p), some (vI (c + 1))] [] T2 ?_
                refine ih_46 _ ?_ (c + 1) T2 (Nat.le_refl _) ?_ ?_ ?_ ?_ ?_ ?_
                · have hm_46 := hm_46 (); omega
                · exact fr_t (fr_0 _ _) (fr_s hf_46 rfl)
                · omega
                · rw [lpk_f (E := fun k => T 428 0 k) (b := ghw_ T) (p := p) (k := c) (by omega) (show ¬ (T 428 0 c = p ∧ T 429 0 c = -1) by omega)]
                  exact wc2
                · rw [lpk_f (E := fun k => T 428 0 k) (b := ghw_ T) (p := p) (k := c) (by omega) (show ¬ (T 428 0 c = p ∧ T 429 0 c = -1) by omega)]
                  exact wb2
                · exact oc_c oc2 (fun k a b => Or.inl (ep_n (fun q => by have q2 : T 428 0 c = p := q.2; omega)))
                · exact wi2
              · refine rg_i (by omega) ?_
                refine ix_i (by omega) ?_
                intro b8 b8b
                have e9 : T2 429 0 c = T 429 0 c := hf_46 429 0 c rfl
                rw [e9] at b8 b8b ⊢
                refine rg_i (by omega) ?_
                refine iy_i (by omega) (by omega) ?_
                refine x_nm (fun U10 hU10 => ?_)
                have e11 := up_f hU10
                refine ix_i (by omega) ?_
                intro b12 b12b
                have e13 : U10 429 0 c = T 429 0 c := (up_k hU10 (by exact Nat.ne_of_beq_eq_false rfl) 0 c).trans (hf_46 429 0 c rfl)
                rw [e13] at b12 b12b ⊢
                refine rg_i (by omega) ?_
                refine ix_i (by omega) ?_
                intro b14 b14b
                have e15 : U10 561 0 c = T 561 0 c := (up_k hU10 (by exact Nat.ne_of_beq_eq_false rfl) 0 c).trans (hf_46 561 0 c rfl)
                rw [e15] at b14 b14b ⊢
                refine rg_i (by omega) ?_
                refine ix_i (by omega) ?_
                intro b16 b16b
                have e17 : U10 435 0 (((T 429 0 c) * 8) + (T 561 0 c)) = T2 435 0 (((T 429 0 c) * 8) + (T 561 0 c)) := up_k hU10 (by exact Nat.ne_of_beq_eq_false rfl) 0 (((T 429 0 c) * 8) + (T 561 0 c))
                rw [e17] at b16 b16b ⊢
                have hcb : T2 435 0 (T 429 0 c * 8 + T 561 0 c) = cmk_ (ep_ (fun k => T 428 0 k) p c) (fun k => T 561 0 k) (ghw_ T) (T 429 0 c) (T 561 0 c) 12 := oc2.2 (T 429 0 c) (T 561 0 c) (by omega) (by omega) (by omega) (by omega)
                have hcc := cmk_b (ep_ (fun k => T 428 0 k) p c) (fun k => T 561 0 k) (ghw_ T) (T 429 0 c) (T 561 0 c) 12
                refine rg_i (by omega) ?_
                refine iy_i (by omega) (by omega) ?_
                refine x_nm (fun U18 hU18 => ?_)
                have e19 := up_f hU18
                refine rg_i (by omega) ?_
                refine hK 46 _ [] U18 ?_
                have e20 : U18 101 0 13 = T2 101 0 13 := (up_k hU18 (by exact Nat.ne_of_beq_eq_false rfl) 0 13).trans (up_k hU10 (by exact Nat.ne_of_beq_eq_false rfl) 0 13)
                refine ih_46 _ ?_ (c + 1) U18 (Nat.le_refl _) ?_ ?_ ?_ ?_ ?_ ?_
                · have hm_46 := hm_46 (); omega
                · exact fr_u (fr_u (fr_t (fr_0 _ _) (fr_s hf_46 rfl)) hU10 rfl) hU18 rfl
                · omega
                · rw [show U18 101 0 13 = T2 101 0 13 from (up_k hU18 (by exact Nat.ne_of_beq_eq_false rfl) 0 _).trans (up_k hU10 (by exact Nat.ne_of_beq_eq_false rfl) 0 _)]
                  rw [lpk_f (E := fun k => T 428 0 k) (b := ghw_ T) (p := p) (k := c) (by omega) (show ¬ (T 428 0 c = p ∧ T 429 0 c = -1) by omega)]
                  exact wc2
                · rw [lpk_f (E := fun k => T 428 0 k) (b := ghw_ T) (p := p) (k := c) (by omega) (show ¬ (T 428 0 c = p ∧ T 429 0 c = -1) by omega)]
                  exact wb_e wb2 (fun j a b => (up_k hU18 (by exact Nat.ne_of_beq_eq_false rfl) 0 j).trans (up_k hU10 (by exact Nat.ne_of_beq_eq_false rfl) 0 j))
                · exact oc_p (x := c) (p0 := p) (g0 := T 429 0 c) oc2 (by omega) (ep_c (E := (fun k => T 428 0 k)) (show T 428 0 c = p by omega)).1 (ep_c (E := (fun k => T 428 0 k)) (show T 428 0 c = p by omega)).2 (fun k hk => ep_n (fun q => hk q.1)) rfl (by omega) (by omega) (show 0 ≤ T 561 0 c ∧ T 561 0 c < 8 by omega) (by rw [up_k hU18 (by exact Nat.ne_of_beq_eq_false rfl), up_f hU10]; decide) (fun j hj => (up_k hU18 (by exact Nat.ne_of_beq_eq_false rfl) 0 j).trans (up_g hU10 (fun q => hj q.2.2))) (by show U18 435 0 (T 429 0 c * 8 + T 561 0 c) = T2 435 0 (T 429 0 c * 8 + T 561 0 c) + 1; exact up_f hU18) (fun j hj => (up_g hU18 (fun q => hj q.2.2)).trans (up_k hU10 (by exact Nat.ne_of_beq_eq_false rfl) 0 j))
                · exact fun j a b => ((up_k hU18 (by exact Nat.ne_of_beq_eq_false rfl) 0 j).trans (up_k hU10 (by exact Nat.ne_of_beq_eq_false rfl) 0 j)).trans (wi2 j a b)
            · refine ix_i (by omega) ?_
              intro b21 b21b
              have e22 : T2 429 0 c = T 429 0 c := hf_46 429 0 c rfl
              rw [e22] at b21 b21b ⊢
              refine And.intro (fun c23 => ?_) (fun c23 => ?_)
              · refine hK 95 _ [] T2 ?_
                refine j_blx (F := fX1) tb_X1 (nn_ _) bk_X1_refresh_e_95 bs_X1_refresh_e_95 hz (fun K hK => ?_)
                refine ix_i (by omega) ?_
                intro b24 b24b
                have e25 : T2 428 0 c = T 428 0 c := hf_46 428 0 c rfl
                rw [e25] at b24 b24b ⊢
                refine And.intro (fun c26 => ?_) (fun c26 => ?_)
                · refine hK 149 _ [] T2 ?_
                  refine j_blx (F := fX1) tb_X1 (nn_ _) bk_X1_refresh_e_149 bs_X1_refresh_e_149 hz (fun K hK => ?_)
                  refine rg_i (by omega) ?_
                  refine hK 46 [some (vR 101 0), some (vI p), some (vI (c + 1))] [] T2 ?_
                  refine ih_46 _ ?_ (c + 1) T2 (Nat.le_refl _) ?_ ?_ ?_ ?_ ?_ ?_
                  · have hm_46 := hm_46 (); omega
                  · exact fr_t (fr_0 _ _) (fr_s hf_46 rfl)
                  · omega
                  · rw [lpk_f (E := fun k => T 428 0 k) (b := ghw_ T) (p := p) (k := c) (by omega) (show ¬ (T 428 0 c = p ∧ T 429 0 c = -1) by omega)]
                    exact wc2
                  · rw [lpk_f (E := fun k => T 428 0 k) (b := ghw_ T) (p := p) (k := c) (by omega) (show ¬ (T 428 0 c = p ∧ T 429 0 c = -1) by omega)]
                    exact wb2
                  · exact oc_c oc2 (fun k a b => Or.inl (ep_n (fun q => by have q2 : T 428 0 c = p := q.2; omega)))
                  · exact wi2
                · refine rg_i (by omega) ?_
                  refine ix_i (by omega) ?_
                  intro b27 b27b
                  have e28 : T2 429 0 c = T 429 0 c := hf_46 429 0 c rfl
                  rw [e28] at b27 b27b ⊢
                  refine rg_i (by omega) ?_
                  refine iy_i (by omega) (by omega) ?_
                  refine x_nm (fun U29 hU29 => ?_)
                  have e30 := up_f hU29
                  refine ix_i (by omega) ?_
                  intro b31 b31b
                  have e32 : U29 429 0 c = T 429 0 c := (up_k hU29 (by exact Nat.ne_of_beq_eq_false rfl) 0 c).trans (hf_46 429 0 c rfl)
                  rw [e32] at b31 b31b ⊢
                  refine rg_i (by omega) ?_
                  refine ix_i (by omega) ?_
                  intro b33 b33b
                  have e34 : U29 561 0 c = T 561 0 c := (up_k hU29 (by exact Nat.ne_of_beq_eq_false rfl) 0 c).trans (hf_46 561 0 c rfl)
                  rw [e34] at b33 b33b ⊢
                  refine rg_i (by omega) ?_
                  refine ix_i (by omega) ?_
                  intro b35 b35b
                  have e36 : U29 435 0 (((T 429 0 c) * 8) + (T 561 0 c)) = T2 435 0 (((T 429 0 c) * 8) + (T 561 0 c)) := up_k hU29 (by exact Nat.ne_of_beq_eq_false rfl) 0 (((T 429 0 c) * 8) + (T 561 0 c))
                  rw [e36] at b35 b35b ⊢
                  have hcb : T2 435 0 (T 429 0 c * 8 + T 561 0 c) = cmk_ (ep_ (fun k => T 428 0 k) p c) (fun k => T 561 0 k) (ghw_ T) (T 429 0 c) (T 561 0 c) 12 := oc2.2 (T 429 0 c) (T 561 0 c) (by omega) (by omega) (by omega) (by omega)
                  have hcc := cmk_b (ep_ (fun k => T 428 0 k) p c) (fun k => T 561 0 k) (ghw_ T) (T 429 0 c) (T 561 0 c) 12
                  refine rg_i (by omega) ?_
                  refine iy_i (by omega) (by omega) ?_
                  refine x_nm (fun U37 hU37 => ?_)
                  have e38 := up_f hU37
                  refine rg_i (by omega) ?_
                  refine hK 46 _ [] U37 ?_
                  have e39 : U37 101 0 13 = T2 101 0 13 := (up_k hU37 (by exact Nat.ne_of_beq_eq_false rfl) 0 13).trans (up_k hU29 (by exact Nat.ne_of_beq_eq_false rfl) 0 13)
                  refine ih_46 _ ?_ (c + 1) U37 (Nat.le_refl _) ?_ ?_ ?_ ?_ ?_ ?_
                  · have hm_46 := hm_46 (); omega
                  · exact fr_u (fr_u (fr_t (fr_0 _ _) (fr_s hf_46 rfl)) hU29 rfl) hU37 rfl
                  · omega
                  · rw [show U37 101 0 13 = T2 101 0 13 from (up_k hU37 (by exact Nat.ne_of_beq_eq_false rfl) 0 _).trans (up_k hU29 (by exact Nat.ne_of_beq_eq_false rfl) 0 _)]
                    rw [lpk_f (E := fun k => T 428 0 k) (b := ghw_ T) (p := p) (k := c) (by omega) (show ¬ (T 428 0 c = p ∧ T 429 0 c = -1) by omega)]
                    exact wc2
                  · rw [lpk_f (E := fun k => T 428 0 k) (b := ghw_ T) (p := p) (k := c) (by omega) (show ¬ (T 428 0 c = p ∧ T 429 0 c = -1) by omega)]
                    exact wb_e wb2 (fun j a b => (up_k hU37 (by exact Nat.ne_of_beq_eq_false rfl) 0 j).trans (up_k hU29 (by exact Nat.ne_of_beq_eq_false rfl) 0 j))
                  · exact oc_p (x := c) (p0 := p) (g0 := T 429 0 c) oc2 (by omega) (ep_c (E := (fun k => T 428 0 k)) (show T 428 0 c = p by omega)).1 (ep_c (E := (fun k => T 428 0 k)) (show T 428 0 c = p by omega)).2 (fun k hk => ep_n (fun q => hk q.1)) rfl (by omega) (by omega) (show 0 ≤ T 561 0 c ∧ T 561 0 c < 8 by omega) (by rw [up_k hU37 (by exact Nat.ne_of_beq_eq_false rfl), up_f hU29]; decide) (fun j hj => (up_k hU37 (by exact Nat.ne_of_beq_eq_false rfl) 0 j).trans (up_g hU29 (fun q => hj q.2.2))) (by show U37 435 0 (T 429 0 c * 8 + T 561 0 c) = T2 435 0 (T 429 0 c * 8 + T 561 0 c) + 1; exact up_f hU37) (fun j hj => (up_g hU37 (fun q => hj q.2.2)).trans (up_k hU29 (by exact Nat.ne_of_beq_eq_false rfl) 0 j))
                  · exact fun j a b => ((up_k hU37 (by exact Nat.ne_of_beq_eq_false rfl) 0 j).trans (up_k hU29 (by exact Nat.ne_of_beq_eq_false rfl) 0 j)).trans (wi2 j a b)
              · have hnd := lx_d (E := (fun k => T 428 0 k)) (b := (ghw_ T)) (n := 12) (p := p) (k := c + 1) (by omega)
                have hnm : ∀ x ∈ lq_ (fun k => T 428 0 k) (ghw_ T) 12 p.toNat ++ lpk_ (fun k => T 428 0 k) (ghw_ T) p (c + 1).toNat, 0 ≤ x ∧ x < 12 := fun x hx => by have := lx_m (n := 12) (by omega) (by omega) hx; omega
                have hnl := nd_len (by decide) hnm hnd
                rw [lpk_t (E := fun k => T 428 0 k) (b := ghw_ T) (p := p) (k := c) (by omega) (show T 428 0 c = p ∧ T 429 0 c = -1 by omega), ← List.append_assoc, List.length_append, List.length_singleton] at hnl
                intro b40 b40b
                refine iy_i (by omega) (by omega) ?_
                refine x_nm (fun U41 hU41 => ?_)
                have e42 := up_f hU41
                intro b43 b43b
                have e44 : U41 101 0 13 = T2 101 0 13 := up_k hU41 (by exact Nat.ne_of_beq_eq_false rfl) 0 13
                rw [e44] at b43 b43b ⊢
                refine rg_i (by omega) ?_
                refine bd_i (by omega) ?_
                refine x_nm (fun U45 hU45 => ?_)
                have e46 := up_f hU45
                refine hK 149 _ [] U45 ?_
                refine j_blx (F := fX1) tb_X1 (nn_ _) bk_X1_refresh_e_149 bs_X1_refresh_e_149 hz (fun K hK => ?_)
                refine rg_i (by omega) ?_
                refine hK 46 [some (vR 101 0), some (vI p), some (vI (c + 1))] [] U45 ?_
                have e47 : U45 101 0 13 = (T2 101 0 13) + 1 := up_f hU45
                refine ih_46 _ ?_ (c + 1) U45 (Nat.le_refl _) ?_ ?_ ?_ ?_ ?_ ?_
                · have hm_46 := hm_46 (); omega
                · exact fr_u (fr_u (fr_t (fr_0 _ _) (fr_s hf_46 rfl)) hU41 rfl) hU45 rfl
                · omega
                · rw [lpk_t (E := fun k => T 428 0 k) (b := ghw_ T) (p := p) (k := c) (by omega) (show T 428 0 c = p ∧ T 429 0 c = -1 by omega), ← List.append_assoc, List.length_append, List.length_singleton, up_f hU45]
                  omega
                · rw [lpk_t (E := fun k => T 428 0 k) (b := ghw_ T) (p := p) (k := c) (by omega) (show T 428 0 c = p ∧ T 429 0 c = -1 by omega), ← List.append_assoc]
                  refine wb_s (wb_e wb2 (fun j a b => (up_k hU45 (by exact Nat.ne_of_beq_eq_false rfl) 0 j).trans (up_g hU41 (fun q => by have := q.2.2; omega)))) ?_
                  rw [show (0 : Int) + ((lq_ (fun k => T 428 0 k) (ghw_ T) 12 p.toNat ++ lpk_ (fun k => T 428 0 k) (ghw_ T) p c.toNat).length : Int) = T2 101 0 13 by omega]
                  exact (up_k hU45 (by exact Nat.ne_of_beq_eq_false rfl) 0 _).trans (up_f hU41)
                · refine oc_c (oc_e oc2 (fun j => (up_k hU45 (by exact Nat.ne_of_beq_eq_false rfl) 0 j).trans (up_k hU41 (by exact Nat.ne_of_beq_eq_false rfl) 0 j)) (fun j => (up_k hU45 (by exact Nat.ne_of_beq_eq_false rfl) 0 j).trans (up_k hU41 (by exact Nat.ne_of_beq_eq_false rfl) 0 j))) (fun k a b => ?_)
                  by_cases z : k = c
                  · exact Or.inr (by rw [z]; show T 429 0 c = -1; omega)
                  · exact Or.inl (ep_n (fun q => z q.1))
                · exact fun j a b => ((up_k hU45 (by exact Nat.ne_of_beq_eq_false rfl) 0 j).trans (up_k hU41 (by exact Nat.ne_of_beq_eq_false rfl) 0 j)).trans (wi2 j a b)
      refine j_blx (F := fX1) tb_X1 (nn_ _) bk_X1_refresh_e_39 bs_X1_refresh_e_39 hz (fun K hK => ?_)
      refine And.intro (fun c48 => ?_) (fun c48 => ?_)
      · refine hK 161 _ [] T1 ?_
        refine j_blx (F := fX1) tb_X1 (nn_ _) bk_X1_refresh_e_161 bs_X1_refresh_e_161 hz (fun K hK => ?_)
        refine hK 164 _ [vI 0, vR 101 0, vR 101 0] T1 ?_
        have ep : p = 3 := by omega
        subst ep
        have hll : lq_ (fun k => T 428 0 k) (ghw_ T) 12 (3 : Int).toNat = lhw_ T := rfl
        rw [hll] at wc1 wb1
        have hfz : FZ_ T (ghw_ T) (lhw_ T) := ⟨lhw_d T, fun z hz => by
          have q := lhw_m hz
          exact ⟨⟨q.1, q.2.1⟩, q.2.2.1, q.2.2.2, bd_a hT 561 (by decide +kernel : ta_ 561 = some (1, some 12, 0, 7)) 0 q.1⟩⟩
        have hfz1 : FZ_ T1 (ghw_ T) (lhw_ T) := ⟨hfz.1, fun z hz => by rw [hf_39 428 0 z rfl, hf_39 561 0 z rfl]; exact hfz.2 z hz⟩
        have hoc : OCW_ T1 (dh_ T).E (dh_ T).C (ghw_ T) := oc_c oc1 (fun k a b => Or.inl (ep_3 (E := fun k => T 428 0 k) (bd_a hT 428 (by decide +kernel : ta_ 428 = some (1, some 12, -1, 2)) 0 a)).symm)
        have hwl := wb_w wb1 (show (0 : Int) + ((lhw_ T).length : Int) = T1 101 0 13 by omega)
        have hdq : dh_ T = dh_ T1 := (dh_e (fun k => hf_39 428 0 k rfl) (fun k => hf_39 561 0 k rfl) (hf_39 101 0 1 rfl) (hf_39 101 0 2 rfl)).symm
        have hnl := nd_len (n := 12) (by decide) (fun x hx => ⟨(lhw_m hx).1, (lhw_m hx).2.1⟩) (lhw_d T)
        refine j_callV (y := yX1_countFrom) (Yc := zX1_cf 12) (rest := [vR 101 0]) [vI 0] (ct_cf (lhw_ T) 12 (by omega) T1 (ghw_ T) 0 hdq (hwl :) hoc hfz1 (by decide)) (cl_cf 12) (by decide +kernel) (by decide) rfl (by decide +kernel) (Nat.le_of_ble_eq_true rfl) (by decide) (by decide) rfl ?_
        rintro U49 _ ⟨x50, rfl, fU49, qU49⟩
        have hb9 := fz_b (T := T) (fx := -1) (gp := -1) rfl hfz
        have hx9 : 0 ≤ x50 ∧ x50 ≤ 13824 := by have := qU49.1; omega
        show J_ zX1_refresh T (po_X1_refresh_e T) 0 0 167 [some (vR 101 0), some (vI 3), none] [vI x50, vR 101 0] U49
        refine j_blx (F := fX1) tb_X1 (nn_ _) bk_X1_refresh_e_167 bs_X1_refresh_e_167 hz (fun K hK => ?_)
        refine bd_i (by omega) ?_
        refine x_nm (fun U51 hU51 => ?_)
        have e52 := up_f hU51
        refine bd_i (by omega) ?_
        refine x_nm (fun U53 hU53 => ?_)
        have e54 := up_f hU53
        refine (show po_X1_refresh_e T U53 (none) from ?_)
        have hwl2 := wl_e (T := T1) (T' := U53) (fun j => (up_k hU53 (by exact Nat.ne_of_beq_eq_false rfl) 0 j).trans ((up_k hU51 (by exact Nat.ne_of_beq_eq_false rfl) 0 j).trans (fU49 432 0 j rfl))) ((up_j hU53 (by decide) 101 0).trans ((up_j hU51 (by decide) 101 0).trans (fU49 101 0 13 rfl))) (hwl :)
        exact ⟨rfl, fr_u (fr_u (fr_t (fr_t (fr_0 _ _) (fr_s hf_39 rfl)) (fr_s fU49 rfl)) hU51 rfl) hU53 rfl, Or.inr ⟨by omega, up_f hU53, fv_i (T := T) (T1 := T1) (U := U49) (fun k => (up_k hU53 (by exact Nat.ne_of_beq_eq_false rfl) 0 k).trans ((up_k hU51 (by exact Nat.ne_of_beq_eq_false rfl) 0 k).trans ((fU49 428 0 k rfl).trans (hf_39 428 0 k rfl)))) (fun k => (up_k hU53 (by exact Nat.ne_of_beq_eq_false rfl) 0 k).trans ((up_k hU51 (by exact Nat.ne_of_beq_eq_false rfl) 0 k).trans ((fU49 561 0 k rfl).trans (hf_39 561 0 k rfl)))) (fun k => (up_k hU53 (by exact Nat.ne_of_beq_eq_false rfl) 0 k).trans ((up_k hU51 (by exact Nat.ne_of_beq_eq_false rfl) 0 k).trans ((fU49 429 0 k rfl).trans (hf_39 429 0 k rfl)))) ((up_j hU53 (by decide) 101 0).trans ((up_j hU51 (by decide) 101 0).trans ((fU49 101 0 1 rfl).trans (hf_39 101 0 1 rfl)))) ((up_j hU53 (by decide) 101 0).trans ((up_j hU51 (by decide) 101 0).trans ((fU49 101 0 2 rfl).trans (hf_39 101 0 2 rfl)))) qU49 ((up_j hU53 (by decide) 101 0).trans (up_f hU51)) (fun j => (up_k hU53 (by exact Nat.ne_of_beq_eq_false rfl) 0 j).trans (up_k hU51 (by exact Nat.ne_of_beq_eq_false rfl) 0 j)) wi1 hfz (hwl2 :)⟩⟩
      · refine hK 46 [some (vR 101 0), some (vI p), some (vI 0)] [] T1 ?_
        refine c_46 _ 0 T1 (Nat.le_refl _) ?_ ?_ ?_ ?_ ?_ ?_
        · exact fr_t (fr_0 _ _) (fr_s hf_39 rfl)
        · omega
        · show _ = ((lq_ (fun k => T 428 0 k) (ghw_ T) 12 p.toNat ++ []).length : Int)
          rw [List.append_nil]
          exact wc1
        · show WB_ T1 (lq_ (fun k => T 428 0 k) (ghw_ T) 12 p.toNat ++ []) 0
          rw [List.append_nil]
          exact wb1
        · exact oc1
        · exact wi1
  refine j_blx (F := fX1) tb_X1 (nn_ _) bk_X1_refresh_e_0 bs_X1_refresh_e_0 hz (fun K hK => ?_)
  intro b55 b55b
  refine And.intro (fun c56 => ?_) (fun c56 => ?_)
  · refine hK 8 _ [] T ?_
    refine j_blx (F := fX1) tb_X1 (nn_ _) bk_X1_refresh_e_8 bs_X1_refresh_e_8 hz (fun K hK => ?_)
    refine hK 13 _ [vI 0, vR 431 0] T ?_
    refine j_callS (y := yJ7_fill_53178) (Yc := zJ7_fill_53178) (rest := []) [vR 431 0, vI 0] (ct_J7_fill_431 (T := T) (by omega)) cl_X1_54 (qd_c (by decide +kernel)) (nn_ _) rfl (rf_of rfl) (Nat.le_of_ble_eq_true rfl) (Nat.le_of_ble_eq_true rfl) (Nat.le_of_ble_eq_true rfl) rfl ?_
    rintro U57 _ ⟨rfl, fU57, qU57o, qU57⟩
    show J_ zX1_refresh T (po_X1_refresh_e T) 0 0 16 _ [] U57
    refine j_blx (F := fX1) tb_X1 (nn_ _) bk_X1_refresh_e_16 bs_X1_refresh_e_16 hz (fun K hK => ?_)
    refine hK 21 _ [vI 0, vR 434 0] U57 ?_
    refine j_callS (y := yJ7_fill_53178) (Yc := zJ7_fill_53178) (rest := []) [vR 434 0, vI 0] (ct_J7_fill_434 (T := U57) (by omega)) cl_X1_54 (qd_c (by decide +kernel)) (nn_ _) rfl (rf_of rfl) (Nat.le_of_ble_eq_true rfl) (Nat.le_of_ble_eq_true rfl) (Nat.le_of_ble_eq_true rfl) rfl ?_
    rintro U58 _ ⟨rfl, fU58, qU58o, qU58⟩
    show J_ zX1_refresh T (po_X1_refresh_e T) 0 0 24 _ [] U58
    refine j_blx (F := fX1) tb_X1 (nn_ _) bk_X1_refresh_e_24 bs_X1_refresh_e_24 hz (fun K hK => ?_)
    refine hK 29 _ [vI 0, vR 435 0] U58 ?_
    refine j_callS (y := yJ7_fill_53178) (Yc := zJ7_fill_53178) (rest := []) [vR 435 0, vI 0] (ct_J7_fill_435 (T := U58) (by omega)) cl_X1_54 (qd_c (by decide +kernel)) (nn_ _) rfl (rf_of rfl) (Nat.le_of_ble_eq_true rfl) (Nat.le_of_ble_eq_true rfl) (Nat.le_of_ble_eq_true rfl) rfl ?_
    rintro U59 _ ⟨rfl, fU59, qU59o, qU59⟩
    show J_ zX1_refresh T (po_X1_refresh_e T) 0 0 32 _ [] U59
    refine j_blx (F := fX1) tb_X1 (nn_ _) bk_X1_refresh_e_32 bs_X1_refresh_e_32 hz (fun K hK => ?_)
    refine bd_i (by omega) ?_
    refine x_nm (fun U60 hU60 => ?_)
    have e61 := up_f hU60
    refine hK 39 [some (vR 101 0), some (vI 0), none] [] U60 ?_
    have e62 : U60 101 0 13 = 0 := up_f hU60
    refine c_39 _ 0 U60 (Nat.le_refl _) ?_ ?_ ?_ ?_ ?_ ?_
    · exact fr_u (fr_t (fr_t (fr_t (fr_0 _ _) (fr_s fU57 rfl)) (fr_s fU58 rfl)) (fr_s fU59 rfl)) hU60 rfl
    · omega
    · rw [up_f hU60]; rfl
    · exact trivial
    · exact oc_z (fun j a b => (up_k hU60 (by exact Nat.ne_of_beq_eq_false rfl) 0 j).trans ((fU59 434 0 j rfl).trans (qU58 j a b))) (fun j a b => (up_k hU60 (by exact Nat.ne_of_beq_eq_false rfl) 0 j).trans (qU59 j a b))
    · exact fun j a b => (up_k hU60 (by exact Nat.ne_of_beq_eq_false rfl) 0 j).trans ((fU59 431 0 j rfl).trans ((fU58 431 0 j rfl).trans (qU57 j a b)))
  · refine (show po_X1_refresh_e T T (none) from ?_)
    exact ⟨rfl, fr_0 _ _, Or.inl ⟨by omega, rfl⟩⟩
