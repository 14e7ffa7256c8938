-- who can be first: the others as bits, words
theorem sl7_p : ∀ e : Nat, e < 12 → (sl_ 1 (e : Int)).toNat = 2 ^ e := by decide +kernel
/-- a set of bits holds the entrants below i, but one -/
def OB7_ (T : Zt) (c b i u : Int) : Prop := ∀ v : Nat, v < 12 → (u.toNat.testBit v = true ↔ ((v : Int) ≠ b ∧ ∃ j : Int, (0 ≤ j ∧ j < i) ∧ T 207 0 (12 * c + j) = (v : Int)))
theorem ob7_0 {T : Zt} {c b : Int} : OB7_ T c b 0 0 := fun v _ => by
  show (0 : Nat).testBit v = true ↔ _
  rw [Nat.zero_testBit]
  exact ⟨fun h => absurd h (by decide), fun ⟨_, j, h, _⟩ => by omega⟩
theorem ob7_k {T : Zt} {c b i u : Int} (h : OB7_ T c b i u) (hi : 0 ≤ i) (e : T 207 0 (12 * c + i) = b) : OB7_ T c b (i + 1) u := fun v hv => by
  rw [h v hv]
  refine ⟨fun ⟨a, j, q, w⟩ => ⟨a, j, ⟨q.1, by omega⟩, w⟩, fun ⟨a, j, q, w⟩ => ⟨a, j, ⟨q.1, ?_⟩, w⟩⟩
  by_cases z : j = i
  · rw [z, e] at w
    exact absurd w.symm a
  · omega
theorem ob7_s {T : Zt} {c b i u : Int} (h : OB7_ T c b i u) (hi : 0 ≤ i) (hu : 0 ≤ u ∧ u ≤ 4095) (e : T 207 0 (12 * c + i) ≠ b) (he : 0 ≤ T 207 0 (12 * c + i) ∧ T 207 0 (12 * c + i) ≤ 11) : OB7_ T c b (i + 1) (or_ u (sl_ 1 (T 207 0 (12 * c + i)))) := fun v hv => by
  have s := sl_b he
  have p := sl7_p (T 207 0 (12 * c + i)).toNat (by omega)
  rw [show (((T 207 0 (12 * c + i)).toNat : Nat) : Int) = T 207 0 (12 * c + i) by omega] at p
  rw [or_n (by omega) (by omega), Int.toNat_natCast, Nat.testBit_or, p, Nat.testBit_two_pow, Bool.or_eq_true, h v hv, decide_eq_true_iff]
  refine ⟨fun g => ?_, fun ⟨a, j, q, w⟩ => ?_⟩
  · rcases g with ⟨a, j, q, w⟩ | g
    · exact ⟨a, j, ⟨q.1, by omega⟩, w⟩
    · exact ⟨by omega, i, ⟨hi, by omega⟩, by omega⟩
  · by_cases z : j = i
    · rw [z] at w
      exact Or.inr (by omega)
    · exact Or.inl ⟨a, j, ⟨q.1, by omega⟩, w⟩
/-- what the reference has before it asks: points, matches left, the best that a club can reach -/
def MI7_ (T U : Zt) (c b : Int) : Prop := fr_ [(276, []), (291, []), (292, []), (289, []), (111, [80, 82, 83, 90, 95])] T U ∧ (∀ v, 0 ≤ v → v < 12 → U 291 0 v = pr7_ T c v) ∧ (∀ v, 0 ≤ v → v < 12 → U 292 0 v = lf7_ T c v (T 211 0 c).toNat) ∧ U 111 0 95 = pr7_ T c b + T 205 0 (23 * c + 1) * lf7_ T c b (T 211 0 c).toNat ∧ U 111 0 90 = 0 ∧ ∀ y, 0 ≤ y → y < T 111 0 29 → U 289 0 y = -1
/-- the answer of the reference -/
def CN7_ (T T' : Zt) (c b x : Int) : Prop := ∃ U V : Zt, MI7_ T U c b ∧ ((T 205 0 (23 * c + 1) + T 205 0 (23 * c + 3) = 2 * T 205 0 (23 * c + 2) ∧ ∃ o : Int, ((0 ≤ o ∧ o ≤ 4095) ∧ OB7_ T c b (T 208 0 c) o) ∧ RE7_ U V c b o x) ∨ (T 205 0 (23 * c + 1) + T 205 0 (23 * c + 3) ≠ 2 * T 205 0 (23 * c + 2) ∧ CT7_ U V c b x ∧ V 111 0 90 = U 111 0 90)) ∧ (∀ y, T' 289 0 y = V 289 0 y) ∧ T' 111 0 90 = V 111 0 90 ∧ T' 111 0 88 = cz_ (x = 1) c (-1)
theorem pr7_f {T U : Zt} {c x : Int} (f : fr_ [(289, []), (111, [90])] T U) : pr7_ U c x = pr7_ T c x := by
  have ev : (fun k => vR_ U 999 (T 210 0 c + k)) = (fun k => vR_ T 999 (T 210 0 c + k)) := funext (fun k => vr_g f (fun k j q9 => by rcases q9 with rfl | rfl | rfl | rfl | rfl | rfl | rfl | rfl | rfl | rfl <;> rfl) rfl)
  have er : (fun w => U 205 0 (23 * c + w)) = (fun w => T 205 0 (23 * c + w)) := funext (fun w => f 205 0 _ rfl)
  unfold pr7_
  rw [f 210 0 c rfl, f 211 0 c rfl, f 111 0 24 rfl, ev, er, dd_k (fun k j q => by rcases q with rfl | rfl | rfl | rfl; exact f 225 0 j rfl; exact f 226 0 j rfl; exact f 227 0 j rfl; exact f 228 0 j rfl)]
theorem lf7_f {T U : Zt} {c v : Int} (f : fr_ [(289, []), (111, [90])] T U) : ∀ n : Nat, lf7_ U c v n = lf7_ T c v n
  | 0 => rfl
  | n + 1 => by
    show lf7_ U c v n + cz_ _ _ _ = lf7_ T c v n + cz_ _ _ _
    rw [lf7_f f n, f 210 0 c rfl, f 235 0 _ rfl, f 232 0 _ rfl, f 233 0 _ rfl]
theorem bk_X11_othersOf_h_5 : ck_ fX11 (some .int) cX11_othersOf 5 [.iload 4, .aload 0, .tableswitch 0 11 8 #[], .iload 1, .iaload, .if_icmp .ge 59, .aload 0, .tableswitch 0 11 7 #[], .iconst 12, .iload 1, .imul, .iload 4, .iadd, .iaload, .iload 2, .if_icmp .ne 36, .iload 3, .goto 52] 36 = true := qck_r (nn_ _) (by decide +kernel)
theorem bs_X11_othersOf_h_5 {P : Zt → Option Zv → Prop} (K : Int → Zl → List Zv → Zt → Prop) : sx_ K P [.iload 4, .aload 0, .tableswitch 0 11 8 #[], .iload 1, .iaload, .if_icmp .ge 59, .aload 0, .tableswitch 0 11 7 #[], .iconst 12, .iload 1, .imul, .iload 4, .iadd, .iaload, .iload 2, .if_icmp .ne 36, .iload 3, .goto 52] 36 = x_iload 4 (x_aload 0 (x_g1 111 208 (x_iload 1 (x_iaload (x_if_icmp .ge 59 K (x_aload 0 (x_g1 111 207 (x_iconst 12 (x_iload 1 (x_imul (x_iload 4 (x_iadd (x_iaload (x_iload 2 (x_if_icmp .ne 36 K (x_iload 3 (x_goto 52 K))))))))))))))))) := ((xe_iload 4).trans (congrArg (x_iload 4) ((xe_aload 0).trans (congrArg (x_aload 0) ((xe_g1 (kk := 111) rfl tl_11_8).trans (congrArg (x_g1 111 208) ((xe_iload 1).trans (congrArg (x_iload 1) ((xe_iaload).trans (congrArg (x_iaload) ((xe_if_icmp .ge 59).trans (congrArg (x_if_icmp .ge 59 K) ((xe_aload 0).trans (congrArg (x_aload 0) ((xe_g1 (kk := 111) rfl tl_11_7).trans (congrArg (x_g1 111 207) ((xe_iconst 12).trans (congrArg (x_iconst 12) ((xe_iload 1).trans (congrArg (x_iload 1) ((xe_imul).trans (congrArg (x_imul) ((xe_iload 4).trans (congrArg (x_iload 4) ((xe_iadd).trans (congrArg (x_iadd) ((xe_iaload).trans (congrArg (x_iaload) ((xe_iload 2).trans (congrArg (x_iload 2) ((xe_if_icmp .ne 36).trans (congrArg (x_if_icmp .ne 36 K) ((xe_iload 3).trans (congrArg (x_iload 3) (xe_goto 52)))))))))))))))))))))))))))))))))))
theorem bk_X11_othersOf_h_59 : ck_ fX11 (some .int) cX11_othersOf 59 [.iload 3, .ireturn] 61 = true := qck_r (nn_ _) (by decide +kernel)
theorem bs_X11_othersOf_h_59 {P : Zt → Option Zv → Prop} (K : Int → Zl → List Zv → Zt → Prop) : sx_ K P [.iload 3, .ireturn] 61 = x_iload 3 (x_ireturn P) := ((xe_iload 3).trans (congrArg (x_iload 3) (xe_ireturn)))
theorem bk_X11_othersOf_h_36 : ck_ fX11 (some .int) cX11_othersOf 36 [.iload 3, .iconst 1, .aload 0, .tableswitch 0 11 7 #[], .iconst 12, .iload 1, .imul, .iload 4, .iadd, .iaload, .ishl, .ior, .istore 3, .iinc 4 1, .goto 5] 59 = true := qck_r (nn_ _) (by decide +kernel)
theorem bs_X11_othersOf_h_36 {P : Zt → Option Zv → Prop} (K : Int → Zl → List Zv → Zt → Prop) : sx_ K P [.iload 3, .iconst 1, .aload 0, .tableswitch 0 11 7 #[], .iconst 12, .iload 1, .imul, .iload 4, .iadd, .iaload, .ishl, .ior, .istore 3, .iinc 4 1, .goto 5] 59 = x_iload 3 (x_iconst 1 (x_aload 0 (x_g1 111 207 (x_iconst 12 (x_iload 1 (x_imul (x_iload 4 (x_iadd (x_iaload (x_ishl (x_ior (x_istore 3 (x_iinc 4 1 (x_goto 5 K)))))))))))))) := ((xe_iload 3).trans (congrArg (x_iload 3) ((xe_iconst 1).trans (congrArg (x_iconst 1) ((xe_aload 0).trans (congrArg (x_aload 0) ((xe_g1 (kk := 111) rfl tl_11_7).trans (congrArg (x_g1 111 207) ((xe_iconst 12).trans (congrArg (x_iconst 12) ((xe_iload 1).trans (congrArg (x_iload 1) ((xe_imul).trans (congrArg (x_imul) ((xe_iload 4).trans (congrArg (x_iload 4) ((xe_iadd).trans (congrArg (x_iadd) ((xe_iaload).trans (congrArg (x_iaload) ((xe_ishl).trans (congrArg (x_ishl) ((xe_ior).trans (congrArg (x_ior) ((xe_istore 3).trans (congrArg (x_istore 3) ((xe_iinc 4 1).trans (congrArg (x_iinc 4 1) (xe_goto 5)))))))))))))))))))))))))))))
theorem bk_X11_othersOf_h_52 : ck_ fX11 (some .int) cX11_othersOf 52 [.istore 3, .iinc 4 1, .goto 5] 59 = true := qck_r (nn_ _) (by decide +kernel)
theorem bs_X11_othersOf_h_52 {P : Zt → Option Zv → Prop} (K : Int → Zl → List Zv → Zt → Prop) : sx_ K P [.istore 3, .iinc 4 1, .goto 5] 59 = x_istore 3 (x_iinc 4 1 (x_goto 5 K)) := ((xe_istore 3).trans (congrArg (x_istore 3) ((xe_iinc 4 1).trans (congrArg (x_iinc 4 1) (xe_goto 5)))))
theorem bk_X11_othersOf_h_0 : ck_ fX11 (some .int) cX11_othersOf 0 [.iconst 0, .istore 3, .iconst 0, .istore 4] 5 = true := qck_r (nn_ _) (by decide +kernel)
theorem bs_X11_othersOf_h_0 {P : Zt → Option Zv → Prop} (K : Int → Zl → List Zv → Zt → Prop) : sx_ K P [.iconst 0, .istore 3, .iconst 0, .istore 4] 5 = x_iconst 0 (x_istore 3 (x_iconst 0 (x_istore 4 (K 5)))) := ((xe_iconst 0).trans (congrArg (x_iconst 0) ((xe_istore 3).trans (congrArg (x_istore 3) ((xe_iconst 0).trans (congrArg (x_iconst 0) ((xe_istore 4).trans (congrArg (x_istore 4) xe_nil))))))))
abbrev po_X11_othersOf_h (T : Zt) (c cl : Int) : Zt → Option Zv → Prop := fun T' r => T = T' ∧ ∃ x : Int, r = some (vI x) ∧ ((0 ≤ x ∧ x ≤ 4095) ∧ OB7_ T c cl (T 208 0 c) x)
set_option maxHeartbeats 4000000 in
theorem ct_X11_othersOf_h {T : Zt} {c cl : Int} (h1 : 0 ≤ c ∧ c < 4) : Ct_ yX11_othersOf zX11_othersOf T [vR 111 0, vI c, vI cl] (po_X11_othersOf_h T c cl) := by
  refine ct_of pn_11 rfl rfl (Nat.le_of_ble_eq_true rfl) (fun hT hav => ?_)
  have hr_c : -2147483648 ≤ c ∧ c ≤ 2147483647 := hav (vI c) (List.mem_cons_of_mem _ List.mem_cons_self)
  have hr_cl : -2147483648 ≤ cl ∧ cl ≤ 2147483647 := hav (vI cl) (List.mem_cons_of_mem _ (List.mem_cons_of_mem _ List.mem_cons_self))
  have hz : zX11_othersOf.2.2.2.1 = some .boolean → ∀ (T' : Zt) (x : Int), po_X11_othersOf_h T c cl T' (some (vI x)) → 0 ≤ x ∧ x ≤ 1 := fun h => by cases h
  have hed : 0 ≤ T 208 0 c ∧ T 208 0 c ≤ 12 := bd_a hT 208 (by decide +kernel : ta_ 208 = some (1, some 4, 0, 12)) 0 (by omega)
  show J_ zX11_othersOf T (po_X11_othersOf_h T c cl) 0 0 0 [some (vR 111 0), some (vI c), some (vI cl), none, none] [] T
  have c_5 : ∀ (nn : Nat) (u : Int) (i : Int), ((12 - i).toNat) ≤ nn → (0 ≤ i ∧ i ≤ T 208 0 c ∧ 0 ≤ u ∧ u ≤ 4095) → (OB7_ T c cl i u) → J_ zX11_othersOf T (po_X11_othersOf_h T c cl) 0 0 5 [some (vR 111 0), some (vI c), some (vI cl), some (vI u), some (vI i)] [] T := by
    intro nn
    induction nn using Nat.strongRecOn with
    | _ nn ih_5 =>
      intro u i hm_5 i1 ob1
      replace hm_5 := fun (_ : Unit) => hm_5
      refine j_blx (F := fX11) tb_X11 (nn_ _) bk_X11_othersOf_h_5 bs_X11_othersOf_h_5 hz (fun K hK => ?_)
      refine ix_i (by omega) ?_
      intro b1 b1b
      refine And.intro (fun c2 => ?_) (fun c2 => ?_)
      · refine hK 59 _ [] T ?_
        refine j_blx (F := fX11) tb_X11 (nn_ _) bk_X11_othersOf_h_59 bs_X11_othersOf_h_59 hz (fun K hK => ?_)
        refine (show po_X11_othersOf_h T c cl T (some (vI u)) from ?_)
        have ei : i = T 208 0 c := by omega
        rw [ei] at ob1
        exact ⟨rfl, _, rfl, by omega, ob1⟩
      · refine rg_i (by omega) ?_
        refine rg_i (by omega) ?_
        refine ix_i (by omega) ?_
        intro b3 b3b
        refine And.intro (fun c4 => ?_) (fun c4 => ?_)
        · refine hK 36 _ [] T ?_
          refine j_blx (F := fX11) tb_X11 (nn_ _) bk_X11_othersOf_h_36 bs_X11_othersOf_h_36 hz (fun K hK => ?_)
          refine rg_i (by omega) ?_
          refine rg_i (by omega) ?_
          refine ix_i (by omega) ?_
          intro b5 b5b
          intro w6 w6b
          intro w7 w7b
          have ob8 : 0 ≤ or_ u (sl_ 1 (T 207 0 ((12 * c) + i))) ∧ or_ u (sl_ 1 (T 207 0 ((12 * c) + i))) ≤ 4095 := or_b (by omega) (sl_b (by omega))
          refine rg_i (by omega) ?_
          refine hK 5 [some (vR 111 0), some (vI c), some (vI cl), some (vI (or_ u (sl_ 1 (T 207 0 ((12 * c) + i))))), some (vI (i + 1))] [] T ?_
          refine ih_5 _ ?_ (or_ u (sl_ 1 (T 207 0 ((12 * c) + i)))) (i + 1) (Nat.le_refl _) ?_ ?_
          · have hm_5 := hm_5 (); omega
          · omega
          · exact ob7_s ob1 (by omega) (by omega) (by omega) (by omega)
        · refine hK 52 [some (vR 111 0), some (vI c), some (vI cl), some (vI u), some (vI i)] [vI u] T ?_
          refine j_blx (F := fX11) tb_X11 (nn_ _) bk_X11_othersOf_h_52 bs_X11_othersOf_h_52 hz (fun K hK => ?_)
          refine rg_i (by omega) ?_
          refine hK 5 [some (vR 111 0), some (vI c), some (vI cl), some (vI u), some (vI (i + 1))] [] T ?_
          refine ih_5 _ ?_ u (i + 1) (Nat.le_refl _) ?_ ?_
          · have hm_5 := hm_5 (); omega
          · omega
          · exact ob7_k ob1 (by omega) (by omega)
  refine j_blx (F := fX11) tb_X11 (nn_ _) bk_X11_othersOf_h_0 bs_X11_othersOf_h_0 hz (fun K hK => ?_)
  refine hK 5 [some (vR 111 0), some (vI c), some (vI cl), some (vI 0), some (vI 0)] [] T ?_
  refine c_5 _ 0 0 (Nat.le_refl _) ?_ ?_
  · omega
  · exact ob7_0
theorem bk_X11_can_h_48 : ck_ fX11 (some .int) cX11_can 48 [.iload 3, .aload 0, .tableswitch 0 11 29 #[], .if_icmp .ge 69, .aload 0, .tableswitch 0 11 89 #[], .iload 3, .iconst (-1), .iastore, .iinc 3 1, .goto 48] 69 = true := qck_r (nn_ _) (by decide +kernel)
theorem bs_X11_can_h_48 {P : Zt → Option Zv → Prop} (K : Int → Zl → List Zv → Zt → Prop) : sx_ K P [.iload 3, .aload 0, .tableswitch 0 11 29 #[], .if_icmp .ge 69, .aload 0, .tableswitch 0 11 89 #[], .iload 3, .iconst (-1), .iastore, .iinc 3 1, .goto 48] 69 = x_iload 3 (x_aload 0 (x_g0 111 29 0 400 (x_if_icmp .ge 69 K (x_aload 0 (x_g1 111 289 (x_iload 3 (x_iconst (-1) (x_iastore (x_iinc 3 1 (x_goto 48 K)))))))))) := ((xe_iload 3).trans (congrArg (x_iload 3) ((xe_aload 0).trans (congrArg (x_aload 0) ((xe_g0 (kk := 111) rfl tl_11_29).trans (congrArg (x_g0 111 29 0 400) ((xe_if_icmp .ge 69).trans (congrArg (x_if_icmp .ge 69 K) ((xe_aload 0).trans (congrArg (x_aload 0) ((xe_g1 (kk := 111) rfl tl_11_89).trans (congrArg (x_g1 111 289) ((xe_iload 3).trans (congrArg (x_iload 3) ((xe_iconst (-1)).trans (congrArg (x_iconst (-1)) ((xe_iastore).trans (congrArg (x_iastore) ((xe_iinc 3 1).trans (congrArg (x_iinc 3 1) (xe_goto 48)))))))))))))))))))))
theorem bk_X11_can_h_69 : ck_ fX11 (some .int) cX11_can 69 [.aload 0, .iconst 0, .tableswitch 1 11 90 #[], .aload 0, .iload 1] 76 = true := qck_r (nn_ _) (by decide +kernel)
theorem bs_X11_can_h_69 {P : Zt → Option Zv → Prop} (K : Int → Zl → List Zv → Zt → Prop) : sx_ K P [.aload 0, .iconst 0, .tableswitch 1 11 90 #[], .aload 0, .iload 1] 76 = x_aload 0 (x_iconst 0 (x_p 111 90 0 4095 (x_aload 0 (x_iload 1 (K 76))))) := ((xe_aload 0).trans (congrArg (x_aload 0) ((xe_iconst 0).trans (congrArg (x_iconst 0) ((xe_p (kk := 111) rfl tl_11_90).trans (congrArg (x_p 111 90 0 4095) ((xe_aload 0).trans (congrArg (x_aload 0) ((xe_iload 1).trans (congrArg (x_iload 1) xe_nil))))))))))
theorem bk_X11_can_h_79 : ck_ fX11 (some .int) cX11_can 79 [.aload 0, .aload 0, .tableswitch 0 11 91 #[], .iload 2, .iaload, .aload 0, .iload 1, .iconst 1] 89 = true := qck_r (nn_ _) (by decide +kernel)
theorem bs_X11_can_h_79 {P : Zt → Option Zv → Prop} (K : Int → Zl → List Zv → Zt → Prop) : sx_ K P [.aload 0, .aload 0, .tableswitch 0 11 91 #[], .iload 2, .iaload, .aload 0, .iload 1, .iconst 1] 89 = x_aload 0 (x_aload 0 (x_g1 111 291 (x_iload 2 (x_iaload (x_aload 0 (x_iload 1 (x_iconst 1 (K 89)))))))) := ((xe_aload 0).trans (congrArg (x_aload 0) ((xe_aload 0).trans (congrArg (x_aload 0) ((xe_g1 (kk := 111) rfl tl_11_91).trans (congrArg (x_g1 111 291) ((xe_iload 2).trans (congrArg (x_iload 2) ((xe_iaload).trans (congrArg (x_iaload) ((xe_aload 0).trans (congrArg (x_aload 0) ((xe_iload 1).trans (congrArg (x_iload 1) ((xe_iconst 1).trans (congrArg (x_iconst 1) xe_nil))))))))))))))))
theorem bk_X11_can_h_92 : ck_ fX11 (some .int) cX11_can 92 [.aload 0, .tableswitch 0 11 92 #[], .iload 2, .iaload, .imul, .iadd, .tableswitch 1 11 95 #[], .aload 0, .iload 1, .iconst 1] 106 = true := qck_r (nn_ _) (by decide +kernel)
theorem bs_X11_can_h_92 {P : Zt → Option Zv → Prop} (K : Int → Zl → List Zv → Zt → Prop) : sx_ K P [.aload 0, .tableswitch 0 11 92 #[], .iload 2, .iaload, .imul, .iadd, .tableswitch 1 11 95 #[], .aload 0, .iload 1, .iconst 1] 106 = x_aload 0 (x_g1 111 292 (x_iload 2 (x_iaload (x_imul (x_iadd (x_p 111 95 (-2147483648) 2147483647 (x_aload 0 (x_iload 1 (x_iconst 1 (K 106)))))))))) := ((xe_aload 0).trans (congrArg (x_aload 0) ((xe_g1 (kk := 111) rfl tl_11_92).trans (congrArg (x_g1 111 292) ((xe_iload 2).trans (congrArg (x_iload 2) ((xe_iaload).trans (congrArg (x_iaload) ((xe_imul).trans (congrArg (x_imul) ((xe_iadd).trans (congrArg (x_iadd) ((xe_p (kk := 111) rfl tl_11_95).trans (congrArg (x_p 111 95 (-2147483648) 2147483647) ((xe_aload 0).trans (congrArg (x_aload 0) ((xe_iload 1).trans (congrArg (x_iload 1) ((xe_iconst 1).trans (congrArg (x_iconst 1) xe_nil))))))))))))))))))))
theorem bk_X11_can_h_109 : ck_ fX11 (some .int) cX11_can 109 [.aload 0, .iload 1, .iconst 3] 112 = true := qck_r (nn_ _) (by decide +kernel)
theorem bs_X11_can_h_109 {P : Zt → Option Zv → Prop} (K : Int → Zl → List Zv → Zt → Prop) : sx_ K P [.aload 0, .iload 1, .iconst 3] 112 = x_aload 0 (x_iload 1 (x_iconst 3 (K 112))) := ((xe_aload 0).trans (congrArg (x_aload 0) ((xe_iload 1).trans (congrArg (x_iload 1) ((xe_iconst 3).trans (congrArg (x_iconst 3) xe_nil))))))
theorem bk_X11_can_h_115 : ck_ fX11 (some .int) cX11_can 115 [.iadd, .iconst 2, .aload 0, .iload 1, .iconst 2] 120 = true := qck_r (nn_ _) (by decide +kernel)
theorem bs_X11_can_h_115 {P : Zt → Option Zv → Prop} (K : Int → Zl → List Zv → Zt → Prop) : sx_ K P [.iadd, .iconst 2, .aload 0, .iload 1, .iconst 2] 120 = x_iadd (x_iconst 2 (x_aload 0 (x_iload 1 (x_iconst 2 (K 120))))) := ((xe_iadd).trans (congrArg (x_iadd) ((xe_iconst 2).trans (congrArg (x_iconst 2) ((xe_aload 0).trans (congrArg (x_aload 0) ((xe_iload 1).trans (congrArg (x_iload 1) ((xe_iconst 2).trans (congrArg (x_iconst 2) xe_nil))))))))))
theorem bk_X11_can_h_123 : ck_ fX11 (some .int) cX11_can 123 [.imul, .if_icmp .ne 131, .iconst 1, .goto 132] 131 = true := qck_r (nn_ _) (by decide +kernel)
theorem bs_X11_can_h_123 {P : Zt → Option Zv → Prop} (K : Int → Zl → List Zv → Zt → Prop) : sx_ K P [.imul, .if_icmp .ne 131, .iconst 1, .goto 132] 131 = x_imul (x_if_icmp .ne 131 K (x_iconst 1 (x_goto 132 K))) := ((xe_imul).trans (congrArg (x_imul) ((xe_if_icmp .ne 131).trans (congrArg (x_if_icmp .ne 131 K) ((xe_iconst 1).trans (congrArg (x_iconst 1) (xe_goto 132)))))))
theorem bk_X11_can_h_131 : ck_ fX11 (some .int) cX11_can 131 [.iconst 0, .istore 3, .iload 3, .ifCond .eq 152, .aload 0, .iload 1, .iload 2, .aload 0, .iload 1, .iload 2] 143 = true := qck_r (nn_ _) (by decide +kernel)
theorem bs_X11_can_h_131 {P : Zt → Option Zv → Prop} (K : Int → Zl → List Zv → Zt → Prop) : sx_ K P [.iconst 0, .istore 3, .iload 3, .ifCond .eq 152, .aload 0, .iload 1, .iload 2, .aload 0, .iload 1, .iload 2] 143 = x_iconst 0 (x_istore 3 (x_iload 3 (x_ifCond .eq 152 K (x_aload 0 (x_iload 1 (x_iload 2 (x_aload 0 (x_iload 1 (x_iload 2 (K 143)))))))))) := ((xe_iconst 0).trans (congrArg (x_iconst 0) ((xe_istore 3).trans (congrArg (x_istore 3) ((xe_iload 3).trans (congrArg (x_iload 3) ((xe_ifCond .eq 152).trans (congrArg (x_ifCond .eq 152 K) ((xe_aload 0).trans (congrArg (x_aload 0) ((xe_iload 1).trans (congrArg (x_iload 1) ((xe_iload 2).trans (congrArg (x_iload 2) ((xe_aload 0).trans (congrArg (x_aload 0) ((xe_iload 1).trans (congrArg (x_iload 1) ((xe_iload 2).trans (congrArg (x_iload 2) xe_nil))))))))))))))))))))
theorem bk_X11_can_h_152 : ck_ fX11 (some .int) cX11_can 152 [.aload 0, .iload 1, .iload 2] 155 = true := qck_r (nn_ _) (by decide +kernel)
theorem bs_X11_can_h_152 {P : Zt → Option Zv → Prop} (K : Int → Zl → List Zv → Zt → Prop) : sx_ K P [.aload 0, .iload 1, .iload 2] 155 = x_aload 0 (x_iload 1 (x_iload 2 (K 155))) := ((xe_aload 0).trans (congrArg (x_aload 0) ((xe_iload 1).trans (congrArg (x_iload 1) ((xe_iload 2).trans (congrArg (x_iload 2) xe_nil))))))
theorem bk_X11_can_h_158 : ck_ fX11 (some .int) cX11_can 158 [.istore 4, .aload 0, .iload 4, .iconst 1, .if_icmp .ne 171, .iload 1, .goto 172] 171 = true := qck_r (nn_ _) (by decide +kernel)
theorem bs_X11_can_h_158 {P : Zt → Option Zv → Prop} (K : Int → Zl → List Zv → Zt → Prop) : sx_ K P [.istore 4, .aload 0, .iload 4, .iconst 1, .if_icmp .ne 171, .iload 1, .goto 172] 171 = x_istore 4 (x_aload 0 (x_iload 4 (x_iconst 1 (x_if_icmp .ne 171 K (x_iload 1 (x_goto 172 K)))))) := ((xe_istore 4).trans (congrArg (x_istore 4) ((xe_aload 0).trans (congrArg (x_aload 0) ((xe_iload 4).trans (congrArg (x_iload 4) ((xe_iconst 1).trans (congrArg (x_iconst 1) ((xe_if_icmp .ne 171).trans (congrArg (x_if_icmp .ne 171 K) ((xe_iload 1).trans (congrArg (x_iload 1) (xe_goto 172)))))))))))))
theorem bk_X11_can_h_171 : ck_ fX11 (some .int) cX11_can 171 [.iconst (-1), .tableswitch 1 11 88 #[], .iload 4, .ireturn] 178 = true := qck_r (nn_ _) (by decide +kernel)
theorem bs_X11_can_h_171 {P : Zt → Option Zv → Prop} (K : Int → Zl → List Zv → Zt → Prop) : sx_ K P [.iconst (-1), .tableswitch 1 11 88 #[], .iload 4, .ireturn] 178 = x_iconst (-1) (x_p 111 88 (-1) 3 (x_iload 4 (x_ireturn P))) := ((xe_iconst (-1)).trans (congrArg (x_iconst (-1)) ((xe_p (kk := 111) rfl tl_11_88).trans (congrArg (x_p 111 88 (-1) 3) ((xe_iload 4).trans (congrArg (x_iload 4) (xe_ireturn)))))))
theorem bk_X11_can_h_172 : ck_ fX11 (some .int) cX11_can 172 [.tableswitch 1 11 88 #[], .iload 4, .ireturn] 178 = true := qck_r (nn_ _) (by decide +kernel)
theorem bs_X11_can_h_172 {P : Zt → Option Zv → Prop} (K : Int → Zl → List Zv → Zt → Prop) : sx_ K P [.tableswitch 1 11 88 #[], .iload 4, .ireturn] 178 = x_p 111 88 (-1) 3 (x_iload 4 (x_ireturn P)) := ((xe_p (kk := 111) rfl tl_11_88).trans (congrArg (x_p 111 88 (-1) 3) ((xe_iload 4).trans (congrArg (x_iload 4) (xe_ireturn)))))
theorem bk_X11_can_h_132 : ck_ fX11 (some .int) cX11_can 132 [.istore 3, .iload 3, .ifCond .eq 152, .aload 0, .iload 1, .iload 2, .aload 0, .iload 1, .iload 2] 143 = true := qck_r (nn_ _) (by decide +kernel)
theorem bs_X11_can_h_132 {P : Zt → Option Zv → Prop} (K : Int → Zl → List Zv → Zt → Prop) : sx_ K P [.istore 3, .iload 3, .ifCond .eq 152, .aload 0, .iload 1, .iload 2, .aload 0, .iload 1, .iload 2] 143 = x_istore 3 (x_iload 3 (x_ifCond .eq 152 K (x_aload 0 (x_iload 1 (x_iload 2 (x_aload 0 (x_iload 1 (x_iload 2 (K 143))))))))) := ((xe_istore 3).trans (congrArg (x_istore 3) ((xe_iload 3).trans (congrArg (x_iload 3) ((xe_ifCond .eq 152).trans (congrArg (x_ifCond .eq 152 K) ((xe_aload 0).trans (congrArg (x_aload 0) ((xe_iload 1).trans (congrArg (x_iload 1) ((xe_iload 2).trans (congrArg (x_iload 2) ((xe_aload 0).trans (congrArg (x_aload 0) ((xe_iload 1).trans (congrArg (x_iload 1) ((xe_iload 2).trans (congrArg (x_iload 2) xe_nil))))))))))))))))))
theorem bk_X11_can_h_149 : ck_ fX11 (some .int) cX11_can 149 [.goto 158] 152 = true := qck_r (nn_ _) (by decide +kernel)
theorem bs_X11_can_h_149 {P : Zt → Option Zv → Prop} (K : Int → Zl → List Zv → Zt → Prop) : sx_ K P [.goto 158] 152 = x_goto 158 K := (xe_goto 158)
theorem bk_X11_can_h_0 : ck_ fX11 (some .int) cX11_can 0 [.iload 1, .aload 0, .tableswitch 0 11 6 #[]] 5 = true := qck_r (nn_ _) (by decide +kernel)
theorem bs_X11_can_h_0 {P : Zt → Option Zv → Prop} (K : Int → Zl → List Zv → Zt → Prop) : sx_ K P [.iload 1, .aload 0, .tableswitch 0 11 6 #[]] 5 = x_iload 1 (x_aload 0 (x_g0 111 6 0 4 (K 5))) := ((xe_iload 1).trans (congrArg (x_iload 1) ((xe_aload 0).trans (congrArg (x_aload 0) ((xe_g0 (kk := 111) rfl tl_11_6).trans (congrArg (x_g0 111 6 0 4) xe_nil))))))
theorem bk_X11_can_h_8 : ck_ fX11 (some .int) cX11_can 8 [.ifCond .eq 22, .iload 2, .aload 0, .tableswitch 0 11 12 #[]] 16 = true := qck_r (nn_ _) (by decide +kernel)
theorem bs_X11_can_h_8 {P : Zt → Option Zv → Prop} (K : Int → Zl → List Zv → Zt → Prop) : sx_ K P [.ifCond .eq 22, .iload 2, .aload 0, .tableswitch 0 11 12 #[]] 16 = x_ifCond .eq 22 K (x_iload 2 (x_aload 0 (x_g0 111 12 0 12 (K 16)))) := ((xe_ifCond .eq 22).trans (congrArg (x_ifCond .eq 22 K) ((xe_iload 2).trans (congrArg (x_iload 2) ((xe_aload 0).trans (congrArg (x_aload 0) ((xe_g0 (kk := 111) rfl tl_11_12).trans (congrArg (x_g0 111 12 0 12) xe_nil))))))))
theorem bk_X11_can_h_22 : ck_ fX11 (some .int) cX11_can 22 [.iconst (-2), .ireturn] 25 = true := qck_r (nn_ _) (by decide +kernel)
theorem bs_X11_can_h_22 {P : Zt → Option Zv → Prop} (K : Int → Zl → List Zv → Zt → Prop) : sx_ K P [.iconst (-2), .ireturn] 25 = x_iconst (-2) (x_ireturn P) := ((xe_iconst (-2)).trans (congrArg (x_iconst (-2)) (xe_ireturn)))
theorem bk_X11_can_h_19 : ck_ fX11 (some .int) cX11_can 19 [.ifCond .ne 25, .iconst (-2), .ireturn] 25 = true := qck_r (nn_ _) (by decide +kernel)
theorem bs_X11_can_h_19 {P : Zt → Option Zv → Prop} (K : Int → Zl → List Zv → Zt → Prop) : sx_ K P [.ifCond .ne 25, .iconst (-2), .ireturn] 25 = x_ifCond .ne 25 K (x_iconst (-2) (x_ireturn P)) := ((xe_ifCond .ne 25).trans (congrArg (x_ifCond .ne 25 K) ((xe_iconst (-2)).trans (congrArg (x_iconst (-2)) (xe_ireturn)))))
theorem bk_X11_can_h_25 : ck_ fX11 (some .int) cX11_can 25 [.aload 0, .tableswitch 0 11 9 #[], .iload 1, .baload, .ifCond .eq 43, .aload 0, .iload 1, .iload 2] 37 = true := qck_r (nn_ _) (by decide +kernel)
theorem bs_X11_can_h_25 {P : Zt → Option Zv → Prop} (K : Int → Zl → List Zv → Zt → Prop) : sx_ K P [.aload 0, .tableswitch 0 11 9 #[], .iload 1, .baload, .ifCond .eq 43, .aload 0, .iload 1, .iload 2] 37 = x_aload 0 (x_g1 111 209 (x_iload 1 (x_baload (x_ifCond .eq 43 K (x_aload 0 (x_iload 1 (x_iload 2 (K 37)))))))) := ((xe_aload 0).trans (congrArg (x_aload 0) ((xe_g1 (kk := 111) rfl tl_11_9).trans (congrArg (x_g1 111 209) ((xe_iload 1).trans (congrArg (x_iload 1) ((xe_baload).trans (congrArg (x_baload) ((xe_ifCond .eq 43).trans (congrArg (x_ifCond .eq 43 K) ((xe_aload 0).trans (congrArg (x_aload 0) ((xe_iload 1).trans (congrArg (x_iload 1) ((xe_iload 2).trans (congrArg (x_iload 2) xe_nil))))))))))))))))
theorem bk_X11_can_h_43 : ck_ fX11 (some .int) cX11_can 43 [.iconst (-4), .ireturn] 46 = true := qck_r (nn_ _) (by decide +kernel)
theorem bs_X11_can_h_43 {P : Zt → Option Zv → Prop} (K : Int → Zl → List Zv → Zt → Prop) : sx_ K P [.iconst (-4), .ireturn] 46 = x_iconst (-4) (x_ireturn P) := ((xe_iconst (-4)).trans (congrArg (x_iconst (-4)) (xe_ireturn)))
theorem bk_X11_can_h_40 : ck_ fX11 (some .int) cX11_can 40 [.ifCond .ne 46, .iconst (-4), .ireturn] 46 = true := qck_r (nn_ _) (by decide +kernel)
theorem bs_X11_can_h_40 {P : Zt → Option Zv → Prop} (K : Int → Zl → List Zv → Zt → Prop) : sx_ K P [.ifCond .ne 46, .iconst (-4), .ireturn] 46 = x_ifCond .ne 46 K (x_iconst (-4) (x_ireturn P)) := ((xe_ifCond .ne 46).trans (congrArg (x_ifCond .ne 46 K) ((xe_iconst (-4)).trans (congrArg (x_iconst (-4)) (xe_ireturn)))))
theorem bk_X11_can_h_46 : ck_ fX11 (some .int) cX11_can 46 [.iconst 0, .istore 3] 48 = true := qck_r (nn_ _) (by decide +kernel)
theorem bs_X11_can_h_46 {P : Zt → Option Zv → Prop} (K : Int → Zl → List Zv → Zt → Prop) : sx_ K P [.iconst 0, .istore 3] 48 = x_iconst 0 (x_istore 3 (K 48)) := ((xe_iconst 0).trans (congrArg (x_iconst 0) ((xe_istore 3).trans (congrArg (x_istore 3) xe_nil))))
abbrev po_X11_can_h (T : Zt) (c cl : Int) : Zt → Option Zv → Prop := fun T' r => ∃ x : Int, r = some (vI x) ∧ fr_ [(276, []), (291, []), (292, []), (293, []), (294, []), (296, []), (289, []), (297, []), (111, [80, 82, 83, 90, 95, 88])] T T' ∧ (T' 111 0 80 = 0 ∧ ((x = -2 ∧ ¬ ((0 ≤ c ∧ c < T 111 0 6) ∧ (0 ≤ cl ∧ cl < T 111 0 12)) ∧ T = T') ∨ (((0 ≤ c ∧ c < T 111 0 6) ∧ (0 ≤ cl ∧ cl < T 111 0 12)) ∧ ((x = -4 ∧ ¬ (T 209 0 c ≠ 0 ∧ HE_ T c cl) ∧ T = T') ∨ ((T 209 0 c ≠ 0 ∧ HE_ T c cl) ∧ CN7_ T T' c cl x)))))
set_option maxHeartbeats 4000000 in
theorem ct_X11_can_h {T : Zt} {c cl : Int} (hri : RI_ T) (hrw : RW_ T) (hml : ML_ T) (hsc : SC_ T) (hyb : YB_ T) (hsu : T 111 0 80 = 0) (hna : 0 ≤ c → c < T 111 0 6 → ∀ j, T 210 0 c ≤ j → j < T 210 0 c + T 211 0 c → T 232 0 j ≠ T 233 0 j) (hen : ∀ c i, 0 ≤ c → c < 4 → 0 ≤ i → i < T 208 0 c → 0 ≤ T 207 0 (12 * c + i) ∧ T 207 0 (12 * c + i) < 12) : Ct_ yX11_can zX11_can T [vR 111 0, vI c, vI cl] (po_X11_can_h T c cl) := by
  refine ct_of pn_11 rfl rfl (Nat.le_of_ble_eq_true rfl) (fun hT hav => ?_)
  have hr_c : -2147483648 ≤ c ∧ c ≤ 2147483647 := hav (vI c) (List.mem_cons_of_mem _ List.mem_cons_self)
  have hr_cl : -2147483648 ≤ cl ∧ cl ≤ 2147483647 := hav (vI cl) (List.mem_cons_of_mem _ (List.mem_cons_of_mem _ List.mem_cons_self))
  have hz : zX11_can.2.2.2.1 = some .boolean → ∀ (T' : Zt) (x : Int), po_X11_can_h T c cl T' (some (vI x)) → 0 ≤ x ∧ x ≤ 1 := fun h => by cases h
  have hb_6 : 0 ≤ T 111 0 6 ∧ T 111 0 6 ≤ 4 := bd_f hT 111 6 tl_11_6 0
  have hb_12 : 0 ≤ T 111 0 12 ∧ T 111 0 12 ≤ 12 := bd_f hT 111 12 tl_11_12 0
  have hb_29 : 0 ≤ T 111 0 29 ∧ T 111 0 29 ≤ 400 := bd_f hT 111 29 tl_11_29 0
  show J_ zX11_can T (po_X11_can_h T c cl) 0 0 0 [some (vR 111 0), some (vI c), some (vI cl), none, none] [] T
  have c_48 : ∀ (nn : Nat) (i : Int) (T1 : Zt), ((400 - i).toNat) ≤ nn → (fr_ [(289, [])] T T1) → (0 ≤ i ∧ i ≤ 400 ∧ 0 ≤ c ∧ c < T 111 0 6 ∧ 0 ≤ cl ∧ cl < T 111 0 12) → (T 209 0 c ≠ 0 ∧ HE_ T c cl) → (∀ y, 0 ≤ y → y < i → T1 289 0 y = -1) → J_ zX11_can T (po_X11_can_h T c cl) 0 0 48 [some (vR 111 0), some (vI c), some (vI cl), some (vI i), none] [] T1 := by
    intro nn
    induction nn using Nat.strongRecOn with
    | _ nn ih_48 =>
      intro i T1 hm_48 hf_48 i1 ok9 wi1
      replace hm_48 := fun (_ : Unit) => hm_48
      have hr1 : (0 : Int) ≤ T 205 0 (23 * c + 1) ∧ T 205 0 (23 * c + 1) ≤ (9 : Int) := hri c 1 (by omega) (by omega) (by omega) (by omega)
      have hr2 : (0 : Int) ≤ T 205 0 (23 * c + 2) ∧ T 205 0 (23 * c + 2) ≤ (9 : Int) := hri c 2 (by omega) (by omega) (by omega) (by omega)
      have hr3 : (0 : Int) ≤ T 205 0 (23 * c + 3) ∧ T 205 0 (23 * c + 3) ≤ (9 : Int) := hri c 3 (by omega) (by omega) (by omega) (by omega)
      refine j_blx (F := fX11) tb_X11 (nn_ _) bk_X11_can_h_48 bs_X11_can_h_48 hz (fun K hK => ?_)
      intro b1 b1b
      have e2 : T1 111 0 29 = T 111 0 29 := hf_48 111 0 29 rfl
      rw [e2] at b1 b1b ⊢
      refine And.intro (fun c3 => ?_) (fun c3 => ?_)
      · refine hK 69 _ [] T1 ?_
        refine j_blx (F := fX11) tb_X11 (nn_ _) bk_X11_can_h_69 bs_X11_can_h_69 hz (fun K hK => ?_)
        refine bd_i (by omega) ?_
        refine x_nm (fun U4 hU4 => ?_)
        have e5 := up_f hU4
        refine hK 76 _ [vI c, vR 111 0] U4 ?_
        refine j_callV (y := yX11_countLeft) (Yc := zX11_countLeft) (rest := []) [vI c] (ct_X11_countLeft_h (T := U4) (by omega) (ML__f (ws := [(111, [90]), (289, [])]) hml (fr_u (fr_t (fr_0 _ _) (fr_s hf_48 rfl)) hU4 rfl) ⟨fun _ => rfl, fun _ => rfl, rfl, trivial⟩) (SC__f (ws := [(111, [90]), (289, [])]) hsc (fr_u (fr_t (fr_0 _ _) (fr_s hf_48 rfl)) hU4 rfl) ⟨fun _ => rfl, fun _ => rfl, trivial⟩) (YB__f (ws := [(111, [90]), (289, [])]) hyb (fr_u (fr_t (fr_0 _ _) (fr_s hf_48 rfl)) hU4 rfl) ⟨fun _ => rfl, trivial⟩) (by rw [show U4 111 0 80 = T 111 0 80 from (up_j hU4 (by decide) 111 0).trans (hf_48 111 0 80 rfl)]; exact hsu)) cl_X11_564 (qd_c (by decide +kernel)) (nn_ _) rfl (rf_of rfl) (Nat.le_of_ble_eq_true rfl) (Nat.le_of_ble_eq_true rfl) (Nat.le_of_ble_eq_true rfl) rfl ?_
        rintro U6 _ ⟨rfl, fU6, qa, qb, qc, qd, qs⟩
        have fP : fr_ [(289, []), (111, [90])] T U4 := fr_u (fr_t (fr_0 _ _) (fr_s hf_48 rfl)) hU4 rfl
        have qa : ∀ v, 0 ≤ v → v < 12 → U6 291 0 v = pr7_ T c v := fun v a b => (qa v a b).trans (pr7_f fP)
        have qb : ∀ v, 0 ≤ v → v < 12 → U6 292 0 v = lf7_ T c v (T 211 0 c).toNat := fun v a b => (qb v a b).trans (by rw [fP 211 0 c rfl]; exact lf7_f fP _)
        show J_ zX11_can T (po_X11_can_h T c cl) 0 0 79 _ [] U6
        refine j_blx (F := fX11) tb_X11 (nn_ _) bk_X11_can_h_79 bs_X11_can_h_79 hz (fun K hK => ?_)
        refine ix_i (by omega) ?_
        intro b7 b7b
        refine hK 89 _ [vI 1, vI c, vR 111 0, vI (U6 291 0 cl), vR 111 0] U6 ?_
        refine j_callV (y := yX11_rule0) (Yc := zX11_rule0) (rest := [vI (U6 291 0 cl), vR 111 0]) [vI c, vI 1] (ct_X11_rule0 (T := U6) (by omega) (by omega)) cl_X11_321 (qd_c (by decide +kernel)) (nn_ _) rfl (rf_of rfl) (Nat.le_of_ble_eq_true rfl) (Nat.le_of_ble_eq_true rfl) (Nat.le_of_ble_eq_true rfl) rfl ?_
        rintro _ _ ⟨rfl, rfl⟩
        have e8 : U6 205 0 (23 * c + 1) = T 205 0 (23 * c + 1) := (fU6 205 0 (23 * c + 1) rfl).trans ((up_k hU4 (by exact Nat.ne_of_beq_eq_false rfl) 0 (23 * c + 1)).trans (hf_48 205 0 (23 * c + 1) rfl))
        show J_ zX11_can T (po_X11_can_h T c cl) 0 0 92 _ [vI (U6 205 0 (23 * c + 1)), vI (U6 291 0 cl), vR 111 0] U6
        refine j_blx (F := fX11) tb_X11 (nn_ _) bk_X11_can_h_92 bs_X11_can_h_92 hz (fun K hK => ?_)
        refine ix_i (by omega) ?_
        intro b9 b9b
        have hlk := qc cl (by omega) (by omega)
        have hpk := qd cl (by omega) (by omega)
        have hmb := mul_b (x := U6 205 0 (23 * c + 1)) (y := U6 292 0 cl) (by omega) (by omega)
        refine rg_i (by omega) ?_
        refine rg_i (by omega) ?_
        refine bd_i (by omega) ?_
        refine x_nm (fun U10 hU10 => ?_)
        have e11 := up_f hU10
        refine hK 106 _ [vI 1, vI c, vR 111 0] U10 ?_
        refine j_callV (y := yX11_rule0) (Yc := zX11_rule0) (rest := []) [vI c, vI 1] (ct_X11_rule0 (T := U10) (by omega) (by omega)) cl_X11_321 (qd_c (by decide +kernel)) (nn_ _) rfl (rf_of rfl) (Nat.le_of_ble_eq_true rfl) (Nat.le_of_ble_eq_true rfl) (Nat.le_of_ble_eq_true rfl) rfl ?_
        rintro _ _ ⟨rfl, rfl⟩
        have e12 : U10 205 0 (23 * c + 1) = T 205 0 (23 * c + 1) := (up_k hU10 (by exact Nat.ne_of_beq_eq_false rfl) 0 (23 * c + 1)).trans ((fU6 205 0 (23 * c + 1) rfl).trans ((up_k hU4 (by exact Nat.ne_of_beq_eq_false rfl) 0 (23 * c + 1)).trans (hf_48 205 0 (23 * c + 1) rfl)))
        show J_ zX11_can T (po_X11_can_h T c cl) 0 0 109 _ [vI (U10 205 0 (23 * c + 1))] U10
        have be9 : U10 111 0 95 = pr7_ T c cl + T 205 0 (23 * c + 1) * lf7_ T c cl (T 211 0 c).toNat := by
          rw [← qa cl (by omega) (by omega), ← qb cl (by omega) (by omega), show U10 111 0 95 = (U6 291 0 cl) + ((U6 205 0 (23 * c + 1)) * (U6 292 0 cl)) from up_f hU10]
          first
          | rfl
          | (congr 1; congr 1; all_goals omega)
        have cb9 : U10 111 0 90 = 0 := ((up_j hU10 (by decide) 111 0).trans (fU6 111 0 90 rfl)).trans (up_f hU4)
        refine j_blx (F := fX11) tb_X11 (nn_ _) bk_X11_can_h_109 bs_X11_can_h_109 hz (fun K hK => ?_)
        refine hK 112 _ [vI 3, vI c, vR 111 0, vI (U10 205 0 (23 * c + 1))] U10 ?_
        refine j_callV (y := yX11_rule0) (Yc := zX11_rule0) (rest := [vI (U10 205 0 (23 * c + 1))]) [vI c, vI 3] (ct_X11_rule0 (T := U10) (by omega) (by omega)) cl_X11_321 (qd_c (by decide +kernel)) (nn_ _) rfl (rf_of rfl) (Nat.le_of_ble_eq_true rfl) (Nat.le_of_ble_eq_true rfl) (Nat.le_of_ble_eq_true rfl) rfl ?_
        rintro _ _ ⟨rfl, rfl⟩
        have e13 : U10 205 0 (23 * c + 3) = T 205 0 (23 * c + 3) := (up_k hU10 (by exact Nat.ne_of_beq_eq_false rfl) 0 (23 * c + 3)).trans ((fU6 205 0 (23 * c + 3) rfl).trans ((up_k hU4 (by exact Nat.ne_of_beq_eq_false rfl) 0 (23 * c + 3)).trans (hf_48 205 0 (23 * c + 3) rfl)))
        show J_ zX11_can T (po_X11_can_h T c cl) 0 0 115 _ [vI (U10 205 0 (23 * c + 3)), vI (U10 205 0 (23 * c + 1))] U10
        refine j_blx (F := fX11) tb_X11 (nn_ _) bk_X11_can_h_115 bs_X11_can_h_115 hz (fun K hK => ?_)
        refine rg_i (by omega) ?_
        refine hK 120 _ [vI 2, vI c, vR 111 0, vI 2, vI ((U10 205 0 (23 * c + 1)) + (U10 205 0 (23 * c + 3)))] U10 ?_
        refine j_callV (y := yX11_rule0) (Yc := zX11_rule0) (rest := [vI 2, vI ((U10 205 0 (23 * c + 1)) + (U10 205 0 (23 * c + 3)))]) [vI c, vI 2] (ct_X11_rule0 (T := U10) (by omega) (by omega)) cl_X11_321 (qd_c (by decide +kernel)) (nn_ _) rfl (rf_of rfl) (Nat.le_of_ble_eq_true rfl) (Nat.le_of_ble_eq_true rfl) (Nat.le_of_ble_eq_true rfl) rfl ?_
        rintro _ _ ⟨rfl, rfl⟩
        have e14 : U10 205 0 (23 * c + 2) = T 205 0 (23 * c + 2) := (up_k hU10 (by exact Nat.ne_of_beq_eq_false rfl) 0 (23 * c + 2)).trans ((fU6 205 0 (23 * c + 2) rfl).trans ((up_k hU4 (by exact Nat.ne_of_beq_eq_false rfl) 0 (23 * c + 2)).trans (hf_48 205 0 (23 * c + 2) rfl)))
        show J_ zX11_can T (po_X11_can_h T c cl) 0 0 123 _ [vI (U10 205 0 (23 * c + 2)), vI 2, vI ((U10 205 0 (23 * c + 1)) + (U10 205 0 (23 * c + 3)))] U10
        refine j_blx (F := fX11) tb_X11 (nn_ _) bk_X11_can_h_123 bs_X11_can_h_123 hz (fun K hK => ?_)
        refine rg_i (by omega) ?_
        refine And.intro (fun c15 => ?_) (fun c15 => ?_)
        · refine hK 131 _ [] U10 ?_
          refine j_blx (F := fX11) tb_X11 (nn_ _) bk_X11_can_h_131 bs_X11_can_h_131 hz (fun K hK => ?_)
          refine And.intro (fun c16 => ?_) (fun c16 => ?_)
          · refine hK 152 [some (vR 111 0), some (vI c), some (vI cl), some (vI 0), none] [] U10 ?_
            refine j_blx (F := fX11) tb_X11 (nn_ _) bk_X11_can_h_152 bs_X11_can_h_152 hz (fun K hK => ?_)
            refine hK 155 _ [vI cl, vI c, vR 111 0] U10 ?_
            refine j_callV (y := yX11_canTry) (Yc := zX11_canTry) (rest := []) [vI c, vI cl] (ct_X11_canTry_e (T := U10) (by omega) (ML__f (ws := [(111, [95, 80, 82, 83, 90]), (276, []), (291, []), (292, []), (289, [])]) hml (fr_u (fr_t (fr_u (fr_t (fr_0 _ _) (fr_s hf_48 rfl)) hU4 rfl) (fr_s fU6 rfl)) hU10 rfl) ⟨fun _ => rfl, fun _ => rfl, rfl, trivial⟩) (fun w a => by show 0 ≤ U10 205 0 (23 * c + w) ∧ U10 205 0 (23 * c + w) ≤ 1000; rw [(up_k hU10 (by exact Nat.ne_of_beq_eq_false rfl) 0 (23 * c + w)).trans ((fU6 205 0 (23 * c + w) rfl).trans ((up_k hU4 (by exact Nat.ne_of_beq_eq_false rfl) 0 (23 * c + w)).trans (hf_48 205 0 (23 * c + w) rfl)))]; rcases (by omega : w = 1 ∨ w = 2 ∨ w = 3) with z | z | z <;> rw [z] <;> omega) (fun v a b => by have y := (PB6__f (ws := [(111, [95])]) qd (fr_u (fr_0 _ _) hU10 rfl) ⟨fun _ => rfl, trivial⟩) v a b; omega) (by omega) (by rw [(up_k hU10 (by exact Nat.ne_of_beq_eq_false rfl) 0 c).trans ((fU6 208 0 c rfl).trans ((up_k hU4 (by exact Nat.ne_of_beq_eq_false rfl) 0 c).trans (hf_48 208 0 c rfl)))]; exact fun i a b => by rw [(up_k hU10 (by exact Nat.ne_of_beq_eq_false rfl) 0 (12 * c + i)).trans ((fU6 207 0 (12 * c + i) rfl).trans ((up_k hU4 (by exact Nat.ne_of_beq_eq_false rfl) 0 (12 * c + i)).trans (hf_48 207 0 (12 * c + i) rfl)))]; exact hen c i (by omega) (by omega) a b)) cl_X11_573 (qd_c (by decide +kernel)) (nn_ _) rfl (rf_of rfl) (Nat.le_of_ble_eq_true rfl) (Nat.le_of_ble_eq_true rfl) (Nat.le_of_ble_eq_true rfl) rfl ?_
            rintro U17 _ ⟨x18, rfl, fU17, qU17⟩
            show J_ zX11_can T (po_X11_can_h T c cl) 0 0 158 _ [vI x18] U17
            refine j_blx (F := fX11) tb_X11 (nn_ _) bk_X11_can_h_158 bs_X11_can_h_158 hz (fun K hK => ?_)
            refine And.intro (fun c19 => ?_) (fun c19 => ?_)
            · refine hK 171 [some (vR 111 0), some (vI c), some (vI cl), some (vI 0), some (vI x18)] [vR 111 0] U17 ?_
              refine j_blx (F := fX11) tb_X11 (nn_ _) bk_X11_can_h_171 bs_X11_can_h_171 hz (fun K hK => ?_)
              refine bd_i (by omega) ?_
              refine x_nm (fun U20 hU20 => ?_)
              have e21 := up_f hU20
              refine (show po_X11_can_h T c cl U20 (some (vI x18)) from ?_)
              have e22 : U20 111 0 80 = U6 111 0 80 := (up_j hU20 (by decide) 111 0).trans ((fU17 111 0 80 rfl).trans (up_j hU10 (by decide) 111 0))
              have mi : MI7_ T U10 c cl := ⟨fr_u (fr_t (fr_u (fr_t (fr_0 _ _) (fr_s hf_48 rfl)) hU4 rfl) (fr_s fU6 rfl)) hU10 rfl, fun v a b => (up_k hU10 (by exact Nat.ne_of_beq_eq_false rfl) 0 v).trans (qa v a b), fun v a b => (up_k hU10 (by exact Nat.ne_of_beq_eq_false rfl) 0 v).trans (qb v a b), be9, cb9, fun y a b => ((up_k hU10 (by exact Nat.ne_of_beq_eq_false rfl) 0 y).trans ((fU6 289 0 y rfl).trans (up_k hU4 (by exact Nat.ne_of_beq_eq_false rfl) 0 y))).trans (wi1 y a (by omega))⟩
              have w9 : U20 111 0 88 = cz_ (x18 = 1) c (-1) := by
                first
                | (rw [cz_t (by omega)]; exact up_f hU20)
                | (rw [cz_f (by omega)]; exact up_f hU20)
              exact ⟨_, rfl, fr_u (fr_t (fr_u (fr_t (fr_u (fr_t (fr_0 _ _) (fr_s hf_48 rfl)) hU4 rfl) (fr_s fU6 rfl)) hU10 rfl) (fr_s fU17 rfl)) hU20 rfl, ((up_j hU20 (by decide) 111 0).trans ((fU17 111 0 80 rfl).trans (up_j hU10 (by decide) 111 0))).trans qs, Or.inr ⟨⟨by omega, by omega⟩, Or.inr ⟨ok9, U10, U17, mi, Or.inr ⟨by omega, qU17, fU17 111 0 90 rfl⟩, (fun y => up_k hU20 (by exact Nat.ne_of_beq_eq_false rfl) 0 y), up_g hU20 (fun q => by omega), w9⟩⟩⟩
            · refine hK 172 _ [vI c, vR 111 0] U17 ?_
              refine j_blx (F := fX11) tb_X11 (nn_ _) bk_X11_can_h_172 bs_X11_can_h_172 hz (fun K hK => ?_)
              refine bd_i (by omega) ?_
              refine x_nm (fun U23 hU23 => ?_)
              have e24 := up_f hU23
              refine (show po_X11_can_h T c cl U23 (some (vI x18)) from ?_)
              have e25 : U23 111 0 80 = U6 111 0 80 := (up_j hU23 (by decide) 111 0).trans ((fU17 111 0 80 rfl).trans (up_j hU10 (by decide) 111 0))
              have mi : MI7_ T U10 c cl := ⟨fr_u (fr_t (fr_u (fr_t (fr_0 _ _) (fr_s hf_48 rfl)) hU4 rfl) (fr_s fU6 rfl)) hU10 rfl, fun v a b => (up_k hU10 (by exact Nat.ne_of_beq_eq_false rfl) 0 v).trans (qa v a b), fun v a b => (up_k hU10 (by exact Nat.ne_of_beq_eq_false rfl) 0 v).trans (qb v a b), be9, cb9, fun y a b => ((up_k hU10 (by exact Nat.ne_of_beq_eq_false rfl) 0 y).trans ((fU6 289 0 y rfl).trans (up_k hU4 (by exact Nat.ne_of_beq_eq_false rfl) 0 y))).trans (wi1 y a (by omega))⟩
              have w9 : U23 111 0 88 = cz_ (x18 = 1) c (-1) := by
                first
                | (rw [cz_t (by omega)]; exact up_f hU23)
                | (rw [cz_f (by omega)]; exact up_f hU23)
              exact ⟨_, rfl, fr_u (fr_t (fr_u (fr_t (fr_u (fr_t (fr_0 _ _) (fr_s hf_48 rfl)) hU4 rfl) (fr_s fU6 rfl)) hU10 rfl) (fr_s fU17 rfl)) hU23 rfl, ((up_j hU23 (by decide) 111 0).trans ((fU17 111 0 80 rfl).trans (up_j hU10 (by decide) 111 0))).trans qs, Or.inr ⟨⟨by omega, by omega⟩, Or.inr ⟨ok9, U10, U17, mi, Or.inr ⟨by omega, qU17, fU17 111 0 90 rfl⟩, (fun y => up_k hU23 (by exact Nat.ne_of_beq_eq_false rfl) 0 y), up_g hU23 (fun q => by omega), w9⟩⟩⟩
          · exact absurd c16 (by decide)
        · refine hK 132 _ [vI 1] U10 ?_
          refine j_blx (F := fX11) tb_X11 (nn_ _) bk_X11_can_h_132 bs_X11_can_h_132 hz (fun K hK => ?_)
          refine And.intro (fun c26 => ?_) (fun c26 => ?_)
          · exact absurd c26 (by decide)
          · refine hK 143 [some (vR 111 0), some (vI c), some (vI cl), some (vI 1), none] [vI cl, vI c, vR 111 0, vI cl, vI c, vR 111 0] U10 ?_
            refine j_callV (y := yX11_othersOf) (Yc := zX11_othersOf) (rest := [vI cl, vI c, vR 111 0]) [vI c, vI cl] (ct_X11_othersOf_h (T := U10) (by omega)) cl_X11_567 (qd_c (by decide +kernel)) (nn_ _) rfl (rf_of rfl) (Nat.le_of_ble_eq_true rfl) (Nat.le_of_ble_eq_true rfl) (Nat.le_of_ble_eq_true rfl) rfl ?_
            rintro _ _ ⟨rfl, x27, rfl, hx27b, hx27o⟩
            show J_ zX11_can T (po_X11_can_h T c cl) 0 0 146 _ [vI x27, vI cl, vI c, vR 111 0] U10
            have ob9 : OB7_ T c cl (T 208 0 c) x27 := by
              have y := hx27o
              unfold OB7_ at y ⊢
              simp only [show ∀ j, U10 207 0 j = T 207 0 j from fun j => (up_k hU10 (by exact Nat.ne_of_beq_eq_false rfl) 0 j).trans ((fU6 207 0 j rfl).trans ((up_k hU4 (by exact Nat.ne_of_beq_eq_false rfl) 0 j).trans (hf_48 207 0 j rfl)))] at y
              rw [(up_k hU10 (by exact Nat.ne_of_beq_eq_false rfl) 0 c).trans ((fU6 208 0 c rfl).trans ((up_k hU4 (by exact Nat.ne_of_beq_eq_false rfl) 0 c).trans (hf_48 208 0 c rfl)))] at y
              exact y
            have e28 : U10 210 0 c = T 210 0 c := (up_k hU10 (by exact Nat.ne_of_beq_eq_false rfl) 0 c).trans ((fU6 210 0 c rfl).trans ((up_k hU4 (by exact Nat.ne_of_beq_eq_false rfl) 0 c).trans (hf_48 210 0 c rfl)))
            have e29 : U10 211 0 c = T 211 0 c := (up_k hU10 (by exact Nat.ne_of_beq_eq_false rfl) 0 c).trans ((fU6 211 0 c rfl).trans ((up_k hU4 (by exact Nat.ne_of_beq_eq_false rfl) 0 c).trans (hf_48 211 0 c rfl)))
            have e30 : U10 111 0 6 = T 111 0 6 := (up_j hU10 (by decide) 111 0).trans ((fU6 111 0 6 rfl).trans ((up_j hU4 (by decide) 111 0).trans (hf_48 111 0 6 rfl)))
            refine j_callV (y := yX11_canEven) (Yc := zX11_canEven) (rest := []) [vI c, vI cl, vI x27] (ct_X11_canEven_e (T := U10) (by omega) (RI__f (ws := [(111, [95, 80, 82, 83, 90]), (276, []), (291, []), (292, []), (289, [])]) hri (fr_u (fr_t (fr_u (fr_t (fr_0 _ _) (fr_s hf_48 rfl)) hU4 rfl) (fr_s fU6 rfl)) hU10 rfl) ⟨fun _ => rfl, rfl, trivial⟩) (RW__f (ws := [(111, [95, 80, 82, 83, 90]), (276, []), (291, []), (292, []), (289, [])]) hrw (fr_u (fr_t (fr_u (fr_t (fr_0 _ _) (fr_s hf_48 rfl)) hU4 rfl) (fr_s fU6 rfl)) hU10 rfl) ⟨fun _ => rfl, rfl, trivial⟩) (ML__f (ws := [(111, [95, 80, 82, 83, 90]), (276, []), (291, []), (292, []), (289, [])]) hml (fr_u (fr_t (fr_u (fr_t (fr_0 _ _) (fr_s hf_48 rfl)) hU4 rfl) (fr_s fU6 rfl)) hU10 rfl) ⟨fun _ => rfl, fun _ => rfl, rfl, trivial⟩) (by omega) (PB6__f (ws := [(111, [95])]) qd (fr_u (fr_0 _ _) hU10 rfl) ⟨fun _ => rfl, trivial⟩) (fun k a b => by rw [up_k hU10 (by exact Nat.ne_of_beq_eq_false rfl) 0 k]; exact qc k a b) (by omega) (by rw [(up_k hU10 (by exact Nat.ne_of_beq_eq_false rfl) 0 c).trans ((fU6 210 0 c rfl).trans ((up_k hU4 (by exact Nat.ne_of_beq_eq_false rfl) 0 c).trans (hf_48 210 0 c rfl))), (up_k hU10 (by exact Nat.ne_of_beq_eq_false rfl) 0 c).trans ((fU6 211 0 c rfl).trans ((up_k hU4 (by exact Nat.ne_of_beq_eq_false rfl) 0 c).trans (hf_48 211 0 c rfl)))]; exact fun j a b => by rw [(up_k hU10 (by exact Nat.ne_of_beq_eq_false rfl) 0 j).trans ((fU6 232 0 j rfl).trans ((up_k hU4 (by exact Nat.ne_of_beq_eq_false rfl) 0 j).trans (hf_48 232 0 j rfl))), (up_k hU10 (by exact Nat.ne_of_beq_eq_false rfl) 0 j).trans ((fU6 233 0 j rfl).trans ((up_k hU4 (by exact Nat.ne_of_beq_eq_false rfl) 0 j).trans (hf_48 233 0 j rfl)))]; exact hna (by omega) (by omega) j a b)) cl_X11_570 (qd_c (by decide +kernel)) (nn_ _) rfl (rf_of rfl) (Nat.le_of_ble_eq_true rfl) (Nat.le_of_ble_eq_true rfl) (Nat.le_of_ble_eq_true rfl) rfl ?_
            rintro U31 _ ⟨x32, rfl, fU31, bU31, qU31⟩
            show J_ zX11_can T (po_X11_can_h T c cl) 0 0 149 _ [vI x32] U31
            refine j_blx (F := fX11) tb_X11 (nn_ _) bk_X11_can_h_149 bs_X11_can_h_149 hz (fun K hK => ?_)
            refine hK 158 _ [vI x32] U31 ?_
            refine j_blx (F := fX11) tb_X11 (nn_ _) bk_X11_can_h_158 bs_X11_can_h_158 hz (fun K hK => ?_)
            refine And.intro (fun c33 => ?_) (fun c33 => ?_)
            · refine hK 171 [some (vR 111 0), some (vI c), some (vI cl), some (vI 1), some (vI x32)] [vR 111 0] U31 ?_
              refine j_blx (F := fX11) tb_X11 (nn_ _) bk_X11_can_h_171 bs_X11_can_h_171 hz (fun K hK => ?_)
              refine bd_i (by omega) ?_
              refine x_nm (fun U34 hU34 => ?_)
              have e35 := up_f hU34
              refine (show po_X11_can_h T c cl U34 (some (vI x32)) from ?_)
              have e36 : U34 111 0 80 = U6 111 0 80 := (up_j hU34 (by decide) 111 0).trans ((fU31 111 0 80 rfl).trans (up_j hU10 (by decide) 111 0))
              have mi : MI7_ T U10 c cl := ⟨fr_u (fr_t (fr_u (fr_t (fr_0 _ _) (fr_s hf_48 rfl)) hU4 rfl) (fr_s fU6 rfl)) hU10 rfl, fun v a b => (up_k hU10 (by exact Nat.ne_of_beq_eq_false rfl) 0 v).trans (qa v a b), fun v a b => (up_k hU10 (by exact Nat.ne_of_beq_eq_false rfl) 0 v).trans (qb v a b), be9, cb9, fun y a b => ((up_k hU10 (by exact Nat.ne_of_beq_eq_false rfl) 0 y).trans ((fU6 289 0 y rfl).trans (up_k hU4 (by exact Nat.ne_of_beq_eq_false rfl) 0 y))).trans (wi1 y a (by omega))⟩
              have w9 : U34 111 0 88 = cz_ (x32 = 1) c (-1) := by
                first
                | (rw [cz_t (by omega)]; exact up_f hU34)
                | (rw [cz_f (by omega)]; exact up_f hU34)
              exact ⟨_, rfl, fr_u (fr_t (fr_u (fr_t (fr_u (fr_t (fr_0 _ _) (fr_s hf_48 rfl)) hU4 rfl) (fr_s fU6 rfl)) hU10 rfl) (fr_s fU31 rfl)) hU34 rfl, ((up_j hU34 (by decide) 111 0).trans ((fU31 111 0 80 rfl).trans (up_j hU10 (by decide) 111 0))).trans qs, Or.inr ⟨⟨by omega, by omega⟩, Or.inr ⟨ok9, U10, U31, mi, Or.inl ⟨by omega, x27, ⟨hx27b, ob9⟩, qU31⟩, (fun y => up_k hU34 (by exact Nat.ne_of_beq_eq_false rfl) 0 y), up_g hU34 (fun q => by omega), w9⟩⟩⟩
            · refine hK 172 _ [vI c, vR 111 0] U31 ?_
              refine j_blx (F := fX11) tb_X11 (nn_ _) bk_X11_can_h_172 bs_X11_can_h_172 hz (fun K hK => ?_)
              refine bd_i (by omega) ?_
              refine x_nm (fun U37 hU37 => ?_)
              have e38 := up_f hU37
              refine (show po_X11_can_h T c cl U37 (some (vI x32)) from ?_)
              have e39 : U37 111 0 80 = U6 111 0 80 := (up_j hU37 (by decide) 111 0).trans ((fU31 111 0 80 rfl).trans (up_j hU10 (by decide) 111 0))
              have mi : MI7_ T U10 c cl := ⟨fr_u (fr_t (fr_u (fr_t (fr_0 _ _) (fr_s hf_48 rfl)) hU4 rfl) (fr_s fU6 rfl)) hU10 rfl, fun v a b => (up_k hU10 (by exact Nat.ne_of_beq_eq_false rfl) 0 v).trans (qa v a b), fun v a b => (up_k hU10 (by exact Nat.ne_of_beq_eq_false rfl) 0 v).trans (qb v a b), be9, cb9, fun y a b => ((up_k hU10 (by exact Nat.ne_of_beq_eq_false rfl) 0 y).trans ((fU6 289 0 y rfl).trans (up_k hU4 (by exact Nat.ne_of_beq_eq_false rfl) 0 y))).trans (wi1 y a (by omega))⟩
              have w9 : U37 111 0 88 = cz_ (x32 = 1) c (-1) := by
                first
                | (rw [cz_t (by omega)]; exact up_f hU37)
                | (rw [cz_f (by omega)]; exact up_f hU37)
              exact ⟨_, rfl, fr_u (fr_t (fr_u (fr_t (fr_u (fr_t (fr_0 _ _) (fr_s hf_48 rfl)) hU4 rfl) (fr_s fU6 rfl)) hU10 rfl) (fr_s fU31 rfl)) hU37 rfl, ((up_j hU37 (by decide) 111 0).trans ((fU31 111 0 80 rfl).trans (up_j hU10 (by decide) 111 0))).trans qs, Or.inr ⟨⟨by omega, by omega⟩, Or.inr ⟨ok9, U10, U31, mi, Or.inl ⟨by omega, x27, ⟨hx27b, ob9⟩, qU31⟩, (fun y => up_k hU37 (by exact Nat.ne_of_beq_eq_false rfl) 0 y), up_g hU37 (fun q => by omega), w9⟩⟩⟩
      · refine iy_i (by omega) (by omega) ?_
        refine x_nm (fun U40 hU40 => ?_)
        have e41 := up_f hU40
        refine rg_i (by omega) ?_
        refine hK 48 [some (vR 111 0), some (vI c), some (vI cl), some (vI (i + 1)), none] [] U40 ?_
        refine ih_48 _ ?_ (i + 1) U40 (Nat.le_refl _) ?_ ?_ ?_ ?_
        · have hm_48 := hm_48 (); omega
        · exact fr_u (fr_t (fr_0 _ _) (fr_s hf_48 rfl)) hU40 rfl
        · omega
        · exact ok9
        · intro y a b
          by_cases z : y = i
          · rw [z]; exact up_f hU40
          · rw [up_g hU40 (fun q => z q.2.2)]; exact wi1 y a (by omega)
  refine j_blx (F := fX11) tb_X11 (nn_ _) bk_X11_can_h_0 bs_X11_can_h_0 hz (fun K hK => ?_)
  intro b42 b42b
  refine hK 5 _ [vI (T 111 0 6), vI c] T ?_
  refine j_callS (y := yX11_isOf) (Yc := zX11_isOf) (rest := []) [vI c, vI (T 111 0 6)] (ct_X11_isOf (T := T) (by omega)) cl_X11_317 (qd_c (by decide +kernel)) (nn_ _) rfl (rf_of rfl) (Nat.le_of_ble_eq_true rfl) (Nat.le_of_ble_eq_true rfl) (Nat.le_of_ble_eq_true rfl) rfl ?_
  rintro _ _ ⟨rfl, x43, rfl, hx43⟩
  show J_ zX11_can T (po_X11_can_h T c cl) 0 0 8 _ [vI x43] T
  refine j_blx (F := fX11) tb_X11 (nn_ _) bk_X11_can_h_8 bs_X11_can_h_8 hz (fun K hK => ?_)
  refine And.intro (fun c44 => ?_) (fun c44 => ?_)
  · replace hx43 := hx43.resolve_left (fun z => absurd (c44.symm.trans z.1) (by decide))
    clear c44
    refine hK 22 _ [] T ?_
    refine j_blx (F := fX11) tb_X11 (nn_ _) bk_X11_can_h_22 bs_X11_can_h_22 hz (fun K hK => ?_)
    refine (show po_X11_can_h T c cl T (some (vI (-2))) from ?_)
    exact ⟨_, rfl, fr_0 _ _, hsu, Or.inl ⟨rfl, by omega, rfl⟩⟩
  · replace hx43 := hx43.resolve_right (fun z => c44 z.1)
    clear c44
    intro b45 b45b
    refine hK 16 _ [vI (T 111 0 12), vI cl] T ?_
    refine j_callS (y := yX11_isOf) (Yc := zX11_isOf) (rest := []) [vI cl, vI (T 111 0 12)] (ct_X11_isOf (T := T) (by omega)) cl_X11_317 (qd_c (by decide +kernel)) (nn_ _) rfl (rf_of rfl) (Nat.le_of_ble_eq_true rfl) (Nat.le_of_ble_eq_true rfl) (Nat.le_of_ble_eq_true rfl) rfl ?_
    rintro _ _ ⟨rfl, x46, rfl, hx46⟩
    show J_ zX11_can T (po_X11_can_h T c cl) 0 0 19 _ [vI x46] T
    refine j_blx (F := fX11) tb_X11 (nn_ _) bk_X11_can_h_19 bs_X11_can_h_19 hz (fun K hK => ?_)
    refine And.intro (fun c47 => ?_) (fun c47 => ?_)
    · replace hx46 := hx46.resolve_right (fun z => c47 z.1)
      clear c47
      refine hK 25 _ [] T ?_
      refine j_blx (F := fX11) tb_X11 (nn_ _) bk_X11_can_h_25 bs_X11_can_h_25 hz (fun K hK => ?_)
      refine ix_i (by omega) ?_
      intro b48 b48b
      refine And.intro (fun c49 => ?_) (fun c49 => ?_)
      · refine hK 43 _ [] T ?_
        refine j_blx (F := fX11) tb_X11 (nn_ _) bk_X11_can_h_43 bs_X11_can_h_43 hz (fun K hK => ?_)
        refine (show po_X11_can_h T c cl T (some (vI (-4))) from ?_)
        have no : ¬ (T 209 0 c ≠ 0 ∧ HE_ T c cl) := fun q => by
          first
          | exact absurd q.1 (by omega)
          | exact (hx0.resolve_left (fun z => by have z1 := z.1; omega)).2 q.2
        exact ⟨_, rfl, fr_0 _ _, hsu, Or.inr ⟨⟨by omega, by omega⟩, Or.inl ⟨rfl, no, rfl⟩⟩⟩
      · refine hK 37 _ [vI cl, vI c, vR 111 0] T ?_
        refine j_callV (y := yX11_hasEntered) (Yc := zX11_hasEntered) (rest := []) [vI c, vI cl] (ct_X11_hasEntered (T := T) (by omega)) cl_X11_340 (qd_c (by decide +kernel)) (nn_ _) rfl (rf_of rfl) (Nat.le_of_ble_eq_true rfl) (Nat.le_of_ble_eq_true rfl) (Nat.le_of_ble_eq_true rfl) rfl ?_
        rintro _ _ ⟨rfl, x50, rfl, hx50⟩
        show J_ zX11_can T (po_X11_can_h T c cl) 0 0 40 _ [vI x50] T
        refine j_blx (F := fX11) tb_X11 (nn_ _) bk_X11_can_h_40 bs_X11_can_h_40 hz (fun K hK => ?_)
        refine And.intro (fun c51 => ?_) (fun c51 => ?_)
        · have ok9 : T 209 0 c ≠ 0 ∧ HE_ T c cl := ⟨by omega, (hx50.resolve_right (fun z => by have z1 := z.1; omega)).2⟩
          refine hK 46 _ [] T ?_
          refine j_blx (F := fX11) tb_X11 (nn_ _) bk_X11_can_h_46 bs_X11_can_h_46 hz (fun K hK => ?_)
          refine hK 48 [some (vR 111 0), some (vI c), some (vI cl), some (vI 0), none] [] T ?_
          refine c_48 _ 0 T (Nat.le_refl _) ?_ ?_ ?_ ?_
          · exact fr_0 _ _
          · omega
          · exact ok9
          · intro y a b; omega
        · refine (show po_X11_can_h T c cl T (some (vI (-4))) from ?_)
          have no : ¬ (T 209 0 c ≠ 0 ∧ HE_ T c cl) := fun q => by
            first
            | exact absurd q.1 (by omega)
            | exact (hx50.resolve_left (fun z => by have z1 := z.1; omega)).2 q.2
          exact ⟨_, rfl, fr_0 _ _, hsu, Or.inr ⟨⟨by omega, by omega⟩, Or.inl ⟨rfl, no, rfl⟩⟩⟩
    · replace hx46 := hx46.resolve_left (fun z => absurd (c47.symm.trans z.1) (by decide))
      clear c47
      refine (show po_X11_can_h T c cl T (some (vI (-2))) from ?_)
      exact ⟨_, rfl, fr_0 _ _, hsu, Or.inl ⟨rfl, by omega, rfl⟩⟩
-- who can be first: the own matches of a club give both sides' points the same
/-- both sides have the same matches of a competition, and the same who is left -/
def LM7_ (T : Zt) (c b : Int) : Prop := T 100 c 7 = T 210 0 c ∧ T 100 c 8 = T 211 0 c ∧ (T 401 c 1 = T 205 0 (23 * c + 1) ∧ T 401 c 3 = T 205 0 (23 * c + 3)) ∧ ∀ k, 0 ≤ k → k < T 100 c 8 → (T 102 (T 100 c 7 + k) 3 = T 232 0 (T 210 0 c + k) ∧ T 102 (T 100 c 7 + k) 4 = T 233 0 (T 210 0 c + k)) ∧ T 232 0 (T 210 0 c + k) ≠ T 233 0 (T 210 0 c + k) ∧ (¬ (T 102 (T 100 c 7 + k) 6 ≠ -1 ∨ (T 102 (T 100 c 7 + k) 10 ≠ 0 ∧ T 103 (T 100 c 7 + k) 3 ≠ 0)) ↔ (T 235 0 (T 210 0 c + k) = 0 ∨ T 235 0 (T 210 0 c + k) = 1))
/-- seats of the clubs of its matches -/
def SM7_ (T : Zt) (c : Int) : Prop := ∀ k, 0 ≤ k → k < T 100 c 8 → ∀ x, 0 ≤ x → x < T 100 c 5 → (x = T 404 c (T 102 (T 100 c 7 + k) 3) ↔ T 102 (T 100 c 7 + k) 3 = T 403 c x) ∧ (x = T 404 c (T 102 (T 100 c 7 + k) 4) ↔ T 102 (T 100 c 7 + k) 4 = T 403 c x)
theorem lm7_o {T : Zt} {c b k : Int} (h : LM7_ T c b) (h0 : 0 ≤ k) (h1 : k < T 100 c 8) : (OD7_ T c b k ↔ OE7_ T c b k) ∧ (OM7_ T c b k ↔ ON7_ T c b k) := by
  have g := h.2.2.2 k h0 h1
  unfold OD7_ OE7_ OM7_ ON7_
  rw [g.1.1, g.1.2, g.2.2]
  exact ⟨Iff.rfl, Iff.rfl⟩
theorem oz7_n {T U : Zt} {c t x k : Int} (h : U 584 0 (U 100 c 7 + k) = -1) : ow7_ U c t x k = 0 := cz_t h
theorem oz7_y {T U : Zt} {c t x k : Int} (h : U 584 0 (U 100 c 7 + k) ≠ -1) : ow7_ U c t x k = cz_ (x = U 404 c (U 102 (U 100 c 7 + k) 3)) (cz_ (x = t) (U 401 c 1) (U 401 c 3)) 0 + cz_ (x = U 404 c (U 102 (U 100 c 7 + k) 4)) (cz_ (x = t) (U 401 c 1) (U 401 c 3)) 0 := cz_f h
/-- what the others get of a club's own matches -/
theorem os7_x {T U : Zt} {c b t x : Int} (h : LM7_ T c b) (hs : SM7_ T c) (hb : T 403 c t = b) (ht : 0 ≤ t ∧ t < T 100 c 5) (hx : 0 ≤ x ∧ x < T 100 c 5) (hd : T 403 c x ≠ b) (e0 : U 100 c 7 = T 100 c 7) (e2 : ∀ i j, U 102 i j = T 102 i j) (e4 : ∀ j, U 404 c j = T 404 c j) (e1 : ∀ j, U 401 c j = T 401 c j) (hr : ∀ k, 0 ≤ k → k < T 100 c 8 → (U 584 0 (T 100 c 7 + k) ≠ -1 ↔ OM7_ T c b k)) : ∀ n : Nat, (n : Int) ≤ T 100 c 8 → os7_ U c t x n = ol7_ T c b (T 403 c x) n
  | 0, _ => rfl
  | n + 1, hn => by
    have ih := os7_x h hs hb ht hx hd e0 e2 e4 e1 hr n (by omega)
    have g := h.2.2.2 (n : Int) (by omega) (by omega)
    have o := (lm7_o h (k := (n : Int)) (by omega) (by omega)).2
    have s := hs (n : Int) (by omega) (by omega) x hx.1 hx.2
    have st := hs (n : Int) (by omega) (by omega) t ht.1 ht.2
    have r := hr (n : Int) (by omega) (by omega)
    have xt : x ≠ t := fun z => hd (by rw [z]; exact hb)
    show os7_ U c t x n + ow7_ U c t x (n : Int) = ol7_ T c b (T 403 c x) n + cz_ (ON7_ T c b (n : Int) ∧ T 403 c x = cz_ (T 232 0 (T 210 0 c + (n : Int)) = b) (T 233 0 (T 210 0 c + (n : Int))) (T 232 0 (T 210 0 c + (n : Int)))) (T 205 0 (23 * c + 3)) 0
    rw [ih]
    by_cases z : OM7_ T c b (n : Int)
    · have z2 := o.mp z
      rw [oz7_y (T := T) (by rw [e0]; exact r.mpr z), e0, e2, e2, e4, e4, e1, e1, cz_f xt, h.2.2.1.2]
      rcases z2.2 with y | y
      · rw [cz_t y, cz_f (fun q => hd (by rw [← s.1.mp q, g.1.1]; exact y))]
        by_cases q : T 403 c x = T 233 0 (T 210 0 c + (n : Int))
        · rw [cz_t (s.2.mpr (by rw [g.1.2]; exact q.symm)), cz_t (And.intro z2 q)]
          omega
        · rw [cz_f (fun w => q (by rw [← s.2.mp w]; exact g.1.2)), cz_f (fun w => q w.2)]
          omega
      · have yn : T 232 0 (T 210 0 c + (n : Int)) ≠ b := fun w => g.2.1 (by rw [w, y])
        rw [cz_f yn, cz_f (P := x = T 404 c (T 102 (T 100 c 7 + (n : Int)) 4)) (fun q => hd (by rw [← s.2.mp q, g.1.2]; exact y))]
        by_cases q : T 403 c x = T 232 0 (T 210 0 c + (n : Int))
        · rw [cz_t (s.1.mpr (by rw [g.1.1]; exact q.symm)), cz_t (And.intro z2 q)]
          omega
        · rw [cz_f (fun w => q (by rw [← s.1.mp w]; exact g.1.1)), cz_f (fun w => q w.2)]
          omega
    · rw [oz7_n (T := T) (Classical.byContradiction (fun w => z (r.mp (by rw [e0] at w; exact w)))), cz_f (fun w => z (o.mpr w.1))]
/-- what the club itself gets -/
theorem os7_t {T U : Zt} {c b t : Int} (h : LM7_ T c b) (hs : SM7_ T c) (hb : T 403 c t = b) (ht : 0 ≤ t ∧ t < T 100 c 5) (e0 : U 100 c 7 = T 100 c 7) (e2 : ∀ i j, U 102 i j = T 102 i j) (e4 : ∀ j, U 404 c j = T 404 c j) (e1 : ∀ j, U 401 c j = T 401 c j) (hr : ∀ k, 0 ≤ k → k < T 100 c 8 → (U 584 0 (T 100 c 7 + k) ≠ -1 ↔ OM7_ T c b k)) : ∀ n : Nat, (n : Int) ≤ T 100 c 8 → os7_ U c t t n = T 205 0 (23 * c + 1) * lf7_ T c b n
  | 0, _ => by
    show (0 : Int) = T 205 0 (23 * c + 1) * 0
    rw [Int.mul_zero]
  | n + 1, hn => by
    have ih := os7_t h hs hb ht e0 e2 e4 e1 hr n (by omega)
    have g := h.2.2.2 (n : Int) (by omega) (by omega)
    have o := (lm7_o h (k := (n : Int)) (by omega) (by omega)).2
    have s := hs (n : Int) (by omega) (by omega) t ht.1 ht.2
    have r := hr (n : Int) (by omega) (by omega)
    show os7_ U c t t n + ow7_ U c t t (n : Int) = T 205 0 (23 * c + 1) * (lf7_ T c b n + cz_ (T 235 0 (T 210 0 c + (n : Int)) = 0 ∨ T 235 0 (T 210 0 c + (n : Int)) = 1) ((if b = T 232 0 (T 210 0 c + (n : Int)) then 1 else 0) + (if b = T 233 0 (T 210 0 c + (n : Int)) then 1 else 0)) 0)
    rw [ih, Int.mul_add]
    by_cases z : OM7_ T c b (n : Int)
    · have z2 := o.mp z
      rw [oz7_y (T := T) (by rw [e0]; exact r.mpr z), e0, e2, e2, e4, e4, e1, e1, cz_t rfl, h.2.2.1.1, cz_t z2.1]
      rcases z2.2 with y | y
      · have yn : T 233 0 (T 210 0 c + (n : Int)) ≠ b := fun w => g.2.1 (by rw [w, y])
        rw [cz_t (s.1.mpr (by rw [g.1.1, y, hb])), cz_f (fun q => yn (by rw [← g.1.2, s.2.mp q, hb])), if_pos y.symm, if_neg (fun w => yn w.symm)]
        omega
      · have yn : T 232 0 (T 210 0 c + (n : Int)) ≠ b := fun w => g.2.1 (by rw [w, y])
        rw [cz_t (P := t = T 404 c (T 102 (T 100 c 7 + (n : Int)) 4)) (s.2.mpr (by rw [g.1.2, y, hb])), cz_f (fun q => yn (by rw [← g.1.1, s.1.mp q, hb])), if_pos y.symm, if_neg (fun w => yn w.symm)]
        omega
    · rw [oz7_n (T := T) (Classical.byContradiction (fun w => z (r.mp (by rw [e0] at w; exact w))))]
      by_cases q : T 235 0 (T 210 0 c + (n : Int)) = 0 ∨ T 235 0 (T 210 0 c + (n : Int)) = 1
      · have nb : ¬ (T 232 0 (T 210 0 c + (n : Int)) = b ∨ T 233 0 (T 210 0 c + (n : Int)) = b) := fun w => z (o.mpr ⟨q, w⟩)
        rw [cz_t q, if_neg (fun w => nb (Or.inl w.symm)), if_neg (fun w => nb (Or.inr w.symm))]
        show _ = _ + _ * (0 + 0)
        rw [show (0 : Int) + 0 = 0 from rfl, Int.mul_zero]
      · rw [cz_f q, Int.mul_zero]
-- who can be first: rows of results by seats and by clubs
theorem gs7_m {ru hs aw ru' hs' aw' : Int → Int} {x v : Int} : ∀ (l : List Int) (k : Int), VD7_ l → (∀ w, 1 ≤ w → w ≤ 3 → ru w = ru' w) → (∀ j, k ≤ j → j < k + (l.length : Int) → (x = hs j ↔ v = hs' j) ∧ (x = aw j ↔ v = aw' j)) → gs7_ ru hs aw l k x = gs7_ ru' hs' aw' l k v
  | [], _, _, _, _ => rfl
  | r :: l, k, d, hr, h => by
    have g := h k (by omega) (by rw [List.length_cons]; omega)
    have dr := (vd7_c.mp d).1
    show (if x = hs k then ru (1 + r) else 0) + (if x = aw k then ru (3 - r) else 0) + gs7_ ru hs aw l (k + 1) x = (if v = hs' k then ru' (1 + r) else 0) + (if v = aw' k then ru' (3 - r) else 0) + gs7_ ru' hs' aw' l (k + 1) v
    rw [gs7_m l (k + 1) (vd7_c.mp d).2 hr (fun j a b => h j (by omega) (by rw [List.length_cons]; omega)), hr (1 + r) (by omega) (by omega), hr (3 - r) (by omega) (by omega)]
    have e1 : (if x = hs k then ru' (1 + r) else 0) = (if v = hs' k then ru' (1 + r) else 0) := by
      by_cases z : x = hs k
      · rw [if_pos z, if_pos (g.1.mp z)]
      · rw [if_neg z, if_neg (fun w => z (g.1.mpr w))]
    have e2 : (if x = aw k then ru' (3 - r) else 0) = (if v = aw' k then ru' (3 - r) else 0) := by
      by_cases z : x = aw k
      · rw [if_pos z, if_pos (g.2.mp z)]
      · rw [if_neg z, if_neg (fun w => z (g.2.mpr w))]
    rw [e1, e2]
theorem gs7_z {ru hs aw : Int → Int} {x : Int} : ∀ (l : List Int) (k : Int), (∀ j, k ≤ j → j < k + (l.length : Int) → x ≠ hs j ∧ x ≠ aw j) → gs7_ ru hs aw l k x = 0
  | [], _, _ => rfl
  | r :: l, k, h => by
    have g := h k (by omega) (by rw [List.length_cons]; omega)
    show (if x = hs k then ru (1 + r) else 0) + (if x = aw k then ru (3 - r) else 0) + gs7_ ru hs aw l (k + 1) x = 0
    rw [if_neg g.1, if_neg g.2, gs7_z l (k + 1) (fun j a b => h j (by omega) (by rw [List.length_cons]; omega))]
    rfl
/-- a row goes by seats as it goes by clubs -/
theorem ok7_q {ru hs aw ru' hs' aw' p p' cl : Int → Int} {VS VC : Int → Prop} {be t : Int} {l : List Int} (D : ∀ v, VC v ↔ ∃ x, VS x ∧ cl x = v) (G : ∀ x, VS x → gs7_ ru hs aw l 0 x = gs7_ ru' hs' aw' l 0 (cl x)) (A : ∀ x, VS x → x ≠ t → p x = p' (cl x)) (C1 : p t + gs7_ ru hs aw l 0 t ≤ be) (C2 : p' (cl t) + gs7_ ru' hs' aw' l 0 (cl t) ≤ be) : ok7_ ru hs aw VS be l 0 p ↔ ok7_ ru' hs' aw' VC be l 0 p' := by
  rw [ok7_g, ok7_g]
  refine ⟨fun h v hv => ?_, fun h x hx => ?_⟩
  · obtain ⟨x, hx, e⟩ := (D v).mp hv
    rw [← e]
    by_cases z : x = t
    · rw [z]; exact C2
    · rw [← G x hx, ← A x hx z]; exact h x hx
  · by_cases z : x = t
    · rw [z]; exact C1
    · rw [G x hx, A x hx z]; exact h (cl x) ((D _).mpr ⟨x, hx, rfl⟩)
/-- the answer of the search against that of the rows: found, with the same row -/
theorem tr7_q {ru hs aw ru' hs' aw' p p' : Int → Int} {VS VC : Int → Prop} {be : Int} {n : Nat} (hr : ∀ w, 1 ≤ w ∧ w ≤ 3 → 0 ≤ ru w ∧ ru w ≤ 1000) (hp : ∀ v, VS v → p v ≤ be) (hv : ∀ j, 0 ≤ j → j < (n : Int) → VS (hs j) ∧ VS (aw j)) (E : ∀ l, l.length = n → VD7_ l → (ok7_ ru hs aw VS be l 0 p ↔ ok7_ ru' hs' aw' VC be l 0 p')) : (∀ w : Int, 0 ≤ w → w < 3 ^ n → ok7_ ru' hs' aw' VC be (dw7_ n w) 0 p' → (∀ u, 0 ≤ u → u < w → ¬ ok7_ ru' hs' aw' VC be (dw7_ n u) 0 p') → tr7_ ru hs aw be n 0 p = some (dw7_ n w)) ∧ ((∀ w : Int, 0 ≤ w → w < 3 ^ n → ¬ ok7_ ru' hs' aw' VC be (dw7_ n w) 0 p') → tr7_ ru hs aw be n 0 p = none) := by
  have c := tr7_r (tr7_c (ru := ru) (hs := hs) (aw := aw) (V := VS) (be := be) hr n 0 p hp (fun j a b => hv j a (by omega)))
  have T : ∀ w : Int, 0 ≤ w → w < 3 ^ n → (ok7_ ru hs aw VS be (dw7_ n w) 0 p ↔ ok7_ ru' hs' aw' VC be (dw7_ n w) 0 p') := fun w a b => E _ (dw7_l n w) (dw7_v n w a b).1
  refine ⟨fun w a b g u => ?_, fun g => ?_⟩
  · exact c.1 w a b ((T w a b).mpr g) (fun y y0 y1 z => u y y0 y1 ((T y y0 (by omega)).mp z))
  · exact c.2 (fun w a b z => g w a b ((T w a b).mp z))
/-- one that is above from the start: no row goes -/
theorem ok7_a {ru hs aw : Int → Int} {V : Int → Prop} {be v : Int} {p : Int → Int} (hr : ∀ w, 1 ≤ w ∧ w ≤ 3 → 0 ≤ ru w ∧ ru w ≤ 1000) (hv : V v) (h : be < p v) (l : List Int) (d : VD7_ l) (k : Int) : ¬ ok7_ ru hs aw V be l k p := fun g => by
  have y := ok7_m hr l k p d g v hv
  omega
-- who can be first: what is spare, by the list of open matches and by the counts of matches left
/-- a sum over what is listed is a sum over all -/
theorem ds7_s {D : Int → Prop} {f : Int → Int} : ∀ n : Nat, sf9_ (fun j => f ((dl9_ D n).2 j)) 0 (dl9_ D n).1.toNat = sf9_ (fun k => cz_ (D k) (f k) 0) 0 n
  | 0 => rfl
  | n + 1 => by
    have c0 := (dl_b (D := D) n).1.1
    show _ = sf9_ (fun k => cz_ (D k) (f k) 0) 0 n + cz_ (D (0 + (n : Int))) (f (0 + (n : Int))) 0
    rw [Int.zero_add]
    by_cases z : D (n : Int)
    · have en : dl9_ D (n + 1) = ((dl9_ D n).1 + 1, fu_ (dl9_ D n).2 (dl9_ D n).1 (n : Int)) := cz_t z
      rw [en]
      show sf9_ (fun j => f (fu_ (dl9_ D n).2 (dl9_ D n).1 (n : Int) j)) 0 ((dl9_ D n).1 + 1).toNat = _
      rw [show ((dl9_ D n).1 + 1).toNat = (dl9_ D n).1.toNat + 1 by omega]
      show sf9_ (fun j => f (fu_ (dl9_ D n).2 (dl9_ D n).1 (n : Int) j)) 0 (dl9_ D n).1.toNat + f (fu_ (dl9_ D n).2 (dl9_ D n).1 (n : Int) (0 + (((dl9_ D n).1.toNat : Nat) : Int))) = _
      rw [show (0 : Int) + (((dl9_ D n).1.toNat : Nat) : Int) = (dl9_ D n).1 by omega, fu_s, cz_t z, ← ds7_s n]
      rw [sf_e (h := fun j => f (fu_ (dl9_ D n).2 (dl9_ D n).1 (n : Int) j)) (h' := fun j => f ((dl9_ D n).2 j)) _ (fun i a b => by
        show f (fu_ (dl9_ D n).2 (dl9_ D n).1 (n : Int) i) = f ((dl9_ D n).2 i)
        rw [fu_n (by omega)])]
    · have en : dl9_ D (n + 1) = dl9_ D n := cz_f z
      rw [en, cz_f z, Int.add_zero]
      exact ds7_s n
theorem ls7_f {T : Zt} {c x : Int} : ∀ n : Nat, ls7_ T c x n = sf9_ (fun j => cz_ (T 102 (T 588 0 j) 3 = T 403 c x ∨ T 102 (T 588 0 j) 4 = T 403 c x) (T 401 c 3) 0) 0 n
  | 0 => rfl
  | n + 1 => by
    show ls7_ T c x n + cz_ (T 102 (T 588 0 (n : Int)) 3 = T 403 c x ∨ T 102 (T 588 0 (n : Int)) 4 = T 403 c x) (T 401 c 3) 0 = sf9_ _ 0 n + cz_ (T 102 (T 588 0 (0 + (n : Int))) 3 = T 403 c x ∨ T 102 (T 588 0 (0 + (n : Int))) 4 = T 403 c x) (T 401 c 3) 0
    rw [ls7_f n, Int.zero_add]
/-- the matches left of another club: those against the club, and the open ones -/
theorem lo7_s {T : Zt} {c b v L : Int} (hv : v ≠ b) (hL : L = T 205 0 (23 * c + 3)) : ∀ n : Nat, (∀ k, 0 ≤ k → k < (n : Int) → T 232 0 (T 210 0 c + k) ≠ T 233 0 (T 210 0 c + k)) → L * lf7_ T c v n = ol7_ T c b v n + sf9_ (fun k => cz_ (OE7_ T c b k) (cz_ (T 232 0 (T 210 0 c + k) = v ∨ T 233 0 (T 210 0 c + k) = v) L 0) 0) 0 n
  | 0, _ => by
    show L * 0 = 0 + 0
    rw [Int.mul_zero]
    rfl
  | n + 1, h => by
    have ih := lo7_s (T := T) (c := c) hv hL n (fun k a b => h k a (by omega))
    have ne := h (n : Int) (by omega) (by omega)
    show L * (lf7_ T c v n + cz_ (T 235 0 (T 210 0 c + (n : Int)) = 0 ∨ T 235 0 (T 210 0 c + (n : Int)) = 1) ((if v = T 232 0 (T 210 0 c + (n : Int)) then 1 else 0) + (if v = T 233 0 (T 210 0 c + (n : Int)) then 1 else 0)) 0) = (ol7_ T c b v n + cz_ (ON7_ T c b (n : Int) ∧ v = cz_ (T 232 0 (T 210 0 c + (n : Int)) = b) (T 233 0 (T 210 0 c + (n : Int))) (T 232 0 (T 210 0 c + (n : Int)))) (T 205 0 (23 * c + 3)) 0) + (sf9_ (fun k => cz_ (OE7_ T c b k) (cz_ (T 232 0 (T 210 0 c + k) = v ∨ T 233 0 (T 210 0 c + k) = v) L 0) 0) 0 n + cz_ (OE7_ T c b (0 + (n : Int))) (cz_ (T 232 0 (T 210 0 c + (0 + (n : Int))) = v ∨ T 233 0 (T 210 0 c + (0 + (n : Int))) = v) L 0) 0)
    rw [Int.mul_add, ih, Int.zero_add, ← hL]
    by_cases q : T 235 0 (T 210 0 c + (n : Int)) = 0 ∨ T 235 0 (T 210 0 c + (n : Int)) = 1
    · rw [cz_t q]
      by_cases o : T 232 0 (T 210 0 c + (n : Int)) = b ∨ T 233 0 (T 210 0 c + (n : Int)) = b
      · have on : ON7_ T c b (n : Int) := ⟨q, o⟩
        rw [cz_f (P := OE7_ T c b (n : Int)) (fun w => w.2 o)]
        rcases o with y | y
        · have y2 : v ≠ T 232 0 (T 210 0 c + (n : Int)) := fun w => hv (w.trans y)
          rw [cz_t y, if_neg y2]
          by_cases w : v = T 233 0 (T 210 0 c + (n : Int))
          · rw [if_pos w, cz_t (And.intro on w)]; omega
          · rw [if_neg w, cz_f (fun u => w u.2)]; omega
        · have y2 : v ≠ T 233 0 (T 210 0 c + (n : Int)) := fun w => hv (w.trans y)
          have y3 : T 232 0 (T 210 0 c + (n : Int)) ≠ b := fun w => ne (w.trans y.symm)
          rw [cz_f y3, if_neg y2]
          by_cases w : v = T 232 0 (T 210 0 c + (n : Int))
          · rw [if_pos w, cz_t (And.intro on w)]; omega
          · rw [if_neg w, cz_f (fun u => w u.2)]; omega
      · rw [cz_f (P := ON7_ T c b (n : Int) ∧ _) (fun w => o w.1.2), cz_t (P := OE7_ T c b (n : Int)) ⟨q, o⟩]
        by_cases w : v = T 232 0 (T 210 0 c + (n : Int))
        · rw [if_pos w, if_neg (fun u => ne (w.symm.trans u)), cz_t (Or.inl w.symm)]; omega
        · by_cases u : v = T 233 0 (T 210 0 c + (n : Int))
          · rw [if_neg w, if_pos u, cz_t (Or.inr u.symm)]; omega
          · rw [if_neg w, if_neg u, cz_f (fun s => s.elim (fun s => w s.symm) (fun s => u s.symm))]; omega
    · rw [cz_f q, cz_f (P := ON7_ T c b (n : Int) ∧ _) (fun w => q w.1.1), cz_f (P := OE7_ T c b (n : Int)) (fun w => q w.1)]
      omega
-- who can be first: the least cut of the house, words
def OCc_ (T : Zt) (b g i : Int) : Prop := (T 102 (T 588 0 i) 3 = b ∧ an_ (sr_ g (T 102 (T 588 0 i) 4)) 1 ≠ 0) ∨ (T 102 (T 588 0 i) 4 = b ∧ an_ (sr_ g (T 102 (T 588 0 i) 3)) 1 ≠ 0)
/-- how many open matches a club has against a set -/
noncomputable def oc7_ (T : Zt) (b g : Int) : Nat → Int
  | 0 => 0
  | n + 1 => oc7_ T b g n + cz_ (OCc_ T b g (n : Int)) 1 0
theorem oc7_t {T : Zt} {b g i : Int} (hi : 0 ≤ i) (h : OCc_ T b g i) : oc7_ T b g (i + 1).toNat = oc7_ T b g i.toNat + 1 := by
  rw [show (i + 1).toNat = i.toNat + 1 by omega]
  show oc7_ T b g i.toNat + cz_ (OCc_ T b g ((i.toNat : Nat) : Int)) 1 0 = _
  rw [show ((i.toNat : Nat) : Int) = i by omega, cz_t h]
theorem oc7_f {T : Zt} {b g i : Int} (hi : 0 ≤ i) (h : ¬ OCc_ T b g i) : oc7_ T b g (i + 1).toNat = oc7_ T b g i.toNat := by
  rw [show (i + 1).toNat = i.toNat + 1 by omega]
  show oc7_ T b g i.toNat + cz_ (OCc_ T b g ((i.toNat : Nat) : Int)) 1 0 = _
  rw [show ((i.toNat : Nat) : Int) = i by omega, cz_f h, Int.add_zero]
theorem oc7_k {T U : Zt} {b g : Int} (e2 : ∀ i j, U 102 i j = T 102 i j) (e5 : ∀ j, U 588 0 j = T 588 0 j) : ∀ n : Nat, oc7_ U b g n = oc7_ T b g n
  | 0 => rfl
  | n + 1 => by
    have e : OCc_ U b g (n : Int) = OCc_ T b g (n : Int) := by
      unfold OCc_
      simp only [e2, e5]
    show oc7_ U b g n + cz_ (OCc_ U b g (n : Int)) 1 0 = oc7_ T b g n + cz_ (OCc_ T b g (n : Int)) 1 0
    rw [oc7_k e2 e5 n, e]
theorem cb7_s {A B : Int → Int} {lo k n : Nat} : cb_ lo k (lh7_ A B (n + 1) 0) = cb_ lo k (lh7_ A B n 0) + (if ((A (n : Int)).toNat = lo ∧ (B (n : Int)).toNat = k) ∨ ((A (n : Int)).toNat = k ∧ (B (n : Int)).toNat = lo) then 1 else 0) := by
  rw [lh7_s, cb_s, Int.zero_add]
theorem iu7_ {a b lo s : Nat} (hab : a ≠ b) (ha : a < 12) (hb : b < 12) : su_ (fun k => if (a = lo ∧ b = k) ∨ (a = k ∧ b = lo) then 1 else 0) s (lo + 1) 12 = if a = lo then (if lo + 1 ≤ b then bt_ s b else 0) else if b = lo then (if lo + 1 ≤ a then bt_ s a else 0) else 0 := by
  by_cases x : a = lo
  · rw [if_pos x, su_e (g := fun k => if (a = lo ∧ b = k) ∨ (a = k ∧ b = lo) then 1 else 0) (h := fun k => if k = b then 1 else 0) (fun k _ => by
      show (if (a = lo ∧ b = k) ∨ (a = k ∧ b = lo) then (1 : Int) else 0) = (if k = b then 1 else 0)
      by_cases y : k = b
      · rw [if_pos (Or.inl ⟨x, y.symm⟩), if_pos y]
      · rw [if_neg (fun q => by omega), if_neg y]) 12, su_1]
    by_cases y : lo + 1 ≤ b
    · rw [if_pos ⟨y, hb⟩, if_pos y]
    · rw [if_neg (fun q => y q.1), if_neg y]
  · rw [if_neg x]
    by_cases z : b = lo
    · rw [if_pos z, su_e (g := fun k => if (a = lo ∧ b = k) ∨ (a = k ∧ b = lo) then 1 else 0) (h := fun k => if k = a then 1 else 0) (fun k _ => by
        show (if (a = lo ∧ b = k) ∨ (a = k ∧ b = lo) then (1 : Int) else 0) = (if k = a then 1 else 0)
        by_cases y : k = a
        · rw [if_pos (Or.inr ⟨y.symm, z⟩), if_pos y]
        · rw [if_neg (fun q => by omega), if_neg y]) 12, su_1]
      by_cases y : lo + 1 ≤ a
      · rw [if_pos ⟨y, ha⟩, if_pos y]
      · rw [if_neg (fun q => y q.1), if_neg y]
    · rw [if_neg z, su_e (g := fun k => if (a = lo ∧ b = k) ∨ (a = k ∧ b = lo) then 1 else 0) (h := fun _ => 0) (fun k _ => by
        show (if (a = lo ∧ b = k) ∨ (a = k ∧ b = lo) then (1 : Int) else 0) = 0
        rw [if_neg (fun q => by omega)]) 12]
      exact su_0 s (lo + 1) 12
theorem oi7_ {A B a3 a4 : Int} {lo s : Nat} {P : Prop} (h0 : ∀ j, j < lo → bt_ s j = 0) (hA : 0 ≤ A) (hB : 0 ≤ B) (ne : A ≠ B) (h3 : a3 = if A.toNat = lo then 0 else bt_ s A.toNat) (h4 : a4 = if B.toNat = lo then 0 else bt_ s B.toNat) (hP : P ↔ (A = (lo : Int) ∧ a4 ≠ 0) ∨ (B = (lo : Int) ∧ a3 ≠ 0)) : cz_ P 1 0 = if A.toNat = lo then (if lo + 1 ≤ B.toNat then bt_ s B.toNat else 0) else if B.toNat = lo then (if lo + 1 ≤ A.toNat then bt_ s A.toNat else 0) else 0 := by
  by_cases x : A.toNat = lo
  · have xb : B.toNat ≠ lo := by omega
    rw [if_neg xb] at h4
    rw [if_pos x]
    have no : bt_ s B.toNat = 0 → ¬ P := fun z q => (hP.mp q).elim (fun w => w.2 (h4.trans z)) (fun w => xb (by omega))
    by_cases y : lo + 1 ≤ B.toNat
    · rw [if_pos y]
      rcases bt_01 s B.toNat with z | z
      · rw [z, cz_f (no z)]
      · rw [z, cz_t (hP.mpr (Or.inl ⟨by omega, by rw [h4, z]; decide⟩))]
    · rw [if_neg y, cz_f (no (h0 _ (by omega)))]
  · rw [if_neg x]
    rw [if_neg x] at h3
    by_cases xb : B.toNat = lo
    · rw [if_pos xb]
      have no : bt_ s A.toNat = 0 → ¬ P := fun z q => (hP.mp q).elim (fun w => x (by omega)) (fun w => w.2 (h3.trans z))
      by_cases y : lo + 1 ≤ A.toNat
      · rw [if_pos y]
        rcases bt_01 s A.toNat with z | z
        · rw [z, cz_f (no z)]
        · rw [z, cz_t (hP.mpr (Or.inr ⟨by omega, by rw [h3, z]; decide⟩))]
      · rw [if_neg y, cz_f (no (h0 _ (by omega)))]
    · rw [if_neg xb, cz_f (fun q => (hP.mp q).elim (fun w => x (by omega)) (fun w => xb (by omega)))]
/-- counted by bits: the lowest of a set against the others -/
theorem oc7_s {T : Zt} {lo s : Nat} (h1 : bt_ s lo = 1) (h0 : ∀ j, j < lo → bt_ s j = 0) (hl : lo < 12) (hs : s < 4096) : ∀ n : Nat, (∀ k : Int, 0 ≤ k → k < (n : Int) → ((0 ≤ T 102 (T 588 0 k) 3 ∧ T 102 (T 588 0 k) 3 < 12) ∧ 0 ≤ T 102 (T 588 0 k) 4 ∧ T 102 (T 588 0 k) 4 < 12) ∧ T 102 (T 588 0 k) 3 ≠ T 102 (T 588 0 k) 4) → oc7_ T (lo : Int) ((s &&& (s - 1) : Nat) : Int) n = su_ (fun k => cb_ lo k (lh7_ (fun j => T 102 (T 588 0 j) 3) (fun j => T 102 (T 588 0 j) 4) n 0)) s (lo + 1) 12
  | 0, _ => (su_0 s (lo + 1) 12).symm
  | n + 1, h => by
    have ih := oc7_s h1 h0 hl hs n (fun k a b => h k a (by omega))
    have g := h (n : Int) (by omega) (by omega)
    have le : (s &&& (s - 1)) ≤ s := Nat.and_le_left
    have bl := bt_low h1 h0
    have e := su_e (g := fun k => cb_ lo k (lh7_ (fun j => T 102 (T 588 0 j) 3) (fun j => T 102 (T 588 0 j) 4) (n + 1) 0)) (h := fun k => cb_ lo k (lh7_ (fun j => T 102 (T 588 0 j) 3) (fun j => T 102 (T 588 0 j) 4) n 0) + (if ((T 102 (T 588 0 (n : Int)) 3).toNat = lo ∧ (T 102 (T 588 0 (n : Int)) 4).toNat = k) ∨ ((T 102 (T 588 0 (n : Int)) 3).toNat = k ∧ (T 102 (T 588 0 (n : Int)) 4).toNat = lo) then 1 else 0)) (s := s) (lo := lo + 1) (fun k _ => cb7_s (A := fun j => T 102 (T 588 0 j) 3) (B := fun j => T 102 (T 588 0 j) 4)) 12
    have iu := iu7_ (a := (T 102 (T 588 0 (n : Int)) 3).toNat) (b := (T 102 (T 588 0 (n : Int)) 4).toNat) (lo := lo) (s := s) (by omega) (by omega) (by omega)
    have oi := oi7_ (A := T 102 (T 588 0 (n : Int)) 3) (B := T 102 (T 588 0 (n : Int)) 4) (a3 := an_ (sr_ ((s &&& (s - 1) : Nat) : Int) (T 102 (T 588 0 (n : Int)) 3)) 1) (a4 := an_ (sr_ ((s &&& (s - 1) : Nat) : Int) (T 102 (T 588 0 (n : Int)) 4)) 1) (lo := lo) (s := s) (P := OCc_ T (lo : Int) ((s &&& (s - 1) : Nat) : Int) (n : Int)) h0 g.1.1.1 g.1.2.1 g.2 (by rw [bt_n (by omega) (by omega), Int.toNat_natCast]; exact bl _) (by rw [bt_n (by omega) (by omega), Int.toNat_natCast]; exact bl _) Iff.rfl
    show oc7_ T (lo : Int) ((s &&& (s - 1) : Nat) : Int) n + cz_ (OCc_ T (lo : Int) ((s &&& (s - 1) : Nat) : Int) (n : Int)) 1 0 = su_ (fun k => cb_ lo k (lh7_ (fun j => T 102 (T 588 0 j) 3) (fun j => T 102 (T 588 0 j) 4) (n + 1) 0)) s (lo + 1) 12
    rw [e, su_a, iu, ih, oi]
/-- the others as bits, on the house's side -/
def OG7_ (T : Zt) (c t k o : Int) : Prop := ∀ v : Nat, v < 12 → (o.toNat.testBit v = true ↔ ∃ j : Int, (0 ≤ j ∧ j < k ∧ j ≠ t) ∧ T 403 c j = (v : Int))
theorem og7_0 {T : Zt} {c t : Int} : OG7_ T c t 0 0 := fun v _ => by
  show (0 : Nat).testBit v = true ↔ _
  rw [Nat.zero_testBit]
  exact ⟨fun h => absurd h (by decide), fun ⟨j, h, _⟩ => by omega⟩
theorem og7_k {T : Zt} {c t k o : Int} (h : OG7_ T c t k o) (e : k = t) : OG7_ T c t (k + 1) o := fun v hv => by
  rw [h v hv]
  exact ⟨fun ⟨j, q, w⟩ => ⟨j, ⟨q.1, by omega, q.2.2⟩, w⟩, fun ⟨j, q, w⟩ => ⟨j, ⟨q.1, by omega, q.2.2⟩, w⟩⟩
theorem og7_s {T : Zt} {c t k o q9 : Int} (h : OG7_ T c t k o) (hk : 0 ≤ k) (ho : 0 ≤ o ∧ o ≤ 4095) (e : k ≠ t) (he : 0 ≤ q9 ∧ q9 ≤ 11) (hq9 : q9 = T 403 c k) : OG7_ T c t (k + 1) (or_ o (sl_ 1 q9)) := fun v hv => by
  rw [hq9] at he ⊢
  have s := sl_b he
  have p := sl7_p (T 403 c k).toNat (by omega)
  rw [show (((T 403 c k).toNat : Nat) : Int) = T 403 c k by omega] at p
  rw [or_n (by omega) (by omega), Int.toNat_natCast, Nat.testBit_or, p, Nat.testBit_two_pow, Bool.or_eq_true, h v hv, decide_eq_true_iff]
  refine ⟨fun g => ?_, fun ⟨j, q, w⟩ => ?_⟩
  · rcases g with ⟨j, q, w⟩ | g
    · exact ⟨j, ⟨q.1, by omega, q.2.2⟩, w⟩
    · exact ⟨k, ⟨hk, by omega, e⟩, by omega⟩
  · by_cases z : j = k
    · rw [z] at w
      exact Or.inr (by omega)
    · exact Or.inl ⟨j, ⟨q.1, by omega, q.2.2⟩, w⟩
def tz2 (a : Nat) : Bool := a == 0 || ((List.range 12).any fun x => decide (an_ (xo_ (a : Int) (-1)) ((a : Int) - 1) = ((2 ^ x : Nat) : Int) - 1) && decide (an_ (sr_ (a : Int) (x : Int)) 1 = 1) && ((List.range 12).all fun j => !(decide (j < x)) || decide (an_ (sr_ (a : Int) (j : Int)) 1 = 0)))
theorem tz2_a : ∀ i, i < 64 → ∀ j, j < 64 → tz2 (64 * i + j) = true := by decide +kernel
/-- the zeros behind a number: its lowest bit, and none below it -/
theorem tz_g {a : Int} (h : 1 ≤ a ∧ a ≤ 4095) : ∃ x : Nat, x < 12 ∧ an_ (xo_ a (-1)) (a - 1) = ((2 ^ x : Nat) : Int) - 1 ∧ an_ (sr_ a (x : Int)) 1 = 1 ∧ ∀ j : Int, 0 ≤ j → j < (x : Int) → an_ (sr_ a j) 1 = 0 := by
  have h1 := tz2_a (a.toNat / 64) (by omega) (a.toNat % 64) (by omega)
  rw [Nat.div_add_mod] at h1
  unfold tz2 at h1
  rw [show ((a.toNat : Nat) : Int) = a by omega] at h1
  simp only [Bool.or_eq_true, beq_iff_eq, List.any_eq_true, List.mem_range, Bool.and_eq_true, decide_eq_true_eq, List.all_eq_true, Bool.not_eq_true', decide_eq_false_iff_not] at h1
  rcases h1 with z | ⟨x, a1, ⟨a2, a3⟩, a4⟩
  · omega
  · refine ⟨x, a1, a2, a3, fun j p q => ?_⟩
    rcases a4 j.toNat (by omega) with y | y
    · omega
    · rw [show ((j.toNat : Nat) : Int) = j by omega] at y
      exact y
theorem sp7_e {f g : Nat → Int} {s : Nat} : ∀ n : Nat, (∀ k, k < n → s.testBit k = true → f k = g k) → sp_ f s n = sp_ g s n
  | 0, _ => rfl
  | n + 1, h => by
    show sp_ f s n + bt_ s n * f n = sp_ g s n + bt_ s n * g n
    rw [sp7_e n (fun k a b => h k (by omega) b)]
    by_cases z : s.testBit n = true
    · rw [h n (by omega) z]
    · have e : bt_ s n = 0 := if_neg z
      rw [e, Int.zero_mul, Int.zero_mul]
/-- the slack of a set hangs on its clubs alone -/
theorem vs7_e {f g : Nat → Int} {l : List (Nat × Nat)} {s : Nat} (h : ∀ k, k < 12 → s.testBit k = true → f k = g k) : vs_ f l s = vs_ g l s := by
  unfold vs_
  rw [sp7_e 12 h]
theorem lh7_d {a b : Int → Int} : ∀ (i : Nat) (j : Int), (∀ k, j ≤ k → k < j + (i : Int) → ((0 ≤ a k ∧ a k < 12) ∧ 0 ≤ b k ∧ b k < 12) ∧ a k ≠ b k) → ∀ p ∈ lh7_ a b i j, p.1 ≠ p.2 ∧ p.1 < 12 ∧ p.2 < 12
  | 0, _, _, p, hp => by cases hp
  | i + 1, j, h, p, hp => by
    rcases List.mem_cons.mp hp with e | hp
    · have g := h j (by omega) (by omega)
      rw [e]
      show (a j).toNat ≠ (b j).toNat ∧ (a j).toNat < 12 ∧ (b j).toNat < 12
      omega
    · exact lh7_d i (j + 1) (fun k x y => h k (by omega) (by omega)) p hp
/-- the slack of the next set, by its lowest club -/
theorem lc7_v {T : Zt} {f : Nat → Int} {g x ox r cap n : Int} (hg : 1 ≤ g ∧ g ≤ 4095) (hx : 0 ≤ x ∧ x ≤ 11) (b1 : an_ (sr_ g x) 1 = 1) (b0 : ∀ j : Int, 0 ≤ j → j < x → an_ (sr_ g j) 1 = 0) (hn : 0 ≤ n) (pr : ∀ k : Int, 0 ≤ k → k < n → ((0 ≤ T 102 (T 588 0 k) 3 ∧ T 102 (T 588 0 k) 3 < 12) ∧ 0 ≤ T 102 (T 588 0 k) 4 ∧ T 102 (T 588 0 k) 4 < 12) ∧ T 102 (T 588 0 k) 3 ≠ T 102 (T 588 0 k) 4) (hr : r = vs_ f (lh7_ (fun j => T 102 (T 588 0 j) 3) (fun j => T 102 (T 588 0 j) 4) n.toNat 0) (an_ g (g - 1)).toNat) (hc : cap = f x.toNat) (ho : ox = oc7_ T x (an_ g (g - 1)) n.toNat) : r + cap - 2 * ox = vs_ f (lh7_ (fun j => T 102 (T 588 0 j) 3) (fun j => T 102 (T 588 0 j) 4) n.toNat 0) g.toNat := by
  have a1 := an_1 (s := g) ⟨hg.1, by omega⟩
  have q1 : bt_ g.toNat x.toNat = 1 := by rw [← bt_n (by omega) (by omega)]; exact b1
  have q0 : ∀ j, j < x.toNat → bt_ g.toNat j = 0 := fun j hj => by
    have y := b0 (j : Int) (by omega) (by omega)
    rw [bt_n (by omega) (by omega), Int.toNat_natCast] at y
    exact y
  have lp : ∀ p ∈ lh7_ (fun j => T 102 (T 588 0 j) 3) (fun j => T 102 (T 588 0 j) 4) n.toNat 0, p.1 ≠ p.2 ∧ p.1 < 12 ∧ p.2 < 12 := lh7_d n.toNat 0 (fun k a b => pr k a (by omega))
  have lw := vs_low (f := f) (l := lh7_ (fun j => T 102 (T 588 0 j) 3) (fun j => T 102 (T 588 0 j) 4) n.toNat 0) (s := g.toNat) (lo := x.toNat) q1 q0 (by omega) lp
  have oc := oc7_s (T := T) (lo := x.toNat) (s := g.toNat) q1 q0 (by omega) (by omega) n.toNat (fun k a b => pr k a (by omega))
  rw [show ((x.toNat : Nat) : Int) = x by omega, ← a1.1] at oc
  have e : (an_ g (g - 1)).toNat = g.toNat &&& (g.toNat - 1) := by
    have y := a1.1
    omega
  rw [e] at hr
  rw [lw, ← oc, ← ho, ← hr, ← hc]
theorem an7_l {u o : Int} (ho : 0 ≤ o ∧ o ≤ 4095) (hu : 0 ≤ u ∧ u ≤ 4095) (h : an_ u o = u) : u ≤ o := by
  have z := (an_z ho (by omega)).mp h
  have y := (nb_sub o.toNat u.toNat z).1
  omega
theorem bk_X9_openBetween_g_76 : ck_ fX9 (some .int) cX9_openBetween 76 [.iinc 4 1, .goto 5] 82 = true := qck_r (nn_ _) (by decide +kernel)
theorem bs_X9_openBetween_g_76 {P : Zt → Option Zv → Prop} (K : Int → Zl → List Zv → Zt → Prop) : sx_ K P [.iinc 4 1, .goto 5] 82 = x_iinc 4 1 (x_goto 5 K) := ((xe_iinc 4 1).trans (congrArg (x_iinc 4 1) (xe_goto 5)))
theorem bk_X9_openBetween_g_73 : ck_ fX9 (some .int) cX9_openBetween 73 [.iinc 3 1] 76 = true := qck_r (nn_ _) (by decide +kernel)
theorem bs_X9_openBetween_g_73 {P : Zt → Option Zv → Prop} (K : Int → Zl → List Zv → Zt → Prop) : sx_ K P [.iinc 3 1] 76 = x_iinc 3 1 (K 76) := ((xe_iinc 3 1).trans (congrArg (x_iinc 3 1) xe_nil))
theorem bk_X9_openBetween_g_5 : ck_ fX9 (some .int) cX9_openBetween 5 [.iload 4, .aload 0, .tableswitch 0 9 9 #[], .if_icmp .ge 82, .aload 0, .tableswitch 0 9 0 #[], .tableswitch 0 6 3 #[], .aload 0, .tableswitch 0 9 8 #[], .iload 4, .iaload, .aaload, .astore 5, .aload 5, .tableswitch 0 2 3 #[], .iload 1, .if_icmp .ne 52, .iload 2, .aload 5, .tableswitch 0 2 4 #[], .ishr, .iconst 1, .iand, .ifCond .ne 73, .aload 5, .tableswitch 0 2 4 #[], .iload 1, .if_icmp .ne 76, .iload 2, .aload 5, .tableswitch 0 2 3 #[], .ishr, .iconst 1, .iand, .ifCond .eq 76] 73 = true := qck_r (nn_ _) (by decide +kernel)
theorem bs_X9_openBetween_g_5 {P : Zt → Option Zv → Prop} (K : Int → Zl → List Zv → Zt → Prop) : sx_ K P [.iload 4, .aload 0, .tableswitch 0 9 9 #[], .if_icmp .ge 82, .aload 0, .tableswitch 0 9 0 #[], .tableswitch 0 6 3 #[], .aload 0, .tableswitch 0 9 8 #[], .iload 4, .iaload, .aaload, .astore 5, .aload 5, .tableswitch 0 2 3 #[], .iload 1, .if_icmp .ne 52, .iload 2, .aload 5, .tableswitch 0 2 4 #[], .ishr, .iconst 1, .iand, .ifCond .ne 73, .aload 5, .tableswitch 0 2 4 #[], .iload 1, .if_icmp .ne 76, .iload 2, .aload 5, .tableswitch 0 2 3 #[], .ishr, .iconst 1, .iand, .ifCond .eq 76] 73 = x_iload 4 (x_aload 0 (x_g0 109 9 0 40 (x_if_icmp .ge 82 K (x_aload 0 (x_g1 109 106 (x_g1 106 523 (x_aload 0 (x_g1 109 588 (x_iload 4 (x_iaload (x_aaload (x_astore 5 (x_aload 5 (x_g0 102 3 0 11 (x_iload 1 (x_if_icmp .ne 52 K (x_iload 2 (x_aload 5 (x_g0 102 4 0 11 (x_ishr (x_iconst 1 (x_iand (x_ifCond .ne 73 K (x_aload 5 (x_g0 102 4 0 11 (x_iload 1 (x_if_icmp .ne 76 K (x_iload 2 (x_aload 5 (x_g0 102 3 0 11 (x_ishr (x_iconst 1 (x_iand (x_ifCond .eq 76 K (K 73))))))))))))))))))))))))))))))))))) := ((xe_iload 4).trans (congrArg (x_iload 4) ((xe_aload 0).trans (congrArg (x_aload 0) ((xe_g0 (kk := 109) rfl tl_9_9).trans (congrArg (x_g0 109 9 0 40) ((xe_if_icmp .ge 82).trans (congrArg (x_if_icmp .ge 82 K) ((xe_aload 0).trans (congrArg (x_aload 0) ((xe_g1 (kk := 109) rfl tl_9_0).trans (congrArg (x_g1 109 106) ((xe_g1 (kk := 106) rfl tl_6_3).trans (congrArg (x_g1 106 523) ((xe_aload 0).trans (congrArg (x_aload 0) ((xe_g1 (kk := 109) rfl tl_9_8).trans (congrArg (x_g1 109 588) ((xe_iload 4).trans (congrArg (x_iload 4) ((xe_iaload).trans (congrArg (x_iaload) ((xe_aaload).trans (congrArg (x_aaload) ((xe_astore 5).trans (congrArg (x_astore 5) ((xe_aload 5).trans (congrArg (x_aload 5) ((xe_g0 (kk := 102) rfl tl_2_3).trans (congrArg (x_g0 102 3 0 11) ((xe_iload 1).trans (congrArg (x_iload 1) ((xe_if_icmp .ne 52).trans (congrArg (x_if_icmp .ne 52 K) ((xe_iload 2).trans (congrArg (x_iload 2) ((xe_aload 5).trans (congrArg (x_aload 5) ((xe_g0 (kk := 102) rfl tl_2_4).trans (congrArg (x_g0 102 4 0 11) ((xe_ishr).trans (congrArg (x_ishr) ((xe_iconst 1).trans (congrArg (x_iconst 1) ((xe_iand).trans (congrArg (x_iand) ((xe_ifCond .ne 73).trans (congrArg (x_ifCond .ne 73 K) ((xe_aload 5).trans (congrArg (x_aload 5) ((xe_g0 (kk := 102) rfl tl_2_4).trans (congrArg (x_g0 102 4 0 11) ((xe_iload 1).trans (congrArg (x_iload 1) ((xe_if_icmp .ne 76).trans (congrArg (x_if_icmp .ne 76 K) ((xe_iload 2).trans (congrArg (x_iload 2) ((xe_aload 5).trans (congrArg (x_aload 5) ((xe_g0 (kk := 102) rfl tl_2_3).trans (congrArg (x_g0 102 3 0 11) ((xe_ishr).trans (congrArg (x_ishr) ((xe_iconst 1).trans (congrArg (x_iconst 1) ((xe_iand).trans (congrArg (x_iand) ((xe_ifCond .eq 76).trans (congrArg (x_ifCond .eq 76 K) xe_nil))))))))))))))))))))))))))))))))))))))))))))))))))))))))))))))))))))))
theorem bk_X9_openBetween_g_82 : ck_ fX9 (some .int) cX9_openBetween 82 [.iload 3, .ireturn] 84 = true := qck_r (nn_ _) (by decide +kernel)
theorem bs_X9_openBetween_g_82 {P : Zt → Option Zv → Prop} (K : Int → Zl → List Zv → Zt → Prop) : sx_ K P [.iload 3, .ireturn] 84 = x_iload 3 (x_ireturn P) := ((xe_iload 3).trans (congrArg (x_iload 3) (xe_ireturn)))
theorem bk_X9_openBetween_g_52 : ck_ fX9 (some .int) cX9_openBetween 52 [.aload 5, .tableswitch 0 2 4 #[], .iload 1, .if_icmp .ne 76, .iload 2, .aload 5, .tableswitch 0 2 3 #[], .ishr, .iconst 1, .iand, .ifCond .eq 76] 73 = true := qck_r (nn_ _) (by decide +kernel)
theorem bs_X9_openBetween_g_52 {P : Zt → Option Zv → Prop} (K : Int → Zl → List Zv → Zt → Prop) : sx_ K P [.aload 5, .tableswitch 0 2 4 #[], .iload 1, .if_icmp .ne 76, .iload 2, .aload 5, .tableswitch 0 2 3 #[], .ishr, .iconst 1, .iand, .ifCond .eq 76] 73 = x_aload 5 (x_g0 102 4 0 11 (x_iload 1 (x_if_icmp .ne 76 K (x_iload 2 (x_aload 5 (x_g0 102 3 0 11 (x_ishr (x_iconst 1 (x_iand (x_ifCond .eq 76 K (K 73))))))))))) := ((xe_aload 5).trans (congrArg (x_aload 5) ((xe_g0 (kk := 102) rfl tl_2_4).trans (congrArg (x_g0 102 4 0 11) ((xe_iload 1).trans (congrArg (x_iload 1) ((xe_if_icmp .ne 76).trans (congrArg (x_if_icmp .ne 76 K) ((xe_iload 2).trans (congrArg (x_iload 2) ((xe_aload 5).trans (congrArg (x_aload 5) ((xe_g0 (kk := 102) rfl tl_2_3).trans (congrArg (x_g0 102 3 0 11) ((xe_ishr).trans (congrArg (x_ishr) ((xe_iconst 1).trans (congrArg (x_iconst 1) ((xe_iand).trans (congrArg (x_iand) ((xe_ifCond .eq 76).trans (congrArg (x_ifCond .eq 76 K) xe_nil))))))))))))))))))))))
theorem bk_X9_openBetween_g_0 : ck_ fX9 (some .int) cX9_openBetween 0 [.iconst 0, .istore 3, .iconst 0, .istore 4] 5 = true := qck_r (nn_ _) (by decide +kernel)
theorem bs_X9_openBetween_g_0 {P : Zt → Option Zv → Prop} (K : Int → Zl → List Zv → Zt → Prop) : sx_ K P [.iconst 0, .istore 3, .iconst 0, .istore 4] 5 = x_iconst 0 (x_istore 3 (x_iconst 0 (x_istore 4 (K 5)))) := ((xe_iconst 0).trans (congrArg (x_iconst 0) ((xe_istore 3).trans (congrArg (x_istore 3) ((xe_iconst 0).trans (congrArg (x_iconst 0) ((xe_istore 4).trans (congrArg (x_istore 4) xe_nil))))))))
abbrev po_X9_openBetween_g (T : Zt) (c g : Int) : Zt → Option Zv → Prop := fun T' r => T = T' ∧ ∃ x : Int, r = some (vI x) ∧ ((0 ≤ x ∧ x ≤ 40) ∧ x = oc7_ T c g (T 109 0 9).toNat)
set_option maxHeartbeats 4000000 in
theorem ct_X9_openBetween_g {T : Zt} {c g : Int} (hq9 : Q9_ T) (hka : KA_ T) : Ct_ yX9_openBetween zX9_openBetween T [vR 109 0, vI c, vI g] (po_X9_openBetween_g T c g) := by
  refine ct_of pn_9 rfl rfl (Nat.le_of_ble_eq_true rfl) (fun hT hav => ?_)
  have hr_c : -2147483648 ≤ c ∧ c ≤ 2147483647 := hav (vI c) (List.mem_cons_of_mem _ List.mem_cons_self)
  have hr_g : -2147483648 ≤ g ∧ g ≤ 2147483647 := hav (vI g) (List.mem_cons_of_mem _ (List.mem_cons_of_mem _ List.mem_cons_self))
  have hz : zX9_openBetween.2.2.2.1 = some .boolean → ∀ (T' : Zt) (x : Int), po_X9_openBetween_g T c g T' (some (vI x)) → 0 ≤ x ∧ x ≤ 1 := fun h => by cases h
  have hct := hq9.1
  have hbo : 0 ≤ T 109 0 9 ∧ T 109 0 9 ≤ 40 := bd_f hT 109 9 tl_9_9 0
  show J_ zX9_openBetween T (po_X9_openBetween_g T c g) 0 0 0 [some (vR 109 0), some (vI c), some (vI g), none, none, none] [] T
  have c_5 : ∀ (nn : Nat) (u : Int) (i : Int), ((40 - i).toNat) ≤ nn → (0 ≤ i ∧ i ≤ 40 ∧ 0 ≤ u ∧ u ≤ i ∧ i ≤ T 109 0 9) → (u = oc7_ T c g i.toNat) → J_ zX9_openBetween T (po_X9_openBetween_g T c g) 0 0 5 [some (vR 109 0), some (vI c), some (vI g), some (vI u), some (vI i), none] [] T := by
    intro nn
    induction nn using Nat.strongRecOn with
    | _ nn ih_5 =>
      intro u i hm_5 i1 oc1
      replace hm_5 := fun (_ : Unit) => hm_5
      have c_76 : ∀ (w : Int), (i < 40 ∧ i < T 109 0 9 ∧ 0 ≤ w ∧ w ≤ i + 1) → (w = oc7_ T c g (i + 1).toNat) → J_ zX9_openBetween T (po_X9_openBetween_g T c g) 0 0 76 [some (vR 109 0), some (vI c), some (vI g), some (vI w), some (vI i), none] [] T := by
        intro w i3 oc3
        refine j_blx (F := fX9) tb_X9 (nn_ _) bk_X9_openBetween_g_76 bs_X9_openBetween_g_76 hz (fun K hK => ?_)
        refine rg_i (by omega) ?_
        refine hK 5 [some (vR 109 0), some (vI c), some (vI g), some (vI w), some (vI (i + 1)), none] [] T ?_
        refine ih_5 _ ?_ w (i + 1) (Nat.le_refl _) ?_ ?_
        · have hm_5 := hm_5 (); omega
        · omega
        · exact oc3
      have c_73 : (i < 40 ∧ i < T 109 0 9) → (OCc_ T c g i) → J_ zX9_openBetween T (po_X9_openBetween_g T c g) 0 0 73 [some (vR 109 0), some (vI c), some (vI g), some (vI u), some (vI i), none] [] T := by
        intro  i2 c73
        refine j_blx (F := fX9) tb_X9 (nn_ _) bk_X9_openBetween_g_73 bs_X9_openBetween_g_73 hz (fun K hK => ?_)
        refine rg_i (by omega) ?_
        refine hK 76 [some (vR 109 0), some (vI c), some (vI g), some (vI (u + 1)), some (vI i), none] [] T ?_
        refine c_76 (u + 1) ?_ ?_
        · omega
        · rw [oc7_t (by omega) c73]
          omega
      refine j_blx (F := fX9) tb_X9 (nn_ _) bk_X9_openBetween_g_5 bs_X9_openBetween_g_5 hz (fun K hK => ?_)
      intro b1 b1b
      refine And.intro (fun c2 => ?_) (fun c2 => ?_)
      · refine hK 82 _ [] T ?_
        refine j_blx (F := fX9) tb_X9 (nn_ _) bk_X9_openBetween_g_82 bs_X9_openBetween_g_82 hz (fun K hK => ?_)
        refine (show po_X9_openBetween_g T c g T (some (vI u)) from ?_)
        exact ⟨rfl, _, rfl, by omega, by rw [show T 109 0 9 = i by omega]; exact oc1⟩
      · refine ix_i (by omega) ?_
        intro b3 b3b
        refine ix_i (by omega) ?_
        refine And.intro (fun c4 => ?_) (fun c4 => ?_)
        · exact absurd c4 (hka.2 _ (by have := hq9.2 i (by omega) (by omega); omega) (by have := hq9.2 i (by omega) (by omega); omega))
        · intro b5 b5b
          refine And.intro (fun c6 => ?_) (fun c6 => ?_)
          · refine hK 52 [some (vR 109 0), some (vI c), some (vI g), some (vI u), some (vI i), some (vR 102 (T 588 0 i))] [] T ?_
            refine j_blx (F := fX9) tb_X9 (nn_ _) bk_X9_openBetween_g_52 bs_X9_openBetween_g_52 hz (fun K hK => ?_)
            intro b7 b7b
            refine And.intro (fun c8 => ?_) (fun c8 => ?_)
            · refine hK 76 _ [] T ?_
              refine j_drq [some (vR 109 0), some (vI c), some (vI g), some (vI u), some (vI i), none] (drq_s (drq_s (drq_s (drq_s (drq_s (drq_n drq_0)))))) ?_
              refine c_76 u ?_ ?_
              · omega
              · rw [oc7_f (by omega) (fun z => by
                  rcases z with z | z
                  · omega
                  · omega)]
                omega
            · intro b9 b9b
              intro w10 w10b
              intro w11 w11b
              refine And.intro (fun c12 => ?_) (fun c12 => ?_)
              · refine hK 76 [some (vR 109 0), some (vI c), some (vI g), some (vI u), some (vI i), some (vR 102 (T 588 0 i))] [] T ?_
                refine j_drq [some (vR 109 0), some (vI c), some (vI g), some (vI u), some (vI i), none] (drq_s (drq_s (drq_s (drq_s (drq_s (drq_n drq_0)))))) ?_
                refine c_76 u ?_ ?_
                · omega
                · rw [oc7_f (by omega) (fun z => by
                    rcases z with z | z
                    · omega
                    · omega)]
                  omega
              · refine hK 73 [some (vR 109 0), some (vI c), some (vI g), some (vI u), some (vI i), some (vR 102 (T 588 0 i))] [] T ?_
                refine j_drq [some (vR 109 0), some (vI c), some (vI g), some (vI u), some (vI i), none] (drq_s (drq_s (drq_s (drq_s (drq_s (drq_n drq_0)))))) ?_
                refine c_73  ?_ ?_
                · omega
                · first
                  | exact Or.inl ⟨by omega, by omega⟩
                  | exact Or.inr ⟨by omega, by omega⟩
          · intro b13 b13b
            intro w14 w14b
            intro w15 w15b
            refine And.intro (fun c16 => ?_) (fun c16 => ?_)
            · refine hK 73 _ [] T ?_
              refine j_drq [some (vR 109 0), some (vI c), some (vI g), some (vI u), some (vI i), none] (drq_s (drq_s (drq_s (drq_s (drq_s (drq_n drq_0)))))) ?_
              refine c_73  ?_ ?_
              · omega
              · first
                | exact Or.inl ⟨by omega, by omega⟩
                | exact Or.inr ⟨by omega, by omega⟩
            · intro b17 b17b
              refine And.intro (fun c18 => ?_) (fun c18 => ?_)
              · refine hK 76 [some (vR 109 0), some (vI c), some (vI g), some (vI u), some (vI i), some (vR 102 (T 588 0 i))] [] T ?_
                refine j_drq [some (vR 109 0), some (vI c), some (vI g), some (vI u), some (vI i), none] (drq_s (drq_s (drq_s (drq_s (drq_s (drq_n drq_0)))))) ?_
                refine c_76 u ?_ ?_
                · omega
                · rw [oc7_f (by omega) (fun z => by
                    rcases z with z | z
                    · omega
                    · omega)]
                  omega
              · intro b19 b19b
                intro w20 w20b
                intro w21 w21b
                refine And.intro (fun c22 => ?_) (fun c22 => ?_)
                · refine hK 76 [some (vR 109 0), some (vI c), some (vI g), some (vI u), some (vI i), some (vR 102 (T 588 0 i))] [] T ?_
                  refine j_drq [some (vR 109 0), some (vI c), some (vI g), some (vI u), some (vI i), none] (drq_s (drq_s (drq_s (drq_s (drq_s (drq_n drq_0)))))) ?_
                  refine c_76 u ?_ ?_
                  · omega
                  · rw [oc7_f (by omega) (fun z => by
                      rcases z with z | z
                      · omega
                      · omega)]
                    omega
                · refine hK 73 [some (vR 109 0), some (vI c), some (vI g), some (vI u), some (vI i), some (vR 102 (T 588 0 i))] [] T ?_
                  refine j_drq [some (vR 109 0), some (vI c), some (vI g), some (vI u), some (vI i), none] (drq_s (drq_s (drq_s (drq_s (drq_s (drq_n drq_0)))))) ?_
                  refine c_73  ?_ ?_
                  · omega
                  · first
                    | exact Or.inl ⟨by omega, by omega⟩
                    | exact Or.inr ⟨by omega, by omega⟩
  refine j_blx (F := fX9) tb_X9 (nn_ _) bk_X9_openBetween_g_0 bs_X9_openBetween_g_0 hz (fun K hK => ?_)
  refine hK 5 [some (vR 109 0), some (vI c), some (vI g), some (vI 0), some (vI 0), none] [] T ?_
  refine c_5 _ 0 0 (Nat.le_refl _) ?_ ?_
  · omega
  · exact rfl
theorem bk_J6_ntz_g_0 : ck_ fJ6 (some .int) cJ6_numberOfTrailingZeros_0f7a4 0 [.iload 0, .iconst (-1), .ixor, .iload 0, .iconst 1, .isub, .iand, .istore 0, .iload 0, .ifCond .gt 17, .iload 0, .iconst 32, .iand, .ireturn] 17 = true := qck_r (nn_ _) (by decide +kernel)
theorem bs_J6_ntz_g_0 {P : Zt → Option Zv → Prop} (K : Int → Zl → List Zv → Zt → Prop) : sx_ K P [.iload 0, .iconst (-1), .ixor, .iload 0, .iconst 1, .isub, .iand, .istore 0, .iload 0, .ifCond .gt 17, .iload 0, .iconst 32, .iand, .ireturn] 17 = x_iload 0 (x_iconst (-1) (x_ixor (x_iload 0 (x_iconst 1 (x_isub (x_iand (x_istore 0 (x_iload 0 (x_ifCond .gt 17 K (x_iload 0 (x_iconst 32 (x_iand (x_ireturn P))))))))))))) := ((xe_iload 0).trans (congrArg (x_iload 0) ((xe_iconst (-1)).trans (congrArg (x_iconst (-1)) ((xe_ixor).trans (congrArg (x_ixor) ((xe_iload 0).trans (congrArg (x_iload 0) ((xe_iconst 1).trans (congrArg (x_iconst 1) ((xe_isub).trans (congrArg (x_isub) ((xe_iand).trans (congrArg (x_iand) ((xe_istore 0).trans (congrArg (x_istore 0) ((xe_iload 0).trans (congrArg (x_iload 0) ((xe_ifCond .gt 17).trans (congrArg (x_ifCond .gt 17 K) ((xe_iload 0).trans (congrArg (x_iload 0) ((xe_iconst 32).trans (congrArg (x_iconst 32) ((xe_iand).trans (congrArg (x_iand) (xe_ireturn)))))))))))))))))))))))))))
theorem bk_J6_ntz_g_17 : ck_ fJ6 (some .int) cJ6_numberOfTrailingZeros_0f7a4 17 [.iconst 1, .istore 1, .iload 0, .iconst 65536, .if_icmp .le 34, .iinc 1 16, .iload 0, .iconst 16, .iushr, .istore 0, .iload 0, .iconst 256, .if_icmp .le 49, .iinc 1 8, .iload 0, .iconst 8, .iushr, .istore 0, .iload 0, .iconst 16, .if_icmp .le 62, .iinc 1 4, .iload 0, .iconst 4, .iushr, .istore 0, .iload 0, .iconst 4, .if_icmp .le 74, .iinc 1 2, .iload 0, .iconst 2, .iushr, .istore 0, .iload 1, .iload 0, .iconst 1, .iushr, .iadd, .ireturn] 80 = true := qck_r (nn_ _) (by decide +kernel)
theorem bs_J6_ntz_g_17 {P : Zt → Option Zv → Prop} (K : Int → Zl → List Zv → Zt → Prop) : sx_ K P [.iconst 1, .istore 1, .iload 0, .iconst 65536, .if_icmp .le 34, .iinc 1 16, .iload 0, .iconst 16, .iushr, .istore 0, .iload 0, .iconst 256, .if_icmp .le 49, .iinc 1 8, .iload 0, .iconst 8, .iushr, .istore 0, .iload 0, .iconst 16, .if_icmp .le 62, .iinc 1 4, .iload 0, .iconst 4, .iushr, .istore 0, .iload 0, .iconst 4, .if_icmp .le 74, .iinc 1 2, .iload 0, .iconst 2, .iushr, .istore 0, .iload 1, .iload 0, .iconst 1, .iushr, .iadd, .ireturn] 80 = x_iconst 1 (x_istore 1 (x_iload 0 (x_iconst 65536 (x_if_icmp .le 34 K (x_iinc 1 16 (x_iload 0 (x_iconst 16 (x_iushr (x_istore 0 (x_iload 0 (x_iconst 256 (x_if_icmp .le 49 K (x_iinc 1 8 (x_iload 0 (x_iconst 8 (x_iushr (x_istore 0 (x_iload 0 (x_iconst 16 (x_if_icmp .le 62 K (x_iinc 1 4 (x_iload 0 (x_iconst 4 (x_iushr (x_istore 0 (x_iload 0 (x_iconst 4 (x_if_icmp .le 74 K (x_iinc 1 2 (x_iload 0 (x_iconst 2 (x_iushr (x_istore 0 (x_iload 1 (x_iload 0 (x_iconst 1 (x_iushr (x_iadd (x_ireturn P))))))))))))))))))))))))))))))))))))))) := ((xe_iconst 1).trans (congrArg (x_iconst 1) ((xe_istore 1).trans (congrArg (x_istore 1) ((xe_iload 0).trans (congrArg (x_iload 0) ((xe_iconst 65536).trans (congrArg (x_iconst 65536) ((xe_if_icmp .le 34).trans (congrArg (x_if_icmp .le 34 K) ((xe_iinc 1 16).trans (congrArg (x_iinc 1 16) ((xe_iload 0).trans (congrArg (x_iload 0) ((xe_iconst 16).trans (congrArg (x_iconst 16) ((xe_iushr).trans (congrArg (x_iushr) ((xe_istore 0).trans (congrArg (x_istore 0) ((xe_iload 0).trans (congrArg (x_iload 0) ((xe_iconst 256).trans (congrArg (x_iconst 256) ((xe_if_icmp .le 49).trans (congrArg (x_if_icmp .le 49 K) ((xe_iinc 1 8).trans (congrArg (x_iinc 1 8) ((xe_iload 0).trans (congrArg (x_iload 0) ((xe_iconst 8).trans (congrArg (x_iconst 8) ((xe_iushr).trans (congrArg (x_iushr) ((xe_istore 0).trans (congrArg (x_istore 0) ((xe_iload 0).trans (congrArg (x_iload 0) ((xe_iconst 16).trans (congrArg (x_iconst 16) ((xe_if_icmp .le 62).trans (congrArg (x_if_icmp .le 62 K) ((xe_iinc 1 4).trans (congrArg (x_iinc 1 4) ((xe_iload 0).trans (congrArg (x_iload 0) ((xe_iconst 4).trans (congrArg (x_iconst 4) ((xe_iushr).trans (congrArg (x_iushr) ((xe_istore 0).trans (congrArg (x_istore 0) ((xe_iload 0).trans (congrArg (x_iload 0) ((xe_iconst 4).trans (congrArg (x_iconst 4) ((xe_if_icmp .le 74).trans (congrArg (x_if_icmp .le 74 K) ((xe_iinc 1 2).trans (congrArg (x_iinc 1 2) ((xe_iload 0).trans (congrArg (x_iload 0) ((xe_iconst 2).trans (congrArg (x_iconst 2) ((xe_iushr).trans (congrArg (x_iushr) ((xe_istore 0).trans (congrArg (x_istore 0) ((xe_iload 1).trans (congrArg (x_iload 1) ((xe_iload 0).trans (congrArg (x_iload 0) ((xe_iconst 1).trans (congrArg (x_iconst 1) ((xe_iushr).trans (congrArg (x_iushr) ((xe_iadd).trans (congrArg (x_iadd) (xe_ireturn)))))))))))))))))))))))))))))))))))))))))))))))))))))))))))))))))))))))))))))))
theorem bk_J6_ntz_g_34 : ck_ fJ6 (some .int) cJ6_numberOfTrailingZeros_0f7a4 34 [.iload 0, .iconst 256, .if_icmp .le 49, .iinc 1 8, .iload 0, .iconst 8, .iushr, .istore 0, .iload 0, .iconst 16, .if_icmp .le 62, .iinc 1 4, .iload 0, .iconst 4, .iushr, .istore 0, .iload 0, .iconst 4, .if_icmp .le 74, .iinc 1 2, .iload 0, .iconst 2, .iushr, .istore 0, .iload 1, .iload 0, .iconst 1, .iushr, .iadd, .ireturn] 80 = true := qck_r (nn_ _) (by decide +kernel)
theorem bs_J6_ntz_g_34 {P : Zt → Option Zv → Prop} (K : Int → Zl → List Zv → Zt → Prop) : sx_ K P [.iload 0, .iconst 256, .if_icmp .le 49, .iinc 1 8, .iload 0, .iconst 8, .iushr, .istore 0, .iload 0, .iconst 16, .if_icmp .le 62, .iinc 1 4, .iload 0, .iconst 4, .iushr, .istore 0, .iload 0, .iconst 4, .if_icmp .le 74, .iinc 1 2, .iload 0, .iconst 2, .iushr, .istore 0, .iload 1, .iload 0, .iconst 1, .iushr, .iadd, .ireturn] 80 = x_iload 0 (x_iconst 256 (x_if_icmp .le 49 K (x_iinc 1 8 (x_iload 0 (x_iconst 8 (x_iushr (x_istore 0 (x_iload 0 (x_iconst 16 (x_if_icmp .le 62 K (x_iinc 1 4 (x_iload 0 (x_iconst 4 (x_iushr (x_istore 0 (x_iload 0 (x_iconst 4 (x_if_icmp .le 74 K (x_iinc 1 2 (x_iload 0 (x_iconst 2 (x_iushr (x_istore 0 (x_iload 1 (x_iload 0 (x_iconst 1 (x_iushr (x_iadd (x_ireturn P))))))))))))))))))))))))))))) := ((xe_iload 0).trans (congrArg (x_iload 0) ((xe_iconst 256).trans (congrArg (x_iconst 256) ((xe_if_icmp .le 49).trans (congrArg (x_if_icmp .le 49 K) ((xe_iinc 1 8).trans (congrArg (x_iinc 1 8) ((xe_iload 0).trans (congrArg (x_iload 0) ((xe_iconst 8).trans (congrArg (x_iconst 8) ((xe_iushr).trans (congrArg (x_iushr) ((xe_istore 0).trans (congrArg (x_istore 0) ((xe_iload 0).trans (congrArg (x_iload 0) ((xe_iconst 16).trans (congrArg (x_iconst 16) ((xe_if_icmp .le 62).trans (congrArg (x_if_icmp .le 62 K) ((xe_iinc 1 4).trans (congrArg (x_iinc 1 4) ((xe_iload 0).trans (congrArg (x_iload 0) ((xe_iconst 4).trans (congrArg (x_iconst 4) ((xe_iushr).trans (congrArg (x_iushr) ((xe_istore 0).trans (congrArg (x_istore 0) ((xe_iload 0).trans (congrArg (x_iload 0) ((xe_iconst 4).trans (congrArg (x_iconst 4) ((xe_if_icmp .le 74).trans (congrArg (x_if_icmp .le 74 K) ((xe_iinc 1 2).trans (congrArg (x_iinc 1 2) ((xe_iload 0).trans (congrArg (x_iload 0) ((xe_iconst 2).trans (congrArg (x_iconst 2) ((xe_iushr).trans (congrArg (x_iushr) ((xe_istore 0).trans (congrArg (x_istore 0) ((xe_iload 1).trans (congrArg (x_iload 1) ((xe_iload 0).trans (congrArg (x_iload 0) ((xe_iconst 1).trans (congrArg (x_iconst 1) ((xe_iushr).trans (congrArg (x_iushr) ((xe_iadd).trans (congrArg (x_iadd) (xe_ireturn)))))))))))))))))))))))))))))))))))))))))))))))))))))))))))
theorem bk_J6_ntz_g_49 : ck_ fJ6 (some .int) cJ6_numberOfTrailingZeros_0f7a4 49 [.iload 0, .iconst 16, .if_icmp .le 62, .iinc 1 4, .iload 0, .iconst 4, .iushr, .istore 0, .iload 0, .iconst 4, .if_icmp .le 74, .iinc 1 2, .iload 0, .iconst 2, .iushr, .istore 0, .iload 1, .iload 0, .iconst 1, .iushr, .iadd, .ireturn] 80 = true := qck_r (nn_ _) (by decide +kernel)
theorem bs_J6_ntz_g_49 {P : Zt → Option Zv → Prop} (K : Int → Zl → List Zv → Zt → Prop) : sx_ K P [.iload 0, .iconst 16, .if_icmp .le 62, .iinc 1 4, .iload 0, .iconst 4, .iushr, .istore 0, .iload 0, .iconst 4, .if_icmp .le 74, .iinc 1 2, .iload 0, .iconst 2, .iushr, .istore 0, .iload 1, .iload 0, .iconst 1, .iushr, .iadd, .ireturn] 80 = x_iload 0 (x_iconst 16 (x_if_icmp .le 62 K (x_iinc 1 4 (x_iload 0 (x_iconst 4 (x_iushr (x_istore 0 (x_iload 0 (x_iconst 4 (x_if_icmp .le 74 K (x_iinc 1 2 (x_iload 0 (x_iconst 2 (x_iushr (x_istore 0 (x_iload 1 (x_iload 0 (x_iconst 1 (x_iushr (x_iadd (x_ireturn P))))))))))))))))))))) := ((xe_iload 0).trans (congrArg (x_iload 0) ((xe_iconst 16).trans (congrArg (x_iconst 16) ((xe_if_icmp .le 62).trans (congrArg (x_if_icmp .le 62 K) ((xe_iinc 1 4).trans (congrArg (x_iinc 1 4) ((xe_iload 0).trans (congrArg (x_iload 0) ((xe_iconst 4).trans (congrArg (x_iconst 4) ((xe_iushr).trans (congrArg (x_iushr) ((xe_istore 0).trans (congrArg (x_istore 0) ((xe_iload 0).trans (congrArg (x_iload 0) ((xe_iconst 4).trans (congrArg (x_iconst 4) ((xe_if_icmp .le 74).trans (congrArg (x_if_icmp .le 74 K) ((xe_iinc 1 2).trans (congrArg (x_iinc 1 2) ((xe_iload 0).trans (congrArg (x_iload 0) ((xe_iconst 2).trans (congrArg (x_iconst 2) ((xe_iushr).trans (congrArg (x_iushr) ((xe_istore 0).trans (congrArg (x_istore 0) ((xe_iload 1).trans (congrArg (x_iload 1) ((xe_iload 0).trans (congrArg (x_iload 0) ((xe_iconst 1).trans (congrArg (x_iconst 1) ((xe_iushr).trans (congrArg (x_iushr) ((xe_iadd).trans (congrArg (x_iadd) (xe_ireturn)))))))))))))))))))))))))))))))))))))))))))
theorem bk_J6_ntz_g_62 : ck_ fJ6 (some .int) cJ6_numberOfTrailingZeros_0f7a4 62 [.iload 0, .iconst 4, .if_icmp .le 74, .iinc 1 2, .iload 0, .iconst 2, .iushr, .istore 0, .iload 1, .iload 0, .iconst 1, .iushr, .iadd, .ireturn] 80 = true := qck_r (nn_ _) (by decide +kernel)
theorem bs_J6_ntz_g_62 {P : Zt → Option Zv → Prop} (K : Int → Zl → List Zv → Zt → Prop) : sx_ K P [.iload 0, .iconst 4, .if_icmp .le 74, .iinc 1 2, .iload 0, .iconst 2, .iushr, .istore 0, .iload 1, .iload 0, .iconst 1, .iushr, .iadd, .ireturn] 80 = x_iload 0 (x_iconst 4 (x_if_icmp .le 74 K (x_iinc 1 2 (x_iload 0 (x_iconst 2 (x_iushr (x_istore 0 (x_iload 1 (x_iload 0 (x_iconst 1 (x_iushr (x_iadd (x_ireturn P))))))))))))) := ((xe_iload 0).trans (congrArg (x_iload 0) ((xe_iconst 4).trans (congrArg (x_iconst 4) ((xe_if_icmp .le 74).trans (congrArg (x_if_icmp .le 74 K) ((xe_iinc 1 2).trans (congrArg (x_iinc 1 2) ((xe_iload 0).trans (congrArg (x_iload 0) ((xe_iconst 2).trans (congrArg (x_iconst 2) ((xe_iushr).trans (congrArg (x_iushr) ((xe_istore 0).trans (congrArg (x_istore 0) ((xe_iload 1).trans (congrArg (x_iload 1) ((xe_iload 0).trans (congrArg (x_iload 0) ((xe_iconst 1).trans (congrArg (x_iconst 1) ((xe_iushr).trans (congrArg (x_iushr) ((xe_iadd).trans (congrArg (x_iadd) (xe_ireturn)))))))))))))))))))))))))))
theorem bk_J6_ntz_g_74 : ck_ fJ6 (some .int) cJ6_numberOfTrailingZeros_0f7a4 74 [.iload 1, .iload 0, .iconst 1, .iushr, .iadd, .ireturn] 80 = true := qck_r (nn_ _) (by decide +kernel)
theorem bs_J6_ntz_g_74 {P : Zt → Option Zv → Prop} (K : Int → Zl → List Zv → Zt → Prop) : sx_ K P [.iload 1, .iload 0, .iconst 1, .iushr, .iadd, .ireturn] 80 = x_iload 1 (x_iload 0 (x_iconst 1 (x_iushr (x_iadd (x_ireturn P))))) := ((xe_iload 1).trans (congrArg (x_iload 1) ((xe_iload 0).trans (congrArg (x_iload 0) ((xe_iconst 1).trans (congrArg (x_iconst 1) ((xe_iushr).trans (congrArg (x_iushr) ((xe_iadd).trans (congrArg (x_iadd) (xe_ireturn)))))))))))
abbrev po_J6_ntz_g (T : Zt) (a : Int) : Zt → Option Zv → Prop := fun T' r => T = T' ∧ ∃ x : Int, r = some (vI x) ∧ (0 ≤ x ∧ x ≤ 11 ∧ an_ (sr_ a x) 1 = 1 ∧ ∀ j : Int, 0 ≤ j → j < x → an_ (sr_ a j) 1 = 0)
set_option maxHeartbeats 4000000 in
theorem ct_J6_ntz_g {T : Zt} {a : Int} (h1 : 1 ≤ a ∧ a ≤ 4095) : Ct_ yJ6_numberOfTrailingZeros_0f7a4 zJ6_numberOfTrailingZeros_0f7a4 T [vI a] (po_J6_ntz_g T a) := by
  refine ct_of (by decide) rfl rfl (Nat.le_of_ble_eq_true rfl) (fun hT hav => ?_)
  have hr_a : -2147483648 ≤ a ∧ a ≤ 2147483647 := hav (vI a) List.mem_cons_self
  have hz : zJ6_numberOfTrailingZeros_0f7a4.2.2.2.1 = some .boolean → ∀ (T' : Zt) (x : Int), po_J6_ntz_g T a T' (some (vI x)) → 0 ≤ x ∧ x ≤ 1 := fun h => by cases h
  have hv : 0 ≤ an_ (xo_ a (-1)) (a - 1) ∧ an_ (xo_ a (-1)) (a - 1) ≤ 2047 := by obtain ⟨x9, p1, p2, p3⟩ := tz_q h1; have p4 : (2 : Nat) ^ x9 ≤ 2 ^ 11 := Nat.pow_le_pow_right (by omega) (by omega); have p5 : 0 < (2 : Nat) ^ x9 := Nat.pow_pos (by omega); rw [p2]; omega
  show J_ zJ6_numberOfTrailingZeros_0f7a4 T (po_J6_ntz_g T a) 0 0 0 [some (vI a), none] [] T
  refine j_blx (F := fJ6) tb_J6 (nn_ _) bk_J6_ntz_g_0 bs_J6_ntz_g_0 hz (fun K hK => ?_)
  intro w1 w1b
  refine rg_i (by omega) ?_
  intro w2 w2b
  refine And.intro (fun c3 => ?_) (fun c3 => ?_)
  · refine hK 17 [some (vI (an_ (xo_ a (-1)) (a - 1))), none] [] T ?_
    refine j_blx (F := fJ6) tb_J6 (nn_ _) bk_J6_ntz_g_17 bs_J6_ntz_g_17 hz (fun K hK => ?_)
    refine And.intro (fun c4 => ?_) (fun c4 => ?_)
    · refine hK 34 [some (vI (an_ (xo_ a (-1)) (a - 1))), some (vI 1)] [] T ?_
      refine j_blx (F := fJ6) tb_J6 (nn_ _) bk_J6_ntz_g_34 bs_J6_ntz_g_34 hz (fun K hK => ?_)
      refine And.intro (fun c5 => ?_) (fun c5 => ?_)
      · refine hK 49 _ [] T ?_
        refine j_blx (F := fJ6) tb_J6 (nn_ _) bk_J6_ntz_g_49 bs_J6_ntz_g_49 hz (fun K hK => ?_)
        refine And.intro (fun c6 => ?_) (fun c6 => ?_)
        · refine hK 62 _ [] T ?_
          refine j_blx (F := fJ6) tb_J6 (nn_ _) bk_J6_ntz_g_62 bs_J6_ntz_g_62 hz (fun K hK => ?_)
          refine And.intro (fun c7 => ?_) (fun c7 => ?_)
          · refine hK 74 _ [] T ?_
            refine j_blx (F := fJ6) tb_J6 (nn_ _) bk_J6_ntz_g_74 bs_J6_ntz_g_74 hz (fun K hK => ?_)
            intro w8 w8b
            have y9 := us_q (v := (an_ (xo_ a (-1)) (a - 1))) (by omega)
            refine rg_i (by omega) ?_
            refine (show po_J6_ntz_g T a T (some (vI (1 + (us_ (an_ (xo_ a (-1)) (a - 1)) 1)))) from ?_)
            obtain ⟨x9, p1, p2, p3, p4⟩ := tz_g h1
            refine ⟨rfl, _, rfl, ?_⟩
            have hxx : 1 + (us_ (an_ (xo_ a (-1)) (a - 1)) 1) = (x9 : Int) := by
              have : x9 = 0 ∨ x9 = 1 ∨ x9 = 2 ∨ x9 = 3 ∨ x9 = 4 ∨ x9 = 5 ∨ x9 = 6 ∨ x9 = 7 ∨ x9 = 8 ∨ x9 = 9 ∨ x9 = 10 ∨ x9 = 11 := by omega
              rcases this with rfl | rfl | rfl | rfl | rfl | rfl | rfl | rfl | rfl | rfl | rfl | rfl <;> simp only [Nat.reducePow] at p2 <;> (first | omega | (exfalso; omega))
            rw [hxx]; exact ⟨by omega, by omega, p3, fun j a b => p4 j a b⟩
          · refine rg_i (by omega) ?_
            intro w10 w10b
            have y11 := us_q (v := (an_ (xo_ a (-1)) (a - 1))) (by omega)
            intro w12 w12b
            have y13 := us_q (v := (us_ (an_ (xo_ a (-1)) (a - 1)) 2)) (by omega)
            refine rg_i (by omega) ?_
            refine (show po_J6_ntz_g T a T (some (vI ((1 + 2) + (us_ (us_ (an_ (xo_ a (-1)) (a - 1)) 2) 1)))) from ?_)
            obtain ⟨x9, p1, p2, p3, p4⟩ := tz_g h1
            refine ⟨rfl, _, rfl, ?_⟩
            have hxx : (1 + 2) + (us_ (us_ (an_ (xo_ a (-1)) (a - 1)) 2) 1) = (x9 : Int) := by
              have : x9 = 0 ∨ x9 = 1 ∨ x9 = 2 ∨ x9 = 3 ∨ x9 = 4 ∨ x9 = 5 ∨ x9 = 6 ∨ x9 = 7 ∨ x9 = 8 ∨ x9 = 9 ∨ x9 = 10 ∨ x9 = 11 := by omega
              rcases this with rfl | rfl | rfl | rfl | rfl | rfl | rfl | rfl | rfl | rfl | rfl | rfl <;> simp only [Nat.reducePow] at p2 <;> (first | omega | (exfalso; omega))
            rw [hxx]; exact ⟨by omega, by omega, p3, fun j a b => p4 j a b⟩
        · refine rg_i (by omega) ?_
          intro w14 w14b
          have y15 := us_q (v := (an_ (xo_ a (-1)) (a - 1))) (by omega)
          refine And.intro (fun c16 => ?_) (fun c16 => ?_)
          · refine hK 74 [some (vI (us_ (an_ (xo_ a (-1)) (a - 1)) 4)), some (vI (1 + 4))] [] T ?_
            refine j_blx (F := fJ6) tb_J6 (nn_ _) bk_J6_ntz_g_74 bs_J6_ntz_g_74 hz (fun K hK => ?_)
            intro w17 w17b
            have y18 := us_q (v := (us_ (an_ (xo_ a (-1)) (a - 1)) 4)) (by omega)
            refine rg_i (by omega) ?_
            refine (show po_J6_ntz_g T a T (some (vI ((1 + 4) + (us_ (us_ (an_ (xo_ a (-1)) (a - 1)) 4) 1)))) from ?_)
            obtain ⟨x9, p1, p2, p3, p4⟩ := tz_g h1
            refine ⟨rfl, _, rfl, ?_⟩
            have hxx : (1 + 4) + (us_ (us_ (an_ (xo_ a (-1)) (a - 1)) 4) 1) = (x9 : Int) := by
              have : x9 = 0 ∨ x9 = 1 ∨ x9 = 2 ∨ x9 = 3 ∨ x9 = 4 ∨ x9 = 5 ∨ x9 = 6 ∨ x9 = 7 ∨ x9 = 8 ∨ x9 = 9 ∨ x9 = 10 ∨ x9 = 11 := by omega
              rcases this with rfl | rfl | rfl | rfl | rfl | rfl | rfl | rfl | rfl | rfl | rfl | rfl <;> simp only [Nat.reducePow] at p2 <;> (first | omega | (exfalso; omega))
            rw [hxx]; exact ⟨by omega, by omega, p3, fun j a b => p4 j a b⟩
          · refine rg_i (by omega) ?_
            intro w19 w19b
            have y20 := us_q (v := (us_ (an_ (xo_ a (-1)) (a - 1)) 4)) (by omega)
            intro w21 w21b
            have y22 := us_q (v := (us_ (us_ (an_ (xo_ a (-1)) (a - 1)) 4) 2)) (by omega)
            refine rg_i (by omega) ?_
            refine (show po_J6_ntz_g T a T (some (vI (((1 + 4) + 2) + (us_ (us_ (us_ (an_ (xo_ a (-1)) (a - 1)) 4) 2) 1)))) from ?_)
            obtain ⟨x9, p1, p2, p3, p4⟩ := tz_g h1
            refine ⟨rfl, _, rfl, ?_⟩
            have hxx : ((1 + 4) + 2) + (us_ (us_ (us_ (an_ (xo_ a (-1)) (a - 1)) 4) 2) 1) = (x9 : Int) := by
              have : x9 = 0 ∨ x9 = 1 ∨ x9 = 2 ∨ x9 = 3 ∨ x9 = 4 ∨ x9 = 5 ∨ x9 = 6 ∨ x9 = 7 ∨ x9 = 8 ∨ x9 = 9 ∨ x9 = 10 ∨ x9 = 11 := by omega
              rcases this with rfl | rfl | rfl | rfl | rfl | rfl | rfl | rfl | rfl | rfl | rfl | rfl <;> simp only [Nat.reducePow] at p2 <;> (first | omega | (exfalso; omega))
            rw [hxx]; exact ⟨by omega, by omega, p3, fun j a b => p4 j a b⟩
      · refine rg_i (by omega) ?_
        intro w23 w23b
        have y24 := us_q (v := (an_ (xo_ a (-1)) (a - 1))) (by omega)
        refine And.intro (fun c25 => ?_) (fun c25 => ?_)
        · refine hK 62 [some (vI (us_ (an_ (xo_ a (-1)) (a - 1)) 8)), some (vI (1 + 8))] [] T ?_
          refine j_blx (F := fJ6) tb_J6 (nn_ _) bk_J6_ntz_g_62 bs_J6_ntz_g_62 hz (fun K hK => ?_)
          refine And.intro (fun c26 => ?_) (fun c26 => ?_)
          · refine hK 74 _ [] T ?_
            refine j_blx (F := fJ6) tb_J6 (nn_ _) bk_J6_ntz_g_74 bs_J6_ntz_g_74 hz (fun K hK => ?_)
            intro w27 w27b
            have y28 := us_q (v := (us_ (an_ (xo_ a (-1)) (a - 1)) 8)) (by omega)
            refine rg_i (by omega) ?_
            refine (show po_J6_ntz_g T a T (some (vI ((1 + 8) + (us_ (us_ (an_ (xo_ a (-1)) (a - 1)) 8) 1)))) from ?_)
            obtain ⟨x9, p1, p2, p3, p4⟩ := tz_g h1
            refine ⟨rfl, _, rfl, ?_⟩
            have hxx : (1 + 8) + (us_ (us_ (an_ (xo_ a (-1)) (a - 1)) 8) 1) = (x9 : Int) := by
              have : x9 = 0 ∨ x9 = 1 ∨ x9 = 2 ∨ x9 = 3 ∨ x9 = 4 ∨ x9 = 5 ∨ x9 = 6 ∨ x9 = 7 ∨ x9 = 8 ∨ x9 = 9 ∨ x9 = 10 ∨ x9 = 11 := by omega
              rcases this with rfl | rfl | rfl | rfl | rfl | rfl | rfl | rfl | rfl | rfl | rfl | rfl <;> simp only [Nat.reducePow] at p2 <;> (first | omega | (exfalso; omega))
            rw [hxx]; exact ⟨by omega, by omega, p3, fun j a b => p4 j a b⟩
          · refine rg_i (by omega) ?_
            intro w29 w29b
            have y30 := us_q (v := (us_ (an_ (xo_ a (-1)) (a - 1)) 8)) (by omega)
            intro w31 w31b
            have y32 := us_q (v := (us_ (us_ (an_ (xo_ a (-1)) (a - 1)) 8) 2)) (by omega)
            refine rg_i (by omega) ?_
            refine (show po_J6_ntz_g T a T (some (vI (((1 + 8) + 2) + (us_ (us_ (us_ (an_ (xo_ a (-1)) (a - 1)) 8) 2) 1)))) from ?_)
            obtain ⟨x9, p1, p2, p3, p4⟩ := tz_g h1
            refine ⟨rfl, _, rfl, ?_⟩
            have hxx : ((1 + 8) + 2) + (us_ (us_ (us_ (an_ (xo_ a (-1)) (a - 1)) 8) 2) 1) = (x9 : Int) := by
              have : x9 = 0 ∨ x9 = 1 ∨ x9 = 2 ∨ x9 = 3 ∨ x9 = 4 ∨ x9 = 5 ∨ x9 = 6 ∨ x9 = 7 ∨ x9 = 8 ∨ x9 = 9 ∨ x9 = 10 ∨ x9 = 11 := by omega
              rcases this with rfl | rfl | rfl | rfl | rfl | rfl | rfl | rfl | rfl | rfl | rfl | rfl <;> simp only [Nat.reducePow] at p2 <;> (first | omega | (exfalso; omega))
            rw [hxx]; exact ⟨by omega, by omega, p3, fun j a b => p4 j a b⟩
        · refine rg_i (by omega) ?_
          intro w33 w33b
          have y34 := us_q (v := (us_ (an_ (xo_ a (-1)) (a - 1)) 8)) (by omega)
          refine And.intro (fun c35 => ?_) (fun c35 => ?_)
          · refine hK 74 [some (vI (us_ (us_ (an_ (xo_ a (-1)) (a - 1)) 8) 4)), some (vI ((1 + 8) + 4))] [] T ?_
            refine j_blx (F := fJ6) tb_J6 (nn_ _) bk_J6_ntz_g_74 bs_J6_ntz_g_74 hz (fun K hK => ?_)
            intro w36 w36b
            have y37 := us_q (v := (us_ (us_ (an_ (xo_ a (-1)) (a - 1)) 8) 4)) (by omega)
            refine rg_i (by omega) ?_
            refine (show po_J6_ntz_g T a T (some (vI (((1 + 8) + 4) + (us_ (us_ (us_ (an_ (xo_ a (-1)) (a - 1)) 8) 4) 1)))) from ?_)
            obtain ⟨x9, p1, p2, p3, p4⟩ := tz_g h1
            refine ⟨rfl, _, rfl, ?_⟩
            have hxx : ((1 + 8) + 4) + (us_ (us_ (us_ (an_ (xo_ a (-1)) (a - 1)) 8) 4) 1) = (x9 : Int) := by
              have : x9 = 0 ∨ x9 = 1 ∨ x9 = 2 ∨ x9 = 3 ∨ x9 = 4 ∨ x9 = 5 ∨ x9 = 6 ∨ x9 = 7 ∨ x9 = 8 ∨ x9 = 9 ∨ x9 = 10 ∨ x9 = 11 := by omega
              rcases this with rfl | rfl | rfl | rfl | rfl | rfl | rfl | rfl | rfl | rfl | rfl | rfl <;> simp only [Nat.reducePow] at p2 <;> (first | omega | (exfalso; omega))
            rw [hxx]; exact ⟨by omega, by omega, p3, fun j a b => p4 j a b⟩
          · refine rg_i (by omega) ?_
            intro w38 w38b
            have y39 := us_q (v := (us_ (us_ (an_ (xo_ a (-1)) (a - 1)) 8) 4)) (by omega)
            intro w40 w40b
            have y41 := us_q (v := (us_ (us_ (us_ (an_ (xo_ a (-1)) (a - 1)) 8) 4) 2)) (by omega)
            refine rg_i (by omega) ?_
            refine (show po_J6_ntz_g T a T (some (vI ((((1 + 8) + 4) + 2) + (us_ (us_ (us_ (us_ (an_ (xo_ a (-1)) (a - 1)) 8) 4) 2) 1)))) from ?_)
            obtain ⟨x9, p1, p2, p3, p4⟩ := tz_g h1
            refine ⟨rfl, _, rfl, ?_⟩
            have hxx : (((1 + 8) + 4) + 2) + (us_ (us_ (us_ (us_ (an_ (xo_ a (-1)) (a - 1)) 8) 4) 2) 1) = (x9 : Int) := by
              have : x9 = 0 ∨ x9 = 1 ∨ x9 = 2 ∨ x9 = 3 ∨ x9 = 4 ∨ x9 = 5 ∨ x9 = 6 ∨ x9 = 7 ∨ x9 = 8 ∨ x9 = 9 ∨ x9 = 10 ∨ x9 = 11 := by omega
              rcases this with rfl | rfl | rfl | rfl | rfl | rfl | rfl | rfl | rfl | rfl | rfl | rfl <;> simp only [Nat.reducePow] at p2 <;> (first | omega | (exfalso; omega))
            rw [hxx]; exact ⟨by omega, by omega, p3, fun j a b => p4 j a b⟩
    · exact absurd c4 (by omega)
  · intro w42 w42b
    refine (show po_J6_ntz_g T a T (some (vI (an_ (an_ (xo_ a (-1)) (a - 1)) 32))) from ?_)
    obtain ⟨x9, p1, p2, p3, p4⟩ := tz_g h1
    refine ⟨rfl, _, rfl, ?_⟩
    have hxx : an_ (an_ (xo_ a (-1)) (a - 1)) 32 = (x9 : Int) := by
      have : x9 = 0 ∨ x9 = 1 ∨ x9 = 2 ∨ x9 = 3 ∨ x9 = 4 ∨ x9 = 5 ∨ x9 = 6 ∨ x9 = 7 ∨ x9 = 8 ∨ x9 = 9 ∨ x9 = 10 ∨ x9 = 11 := by omega
      rcases this with rfl | rfl | rfl | rfl | rfl | rfl | rfl | rfl | rfl | rfl | rfl | rfl <;> simp only [Nat.reducePow] at p2 <;> (first | (rw [p2]; decide) | (exfalso; omega))
    rw [hxx]; exact ⟨by omega, by omega, p3, fun j a b => p4 j a b⟩
theorem bk_X9_leastCut_g_72 : ck_ fX9 (some .int) cX9_leastCut 72 [.iload 4, .iconst 4096, .if_icmp .ge 161, .iload 3, .iload 2, .if_icmp .eq 161, .iload 3, .iload 2, .isub, .iload 2, .iand, .istore 3, .iload 3] 92 = true := qck_r (nn_ _) (by decide +kernel)
theorem bs_X9_leastCut_g_72 {P : Zt → Option Zv → Prop} (K : Int → Zl → List Zv → Zt → Prop) : sx_ K P [.iload 4, .iconst 4096, .if_icmp .ge 161, .iload 3, .iload 2, .if_icmp .eq 161, .iload 3, .iload 2, .isub, .iload 2, .iand, .istore 3, .iload 3] 92 = x_iload 4 (x_iconst 4096 (x_if_icmp .ge 161 K (x_iload 3 (x_iload 2 (x_if_icmp .eq 161 K (x_iload 3 (x_iload 2 (x_isub (x_iload 2 (x_iand (x_istore 3 (x_iload 3 (K 92))))))))))))) := ((xe_iload 4).trans (congrArg (x_iload 4) ((xe_iconst 4096).trans (congrArg (x_iconst 4096) ((xe_if_icmp .ge 161).trans (congrArg (x_if_icmp .ge 161 K) ((xe_iload 3).trans (congrArg (x_iload 3) ((xe_iload 2).trans (congrArg (x_iload 2) ((xe_if_icmp .eq 161).trans (congrArg (x_if_icmp .eq 161 K) ((xe_iload 3).trans (congrArg (x_iload 3) ((xe_iload 2).trans (congrArg (x_iload 2) ((xe_isub).trans (congrArg (x_isub) ((xe_iload 2).trans (congrArg (x_iload 2) ((xe_iand).trans (congrArg (x_iand) ((xe_istore 3).trans (congrArg (x_istore 3) ((xe_iload 3).trans (congrArg (x_iload 3) xe_nil))))))))))))))))))))))))))
theorem bk_X9_leastCut_g_161 : ck_ fX9 (some .int) cX9_leastCut 161 [.iconst 0, .ireturn] 163 = true := qck_r (nn_ _) (by decide +kernel)
theorem bs_X9_leastCut_g_161 {P : Zt → Option Zv → Prop} (K : Int → Zl → List Zv → Zt → Prop) : sx_ K P [.iconst 0, .ireturn] 163 = x_iconst 0 (x_ireturn P) := ((xe_iconst 0).trans (congrArg (x_iconst 0) (xe_ireturn)))
theorem bk_X9_leastCut_g_95 : ck_ fX9 (some .int) cX9_leastCut 95 [.istore 5, .iload 3, .iload 3, .iconst 1, .isub, .iand, .istore 6, .aload 0, .tableswitch 0 9 15 #[], .iload 3, .aload 0, .tableswitch 0 9 15 #[], .iload 6, .iaload, .aload 0, .tableswitch 0 9 11 #[], .aload 0, .tableswitch 0 9 5 #[], .tableswitch 0 0 4 #[], .iload 5, .iaload, .iaload, .fadd, .iconst 2, .aload 0, .iload 5, .iload 6] 138 = true := qck_r (nn_ _) (by decide +kernel)
theorem bs_X9_leastCut_g_95 {P : Zt → Option Zv → Prop} (K : Int → Zl → List Zv → Zt → Prop) : sx_ K P [.istore 5, .iload 3, .iload 3, .iconst 1, .isub, .iand, .istore 6, .aload 0, .tableswitch 0 9 15 #[], .iload 3, .aload 0, .tableswitch 0 9 15 #[], .iload 6, .iaload, .aload 0, .tableswitch 0 9 11 #[], .aload 0, .tableswitch 0 9 5 #[], .tableswitch 0 0 4 #[], .iload 5, .iaload, .iaload, .fadd, .iconst 2, .aload 0, .iload 5, .iload 6] 138 = x_istore 5 (x_iload 3 (x_iload 3 (x_iconst 1 (x_isub (x_iand (x_istore 6 (x_aload 0 (x_g5 109 190 15 (x_iload 3 (x_aload 0 (x_g5 109 190 15 (x_iload 6 (x_iaload (x_aload 0 (x_g1 109 591 (x_aload 0 (x_g5 109 100 5 (x_g2 100 404 (x_iload 5 (x_iaload (x_iaload (x_fadd (x_iconst 2 (x_aload 0 (x_iload 5 (x_iload 6 (K 138))))))))))))))))))))))))))) := ((xe_istore 5).trans (congrArg (x_istore 5) ((xe_iload 3).trans (congrArg (x_iload 3) ((xe_iload 3).trans (congrArg (x_iload 3) ((xe_iconst 1).trans (congrArg (x_iconst 1) ((xe_isub).trans (congrArg (x_isub) ((xe_iand).trans (congrArg (x_iand) ((xe_istore 6).trans (congrArg (x_istore 6) ((xe_aload 0).trans (congrArg (x_aload 0) ((xe_g5 (kk := 109) rfl tl_9_15).trans (congrArg (x_g5 109 190 15) ((xe_iload 3).trans (congrArg (x_iload 3) ((xe_aload 0).trans (congrArg (x_aload 0) ((xe_g5 (kk := 109) rfl tl_9_15).trans (congrArg (x_g5 109 190 15) ((xe_iload 6).trans (congrArg (x_iload 6) ((xe_iaload).trans (congrArg (x_iaload) ((xe_aload 0).trans (congrArg (x_aload 0) ((xe_g1 (kk := 109) rfl tl_9_11).trans (congrArg (x_g1 109 591) ((xe_aload 0).trans (congrArg (x_aload 0) ((xe_g5 (kk := 109) rfl tl_9_5).trans (congrArg (x_g5 109 100 5) ((xe_g2 (kk := 100) rfl tl_0_4).trans (congrArg (x_g2 100 404) ((xe_iload 5).trans (congrArg (x_iload 5) ((xe_iaload).trans (congrArg (x_iaload) ((xe_iaload).trans (congrArg (x_iaload) ((xe_fadd).trans (congrArg (x_fadd) ((xe_iconst 2).trans (congrArg (x_iconst 2) ((xe_aload 0).trans (congrArg (x_aload 0) ((xe_iload 5).trans (congrArg (x_iload 5) ((xe_iload 6).trans (congrArg (x_iload 6) xe_nil))))))))))))))))))))))))))))))))))))))))))))))))))))))
theorem bk_X9_leastCut_g_141 : ck_ fX9 (some .int) cX9_leastCut 141 [.imul, .fsub, .iastore, .aload 0, .tableswitch 0 9 15 #[], .iload 3, .iaload, .ifCond .ge 155, .iload 3, .ireturn] 155 = true := qck_r (nn_ _) (by decide +kernel)
theorem bs_X9_leastCut_g_141 {P : Zt → Option Zv → Prop} (K : Int → Zl → List Zv → Zt → Prop) : sx_ K P [.imul, .fsub, .iastore, .aload 0, .tableswitch 0 9 15 #[], .iload 3, .iaload, .ifCond .ge 155, .iload 3, .ireturn] 155 = x_imul (x_fsub (x_iastore (x_aload 0 (x_g5 109 190 15 (x_iload 3 (x_iaload (x_ifCond .ge 155 K (x_iload 3 (x_ireturn P))))))))) := ((xe_imul).trans (congrArg (x_imul) ((xe_fsub).trans (congrArg (x_fsub) ((xe_iastore).trans (congrArg (x_iastore) ((xe_aload 0).trans (congrArg (x_aload 0) ((xe_g5 (kk := 109) rfl tl_9_15).trans (congrArg (x_g5 109 190 15) ((xe_iload 3).trans (congrArg (x_iload 3) ((xe_iaload).trans (congrArg (x_iaload) ((xe_ifCond .ge 155).trans (congrArg (x_ifCond .ge 155 K) ((xe_iload 3).trans (congrArg (x_iload 3) (xe_ireturn)))))))))))))))))))
theorem bk_X9_leastCut_g_155 : ck_ fX9 (some .int) cX9_leastCut 155 [.iinc 4 1, .goto 72] 161 = true := qck_r (nn_ _) (by decide +kernel)
theorem bs_X9_leastCut_g_155 {P : Zt → Option Zv → Prop} (K : Int → Zl → List Zv → Zt → Prop) : sx_ K P [.iinc 4 1, .goto 72] 161 = x_iinc 4 1 (x_goto 72 K) := ((xe_iinc 4 1).trans (congrArg (x_iinc 4 1) (xe_goto 72)))
theorem bk_X9_leastCut_g_27 : ck_ fX9 (some .int) cX9_leastCut 27 [.iload 3, .aload 0, .tableswitch 0 9 5 #[], .tableswitch 0 0 5 #[], .if_icmp .ge 67, .iload 2, .iload 3, .iload 1, .if_icmp .ne 48, .iconst 0, .goto 59] 48 = true := qck_r (nn_ _) (by decide +kernel)
theorem bs_X9_leastCut_g_27 {P : Zt → Option Zv → Prop} (K : Int → Zl → List Zv → Zt → Prop) : sx_ K P [.iload 3, .aload 0, .tableswitch 0 9 5 #[], .tableswitch 0 0 5 #[], .if_icmp .ge 67, .iload 2, .iload 3, .iload 1, .if_icmp .ne 48, .iconst 0, .goto 59] 48 = x_iload 3 (x_aload 0 (x_g5 109 100 5 (x_g0 100 5 0 12 (x_if_icmp .ge 67 K (x_iload 2 (x_iload 3 (x_iload 1 (x_if_icmp .ne 48 K (x_iconst 0 (x_goto 59 K)))))))))) := ((xe_iload 3).trans (congrArg (x_iload 3) ((xe_aload 0).trans (congrArg (x_aload 0) ((xe_g5 (kk := 109) rfl tl_9_5).trans (congrArg (x_g5 109 100 5) ((xe_g0 (kk := 100) rfl tl_0_5).trans (congrArg (x_g0 100 5 0 12) ((xe_if_icmp .ge 67).trans (congrArg (x_if_icmp .ge 67 K) ((xe_iload 2).trans (congrArg (x_iload 2) ((xe_iload 3).trans (congrArg (x_iload 3) ((xe_iload 1).trans (congrArg (x_iload 1) ((xe_if_icmp .ne 48).trans (congrArg (x_if_icmp .ne 48 K) ((xe_iconst 0).trans (congrArg (x_iconst 0) (xe_goto 59)))))))))))))))))))))
theorem bk_X9_leastCut_g_67 : ck_ fX9 (some .int) cX9_leastCut 67 [.iconst 0, .istore 3, .iconst 1, .istore 4] 72 = true := qck_r (nn_ _) (by decide +kernel)
theorem bs_X9_leastCut_g_67 {P : Zt → Option Zv → Prop} (K : Int → Zl → List Zv → Zt → Prop) : sx_ K P [.iconst 0, .istore 3, .iconst 1, .istore 4] 72 = x_iconst 0 (x_istore 3 (x_iconst 1 (x_istore 4 (K 72)))) := ((xe_iconst 0).trans (congrArg (x_iconst 0) ((xe_istore 3).trans (congrArg (x_istore 3) ((xe_iconst 1).trans (congrArg (x_iconst 1) ((xe_istore 4).trans (congrArg (x_istore 4) xe_nil))))))))
theorem bk_X9_leastCut_g_48 : ck_ fX9 (some .int) cX9_leastCut 48 [.iconst 1, .aload 0, .tableswitch 0 9 5 #[], .tableswitch 0 0 3 #[], .iload 3, .iaload, .ishl, .ior, .istore 2, .iinc 3 1, .goto 27] 67 = true := qck_r (nn_ _) (by decide +kernel)
theorem bs_X9_leastCut_g_48 {P : Zt → Option Zv → Prop} (K : Int → Zl → List Zv → Zt → Prop) : sx_ K P [.iconst 1, .aload 0, .tableswitch 0 9 5 #[], .tableswitch 0 0 3 #[], .iload 3, .iaload, .ishl, .ior, .istore 2, .iinc 3 1, .goto 27] 67 = x_iconst 1 (x_aload 0 (x_g5 109 100 5 (x_g2 100 403 (x_iload 3 (x_iaload (x_ishl (x_ior (x_istore 2 (x_iinc 3 1 (x_goto 27 K)))))))))) := ((xe_iconst 1).trans (congrArg (x_iconst 1) ((xe_aload 0).trans (congrArg (x_aload 0) ((xe_g5 (kk := 109) rfl tl_9_5).trans (congrArg (x_g5 109 100 5) ((xe_g2 (kk := 100) rfl tl_0_3).trans (congrArg (x_g2 100 403) ((xe_iload 3).trans (congrArg (x_iload 3) ((xe_iaload).trans (congrArg (x_iaload) ((xe_ishl).trans (congrArg (x_ishl) ((xe_ior).trans (congrArg (x_ior) ((xe_istore 2).trans (congrArg (x_istore 2) ((xe_iinc 3 1).trans (congrArg (x_iinc 3 1) (xe_goto 27)))))))))))))))))))))
theorem bk_X9_leastCut_g_59 : ck_ fX9 (some .int) cX9_leastCut 59 [.ior, .istore 2, .iinc 3 1, .goto 27] 67 = true := qck_r (nn_ _) (by decide +kernel)
theorem bs_X9_leastCut_g_59 {P : Zt → Option Zv → Prop} (K : Int → Zl → List Zv → Zt → Prop) : sx_ K P [.ior, .istore 2, .iinc 3 1, .goto 27] 67 = x_ior (x_istore 2 (x_iinc 3 1 (x_goto 27 K))) := ((xe_ior).trans (congrArg (x_ior) ((xe_istore 2).trans (congrArg (x_istore 2) ((xe_iinc 3 1).trans (congrArg (x_iinc 3 1) (xe_goto 27)))))))
theorem bk_X9_leastCut_g_16 : ck_ fX9 (some .int) cX9_leastCut 16 [.aload 0, .tableswitch 0 9 15 #[], .iconst 0, .iconst 0, .iastore, .iconst 0, .istore 2, .iconst 0, .istore 3] 27 = true := qck_r (nn_ _) (by decide +kernel)
theorem bs_X9_leastCut_g_16 {P : Zt → Option Zv → Prop} (K : Int → Zl → List Zv → Zt → Prop) : sx_ K P [.aload 0, .tableswitch 0 9 15 #[], .iconst 0, .iconst 0, .iastore, .iconst 0, .istore 2, .iconst 0, .istore 3] 27 = x_aload 0 (x_g5 109 190 15 (x_iconst 0 (x_iconst 0 (x_iastore (x_iconst 0 (x_istore 2 (x_iconst 0 (x_istore 3 (K 27))))))))) := ((xe_aload 0).trans (congrArg (x_aload 0) ((xe_g5 (kk := 109) rfl tl_9_15).trans (congrArg (x_g5 109 190 15) ((xe_iconst 0).trans (congrArg (x_iconst 0) ((xe_iconst 0).trans (congrArg (x_iconst 0) ((xe_iastore).trans (congrArg (x_iastore) ((xe_iconst 0).trans (congrArg (x_iconst 0) ((xe_istore 2).trans (congrArg (x_istore 2) ((xe_iconst 0).trans (congrArg (x_iconst 0) ((xe_istore 3).trans (congrArg (x_istore 3) xe_nil))))))))))))))))))
theorem bk_X9_leastCut_g_0 : ck_ fX9 (some .int) cX9_leastCut 0 [.aload 0, .tableswitch 0 9 15 #[], .ifnonnull 16, .aload 0, .iconst 4096] 11 = true := qck_r (nn_ _) (by decide +kernel)
theorem bs_X9_leastCut_g_0 {P : Zt → Option Zv → Prop} (K : Int → Zl → List Zv → Zt → Prop) : sx_ K P [.aload 0, .tableswitch 0 9 15 #[], .ifnonnull 16, .aload 0, .iconst 4096] 11 = x_aload 0 (x_g5 109 190 15 (x_ifnonnull 16 K (x_aload 0 (x_iconst 4096 (K 11))))) := ((xe_aload 0).trans (congrArg (x_aload 0) ((xe_g5 (kk := 109) rfl tl_9_15).trans (congrArg (x_g5 109 190 15) ((xe_ifnonnull 16).trans (congrArg (x_ifnonnull 16 K) ((xe_aload 0).trans (congrArg (x_aload 0) ((xe_iconst 4096).trans (congrArg (x_iconst 4096) xe_nil))))))))))
abbrev po_X9_leastCut_g (T : Zt) (t : Int) : Zt → Option Zv → Prop := fun T' r => ∃ x : Int, r = some (vI x) ∧ fr_ [(109, [15]), (190, []), (191, [0])] T T' ∧ (0 ≤ x ∧ x ≤ 4095) ∧ (T' 109 0 15 ≠ 0 → T' 190 (T' 109 0 15 - 1) (-2) = 4096 ∧ 1 ≤ T' 109 0 15) ∧ KPT_ T T' ∧ lh_ T T' ∧ T' 191 0 0 ≤ T 191 0 0 + 1 ∧ ∃ o : Int, (0 ≤ o ∧ o ≤ 4095) ∧ OG7_ T (T 109 0 5 - 1) t (T 100 (T 109 0 5 - 1) 5) o ∧ ((x = 0 ∧ ∀ u, 0 ≤ u → u ≤ 4095 → an_ u o = u → 0 ≤ vs_ (fun v : Nat => cz_ (T 404 (T 109 0 5 - 1) (v : Int) = -1) 0 (T 591 0 (T 404 (T 109 0 5 - 1) (v : Int)))) (lh7_ (fun j => T 102 (T 588 0 j) 3) (fun j => T 102 (T 588 0 j) 4) (T 109 0 9).toNat 0) (u).toNat) ∨ CU7_ o (lh7_ (fun j => T 102 (T 588 0 j) 3) (fun j => T 102 (T 588 0 j) 4) (T 109 0 9).toNat 0) (fun v : Nat => cz_ (T 404 (T 109 0 5 - 1) (v : Int) = -1) 0 (T 591 0 (T 404 (T 109 0 5 - 1) (v : Int)))) x)
set_option maxHeartbeats 4000000 in
theorem ct_X9_leastCut_g {T : Zt} {t : Int} (hq9 : Q9_ T) (hka : KA_ T) (hsk : SK_ T (T 109 0 5 - 1)) (hcp : ∀ x, 0 ≤ x → x < T 100 (T 109 0 5 - 1) 5 → -1 ≤ T 591 0 x ∧ T 591 0 x ≤ 1000000) (hpr : ∀ k : Int, 0 ≤ k → k < T 109 0 9 → ((0 ≤ T 102 (T 588 0 k) 3 ∧ T 102 (T 588 0 k) 3 < 12) ∧ 0 ≤ T 102 (T 588 0 k) 4 ∧ T 102 (T 588 0 k) 4 < 12) ∧ T 102 (T 588 0 k) 3 ≠ T 102 (T 588 0 k) 4) (hke : KEc_ T (T 109 0 5 - 1)) (hsl : T 109 0 15 ≠ 0 → T 190 (T 109 0 15 - 1) (-2) = 4096 ∧ 1 ≤ T 109 0 15) (h9 : 0 ≤ T 191 0 0 ∧ T 191 0 0 ≤ 900000000) : Ct_ yX9_leastCut zX9_leastCut T [vR 109 0, vI t] (po_X9_leastCut_g T t) := by
  refine ct_of pn_9 rfl rfl (Nat.le_of_ble_eq_true rfl) (fun hT hav => ?_)
  have hr_t : -2147483648 ≤ t ∧ t ≤ 2147483647 := hav (vI t) (List.mem_cons_of_mem _ List.mem_cons_self)
  have hz : zX9_leastCut.2.2.2.1 = some .boolean → ∀ (T' : Zt) (x : Int), po_X9_leastCut_g T t T' (some (vI x)) → 0 ≤ x ∧ x ≤ 1 := fun h => by cases h
  have hct := hq9.1
  have hen : 0 ≤ T 100 (T 109 0 5 - 1) 5 ∧ T 100 (T 109 0 5 - 1) 5 ≤ 12 := bd_f hT 100 5 tl_0_5 (T 109 0 5 - 1)
  show J_ zX9_leastCut T (po_X9_leastCut_g T t) 1 4096 0 [some (vR 109 0), some (vI t), none, none, none, none, none] [] T
  have c_16 : ∀ (b : Int) (T1 : Zt), (fr_ [(109, [15]), (190, []), (191, [0])] T T1) → (T1 109 0 15 = b + 1 ∧ T1 190 b (-2) = 4096 ∧ 0 ≤ b) → (lh_ T T1 ∧ T1 191 0 0 ≤ T 191 0 0 + 1) → (KPT_ T T1) → J_ zX9_leastCut T (po_X9_leastCut_g T t) 0 0 16 [some (vR 109 0), some (vI t), none, none, none, none, none] [] T1 := by
    intro b T1 hf_16 l1 h1 k1
    have c_72 : ∀ (nn : Nat) (o : Int) (g : Int) (j : Int) (T3 : Zt), ((4096 - j).toNat) ≤ nn → (fr_ [(109, [15]), (190, []), (191, [0])] T T3) → (0 ≤ o ∧ o ≤ 4095 ∧ 0 ≤ g ∧ g < 4096 ∧ 1 ≤ j ∧ j - 1 ≤ g) → (OG7_ T (T 109 0 5 - 1) t (T 100 (T 109 0 5 - 1) 5) o) → (∀ u, 0 ≤ u → u ≤ g → an_ u o = u → T3 190 b u = vs_ (fun v : Nat => cz_ (T 404 (T 109 0 5 - 1) (v : Int) = -1) 0 (T 591 0 (T 404 (T 109 0 5 - 1) (v : Int)))) (lh7_ (fun j => T 102 (T 588 0 j) 3) (fun j => T 102 (T 588 0 j) 4) (T 109 0 9).toNat 0) (u).toNat ∧ 0 ≤ vs_ (fun v : Nat => cz_ (T 404 (T 109 0 5 - 1) (v : Int) = -1) 0 (T 591 0 (T 404 (T 109 0 5 - 1) (v : Int)))) (lh7_ (fun j => T 102 (T 588 0 j) 3) (fun j => T 102 (T 588 0 j) 4) (T 109 0 9).toNat 0) (u).toNat) → (an_ g o = g) → (OB_ T (T 109 0 5 - 1) o) → (T3 109 0 15 = b + 1 ∧ T3 190 b (-2) = 4096 ∧ 0 ≤ b) → (lh_ T T3 ∧ T3 191 0 0 ≤ T 191 0 0 + 1) → (KPT_ T T3) → J_ zX9_leastCut T (po_X9_leastCut_g T t) 0 0 72 [some (vR 109 0), some (vI t), some (vI o), some (vI g), some (vI j), none, none] [] T3 := by
      intro nn
      induction nn using Nat.strongRecOn with
      | _ nn ih_72 =>
        intro o g j T3 hm_72 hf_72 i3 og3 sv3 n3 obo l3 h3 k3
        replace hm_72 := fun (_ : Unit) => hm_72
        refine j_blx (F := fX9) tb_X9 (nn_ _) bk_X9_leastCut_g_72 bs_X9_leastCut_g_72 hz (fun K hK => ?_)
        refine And.intro (fun c1 => ?_) (fun c1 => ?_)
        · refine hK 161 _ [] T3 ?_
          refine j_blx (F := fX9) tb_X9 (nn_ _) bk_X9_leastCut_g_161 bs_X9_leastCut_g_161 hz (fun K hK => ?_)
          refine (show po_X9_leastCut_g T t T3 (some (vI 0)) from ?_)
          exact ⟨_, rfl, hf_72, by omega, fun _ => ⟨by rw [show T3 109 0 15 - 1 = b by omega]; exact l3.2.1, by omega⟩, k3, h3.1, h3.2, ⟨o, by omega, og3, Or.inl ⟨rfl, fun u a b e => by
            have y := an7_l (by omega) (by omega) e
            exact (sv3 u a (by omega) e).2⟩⟩⟩
        · refine And.intro (fun c2 => ?_) (fun c2 => ?_)
          · refine hK 161 _ [] T3 ?_
            refine j_blx (F := fX9) tb_X9 (nn_ _) bk_X9_leastCut_g_161 bs_X9_leastCut_g_161 hz (fun K hK => ?_)
            refine (show po_X9_leastCut_g T t T3 (some (vI 0)) from ?_)
            exact ⟨_, rfl, hf_72, by omega, fun _ => ⟨by rw [show T3 109 0 15 - 1 = b by omega]; exact l3.2.1, by omega⟩, k3, h3.1, h3.2, ⟨o, by omega, og3, Or.inl ⟨rfl, fun u a b e => by
              have y := an7_l (by omega) (by omega) e
              exact (sv3 u a (by omega) e).2⟩⟩⟩
          · refine rg_i (by omega) ?_
            intro w3 w3b
            obtain ⟨nx0, nx1, nxi⟩ := nx_1 (s := g) (o := o) (by omega) (by omega) n3 (by omega)
            refine hK 92 [some (vR 109 0), some (vI t), some (vI o), some (vI (an_ (g - o) o)), some (vI j), none, none] [vI (an_ (g - o) o)] T3 ?_
            refine j_callS (y := yJ6_numberOfTrailingZeros_0f7a4) (Yc := zJ6_numberOfTrailingZeros_0f7a4) (rest := []) [vI (an_ (g - o) o)] (ct_J6_ntz_g (T := T3) (by omega)) cl_X9_168 (qd_c (by decide +kernel)) (nn_ _) rfl (rf_of rfl) (Nat.le_of_ble_eq_true rfl) (Nat.le_of_ble_eq_true rfl) (Nat.le_of_ble_eq_true rfl) rfl ?_
            rintro _ _ ⟨rfl, x4, rfl, hx4⟩
            have x4b : 0 ≤ x4 ∧ x4 ≤ 11 := ⟨hx4.1, hx4.2.1⟩
            have g5 := obo x4 hx4.1 hx4.2.1 (nx_b (by omega) (by omega) nxi ⟨by omega, by omega⟩ hx4.2.2.1)
            show J_ zX9_leastCut T (po_X9_leastCut_g T t) 0 0 95 _ [vI x4] T3
            refine j_blx (F := fX9) tb_X9 (nn_ _) bk_X9_leastCut_g_95 bs_X9_leastCut_g_95 hz (fun K hK => ?_)
            refine rg_i (by omega) ?_
            intro w5 w5b
            obtain ⟨-, ny0, ny1⟩ := an_1 (s := an_ (g - o) o) (by omega)
            refine And.intro (fun c6 => ?_) (fun c6 => ?_)
            · exact absurd c6 (by omega)
            · have z7 : T3 109 0 15 - 1 = b := by omega
              rw [z7]
              refine And.intro (fun c8 => ?_) (fun c8 => ?_)
              · exact absurd c8 (by omega)
              · have z9 : T3 109 0 15 - 1 = b := by omega
                rw [z9]
                refine ix_i (by omega) ?_
                intro b10 b10b
                have e12 : T3 109 0 5 = T 109 0 5 := hf_72 109 0 5 rfl
                refine And.intro (fun c11 => ?_) (fun c11 => ?_)
                · exact absurd c11 (by omega)
                · have z13 : T3 109 0 5 - 1 = (T 109 0 5 - 1) := by omega
                  rw [z13]
                  refine ix_i (by omega) ?_
                  intro b14 b14b
                  have e15 : T3 404 (T 109 0 5 - 1) x4 = T 404 (T 109 0 5 - 1) x4 := hf_72 404 (T 109 0 5 - 1) x4 rfl
                  rw [e15] at b14 b14b ⊢
                  refine ix_i (by omega) ?_
                  intro b16 b16b
                  have e17 : T3 591 0 (T 404 (T 109 0 5 - 1) x4) = T 591 0 (T 404 (T 109 0 5 - 1) x4) := hf_72 591 0 (T 404 (T 109 0 5 - 1) x4) rfl
                  rw [e17] at b16 b16b ⊢
                  intro w18 w18b
                  refine hK 138 [some (vR 109 0), some (vI t), some (vI o), some (vI (an_ (g - o) o)), some (vI j), some (vI x4), some (vI (an_ (an_ (g - o) o) ((an_ (g - o) o) - 1)))] [vI (an_ (an_ (g - o) o) ((an_ (g - o) o) - 1)), vI x4, vR 109 0, vI 2, vI (wr_ ((T3 190 b (an_ (an_ (g - o) o) ((an_ (g - o) o) - 1))) + (T 591 0 (T 404 (T 109 0 5 - 1) x4)))), vI (an_ (g - o) o), vR 190 b] T3 ?_
                  refine j_callV (y := yX9_openBetween) (Yc := zX9_openBetween) (rest := [vI 2, vI (wr_ ((T3 190 b (an_ (an_ (g - o) o) ((an_ (g - o) o) - 1))) + (T 591 0 (T 404 (T 109 0 5 - 1) x4)))), vI (an_ (g - o) o), vR 190 b]) [vI x4, vI (an_ (an_ (g - o) o) ((an_ (g - o) o) - 1))] (ct_X9_openBetween_g (T := T3) (by exact q9_f hq9 (show fr_ [(109, [15]), (190, []), (191, [0])] T T3 from fr_t (fr_0 _ _) (fr_s hf_72 rfl)) ⟨fun _ _ => rfl, fun _ => rfl, rfl, rfl, rfl, rfl, rfl⟩) (by exact KA__f hka (show fr_ [(109, [15]), (190, []), (191, [0])] T T3 from fr_t (fr_0 _ _) (fr_s hf_72 rfl)) ⟨fun _ => rfl, fun _ => rfl, rfl, rfl, trivial⟩)) cl_X9_173 (qd_c (by decide +kernel)) (nn_ _) rfl (rf_of rfl) (Nat.le_of_ble_eq_true rfl) (Nat.le_of_ble_eq_true rfl) (Nat.le_of_ble_eq_true rfl) rfl ?_
                  rintro _ _ ⟨rfl, x19, rfl, hx19, ox19⟩
                  show J_ zX9_leastCut T (po_X9_leastCut_g T t) 0 0 141 _ [vI x19, vI 2, vI (wr_ ((T3 190 b (an_ (an_ (g - o) o) ((an_ (g - o) o) - 1))) + (T 591 0 (T 404 (T 109 0 5 - 1) x4)))), vI (an_ (g - o) o), vR 190 b] T3
                  refine j_blx (F := fX9) tb_X9 (nn_ _) bk_X9_leastCut_g_141 bs_X9_leastCut_g_141 hz (fun K hK => ?_)
                  refine rg_i (by omega) ?_
                  intro w20 w20b
                  refine iy_i (by omega) (by omega) ?_
                  refine x_nm (fun U21 hU21 => ?_)
                  have e22 := up_f hU21
                  have nx7 := nx7_i (o := o) (s := g) (by omega) (by omega) n3 (by omega)
                  have rs7 : an_ (an_ (g - o) o) ((an_ (g - o) o) - 1) ≤ g := by
                    have y := nx7.2.2 (an_ (an_ (g - o) o) ((an_ (g - o) o) - 1)) (by omega) (by omega) (an_2 (by omega) (by omega) nxi)
                    omega
                  have sr7 := sv3 (an_ (an_ (g - o) o) ((an_ (g - o) o) - 1)) (by omega) rs7 (an_2 (by omega) (by omega) nxi)
                  have fb7 : ∀ k, k < 12 → -1000000 ≤ (fun v : Nat => cz_ (T 404 (T 109 0 5 - 1) (v : Int) = -1) 0 (T 591 0 (T 404 (T 109 0 5 - 1) (v : Int)))) k ∧ (fun v : Nat => cz_ (T 404 (T 109 0 5 - 1) (v : Int) = -1) 0 (T 591 0 (T 404 (T 109 0 5 - 1) (v : Int)))) k ≤ 1000000 := fun k hk => by
                    show -1000000 ≤ cz_ (T 404 (T 109 0 5 - 1) (k : Int) = -1) 0 (T 591 0 (T 404 (T 109 0 5 - 1) (k : Int))) ∧ cz_ (T 404 (T 109 0 5 - 1) (k : Int) = -1) 0 (T 591 0 (T 404 (T 109 0 5 - 1) (k : Int))) ≤ 1000000
                    by_cases z : T 404 (T 109 0 5 - 1) (k : Int) = -1
                    · rw [cz_t z]; decide
                    · rw [cz_f z]
                      have y := (hsk.2 (k : Int) (by omega) (by omega)).resolve_left z
                      have w := hcp _ y.1 y.2.1
                      omega
                  have ll7 : ((lh7_ (fun j => T 102 (T 588 0 j) 3) (fun j => T 102 (T 588 0 j) 4) (T 109 0 9).toNat 0)).length = (T 109 0 9).toNat := lh7_n _ _
                  have vb7 := vs_b (l := (lh7_ (fun j => T 102 (T 588 0 j) 3) (fun j => T 102 (T 588 0 j) 4) (T 109 0 9).toNat 0)) (by decide : (0 : Int) ≤ 1000000) fb7 (an_ (an_ (g - o) o) ((an_ (g - o) o) - 1)).toNat
                  rw [ll7] at vb7
                  have bo7 : 0 ≤ T 109 0 9 ∧ T 109 0 9 ≤ 40 := bd_f hT 109 9 tl_9_9 0
                  have cp7 : (fun v : Nat => cz_ (T 404 (T 109 0 5 - 1) (v : Int) = -1) 0 (T 591 0 (T 404 (T 109 0 5 - 1) (v : Int)))) x4.toNat = T 591 0 (T 404 (T 109 0 5 - 1) x4) := by
                    show cz_ (T 404 (T 109 0 5 - 1) ((x4.toNat : Nat) : Int) = -1) 0 (T 591 0 (T 404 (T 109 0 5 - 1) ((x4.toNat : Nat) : Int))) = _
                    rw [show ((x4.toNat : Nat) : Int) = x4 by omega, cz_f (by omega)]
                  have ky7 := (hsk.2 x4 (by omega) (by omega)).resolve_left (by omega : T 404 (T 109 0 5 - 1) x4 ≠ -1)
                  have cb7 := hcp _ ky7.1 ky7.2.1
                  have oo7 : x19 = oc7_ T x4 (an_ (an_ (g - o) o) ((an_ (g - o) o) - 1)) (T 109 0 9).toNat := by
                    rw [ox19, (show fr_ [(109, [15]), (190, []), (191, [0])] T T3 from fr_t (fr_0 _ _) (fr_s hf_72 rfl)) 109 0 9 rfl, oc7_k (T := T) (U := T3) (fun i j => (show fr_ [(109, [15]), (190, []), (191, [0])] T T3 from fr_t (fr_0 _ _) (fr_s hf_72 rfl)) 102 i j rfl) (fun j => (show fr_ [(109, [15]), (190, []), (191, [0])] T T3 from fr_t (fr_0 _ _) (fr_s hf_72 rfl)) 588 0 j rfl)]
                  have lv7 := lc7_v (T := T) (f := (fun v : Nat => cz_ (T 404 (T 109 0 5 - 1) (v : Int) = -1) 0 (T 591 0 (T 404 (T 109 0 5 - 1) (v : Int))))) (g := (an_ (g - o) o)) (x := x4) (ox := x19) (n := T 109 0 9) (by omega) (by omega) hx4.2.2.1 hx4.2.2.2 bo7.1 hpr rfl cp7.symm oo7
                  rw [← sr7.1] at lv7 vb7
                  have vs9 : wr_ ((wr_ ((T3 190 b (an_ (an_ (g - o) o) ((an_ (g - o) o) - 1))) + (T 591 0 (T 404 (T 109 0 5 - 1) x4)))) - (2 * x19)) = vs_ (fun v : Nat => cz_ (T 404 (T 109 0 5 - 1) (v : Int) = -1) 0 (T 591 0 (T 404 (T 109 0 5 - 1) (v : Int)))) (lh7_ (fun j => T 102 (T 588 0 j) 3) (fun j => T 102 (T 588 0 j) 4) (T 109 0 9).toNat 0) ((an_ (g - o) o)).toNat := by
                    rw [← lv7]
                    rw [wr_9 (x := (T3 190 b (an_ (an_ (g - o) o) ((an_ (g - o) o) - 1))) + (T 591 0 (T 404 (T 109 0 5 - 1) x4))) (by omega), wr_9 (by omega)]
                  have e24 : U21 109 0 15 = T3 109 0 15 := up_k hU21 (by exact Nat.ne_of_beq_eq_false rfl) 0 15
                  refine And.intro (fun c23 => ?_) (fun c23 => ?_)
                  · exact absurd c23 (by omega)
                  · have z25 : U21 109 0 15 - 1 = b := by omega
                    rw [z25]
                    have y26 : U21 190 b (-2) = T3 190 b (-2) := up_g hU21 (fun z => by omega)
                    refine ix_i (by omega) ?_
                    intro b27 b27b
                    have e28 : U21 190 b (an_ (g - o) o) = wr_ ((wr_ ((T3 190 b (an_ (an_ (g - o) o) ((an_ (g - o) o) - 1))) + (T 591 0 (T 404 (T 109 0 5 - 1) x4)))) - (2 * x19)) := up_f hU21
                    rw [e28] at b27 b27b ⊢
                    refine And.intro (fun c29 => ?_) (fun c29 => ?_)
                    · refine hK 155 _ [] U21 ?_
                      refine j_blx (F := fX9) tb_X9 (nn_ _) bk_X9_leastCut_g_155 bs_X9_leastCut_g_155 hz (fun K hK => ?_)
                      refine rg_i (by omega) ?_
                      refine hK 72 [some (vR 109 0), some (vI t), some (vI o), some (vI (an_ (g - o) o)), some (vI (j + 1)), some (vI x4), some (vI (an_ (an_ (g - o) o) ((an_ (g - o) o) - 1)))] [] U21 ?_
                      refine j_drq [some (vR 109 0), some (vI t), some (vI o), some (vI (an_ (g - o) o)), some (vI (j + 1)), none, none] (drq_s (drq_s (drq_s (drq_s (drq_s (drq_n (drq_n drq_0))))))) ?_
                      have e30 : U21 109 0 15 = T3 109 0 15 := up_k hU21 (by exact Nat.ne_of_beq_eq_false rfl) 0 15
                      have e31 : U21 191 0 0 = T3 191 0 0 := up_k hU21 (by exact Nat.ne_of_beq_eq_false rfl) 0 0
                      refine ih_72 _ ?_ o (an_ (g - o) o) (j + 1) U21 (Nat.le_refl _) ?_ ?_ ?_ ?_ ?_ ?_ ?_ ?_ ?_
                      · have hm_72 := hm_72 (); omega
                      · exact fr_u (fr_t (fr_0 _ _) (fr_s hf_72 rfl)) hU21 rfl
                      · omega
                      · exact og3
                      · intro u a b e
                        by_cases z : u = (an_ (g - o) o)
                        · rw [z, up_f hU21]
                          exact ⟨vs9, by rw [← vs9]; omega⟩
                        · rw [up_g hU21 (fun q => z q.2.2)]
                          exact sv3 u a (by
                            have y := nx7.2.2 u a (by omega) e
                            omega) e
                      · exact nxi
                      · exact obo
                      · exact ⟨(up_k hU21 (by exact Nat.ne_of_beq_eq_false rfl) _ _).trans l3.1, (up_g hU21 (fun z => by omega)).trans l3.2.1, l3.2.2⟩
                      · have y3 : U21 191 0 0 = T3 191 0 0 := up_k hU21 (by exact Nat.ne_of_beq_eq_false rfl) _ _
                        exact ⟨lh_t h3.1 ⟨fun x _ => up_g hU21 (fun z => by omega), by omega⟩, by have := h3.2; omega⟩
                      · exact ⟨fun x j hx hn => (up_g hU21 (fun z => by have y9 := k3.2; have y8 := z.2.1; have y7 := l3.1; omega)).trans (k3.1 x j hx hn), by have y1 : U21 109 0 15 = T3 109 0 15 := up_k hU21 (by exact Nat.ne_of_beq_eq_false rfl) _ _; have y3 : U21 191 0 0 = T3 191 0 0 := up_k hU21 (by exact Nat.ne_of_beq_eq_false rfl) _ _; have y9 := k3.2; omega⟩
                    · refine (show po_X9_leastCut_g T t U21 (some (vI (an_ (g - o) o))) from ?_)
                      have e32 : U21 109 0 15 = T3 109 0 15 := up_k hU21 (by exact Nat.ne_of_beq_eq_false rfl) 0 15
                      have e33 : U21 191 0 0 = T3 191 0 0 := up_k hU21 (by exact Nat.ne_of_beq_eq_false rfl) 0 0
                      have y1 : U21 109 0 15 = b + 1 := (up_k hU21 (by exact Nat.ne_of_beq_eq_false rfl) _ _).trans l3.1
                      have y2 : ∀ x, U21 190 x (-2) = T3 190 x (-2) := fun x => up_g hU21 (fun z => by omega)
                      have y3 : U21 191 0 0 = T3 191 0 0 := up_k hU21 (by exact Nat.ne_of_beq_eq_false rfl) _ _
                      have k4 : KPT_ T U21 := ⟨fun x j hx hn => (up_g hU21 (fun z => by have y9 := k3.2; have y8 := z.2.1; have y7 := l3.1; omega)).trans (k3.1 x j hx hn), by have y1 : U21 109 0 15 = T3 109 0 15 := up_k hU21 (by exact Nat.ne_of_beq_eq_false rfl) _ _; have y9 := k3.2; omega⟩
                      exact ⟨_, rfl, fr_u (fr_t (fr_0 _ _) (fr_s hf_72 rfl)) hU21 rfl, by omega, fun _ => ⟨by rw [show U21 109 0 15 - 1 = b by omega, y2]; exact l3.2.1, by omega⟩, k4, lh_t h3.1 ⟨fun x _ => y2 x, by omega⟩, by have := h3.2; omega, ⟨o, by omega, og3, Or.inr ⟨by omega, nxi, by rw [← vs9]; omega, fun t9 a b e => (sv3 t9 a (by
                        have y := nx7.2.2 t9 a (by omega) e
                        omega) e).2⟩⟩⟩
    have c_27 : ∀ (nn : Nat) (o : Int) (k : Int) (T2 : Zt), ((12 - k).toNat) ≤ nn → (fr_ [(109, [15]), (190, []), (191, [0])] T T2) → (0 ≤ o ∧ o ≤ 4095 ∧ 0 ≤ k ∧ k ≤ 12 ∧ k ≤ T 100 (T 109 0 5 - 1) 5) → (OB_ T (T 109 0 5 - 1) o) → (OG7_ T (T 109 0 5 - 1) t k o) → (T2 190 b 0 = 0) → (T2 109 0 15 = b + 1 ∧ T2 190 b (-2) = 4096 ∧ 0 ≤ b) → (lh_ T T2 ∧ T2 191 0 0 ≤ T 191 0 0 + 1) → (KPT_ T T2) → J_ zX9_leastCut T (po_X9_leastCut_g T t) 0 0 27 [some (vR 109 0), some (vI t), some (vI o), some (vI k), none, none, none] [] T2 := by
      intro nn
      induction nn using Nat.strongRecOn with
      | _ nn ih_27 =>
        intro o k T2 hm_27 hf_27 i2 ob2 og2 z2 l2 h2 k2
        replace hm_27 := fun (_ : Unit) => hm_27
        refine j_blx (F := fX9) tb_X9 (nn_ _) bk_X9_leastCut_g_27 bs_X9_leastCut_g_27 hz (fun K hK => ?_)
        have e35 : T2 109 0 5 = T 109 0 5 := hf_27 109 0 5 rfl
        refine And.intro (fun c34 => ?_) (fun c34 => ?_)
        · exact absurd c34 (by omega)
        · have z36 : T2 109 0 5 - 1 = (T 109 0 5 - 1) := by omega
          rw [z36]
          intro b37 b37b
          have e38 : T2 100 (T 109 0 5 - 1) 5 = T 100 (T 109 0 5 - 1) 5 := hf_27 100 (T 109 0 5 - 1) 5 rfl
          rw [e38] at b37 b37b ⊢
          refine And.intro (fun c39 => ?_) (fun c39 => ?_)
          · refine hK 67 _ [] T2 ?_
            refine j_blx (F := fX9) tb_X9 (nn_ _) bk_X9_leastCut_g_67 bs_X9_leastCut_g_67 hz (fun K hK => ?_)
            refine hK 72 [some (vR 109 0), some (vI t), some (vI o), some (vI 0), some (vI 1), none, none] [] T2 ?_
            refine c_72 _ o 0 1 T2 (Nat.le_refl _) ?_ ?_ ?_ ?_ ?_ ?_ ?_ ?_ ?_
            · exact fr_t (fr_0 _ _) (fr_s hf_27 rfl)
            · omega
            · rw [show T 100 (T 109 0 5 - 1) 5 = k by omega]
              exact og2
            · intro u a b e
              have e0 : u = 0 := by omega
              rw [e0, show (0 : Int).toNat = 0 from rfl, vs_0]
              exact ⟨z2, Int.le_refl _⟩
            · exact (an_z (by omega) (by omega)).mpr (by simp)
            · exact ob2
            · exact l2
            · exact h2
            · exact k2
          · refine And.intro (fun c40 => ?_) (fun c40 => ?_)
            · refine hK 48 [some (vR 109 0), some (vI t), some (vI o), some (vI k), none, none, none] [vI o] T2 ?_
              refine j_blx (F := fX9) tb_X9 (nn_ _) bk_X9_leastCut_g_48 bs_X9_leastCut_g_48 hz (fun K hK => ?_)
              have e42 : T2 109 0 5 = T 109 0 5 := hf_27 109 0 5 rfl
              refine And.intro (fun c41 => ?_) (fun c41 => ?_)
              · exact absurd c41 (by omega)
              · have z43 : T2 109 0 5 - 1 = (T 109 0 5 - 1) := by omega
                rw [z43]
                refine ix_i (by omega) ?_
                intro b44 b44b
                have e45 : T2 403 (T 109 0 5 - 1) k = T 403 (T 109 0 5 - 1) k := hf_27 403 (T 109 0 5 - 1) k rfl
                rw [e45] at b44 b44b ⊢
                intro w46 w46b
                intro w47 w47b
                have y48 := or_b (x := o) (y := (sl_ 1 (T 403 (T 109 0 5 - 1) k))) (by omega) (sl_b (by omega))
                refine rg_i (by omega) ?_
                refine hK 27 [some (vR 109 0), some (vI t), some (vI (or_ o (sl_ 1 (T 403 (T 109 0 5 - 1) k)))), some (vI (k + 1)), none, none, none] [] T2 ?_
                refine ih_27 _ ?_ (or_ o (sl_ 1 (T 403 (T 109 0 5 - 1) k))) (k + 1) T2 (Nat.le_refl _) ?_ ?_ ?_ ?_ ?_ ?_ ?_ ?_
                · have hm_27 := hm_27 (); omega
                · exact fr_t (fr_0 _ _) (fr_s hf_27 rfl)
                · omega
                · exact ob_s ob2 (by omega) (by omega) (by rw [hke k (by omega) (by omega)]; omega)
                · exact og7_s og2 (by omega) (by omega) (by omega) (by omega) (by first | rfl | exact hf_27 403 _ _ rfl)
                · exact z2
                · exact l2
                · exact h2
                · exact k2
            · refine hK 59 _ [vI 0, vI o] T2 ?_
              refine j_blx (F := fX9) tb_X9 (nn_ _) bk_X9_leastCut_g_59 bs_X9_leastCut_g_59 hz (fun K hK => ?_)
              intro w49 w49b
              have y50 := or_0 (o := o) (by omega)
              refine rg_i (by omega) ?_
              refine hK 27 [some (vR 109 0), some (vI t), some (vI (or_ o 0)), some (vI (k + 1)), none, none, none] [] T2 ?_
              refine ih_27 _ ?_ (or_ o 0) (k + 1) T2 (Nat.le_refl _) ?_ ?_ ?_ ?_ ?_ ?_ ?_ ?_
              · have hm_27 := hm_27 (); omega
              · exact fr_t (fr_0 _ _) (fr_s hf_27 rfl)
              · omega
              · rw [or_0 (by omega)]; exact ob2
              · rw [or_0 (by omega)]
                exact og7_k og2 (by omega)
              · exact z2
              · exact l2
              · exact h2
              · exact k2
    refine j_blx (F := fX9) tb_X9 (nn_ _) bk_X9_leastCut_g_16 bs_X9_leastCut_g_16 hz (fun K hK => ?_)
    refine And.intro (fun c51 => ?_) (fun c51 => ?_)
    · exact absurd c51 (by omega)
    · have z52 : T1 109 0 15 - 1 = b := by omega
      rw [z52]
      refine iy_i (by omega) (by omega) ?_
      refine x_nm (fun U53 hU53 => ?_)
      have e54 := up_f hU53
      refine hK 27 [some (vR 109 0), some (vI t), some (vI 0), some (vI 0), none, none, none] [] U53 ?_
      have e55 : U53 109 0 15 = T1 109 0 15 := up_k hU53 (by exact Nat.ne_of_beq_eq_false rfl) 0 15
      have e56 : U53 191 0 0 = T1 191 0 0 := up_k hU53 (by exact Nat.ne_of_beq_eq_false rfl) 0 0
      refine c_27 _ 0 0 U53 (Nat.le_refl _) ?_ ?_ ?_ ?_ ?_ ?_ ?_ ?_
      · exact fr_u (fr_t (fr_0 _ _) (fr_s hf_16 rfl)) hU53 rfl
      · omega
      · exact ob_0 _ _
      · exact og7_0
      · exact up_f hU53
      · exact ⟨(up_k hU53 (by exact Nat.ne_of_beq_eq_false rfl) _ _).trans l1.1, (up_g hU53 (fun z => by omega)).trans l1.2.1, l1.2.2⟩
      · have y3 : U53 191 0 0 = T1 191 0 0 := up_k hU53 (by exact Nat.ne_of_beq_eq_false rfl) _ _
        exact ⟨lh_t h1.1 ⟨fun x _ => up_g hU53 (fun z => by omega), by omega⟩, by have := h1.2; omega⟩
      · exact ⟨fun x j hx hn => (up_g hU53 (fun z => by have y9 := k1.2; have y8 := z.2.1; have y7 := l1.1; omega)).trans (k1.1 x j hx hn), by have y1 : U53 109 0 15 = T1 109 0 15 := up_k hU53 (by exact Nat.ne_of_beq_eq_false rfl) _ _; have y3 : U53 191 0 0 = T1 191 0 0 := up_k hU53 (by exact Nat.ne_of_beq_eq_false rfl) _ _; have y9 := k1.2; omega⟩
  refine j_blx (F := fX9) tb_X9 (nn_ _) bk_X9_leastCut_g_0 bs_X9_leastCut_g_0 hz (fun K hK => ?_)
  refine And.intro (fun c57 => ?_) (fun c57 => ?_)
  · refine hK 11 _ [vI 4096, vR 109 0] T ?_
    refine j_newL (bc' := 0) (bs' := 0) (pc := 11) (by decide) (by omega) (by omega) (by omega) (by decide +kernel) (lwq_1 (dqc_m (dqc_m (dqa_m (List.mem_of_getElem? (i := 0) rfl)))) rfl : Cond.arrayClass .int ∈ lw_g) ?_
    refine j_nm (fun U58 hU58 => ?_)
    have fU58 := nv_fr hU58
    have aU58 := nv_t9 hU58
    have lU58 := nv_tl hU58
    have oU58 := nv_to hU58
    show J_ zX9_leastCut T (po_X9_leastCut_g T t) 0 0 13 _ [vR 190 (T 191 0 0), vR 109 0] U58
    refine j_putR (pc := 13) (ci := 9) (j := 15) (by decide) fr5_X9_165 rfl (by decide +kernel) (by omega) (by omega) (by omega) ?_
    refine j_nm (fun U59 hU59 => ?_)
    have e60 := up_f hU59
    show J_ zX9_leastCut T (po_X9_leastCut_g T t) 0 0 16 _ [] U59
    refine j_mono (bc' := 0) (bs' := 0) (by omega) (by omega) ?_
    have e61 : U59 109 0 15 = (T 191 0 0) + 1 := up_f hU59
    have e62 : U59 191 0 0 = U58 191 0 0 := up_k hU59 (by exact Nat.ne_of_beq_eq_false rfl) 0 0
    refine c_16 (T 191 0 0) U59 ?_ ?_ ?_ ?_
    · exact fr_u (fr_t (fr_0 _ _) (fr_s fU58 rfl)) hU59 rfl
    · exact ⟨up_f hU59, (up_k hU59 (by exact Nat.ne_of_beq_eq_false rfl) _ _).trans lU58, by omega⟩
    · have y3 : U59 191 0 0 = U58 191 0 0 := up_k hU59 (by exact Nat.ne_of_beq_eq_false rfl) _ _
      exact ⟨⟨fun x hx => (up_k hU59 (by exact Nat.ne_of_beq_eq_false rfl) _ _).trans (oU58 x (-2) (by omega)), by omega⟩, by omega⟩
    · exact ⟨fun x j hx hn => (up_k hU59 (by exact Nat.ne_of_beq_eq_false rfl) _ _).trans (oU58 x j (by omega)), Or.inr ⟨up_f hU59, by have y3 : U59 191 0 0 = U58 191 0 0 := up_k hU59 (by exact Nat.ne_of_beq_eq_false rfl) _ _; omega⟩⟩
  · refine hK 16 _ [] T ?_
    refine j_mono (bc' := 0) (bs' := 0) (by omega) (by omega) ?_
    refine c_16 (T 109 0 15 - 1) T ?_ ?_ ?_ ?_
    · exact fr_0 _ _
    · exact ⟨by omega, (hsl (by omega)).1, by have := (hsl (by omega)).2; omega⟩
    · exact ⟨lh_r, by omega⟩
    · exact kpt_r
