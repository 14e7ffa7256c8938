-- the house's tally of all, exactly: words
theorem frh_k {T U : Zt} {m b : Int} (h3 : ∀ j, U 473 m j = T 473 m j) (h2 : ∀ j, U 472 m j = T 472 m j) : ∀ n : Nat, fr9h_ U m b n = fr9h_ T m b n
  | 0 => rfl
  | n + 1 => by
    show fr9h_ U m b n + (U 473 m (b + (n : Int)) + cz_ (U 472 m (b + (n : Int)) = 3) 3 0) = fr9h_ T m b n + (T 473 m (b + (n : Int)) + cz_ (T 472 m (b + (n : Int)) = 3) 3 0)
    rw [frh_k h3 h2 n, h3, h2]
theorem vh_g {ws : List (Nat × List Int)} {T T2 : Zt} {d m : Int} (f : fr_ ws T T2) (w : ∀ (k : Nat) (j : Int), k = 102 ∨ k = 103 ∨ k = 401 ∨ k = 449 ∨ k = 468 ∨ k = 472 ∨ k = 473 → fw_ ws k j = false) : vH_ T2 d m = vH_ T d m := by
  have e2 : ∀ j, T2 102 m j = T 102 m j := fun j => f 102 m j (w 102 j (by decide))
  have e3 : ∀ j, T2 103 m j = T 103 m j := fun j => f 103 m j (w 103 j (by decide))
  have e01 : ∀ i j, T2 401 i j = T 401 i j := fun i j => f 401 i j (w 401 j (by decide))
  have e49 : ∀ j, T2 449 m j = T 449 m j := fun j => f 449 m j (w 449 j (by decide))
  have e68 : ∀ j, T2 468 m j = T 468 m j := fun j => f 468 m j (w 468 j (by decide))
  have ef : ∀ b n, fr9h_ T2 m b n = fr9h_ T m b n := fun b n => frh_k (fun j => f 473 m j (w 473 j (by decide))) (fun j => f 472 m j (w 472 j (by decide))) n
  funext i
  simp only [vH_, e2, e3, e01, e49, e68, ef]
theorem vh_s0 {T : Zt} {d m x : Int} (h : (T 102 m 6 ≠ -1 ∧ ((0 = T 102 m 6 ∧ x = 0) ∨ (0 ≠ T 102 m 6 ∧ x = T 401 (T 102 m 0) 12))) ∨ (T 102 m 6 = -1 ∧ ((T 102 m 10 = 0 ∧ x = 0) ∨ (T 102 m 10 ≠ 0 ∧ x = T 468 m 0)))) : vH_ T d m 3 = x := by
  rw [vh_3]
  rcases h with ⟨h1, ⟨h2, h3⟩ | ⟨h2, h3⟩⟩ | ⟨h1, ⟨h2, h3⟩ | ⟨h2, h3⟩⟩
  · rw [cz_t h1, cz_t h2.symm, h3]
  · rw [cz_t h1, cz_f (fun q => h2 q.symm), h3]
  · rw [cz_f (fun q => q h1), cz_t h2, h3]
  · rw [cz_f (fun q => q h1), cz_f h2, h3]
theorem vh_s1 {T : Zt} {d m x : Int} (h : (T 102 m 6 ≠ -1 ∧ ((1 = T 102 m 6 ∧ x = 0) ∨ (1 ≠ T 102 m 6 ∧ x = T 401 (T 102 m 0) 12))) ∨ (T 102 m 6 = -1 ∧ ((T 102 m 10 = 0 ∧ x = 0) ∨ (T 102 m 10 ≠ 0 ∧ x = T 468 m 1)))) : vH_ T d m 4 = x := by
  rw [vh_4]
  rcases h with ⟨h1, ⟨h2, h3⟩ | ⟨h2, h3⟩⟩ | ⟨h1, ⟨h2, h3⟩ | ⟨h2, h3⟩⟩
  · rw [cz_t h1, cz_t h2.symm, h3]
  · rw [cz_t h1, cz_f (fun q => h2 q.symm), h3]
  · rw [cz_f (fun q => q h1), cz_t h2, h3]
  · rw [cz_f (fun q => q h1), cz_f h2, h3]
theorem vh_c1 {T : Zt} {d m : Int} (h : (T 102 m 6 ≠ -1 ∨ (T 102 m 10 ≠ 0 ∧ T 103 m 3 ≠ 0)) ∧ T 102 m 5 ≤ d) : vH_ T d m 0 = 1 := vh_0.trans (cz_t h)
theorem vh_c0 {T : Zt} {d m : Int} (h : ¬ ((T 102 m 6 ≠ -1 ∨ (T 102 m 10 ≠ 0 ∧ T 103 m 3 ≠ 0)) ∧ T 102 m 5 ≤ d)) : vH_ T d m 0 ≠ 1 := fun q => by
  rw [vh_0, cz_f h] at q
  exact absurd q (by decide)
/-- all that the house has added up -/
def HF_ (T U : Zt) (c d : Int) : Prop :=
  (∀ x w : Int, 0 ≤ x → x < T 100 c 5 → 0 ≤ w → w ≤ 6 → wr_ (U 542 0 (x * 8 + w)) = wr_ (tn9_ (fun w => T 401 c w) (fun k => vH_ T d (T 100 c 7 + k)) (T 403 c x) w (T 100 c 8).toNat - cz_ (w = 6) (dh9_ T c d (T 403 c x) (T 106 0 6).toNat) 0)) ∧
  (∀ x : Int, 0 ≤ x → x < T 100 c 5 → wr_ (U 543 0 x) = wr_ (tn9_ (fun w => T 401 c w) (fun k => vH_ T d (T 100 c 7 + k)) (T 403 c x) 7 (T 100 c 8).toNat)) ∧
  (∀ x : Int, 0 ≤ x → x < T 100 c 5 → wr_ (U 544 0 x) = wr_ (tn9_ (fun w => T 401 c w) (fun k => vH_ T d (T 100 c 7 + k)) (T 403 c x) 8 (T 100 c 8).toNat)) ∧
  (∀ x y : Int, 0 ≤ x → x < T 100 c 5 → 0 ≤ y → y < T 100 c 5 → wr_ (U 545 0 (x * 12 + y)) = wr_ (hp9_ (fun w => T 401 c w) (fun k => vH_ T d (T 100 c 7 + k)) (T 403 c x) (T 403 c y) (T 100 c 8).toNat)) ∧
  (∀ x y : Int, 0 ≤ x → x < T 100 c 5 → 0 ≤ y → y < T 100 c 5 → wr_ (U 546 0 (x * 12 + y)) = wr_ (hs9_ (fun k => vH_ T d (T 100 c 7 + k)) (T 403 c x) (T 403 c y) (T 100 c 8).toNat))
theorem hf_z {T U U2 : Zt} {c d i : Int} {n : Nat} (h : HT_ T U (fun w => T 401 c w) (fun k => vH_ T d (T 100 c 7 + k)) c n) (hn : n = (T 100 c 8).toNat) (g : HD_ T U U2 c d i) (hi : T 100 c 5 ≤ i) (e : ∀ (k : Nat) (j : Int), k = 543 ∨ k = 544 ∨ k = 545 ∨ k = 546 → U2 k 0 j = U k 0 j) : HF_ T U2 c d := by
  subst hn
  obtain ⟨h1, h2, h3, h4, h5⟩ := h
  refine ⟨fun x w a b w0 w1 => ?_, fun x a b => ?_, fun x a b => ?_, fun x y a b p q => ?_, fun x y a b p q => ?_⟩
  · rw [g x w a b w0 w1, cz_g (P := w = 6 ∧ x < i) (Q := w = 6) ⟨fun q => q.1, fun q => ⟨q, by omega⟩⟩, Int.sub_eq_add_neg, wr_c (h1 x w a b w0 w1), Int.sub_eq_add_neg]
  · rw [e 543 _ (by decide)]; exact h2 x a b
  · rw [e 544 _ (by decide)]; exact h3 x a b
  · rw [e 545 _ (by decide)]; exact h4 x y a b p q
  · rw [e 546 _ (by decide)]; exact h5 x y a b p q
theorem bk_X7_tally_e_126 : ck_ fX7 none cX7_tally 126 [.iload 3, .aload 0, .tableswitch 0 7 1 #[], .tableswitch 0 0 5 #[], .if_icmp .ge 182, .aload 0, .tableswitch 0 7 2 #[], .iload 3, .iconst 8, .imul, .iconst 6, .iadd, .dup2, .iaload, .aload 0, .tableswitch 0 7 0 #[], .iload 2, .aload 0, .tableswitch 0 7 1 #[], .tableswitch 0 0 0 #[], .aload 0, .tableswitch 0 7 1 #[], .tableswitch 0 0 3 #[], .iload 3, .iaload] 171 = true := qck_r (nn_ _) (by decide +kernel)
theorem bs_X7_tally_e_126 {P : Zt → Option Zv → Prop} (K : Int → Zl → List Zv → Zt → Prop) : sx_ K P [.iload 3, .aload 0, .tableswitch 0 7 1 #[], .tableswitch 0 0 5 #[], .if_icmp .ge 182, .aload 0, .tableswitch 0 7 2 #[], .iload 3, .iconst 8, .imul, .iconst 6, .iadd, .dup2, .iaload, .aload 0, .tableswitch 0 7 0 #[], .iload 2, .aload 0, .tableswitch 0 7 1 #[], .tableswitch 0 0 0 #[], .aload 0, .tableswitch 0 7 1 #[], .tableswitch 0 0 3 #[], .iload 3, .iaload] 171 = x_iload 3 (x_aload 0 (x_g5 107 100 1 (x_g0 100 5 0 12 (x_if_icmp .ge 182 K (x_aload 0 (x_g1 107 542 (x_iload 3 (x_iconst 8 (x_imul (x_iconst 6 (x_iadd (x_dup2 (x_iaload (x_aload 0 (x_g1 107 106 (x_iload 2 (x_aload 0 (x_g5 107 100 1 (x_g0 100 0 0 3 (x_aload 0 (x_g5 107 100 1 (x_g2 100 403 (x_iload 3 (x_iaload (K 171))))))))))))))))))))))))) := ((xe_iload 3).trans (congrArg (x_iload 3) ((xe_aload 0).trans (congrArg (x_aload 0) ((xe_g5 (kk := 107) rfl tl_7_1).trans (congrArg (x_g5 107 100 1) ((xe_g0 (kk := 100) rfl tl_0_5).trans (congrArg (x_g0 100 5 0 12) ((xe_if_icmp .ge 182).trans (congrArg (x_if_icmp .ge 182 K) ((xe_aload 0).trans (congrArg (x_aload 0) ((xe_g1 (kk := 107) rfl tl_7_2).trans (congrArg (x_g1 107 542) ((xe_iload 3).trans (congrArg (x_iload 3) ((xe_iconst 8).trans (congrArg (x_iconst 8) ((xe_imul).trans (congrArg (x_imul) ((xe_iconst 6).trans (congrArg (x_iconst 6) ((xe_iadd).trans (congrArg (x_iadd) ((xe_dup2).trans (congrArg (x_dup2) ((xe_iaload).trans (congrArg (x_iaload) ((xe_aload 0).trans (congrArg (x_aload 0) ((xe_g1 (kk := 107) rfl tl_7_0).trans (congrArg (x_g1 107 106) ((xe_iload 2).trans (congrArg (x_iload 2) ((xe_aload 0).trans (congrArg (x_aload 0) ((xe_g5 (kk := 107) rfl tl_7_1).trans (congrArg (x_g5 107 100 1) ((xe_g0 (kk := 100) rfl tl_0_0).trans (congrArg (x_g0 100 0 0 3) ((xe_aload 0).trans (congrArg (x_aload 0) ((xe_g5 (kk := 107) rfl tl_7_1).trans (congrArg (x_g5 107 100 1) ((xe_g2 (kk := 100) rfl tl_0_3).trans (congrArg (x_g2 100 403) ((xe_iload 3).trans (congrArg (x_iload 3) ((xe_iaload).trans (congrArg (x_iaload) xe_nil))))))))))))))))))))))))))))))))))))))))))))))))))
theorem bk_X7_tally_e_182 : ck_ fX7 none cX7_tally 182 [.return_] 183 = true := qck_r (nn_ _) (by decide +kernel)
theorem bs_X7_tally_e_182 {P : Zt → Option Zv → Prop} (K : Int → Zl → List Zv → Zt → Prop) : sx_ K P [.return_] 183 = x_return_ P := (xe_return_)
theorem bk_X7_tally_e_174 : ck_ fX7 none cX7_tally 174 [.fsub, .iastore, .iinc 3 1, .goto 126] 182 = true := qck_r (nn_ _) (by decide +kernel)
theorem bs_X7_tally_e_174 {P : Zt → Option Zv → Prop} (K : Int → Zl → List Zv → Zt → Prop) : sx_ K P [.fsub, .iastore, .iinc 3 1, .goto 126] 182 = x_fsub (x_iastore (x_iinc 3 1 (x_goto 126 K))) := ((xe_fsub).trans (congrArg (x_fsub) ((xe_iastore).trans (congrArg (x_iastore) ((xe_iinc 3 1).trans (congrArg (x_iinc 3 1) (xe_goto 126)))))))
theorem bk_X7_tally_e_47 : ck_ fX7 none cX7_tally 47 [.iload 3, .aload 0, .tableswitch 0 7 1 #[], .tableswitch 0 0 8 #[], .if_icmp .ge 124, .aload 0, .tableswitch 0 7 0 #[], .tableswitch 0 6 3 #[], .aload 0, .tableswitch 0 7 1 #[], .tableswitch 0 0 7 #[], .iload 3, .iadd, .aaload, .astore 4, .aload 4, .tableswitch 0 2 5 #[], .iload 2, .if_icmp .gt 118, .aload 4] 88 = true := qck_r (nn_ _) (by decide +kernel)
theorem bs_X7_tally_e_47 {P : Zt → Option Zv → Prop} (K : Int → Zl → List Zv → Zt → Prop) : sx_ K P [.iload 3, .aload 0, .tableswitch 0 7 1 #[], .tableswitch 0 0 8 #[], .if_icmp .ge 124, .aload 0, .tableswitch 0 7 0 #[], .tableswitch 0 6 3 #[], .aload 0, .tableswitch 0 7 1 #[], .tableswitch 0 0 7 #[], .iload 3, .iadd, .aaload, .astore 4, .aload 4, .tableswitch 0 2 5 #[], .iload 2, .if_icmp .gt 118, .aload 4] 88 = x_iload 3 (x_aload 0 (x_g5 107 100 1 (x_g0 100 8 0 400 (x_if_icmp .ge 124 K (x_aload 0 (x_g1 107 106 (x_g1 106 523 (x_aload 0 (x_g5 107 100 1 (x_g0 100 7 0 400 (x_iload 3 (x_iadd (x_aaload (x_astore 4 (x_aload 4 (x_g0 102 5 0 999 (x_iload 2 (x_if_icmp .gt 118 K (x_aload 4 (K 88)))))))))))))))))))) := ((xe_iload 3).trans (congrArg (x_iload 3) ((xe_aload 0).trans (congrArg (x_aload 0) ((xe_g5 (kk := 107) rfl tl_7_1).trans (congrArg (x_g5 107 100 1) ((xe_g0 (kk := 100) rfl tl_0_8).trans (congrArg (x_g0 100 8 0 400) ((xe_if_icmp .ge 124).trans (congrArg (x_if_icmp .ge 124 K) ((xe_aload 0).trans (congrArg (x_aload 0) ((xe_g1 (kk := 107) rfl tl_7_0).trans (congrArg (x_g1 107 106) ((xe_g1 (kk := 106) rfl tl_6_3).trans (congrArg (x_g1 106 523) ((xe_aload 0).trans (congrArg (x_aload 0) ((xe_g5 (kk := 107) rfl tl_7_1).trans (congrArg (x_g5 107 100 1) ((xe_g0 (kk := 100) rfl tl_0_7).trans (congrArg (x_g0 100 7 0 400) ((xe_iload 3).trans (congrArg (x_iload 3) ((xe_iadd).trans (congrArg (x_iadd) ((xe_aaload).trans (congrArg (x_aaload) ((xe_astore 4).trans (congrArg (x_astore 4) ((xe_aload 4).trans (congrArg (x_aload 4) ((xe_g0 (kk := 102) rfl tl_2_5).trans (congrArg (x_g0 102 5 0 999) ((xe_iload 2).trans (congrArg (x_iload 2) ((xe_if_icmp .gt 118).trans (congrArg (x_if_icmp .gt 118 K) ((xe_aload 4).trans (congrArg (x_aload 4) xe_nil))))))))))))))))))))))))))))))))))))))))
theorem bk_X7_tally_e_124 : ck_ fX7 none cX7_tally 124 [.iconst 0, .istore 3] 126 = true := qck_r (nn_ _) (by decide +kernel)
theorem bs_X7_tally_e_124 {P : Zt → Option Zv → Prop} (K : Int → Zl → List Zv → Zt → Prop) : sx_ K P [.iconst 0, .istore 3] 126 = x_iconst 0 (x_istore 3 (K 126)) := ((xe_iconst 0).trans (congrArg (x_iconst 0) ((xe_istore 3).trans (congrArg (x_istore 3) xe_nil))))
theorem bk_X7_tally_e_118 : ck_ fX7 none cX7_tally 118 [.iinc 3 1, .goto 47] 124 = true := qck_r (nn_ _) (by decide +kernel)
theorem bs_X7_tally_e_118 {P : Zt → Option Zv → Prop} (K : Int → Zl → List Zv → Zt → Prop) : sx_ K P [.iinc 3 1, .goto 47] 124 = x_iinc 3 1 (x_goto 47 K) := ((xe_iinc 3 1).trans (congrArg (x_iinc 3 1) (xe_goto 47)))
theorem bk_X7_tally_e_91 : ck_ fX7 none cX7_tally 91 [.ifCond .eq 118, .aload 0, .aload 4, .aload 4, .iconst 0] 100 = true := qck_r (nn_ _) (by decide +kernel)
theorem bs_X7_tally_e_91 {P : Zt → Option Zv → Prop} (K : Int → Zl → List Zv → Zt → Prop) : sx_ K P [.ifCond .eq 118, .aload 0, .aload 4, .aload 4, .iconst 0] 100 = x_ifCond .eq 118 K (x_aload 0 (x_aload 4 (x_aload 4 (x_iconst 0 (K 100))))) := ((xe_ifCond .eq 118).trans (congrArg (x_ifCond .eq 118 K) ((xe_aload 0).trans (congrArg (x_aload 0) ((xe_aload 4).trans (congrArg (x_aload 4) ((xe_aload 4).trans (congrArg (x_aload 4) ((xe_iconst 0).trans (congrArg (x_iconst 0) xe_nil))))))))))
theorem bk_X7_tally_e_103 : ck_ fX7 none cX7_tally 103 [.aload 4, .iconst 1] 106 = true := qck_r (nn_ _) (by decide +kernel)
theorem bs_X7_tally_e_103 {P : Zt → Option Zv → Prop} (K : Int → Zl → List Zv → Zt → Prop) : sx_ K P [.aload 4, .iconst 1] 106 = x_aload 4 (x_iconst 1 (K 106)) := ((xe_aload 4).trans (congrArg (x_aload 4) ((xe_iconst 1).trans (congrArg (x_iconst 1) xe_nil))))
theorem bk_X7_tally_e_112 : ck_ fX7 none cX7_tally 112 [.aload 0, .aload 4] 115 = true := qck_r (nn_ _) (by decide +kernel)
theorem bs_X7_tally_e_112 {P : Zt → Option Zv → Prop} (K : Int → Zl → List Zv → Zt → Prop) : sx_ K P [.aload 0, .aload 4] 115 = x_aload 0 (x_aload 4 (K 115)) := ((xe_aload 0).trans (congrArg (x_aload 0) ((xe_aload 4).trans (congrArg (x_aload 4) xe_nil))))
theorem bk_X7_tally_e_0 : ck_ fX7 none cX7_tally 0 [.aload 0, .aload 1] 2 = true := qck_r (nn_ _) (by decide +kernel)
theorem bs_X7_tally_e_0 {P : Zt → Option Zv → Prop} (K : Int → Zl → List Zv → Zt → Prop) : sx_ K P [.aload 0, .aload 1] 2 = x_aload 0 (x_aload 1 (K 2)) := ((xe_aload 0).trans (congrArg (x_aload 0) ((xe_aload 1).trans (congrArg (x_aload 1) xe_nil))))
theorem bk_X7_tally_e_5 : ck_ fX7 none cX7_tally 5 [.aload 0, .tableswitch 0 7 2 #[], .iconst 0] 10 = true := qck_r (nn_ _) (by decide +kernel)
theorem bs_X7_tally_e_5 {P : Zt → Option Zv → Prop} (K : Int → Zl → List Zv → Zt → Prop) : sx_ K P [.aload 0, .tableswitch 0 7 2 #[], .iconst 0] 10 = x_aload 0 (x_g1 107 542 (x_iconst 0 (K 10))) := ((xe_aload 0).trans (congrArg (x_aload 0) ((xe_g1 (kk := 107) rfl tl_7_2).trans (congrArg (x_g1 107 542) ((xe_iconst 0).trans (congrArg (x_iconst 0) xe_nil))))))
theorem bk_X7_tally_e_13 : ck_ fX7 none cX7_tally 13 [.aload 0, .tableswitch 0 7 3 #[], .iconst 0] 18 = true := qck_r (nn_ _) (by decide +kernel)
theorem bs_X7_tally_e_13 {P : Zt → Option Zv → Prop} (K : Int → Zl → List Zv → Zt → Prop) : sx_ K P [.aload 0, .tableswitch 0 7 3 #[], .iconst 0] 18 = x_aload 0 (x_g1 107 543 (x_iconst 0 (K 18))) := ((xe_aload 0).trans (congrArg (x_aload 0) ((xe_g1 (kk := 107) rfl tl_7_3).trans (congrArg (x_g1 107 543) ((xe_iconst 0).trans (congrArg (x_iconst 0) xe_nil))))))
theorem bk_X7_tally_e_21 : ck_ fX7 none cX7_tally 21 [.aload 0, .tableswitch 0 7 4 #[], .iconst 0] 26 = true := qck_r (nn_ _) (by decide +kernel)
theorem bs_X7_tally_e_21 {P : Zt → Option Zv → Prop} (K : Int → Zl → List Zv → Zt → Prop) : sx_ K P [.aload 0, .tableswitch 0 7 4 #[], .iconst 0] 26 = x_aload 0 (x_g1 107 544 (x_iconst 0 (K 26))) := ((xe_aload 0).trans (congrArg (x_aload 0) ((xe_g1 (kk := 107) rfl tl_7_4).trans (congrArg (x_g1 107 544) ((xe_iconst 0).trans (congrArg (x_iconst 0) xe_nil))))))
theorem bk_X7_tally_e_29 : ck_ fX7 none cX7_tally 29 [.aload 0, .tableswitch 0 7 5 #[], .iconst 0] 34 = true := qck_r (nn_ _) (by decide +kernel)
theorem bs_X7_tally_e_29 {P : Zt → Option Zv → Prop} (K : Int → Zl → List Zv → Zt → Prop) : sx_ K P [.aload 0, .tableswitch 0 7 5 #[], .iconst 0] 34 = x_aload 0 (x_g1 107 545 (x_iconst 0 (K 34))) := ((xe_aload 0).trans (congrArg (x_aload 0) ((xe_g1 (kk := 107) rfl tl_7_5).trans (congrArg (x_g1 107 545) ((xe_iconst 0).trans (congrArg (x_iconst 0) xe_nil))))))
theorem bk_X7_tally_e_37 : ck_ fX7 none cX7_tally 37 [.aload 0, .tableswitch 0 7 6 #[], .iconst 0] 42 = true := qck_r (nn_ _) (by decide +kernel)
theorem bs_X7_tally_e_37 {P : Zt → Option Zv → Prop} (K : Int → Zl → List Zv → Zt → Prop) : sx_ K P [.aload 0, .tableswitch 0 7 6 #[], .iconst 0] 42 = x_aload 0 (x_g1 107 546 (x_iconst 0 (K 42))) := ((xe_aload 0).trans (congrArg (x_aload 0) ((xe_g1 (kk := 107) rfl tl_7_6).trans (congrArg (x_g1 107 546) ((xe_iconst 0).trans (congrArg (x_iconst 0) xe_nil))))))
theorem bk_X7_tally_e_45 : ck_ fX7 none cX7_tally 45 [.iconst 0, .istore 3] 47 = true := qck_r (nn_ _) (by decide +kernel)
theorem bs_X7_tally_e_45 {P : Zt → Option Zv → Prop} (K : Int → Zl → List Zv → Zt → Prop) : sx_ K P [.iconst 0, .istore 3] 47 = x_iconst 0 (x_istore 3 (K 47)) := ((xe_iconst 0).trans (congrArg (x_iconst 0) ((xe_istore 3).trans (congrArg (x_istore 3) xe_nil))))
abbrev po_X7_tally_e (T : Zt) (c : Int) (d : Int) : Zt → Option Zv → Prop := fun T' r => r = none ∧ fr_ [(107, [1]), (542, []), (543, []), (544, []), (545, []), (546, [])] T T' ∧ (T' 107 0 1 = c + 1 ∧ HF_ T T' c d)
set_option maxHeartbeats 4000000 in
theorem ct_X7_tally_e {T : Zt} {c : Int} {d : Int} (hka : KA_ T) (hkc : KC_ T) (hc : 0 ≤ c ∧ c < T 106 0 2) (hks : KS_ T) (hsk : SK_ T c) (hno : T 100 c 0 = c) : Ct_ yX7_tally zX7_tally T [vR 107 0, vR 100 c, vI d] (po_X7_tally_e T c d) := by
  refine ct_of pn_7 rfl rfl (Nat.le_of_ble_eq_true rfl) (fun hT hav => ?_)
  have hr_d : -2147483648 ≤ d ∧ d ≤ 2147483647 := hav (vI d) (List.mem_cons_of_mem _ (List.mem_cons_of_mem _ List.mem_cons_self))
  have hz : zX7_tally.2.2.2.1 = some .boolean → ∀ (T' : Zt) (x : Int), po_X7_tally_e T c d T' (some (vI x)) → 0 ≤ x ∧ x ≤ 1 := fun h => by cases h
  have hk2 := hkc c hc.1 hc.2
  have hb_matchCount : 0 ≤ T 106 0 4 ∧ T 106 0 4 ≤ 400 := bd_f hT 106 4 tl_6_4 0
  have hcc : 0 ≤ T 106 0 2 ∧ T 106 0 2 ≤ 4 := bd_f hT 106 2 tl_6_2 0
  have hfm : 0 ≤ T 100 c 7 ∧ T 100 c 7 ≤ 400 := bd_f hT 100 7 tl_0_7 c
  have hmc : 0 ≤ T 100 c 8 ∧ T 100 c 8 ≤ 400 := bd_f hT 100 8 tl_0_8 c
  have hen : 0 ≤ T 100 c 5 ∧ T 100 c 5 ≤ 12 := bd_f hT 100 5 tl_0_5 c
  show J_ zX7_tally T (po_X7_tally_e T c d) 0 0 0 [some (vR 107 0), some (vR 100 c), some (vI d), none, none] [] T
  have c_126 : ∀ (nn : Nat) (k : Int) (T9 : Zt) (T2 : Zt), ((12 - k).toNat) ≤ nn → (fr_ [(107, [1]), (542, []), (543, []), (544, []), (545, []), (546, [])] T T2) → (0 ≤ k ∧ k ≤ 12) → (T2 107 0 1 = c + 1) → (HT_ T T9 (fun w => T 401 c w) (fun k => vH_ T d (T 100 c 7 + k)) c (T 100 c 8).toNat) → (HD_ T T9 T2 c d k) → (∀ (k9 : Nat) (j : Int), k9 = 543 ∨ k9 = 544 ∨ k9 = 545 ∨ k9 = 546 → T2 k9 0 j = T9 k9 0 j) → J_ zX7_tally T (po_X7_tally_e T c d) 0 0 126 [some (vR 107 0), some (vR 100 c), some (vI d), some (vI k), none] [] T2 := by
    intro nn
    induction nn using Nat.strongRecOn with
    | _ nn ih_126 =>
      intro k T9 T2 hm_126 hf_126 i2 i3 ht2 hd2 he2
      replace hm_126 := fun (_ : Unit) => hm_126
      refine j_blx (F := fX7) tb_X7 (nn_ _) bk_X7_tally_e_126 bs_X7_tally_e_126 hz (fun K hK => ?_)
      refine And.intro (fun c1 => ?_) (fun c1 => ?_)
      · exact absurd c1 (by omega)
      · have z2 : T2 107 0 1 - 1 = c := by omega
        rw [z2]
        intro b3 b3b
        have e4 : T2 100 c 5 = T 100 c 5 := hf_126 100 c 5 rfl
        rw [e4] at b3 b3b ⊢
        refine And.intro (fun c5 => ?_) (fun c5 => ?_)
        · refine hK 182 _ [] T2 ?_
          refine j_blx (F := fX7) tb_X7 (nn_ _) bk_X7_tally_e_182 bs_X7_tally_e_182 hz (fun K hK => ?_)
          refine (show po_X7_tally_e T c d T2 (none) from ?_)
          exact ⟨rfl, fr_t (fr_0 _ _) (fr_s hf_126 rfl), by omega, hf_z ht2 rfl hd2 (by omega) (fun k9 j q9 => he2 k9 j q9)⟩
        · refine rg_i (by omega) ?_
          refine rg_i (by omega) ?_
          refine ix_i (by omega) ?_
          intro b6 b6b
          refine And.intro (fun c7 => ?_) (fun c7 => ?_)
          · exact absurd c7 (by omega)
          · have z8 : T2 107 0 1 - 1 = c := by omega
            rw [z8]
            intro b9 b9b
            have e10 : T2 100 c 0 = T 100 c 0 := hf_126 100 c 0 rfl
            rw [e10] at b9 b9b ⊢
            refine And.intro (fun c11 => ?_) (fun c11 => ?_)
            · exact absurd c11 (by omega)
            · have z12 : T2 107 0 1 - 1 = c := by omega
              rw [z12]
              refine ix_i (by omega) ?_
              intro b13 b13b
              have e14 : T2 403 c k = T 403 c k := hf_126 403 c k rfl
              rw [e14] at b13 b13b ⊢
              refine hK 171 _ [vI (T 403 c k), vI (T 100 c 0), vI d, vR 106 0, vI (T2 542 0 ((k * 8) + 6)), vI ((k * 8) + 6), vR 542 0] T2 ?_
              refine j_callV (y := yX6_deductedUpTo) (Yc := zX6_deductedUpTo) (rest := [vI (T2 542 0 ((k * 8) + 6)), vI ((k * 8) + 6), vR 542 0]) [vI d, vI (T 100 c 0), vI (T 403 c k)] (ct_X6_deductedUpTo_e (T := T2)) cl_X7_105 (qd_c (by decide +kernel)) (nn_ _) rfl (rf_of rfl) (Nat.le_of_ble_eq_true rfl) (Nat.le_of_ble_eq_true rfl) (Nat.le_of_ble_eq_true rfl) rfl ?_
              rintro _ _ ⟨rfl, x15, rfl, hx15⟩
              have hx15k : x15 = dh9_ T c d (T 403 c k) (T 106 0 6).toNat := by
                rw [hx15.2, hno, hf_126 106 0 6 rfl]
                exact dh_k (fun k9 j q9 => by rcases q9 with rfl | rfl | rfl | rfl <;> exact hf_126 _ 0 j rfl) _
              show J_ zX7_tally T (po_X7_tally_e T c d) 0 0 174 _ [vI x15, vI (T2 542 0 ((k * 8) + 6)), vI ((k * 8) + 6), vR 542 0] T2
              refine j_blx (F := fX7) tb_X7 (nn_ _) bk_X7_tally_e_174 bs_X7_tally_e_174 hz (fun K hK => ?_)
              intro w16 w16b
              refine iy_i (by omega) (by omega) ?_
              refine x_nm (fun U17 hU17 => ?_)
              have e18 := up_f hU17
              refine rg_i (by omega) ?_
              refine hK 126 [some (vR 107 0), some (vR 100 c), some (vI d), some (vI (k + 1)), none] [] U17 ?_
              have e19 : U17 107 0 1 = T2 107 0 1 := up_k hU17 (by exact Nat.ne_of_beq_eq_false rfl) 0 1
              refine ih_126 _ ?_ (k + 1) T9 U17 (Nat.le_refl _) ?_ ?_ ?_ ?_ ?_ ?_
              · have hm_126 := hm_126 (); omega
              · exact fr_u (fr_t (fr_0 _ _) (fr_s hf_126 rfl)) hU17 rfl
              · omega
              · omega
              · exact ht2
              · exact hd_s hd2 hU17 rfl rfl hx15k
              · intro k9 j q9
                rw [← he2 k9 j q9]
                rcases q9 with rfl | rfl | rfl | rfl <;> exact up_k hU17 (by exact Nat.ne_of_beq_eq_false rfl) 0 j
  have c_47 : ∀ (nn : Nat) (k : Int) (T1 : Zt), ((T 100 c 8 - k).toNat) ≤ nn → (fr_ [(107, [1]), (542, []), (543, []), (544, []), (545, []), (546, [])] T T1) → (0 ≤ k ∧ k ≤ T 100 c 8) → (T1 107 0 1 = c + 1) → (HT_ T T1 (fun w => T 401 c w) (fun k => vH_ T d (T 100 c 7 + k)) c k.toNat) → J_ zX7_tally T (po_X7_tally_e T c d) 0 0 47 [some (vR 107 0), some (vR 100 c), some (vI d), some (vI k), none] [] T1 := by
    intro nn
    induction nn using Nat.strongRecOn with
    | _ nn ih_47 =>
      intro k T1 hm_47 hf_47 i1 i0 ht1
      replace hm_47 := fun (_ : Unit) => hm_47
      refine j_blx (F := fX7) tb_X7 (nn_ _) bk_X7_tally_e_47 bs_X7_tally_e_47 hz (fun K hK => ?_)
      refine And.intro (fun c20 => ?_) (fun c20 => ?_)
      · exact absurd c20 (by omega)
      · have z21 : T1 107 0 1 - 1 = c := by omega
        rw [z21]
        intro b22 b22b
        have e23 : T1 100 c 8 = T 100 c 8 := hf_47 100 c 8 rfl
        rw [e23] at b22 b22b ⊢
        refine And.intro (fun c24 => ?_) (fun c24 => ?_)
        · refine hK 124 _ [] T1 ?_
          refine j_blx (F := fX7) tb_X7 (nn_ _) bk_X7_tally_e_124 bs_X7_tally_e_124 hz (fun K hK => ?_)
          refine hK 126 [some (vR 107 0), some (vR 100 c), some (vI d), some (vI 0), none] [] T1 ?_
          refine c_126 _ 0 T1 T1 (Nat.le_refl _) ?_ ?_ ?_ ?_ ?_ ?_
          · exact fr_t (fr_0 _ _) (fr_s hf_47 rfl)
          · omega
          · omega
          · rw [show T 100 c 8 = k by omega]
            exact ht1
          · exact hd_0 (fun _ => rfl)
          · exact fun _ _ _ => rfl
        · refine And.intro (fun c25 => ?_) (fun c25 => ?_)
          · exact absurd c25 (by omega)
          · have z26 : T1 107 0 1 - 1 = c := by omega
            rw [z26]
            intro b27 b27b
            have e28 : T1 100 c 7 = T 100 c 7 := hf_47 100 c 7 rfl
            rw [e28] at b27 b27b ⊢
            refine rg_i (by omega) ?_
            refine ix_i (by omega) ?_
            have e30 : T1 523 0 ((T 100 c 7) + k) = T 523 0 ((T 100 c 7) + k) := hf_47 523 0 ((T 100 c 7) + k) rfl
            refine And.intro (fun c29 => ?_) (fun c29 => ?_)
            · exact absurd (show T 523 0 (T 100 c 7 + k) = 0 by omega) (hka.2 _ (by omega) (by omega))
            · intro b31 b31b
              have e32 : T1 102 ((T 100 c 7) + k) 5 = T 102 ((T 100 c 7) + k) 5 := hf_47 102 ((T 100 c 7) + k) 5 rfl
              rw [e32] at b31 b31b ⊢
              refine And.intro (fun c33 => ?_) (fun c33 => ?_)
              · refine hK 118 [some (vR 107 0), some (vR 100 c), some (vI d), some (vI k), some (vR 102 ((T 100 c 7) + k))] [] T1 ?_
                refine j_blx (F := fX7) tb_X7 (nn_ _) bk_X7_tally_e_118 bs_X7_tally_e_118 hz (fun K hK => ?_)
                refine rg_i (by omega) ?_
                refine hK 47 [some (vR 107 0), some (vR 100 c), some (vI d), some (vI (k + 1)), some (vR 102 ((T 100 c 7) + k))] [] T1 ?_
                refine j_drop [some (vR 107 0), some (vR 100 c), some (vI d), some (vI (k + 1)), none] (fun k v hk => ?_) rfl ?_
                · match k, hk with
                  | 0, hk => exact hk
                  | 1, hk => exact hk
                  | 2, hk => exact hk
                  | 3, hk => exact hk
                  | 4, hk => cases hk
                  | k + 5, hk => cases hk
                refine ih_47 _ ?_ (k + 1) T1 (Nat.le_refl _) ?_ ?_ ?_ ?_
                · have hm_47 := hm_47 (); omega
                · exact fr_t (fr_0 _ _) (fr_s hf_47 rfl)
                · omega
                · omega
                have e34 : T1 102 ((T 100 c 7) + k) 6 = T 102 ((T 100 c 7) + k) 6 := hf_47 102 ((T 100 c 7) + k) 6 rfl
                have e35 : T1 102 ((T 100 c 7) + k) 10 = T 102 ((T 100 c 7) + k) 10 := hf_47 102 ((T 100 c 7) + k) 10 rfl
                have e36 : T1 103 ((T 100 c 7) + k) 3 = T 103 ((T 100 c 7) + k) 3 := hf_47 103 ((T 100 c 7) + k) 3 rfl
                · have ek : ((k.toNat : Nat) : Int) = k := by omega
                  rw [show (k + 1).toNat = k.toNat + 1 by omega]
                  have ev : vH_ T1 d ((T 100 c 7) + k) = vH_ T d ((T 100 c 7) + k) := vh_g hf_47 (fun k j q9 => by rcases q9 with rfl | rfl | rfl | rfl | rfl | rfl | rfl <;> rfl)
                  refine ht_z ht1 ?_ (fun _ _ _ => rfl)
                  rw [ek]
                  show vH_ T d ((T 100 c 7) + k) 0 ≠ 1
                  exact vh_c0 (by omega)
              · refine hK 88 [some (vR 107 0), some (vR 100 c), some (vI d), some (vI k), some (vR 102 ((T 100 c 7) + k))] [vR 102 ((T 100 c 7) + k)] T1 ?_
                refine j_callV (y := yX2_isDecided) (Yc := zX2_isDecided) (rest := []) [] (ct_X2_isDecided_e (T := T1)) cl_X7_80 (qd_c (by decide +kernel)) (nn_ _) rfl (rf_of rfl) (Nat.le_of_ble_eq_true rfl) (Nat.le_of_ble_eq_true rfl) (Nat.le_of_ble_eq_true rfl) rfl ?_
                rintro _ _ ⟨rfl, x37, rfl, hx37⟩
                show J_ zX7_tally T (po_X7_tally_e T c d) 0 0 91 _ [vI x37] T1
                refine j_blx (F := fX7) tb_X7 (nn_ _) bk_X7_tally_e_91 bs_X7_tally_e_91 hz (fun K hK => ?_)
                refine And.intro (fun c38 => ?_) (fun c38 => ?_)
                · replace hx37 := hx37.resolve_left (fun z => absurd (c38.symm.trans z.1) (by decide))
                  clear c38
                  refine hK 118 _ [] T1 ?_
                  refine j_blx (F := fX7) tb_X7 (nn_ _) bk_X7_tally_e_118 bs_X7_tally_e_118 hz (fun K hK => ?_)
                  refine rg_i (by omega) ?_
                  refine hK 47 [some (vR 107 0), some (vR 100 c), some (vI d), some (vI (k + 1)), some (vR 102 ((T 100 c 7) + k))] [] T1 ?_
                  refine j_drop [some (vR 107 0), some (vR 100 c), some (vI d), some (vI (k + 1)), none] (fun k v hk => ?_) rfl ?_
                  · match k, hk with
                    | 0, hk => exact hk
                    | 1, hk => exact hk
                    | 2, hk => exact hk
                    | 3, hk => exact hk
                    | 4, hk => cases hk
                    | k + 5, hk => cases hk
                  refine ih_47 _ ?_ (k + 1) T1 (Nat.le_refl _) ?_ ?_ ?_ ?_
                  · have hm_47 := hm_47 (); omega
                  · exact fr_t (fr_0 _ _) (fr_s hf_47 rfl)
                  · omega
                  · omega
                  have e39 : T1 102 ((T 100 c 7) + k) 6 = T 102 ((T 100 c 7) + k) 6 := hf_47 102 ((T 100 c 7) + k) 6 rfl
                  have e40 : T1 102 ((T 100 c 7) + k) 10 = T 102 ((T 100 c 7) + k) 10 := hf_47 102 ((T 100 c 7) + k) 10 rfl
                  have e41 : T1 103 ((T 100 c 7) + k) 3 = T 103 ((T 100 c 7) + k) 3 := hf_47 103 ((T 100 c 7) + k) 3 rfl
                  · have ek : ((k.toNat : Nat) : Int) = k := by omega
                    rw [show (k + 1).toNat = k.toNat + 1 by omega]
                    have ev : vH_ T1 d ((T 100 c 7) + k) = vH_ T d ((T 100 c 7) + k) := vh_g hf_47 (fun k j q9 => by rcases q9 with rfl | rfl | rfl | rfl | rfl | rfl | rfl <;> rfl)
                    refine ht_z ht1 ?_ (fun _ _ _ => rfl)
                    rw [ek]
                    show vH_ T d ((T 100 c 7) + k) 0 ≠ 1
                    exact vh_c0 (by omega)
                · refine hK 100 [some (vR 107 0), some (vR 100 c), some (vI d), some (vI k), some (vR 102 ((T 100 c 7) + k))] [vI 0, vR 102 ((T 100 c 7) + k), vR 102 ((T 100 c 7) + k), vR 107 0] T1 ?_
                  refine j_callV (y := yX2_scoreOf) (Yc := zX2_scoreOf) (rest := [vR 102 ((T 100 c 7) + k), vR 107 0]) [vI 0] (ct_X2_scoreOf_e (T := T1) (by omega)) cl_X7_84 (qd_c (by decide +kernel)) (nn_ _) rfl (rf_of rfl) (Nat.le_of_ble_eq_true rfl) (Nat.le_of_ble_eq_true rfl) (Nat.le_of_ble_eq_true rfl) rfl ?_
                  rintro _ _ ⟨rfl, x42, rfl, hx42⟩
                  show J_ zX7_tally T (po_X7_tally_e T c d) 0 0 103 _ [vI x42, vR 102 ((T 100 c 7) + k), vR 107 0] T1
                  refine j_blx (F := fX7) tb_X7 (nn_ _) bk_X7_tally_e_103 bs_X7_tally_e_103 hz (fun K hK => ?_)
                  refine hK 106 _ [vI 1, vR 102 ((T 100 c 7) + k), vI x42, vR 102 ((T 100 c 7) + k), vR 107 0] T1 ?_
                  refine j_callV (y := yX2_scoreOf) (Yc := zX2_scoreOf) (rest := [vI x42, vR 102 ((T 100 c 7) + k), vR 107 0]) [vI 1] (ct_X2_scoreOf_e (T := T1) (by omega)) cl_X7_84 (qd_c (by decide +kernel)) (nn_ _) rfl (rf_of rfl) (Nat.le_of_ble_eq_true rfl) (Nat.le_of_ble_eq_true rfl) (Nat.le_of_ble_eq_true rfl) rfl ?_
                  rintro _ _ ⟨rfl, x43, rfl, hx43⟩
                  show J_ zX7_tally T (po_X7_tally_e T c d) 0 0 109 _ [vI x43, vI x42, vR 102 ((T 100 c 7) + k), vR 107 0] T1
                  have hHv44 : T1 404 (T1 107 0 1 - 1) (T1 102 ((T 100 c 7) + k) 3) = T 404 c (T 102 ((T 100 c 7) + k) 3) := by rw [show T1 107 0 1 - 1 = c by omega, hf_47 102 ((T 100 c 7) + k) 3 rfl]; exact hf_47 404 c (T 102 ((T 100 c 7) + k) 3) rfl
                  have hAv44 : T1 404 (T1 107 0 1 - 1) (T1 102 ((T 100 c 7) + k) 4) = T 404 c (T 102 ((T 100 c 7) + k) 4) := by rw [show T1 107 0 1 - 1 = c by omega, hf_47 102 ((T 100 c 7) + k) 4 rfl]; exact hf_47 404 c (T 102 ((T 100 c 7) + k) 4) rfl
                  have hRv44 : (fun w => T1 401 (T1 107 0 1 - 1) w) = (fun w => T 401 c w) := by rw [show T1 107 0 1 - 1 = c by omega]; exact funext (fun w => hf_47 401 c w rfl)
                  have hkv44 := hks c hc.1 hc.2 ((T 100 c 7) + k) (by omega) (by omega)
                  refine j_callV (y := yX7_addResult) (Yc := zX7_addResult) (rest := []) [vR 102 ((T 100 c 7) + k), vI x42, vI x43] (ct_X7_addResult_e (T := T1) (by omega) (by rw [hHv44, hAv44]; exact ⟨hkv44.2.1, hkv44.2.2⟩)) cl_X7_88 (qd_c (by decide +kernel)) (nn_ _) rfl (rf_of rfl) (Nat.le_of_ble_eq_true rfl) (Nat.le_of_ble_eq_true rfl) (Nat.le_of_ble_eq_true rfl) rfl ?_
                  rintro U45 _ ⟨rfl, fU45, qU45l, qU45a, qU45p, qU45s⟩
                  rw [hHv44, hAv44, hRv44] at qU45l qU45p
                  rw [hHv44, hAv44] at qU45s
                  rw [hAv44] at qU45a
                  show J_ zX7_tally T (po_X7_tally_e T c d) 0 0 112 _ [] U45
                  refine j_blx (F := fX7) tb_X7 (nn_ _) bk_X7_tally_e_112 bs_X7_tally_e_112 hz (fun K hK => ?_)
                  refine hK 115 _ [vR 102 ((T 100 c 7) + k), vR 107 0] U45 ?_
                  have e47 : U45 107 0 1 = T1 107 0 1 := fU45 107 0 1 rfl
                  have hHv46 : U45 404 (U45 107 0 1 - 1) (U45 102 ((T 100 c 7) + k) 3) = T 404 c (T 102 ((T 100 c 7) + k) 3) := by rw [show U45 107 0 1 - 1 = c by omega, (fU45 102 ((T 100 c 7) + k) 3 rfl).trans (hf_47 102 ((T 100 c 7) + k) 3 rfl)]; exact (fU45 404 c (T 102 ((T 100 c 7) + k) 3) rfl).trans (hf_47 404 c (T 102 ((T 100 c 7) + k) 3) rfl)
                  have hAv46 : U45 404 (U45 107 0 1 - 1) (U45 102 ((T 100 c 7) + k) 4) = T 404 c (T 102 ((T 100 c 7) + k) 4) := by rw [show U45 107 0 1 - 1 = c by omega, (fU45 102 ((T 100 c 7) + k) 4 rfl).trans (hf_47 102 ((T 100 c 7) + k) 4 rfl)]; exact (fU45 404 c (T 102 ((T 100 c 7) + k) 4) rfl).trans (hf_47 404 c (T 102 ((T 100 c 7) + k) 4) rfl)
                  have hRv46 : (fun w => U45 401 (U45 107 0 1 - 1) w) = (fun w => T 401 c w) := by rw [show U45 107 0 1 - 1 = c by omega]; exact funext (fun w => (fU45 401 c w rfl).trans (hf_47 401 c w rfl))
                  have hkv46 := hks c hc.1 hc.2 ((T 100 c 7) + k) (by omega) (by omega)
                  refine j_callV (y := yX7_addCards) (Yc := zX7_addCards) (rest := []) [vR 102 ((T 100 c 7) + k)] (ct_X7_addCards_e (T := U45) (by omega) (by rw [hHv46, hAv46]; exact ⟨hkv46.2.1, hkv46.2.2⟩)) cl_X7_92 (qd_c (by decide +kernel)) (nn_ _) rfl (rf_of rfl) (Nat.le_of_ble_eq_true rfl) (Nat.le_of_ble_eq_true rfl) (Nat.le_of_ble_eq_true rfl) rfl ?_
                  rintro U48 _ ⟨rfl, fU48, qU48f⟩
                  rw [hHv46, hAv46] at qU48f
                  rw [(fU45 102 ((T 100 c 7) + k) 10 rfl).trans (hf_47 102 ((T 100 c 7) + k) 10 rfl), frh_k (T := T) (fun j => (fU45 473 ((T 100 c 7) + k) j rfl).trans (hf_47 473 ((T 100 c 7) + k) j rfl)) (fun j => (fU45 472 ((T 100 c 7) + k) j rfl).trans (hf_47 472 ((T 100 c 7) + k) j rfl)), frh_k (T := T) (fun j => (fU45 473 ((T 100 c 7) + k) j rfl).trans (hf_47 473 ((T 100 c 7) + k) j rfl)) (fun j => (fU45 472 ((T 100 c 7) + k) j rfl).trans (hf_47 472 ((T 100 c 7) + k) j rfl)), (fU45 449 ((T 100 c 7) + k) 0 rfl).trans (hf_47 449 ((T 100 c 7) + k) 0 rfl), (fU45 449 ((T 100 c 7) + k) 1 rfl).trans (hf_47 449 ((T 100 c 7) + k) 1 rfl)] at qU48f
                  show J_ zX7_tally T (po_X7_tally_e T c d) 0 0 118 _ [] U48
                  refine j_blx (F := fX7) tb_X7 (nn_ _) bk_X7_tally_e_118 bs_X7_tally_e_118 hz (fun K hK => ?_)
                  refine rg_i (by omega) ?_
                  refine hK 47 [some (vR 107 0), some (vR 100 c), some (vI d), some (vI (k + 1)), some (vR 102 ((T 100 c 7) + k))] [] U48 ?_
                  refine j_drop [some (vR 107 0), some (vR 100 c), some (vI d), some (vI (k + 1)), none] (fun k v hk => ?_) rfl ?_
                  · match k, hk with
                    | 0, hk => exact hk
                    | 1, hk => exact hk
                    | 2, hk => exact hk
                    | 3, hk => exact hk
                    | 4, hk => cases hk
                    | k + 5, hk => cases hk
                  have e49 : U48 107 0 1 = T1 107 0 1 := (fU48 107 0 1 rfl).trans (fU45 107 0 1 rfl)
                  refine ih_47 _ ?_ (k + 1) U48 (Nat.le_refl _) ?_ ?_ ?_ ?_
                  · have hm_47 := hm_47 (); omega
                  · exact fr_t (fr_t (fr_t (fr_0 _ _) (fr_s hf_47 rfl)) (fr_s fU45 rfl)) (fr_s fU48 rfl)
                  · omega
                  · omega
                  · have ek : ((k.toNat : Nat) : Int) = k := by omega
                    rw [show (k + 1).toNat = k.toNat + 1 by omega]
                    have ev : vH_ T1 d ((T 100 c 7) + k) = vH_ T d ((T 100 c 7) + k) := vh_g hf_47 (fun k j q9 => by rcases q9 with rfl | rfl | rfl | rfl | rfl | rfl | rfl <;> rfl)
                    have g0 : vH_ T d ((T 100 c 7) + k) 0 = 1 := by
                      rw [← ev]
                      refine vh_c1 ⟨(hx37.resolve_right (fun z => absurd z.1 (by omega))).2, ?_⟩
                      rw [hf_47 102 ((T 100 c 7) + k) 5 rfl]
                      omega
                    have g3 : vH_ T d ((T 100 c 7) + k) 3 = x42 := by
                      rw [← ev]
                      exact vh_s0 hx42
                    have g4 : vH_ T d ((T 100 c 7) + k) 4 = x43 := by
                      rw [← ev]
                      exact vh_s1 hx43
                    have s9 := hks c hc.1 hc.2 ((T 100 c 7) + k) (by omega) (by omega)
                    have hb3 : 0 ≤ T 102 ((T 100 c 7) + k) 3 ∧ T 102 ((T 100 c 7) + k) 3 ≤ 11 := bd_f hT 102 3 tl_2_3 ((T 100 c 7) + k)
                    have hb4 : 0 ≤ T 102 ((T 100 c 7) + k) 4 ∧ T 102 ((T 100 c 7) + k) 4 ≤ 11 := bd_f hT 102 4 tl_2_4 ((T 100 c 7) + k)
                    have hs3 : (-1) ≤ T 404 c (T 102 ((T 100 c 7) + k) 3) ∧ T 404 c (T 102 ((T 100 c 7) + k) 3) ≤ 11 := bd_a hT 404 (by decide +kernel : ta_ 404 = some (1, some 12, (-1), 11)) c (by omega)
                    have hs4 : (-1) ≤ T 404 c (T 102 ((T 100 c 7) + k) 4) ∧ T 404 c (T 102 ((T 100 c 7) + k) 4) ≤ 11 := bd_a hT 404 (by decide +kernel : ta_ 404 = some (1, some 12, (-1), 11)) c (by omega)
                    refine ht_s (hm := T 102 ((T 100 c 7) + k) 3) (aw := T 102 ((T 100 c 7) + k) 4) (a := x42) (b := x43) (f := cz_ (T 102 ((T 100 c 7) + k) 10 = 0) 0 (fr9h_ T ((T 100 c 7) + k) 0 (T 449 ((T 100 c 7) + k) 0).toNat)) (g := cz_ (T 102 ((T 100 c 7) + k) 10 = 0) 0 (fr9h_ T ((T 100 c 7) + k) 10 (T 449 ((T 100 c 7) + k) 1).toNat)) ht1 hsk (by omega) (by omega) (by omega) (by omega) (by omega) ?_ ?_ ?_ ?_ ?_ ?_ ?_ (lv_k qU45l (fun j => fU48 542 0 j rfl)) (rv_k qU45a (fun j => fU48 543 0 j rfl)) (rv_b qU48f (fun j => fU45 544 0 j rfl)) (rv_k qU45p (fun j => fU48 545 0 j rfl)) (rv_k qU45s (fun j => fU48 546 0 j rfl))
                    · rw [ek]; exact g0
                    · rw [ek]; exact vh_1
                    · rw [ek]; exact vh_2
                    · rw [ek]; exact g3
                    · rw [ek]; exact g4
                    · rw [ek]; exact vh_5
                    · rw [ek]; exact vh_6
  refine j_blx (F := fX7) tb_X7 (nn_ _) bk_X7_tally_e_0 bs_X7_tally_e_0 hz (fun K hK => ?_)
  refine hK 2 _ [vR 100 c, vR 107 0] T ?_
  refine j_putR (pc := 2) (ci := 7) (j := 1) (by decide) fr5_X7_50 rfl (by decide +kernel) (by omega) (by omega) (by omega) ?_
  refine j_nm (fun U50 hU50 => ?_)
  have e51 := up_f hU50
  show J_ zX7_tally T (po_X7_tally_e T c d) 0 0 5 _ [] U50
  refine j_blx (F := fX7) tb_X7 (nn_ _) bk_X7_tally_e_5 bs_X7_tally_e_5 hz (fun K hK => ?_)
  refine hK 10 _ [vI 0, vR 542 0] U50 ?_
  refine j_callS (y := yJ7_fill_53178) (Yc := zJ7_fill_53178) (rest := []) [vR 542 0, vI 0] (ct_J7_fill_542 (T := U50) (by omega)) cl_X7_54 (qd_c (by decide +kernel)) (nn_ _) rfl (rf_of rfl) (Nat.le_of_ble_eq_true rfl) (Nat.le_of_ble_eq_true rfl) (Nat.le_of_ble_eq_true rfl) rfl ?_
  rintro U52 _ ⟨rfl, fU52, qU52o, qU52⟩
  show J_ zX7_tally T (po_X7_tally_e T c d) 0 0 13 _ [] U52
  refine j_blx (F := fX7) tb_X7 (nn_ _) bk_X7_tally_e_13 bs_X7_tally_e_13 hz (fun K hK => ?_)
  refine hK 18 _ [vI 0, vR 543 0] U52 ?_
  refine j_callS (y := yJ7_fill_53178) (Yc := zJ7_fill_53178) (rest := []) [vR 543 0, vI 0] (ct_J7_fill_543 (T := U52) (by omega)) cl_X7_54 (qd_c (by decide +kernel)) (nn_ _) rfl (rf_of rfl) (Nat.le_of_ble_eq_true rfl) (Nat.le_of_ble_eq_true rfl) (Nat.le_of_ble_eq_true rfl) rfl ?_
  rintro U53 _ ⟨rfl, fU53, qU53o, qU53⟩
  show J_ zX7_tally T (po_X7_tally_e T c d) 0 0 21 _ [] U53
  refine j_blx (F := fX7) tb_X7 (nn_ _) bk_X7_tally_e_21 bs_X7_tally_e_21 hz (fun K hK => ?_)
  refine hK 26 _ [vI 0, vR 544 0] U53 ?_
  refine j_callS (y := yJ7_fill_53178) (Yc := zJ7_fill_53178) (rest := []) [vR 544 0, vI 0] (ct_J7_fill_544 (T := U53) (by omega)) cl_X7_54 (qd_c (by decide +kernel)) (nn_ _) rfl (rf_of rfl) (Nat.le_of_ble_eq_true rfl) (Nat.le_of_ble_eq_true rfl) (Nat.le_of_ble_eq_true rfl) rfl ?_
  rintro U54 _ ⟨rfl, fU54, qU54o, qU54⟩
  show J_ zX7_tally T (po_X7_tally_e T c d) 0 0 29 _ [] U54
  refine j_blx (F := fX7) tb_X7 (nn_ _) bk_X7_tally_e_29 bs_X7_tally_e_29 hz (fun K hK => ?_)
  refine hK 34 _ [vI 0, vR 545 0] U54 ?_
  refine j_callS (y := yJ7_fill_53178) (Yc := zJ7_fill_53178) (rest := []) [vR 545 0, vI 0] (ct_J7_fill_545 (T := U54) (by omega)) cl_X7_54 (qd_c (by decide +kernel)) (nn_ _) rfl (rf_of rfl) (Nat.le_of_ble_eq_true rfl) (Nat.le_of_ble_eq_true rfl) (Nat.le_of_ble_eq_true rfl) rfl ?_
  rintro U55 _ ⟨rfl, fU55, qU55o, qU55⟩
  show J_ zX7_tally T (po_X7_tally_e T c d) 0 0 37 _ [] U55
  refine j_blx (F := fX7) tb_X7 (nn_ _) bk_X7_tally_e_37 bs_X7_tally_e_37 hz (fun K hK => ?_)
  refine hK 42 _ [vI 0, vR 546 0] U55 ?_
  refine j_callS (y := yJ7_fill_53178) (Yc := zJ7_fill_53178) (rest := []) [vR 546 0, vI 0] (ct_J7_fill_546 (T := U55) (by omega)) cl_X7_54 (qd_c (by decide +kernel)) (nn_ _) rfl (rf_of rfl) (Nat.le_of_ble_eq_true rfl) (Nat.le_of_ble_eq_true rfl) (Nat.le_of_ble_eq_true rfl) rfl ?_
  rintro U56 _ ⟨rfl, fU56, qU56o, qU56⟩
  show J_ zX7_tally T (po_X7_tally_e T c d) 0 0 45 _ [] U56
  refine j_blx (F := fX7) tb_X7 (nn_ _) bk_X7_tally_e_45 bs_X7_tally_e_45 hz (fun K hK => ?_)
  refine hK 47 [some (vR 107 0), some (vR 100 c), some (vI d), some (vI 0), none] [] U56 ?_
  have e57 : U56 107 0 1 = c + 1 := (fU56 107 0 1 rfl).trans ((fU55 107 0 1 rfl).trans ((fU54 107 0 1 rfl).trans ((fU53 107 0 1 rfl).trans ((fU52 107 0 1 rfl).trans (up_f hU50)))))
  refine c_47 _ 0 U56 (Nat.le_refl _) ?_ ?_ ?_ ?_
  · exact fr_t (fr_t (fr_t (fr_t (fr_t (fr_u (fr_0 _ _) hU50 rfl) (fr_s fU52 rfl)) (fr_s fU53 rfl)) (fr_s fU54 rfl)) (fr_s fU55 rfl)) (fr_s fU56 rfl)
  · omega
  · omega
  · exact ht_0 (by omega) (fun j a b => by rw [(fU56 542 0 j rfl).trans ((fU55 542 0 j rfl).trans ((fU54 542 0 j rfl).trans (fU53 542 0 j rfl)))]; exact qU52 j a b) (fun j a b => by rw [(fU56 543 0 j rfl).trans ((fU55 543 0 j rfl).trans (fU54 543 0 j rfl))]; exact qU53 j a b) (fun j a b => by rw [(fU56 544 0 j rfl).trans (fU55 544 0 j rfl)]; exact qU54 j a b) (fun j a b => by rw [fU56 545 0 j rfl]; exact qU55 j a b) qU56
-- the house's order, exactly: words
/-- a sum over the seats of a group, by seats -/
noncomputable def hy9_ (f : Int → Int) (g : Int) (cl : Int → Int) : Nat → Int
  | 0 => 0
  | e + 1 => hy9_ f g cl e + cz_ (mb9_ g (cl (e : Int))) (f (e : Int)) 0
theorem hy_w {f F cl : Int → Int} {g : Int} : ∀ e : Nat, (∀ s : Int, 0 ≤ s → s < (e : Int) → f s = F (cl s)) → hy9_ f g cl e = hw9_ F g cl e
  | 0, _ => rfl
  | e + 1, h => by
    show hy9_ f g cl e + cz_ (mb9_ g (cl (e : Int))) (f (e : Int)) 0 = hw9_ F g cl e + cz_ (mb9_ g (cl (e : Int))) (F (cl (e : Int))) 0
    rw [hy_w e (fun s a b => h s a (by omega)), h (e : Int) (by omega) (by omega)]
theorem hy_t {f cl : Int → Int} {g i : Int} (hi : 0 ≤ i) (h : mb9_ g (cl i)) : hy9_ f g cl (i + 1).toNat = hy9_ f g cl i.toNat + f i := by
  rw [show (i + 1).toNat = i.toNat + 1 by omega]
  show hy9_ f g cl i.toNat + cz_ (mb9_ g (cl ((i.toNat : Nat) : Int))) (f ((i.toNat : Nat) : Int)) 0 = _
  rw [show ((i.toNat : Nat) : Int) = i by omega, cz_t h]
theorem hy_f {f cl : Int → Int} {g i : Int} (hi : 0 ≤ i) (h : ¬ mb9_ g (cl i)) : hy9_ f g cl (i + 1).toNat = hy9_ f g cl i.toNat := by
  rw [show (i + 1).toNat = i.toNat + 1 by omega]
  show hy9_ f g cl i.toNat + cz_ (mb9_ g (cl ((i.toNat : Nat) : Int))) (f ((i.toNat : Nat) : Int)) 0 = _
  rw [show ((i.toNat : Nat) : Int) = i by omega, cz_f h, Int.add_zero]
theorem mb_n {g x : Int} (hg : 0 ≤ g ∧ g ≤ 4095) (hx : 0 ≤ x ∧ x ≤ 11) (h : an_ (sr_ g x) 1 ≠ 0) : mb9_ g x := by
  unfold mb9_
  rw [bt_n (by omega) (by omega)] at h ⊢
  rcases bt_01 g.toNat x.toNat with z | z
  · exact absurd z h
  · exact z
theorem mb_z {g x : Int} (h : an_ (sr_ g x) 1 = 0) : ¬ mb9_ g x := fun q => by
  have q' : an_ (sr_ g x) 1 = 1 := q
  omega
/-- the head of a seat in a group -/
noncomputable def hd9_ (T : Zt) (c g s : Int) : Int := (hy9_ (fun o => T 545 0 (s * 12 + o)) g (fun o => T 403 c o) (T 100 c 5).toNat * 1000000 + hy9_ (fun o => T 546 0 (s * 12 + o)) g (fun o => T 403 c o) (T 100 c 5).toNat - hy9_ (fun o => T 546 0 (o * 12 + s)) g (fun o => T 403 c o) (T 100 c 5).toNat) * 1000000 + hy9_ (fun o => T 546 0 (s * 12 + o)) g (fun o => T 403 c o) (T 100 c 5).toNat
/-- what a seat is worth by a key -/
noncomputable def wh9_ (T : Zt) (c k g s : Int) : Int := if k = 0 then T 542 0 (s * 8 + 6) else if T 402 c (k - 1) = 0 then wr_ (T 542 0 (s * 8 + 4) - T 542 0 (s * 8 + 5)) else if T 402 c (k - 1) = 1 then T 542 0 (s * 8 + 4) else if T 402 c (k - 1) = 2 then T 542 0 (s * 8 + 1) else if T 402 c (k - 1) = 3 then T 543 0 s else if T 402 c (k - 1) = 4 then hd9_ T c g s else if T 402 c (k - 1) = 5 then wr_ (-(T 544 0 s)) else lo9_ (T 401 c 15) g (T 403 c s)
theorem wh_v {T : Zt} {c k g s : Int} : (k = 0 → wh9_ T c k g s = T 542 0 (s * 8 + 6)) ∧ (k ≠ 0 → T 402 c (k - 1) = 0 → wh9_ T c k g s = wr_ (T 542 0 (s * 8 + 4) - T 542 0 (s * 8 + 5))) ∧ (k ≠ 0 → T 402 c (k - 1) = 1 → wh9_ T c k g s = T 542 0 (s * 8 + 4)) ∧ (k ≠ 0 → T 402 c (k - 1) = 2 → wh9_ T c k g s = T 542 0 (s * 8 + 1)) ∧ (k ≠ 0 → T 402 c (k - 1) = 3 → wh9_ T c k g s = T 543 0 s) ∧ (k ≠ 0 → T 402 c (k - 1) = 4 → wh9_ T c k g s = hd9_ T c g s) ∧ (k ≠ 0 → T 402 c (k - 1) = 5 → wh9_ T c k g s = wr_ (-(T 544 0 s))) ∧ (k ≠ 0 → ¬ (0 ≤ T 402 c (k - 1) ∧ T 402 c (k - 1) ≤ 5) → wh9_ T c k g s = lo9_ (T 401 c 15) g (T 403 c s)) := by
  refine ⟨fun h => ?_, fun h z => ?_, fun h z => ?_, fun h z => ?_, fun h z => ?_, fun h z => ?_, fun h z => ?_, fun h z => ?_⟩ <;> unfold wh9_
  · rw [if_pos h]
  · rw [if_neg h, if_pos z]
  · rw [if_neg h, if_neg (by omega), if_pos z]
  · rw [if_neg h, if_neg (by omega), if_neg (by omega), if_pos z]
  · rw [if_neg h, if_neg (by omega), if_neg (by omega), if_neg (by omega), if_pos z]
  · rw [if_neg h, if_neg (by omega), if_neg (by omega), if_neg (by omega), if_neg (by omega), if_pos z]
  · rw [if_neg h, if_neg (by omega), if_neg (by omega), if_neg (by omega), if_neg (by omega), if_neg (by omega), if_pos z]
  · rw [if_neg h, if_neg (by omega), if_neg (by omega), if_neg (by omega), if_neg (by omega), if_neg (by omega), if_neg (by omega)]
/-- the heads of the house are small -/
def HB9_ (T : Zt) (c : Int) : Prop := ∀ x y : Int, 0 ≤ x → x < T 100 c 5 → 0 ≤ y → y < T 100 c 5 → (-100000 ≤ T 545 0 (x * 12 + y) ∧ T 545 0 (x * 12 + y) ≤ 100000) ∧ (-1000000 ≤ T 546 0 (x * 12 + y) ∧ T 546 0 (x * 12 + y) ≤ 1000000)
theorem wh_f {ws : List (Nat × List Int)} {T U : Zt} (f : fr_ ws T U) (w : ∀ (k : Nat) (j : Int), k = 542 ∨ k = 543 ∨ k = 544 ∨ k = 545 ∨ k = 546 ∨ k = 401 ∨ k = 402 ∨ k = 403 → fw_ ws k j = false) (w5 : fw_ ws 100 5 = false) {c k g s : Int} : wh9_ U c k g s = wh9_ T c k g s := by
  have e2 : ∀ j, U 542 0 j = T 542 0 j := fun j => f 542 0 j (w 542 j (by decide))
  have e3 : ∀ j, U 543 0 j = T 543 0 j := fun j => f 543 0 j (w 543 j (by decide))
  have e4 : ∀ j, U 544 0 j = T 544 0 j := fun j => f 544 0 j (w 544 j (by decide))
  have e5 : ∀ j, U 545 0 j = T 545 0 j := fun j => f 545 0 j (w 545 j (by decide))
  have e6 : ∀ j, U 546 0 j = T 546 0 j := fun j => f 546 0 j (w 546 j (by decide))
  have f1 : ∀ j, U 401 c j = T 401 c j := fun j => f 401 c j (w 401 j (by decide))
  have f2 : ∀ j, U 402 c j = T 402 c j := fun j => f 402 c j (w 402 j (by decide))
  have f3 : ∀ j, U 403 c j = T 403 c j := fun j => f 403 c j (w 403 j (by decide))
  have f5 : U 100 c 5 = T 100 c 5 := f 100 c 5 w5
  simp only [wh9_, hd9_, e2, e3, e4, e5, e6, f1, f2, f3, f5]
-- the house's pile
def pl9h_ (T : Zt) : Nat → Pl_
  | 0 => []
  | n + 1 => (T 550 0 (n : Int), T 551 0 (n : Int), T 552 0 (n : Int)) :: pl9h_ T n
theorem plh_e {T T1 : Zt} : ∀ n : Nat, (∀ (k : Nat) (j : Int), k = 550 ∨ k = 551 ∨ k = 552 → 0 ≤ j → j < (n : Int) → T1 k 0 j = T k 0 j) → pl9h_ T1 n = pl9h_ T n
  | 0, _ => rfl
  | n + 1, h => by
    show (T1 550 0 (n : Int), T1 551 0 (n : Int), T1 552 0 (n : Int)) :: pl9h_ T1 n = (T 550 0 (n : Int), T 551 0 (n : Int), T 552 0 (n : Int)) :: pl9h_ T n
    rw [plh_e n (fun k j q a b => h k j q a (by omega)), h 550 _ (by decide) (by omega) (by omega), h 551 _ (by decide) (by omega) (by omega), h 552 _ (by decide) (by omega) (by omega)]
theorem plh_s {T : Zt} {w : Int} (hw : 0 < w) : pl9h_ T w.toNat = (T 550 0 (w - 1), T 551 0 (w - 1), T 552 0 (w - 1)) :: pl9h_ T (w - 1).toNat := by
  rw [show w.toNat = (w - 1).toNat + 1 by omega]
  show (T 550 0 (((w - 1).toNat : Nat) : Int), T 551 0 (((w - 1).toNat : Nat) : Int), T 552 0 (((w - 1).toNat : Nat) : Int)) :: pl9h_ T (w - 1).toNat = _
  rw [show (((w - 1).toNat : Nat) : Int) = w - 1 by omega]
theorem plh_l {T : Zt} : ∀ n : Nat, (pl9h_ T n).length = n
  | 0 => rfl
  | n + 1 => by
    show (pl9h_ T n).length + 1 = n + 1
    rw [plh_l n]
theorem plh_p {T U : Zt} {kc b k nx w : Int} (hw : 0 ≤ w) (n : ¬ (k - b < 2 ∨ kc < nx)) (e0 : U 550 0 w = b) (e1 : U 551 0 w = k) (e2 : U 552 0 w = nx) (e : ∀ (q : Nat) (j : Int), q = 550 ∨ q = 551 ∨ q = 552 → 0 ≤ j → j < w → U q 0 j = T q 0 j) : pl9h_ U (w + 1).toNat = pu9_ kc b k nx (pl9h_ T w.toNat) := by
  rw [pu_f n, plh_s (T := U) (w := w + 1) (by omega), show w + 1 - 1 = w by omega, e0, e1, e2, plh_e (T := T) (T1 := U) w.toNat (fun q j h a b => e q j h a (by omega))]
/-- the house's worth is that of clubs -/
def HWW_ (T : Zt) (c : Int) (WW : Int → Int → Int → Int) : Prop := ∀ k g s : Int, 0 ≤ k → k ≤ T 401 c 4 → 0 ≤ g → g ≤ 4095 → 0 ≤ s → s < T 100 c 5 → mb9_ g (T 403 c s) → wh9_ T c k g s = WW k g (T 403 c s)
/-- a group is ordered by the house -/
def OH9_ (T T' : Zt) (c f t k : Int) (WW : Int → Int → Int → Int) : Prop := sg9_ WW (T 401 c 5) (T 401 c 4) f t k (fun x => T 403 c (T 547 0 x)) (fun x => T 548 0 x) (pl9h_ T (T 107 0 13).toNat) = ((fun x => T 403 c (T' 547 0 x)), (fun x => T' 548 0 x), pl9h_ T' (T' 107 0 13).toNat)
theorem gl_b {V p p1 : Int → Int} {f t key nx kc e b w : Int} {q q1 : Pl_} {n : Nat} (hf : 0 ≤ f) (ht : t ≤ e) (hn : 0 ≤ nx) (hk : kc ≤ 7) (hq : PWm_ e kc q) (hs : sz9_ q + (t - f) ≤ 12) (h : f + (n : Int) ≤ t) (g : gl9_ V f t key nx kc p q n = (b, p1, q1)) (hw : (q1.length : Int) = w) : w ≤ 6 ∧ PWm_ e kc q1 ∧ sz9_ q1 ≤ sz9_ q + (b - f) := by
  have y := gl_w (V := V) (key := key) (p := p) hf ht hn hq n h
  rw [g] at y
  obtain ⟨⟨y1, y2, _⟩, y4, y5, _⟩ := y
  have z1 : f ≤ b ∧ b ≤ f + (n : Int) := ⟨y1, y2⟩
  have z2 : PWm_ e kc q1 := y4
  have z3 : sz9_ q1 ≤ sz9_ q + (b - f) := y5
  have z4 := ph_0 hk z2
  exact ⟨by omega, z2, z3⟩
theorem som_r {T U : Zt} {f t n : Int} {W : Int → Int} {Q : Int → Prop} (h1 : (fun x => U 547 0 x) = som9_ W f (t - f - 1).toNat (fun x => T 547 0 x)) (hf : 0 ≤ f ∧ f + 2 ≤ t ∧ t ≤ n) (q : ∀ x, 0 ≤ x → x < n → Q (T 547 0 x)) : ∀ x, 0 ≤ x → x < n → Q (U 547 0 x) := fun x a b => by
  have y := so_q (W := W) (f := f) (Q := Q) (t - f - 1).toNat (fun x => T 547 0 x) (fun k a b => q k (by omega) (by omega))
  rw [← h1] at y
  by_cases z : f ≤ x ∧ x < t
  · exact y.1 x z.1 (by omega)
  · have w : U 547 0 x = T 547 0 x := y.2 x (by omega)
    rw [w]
    exact q x a b
theorem rkh_s {WW : Int → Int → Int → Int} {rd kc e f t key N : Int} {R : (Int → Int) × (Int → Int)} {o p o' p' : Int → Int} {q q' : Pl_} (hN : 0 < N) (hf : 0 ≤ f ∧ f + 2 ≤ t ∧ t ≤ e) (h : rk9_ WW rd kc N.toNat (mk9_ e o) (mk9_ e p) ((f, t, key) :: q) = R) (s : sg9_ WW rd kc f t key o p q = (o', p', q')) : rk9_ WW rd kc (N - 1).toNat (mk9_ e o') (mk9_ e p') q' = R := by
  have m := sg_mk (WW := WW) (rd := rd) (kc := kc) (key := key) (N := e) (o := o) (p := p) (q := q) (f := f) (t := t) hf
  rw [s] at m
  rw [show N.toNat = (N - 1).toNat + 1 by omega, rk_s, m] at h
  exact h
theorem hww_f {ws : List (Nat × List Int)} {T U : Zt} {c : Int} {WW : Int → Int → Int → Int} (h : HWW_ T c WW) (f : fr_ ws T U) (w : ∀ (k : Nat) (j : Int), k = 542 ∨ k = 543 ∨ k = 544 ∨ k = 545 ∨ k = 546 ∨ k = 401 ∨ k = 402 ∨ k = 403 → fw_ ws k j = false) (w5 : fw_ ws 100 5 = false) : HWW_ U c WW := fun k g s a b p q i j m => by
  rw [f 401 c 4 (w 401 4 (by decide))] at b
  rw [f 100 c 5 w5] at j
  rw [f 403 c s (w 403 s (by decide))] at m ⊢
  rw [wh_f f w w5]
  exact h k g s a b p q i j m
theorem hb9_g {ws : List (Nat × List Int)} {T U : Zt} {c : Int} (h : HB9_ T c) (f : fr_ ws T U) (w5 : ∀ j, fw_ ws 545 j = false) (w6 : ∀ j, fw_ ws 546 j = false) (w1 : fw_ ws 100 5 = false) : HB9_ U c := fun x y a b p q => by
  rw [f 100 c 5 w1] at b q
  rw [f 545 0 _ (w5 _), f 546 0 _ (w6 _)]
  exact h x y a b p q
/-- the places that are written -/
def LL_ (U : Zt) (k : Int) : Prop := ∀ j : Int, 0 ≤ j → j < k → (∀ i, j < i → i < k → U 547 0 i ≠ U 547 0 j) → U 542 0 (U 547 0 j * 8 + 7) = pc9_ (fun x => U 548 0 x) j.toNat
theorem ll_s {T U : Zt} {k v i : Int} (h : LL_ T k) (hk : 0 ≤ k) (e : U = up_ T 542 0 i v) (hi : i = T 547 0 k * 8 + 7) (hv : v = pc9_ (fun x => T 548 0 x) k.toNat) : LL_ U (k + 1) := fun j a b n => by
  have e7 : ∀ x, U 547 0 x = T 547 0 x := fun x => up_k e (by exact Nat.ne_of_beq_eq_false rfl) 0 x
  have e8 : (fun x => U 548 0 x) = (fun x => T 548 0 x) := funext (fun x => up_k e (by exact Nat.ne_of_beq_eq_false rfl) 0 x)
  rw [e8, e7]
  by_cases z : j = k
  · rw [z, ← hi, up_f e]
    exact hv
  · have y : T 547 0 j ≠ T 547 0 k := fun q => n k (by omega) (by omega) (by rw [e7, e7]; exact q.symm)
    rw [up_g e (fun q => y (by omega))]
    exact h j a (by omega) (fun i p q => by
      have := n i p (by omega)
      rw [e7, e7] at this
      exact this)
/-- the order of all, of the house -/
noncomputable def RKh_ (T : Zt) (c : Int) (WW : Int → Int → Int → Int) : (Int → Int) × (Int → Int) := rk9_ WW (T 401 c 5) (T 401 c 4) 1000 (mk9_ (T 100 c 5) (fun x => T 403 c x)) (mk9_ (T 100 c 5) (fun _ => -1)) (pu9_ (T 401 c 4) 0 (T 100 c 5) 0 [])
theorem bk_X7_lot_e_0 : ck_ fX7 (some .int) cX7_lot 0 [.aload 0, .tableswitch 0 7 1 #[], .tableswitch 0 0 1 #[], .iconst 15, .iaload, .iconst 1000003, .fmul, .iload 2, .fadd, .iconst 31, .fmul, .iload 1, .fadd, .istore 3, .iload 3, .iload 3, .iconst 16, .iushr, .ixor, .iconst 73244475, .fmul, .istore 3, .iload 3, .iload 3, .iconst 16, .iushr, .ixor, .iconst 73244475, .fmul, .istore 3, .iload 3, .iload 3, .iconst 16, .iushr, .ixor, .istore 3, .iload 3, .iconst 2147483647, .iand, .ireturn] 53 = true := qck_r (nn_ _) (by decide +kernel)
theorem bs_X7_lot_e_0 {P : Zt → Option Zv → Prop} (K : Int → Zl → List Zv → Zt → Prop) : sx_ K P [.aload 0, .tableswitch 0 7 1 #[], .tableswitch 0 0 1 #[], .iconst 15, .iaload, .iconst 1000003, .fmul, .iload 2, .fadd, .iconst 31, .fmul, .iload 1, .fadd, .istore 3, .iload 3, .iload 3, .iconst 16, .iushr, .ixor, .iconst 73244475, .fmul, .istore 3, .iload 3, .iload 3, .iconst 16, .iushr, .ixor, .iconst 73244475, .fmul, .istore 3, .iload 3, .iload 3, .iconst 16, .iushr, .ixor, .istore 3, .iload 3, .iconst 2147483647, .iand, .ireturn] 53 = x_aload 0 (x_g5 107 100 1 (x_g2 100 401 (x_iconst 15 (x_iaload (x_iconst 1000003 (x_fmul (x_iload 2 (x_fadd (x_iconst 31 (x_fmul (x_iload 1 (x_fadd (x_istore 3 (x_iload 3 (x_iload 3 (x_iconst 16 (x_iushr (x_ixor (x_iconst 73244475 (x_fmul (x_istore 3 (x_iload 3 (x_iload 3 (x_iconst 16 (x_iushr (x_ixor (x_iconst 73244475 (x_fmul (x_istore 3 (x_iload 3 (x_iload 3 (x_iconst 16 (x_iushr (x_ixor (x_istore 3 (x_iload 3 (x_iconst 2147483647 (x_iand (x_ireturn P))))))))))))))))))))))))))))))))))))))) := ((xe_aload 0).trans (congrArg (x_aload 0) ((xe_g5 (kk := 107) rfl tl_7_1).trans (congrArg (x_g5 107 100 1) ((xe_g2 (kk := 100) rfl tl_0_1).trans (congrArg (x_g2 100 401) ((xe_iconst 15).trans (congrArg (x_iconst 15) ((xe_iaload).trans (congrArg (x_iaload) ((xe_iconst 1000003).trans (congrArg (x_iconst 1000003) ((xe_fmul).trans (congrArg (x_fmul) ((xe_iload 2).trans (congrArg (x_iload 2) ((xe_fadd).trans (congrArg (x_fadd) ((xe_iconst 31).trans (congrArg (x_iconst 31) ((xe_fmul).trans (congrArg (x_fmul) ((xe_iload 1).trans (congrArg (x_iload 1) ((xe_fadd).trans (congrArg (x_fadd) ((xe_istore 3).trans (congrArg (x_istore 3) ((xe_iload 3).trans (congrArg (x_iload 3) ((xe_iload 3).trans (congrArg (x_iload 3) ((xe_iconst 16).trans (congrArg (x_iconst 16) ((xe_iushr).trans (congrArg (x_iushr) ((xe_ixor).trans (congrArg (x_ixor) ((xe_iconst 73244475).trans (congrArg (x_iconst 73244475) ((xe_fmul).trans (congrArg (x_fmul) ((xe_istore 3).trans (congrArg (x_istore 3) ((xe_iload 3).trans (congrArg (x_iload 3) ((xe_iload 3).trans (congrArg (x_iload 3) ((xe_iconst 16).trans (congrArg (x_iconst 16) ((xe_iushr).trans (congrArg (x_iushr) ((xe_ixor).trans (congrArg (x_ixor) ((xe_iconst 73244475).trans (congrArg (x_iconst 73244475) ((xe_fmul).trans (congrArg (x_fmul) ((xe_istore 3).trans (congrArg (x_istore 3) ((xe_iload 3).trans (congrArg (x_iload 3) ((xe_iload 3).trans (congrArg (x_iload 3) ((xe_iconst 16).trans (congrArg (x_iconst 16) ((xe_iushr).trans (congrArg (x_iushr) ((xe_ixor).trans (congrArg (x_ixor) ((xe_istore 3).trans (congrArg (x_istore 3) ((xe_iload 3).trans (congrArg (x_iload 3) ((xe_iconst 2147483647).trans (congrArg (x_iconst 2147483647) ((xe_iand).trans (congrArg (x_iand) (xe_ireturn)))))))))))))))))))))))))))))))))))))))))))))))))))))))))))))))))))))))))))))))
abbrev po_X7_lot_e (T : Zt) (c : Int) (q g : Int) : Zt → Option Zv → Prop := fun T' r => T = T' ∧ ∃ x : Int, r = some (vI x) ∧ ((-2147483648 ≤ x ∧ x ≤ 2147483647) ∧ x = lo9_ (T 401 c 15) g q)
set_option maxHeartbeats 4000000 in
theorem ct_X7_lot_e {T : Zt} {c : Int} {q g : Int} (hcx : T 107 0 1 = c + 1 ∧ 0 ≤ c) : Ct_ yX7_lot zX7_lot T [vR 107 0, vI q, vI g] (po_X7_lot_e T c q g) := by
  refine ct_of pn_7 rfl rfl (Nat.le_of_ble_eq_true rfl) (fun hT hav => ?_)
  have hr_q : -2147483648 ≤ q ∧ q ≤ 2147483647 := hav (vI q) (List.mem_cons_of_mem _ List.mem_cons_self)
  have hr_g : -2147483648 ≤ g ∧ g ≤ 2147483647 := hav (vI g) (List.mem_cons_of_mem _ (List.mem_cons_of_mem _ List.mem_cons_self))
  have hz : zX7_lot.2.2.2.1 = some .boolean → ∀ (T' : Zt) (x : Int), po_X7_lot_e T c q g T' (some (vI x)) → 0 ≤ x ∧ x ≤ 1 := fun h => by cases h
  show J_ zX7_lot T (po_X7_lot_e T c q g) 0 0 0 [some (vR 107 0), some (vI q), some (vI g), none] [] T
  refine j_blx (F := fX7) tb_X7 (nn_ _) bk_X7_lot_e_0 bs_X7_lot_e_0 hz (fun K hK => ?_)
  refine And.intro (fun c1 => ?_) (fun c1 => ?_)
  · exact absurd c1 (by omega)
  · have z2 : T 107 0 1 - 1 = c := by omega
    rw [z2]
    refine ix_i (by omega) ?_
    intro b3 b3b
    intro w4 w4b
    intro w5 w5b
    intro w6 w6b
    intro w7 w7b
    intro w8 w8b
    intro w9 w9b
    intro w10 w10b
    intro w11 w11b
    intro w12 w12b
    intro w13 w13b
    intro w14 w14b
    intro w15 w15b
    intro w16 w16b
    refine (show po_X7_lot_e T c q g T (some (vI (an_ (xo_ (wr_ ((xo_ (wr_ ((xo_ (wr_ ((wr_ ((wr_ ((wr_ ((T 401 c 15) * 1000003)) + g)) * 31)) + q)) (us_ (wr_ ((wr_ ((wr_ ((wr_ ((T 401 c 15) * 1000003)) + g)) * 31)) + q)) 16)) * 73244475)) (us_ (wr_ ((xo_ (wr_ ((wr_ ((wr_ ((wr_ ((T 401 c 15) * 1000003)) + g)) * 31)) + q)) (us_ (wr_ ((wr_ ((wr_ ((wr_ ((T 401 c 15) * 1000003)) + g)) * 31)) + q)) 16)) * 73244475)) 16)) * 73244475)) (us_ (wr_ ((xo_ (wr_ ((xo_ (wr_ ((wr_ ((wr_ ((wr_ ((T 401 c 15) * 1000003)) + g)) * 31)) + q)) (us_ (wr_ ((wr_ ((wr_ ((wr_ ((T 401 c 15) * 1000003)) + g)) * 31)) + q)) 16)) * 73244475)) (us_ (wr_ ((xo_ (wr_ ((wr_ ((wr_ ((wr_ ((T 401 c 15) * 1000003)) + g)) * 31)) + q)) (us_ (wr_ ((wr_ ((wr_ ((wr_ ((T 401 c 15) * 1000003)) + g)) * 31)) + q)) 16)) * 73244475)) 16)) * 73244475)) 16)) 2147483647))) from ?_)
    exact ⟨rfl, _, rfl, by omega, rfl⟩
theorem bk_X7_headWorth_e_11 : ck_ fX7 (some .long) cX7_headWorth 11 [.iload 9, .aload 0, .tableswitch 0 7 1 #[], .tableswitch 0 0 5 #[], .if_icmp .ge 98, .iload 2, .aload 0, .tableswitch 0 7 1 #[], .tableswitch 0 0 3 #[], .iload 9, .iaload, .ishr, .iconst 1, .iand, .ifCond .eq 92, .lload 3, .aload 0, .tableswitch 0 7 5 #[], .iload 1, .iconst 12, .imul, .iload 9, .iadd, .iaload, .i2l, .ladd, .lstore 3, .lload 5, .aload 0, .tableswitch 0 7 6 #[], .iload 1, .iconst 12, .imul, .iload 9, .iadd, .iaload, .i2l, .ladd, .lstore 5, .lload 7, .aload 0, .tableswitch 0 7 6 #[], .iload 9, .iconst 12, .imul, .iload 1, .iadd, .iaload, .i2l, .ladd, .lstore 7, .iinc 9 1, .goto 11] 98 = true := qck_r (nn_ _) (by decide +kernel)
theorem bs_X7_headWorth_e_11 {P : Zt → Option Zv → Prop} (K : Int → Zl → List Zv → Zt → Prop) : sx_ K P [.iload 9, .aload 0, .tableswitch 0 7 1 #[], .tableswitch 0 0 5 #[], .if_icmp .ge 98, .iload 2, .aload 0, .tableswitch 0 7 1 #[], .tableswitch 0 0 3 #[], .iload 9, .iaload, .ishr, .iconst 1, .iand, .ifCond .eq 92, .lload 3, .aload 0, .tableswitch 0 7 5 #[], .iload 1, .iconst 12, .imul, .iload 9, .iadd, .iaload, .i2l, .ladd, .lstore 3, .lload 5, .aload 0, .tableswitch 0 7 6 #[], .iload 1, .iconst 12, .imul, .iload 9, .iadd, .iaload, .i2l, .ladd, .lstore 5, .lload 7, .aload 0, .tableswitch 0 7 6 #[], .iload 9, .iconst 12, .imul, .iload 1, .iadd, .iaload, .i2l, .ladd, .lstore 7, .iinc 9 1, .goto 11] 98 = x_iload 9 (x_aload 0 (x_g5 107 100 1 (x_g0 100 5 0 12 (x_if_icmp .ge 98 K (x_iload 2 (x_aload 0 (x_g5 107 100 1 (x_g2 100 403 (x_iload 9 (x_iaload (x_ishr (x_iconst 1 (x_iand (x_ifCond .eq 92 K (x_lload 3 (x_aload 0 (x_g1 107 545 (x_iload 1 (x_iconst 12 (x_imul (x_iload 9 (x_iadd (x_iaload (x_i2l (x_ladd (x_lstore 3 (x_lload 5 (x_aload 0 (x_g1 107 546 (x_iload 1 (x_iconst 12 (x_imul (x_iload 9 (x_iadd (x_iaload (x_i2l (x_ladd (x_lstore 5 (x_lload 7 (x_aload 0 (x_g1 107 546 (x_iload 9 (x_iconst 12 (x_imul (x_iload 1 (x_iadd (x_iaload (x_i2l (x_ladd (x_lstore 7 (x_iinc 9 1 (x_goto 11 K)))))))))))))))))))))))))))))))))))))))))))))))))))) := ((xe_iload 9).trans (congrArg (x_iload 9) ((xe_aload 0).trans (congrArg (x_aload 0) ((xe_g5 (kk := 107) rfl tl_7_1).trans (congrArg (x_g5 107 100 1) ((xe_g0 (kk := 100) rfl tl_0_5).trans (congrArg (x_g0 100 5 0 12) ((xe_if_icmp .ge 98).trans (congrArg (x_if_icmp .ge 98 K) ((xe_iload 2).trans (congrArg (x_iload 2) ((xe_aload 0).trans (congrArg (x_aload 0) ((xe_g5 (kk := 107) rfl tl_7_1).trans (congrArg (x_g5 107 100 1) ((xe_g2 (kk := 100) rfl tl_0_3).trans (congrArg (x_g2 100 403) ((xe_iload 9).trans (congrArg (x_iload 9) ((xe_iaload).trans (congrArg (x_iaload) ((xe_ishr).trans (congrArg (x_ishr) ((xe_iconst 1).trans (congrArg (x_iconst 1) ((xe_iand).trans (congrArg (x_iand) ((xe_ifCond .eq 92).trans (congrArg (x_ifCond .eq 92 K) ((xe_lload 3).trans (congrArg (x_lload 3) ((xe_aload 0).trans (congrArg (x_aload 0) ((xe_g1 (kk := 107) rfl tl_7_5).trans (congrArg (x_g1 107 545) ((xe_iload 1).trans (congrArg (x_iload 1) ((xe_iconst 12).trans (congrArg (x_iconst 12) ((xe_imul).trans (congrArg (x_imul) ((xe_iload 9).trans (congrArg (x_iload 9) ((xe_iadd).trans (congrArg (x_iadd) ((xe_iaload).trans (congrArg (x_iaload) ((xe_i2l).trans (congrArg (x_i2l) ((xe_ladd).trans (congrArg (x_ladd) ((xe_lstore 3).trans (congrArg (x_lstore 3) ((xe_lload 5).trans (congrArg (x_lload 5) ((xe_aload 0).trans (congrArg (x_aload 0) ((xe_g1 (kk := 107) rfl tl_7_6).trans (congrArg (x_g1 107 546) ((xe_iload 1).trans (congrArg (x_iload 1) ((xe_iconst 12).trans (congrArg (x_iconst 12) ((xe_imul).trans (congrArg (x_imul) ((xe_iload 9).trans (congrArg (x_iload 9) ((xe_iadd).trans (congrArg (x_iadd) ((xe_iaload).trans (congrArg (x_iaload) ((xe_i2l).trans (congrArg (x_i2l) ((xe_ladd).trans (congrArg (x_ladd) ((xe_lstore 5).trans (congrArg (x_lstore 5) ((xe_lload 7).trans (congrArg (x_lload 7) ((xe_aload 0).trans (congrArg (x_aload 0) ((xe_g1 (kk := 107) rfl tl_7_6).trans (congrArg (x_g1 107 546) ((xe_iload 9).trans (congrArg (x_iload 9) ((xe_iconst 12).trans (congrArg (x_iconst 12) ((xe_imul).trans (congrArg (x_imul) ((xe_iload 1).trans (congrArg (x_iload 1) ((xe_iadd).trans (congrArg (x_iadd) ((xe_iaload).trans (congrArg (x_iaload) ((xe_i2l).trans (congrArg (x_i2l) ((xe_ladd).trans (congrArg (x_ladd) ((xe_lstore 7).trans (congrArg (x_lstore 7) ((xe_iinc 9 1).trans (congrArg (x_iinc 9 1) (xe_goto 11)))))))))))))))))))))))))))))))))))))))))))))))))))))))))))))))))))))))))))))))))))))))))))))))))))))))))
theorem bk_X7_headWorth_e_98 : ck_ fX7 (some .long) cX7_headWorth 98 [.lload 3, .sipush 1000000, .lmul, .lload 5, .ladd, .lload 7, .lsub, .sipush 1000000, .lmul, .lload 5, .ladd, .lreturn] 117 = true := qck_r (nn_ _) (by decide +kernel)
theorem bs_X7_headWorth_e_98 {P : Zt → Option Zv → Prop} (K : Int → Zl → List Zv → Zt → Prop) : sx_ K P [.lload 3, .sipush 1000000, .lmul, .lload 5, .ladd, .lload 7, .lsub, .sipush 1000000, .lmul, .lload 5, .ladd, .lreturn] 117 = x_lload 3 (x_sipush 1000000 (x_lmul (x_lload 5 (x_ladd (x_lload 7 (x_lsub (x_sipush 1000000 (x_lmul (x_lload 5 (x_ladd (x_lreturn P))))))))))) := ((xe_lload 3).trans (congrArg (x_lload 3) ((xe_sipush 1000000).trans (congrArg (x_sipush 1000000) ((xe_lmul).trans (congrArg (x_lmul) ((xe_lload 5).trans (congrArg (x_lload 5) ((xe_ladd).trans (congrArg (x_ladd) ((xe_lload 7).trans (congrArg (x_lload 7) ((xe_lsub).trans (congrArg (x_lsub) ((xe_sipush 1000000).trans (congrArg (x_sipush 1000000) ((xe_lmul).trans (congrArg (x_lmul) ((xe_lload 5).trans (congrArg (x_lload 5) ((xe_ladd).trans (congrArg (x_ladd) (xe_lreturn)))))))))))))))))))))))
theorem bk_X7_headWorth_e_92 : ck_ fX7 (some .long) cX7_headWorth 92 [.iinc 9 1, .goto 11] 98 = true := qck_r (nn_ _) (by decide +kernel)
theorem bs_X7_headWorth_e_92 {P : Zt → Option Zv → Prop} (K : Int → Zl → List Zv → Zt → Prop) : sx_ K P [.iinc 9 1, .goto 11] 98 = x_iinc 9 1 (x_goto 11 K) := ((xe_iinc 9 1).trans (congrArg (x_iinc 9 1) (xe_goto 11)))
theorem bk_X7_headWorth_e_0 : ck_ fX7 (some .long) cX7_headWorth 0 [.sipush 0, .lstore 3, .sipush 0, .lstore 5, .sipush 0, .lstore 7, .iconst 0, .istore 9] 11 = true := qck_r (nn_ _) (by decide +kernel)
theorem bs_X7_headWorth_e_0 {P : Zt → Option Zv → Prop} (K : Int → Zl → List Zv → Zt → Prop) : sx_ K P [.sipush 0, .lstore 3, .sipush 0, .lstore 5, .sipush 0, .lstore 7, .iconst 0, .istore 9] 11 = x_sipush 0 (x_lstore 3 (x_sipush 0 (x_lstore 5 (x_sipush 0 (x_lstore 7 (x_iconst 0 (x_istore 9 (K 11)))))))) := ((xe_sipush 0).trans (congrArg (x_sipush 0) ((xe_lstore 3).trans (congrArg (x_lstore 3) ((xe_sipush 0).trans (congrArg (x_sipush 0) ((xe_lstore 5).trans (congrArg (x_lstore 5) ((xe_sipush 0).trans (congrArg (x_sipush 0) ((xe_lstore 7).trans (congrArg (x_lstore 7) ((xe_iconst 0).trans (congrArg (x_iconst 0) ((xe_istore 9).trans (congrArg (x_istore 9) xe_nil))))))))))))))))
abbrev po_X7_headWorth_e (T : Zt) (c : Int) (s g : Int) : Zt → Option Zv → Prop := fun T' r => T = T' ∧ ∃ x : Int, r = some (vL x) ∧ ((-9223372036854775808 ≤ x ∧ x ≤ 9223372036854775807) ∧ x = hd9_ T c g s)
set_option maxHeartbeats 4000000 in
theorem ct_X7_headWorth_e {T : Zt} {c : Int} {s g : Int} (hcx : T 107 0 1 = c + 1 ∧ 0 ≤ c) (hs : 0 ≤ s ∧ s < T 100 c 5) (hg : 0 ≤ g ∧ g ≤ 4095) (hb : HB9_ T c) : Ct_ yX7_headWorth zX7_headWorth T [vR 107 0, vI s, vI g] (po_X7_headWorth_e T c s g) := by
  refine ct_of pn_7 rfl rfl (Nat.le_of_ble_eq_true rfl) (fun hT hav => ?_)
  have hr_s : -2147483648 ≤ s ∧ s ≤ 2147483647 := hav (vI s) (List.mem_cons_of_mem _ List.mem_cons_self)
  have hr_g : -2147483648 ≤ g ∧ g ≤ 2147483647 := hav (vI g) (List.mem_cons_of_mem _ (List.mem_cons_of_mem _ List.mem_cons_self))
  have hz : zX7_headWorth.2.2.2.1 = some .boolean → ∀ (T' : Zt) (x : Int), po_X7_headWorth_e T c s g T' (some (vI x)) → 0 ≤ x ∧ x ≤ 1 := fun h => by cases h
  have hen : 0 ≤ T 100 c 5 ∧ T 100 c 5 ≤ 12 := bd_f hT 100 5 tl_0_5 c
  show J_ zX7_headWorth T (po_X7_headWorth_e T c s g) 0 0 0 [some (vR 107 0), some (vI s), some (vI g), none, none, none, none, none, none, none] [] T
  have c_11 : ∀ (nn : Nat) (a : Int) (b : Int) (d : Int) (i : Int), ((12 - i).toNat) ≤ nn → (0 ≤ i ∧ i ≤ T 100 c 5 ∧ (-(100000 * i) ≤ a ∧ a ≤ 100000 * i) ∧ (-(1000000 * i) ≤ b ∧ b ≤ 1000000 * i) ∧ (-(1000000 * i) ≤ d ∧ d ≤ 1000000 * i)) → (a = hy9_ (fun o => T 545 0 (s * 12 + o)) g (fun o => T 403 c o) i.toNat) → (b = hy9_ (fun o => T 546 0 (s * 12 + o)) g (fun o => T 403 c o) i.toNat) → (d = hy9_ (fun o => T 546 0 (o * 12 + s)) g (fun o => T 403 c o) i.toNat) → J_ zX7_headWorth T (po_X7_headWorth_e T c s g) 0 0 11 [some (vR 107 0), some (vI s), some (vI g), some (vL a), none, some (vL b), none, some (vL d), none, some (vI i)] [] T := by
    intro nn
    induction nn using Nat.strongRecOn with
    | _ nn ih_11 =>
      intro a b d i hm_11 i1 eea eeb eed
      replace hm_11 := fun (_ : Unit) => hm_11
      refine j_blx (F := fX7) tb_X7 (nn_ _) bk_X7_headWorth_e_11 bs_X7_headWorth_e_11 hz (fun K hK => ?_)
      refine And.intro (fun c1 => ?_) (fun c1 => ?_)
      · exact absurd c1 (by omega)
      · have z2 : T 107 0 1 - 1 = c := by omega
        rw [z2]
        intro b3 b3b
        refine And.intro (fun c4 => ?_) (fun c4 => ?_)
        · refine hK 98 _ [] T ?_
          refine j_blx (F := fX7) tb_X7 (nn_ _) bk_X7_headWorth_e_98 bs_X7_headWorth_e_98 hz (fun K hK => ?_)
          refine rl_i (by omega) ?_
          refine rl_i (by omega) ?_
          refine rl_i (by omega) ?_
          refine rl_i (by omega) ?_
          refine rl_i (by omega) ?_
          refine (show po_X7_headWorth_e T c s g T (some (vL (((((a * 1000000) + b) - d) * 1000000) + b))) from ?_)
          refine ⟨rfl, _, rfl, by omega, ?_⟩
          unfold hd9_
          rw [show T 100 c 5 = i by omega, ← eea, ← eeb, ← eed]
        · refine And.intro (fun c5 => ?_) (fun c5 => ?_)
          · exact absurd c5 (by omega)
          · have z6 : T 107 0 1 - 1 = c := by omega
            rw [z6]
            refine ix_i (by omega) ?_
            intro b7 b7b
            intro w8 w8b
            intro w9 w9b
            refine And.intro (fun c10 => ?_) (fun c10 => ?_)
            · refine hK 92 _ [] T ?_
              refine j_blx (F := fX7) tb_X7 (nn_ _) bk_X7_headWorth_e_92 bs_X7_headWorth_e_92 hz (fun K hK => ?_)
              refine rg_i (by omega) ?_
              refine hK 11 [some (vR 107 0), some (vI s), some (vI g), some (vL a), none, some (vL b), none, some (vL d), none, some (vI (i + 1))] [] T ?_
              refine ih_11 _ ?_ a b d (i + 1) (Nat.le_refl _) ?_ ?_ ?_ ?_
              · have hm_11 := hm_11 (); omega
              · omega
              · rw [hy_f (cl := fun o => T 403 c o) (by omega) (mb_z (show an_ (sr_ g (T 403 c i)) 1 = 0 by omega))]
                exact eea
              · rw [hy_f (cl := fun o => T 403 c o) (by omega) (mb_z (show an_ (sr_ g (T 403 c i)) 1 = 0 by omega))]
                exact eeb
              · rw [hy_f (cl := fun o => T 403 c o) (by omega) (mb_z (show an_ (sr_ g (T 403 c i)) 1 = 0 by omega))]
                exact eed
            · have hb9 := hb s i (by omega) (by omega) (by omega) (by omega)
              have hb8 := hb i s (by omega) (by omega) (by omega) (by omega)
              refine rg_i (by omega) ?_
              refine rg_i (by omega) ?_
              refine ix_i (by omega) ?_
              intro b11 b11b
              refine rl_i (by omega) ?_
              refine rg_i (by omega) ?_
              refine rg_i (by omega) ?_
              refine ix_i (by omega) ?_
              intro b12 b12b
              refine rl_i (by omega) ?_
              refine rg_i (by omega) ?_
              refine rg_i (by omega) ?_
              refine ix_i (by omega) ?_
              intro b13 b13b
              refine rl_i (by omega) ?_
              refine rg_i (by omega) ?_
              refine hK 11 [some (vR 107 0), some (vI s), some (vI g), some (vL (a + (T 545 0 ((s * 12) + i)))), none, some (vL (b + (T 546 0 ((s * 12) + i)))), none, some (vL (d + (T 546 0 ((i * 12) + s)))), none, some (vI (i + 1))] [] T ?_
              refine ih_11 _ ?_ (a + (T 545 0 ((s * 12) + i))) (b + (T 546 0 ((s * 12) + i))) (d + (T 546 0 ((i * 12) + s))) (i + 1) (Nat.le_refl _) ?_ ?_ ?_ ?_
              · have hm_11 := hm_11 (); omega
              · omega
              · rw [hy_t (cl := fun o => T 403 c o) (by omega) (mb_n (by omega) (by omega) (show an_ (sr_ g (T 403 c i)) 1 ≠ 0 by omega))]
                omega
              · rw [hy_t (cl := fun o => T 403 c o) (by omega) (mb_n (by omega) (by omega) (show an_ (sr_ g (T 403 c i)) 1 ≠ 0 by omega))]
                omega
              · rw [hy_t (cl := fun o => T 403 c o) (by omega) (mb_n (by omega) (by omega) (show an_ (sr_ g (T 403 c i)) 1 ≠ 0 by omega))]
                omega
  refine j_blx (F := fX7) tb_X7 (nn_ _) bk_X7_headWorth_e_0 bs_X7_headWorth_e_0 hz (fun K hK => ?_)
  refine hK 11 [some (vR 107 0), some (vI s), some (vI g), some (vL 0), none, some (vL 0), none, some (vL 0), none, some (vI 0)] [] T ?_
  refine c_11 _ 0 0 0 0 (Nat.le_refl _) ?_ ?_ ?_ ?_
  · omega
  · rfl
  · rfl
  · rfl
theorem bk_X7_worthOf_e_0 : ck_ fX7 (some .long) cX7_worthOf 0 [.iload 1, .iconst 8, .imul, .istore 4, .iload 2, .ifCond .ne 22, .aload 0, .tableswitch 0 7 2 #[], .iload 4, .iconst 6, .iadd, .iaload, .i2l, .lreturn] 22 = true := qck_r (nn_ _) (by decide +kernel)
theorem bs_X7_worthOf_e_0 {P : Zt → Option Zv → Prop} (K : Int → Zl → List Zv → Zt → Prop) : sx_ K P [.iload 1, .iconst 8, .imul, .istore 4, .iload 2, .ifCond .ne 22, .aload 0, .tableswitch 0 7 2 #[], .iload 4, .iconst 6, .iadd, .iaload, .i2l, .lreturn] 22 = x_iload 1 (x_iconst 8 (x_imul (x_istore 4 (x_iload 2 (x_ifCond .ne 22 K (x_aload 0 (x_g1 107 542 (x_iload 4 (x_iconst 6 (x_iadd (x_iaload (x_i2l (x_lreturn P))))))))))))) := ((xe_iload 1).trans (congrArg (x_iload 1) ((xe_iconst 8).trans (congrArg (x_iconst 8) ((xe_imul).trans (congrArg (x_imul) ((xe_istore 4).trans (congrArg (x_istore 4) ((xe_iload 2).trans (congrArg (x_iload 2) ((xe_ifCond .ne 22).trans (congrArg (x_ifCond .ne 22 K) ((xe_aload 0).trans (congrArg (x_aload 0) ((xe_g1 (kk := 107) rfl tl_7_2).trans (congrArg (x_g1 107 542) ((xe_iload 4).trans (congrArg (x_iload 4) ((xe_iconst 6).trans (congrArg (x_iconst 6) ((xe_iadd).trans (congrArg (x_iadd) ((xe_iaload).trans (congrArg (x_iaload) ((xe_i2l).trans (congrArg (x_i2l) (xe_lreturn)))))))))))))))))))))))))))
theorem bk_X7_worthOf_e_22 : ck_ fX7 (some .long) cX7_worthOf 22 [.aload 0, .tableswitch 0 7 1 #[], .tableswitch 0 0 2 #[], .iload 2, .iconst 1, .isub, .iaload] 33 = true := qck_r (nn_ _) (by decide +kernel)
theorem bs_X7_worthOf_e_22 {P : Zt → Option Zv → Prop} (K : Int → Zl → List Zv → Zt → Prop) : sx_ K P [.aload 0, .tableswitch 0 7 1 #[], .tableswitch 0 0 2 #[], .iload 2, .iconst 1, .isub, .iaload] 33 = x_aload 0 (x_g5 107 100 1 (x_g2 100 402 (x_iload 2 (x_iconst 1 (x_isub (x_iaload (K 33))))))) := ((xe_aload 0).trans (congrArg (x_aload 0) ((xe_g5 (kk := 107) rfl tl_7_1).trans (congrArg (x_g5 107 100 1) ((xe_g2 (kk := 100) rfl tl_0_2).trans (congrArg (x_g2 100 402) ((xe_iload 2).trans (congrArg (x_iload 2) ((xe_iconst 1).trans (congrArg (x_iconst 1) ((xe_isub).trans (congrArg (x_isub) ((xe_iaload).trans (congrArg (x_iaload) xe_nil))))))))))))))
theorem bk_X7_worthOf_e_72 : ck_ fX7 (some .long) cX7_worthOf 72 [.aload 0, .tableswitch 0 7 2 #[], .iload 4, .iconst 4, .iadd, .iaload, .aload 0, .tableswitch 0 7 2 #[], .iload 4, .iconst 5, .iadd, .iaload, .fsub, .i2l, .lreturn] 93 = true := qck_r (nn_ _) (by decide +kernel)
theorem bs_X7_worthOf_e_72 {P : Zt → Option Zv → Prop} (K : Int → Zl → List Zv → Zt → Prop) : sx_ K P [.aload 0, .tableswitch 0 7 2 #[], .iload 4, .iconst 4, .iadd, .iaload, .aload 0, .tableswitch 0 7 2 #[], .iload 4, .iconst 5, .iadd, .iaload, .fsub, .i2l, .lreturn] 93 = x_aload 0 (x_g1 107 542 (x_iload 4 (x_iconst 4 (x_iadd (x_iaload (x_aload 0 (x_g1 107 542 (x_iload 4 (x_iconst 5 (x_iadd (x_iaload (x_fsub (x_i2l (x_lreturn P)))))))))))))) := ((xe_aload 0).trans (congrArg (x_aload 0) ((xe_g1 (kk := 107) rfl tl_7_2).trans (congrArg (x_g1 107 542) ((xe_iload 4).trans (congrArg (x_iload 4) ((xe_iconst 4).trans (congrArg (x_iconst 4) ((xe_iadd).trans (congrArg (x_iadd) ((xe_iaload).trans (congrArg (x_iaload) ((xe_aload 0).trans (congrArg (x_aload 0) ((xe_g1 (kk := 107) rfl tl_7_2).trans (congrArg (x_g1 107 542) ((xe_iload 4).trans (congrArg (x_iload 4) ((xe_iconst 5).trans (congrArg (x_iconst 5) ((xe_iadd).trans (congrArg (x_iadd) ((xe_iaload).trans (congrArg (x_iaload) ((xe_fsub).trans (congrArg (x_fsub) ((xe_i2l).trans (congrArg (x_i2l) (xe_lreturn)))))))))))))))))))))))))))))
theorem bk_X7_worthOf_e_93 : ck_ fX7 (some .long) cX7_worthOf 93 [.aload 0, .tableswitch 0 7 2 #[], .iload 4, .iconst 4, .iadd, .iaload, .i2l, .lreturn] 104 = true := qck_r (nn_ _) (by decide +kernel)
theorem bs_X7_worthOf_e_93 {P : Zt → Option Zv → Prop} (K : Int → Zl → List Zv → Zt → Prop) : sx_ K P [.aload 0, .tableswitch 0 7 2 #[], .iload 4, .iconst 4, .iadd, .iaload, .i2l, .lreturn] 104 = x_aload 0 (x_g1 107 542 (x_iload 4 (x_iconst 4 (x_iadd (x_iaload (x_i2l (x_lreturn P))))))) := ((xe_aload 0).trans (congrArg (x_aload 0) ((xe_g1 (kk := 107) rfl tl_7_2).trans (congrArg (x_g1 107 542) ((xe_iload 4).trans (congrArg (x_iload 4) ((xe_iconst 4).trans (congrArg (x_iconst 4) ((xe_iadd).trans (congrArg (x_iadd) ((xe_iaload).trans (congrArg (x_iaload) ((xe_i2l).trans (congrArg (x_i2l) (xe_lreturn)))))))))))))))
theorem bk_X7_worthOf_e_104 : ck_ fX7 (some .long) cX7_worthOf 104 [.aload 0, .tableswitch 0 7 2 #[], .iload 4, .iconst 1, .iadd, .iaload, .i2l, .lreturn] 115 = true := qck_r (nn_ _) (by decide +kernel)
theorem bs_X7_worthOf_e_104 {P : Zt → Option Zv → Prop} (K : Int → Zl → List Zv → Zt → Prop) : sx_ K P [.aload 0, .tableswitch 0 7 2 #[], .iload 4, .iconst 1, .iadd, .iaload, .i2l, .lreturn] 115 = x_aload 0 (x_g1 107 542 (x_iload 4 (x_iconst 1 (x_iadd (x_iaload (x_i2l (x_lreturn P))))))) := ((xe_aload 0).trans (congrArg (x_aload 0) ((xe_g1 (kk := 107) rfl tl_7_2).trans (congrArg (x_g1 107 542) ((xe_iload 4).trans (congrArg (x_iload 4) ((xe_iconst 1).trans (congrArg (x_iconst 1) ((xe_iadd).trans (congrArg (x_iadd) ((xe_iaload).trans (congrArg (x_iaload) ((xe_i2l).trans (congrArg (x_i2l) (xe_lreturn)))))))))))))))
theorem bk_X7_worthOf_e_115 : ck_ fX7 (some .long) cX7_worthOf 115 [.aload 0, .tableswitch 0 7 3 #[], .iload 1, .iaload, .i2l, .lreturn] 123 = true := qck_r (nn_ _) (by decide +kernel)
theorem bs_X7_worthOf_e_115 {P : Zt → Option Zv → Prop} (K : Int → Zl → List Zv → Zt → Prop) : sx_ K P [.aload 0, .tableswitch 0 7 3 #[], .iload 1, .iaload, .i2l, .lreturn] 123 = x_aload 0 (x_g1 107 543 (x_iload 1 (x_iaload (x_i2l (x_lreturn P))))) := ((xe_aload 0).trans (congrArg (x_aload 0) ((xe_g1 (kk := 107) rfl tl_7_3).trans (congrArg (x_g1 107 543) ((xe_iload 1).trans (congrArg (x_iload 1) ((xe_iaload).trans (congrArg (x_iaload) ((xe_i2l).trans (congrArg (x_i2l) (xe_lreturn)))))))))))
theorem bk_X7_worthOf_e_123 : ck_ fX7 (some .long) cX7_worthOf 123 [.aload 0, .iload 1, .iload 3] 126 = true := qck_r (nn_ _) (by decide +kernel)
theorem bs_X7_worthOf_e_123 {P : Zt → Option Zv → Prop} (K : Int → Zl → List Zv → Zt → Prop) : sx_ K P [.aload 0, .iload 1, .iload 3] 126 = x_aload 0 (x_iload 1 (x_iload 3 (K 126))) := ((xe_aload 0).trans (congrArg (x_aload 0) ((xe_iload 1).trans (congrArg (x_iload 1) ((xe_iload 3).trans (congrArg (x_iload 3) xe_nil))))))
theorem bk_X7_worthOf_e_129 : ck_ fX7 (some .long) cX7_worthOf 129 [.lreturn] 130 = true := qck_r (nn_ _) (by decide +kernel)
theorem bs_X7_worthOf_e_129 {P : Zt → Option Zv → Prop} (K : Int → Zl → List Zv → Zt → Prop) : sx_ K P [.lreturn] 130 = x_lreturn P := (xe_lreturn)
theorem bk_X7_worthOf_e_130 : ck_ fX7 (some .long) cX7_worthOf 130 [.aload 0, .tableswitch 0 7 4 #[], .iload 1, .iaload, .fneg, .i2l, .lreturn] 139 = true := qck_r (nn_ _) (by decide +kernel)
theorem bs_X7_worthOf_e_130 {P : Zt → Option Zv → Prop} (K : Int → Zl → List Zv → Zt → Prop) : sx_ K P [.aload 0, .tableswitch 0 7 4 #[], .iload 1, .iaload, .fneg, .i2l, .lreturn] 139 = x_aload 0 (x_g1 107 544 (x_iload 1 (x_iaload (x_fneg (x_i2l (x_lreturn P)))))) := ((xe_aload 0).trans (congrArg (x_aload 0) ((xe_g1 (kk := 107) rfl tl_7_4).trans (congrArg (x_g1 107 544) ((xe_iload 1).trans (congrArg (x_iload 1) ((xe_iaload).trans (congrArg (x_iaload) ((xe_fneg).trans (congrArg (x_fneg) ((xe_i2l).trans (congrArg (x_i2l) (xe_lreturn)))))))))))))
theorem bk_X7_worthOf_e_139 : ck_ fX7 (some .long) cX7_worthOf 139 [.aload 0, .aload 0, .tableswitch 0 7 1 #[], .tableswitch 0 0 3 #[], .iload 1, .iaload, .iload 3] 150 = true := qck_r (nn_ _) (by decide +kernel)
theorem bs_X7_worthOf_e_139 {P : Zt → Option Zv → Prop} (K : Int → Zl → List Zv → Zt → Prop) : sx_ K P [.aload 0, .aload 0, .tableswitch 0 7 1 #[], .tableswitch 0 0 3 #[], .iload 1, .iaload, .iload 3] 150 = x_aload 0 (x_aload 0 (x_g5 107 100 1 (x_g2 100 403 (x_iload 1 (x_iaload (x_iload 3 (K 150))))))) := ((xe_aload 0).trans (congrArg (x_aload 0) ((xe_aload 0).trans (congrArg (x_aload 0) ((xe_g5 (kk := 107) rfl tl_7_1).trans (congrArg (x_g5 107 100 1) ((xe_g2 (kk := 100) rfl tl_0_3).trans (congrArg (x_g2 100 403) ((xe_iload 1).trans (congrArg (x_iload 1) ((xe_iaload).trans (congrArg (x_iaload) ((xe_iload 3).trans (congrArg (x_iload 3) xe_nil))))))))))))))
theorem bk_X7_worthOf_e_153 : ck_ fX7 (some .long) cX7_worthOf 153 [.i2l, .lreturn] 155 = true := qck_r (nn_ _) (by decide +kernel)
theorem bs_X7_worthOf_e_153 {P : Zt → Option Zv → Prop} (K : Int → Zl → List Zv → Zt → Prop) : sx_ K P [.i2l, .lreturn] 155 = x_i2l (x_lreturn P) := ((xe_i2l).trans (congrArg (x_i2l) (xe_lreturn)))
abbrev po_X7_worthOf_e (T : Zt) (c : Int) (s k g : Int) : Zt → Option Zv → Prop := fun T' r => T = T' ∧ ∃ x : Int, r = some (vL x) ∧ ((-9223372036854775808 ≤ x ∧ x ≤ 9223372036854775807) ∧ x = wh9_ T c k g s)
set_option maxHeartbeats 4000000 in
theorem ct_X7_worthOf_e {T : Zt} {c : Int} {s k g : Int} (hcx : T 107 0 1 = c + 1 ∧ 0 ≤ c) (hs : 0 ≤ s ∧ s < T 100 c 5) (hk : 0 ≤ k ∧ k ≤ 7) (hg : 0 ≤ g ∧ g ≤ 4095) (hb : HB9_ T c) : Ct_ yX7_worthOf zX7_worthOf T [vR 107 0, vI s, vI k, vI g] (po_X7_worthOf_e T c s k g) := by
  refine ct_of pn_7 rfl rfl (Nat.le_of_ble_eq_true rfl) (fun hT hav => ?_)
  have hr_s : -2147483648 ≤ s ∧ s ≤ 2147483647 := hav (vI s) (List.mem_cons_of_mem _ List.mem_cons_self)
  have hr_k : -2147483648 ≤ k ∧ k ≤ 2147483647 := hav (vI k) (List.mem_cons_of_mem _ (List.mem_cons_of_mem _ List.mem_cons_self))
  have hr_g : -2147483648 ≤ g ∧ g ≤ 2147483647 := hav (vI g) (List.mem_cons_of_mem _ (List.mem_cons_of_mem _ (List.mem_cons_of_mem _ List.mem_cons_self)))
  have hz : zX7_worthOf.2.2.2.1 = some .boolean → ∀ (T' : Zt) (x : Int), po_X7_worthOf_e T c s k g T' (some (vI x)) → 0 ≤ x ∧ x ≤ 1 := fun h => by cases h
  have hen : 0 ≤ T 100 c 5 ∧ T 100 c 5 ≤ 12 := bd_f hT 100 5 tl_0_5 c
  show J_ zX7_worthOf T (po_X7_worthOf_e T c s k g) 0 0 0 [some (vR 107 0), some (vI s), some (vI k), some (vI g), none] [] T
  refine j_blx (F := fX7) tb_X7 (nn_ _) bk_X7_worthOf_e_0 bs_X7_worthOf_e_0 hz (fun K hK => ?_)
  refine rg_i (by omega) ?_
  refine And.intro (fun c1 => ?_) (fun c1 => ?_)
  · refine hK 22 [some (vR 107 0), some (vI s), some (vI k), some (vI g), some (vI (s * 8))] [] T ?_
    refine j_blx (F := fX7) tb_X7 (nn_ _) bk_X7_worthOf_e_22 bs_X7_worthOf_e_22 hz (fun K hK => ?_)
    refine And.intro (fun c2 => ?_) (fun c2 => ?_)
    · exact absurd c2 (by omega)
    · have z3 : T 107 0 1 - 1 = c := by omega
      rw [z3]
      refine rg_i (by omega) ?_
      refine ix_i (by omega) ?_
      intro b4 b4b
      refine hK 33 _ [vI (T 402 c (k - 1))] T ?_
      by_cases z5_0 : (T 402 c (k - 1)) = 0
      · refine j_tsI (pc := 33) 0 (off := 39) (tgt := 72) (by decide) ds_X7_worthOf_33 (by omega) (by decide) rfl (by decide) (by decide) ?_
        refine j_blx (F := fX7) tb_X7 (nn_ _) bk_X7_worthOf_e_72 bs_X7_worthOf_e_72 hz (fun K hK => ?_)
        refine rg_i (by omega) ?_
        refine ix_i (by omega) ?_
        intro b6 b6b
        refine rg_i (by omega) ?_
        refine ix_i (by omega) ?_
        intro b7 b7b
        intro w8 w8b
        refine (show po_X7_worthOf_e T c s k g T (some (vL (wr_ ((T 542 0 ((s * 8) + 4)) - (T 542 0 ((s * 8) + 5)))))) from ?_)
        first
        | exact ⟨rfl, _, rfl, by omega, ((wh_v (T := T) (c := c) (k := k) (g := g) (s := s)).1 (by omega)).symm⟩
        | exact ⟨rfl, _, rfl, by omega, ((wh_v (T := T) (c := c) (k := k) (g := g) (s := s)).2.1 (by omega) (by omega)).symm⟩
        | exact ⟨rfl, _, rfl, by omega, ((wh_v (T := T) (c := c) (k := k) (g := g) (s := s)).2.2.1 (by omega) (by omega)).symm⟩
        | exact ⟨rfl, _, rfl, by omega, ((wh_v (T := T) (c := c) (k := k) (g := g) (s := s)).2.2.2.1 (by omega) (by omega)).symm⟩
        | exact ⟨rfl, _, rfl, by omega, ((wh_v (T := T) (c := c) (k := k) (g := g) (s := s)).2.2.2.2.1 (by omega) (by omega)).symm⟩
        | exact ⟨rfl, _, rfl, by omega, ((wh_v (T := T) (c := c) (k := k) (g := g) (s := s)).2.2.2.2.2.2.1 (by omega) (by omega)).symm⟩
      by_cases z5_1 : (T 402 c (k - 1)) = 1
      · refine j_tsI (pc := 33) 1 (off := 60) (tgt := 93) (by decide) ds_X7_worthOf_33 (by omega) (by decide) rfl (by decide) (by decide) ?_
        refine j_blx (F := fX7) tb_X7 (nn_ _) bk_X7_worthOf_e_93 bs_X7_worthOf_e_93 hz (fun K hK => ?_)
        refine rg_i (by omega) ?_
        refine ix_i (by omega) ?_
        intro b9 b9b
        refine (show po_X7_worthOf_e T c s k g T (some (vL (T 542 0 ((s * 8) + 4)))) from ?_)
        first
        | exact ⟨rfl, _, rfl, by omega, ((wh_v (T := T) (c := c) (k := k) (g := g) (s := s)).1 (by omega)).symm⟩
        | exact ⟨rfl, _, rfl, by omega, ((wh_v (T := T) (c := c) (k := k) (g := g) (s := s)).2.1 (by omega) (by omega)).symm⟩
        | exact ⟨rfl, _, rfl, by omega, ((wh_v (T := T) (c := c) (k := k) (g := g) (s := s)).2.2.1 (by omega) (by omega)).symm⟩
        | exact ⟨rfl, _, rfl, by omega, ((wh_v (T := T) (c := c) (k := k) (g := g) (s := s)).2.2.2.1 (by omega) (by omega)).symm⟩
        | exact ⟨rfl, _, rfl, by omega, ((wh_v (T := T) (c := c) (k := k) (g := g) (s := s)).2.2.2.2.1 (by omega) (by omega)).symm⟩
        | exact ⟨rfl, _, rfl, by omega, ((wh_v (T := T) (c := c) (k := k) (g := g) (s := s)).2.2.2.2.2.2.1 (by omega) (by omega)).symm⟩
      by_cases z5_2 : (T 402 c (k - 1)) = 2
      · refine j_tsI (pc := 33) 2 (off := 71) (tgt := 104) (by decide) ds_X7_worthOf_33 (by omega) (by decide) rfl (by decide) (by decide) ?_
        refine j_blx (F := fX7) tb_X7 (nn_ _) bk_X7_worthOf_e_104 bs_X7_worthOf_e_104 hz (fun K hK => ?_)
        refine rg_i (by omega) ?_
        refine ix_i (by omega) ?_
        intro b10 b10b
        refine (show po_X7_worthOf_e T c s k g T (some (vL (T 542 0 ((s * 8) + 1)))) from ?_)
        first
        | exact ⟨rfl, _, rfl, by omega, ((wh_v (T := T) (c := c) (k := k) (g := g) (s := s)).1 (by omega)).symm⟩
        | exact ⟨rfl, _, rfl, by omega, ((wh_v (T := T) (c := c) (k := k) (g := g) (s := s)).2.1 (by omega) (by omega)).symm⟩
        | exact ⟨rfl, _, rfl, by omega, ((wh_v (T := T) (c := c) (k := k) (g := g) (s := s)).2.2.1 (by omega) (by omega)).symm⟩
        | exact ⟨rfl, _, rfl, by omega, ((wh_v (T := T) (c := c) (k := k) (g := g) (s := s)).2.2.2.1 (by omega) (by omega)).symm⟩
        | exact ⟨rfl, _, rfl, by omega, ((wh_v (T := T) (c := c) (k := k) (g := g) (s := s)).2.2.2.2.1 (by omega) (by omega)).symm⟩
        | exact ⟨rfl, _, rfl, by omega, ((wh_v (T := T) (c := c) (k := k) (g := g) (s := s)).2.2.2.2.2.2.1 (by omega) (by omega)).symm⟩
      by_cases z5_3 : (T 402 c (k - 1)) = 3
      · refine j_tsI (pc := 33) 3 (off := 82) (tgt := 115) (by decide) ds_X7_worthOf_33 (by omega) (by decide) rfl (by decide) (by decide) ?_
        refine j_blx (F := fX7) tb_X7 (nn_ _) bk_X7_worthOf_e_115 bs_X7_worthOf_e_115 hz (fun K hK => ?_)
        refine ix_i (by omega) ?_
        intro b11 b11b
        refine (show po_X7_worthOf_e T c s k g T (some (vL (T 543 0 s))) from ?_)
        first
        | exact ⟨rfl, _, rfl, by omega, ((wh_v (T := T) (c := c) (k := k) (g := g) (s := s)).1 (by omega)).symm⟩
        | exact ⟨rfl, _, rfl, by omega, ((wh_v (T := T) (c := c) (k := k) (g := g) (s := s)).2.1 (by omega) (by omega)).symm⟩
        | exact ⟨rfl, _, rfl, by omega, ((wh_v (T := T) (c := c) (k := k) (g := g) (s := s)).2.2.1 (by omega) (by omega)).symm⟩
        | exact ⟨rfl, _, rfl, by omega, ((wh_v (T := T) (c := c) (k := k) (g := g) (s := s)).2.2.2.1 (by omega) (by omega)).symm⟩
        | exact ⟨rfl, _, rfl, by omega, ((wh_v (T := T) (c := c) (k := k) (g := g) (s := s)).2.2.2.2.1 (by omega) (by omega)).symm⟩
        | exact ⟨rfl, _, rfl, by omega, ((wh_v (T := T) (c := c) (k := k) (g := g) (s := s)).2.2.2.2.2.2.1 (by omega) (by omega)).symm⟩
      by_cases z5_4 : (T 402 c (k - 1)) = 4
      · refine j_tsI (pc := 33) 4 (off := 90) (tgt := 123) (by decide) ds_X7_worthOf_33 (by omega) (by decide) rfl (by decide) (by decide) ?_
        refine j_blx (F := fX7) tb_X7 (nn_ _) bk_X7_worthOf_e_123 bs_X7_worthOf_e_123 hz (fun K hK => ?_)
        refine hK 126 _ [vI g, vI s, vR 107 0] T ?_
        refine j_callV (y := yX7_headWorth) (Yc := zX7_headWorth) (rest := []) [vI s, vI g] (ct_X7_headWorth_e (T := T) (c := c) (by omega) (by omega) (by omega) (by exact hb)) cl_X7_164 (qd_c (by decide +kernel)) (nn_ _) rfl (rf_of rfl) (Nat.le_of_ble_eq_true rfl) (Nat.le_of_ble_eq_true rfl) (Nat.le_of_ble_eq_true rfl) rfl ?_
        rintro _ _ ⟨rfl, x12, rfl, hx12⟩
        show J_ zX7_worthOf T (po_X7_worthOf_e T c s k g) 0 0 129 _ [vL x12] T
        refine j_blx (F := fX7) tb_X7 (nn_ _) bk_X7_worthOf_e_129 bs_X7_worthOf_e_129 hz (fun K hK => ?_)
        refine (show po_X7_worthOf_e T c s k g T (some (vL x12)) from ?_)
        first
        | exact ⟨rfl, _, rfl, by omega, hx12.2.trans ((wh_v (T := T) (c := c) (k := k) (g := g) (s := s)).2.2.2.2.2.1 (by omega) (by omega)).symm⟩
        | exact ⟨rfl, _, rfl, by omega, hx12.2.trans ((wh_v (T := T) (c := c) (k := k) (g := g) (s := s)).2.2.2.2.2.2.2 (by omega) (by omega)).symm⟩
      by_cases z5_5 : (T 402 c (k - 1)) = 5
      · refine j_tsI (pc := 33) 5 (off := 97) (tgt := 130) (by decide) ds_X7_worthOf_33 (by omega) (by decide) rfl (by decide) (by decide) ?_
        refine j_blx (F := fX7) tb_X7 (nn_ _) bk_X7_worthOf_e_130 bs_X7_worthOf_e_130 hz (fun K hK => ?_)
        refine ix_i (by omega) ?_
        intro b13 b13b
        intro w14 w14b
        refine (show po_X7_worthOf_e T c s k g T (some (vL (wr_ (-(T 544 0 s))))) from ?_)
        first
        | exact ⟨rfl, _, rfl, by omega, ((wh_v (T := T) (c := c) (k := k) (g := g) (s := s)).1 (by omega)).symm⟩
        | exact ⟨rfl, _, rfl, by omega, ((wh_v (T := T) (c := c) (k := k) (g := g) (s := s)).2.1 (by omega) (by omega)).symm⟩
        | exact ⟨rfl, _, rfl, by omega, ((wh_v (T := T) (c := c) (k := k) (g := g) (s := s)).2.2.1 (by omega) (by omega)).symm⟩
        | exact ⟨rfl, _, rfl, by omega, ((wh_v (T := T) (c := c) (k := k) (g := g) (s := s)).2.2.2.1 (by omega) (by omega)).symm⟩
        | exact ⟨rfl, _, rfl, by omega, ((wh_v (T := T) (c := c) (k := k) (g := g) (s := s)).2.2.2.2.1 (by omega) (by omega)).symm⟩
        | exact ⟨rfl, _, rfl, by omega, ((wh_v (T := T) (c := c) (k := k) (g := g) (s := s)).2.2.2.2.2.2.1 (by omega) (by omega)).symm⟩
      refine j_tsO (pc := 33) (tgt := 139) (by decide) ds_X7_worthOf_33 (by omega) (by decide) (by decide) ?_
      refine j_blx (F := fX7) tb_X7 (nn_ _) bk_X7_worthOf_e_139 bs_X7_worthOf_e_139 hz (fun K hK => ?_)
      refine And.intro (fun c15 => ?_) (fun c15 => ?_)
      · exact absurd c15 (by omega)
      · have z16 : T 107 0 1 - 1 = c := by omega
        rw [z16]
        refine ix_i (by omega) ?_
        intro b17 b17b
        refine hK 150 _ [vI g, vI (T 403 c s), vR 107 0] T ?_
        refine j_callV (y := yX7_lot) (Yc := zX7_lot) (rest := []) [vI (T 403 c s), vI g] (ct_X7_lot_e (T := T) (c := c) (by omega)) cl_X7_168 (qd_c (by decide +kernel)) (nn_ _) rfl (rf_of rfl) (Nat.le_of_ble_eq_true rfl) (Nat.le_of_ble_eq_true rfl) (Nat.le_of_ble_eq_true rfl) rfl ?_
        rintro _ _ ⟨rfl, x18, rfl, hx18⟩
        show J_ zX7_worthOf T (po_X7_worthOf_e T c s k g) 0 0 153 _ [vI x18] T
        refine j_blx (F := fX7) tb_X7 (nn_ _) bk_X7_worthOf_e_153 bs_X7_worthOf_e_153 hz (fun K hK => ?_)
        refine (show po_X7_worthOf_e T c s k g T (some (vL x18)) from ?_)
        first
        | exact ⟨rfl, _, rfl, by omega, hx18.2.trans ((wh_v (T := T) (c := c) (k := k) (g := g) (s := s)).2.2.2.2.2.1 (by omega) (by omega)).symm⟩
        | exact ⟨rfl, _, rfl, by omega, hx18.2.trans ((wh_v (T := T) (c := c) (k := k) (g := g) (s := s)).2.2.2.2.2.2.2 (by omega) (by omega)).symm⟩
  · refine rg_i (by omega) ?_
    refine ix_i (by omega) ?_
    intro b19 b19b
    refine (show po_X7_worthOf_e T c s k g T (some (vL (T 542 0 ((s * 8) + 6)))) from ?_)
    first
    | exact ⟨rfl, _, rfl, by omega, ((wh_v (T := T) (c := c) (k := k) (g := g) (s := s)).1 (by omega)).symm⟩
    | exact ⟨rfl, _, rfl, by omega, ((wh_v (T := T) (c := c) (k := k) (g := g) (s := s)).2.1 (by omega) (by omega)).symm⟩
    | exact ⟨rfl, _, rfl, by omega, ((wh_v (T := T) (c := c) (k := k) (g := g) (s := s)).2.2.1 (by omega) (by omega)).symm⟩
    | exact ⟨rfl, _, rfl, by omega, ((wh_v (T := T) (c := c) (k := k) (g := g) (s := s)).2.2.2.1 (by omega) (by omega)).symm⟩
    | exact ⟨rfl, _, rfl, by omega, ((wh_v (T := T) (c := c) (k := k) (g := g) (s := s)).2.2.2.2.1 (by omega) (by omega)).symm⟩
    | exact ⟨rfl, _, rfl, by omega, ((wh_v (T := T) (c := c) (k := k) (g := g) (s := s)).2.2.2.2.2.2.1 (by omega) (by omega)).symm⟩
theorem hb9_f {T U : Zt} {c : Int} (h : HB9_ T c) (f : fr_ [(549, [])] T U) : HB9_ U c := fun x y a b p q => by
  rw [f 100 c 5 rfl] at b q
  rw [f 545 0 _ rfl, f 546 0 _ rfl]
  exact h x y a b p q
theorem bk_X7_weigh_e_43 : ck_ fX7 none cX7_weigh 43 [.iload 5, .iload 2, .if_icmp .ge 81, .aload 0, .tableswitch 0 7 9 #[], .aload 0, .tableswitch 0 7 7 #[], .iload 5, .iaload, .aload 0, .aload 0, .tableswitch 0 7 7 #[], .iload 5, .iaload, .iload 3, .iload 4] 71 = true := qck_r (nn_ _) (by decide +kernel)
theorem bs_X7_weigh_e_43 {P : Zt → Option Zv → Prop} (K : Int → Zl → List Zv → Zt → Prop) : sx_ K P [.iload 5, .iload 2, .if_icmp .ge 81, .aload 0, .tableswitch 0 7 9 #[], .aload 0, .tableswitch 0 7 7 #[], .iload 5, .iaload, .aload 0, .aload 0, .tableswitch 0 7 7 #[], .iload 5, .iaload, .iload 3, .iload 4] 71 = x_iload 5 (x_iload 2 (x_if_icmp .ge 81 K (x_aload 0 (x_g1 107 549 (x_aload 0 (x_g1 107 547 (x_iload 5 (x_iaload (x_aload 0 (x_aload 0 (x_g1 107 547 (x_iload 5 (x_iaload (x_iload 3 (x_iload 4 (K 71)))))))))))))))) := ((xe_iload 5).trans (congrArg (x_iload 5) ((xe_iload 2).trans (congrArg (x_iload 2) ((xe_if_icmp .ge 81).trans (congrArg (x_if_icmp .ge 81 K) ((xe_aload 0).trans (congrArg (x_aload 0) ((xe_g1 (kk := 107) rfl tl_7_9).trans (congrArg (x_g1 107 549) ((xe_aload 0).trans (congrArg (x_aload 0) ((xe_g1 (kk := 107) rfl tl_7_7).trans (congrArg (x_g1 107 547) ((xe_iload 5).trans (congrArg (x_iload 5) ((xe_iaload).trans (congrArg (x_iaload) ((xe_aload 0).trans (congrArg (x_aload 0) ((xe_aload 0).trans (congrArg (x_aload 0) ((xe_g1 (kk := 107) rfl tl_7_7).trans (congrArg (x_g1 107 547) ((xe_iload 5).trans (congrArg (x_iload 5) ((xe_iaload).trans (congrArg (x_iaload) ((xe_iload 3).trans (congrArg (x_iload 3) ((xe_iload 4).trans (congrArg (x_iload 4) xe_nil))))))))))))))))))))))))))))))))
theorem bk_X7_weigh_e_81 : ck_ fX7 none cX7_weigh 81 [.return_] 82 = true := qck_r (nn_ _) (by decide +kernel)
theorem bs_X7_weigh_e_81 {P : Zt → Option Zv → Prop} (K : Int → Zl → List Zv → Zt → Prop) : sx_ K P [.return_] 82 = x_return_ P := (xe_return_)
theorem bk_X7_weigh_e_74 : ck_ fX7 none cX7_weigh 74 [.lastore, .iinc 5 1, .goto 43] 81 = true := qck_r (nn_ _) (by decide +kernel)
theorem bs_X7_weigh_e_74 {P : Zt → Option Zv → Prop} (K : Int → Zl → List Zv → Zt → Prop) : sx_ K P [.lastore, .iinc 5 1, .goto 43] 81 = x_lastore (x_iinc 5 1 (x_goto 43 K)) := ((xe_lastore).trans (congrArg (x_lastore) ((xe_iinc 5 1).trans (congrArg (x_iinc 5 1) (xe_goto 43)))))
theorem bk_X7_weigh_e_6 : ck_ fX7 none cX7_weigh 6 [.iload 5, .iload 2, .if_icmp .ge 40, .iload 4, .iconst 1, .aload 0, .tableswitch 0 7 1 #[], .tableswitch 0 0 3 #[], .aload 0, .tableswitch 0 7 7 #[], .iload 5, .iaload, .iaload, .ishl, .ior, .istore 4, .iinc 5 1, .goto 6] 40 = true := qck_r (nn_ _) (by decide +kernel)
theorem bs_X7_weigh_e_6 {P : Zt → Option Zv → Prop} (K : Int → Zl → List Zv → Zt → Prop) : sx_ K P [.iload 5, .iload 2, .if_icmp .ge 40, .iload 4, .iconst 1, .aload 0, .tableswitch 0 7 1 #[], .tableswitch 0 0 3 #[], .aload 0, .tableswitch 0 7 7 #[], .iload 5, .iaload, .iaload, .ishl, .ior, .istore 4, .iinc 5 1, .goto 6] 40 = x_iload 5 (x_iload 2 (x_if_icmp .ge 40 K (x_iload 4 (x_iconst 1 (x_aload 0 (x_g5 107 100 1 (x_g2 100 403 (x_aload 0 (x_g1 107 547 (x_iload 5 (x_iaload (x_iaload (x_ishl (x_ior (x_istore 4 (x_iinc 5 1 (x_goto 6 K))))))))))))))))) := ((xe_iload 5).trans (congrArg (x_iload 5) ((xe_iload 2).trans (congrArg (x_iload 2) ((xe_if_icmp .ge 40).trans (congrArg (x_if_icmp .ge 40 K) ((xe_iload 4).trans (congrArg (x_iload 4) ((xe_iconst 1).trans (congrArg (x_iconst 1) ((xe_aload 0).trans (congrArg (x_aload 0) ((xe_g5 (kk := 107) rfl tl_7_1).trans (congrArg (x_g5 107 100 1) ((xe_g2 (kk := 100) rfl tl_0_3).trans (congrArg (x_g2 100 403) ((xe_aload 0).trans (congrArg (x_aload 0) ((xe_g1 (kk := 107) rfl tl_7_7).trans (congrArg (x_g1 107 547) ((xe_iload 5).trans (congrArg (x_iload 5) ((xe_iaload).trans (congrArg (x_iaload) ((xe_iaload).trans (congrArg (x_iaload) ((xe_ishl).trans (congrArg (x_ishl) ((xe_ior).trans (congrArg (x_ior) ((xe_istore 4).trans (congrArg (x_istore 4) ((xe_iinc 5 1).trans (congrArg (x_iinc 5 1) (xe_goto 6)))))))))))))))))))))))))))))))))))
theorem bk_X7_weigh_e_40 : ck_ fX7 none cX7_weigh 40 [.iload 1, .istore 5] 43 = true := qck_r (nn_ _) (by decide +kernel)
theorem bs_X7_weigh_e_40 {P : Zt → Option Zv → Prop} (K : Int → Zl → List Zv → Zt → Prop) : sx_ K P [.iload 1, .istore 5] 43 = x_iload 1 (x_istore 5 (K 43)) := ((xe_iload 1).trans (congrArg (x_iload 1) ((xe_istore 5).trans (congrArg (x_istore 5) xe_nil))))
theorem bk_X7_weigh_e_0 : ck_ fX7 none cX7_weigh 0 [.iconst 0, .istore 4, .iload 1, .istore 5] 6 = true := qck_r (nn_ _) (by decide +kernel)
theorem bs_X7_weigh_e_0 {P : Zt → Option Zv → Prop} (K : Int → Zl → List Zv → Zt → Prop) : sx_ K P [.iconst 0, .istore 4, .iload 1, .istore 5] 6 = x_iconst 0 (x_istore 4 (x_iload 1 (x_istore 5 (K 6)))) := ((xe_iconst 0).trans (congrArg (x_iconst 0) ((xe_istore 4).trans (congrArg (x_istore 4) ((xe_iload 1).trans (congrArg (x_iload 1) ((xe_istore 5).trans (congrArg (x_istore 5) xe_nil))))))))
abbrev po_X7_weigh_e (T : Zt) (c : Int) (f t k : Int) : Zt → Option Zv → Prop := fun T' r => r = none ∧ fr_ [(549, [])] T T' ∧ (∀ x, f ≤ x → x < t → T' 549 0 (T 547 0 x) = wh9_ T c k (bt9_ (fun x => T 403 c (T 547 0 x)) f (t - f).toNat) (T 547 0 x))
set_option maxHeartbeats 4000000 in
theorem ct_X7_weigh_e {T : Zt} {c : Int} {f t k : Int} (hcx : T 107 0 1 = c + 1 ∧ 0 ≤ c) (hft : 0 ≤ f ∧ f + 2 ≤ t ∧ t ≤ T 100 c 5) (hk : 0 ≤ k ∧ k ≤ 7) (ho : ∀ x, 0 ≤ x → x < T 100 c 5 → T 547 0 x < T 100 c 5) (hb : HB9_ T c) : Ct_ yX7_weigh zX7_weigh T [vR 107 0, vI f, vI t, vI k] (po_X7_weigh_e T c f t k) := by
  refine ct_of pn_7 rfl rfl (Nat.le_of_ble_eq_true rfl) (fun hT hav => ?_)
  have hr_f : -2147483648 ≤ f ∧ f ≤ 2147483647 := hav (vI f) (List.mem_cons_of_mem _ List.mem_cons_self)
  have hr_t : -2147483648 ≤ t ∧ t ≤ 2147483647 := hav (vI t) (List.mem_cons_of_mem _ (List.mem_cons_of_mem _ List.mem_cons_self))
  have hr_k : -2147483648 ≤ k ∧ k ≤ 2147483647 := hav (vI k) (List.mem_cons_of_mem _ (List.mem_cons_of_mem _ (List.mem_cons_of_mem _ List.mem_cons_self)))
  have hz : zX7_weigh.2.2.2.1 = some .boolean → ∀ (T' : Zt) (x : Int), po_X7_weigh_e T c f t k T' (some (vI x)) → 0 ≤ x ∧ x ≤ 1 := fun h => by cases h
  have hen : 0 ≤ T 100 c 5 ∧ T 100 c 5 ≤ 12 := bd_f hT 100 5 tl_0_5 c
  show J_ zX7_weigh T (po_X7_weigh_e T c f t k) 0 0 0 [some (vR 107 0), some (vI f), some (vI t), some (vI k), none, none] [] T
  have c_43 : ∀ (nn : Nat) (g : Int) (i : Int) (T1 : Zt), ((12 - i).toNat) ≤ nn → (fr_ [(549, [])] T T1) → (f ≤ i ∧ i ≤ t ∧ 0 ≤ g ∧ g ≤ 4095) → (g = (bt9_ (fun x => T 403 c (T 547 0 x)) f (t - f).toNat)) → (∀ x, f ≤ x → x < i → T1 549 0 (T 547 0 x) = wh9_ T c k g (T 547 0 x)) → J_ zX7_weigh T (po_X7_weigh_e T c f t k) 0 0 43 [some (vR 107 0), some (vI f), some (vI t), some (vI k), some (vI g), some (vI i)] [] T1 := by
    intro nn
    induction nn using Nat.strongRecOn with
    | _ nn ih_43 =>
      intro g i T1 hm_43 hf_43 i1 hgg w1
      replace hm_43 := fun (_ : Unit) => hm_43
      refine j_blx (F := fX7) tb_X7 (nn_ _) bk_X7_weigh_e_43 bs_X7_weigh_e_43 hz (fun K hK => ?_)
      refine And.intro (fun c1 => ?_) (fun c1 => ?_)
      · refine hK 81 _ [] T1 ?_
        refine j_blx (F := fX7) tb_X7 (nn_ _) bk_X7_weigh_e_81 bs_X7_weigh_e_81 hz (fun K hK => ?_)
        refine (show po_X7_weigh_e T c f t k T1 (none) from ?_)
        refine ⟨rfl, fr_t (fr_0 _ _) (fr_s hf_43 rfl), fun x a b => ?_⟩
        rw [← hgg]
        exact w1 x a (by omega)
      · refine ix_i (by omega) ?_
        intro b2 b2b
        have e3 : T1 547 0 i = T 547 0 i := hf_43 547 0 i rfl
        rw [e3] at b2 b2b ⊢
        refine ix_i (by omega) ?_
        intro b4 b4b
        have e5 : T1 547 0 i = T 547 0 i := hf_43 547 0 i rfl
        rw [e5] at b4 b4b ⊢
        refine hK 71 _ [vI g, vI k, vI (T 547 0 i), vR 107 0, vI (T 547 0 i), vR 549 0] T1 ?_
        have e6 : T1 107 0 1 = T 107 0 1 := hf_43 107 0 1 rfl
        have ho9 := ho i (by omega) (by omega)
        have e7 : T1 100 c 5 = T 100 c 5 := hf_43 100 c 5 rfl
        refine j_callV (y := yX7_worthOf) (Yc := zX7_worthOf) (rest := [vI (T 547 0 i), vR 549 0]) [vI (T 547 0 i), vI k, vI g] (ct_X7_worthOf_e (T := T1) (c := c) (by omega) (by omega) (by omega) (by omega) (by exact hb9_f hb hf_43)) cl_X7_157 (qd_c (by decide +kernel)) (nn_ _) rfl (rf_of rfl) (Nat.le_of_ble_eq_true rfl) (Nat.le_of_ble_eq_true rfl) (Nat.le_of_ble_eq_true rfl) rfl ?_
        rintro _ _ ⟨rfl, x8, rfl, hx8⟩
        show J_ zX7_weigh T (po_X7_weigh_e T c f t k) 0 0 74 _ [vL x8, vI (T 547 0 i), vR 549 0] T1
        refine j_blx (F := fX7) tb_X7 (nn_ _) bk_X7_weigh_e_74 bs_X7_weigh_e_74 hz (fun K hK => ?_)
        refine iy_i (by omega) (by omega) ?_
        refine x_nm (fun U9 hU9 => ?_)
        have e10 := up_f hU9
        refine rg_i (by omega) ?_
        refine hK 43 [some (vR 107 0), some (vI f), some (vI t), some (vI k), some (vI g), some (vI (i + 1))] [] U9 ?_
        refine ih_43 _ ?_ g (i + 1) U9 (Nat.le_refl _) ?_ ?_ ?_ ?_
        · have hm_43 := hm_43 (); omega
        · exact fr_u (fr_t (fr_0 _ _) (fr_s hf_43 rfl)) hU9 rfl
        · omega
        · exact hgg
        · intro x a b
          by_cases z : T 547 0 x = T 547 0 i
          · rw [z, up_f hU9]
            exact hx8.2.trans (wh_f (ws := [(549, [])]) hf_43 (fun k j q9 => by rcases q9 with rfl | rfl | rfl | rfl | rfl | rfl | rfl | rfl <;> rfl) rfl)
          · have y9 : x < i := by
              by_cases y : x = i
              · exact absurd (by rw [y]) z
              · omega
            rw [up_g hU9 (fun y => z y.2.2)]
            exact w1 x a y9
  have c_6 : ∀ (nn : Nat) (g : Int) (i : Int), ((12 - i).toNat) ≤ nn → (f ≤ i ∧ i ≤ t ∧ 0 ≤ g ∧ g ≤ 4095) → (g = bt9_ (fun x => T 403 c (T 547 0 x)) f (i - f).toNat) → J_ zX7_weigh T (po_X7_weigh_e T c f t k) 0 0 6 [some (vR 107 0), some (vI f), some (vI t), some (vI k), some (vI g), some (vI i)] [] T := by
    intro nn
    induction nn using Nat.strongRecOn with
    | _ nn ih_6 =>
      intro g i hm_6 i0 hb0
      replace hm_6 := fun (_ : Unit) => hm_6
      refine j_blx (F := fX7) tb_X7 (nn_ _) bk_X7_weigh_e_6 bs_X7_weigh_e_6 hz (fun K hK => ?_)
      refine And.intro (fun c11 => ?_) (fun c11 => ?_)
      · refine hK 40 _ [] T ?_
        refine j_blx (F := fX7) tb_X7 (nn_ _) bk_X7_weigh_e_40 bs_X7_weigh_e_40 hz (fun K hK => ?_)
        refine hK 43 [some (vR 107 0), some (vI f), some (vI t), some (vI k), some (vI g), some (vI f)] [] T ?_
        refine c_43 _ g f T (Nat.le_refl _) ?_ ?_ ?_ ?_
        · exact fr_0 _ _
        · omega
        · rw [show t = i by omega]
          exact hb0
        · intro x a b; omega
      · refine And.intro (fun c12 => ?_) (fun c12 => ?_)
        · exact absurd c12 (by omega)
        · have z13 : T 107 0 1 - 1 = c := by omega
          rw [z13]
          refine ix_i (by omega) ?_
          intro b14 b14b
          refine ix_i (by omega) ?_
          intro b15 b15b
          intro w16 w16b
          intro w17 w17b
          have ob : 0 ≤ or_ g (sl_ 1 (T 403 c (T 547 0 i))) ∧ or_ g (sl_ 1 (T 403 c (T 547 0 i))) ≤ 4095 := or_b (by omega) (sl_b (by omega))
          refine rg_i (by omega) ?_
          refine hK 6 [some (vR 107 0), some (vI f), some (vI t), some (vI k), some (vI (or_ g (sl_ 1 (T 403 c (T 547 0 i))))), some (vI (i + 1))] [] T ?_
          refine ih_6 _ ?_ (or_ g (sl_ 1 (T 403 c (T 547 0 i)))) (i + 1) (Nat.le_refl _) ?_ ?_
          · have hm_6 := hm_6 (); omega
          · omega
          · rw [show (i + 1 - f).toNat = (i - f).toNat + 1 by omega]
            show _ = or_ (bt9_ (fun x => T 403 c (T 547 0 x)) f (i - f).toNat) (sl_ 1 (T 403 c (T 547 0 (f + (((i - f).toNat : Nat) : Int)))))
            rw [show f + (((i - f).toNat : Nat) : Int) = i by omega, ← hb0]
  refine j_blx (F := fX7) tb_X7 (nn_ _) bk_X7_weigh_e_0 bs_X7_weigh_e_0 hz (fun K hK => ?_)
  refine hK 6 [some (vR 107 0), some (vI f), some (vI t), some (vI k), some (vI 0), some (vI f)] [] T ?_
  refine c_6 _ 0 f (Nat.le_refl _) ?_ ?_
  · omega
  · rw [show (f - f).toNat = 0 by omega]
    rfl
theorem bk_X7_sort_e_73 : ck_ fX7 none cX7_sort 73 [.aload 0, .tableswitch 0 7 7 #[], .iload 5, .iload 4, .iastore, .iinc 3 1, .goto 4] 88 = true := qck_r (nn_ _) (by decide +kernel)
theorem bs_X7_sort_e_73 {P : Zt → Option Zv → Prop} (K : Int → Zl → List Zv → Zt → Prop) : sx_ K P [.aload 0, .tableswitch 0 7 7 #[], .iload 5, .iload 4, .iastore, .iinc 3 1, .goto 4] 88 = x_aload 0 (x_g1 107 547 (x_iload 5 (x_iload 4 (x_iastore (x_iinc 3 1 (x_goto 4 K)))))) := ((xe_aload 0).trans (congrArg (x_aload 0) ((xe_g1 (kk := 107) rfl tl_7_7).trans (congrArg (x_g1 107 547) ((xe_iload 5).trans (congrArg (x_iload 5) ((xe_iload 4).trans (congrArg (x_iload 4) ((xe_iastore).trans (congrArg (x_iastore) ((xe_iinc 3 1).trans (congrArg (x_iinc 3 1) (xe_goto 4)))))))))))))
theorem bk_X7_sort_e_20 : ck_ fX7 none cX7_sort 20 [.iload 5, .iload 1, .if_icmp .le 73, .aload 0, .tableswitch 0 7 9 #[], .aload 0, .tableswitch 0 7 7 #[], .iload 5, .iconst 1, .isub, .iaload, .laload, .aload 0, .tableswitch 0 7 9 #[], .iload 4, .laload, .lcmp, .ifCond .ge 73, .aload 0, .tableswitch 0 7 7 #[], .iload 5, .aload 0, .tableswitch 0 7 7 #[], .iload 5, .iconst 1, .isub, .iaload, .iastore, .iinc 5 (-1), .goto 20] 73 = true := qck_r (nn_ _) (by decide +kernel)
theorem bs_X7_sort_e_20 {P : Zt → Option Zv → Prop} (K : Int → Zl → List Zv → Zt → Prop) : sx_ K P [.iload 5, .iload 1, .if_icmp .le 73, .aload 0, .tableswitch 0 7 9 #[], .aload 0, .tableswitch 0 7 7 #[], .iload 5, .iconst 1, .isub, .iaload, .laload, .aload 0, .tableswitch 0 7 9 #[], .iload 4, .laload, .lcmp, .ifCond .ge 73, .aload 0, .tableswitch 0 7 7 #[], .iload 5, .aload 0, .tableswitch 0 7 7 #[], .iload 5, .iconst 1, .isub, .iaload, .iastore, .iinc 5 (-1), .goto 20] 73 = x_iload 5 (x_iload 1 (x_if_icmp .le 73 K (x_aload 0 (x_g1 107 549 (x_aload 0 (x_g1 107 547 (x_iload 5 (x_iconst 1 (x_isub (x_iaload (x_laload (x_aload 0 (x_g1 107 549 (x_iload 4 (x_laload (x_lcmp (x_ifCond .ge 73 K (x_aload 0 (x_g1 107 547 (x_iload 5 (x_aload 0 (x_g1 107 547 (x_iload 5 (x_iconst 1 (x_isub (x_iaload (x_iastore (x_iinc 5 (-1) (x_goto 20 K))))))))))))))))))))))))))))) := ((xe_iload 5).trans (congrArg (x_iload 5) ((xe_iload 1).trans (congrArg (x_iload 1) ((xe_if_icmp .le 73).trans (congrArg (x_if_icmp .le 73 K) ((xe_aload 0).trans (congrArg (x_aload 0) ((xe_g1 (kk := 107) rfl tl_7_9).trans (congrArg (x_g1 107 549) ((xe_aload 0).trans (congrArg (x_aload 0) ((xe_g1 (kk := 107) rfl tl_7_7).trans (congrArg (x_g1 107 547) ((xe_iload 5).trans (congrArg (x_iload 5) ((xe_iconst 1).trans (congrArg (x_iconst 1) ((xe_isub).trans (congrArg (x_isub) ((xe_iaload).trans (congrArg (x_iaload) ((xe_laload).trans (congrArg (x_laload) ((xe_aload 0).trans (congrArg (x_aload 0) ((xe_g1 (kk := 107) rfl tl_7_9).trans (congrArg (x_g1 107 549) ((xe_iload 4).trans (congrArg (x_iload 4) ((xe_laload).trans (congrArg (x_laload) ((xe_lcmp).trans (congrArg (x_lcmp) ((xe_ifCond .ge 73).trans (congrArg (x_ifCond .ge 73 K) ((xe_aload 0).trans (congrArg (x_aload 0) ((xe_g1 (kk := 107) rfl tl_7_7).trans (congrArg (x_g1 107 547) ((xe_iload 5).trans (congrArg (x_iload 5) ((xe_aload 0).trans (congrArg (x_aload 0) ((xe_g1 (kk := 107) rfl tl_7_7).trans (congrArg (x_g1 107 547) ((xe_iload 5).trans (congrArg (x_iload 5) ((xe_iconst 1).trans (congrArg (x_iconst 1) ((xe_isub).trans (congrArg (x_isub) ((xe_iaload).trans (congrArg (x_iaload) ((xe_iastore).trans (congrArg (x_iastore) ((xe_iinc 5 (-1)).trans (congrArg (x_iinc 5 (-1)) (xe_goto 20)))))))))))))))))))))))))))))))))))))))))))))))))))))))))))
theorem bk_X7_sort_e_4 : ck_ fX7 none cX7_sort 4 [.iload 3, .iload 2, .if_icmp .ge 88, .aload 0, .tableswitch 0 7 7 #[], .iload 3, .iaload, .istore 4, .iload 3, .istore 5] 20 = true := qck_r (nn_ _) (by decide +kernel)
theorem bs_X7_sort_e_4 {P : Zt → Option Zv → Prop} (K : Int → Zl → List Zv → Zt → Prop) : sx_ K P [.iload 3, .iload 2, .if_icmp .ge 88, .aload 0, .tableswitch 0 7 7 #[], .iload 3, .iaload, .istore 4, .iload 3, .istore 5] 20 = x_iload 3 (x_iload 2 (x_if_icmp .ge 88 K (x_aload 0 (x_g1 107 547 (x_iload 3 (x_iaload (x_istore 4 (x_iload 3 (x_istore 5 (K 20)))))))))) := ((xe_iload 3).trans (congrArg (x_iload 3) ((xe_iload 2).trans (congrArg (x_iload 2) ((xe_if_icmp .ge 88).trans (congrArg (x_if_icmp .ge 88 K) ((xe_aload 0).trans (congrArg (x_aload 0) ((xe_g1 (kk := 107) rfl tl_7_7).trans (congrArg (x_g1 107 547) ((xe_iload 3).trans (congrArg (x_iload 3) ((xe_iaload).trans (congrArg (x_iaload) ((xe_istore 4).trans (congrArg (x_istore 4) ((xe_iload 3).trans (congrArg (x_iload 3) ((xe_istore 5).trans (congrArg (x_istore 5) xe_nil))))))))))))))))))))
theorem bk_X7_sort_e_88 : ck_ fX7 none cX7_sort 88 [.return_] 89 = true := qck_r (nn_ _) (by decide +kernel)
theorem bs_X7_sort_e_88 {P : Zt → Option Zv → Prop} (K : Int → Zl → List Zv → Zt → Prop) : sx_ K P [.return_] 89 = x_return_ P := (xe_return_)
theorem bk_X7_sort_e_0 : ck_ fX7 none cX7_sort 0 [.iload 1, .iconst 1, .iadd, .istore 3] 4 = true := qck_r (nn_ _) (by decide +kernel)
theorem bs_X7_sort_e_0 {P : Zt → Option Zv → Prop} (K : Int → Zl → List Zv → Zt → Prop) : sx_ K P [.iload 1, .iconst 1, .iadd, .istore 3] 4 = x_iload 1 (x_iconst 1 (x_iadd (x_istore 3 (K 4)))) := ((xe_iload 1).trans (congrArg (x_iload 1) ((xe_iconst 1).trans (congrArg (x_iconst 1) ((xe_iadd).trans (congrArg (x_iadd) ((xe_istore 3).trans (congrArg (x_istore 3) xe_nil))))))))
abbrev po_X7_sort_e (T : Zt) (f t : Int) : Zt → Option Zv → Prop := fun T' r => r = none ∧ fr_ [(547, [])] T T' ∧ ((fun x => T' 547 0 x) = som9_ (fun s => T 549 0 s) f (t - f - 1).toNat (fun x => T 547 0 x))
set_option maxHeartbeats 4000000 in
theorem ct_X7_sort_e {T : Zt} {f t : Int} (hft : 0 ≤ f ∧ f + 2 ≤ t ∧ t ≤ 12) : Ct_ yX7_sort zX7_sort T [vR 107 0, vI f, vI t] (po_X7_sort_e T f t) := by
  refine ct_of pn_7 rfl rfl (Nat.le_of_ble_eq_true rfl) (fun hT hav => ?_)
  have hr_f : -2147483648 ≤ f ∧ f ≤ 2147483647 := hav (vI f) (List.mem_cons_of_mem _ List.mem_cons_self)
  have hr_t : -2147483648 ≤ t ∧ t ≤ 2147483647 := hav (vI t) (List.mem_cons_of_mem _ (List.mem_cons_of_mem _ List.mem_cons_self))
  have hz : zX7_sort.2.2.2.1 = some .boolean → ∀ (T' : Zt) (x : Int), po_X7_sort_e T f t T' (some (vI x)) → 0 ≤ x ∧ x ≤ 1 := fun h => by cases h
  show J_ zX7_sort T (po_X7_sort_e T f t) 0 0 0 [some (vR 107 0), some (vI f), some (vI t), none, none, none] [] T
  have c_4 : ∀ (nn : Nat) (i : Int) (T1 : Zt), ((12 - i).toNat) ≤ nn → (fr_ [(547, [])] T T1) → (f < i ∧ i ≤ t) → ((fun x => T1 547 0 x) = som9_ (fun s => T 549 0 s) f (i - f - 1).toNat (fun x => T 547 0 x)) → J_ zX7_sort T (po_X7_sort_e T f t) 0 0 4 [some (vR 107 0), some (vI f), some (vI t), some (vI i), none, none] [] T1 := by
    intro nn
    induction nn using Nat.strongRecOn with
    | _ nn ih_4 =>
      intro i T1 hm_4 hf_4 i1 k5
      replace hm_4 := fun (_ : Unit) => hm_4
      have c_73 : ∀ (w : Int) (j : Int) (T3 : Zt), (fr_ [(547, [])] T T3) → (f ≤ j ∧ j ≤ i ∧ i < t ∧ 0 ≤ w ∧ w < 12 ∧ w = T1 547 0 i) → (in9_ (fun s => T 549 0 s) f w (j - f).toNat (fun x => T3 547 0 x) = in9_ (fun s => T 549 0 s) f w (i - f).toNat (fun x => T1 547 0 x)) → (j = f ∨ ¬ (fun s => T 549 0 s) ((fun x => T3 547 0 x) (j - 1)) < (fun s => T 549 0 s) w) → J_ zX7_sort T (po_X7_sort_e T f t) 0 0 73 [some (vR 107 0), some (vI f), some (vI t), some (vI i), some (vI w), some (vI j)] [] T3 := by
        intro w j T3 hf_73 k1 k3 k4
        have wi : w = T1 547 0 i := k1.2.2.2.2.2
        refine j_blx (F := fX7) tb_X7 (nn_ _) bk_X7_sort_e_73 bs_X7_sort_e_73 hz (fun K hK => ?_)
        refine iy_i (by omega) (by omega) ?_
        refine x_nm (fun U1 hU1 => ?_)
        have e2 := up_f hU1
        refine rg_i (by omega) ?_
        refine hK 4 [some (vR 107 0), some (vI f), some (vI t), some (vI (i + 1)), some (vI w), some (vI j)] [] U1 ?_
        refine j_drop [some (vR 107 0), some (vI f), some (vI t), some (vI (i + 1)), none, none] (fun k v hk => ?_) rfl ?_
        · match k, hk with
          | 0, hk => exact hk
          | 1, hk => exact hk
          | 2, hk => exact hk
          | 3, hk => exact hk
          | 4, hk => cases hk
          | 5, hk => cases hk
          | k + 6, hk => cases hk
        refine ih_4 _ ?_ (i + 1) U1 (Nat.le_refl _) ?_ ?_ ?_
        · have hm_4 := hm_4 (); omega
        · exact fr_u (fr_t (fr_0 _ _) (fr_s hf_73 rfl)) hU1 rfl
        · omega
        · rw [ud_r hU1, ← in_x (W := (fun s => T 549 0 s)) (f := f) (by omega) k4, k3]
          have y := so_s (W := (fun s => T 549 0 s)) (f := f) (i := i) (by omega) k5
          rw [← y]
          show in9_ (fun s => T 549 0 s) f w (i - f).toNat (fun x => T1 547 0 x) = in9_ (fun s => T 549 0 s) f (T1 547 0 i) (i - f).toNat (fun x => T1 547 0 x)
          rw [wi]
      have c_20 : ∀ (nn : Nat) (w : Int) (j : Int) (T2 : Zt), (j.toNat) ≤ nn → (fr_ [(547, [])] T T2) → (f ≤ j ∧ j ≤ i ∧ i < t ∧ 0 ≤ w ∧ w < 12 ∧ w = T1 547 0 i) → (in9_ (fun s => T 549 0 s) f w (j - f).toNat (fun x => T2 547 0 x) = in9_ (fun s => T 549 0 s) f w (i - f).toNat (fun x => T1 547 0 x)) → J_ zX7_sort T (po_X7_sort_e T f t) 0 0 20 [some (vR 107 0), some (vI f), some (vI t), some (vI i), some (vI w), some (vI j)] [] T2 := by
        intro nn
        induction nn using Nat.strongRecOn with
        | _ nn ih_20 =>
          intro w j T2 hm_20 hf_20 k1 k3
          replace hm_20 := fun (_ : Unit) => hm_20
          refine j_blx (F := fX7) tb_X7 (nn_ _) bk_X7_sort_e_20 bs_X7_sort_e_20 hz (fun K hK => ?_)
          refine And.intro (fun c3 => ?_) (fun c3 => ?_)
          · refine hK 73 _ [] T2 ?_
            refine c_73 w j T2 ?_ ?_ ?_ ?_
            · exact fr_t (fr_0 _ _) (fr_s hf_20 rfl)
            · omega
            · exact k3
            · first
              | exact Or.inl (by omega)
              | exact Or.inr (by show ¬ T 549 0 (T2 547 0 (j - 1)) < T 549 0 w; omega)
          · refine rg_i (by omega) ?_
            refine ix_i (by omega) ?_
            intro b4 b4b
            refine ix_i (by omega) ?_
            intro b5 b5b
            have e6 : T2 549 0 (T2 547 0 (j - 1)) = T 549 0 (T2 547 0 (j - 1)) := hf_20 549 0 (T2 547 0 (j - 1)) rfl
            rw [e6] at b5 b5b ⊢
            refine ix_i (by omega) ?_
            intro b7 b7b
            have e8 : T2 549 0 w = T 549 0 w := hf_20 549 0 w rfl
            rw [e8] at b7 b7b ⊢
            refine And.intro (fun c9 => ?_) (And.intro (fun c9 => ?_) (fun c9 => ?_))
            · refine And.intro (fun c10 => ?_) (fun c10 => ?_)
              · exact absurd c10 (by decide)
              · refine rg_i (by omega) ?_
                refine ix_i (by omega) ?_
                intro b11 b11b
                refine iy_i (by omega) (by omega) ?_
                refine x_nm (fun U12 hU12 => ?_)
                have e13 := up_f hU12
                refine rg_i (by omega) ?_
                refine hK 20 [some (vR 107 0), some (vI f), some (vI t), some (vI i), some (vI w), some (vI (j + (-1)))] [] U12 ?_
                refine ih_20 _ ?_ w (j + (-1)) U12 (Nat.le_refl _) ?_ ?_ ?_
                · have hm_20 := hm_20 (); omega
                · exact fr_u (fr_t (fr_0 _ _) (fr_s hf_20 rfl)) hU12 rfl
                · omega
                · rw [show j + (-1) = j - 1 by omega]
                  exact (in_s (W := (fun s => T 549 0 s)) (by omega) (by show T 549 0 (T2 547 0 (j - 1)) < T 549 0 w; omega) (ud_r hU12)).trans k3
            · refine And.intro (fun c14 => ?_) (fun c14 => ?_)
              · refine hK 73 _ [] T2 ?_
                refine c_73 w j T2 ?_ ?_ ?_ ?_
                · exact fr_t (fr_0 _ _) (fr_s hf_20 rfl)
                · omega
                · exact k3
                · first
                  | exact Or.inl (by omega)
                  | exact Or.inr (by show ¬ T 549 0 (T2 547 0 (j - 1)) < T 549 0 w; omega)
              · exact absurd c14 (by decide)
            · refine And.intro (fun c15 => ?_) (fun c15 => ?_)
              · refine hK 73 _ [] T2 ?_
                refine c_73 w j T2 ?_ ?_ ?_ ?_
                · exact fr_t (fr_0 _ _) (fr_s hf_20 rfl)
                · omega
                · exact k3
                · first
                  | exact Or.inl (by omega)
                  | exact Or.inr (by show ¬ T 549 0 (T2 547 0 (j - 1)) < T 549 0 w; omega)
              · exact absurd c15 (by decide)
      refine j_blx (F := fX7) tb_X7 (nn_ _) bk_X7_sort_e_4 bs_X7_sort_e_4 hz (fun K hK => ?_)
      refine And.intro (fun c16 => ?_) (fun c16 => ?_)
      · refine hK 88 _ [] T1 ?_
        refine j_blx (F := fX7) tb_X7 (nn_ _) bk_X7_sort_e_88 bs_X7_sort_e_88 hz (fun K hK => ?_)
        refine (show po_X7_sort_e T f t T1 (none) from ?_)
        exact ⟨rfl, fr_t (fr_0 _ _) (fr_s hf_4 rfl), by rw [show t - f - 1 = i - f - 1 by omega]; exact k5⟩
      · refine ix_i (by omega) ?_
        intro b17 b17b
        refine hK 20 [some (vR 107 0), some (vI f), some (vI t), some (vI i), some (vI (T1 547 0 i)), some (vI i)] [] T1 ?_
        refine c_20 _ (T1 547 0 i) i T1 (Nat.le_refl _) ?_ ?_ ?_
        · exact fr_t (fr_0 _ _) (fr_s hf_4 rfl)
        · omega
        · rfl
  refine j_blx (F := fX7) tb_X7 (nn_ _) bk_X7_sort_e_0 bs_X7_sort_e_0 hz (fun K hK => ?_)
  refine rg_i (by omega) ?_
  refine hK 4 [some (vR 107 0), some (vI f), some (vI t), some (vI (f + 1)), none, none] [] T ?_
  refine c_4 _ (f + 1) T (Nat.le_refl _) ?_ ?_ ?_
  · exact fr_0 _ _
  · omega
  · rw [show (f + 1 - f - 1).toNat = 0 by omega]
    rfl
theorem bk_X7_putWaiting_e_0 : ck_ fX7 none cX7_putWaiting 0 [.iload 2, .iload 1, .isub, .iconst 2, .if_icmp .lt 20, .iload 3, .aload 0, .tableswitch 0 7 1 #[], .tableswitch 0 0 1 #[], .iconst 4, .iaload, .if_icmp .le 24, .iconst 1, .goto 25] 24 = true := qck_r (nn_ _) (by decide +kernel)
theorem bs_X7_putWaiting_e_0 {P : Zt → Option Zv → Prop} (K : Int → Zl → List Zv → Zt → Prop) : sx_ K P [.iload 2, .iload 1, .isub, .iconst 2, .if_icmp .lt 20, .iload 3, .aload 0, .tableswitch 0 7 1 #[], .tableswitch 0 0 1 #[], .iconst 4, .iaload, .if_icmp .le 24, .iconst 1, .goto 25] 24 = x_iload 2 (x_iload 1 (x_isub (x_iconst 2 (x_if_icmp .lt 20 K (x_iload 3 (x_aload 0 (x_g5 107 100 1 (x_g2 100 401 (x_iconst 4 (x_iaload (x_if_icmp .le 24 K (x_iconst 1 (x_goto 25 K))))))))))))) := ((xe_iload 2).trans (congrArg (x_iload 2) ((xe_iload 1).trans (congrArg (x_iload 1) ((xe_isub).trans (congrArg (x_isub) ((xe_iconst 2).trans (congrArg (x_iconst 2) ((xe_if_icmp .lt 20).trans (congrArg (x_if_icmp .lt 20 K) ((xe_iload 3).trans (congrArg (x_iload 3) ((xe_aload 0).trans (congrArg (x_aload 0) ((xe_g5 (kk := 107) rfl tl_7_1).trans (congrArg (x_g5 107 100 1) ((xe_g2 (kk := 100) rfl tl_0_1).trans (congrArg (x_g2 100 401) ((xe_iconst 4).trans (congrArg (x_iconst 4) ((xe_iaload).trans (congrArg (x_iaload) ((xe_if_icmp .le 24).trans (congrArg (x_if_icmp .le 24 K) ((xe_iconst 1).trans (congrArg (x_iconst 1) (xe_goto 25)))))))))))))))))))))))))))
theorem bk_X7_putWaiting_e_20 : ck_ fX7 none cX7_putWaiting 20 [.iconst 1, .goto 25] 24 = true := qck_r (nn_ _) (by decide +kernel)
theorem bs_X7_putWaiting_e_20 {P : Zt → Option Zv → Prop} (K : Int → Zl → List Zv → Zt → Prop) : sx_ K P [.iconst 1, .goto 25] 24 = x_iconst 1 (x_goto 25 K) := ((xe_iconst 1).trans (congrArg (x_iconst 1) (xe_goto 25)))
theorem bk_X7_putWaiting_e_25 : ck_ fX7 none cX7_putWaiting 25 [.istore 4, .iload 4, .ifCond .ne 81, .aload 0, .tableswitch 0 7 13 #[], .iconst 16, .if_icmp .ge 81, .aload 0, .tableswitch 0 7 10 #[], .aload 0, .tableswitch 0 7 13 #[], .iload 1, .iastore, .aload 0, .tableswitch 0 7 11 #[], .aload 0, .tableswitch 0 7 13 #[], .iload 2, .iastore, .aload 0, .tableswitch 0 7 12 #[], .aload 0, .tableswitch 0 7 13 #[], .iload 3, .iastore, .aload 0, .dup, .tableswitch 0 7 13 #[], .iconst 1, .iadd, .tableswitch 1 7 13 #[], .return_] 82 = true := qck_r (nn_ _) (by decide +kernel)
theorem bs_X7_putWaiting_e_25 {P : Zt → Option Zv → Prop} (K : Int → Zl → List Zv → Zt → Prop) : sx_ K P [.istore 4, .iload 4, .ifCond .ne 81, .aload 0, .tableswitch 0 7 13 #[], .iconst 16, .if_icmp .ge 81, .aload 0, .tableswitch 0 7 10 #[], .aload 0, .tableswitch 0 7 13 #[], .iload 1, .iastore, .aload 0, .tableswitch 0 7 11 #[], .aload 0, .tableswitch 0 7 13 #[], .iload 2, .iastore, .aload 0, .tableswitch 0 7 12 #[], .aload 0, .tableswitch 0 7 13 #[], .iload 3, .iastore, .aload 0, .dup, .tableswitch 0 7 13 #[], .iconst 1, .iadd, .tableswitch 1 7 13 #[], .return_] 82 = x_istore 4 (x_iload 4 (x_ifCond .ne 81 K (x_aload 0 (x_g0 107 13 0 16 (x_iconst 16 (x_if_icmp .ge 81 K (x_aload 0 (x_g1 107 550 (x_aload 0 (x_g0 107 13 0 16 (x_iload 1 (x_iastore (x_aload 0 (x_g1 107 551 (x_aload 0 (x_g0 107 13 0 16 (x_iload 2 (x_iastore (x_aload 0 (x_g1 107 552 (x_aload 0 (x_g0 107 13 0 16 (x_iload 3 (x_iastore (x_aload 0 (x_dup (x_g0 107 13 0 16 (x_iconst 1 (x_iadd (x_p 107 13 0 16 (x_return_ P))))))))))))))))))))))))))))))) := ((xe_istore 4).trans (congrArg (x_istore 4) ((xe_iload 4).trans (congrArg (x_iload 4) ((xe_ifCond .ne 81).trans (congrArg (x_ifCond .ne 81 K) ((xe_aload 0).trans (congrArg (x_aload 0) ((xe_g0 (kk := 107) rfl tl_7_13).trans (congrArg (x_g0 107 13 0 16) ((xe_iconst 16).trans (congrArg (x_iconst 16) ((xe_if_icmp .ge 81).trans (congrArg (x_if_icmp .ge 81 K) ((xe_aload 0).trans (congrArg (x_aload 0) ((xe_g1 (kk := 107) rfl tl_7_10).trans (congrArg (x_g1 107 550) ((xe_aload 0).trans (congrArg (x_aload 0) ((xe_g0 (kk := 107) rfl tl_7_13).trans (congrArg (x_g0 107 13 0 16) ((xe_iload 1).trans (congrArg (x_iload 1) ((xe_iastore).trans (congrArg (x_iastore) ((xe_aload 0).trans (congrArg (x_aload 0) ((xe_g1 (kk := 107) rfl tl_7_11).trans (congrArg (x_g1 107 551) ((xe_aload 0).trans (congrArg (x_aload 0) ((xe_g0 (kk := 107) rfl tl_7_13).trans (congrArg (x_g0 107 13 0 16) ((xe_iload 2).trans (congrArg (x_iload 2) ((xe_iastore).trans (congrArg (x_iastore) ((xe_aload 0).trans (congrArg (x_aload 0) ((xe_g1 (kk := 107) rfl tl_7_12).trans (congrArg (x_g1 107 552) ((xe_aload 0).trans (congrArg (x_aload 0) ((xe_g0 (kk := 107) rfl tl_7_13).trans (congrArg (x_g0 107 13 0 16) ((xe_iload 3).trans (congrArg (x_iload 3) ((xe_iastore).trans (congrArg (x_iastore) ((xe_aload 0).trans (congrArg (x_aload 0) ((xe_dup).trans (congrArg (x_dup) ((xe_g0 (kk := 107) rfl tl_7_13).trans (congrArg (x_g0 107 13 0 16) ((xe_iconst 1).trans (congrArg (x_iconst 1) ((xe_iadd).trans (congrArg (x_iadd) ((xe_p (kk := 107) rfl tl_7_13).trans (congrArg (x_p 107 13 0 16) (xe_return_)))))))))))))))))))))))))))))))))))))))))))))))))))))))))))))))
theorem bk_X7_putWaiting_e_81 : ck_ fX7 none cX7_putWaiting 81 [.return_] 82 = true := qck_r (nn_ _) (by decide +kernel)
theorem bs_X7_putWaiting_e_81 {P : Zt → Option Zv → Prop} (K : Int → Zl → List Zv → Zt → Prop) : sx_ K P [.return_] 82 = x_return_ P := (xe_return_)
theorem bk_X7_putWaiting_e_24 : ck_ fX7 none cX7_putWaiting 24 [.iconst 0, .istore 4, .iload 4, .ifCond .ne 81, .aload 0, .tableswitch 0 7 13 #[], .iconst 16, .if_icmp .ge 81, .aload 0, .tableswitch 0 7 10 #[], .aload 0, .tableswitch 0 7 13 #[], .iload 1, .iastore, .aload 0, .tableswitch 0 7 11 #[], .aload 0, .tableswitch 0 7 13 #[], .iload 2, .iastore, .aload 0, .tableswitch 0 7 12 #[], .aload 0, .tableswitch 0 7 13 #[], .iload 3, .iastore, .aload 0, .dup, .tableswitch 0 7 13 #[], .iconst 1, .iadd, .tableswitch 1 7 13 #[], .return_] 82 = true := qck_r (nn_ _) (by decide +kernel)
theorem bs_X7_putWaiting_e_24 {P : Zt → Option Zv → Prop} (K : Int → Zl → List Zv → Zt → Prop) : sx_ K P [.iconst 0, .istore 4, .iload 4, .ifCond .ne 81, .aload 0, .tableswitch 0 7 13 #[], .iconst 16, .if_icmp .ge 81, .aload 0, .tableswitch 0 7 10 #[], .aload 0, .tableswitch 0 7 13 #[], .iload 1, .iastore, .aload 0, .tableswitch 0 7 11 #[], .aload 0, .tableswitch 0 7 13 #[], .iload 2, .iastore, .aload 0, .tableswitch 0 7 12 #[], .aload 0, .tableswitch 0 7 13 #[], .iload 3, .iastore, .aload 0, .dup, .tableswitch 0 7 13 #[], .iconst 1, .iadd, .tableswitch 1 7 13 #[], .return_] 82 = x_iconst 0 (x_istore 4 (x_iload 4 (x_ifCond .ne 81 K (x_aload 0 (x_g0 107 13 0 16 (x_iconst 16 (x_if_icmp .ge 81 K (x_aload 0 (x_g1 107 550 (x_aload 0 (x_g0 107 13 0 16 (x_iload 1 (x_iastore (x_aload 0 (x_g1 107 551 (x_aload 0 (x_g0 107 13 0 16 (x_iload 2 (x_iastore (x_aload 0 (x_g1 107 552 (x_aload 0 (x_g0 107 13 0 16 (x_iload 3 (x_iastore (x_aload 0 (x_dup (x_g0 107 13 0 16 (x_iconst 1 (x_iadd (x_p 107 13 0 16 (x_return_ P)))))))))))))))))))))))))))))))) := ((xe_iconst 0).trans (congrArg (x_iconst 0) ((xe_istore 4).trans (congrArg (x_istore 4) ((xe_iload 4).trans (congrArg (x_iload 4) ((xe_ifCond .ne 81).trans (congrArg (x_ifCond .ne 81 K) ((xe_aload 0).trans (congrArg (x_aload 0) ((xe_g0 (kk := 107) rfl tl_7_13).trans (congrArg (x_g0 107 13 0 16) ((xe_iconst 16).trans (congrArg (x_iconst 16) ((xe_if_icmp .ge 81).trans (congrArg (x_if_icmp .ge 81 K) ((xe_aload 0).trans (congrArg (x_aload 0) ((xe_g1 (kk := 107) rfl tl_7_10).trans (congrArg (x_g1 107 550) ((xe_aload 0).trans (congrArg (x_aload 0) ((xe_g0 (kk := 107) rfl tl_7_13).trans (congrArg (x_g0 107 13 0 16) ((xe_iload 1).trans (congrArg (x_iload 1) ((xe_iastore).trans (congrArg (x_iastore) ((xe_aload 0).trans (congrArg (x_aload 0) ((xe_g1 (kk := 107) rfl tl_7_11).trans (congrArg (x_g1 107 551) ((xe_aload 0).trans (congrArg (x_aload 0) ((xe_g0 (kk := 107) rfl tl_7_13).trans (congrArg (x_g0 107 13 0 16) ((xe_iload 2).trans (congrArg (x_iload 2) ((xe_iastore).trans (congrArg (x_iastore) ((xe_aload 0).trans (congrArg (x_aload 0) ((xe_g1 (kk := 107) rfl tl_7_12).trans (congrArg (x_g1 107 552) ((xe_aload 0).trans (congrArg (x_aload 0) ((xe_g0 (kk := 107) rfl tl_7_13).trans (congrArg (x_g0 107 13 0 16) ((xe_iload 3).trans (congrArg (x_iload 3) ((xe_iastore).trans (congrArg (x_iastore) ((xe_aload 0).trans (congrArg (x_aload 0) ((xe_dup).trans (congrArg (x_dup) ((xe_g0 (kk := 107) rfl tl_7_13).trans (congrArg (x_g0 107 13 0 16) ((xe_iconst 1).trans (congrArg (x_iconst 1) ((xe_iadd).trans (congrArg (x_iadd) ((xe_p (kk := 107) rfl tl_7_13).trans (congrArg (x_p 107 13 0 16) (xe_return_)))))))))))))))))))))))))))))))))))))))))))))))))))))))))))))))))
abbrev po_X7_putWaiting_e (T : Zt) (c : Int) (f t k : Int) : Zt → Option Zv → Prop := fun T' r => r = none ∧ fr_ [(550, []), (551, []), (552, []), (107, [13])] T T' ∧ ((0 ≤ T' 107 0 13) ∧ pl9h_ T' (T' 107 0 13).toNat = pu9_ (T 401 c 4) f t k (pl9h_ T (T 107 0 13).toNat))
set_option maxHeartbeats 4000000 in
theorem ct_X7_putWaiting_e {T : Zt} {c : Int} {f t k : Int} (hcx : T 107 0 1 = c + 1 ∧ 0 ≤ c) (h1 : 0 ≤ f ∧ f ≤ 12) (h2 : 0 ≤ t ∧ t ≤ 12) (h3 : 0 ≤ k ∧ k ≤ 8) (hkc : 0 ≤ (T 401 c 4) ∧ (T 401 c 4) ≤ 7) (hw : 0 ≤ T 107 0 13 ∧ T 107 0 13 < 16) : Ct_ yX7_putWaiting zX7_putWaiting T [vR 107 0, vI f, vI t, vI k] (po_X7_putWaiting_e T c f t k) := by
  refine ct_of pn_7 rfl rfl (Nat.le_of_ble_eq_true rfl) (fun hT hav => ?_)
  have hr_f : -2147483648 ≤ f ∧ f ≤ 2147483647 := hav (vI f) (List.mem_cons_of_mem _ List.mem_cons_self)
  have hr_t : -2147483648 ≤ t ∧ t ≤ 2147483647 := hav (vI t) (List.mem_cons_of_mem _ (List.mem_cons_of_mem _ List.mem_cons_self))
  have hr_k : -2147483648 ≤ k ∧ k ≤ 2147483647 := hav (vI k) (List.mem_cons_of_mem _ (List.mem_cons_of_mem _ (List.mem_cons_of_mem _ List.mem_cons_self)))
  have hz : zX7_putWaiting.2.2.2.1 = some .boolean → ∀ (T' : Zt) (x : Int), po_X7_putWaiting_e T c f t k T' (some (vI x)) → 0 ≤ x ∧ x ≤ 1 := fun h => by cases h
  show J_ zX7_putWaiting T (po_X7_putWaiting_e T c f t k) 0 0 0 [some (vR 107 0), some (vI f), some (vI t), some (vI k), none] [] T
  refine j_blx (F := fX7) tb_X7 (nn_ _) bk_X7_putWaiting_e_0 bs_X7_putWaiting_e_0 hz (fun K hK => ?_)
  refine rg_i (by omega) ?_
  refine And.intro (fun c1 => ?_) (fun c1 => ?_)
  · refine hK 20 _ [] T ?_
    refine j_blx (F := fX7) tb_X7 (nn_ _) bk_X7_putWaiting_e_20 bs_X7_putWaiting_e_20 hz (fun K hK => ?_)
    refine hK 25 _ [vI 1] T ?_
    refine j_blx (F := fX7) tb_X7 (nn_ _) bk_X7_putWaiting_e_25 bs_X7_putWaiting_e_25 hz (fun K hK => ?_)
    refine And.intro (fun c2 => ?_) (fun c2 => ?_)
    · refine hK 81 [some (vR 107 0), some (vI f), some (vI t), some (vI k), some (vI 1)] [] T ?_
      refine j_blx (F := fX7) tb_X7 (nn_ _) bk_X7_putWaiting_e_81 bs_X7_putWaiting_e_81 hz (fun K hK => ?_)
      refine (show po_X7_putWaiting_e T c f t k T (none) from ?_)
      first
      | exact ⟨rfl, fr_0 _ _, by omega, by rw [pu_t (by omega)]⟩
      | (exfalso; omega)
    · intro b3 b3b
      refine And.intro (fun c4 => ?_) (fun c4 => ?_)
      · refine hK 81 _ [] T ?_
        refine j_blx (F := fX7) tb_X7 (nn_ _) bk_X7_putWaiting_e_81 bs_X7_putWaiting_e_81 hz (fun K hK => ?_)
        refine (show po_X7_putWaiting_e T c f t k T (none) from ?_)
        first
        | exact ⟨rfl, fr_0 _ _, by omega, by rw [pu_t (by omega)]⟩
        | (exfalso; omega)
      · intro b5 b5b
        refine iy_i (by omega) (by omega) ?_
        refine x_nm (fun U6 hU6 => ?_)
        have e7 := up_f hU6
        intro b8 b8b
        have e9 : U6 107 0 13 = T 107 0 13 := up_k hU6 (by exact Nat.ne_of_beq_eq_false rfl) 0 13
        rw [e9] at b8 b8b ⊢
        refine iy_i (by omega) (by omega) ?_
        refine x_nm (fun U10 hU10 => ?_)
        have e11 := up_f hU10
        intro b12 b12b
        have e13 : U10 107 0 13 = T 107 0 13 := (up_k hU10 (by exact Nat.ne_of_beq_eq_false rfl) 0 13).trans (up_k hU6 (by exact Nat.ne_of_beq_eq_false rfl) 0 13)
        rw [e13] at b12 b12b ⊢
        refine iy_i (by omega) (by omega) ?_
        refine x_nm (fun U14 hU14 => ?_)
        have e15 := up_f hU14
        intro b16 b16b
        have e17 : U14 107 0 13 = T 107 0 13 := (up_k hU14 (by exact Nat.ne_of_beq_eq_false rfl) 0 13).trans ((up_k hU10 (by exact Nat.ne_of_beq_eq_false rfl) 0 13).trans (up_k hU6 (by exact Nat.ne_of_beq_eq_false rfl) 0 13))
        rw [e17] at b16 b16b ⊢
        refine rg_i (by omega) ?_
        refine bd_i (by omega) ?_
        refine x_nm (fun U18 hU18 => ?_)
        have e19 := up_f hU18
        refine (show po_X7_putWaiting_e T c f t k U18 (none) from ?_)
        have e20 : U18 107 0 13 = (T 107 0 13) + 1 := up_f hU18
        have ew : U18 107 0 13 = T 107 0 13 + 1 := up_f hU18
        refine ⟨rfl, fr_u (fr_u (fr_u (fr_u (fr_0 _ _) hU6 rfl) hU10 rfl) hU14 rfl) hU18 rfl, by omega, ?_⟩
        rw [ew]
        refine plh_p (by omega) (by omega) (((up_k hU18 (by exact Nat.ne_of_beq_eq_false rfl) 0 (T 107 0 13)).trans ((up_k hU14 (by exact Nat.ne_of_beq_eq_false rfl) 0 (T 107 0 13)).trans (up_k hU10 (by exact Nat.ne_of_beq_eq_false rfl) 0 (T 107 0 13)))).trans (up_f hU6)) (((up_k hU18 (by exact Nat.ne_of_beq_eq_false rfl) 0 (T 107 0 13)).trans (up_k hU14 (by exact Nat.ne_of_beq_eq_false rfl) 0 (T 107 0 13))).trans (up_f hU10)) ((up_k hU18 (by exact Nat.ne_of_beq_eq_false rfl) 0 (T 107 0 13)).trans (up_f hU14)) (fun q9 j h9 a b => ?_)
        rcases h9 with rfl | rfl | rfl
        · exact (up_k hU18 (by exact Nat.ne_of_beq_eq_false rfl) 0 j).trans ((up_k hU14 (by exact Nat.ne_of_beq_eq_false rfl) 0 j).trans ((up_k hU10 (by exact Nat.ne_of_beq_eq_false rfl) 0 j).trans (up_g hU6 (by omega))))
        · exact (up_k hU18 (by exact Nat.ne_of_beq_eq_false rfl) 0 j).trans ((up_k hU14 (by exact Nat.ne_of_beq_eq_false rfl) 0 j).trans ((up_g hU10 (by omega)).trans (up_k hU6 (by exact Nat.ne_of_beq_eq_false rfl) 0 j)))
        · exact (up_k hU18 (by exact Nat.ne_of_beq_eq_false rfl) 0 j).trans ((up_g hU14 (by omega)).trans ((up_k hU10 (by exact Nat.ne_of_beq_eq_false rfl) 0 j).trans (up_k hU6 (by exact Nat.ne_of_beq_eq_false rfl) 0 j)))
  · refine And.intro (fun c21 => ?_) (fun c21 => ?_)
    · exact absurd c21 (by omega)
    · have z22 : T 107 0 1 - 1 = c := by omega
      rw [z22]
      refine ix_i (by omega) ?_
      intro b23 b23b
      refine And.intro (fun c24 => ?_) (fun c24 => ?_)
      · refine hK 24 _ [] T ?_
        refine j_blx (F := fX7) tb_X7 (nn_ _) bk_X7_putWaiting_e_24 bs_X7_putWaiting_e_24 hz (fun K hK => ?_)
        refine And.intro (fun c25 => ?_) (fun c25 => ?_)
        · refine hK 81 [some (vR 107 0), some (vI f), some (vI t), some (vI k), some (vI 0)] [] T ?_
          refine j_blx (F := fX7) tb_X7 (nn_ _) bk_X7_putWaiting_e_81 bs_X7_putWaiting_e_81 hz (fun K hK => ?_)
          refine (show po_X7_putWaiting_e T c f t k T (none) from ?_)
          first
          | exact ⟨rfl, fr_0 _ _, by omega, by rw [pu_t (by omega)]⟩
          | (exfalso; omega)
        · intro b26 b26b
          refine And.intro (fun c27 => ?_) (fun c27 => ?_)
          · refine hK 81 _ [] T ?_
            refine j_blx (F := fX7) tb_X7 (nn_ _) bk_X7_putWaiting_e_81 bs_X7_putWaiting_e_81 hz (fun K hK => ?_)
            refine (show po_X7_putWaiting_e T c f t k T (none) from ?_)
            first
            | exact ⟨rfl, fr_0 _ _, by omega, by rw [pu_t (by omega)]⟩
            | (exfalso; omega)
          · intro b28 b28b
            refine iy_i (by omega) (by omega) ?_
            refine x_nm (fun U29 hU29 => ?_)
            have e30 := up_f hU29
            intro b31 b31b
            have e32 : U29 107 0 13 = T 107 0 13 := up_k hU29 (by exact Nat.ne_of_beq_eq_false rfl) 0 13
            rw [e32] at b31 b31b ⊢
            refine iy_i (by omega) (by omega) ?_
            refine x_nm (fun U33 hU33 => ?_)
            have e34 := up_f hU33
            intro b35 b35b
            have e36 : U33 107 0 13 = T 107 0 13 := (up_k hU33 (by exact Nat.ne_of_beq_eq_false rfl) 0 13).trans (up_k hU29 (by exact Nat.ne_of_beq_eq_false rfl) 0 13)
            rw [e36] at b35 b35b ⊢
            refine iy_i (by omega) (by omega) ?_
            refine x_nm (fun U37 hU37 => ?_)
            have e38 := up_f hU37
            intro b39 b39b
            have e40 : U37 107 0 13 = T 107 0 13 := (up_k hU37 (by exact Nat.ne_of_beq_eq_false rfl) 0 13).trans ((up_k hU33 (by exact Nat.ne_of_beq_eq_false rfl) 0 13).trans (up_k hU29 (by exact Nat.ne_of_beq_eq_false rfl) 0 13))
            rw [e40] at b39 b39b ⊢
            refine rg_i (by omega) ?_
            refine bd_i (by omega) ?_
            refine x_nm (fun U41 hU41 => ?_)
            have e42 := up_f hU41
            refine (show po_X7_putWaiting_e T c f t k U41 (none) from ?_)
            have e43 : U41 107 0 13 = (T 107 0 13) + 1 := up_f hU41
            have ew : U41 107 0 13 = T 107 0 13 + 1 := up_f hU41
            refine ⟨rfl, fr_u (fr_u (fr_u (fr_u (fr_0 _ _) hU29 rfl) hU33 rfl) hU37 rfl) hU41 rfl, by omega, ?_⟩
            rw [ew]
            refine plh_p (by omega) (by omega) (((up_k hU41 (by exact Nat.ne_of_beq_eq_false rfl) 0 (T 107 0 13)).trans ((up_k hU37 (by exact Nat.ne_of_beq_eq_false rfl) 0 (T 107 0 13)).trans (up_k hU33 (by exact Nat.ne_of_beq_eq_false rfl) 0 (T 107 0 13)))).trans (up_f hU29)) (((up_k hU41 (by exact Nat.ne_of_beq_eq_false rfl) 0 (T 107 0 13)).trans (up_k hU37 (by exact Nat.ne_of_beq_eq_false rfl) 0 (T 107 0 13))).trans (up_f hU33)) ((up_k hU41 (by exact Nat.ne_of_beq_eq_false rfl) 0 (T 107 0 13)).trans (up_f hU37)) (fun q9 j h9 a b => ?_)
            rcases h9 with rfl | rfl | rfl
            · exact (up_k hU41 (by exact Nat.ne_of_beq_eq_false rfl) 0 j).trans ((up_k hU37 (by exact Nat.ne_of_beq_eq_false rfl) 0 j).trans ((up_k hU33 (by exact Nat.ne_of_beq_eq_false rfl) 0 j).trans (up_g hU29 (by omega))))
            · exact (up_k hU41 (by exact Nat.ne_of_beq_eq_false rfl) 0 j).trans ((up_k hU37 (by exact Nat.ne_of_beq_eq_false rfl) 0 j).trans ((up_g hU33 (by omega)).trans (up_k hU29 (by exact Nat.ne_of_beq_eq_false rfl) 0 j)))
            · exact (up_k hU41 (by exact Nat.ne_of_beq_eq_false rfl) 0 j).trans ((up_g hU37 (by omega)).trans ((up_k hU33 (by exact Nat.ne_of_beq_eq_false rfl) 0 j).trans (up_k hU29 (by exact Nat.ne_of_beq_eq_false rfl) 0 j)))
      · refine hK 25 _ [vI 1] T ?_
        refine j_blx (F := fX7) tb_X7 (nn_ _) bk_X7_putWaiting_e_25 bs_X7_putWaiting_e_25 hz (fun K hK => ?_)
        refine And.intro (fun c44 => ?_) (fun c44 => ?_)
        · refine hK 81 [some (vR 107 0), some (vI f), some (vI t), some (vI k), some (vI 1)] [] T ?_
          refine j_blx (F := fX7) tb_X7 (nn_ _) bk_X7_putWaiting_e_81 bs_X7_putWaiting_e_81 hz (fun K hK => ?_)
          refine (show po_X7_putWaiting_e T c f t k T (none) from ?_)
          first
          | exact ⟨rfl, fr_0 _ _, by omega, by rw [pu_t (by omega)]⟩
          | (exfalso; omega)
        · intro b45 b45b
          refine And.intro (fun c46 => ?_) (fun c46 => ?_)
          · refine hK 81 _ [] T ?_
            refine j_blx (F := fX7) tb_X7 (nn_ _) bk_X7_putWaiting_e_81 bs_X7_putWaiting_e_81 hz (fun K hK => ?_)
            refine (show po_X7_putWaiting_e T c f t k T (none) from ?_)
            first
            | exact ⟨rfl, fr_0 _ _, by omega, by rw [pu_t (by omega)]⟩
            | (exfalso; omega)
          · intro b47 b47b
            refine iy_i (by omega) (by omega) ?_
            refine x_nm (fun U48 hU48 => ?_)
            have e49 := up_f hU48
            intro b50 b50b
            have e51 : U48 107 0 13 = T 107 0 13 := up_k hU48 (by exact Nat.ne_of_beq_eq_false rfl) 0 13
            rw [e51] at b50 b50b ⊢
            refine iy_i (by omega) (by omega) ?_
            refine x_nm (fun U52 hU52 => ?_)
            have e53 := up_f hU52
            intro b54 b54b
            have e55 : U52 107 0 13 = T 107 0 13 := (up_k hU52 (by exact Nat.ne_of_beq_eq_false rfl) 0 13).trans (up_k hU48 (by exact Nat.ne_of_beq_eq_false rfl) 0 13)
            rw [e55] at b54 b54b ⊢
            refine iy_i (by omega) (by omega) ?_
            refine x_nm (fun U56 hU56 => ?_)
            have e57 := up_f hU56
            intro b58 b58b
            have e59 : U56 107 0 13 = T 107 0 13 := (up_k hU56 (by exact Nat.ne_of_beq_eq_false rfl) 0 13).trans ((up_k hU52 (by exact Nat.ne_of_beq_eq_false rfl) 0 13).trans (up_k hU48 (by exact Nat.ne_of_beq_eq_false rfl) 0 13))
            rw [e59] at b58 b58b ⊢
            refine rg_i (by omega) ?_
            refine bd_i (by omega) ?_
            refine x_nm (fun U60 hU60 => ?_)
            have e61 := up_f hU60
            refine (show po_X7_putWaiting_e T c f t k U60 (none) from ?_)
            have e62 : U60 107 0 13 = (T 107 0 13) + 1 := up_f hU60
            have ew : U60 107 0 13 = T 107 0 13 + 1 := up_f hU60
            refine ⟨rfl, fr_u (fr_u (fr_u (fr_u (fr_0 _ _) hU48 rfl) hU52 rfl) hU56 rfl) hU60 rfl, by omega, ?_⟩
            rw [ew]
            refine plh_p (by omega) (by omega) (((up_k hU60 (by exact Nat.ne_of_beq_eq_false rfl) 0 (T 107 0 13)).trans ((up_k hU56 (by exact Nat.ne_of_beq_eq_false rfl) 0 (T 107 0 13)).trans (up_k hU52 (by exact Nat.ne_of_beq_eq_false rfl) 0 (T 107 0 13)))).trans (up_f hU48)) (((up_k hU60 (by exact Nat.ne_of_beq_eq_false rfl) 0 (T 107 0 13)).trans (up_k hU56 (by exact Nat.ne_of_beq_eq_false rfl) 0 (T 107 0 13))).trans (up_f hU52)) ((up_k hU60 (by exact Nat.ne_of_beq_eq_false rfl) 0 (T 107 0 13)).trans (up_f hU56)) (fun q9 j h9 a b => ?_)
            rcases h9 with rfl | rfl | rfl
            · exact (up_k hU60 (by exact Nat.ne_of_beq_eq_false rfl) 0 j).trans ((up_k hU56 (by exact Nat.ne_of_beq_eq_false rfl) 0 j).trans ((up_k hU52 (by exact Nat.ne_of_beq_eq_false rfl) 0 j).trans (up_g hU48 (by omega))))
            · exact (up_k hU60 (by exact Nat.ne_of_beq_eq_false rfl) 0 j).trans ((up_k hU56 (by exact Nat.ne_of_beq_eq_false rfl) 0 j).trans ((up_g hU52 (by omega)).trans (up_k hU48 (by exact Nat.ne_of_beq_eq_false rfl) 0 j)))
            · exact (up_k hU60 (by exact Nat.ne_of_beq_eq_false rfl) 0 j).trans ((up_g hU56 (by omega)).trans ((up_k hU52 (by exact Nat.ne_of_beq_eq_false rfl) 0 j).trans (up_k hU48 (by exact Nat.ne_of_beq_eq_false rfl) 0 j)))
theorem so_v2 {T U Y : Zt} {c f t : Int} {W : Int → Int} (h1 : (fun x => U 547 0 x) = som9_ (fun s => Y 549 0 s) f (t - f - 1).toNat (fun x => T 547 0 x)) (hf : f + 2 ≤ t) (hw : ∀ x, f ≤ x → x < t → Y 549 0 (T 547 0 x) = W (T 403 c (T 547 0 x))) : (fun x => T 403 c (U 547 0 x)) = som9_ W f (t - f - 1).toNat (fun x => T 403 c (T 547 0 x)) ∧ ∀ x, f ≤ x → x < t → Y 549 0 (U 547 0 x) = W (T 403 c (U 547 0 x)) := by
  have k1 := so_c (W := W) (Ws := fun s => Y 549 0 s) (cl := fun s => T 403 c s) (f := f) (t - f - 1).toNat (fun x => T 547 0 x) (fun k a b => hw k a (by omega))
  have k2 := so_q (W := fun s => Y 549 0 s) (f := f) (Q := fun s => Y 549 0 s = W (T 403 c s)) (t - f - 1).toNat (fun x => T 547 0 x) (fun k a b => hw k a (by omega))
  rw [← h1] at k1 k2
  exact ⟨k1, fun x a b => k2.1 x a (by omega)⟩
theorem bk_X7_orderGroup_e_83 : ck_ fX7 none cX7_orderGroup 83 [.iload 7, .iload 2, .if_icmp .gt 161, .iload 7, .iload 2, .if_icmp .eq 125, .aload 0, .tableswitch 0 7 9 #[], .aload 0, .tableswitch 0 7 7 #[], .iload 7, .iaload, .laload, .aload 0, .tableswitch 0 7 9 #[], .aload 0, .tableswitch 0 7 7 #[], .iload 7, .iconst 1, .isub, .iaload, .laload, .lcmp, .ifCond .eq 155, .aload 0, .iload 6, .iload 7, .iload 5] 132 = true := qck_r (nn_ _) (by decide +kernel)
theorem bs_X7_orderGroup_e_83 {P : Zt → Option Zv → Prop} (K : Int → Zl → List Zv → Zt → Prop) : sx_ K P [.iload 7, .iload 2, .if_icmp .gt 161, .iload 7, .iload 2, .if_icmp .eq 125, .aload 0, .tableswitch 0 7 9 #[], .aload 0, .tableswitch 0 7 7 #[], .iload 7, .iaload, .laload, .aload 0, .tableswitch 0 7 9 #[], .aload 0, .tableswitch 0 7 7 #[], .iload 7, .iconst 1, .isub, .iaload, .laload, .lcmp, .ifCond .eq 155, .aload 0, .iload 6, .iload 7, .iload 5] 132 = x_iload 7 (x_iload 2 (x_if_icmp .gt 161 K (x_iload 7 (x_iload 2 (x_if_icmp .eq 125 K (x_aload 0 (x_g1 107 549 (x_aload 0 (x_g1 107 547 (x_iload 7 (x_iaload (x_laload (x_aload 0 (x_g1 107 549 (x_aload 0 (x_g1 107 547 (x_iload 7 (x_iconst 1 (x_isub (x_iaload (x_laload (x_lcmp (x_ifCond .eq 155 K (x_aload 0 (x_iload 6 (x_iload 7 (x_iload 5 (K 132)))))))))))))))))))))))))))) := ((xe_iload 7).trans (congrArg (x_iload 7) ((xe_iload 2).trans (congrArg (x_iload 2) ((xe_if_icmp .gt 161).trans (congrArg (x_if_icmp .gt 161 K) ((xe_iload 7).trans (congrArg (x_iload 7) ((xe_iload 2).trans (congrArg (x_iload 2) ((xe_if_icmp .eq 125).trans (congrArg (x_if_icmp .eq 125 K) ((xe_aload 0).trans (congrArg (x_aload 0) ((xe_g1 (kk := 107) rfl tl_7_9).trans (congrArg (x_g1 107 549) ((xe_aload 0).trans (congrArg (x_aload 0) ((xe_g1 (kk := 107) rfl tl_7_7).trans (congrArg (x_g1 107 547) ((xe_iload 7).trans (congrArg (x_iload 7) ((xe_iaload).trans (congrArg (x_iaload) ((xe_laload).trans (congrArg (x_laload) ((xe_aload 0).trans (congrArg (x_aload 0) ((xe_g1 (kk := 107) rfl tl_7_9).trans (congrArg (x_g1 107 549) ((xe_aload 0).trans (congrArg (x_aload 0) ((xe_g1 (kk := 107) rfl tl_7_7).trans (congrArg (x_g1 107 547) ((xe_iload 7).trans (congrArg (x_iload 7) ((xe_iconst 1).trans (congrArg (x_iconst 1) ((xe_isub).trans (congrArg (x_isub) ((xe_iaload).trans (congrArg (x_iaload) ((xe_laload).trans (congrArg (x_laload) ((xe_lcmp).trans (congrArg (x_lcmp) ((xe_ifCond .eq 155).trans (congrArg (x_ifCond .eq 155 K) ((xe_aload 0).trans (congrArg (x_aload 0) ((xe_iload 6).trans (congrArg (x_iload 6) ((xe_iload 7).trans (congrArg (x_iload 7) ((xe_iload 5).trans (congrArg (x_iload 5) xe_nil))))))))))))))))))))))))))))))))))))))))))))))))))))))))
theorem bk_X7_orderGroup_e_161 : ck_ fX7 none cX7_orderGroup 161 [.return_] 162 = true := qck_r (nn_ _) (by decide +kernel)
theorem bs_X7_orderGroup_e_161 {P : Zt → Option Zv → Prop} (K : Int → Zl → List Zv → Zt → Prop) : sx_ K P [.return_] 162 = x_return_ P := (xe_return_)
theorem bk_X7_orderGroup_e_125 : ck_ fX7 none cX7_orderGroup 125 [.aload 0, .iload 6, .iload 7, .iload 5] 132 = true := qck_r (nn_ _) (by decide +kernel)
theorem bs_X7_orderGroup_e_125 {P : Zt → Option Zv → Prop} (K : Int → Zl → List Zv → Zt → Prop) : sx_ K P [.aload 0, .iload 6, .iload 7, .iload 5] 132 = x_aload 0 (x_iload 6 (x_iload 7 (x_iload 5 (K 132)))) := ((xe_aload 0).trans (congrArg (x_aload 0) ((xe_iload 6).trans (congrArg (x_iload 6) ((xe_iload 7).trans (congrArg (x_iload 7) ((xe_iload 5).trans (congrArg (x_iload 5) xe_nil))))))))
theorem bk_X7_orderGroup_e_135 : ck_ fX7 none cX7_orderGroup 135 [.iload 7, .iload 2, .if_icmp .ge 151, .aload 0, .tableswitch 0 7 8 #[], .iload 7, .iconst 1, .isub, .iload 3, .iastore, .iload 7, .istore 6, .iinc 7 1, .goto 83] 161 = true := qck_r (nn_ _) (by decide +kernel)
theorem bs_X7_orderGroup_e_135 {P : Zt → Option Zv → Prop} (K : Int → Zl → List Zv → Zt → Prop) : sx_ K P [.iload 7, .iload 2, .if_icmp .ge 151, .aload 0, .tableswitch 0 7 8 #[], .iload 7, .iconst 1, .isub, .iload 3, .iastore, .iload 7, .istore 6, .iinc 7 1, .goto 83] 161 = x_iload 7 (x_iload 2 (x_if_icmp .ge 151 K (x_aload 0 (x_g1 107 548 (x_iload 7 (x_iconst 1 (x_isub (x_iload 3 (x_iastore (x_iload 7 (x_istore 6 (x_iinc 7 1 (x_goto 83 K))))))))))))) := ((xe_iload 7).trans (congrArg (x_iload 7) ((xe_iload 2).trans (congrArg (x_iload 2) ((xe_if_icmp .ge 151).trans (congrArg (x_if_icmp .ge 151 K) ((xe_aload 0).trans (congrArg (x_aload 0) ((xe_g1 (kk := 107) rfl tl_7_8).trans (congrArg (x_g1 107 548) ((xe_iload 7).trans (congrArg (x_iload 7) ((xe_iconst 1).trans (congrArg (x_iconst 1) ((xe_isub).trans (congrArg (x_isub) ((xe_iload 3).trans (congrArg (x_iload 3) ((xe_iastore).trans (congrArg (x_iastore) ((xe_iload 7).trans (congrArg (x_iload 7) ((xe_istore 6).trans (congrArg (x_istore 6) ((xe_iinc 7 1).trans (congrArg (x_iinc 7 1) (xe_goto 83)))))))))))))))))))))))))))
theorem bk_X7_orderGroup_e_151 : ck_ fX7 none cX7_orderGroup 151 [.iload 7, .istore 6, .iinc 7 1, .goto 83] 161 = true := qck_r (nn_ _) (by decide +kernel)
theorem bs_X7_orderGroup_e_151 {P : Zt → Option Zv → Prop} (K : Int → Zl → List Zv → Zt → Prop) : sx_ K P [.iload 7, .istore 6, .iinc 7 1, .goto 83] 161 = x_iload 7 (x_istore 6 (x_iinc 7 1 (x_goto 83 K))) := ((xe_iload 7).trans (congrArg (x_iload 7) ((xe_istore 6).trans (congrArg (x_istore 6) ((xe_iinc 7 1).trans (congrArg (x_iinc 7 1) (xe_goto 83)))))))
theorem bk_X7_orderGroup_e_155 : ck_ fX7 none cX7_orderGroup 155 [.iinc 7 1, .goto 83] 161 = true := qck_r (nn_ _) (by decide +kernel)
theorem bs_X7_orderGroup_e_155 {P : Zt → Option Zv → Prop} (K : Int → Zl → List Zv → Zt → Prop) : sx_ K P [.iinc 7 1, .goto 83] 161 = x_iinc 7 1 (x_goto 83 K) := ((xe_iinc 7 1).trans (congrArg (x_iinc 7 1) (xe_goto 83)))
theorem bk_X7_orderGroup_e_73 : ck_ fX7 none cX7_orderGroup 73 [.istore 5, .iload 1, .istore 6, .iload 1, .iconst 1, .iadd, .istore 7] 83 = true := qck_r (nn_ _) (by decide +kernel)
theorem bs_X7_orderGroup_e_73 {P : Zt → Option Zv → Prop} (K : Int → Zl → List Zv → Zt → Prop) : sx_ K P [.istore 5, .iload 1, .istore 6, .iload 1, .iconst 1, .iadd, .istore 7] 83 = x_istore 5 (x_iload 1 (x_istore 6 (x_iload 1 (x_iconst 1 (x_iadd (x_istore 7 (K 83))))))) := ((xe_istore 5).trans (congrArg (x_istore 5) ((xe_iload 1).trans (congrArg (x_iload 1) ((xe_istore 6).trans (congrArg (x_istore 6) ((xe_iload 1).trans (congrArg (x_iload 1) ((xe_iconst 1).trans (congrArg (x_iconst 1) ((xe_iadd).trans (congrArg (x_iadd) ((xe_istore 7).trans (congrArg (x_istore 7) xe_nil))))))))))))))
theorem bk_X7_orderGroup_e_0 : ck_ fX7 none cX7_orderGroup 0 [.aload 0, .iload 1, .iload 2, .iload 3] 4 = true := qck_r (nn_ _) (by decide +kernel)
theorem bs_X7_orderGroup_e_0 {P : Zt → Option Zv → Prop} (K : Int → Zl → List Zv → Zt → Prop) : sx_ K P [.aload 0, .iload 1, .iload 2, .iload 3] 4 = x_aload 0 (x_iload 1 (x_iload 2 (x_iload 3 (K 4)))) := ((xe_aload 0).trans (congrArg (x_aload 0) ((xe_iload 1).trans (congrArg (x_iload 1) ((xe_iload 2).trans (congrArg (x_iload 2) ((xe_iload 3).trans (congrArg (x_iload 3) xe_nil))))))))
theorem bk_X7_orderGroup_e_7 : ck_ fX7 none cX7_orderGroup 7 [.aload 0, .iload 1, .iload 2] 10 = true := qck_r (nn_ _) (by decide +kernel)
theorem bs_X7_orderGroup_e_7 {P : Zt → Option Zv → Prop} (K : Int → Zl → List Zv → Zt → Prop) : sx_ K P [.aload 0, .iload 1, .iload 2] 10 = x_aload 0 (x_iload 1 (x_iload 2 (K 10))) := ((xe_aload 0).trans (congrArg (x_aload 0) ((xe_iload 1).trans (congrArg (x_iload 1) ((xe_iload 2).trans (congrArg (x_iload 2) xe_nil))))))
theorem bk_X7_orderGroup_e_13 : ck_ fX7 none cX7_orderGroup 13 [.aload 0, .tableswitch 0 7 9 #[], .aload 0, .tableswitch 0 7 7 #[], .iload 1, .iaload, .laload, .aload 0, .tableswitch 0 7 9 #[], .aload 0, .tableswitch 0 7 7 #[], .iload 2, .iconst 1, .isub, .iaload, .laload, .lcmp, .ifCond .ne 45, .iconst 1, .goto 46] 45 = true := qck_r (nn_ _) (by decide +kernel)
theorem bs_X7_orderGroup_e_13 {P : Zt → Option Zv → Prop} (K : Int → Zl → List Zv → Zt → Prop) : sx_ K P [.aload 0, .tableswitch 0 7 9 #[], .aload 0, .tableswitch 0 7 7 #[], .iload 1, .iaload, .laload, .aload 0, .tableswitch 0 7 9 #[], .aload 0, .tableswitch 0 7 7 #[], .iload 2, .iconst 1, .isub, .iaload, .laload, .lcmp, .ifCond .ne 45, .iconst 1, .goto 46] 45 = x_aload 0 (x_g1 107 549 (x_aload 0 (x_g1 107 547 (x_iload 1 (x_iaload (x_laload (x_aload 0 (x_g1 107 549 (x_aload 0 (x_g1 107 547 (x_iload 2 (x_iconst 1 (x_isub (x_iaload (x_laload (x_lcmp (x_ifCond .ne 45 K (x_iconst 1 (x_goto 46 K))))))))))))))))))) := ((xe_aload 0).trans (congrArg (x_aload 0) ((xe_g1 (kk := 107) rfl tl_7_9).trans (congrArg (x_g1 107 549) ((xe_aload 0).trans (congrArg (x_aload 0) ((xe_g1 (kk := 107) rfl tl_7_7).trans (congrArg (x_g1 107 547) ((xe_iload 1).trans (congrArg (x_iload 1) ((xe_iaload).trans (congrArg (x_iaload) ((xe_laload).trans (congrArg (x_laload) ((xe_aload 0).trans (congrArg (x_aload 0) ((xe_g1 (kk := 107) rfl tl_7_9).trans (congrArg (x_g1 107 549) ((xe_aload 0).trans (congrArg (x_aload 0) ((xe_g1 (kk := 107) rfl tl_7_7).trans (congrArg (x_g1 107 547) ((xe_iload 2).trans (congrArg (x_iload 2) ((xe_iconst 1).trans (congrArg (x_iconst 1) ((xe_isub).trans (congrArg (x_isub) ((xe_iaload).trans (congrArg (x_iaload) ((xe_laload).trans (congrArg (x_laload) ((xe_lcmp).trans (congrArg (x_lcmp) ((xe_ifCond .ne 45).trans (congrArg (x_ifCond .ne 45 K) ((xe_iconst 1).trans (congrArg (x_iconst 1) (xe_goto 46)))))))))))))))))))))))))))))))))))))))
theorem bk_X7_orderGroup_e_45 : ck_ fX7 none cX7_orderGroup 45 [.iconst 0, .istore 4, .iload 4, .ifCond .ne 70, .aload 0, .tableswitch 0 7 1 #[], .tableswitch 0 0 1 #[], .iconst 5, .iaload, .iconst 1, .if_icmp .ne 70, .iconst 0, .goto 73] 70 = true := qck_r (nn_ _) (by decide +kernel)
theorem bs_X7_orderGroup_e_45 {P : Zt → Option Zv → Prop} (K : Int → Zl → List Zv → Zt → Prop) : sx_ K P [.iconst 0, .istore 4, .iload 4, .ifCond .ne 70, .aload 0, .tableswitch 0 7 1 #[], .tableswitch 0 0 1 #[], .iconst 5, .iaload, .iconst 1, .if_icmp .ne 70, .iconst 0, .goto 73] 70 = x_iconst 0 (x_istore 4 (x_iload 4 (x_ifCond .ne 70 K (x_aload 0 (x_g5 107 100 1 (x_g2 100 401 (x_iconst 5 (x_iaload (x_iconst 1 (x_if_icmp .ne 70 K (x_iconst 0 (x_goto 73 K)))))))))))) := ((xe_iconst 0).trans (congrArg (x_iconst 0) ((xe_istore 4).trans (congrArg (x_istore 4) ((xe_iload 4).trans (congrArg (x_iload 4) ((xe_ifCond .ne 70).trans (congrArg (x_ifCond .ne 70 K) ((xe_aload 0).trans (congrArg (x_aload 0) ((xe_g5 (kk := 107) rfl tl_7_1).trans (congrArg (x_g5 107 100 1) ((xe_g2 (kk := 100) rfl tl_0_1).trans (congrArg (x_g2 100 401) ((xe_iconst 5).trans (congrArg (x_iconst 5) ((xe_iaload).trans (congrArg (x_iaload) ((xe_iconst 1).trans (congrArg (x_iconst 1) ((xe_if_icmp .ne 70).trans (congrArg (x_if_icmp .ne 70 K) ((xe_iconst 0).trans (congrArg (x_iconst 0) (xe_goto 73)))))))))))))))))))))))))
theorem bk_X7_orderGroup_e_70 : ck_ fX7 none cX7_orderGroup 70 [.iload 3, .iconst 1, .iadd] 73 = true := qck_r (nn_ _) (by decide +kernel)
theorem bs_X7_orderGroup_e_70 {P : Zt → Option Zv → Prop} (K : Int → Zl → List Zv → Zt → Prop) : sx_ K P [.iload 3, .iconst 1, .iadd] 73 = x_iload 3 (x_iconst 1 (x_iadd (K 73))) := ((xe_iload 3).trans (congrArg (x_iload 3) ((xe_iconst 1).trans (congrArg (x_iconst 1) ((xe_iadd).trans (congrArg (x_iadd) xe_nil))))))
theorem bk_X7_orderGroup_e_46 : ck_ fX7 none cX7_orderGroup 46 [.istore 4, .iload 4, .ifCond .ne 70, .aload 0, .tableswitch 0 7 1 #[], .tableswitch 0 0 1 #[], .iconst 5, .iaload, .iconst 1, .if_icmp .ne 70, .iconst 0, .goto 73] 70 = true := qck_r (nn_ _) (by decide +kernel)
theorem bs_X7_orderGroup_e_46 {P : Zt → Option Zv → Prop} (K : Int → Zl → List Zv → Zt → Prop) : sx_ K P [.istore 4, .iload 4, .ifCond .ne 70, .aload 0, .tableswitch 0 7 1 #[], .tableswitch 0 0 1 #[], .iconst 5, .iaload, .iconst 1, .if_icmp .ne 70, .iconst 0, .goto 73] 70 = x_istore 4 (x_iload 4 (x_ifCond .ne 70 K (x_aload 0 (x_g5 107 100 1 (x_g2 100 401 (x_iconst 5 (x_iaload (x_iconst 1 (x_if_icmp .ne 70 K (x_iconst 0 (x_goto 73 K))))))))))) := ((xe_istore 4).trans (congrArg (x_istore 4) ((xe_iload 4).trans (congrArg (x_iload 4) ((xe_ifCond .ne 70).trans (congrArg (x_ifCond .ne 70 K) ((xe_aload 0).trans (congrArg (x_aload 0) ((xe_g5 (kk := 107) rfl tl_7_1).trans (congrArg (x_g5 107 100 1) ((xe_g2 (kk := 100) rfl tl_0_1).trans (congrArg (x_g2 100 401) ((xe_iconst 5).trans (congrArg (x_iconst 5) ((xe_iaload).trans (congrArg (x_iaload) ((xe_iconst 1).trans (congrArg (x_iconst 1) ((xe_if_icmp .ne 70).trans (congrArg (x_if_icmp .ne 70 K) ((xe_iconst 0).trans (congrArg (x_iconst 0) (xe_goto 73)))))))))))))))))))))))
abbrev po_X7_orderGroup_e (T : Zt) (c : Int) (WW : Int → Int → Int → Int) (f t k : Int) : Zt → Option Zv → Prop := fun T' r => r = none ∧ fr_ [(550, []), (551, []), (552, []), (107, [13]), (549, []), (547, []), (548, [])] T T' ∧ ((0 ≤ T' 107 0 13) ∧ (∀ x, 0 ≤ x → x < T 100 c 5 → T' 547 0 x < T 100 c 5) ∧ OH9_ T T' c f t k WW)
set_option maxHeartbeats 4000000 in
theorem ct_X7_orderGroup_e {T : Zt} {c : Int} {WW : Int → Int → Int → Int} {f t k : Int} (hcx : T 107 0 1 = c + 1 ∧ 0 ≤ c) (hft : 0 ≤ f ∧ f + 2 ≤ t ∧ t ≤ T 100 c 5) (hk : 0 ≤ k ∧ k ≤ 7) (ho : ∀ x, 0 ≤ x → x < T 100 c 5 → T 547 0 x < T 100 c 5) (hb : HB9_ T c) (hkc : 0 ≤ (T 401 c 4) ∧ (T 401 c 4) ≤ 7) (hkk : k ≤ (T 401 c 4)) (hw : 0 ≤ T 107 0 13) (hpw : PWm_ (T 100 c 5) (T 401 c 4) (pl9h_ T (T 107 0 13).toNat)) (hsz : sz9_ (pl9h_ T (T 107 0 13).toNat) + (t - f) ≤ 12) (hww : HWW_ T c WW) : Ct_ yX7_orderGroup zX7_orderGroup T [vR 107 0, vI f, vI t, vI k] (po_X7_orderGroup_e T c WW f t k) := by
  refine ct_of pn_7 rfl rfl (Nat.le_of_ble_eq_true rfl) (fun hT hav => ?_)
  have hr_f : -2147483648 ≤ f ∧ f ≤ 2147483647 := hav (vI f) (List.mem_cons_of_mem _ List.mem_cons_self)
  have hr_t : -2147483648 ≤ t ∧ t ≤ 2147483647 := hav (vI t) (List.mem_cons_of_mem _ (List.mem_cons_of_mem _ List.mem_cons_self))
  have hr_k : -2147483648 ≤ k ∧ k ≤ 2147483647 := hav (vI k) (List.mem_cons_of_mem _ (List.mem_cons_of_mem _ (List.mem_cons_of_mem _ List.mem_cons_self)))
  have hz : zX7_orderGroup.2.2.2.1 = some .boolean → ∀ (T' : Zt) (x : Int), po_X7_orderGroup_e T c WW f t k T' (some (vI x)) → 0 ≤ x ∧ x ≤ 1 := fun h => by cases h
  have hen : 0 ≤ T 100 c 5 ∧ T 100 c 5 ≤ 12 := bd_f hT 100 5 tl_0_5 c
  have hr9 : ∀ x : Int, 0 ≤ x → x < 12 → 0 ≤ T 403 c (T 547 0 x) ∧ T 403 c (T 547 0 x) ≤ 11 := fun x a b => by
    have h9 : 0 ≤ T 547 0 x ∧ T 547 0 x ≤ 11 := bd_a hT 547 (by decide +kernel : ta_ 547 = some (1, some 12, 0, 11)) 0 (by omega)
    exact bd_a hT 403 (by decide +kernel : ta_ 403 = some (1, some 12, 0, 11)) c (by omega)
  have hr8 : ∀ x : Int, 0 ≤ x → x < 12 → 0 ≤ T 547 0 x := fun x a b => by
    have h9 : 0 ≤ T 547 0 x ∧ T 547 0 x ≤ 11 := bd_a hT 547 (by decide +kernel : ta_ 547 = some (1, some 12, 0, 11)) 0 (by omega)
    omega
  show J_ zX7_orderGroup T (po_X7_orderGroup_e T c WW f t k) 0 0 0 [some (vR 107 0), some (vI f), some (vI t), some (vI k), none, none, none, none] [] T
  have c_73 : ∀ (nx : Int) (T1 : Zt), (fr_ [(549, []), (547, [])] T T1) → (0 ≤ nx ∧ nx ≤ 8) → (nx = (nx9_ (fun x => (WW k (bt9_ (fun x => T 403 c (T 547 0 x)) f (t - f).toNat)) (T 403 c (T1 547 0 x))) (T 401 c 5) f t k)) → ((fun x => T 403 c (T1 547 0 x)) = som9_ (WW k (bt9_ (fun x => T 403 c (T 547 0 x)) f (t - f).toNat)) f (t - f - 1).toNat (fun x => T 403 c (T 547 0 x))) → (∀ x, f ≤ x → x < t → T1 549 0 (T1 547 0 x) = (WW k (bt9_ (fun x => T 403 c (T 547 0 x)) f (t - f).toNat)) (T 403 c (T1 547 0 x))) → (∀ x, 0 ≤ x → x < T 100 c 5 → T1 547 0 x < T 100 c 5) → J_ zX7_orderGroup T (po_X7_orderGroup_e T c WW f t k) 0 0 73 [some (vR 107 0), some (vI f), some (vI t), some (vI k), none, none, none, none] [vI nx] T1 := by
    intro nx T1 hf_73 v1 hnx k5 wv1 ho1
    have c_83 : ∀ (nn : Nat) (st : Int) (i : Int) (T2 : Zt), ((13 - i).toNat) ≤ nn → (fr_ [(550, []), (551, []), (552, []), (107, [13]), (548, [])] T1 T2) → (0 ≤ nx ∧ nx ≤ 8 ∧ f ≤ st ∧ st < i ∧ i ≤ t + 1 ∧ (i = t + 1 → st = t) ∧ 0 ≤ T2 107 0 13) → (gl9_ (fun x => (WW k (bt9_ (fun x => T 403 c (T 547 0 x)) f (t - f).toNat)) (T 403 c (T1 547 0 x))) f t k (nx9_ (fun x => (WW k (bt9_ (fun x => T 403 c (T 547 0 x)) f (t - f).toNat)) (T 403 c (T1 547 0 x))) (T 401 c 5) f t k) (T 401 c 4) (fun x => T 548 0 x) (pl9h_ T (T 107 0 13).toNat) (i - f - 1).toNat = (st, (fun x => T2 548 0 x), pl9h_ T2 (T2 107 0 13).toNat)) → J_ zX7_orderGroup T (po_X7_orderGroup_e T c WW f t k) 0 0 83 [some (vR 107 0), some (vI f), some (vI t), some (vI k), none, some (vI nx), some (vI st), some (vI i)] [] T2 := by
      intro nn
      induction nn using Nat.strongRecOn with
      | _ nn ih_83 =>
        intro st i T2 hm_83 hf_83 i1 hgl
        replace hm_83 := fun (_ : Unit) => hm_83
        refine j_blx (F := fX7) tb_X7 (nn_ _) bk_X7_orderGroup_e_83 bs_X7_orderGroup_e_83 hz (fun K hK => ?_)
        refine And.intro (fun c1 => ?_) (fun c1 => ?_)
        · refine hK 161 _ [] T2 ?_
          refine j_blx (F := fX7) tb_X7 (nn_ _) bk_X7_orderGroup_e_161 bs_X7_orderGroup_e_161 hz (fun K hK => ?_)
          refine (show po_X7_orderGroup_e T c WW f t k T2 (none) from ?_)
          have hgl9 : gl9_ (fun x => (WW k (bt9_ (fun x => T 403 c (T 547 0 x)) f (t - f).toNat)) (T 403 c (T1 547 0 x))) f t k (nx9_ (fun x => (WW k (bt9_ (fun x => T 403 c (T 547 0 x)) f (t - f).toNat)) (T 403 c (T1 547 0 x))) (T 401 c 5) f t k) (T 401 c 4) (fun x => T 548 0 x) (pl9h_ T (T 107 0 13).toNat) (t - f).toNat = (st, (fun x => T2 548 0 x), pl9h_ T2 (T2 107 0 13).toNat) := by
            rw [show (i - f - 1).toNat = (t - f).toNat by omega] at hgl
            exact hgl
          refine ⟨rfl, fr_t (fr_t (fr_0 _ _) (fr_s hf_73 rfl)) (fr_s hf_83 rfl), by omega, fun x a b => by rw [hf_83 547 0 x rfl]; exact ho1 x a b, ?_⟩
          unfold OH9_ sg9_
          rw [show (fun x => T 403 c (T2 547 0 x)) = (fun x => T 403 c (T1 547 0 x)) from funext (fun x => congrArg (fun y => T 403 c y) (hf_83 547 0 x rfl)), ← k5]
          exact congrArg (fun y : Int × (Int → Int) × Pl_ => ((fun x => T 403 c (T1 547 0 x)), y.2)) hgl9
        · refine And.intro (fun c2 => ?_) (fun c2 => ?_)
          · refine hK 125 _ [] T2 ?_
            refine j_blx (F := fX7) tb_X7 (nn_ _) bk_X7_orderGroup_e_125 bs_X7_orderGroup_e_125 hz (fun K hK => ?_)
            refine hK 132 _ [vI nx, vI i, vI st, vR 107 0] T2 ?_
            have e3 : T2 107 0 1 = T 107 0 1 := (hf_83 107 0 1 rfl).trans (hf_73 107 0 1 rfl)
            have gb9 := gl_b (e := T 100 c 5) (by omega) (by omega) (by omega) (by omega) hpw hsz (by omega) hgl (w := T2 107 0 13) (by rw [plh_l]; omega)
            have e4 : T2 107 0 1 = T 107 0 1 := (hf_83 107 0 1 rfl).trans (hf_73 107 0 1 rfl)
            have e5 : T2 401 c 4 = T 401 c 4 := (hf_83 401 c 4 rfl).trans (hf_73 401 c 4 rfl)
            refine j_callV (y := yX7_putWaiting) (Yc := zX7_putWaiting) (rest := []) [vI st, vI i, vI nx] (ct_X7_putWaiting_e (T := T2) (c := c) (by omega) (by omega) (by omega) (by omega) (by omega) (by omega)) cl_X7_143 (qd_c (by decide +kernel)) (nn_ _) rfl (rf_of rfl) (Nat.le_of_ble_eq_true rfl) (Nat.le_of_ble_eq_true rfl) (Nat.le_of_ble_eq_true rfl) rfl ?_
            rintro U6 _ ⟨rfl, fU6, ⟨qU6w, qU6p⟩⟩
            show J_ zX7_orderGroup T (po_X7_orderGroup_e T c WW f t k) 0 0 135 _ [] U6
            refine j_blx (F := fX7) tb_X7 (nn_ _) bk_X7_orderGroup_e_135 bs_X7_orderGroup_e_135 hz (fun K hK => ?_)
            refine And.intro (fun c7 => ?_) (fun c7 => ?_)
            · refine hK 151 _ [] U6 ?_
              refine j_blx (F := fX7) tb_X7 (nn_ _) bk_X7_orderGroup_e_151 bs_X7_orderGroup_e_151 hz (fun K hK => ?_)
              refine rg_i (by omega) ?_
              refine hK 83 [some (vR 107 0), some (vI f), some (vI t), some (vI k), none, some (vI nx), some (vI i), some (vI (i + 1))] [] U6 ?_
              refine ih_83 _ ?_ i (i + 1) U6 (Nat.le_refl _) ?_ ?_ ?_
              · have hm_83 := hm_83 (); omega
              · exact fr_t (fr_t (fr_0 _ _) (fr_s hf_83 rfl)) (fr_s fU6 rfl)
              · omega
              · have c9 : i = t ∨ (fun x => (WW k (bt9_ (fun x => T 403 c (T 547 0 x)) f (t - f).toNat)) (T 403 c (T1 547 0 x))) i ≠ (fun x => (WW k (bt9_ (fun x => T 403 c (T 547 0 x)) f (t - f).toNat)) (T 403 c (T1 547 0 x))) (i - 1) := by
                    first
                    | exact Or.inl (by omega)
                    | exact Or.inr (by show ¬ (WW k (bt9_ (fun x => T 403 c (T 547 0 x)) f (t - f).toNat)) (T 403 c (T1 547 0 i)) = (WW k (bt9_ (fun x => T 403 c (T 547 0 x)) f (t - f).toNat)) (T 403 c (T1 547 0 (i - 1))); rw [← wv1 i (by omega) (by omega), ← wv1 (i - 1) (by omega) (by omega)]; omega)
                refine (gl_st (by omega) hgl c9).trans ?_
                rw [qU6p, (hf_83 401 c 4 rfl).trans (hf_73 401 c 4 rfl), hnx]
                rw [if_neg (by omega), show (fun x => U6 548 0 x) = (fun x => T2 548 0 x) from funext (fun x => fU6 548 0 x rfl)]
            · refine rg_i (by omega) ?_
              refine iy_i (by omega) (by omega) ?_
              refine x_nm (fun U8 hU8 => ?_)
              have e9 := up_f hU8
              refine rg_i (by omega) ?_
              refine hK 83 _ [] U8 ?_
              have e10 : U8 107 0 13 = U6 107 0 13 := up_k hU8 (by exact Nat.ne_of_beq_eq_false rfl) 0 13
              refine ih_83 _ ?_ i (i + 1) U8 (Nat.le_refl _) ?_ ?_ ?_
              · have hm_83 := hm_83 (); omega
              · exact fr_u (fr_t (fr_t (fr_0 _ _) (fr_s hf_83 rfl)) (fr_s fU6 rfl)) hU8 rfl
              · omega
              · have c9 : i = t ∨ (fun x => (WW k (bt9_ (fun x => T 403 c (T 547 0 x)) f (t - f).toNat)) (T 403 c (T1 547 0 x))) i ≠ (fun x => (WW k (bt9_ (fun x => T 403 c (T 547 0 x)) f (t - f).toNat)) (T 403 c (T1 547 0 x))) (i - 1) := by
                    first
                    | exact Or.inl (by omega)
                    | exact Or.inr (by show ¬ (WW k (bt9_ (fun x => T 403 c (T 547 0 x)) f (t - f).toNat)) (T 403 c (T1 547 0 i)) = (WW k (bt9_ (fun x => T 403 c (T 547 0 x)) f (t - f).toNat)) (T 403 c (T1 547 0 (i - 1))); rw [← wv1 i (by omega) (by omega), ← wv1 (i - 1) (by omega) (by omega)]; omega)
                refine (gl_st (by omega) hgl c9).trans ?_
                rw [up_k hU8 (by exact Nat.ne_of_beq_eq_false rfl) 0 13, plh_e (T := U6) (T1 := U8) _ (fun k9 j h9 _ _ => by rcases h9 with rfl | rfl | rfl <;> exact up_k hU8 (by exact Nat.ne_of_beq_eq_false rfl) 0 j)]
                rw [qU6p, (hf_83 401 c 4 rfl).trans (hf_73 401 c 4 rfl), hnx]
                rw [if_pos (by omega), show (fun x => U8 548 0 x) = ud9_ (fun x => T2 548 0 x) (i - 1) k from (ud_r hU8).trans (congrArg (fun y => ud9_ y (i - 1) k) (funext (fun x => fU6 548 0 x rfl)))]
          · refine ix_i (by omega) ?_
            intro b11 b11b
            have e12 : T2 547 0 i = T1 547 0 i := hf_83 547 0 i rfl
            rw [e12] at b11 b11b ⊢
            refine ix_i (by omega) ?_
            intro b13 b13b
            have e14 : T2 549 0 (T1 547 0 i) = T1 549 0 (T1 547 0 i) := hf_83 549 0 (T1 547 0 i) rfl
            rw [e14] at b13 b13b ⊢
            refine rg_i (by omega) ?_
            refine ix_i (by omega) ?_
            intro b15 b15b
            have e16 : T2 547 0 (i - 1) = T1 547 0 (i - 1) := hf_83 547 0 (i - 1) rfl
            rw [e16] at b15 b15b ⊢
            refine ix_i (by omega) ?_
            intro b17 b17b
            have e18 : T2 549 0 (T1 547 0 (i - 1)) = T1 549 0 (T1 547 0 (i - 1)) := hf_83 549 0 (T1 547 0 (i - 1)) rfl
            rw [e18] at b17 b17b ⊢
            refine And.intro (fun c19 => ?_) (And.intro (fun c19 => ?_) (fun c19 => ?_))
            · refine And.intro (fun c20 => ?_) (fun c20 => ?_)
              · exact absurd c20 (by decide)
              · refine hK 132 _ [vI nx, vI i, vI st, vR 107 0] T2 ?_
                have e21 : T2 107 0 1 = T 107 0 1 := (hf_83 107 0 1 rfl).trans (hf_73 107 0 1 rfl)
                have gb9 := gl_b (e := T 100 c 5) (by omega) (by omega) (by omega) (by omega) hpw hsz (by omega) hgl (w := T2 107 0 13) (by rw [plh_l]; omega)
                have e22 : T2 107 0 1 = T 107 0 1 := (hf_83 107 0 1 rfl).trans (hf_73 107 0 1 rfl)
                have e23 : T2 401 c 4 = T 401 c 4 := (hf_83 401 c 4 rfl).trans (hf_73 401 c 4 rfl)
                refine j_callV (y := yX7_putWaiting) (Yc := zX7_putWaiting) (rest := []) [vI st, vI i, vI nx] (ct_X7_putWaiting_e (T := T2) (c := c) (by omega) (by omega) (by omega) (by omega) (by omega) (by omega)) cl_X7_143 (qd_c (by decide +kernel)) (nn_ _) rfl (rf_of rfl) (Nat.le_of_ble_eq_true rfl) (Nat.le_of_ble_eq_true rfl) (Nat.le_of_ble_eq_true rfl) rfl ?_
                rintro U24 _ ⟨rfl, fU24, ⟨qU24w, qU24p⟩⟩
                show J_ zX7_orderGroup T (po_X7_orderGroup_e T c WW f t k) 0 0 135 _ [] U24
                refine j_blx (F := fX7) tb_X7 (nn_ _) bk_X7_orderGroup_e_135 bs_X7_orderGroup_e_135 hz (fun K hK => ?_)
                refine And.intro (fun c25 => ?_) (fun c25 => ?_)
                · refine hK 151 _ [] U24 ?_
                  refine j_blx (F := fX7) tb_X7 (nn_ _) bk_X7_orderGroup_e_151 bs_X7_orderGroup_e_151 hz (fun K hK => ?_)
                  refine rg_i (by omega) ?_
                  refine hK 83 [some (vR 107 0), some (vI f), some (vI t), some (vI k), none, some (vI nx), some (vI i), some (vI (i + 1))] [] U24 ?_
                  refine ih_83 _ ?_ i (i + 1) U24 (Nat.le_refl _) ?_ ?_ ?_
                  · have hm_83 := hm_83 (); omega
                  · exact fr_t (fr_t (fr_0 _ _) (fr_s hf_83 rfl)) (fr_s fU24 rfl)
                  · omega
                  · have c9 : i = t ∨ (fun x => (WW k (bt9_ (fun x => T 403 c (T 547 0 x)) f (t - f).toNat)) (T 403 c (T1 547 0 x))) i ≠ (fun x => (WW k (bt9_ (fun x => T 403 c (T 547 0 x)) f (t - f).toNat)) (T 403 c (T1 547 0 x))) (i - 1) := by
                        first
                        | exact Or.inl (by omega)
                        | exact Or.inr (by show ¬ (WW k (bt9_ (fun x => T 403 c (T 547 0 x)) f (t - f).toNat)) (T 403 c (T1 547 0 i)) = (WW k (bt9_ (fun x => T 403 c (T 547 0 x)) f (t - f).toNat)) (T 403 c (T1 547 0 (i - 1))); rw [← wv1 i (by omega) (by omega), ← wv1 (i - 1) (by omega) (by omega)]; omega)
                    refine (gl_st (by omega) hgl c9).trans ?_
                    rw [qU24p, (hf_83 401 c 4 rfl).trans (hf_73 401 c 4 rfl), hnx]
                    rw [if_neg (by omega), show (fun x => U24 548 0 x) = (fun x => T2 548 0 x) from funext (fun x => fU24 548 0 x rfl)]
                · refine rg_i (by omega) ?_
                  refine iy_i (by omega) (by omega) ?_
                  refine x_nm (fun U26 hU26 => ?_)
                  have e27 := up_f hU26
                  refine rg_i (by omega) ?_
                  refine hK 83 _ [] U26 ?_
                  have e28 : U26 107 0 13 = U24 107 0 13 := up_k hU26 (by exact Nat.ne_of_beq_eq_false rfl) 0 13
                  refine ih_83 _ ?_ i (i + 1) U26 (Nat.le_refl _) ?_ ?_ ?_
                  · have hm_83 := hm_83 (); omega
                  · exact fr_u (fr_t (fr_t (fr_0 _ _) (fr_s hf_83 rfl)) (fr_s fU24 rfl)) hU26 rfl
                  · omega
                  · have c9 : i = t ∨ (fun x => (WW k (bt9_ (fun x => T 403 c (T 547 0 x)) f (t - f).toNat)) (T 403 c (T1 547 0 x))) i ≠ (fun x => (WW k (bt9_ (fun x => T 403 c (T 547 0 x)) f (t - f).toNat)) (T 403 c (T1 547 0 x))) (i - 1) := by
                        first
                        | exact Or.inl (by omega)
                        | exact Or.inr (by show ¬ (WW k (bt9_ (fun x => T 403 c (T 547 0 x)) f (t - f).toNat)) (T 403 c (T1 547 0 i)) = (WW k (bt9_ (fun x => T 403 c (T 547 0 x)) f (t - f).toNat)) (T 403 c (T1 547 0 (i - 1))); rw [← wv1 i (by omega) (by omega), ← wv1 (i - 1) (by omega) (by omega)]; omega)
                    refine (gl_st (by omega) hgl c9).trans ?_
                    rw [up_k hU26 (by exact Nat.ne_of_beq_eq_false rfl) 0 13, plh_e (T := U24) (T1 := U26) _ (fun k9 j h9 _ _ => by rcases h9 with rfl | rfl | rfl <;> exact up_k hU26 (by exact Nat.ne_of_beq_eq_false rfl) 0 j)]
                    rw [qU24p, (hf_83 401 c 4 rfl).trans (hf_73 401 c 4 rfl), hnx]
                    rw [if_pos (by omega), show (fun x => U26 548 0 x) = ud9_ (fun x => T2 548 0 x) (i - 1) k from (ud_r hU26).trans (congrArg (fun y => ud9_ y (i - 1) k) (funext (fun x => fU24 548 0 x rfl)))]
            · refine And.intro (fun c29 => ?_) (fun c29 => ?_)
              · refine hK 155 _ [] T2 ?_
                refine j_blx (F := fX7) tb_X7 (nn_ _) bk_X7_orderGroup_e_155 bs_X7_orderGroup_e_155 hz (fun K hK => ?_)
                refine rg_i (by omega) ?_
                refine hK 83 [some (vR 107 0), some (vI f), some (vI t), some (vI k), none, some (vI nx), some (vI st), some (vI (i + 1))] [] T2 ?_
                refine ih_83 _ ?_ st (i + 1) T2 (Nat.le_refl _) ?_ ?_ ?_
                · have hm_83 := hm_83 (); omega
                · exact fr_t (fr_0 _ _) (fr_s hf_83 rfl)
                · omega
                · have c9 : ¬ (i = t ∨ (fun x => (WW k (bt9_ (fun x => T 403 c (T 547 0 x)) f (t - f).toNat)) (T 403 c (T1 547 0 x))) i ≠ (fun x => (WW k (bt9_ (fun x => T 403 c (T 547 0 x)) f (t - f).toNat)) (T 403 c (T1 547 0 x))) (i - 1)) := by
                      rintro (z | z)
                      · omega
                      · refine z ?_
                        show (WW k (bt9_ (fun x => T 403 c (T 547 0 x)) f (t - f).toNat)) (T 403 c (T1 547 0 i)) = (WW k (bt9_ (fun x => T 403 c (T 547 0 x)) f (t - f).toNat)) (T 403 c (T1 547 0 (i - 1)))
                        rw [← wv1 i (by omega) (by omega), ← wv1 (i - 1) (by omega) (by omega)]
                        omega
                  exact gl_sf (by omega) hgl c9
              · exact absurd c29 (by decide)
            · refine And.intro (fun c30 => ?_) (fun c30 => ?_)
              · exact absurd c30 (by decide)
              · refine hK 132 _ [vI nx, vI i, vI st, vR 107 0] T2 ?_
                have e31 : T2 107 0 1 = T 107 0 1 := (hf_83 107 0 1 rfl).trans (hf_73 107 0 1 rfl)
                have gb9 := gl_b (e := T 100 c 5) (by omega) (by omega) (by omega) (by omega) hpw hsz (by omega) hgl (w := T2 107 0 13) (by rw [plh_l]; omega)
                have e32 : T2 107 0 1 = T 107 0 1 := (hf_83 107 0 1 rfl).trans (hf_73 107 0 1 rfl)
                have e33 : T2 401 c 4 = T 401 c 4 := (hf_83 401 c 4 rfl).trans (hf_73 401 c 4 rfl)
                refine j_callV (y := yX7_putWaiting) (Yc := zX7_putWaiting) (rest := []) [vI st, vI i, vI nx] (ct_X7_putWaiting_e (T := T2) (c := c) (by omega) (by omega) (by omega) (by omega) (by omega) (by omega)) cl_X7_143 (qd_c (by decide +kernel)) (nn_ _) rfl (rf_of rfl) (Nat.le_of_ble_eq_true rfl) (Nat.le_of_ble_eq_true rfl) (Nat.le_of_ble_eq_true rfl) rfl ?_
                rintro U34 _ ⟨rfl, fU34, ⟨qU34w, qU34p⟩⟩
                show J_ zX7_orderGroup T (po_X7_orderGroup_e T c WW f t k) 0 0 135 _ [] U34
                refine j_blx (F := fX7) tb_X7 (nn_ _) bk_X7_orderGroup_e_135 bs_X7_orderGroup_e_135 hz (fun K hK => ?_)
                refine And.intro (fun c35 => ?_) (fun c35 => ?_)
                · refine hK 151 _ [] U34 ?_
                  refine j_blx (F := fX7) tb_X7 (nn_ _) bk_X7_orderGroup_e_151 bs_X7_orderGroup_e_151 hz (fun K hK => ?_)
                  refine rg_i (by omega) ?_
                  refine hK 83 [some (vR 107 0), some (vI f), some (vI t), some (vI k), none, some (vI nx), some (vI i), some (vI (i + 1))] [] U34 ?_
                  refine ih_83 _ ?_ i (i + 1) U34 (Nat.le_refl _) ?_ ?_ ?_
                  · have hm_83 := hm_83 (); omega
                  · exact fr_t (fr_t (fr_0 _ _) (fr_s hf_83 rfl)) (fr_s fU34 rfl)
                  · omega
                  · have c9 : i = t ∨ (fun x => (WW k (bt9_ (fun x => T 403 c (T 547 0 x)) f (t - f).toNat)) (T 403 c (T1 547 0 x))) i ≠ (fun x => (WW k (bt9_ (fun x => T 403 c (T 547 0 x)) f (t - f).toNat)) (T 403 c (T1 547 0 x))) (i - 1) := by
                        first
                        | exact Or.inl (by omega)
                        | exact Or.inr (by show ¬ (WW k (bt9_ (fun x => T 403 c (T 547 0 x)) f (t - f).toNat)) (T 403 c (T1 547 0 i)) = (WW k (bt9_ (fun x => T 403 c (T 547 0 x)) f (t - f).toNat)) (T 403 c (T1 547 0 (i - 1))); rw [← wv1 i (by omega) (by omega), ← wv1 (i - 1) (by omega) (by omega)]; omega)
                    refine (gl_st (by omega) hgl c9).trans ?_
                    rw [qU34p, (hf_83 401 c 4 rfl).trans (hf_73 401 c 4 rfl), hnx]
                    rw [if_neg (by omega), show (fun x => U34 548 0 x) = (fun x => T2 548 0 x) from funext (fun x => fU34 548 0 x rfl)]
                · refine rg_i (by omega) ?_
                  refine iy_i (by omega) (by omega) ?_
                  refine x_nm (fun U36 hU36 => ?_)
                  have e37 := up_f hU36
                  refine rg_i (by omega) ?_
                  refine hK 83 _ [] U36 ?_
                  have e38 : U36 107 0 13 = U34 107 0 13 := up_k hU36 (by exact Nat.ne_of_beq_eq_false rfl) 0 13
                  refine ih_83 _ ?_ i (i + 1) U36 (Nat.le_refl _) ?_ ?_ ?_
                  · have hm_83 := hm_83 (); omega
                  · exact fr_u (fr_t (fr_t (fr_0 _ _) (fr_s hf_83 rfl)) (fr_s fU34 rfl)) hU36 rfl
                  · omega
                  · have c9 : i = t ∨ (fun x => (WW k (bt9_ (fun x => T 403 c (T 547 0 x)) f (t - f).toNat)) (T 403 c (T1 547 0 x))) i ≠ (fun x => (WW k (bt9_ (fun x => T 403 c (T 547 0 x)) f (t - f).toNat)) (T 403 c (T1 547 0 x))) (i - 1) := by
                        first
                        | exact Or.inl (by omega)
                        | exact Or.inr (by show ¬ (WW k (bt9_ (fun x => T 403 c (T 547 0 x)) f (t - f).toNat)) (T 403 c (T1 547 0 i)) = (WW k (bt9_ (fun x => T 403 c (T 547 0 x)) f (t - f).toNat)) (T 403 c (T1 547 0 (i - 1))); rw [← wv1 i (by omega) (by omega), ← wv1 (i - 1) (by omega) (by omega)]; omega)
                    refine (gl_st (by omega) hgl c9).trans ?_
                    rw [up_k hU36 (by exact Nat.ne_of_beq_eq_false rfl) 0 13, plh_e (T := U34) (T1 := U36) _ (fun k9 j h9 _ _ => by rcases h9 with rfl | rfl | rfl <;> exact up_k hU36 (by exact Nat.ne_of_beq_eq_false rfl) 0 j)]
                    rw [qU34p, (hf_83 401 c 4 rfl).trans (hf_73 401 c 4 rfl), hnx]
                    rw [if_pos (by omega), show (fun x => U36 548 0 x) = ud9_ (fun x => T2 548 0 x) (i - 1) k from (ud_r hU36).trans (congrArg (fun y => ud9_ y (i - 1) k) (funext (fun x => fU34 548 0 x rfl)))]
    refine j_blx (F := fX7) tb_X7 (nn_ _) bk_X7_orderGroup_e_73 bs_X7_orderGroup_e_73 hz (fun K hK => ?_)
    refine rg_i (by omega) ?_
    refine hK 83 [some (vR 107 0), some (vI f), some (vI t), some (vI k), none, some (vI nx), some (vI f), some (vI (f + 1))] [] T1 ?_
    have e39 : T1 107 0 13 = T 107 0 13 := hf_73 107 0 13 rfl
    refine c_83 _ f (f + 1) T1 (Nat.le_refl _) ?_ ?_ ?_
    · exact fr_0 _ _
    · omega
    · rw [show (f + 1 - f - 1).toNat = 0 by omega, hf_73 107 0 13 rfl, show (fun x => T1 548 0 x) = (fun x => T 548 0 x) from funext (fun x => hf_73 548 0 x rfl), plh_e (T := T) (T1 := T1) _ (fun k9 j h9 _ _ => by rcases h9 with rfl | rfl | rfl <;> exact hf_73 _ 0 j rfl)]
      rfl
  refine j_blx (F := fX7) tb_X7 (nn_ _) bk_X7_orderGroup_e_0 bs_X7_orderGroup_e_0 hz (fun K hK => ?_)
  refine hK 4 _ [vI k, vI t, vI f, vR 107 0] T ?_
  refine j_callV (y := yX7_weigh) (Yc := zX7_weigh) (rest := []) [vI f, vI t, vI k] (ct_X7_weigh_e (T := T) (c := c) (by omega) (by omega) (by omega) ho hb) cl_X7_150 (qd_c (by decide +kernel)) (nn_ _) rfl (rf_of rfl) (Nat.le_of_ble_eq_true rfl) (Nat.le_of_ble_eq_true rfl) (Nat.le_of_ble_eq_true rfl) rfl ?_
  rintro U40 _ ⟨rfl, fU40, qU40⟩
  have mmo : ∀ x, f ≤ x → x < t → mb9_ (bt9_ (fun x => T 403 c (T 547 0 x)) f (t - f).toNat) (T 403 c (T 547 0 x)) := fun x a b => bt_m (o := (fun x => T 403 c (T 547 0 x))) (f := f) (t - f).toNat (fun k9 a9 b9 => hr9 k9 (by omega) (by omega)) x a (by omega)
  have gbo := bt_r (o := (fun x => T 403 c (T 547 0 x))) (f := f) (t - f).toNat (fun k9 a9 b9 => hr9 k9 (by omega) (by omega))
  have hws : ∀ x, f ≤ x → x < t → U40 549 0 (T 547 0 x) = (WW k (bt9_ (fun x => T 403 c (T 547 0 x)) f (t - f).toNat)) (T 403 c (T 547 0 x)) := fun x a b => (qU40 x a b).trans (hww k (bt9_ (fun x => T 403 c (T 547 0 x)) f (t - f).toNat) (T 547 0 x) (by omega) (by omega) gbo.1 gbo.2 (hr8 x (by omega) (by omega)) (ho x (by omega) (by omega)) (mmo x a b))
  show J_ zX7_orderGroup T (po_X7_orderGroup_e T c WW f t k) 0 0 7 _ [] U40
  refine j_blx (F := fX7) tb_X7 (nn_ _) bk_X7_orderGroup_e_7 bs_X7_orderGroup_e_7 hz (fun K hK => ?_)
  refine hK 10 _ [vI t, vI f, vR 107 0] U40 ?_
  refine j_callV (y := yX7_sort) (Yc := zX7_sort) (rest := []) [vI f, vI t] (ct_X7_sort_e (T := U40) (by omega)) cl_X7_153 (qd_c (by decide +kernel)) (nn_ _) rfl (rf_of rfl) (Nat.le_of_ble_eq_true rfl) (Nat.le_of_ble_eq_true rfl) (Nat.le_of_ble_eq_true rfl) rfl ?_
  rintro U41 _ ⟨rfl, fU41, qU41⟩
  have es : (fun x => U41 547 0 x) = som9_ (fun s => U40 549 0 s) f (t - f - 1).toNat (fun x => T 547 0 x) := qU41.trans (congrArg (som9_ (fun s => U40 549 0 s) f (t - f - 1).toNat) (funext (fun x => fU40 547 0 x rfl)))
  have sv := so_v2 (T := T) (U := U41) (Y := U40) (c := c) (W := (WW k (bt9_ (fun x => T 403 c (T 547 0 x)) f (t - f).toNat))) es (by omega) hws
  have ho2 : ∀ x, 0 ≤ x → x < T 100 c 5 → U41 547 0 x < T 100 c 5 := som_r (T := T) (U := U41) (n := T 100 c 5) (Q := fun v => v < T 100 c 5) es (by omega) ho
  have wvs : ∀ x, f ≤ x → x < t → U41 549 0 (U41 547 0 x) = (WW k (bt9_ (fun x => T 403 c (T 547 0 x)) f (t - f).toNat)) (T 403 c (U41 547 0 x)) := fun x a b => (fU41 549 0 _ rfl).trans (sv.2 x a b)
  show J_ zX7_orderGroup T (po_X7_orderGroup_e T c WW f t k) 0 0 13 _ [] U41
  refine j_blx (F := fX7) tb_X7 (nn_ _) bk_X7_orderGroup_e_13 bs_X7_orderGroup_e_13 hz (fun K hK => ?_)
  refine ix_i (by omega) ?_
  intro b42 b42b
  refine ix_i (by omega) ?_
  intro b43 b43b
  have e44 : U41 549 0 (U41 547 0 f) = U40 549 0 (U41 547 0 f) := fU41 549 0 (U41 547 0 f) rfl
  rw [e44] at b43 b43b ⊢
  refine rg_i (by omega) ?_
  refine ix_i (by omega) ?_
  intro b45 b45b
  refine ix_i (by omega) ?_
  intro b46 b46b
  have e47 : U41 549 0 (U41 547 0 (t - 1)) = U40 549 0 (U41 547 0 (t - 1)) := fU41 549 0 (U41 547 0 (t - 1)) rfl
  rw [e47] at b46 b46b ⊢
  refine And.intro (fun c48 => ?_) (And.intro (fun c48 => ?_) (fun c48 => ?_))
  · refine And.intro (fun c49 => ?_) (fun c49 => ?_)
    · refine hK 45 _ [] U41 ?_
      refine j_blx (F := fX7) tb_X7 (nn_ _) bk_X7_orderGroup_e_45 bs_X7_orderGroup_e_45 hz (fun K hK => ?_)
      refine And.intro (fun c50 => ?_) (fun c50 => ?_)
      · exact absurd c50 (by decide)
      · have e52 : U41 107 0 1 = T 107 0 1 := (fU41 107 0 1 rfl).trans (fU40 107 0 1 rfl)
        refine And.intro (fun c51 => ?_) (fun c51 => ?_)
        · exact absurd c51 (by omega)
        · have z53 : U41 107 0 1 - 1 = c := by omega
          rw [z53]
          refine ix_i (by omega) ?_
          intro b54 b54b
          have e55 : U41 401 c 5 = T 401 c 5 := (fU41 401 c 5 rfl).trans (fU40 401 c 5 rfl)
          rw [e55] at b54 b54b ⊢
          refine And.intro (fun c56 => ?_) (fun c56 => ?_)
          · refine hK 70 [some (vR 107 0), some (vI f), some (vI t), some (vI k), some (vI 0), none, none, none] [] U41 ?_
            refine j_blx (F := fX7) tb_X7 (nn_ _) bk_X7_orderGroup_e_70 bs_X7_orderGroup_e_70 hz (fun K hK => ?_)
            refine rg_i (by omega) ?_
            refine hK 73 _ [vI (k + 1)] U41 ?_
            refine j_drop [some (vR 107 0), some (vI f), some (vI t), some (vI k), none, none, none, none] (fun k v hk => ?_) rfl ?_
            · match k, hk with
              | 0, hk => exact hk
              | 1, hk => exact hk
              | 2, hk => exact hk
              | 3, hk => exact hk
              | 4, hk => cases hk
              | 5, hk => cases hk
              | 6, hk => cases hk
              | 7, hk => cases hk
              | k + 8, hk => cases hk
            refine c_73 (k + 1) U41 ?_ ?_ ?_ ?_ ?_ ?_
            · exact fr_t (fr_t (fr_0 _ _) (fr_s fU40 rfl)) (fr_s fU41 rfl)
            · omega
            · first
              | exact (nxm_1 (V := fun x => (WW k (bt9_ (fun x => T 403 c (T 547 0 x)) f (t - f).toNat)) (T 403 c (U41 547 0 x))) (by show (WW k (bt9_ (fun x => T 403 c (T 547 0 x)) f (t - f).toNat)) (T 403 c (U41 547 0 f)) = (WW k (bt9_ (fun x => T 403 c (T 547 0 x)) f (t - f).toNat)) (T 403 c (U41 547 0 (t - 1))); rw [← wvs f (by omega) (by omega), ← wvs (t - 1) (by omega) (by omega)]; omega)).symm
              | exact (nx_2 (by omega)).symm
            · exact sv.1
            · exact wvs
            · exact ho2
          · refine hK 73 [some (vR 107 0), some (vI f), some (vI t), some (vI k), some (vI 0), none, none, none] [vI 0] U41 ?_
            refine j_drop [some (vR 107 0), some (vI f), some (vI t), some (vI k), none, none, none, none] (fun k v hk => ?_) rfl ?_
            · match k, hk with
              | 0, hk => exact hk
              | 1, hk => exact hk
              | 2, hk => exact hk
              | 3, hk => exact hk
              | 4, hk => cases hk
              | 5, hk => cases hk
              | 6, hk => cases hk
              | 7, hk => cases hk
              | k + 8, hk => cases hk
            refine c_73 0 U41 ?_ ?_ ?_ ?_ ?_ ?_
            · exact fr_t (fr_t (fr_0 _ _) (fr_s fU40 rfl)) (fr_s fU41 rfl)
            · omega
            · exact (nx_t (V := fun x => (WW k (bt9_ (fun x => T 403 c (T 547 0 x)) f (t - f).toNat)) (T 403 c (U41 547 0 x))) (by show ¬ (WW k (bt9_ (fun x => T 403 c (T 547 0 x)) f (t - f).toNat)) (T 403 c (U41 547 0 f)) = (WW k (bt9_ (fun x => T 403 c (T 547 0 x)) f (t - f).toNat)) (T 403 c (U41 547 0 (t - 1))); rw [← wvs f (by omega) (by omega), ← wvs (t - 1) (by omega) (by omega)]; omega) (by omega)).symm
            · exact sv.1
            · exact wvs
            · exact ho2
    · exact absurd c49 (by decide)
  · refine And.intro (fun c57 => ?_) (fun c57 => ?_)
    · exact absurd c57 (by decide)
    · refine hK 46 _ [vI 1] U41 ?_
      refine j_blx (F := fX7) tb_X7 (nn_ _) bk_X7_orderGroup_e_46 bs_X7_orderGroup_e_46 hz (fun K hK => ?_)
      refine And.intro (fun c58 => ?_) (fun c58 => ?_)
      · refine hK 70 [some (vR 107 0), some (vI f), some (vI t), some (vI k), some (vI 1), none, none, none] [] U41 ?_
        refine j_blx (F := fX7) tb_X7 (nn_ _) bk_X7_orderGroup_e_70 bs_X7_orderGroup_e_70 hz (fun K hK => ?_)
        refine rg_i (by omega) ?_
        refine hK 73 _ [vI (k + 1)] U41 ?_
        refine j_drop [some (vR 107 0), some (vI f), some (vI t), some (vI k), none, none, none, none] (fun k v hk => ?_) rfl ?_
        · match k, hk with
          | 0, hk => exact hk
          | 1, hk => exact hk
          | 2, hk => exact hk
          | 3, hk => exact hk
          | 4, hk => cases hk
          | 5, hk => cases hk
          | 6, hk => cases hk
          | 7, hk => cases hk
          | k + 8, hk => cases hk
        refine c_73 (k + 1) U41 ?_ ?_ ?_ ?_ ?_ ?_
        · exact fr_t (fr_t (fr_0 _ _) (fr_s fU40 rfl)) (fr_s fU41 rfl)
        · omega
        · first
          | exact (nxm_1 (V := fun x => (WW k (bt9_ (fun x => T 403 c (T 547 0 x)) f (t - f).toNat)) (T 403 c (U41 547 0 x))) (by show (WW k (bt9_ (fun x => T 403 c (T 547 0 x)) f (t - f).toNat)) (T 403 c (U41 547 0 f)) = (WW k (bt9_ (fun x => T 403 c (T 547 0 x)) f (t - f).toNat)) (T 403 c (U41 547 0 (t - 1))); rw [← wvs f (by omega) (by omega), ← wvs (t - 1) (by omega) (by omega)]; omega)).symm
          | exact (nx_2 (by omega)).symm
        · exact sv.1
        · exact wvs
        · exact ho2
      · exact absurd c58 (by decide)
  · refine And.intro (fun c59 => ?_) (fun c59 => ?_)
    · refine hK 45 _ [] U41 ?_
      refine j_blx (F := fX7) tb_X7 (nn_ _) bk_X7_orderGroup_e_45 bs_X7_orderGroup_e_45 hz (fun K hK => ?_)
      refine And.intro (fun c60 => ?_) (fun c60 => ?_)
      · exact absurd c60 (by decide)
      · have e62 : U41 107 0 1 = T 107 0 1 := (fU41 107 0 1 rfl).trans (fU40 107 0 1 rfl)
        refine And.intro (fun c61 => ?_) (fun c61 => ?_)
        · exact absurd c61 (by omega)
        · have z63 : U41 107 0 1 - 1 = c := by omega
          rw [z63]
          refine ix_i (by omega) ?_
          intro b64 b64b
          have e65 : U41 401 c 5 = T 401 c 5 := (fU41 401 c 5 rfl).trans (fU40 401 c 5 rfl)
          rw [e65] at b64 b64b ⊢
          refine And.intro (fun c66 => ?_) (fun c66 => ?_)
          · refine hK 70 [some (vR 107 0), some (vI f), some (vI t), some (vI k), some (vI 0), none, none, none] [] U41 ?_
            refine j_blx (F := fX7) tb_X7 (nn_ _) bk_X7_orderGroup_e_70 bs_X7_orderGroup_e_70 hz (fun K hK => ?_)
            refine rg_i (by omega) ?_
            refine hK 73 _ [vI (k + 1)] U41 ?_
            refine j_drop [some (vR 107 0), some (vI f), some (vI t), some (vI k), none, none, none, none] (fun k v hk => ?_) rfl ?_
            · match k, hk with
              | 0, hk => exact hk
              | 1, hk => exact hk
              | 2, hk => exact hk
              | 3, hk => exact hk
              | 4, hk => cases hk
              | 5, hk => cases hk
              | 6, hk => cases hk
              | 7, hk => cases hk
              | k + 8, hk => cases hk
            refine c_73 (k + 1) U41 ?_ ?_ ?_ ?_ ?_ ?_
            · exact fr_t (fr_t (fr_0 _ _) (fr_s fU40 rfl)) (fr_s fU41 rfl)
            · omega
            · first
              | exact (nxm_1 (V := fun x => (WW k (bt9_ (fun x => T 403 c (T 547 0 x)) f (t - f).toNat)) (T 403 c (U41 547 0 x))) (by show (WW k (bt9_ (fun x => T 403 c (T 547 0 x)) f (t - f).toNat)) (T 403 c (U41 547 0 f)) = (WW k (bt9_ (fun x => T 403 c (T 547 0 x)) f (t - f).toNat)) (T 403 c (U41 547 0 (t - 1))); rw [← wvs f (by omega) (by omega), ← wvs (t - 1) (by omega) (by omega)]; omega)).symm
              | exact (nx_2 (by omega)).symm
            · exact sv.1
            · exact wvs
            · exact ho2
          · refine hK 73 [some (vR 107 0), some (vI f), some (vI t), some (vI k), some (vI 0), none, none, none] [vI 0] U41 ?_
            refine j_drop [some (vR 107 0), some (vI f), some (vI t), some (vI k), none, none, none, none] (fun k v hk => ?_) rfl ?_
            · match k, hk with
              | 0, hk => exact hk
              | 1, hk => exact hk
              | 2, hk => exact hk
              | 3, hk => exact hk
              | 4, hk => cases hk
              | 5, hk => cases hk
              | 6, hk => cases hk
              | 7, hk => cases hk
              | k + 8, hk => cases hk
            refine c_73 0 U41 ?_ ?_ ?_ ?_ ?_ ?_
            · exact fr_t (fr_t (fr_0 _ _) (fr_s fU40 rfl)) (fr_s fU41 rfl)
            · omega
            · exact (nx_t (V := fun x => (WW k (bt9_ (fun x => T 403 c (T 547 0 x)) f (t - f).toNat)) (T 403 c (U41 547 0 x))) (by show ¬ (WW k (bt9_ (fun x => T 403 c (T 547 0 x)) f (t - f).toNat)) (T 403 c (U41 547 0 f)) = (WW k (bt9_ (fun x => T 403 c (T 547 0 x)) f (t - f).toNat)) (T 403 c (U41 547 0 (t - 1))); rw [← wvs f (by omega) (by omega), ← wvs (t - 1) (by omega) (by omega)]; omega) (by omega)).symm
            · exact sv.1
            · exact wvs
            · exact ho2
    · exact absurd c59 (by decide)
theorem bk_X7_rank_e_144 : ck_ fX7 none cX7_rank 144 [.aload 0, .tableswitch 0 7 2 #[], .aload 0, .tableswitch 0 7 7 #[], .iload 2, .iaload, .iconst 8, .imul, .iconst 7, .iadd, .iload 1, .iastore, .iinc 2 1, .goto 113] 168 = true := qck_r (nn_ _) (by decide +kernel)
theorem bs_X7_rank_e_144 {P : Zt → Option Zv → Prop} (K : Int → Zl → List Zv → Zt → Prop) : sx_ K P [.aload 0, .tableswitch 0 7 2 #[], .aload 0, .tableswitch 0 7 7 #[], .iload 2, .iaload, .iconst 8, .imul, .iconst 7, .iadd, .iload 1, .iastore, .iinc 2 1, .goto 113] 168 = x_aload 0 (x_g1 107 542 (x_aload 0 (x_g1 107 547 (x_iload 2 (x_iaload (x_iconst 8 (x_imul (x_iconst 7 (x_iadd (x_iload 1 (x_iastore (x_iinc 2 1 (x_goto 113 K))))))))))))) := ((xe_aload 0).trans (congrArg (x_aload 0) ((xe_g1 (kk := 107) rfl tl_7_2).trans (congrArg (x_g1 107 542) ((xe_aload 0).trans (congrArg (x_aload 0) ((xe_g1 (kk := 107) rfl tl_7_7).trans (congrArg (x_g1 107 547) ((xe_iload 2).trans (congrArg (x_iload 2) ((xe_iaload).trans (congrArg (x_iaload) ((xe_iconst 8).trans (congrArg (x_iconst 8) ((xe_imul).trans (congrArg (x_imul) ((xe_iconst 7).trans (congrArg (x_iconst 7) ((xe_iadd).trans (congrArg (x_iadd) ((xe_iload 1).trans (congrArg (x_iload 1) ((xe_iastore).trans (congrArg (x_iastore) ((xe_iinc 2 1).trans (congrArg (x_iinc 2 1) (xe_goto 113)))))))))))))))))))))))))))
theorem bk_X7_rank_e_113 : ck_ fX7 none cX7_rank 113 [.iload 2, .aload 0, .tableswitch 0 7 1 #[], .tableswitch 0 0 5 #[], .if_icmp .ge 168, .iload 2, .ifCond .le 144, .aload 0, .tableswitch 0 7 8 #[], .iload 2, .iconst 1, .isub, .iaload, .iconst (-1), .if_icmp .eq 144, .iload 2, .iconst 1, .iadd, .istore 1] 144 = true := qck_r (nn_ _) (by decide +kernel)
theorem bs_X7_rank_e_113 {P : Zt → Option Zv → Prop} (K : Int → Zl → List Zv → Zt → Prop) : sx_ K P [.iload 2, .aload 0, .tableswitch 0 7 1 #[], .tableswitch 0 0 5 #[], .if_icmp .ge 168, .iload 2, .ifCond .le 144, .aload 0, .tableswitch 0 7 8 #[], .iload 2, .iconst 1, .isub, .iaload, .iconst (-1), .if_icmp .eq 144, .iload 2, .iconst 1, .iadd, .istore 1] 144 = x_iload 2 (x_aload 0 (x_g5 107 100 1 (x_g0 100 5 0 12 (x_if_icmp .ge 168 K (x_iload 2 (x_ifCond .le 144 K (x_aload 0 (x_g1 107 548 (x_iload 2 (x_iconst 1 (x_isub (x_iaload (x_iconst (-1) (x_if_icmp .eq 144 K (x_iload 2 (x_iconst 1 (x_iadd (x_istore 1 (K 144))))))))))))))))))) := ((xe_iload 2).trans (congrArg (x_iload 2) ((xe_aload 0).trans (congrArg (x_aload 0) ((xe_g5 (kk := 107) rfl tl_7_1).trans (congrArg (x_g5 107 100 1) ((xe_g0 (kk := 100) rfl tl_0_5).trans (congrArg (x_g0 100 5 0 12) ((xe_if_icmp .ge 168).trans (congrArg (x_if_icmp .ge 168 K) ((xe_iload 2).trans (congrArg (x_iload 2) ((xe_ifCond .le 144).trans (congrArg (x_ifCond .le 144 K) ((xe_aload 0).trans (congrArg (x_aload 0) ((xe_g1 (kk := 107) rfl tl_7_8).trans (congrArg (x_g1 107 548) ((xe_iload 2).trans (congrArg (x_iload 2) ((xe_iconst 1).trans (congrArg (x_iconst 1) ((xe_isub).trans (congrArg (x_isub) ((xe_iaload).trans (congrArg (x_iaload) ((xe_iconst (-1)).trans (congrArg (x_iconst (-1)) ((xe_if_icmp .eq 144).trans (congrArg (x_if_icmp .eq 144 K) ((xe_iload 2).trans (congrArg (x_iload 2) ((xe_iconst 1).trans (congrArg (x_iconst 1) ((xe_iadd).trans (congrArg (x_iadd) ((xe_istore 1).trans (congrArg (x_istore 1) xe_nil))))))))))))))))))))))))))))))))))))))
theorem bk_X7_rank_e_168 : ck_ fX7 none cX7_rank 168 [.return_] 169 = true := qck_r (nn_ _) (by decide +kernel)
theorem bs_X7_rank_e_168 {P : Zt → Option Zv → Prop} (K : Int → Zl → List Zv → Zt → Prop) : sx_ K P [.return_] 169 = x_return_ P := (xe_return_)
theorem bk_X7_rank_e_48 : ck_ fX7 none cX7_rank 48 [.aload 0, .tableswitch 0 7 13 #[], .ifCond .le 109, .iload 1, .iconst 1000, .if_icmp .ge 109, .aload 0, .dup, .tableswitch 0 7 13 #[], .iconst 1, .isub, .tableswitch 1 7 13 #[], .aload 0, .aload 0, .tableswitch 0 7 10 #[], .aload 0, .tableswitch 0 7 13 #[], .iaload, .aload 0, .tableswitch 0 7 11 #[], .aload 0, .tableswitch 0 7 13 #[], .iaload, .aload 0, .tableswitch 0 7 12 #[], .aload 0, .tableswitch 0 7 13 #[], .iaload] 100 = true := qck_r (nn_ _) (by decide +kernel)
theorem bs_X7_rank_e_48 {P : Zt → Option Zv → Prop} (K : Int → Zl → List Zv → Zt → Prop) : sx_ K P [.aload 0, .tableswitch 0 7 13 #[], .ifCond .le 109, .iload 1, .iconst 1000, .if_icmp .ge 109, .aload 0, .dup, .tableswitch 0 7 13 #[], .iconst 1, .isub, .tableswitch 1 7 13 #[], .aload 0, .aload 0, .tableswitch 0 7 10 #[], .aload 0, .tableswitch 0 7 13 #[], .iaload, .aload 0, .tableswitch 0 7 11 #[], .aload 0, .tableswitch 0 7 13 #[], .iaload, .aload 0, .tableswitch 0 7 12 #[], .aload 0, .tableswitch 0 7 13 #[], .iaload] 100 = x_aload 0 (x_g0 107 13 0 16 (x_ifCond .le 109 K (x_iload 1 (x_iconst 1000 (x_if_icmp .ge 109 K (x_aload 0 (x_dup (x_g0 107 13 0 16 (x_iconst 1 (x_isub (x_p 107 13 0 16 (x_aload 0 (x_aload 0 (x_g1 107 550 (x_aload 0 (x_g0 107 13 0 16 (x_iaload (x_aload 0 (x_g1 107 551 (x_aload 0 (x_g0 107 13 0 16 (x_iaload (x_aload 0 (x_g1 107 552 (x_aload 0 (x_g0 107 13 0 16 (x_iaload (K 100)))))))))))))))))))))))))))) := ((xe_aload 0).trans (congrArg (x_aload 0) ((xe_g0 (kk := 107) rfl tl_7_13).trans (congrArg (x_g0 107 13 0 16) ((xe_ifCond .le 109).trans (congrArg (x_ifCond .le 109 K) ((xe_iload 1).trans (congrArg (x_iload 1) ((xe_iconst 1000).trans (congrArg (x_iconst 1000) ((xe_if_icmp .ge 109).trans (congrArg (x_if_icmp .ge 109 K) ((xe_aload 0).trans (congrArg (x_aload 0) ((xe_dup).trans (congrArg (x_dup) ((xe_g0 (kk := 107) rfl tl_7_13).trans (congrArg (x_g0 107 13 0 16) ((xe_iconst 1).trans (congrArg (x_iconst 1) ((xe_isub).trans (congrArg (x_isub) ((xe_p (kk := 107) rfl tl_7_13).trans (congrArg (x_p 107 13 0 16) ((xe_aload 0).trans (congrArg (x_aload 0) ((xe_aload 0).trans (congrArg (x_aload 0) ((xe_g1 (kk := 107) rfl tl_7_10).trans (congrArg (x_g1 107 550) ((xe_aload 0).trans (congrArg (x_aload 0) ((xe_g0 (kk := 107) rfl tl_7_13).trans (congrArg (x_g0 107 13 0 16) ((xe_iaload).trans (congrArg (x_iaload) ((xe_aload 0).trans (congrArg (x_aload 0) ((xe_g1 (kk := 107) rfl tl_7_11).trans (congrArg (x_g1 107 551) ((xe_aload 0).trans (congrArg (x_aload 0) ((xe_g0 (kk := 107) rfl tl_7_13).trans (congrArg (x_g0 107 13 0 16) ((xe_iaload).trans (congrArg (x_iaload) ((xe_aload 0).trans (congrArg (x_aload 0) ((xe_g1 (kk := 107) rfl tl_7_12).trans (congrArg (x_g1 107 552) ((xe_aload 0).trans (congrArg (x_aload 0) ((xe_g0 (kk := 107) rfl tl_7_13).trans (congrArg (x_g0 107 13 0 16) ((xe_iaload).trans (congrArg (x_iaload) xe_nil))))))))))))))))))))))))))))))))))))))))))))))))))))))))
theorem bk_X7_rank_e_109 : ck_ fX7 none cX7_rank 109 [.iconst 1, .istore 1, .iconst 0, .istore 2] 113 = true := qck_r (nn_ _) (by decide +kernel)
theorem bs_X7_rank_e_109 {P : Zt → Option Zv → Prop} (K : Int → Zl → List Zv → Zt → Prop) : sx_ K P [.iconst 1, .istore 1, .iconst 0, .istore 2] 113 = x_iconst 1 (x_istore 1 (x_iconst 0 (x_istore 2 (K 113)))) := ((xe_iconst 1).trans (congrArg (x_iconst 1) ((xe_istore 1).trans (congrArg (x_istore 1) ((xe_iconst 0).trans (congrArg (x_iconst 0) ((xe_istore 2).trans (congrArg (x_istore 2) xe_nil))))))))
theorem bk_X7_rank_e_103 : ck_ fX7 none cX7_rank 103 [.iinc 1 1, .goto 48] 109 = true := qck_r (nn_ _) (by decide +kernel)
theorem bs_X7_rank_e_103 {P : Zt → Option Zv → Prop} (K : Int → Zl → List Zv → Zt → Prop) : sx_ K P [.iinc 1 1, .goto 48] 109 = x_iinc 1 1 (x_goto 48 K) := ((xe_iinc 1 1).trans (congrArg (x_iinc 1 1) (xe_goto 48)))
theorem bk_X7_rank_e_2 : ck_ fX7 none cX7_rank 2 [.iload 1, .iconst 12, .if_icmp .ge 28, .aload 0, .tableswitch 0 7 7 #[], .iload 1, .iload 1, .iastore, .aload 0, .tableswitch 0 7 8 #[], .iload 1, .iconst (-1), .iastore, .iinc 1 1, .goto 2] 28 = true := qck_r (nn_ _) (by decide +kernel)
theorem bs_X7_rank_e_2 {P : Zt → Option Zv → Prop} (K : Int → Zl → List Zv → Zt → Prop) : sx_ K P [.iload 1, .iconst 12, .if_icmp .ge 28, .aload 0, .tableswitch 0 7 7 #[], .iload 1, .iload 1, .iastore, .aload 0, .tableswitch 0 7 8 #[], .iload 1, .iconst (-1), .iastore, .iinc 1 1, .goto 2] 28 = x_iload 1 (x_iconst 12 (x_if_icmp .ge 28 K (x_aload 0 (x_g1 107 547 (x_iload 1 (x_iload 1 (x_iastore (x_aload 0 (x_g1 107 548 (x_iload 1 (x_iconst (-1) (x_iastore (x_iinc 1 1 (x_goto 2 K)))))))))))))) := ((xe_iload 1).trans (congrArg (x_iload 1) ((xe_iconst 12).trans (congrArg (x_iconst 12) ((xe_if_icmp .ge 28).trans (congrArg (x_if_icmp .ge 28 K) ((xe_aload 0).trans (congrArg (x_aload 0) ((xe_g1 (kk := 107) rfl tl_7_7).trans (congrArg (x_g1 107 547) ((xe_iload 1).trans (congrArg (x_iload 1) ((xe_iload 1).trans (congrArg (x_iload 1) ((xe_iastore).trans (congrArg (x_iastore) ((xe_aload 0).trans (congrArg (x_aload 0) ((xe_g1 (kk := 107) rfl tl_7_8).trans (congrArg (x_g1 107 548) ((xe_iload 1).trans (congrArg (x_iload 1) ((xe_iconst (-1)).trans (congrArg (x_iconst (-1)) ((xe_iastore).trans (congrArg (x_iastore) ((xe_iinc 1 1).trans (congrArg (x_iinc 1 1) (xe_goto 2)))))))))))))))))))))))))))))
theorem bk_X7_rank_e_28 : ck_ fX7 none cX7_rank 28 [.aload 0, .iconst 0, .tableswitch 1 7 13 #[], .aload 0, .iconst 0, .aload 0, .tableswitch 0 7 1 #[], .tableswitch 0 0 5 #[], .iconst 0] 43 = true := qck_r (nn_ _) (by decide +kernel)
theorem bs_X7_rank_e_28 {P : Zt → Option Zv → Prop} (K : Int → Zl → List Zv → Zt → Prop) : sx_ K P [.aload 0, .iconst 0, .tableswitch 1 7 13 #[], .aload 0, .iconst 0, .aload 0, .tableswitch 0 7 1 #[], .tableswitch 0 0 5 #[], .iconst 0] 43 = x_aload 0 (x_iconst 0 (x_p 107 13 0 16 (x_aload 0 (x_iconst 0 (x_aload 0 (x_g5 107 100 1 (x_g0 100 5 0 12 (x_iconst 0 (K 43))))))))) := ((xe_aload 0).trans (congrArg (x_aload 0) ((xe_iconst 0).trans (congrArg (x_iconst 0) ((xe_p (kk := 107) rfl tl_7_13).trans (congrArg (x_p 107 13 0 16) ((xe_aload 0).trans (congrArg (x_aload 0) ((xe_iconst 0).trans (congrArg (x_iconst 0) ((xe_aload 0).trans (congrArg (x_aload 0) ((xe_g5 (kk := 107) rfl tl_7_1).trans (congrArg (x_g5 107 100 1) ((xe_g0 (kk := 100) rfl tl_0_5).trans (congrArg (x_g0 100 5 0 12) ((xe_iconst 0).trans (congrArg (x_iconst 0) xe_nil))))))))))))))))))
theorem bk_X7_rank_e_46 : ck_ fX7 none cX7_rank 46 [.iconst 0, .istore 1] 48 = true := qck_r (nn_ _) (by decide +kernel)
theorem bs_X7_rank_e_46 {P : Zt → Option Zv → Prop} (K : Int → Zl → List Zv → Zt → Prop) : sx_ K P [.iconst 0, .istore 1] 48 = x_iconst 0 (x_istore 1 (K 48)) := ((xe_iconst 0).trans (congrArg (x_iconst 0) ((xe_istore 1).trans (congrArg (x_istore 1) xe_nil))))
theorem bk_X7_rank_e_0 : ck_ fX7 none cX7_rank 0 [.iconst 0, .istore 1] 2 = true := qck_r (nn_ _) (by decide +kernel)
theorem bs_X7_rank_e_0 {P : Zt → Option Zv → Prop} (K : Int → Zl → List Zv → Zt → Prop) : sx_ K P [.iconst 0, .istore 1] 2 = x_iconst 0 (x_istore 1 (K 2)) := ((xe_iconst 0).trans (congrArg (x_iconst 0) ((xe_istore 1).trans (congrArg (x_istore 1) xe_nil))))
abbrev po_X7_rank_e (T : Zt) (c : Int) (WW : Int → Int → Int → Int) : Zt → Option Zv → Prop := fun T' r => r = none ∧ fr_ [(550, []), (551, []), (552, []), (107, [13]), (549, []), (547, []), (548, []), (542, [])] T T' ∧ ((∀ x, 0 ≤ x → x < T 100 c 5 → T' 547 0 x < T 100 c 5) ∧ (mk9_ (T 100 c 5) (fun x => T 403 c (T' 547 0 x)), mk9_ (T 100 c 5) (fun x => T' 548 0 x)) = RKh_ T c WW ∧ LL_ T' (T 100 c 5) ∧ ∀ x w, 0 ≤ w → w ≤ 6 → T' 542 0 (x * 8 + w) = T 542 0 (x * 8 + w))
set_option maxHeartbeats 4000000 in
theorem ct_X7_rank_e {T : Zt} {c : Int} {WW : Int → Int → Int → Int} (hcx : T 107 0 1 = c + 1 ∧ 0 ≤ c) (hb : HB9_ T c) (hkc : 0 ≤ (T 401 c 4) ∧ (T 401 c 4) ≤ 7) (hww : HWW_ T c WW) : Ct_ yX7_rank zX7_rank T [vR 107 0] (po_X7_rank_e T c WW) := by
  refine ct_of pn_7 rfl rfl (Nat.le_of_ble_eq_true rfl) (fun hT hav => ?_)
  have hz : zX7_rank.2.2.2.1 = some .boolean → ∀ (T' : Zt) (x : Int), po_X7_rank_e T c WW T' (some (vI x)) → 0 ≤ x ∧ x ≤ 1 := fun h => by cases h
  have hen : 0 ≤ T 100 c 5 ∧ T 100 c 5 ≤ 12 := bd_f hT 100 5 tl_0_5 c
  show J_ zX7_rank T (po_X7_rank_e T c WW) 0 0 0 [some (vR 107 0), none, none] [] T
  have c_113 : ∀ (nn : Nat) (pc : Int) (k : Int) (T2 : Zt), ((12 - k).toNat) ≤ nn → (fr_ [(550, []), (551, []), (552, []), (107, [13]), (549, []), (547, []), (548, []), (542, [])] T T2) → (0 ≤ k ∧ 0 ≤ pc ∧ pc ≤ 13 ∧ k ≤ T 100 c 5) → (∀ x, 0 ≤ x → x < T 100 c 5 → T2 547 0 x < T 100 c 5) → ((mk9_ (T 100 c 5) (fun x => T 403 c (T2 547 0 x)), mk9_ (T 100 c 5) (fun x => T2 548 0 x)) = RKh_ T c WW) → ((k = 0 → pc = 1) ∧ (0 < k → pc = pc9_ (fun x => T2 548 0 x) (k - 1).toNat)) → (LL_ T2 k) → (∀ x w, 0 ≤ w → w ≤ 6 → T2 542 0 (x * 8 + w) = T 542 0 (x * 8 + w)) → J_ zX7_rank T (po_X7_rank_e T c WW) 0 0 113 [some (vR 107 0), some (vI pc), some (vI k)] [] T2 := by
    intro nn
    induction nn using Nat.strongRecOn with
    | _ nn ih_113 =>
      intro pc k T2 hm_113 hf_113 i2 ho2 mk2 pc2 ll2 lo2
      replace hm_113 := fun (_ : Unit) => hm_113
      have c_144 : ∀ (pd : Int), (k < 12 ∧ 0 ≤ pd ∧ pd ≤ 13 ∧ k < T 100 c 5) → (pd = pc9_ (fun x => T2 548 0 x) k.toNat) → J_ zX7_rank T (po_X7_rank_e T c WW) 0 0 144 [some (vR 107 0), some (vI pd), some (vI k)] [] T2 := by
        intro pd i3 pd2
        refine j_blx (F := fX7) tb_X7 (nn_ _) bk_X7_rank_e_144 bs_X7_rank_e_144 hz (fun K hK => ?_)
        refine ix_i (by omega) ?_
        intro b1 b1b
        refine rg_i (by omega) ?_
        refine rg_i (by omega) ?_
        refine iy_i (by omega) (by omega) ?_
        refine x_nm (fun U2 hU2 => ?_)
        have e3 := up_f hU2
        refine rg_i (by omega) ?_
        refine hK 113 [some (vR 107 0), some (vI pd), some (vI (k + 1))] [] U2 ?_
        refine ih_113 _ ?_ pd (k + 1) U2 (Nat.le_refl _) ?_ ?_ ?_ ?_ ?_ ?_ ?_
        · have hm_113 := hm_113 (); omega
        · exact fr_u (fr_t (fr_0 _ _) (fr_s hf_113 rfl)) hU2 rfl
        · omega
        · intro x a b
          rw [up_k hU2 (by exact Nat.ne_of_beq_eq_false rfl) 0 x]
          exact ho2 x a b
        · rw [show (fun x => T 403 c (U2 547 0 x)) = (fun x => T 403 c (T2 547 0 x)) from funext (fun x => congrArg (fun y => T 403 c y) (up_k hU2 (by exact Nat.ne_of_beq_eq_false rfl) 0 x)), show (fun x => U2 548 0 x) = (fun x => T2 548 0 x) from funext (fun x => up_k hU2 (by exact Nat.ne_of_beq_eq_false rfl) 0 x)]
          exact mk2
        · refine ⟨fun z => absurd z (by omega), fun _ => ?_⟩
          rw [show k + 1 - 1 = k by omega, show (fun x => U2 548 0 x) = (fun x => T2 548 0 x) from funext (fun x => up_k hU2 (by exact Nat.ne_of_beq_eq_false rfl) 0 x)]
          exact pd2
        · exact ll_s ll2 (by omega) hU2 (by omega) pd2
        · intro x w a b
          rw [up_g hU2 (fun q => by omega)]
          exact lo2 x w a b
      refine j_blx (F := fX7) tb_X7 (nn_ _) bk_X7_rank_e_113 bs_X7_rank_e_113 hz (fun K hK => ?_)
      have e5 : T2 107 0 1 = T 107 0 1 := hf_113 107 0 1 rfl
      refine And.intro (fun c4 => ?_) (fun c4 => ?_)
      · exact absurd c4 (by omega)
      · have z6 : T2 107 0 1 - 1 = c := by omega
        rw [z6]
        intro b7 b7b
        have e8 : T2 100 c 5 = T 100 c 5 := hf_113 100 c 5 rfl
        rw [e8] at b7 b7b ⊢
        refine And.intro (fun c9 => ?_) (fun c9 => ?_)
        · refine hK 168 _ [] T2 ?_
          refine j_blx (F := fX7) tb_X7 (nn_ _) bk_X7_rank_e_168 bs_X7_rank_e_168 hz (fun K hK => ?_)
          refine (show po_X7_rank_e T c WW T2 (none) from ?_)
          refine ⟨rfl, fr_t (fr_0 _ _) (fr_s hf_113 rfl), ho2, mk2, ?_, lo2⟩
          rw [show T 100 c 5 = k by omega]
          exact ll2
        · refine And.intro (fun c10 => ?_) (fun c10 => ?_)
          · refine hK 144 _ [] T2 ?_
            refine c_144 pc ?_ ?_
            · omega
            · by_cases z : k = 0
              · rw [pc2.1 z, z]
                rfl
              · rw [pc2.2 (by omega)]
                exact pc_t (p := (fun x => T2 548 0 x)) (by omega) (by show T2 548 0 (k - 1) = -1; omega)
          · refine rg_i (by omega) ?_
            refine ix_i (by omega) ?_
            intro b11 b11b
            refine And.intro (fun c12 => ?_) (fun c12 => ?_)
            · refine hK 144 _ [] T2 ?_
              refine c_144 pc ?_ ?_
              · omega
              · by_cases z : k = 0
                · rw [pc2.1 z, z]
                  rfl
                · rw [pc2.2 (by omega)]
                  exact pc_t (p := (fun x => T2 548 0 x)) (by omega) (by show T2 548 0 (k - 1) = -1; omega)
            · refine rg_i (by omega) ?_
              refine hK 144 [some (vR 107 0), some (vI (k + 1)), some (vI k)] [] T2 ?_
              refine c_144 (k + 1) ?_ ?_
              · omega
              · exact pc_f (p := (fun x => T2 548 0 x)) (by omega) (by right; show T2 548 0 (k - 1) ≠ -1; omega)
  have c_48 : ∀ (nn : Nat) (n : Int) (T1 : Zt), ((1000 - n).toNat) ≤ nn → (fr_ [(550, []), (551, []), (552, []), (107, [13]), (549, []), (547, []), (548, [])] T T1) → (0 ≤ n ∧ n ≤ 1000 ∧ 0 ≤ T1 107 0 13) → (PWm_ (T 100 c 5) (T 401 c 4) (pl9h_ T1 (T1 107 0 13).toNat)) → (sz9_ (pl9h_ T1 (T1 107 0 13).toNat) ≤ 12) → (∀ x, 0 ≤ x → x < T 100 c 5 → T1 547 0 x < T 100 c 5) → (rk9_ WW (T 401 c 5) (T 401 c 4) (1000 - n).toNat (mk9_ (T 100 c 5) (fun x => T 403 c (T1 547 0 x))) (mk9_ (T 100 c 5) (fun x => T1 548 0 x)) (pl9h_ T1 (T1 107 0 13).toNat) = RKh_ T c WW) → J_ zX7_rank T (po_X7_rank_e T c WW) 0 0 48 [some (vR 107 0), some (vI n), none] [] T1 := by
    intro nn
    induction nn using Nat.strongRecOn with
    | _ nn ih_48 =>
      intro n T1 hm_48 hf_48 i1 pw1 sz1 ho1 rk1
      replace hm_48 := fun (_ : Unit) => hm_48
      refine j_blx (F := fX7) tb_X7 (nn_ _) bk_X7_rank_e_48 bs_X7_rank_e_48 hz (fun K hK => ?_)
      intro b13 b13b
      refine And.intro (fun c14 => ?_) (fun c14 => ?_)
      · refine hK 109 _ [] T1 ?_
        refine j_blx (F := fX7) tb_X7 (nn_ _) bk_X7_rank_e_109 bs_X7_rank_e_109 hz (fun K hK => ?_)
        refine hK 113 [some (vR 107 0), some (vI 1), some (vI 0)] [] T1 ?_
        refine c_113 _ 1 0 T1 (Nat.le_refl _) ?_ ?_ ?_ ?_ ?_ ?_ ?_
        · exact fr_t (fr_0 _ _) (fr_s hf_48 rfl)
        · omega
        · exact ho1
        · by_cases z : T1 107 0 13 ≤ 0
          · have y := rk1
            rw [show (T1 107 0 13).toNat = 0 by omega] at y
            exact (rk_0.symm.trans y)
          · have y := rk1
            rw [show (1000 - n).toNat = 0 by omega] at y
            exact y
        · exact ⟨fun _ => rfl, fun z => absurd z (by decide)⟩
        · intro j a b; omega
        · intro x w a b
          exact hf_48 542 0 (x * 8 + w) rfl
      · refine And.intro (fun c15 => ?_) (fun c15 => ?_)
        · refine hK 109 [some (vR 107 0), some (vI n), none] [] T1 ?_
          refine j_blx (F := fX7) tb_X7 (nn_ _) bk_X7_rank_e_109 bs_X7_rank_e_109 hz (fun K hK => ?_)
          refine hK 113 [some (vR 107 0), some (vI 1), some (vI 0)] [] T1 ?_
          refine c_113 _ 1 0 T1 (Nat.le_refl _) ?_ ?_ ?_ ?_ ?_ ?_ ?_
          · exact fr_t (fr_0 _ _) (fr_s hf_48 rfl)
          · omega
          · exact ho1
          · by_cases z : T1 107 0 13 ≤ 0
            · have y := rk1
              rw [show (T1 107 0 13).toNat = 0 by omega] at y
              exact (rk_0.symm.trans y)
            · have y := rk1
              rw [show (1000 - n).toNat = 0 by omega] at y
              exact y
          · exact ⟨fun _ => rfl, fun z => absurd z (by decide)⟩
          · intro j a b; omega
          · intro x w a b
            exact hf_48 542 0 (x * 8 + w) rfl
        · intro b16 b16b
          refine rg_i (by omega) ?_
          refine bd_i (by omega) ?_
          refine x_nm (fun U17 hU17 => ?_)
          have e18 := up_f hU17
          intro b19 b19b
          have e20 : U17 107 0 13 = (T1 107 0 13) - 1 := up_f hU17
          rw [e20] at b19 b19b ⊢
          refine ix_i (by omega) ?_
          intro b21 b21b
          have e22 : U17 550 0 ((T1 107 0 13) - 1) = T1 550 0 ((T1 107 0 13) - 1) := up_k hU17 (by exact Nat.ne_of_beq_eq_false rfl) 0 ((T1 107 0 13) - 1)
          rw [e22] at b21 b21b ⊢
          intro b23 b23b
          have e24 : U17 107 0 13 = (T1 107 0 13) - 1 := up_f hU17
          rw [e24] at b23 b23b ⊢
          refine ix_i (by omega) ?_
          intro b25 b25b
          have e26 : U17 551 0 ((T1 107 0 13) - 1) = T1 551 0 ((T1 107 0 13) - 1) := up_k hU17 (by exact Nat.ne_of_beq_eq_false rfl) 0 ((T1 107 0 13) - 1)
          rw [e26] at b25 b25b ⊢
          intro b27 b27b
          have e28 : U17 107 0 13 = (T1 107 0 13) - 1 := up_f hU17
          rw [e28] at b27 b27b ⊢
          refine ix_i (by omega) ?_
          intro b29 b29b
          have e30 : U17 552 0 ((T1 107 0 13) - 1) = T1 552 0 ((T1 107 0 13) - 1) := up_k hU17 (by exact Nat.ne_of_beq_eq_false rfl) 0 ((T1 107 0 13) - 1)
          rw [e30] at b29 b29b ⊢
          refine hK 100 [some (vR 107 0), some (vI n), none] [vI (T1 552 0 ((T1 107 0 13) - 1)), vI (T1 551 0 ((T1 107 0 13) - 1)), vI (T1 550 0 ((T1 107 0 13) - 1)), vR 107 0] U17 ?_
          have hd9 := plh_s (T := T1) (w := T1 107 0 13) (by omega)
          have pw9 := pw1
          rw [hd9] at pw9
          have pa9 := pw9.1
          have sa9 := sz1
          rw [hd9] at sa9
          have sb9 : T1 551 0 (T1 107 0 13 - 1) - T1 550 0 (T1 107 0 13 - 1) + sz9_ (pl9h_ T1 (T1 107 0 13 - 1).toNat) ≤ 12 := sa9
          have pe9 : (pl9h_ U17 (U17 107 0 13).toNat) = pl9h_ T1 (T1 107 0 13 - 1).toNat := by
            rw [show U17 107 0 13 = T1 107 0 13 - 1 from up_f hU17]
            exact plh_e _ (fun k9 j h9 _ _ => up_k hU17 (by rcases h9 with rfl | rfl | rfl <;> decide) 0 j)
          have e31 : U17 100 c 5 = T 100 c 5 := (up_k hU17 (by exact Nat.ne_of_beq_eq_false rfl) c 5).trans (hf_48 100 c 5 rfl)
          have e32 : U17 401 c 4 = T 401 c 4 := (up_k hU17 (by exact Nat.ne_of_beq_eq_false rfl) c 4).trans (hf_48 401 c 4 rfl)
          have e33 : U17 107 0 1 = T 107 0 1 := (up_j hU17 (by decide) 107 0).trans (hf_48 107 0 1 rfl)
          have e34 : U17 107 0 13 = (T1 107 0 13) - 1 := up_f hU17
          refine j_callV (y := yX7_orderGroup) (Yc := zX7_orderGroup) (rest := []) [vI (T1 550 0 ((T1 107 0 13) - 1)), vI (T1 551 0 ((T1 107 0 13) - 1)), vI (T1 552 0 ((T1 107 0 13) - 1))] (ct_X7_orderGroup_e (T := U17) (c := c) (WW := WW) (by omega) (by omega) (by omega) (fun x a b => by rw [(up_k hU17 (by exact Nat.ne_of_beq_eq_false rfl) c 5).trans (hf_48 100 c 5 rfl)] at b ⊢; rw [up_k hU17 (by exact Nat.ne_of_beq_eq_false rfl) 0 x]; exact ho1 x a b) (hb9_g (ws := [(107, [13, 13]), (550, []), (551, []), (552, []), (549, []), (547, []), (548, [])]) hb (fr_u (fr_t (fr_0 _ _) (fr_s hf_48 rfl)) hU17 rfl) (fun _ => rfl) (fun _ => rfl) rfl) (by omega) (by omega) (by omega) (by rw [(up_k hU17 (by exact Nat.ne_of_beq_eq_false rfl) c 5).trans (hf_48 100 c 5 rfl), (up_k hU17 (by exact Nat.ne_of_beq_eq_false rfl) c 4).trans (hf_48 401 c 4 rfl), pe9]; exact pw9.2) (by rw [pe9]; omega) (hww_f (ws := [(107, [13, 13]), (550, []), (551, []), (552, []), (549, []), (547, []), (548, [])]) hww (fr_u (fr_t (fr_0 _ _) (fr_s hf_48 rfl)) hU17 rfl) (fun k j q9 => by rcases q9 with rfl | rfl | rfl | rfl | rfl | rfl | rfl | rfl <;> rfl) rfl)) cl_X7_147 (qd_c (by decide +kernel)) (nn_ _) rfl (rf_of rfl) (Nat.le_of_ble_eq_true rfl) (Nat.le_of_ble_eq_true rfl) (Nat.le_of_ble_eq_true rfl) rfl ?_
          rintro U35 _ ⟨rfl, fU35, qU35w, qU35o, qU35g⟩
          show J_ zX7_rank T (po_X7_rank_e T c WW) 0 0 103 _ [] U35
          have s9 : sg9_ WW (T 401 c 5) (T 401 c 4) (T1 550 0 (T1 107 0 13 - 1)) (T1 551 0 (T1 107 0 13 - 1)) (T1 552 0 (T1 107 0 13 - 1)) (fun x => T 403 c (T1 547 0 x)) (fun x => T1 548 0 x) (pl9h_ T1 (T1 107 0 13 - 1).toNat) = ((fun x => T 403 c (U35 547 0 x)), (fun x => U35 548 0 x), (pl9h_ U35 (U35 107 0 13).toNat)) := by
            have y := qU35g
            unfold OH9_ at y
            rw [(up_k hU17 (by exact Nat.ne_of_beq_eq_false rfl) c 5).trans (hf_48 401 c 5 rfl), (up_k hU17 (by exact Nat.ne_of_beq_eq_false rfl) c 4).trans (hf_48 401 c 4 rfl), pe9, show (fun x => U17 403 c (U17 547 0 x)) = (fun x => T 403 c (T1 547 0 x)) from funext (fun x => by rw [up_k hU17 (by exact Nat.ne_of_beq_eq_false rfl) 0 x, (up_k hU17 (by exact Nat.ne_of_beq_eq_false rfl) c (T1 547 0 x)).trans (hf_48 403 c (T1 547 0 x) rfl)]), show (fun x => U17 548 0 x) = (fun x => T1 548 0 x) from funext (fun x => up_k hU17 (by exact Nat.ne_of_beq_eq_false rfl) 0 x), show (fun x => U17 403 c (U35 547 0 x)) = (fun x => T 403 c (U35 547 0 x)) from funext (fun x => (up_k hU17 (by exact Nat.ne_of_beq_eq_false rfl) c (U35 547 0 x)).trans (hf_48 403 c (U35 547 0 x) rfl))] at y
            exact y
          have sw9 := sg_w (WW := WW) (rd := (T 401 c 5)) (o := (fun x => T 403 c (T1 547 0 x))) (p := (fun x => T1 548 0 x)) pw9 (by omega)
          rw [s9] at sw9
          have sz9 : sz9_ (pl9h_ U35 (U35 107 0 13).toNat) ≤ 12 := Int.le_trans sw9.2.2 sa9
          have ho9 : ∀ x, 0 ≤ x → x < T 100 c 5 → U35 547 0 x < T 100 c 5 := fun x a b => by
            have y := qU35o x a (by rw [(up_k hU17 (by exact Nat.ne_of_beq_eq_false rfl) c 5).trans (hf_48 100 c 5 rfl)]; exact b)
            rw [(up_k hU17 (by exact Nat.ne_of_beq_eq_false rfl) c 5).trans (hf_48 100 c 5 rfl)] at y
            exact y
          have rk9 : rk9_ WW (T 401 c 5) (T 401 c 4) (1000 - (n + 1)).toNat (mk9_ (T 100 c 5) (fun x => T 403 c (U35 547 0 x))) (mk9_ (T 100 c 5) (fun x => U35 548 0 x)) (pl9h_ U35 (U35 107 0 13).toNat) = RKh_ T c WW := by
            rw [show 1000 - (n + 1) = 1000 - n - 1 by omega]
            refine rkh_s (by omega) (by omega) ?_ s9
            rw [← hd9]
            exact rk1
          refine j_blx (F := fX7) tb_X7 (nn_ _) bk_X7_rank_e_103 bs_X7_rank_e_103 hz (fun K hK => ?_)
          refine rg_i (by omega) ?_
          refine hK 48 [some (vR 107 0), some (vI (n + 1)), none] [] U35 ?_
          refine ih_48 _ ?_ (n + 1) U35 (Nat.le_refl _) ?_ ?_ ?_ ?_ ?_ ?_
          · have hm_48 := hm_48 (); omega
          · exact fr_t (fr_u (fr_t (fr_0 _ _) (fr_s hf_48 rfl)) hU17 rfl) (fr_s fU35 rfl)
          · omega
          · exact sw9.1
          · exact sz9
          · exact ho9
          · exact rk9
  have c_2 : ∀ (nn : Nat) (k : Int) (T0 : Zt), ((12 - k).toNat) ≤ nn → (fr_ [(547, []), (548, [])] T T0) → (0 ≤ k ∧ k ≤ 12) → (∀ j, 0 ≤ j → j < k → T0 547 0 j = j) → (∀ j, 0 ≤ j → j < k → T0 548 0 j = -1) → J_ zX7_rank T (po_X7_rank_e T c WW) 0 0 2 [some (vR 107 0), some (vI k), none] [] T0 := by
    intro nn
    induction nn using Nat.strongRecOn with
    | _ nn ih_2 =>
      intro k T0 hm_2 hf_2 i0 o0 p0
      replace hm_2 := fun (_ : Unit) => hm_2
      refine j_blx (F := fX7) tb_X7 (nn_ _) bk_X7_rank_e_2 bs_X7_rank_e_2 hz (fun K hK => ?_)
      refine And.intro (fun c36 => ?_) (fun c36 => ?_)
      · refine hK 28 _ [] T0 ?_
        refine j_blx (F := fX7) tb_X7 (nn_ _) bk_X7_rank_e_28 bs_X7_rank_e_28 hz (fun K hK => ?_)
        refine bd_i (by omega) ?_
        refine x_nm (fun U37 hU37 => ?_)
        have e38 := up_f hU37
        have e40 : U37 107 0 1 = T 107 0 1 := (up_j hU37 (by decide) 107 0).trans (hf_2 107 0 1 rfl)
        refine And.intro (fun c39 => ?_) (fun c39 => ?_)
        · exact absurd c39 (by omega)
        · have z41 : U37 107 0 1 - 1 = c := by omega
          rw [z41]
          intro b42 b42b
          have e43 : U37 100 c 5 = T 100 c 5 := (up_k hU37 (by exact Nat.ne_of_beq_eq_false rfl) c 5).trans (hf_2 100 c 5 rfl)
          rw [e43] at b42 b42b ⊢
          refine hK 43 _ [vI 0, vI (T 100 c 5), vI 0, vR 107 0] U37 ?_
          have e44 : U37 107 0 1 = T 107 0 1 := (up_j hU37 (by decide) 107 0).trans (hf_2 107 0 1 rfl)
          have e45 : U37 107 0 13 = 0 := up_f hU37
          have e46 : U37 107 0 1 = T 107 0 1 := (up_j hU37 (by decide) 107 0).trans (hf_2 107 0 1 rfl)
          have e47 : U37 107 0 13 = 0 := up_f hU37
          have e48 : U37 401 c 4 = T 401 c 4 := (up_k hU37 (by exact Nat.ne_of_beq_eq_false rfl) c 4).trans (hf_2 401 c 4 rfl)
          refine j_callV (y := yX7_putWaiting) (Yc := zX7_putWaiting) (rest := []) [vI 0, vI (T 100 c 5), vI 0] (ct_X7_putWaiting_e (T := U37) (c := c) (by omega) (by omega) (by omega) (by omega) (by omega) (by omega)) cl_X7_143 (qd_c (by decide +kernel)) (nn_ _) rfl (rf_of rfl) (Nat.le_of_ble_eq_true rfl) (Nat.le_of_ble_eq_true rfl) (Nat.le_of_ble_eq_true rfl) rfl ?_
          rintro U49 _ ⟨rfl, fU49, ⟨qU49w, qU49p⟩⟩
          show J_ zX7_rank T (po_X7_rank_e T c WW) 0 0 46 _ [] U49
          have pq0 : (pl9h_ U49 (U49 107 0 13).toNat) = pu9_ (T 401 c 4) 0 (T 100 c 5) 0 [] := by
            rw [qU49p, (up_k hU37 (by exact Nat.ne_of_beq_eq_false rfl) c 4).trans (hf_2 401 c 4 rfl), show U37 107 0 13 = 0 from up_f hU37]
            rfl
          have pw0 : PWm_ (T 100 c 5) (T 401 c 4) (pl9h_ U49 (U49 107 0 13).toNat) := by
            rw [pq0]
            exact pw_p (q := []) trivial (by omega)
          have sz0 : sz9_ (pl9h_ U49 (U49 107 0 13).toNat) ≤ 12 := by
            rw [pq0]
            by_cases z : T 100 c 5 - 0 < 2 ∨ (T 401 c 4) < 0
            · rw [pu_t z]
              show (0 : Int) ≤ 12
              decide
            · rw [pu_f z]
              show T 100 c 5 - 0 + 0 ≤ 12
              omega
          refine j_blx (F := fX7) tb_X7 (nn_ _) bk_X7_rank_e_46 bs_X7_rank_e_46 hz (fun K hK => ?_)
          refine hK 48 [some (vR 107 0), some (vI 0), none] [] U49 ?_
          refine c_48 _ 0 U49 (Nat.le_refl _) ?_ ?_ ?_ ?_ ?_ ?_
          · exact fr_t (fr_u (fr_t (fr_0 _ _) (fr_s hf_2 rfl)) hU37 rfl) (fr_s fU49 rfl)
          · omega
          · exact pw0
          · exact sz0
          · intro x a b
            rw [(fU49 547 0 x rfl).trans (up_k hU37 (by exact Nat.ne_of_beq_eq_false rfl) 0 x), o0 x a (by omega)]
            exact b
          · rw [show ((1000 : Int) - 0).toNat = 1000 by omega, pq0, mk_e (n := T 100 c 5) (o := (fun x => T 403 c (U49 547 0 x))) (o' := fun x => T 403 c x) (fun x a b => by show T 403 c (U49 547 0 x) = T 403 c x; rw [(fU49 547 0 x rfl).trans (up_k hU37 (by exact Nat.ne_of_beq_eq_false rfl) 0 x), o0 x a (by omega)]), mk_e (n := T 100 c 5) (o := (fun x => U49 548 0 x)) (o' := fun _ => -1) (fun x a b => by show U49 548 0 x = -1; rw [(fU49 548 0 x rfl).trans (up_k hU37 (by exact Nat.ne_of_beq_eq_false rfl) 0 x), p0 x a (by omega)])]
            rfl
      · refine iy_i (by omega) (by omega) ?_
        refine x_nm (fun U50 hU50 => ?_)
        have e51 := up_f hU50
        refine iy_i (by omega) (by omega) ?_
        refine x_nm (fun U52 hU52 => ?_)
        have e53 := up_f hU52
        refine rg_i (by omega) ?_
        refine hK 2 [some (vR 107 0), some (vI (k + 1)), none] [] U52 ?_
        refine ih_2 _ ?_ (k + 1) U52 (Nat.le_refl _) ?_ ?_ ?_ ?_
        · have hm_2 := hm_2 (); omega
        · exact fr_u (fr_u (fr_t (fr_0 _ _) (fr_s hf_2 rfl)) hU50 rfl) hU52 rfl
        · omega
        · intro j a b
          by_cases z : j = k
          · rw [z]; exact (up_k hU52 (by exact Nat.ne_of_beq_eq_false rfl) 0 k).trans (up_f hU50)
          · exact ((up_k hU52 (by exact Nat.ne_of_beq_eq_false rfl) 0 j).trans (up_g hU50 (by omega))).trans (o0 j a (by omega))
        · intro j a b
          by_cases z : j = k
          · rw [z]; exact (rfl).trans (up_f hU52)
          · exact ((up_g hU52 (by omega)).trans (up_k hU50 (by exact Nat.ne_of_beq_eq_false rfl) 0 j)).trans (p0 j a (by omega))
  refine j_blx (F := fX7) tb_X7 (nn_ _) bk_X7_rank_e_0 bs_X7_rank_e_0 hz (fun K hK => ?_)
  refine hK 2 [some (vR 107 0), some (vI 0), none] [] T ?_
  refine c_2 _ 0 T (Nat.le_refl _) ?_ ?_ ?_ ?_
  · exact fr_0 _ _
  · omega
  · intro j a b; omega
  · intro j a b; omega
