-- the draw's calls of the reference
def PTR_ (T T' : Zt) (c k x : Int) : Prop := (T' = T ∧ ((x = -2 ∧ ¬ (0 ≤ c ∧ c < T 111 0 12)) ∨ ((0 ≤ c ∧ c < T 111 0 12) ∧ x = -3 ∧ ¬ (0 ≤ k ∧ k < 3)) ∨ ((0 ≤ c ∧ c < T 111 0 12) ∧ (0 ≤ k ∧ k < 3) ∧ x = -4 ∧ (T 111 0 98 = 0 ∨ T 301 0 c ≠ -1 ∨ cnz_ (fun j => T 302 0 j) (-1) 12 < 12)) ∨ ((0 ≤ c ∧ c < T 111 0 12) ∧ (0 ≤ k ∧ k < 3) ∧ ¬ (T 111 0 98 = 0 ∨ T 301 0 c ≠ -1 ∨ cnz_ (fun j => T 302 0 j) (-1) 12 < 12) ∧ x = -5 ∧ cnz_ (fun j => T 301 0 j) k 12 = T 111 0 99))) ∨ ((0 ≤ c ∧ c < T 111 0 12) ∧ (0 ≤ k ∧ k < 3) ∧ ¬ (T 111 0 98 = 0 ∨ T 301 0 c ≠ -1 ∨ cnz_ (fun j => T 302 0 j) (-1) 12 < 12) ∧ cnz_ (fun j => T 301 0 j) k 12 ≠ T 111 0 99 ∧ x = cnz_ (fun j => T 301 0 j) k 12 + 1 ∧ (T' 301 0 c = k ∧ ∀ j, j ≠ c → T' 301 0 j = T 301 0 j))
def WYR_ (T T' : Zt) (x : Int) : Prop := (T' = T ∧ T 111 0 98 = 0 ∧ x = -4) ∨ (T 111 0 98 ≠ 0 ∧ (∀ k, T' 302 0 k = T 302 0 k) ∧ x = (nw_ (drw_ T) (-1) (-1) (ll_ T) (gf_ T) : Nat))
def CO9_ (T T' : Zt) (c g x : Int) : Prop := (∀ k, T' 302 0 k = T 302 0 k) ∧ ((T 302 0 c ≠ -1 ∧ ((T 302 0 c = g ∧ x = (nw_ (drw_ T) (-1) (-1) (ll_ T) (gf_ T) : Nat)) ∨ (T 302 0 c ≠ g ∧ x = 0))) ∨ (T 302 0 c = -1 ∧ x = (nw_ (drw_ T) c g (ll_ T) (gf_ T) : Nat)))
def CHR_ (T T' : Zt) (c g x : Int) : Prop := (T' = T ∧ ((x = -2 ∧ ¬ ((0 ≤ c ∧ c < T 111 0 12) ∧ T 111 0 98 ≠ 0 ∧ T 301 0 c ≠ -1)) ∨ (((0 ≤ c ∧ c < T 111 0 12) ∧ T 111 0 98 ≠ 0 ∧ T 301 0 c ≠ -1) ∧ x = -3 ∧ ¬ (0 ≤ g ∧ g < T 111 0 99)))) ∨ (((0 ≤ c ∧ c < T 111 0 12) ∧ T 111 0 98 ≠ 0 ∧ T 301 0 c ≠ -1) ∧ (0 ≤ g ∧ g < T 111 0 99) ∧ CO9_ T T' c g x)
def DWR_ (T : Zt) (c x : Int) : Prop := (x = -2 ∧ ¬ (0 ≤ c ∧ c < T 111 0 12)) ∨ ((0 ≤ c ∧ c < T 111 0 12) ∧ ((T 111 0 98 = 0 ∧ x = -1) ∨ (T 111 0 98 ≠ 0 ∧ x = T 302 0 c)))
def NDR_ (T T' : Zt) (g l x : Int) : Prop := (T' = T ∧ x = -3 ∧ ¬ (1 ≤ g ∧ g ≤ 4 ∧ 1 ≤ l ∧ l ≤ 3)) ∨ ((1 ≤ g ∧ g ≤ 4 ∧ 1 ≤ l ∧ l ≤ 3) ∧ x = 1 ∧ T' 111 0 98 = 1 ∧ T' 111 0 99 = g ∧ T' 111 0 100 = l ∧ ∀ j, 0 ≤ j → j < 12 → T' 301 0 j = -1 ∧ T' 302 0 j = -1)
/-- the least pot of those that wait, below k -/
def LP9_ (T : Zt) (p k : Int) : Prop := ∀ j, 0 ≤ j → j < k → T 301 0 j ≠ -1 → T 302 0 j = -1 → p ≤ T 301 0 j
theorem lp9_s {T : Zt} {p p2 k : Int} (h : LP9_ T p k) (a : p2 ≤ p) (b : T 301 0 k ≠ -1 → T 302 0 k = -1 → p2 ≤ T 301 0 k) : LP9_ T p2 (k + 1) := fun j x y z w => by
  by_cases e : j = k
  · rw [e] at z w ⊢
    exact b z w
  · have := h j x (by omega) z w
    omega
noncomputable def BR0_ (T : Zt) : Int := (nw_ (drw_ T) (-1) (-1) (ll_ T) (gf_ T) : Nat)
/-- a ball of the reference -/
def BLR_ (T T' : Zt) (s b x : Int) : Prop := (x = -4 ∧ (∀ k, T' 302 0 k = T 302 0 k) ∧ T' 111 0 103 = T 111 0 103 ∧ (T 111 0 98 = 0 ∨ (∀ j, 0 ≤ j → j < T 111 0 12 → T 301 0 j ≠ -1 → T 302 0 j ≠ -1) ∨ BR0_ T = 0)) ∨ (T 111 0 98 ≠ 0 ∧ BR0_ T ≠ 0 ∧ ∃ s0 p c g : Int, ((b = 0 ∧ s0 = T 111 0 103) ∨ (b ≠ 0 ∧ s0 = s)) ∧ EL_ T p (T 111 0 12) ∧ LP9_ T p (T 111 0 12) ∧ (0 ≤ c ∧ c < T 111 0 12 ∧ T 301 0 c = p ∧ T 302 0 c = -1 ∧ cel_ T p c = (tb9_ (cel_ T p (T 111 0 12)) s0).1) ∧ (0 ≤ g ∧ g ≤ 3) ∧ (sgm_ T c (g - 1) ≤ (tb9_ (BR0_ T) (tb9_ (cel_ T p (T 111 0 12)) s0).2).1 ∧ (tb9_ (BR0_ T) (tb9_ (cel_ T p (T 111 0 12)) s0).2).1 < sgm_ T c g) ∧ T' 111 0 103 = (tb9_ (BR0_ T) (tb9_ (cel_ T p (T 111 0 12)) s0).2).2 ∧ T' 302 0 c = g ∧ (∀ j, j ≠ c → T' 302 0 j = T 302 0 j) ∧ x = 8 * c + g)
theorem bk_X11_pot_e_34 : ck_ fX11 (some .int) cX11_pot 34 [.iload 5, .iconst 12, .if_icmp .ge 96, .aload 0, .tableswitch 0 11 98 #[], .ifCond .eq 96, .iload 3, .aload 0, .tableswitch 0 11 101 #[], .iload 5, .iaload, .iload 2, .if_icmp .ne 64, .iconst 1, .goto 65] 64 = true := qck_r (nn_ _) (by decide +kernel)
theorem bs_X11_pot_e_34 {P : Zt → Option Zv → Prop} (K : Int → Zl → List Zv → Zt → Prop) : sx_ K P [.iload 5, .iconst 12, .if_icmp .ge 96, .aload 0, .tableswitch 0 11 98 #[], .ifCond .eq 96, .iload 3, .aload 0, .tableswitch 0 11 101 #[], .iload 5, .iaload, .iload 2, .if_icmp .ne 64, .iconst 1, .goto 65] 64 = x_iload 5 (x_iconst 12 (x_if_icmp .ge 96 K (x_aload 0 (x_g0 111 98 0 1 (x_ifCond .eq 96 K (x_iload 3 (x_aload 0 (x_g1 111 301 (x_iload 5 (x_iaload (x_iload 2 (x_if_icmp .ne 64 K (x_iconst 1 (x_goto 65 K)))))))))))))) := ((xe_iload 5).trans (congrArg (x_iload 5) ((xe_iconst 12).trans (congrArg (x_iconst 12) ((xe_if_icmp .ge 96).trans (congrArg (x_if_icmp .ge 96 K) ((xe_aload 0).trans (congrArg (x_aload 0) ((xe_g0 (kk := 111) rfl tl_11_98).trans (congrArg (x_g0 111 98 0 1) ((xe_ifCond .eq 96).trans (congrArg (x_ifCond .eq 96 K) ((xe_iload 3).trans (congrArg (x_iload 3) ((xe_aload 0).trans (congrArg (x_aload 0) ((xe_g1 (kk := 111) rfl tl_11_101).trans (congrArg (x_g1 111 301) ((xe_iload 5).trans (congrArg (x_iload 5) ((xe_iaload).trans (congrArg (x_iaload) ((xe_iload 2).trans (congrArg (x_iload 2) ((xe_if_icmp .ne 64).trans (congrArg (x_if_icmp .ne 64 K) ((xe_iconst 1).trans (congrArg (x_iconst 1) (xe_goto 65)))))))))))))))))))))))))))))
theorem bk_X11_pot_e_96 : ck_ fX11 (some .int) cX11_pot 96 [.aload 0, .tableswitch 0 11 98 #[], .ifCond .eq 116, .aload 0, .iload 1] 105 = true := qck_r (nn_ _) (by decide +kernel)
theorem bs_X11_pot_e_96 {P : Zt → Option Zv → Prop} (K : Int → Zl → List Zv → Zt → Prop) : sx_ K P [.aload 0, .tableswitch 0 11 98 #[], .ifCond .eq 116, .aload 0, .iload 1] 105 = x_aload 0 (x_g0 111 98 0 1 (x_ifCond .eq 116 K (x_aload 0 (x_iload 1 (K 105))))) := ((xe_aload 0).trans (congrArg (x_aload 0) ((xe_g0 (kk := 111) rfl tl_11_98).trans (congrArg (x_g0 111 98 0 1) ((xe_ifCond .eq 116).trans (congrArg (x_ifCond .eq 116 K) ((xe_aload 0).trans (congrArg (x_aload 0) ((xe_iload 1).trans (congrArg (x_iload 1) xe_nil))))))))))
theorem bk_X11_pot_e_116 : ck_ fX11 (some .int) cX11_pot 116 [.iconst (-4), .ireturn] 119 = true := qck_r (nn_ _) (by decide +kernel)
theorem bs_X11_pot_e_116 {P : Zt → Option Zv → Prop} (K : Int → Zl → List Zv → Zt → Prop) : sx_ K P [.iconst (-4), .ireturn] 119 = x_iconst (-4) (x_ireturn P) := ((xe_iconst (-4)).trans (congrArg (x_iconst (-4)) (xe_ireturn)))
theorem bk_X11_pot_e_108 : ck_ fX11 (some .int) cX11_pot 108 [.ifCond .ne 116, .iload 4, .ifCond .eq 119, .iconst (-4), .ireturn] 119 = true := qck_r (nn_ _) (by decide +kernel)
theorem bs_X11_pot_e_108 {P : Zt → Option Zv → Prop} (K : Int → Zl → List Zv → Zt → Prop) : sx_ K P [.ifCond .ne 116, .iload 4, .ifCond .eq 119, .iconst (-4), .ireturn] 119 = x_ifCond .ne 116 K (x_iload 4 (x_ifCond .eq 119 K (x_iconst (-4) (x_ireturn P)))) := ((xe_ifCond .ne 116).trans (congrArg (x_ifCond .ne 116 K) ((xe_iload 4).trans (congrArg (x_iload 4) ((xe_ifCond .eq 119).trans (congrArg (x_ifCond .eq 119 K) ((xe_iconst (-4)).trans (congrArg (x_iconst (-4)) (xe_ireturn)))))))))
theorem bk_X11_pot_e_119 : ck_ fX11 (some .int) cX11_pot 119 [.iload 3, .aload 0, .tableswitch 0 11 99 #[], .if_icmp .ne 130, .iconst (-5), .ireturn] 130 = true := qck_r (nn_ _) (by decide +kernel)
theorem bs_X11_pot_e_119 {P : Zt → Option Zv → Prop} (K : Int → Zl → List Zv → Zt → Prop) : sx_ K P [.iload 3, .aload 0, .tableswitch 0 11 99 #[], .if_icmp .ne 130, .iconst (-5), .ireturn] 130 = x_iload 3 (x_aload 0 (x_g0 111 99 0 4 (x_if_icmp .ne 130 K (x_iconst (-5) (x_ireturn P))))) := ((xe_iload 3).trans (congrArg (x_iload 3) ((xe_aload 0).trans (congrArg (x_aload 0) ((xe_g0 (kk := 111) rfl tl_11_99).trans (congrArg (x_g0 111 99 0 4) ((xe_if_icmp .ne 130).trans (congrArg (x_if_icmp .ne 130 K) ((xe_iconst (-5)).trans (congrArg (x_iconst (-5)) (xe_ireturn)))))))))))
theorem bk_X11_pot_e_130 : ck_ fX11 (some .int) cX11_pot 130 [.aload 0, .tableswitch 0 11 101 #[], .iload 1, .iload 2, .iastore, .iload 3, .iconst 1, .iadd, .ireturn] 141 = true := qck_r (nn_ _) (by decide +kernel)
theorem bs_X11_pot_e_130 {P : Zt → Option Zv → Prop} (K : Int → Zl → List Zv → Zt → Prop) : sx_ K P [.aload 0, .tableswitch 0 11 101 #[], .iload 1, .iload 2, .iastore, .iload 3, .iconst 1, .iadd, .ireturn] 141 = x_aload 0 (x_g1 111 301 (x_iload 1 (x_iload 2 (x_iastore (x_iload 3 (x_iconst 1 (x_iadd (x_ireturn P)))))))) := ((xe_aload 0).trans (congrArg (x_aload 0) ((xe_g1 (kk := 111) rfl tl_11_101).trans (congrArg (x_g1 111 301) ((xe_iload 1).trans (congrArg (x_iload 1) ((xe_iload 2).trans (congrArg (x_iload 2) ((xe_iastore).trans (congrArg (x_iastore) ((xe_iload 3).trans (congrArg (x_iload 3) ((xe_iconst 1).trans (congrArg (x_iconst 1) ((xe_iadd).trans (congrArg (x_iadd) (xe_ireturn)))))))))))))))))
theorem bk_X11_pot_e_64 : ck_ fX11 (some .int) cX11_pot 64 [.iconst 0, .iadd, .istore 3, .iload 4, .ifCond .ne 83, .aload 0, .tableswitch 0 11 102 #[], .iload 5, .iaload, .iconst (-1), .if_icmp .eq 87, .iconst 1, .goto 88] 87 = true := qck_r (nn_ _) (by decide +kernel)
theorem bs_X11_pot_e_64 {P : Zt → Option Zv → Prop} (K : Int → Zl → List Zv → Zt → Prop) : sx_ K P [.iconst 0, .iadd, .istore 3, .iload 4, .ifCond .ne 83, .aload 0, .tableswitch 0 11 102 #[], .iload 5, .iaload, .iconst (-1), .if_icmp .eq 87, .iconst 1, .goto 88] 87 = x_iconst 0 (x_iadd (x_istore 3 (x_iload 4 (x_ifCond .ne 83 K (x_aload 0 (x_g1 111 302 (x_iload 5 (x_iaload (x_iconst (-1) (x_if_icmp .eq 87 K (x_iconst 1 (x_goto 88 K)))))))))))) := ((xe_iconst 0).trans (congrArg (x_iconst 0) ((xe_iadd).trans (congrArg (x_iadd) ((xe_istore 3).trans (congrArg (x_istore 3) ((xe_iload 4).trans (congrArg (x_iload 4) ((xe_ifCond .ne 83).trans (congrArg (x_ifCond .ne 83 K) ((xe_aload 0).trans (congrArg (x_aload 0) ((xe_g1 (kk := 111) rfl tl_11_102).trans (congrArg (x_g1 111 302) ((xe_iload 5).trans (congrArg (x_iload 5) ((xe_iaload).trans (congrArg (x_iaload) ((xe_iconst (-1)).trans (congrArg (x_iconst (-1)) ((xe_if_icmp .eq 87).trans (congrArg (x_if_icmp .eq 87 K) ((xe_iconst 1).trans (congrArg (x_iconst 1) (xe_goto 88)))))))))))))))))))))))))
theorem bk_X11_pot_e_83 : ck_ fX11 (some .int) cX11_pot 83 [.iconst 1, .goto 88] 87 = true := qck_r (nn_ _) (by decide +kernel)
theorem bs_X11_pot_e_83 {P : Zt → Option Zv → Prop} (K : Int → Zl → List Zv → Zt → Prop) : sx_ K P [.iconst 1, .goto 88] 87 = x_iconst 1 (x_goto 88 K) := ((xe_iconst 1).trans (congrArg (x_iconst 1) (xe_goto 88)))
theorem bk_X11_pot_e_88 : ck_ fX11 (some .int) cX11_pot 88 [.istore 4, .iinc 5 1, .goto 34] 96 = true := qck_r (nn_ _) (by decide +kernel)
theorem bs_X11_pot_e_88 {P : Zt → Option Zv → Prop} (K : Int → Zl → List Zv → Zt → Prop) : sx_ K P [.istore 4, .iinc 5 1, .goto 34] 96 = x_istore 4 (x_iinc 5 1 (x_goto 34 K)) := ((xe_istore 4).trans (congrArg (x_istore 4) ((xe_iinc 5 1).trans (congrArg (x_iinc 5 1) (xe_goto 34)))))
theorem bk_X11_pot_e_87 : ck_ fX11 (some .int) cX11_pot 87 [.iconst 0, .istore 4, .iinc 5 1, .goto 34] 96 = true := qck_r (nn_ _) (by decide +kernel)
theorem bs_X11_pot_e_87 {P : Zt → Option Zv → Prop} (K : Int → Zl → List Zv → Zt → Prop) : sx_ K P [.iconst 0, .istore 4, .iinc 5 1, .goto 34] 96 = x_iconst 0 (x_istore 4 (x_iinc 5 1 (x_goto 34 K))) := ((xe_iconst 0).trans (congrArg (x_iconst 0) ((xe_istore 4).trans (congrArg (x_istore 4) ((xe_iinc 5 1).trans (congrArg (x_iinc 5 1) (xe_goto 34)))))))
theorem bk_X11_pot_e_65 : ck_ fX11 (some .int) cX11_pot 65 [.iadd, .istore 3, .iload 4, .ifCond .ne 83, .aload 0, .tableswitch 0 11 102 #[], .iload 5, .iaload, .iconst (-1), .if_icmp .eq 87, .iconst 1, .goto 88] 87 = true := qck_r (nn_ _) (by decide +kernel)
theorem bs_X11_pot_e_65 {P : Zt → Option Zv → Prop} (K : Int → Zl → List Zv → Zt → Prop) : sx_ K P [.iadd, .istore 3, .iload 4, .ifCond .ne 83, .aload 0, .tableswitch 0 11 102 #[], .iload 5, .iaload, .iconst (-1), .if_icmp .eq 87, .iconst 1, .goto 88] 87 = x_iadd (x_istore 3 (x_iload 4 (x_ifCond .ne 83 K (x_aload 0 (x_g1 111 302 (x_iload 5 (x_iaload (x_iconst (-1) (x_if_icmp .eq 87 K (x_iconst 1 (x_goto 88 K))))))))))) := ((xe_iadd).trans (congrArg (x_iadd) ((xe_istore 3).trans (congrArg (x_istore 3) ((xe_iload 4).trans (congrArg (x_iload 4) ((xe_ifCond .ne 83).trans (congrArg (x_ifCond .ne 83 K) ((xe_aload 0).trans (congrArg (x_aload 0) ((xe_g1 (kk := 111) rfl tl_11_102).trans (congrArg (x_g1 111 302) ((xe_iload 5).trans (congrArg (x_iload 5) ((xe_iaload).trans (congrArg (x_iaload) ((xe_iconst (-1)).trans (congrArg (x_iconst (-1)) ((xe_if_icmp .eq 87).trans (congrArg (x_if_icmp .eq 87 K) ((xe_iconst 1).trans (congrArg (x_iconst 1) (xe_goto 88)))))))))))))))))))))))
theorem bk_X11_pot_e_0 : ck_ fX11 (some .int) cX11_pot 0 [.iload 1, .aload 0, .tableswitch 0 11 12 #[]] 5 = true := qck_r (nn_ _) (by decide +kernel)
theorem bs_X11_pot_e_0 {P : Zt → Option Zv → Prop} (K : Int → Zl → List Zv → Zt → Prop) : sx_ K P [.iload 1, .aload 0, .tableswitch 0 11 12 #[]] 5 = x_iload 1 (x_aload 0 (x_g0 111 12 0 12 (K 5))) := ((xe_iload 1).trans (congrArg (x_iload 1) ((xe_aload 0).trans (congrArg (x_aload 0) ((xe_g0 (kk := 111) rfl tl_11_12).trans (congrArg (x_g0 111 12 0 12) xe_nil))))))
theorem bk_X11_pot_e_8 : ck_ fX11 (some .int) cX11_pot 8 [.ifCond .ne 14, .iconst (-2), .ireturn] 14 = true := qck_r (nn_ _) (by decide +kernel)
theorem bs_X11_pot_e_8 {P : Zt → Option Zv → Prop} (K : Int → Zl → List Zv → Zt → Prop) : sx_ K P [.ifCond .ne 14, .iconst (-2), .ireturn] 14 = x_ifCond .ne 14 K (x_iconst (-2) (x_ireturn P)) := ((xe_ifCond .ne 14).trans (congrArg (x_ifCond .ne 14 K) ((xe_iconst (-2)).trans (congrArg (x_iconst (-2)) (xe_ireturn)))))
theorem bk_X11_pot_e_14 : ck_ fX11 (some .int) cX11_pot 14 [.iload 2, .iconst 0, .iconst 2] 17 = true := qck_r (nn_ _) (by decide +kernel)
theorem bs_X11_pot_e_14 {P : Zt → Option Zv → Prop} (K : Int → Zl → List Zv → Zt → Prop) : sx_ K P [.iload 2, .iconst 0, .iconst 2] 17 = x_iload 2 (x_iconst 0 (x_iconst 2 (K 17))) := ((xe_iload 2).trans (congrArg (x_iload 2) ((xe_iconst 0).trans (congrArg (x_iconst 0) ((xe_iconst 2).trans (congrArg (x_iconst 2) xe_nil))))))
theorem bk_X11_pot_e_20 : ck_ fX11 (some .int) cX11_pot 20 [.ifCond .ne 26, .iconst (-3), .ireturn] 26 = true := qck_r (nn_ _) (by decide +kernel)
theorem bs_X11_pot_e_20 {P : Zt → Option Zv → Prop} (K : Int → Zl → List Zv → Zt → Prop) : sx_ K P [.ifCond .ne 26, .iconst (-3), .ireturn] 26 = x_ifCond .ne 26 K (x_iconst (-3) (x_ireturn P)) := ((xe_ifCond .ne 26).trans (congrArg (x_ifCond .ne 26 K) ((xe_iconst (-3)).trans (congrArg (x_iconst (-3)) (xe_ireturn)))))
theorem bk_X11_pot_e_26 : ck_ fX11 (some .int) cX11_pot 26 [.iconst 0, .istore 3, .iconst 0, .istore 4, .iconst 0, .istore 5] 34 = true := qck_r (nn_ _) (by decide +kernel)
theorem bs_X11_pot_e_26 {P : Zt → Option Zv → Prop} (K : Int → Zl → List Zv → Zt → Prop) : sx_ K P [.iconst 0, .istore 3, .iconst 0, .istore 4, .iconst 0, .istore 5] 34 = x_iconst 0 (x_istore 3 (x_iconst 0 (x_istore 4 (x_iconst 0 (x_istore 5 (K 34)))))) := ((xe_iconst 0).trans (congrArg (x_iconst 0) ((xe_istore 3).trans (congrArg (x_istore 3) ((xe_iconst 0).trans (congrArg (x_iconst 0) ((xe_istore 4).trans (congrArg (x_istore 4) ((xe_iconst 0).trans (congrArg (x_iconst 0) ((xe_istore 5).trans (congrArg (x_istore 5) xe_nil))))))))))))
abbrev po_X11_pot_e (T : Zt) (cl p : Int) : Zt → Option Zv → Prop := fun T' r => ∃ x : Int, r = some (vI x) ∧ fr_ [(301, [])] T T' ∧ (x = x ∧ PTR_ T T' cl p x)
set_option maxHeartbeats 4000000 in
theorem ct_X11_pot_e {T : Zt} {cl p : Int} : Ct_ yX11_pot zX11_pot T [vR 111 0, vI cl, vI p] (po_X11_pot_e T cl p) := by
  refine ct_of pn_11 rfl rfl (Nat.le_of_ble_eq_true rfl) (fun hT hav => ?_)
  have hr_cl : -2147483648 ≤ cl ∧ cl ≤ 2147483647 := hav (vI cl) (List.mem_cons_of_mem _ List.mem_cons_self)
  have hr_p : -2147483648 ≤ p ∧ p ≤ 2147483647 := hav (vI p) (List.mem_cons_of_mem _ (List.mem_cons_of_mem _ List.mem_cons_self))
  have hz : zX11_pot.2.2.2.1 = some .boolean → ∀ (T' : Zt) (x : Int), po_X11_pot_e T cl p T' (some (vI x)) → 0 ≤ x ∧ x ≤ 1 := fun h => by cases h
  have hb_12 : 0 ≤ T 111 0 12 ∧ T 111 0 12 ≤ 12 := bd_f hT 111 12 tl_11_12 0
  have hb_99 : 0 ≤ T 111 0 99 ∧ T 111 0 99 ≤ 4 := bd_f hT 111 99 tl_11_99 0
  show J_ zX11_pot T (po_X11_pot_e T cl p) 0 0 0 [some (vR 111 0), some (vI cl), some (vI p), none, none, none] [] T
  have c_34 : ∀ (nn : Nat) (n : Int) (g : Int) (k : Int), ((12 - k).toNat) ≤ nn → (0 ≤ k ∧ k ≤ 12 ∧ (0 ≤ cl ∧ cl < T 111 0 12) ∧ 0 ≤ p ∧ p ≤ 2 ∧ 0 ≤ n ∧ n ≤ k) → (n = cnz_ (fun j => T 301 0 j) p k.toNat) → ((g = 1 ∧ cnz_ (fun j => T 302 0 j) (-1) k.toNat < k) ∨ (g = 0 ∧ cnz_ (fun j => T 302 0 j) (-1) k.toNat = k)) → J_ zX11_pot T (po_X11_pot_e T cl p) 0 0 34 [some (vR 111 0), some (vI cl), some (vI p), some (vI n), some (vI g), some (vI k)] [] T := by
    intro nn
    induction nn using Nat.strongRecOn with
    | _ nn ih_34 =>
      intro n g k hm_34 i1 hn hg
      replace hm_34 := fun (_ : Unit) => hm_34
      refine j_blx (F := fX11) tb_X11 (nn_ _) bk_X11_pot_e_34 bs_X11_pot_e_34 hz (fun K hK => ?_)
      refine And.intro (fun c1 => ?_) (fun c1 => ?_)
      · refine hK 96 _ [] T ?_
        have ke : T 111 0 98 ≠ 0 → k = 12 := fun z => by omega
        have kn : T 111 0 98 ≠ 0 → n = cnz_ (fun j => T 301 0 j) p 12 := fun z => by have y := hn; rw [ke z] at y; exact y
        have kg : T 111 0 98 ≠ 0 → (g = 1 ∧ cnz_ (fun j => T 302 0 j) (-1) 12 < 12) ∨ (g = 0 ∧ cnz_ (fun j => T 302 0 j) (-1) 12 = 12) := fun z => by have y := hg; rw [ke z] at y; exact y
        refine j_blx (F := fX11) tb_X11 (nn_ _) bk_X11_pot_e_96 bs_X11_pot_e_96 hz (fun K hK => ?_)
        intro b2 b2b
        refine And.intro (fun c3 => ?_) (fun c3 => ?_)
        · refine hK 116 _ [] T ?_
          refine j_blx (F := fX11) tb_X11 (nn_ _) bk_X11_pot_e_116 bs_X11_pot_e_116 hz (fun K hK => ?_)
          refine (show po_X11_pot_e T cl p T (some (vI (-4))) from ?_)
          exact ⟨_, rfl, fr_0 _ _, rfl, Or.inl ⟨rfl, Or.inr (Or.inr (Or.inl ⟨by omega, by omega, rfl, by omega⟩))⟩⟩
        · have kn2 := kn (by omega)
          have kg2 := kg (by omega)
          refine hK 105 _ [vI cl, vR 111 0] T ?_
          refine j_callV (y := yX11_isInDraw) (Yc := zX11_isInDraw) (rest := []) [vI cl] (ct_X11_isInDraw (T := T) (by omega)) cl_X11_585 (qd_c (by decide +kernel)) (nn_ _) rfl (rf_of rfl) (Nat.le_of_ble_eq_true rfl) (Nat.le_of_ble_eq_true rfl) (Nat.le_of_ble_eq_true rfl) rfl ?_
          rintro _ _ ⟨rfl, x4, rfl, hx4⟩
          show J_ zX11_pot T (po_X11_pot_e T cl p) 0 0 108 _ [vI x4] T
          refine j_blx (F := fX11) tb_X11 (nn_ _) bk_X11_pot_e_108 bs_X11_pot_e_108 hz (fun K hK => ?_)
          refine And.intro (fun c5 => ?_) (fun c5 => ?_)
          · replace hx4 := hx4.resolve_right (fun z => c5 z.1)
            clear c5
            refine hK 116 _ [] T ?_
            refine j_blx (F := fX11) tb_X11 (nn_ _) bk_X11_pot_e_116 bs_X11_pot_e_116 hz (fun K hK => ?_)
            refine (show po_X11_pot_e T cl p T (some (vI (-4))) from ?_)
            exact ⟨_, rfl, fr_0 _ _, rfl, Or.inl ⟨rfl, Or.inr (Or.inr (Or.inl ⟨by omega, by omega, rfl, by omega⟩))⟩⟩
          · replace hx4 := hx4.resolve_left (fun z => absurd (c5.symm.trans z.1) (by decide))
            clear c5
            refine And.intro (fun c6 => ?_) (fun c6 => ?_)
            · refine hK 119 _ [] T ?_
              refine j_blx (F := fX11) tb_X11 (nn_ _) bk_X11_pot_e_119 bs_X11_pot_e_119 hz (fun K hK => ?_)
              intro b7 b7b
              refine And.intro (fun c8 => ?_) (fun c8 => ?_)
              · refine hK 130 _ [] T ?_
                refine j_blx (F := fX11) tb_X11 (nn_ _) bk_X11_pot_e_130 bs_X11_pot_e_130 hz (fun K hK => ?_)
                refine iy_i (by omega) (by omega) ?_
                refine x_nm (fun U9 hU9 => ?_)
                have e10 := up_f hU9
                refine rg_i (by omega) ?_
                refine (show po_X11_pot_e T cl p U9 (some (vI (n + 1))) from ?_)
                exact ⟨_, rfl, fr_u (fr_0 _ _) hU9 rfl, rfl, Or.inr ⟨by omega, by omega, by omega, by omega, by omega, up_f hU9, fun j hj => up_g hU9 (fun q => hj q.2.2)⟩⟩
              · refine (show po_X11_pot_e T cl p T (some (vI (-5))) from ?_)
                exact ⟨_, rfl, fr_0 _ _, rfl, Or.inl ⟨rfl, Or.inr (Or.inr (Or.inr ⟨by omega, by omega, by omega, rfl, by omega⟩))⟩⟩
            · refine (show po_X11_pot_e T cl p T (some (vI (-4))) from ?_)
              exact ⟨_, rfl, fr_0 _ _, rfl, Or.inl ⟨rfl, Or.inr (Or.inr (Or.inl ⟨by omega, by omega, rfl, by omega⟩))⟩⟩
      · intro b11 b11b
        refine And.intro (fun c12 => ?_) (fun c12 => ?_)
        · refine hK 96 _ [] T ?_
          have ke : T 111 0 98 ≠ 0 → k = 12 := fun z => by omega
          have kn : T 111 0 98 ≠ 0 → n = cnz_ (fun j => T 301 0 j) p 12 := fun z => by have y := hn; rw [ke z] at y; exact y
          have kg : T 111 0 98 ≠ 0 → (g = 1 ∧ cnz_ (fun j => T 302 0 j) (-1) 12 < 12) ∨ (g = 0 ∧ cnz_ (fun j => T 302 0 j) (-1) 12 = 12) := fun z => by have y := hg; rw [ke z] at y; exact y
          refine j_blx (F := fX11) tb_X11 (nn_ _) bk_X11_pot_e_96 bs_X11_pot_e_96 hz (fun K hK => ?_)
          intro b13 b13b
          refine And.intro (fun c14 => ?_) (fun c14 => ?_)
          · refine hK 116 _ [] T ?_
            refine j_blx (F := fX11) tb_X11 (nn_ _) bk_X11_pot_e_116 bs_X11_pot_e_116 hz (fun K hK => ?_)
            refine (show po_X11_pot_e T cl p T (some (vI (-4))) from ?_)
            exact ⟨_, rfl, fr_0 _ _, rfl, Or.inl ⟨rfl, Or.inr (Or.inr (Or.inl ⟨by omega, by omega, rfl, by omega⟩))⟩⟩
          · have kn2 := kn (by omega)
            have kg2 := kg (by omega)
            refine hK 105 _ [vI cl, vR 111 0] T ?_
            refine j_callV (y := yX11_isInDraw) (Yc := zX11_isInDraw) (rest := []) [vI cl] (ct_X11_isInDraw (T := T) (by omega)) cl_X11_585 (qd_c (by decide +kernel)) (nn_ _) rfl (rf_of rfl) (Nat.le_of_ble_eq_true rfl) (Nat.le_of_ble_eq_true rfl) (Nat.le_of_ble_eq_true rfl) rfl ?_
            rintro _ _ ⟨rfl, x15, rfl, hx15⟩
            show J_ zX11_pot T (po_X11_pot_e T cl p) 0 0 108 _ [vI x15] T
            refine j_blx (F := fX11) tb_X11 (nn_ _) bk_X11_pot_e_108 bs_X11_pot_e_108 hz (fun K hK => ?_)
            refine And.intro (fun c16 => ?_) (fun c16 => ?_)
            · replace hx15 := hx15.resolve_right (fun z => c16 z.1)
              clear c16
              refine hK 116 _ [] T ?_
              refine j_blx (F := fX11) tb_X11 (nn_ _) bk_X11_pot_e_116 bs_X11_pot_e_116 hz (fun K hK => ?_)
              refine (show po_X11_pot_e T cl p T (some (vI (-4))) from ?_)
              exact ⟨_, rfl, fr_0 _ _, rfl, Or.inl ⟨rfl, Or.inr (Or.inr (Or.inl ⟨by omega, by omega, rfl, by omega⟩))⟩⟩
            · replace hx15 := hx15.resolve_left (fun z => absurd (c16.symm.trans z.1) (by decide))
              clear c16
              refine And.intro (fun c17 => ?_) (fun c17 => ?_)
              · refine hK 119 _ [] T ?_
                refine j_blx (F := fX11) tb_X11 (nn_ _) bk_X11_pot_e_119 bs_X11_pot_e_119 hz (fun K hK => ?_)
                intro b18 b18b
                refine And.intro (fun c19 => ?_) (fun c19 => ?_)
                · refine hK 130 _ [] T ?_
                  refine j_blx (F := fX11) tb_X11 (nn_ _) bk_X11_pot_e_130 bs_X11_pot_e_130 hz (fun K hK => ?_)
                  refine iy_i (by omega) (by omega) ?_
                  refine x_nm (fun U20 hU20 => ?_)
                  have e21 := up_f hU20
                  refine rg_i (by omega) ?_
                  refine (show po_X11_pot_e T cl p U20 (some (vI (n + 1))) from ?_)
                  exact ⟨_, rfl, fr_u (fr_0 _ _) hU20 rfl, rfl, Or.inr ⟨by omega, by omega, by omega, by omega, by omega, up_f hU20, fun j hj => up_g hU20 (fun q => hj q.2.2)⟩⟩
                · refine (show po_X11_pot_e T cl p T (some (vI (-5))) from ?_)
                  exact ⟨_, rfl, fr_0 _ _, rfl, Or.inl ⟨rfl, Or.inr (Or.inr (Or.inr ⟨by omega, by omega, by omega, rfl, by omega⟩))⟩⟩
              · refine (show po_X11_pot_e T cl p T (some (vI (-4))) from ?_)
                exact ⟨_, rfl, fr_0 _ _, rfl, Or.inl ⟨rfl, Or.inr (Or.inr (Or.inl ⟨by omega, by omega, rfl, by omega⟩))⟩⟩
        · refine ix_i (by omega) ?_
          intro b22 b22b
          refine And.intro (fun c23 => ?_) (fun c23 => ?_)
          · refine hK 64 _ [vI n] T ?_
            refine j_blx (F := fX11) tb_X11 (nn_ _) bk_X11_pot_e_64 bs_X11_pot_e_64 hz (fun K hK => ?_)
            refine rg_i (by omega) ?_
            refine And.intro (fun c24 => ?_) (fun c24 => ?_)
            · refine hK 83 [some (vR 111 0), some (vI cl), some (vI p), some (vI (n + 0)), some (vI g), some (vI k)] [] T ?_
              refine j_blx (F := fX11) tb_X11 (nn_ _) bk_X11_pot_e_83 bs_X11_pot_e_83 hz (fun K hK => ?_)
              refine hK 88 _ [vI 1] T ?_
              refine j_blx (F := fX11) tb_X11 (nn_ _) bk_X11_pot_e_88 bs_X11_pot_e_88 hz (fun K hK => ?_)
              refine rg_i (by omega) ?_
              refine hK 34 [some (vR 111 0), some (vI cl), some (vI p), some (vI (n + 0)), some (vI 1), some (vI (k + 1))] [] T ?_
              refine ih_34 _ ?_ (n + 0) 1 (k + 1) (Nat.le_refl _) ?_ ?_ ?_
              · have hm_34 := hm_34 (); omega
              · omega
              · rw [cnz_f (f := (fun j => T 301 0 j)) (v := p) (k := k) (by omega) (show ¬ T 301 0 k = p by omega)]; omega
              · first
                | (have y := cnz_t (f := (fun j => T 302 0 j)) (v := -1) (k := k) (by omega) (show T 302 0 k = -1 by omega); omega)
                | (have y := cnz_f (f := (fun j => T 302 0 j)) (v := -1) (k := k) (by omega) (show ¬ T 302 0 k = -1 by omega); have y2 := cnz_b (fun j => T 302 0 j) (-1) k.toNat; omega)
                | (have y2 := cnz_b (fun j => T 302 0 j) (-1) k.toNat; by_cases z : T 302 0 k = -1
                   · have y := cnz_t (f := (fun j => T 302 0 j)) (v := -1) (k := k) (by omega) z; omega
                   · have y := cnz_f (f := (fun j => T 302 0 j)) (v := -1) (k := k) (by omega) z; omega)
            · refine ix_i (by omega) ?_
              intro b25 b25b
              refine And.intro (fun c26 => ?_) (fun c26 => ?_)
              · refine hK 87 [some (vR 111 0), some (vI cl), some (vI p), some (vI (n + 0)), some (vI g), some (vI k)] [] T ?_
                refine j_blx (F := fX11) tb_X11 (nn_ _) bk_X11_pot_e_87 bs_X11_pot_e_87 hz (fun K hK => ?_)
                refine rg_i (by omega) ?_
                refine hK 34 [some (vR 111 0), some (vI cl), some (vI p), some (vI (n + 0)), some (vI 0), some (vI (k + 1))] [] T ?_
                refine ih_34 _ ?_ (n + 0) 0 (k + 1) (Nat.le_refl _) ?_ ?_ ?_
                · have hm_34 := hm_34 (); omega
                · omega
                · rw [cnz_f (f := (fun j => T 301 0 j)) (v := p) (k := k) (by omega) (show ¬ T 301 0 k = p by omega)]; omega
                · first
                  | (have y := cnz_t (f := (fun j => T 302 0 j)) (v := -1) (k := k) (by omega) (show T 302 0 k = -1 by omega); omega)
                  | (have y := cnz_f (f := (fun j => T 302 0 j)) (v := -1) (k := k) (by omega) (show ¬ T 302 0 k = -1 by omega); have y2 := cnz_b (fun j => T 302 0 j) (-1) k.toNat; omega)
                  | (have y2 := cnz_b (fun j => T 302 0 j) (-1) k.toNat; by_cases z : T 302 0 k = -1
                     · have y := cnz_t (f := (fun j => T 302 0 j)) (v := -1) (k := k) (by omega) z; omega
                     · have y := cnz_f (f := (fun j => T 302 0 j)) (v := -1) (k := k) (by omega) z; omega)
              · refine hK 88 [some (vR 111 0), some (vI cl), some (vI p), some (vI (n + 0)), some (vI g), some (vI k)] [vI 1] T ?_
                refine j_blx (F := fX11) tb_X11 (nn_ _) bk_X11_pot_e_88 bs_X11_pot_e_88 hz (fun K hK => ?_)
                refine rg_i (by omega) ?_
                refine hK 34 [some (vR 111 0), some (vI cl), some (vI p), some (vI (n + 0)), some (vI 1), some (vI (k + 1))] [] T ?_
                refine ih_34 _ ?_ (n + 0) 1 (k + 1) (Nat.le_refl _) ?_ ?_ ?_
                · have hm_34 := hm_34 (); omega
                · omega
                · rw [cnz_f (f := (fun j => T 301 0 j)) (v := p) (k := k) (by omega) (show ¬ T 301 0 k = p by omega)]; omega
                · first
                  | (have y := cnz_t (f := (fun j => T 302 0 j)) (v := -1) (k := k) (by omega) (show T 302 0 k = -1 by omega); omega)
                  | (have y := cnz_f (f := (fun j => T 302 0 j)) (v := -1) (k := k) (by omega) (show ¬ T 302 0 k = -1 by omega); have y2 := cnz_b (fun j => T 302 0 j) (-1) k.toNat; omega)
                  | (have y2 := cnz_b (fun j => T 302 0 j) (-1) k.toNat; by_cases z : T 302 0 k = -1
                     · have y := cnz_t (f := (fun j => T 302 0 j)) (v := -1) (k := k) (by omega) z; omega
                     · have y := cnz_f (f := (fun j => T 302 0 j)) (v := -1) (k := k) (by omega) z; omega)
          · refine hK 65 _ [vI 1, vI n] T ?_
            refine j_blx (F := fX11) tb_X11 (nn_ _) bk_X11_pot_e_65 bs_X11_pot_e_65 hz (fun K hK => ?_)
            refine rg_i (by omega) ?_
            refine And.intro (fun c27 => ?_) (fun c27 => ?_)
            · refine hK 83 [some (vR 111 0), some (vI cl), some (vI p), some (vI (n + 1)), some (vI g), some (vI k)] [] T ?_
              refine j_blx (F := fX11) tb_X11 (nn_ _) bk_X11_pot_e_83 bs_X11_pot_e_83 hz (fun K hK => ?_)
              refine hK 88 _ [vI 1] T ?_
              refine j_blx (F := fX11) tb_X11 (nn_ _) bk_X11_pot_e_88 bs_X11_pot_e_88 hz (fun K hK => ?_)
              refine rg_i (by omega) ?_
              refine hK 34 [some (vR 111 0), some (vI cl), some (vI p), some (vI (n + 1)), some (vI 1), some (vI (k + 1))] [] T ?_
              refine ih_34 _ ?_ (n + 1) 1 (k + 1) (Nat.le_refl _) ?_ ?_ ?_
              · have hm_34 := hm_34 (); omega
              · omega
              · rw [cnz_t (f := (fun j => T 301 0 j)) (v := p) (k := k) (by omega) (show T 301 0 k = p by omega)]; omega
              · first
                | (have y := cnz_t (f := (fun j => T 302 0 j)) (v := -1) (k := k) (by omega) (show T 302 0 k = -1 by omega); omega)
                | (have y := cnz_f (f := (fun j => T 302 0 j)) (v := -1) (k := k) (by omega) (show ¬ T 302 0 k = -1 by omega); have y2 := cnz_b (fun j => T 302 0 j) (-1) k.toNat; omega)
                | (have y2 := cnz_b (fun j => T 302 0 j) (-1) k.toNat; by_cases z : T 302 0 k = -1
                   · have y := cnz_t (f := (fun j => T 302 0 j)) (v := -1) (k := k) (by omega) z; omega
                   · have y := cnz_f (f := (fun j => T 302 0 j)) (v := -1) (k := k) (by omega) z; omega)
            · refine ix_i (by omega) ?_
              intro b28 b28b
              refine And.intro (fun c29 => ?_) (fun c29 => ?_)
              · refine hK 87 [some (vR 111 0), some (vI cl), some (vI p), some (vI (n + 1)), some (vI g), some (vI k)] [] T ?_
                refine j_blx (F := fX11) tb_X11 (nn_ _) bk_X11_pot_e_87 bs_X11_pot_e_87 hz (fun K hK => ?_)
                refine rg_i (by omega) ?_
                refine hK 34 [some (vR 111 0), some (vI cl), some (vI p), some (vI (n + 1)), some (vI 0), some (vI (k + 1))] [] T ?_
                refine ih_34 _ ?_ (n + 1) 0 (k + 1) (Nat.le_refl _) ?_ ?_ ?_
                · have hm_34 := hm_34 (); omega
                · omega
                · rw [cnz_t (f := (fun j => T 301 0 j)) (v := p) (k := k) (by omega) (show T 301 0 k = p by omega)]; omega
                · first
                  | (have y := cnz_t (f := (fun j => T 302 0 j)) (v := -1) (k := k) (by omega) (show T 302 0 k = -1 by omega); omega)
                  | (have y := cnz_f (f := (fun j => T 302 0 j)) (v := -1) (k := k) (by omega) (show ¬ T 302 0 k = -1 by omega); have y2 := cnz_b (fun j => T 302 0 j) (-1) k.toNat; omega)
                  | (have y2 := cnz_b (fun j => T 302 0 j) (-1) k.toNat; by_cases z : T 302 0 k = -1
                     · have y := cnz_t (f := (fun j => T 302 0 j)) (v := -1) (k := k) (by omega) z; omega
                     · have y := cnz_f (f := (fun j => T 302 0 j)) (v := -1) (k := k) (by omega) z; omega)
              · refine hK 88 [some (vR 111 0), some (vI cl), some (vI p), some (vI (n + 1)), some (vI g), some (vI k)] [vI 1] T ?_
                refine j_blx (F := fX11) tb_X11 (nn_ _) bk_X11_pot_e_88 bs_X11_pot_e_88 hz (fun K hK => ?_)
                refine rg_i (by omega) ?_
                refine hK 34 [some (vR 111 0), some (vI cl), some (vI p), some (vI (n + 1)), some (vI 1), some (vI (k + 1))] [] T ?_
                refine ih_34 _ ?_ (n + 1) 1 (k + 1) (Nat.le_refl _) ?_ ?_ ?_
                · have hm_34 := hm_34 (); omega
                · omega
                · rw [cnz_t (f := (fun j => T 301 0 j)) (v := p) (k := k) (by omega) (show T 301 0 k = p by omega)]; omega
                · first
                  | (have y := cnz_t (f := (fun j => T 302 0 j)) (v := -1) (k := k) (by omega) (show T 302 0 k = -1 by omega); omega)
                  | (have y := cnz_f (f := (fun j => T 302 0 j)) (v := -1) (k := k) (by omega) (show ¬ T 302 0 k = -1 by omega); have y2 := cnz_b (fun j => T 302 0 j) (-1) k.toNat; omega)
                  | (have y2 := cnz_b (fun j => T 302 0 j) (-1) k.toNat; by_cases z : T 302 0 k = -1
                     · have y := cnz_t (f := (fun j => T 302 0 j)) (v := -1) (k := k) (by omega) z; omega
                     · have y := cnz_f (f := (fun j => T 302 0 j)) (v := -1) (k := k) (by omega) z; omega)
  refine j_blx (F := fX11) tb_X11 (nn_ _) bk_X11_pot_e_0 bs_X11_pot_e_0 hz (fun K hK => ?_)
  intro b30 b30b
  refine hK 5 _ [vI (T 111 0 12), vI cl] T ?_
  refine j_callS (y := yX11_isOf) (Yc := zX11_isOf) (rest := []) [vI cl, vI (T 111 0 12)] (ct_X11_isOf (T := T) (by omega)) cl_X11_317 (qd_c (by decide +kernel)) (nn_ _) rfl (rf_of rfl) (Nat.le_of_ble_eq_true rfl) (Nat.le_of_ble_eq_true rfl) (Nat.le_of_ble_eq_true rfl) rfl ?_
  rintro _ _ ⟨rfl, x31, rfl, hx31⟩
  show J_ zX11_pot T (po_X11_pot_e T cl p) 0 0 8 _ [vI x31] T
  refine j_blx (F := fX11) tb_X11 (nn_ _) bk_X11_pot_e_8 bs_X11_pot_e_8 hz (fun K hK => ?_)
  refine And.intro (fun c32 => ?_) (fun c32 => ?_)
  · replace hx31 := hx31.resolve_right (fun z => c32 z.1)
    clear c32
    refine hK 14 _ [] T ?_
    refine j_blx (F := fX11) tb_X11 (nn_ _) bk_X11_pot_e_14 bs_X11_pot_e_14 hz (fun K hK => ?_)
    refine hK 17 _ [vI 2, vI 0, vI p] T ?_
    refine j_callS (y := yX11_in) (Yc := zX11_in) (rest := []) [vI p, vI 0, vI 2] (ct_X11_in (T := T)) cl_X11_255 (qd_c (by decide +kernel)) (nn_ _) rfl (rf_of rfl) (Nat.le_of_ble_eq_true rfl) (Nat.le_of_ble_eq_true rfl) (Nat.le_of_ble_eq_true rfl) rfl ?_
    rintro _ _ ⟨rfl, x33, rfl, hx33⟩
    show J_ zX11_pot T (po_X11_pot_e T cl p) 0 0 20 _ [vI x33] T
    refine j_blx (F := fX11) tb_X11 (nn_ _) bk_X11_pot_e_20 bs_X11_pot_e_20 hz (fun K hK => ?_)
    refine And.intro (fun c34 => ?_) (fun c34 => ?_)
    · replace hx33 := hx33.resolve_right (fun z => c34 z.1)
      clear c34
      refine hK 26 _ [] T ?_
      refine j_blx (F := fX11) tb_X11 (nn_ _) bk_X11_pot_e_26 bs_X11_pot_e_26 hz (fun K hK => ?_)
      refine hK 34 [some (vR 111 0), some (vI cl), some (vI p), some (vI 0), some (vI 0), some (vI 0)] [] T ?_
      refine c_34 _ 0 0 0 (Nat.le_refl _) ?_ ?_ ?_
      · omega
      · rfl
      · exact Or.inr ⟨rfl, rfl⟩
    · replace hx33 := hx33.resolve_left (fun z => absurd (c34.symm.trans z.1) (by decide))
      clear c34
      refine (show po_X11_pot_e T cl p T (some (vI (-3))) from ?_)
      exact ⟨_, rfl, fr_0 _ _, rfl, Or.inl ⟨rfl, Or.inr (Or.inl ⟨by omega, rfl, by omega⟩)⟩⟩
  · replace hx31 := hx31.resolve_left (fun z => absurd (c32.symm.trans z.1) (by decide))
    clear c32
    refine (show po_X11_pot_e T cl p T (some (vI (-2))) from ?_)
    exact ⟨_, rfl, fr_0 _ _, rfl, Or.inl ⟨rfl, Or.inl ⟨rfl, by omega⟩⟩⟩
