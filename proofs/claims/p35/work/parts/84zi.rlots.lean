-- the draw's calls of the reference
def PTR_ (T T' : Zt) (c k x : Int) : Prop := (T' = T ∧ ((x = -2 ∧ ¬ (0 ≤ c ∧ c < T 111 0 12)) ∨ ((0 ≤ c ∧ c < T 111 0 12) ∧ x = -3 ∧ ¬ (0 ≤ k ∧ k < 3)) ∨ ((0 ≤ c ∧ c < T 111 0 12) ∧ (0 ≤ k ∧ k < 3) ∧ x = -4 ∧ (T 111 0 98 = 0 ∨ T 301 0 c ≠ -1 ∨ cnz_ (fun j => T 302 0 j) (-1) 12 < 12)) ∨ ((0 ≤ c ∧ c < T 111 0 12) ∧ (0 ≤ k ∧ k < 3) ∧ ¬ (T 111 0 98 = 0 ∨ T 301 0 c ≠ -1 ∨ cnz_ (fun j => T 302 0 j) (-1) 12 < 12) ∧ x = -5 ∧ cnz_ (fun j => T 301 0 j) k 12 = T 111 0 99))) ∨ ((0 ≤ c ∧ c < T 111 0 12) ∧ (0 ≤ k ∧ k < 3) ∧ ¬ (T 111 0 98 = 0 ∨ T 301 0 c ≠ -1 ∨ cnz_ (fun j => T 302 0 j) (-1) 12 < 12) ∧ cnz_ (fun j => T 301 0 j) k 12 ≠ T 111 0 99 ∧ x = cnz_ (fun j => T 301 0 j) k 12 + 1 ∧ (T' 301 0 c = k ∧ ∀ j, j ≠ c → T' 301 0 j = T 301 0 j))
def WYR_ (T T' : Zt) (x : Int) : Prop := (T' = T ∧ T 111 0 98 = 0 ∧ x = -4) ∨ (T 111 0 98 ≠ 0 ∧ (∀ k, T' 302 0 k = T 302 0 k) ∧ x = (nw_ (drw_ T) (-1) (-1) (ll_ T) (gf_ T) : Nat))
def CO9_ (T T' : Zt) (c g x : Int) : Prop := (∀ k, T' 302 0 k = T 302 0 k) ∧ ((T 302 0 c ≠ -1 ∧ ((T 302 0 c = g ∧ x = (nw_ (drw_ T) (-1) (-1) (ll_ T) (gf_ T) : Nat)) ∨ (T 302 0 c ≠ g ∧ x = 0))) ∨ (T 302 0 c = -1 ∧ x = (nw_ (drw_ T) c g (ll_ T) (gf_ T) : Nat)))
def CHR_ (T T' : Zt) (c g x : Int) : Prop := (T' = T ∧ ((x = -2 ∧ ¬ ((0 ≤ c ∧ c < T 111 0 12) ∧ T 111 0 98 ≠ 0 ∧ T 301 0 c ≠ -1)) ∨ (((0 ≤ c ∧ c < T 111 0 12) ∧ T 111 0 98 ≠ 0 ∧ T 301 0 c ≠ -1) ∧ x = -3 ∧ ¬ (0 ≤ g ∧ g < T 111 0 99)))) ∨ (((0 ≤ c ∧ c < T 111 0 12) ∧ T 111 0 98 ≠ 0 ∧ T 301 0 c ≠ -1) ∧ (0 ≤ g ∧ g < T 111 0 99) ∧ CO9_ T T' c g x)
def DWR_ (T : Zt) (c x : Int) : Prop := (x = -2 ∧ ¬ (0 ≤ c ∧ c < T 111 0 12)) ∨ ((0 ≤ c ∧ c < T 111 0 12) ∧ ((T 111 0 98 = 0 ∧ x = -1) ∨ (T 111 0 98 ≠ 0 ∧ x = T 302 0 c)))
def NDR_ (T T' : Zt) (g l x : Int) : Prop := (T' = T ∧ x = -3 ∧ ¬ (1 ≤ g ∧ g ≤ 4 ∧ 1 ≤ l ∧ l ≤ 3)) ∨ ((1 ≤ g ∧ g ≤ 4 ∧ 1 ≤ l ∧ l ≤ 3) ∧ x = 1 ∧ T' 111 0 98 = 1 ∧ T' 111 0 99 = g ∧ T' 111 0 100 = l ∧ ∀ j, 0 ≤ j → j < 12 → T' 301 0 j = -1 ∧ T' 302 0 j = -1)
/-- the least pot of those that wait, below k -/
def LP9_ (T : Zt) (p k : Int) : Prop := ∀ j, 0 ≤ j → j < k → T 301 0 j ≠ -1 → T 302 0 j = -1 → p ≤ T 301 0 j
theorem lp9_s {T : Zt} {p p2 k : Int} (h : LP9_ T p k) (a : p2 ≤ p) (b : T 301 0 k ≠ -1 → T 302 0 k = -1 → p2 ≤ T 301 0 k) : LP9_ T p2 (k + 1) := fun j x y z w => by
  by_cases e : j = k
  · rw [e] at z w ⊢
    exact b z w
  · have := h j x (by omega) z w
    omega
noncomputable def BR0_ (T : Zt) : Int := (nw_ (drw_ T) (-1) (-1) (ll_ T) (gf_ T) : Nat)
/-- a ball of the reference -/
def BLR_ (T T' : Zt) (s b x : Int) : Prop := (x = -4 ∧ (∀ k, T' 302 0 k = T 302 0 k) ∧ T' 111 0 103 = T 111 0 103 ∧ (T 111 0 98 = 0 ∨ (∀ j, 0 ≤ j → j < T 111 0 12 → T 301 0 j ≠ -1 → T 302 0 j ≠ -1) ∨ BR0_ T = 0)) ∨ (T 111 0 98 ≠ 0 ∧ BR0_ T ≠ 0 ∧ ∃ s0 p c g : Int, ((b = 0 ∧ s0 = T 111 0 103) ∨ (b ≠ 0 ∧ s0 = s)) ∧ EL_ T p (T 111 0 12) ∧ LP9_ T p (T 111 0 12) ∧ (0 ≤ c ∧ c < T 111 0 12 ∧ T 301 0 c = p ∧ T 302 0 c = -1 ∧ cel_ T p c = (tb9_ (cel_ T p (T 111 0 12)) s0).1) ∧ (0 ≤ g ∧ g ≤ 3) ∧ (sgm_ T c (g - 1) ≤ (tb9_ (BR0_ T) (tb9_ (cel_ T p (T 111 0 12)) s0).2).1 ∧ (tb9_ (BR0_ T) (tb9_ (cel_ T p (T 111 0 12)) s0).2).1 < sgm_ T c g) ∧ T' 111 0 103 = (tb9_ (BR0_ T) (tb9_ (cel_ T p (T 111 0 12)) s0).2).2 ∧ T' 302 0 c = g ∧ (∀ j, j ≠ c → T' 302 0 j = T 302 0 j) ∧ x = 8 * c + g)
theorem bk_X11_pot_e_34 : ck_ fX11 (some .int) cX11_pot 34 [.iload 5, .iconst 12, .if_icmp .ge 96, .aload 0, .tableswitch 0 11 98 #[], .ifCond .eq 96, .iload 3, .aload 0, .tableswitch 0 11 101 #[], .iload 5, .iaload, .iload 2, .if_icmp .ne 64, .iconst 1, .goto 65] 64 = true := qck_r (nn_ _) (by decide +kernel)
theorem bs_X11_pot_e_34 {P : Zt → Option Zv → Prop} (K : Int → Zl → List Zv → Zt → Prop) : sx_ K P [.iload 5, .iconst 12, .if_icmp .ge 96, .aload 0, .tableswitch 0 11 98 #[], .ifCond .eq 96, .iload 3, .aload 0, .tableswitch 0 11 101 #[], .iload 5, .iaload, .iload 2, .if_icmp .ne 64, .iconst 1, .goto 65] 64 = x_iload 5 (x_iconst 12 (x_if_icmp .ge 96 K (x_aload 0 (x_g0 111 98 0 1 (x_ifCond .eq 96 K (x_iload 3 (x_aload 0 (x_g1 111 301 (x_iload 5 (x_iaload (x_iload 2 (x_if_icmp .ne 64 K (x_iconst 1 (x_goto 65 K)))))))))))))) := ((xe_iload 5).trans (congrArg (x_iload 5) ((xe_iconst 12).trans (congrArg (x_iconst 12) ((xe_if_icmp .ge 96).trans (congrArg (x_if_icmp .ge 96 K) ((xe_aload 0).trans (congrArg (x_aload 0) ((xe_g0 (kk := 111) rfl tl_11_98).trans (congrArg (x_g0 111 98 0 1) ((xe_ifCond .eq 96).trans (congrArg (x_ifCond .eq 96 K) ((xe_iload 3).trans (congrArg (x_iload 3) ((xe_aload 0).trans (congrArg (x_aload 0) ((xe_g1 (kk := 111) rfl tl_11_101).trans (congrArg (x_g1 111 301) ((xe_iload 5).trans (congrArg (x_iload 5) ((xe_iaload).trans (congrArg (x_iaload) ((xe_iload 2).trans (congrArg (x_iload 2) ((xe_if_icmp .ne 64).trans (congrArg (x_if_icmp .ne 64 K) ((xe_iconst 1).trans (congrArg (x_iconst 1) (xe_goto 65)))))))))))))))))))))))))))))
theorem bk_X11_pot_e_96 : ck_ fX11 (some .int) cX11_pot 96 [.aload 0, .tableswitch 0 11 98 #[], .ifCond .eq 116, .aload 0, .iload 1] 105 = true := qck_r (nn_ _) (by decide +kernel)
theorem bs_X11_pot_e_96 {P : Zt → Option Zv → Prop} (K : Int → Zl → List Zv → Zt → Prop) : sx_ K P [.aload 0, .tableswitch 0 11 98 #[], .ifCond .eq 116, .aload 0, .iload 1] 105 = x_aload 0 (x_g0 111 98 0 1 (x_ifCond .eq 116 K (x_aload 0 (x_iload 1 (K 105))))) := ((xe_aload 0).trans (congrArg (x_aload 0) ((xe_g0 (kk := 111) rfl tl_11_98).trans (congrArg (x_g0 111 98 0 1) ((xe_ifCond .eq 116).trans (congrArg (x_ifCond .eq 116 K) ((xe_aload 0).trans (congrArg (x_aload 0) ((xe_iload 1).trans (congrArg (x_iload 1) xe_nil))))))))))
theorem bk_X11_pot_e_116 : ck_ fX11 (some .int) cX11_pot 116 [.iconst (-4), .ireturn] 119 = true := qck_r (nn_ _) (by decide +kernel)
theorem bs_X11_pot_e_116 {P : Zt → Option Zv → Prop} (K : Int → Zl → List Zv → Zt → Prop) : sx_ K P [.iconst (-4), .ireturn] 119 = x_iconst (-4) (x_ireturn P) := ((xe_iconst (-4)).trans (congrArg (x_iconst (-4)) (xe_ireturn)))
theorem bk_X11_pot_e_108 : ck_ fX11 (some .int) cX11_pot 108 [.ifCond .ne 116, .iload 4, .ifCond .eq 119, .iconst (-4), .ireturn] 119 = true := qck_r (nn_ _) (by decide +kernel)
theorem bs_X11_pot_e_108 {P : Zt → Option Zv → Prop} (K : Int → Zl → List Zv → Zt → Prop) : sx_ K P [.ifCond .ne 116, .iload 4, .ifCond .eq 119, .iconst (-4), .ireturn] 119 = x_ifCond .ne 116 K (x_iload 4 (x_ifCond .eq 119 K (x_iconst (-4) (x_ireturn P)))) := ((xe_ifCond .ne 116).trans (congrArg (x_ifCond .ne 116 K) ((xe_iload 4).trans (congrArg (x_iload 4) ((xe_ifCond .eq 119).trans (congrArg (x_ifCond .eq 119 K) ((xe_iconst (-4)).trans (congrArg (x_iconst (-4)) (xe_ireturn)))))))))
theorem bk_X11_pot_e_119 : ck_ fX11 (some .int) cX11_pot 119 [.iload 3, .aload 0, .tableswitch 0 11 99 #[], .if_icmp .ne 130, .iconst (-5), .ireturn] 130 = true := qck_r (nn_ _) (by decide +kernel)
theorem bs_X11_pot_e_119 {P : Zt → Option Zv → Prop} (K : Int → Zl → List Zv → Zt → Prop) : sx_ K P [.iload 3, .aload 0, .tableswitch 0 11 99 #[], .if_icmp .ne 130, .iconst (-5), .ireturn] 130 = x_iload 3 (x_aload 0 (x_g0 111 99 0 4 (x_if_icmp .ne 130 K (x_iconst (-5) (x_ireturn P))))) := ((xe_iload 3).trans (congrArg (x_iload 3) ((xe_aload 0).trans (congrArg (x_aload 0) ((xe_g0 (kk := 111) rfl tl_11_99).trans (congrArg (x_g0 111 99 0 4) ((xe_if_icmp .ne 130).trans (congrArg (x_if_icmp .ne 130 K) ((xe_iconst (-5)).trans (congrArg (x_iconst (-5)) (xe_ireturn)))))))))))
theorem bk_X11_pot_e_130 : ck_ fX11 (some .int) cX11_pot 130 [.aload 0, .tableswitch 0 11 101 #[], .iload 1, .iload 2, .iastore, .iload 3, .iconst 1, .iadd, .ireturn] 141 = true := qck_r (nn_ _) (by decide +kernel)
theorem bs_X11_pot_e_130 {P : Zt → Option Zv → Prop} (K : Int → Zl → List Zv → Zt → Prop) : sx_ K P [.aload 0, .tableswitch 0 11 101 #[], .iload 1, .iload 2, .iastore, .iload 3, .iconst 1, .iadd, .ireturn] 141 = x_aload 0 (x_g1 111 301 (x_iload 1 (x_iload 2 (x_iastore (x_iload 3 (x_iconst 1 (x_iadd (x_ireturn P)))))))) := ((xe_aload 0).trans (congrArg (x_aload 0) ((xe_g1 (kk := 111) rfl tl_11_101).trans (congrArg (x_g1 111 301) ((xe_iload 1).trans (congrArg (x_iload 1) ((xe_iload 2).trans (congrArg (x_iload 2) ((xe_iastore).trans (congrArg (x_iastore) ((xe_iload 3).trans (congrArg (x_iload 3) ((xe_iconst 1).trans (congrArg (x_iconst 1) ((xe_iadd).trans (congrArg (x_iadd) (xe_ireturn)))))))))))))))))
theorem bk_X11_pot_e_64 : ck_ fX11 (some .int) cX11_pot 64 [.iconst 0, .iadd, .istore 3, .iload 4, .ifCond .ne 83, .aload 0, .tableswitch 0 11 102 #[], .iload 5, .iaload, .iconst (-1), .if_icmp .eq 87, .iconst 1, .goto 88] 87 = true := qck_r (nn_ _) (by decide +kernel)
theorem bs_X11_pot_e_64 {P : Zt → Option Zv → Prop} (K : Int → Zl → List Zv → Zt → Prop) : sx_ K P [.iconst 0, .iadd, .istore 3, .iload 4, .ifCond .ne 83, .aload 0, .tableswitch 0 11 102 #[], .iload 5, .iaload, .iconst (-1), .if_icmp .eq 87, .iconst 1, .goto 88] 87 = x_iconst 0 (x_iadd (x_istore 3 (x_iload 4 (x_ifCond .ne 83 K (x_aload 0 (x_g1 111 302 (x_iload 5 (x_iaload (x_iconst (-1) (x_if_icmp .eq 87 K (x_iconst 1 (x_goto 88 K)))))))))))) := ((xe_iconst 0).trans (congrArg (x_iconst 0) ((xe_iadd).trans (congrArg (x_iadd) ((xe_istore 3).trans (congrArg (x_istore 3) ((xe_iload 4).trans (congrArg (x_iload 4) ((xe_ifCond .ne 83).trans (congrArg (x_ifCond .ne 83 K) ((xe_aload 0).trans (congrArg (x_aload 0) ((xe_g1 (kk := 111) rfl tl_11_102).trans (congrArg (x_g1 111 302) ((xe_iload 5).trans (congrArg (x_iload 5) ((xe_iaload).trans (congrArg (x_iaload) ((xe_iconst (-1)).trans (congrArg (x_iconst (-1)) ((xe_if_icmp .eq 87).trans (congrArg (x_if_icmp .eq 87 K) ((xe_iconst 1).trans (congrArg (x_iconst 1) (xe_goto 88)))))))))))))))))))))))))
theorem bk_X11_pot_e_83 : ck_ fX11 (some .int) cX11_pot 83 [.iconst 1, .goto 88] 87 = true := qck_r (nn_ _) (by decide +kernel)
theorem bs_X11_pot_e_83 {P : Zt → Option Zv → Prop} (K : Int → Zl → List Zv → Zt → Prop) : sx_ K P [.iconst 1, .goto 88] 87 = x_iconst 1 (x_goto 88 K) := ((xe_iconst 1).trans (congrArg (x_iconst 1) (xe_goto 88)))
theorem bk_X11_pot_e_88 : ck_ fX11 (some .int) cX11_pot 88 [.istore 4, .iinc 5 1, .goto 34] 96 = true := qck_r (nn_ _) (by decide +kernel)
theorem bs_X11_pot_e_88 {P : Zt → Option Zv → Prop} (K : Int → Zl → List Zv → Zt → Prop) : sx_ K P [.istore 4, .iinc 5 1, .goto 34] 96 = x_istore 4 (x_iinc 5 1 (x_goto 34 K)) := ((xe_istore 4).trans (congrArg (x_istore 4) ((xe_iinc 5 1).trans (congrArg (x_iinc 5 1) (xe_goto 34)))))
theorem bk_X11_pot_e_87 : ck_ fX11 (some .int) cX11_pot 87 [.iconst 0, .istore 4, .iinc 5 1, .goto 34] 96 = true := qck_r (nn_ _) (by decide +kernel)
theorem bs_X11_pot_e_87 {P : Zt → Option Zv → Prop} (K : Int → Zl → List Zv → Zt → Prop) : sx_ K P [.iconst 0, .istore 4, .iinc 5 1, .goto 34] 96 = x_iconst 0 (x_istore 4 (x_iinc 5 1 (x_goto 34 K))) := ((xe_iconst 0).trans (congrArg (x_iconst 0) ((xe_istore 4).trans (congrArg (x_istore 4) ((xe_iinc 5 1).trans (congrArg (x_iinc 5 1) (xe_goto 34)))))))
theorem bk_X11_pot_e_65 : ck_ fX11 (some .int) cX11_pot 65 [.iadd, .istore 3, .iload 4, .ifCond .ne 83, .aload 0, .tableswitch 0 11 102 #[], .iload 5, .iaload, .iconst (-1), .if_icmp .eq 87, .iconst 1, .goto 88] 87 = true := qck_r (nn_ _) (by decide +kernel)
theorem bs_X11_pot_e_65 {P : Zt → Option Zv → Prop} (K : Int → Zl → List Zv → Zt → Prop) : sx_ K P [.iadd, .istore 3, .iload 4, .ifCond .ne 83, .aload 0, .tableswitch 0 11 102 #[], .iload 5, .iaload, .iconst (-1), .if_icmp .eq 87, .iconst 1, .goto 88] 87 = x_iadd (x_istore 3 (x_iload 4 (x_ifCond .ne 83 K (x_aload 0 (x_g1 111 302 (x_iload 5 (x_iaload (x_iconst (-1) (x_if_icmp .eq 87 K (x_iconst 1 (x_goto 88 K))))))))))) := ((xe_iadd).trans (congrArg (x_iadd) ((xe_istore 3).trans (congrArg (x_istore 3) ((xe_iload 4).trans (congrArg (x_iload 4) ((xe_ifCond .ne 83).trans (congrArg (x_ifCond .ne 83 K) ((xe_aload 0).trans (congrArg (x_aload 0) ((xe_g1 (kk := 111) rfl tl_11_102).trans (congrArg (x_g1 111 302) ((xe_iload 5).trans (congrArg (x_iload 5) ((xe_iaload).trans (congrArg (x_iaload) ((xe_iconst (-1)).trans (congrArg (x_iconst (-1)) ((xe_if_icmp .eq 87).trans (congrArg (x_if_icmp .eq 87 K) ((xe_iconst 1).trans (congrArg (x_iconst 1) (xe_goto 88)))))))))))))))))))))))
theorem bk_X11_pot_e_0 : ck_ fX11 (some .int) cX11_pot 0 [.iload 1, .aload 0, .tableswitch 0 11 12 #[]] 5 = true := qck_r (nn_ _) (by decide +kernel)
theorem bs_X11_pot_e_0 {P : Zt → Option Zv → Prop} (K : Int → Zl → List Zv → Zt → Prop) : sx_ K P [.iload 1, .aload 0, .tableswitch 0 11 12 #[]] 5 = x_iload 1 (x_aload 0 (x_g0 111 12 0 12 (K 5))) := ((xe_iload 1).trans (congrArg (x_iload 1) ((xe_aload 0).trans (congrArg (x_aload 0) ((xe_g0 (kk := 111) rfl tl_11_12).trans (congrArg (x_g0 111 12 0 12) xe_nil))))))
theorem bk_X11_pot_e_8 : ck_ fX11 (some .int) cX11_pot 8 [.ifCond .ne 14, .iconst (-2), .ireturn] 14 = true := qck_r (nn_ _) (by decide +kernel)
theorem bs_X11_pot_e_8 {P : Zt → Option Zv → Prop} (K : Int → Zl → List Zv → Zt → Prop) : sx_ K P [.ifCond .ne 14, .iconst (-2), .ireturn] 14 = x_ifCond .ne 14 K (x_iconst (-2) (x_ireturn P)) := ((xe_ifCond .ne 14).trans (congrArg (x_ifCond .ne 14 K) ((xe_iconst (-2)).trans (congrArg (x_iconst (-2)) (xe_ireturn)))))
theorem bk_X11_pot_e_14 : ck_ fX11 (some .int) cX11_pot 14 [.iload 2, .iconst 0, .iconst 2] 17 = true := qck_r (nn_ _) (by decide +kernel)
theorem bs_X11_pot_e_14 {P : Zt → Option Zv → Prop} (K : Int → Zl → List Zv → Zt → Prop) : sx_ K P [.iload 2, .iconst 0, .iconst 2] 17 = x_iload 2 (x_iconst 0 (x_iconst 2 (K 17))) := ((xe_iload 2).trans (congrArg (x_iload 2) ((xe_iconst 0).trans (congrArg (x_iconst 0) ((xe_iconst 2).trans (congrArg (x_iconst 2) xe_nil))))))
theorem bk_X11_pot_e_20 : ck_ fX11 (some .int) cX11_pot 20 [.ifCond .ne 26, .iconst (-3), .ireturn] 26 = true := qck_r (nn_ _) (by decide +kernel)
theorem bs_X11_pot_e_20 {P : Zt → Option Zv → Prop} (K : Int → Zl → List Zv → Zt → Prop) : sx_ K P [.ifCond .ne 26, .iconst (-3), .ireturn] 26 = x_ifCond .ne 26 K (x_iconst (-3) (x_ireturn P)) := ((xe_ifCond .ne 26).trans (congrArg (x_ifCond .ne 26 K) ((xe_iconst (-3)).trans (congrArg (x_iconst (-3)) (xe_ireturn)))))
theorem bk_X11_pot_e_26 : ck_ fX11 (some .int) cX11_pot 26 [.iconst 0, .istore 3, .iconst 0, .istore 4, .iconst 0, .istore 5] 34 = true := qck_r (nn_ _) (by decide +kernel)
theorem bs_X11_pot_e_26 {P : Zt → Option Zv → Prop} (K : Int → Zl → List Zv → Zt → Prop) : sx_ K P [.iconst 0, .istore 3, .iconst 0, .istore 4, .iconst 0, .istore 5] 34 = x_iconst 0 (x_istore 3 (x_iconst 0 (x_istore 4 (x_iconst 0 (x_istore 5 (K 34)))))) := ((xe_iconst 0).trans (congrArg (x_iconst 0) ((xe_istore 3).trans (congrArg (x_istore 3) ((xe_iconst 0).trans (congrArg (x_iconst 0) ((xe_istore 4).trans (congrArg (x_istore 4) ((xe_iconst 0).trans (congrArg (x_iconst 0) ((xe_istore 5).trans (congrArg (x_istore 5) xe_nil))))))))))))
abbrev po_X11_pot_e (T : Zt) (cl p : Int) : Zt → Option Zv → Prop := fun T' r => ∃ x : Int, r = some (vI x) ∧ fr_ [(301, [])] T T' ∧ (x = x ∧ PTR_ T T' cl p x)
set_option maxHeartbeats 4000000 in
theorem ct_X11_pot_e {T : Zt} {cl p : Int} : Ct_ yX11_pot zX11_pot T [vR 111 0, vI cl, vI p] (po_X11_pot_e T cl p) := by
  refine ct_of pn_11 rfl rfl (Nat.le_of_ble_eq_true rfl) (fun hT hav => ?_)
  have hr_cl : -2147483648 ≤ cl ∧ cl ≤ 2147483647 := hav (vI cl) (List.mem_cons_of_mem _ List.mem_cons_self)
  have hr_p : -2147483648 ≤ p ∧ p ≤ 2147483647 := hav (vI p) (List.mem_cons_of_mem _ (List.mem_cons_of_mem _ List.mem_cons_self))
  have hz : zX11_pot.2.2.2.1 = some .boolean → ∀ (T' : Zt) (x : Int), po_X11_pot_e T cl p T' (some (vI x)) → 0 ≤ x ∧ x ≤ 1 := fun h => by cases h
  have hb_12 : 0 ≤ T 111 0 12 ∧ T 111 0 12 ≤ 12 := bd_f hT 111 12 tl_11_12 0
  have hb_99 : 0 ≤ T 111 0 99 ∧ T 111 0 99 ≤ 4 := bd_f hT 111 99 tl_11_99 0
  show J_ zX11_pot T (po_X11_pot_e T cl p) 0 0 0 [some (vR 111 0), some (vI cl), some (vI p), none, none, none] [] T
  have c_34 : ∀ (nn : Nat) (n : Int) (g : Int) (k : Int), ((12 - k).toNat) ≤ nn → (0 ≤ k ∧ k ≤ 12 ∧ (0 ≤ cl ∧ cl < T 111 0 12) ∧ 0 ≤ p ∧ p ≤ 2 ∧ 0 ≤ n ∧ n ≤ k) → (n = cnz_ (fun j => T 301 0 j) p k.toNat) → ((g = 1 ∧ cnz_ (fun j => T 302 0 j) (-1) k.toNat < k) ∨ (g = 0 ∧ cnz_ (fun j => T 302 0 j) (-1) k.toNat = k)) → J_ zX11_pot T (po_X11_pot_e T cl p) 0 0 34 [some (vR 111 0), some (vI cl), some (vI p), some (vI n), some (vI g), some (vI k)] [] T := by
    intro nn
    induction nn using Nat.strongRecOn with
    | _ nn ih_34 =>
      intro n g k hm_34 i1 hn hg
      replace hm_34 := fun (_ : Unit) => hm_34
      refine j_blx (F := fX11) tb_X11 (nn_ _) bk_X11_pot_e_34 bs_X11_pot_e_34 hz (fun K hK => ?_)
      refine And.intro (fun c1 => ?_) (fun c1 => ?_)
      · refine hK 96 _ [] T ?_
        have ke : T 111 0 98 ≠ 0 → k = 12 := fun z => by omega
        have kn : T 111 0 98 ≠ 0 → n = cnz_ (fun j => T 301 0 j) p 12 := fun z => by have y := hn; rw [ke z] at y; exact y
        have kg : T 111 0 98 ≠ 0 → (g = 1 ∧ cnz_ (fun j => T 302 0 j) (-1) 12 < 12) ∨ (g = 0 ∧ cnz_ (fun j => T 302 0 j) (-1) 12 = 12) := fun z => by have y := hg; rw [ke z] at y; exact y
        refine j_blx (F := fX11) tb_X11 (nn_ _) bk_X11_pot_e_96 bs_X11_pot_e_96 hz (fun K hK => ?_)
        intro b2 b2b
        refine And.intro (fun c3 => ?_) (fun c3 => ?_)
        · refine hK 116 _ [] T ?_
          refine j_blx (F := fX11) tb_X11 (nn_ _) bk_X11_pot_e_116 bs_X11_pot_e_116 hz (fun K hK => ?_)
          refine (show po_X11_pot_e T cl p T (some (vI (-4))) from ?_)
          exact ⟨_, rfl, fr_0 _ _, rfl, Or.inl ⟨rfl, Or.inr (Or.inr (Or.inl ⟨by omega, by omega, rfl, by omega⟩))⟩⟩
        · have kn2 := kn (by omega)
          have kg2 := kg (by omega)
          refine hK 105 _ [vI cl, vR 111 0] T ?_
          refine j_callV (y := yX11_isInDraw) (Yc := zX11_isInDraw) (rest := []) [vI cl] (ct_X11_isInDraw (T := T) (by omega)) cl_X11_585 (qd_c (by decide +kernel)) (nn_ _) rfl (rf_of rfl) (Nat.le_of_ble_eq_true rfl) (Nat.le_of_ble_eq_true rfl) (Nat.le_of_ble_eq_true rfl) rfl ?_
          rintro _ _ ⟨rfl, x4, rfl, hx4⟩
          show J_ zX11_pot T (po_X11_pot_e T cl p) 0 0 108 _ [vI x4] T
          refine j_blx (F := fX11) tb_X11 (nn_ _) bk_X11_pot_e_108 bs_X11_pot_e_108 hz (fun K hK => ?_)
          refine And.intro (fun c5 => ?_) (fun c5 => ?_)
          · replace hx4 := hx4.resolve_right (fun z => c5 z.1)
            clear c5
            refine hK 116 _ [] T ?_
            refine j_blx (F := fX11) tb_X11 (nn_ _) bk_X11_pot_e_116 bs_X11_pot_e_116 hz (fun K hK => ?_)
            refine (show po_X11_pot_e T cl p T (some (vI (-4))) from ?_)
            exact ⟨_, rfl, fr_0 _ _, rfl, Or.inl ⟨rfl, Or.inr (Or.inr (Or.inl ⟨by omega, by omega, rfl, by omega⟩))⟩⟩
          · replace hx4 := hx4.resolve_left (fun z => absurd (c5.symm.trans z.1) (by decide))
            clear c5
            refine And.intro (fun c6 => ?_) (fun c6 => ?_)
            · refine hK 119 _ [] T ?_
              refine j_blx (F := fX11) tb_X11 (nn_ _) bk_X11_pot_e_119 bs_X11_pot_e_119 hz (fun K hK => ?_)
              intro b7 b7b
              refine And.intro (fun c8 => ?_) (fun c8 => ?_)
              · refine hK 130 _ [] T ?_
                refine j_blx (F := fX11) tb_X11 (nn_ _) bk_X11_pot_e_130 bs_X11_pot_e_130 hz (fun K hK => ?_)
                refine iy_i (by omega) (by omega) ?_
                refine x_nm (fun U9 hU9 => ?_)
                have e10 := up_f hU9
                refine rg_i (by omega) ?_
                refine (show po_X11_pot_e T cl p U9 (some (vI (n + 1))) from ?_)
                exact ⟨_, rfl, fr_u (fr_0 _ _) hU9 rfl, rfl, Or.inr ⟨by omega, by omega, by omega, by omega, by omega, up_f hU9, fun j hj => up_g hU9 (fun q => hj q.2.2)⟩⟩
              · refine (show po_X11_pot_e T cl p T (some (vI (-5))) from ?_)
                exact ⟨_, rfl, fr_0 _ _, rfl, Or.inl ⟨rfl, Or.inr (Or.inr (Or.inr ⟨by omega, by omega, by omega, rfl, by omega⟩))⟩⟩
            · refine (show po_X11_pot_e T cl p T (some (vI (-4))) from ?_)
              exact ⟨_, rfl, fr_0 _ _, rfl, Or.inl ⟨rfl, Or.inr (Or.inr (Or.inl ⟨by omega, by omega, rfl, by omega⟩))⟩⟩
      · intro b11 b11b
        refine And.intro (fun c12 => ?_) (fun c12 => ?_)
        · refine hK 96 _ [] T ?_
          have ke : T 111 0 98 ≠ 0 → k = 12 := fun z => by omega
          have kn : T 111 0 98 ≠ 0 → n = cnz_ (fun j => T 301 0 j) p 12 := fun z => by have y := hn; rw [ke z] at y; exact y
          have kg : T 111 0 98 ≠ 0 → (g = 1 ∧ cnz_ (fun j => T 302 0 j) (-1) 12 < 12) ∨ (g = 0 ∧ cnz_ (fun j => T 302 0 j) (-1) 12 = 12) := fun z => by have y := hg; rw [ke z] at y; exact y
          refine j_blx (F := fX11) tb_X11 (nn_ _) bk_X11_pot_e_96 bs_X11_pot_e_96 hz (fun K hK => ?_)
          intro b13 b13b
          refine And.intro (fun c14 => ?_) (fun c14 => ?_)
          · refine hK 116 _ [] T ?_
            refine j_blx (F := fX11) tb_X11 (nn_ _) bk_X11_pot_e_116 bs_X11_pot_e_116 hz (fun K hK => ?_)
            refine (show po_X11_pot_e T cl p T (some (vI (-4))) from ?_)
            exact ⟨_, rfl, fr_0 _ _, rfl, Or.inl ⟨rfl, Or.inr (Or.inr (Or.inl ⟨by omega, by omega, rfl, by omega⟩))⟩⟩
          · have kn2 := kn (by omega)
            have kg2 := kg (by omega)
            refine hK 105 _ [vI cl, vR 111 0] T ?_
            refine j_callV (y := yX11_isInDraw) (Yc := zX11_isInDraw) (rest := []) [vI cl] (ct_X11_isInDraw (T := T) (by omega)) cl_X11_585 (qd_c (by decide +kernel)) (nn_ _) rfl (rf_of rfl) (Nat.le_of_ble_eq_true rfl) (Nat.le_of_ble_eq_true rfl) (Nat.le_of_ble_eq_true rfl) rfl ?_
            rintro _ _ ⟨rfl, x15, rfl, hx15⟩
            show J_ zX11_pot T (po_X11_pot_e T cl p) 0 0 108 _ [vI x15] T
            refine j_blx (F := fX11) tb_X11 (nn_ _) bk_X11_pot_e_108 bs_X11_pot_e_108 hz (fun K hK => ?_)
            refine And.intro (fun c16 => ?_) (fun c16 => ?_)
            · replace hx15 := hx15.resolve_right (fun z => c16 z.1)
              clear c16
              refine hK 116 _ [] T ?_
              refine j_blx (F := fX11) tb_X11 (nn_ _) bk_X11_pot_e_116 bs_X11_pot_e_116 hz (fun K hK => ?_)
              refine (show po_X11_pot_e T cl p T (some (vI (-4))) from ?_)
              exact ⟨_, rfl, fr_0 _ _, rfl, Or.inl ⟨rfl, Or.inr (Or.inr (Or.inl ⟨by omega, by omega, rfl, by omega⟩))⟩⟩
            · replace hx15 := hx15.resolve_left (fun z => absurd (c16.symm.trans z.1) (by decide))
              clear c16
              refine And.intro (fun c17 => ?_) (fun c17 => ?_)
              · refine hK 119 _ [] T ?_
                refine j_blx (F := fX11) tb_X11 (nn_ _) bk_X11_pot_e_119 bs_X11_pot_e_119 hz (fun K hK => ?_)
                intro b18 b18b
                refine And.intro (fun c19 => ?_) (fun c19 => ?_)
                · refine hK 130 _ [] T ?_
                  refine j_blx (F := fX11) tb_X11 (nn_ _) bk_X11_pot_e_130 bs_X11_pot_e_130 hz (fun K hK => ?_)
                  refine iy_i (by omega) (by omega) ?_
                  refine x_nm (fun U20 hU20 => ?_)
                  have e21 := up_f hU20
                  refine rg_i (by omega) ?_
                  refine (show po_X11_pot_e T cl p U20 (some (vI (n + 1))) from ?_)
                  exact ⟨_, rfl, fr_u (fr_0 _ _) hU20 rfl, rfl, Or.inr ⟨by omega, by omega, by omega, by omega, by omega, up_f hU20, fun j hj => up_g hU20 (fun q => hj q.2.2)⟩⟩
                · refine (show po_X11_pot_e T cl p T (some (vI (-5))) from ?_)
                  exact ⟨_, rfl, fr_0 _ _, rfl, Or.inl ⟨rfl, Or.inr (Or.inr (Or.inr ⟨by omega, by omega, by omega, rfl, by omega⟩))⟩⟩
              · refine (show po_X11_pot_e T cl p T (some (vI (-4))) from ?_)
                exact ⟨_, rfl, fr_0 _ _, rfl, Or.inl ⟨rfl, Or.inr (Or.inr (Or.inl ⟨by omega, by omega, rfl, by omega⟩))⟩⟩
        · refine ix_i (by omega) ?_
          intro b22 b22b
          refine And.intro (fun c23 => ?_) (fun c23 => ?_)
          · refine hK 64 _ [vI n] T ?_
            refine j_blx (F := fX11) tb_X11 (nn_ _) bk_X11_pot_e_64 bs_X11_pot_e_64 hz (fun K hK => ?_)
            refine rg_i (by omega) ?_
            refine And.intro (fun c24 => ?_) (fun c24 => ?_)
            · refine hK 83 [some (vR 111 0), some (vI cl), some (vI p), some (vI (n + 0)), some (vI g), some (vI k)] [] T ?_
              refine j_blx (F := fX11) tb_X11 (nn_ _) bk_X11_pot_e_83 bs_X11_pot_e_83 hz (fun K hK => ?_)
              refine hK 88 _ [vI 1] T ?_
              refine j_blx (F := fX11) tb_X11 (nn_ _) bk_X11_pot_e_88 bs_X11_pot_e_88 hz (fun K hK => ?_)
              refine rg_i (by omega) ?_
              refine hK 34 [some (vR 111 0), some (vI cl), some (vI p), some (vI (n + 0)), some (vI 1), some (vI (k + 1))] [] T ?_
              refine ih_34 _ ?_ (n + 0) 1 (k + 1) (Nat.le_refl _) ?_ ?_ ?_
              · have hm_34 := hm_34 (); omega
              · omega
              · rw [cnz_f (f := (fun j => T 301 0 j)) (v := p) (k := k) (by omega) (show ¬ T 301 0 k = p by omega)]; omega
              · first
                | (have y := cnz_t (f := (fun j => T 302 0 j)) (v := -1) (k := k) (by omega) (show T 302 0 k = -1 by omega); omega)
                | (have y := cnz_f (f := (fun j => T 302 0 j)) (v := -1) (k := k) (by omega) (show ¬ T 302 0 k = -1 by omega); have y2 := cnz_b (fun j => T 302 0 j) (-1) k.toNat; omega)
                | (have y2 := cnz_b (fun j => T 302 0 j) (-1) k.toNat; by_cases z : T 302 0 k = -1
                   · have y := cnz_t (f := (fun j => T 302 0 j)) (v := -1) (k := k) (by omega) z; omega
                   · have y := cnz_f (f := (fun j => T 302 0 j)) (v := -1) (k := k) (by omega) z; omega)
            · refine ix_i (by omega) ?_
              intro b25 b25b
              refine And.intro (fun c26 => ?_) (fun c26 => ?_)
              · refine hK 87 [some (vR 111 0), some (vI cl), some (vI p), some (vI (n + 0)), some (vI g), some (vI k)] [] T ?_
                refine j_blx (F := fX11) tb_X11 (nn_ _) bk_X11_pot_e_87 bs_X11_pot_e_87 hz (fun K hK => ?_)
                refine rg_i (by omega) ?_
                refine hK 34 [some (vR 111 0), some (vI cl), some (vI p), some (vI (n + 0)), some (vI 0), some (vI (k + 1))] [] T ?_
                refine ih_34 _ ?_ (n + 0) 0 (k + 1) (Nat.le_refl _) ?_ ?_ ?_
                · have hm_34 := hm_34 (); omega
                · omega
                · rw [cnz_f (f := (fun j => T 301 0 j)) (v := p) (k := k) (by omega) (show ¬ T 301 0 k = p by omega)]; omega
                · first
                  | (have y := cnz_t (f := (fun j => T 302 0 j)) (v := -1) (k := k) (by omega) (show T 302 0 k = -1 by omega); omega)
                  | (have y := cnz_f (f := (fun j => T 302 0 j)) (v := -1) (k := k) (by omega) (show ¬ T 302 0 k = -1 by omega); have y2 := cnz_b (fun j => T 302 0 j) (-1) k.toNat; omega)
                  | (have y2 := cnz_b (fun j => T 302 0 j) (-1) k.toNat; by_cases z : T 302 0 k = -1
                     · have y := cnz_t (f := (fun j => T 302 0 j)) (v := -1) (k := k) (by omega) z; omega
                     · have y := cnz_f (f := (fun j => T 302 0 j)) (v := -1) (k := k) (by omega) z; omega)
              · refine hK 88 [some (vR 111 0), some (vI cl), some (vI p), some (vI (n + 0)), some (vI g), some (vI k)] [vI 1] T ?_
                refine j_blx (F := fX11) tb_X11 (nn_ _) bk_X11_pot_e_88 bs_X11_pot_e_88 hz (fun K hK => ?_)
                refine rg_i (by omega) ?_
                refine hK 34 [some (vR 111 0), some (vI cl), some (vI p), some (vI (n + 0)), some (vI 1), some (vI (k + 1))] [] T ?_
                refine ih_34 _ ?_ (n + 0) 1 (k + 1) (Nat.le_refl _) ?_ ?_ ?_
                · have hm_34 := hm_34 (); omega
                · omega
                · rw [cnz_f (f := (fun j => T 301 0 j)) (v := p) (k := k) (by omega) (show ¬ T 301 0 k = p by omega)]; omega
                · first
                  | (have y := cnz_t (f := (fun j => T 302 0 j)) (v := -1) (k := k) (by omega) (show T 302 0 k = -1 by omega); omega)
                  | (have y := cnz_f (f := (fun j => T 302 0 j)) (v := -1) (k := k) (by omega) (show ¬ T 302 0 k = -1 by omega); have y2 := cnz_b (fun j => T 302 0 j) (-1) k.toNat; omega)
                  | (have y2 := cnz_b (fun j => T 302 0 j) (-1) k.toNat; by_cases z : T 302 0 k = -1
                     · have y := cnz_t (f := (fun j => T 302 0 j)) (v := -1) (k := k) (by omega) z; omega
                     · have y := cnz_f (f := (fun j => T 302 0 j)) (v := -1) (k := k) (by omega) z; omega)
          · refine hK 65 _ [vI 1, vI n] T ?_
            refine j_blx (F := fX11) tb_X11 (nn_ _) bk_X11_pot_e_65 bs_X11_pot_e_65 hz (fun K hK => ?_)
            refine rg_i (by omega) ?_
            refine And.intro (fun c27 => ?_) (fun c27 => ?_)
            · refine hK 83 [some (vR 111 0), some (vI cl), some (vI p), some (vI (n + 1)), some (vI g), some (vI k)] [] T ?_
              refine j_blx (F := fX11) tb_X11 (nn_ _) bk_X11_pot_e_83 bs_X11_pot_e_83 hz (fun K hK => ?_)
              refine hK 88 _ [vI 1] T ?_
              refine j_blx (F := fX11) tb_X11 (nn_ _) bk_X11_pot_e_88 bs_X11_pot_e_88 hz (fun K hK => ?_)
              refine rg_i (by omega) ?_
              refine hK 34 [some (vR 111 0), some (vI cl), some (vI p), some (vI (n + 1)), some (vI 1), some (vI (k + 1))] [] T ?_
              refine ih_34 _ ?_ (n + 1) 1 (k + 1) (Nat.le_refl _) ?_ ?_ ?_
              · have hm_34 := hm_34 (); omega
              · omega
              · rw [cnz_t (f := (fun j => T 301 0 j)) (v := p) (k := k) (by omega) (show T 301 0 k = p by omega)]; omega
              · first
                | (have y := cnz_t (f := (fun j => T 302 0 j)) (v := -1) (k := k) (by omega) (show T 302 0 k = -1 by omega); omega)
                | (have y := cnz_f (f := (fun j => T 302 0 j)) (v := -1) (k := k) (by omega) (show ¬ T 302 0 k = -1 by omega); have y2 := cnz_b (fun j => T 302 0 j) (-1) k.toNat; omega)
                | (have y2 := cnz_b (fun j => T 302 0 j) (-1) k.toNat; by_cases z : T 302 0 k = -1
                   · have y := cnz_t (f := (fun j => T 302 0 j)) (v := -1) (k := k) (by omega) z; omega
                   · have y := cnz_f (f := (fun j => T 302 0 j)) (v := -1) (k := k) (by omega) z; omega)
            · refine ix_i (by omega) ?_
              intro b28 b28b
              refine And.intro (fun c29 => ?_) (fun c29 => ?_)
              · refine hK 87 [some (vR 111 0), some (vI cl), some (vI p), some (vI (n + 1)), some (vI g), some (vI k)] [] T ?_
                refine j_blx (F := fX11) tb_X11 (nn_ _) bk_X11_pot_e_87 bs_X11_pot_e_87 hz (fun K hK => ?_)
                refine rg_i (by omega) ?_
                refine hK 34 [some (vR 111 0), some (vI cl), some (vI p), some (vI (n + 1)), some (vI 0), some (vI (k + 1))] [] T ?_
                refine ih_34 _ ?_ (n + 1) 0 (k + 1) (Nat.le_refl _) ?_ ?_ ?_
                · have hm_34 := hm_34 (); omega
                · omega
                · rw [cnz_t (f := (fun j => T 301 0 j)) (v := p) (k := k) (by omega) (show T 301 0 k = p by omega)]; omega
                · first
                  | (have y := cnz_t (f := (fun j => T 302 0 j)) (v := -1) (k := k) (by omega) (show T 302 0 k = -1 by omega); omega)
                  | (have y := cnz_f (f := (fun j => T 302 0 j)) (v := -1) (k := k) (by omega) (show ¬ T 302 0 k = -1 by omega); have y2 := cnz_b (fun j => T 302 0 j) (-1) k.toNat; omega)
                  | (have y2 := cnz_b (fun j => T 302 0 j) (-1) k.toNat; by_cases z : T 302 0 k = -1
                     · have y := cnz_t (f := (fun j => T 302 0 j)) (v := -1) (k := k) (by omega) z; omega
                     · have y := cnz_f (f := (fun j => T 302 0 j)) (v := -1) (k := k) (by omega) z; omega)
              · refine hK 88 [some (vR 111 0), some (vI cl), some (vI p), some (vI (n + 1)), some (vI g), some (vI k)] [vI 1] T ?_
                refine j_blx (F := fX11) tb_X11 (nn_ _) bk_X11_pot_e_88 bs_X11_pot_e_88 hz (fun K hK => ?_)
                refine rg_i (by omega) ?_
                refine hK 34 [some (vR 111 0), some (vI cl), some (vI p), some (vI (n + 1)), some (vI 1), some (vI (k + 1))] [] T ?_
                refine ih_34 _ ?_ (n + 1) 1 (k + 1) (Nat.le_refl _) ?_ ?_ ?_
                · have hm_34 := hm_34 (); omega
                · omega
                · rw [cnz_t (f := (fun j => T 301 0 j)) (v := p) (k := k) (by omega) (show T 301 0 k = p by omega)]; omega
                · first
                  | (have y := cnz_t (f := (fun j => T 302 0 j)) (v := -1) (k := k) (by omega) (show T 302 0 k = -1 by omega); omega)
                  | (have y := cnz_f (f := (fun j => T 302 0 j)) (v := -1) (k := k) (by omega) (show ¬ T 302 0 k = -1 by omega); have y2 := cnz_b (fun j => T 302 0 j) (-1) k.toNat; omega)
                  | (have y2 := cnz_b (fun j => T 302 0 j) (-1) k.toNat; by_cases z : T 302 0 k = -1
                     · have y := cnz_t (f := (fun j => T 302 0 j)) (v := -1) (k := k) (by omega) z; omega
                     · have y := cnz_f (f := (fun j => T 302 0 j)) (v := -1) (k := k) (by omega) z; omega)
  refine j_blx (F := fX11) tb_X11 (nn_ _) bk_X11_pot_e_0 bs_X11_pot_e_0 hz (fun K hK => ?_)
  intro b30 b30b
  refine hK 5 _ [vI (T 111 0 12), vI cl] T ?_
  refine j_callS (y := yX11_isOf) (Yc := zX11_isOf) (rest := []) [vI cl, vI (T 111 0 12)] (ct_X11_isOf (T := T) (by omega)) cl_X11_317 (qd_c (by decide +kernel)) (nn_ _) rfl (rf_of rfl) (Nat.le_of_ble_eq_true rfl) (Nat.le_of_ble_eq_true rfl) (Nat.le_of_ble_eq_true rfl) rfl ?_
  rintro _ _ ⟨rfl, x31, rfl, hx31⟩
  show J_ zX11_pot T (po_X11_pot_e T cl p) 0 0 8 _ [vI x31] T
  refine j_blx (F := fX11) tb_X11 (nn_ _) bk_X11_pot_e_8 bs_X11_pot_e_8 hz (fun K hK => ?_)
  refine And.intro (fun c32 => ?_) (fun c32 => ?_)
  · replace hx31 := hx31.resolve_right (fun z => c32 z.1)
    clear c32
    refine hK 14 _ [] T ?_
    refine j_blx (F := fX11) tb_X11 (nn_ _) bk_X11_pot_e_14 bs_X11_pot_e_14 hz (fun K hK => ?_)
    refine hK 17 _ [vI 2, vI 0, vI p] T ?_
    refine j_callS (y := yX11_in) (Yc := zX11_in) (rest := []) [vI p, vI 0, vI 2] (ct_X11_in (T := T)) cl_X11_255 (qd_c (by decide +kernel)) (nn_ _) rfl (rf_of rfl) (Nat.le_of_ble_eq_true rfl) (Nat.le_of_ble_eq_true rfl) (Nat.le_of_ble_eq_true rfl) rfl ?_
    rintro _ _ ⟨rfl, x33, rfl, hx33⟩
    show J_ zX11_pot T (po_X11_pot_e T cl p) 0 0 20 _ [vI x33] T
    refine j_blx (F := fX11) tb_X11 (nn_ _) bk_X11_pot_e_20 bs_X11_pot_e_20 hz (fun K hK => ?_)
    refine And.intro (fun c34 => ?_) (fun c34 => ?_)
    · replace hx33 := hx33.resolve_right (fun z => c34 z.1)
      clear c34
      refine hK 26 _ [] T ?_
      refine j_blx (F := fX11) tb_X11 (nn_ _) bk_X11_pot_e_26 bs_X11_pot_e_26 hz (fun K hK => ?_)
      refine hK 34 [some (vR 111 0), some (vI cl), some (vI p), some (vI 0), some (vI 0), some (vI 0)] [] T ?_
      refine c_34 _ 0 0 0 (Nat.le_refl _) ?_ ?_ ?_
      · omega
      · rfl
      · exact Or.inr ⟨rfl, rfl⟩
    · replace hx33 := hx33.resolve_left (fun z => absurd (c34.symm.trans z.1) (by decide))
      clear c34
      refine (show po_X11_pot_e T cl p T (some (vI (-3))) from ?_)
      exact ⟨_, rfl, fr_0 _ _, rfl, Or.inl ⟨rfl, Or.inr (Or.inl ⟨by omega, rfl, by omega⟩)⟩⟩
  · replace hx31 := hx31.resolve_left (fun z => absurd (c32.symm.trans z.1) (by decide))
    clear c32
    refine (show po_X11_pot_e T cl p T (some (vI (-2))) from ?_)
    exact ⟨_, rfl, fr_0 _ _, rfl, Or.inl ⟨rfl, Or.inl ⟨rfl, by omega⟩⟩⟩
theorem bk_X11_ways_e_0 : ck_ fX11 (some .int) cX11_ways 0 [.aload 0, .tableswitch 0 11 98 #[], .ifCond .eq 16, .aload 0, .iconst (-1), .iconst (-1)] 10 = true := qck_r (nn_ _) (by decide +kernel)
theorem bs_X11_ways_e_0 {P : Zt → Option Zv → Prop} (K : Int → Zl → List Zv → Zt → Prop) : sx_ K P [.aload 0, .tableswitch 0 11 98 #[], .ifCond .eq 16, .aload 0, .iconst (-1), .iconst (-1)] 10 = x_aload 0 (x_g0 111 98 0 1 (x_ifCond .eq 16 K (x_aload 0 (x_iconst (-1) (x_iconst (-1) (K 10)))))) := ((xe_aload 0).trans (congrArg (x_aload 0) ((xe_g0 (kk := 111) rfl tl_11_98).trans (congrArg (x_g0 111 98 0 1) ((xe_ifCond .eq 16).trans (congrArg (x_ifCond .eq 16 K) ((xe_aload 0).trans (congrArg (x_aload 0) ((xe_iconst (-1)).trans (congrArg (x_iconst (-1)) ((xe_iconst (-1)).trans (congrArg (x_iconst (-1)) xe_nil))))))))))))
theorem bk_X11_ways_e_16 : ck_ fX11 (some .int) cX11_ways 16 [.iconst (-4), .ireturn] 19 = true := qck_r (nn_ _) (by decide +kernel)
theorem bs_X11_ways_e_16 {P : Zt → Option Zv → Prop} (K : Int → Zl → List Zv → Zt → Prop) : sx_ K P [.iconst (-4), .ireturn] 19 = x_iconst (-4) (x_ireturn P) := ((xe_iconst (-4)).trans (congrArg (x_iconst (-4)) (xe_ireturn)))
theorem bk_X11_ways_e_13 : ck_ fX11 (some .int) cX11_ways 13 [.goto 18] 16 = true := qck_r (nn_ _) (by decide +kernel)
theorem bs_X11_ways_e_13 {P : Zt → Option Zv → Prop} (K : Int → Zl → List Zv → Zt → Prop) : sx_ K P [.goto 18] 16 = x_goto 18 K := (xe_goto 18)
theorem bk_X11_ways_e_18 : ck_ fX11 (some .int) cX11_ways 18 [.ireturn] 19 = true := qck_r (nn_ _) (by decide +kernel)
theorem bs_X11_ways_e_18 {P : Zt → Option Zv → Prop} (K : Int → Zl → List Zv → Zt → Prop) : sx_ K P [.ireturn] 19 = x_ireturn P := (xe_ireturn)
abbrev po_X11_ways_e (T : Zt) : Zt → Option Zv → Prop := fun T' r => ∃ x : Int, r = some (vI x) ∧ fr_ [(304, []), (305, []), (302, [])] T T' ∧ (x = x ∧ WYR_ T T' x)
set_option maxHeartbeats 4000000 in
theorem ct_X11_ways_e {T : Zt} : Ct_ yX11_ways zX11_ways T [vR 111 0] (po_X11_ways_e T) := by
  refine ct_of pn_11 rfl rfl (Nat.le_of_ble_eq_true rfl) (fun hT hav => ?_)
  have hz : zX11_ways.2.2.2.1 = some .boolean → ∀ (T' : Zt) (x : Int), po_X11_ways_e T T' (some (vI x)) → 0 ≤ x ∧ x ≤ 1 := fun h => by cases h
  show J_ zX11_ways T (po_X11_ways_e T) 0 0 0 [some (vR 111 0)] [] T
  refine j_blx (F := fX11) tb_X11 (nn_ _) bk_X11_ways_e_0 bs_X11_ways_e_0 hz (fun K hK => ?_)
  intro b1 b1b
  refine And.intro (fun c2 => ?_) (fun c2 => ?_)
  · refine hK 16 _ [] T ?_
    refine j_blx (F := fX11) tb_X11 (nn_ _) bk_X11_ways_e_16 bs_X11_ways_e_16 hz (fun K hK => ?_)
    refine (show po_X11_ways_e T T (some (vI (-4))) from ?_)
    exact ⟨_, rfl, fr_0 _ _, rfl, Or.inl ⟨rfl, by omega, rfl⟩⟩
  · refine hK 10 _ [vI (-1), vI (-1), vR 111 0] T ?_
    refine j_callV (y := yX11_countWays) (Yc := zX11_countWays) (rest := []) [vI (-1), vI (-1)] (ct_X11_countWays (T := T)) cl_X11_591 (qd_c (by decide +kernel)) (nn_ _) rfl (rf_of rfl) (Nat.le_of_ble_eq_true rfl) (Nat.le_of_ble_eq_true rfl) (Nat.le_of_ble_eq_true rfl) rfl ?_
    rintro U3 _ ⟨x4, rfl, fU3, qU3⟩
    have bU3 := qU3.2.2
    show J_ zX11_ways T (po_X11_ways_e T) 0 0 13 _ [vI x4] U3
    refine j_blx (F := fX11) tb_X11 (nn_ _) bk_X11_ways_e_13 bs_X11_ways_e_13 hz (fun K hK => ?_)
    refine hK 18 _ [vI x4] U3 ?_
    refine j_blx (F := fX11) tb_X11 (nn_ _) bk_X11_ways_e_18 bs_X11_ways_e_18 hz (fun K hK => ?_)
    refine (show po_X11_ways_e T U3 (some (vI x4)) from ?_)
    exact ⟨_, rfl, fr_t (fr_0 _ _) (fr_s fU3 rfl), rfl, Or.inr ⟨by omega, qU3.2.1, qU3.1⟩⟩
theorem bk_X11_chanceOf_e_0 : ck_ fX11 (some .int) cX11_chanceOf 0 [.aload 0, .tableswitch 0 11 102 #[], .iload 1, .iaload, .iconst (-1), .if_icmp .eq 31, .aload 0, .tableswitch 0 11 102 #[], .iload 1, .iaload, .iload 2, .if_icmp .ne 29, .aload 0, .iconst (-1), .iconst (-1)] 23 = true := qck_r (nn_ _) (by decide +kernel)
theorem bs_X11_chanceOf_e_0 {P : Zt → Option Zv → Prop} (K : Int → Zl → List Zv → Zt → Prop) : sx_ K P [.aload 0, .tableswitch 0 11 102 #[], .iload 1, .iaload, .iconst (-1), .if_icmp .eq 31, .aload 0, .tableswitch 0 11 102 #[], .iload 1, .iaload, .iload 2, .if_icmp .ne 29, .aload 0, .iconst (-1), .iconst (-1)] 23 = x_aload 0 (x_g1 111 302 (x_iload 1 (x_iaload (x_iconst (-1) (x_if_icmp .eq 31 K (x_aload 0 (x_g1 111 302 (x_iload 1 (x_iaload (x_iload 2 (x_if_icmp .ne 29 K (x_aload 0 (x_iconst (-1) (x_iconst (-1) (K 23))))))))))))))) := ((xe_aload 0).trans (congrArg (x_aload 0) ((xe_g1 (kk := 111) rfl tl_11_102).trans (congrArg (x_g1 111 302) ((xe_iload 1).trans (congrArg (x_iload 1) ((xe_iaload).trans (congrArg (x_iaload) ((xe_iconst (-1)).trans (congrArg (x_iconst (-1)) ((xe_if_icmp .eq 31).trans (congrArg (x_if_icmp .eq 31 K) ((xe_aload 0).trans (congrArg (x_aload 0) ((xe_g1 (kk := 111) rfl tl_11_102).trans (congrArg (x_g1 111 302) ((xe_iload 1).trans (congrArg (x_iload 1) ((xe_iaload).trans (congrArg (x_iaload) ((xe_iload 2).trans (congrArg (x_iload 2) ((xe_if_icmp .ne 29).trans (congrArg (x_if_icmp .ne 29 K) ((xe_aload 0).trans (congrArg (x_aload 0) ((xe_iconst (-1)).trans (congrArg (x_iconst (-1)) ((xe_iconst (-1)).trans (congrArg (x_iconst (-1)) xe_nil))))))))))))))))))))))))))))))
theorem bk_X11_chanceOf_e_31 : ck_ fX11 (some .int) cX11_chanceOf 31 [.aload 0, .iload 1, .iload 2] 34 = true := qck_r (nn_ _) (by decide +kernel)
theorem bs_X11_chanceOf_e_31 {P : Zt → Option Zv → Prop} (K : Int → Zl → List Zv → Zt → Prop) : sx_ K P [.aload 0, .iload 1, .iload 2] 34 = x_aload 0 (x_iload 1 (x_iload 2 (K 34))) := ((xe_aload 0).trans (congrArg (x_aload 0) ((xe_iload 1).trans (congrArg (x_iload 1) ((xe_iload 2).trans (congrArg (x_iload 2) xe_nil))))))
theorem bk_X11_chanceOf_e_37 : ck_ fX11 (some .int) cX11_chanceOf 37 [.ireturn] 38 = true := qck_r (nn_ _) (by decide +kernel)
theorem bs_X11_chanceOf_e_37 {P : Zt → Option Zv → Prop} (K : Int → Zl → List Zv → Zt → Prop) : sx_ K P [.ireturn] 38 = x_ireturn P := (xe_ireturn)
theorem bk_X11_chanceOf_e_29 : ck_ fX11 (some .int) cX11_chanceOf 29 [.iconst 0, .ireturn] 31 = true := qck_r (nn_ _) (by decide +kernel)
theorem bs_X11_chanceOf_e_29 {P : Zt → Option Zv → Prop} (K : Int → Zl → List Zv → Zt → Prop) : sx_ K P [.iconst 0, .ireturn] 31 = x_iconst 0 (x_ireturn P) := ((xe_iconst 0).trans (congrArg (x_iconst 0) (xe_ireturn)))
theorem bk_X11_chanceOf_e_26 : ck_ fX11 (some .int) cX11_chanceOf 26 [.goto 30] 29 = true := qck_r (nn_ _) (by decide +kernel)
theorem bs_X11_chanceOf_e_26 {P : Zt → Option Zv → Prop} (K : Int → Zl → List Zv → Zt → Prop) : sx_ K P [.goto 30] 29 = x_goto 30 K := (xe_goto 30)
theorem bk_X11_chanceOf_e_30 : ck_ fX11 (some .int) cX11_chanceOf 30 [.ireturn] 31 = true := qck_r (nn_ _) (by decide +kernel)
theorem bs_X11_chanceOf_e_30 {P : Zt → Option Zv → Prop} (K : Int → Zl → List Zv → Zt → Prop) : sx_ K P [.ireturn] 31 = x_ireturn P := (xe_ireturn)
abbrev po_X11_chanceOf_e (T : Zt) (cl g : Int) : Zt → Option Zv → Prop := fun T' r => ∃ x : Int, r = some (vI x) ∧ fr_ [(304, []), (305, []), (302, [])] T T' ∧ (CO9_ T T' cl g x)
set_option maxHeartbeats 4000000 in
theorem ct_X11_chanceOf_e {T : Zt} {cl g : Int} (h1 : 0 ≤ cl ∧ cl < 12) : Ct_ yX11_chanceOf zX11_chanceOf T [vR 111 0, vI cl, vI g] (po_X11_chanceOf_e T cl g) := by
  refine ct_of pn_11 rfl rfl (Nat.le_of_ble_eq_true rfl) (fun hT hav => ?_)
  have hr_cl : -2147483648 ≤ cl ∧ cl ≤ 2147483647 := hav (vI cl) (List.mem_cons_of_mem _ List.mem_cons_self)
  have hr_g : -2147483648 ≤ g ∧ g ≤ 2147483647 := hav (vI g) (List.mem_cons_of_mem _ (List.mem_cons_of_mem _ List.mem_cons_self))
  have hz : zX11_chanceOf.2.2.2.1 = some .boolean → ∀ (T' : Zt) (x : Int), po_X11_chanceOf_e T cl g T' (some (vI x)) → 0 ≤ x ∧ x ≤ 1 := fun h => by cases h
  show J_ zX11_chanceOf T (po_X11_chanceOf_e T cl g) 0 0 0 [some (vR 111 0), some (vI cl), some (vI g)] [] T
  refine j_blx (F := fX11) tb_X11 (nn_ _) bk_X11_chanceOf_e_0 bs_X11_chanceOf_e_0 hz (fun K hK => ?_)
  refine ix_i (by omega) ?_
  intro b1 b1b
  refine And.intro (fun c2 => ?_) (fun c2 => ?_)
  · refine hK 31 _ [] T ?_
    refine j_blx (F := fX11) tb_X11 (nn_ _) bk_X11_chanceOf_e_31 bs_X11_chanceOf_e_31 hz (fun K hK => ?_)
    refine hK 34 _ [vI g, vI cl, vR 111 0] T ?_
    refine j_callV (y := yX11_countWays) (Yc := zX11_countWays) (rest := []) [vI cl, vI g] (ct_X11_countWays (T := T)) cl_X11_591 (qd_c (by decide +kernel)) (nn_ _) rfl (rf_of rfl) (Nat.le_of_ble_eq_true rfl) (Nat.le_of_ble_eq_true rfl) (Nat.le_of_ble_eq_true rfl) rfl ?_
    rintro U3 _ ⟨x4, rfl, fU3, qU3⟩
    have bU3 := qU3.2.2
    show J_ zX11_chanceOf T (po_X11_chanceOf_e T cl g) 0 0 37 _ [vI x4] U3
    refine j_blx (F := fX11) tb_X11 (nn_ _) bk_X11_chanceOf_e_37 bs_X11_chanceOf_e_37 hz (fun K hK => ?_)
    refine (show po_X11_chanceOf_e T cl g U3 (some (vI x4)) from ?_)
    first
    | exact ⟨_, rfl, fr_t (fr_0 _ _) (fr_s fU3 rfl), qU3.2.1, Or.inl ⟨by omega, Or.inl ⟨by omega, qU3.1⟩⟩⟩
    | exact ⟨_, rfl, fr_t (fr_0 _ _) (fr_s fU3 rfl), qU3.2.1, Or.inr ⟨by omega, qU3.1⟩⟩
  · refine ix_i (by omega) ?_
    intro b5 b5b
    refine And.intro (fun c6 => ?_) (fun c6 => ?_)
    · refine hK 29 _ [] T ?_
      refine j_blx (F := fX11) tb_X11 (nn_ _) bk_X11_chanceOf_e_29 bs_X11_chanceOf_e_29 hz (fun K hK => ?_)
      refine (show po_X11_chanceOf_e T cl g T (some (vI 0)) from ?_)
      exact ⟨_, rfl, fr_0 _ _, fun _ => rfl, Or.inl ⟨by omega, Or.inr ⟨by omega, rfl⟩⟩⟩
    · refine hK 23 _ [vI (-1), vI (-1), vR 111 0] T ?_
      refine j_callV (y := yX11_countWays) (Yc := zX11_countWays) (rest := []) [vI (-1), vI (-1)] (ct_X11_countWays (T := T)) cl_X11_591 (qd_c (by decide +kernel)) (nn_ _) rfl (rf_of rfl) (Nat.le_of_ble_eq_true rfl) (Nat.le_of_ble_eq_true rfl) (Nat.le_of_ble_eq_true rfl) rfl ?_
      rintro U7 _ ⟨x8, rfl, fU7, qU7⟩
      have bU7 := qU7.2.2
      show J_ zX11_chanceOf T (po_X11_chanceOf_e T cl g) 0 0 26 _ [vI x8] U7
      refine j_blx (F := fX11) tb_X11 (nn_ _) bk_X11_chanceOf_e_26 bs_X11_chanceOf_e_26 hz (fun K hK => ?_)
      refine hK 30 _ [vI x8] U7 ?_
      refine j_blx (F := fX11) tb_X11 (nn_ _) bk_X11_chanceOf_e_30 bs_X11_chanceOf_e_30 hz (fun K hK => ?_)
      refine (show po_X11_chanceOf_e T cl g U7 (some (vI x8)) from ?_)
      first
      | exact ⟨_, rfl, fr_t (fr_0 _ _) (fr_s fU7 rfl), qU7.2.1, Or.inl ⟨by omega, Or.inl ⟨by omega, qU7.1⟩⟩⟩
      | exact ⟨_, rfl, fr_t (fr_0 _ _) (fr_s fU7 rfl), qU7.2.1, Or.inr ⟨by omega, qU7.1⟩⟩
theorem bk_X11_chance_e_0 : ck_ fX11 (some .int) cX11_chance 0 [.iload 1, .aload 0, .tableswitch 0 11 12 #[]] 5 = true := qck_r (nn_ _) (by decide +kernel)
theorem bs_X11_chance_e_0 {P : Zt → Option Zv → Prop} (K : Int → Zl → List Zv → Zt → Prop) : sx_ K P [.iload 1, .aload 0, .tableswitch 0 11 12 #[]] 5 = x_iload 1 (x_aload 0 (x_g0 111 12 0 12 (K 5))) := ((xe_iload 1).trans (congrArg (x_iload 1) ((xe_aload 0).trans (congrArg (x_aload 0) ((xe_g0 (kk := 111) rfl tl_11_12).trans (congrArg (x_g0 111 12 0 12) xe_nil))))))
theorem bk_X11_chance_e_8 : ck_ fX11 (some .int) cX11_chance 8 [.ifCond .eq 19, .aload 0, .iload 1] 13 = true := qck_r (nn_ _) (by decide +kernel)
theorem bs_X11_chance_e_8 {P : Zt → Option Zv → Prop} (K : Int → Zl → List Zv → Zt → Prop) : sx_ K P [.ifCond .eq 19, .aload 0, .iload 1] 13 = x_ifCond .eq 19 K (x_aload 0 (x_iload 1 (K 13))) := ((xe_ifCond .eq 19).trans (congrArg (x_ifCond .eq 19 K) ((xe_aload 0).trans (congrArg (x_aload 0) ((xe_iload 1).trans (congrArg (x_iload 1) xe_nil))))))
theorem bk_X11_chance_e_19 : ck_ fX11 (some .int) cX11_chance 19 [.iconst (-2), .ireturn] 22 = true := qck_r (nn_ _) (by decide +kernel)
theorem bs_X11_chance_e_19 {P : Zt → Option Zv → Prop} (K : Int → Zl → List Zv → Zt → Prop) : sx_ K P [.iconst (-2), .ireturn] 22 = x_iconst (-2) (x_ireturn P) := ((xe_iconst (-2)).trans (congrArg (x_iconst (-2)) (xe_ireturn)))
theorem bk_X11_chance_e_16 : ck_ fX11 (some .int) cX11_chance 16 [.ifCond .ne 22, .iconst (-2), .ireturn] 22 = true := qck_r (nn_ _) (by decide +kernel)
theorem bs_X11_chance_e_16 {P : Zt → Option Zv → Prop} (K : Int → Zl → List Zv → Zt → Prop) : sx_ K P [.ifCond .ne 22, .iconst (-2), .ireturn] 22 = x_ifCond .ne 22 K (x_iconst (-2) (x_ireturn P)) := ((xe_ifCond .ne 22).trans (congrArg (x_ifCond .ne 22 K) ((xe_iconst (-2)).trans (congrArg (x_iconst (-2)) (xe_ireturn)))))
theorem bk_X11_chance_e_22 : ck_ fX11 (some .int) cX11_chance 22 [.iload 2, .aload 0, .tableswitch 0 11 99 #[]] 27 = true := qck_r (nn_ _) (by decide +kernel)
theorem bs_X11_chance_e_22 {P : Zt → Option Zv → Prop} (K : Int → Zl → List Zv → Zt → Prop) : sx_ K P [.iload 2, .aload 0, .tableswitch 0 11 99 #[]] 27 = x_iload 2 (x_aload 0 (x_g0 111 99 0 4 (K 27))) := ((xe_iload 2).trans (congrArg (x_iload 2) ((xe_aload 0).trans (congrArg (x_aload 0) ((xe_g0 (kk := 111) rfl tl_11_99).trans (congrArg (x_g0 111 99 0 4) xe_nil))))))
theorem bk_X11_chance_e_30 : ck_ fX11 (some .int) cX11_chance 30 [.ifCond .eq 42, .aload 0, .iload 1, .iload 2] 36 = true := qck_r (nn_ _) (by decide +kernel)
theorem bs_X11_chance_e_30 {P : Zt → Option Zv → Prop} (K : Int → Zl → List Zv → Zt → Prop) : sx_ K P [.ifCond .eq 42, .aload 0, .iload 1, .iload 2] 36 = x_ifCond .eq 42 K (x_aload 0 (x_iload 1 (x_iload 2 (K 36)))) := ((xe_ifCond .eq 42).trans (congrArg (x_ifCond .eq 42 K) ((xe_aload 0).trans (congrArg (x_aload 0) ((xe_iload 1).trans (congrArg (x_iload 1) ((xe_iload 2).trans (congrArg (x_iload 2) xe_nil))))))))
theorem bk_X11_chance_e_42 : ck_ fX11 (some .int) cX11_chance 42 [.iconst (-3), .ireturn] 45 = true := qck_r (nn_ _) (by decide +kernel)
theorem bs_X11_chance_e_42 {P : Zt → Option Zv → Prop} (K : Int → Zl → List Zv → Zt → Prop) : sx_ K P [.iconst (-3), .ireturn] 45 = x_iconst (-3) (x_ireturn P) := ((xe_iconst (-3)).trans (congrArg (x_iconst (-3)) (xe_ireturn)))
theorem bk_X11_chance_e_39 : ck_ fX11 (some .int) cX11_chance 39 [.goto 44] 42 = true := qck_r (nn_ _) (by decide +kernel)
theorem bs_X11_chance_e_39 {P : Zt → Option Zv → Prop} (K : Int → Zl → List Zv → Zt → Prop) : sx_ K P [.goto 44] 42 = x_goto 44 K := (xe_goto 44)
theorem bk_X11_chance_e_44 : ck_ fX11 (some .int) cX11_chance 44 [.ireturn] 45 = true := qck_r (nn_ _) (by decide +kernel)
theorem bs_X11_chance_e_44 {P : Zt → Option Zv → Prop} (K : Int → Zl → List Zv → Zt → Prop) : sx_ K P [.ireturn] 45 = x_ireturn P := (xe_ireturn)
abbrev po_X11_chance_e (T : Zt) (cl g : Int) : Zt → Option Zv → Prop := fun T' r => ∃ x : Int, r = some (vI x) ∧ fr_ [(304, []), (305, []), (302, [])] T T' ∧ (x = x ∧ CHR_ T T' cl g x)
set_option maxHeartbeats 4000000 in
theorem ct_X11_chance_e {T : Zt} {cl g : Int} : Ct_ yX11_chance zX11_chance T [vR 111 0, vI cl, vI g] (po_X11_chance_e T cl g) := by
  refine ct_of pn_11 rfl rfl (Nat.le_of_ble_eq_true rfl) (fun hT hav => ?_)
  have hr_cl : -2147483648 ≤ cl ∧ cl ≤ 2147483647 := hav (vI cl) (List.mem_cons_of_mem _ List.mem_cons_self)
  have hr_g : -2147483648 ≤ g ∧ g ≤ 2147483647 := hav (vI g) (List.mem_cons_of_mem _ (List.mem_cons_of_mem _ List.mem_cons_self))
  have hz : zX11_chance.2.2.2.1 = some .boolean → ∀ (T' : Zt) (x : Int), po_X11_chance_e T cl g T' (some (vI x)) → 0 ≤ x ∧ x ≤ 1 := fun h => by cases h
  have hb_12 : 0 ≤ T 111 0 12 ∧ T 111 0 12 ≤ 12 := bd_f hT 111 12 tl_11_12 0
  have hb_99 : 0 ≤ T 111 0 99 ∧ T 111 0 99 ≤ 4 := bd_f hT 111 99 tl_11_99 0
  show J_ zX11_chance T (po_X11_chance_e T cl g) 0 0 0 [some (vR 111 0), some (vI cl), some (vI g)] [] T
  refine j_blx (F := fX11) tb_X11 (nn_ _) bk_X11_chance_e_0 bs_X11_chance_e_0 hz (fun K hK => ?_)
  intro b1 b1b
  refine hK 5 _ [vI (T 111 0 12), vI cl] T ?_
  refine j_callS (y := yX11_isOf) (Yc := zX11_isOf) (rest := []) [vI cl, vI (T 111 0 12)] (ct_X11_isOf (T := T) (by omega)) cl_X11_317 (qd_c (by decide +kernel)) (nn_ _) rfl (rf_of rfl) (Nat.le_of_ble_eq_true rfl) (Nat.le_of_ble_eq_true rfl) (Nat.le_of_ble_eq_true rfl) rfl ?_
  rintro _ _ ⟨rfl, x2, rfl, hx2⟩
  show J_ zX11_chance T (po_X11_chance_e T cl g) 0 0 8 _ [vI x2] T
  refine j_blx (F := fX11) tb_X11 (nn_ _) bk_X11_chance_e_8 bs_X11_chance_e_8 hz (fun K hK => ?_)
  refine And.intro (fun c3 => ?_) (fun c3 => ?_)
  · replace hx2 := hx2.resolve_left (fun z => absurd (c3.symm.trans z.1) (by decide))
    clear c3
    refine hK 19 _ [] T ?_
    refine j_blx (F := fX11) tb_X11 (nn_ _) bk_X11_chance_e_19 bs_X11_chance_e_19 hz (fun K hK => ?_)
    refine (show po_X11_chance_e T cl g T (some (vI (-2))) from ?_)
    exact ⟨_, rfl, fr_0 _ _, rfl, Or.inl ⟨rfl, Or.inl ⟨rfl, by omega⟩⟩⟩
  · replace hx2 := hx2.resolve_right (fun z => c3 z.1)
    clear c3
    refine hK 13 _ [vI cl, vR 111 0] T ?_
    refine j_callV (y := yX11_isInDraw) (Yc := zX11_isInDraw) (rest := []) [vI cl] (ct_X11_isInDraw (T := T) (by omega)) cl_X11_585 (qd_c (by decide +kernel)) (nn_ _) rfl (rf_of rfl) (Nat.le_of_ble_eq_true rfl) (Nat.le_of_ble_eq_true rfl) (Nat.le_of_ble_eq_true rfl) rfl ?_
    rintro _ _ ⟨rfl, x4, rfl, hx4⟩
    show J_ zX11_chance T (po_X11_chance_e T cl g) 0 0 16 _ [vI x4] T
    refine j_blx (F := fX11) tb_X11 (nn_ _) bk_X11_chance_e_16 bs_X11_chance_e_16 hz (fun K hK => ?_)
    refine And.intro (fun c5 => ?_) (fun c5 => ?_)
    · replace hx4 := hx4.resolve_right (fun z => c5 z.1)
      clear c5
      refine hK 22 _ [] T ?_
      refine j_blx (F := fX11) tb_X11 (nn_ _) bk_X11_chance_e_22 bs_X11_chance_e_22 hz (fun K hK => ?_)
      intro b6 b6b
      refine hK 27 _ [vI (T 111 0 99), vI g] T ?_
      refine j_callS (y := yX11_isOf) (Yc := zX11_isOf) (rest := []) [vI g, vI (T 111 0 99)] (ct_X11_isOf (T := T) (by omega)) cl_X11_317 (qd_c (by decide +kernel)) (nn_ _) rfl (rf_of rfl) (Nat.le_of_ble_eq_true rfl) (Nat.le_of_ble_eq_true rfl) (Nat.le_of_ble_eq_true rfl) rfl ?_
      rintro _ _ ⟨rfl, x7, rfl, hx7⟩
      show J_ zX11_chance T (po_X11_chance_e T cl g) 0 0 30 _ [vI x7] T
      refine j_blx (F := fX11) tb_X11 (nn_ _) bk_X11_chance_e_30 bs_X11_chance_e_30 hz (fun K hK => ?_)
      refine And.intro (fun c8 => ?_) (fun c8 => ?_)
      · replace hx7 := hx7.resolve_left (fun z => absurd (c8.symm.trans z.1) (by decide))
        clear c8
        refine hK 42 _ [] T ?_
        refine j_blx (F := fX11) tb_X11 (nn_ _) bk_X11_chance_e_42 bs_X11_chance_e_42 hz (fun K hK => ?_)
        refine (show po_X11_chance_e T cl g T (some (vI (-3))) from ?_)
        exact ⟨_, rfl, fr_0 _ _, rfl, Or.inl ⟨rfl, Or.inr ⟨by omega, rfl, by omega⟩⟩⟩
      · replace hx7 := hx7.resolve_right (fun z => c8 z.1)
        clear c8
        refine hK 36 _ [vI g, vI cl, vR 111 0] T ?_
        refine j_callV (y := yX11_chanceOf) (Yc := zX11_chanceOf) (rest := []) [vI cl, vI g] (ct_X11_chanceOf_e (T := T) (by omega)) cl_X11_594 (qd_c (by decide +kernel)) (nn_ _) rfl (rf_of rfl) (Nat.le_of_ble_eq_true rfl) (Nat.le_of_ble_eq_true rfl) (Nat.le_of_ble_eq_true rfl) rfl ?_
        rintro U9 _ ⟨x10, rfl, fU9, qU9⟩
        show J_ zX11_chance T (po_X11_chance_e T cl g) 0 0 39 _ [vI x10] U9
        refine j_blx (F := fX11) tb_X11 (nn_ _) bk_X11_chance_e_39 bs_X11_chance_e_39 hz (fun K hK => ?_)
        refine hK 44 _ [vI x10] U9 ?_
        refine j_blx (F := fX11) tb_X11 (nn_ _) bk_X11_chance_e_44 bs_X11_chance_e_44 hz (fun K hK => ?_)
        refine (show po_X11_chance_e T cl g U9 (some (vI x10)) from ?_)
        exact ⟨_, rfl, fr_t (fr_0 _ _) (fr_s fU9 rfl), rfl, Or.inr ⟨by omega, by omega, qU9⟩⟩
    · replace hx4 := hx4.resolve_left (fun z => absurd (c5.symm.trans z.1) (by decide))
      clear c5
      refine (show po_X11_chance_e T cl g T (some (vI (-2))) from ?_)
      exact ⟨_, rfl, fr_0 _ _, rfl, Or.inl ⟨rfl, Or.inl ⟨rfl, by omega⟩⟩⟩
theorem bk_X11_drawn_e_0 : ck_ fX11 (some .int) cX11_drawn 0 [.iload 1, .aload 0, .tableswitch 0 11 12 #[]] 5 = true := qck_r (nn_ _) (by decide +kernel)
theorem bs_X11_drawn_e_0 {P : Zt → Option Zv → Prop} (K : Int → Zl → List Zv → Zt → Prop) : sx_ K P [.iload 1, .aload 0, .tableswitch 0 11 12 #[]] 5 = x_iload 1 (x_aload 0 (x_g0 111 12 0 12 (K 5))) := ((xe_iload 1).trans (congrArg (x_iload 1) ((xe_aload 0).trans (congrArg (x_aload 0) ((xe_g0 (kk := 111) rfl tl_11_12).trans (congrArg (x_g0 111 12 0 12) xe_nil))))))
theorem bk_X11_drawn_e_8 : ck_ fX11 (some .int) cX11_drawn 8 [.ifCond .ne 14, .iconst (-2), .ireturn] 14 = true := qck_r (nn_ _) (by decide +kernel)
theorem bs_X11_drawn_e_8 {P : Zt → Option Zv → Prop} (K : Int → Zl → List Zv → Zt → Prop) : sx_ K P [.ifCond .ne 14, .iconst (-2), .ireturn] 14 = x_ifCond .ne 14 K (x_iconst (-2) (x_ireturn P)) := ((xe_ifCond .ne 14).trans (congrArg (x_ifCond .ne 14 K) ((xe_iconst (-2)).trans (congrArg (x_iconst (-2)) (xe_ireturn)))))
theorem bk_X11_drawn_e_14 : ck_ fX11 (some .int) cX11_drawn 14 [.aload 0, .tableswitch 0 11 98 #[], .ifCond .eq 30, .aload 0, .tableswitch 0 11 102 #[], .iload 1, .iaload, .goto 31] 30 = true := qck_r (nn_ _) (by decide +kernel)
theorem bs_X11_drawn_e_14 {P : Zt → Option Zv → Prop} (K : Int → Zl → List Zv → Zt → Prop) : sx_ K P [.aload 0, .tableswitch 0 11 98 #[], .ifCond .eq 30, .aload 0, .tableswitch 0 11 102 #[], .iload 1, .iaload, .goto 31] 30 = x_aload 0 (x_g0 111 98 0 1 (x_ifCond .eq 30 K (x_aload 0 (x_g1 111 302 (x_iload 1 (x_iaload (x_goto 31 K))))))) := ((xe_aload 0).trans (congrArg (x_aload 0) ((xe_g0 (kk := 111) rfl tl_11_98).trans (congrArg (x_g0 111 98 0 1) ((xe_ifCond .eq 30).trans (congrArg (x_ifCond .eq 30 K) ((xe_aload 0).trans (congrArg (x_aload 0) ((xe_g1 (kk := 111) rfl tl_11_102).trans (congrArg (x_g1 111 302) ((xe_iload 1).trans (congrArg (x_iload 1) ((xe_iaload).trans (congrArg (x_iaload) (xe_goto 31)))))))))))))))
theorem bk_X11_drawn_e_30 : ck_ fX11 (some .int) cX11_drawn 30 [.iconst (-1), .ireturn] 32 = true := qck_r (nn_ _) (by decide +kernel)
theorem bs_X11_drawn_e_30 {P : Zt → Option Zv → Prop} (K : Int → Zl → List Zv → Zt → Prop) : sx_ K P [.iconst (-1), .ireturn] 32 = x_iconst (-1) (x_ireturn P) := ((xe_iconst (-1)).trans (congrArg (x_iconst (-1)) (xe_ireturn)))
theorem bk_X11_drawn_e_31 : ck_ fX11 (some .int) cX11_drawn 31 [.ireturn] 32 = true := qck_r (nn_ _) (by decide +kernel)
theorem bs_X11_drawn_e_31 {P : Zt → Option Zv → Prop} (K : Int → Zl → List Zv → Zt → Prop) : sx_ K P [.ireturn] 32 = x_ireturn P := (xe_ireturn)
abbrev po_X11_drawn_e (T : Zt) (c : Int) : Zt → Option Zv → Prop := fun T' r => T = T' ∧ ∃ x : Int, r = some (vI x) ∧ (DWR_ T c x)
set_option maxHeartbeats 4000000 in
theorem ct_X11_drawn_e {T : Zt} {c : Int} : Ct_ yX11_drawn zX11_drawn T [vR 111 0, vI c] (po_X11_drawn_e T c) := by
  refine ct_of pn_11 rfl rfl (Nat.le_of_ble_eq_true rfl) (fun hT hav => ?_)
  have hr_c : -2147483648 ≤ c ∧ c ≤ 2147483647 := hav (vI c) (List.mem_cons_of_mem _ List.mem_cons_self)
  have hz : zX11_drawn.2.2.2.1 = some .boolean → ∀ (T' : Zt) (x : Int), po_X11_drawn_e T c T' (some (vI x)) → 0 ≤ x ∧ x ≤ 1 := fun h => by cases h
  have hb_12 : 0 ≤ T 111 0 12 ∧ T 111 0 12 ≤ 12 := bd_f hT 111 12 tl_11_12 0
  show J_ zX11_drawn T (po_X11_drawn_e T c) 0 0 0 [some (vR 111 0), some (vI c)] [] T
  refine j_blx (F := fX11) tb_X11 (nn_ _) bk_X11_drawn_e_0 bs_X11_drawn_e_0 hz (fun K hK => ?_)
  intro b1 b1b
  refine hK 5 _ [vI (T 111 0 12), vI c] T ?_
  refine j_callS (y := yX11_isOf) (Yc := zX11_isOf) (rest := []) [vI c, vI (T 111 0 12)] (ct_X11_isOf (T := T) (by omega)) cl_X11_317 (qd_c (by decide +kernel)) (nn_ _) rfl (rf_of rfl) (Nat.le_of_ble_eq_true rfl) (Nat.le_of_ble_eq_true rfl) (Nat.le_of_ble_eq_true rfl) rfl ?_
  rintro _ _ ⟨rfl, x2, rfl, hx2⟩
  show J_ zX11_drawn T (po_X11_drawn_e T c) 0 0 8 _ [vI x2] T
  refine j_blx (F := fX11) tb_X11 (nn_ _) bk_X11_drawn_e_8 bs_X11_drawn_e_8 hz (fun K hK => ?_)
  refine And.intro (fun c3 => ?_) (fun c3 => ?_)
  · replace hx2 := hx2.resolve_right (fun z => c3 z.1)
    clear c3
    refine hK 14 _ [] T ?_
    refine j_blx (F := fX11) tb_X11 (nn_ _) bk_X11_drawn_e_14 bs_X11_drawn_e_14 hz (fun K hK => ?_)
    intro b4 b4b
    refine And.intro (fun c5 => ?_) (fun c5 => ?_)
    · refine hK 30 _ [] T ?_
      refine j_blx (F := fX11) tb_X11 (nn_ _) bk_X11_drawn_e_30 bs_X11_drawn_e_30 hz (fun K hK => ?_)
      refine (show po_X11_drawn_e T c T (some (vI (-1))) from ?_)
      exact ⟨rfl, _, rfl, Or.inr ⟨by omega, Or.inl ⟨by omega, rfl⟩⟩⟩
    · refine ix_i (by omega) ?_
      intro b6 b6b
      refine hK 31 _ [vI (T 302 0 c)] T ?_
      refine j_blx (F := fX11) tb_X11 (nn_ _) bk_X11_drawn_e_31 bs_X11_drawn_e_31 hz (fun K hK => ?_)
      refine (show po_X11_drawn_e T c T (some (vI (T 302 0 c))) from ?_)
      exact ⟨rfl, _, rfl, Or.inr ⟨by omega, Or.inr ⟨by omega, rfl⟩⟩⟩
  · replace hx2 := hx2.resolve_left (fun z => absurd (c3.symm.trans z.1) (by decide))
    clear c3
    refine (show po_X11_drawn_e T c T (some (vI (-2))) from ?_)
    exact ⟨rfl, _, rfl, Or.inl ⟨rfl, by omega⟩⟩
theorem bk_X11_drawing_e_38 : ck_ fX11 (some .int) cX11_drawing 38 [.iload 3, .iconst 12, .if_icmp .ge 64, .aload 0, .tableswitch 0 11 101 #[], .iload 3, .iconst (-1), .iastore, .aload 0, .tableswitch 0 11 102 #[], .iload 3, .iconst (-1), .iastore, .iinc 3 1, .goto 38] 64 = true := qck_r (nn_ _) (by decide +kernel)
theorem bs_X11_drawing_e_38 {P : Zt → Option Zv → Prop} (K : Int → Zl → List Zv → Zt → Prop) : sx_ K P [.iload 3, .iconst 12, .if_icmp .ge 64, .aload 0, .tableswitch 0 11 101 #[], .iload 3, .iconst (-1), .iastore, .aload 0, .tableswitch 0 11 102 #[], .iload 3, .iconst (-1), .iastore, .iinc 3 1, .goto 38] 64 = x_iload 3 (x_iconst 12 (x_if_icmp .ge 64 K (x_aload 0 (x_g1 111 301 (x_iload 3 (x_iconst (-1) (x_iastore (x_aload 0 (x_g1 111 302 (x_iload 3 (x_iconst (-1) (x_iastore (x_iinc 3 1 (x_goto 38 K)))))))))))))) := ((xe_iload 3).trans (congrArg (x_iload 3) ((xe_iconst 12).trans (congrArg (x_iconst 12) ((xe_if_icmp .ge 64).trans (congrArg (x_if_icmp .ge 64 K) ((xe_aload 0).trans (congrArg (x_aload 0) ((xe_g1 (kk := 111) rfl tl_11_101).trans (congrArg (x_g1 111 301) ((xe_iload 3).trans (congrArg (x_iload 3) ((xe_iconst (-1)).trans (congrArg (x_iconst (-1)) ((xe_iastore).trans (congrArg (x_iastore) ((xe_aload 0).trans (congrArg (x_aload 0) ((xe_g1 (kk := 111) rfl tl_11_102).trans (congrArg (x_g1 111 302) ((xe_iload 3).trans (congrArg (x_iload 3) ((xe_iconst (-1)).trans (congrArg (x_iconst (-1)) ((xe_iastore).trans (congrArg (x_iastore) ((xe_iinc 3 1).trans (congrArg (x_iinc 3 1) (xe_goto 38)))))))))))))))))))))))))))))
theorem bk_X11_drawing_e_64 : ck_ fX11 (some .int) cX11_drawing 64 [.iconst 1, .ireturn] 66 = true := qck_r (nn_ _) (by decide +kernel)
theorem bs_X11_drawing_e_64 {P : Zt → Option Zv → Prop} (K : Int → Zl → List Zv → Zt → Prop) : sx_ K P [.iconst 1, .ireturn] 66 = x_iconst 1 (x_ireturn P) := ((xe_iconst 1).trans (congrArg (x_iconst 1) (xe_ireturn)))
theorem bk_X11_drawing_e_0 : ck_ fX11 (some .int) cX11_drawing 0 [.iload 1, .iconst 1, .iconst 4] 3 = true := qck_r (nn_ _) (by decide +kernel)
theorem bs_X11_drawing_e_0 {P : Zt → Option Zv → Prop} (K : Int → Zl → List Zv → Zt → Prop) : sx_ K P [.iload 1, .iconst 1, .iconst 4] 3 = x_iload 1 (x_iconst 1 (x_iconst 4 (K 3))) := ((xe_iload 1).trans (congrArg (x_iload 1) ((xe_iconst 1).trans (congrArg (x_iconst 1) ((xe_iconst 4).trans (congrArg (x_iconst 4) xe_nil))))))
theorem bk_X11_drawing_e_6 : ck_ fX11 (some .int) cX11_drawing 6 [.ifCond .eq 18, .iload 2, .iconst 1, .iconst 3] 12 = true := qck_r (nn_ _) (by decide +kernel)
theorem bs_X11_drawing_e_6 {P : Zt → Option Zv → Prop} (K : Int → Zl → List Zv → Zt → Prop) : sx_ K P [.ifCond .eq 18, .iload 2, .iconst 1, .iconst 3] 12 = x_ifCond .eq 18 K (x_iload 2 (x_iconst 1 (x_iconst 3 (K 12)))) := ((xe_ifCond .eq 18).trans (congrArg (x_ifCond .eq 18 K) ((xe_iload 2).trans (congrArg (x_iload 2) ((xe_iconst 1).trans (congrArg (x_iconst 1) ((xe_iconst 3).trans (congrArg (x_iconst 3) xe_nil))))))))
theorem bk_X11_drawing_e_18 : ck_ fX11 (some .int) cX11_drawing 18 [.iconst (-3), .ireturn] 21 = true := qck_r (nn_ _) (by decide +kernel)
theorem bs_X11_drawing_e_18 {P : Zt → Option Zv → Prop} (K : Int → Zl → List Zv → Zt → Prop) : sx_ K P [.iconst (-3), .ireturn] 21 = x_iconst (-3) (x_ireturn P) := ((xe_iconst (-3)).trans (congrArg (x_iconst (-3)) (xe_ireturn)))
theorem bk_X11_drawing_e_15 : ck_ fX11 (some .int) cX11_drawing 15 [.ifCond .ne 21, .iconst (-3), .ireturn] 21 = true := qck_r (nn_ _) (by decide +kernel)
theorem bs_X11_drawing_e_15 {P : Zt → Option Zv → Prop} (K : Int → Zl → List Zv → Zt → Prop) : sx_ K P [.ifCond .ne 21, .iconst (-3), .ireturn] 21 = x_ifCond .ne 21 K (x_iconst (-3) (x_ireturn P)) := ((xe_ifCond .ne 21).trans (congrArg (x_ifCond .ne 21 K) ((xe_iconst (-3)).trans (congrArg (x_iconst (-3)) (xe_ireturn)))))
theorem bk_X11_drawing_e_21 : ck_ fX11 (some .int) cX11_drawing 21 [.aload 0, .iconst 1, .tableswitch 1 11 98 #[], .aload 0, .iload 1, .tableswitch 1 11 99 #[], .aload 0, .iload 2, .tableswitch 1 11 100 #[], .iconst 0, .istore 3] 38 = true := qck_r (nn_ _) (by decide +kernel)
theorem bs_X11_drawing_e_21 {P : Zt → Option Zv → Prop} (K : Int → Zl → List Zv → Zt → Prop) : sx_ K P [.aload 0, .iconst 1, .tableswitch 1 11 98 #[], .aload 0, .iload 1, .tableswitch 1 11 99 #[], .aload 0, .iload 2, .tableswitch 1 11 100 #[], .iconst 0, .istore 3] 38 = x_aload 0 (x_iconst 1 (x_p 111 98 0 1 (x_aload 0 (x_iload 1 (x_p 111 99 0 4 (x_aload 0 (x_iload 2 (x_p 111 100 0 3 (x_iconst 0 (x_istore 3 (K 38))))))))))) := ((xe_aload 0).trans (congrArg (x_aload 0) ((xe_iconst 1).trans (congrArg (x_iconst 1) ((xe_p (kk := 111) rfl tl_11_98).trans (congrArg (x_p 111 98 0 1) ((xe_aload 0).trans (congrArg (x_aload 0) ((xe_iload 1).trans (congrArg (x_iload 1) ((xe_p (kk := 111) rfl tl_11_99).trans (congrArg (x_p 111 99 0 4) ((xe_aload 0).trans (congrArg (x_aload 0) ((xe_iload 2).trans (congrArg (x_iload 2) ((xe_p (kk := 111) rfl tl_11_100).trans (congrArg (x_p 111 100 0 3) ((xe_iconst 0).trans (congrArg (x_iconst 0) ((xe_istore 3).trans (congrArg (x_istore 3) xe_nil))))))))))))))))))))))
abbrev po_X11_drawing_e (T : Zt) (g l : Int) : Zt → Option Zv → Prop := fun T' r => ∃ x : Int, r = some (vI x) ∧ fr_ [(111, [98, 99, 100]), (301, []), (302, [])] T T' ∧ (((x = -3 ∧ ¬ (1 ≤ g ∧ g ≤ 4 ∧ 1 ≤ l ∧ l ≤ 3)) ∨ (x = 1 ∧ 1 ≤ g ∧ g ≤ 4 ∧ 1 ≤ l ∧ l ≤ 3)) ∧ NDR_ T T' g l x)
set_option maxHeartbeats 4000000 in
theorem ct_X11_drawing_e {T : Zt} {g l : Int} : Ct_ yX11_drawing zX11_drawing T [vR 111 0, vI g, vI l] (po_X11_drawing_e T g l) := by
  refine ct_of pn_11 rfl rfl (Nat.le_of_ble_eq_true rfl) (fun hT hav => ?_)
  have hr_g : -2147483648 ≤ g ∧ g ≤ 2147483647 := hav (vI g) (List.mem_cons_of_mem _ List.mem_cons_self)
  have hr_l : -2147483648 ≤ l ∧ l ≤ 2147483647 := hav (vI l) (List.mem_cons_of_mem _ (List.mem_cons_of_mem _ List.mem_cons_self))
  have hz : zX11_drawing.2.2.2.1 = some .boolean → ∀ (T' : Zt) (x : Int), po_X11_drawing_e T g l T' (some (vI x)) → 0 ≤ x ∧ x ≤ 1 := fun h => by cases h
  show J_ zX11_drawing T (po_X11_drawing_e T g l) 0 0 0 [some (vR 111 0), some (vI g), some (vI l), none] [] T
  have c_38 : ∀ (nn : Nat) (k : Int) (T1 : Zt), ((12 - k).toNat) ≤ nn → (fr_ [(111, [98, 99, 100]), (301, []), (302, [])] T T1) → (0 ≤ k ∧ 1 ≤ g ∧ g ≤ 4 ∧ 1 ≤ l ∧ l ≤ 3) → (T1 111 0 98 = 1 ∧ T1 111 0 99 = g ∧ T1 111 0 100 = l) → (∀ j, 0 ≤ j → j < k → T1 301 0 j = -1 ∧ T1 302 0 j = -1) → J_ zX11_drawing T (po_X11_drawing_e T g l) 0 0 38 [some (vR 111 0), some (vI g), some (vI l), some (vI k)] [] T1 := by
    intro nn
    induction nn using Nat.strongRecOn with
    | _ nn ih_38 =>
      intro k T1 hm_38 hf_38 k1 fb fa
      replace hm_38 := fun (_ : Unit) => hm_38
      refine j_blx (F := fX11) tb_X11 (nn_ _) bk_X11_drawing_e_38 bs_X11_drawing_e_38 hz (fun K hK => ?_)
      refine And.intro (fun c1 => ?_) (fun c1 => ?_)
      · refine hK 64 _ [] T1 ?_
        refine j_blx (F := fX11) tb_X11 (nn_ _) bk_X11_drawing_e_64 bs_X11_drawing_e_64 hz (fun K hK => ?_)
        refine (show po_X11_drawing_e T g l T1 (some (vI 1)) from ?_)
        exact ⟨_, rfl, hf_38, by omega, Or.inr ⟨by omega, rfl, fb.1, fb.2.1, fb.2.2, fun j a b => fa j a (by omega)⟩⟩
      · refine iy_i (by omega) (by omega) ?_
        refine x_nm (fun U2 hU2 => ?_)
        have e3 := up_f hU2
        refine iy_i (by omega) (by omega) ?_
        refine x_nm (fun U4 hU4 => ?_)
        have e5 := up_f hU4
        refine rg_i (by omega) ?_
        refine hK 38 [some (vR 111 0), some (vI g), some (vI l), some (vI (k + 1))] [] U4 ?_
        have e6 : U4 111 0 98 = T1 111 0 98 := (up_k hU4 (by exact Nat.ne_of_beq_eq_false rfl) 0 98).trans (up_k hU2 (by exact Nat.ne_of_beq_eq_false rfl) 0 98)
        have e7 : U4 111 0 99 = T1 111 0 99 := (up_k hU4 (by exact Nat.ne_of_beq_eq_false rfl) 0 99).trans (up_k hU2 (by exact Nat.ne_of_beq_eq_false rfl) 0 99)
        have e8 : U4 111 0 100 = T1 111 0 100 := (up_k hU4 (by exact Nat.ne_of_beq_eq_false rfl) 0 100).trans (up_k hU2 (by exact Nat.ne_of_beq_eq_false rfl) 0 100)
        refine ih_38 _ ?_ (k + 1) U4 (Nat.le_refl _) ?_ ?_ ?_ ?_
        · have hm_38 := hm_38 (); omega
        · exact fr_u (fr_u (fr_t (fr_0 _ _) (fr_s hf_38 rfl)) hU2 rfl) hU4 rfl
        · omega
        · exact ⟨((up_k hU4 (by exact Nat.ne_of_beq_eq_false rfl) 0 98).trans ((up_k hU2 (by exact Nat.ne_of_beq_eq_false rfl) 0 98).trans fb.1)), ((up_k hU4 (by exact Nat.ne_of_beq_eq_false rfl) 0 99).trans ((up_k hU2 (by exact Nat.ne_of_beq_eq_false rfl) 0 99).trans fb.2.1)), ((up_k hU4 (by exact Nat.ne_of_beq_eq_false rfl) 0 100).trans ((up_k hU2 (by exact Nat.ne_of_beq_eq_false rfl) 0 100).trans fb.2.2))⟩
        · intro j a b
          by_cases z : j = k
          · rw [z]; exact ⟨(up_k hU4 (by exact Nat.ne_of_beq_eq_false rfl) 0 k).trans (up_f hU2), up_f hU4⟩
          · exact ⟨(up_k hU4 (by exact Nat.ne_of_beq_eq_false rfl) 0 j).trans ((up_g hU2 (fun q => z q.2.2)).trans (fa j a (by omega)).1), (up_g hU4 (fun q => z q.2.2)).trans ((up_k hU2 (by exact Nat.ne_of_beq_eq_false rfl) 0 j).trans (fa j a (by omega)).2)⟩
  refine j_blx (F := fX11) tb_X11 (nn_ _) bk_X11_drawing_e_0 bs_X11_drawing_e_0 hz (fun K hK => ?_)
  refine hK 3 _ [vI 4, vI 1, vI g] T ?_
  refine j_callS (y := yX11_in) (Yc := zX11_in) (rest := []) [vI g, vI 1, vI 4] (ct_X11_in (T := T)) cl_X11_255 (qd_c (by decide +kernel)) (nn_ _) rfl (rf_of rfl) (Nat.le_of_ble_eq_true rfl) (Nat.le_of_ble_eq_true rfl) (Nat.le_of_ble_eq_true rfl) rfl ?_
  rintro _ _ ⟨rfl, x9, rfl, hx9⟩
  show J_ zX11_drawing T (po_X11_drawing_e T g l) 0 0 6 _ [vI x9] T
  refine j_blx (F := fX11) tb_X11 (nn_ _) bk_X11_drawing_e_6 bs_X11_drawing_e_6 hz (fun K hK => ?_)
  refine And.intro (fun c10 => ?_) (fun c10 => ?_)
  · replace hx9 := hx9.resolve_left (fun z => absurd (c10.symm.trans z.1) (by decide))
    clear c10
    refine hK 18 _ [] T ?_
    refine j_blx (F := fX11) tb_X11 (nn_ _) bk_X11_drawing_e_18 bs_X11_drawing_e_18 hz (fun K hK => ?_)
    refine (show po_X11_drawing_e T g l T (some (vI (-3))) from ?_)
    exact ⟨_, rfl, fr_0 _ _, by omega, Or.inl ⟨rfl, rfl, by omega⟩⟩
  · replace hx9 := hx9.resolve_right (fun z => c10 z.1)
    clear c10
    refine hK 12 _ [vI 3, vI 1, vI l] T ?_
    refine j_callS (y := yX11_in) (Yc := zX11_in) (rest := []) [vI l, vI 1, vI 3] (ct_X11_in (T := T)) cl_X11_255 (qd_c (by decide +kernel)) (nn_ _) rfl (rf_of rfl) (Nat.le_of_ble_eq_true rfl) (Nat.le_of_ble_eq_true rfl) (Nat.le_of_ble_eq_true rfl) rfl ?_
    rintro _ _ ⟨rfl, x11, rfl, hx11⟩
    show J_ zX11_drawing T (po_X11_drawing_e T g l) 0 0 15 _ [vI x11] T
    refine j_blx (F := fX11) tb_X11 (nn_ _) bk_X11_drawing_e_15 bs_X11_drawing_e_15 hz (fun K hK => ?_)
    refine And.intro (fun c12 => ?_) (fun c12 => ?_)
    · replace hx11 := hx11.resolve_right (fun z => c12 z.1)
      clear c12
      refine hK 21 _ [] T ?_
      refine j_blx (F := fX11) tb_X11 (nn_ _) bk_X11_drawing_e_21 bs_X11_drawing_e_21 hz (fun K hK => ?_)
      refine bd_i (by omega) ?_
      refine x_nm (fun U13 hU13 => ?_)
      have e14 := up_f hU13
      refine bd_i (by omega) ?_
      refine x_nm (fun U15 hU15 => ?_)
      have e16 := up_f hU15
      refine bd_i (by omega) ?_
      refine x_nm (fun U17 hU17 => ?_)
      have e18 := up_f hU17
      refine hK 38 [some (vR 111 0), some (vI g), some (vI l), some (vI 0)] [] U17 ?_
      have e19 : U17 111 0 98 = 1 := (up_j hU17 (by decide) 111 0).trans ((up_j hU15 (by decide) 111 0).trans (up_f hU13))
      have e20 : U17 111 0 99 = g := (up_j hU17 (by decide) 111 0).trans (up_f hU15)
      have e21 : U17 111 0 100 = l := up_f hU17
      refine c_38 _ 0 U17 (Nat.le_refl _) ?_ ?_ ?_ ?_
      · exact fr_u (fr_u (fr_u (fr_0 _ _) hU13 rfl) hU15 rfl) hU17 rfl
      · omega
      · exact ⟨(up_j hU17 (by decide) 111 0).trans ((up_j hU15 (by decide) 111 0).trans (up_f hU13)), (up_j hU17 (by decide) 111 0).trans (up_f hU15), up_f hU17⟩
      · intro j a b; omega
    · replace hx11 := hx11.resolve_left (fun z => absurd (c12.symm.trans z.1) (by decide))
      clear c12
      refine (show po_X11_drawing_e T g l T (some (vI (-3))) from ?_)
      exact ⟨_, rfl, fr_0 _ _, by omega, Or.inl ⟨rfl, rfl, by omega⟩⟩
theorem bk_X11_takenBelow_e_13 : ck_ fX11 (some .int) cX11_takenBelow 13 [.iload 4, .ifCond .eq 63, .aload 0, .aload 0, .tableswitch 0 11 103 #[], .iconst 1664525, .fmul, .iconst 1013904223, .fadd, .tableswitch 1 11 103 #[], .aload 0, .tableswitch 0 11 103 #[], .iconst 1, .iushr, .istore 3, .iload 3, .i2l, .sipush 2147483648, .iload 2, .i2l, .lsub, .lcmp, .ifCond .lt 57, .iconst 1, .goto 58] 57 = true := qck_r (nn_ _) (by decide +kernel)
theorem bs_X11_takenBelow_e_13 {P : Zt → Option Zv → Prop} (K : Int → Zl → List Zv → Zt → Prop) : sx_ K P [.iload 4, .ifCond .eq 63, .aload 0, .aload 0, .tableswitch 0 11 103 #[], .iconst 1664525, .fmul, .iconst 1013904223, .fadd, .tableswitch 1 11 103 #[], .aload 0, .tableswitch 0 11 103 #[], .iconst 1, .iushr, .istore 3, .iload 3, .i2l, .sipush 2147483648, .iload 2, .i2l, .lsub, .lcmp, .ifCond .lt 57, .iconst 1, .goto 58] 57 = x_iload 4 (x_ifCond .eq 63 K (x_aload 0 (x_aload 0 (x_g0 111 103 (-2147483648) 2147483647 (x_iconst 1664525 (x_fmul (x_iconst 1013904223 (x_fadd (x_p 111 103 (-2147483648) 2147483647 (x_aload 0 (x_g0 111 103 (-2147483648) 2147483647 (x_iconst 1 (x_iushr (x_istore 3 (x_iload 3 (x_i2l (x_sipush 2147483648 (x_iload 2 (x_i2l (x_lsub (x_lcmp (x_ifCond .lt 57 K (x_iconst 1 (x_goto 58 K)))))))))))))))))))))))) := ((xe_iload 4).trans (congrArg (x_iload 4) ((xe_ifCond .eq 63).trans (congrArg (x_ifCond .eq 63 K) ((xe_aload 0).trans (congrArg (x_aload 0) ((xe_aload 0).trans (congrArg (x_aload 0) ((xe_g0 (kk := 111) rfl tl_11_103).trans (congrArg (x_g0 111 103 (-2147483648) 2147483647) ((xe_iconst 1664525).trans (congrArg (x_iconst 1664525) ((xe_fmul).trans (congrArg (x_fmul) ((xe_iconst 1013904223).trans (congrArg (x_iconst 1013904223) ((xe_fadd).trans (congrArg (x_fadd) ((xe_p (kk := 111) rfl tl_11_103).trans (congrArg (x_p 111 103 (-2147483648) 2147483647) ((xe_aload 0).trans (congrArg (x_aload 0) ((xe_g0 (kk := 111) rfl tl_11_103).trans (congrArg (x_g0 111 103 (-2147483648) 2147483647) ((xe_iconst 1).trans (congrArg (x_iconst 1) ((xe_iushr).trans (congrArg (x_iushr) ((xe_istore 3).trans (congrArg (x_istore 3) ((xe_iload 3).trans (congrArg (x_iload 3) ((xe_i2l).trans (congrArg (x_i2l) ((xe_sipush 2147483648).trans (congrArg (x_sipush 2147483648) ((xe_iload 2).trans (congrArg (x_iload 2) ((xe_i2l).trans (congrArg (x_i2l) ((xe_lsub).trans (congrArg (x_lsub) ((xe_lcmp).trans (congrArg (x_lcmp) ((xe_ifCond .lt 57).trans (congrArg (x_ifCond .lt 57 K) ((xe_iconst 1).trans (congrArg (x_iconst 1) (xe_goto 58)))))))))))))))))))))))))))))))))))))))))))))))))
theorem bk_X11_takenBelow_e_63 : ck_ fX11 (some .int) cX11_takenBelow 63 [.iload 3, .iload 1, .irem, .ireturn] 67 = true := qck_r (nn_ _) (by decide +kernel)
theorem bs_X11_takenBelow_e_63 {P : Zt → Option Zv → Prop} (K : Int → Zl → List Zv → Zt → Prop) : sx_ K P [.iload 3, .iload 1, .irem, .ireturn] 67 = x_iload 3 (x_iload 1 (x_irem (x_ireturn P))) := ((xe_iload 3).trans (congrArg (x_iload 3) ((xe_iload 1).trans (congrArg (x_iload 1) ((xe_irem).trans (congrArg (x_irem) (xe_ireturn)))))))
theorem bk_X11_takenBelow_e_57 : ck_ fX11 (some .int) cX11_takenBelow 57 [.iconst 0, .istore 4, .goto 13] 63 = true := qck_r (nn_ _) (by decide +kernel)
theorem bs_X11_takenBelow_e_57 {P : Zt → Option Zv → Prop} (K : Int → Zl → List Zv → Zt → Prop) : sx_ K P [.iconst 0, .istore 4, .goto 13] 63 = x_iconst 0 (x_istore 4 (x_goto 13 K)) := ((xe_iconst 0).trans (congrArg (x_iconst 0) ((xe_istore 4).trans (congrArg (x_istore 4) (xe_goto 13)))))
theorem bk_X11_takenBelow_e_58 : ck_ fX11 (some .int) cX11_takenBelow 58 [.istore 4, .goto 13] 63 = true := qck_r (nn_ _) (by decide +kernel)
theorem bs_X11_takenBelow_e_58 {P : Zt → Option Zv → Prop} (K : Int → Zl → List Zv → Zt → Prop) : sx_ K P [.istore 4, .goto 13] 63 = x_istore 4 (x_goto 13 K) := ((xe_istore 4).trans (congrArg (x_istore 4) (xe_goto 13)))
theorem bk_X11_takenBelow_e_0 : ck_ fX11 (some .int) cX11_takenBelow 0 [.sipush 2147483648, .iload 1, .i2l, .lrem, .l2i, .istore 2, .iconst 0, .istore 3, .iconst 1, .istore 4] 13 = true := qck_r (nn_ _) (by decide +kernel)
theorem bs_X11_takenBelow_e_0 {P : Zt → Option Zv → Prop} (K : Int → Zl → List Zv → Zt → Prop) : sx_ K P [.sipush 2147483648, .iload 1, .i2l, .lrem, .l2i, .istore 2, .iconst 0, .istore 3, .iconst 1, .istore 4] 13 = x_sipush 2147483648 (x_iload 1 (x_i2l (x_lrem (x_l2i (x_istore 2 (x_iconst 0 (x_istore 3 (x_iconst 1 (x_istore 4 (K 13)))))))))) := ((xe_sipush 2147483648).trans (congrArg (x_sipush 2147483648) ((xe_iload 1).trans (congrArg (x_iload 1) ((xe_i2l).trans (congrArg (x_i2l) ((xe_lrem).trans (congrArg (x_lrem) ((xe_l2i).trans (congrArg (x_l2i) ((xe_istore 2).trans (congrArg (x_istore 2) ((xe_iconst 0).trans (congrArg (x_iconst 0) ((xe_istore 3).trans (congrArg (x_istore 3) ((xe_iconst 1).trans (congrArg (x_iconst 1) ((xe_istore 4).trans (congrArg (x_istore 4) xe_nil))))))))))))))))))))
abbrev po_X11_takenBelow_e (T : Zt) (m : Int) : Zt → Option Zv → Prop := fun T' r => ∃ x : Int, r = some (vI x) ∧ fr_ [(111, [103])] T T' ∧ (x = (tb9_ m (T 111 0 103)).1 ∧ T' 111 0 103 = (tb9_ m (T 111 0 103)).2 ∧ 0 ≤ x ∧ x < m)
set_option maxHeartbeats 4000000 in
theorem ct_X11_takenBelow_e {T : Zt} {m : Int} (h1 : 1 ≤ m ∧ m ≤ 13824) : Ct_ yX11_takenBelow zX11_takenBelow T [vR 111 0, vI m] (po_X11_takenBelow_e T m) := by
  refine ct_of pn_11 rfl rfl (Nat.le_of_ble_eq_true rfl) (fun hT hav => ?_)
  have hr_m : -2147483648 ≤ m ∧ m ≤ 2147483647 := hav (vI m) (List.mem_cons_of_mem _ List.mem_cons_self)
  have hz : zX11_takenBelow.2.2.2.1 = some .boolean → ∀ (T' : Zt) (x : Int), po_X11_takenBelow_e T m T' (some (vI x)) → 0 ≤ x ∧ x ≤ 1 := fun h => by cases h
  have hr1 := Int.emod_nonneg 2147483648 (show m ≠ 0 by omega)
  have hr2 := Int.emod_lt_of_pos 2147483648 (show 0 < m by omega)
  show J_ zX11_takenBelow T (po_X11_takenBelow_e T m) 0 0 0 [some (vR 111 0), some (vI m), none, none, none] [] T
  have c_13 : ∀ (nn : Nat) (v : Int) (mr : Int) (ph : Nat) (T1 : Zt), ph ≤ nn → (fr_ [(111, [103])] T T1) → ((mr = 0 ∧ ph = 0 ∧ 0 ≤ v ∧ v % m = (tb9_ m (T 111 0 103)).1 ∧ T1 111 0 103 = (tb9_ m (T 111 0 103)).2) ∨ (mr = 1 ∧ ph = 1 ∧ T1 111 0 103 = ns9_ (T 111 0 103) ∧ ¬ us_ (ns9_ (T 111 0 103)) 1 < 2147483648 - 2147483648 % m) ∨ (mr = 1 ∧ ph = 2 ∧ T1 111 0 103 = (T 111 0 103))) → J_ zX11_takenBelow T (po_X11_takenBelow_e T m) 0 0 13 [some (vR 111 0), some (vI m), some (vI (2147483648 % m)), some (vI v), some (vI mr)] [] T1 := by
    intro nn
    induction nn using Nat.strongRecOn with
    | _ nn ih_13 =>
      intro v mr ph T1 hm_13 hf_13 hp
      replace hm_13 := fun (_ : Unit) => hm_13
      refine j_blx (F := fX11) tb_X11 (nn_ _) bk_X11_takenBelow_e_13 bs_X11_takenBelow_e_13 hz (fun K hK => ?_)
      refine And.intro (fun c1 => ?_) (fun c1 => ?_)
      · refine hK 63 _ [] T1 ?_
        refine j_blx (F := fX11) tb_X11 (nn_ _) bk_X11_takenBelow_e_63 bs_X11_takenBelow_e_63 hz (fun K hK => ?_)
        have hv1 := Int.emod_nonneg v (show m ≠ 0 by omega)
        have hv2 := Int.emod_lt_of_pos v (show 0 < m by omega)
        refine dv_i (by omega) ?_
        refine (show po_X11_takenBelow_e T m T1 (some (vI (v % m))) from ?_)
        obtain ⟨-, -, y1, y2, y3⟩ := hp.resolve_right (fun z => by omega)
        exact ⟨_, rfl, hf_13, y2, y3, hv1, hv2⟩
      · intro b2 b2b
        intro w3 w3b
        intro w4 w4b
        refine bd_i (by omega) ?_
        refine x_nm (fun U5 hU5 => ?_)
        have e6 := up_f hU5
        intro b7 b7b
        have e8 : U5 111 0 103 = wr_ ((wr_ ((T1 111 0 103) * 1664525)) + 1013904223) := up_f hU5
        rw [e8] at b7 b7b ⊢
        intro w9 w9b
        have hu := us_1 (x := (wr_ ((wr_ ((T1 111 0 103) * 1664525)) + 1013904223))) (by omega)
        have htk : ph = 1 → us_ (wr_ ((wr_ ((T1 111 0 103) * 1664525)) + 1013904223)) 1 < 2147483648 - 2147483648 % m := fun z => by
          rcases hp with y | y | y
          · omega
          · have e9 : us_ (ns9_ (ns9_ (T 111 0 103))) 1 = us_ (wr_ ((wr_ ((T1 111 0 103) * 1664525)) + 1013904223)) 1 := by rw [← y.2.2.1]; rfl
            rw [← e9]; exact tb9_b h1 y.2.2.2
          · omega
        refine rl_i (by omega) ?_
        refine And.intro (fun c10 => ?_) (And.intro (fun c10 => ?_) (fun c10 => ?_))
        · refine And.intro (fun c11 => ?_) (fun c11 => ?_)
          · refine hK 57 [some (vR 111 0), some (vI m), some (vI (2147483648 % m)), some (vI (us_ (wr_ ((wr_ ((T1 111 0 103) * 1664525)) + 1013904223)) 1)), some (vI mr)] [] U5 ?_
            refine j_blx (F := fX11) tb_X11 (nn_ _) bk_X11_takenBelow_e_57 bs_X11_takenBelow_e_57 hz (fun K hK => ?_)
            refine hK 13 [some (vR 111 0), some (vI m), some (vI (2147483648 % m)), some (vI (us_ (wr_ ((wr_ ((T1 111 0 103) * 1664525)) + 1013904223)) 1)), some (vI 0)] [] U5 ?_
            have e12 : U5 111 0 103 = wr_ ((wr_ ((T1 111 0 103) * 1664525)) + 1013904223) := up_f hU5
            refine ih_13 _ ?_ (us_ (wr_ ((wr_ ((T1 111 0 103) * 1664525)) + 1013904223)) 1) 0 0 U5 (Nat.le_refl _) ?_ ?_
            · have hm_13 := hm_13 (); omega
            · exact fr_u (fr_t (fr_0 _ _) (fr_s hf_13 rfl)) hU5 rfl
            · have y := tb9_a (m := m) (s := (T 111 0 103)) (r := T1 111 0 103) (v := us_ (wr_ ((wr_ ((T1 111 0 103) * 1664525)) + 1013904223)) 1) rfl (by omega) (hp.elim (fun z => by omega) (fun z => z.elim (fun z => Or.inr z.2.2) (fun z => Or.inl z.2.2)))
              exact Or.inl ⟨rfl, rfl, by omega, y.1, (up_f hU5).trans y.2⟩
          · refine hK 58 [some (vR 111 0), some (vI m), some (vI (2147483648 % m)), some (vI (us_ (wr_ ((wr_ ((T1 111 0 103) * 1664525)) + 1013904223)) 1)), some (vI mr)] [vI 1] U5 ?_
            refine j_blx (F := fX11) tb_X11 (nn_ _) bk_X11_takenBelow_e_58 bs_X11_takenBelow_e_58 hz (fun K hK => ?_)
            refine hK 13 [some (vR 111 0), some (vI m), some (vI (2147483648 % m)), some (vI (us_ (wr_ ((wr_ ((T1 111 0 103) * 1664525)) + 1013904223)) 1)), some (vI 1)] [] U5 ?_
            have e13 : U5 111 0 103 = wr_ ((wr_ ((T1 111 0 103) * 1664525)) + 1013904223) := up_f hU5
            refine ih_13 _ ?_ (us_ (wr_ ((wr_ ((T1 111 0 103) * 1664525)) + 1013904223)) 1) 1 1 U5 (Nat.le_refl _) ?_ ?_
            · have hm_13 := hm_13 (); omega
            · exact fr_u (fr_t (fr_0 _ _) (fr_s hf_13 rfl)) hU5 rfl
            · rcases hp with z | ⟨z1, z0, z2, z3⟩ | ⟨z1, z0, z2⟩
              · omega
              · exfalso; have y9 := htk z0; omega
              · refine Or.inr (Or.inl ⟨rfl, rfl, ?_, ?_⟩)
                · rw [up_f hU5, z2]; rfl
                · have e9 : us_ (ns9_ (T 111 0 103)) 1 = us_ (wr_ ((wr_ ((T1 111 0 103) * 1664525)) + 1013904223)) 1 := by rw [← z2]; rfl
                  rw [e9]; omega
        · refine And.intro (fun c14 => ?_) (fun c14 => ?_)
          · refine hK 57 [some (vR 111 0), some (vI m), some (vI (2147483648 % m)), some (vI (us_ (wr_ ((wr_ ((T1 111 0 103) * 1664525)) + 1013904223)) 1)), some (vI mr)] [] U5 ?_
            refine j_blx (F := fX11) tb_X11 (nn_ _) bk_X11_takenBelow_e_57 bs_X11_takenBelow_e_57 hz (fun K hK => ?_)
            refine hK 13 [some (vR 111 0), some (vI m), some (vI (2147483648 % m)), some (vI (us_ (wr_ ((wr_ ((T1 111 0 103) * 1664525)) + 1013904223)) 1)), some (vI 0)] [] U5 ?_
            have e15 : U5 111 0 103 = wr_ ((wr_ ((T1 111 0 103) * 1664525)) + 1013904223) := up_f hU5
            refine ih_13 _ ?_ (us_ (wr_ ((wr_ ((T1 111 0 103) * 1664525)) + 1013904223)) 1) 0 0 U5 (Nat.le_refl _) ?_ ?_
            · have hm_13 := hm_13 (); omega
            · exact fr_u (fr_t (fr_0 _ _) (fr_s hf_13 rfl)) hU5 rfl
            · have y := tb9_a (m := m) (s := (T 111 0 103)) (r := T1 111 0 103) (v := us_ (wr_ ((wr_ ((T1 111 0 103) * 1664525)) + 1013904223)) 1) rfl (by omega) (hp.elim (fun z => by omega) (fun z => z.elim (fun z => Or.inr z.2.2) (fun z => Or.inl z.2.2)))
              exact Or.inl ⟨rfl, rfl, by omega, y.1, (up_f hU5).trans y.2⟩
          · refine hK 58 [some (vR 111 0), some (vI m), some (vI (2147483648 % m)), some (vI (us_ (wr_ ((wr_ ((T1 111 0 103) * 1664525)) + 1013904223)) 1)), some (vI mr)] [vI 1] U5 ?_
            refine j_blx (F := fX11) tb_X11 (nn_ _) bk_X11_takenBelow_e_58 bs_X11_takenBelow_e_58 hz (fun K hK => ?_)
            refine hK 13 [some (vR 111 0), some (vI m), some (vI (2147483648 % m)), some (vI (us_ (wr_ ((wr_ ((T1 111 0 103) * 1664525)) + 1013904223)) 1)), some (vI 1)] [] U5 ?_
            have e16 : U5 111 0 103 = wr_ ((wr_ ((T1 111 0 103) * 1664525)) + 1013904223) := up_f hU5
            refine ih_13 _ ?_ (us_ (wr_ ((wr_ ((T1 111 0 103) * 1664525)) + 1013904223)) 1) 1 1 U5 (Nat.le_refl _) ?_ ?_
            · have hm_13 := hm_13 (); omega
            · exact fr_u (fr_t (fr_0 _ _) (fr_s hf_13 rfl)) hU5 rfl
            · rcases hp with z | ⟨z1, z0, z2, z3⟩ | ⟨z1, z0, z2⟩
              · omega
              · exfalso; have y9 := htk z0; omega
              · refine Or.inr (Or.inl ⟨rfl, rfl, ?_, ?_⟩)
                · rw [up_f hU5, z2]; rfl
                · have e9 : us_ (ns9_ (T 111 0 103)) 1 = us_ (wr_ ((wr_ ((T1 111 0 103) * 1664525)) + 1013904223)) 1 := by rw [← z2]; rfl
                  rw [e9]; omega
        · refine And.intro (fun c17 => ?_) (fun c17 => ?_)
          · refine hK 57 [some (vR 111 0), some (vI m), some (vI (2147483648 % m)), some (vI (us_ (wr_ ((wr_ ((T1 111 0 103) * 1664525)) + 1013904223)) 1)), some (vI mr)] [] U5 ?_
            refine j_blx (F := fX11) tb_X11 (nn_ _) bk_X11_takenBelow_e_57 bs_X11_takenBelow_e_57 hz (fun K hK => ?_)
            refine hK 13 [some (vR 111 0), some (vI m), some (vI (2147483648 % m)), some (vI (us_ (wr_ ((wr_ ((T1 111 0 103) * 1664525)) + 1013904223)) 1)), some (vI 0)] [] U5 ?_
            have e18 : U5 111 0 103 = wr_ ((wr_ ((T1 111 0 103) * 1664525)) + 1013904223) := up_f hU5
            refine ih_13 _ ?_ (us_ (wr_ ((wr_ ((T1 111 0 103) * 1664525)) + 1013904223)) 1) 0 0 U5 (Nat.le_refl _) ?_ ?_
            · have hm_13 := hm_13 (); omega
            · exact fr_u (fr_t (fr_0 _ _) (fr_s hf_13 rfl)) hU5 rfl
            · have y := tb9_a (m := m) (s := (T 111 0 103)) (r := T1 111 0 103) (v := us_ (wr_ ((wr_ ((T1 111 0 103) * 1664525)) + 1013904223)) 1) rfl (by omega) (hp.elim (fun z => by omega) (fun z => z.elim (fun z => Or.inr z.2.2) (fun z => Or.inl z.2.2)))
              exact Or.inl ⟨rfl, rfl, by omega, y.1, (up_f hU5).trans y.2⟩
          · refine hK 58 [some (vR 111 0), some (vI m), some (vI (2147483648 % m)), some (vI (us_ (wr_ ((wr_ ((T1 111 0 103) * 1664525)) + 1013904223)) 1)), some (vI mr)] [vI 1] U5 ?_
            refine j_blx (F := fX11) tb_X11 (nn_ _) bk_X11_takenBelow_e_58 bs_X11_takenBelow_e_58 hz (fun K hK => ?_)
            refine hK 13 [some (vR 111 0), some (vI m), some (vI (2147483648 % m)), some (vI (us_ (wr_ ((wr_ ((T1 111 0 103) * 1664525)) + 1013904223)) 1)), some (vI 1)] [] U5 ?_
            have e19 : U5 111 0 103 = wr_ ((wr_ ((T1 111 0 103) * 1664525)) + 1013904223) := up_f hU5
            refine ih_13 _ ?_ (us_ (wr_ ((wr_ ((T1 111 0 103) * 1664525)) + 1013904223)) 1) 1 1 U5 (Nat.le_refl _) ?_ ?_
            · have hm_13 := hm_13 (); omega
            · exact fr_u (fr_t (fr_0 _ _) (fr_s hf_13 rfl)) hU5 rfl
            · rcases hp with z | ⟨z1, z0, z2, z3⟩ | ⟨z1, z0, z2⟩
              · omega
              · exfalso; have y9 := htk z0; omega
              · refine Or.inr (Or.inl ⟨rfl, rfl, ?_, ?_⟩)
                · rw [up_f hU5, z2]; rfl
                · have e9 : us_ (ns9_ (T 111 0 103)) 1 = us_ (wr_ ((wr_ ((T1 111 0 103) * 1664525)) + 1013904223)) 1 := by rw [← z2]; rfl
                  rw [e9]; omega
  refine j_blx (F := fX11) tb_X11 (nn_ _) bk_X11_takenBelow_e_0 bs_X11_takenBelow_e_0 hz (fun K hK => ?_)
  refine dv_i (by omega) ?_
  refine rg_i (by omega) ?_
  refine hK 13 [some (vR 111 0), some (vI m), some (vI (2147483648 % m)), some (vI 0), some (vI 1)] [] T ?_
  refine c_13 _ 0 1 2 T (Nat.le_refl _) ?_ ?_
  · exact fr_0 _ _
  · exact Or.inr (Or.inr ⟨rfl, rfl, rfl⟩)
theorem bk_X11_ball_e_265 : ck_ fX11 (some .int) cX11_ball 265 [.iload 10, .iload 9, .if_icmp .gt 291, .iinc 11 1, .iload 10, .aload 0, .iload 8, .iload 11] 282 = true := qck_r (nn_ _) (by decide +kernel)
theorem bs_X11_ball_e_265 {P : Zt → Option Zv → Prop} (K : Int → Zl → List Zv → Zt → Prop) : sx_ K P [.iload 10, .iload 9, .if_icmp .gt 291, .iinc 11 1, .iload 10, .aload 0, .iload 8, .iload 11] 282 = x_iload 10 (x_iload 9 (x_if_icmp .gt 291 K (x_iinc 11 1 (x_iload 10 (x_aload 0 (x_iload 8 (x_iload 11 (K 282)))))))) := ((xe_iload 10).trans (congrArg (x_iload 10) ((xe_iload 9).trans (congrArg (x_iload 9) ((xe_if_icmp .gt 291).trans (congrArg (x_if_icmp .gt 291 K) ((xe_iinc 11 1).trans (congrArg (x_iinc 11 1) ((xe_iload 10).trans (congrArg (x_iload 10) ((xe_aload 0).trans (congrArg (x_aload 0) ((xe_iload 8).trans (congrArg (x_iload 8) ((xe_iload 11).trans (congrArg (x_iload 11) xe_nil))))))))))))))))
theorem bk_X11_ball_e_291 : ck_ fX11 (some .int) cX11_ball 291 [.aload 0, .tableswitch 0 11 102 #[], .iload 8, .iload 11, .iastore, .iconst 8, .iload 8, .imul, .iload 11, .iadd, .ireturn] 309 = true := qck_r (nn_ _) (by decide +kernel)
theorem bs_X11_ball_e_291 {P : Zt → Option Zv → Prop} (K : Int → Zl → List Zv → Zt → Prop) : sx_ K P [.aload 0, .tableswitch 0 11 102 #[], .iload 8, .iload 11, .iastore, .iconst 8, .iload 8, .imul, .iload 11, .iadd, .ireturn] 309 = x_aload 0 (x_g1 111 302 (x_iload 8 (x_iload 11 (x_iastore (x_iconst 8 (x_iload 8 (x_imul (x_iload 11 (x_iadd (x_ireturn P)))))))))) := ((xe_aload 0).trans (congrArg (x_aload 0) ((xe_g1 (kk := 111) rfl tl_11_102).trans (congrArg (x_g1 111 302) ((xe_iload 8).trans (congrArg (x_iload 8) ((xe_iload 11).trans (congrArg (x_iload 11) ((xe_iastore).trans (congrArg (x_iastore) ((xe_iconst 8).trans (congrArg (x_iconst 8) ((xe_iload 8).trans (congrArg (x_iload 8) ((xe_imul).trans (congrArg (x_imul) ((xe_iload 11).trans (congrArg (x_iload 11) ((xe_iadd).trans (congrArg (x_iadd) (xe_ireturn)))))))))))))))))))))
theorem bk_X11_ball_e_285 : ck_ fX11 (some .int) cX11_ball 285 [.iadd, .istore 10, .goto 265] 291 = true := qck_r (nn_ _) (by decide +kernel)
theorem bs_X11_ball_e_285 {P : Zt → Option Zv → Prop} (K : Int → Zl → List Zv → Zt → Prop) : sx_ K P [.iadd, .istore 10, .goto 265] 291 = x_iadd (x_istore 10 (x_goto 265 K)) := ((xe_iadd).trans (congrArg (x_iadd) ((xe_istore 10).trans (congrArg (x_istore 10) (xe_goto 265)))))
theorem bk_X11_ball_e_196 : ck_ fX11 (some .int) cX11_ball 196 [.iload 9, .aload 0, .tableswitch 0 11 12 #[], .if_icmp .ge 251, .aload 0, .tableswitch 0 11 101 #[], .iload 9, .iaload, .iload 4, .if_icmp .ne 245, .aload 0, .tableswitch 0 11 102 #[], .iload 9, .iaload, .iconst (-1), .if_icmp .ne 245, .iload 7, .ifCond .ne 238, .iload 9, .goto 240] 238 = true := qck_r (nn_ _) (by decide +kernel)
theorem bs_X11_ball_e_196 {P : Zt → Option Zv → Prop} (K : Int → Zl → List Zv → Zt → Prop) : sx_ K P [.iload 9, .aload 0, .tableswitch 0 11 12 #[], .if_icmp .ge 251, .aload 0, .tableswitch 0 11 101 #[], .iload 9, .iaload, .iload 4, .if_icmp .ne 245, .aload 0, .tableswitch 0 11 102 #[], .iload 9, .iaload, .iconst (-1), .if_icmp .ne 245, .iload 7, .ifCond .ne 238, .iload 9, .goto 240] 238 = x_iload 9 (x_aload 0 (x_g0 111 12 0 12 (x_if_icmp .ge 251 K (x_aload 0 (x_g1 111 301 (x_iload 9 (x_iaload (x_iload 4 (x_if_icmp .ne 245 K (x_aload 0 (x_g1 111 302 (x_iload 9 (x_iaload (x_iconst (-1) (x_if_icmp .ne 245 K (x_iload 7 (x_ifCond .ne 238 K (x_iload 9 (x_goto 240 K))))))))))))))))))) := ((xe_iload 9).trans (congrArg (x_iload 9) ((xe_aload 0).trans (congrArg (x_aload 0) ((xe_g0 (kk := 111) rfl tl_11_12).trans (congrArg (x_g0 111 12 0 12) ((xe_if_icmp .ge 251).trans (congrArg (x_if_icmp .ge 251 K) ((xe_aload 0).trans (congrArg (x_aload 0) ((xe_g1 (kk := 111) rfl tl_11_101).trans (congrArg (x_g1 111 301) ((xe_iload 9).trans (congrArg (x_iload 9) ((xe_iaload).trans (congrArg (x_iaload) ((xe_iload 4).trans (congrArg (x_iload 4) ((xe_if_icmp .ne 245).trans (congrArg (x_if_icmp .ne 245 K) ((xe_aload 0).trans (congrArg (x_aload 0) ((xe_g1 (kk := 111) rfl tl_11_102).trans (congrArg (x_g1 111 302) ((xe_iload 9).trans (congrArg (x_iload 9) ((xe_iaload).trans (congrArg (x_iaload) ((xe_iconst (-1)).trans (congrArg (x_iconst (-1)) ((xe_if_icmp .ne 245).trans (congrArg (x_if_icmp .ne 245 K) ((xe_iload 7).trans (congrArg (x_iload 7) ((xe_ifCond .ne 238).trans (congrArg (x_ifCond .ne 238 K) ((xe_iload 9).trans (congrArg (x_iload 9) (xe_goto 240)))))))))))))))))))))))))))))))))))))))
theorem bk_X11_ball_e_251 : ck_ fX11 (some .int) cX11_ball 251 [.aload 0, .iload 5] 254 = true := qck_r (nn_ _) (by decide +kernel)
theorem bs_X11_ball_e_251 {P : Zt → Option Zv → Prop} (K : Int → Zl → List Zv → Zt → Prop) : sx_ K P [.aload 0, .iload 5] 254 = x_aload 0 (x_iload 5 (K 254)) := ((xe_aload 0).trans (congrArg (x_aload 0) ((xe_iload 5).trans (congrArg (x_iload 5) xe_nil))))
theorem bk_X11_ball_e_257 : ck_ fX11 (some .int) cX11_ball 257 [.istore 9, .iconst 0, .istore 10, .iconst (-1), .istore 11] 265 = true := qck_r (nn_ _) (by decide +kernel)
theorem bs_X11_ball_e_257 {P : Zt → Option Zv → Prop} (K : Int → Zl → List Zv → Zt → Prop) : sx_ K P [.istore 9, .iconst 0, .istore 10, .iconst (-1), .istore 11] 265 = x_istore 9 (x_iconst 0 (x_istore 10 (x_iconst (-1) (x_istore 11 (K 265))))) := ((xe_istore 9).trans (congrArg (x_istore 9) ((xe_iconst 0).trans (congrArg (x_iconst 0) ((xe_istore 10).trans (congrArg (x_istore 10) ((xe_iconst (-1)).trans (congrArg (x_iconst (-1)) ((xe_istore 11).trans (congrArg (x_istore 11) xe_nil))))))))))
theorem bk_X11_ball_e_245 : ck_ fX11 (some .int) cX11_ball 245 [.iinc 9 1, .goto 196] 251 = true := qck_r (nn_ _) (by decide +kernel)
theorem bs_X11_ball_e_245 {P : Zt → Option Zv → Prop} (K : Int → Zl → List Zv → Zt → Prop) : sx_ K P [.iinc 9 1, .goto 196] 251 = x_iinc 9 1 (x_goto 196 K) := ((xe_iinc 9 1).trans (congrArg (x_iinc 9 1) (xe_goto 196)))
theorem bk_X11_ball_e_238 : ck_ fX11 (some .int) cX11_ball 238 [.iload 8, .istore 8, .iinc 7 (-1), .iinc 9 1, .goto 196] 251 = true := qck_r (nn_ _) (by decide +kernel)
theorem bs_X11_ball_e_238 {P : Zt → Option Zv → Prop} (K : Int → Zl → List Zv → Zt → Prop) : sx_ K P [.iload 8, .istore 8, .iinc 7 (-1), .iinc 9 1, .goto 196] 251 = x_iload 8 (x_istore 8 (x_iinc 7 (-1) (x_iinc 9 1 (x_goto 196 K)))) := ((xe_iload 8).trans (congrArg (x_iload 8) ((xe_istore 8).trans (congrArg (x_istore 8) ((xe_iinc 7 (-1)).trans (congrArg (x_iinc 7 (-1)) ((xe_iinc 9 1).trans (congrArg (x_iinc 9 1) (xe_goto 196)))))))))
theorem bk_X11_ball_e_240 : ck_ fX11 (some .int) cX11_ball 240 [.istore 8, .iinc 7 (-1), .iinc 9 1, .goto 196] 251 = true := qck_r (nn_ _) (by decide +kernel)
theorem bs_X11_ball_e_240 {P : Zt → Option Zv → Prop} (K : Int → Zl → List Zv → Zt → Prop) : sx_ K P [.istore 8, .iinc 7 (-1), .iinc 9 1, .goto 196] 251 = x_istore 8 (x_iinc 7 (-1) (x_iinc 9 1 (x_goto 196 K))) := ((xe_istore 8).trans (congrArg (x_istore 8) ((xe_iinc 7 (-1)).trans (congrArg (x_iinc 7 (-1)) ((xe_iinc 9 1).trans (congrArg (x_iinc 9 1) (xe_goto 196)))))))
theorem bk_X11_ball_e_134 : ck_ fX11 (some .int) cX11_ball 134 [.iload 7, .aload 0, .tableswitch 0 11 12 #[], .if_icmp .ge 182, .iload 6, .aload 0, .tableswitch 0 11 101 #[], .iload 7, .iaload, .iload 4, .if_icmp .ne 172, .aload 0, .tableswitch 0 11 102 #[], .iload 7, .iaload, .iconst (-1), .if_icmp .ne 172, .iconst 1, .goto 173] 172 = true := qck_r (nn_ _) (by decide +kernel)
theorem bs_X11_ball_e_134 {P : Zt → Option Zv → Prop} (K : Int → Zl → List Zv → Zt → Prop) : sx_ K P [.iload 7, .aload 0, .tableswitch 0 11 12 #[], .if_icmp .ge 182, .iload 6, .aload 0, .tableswitch 0 11 101 #[], .iload 7, .iaload, .iload 4, .if_icmp .ne 172, .aload 0, .tableswitch 0 11 102 #[], .iload 7, .iaload, .iconst (-1), .if_icmp .ne 172, .iconst 1, .goto 173] 172 = x_iload 7 (x_aload 0 (x_g0 111 12 0 12 (x_if_icmp .ge 182 K (x_iload 6 (x_aload 0 (x_g1 111 301 (x_iload 7 (x_iaload (x_iload 4 (x_if_icmp .ne 172 K (x_aload 0 (x_g1 111 302 (x_iload 7 (x_iaload (x_iconst (-1) (x_if_icmp .ne 172 K (x_iconst 1 (x_goto 173 K)))))))))))))))))) := ((xe_iload 7).trans (congrArg (x_iload 7) ((xe_aload 0).trans (congrArg (x_aload 0) ((xe_g0 (kk := 111) rfl tl_11_12).trans (congrArg (x_g0 111 12 0 12) ((xe_if_icmp .ge 182).trans (congrArg (x_if_icmp .ge 182 K) ((xe_iload 6).trans (congrArg (x_iload 6) ((xe_aload 0).trans (congrArg (x_aload 0) ((xe_g1 (kk := 111) rfl tl_11_101).trans (congrArg (x_g1 111 301) ((xe_iload 7).trans (congrArg (x_iload 7) ((xe_iaload).trans (congrArg (x_iaload) ((xe_iload 4).trans (congrArg (x_iload 4) ((xe_if_icmp .ne 172).trans (congrArg (x_if_icmp .ne 172 K) ((xe_aload 0).trans (congrArg (x_aload 0) ((xe_g1 (kk := 111) rfl tl_11_102).trans (congrArg (x_g1 111 302) ((xe_iload 7).trans (congrArg (x_iload 7) ((xe_iaload).trans (congrArg (x_iaload) ((xe_iconst (-1)).trans (congrArg (x_iconst (-1)) ((xe_if_icmp .ne 172).trans (congrArg (x_if_icmp .ne 172 K) ((xe_iconst 1).trans (congrArg (x_iconst 1) (xe_goto 173)))))))))))))))))))))))))))))))))))))
theorem bk_X11_ball_e_182 : ck_ fX11 (some .int) cX11_ball 182 [.aload 0, .iload 6] 185 = true := qck_r (nn_ _) (by decide +kernel)
theorem bs_X11_ball_e_182 {P : Zt → Option Zv → Prop} (K : Int → Zl → List Zv → Zt → Prop) : sx_ K P [.aload 0, .iload 6] 185 = x_aload 0 (x_iload 6 (K 185)) := ((xe_aload 0).trans (congrArg (x_aload 0) ((xe_iload 6).trans (congrArg (x_iload 6) xe_nil))))
theorem bk_X11_ball_e_188 : ck_ fX11 (some .int) cX11_ball 188 [.istore 7, .iconst (-1), .istore 8, .iconst 0, .istore 9] 196 = true := qck_r (nn_ _) (by decide +kernel)
theorem bs_X11_ball_e_188 {P : Zt → Option Zv → Prop} (K : Int → Zl → List Zv → Zt → Prop) : sx_ K P [.istore 7, .iconst (-1), .istore 8, .iconst 0, .istore 9] 196 = x_istore 7 (x_iconst (-1) (x_istore 8 (x_iconst 0 (x_istore 9 (K 196))))) := ((xe_istore 7).trans (congrArg (x_istore 7) ((xe_iconst (-1)).trans (congrArg (x_iconst (-1)) ((xe_istore 8).trans (congrArg (x_istore 8) ((xe_iconst 0).trans (congrArg (x_iconst 0) ((xe_istore 9).trans (congrArg (x_istore 9) xe_nil))))))))))
theorem bk_X11_ball_e_172 : ck_ fX11 (some .int) cX11_ball 172 [.iconst 0, .iadd, .istore 6, .iinc 7 1, .goto 134] 182 = true := qck_r (nn_ _) (by decide +kernel)
theorem bs_X11_ball_e_172 {P : Zt → Option Zv → Prop} (K : Int → Zl → List Zv → Zt → Prop) : sx_ K P [.iconst 0, .iadd, .istore 6, .iinc 7 1, .goto 134] 182 = x_iconst 0 (x_iadd (x_istore 6 (x_iinc 7 1 (x_goto 134 K)))) := ((xe_iconst 0).trans (congrArg (x_iconst 0) ((xe_iadd).trans (congrArg (x_iadd) ((xe_istore 6).trans (congrArg (x_istore 6) ((xe_iinc 7 1).trans (congrArg (x_iinc 7 1) (xe_goto 134)))))))))
theorem bk_X11_ball_e_173 : ck_ fX11 (some .int) cX11_ball 173 [.iadd, .istore 6, .iinc 7 1, .goto 134] 182 = true := qck_r (nn_ _) (by decide +kernel)
theorem bs_X11_ball_e_173 {P : Zt → Option Zv → Prop} (K : Int → Zl → List Zv → Zt → Prop) : sx_ K P [.iadd, .istore 6, .iinc 7 1, .goto 134] 182 = x_iadd (x_istore 6 (x_iinc 7 1 (x_goto 134 K))) := ((xe_iadd).trans (congrArg (x_iadd) ((xe_istore 6).trans (congrArg (x_istore 6) ((xe_iinc 7 1).trans (congrArg (x_iinc 7 1) (xe_goto 134)))))))
theorem bk_X11_ball_e_8 : ck_ fX11 (some .int) cX11_ball 8 [.iload 5, .aload 0, .tableswitch 0 11 12 #[], .if_icmp .ge 81, .aload 0, .tableswitch 0 11 98 #[], .ifCond .eq 81, .aload 0, .tableswitch 0 11 101 #[], .iload 5, .iaload, .iconst (-1), .if_icmp .eq 75, .aload 0, .tableswitch 0 11 102 #[], .iload 5, .iaload, .iconst (-1), .if_icmp .ne 75, .aload 0, .tableswitch 0 11 101 #[], .iload 5, .iaload, .iload 4, .if_icmp .ge 68, .aload 0, .tableswitch 0 11 101 #[], .iload 5, .iaload, .goto 70] 68 = true := qck_r (nn_ _) (by decide +kernel)
theorem bs_X11_ball_e_8 {P : Zt → Option Zv → Prop} (K : Int → Zl → List Zv → Zt → Prop) : sx_ K P [.iload 5, .aload 0, .tableswitch 0 11 12 #[], .if_icmp .ge 81, .aload 0, .tableswitch 0 11 98 #[], .ifCond .eq 81, .aload 0, .tableswitch 0 11 101 #[], .iload 5, .iaload, .iconst (-1), .if_icmp .eq 75, .aload 0, .tableswitch 0 11 102 #[], .iload 5, .iaload, .iconst (-1), .if_icmp .ne 75, .aload 0, .tableswitch 0 11 101 #[], .iload 5, .iaload, .iload 4, .if_icmp .ge 68, .aload 0, .tableswitch 0 11 101 #[], .iload 5, .iaload, .goto 70] 68 = x_iload 5 (x_aload 0 (x_g0 111 12 0 12 (x_if_icmp .ge 81 K (x_aload 0 (x_g0 111 98 0 1 (x_ifCond .eq 81 K (x_aload 0 (x_g1 111 301 (x_iload 5 (x_iaload (x_iconst (-1) (x_if_icmp .eq 75 K (x_aload 0 (x_g1 111 302 (x_iload 5 (x_iaload (x_iconst (-1) (x_if_icmp .ne 75 K (x_aload 0 (x_g1 111 301 (x_iload 5 (x_iaload (x_iload 4 (x_if_icmp .ge 68 K (x_aload 0 (x_g1 111 301 (x_iload 5 (x_iaload (x_goto 70 K))))))))))))))))))))))))))))) := ((xe_iload 5).trans (congrArg (x_iload 5) ((xe_aload 0).trans (congrArg (x_aload 0) ((xe_g0 (kk := 111) rfl tl_11_12).trans (congrArg (x_g0 111 12 0 12) ((xe_if_icmp .ge 81).trans (congrArg (x_if_icmp .ge 81 K) ((xe_aload 0).trans (congrArg (x_aload 0) ((xe_g0 (kk := 111) rfl tl_11_98).trans (congrArg (x_g0 111 98 0 1) ((xe_ifCond .eq 81).trans (congrArg (x_ifCond .eq 81 K) ((xe_aload 0).trans (congrArg (x_aload 0) ((xe_g1 (kk := 111) rfl tl_11_101).trans (congrArg (x_g1 111 301) ((xe_iload 5).trans (congrArg (x_iload 5) ((xe_iaload).trans (congrArg (x_iaload) ((xe_iconst (-1)).trans (congrArg (x_iconst (-1)) ((xe_if_icmp .eq 75).trans (congrArg (x_if_icmp .eq 75 K) ((xe_aload 0).trans (congrArg (x_aload 0) ((xe_g1 (kk := 111) rfl tl_11_102).trans (congrArg (x_g1 111 302) ((xe_iload 5).trans (congrArg (x_iload 5) ((xe_iaload).trans (congrArg (x_iaload) ((xe_iconst (-1)).trans (congrArg (x_iconst (-1)) ((xe_if_icmp .ne 75).trans (congrArg (x_if_icmp .ne 75 K) ((xe_aload 0).trans (congrArg (x_aload 0) ((xe_g1 (kk := 111) rfl tl_11_101).trans (congrArg (x_g1 111 301) ((xe_iload 5).trans (congrArg (x_iload 5) ((xe_iaload).trans (congrArg (x_iaload) ((xe_iload 4).trans (congrArg (x_iload 4) ((xe_if_icmp .ge 68).trans (congrArg (x_if_icmp .ge 68 K) ((xe_aload 0).trans (congrArg (x_aload 0) ((xe_g1 (kk := 111) rfl tl_11_101).trans (congrArg (x_g1 111 301) ((xe_iload 5).trans (congrArg (x_iload 5) ((xe_iaload).trans (congrArg (x_iaload) (xe_goto 70)))))))))))))))))))))))))))))))))))))))))))))))))))))))))))
theorem bk_X11_ball_e_81 : ck_ fX11 (some .int) cX11_ball 81 [.aload 0, .tableswitch 0 11 98 #[], .ifCond .eq 101, .iload 3, .ifCond .le 101, .aload 0, .iconst (-1), .iconst (-1)] 95 = true := qck_r (nn_ _) (by decide +kernel)
theorem bs_X11_ball_e_81 {P : Zt → Option Zv → Prop} (K : Int → Zl → List Zv → Zt → Prop) : sx_ K P [.aload 0, .tableswitch 0 11 98 #[], .ifCond .eq 101, .iload 3, .ifCond .le 101, .aload 0, .iconst (-1), .iconst (-1)] 95 = x_aload 0 (x_g0 111 98 0 1 (x_ifCond .eq 101 K (x_iload 3 (x_ifCond .le 101 K (x_aload 0 (x_iconst (-1) (x_iconst (-1) (K 95)))))))) := ((xe_aload 0).trans (congrArg (x_aload 0) ((xe_g0 (kk := 111) rfl tl_11_98).trans (congrArg (x_g0 111 98 0 1) ((xe_ifCond .eq 101).trans (congrArg (x_ifCond .eq 101 K) ((xe_iload 3).trans (congrArg (x_iload 3) ((xe_ifCond .le 101).trans (congrArg (x_ifCond .le 101 K) ((xe_aload 0).trans (congrArg (x_aload 0) ((xe_iconst (-1)).trans (congrArg (x_iconst (-1)) ((xe_iconst (-1)).trans (congrArg (x_iconst (-1)) xe_nil))))))))))))))))
theorem bk_X11_ball_e_101 : ck_ fX11 (some .int) cX11_ball 101 [.iconst 0, .istore 5, .iload 5, .ifCond .ne 112, .iconst (-4), .ireturn] 112 = true := qck_r (nn_ _) (by decide +kernel)
theorem bs_X11_ball_e_101 {P : Zt → Option Zv → Prop} (K : Int → Zl → List Zv → Zt → Prop) : sx_ K P [.iconst 0, .istore 5, .iload 5, .ifCond .ne 112, .iconst (-4), .ireturn] 112 = x_iconst 0 (x_istore 5 (x_iload 5 (x_ifCond .ne 112 K (x_iconst (-4) (x_ireturn P))))) := ((xe_iconst 0).trans (congrArg (x_iconst 0) ((xe_istore 5).trans (congrArg (x_istore 5) ((xe_iload 5).trans (congrArg (x_iload 5) ((xe_ifCond .ne 112).trans (congrArg (x_ifCond .ne 112 K) ((xe_iconst (-4)).trans (congrArg (x_iconst (-4)) (xe_ireturn)))))))))))
theorem bk_X11_ball_e_98 : ck_ fX11 (some .int) cX11_ball 98 [.goto 102] 101 = true := qck_r (nn_ _) (by decide +kernel)
theorem bs_X11_ball_e_98 {P : Zt → Option Zv → Prop} (K : Int → Zl → List Zv → Zt → Prop) : sx_ K P [.goto 102] 101 = x_goto 102 K := (xe_goto 102)
theorem bk_X11_ball_e_102 : ck_ fX11 (some .int) cX11_ball 102 [.istore 5, .iload 5, .ifCond .ne 112, .iconst (-4), .ireturn] 112 = true := qck_r (nn_ _) (by decide +kernel)
theorem bs_X11_ball_e_102 {P : Zt → Option Zv → Prop} (K : Int → Zl → List Zv → Zt → Prop) : sx_ K P [.istore 5, .iload 5, .ifCond .ne 112, .iconst (-4), .ireturn] 112 = x_istore 5 (x_iload 5 (x_ifCond .ne 112 K (x_iconst (-4) (x_ireturn P)))) := ((xe_istore 5).trans (congrArg (x_istore 5) ((xe_iload 5).trans (congrArg (x_iload 5) ((xe_ifCond .ne 112).trans (congrArg (x_ifCond .ne 112 K) ((xe_iconst (-4)).trans (congrArg (x_iconst (-4)) (xe_ireturn)))))))))
theorem bk_X11_ball_e_112 : ck_ fX11 (some .int) cX11_ball 112 [.aload 0, .iload 2, .ifCond .eq 121, .iload 1, .goto 125] 121 = true := qck_r (nn_ _) (by decide +kernel)
theorem bs_X11_ball_e_112 {P : Zt → Option Zv → Prop} (K : Int → Zl → List Zv → Zt → Prop) : sx_ K P [.aload 0, .iload 2, .ifCond .eq 121, .iload 1, .goto 125] 121 = x_aload 0 (x_iload 2 (x_ifCond .eq 121 K (x_iload 1 (x_goto 125 K)))) := ((xe_aload 0).trans (congrArg (x_aload 0) ((xe_iload 2).trans (congrArg (x_iload 2) ((xe_ifCond .eq 121).trans (congrArg (x_ifCond .eq 121 K) ((xe_iload 1).trans (congrArg (x_iload 1) (xe_goto 125)))))))))
theorem bk_X11_ball_e_121 : ck_ fX11 (some .int) cX11_ball 121 [.aload 0, .tableswitch 0 11 103 #[], .tableswitch 1 11 103 #[], .iconst 0, .istore 6, .iconst 0, .istore 7] 134 = true := qck_r (nn_ _) (by decide +kernel)
theorem bs_X11_ball_e_121 {P : Zt → Option Zv → Prop} (K : Int → Zl → List Zv → Zt → Prop) : sx_ K P [.aload 0, .tableswitch 0 11 103 #[], .tableswitch 1 11 103 #[], .iconst 0, .istore 6, .iconst 0, .istore 7] 134 = x_aload 0 (x_g0 111 103 (-2147483648) 2147483647 (x_p 111 103 (-2147483648) 2147483647 (x_iconst 0 (x_istore 6 (x_iconst 0 (x_istore 7 (K 134))))))) := ((xe_aload 0).trans (congrArg (x_aload 0) ((xe_g0 (kk := 111) rfl tl_11_103).trans (congrArg (x_g0 111 103 (-2147483648) 2147483647) ((xe_p (kk := 111) rfl tl_11_103).trans (congrArg (x_p 111 103 (-2147483648) 2147483647) ((xe_iconst 0).trans (congrArg (x_iconst 0) ((xe_istore 6).trans (congrArg (x_istore 6) ((xe_iconst 0).trans (congrArg (x_iconst 0) ((xe_istore 7).trans (congrArg (x_istore 7) xe_nil))))))))))))))
theorem bk_X11_ball_e_125 : ck_ fX11 (some .int) cX11_ball 125 [.tableswitch 1 11 103 #[], .iconst 0, .istore 6, .iconst 0, .istore 7] 134 = true := qck_r (nn_ _) (by decide +kernel)
theorem bs_X11_ball_e_125 {P : Zt → Option Zv → Prop} (K : Int → Zl → List Zv → Zt → Prop) : sx_ K P [.tableswitch 1 11 103 #[], .iconst 0, .istore 6, .iconst 0, .istore 7] 134 = x_p 111 103 (-2147483648) 2147483647 (x_iconst 0 (x_istore 6 (x_iconst 0 (x_istore 7 (K 134))))) := ((xe_p (kk := 111) rfl tl_11_103).trans (congrArg (x_p 111 103 (-2147483648) 2147483647) ((xe_iconst 0).trans (congrArg (x_iconst 0) ((xe_istore 6).trans (congrArg (x_istore 6) ((xe_iconst 0).trans (congrArg (x_iconst 0) ((xe_istore 7).trans (congrArg (x_istore 7) xe_nil))))))))))
theorem bk_X11_ball_e_75 : ck_ fX11 (some .int) cX11_ball 75 [.iinc 5 1, .goto 8] 81 = true := qck_r (nn_ _) (by decide +kernel)
theorem bs_X11_ball_e_75 {P : Zt → Option Zv → Prop} (K : Int → Zl → List Zv → Zt → Prop) : sx_ K P [.iinc 5 1, .goto 8] 81 = x_iinc 5 1 (x_goto 8 K) := ((xe_iinc 5 1).trans (congrArg (x_iinc 5 1) (xe_goto 8)))
theorem bk_X11_ball_e_68 : ck_ fX11 (some .int) cX11_ball 68 [.iload 4, .istore 4, .iinc 3 1, .iinc 5 1, .goto 8] 81 = true := qck_r (nn_ _) (by decide +kernel)
theorem bs_X11_ball_e_68 {P : Zt → Option Zv → Prop} (K : Int → Zl → List Zv → Zt → Prop) : sx_ K P [.iload 4, .istore 4, .iinc 3 1, .iinc 5 1, .goto 8] 81 = x_iload 4 (x_istore 4 (x_iinc 3 1 (x_iinc 5 1 (x_goto 8 K)))) := ((xe_iload 4).trans (congrArg (x_iload 4) ((xe_istore 4).trans (congrArg (x_istore 4) ((xe_iinc 3 1).trans (congrArg (x_iinc 3 1) ((xe_iinc 5 1).trans (congrArg (x_iinc 5 1) (xe_goto 8)))))))))
theorem bk_X11_ball_e_70 : ck_ fX11 (some .int) cX11_ball 70 [.istore 4, .iinc 3 1, .iinc 5 1, .goto 8] 81 = true := qck_r (nn_ _) (by decide +kernel)
theorem bs_X11_ball_e_70 {P : Zt → Option Zv → Prop} (K : Int → Zl → List Zv → Zt → Prop) : sx_ K P [.istore 4, .iinc 3 1, .iinc 5 1, .goto 8] 81 = x_istore 4 (x_iinc 3 1 (x_iinc 5 1 (x_goto 8 K))) := ((xe_istore 4).trans (congrArg (x_istore 4) ((xe_iinc 3 1).trans (congrArg (x_iinc 3 1) ((xe_iinc 5 1).trans (congrArg (x_iinc 5 1) (xe_goto 8)))))))
theorem bk_X11_ball_e_0 : ck_ fX11 (some .int) cX11_ball 0 [.iconst 0, .istore 3, .iconst 3, .istore 4, .iconst 0, .istore 5] 8 = true := qck_r (nn_ _) (by decide +kernel)
theorem bs_X11_ball_e_0 {P : Zt → Option Zv → Prop} (K : Int → Zl → List Zv → Zt → Prop) : sx_ K P [.iconst 0, .istore 3, .iconst 3, .istore 4, .iconst 0, .istore 5] 8 = x_iconst 0 (x_istore 3 (x_iconst 3 (x_istore 4 (x_iconst 0 (x_istore 5 (K 8)))))) := ((xe_iconst 0).trans (congrArg (x_iconst 0) ((xe_istore 3).trans (congrArg (x_istore 3) ((xe_iconst 3).trans (congrArg (x_iconst 3) ((xe_istore 4).trans (congrArg (x_istore 4) ((xe_iconst 0).trans (congrArg (x_iconst 0) ((xe_istore 5).trans (congrArg (x_istore 5) xe_nil))))))))))))
abbrev po_X11_ball_e (T : Zt) (ta fi : Int) : Zt → Option Zv → Prop := fun T' r => ∃ x : Int, r = some (vI x) ∧ fr_ [(304, []), (305, []), (302, []), (111, [103])] T T' ∧ (x = x ∧ BLR_ T T' ta fi x)
set_option maxHeartbeats 4000000 in
theorem ct_X11_ball_e {T : Zt} {ta fi : Int} : Ct_ yX11_ball zX11_ball T [vR 111 0, vI ta, vI fi] (po_X11_ball_e T ta fi) := by
  refine ct_of pn_11 rfl rfl (Nat.le_of_ble_eq_true rfl) (fun hT hav => ?_)
  have hr_ta : -2147483648 ≤ ta ∧ ta ≤ 2147483647 := hav (vI ta) (List.mem_cons_of_mem _ List.mem_cons_self)
  have hr_fi : -2147483648 ≤ fi ∧ fi ≤ 2147483647 := hav (vI fi) (List.mem_cons_of_mem _ (List.mem_cons_of_mem _ List.mem_cons_self))
  have hz : zX11_ball.2.2.2.1 = some .boolean → ∀ (T' : Zt) (x : Int), po_X11_ball_e T ta fi T' (some (vI x)) → 0 ≤ x ∧ x ≤ 1 := fun h => by cases h
  have hb_12 : 0 ≤ T 111 0 12 ∧ T 111 0 12 ≤ 12 := bd_f hT 111 12 tl_11_12 0
  have hb_99 : 0 ≤ T 111 0 99 ∧ T 111 0 99 ≤ 4 := bd_f hT 111 99 tl_11_99 0
  show J_ zX11_ball T (po_X11_ball_e T ta fi) 0 0 0 [some (vR 111 0), some (vI ta), some (vI fi), none, none, none, none, none, none, none, none, none] [] T
  have c_265 : ∀ (nn : Nat) (pt : Int) (al : Int) (cl : Int) (tk : Int) (sm : Int) (g : Int) (s0 : Int) (T3 : Zt), ((3 - g).toNat) ≤ nn → (fr_ [(304, []), (305, []), (302, []), (111, [103])] T T3) → (al = BR0_ T ∧ 1 ≤ al ∧ al ≤ 13824) → (EL_ T pt (T 111 0 12) ∧ LP9_ T pt (T 111 0 12) ∧ T 111 0 98 ≠ 0) → (∀ k, T3 302 0 k = T 302 0 k) → (-1 ≤ g ∧ g ≤ 3 ∧ 0 ≤ tk ∧ tk < al ∧ 0 ≤ cl ∧ cl < T 111 0 12 ∧ T 301 0 cl = pt ∧ T 302 0 cl = -1 ∧ 0 ≤ pt ∧ pt ≤ 2 ∧ 0 ≤ sm ∧ sm ≤ tk + 13824) → (sm = sgm_ T cl g ∧ (g = -1 ∨ sgm_ T cl (g - 1) ≤ tk) ∧ 0 = (0 : Int)) → (((fi = 0 ∧ s0 = (T 111 0 103)) ∨ (fi ≠ 0 ∧ s0 = ta)) ∧ cel_ T pt cl = (tb9_ (cel_ T pt (T 111 0 12)) s0).1 ∧ tk = (tb9_ (BR0_ T) (tb9_ (cel_ T pt (T 111 0 12)) s0).2).1 ∧ T3 111 0 103 = (tb9_ (BR0_ T) (tb9_ (cel_ T pt (T 111 0 12)) s0).2).2) → J_ zX11_ball T (po_X11_ball_e T ta fi) 0 0 265 [some (vR 111 0), some (vI ta), some (vI fi), none, some (vI pt), some (vI al), none, none, some (vI cl), some (vI tk), some (vI sm), some (vI g)] [] T3 := by
    intro nn
    induction nn using Nat.strongRecOn with
    | _ nn ih_265 =>
      intro pt al cl tk sm g s0 T3 hm_265 hf_265 al1 el go3 i3 sg sd3
      replace hm_265 := fun (_ : Unit) => hm_265
      refine j_blx (F := fX11) tb_X11 (nn_ _) bk_X11_ball_e_265 bs_X11_ball_e_265 hz (fun K hK => ?_)
      refine And.intro (fun c1 => ?_) (fun c1 => ?_)
      · refine hK 291 _ [] T3 ?_
        refine j_blx (F := fX11) tb_X11 (nn_ _) bk_X11_ball_e_291 bs_X11_ball_e_291 hz (fun K hK => ?_)
        refine iy_i (by omega) (by omega) ?_
        refine x_nm (fun U2 hU2 => ?_)
        have e3 := up_f hU2
        refine rg_i (by omega) ?_
        refine rg_i (by omega) ?_
        refine (show po_X11_ball_e T ta fi U2 (some (vI ((8 * cl) + g))) from ?_)
        have hg0 : g ≠ -1 := fun z => by have y := sg.1; rw [z, sgm_0] at y; omega
        exact ⟨_, rfl, fr_u (fr_t (fr_0 _ _) (fr_s hf_265 rfl)) hU2 rfl, rfl, Or.inr ⟨el.2.2, by omega, s0, pt, cl, g, sd3.1, el.1, el.2.1, ⟨by omega, by omega, by omega, by omega, sd3.2.1⟩, by omega, ⟨by rw [← sd3.2.2.1]; exact sg.2.1.resolve_left hg0, by rw [← sd3.2.2.1]; have y := sg.1; omega⟩, (up_k hU2 (by exact Nat.ne_of_beq_eq_false rfl) 0 _).trans sd3.2.2.2, up_f hU2, fun j hj => (up_g hU2 (fun q => hj q.2.2)).trans (go3 j), rfl⟩⟩
      · have hg3 : g < 3 := by
          apply Int.not_le.mp
          intro z
          have e9 := sgm_3 (T := T) (c := cl) (by omega) (by omega) (by omega) (by omega)
          rw [show (3 : Int) = g by omega] at e9
          have e8 : al = (nw_ (drw_ T) (-1) (-1) (ll_ T) (gf_ T) : Nat) := al1.1
          have e7 := sg.1
          omega
        refine rg_i (by omega) ?_
        refine hK 282 [some (vR 111 0), some (vI ta), some (vI fi), none, some (vI pt), some (vI al), none, none, some (vI cl), some (vI tk), some (vI sm), some (vI (g + 1))] [vI (g + 1), vI cl, vR 111 0, vI sm] T3 ?_
        refine j_callV (y := yX11_countWays) (Yc := zX11_countWays) (rest := [vI sm]) [vI cl, vI (g + 1)] (ct_X11_countWays (T := T3)) cl_X11_591 (qd_c (by decide +kernel)) (nn_ _) rfl (rf_of rfl) (Nat.le_of_ble_eq_true rfl) (Nat.le_of_ble_eq_true rfl) (Nat.le_of_ble_eq_true rfl) rfl ?_
        rintro U4 _ ⟨x5, rfl, fU4, qU4⟩
        have bU4 := qU4.2.2
        show J_ zX11_ball T (po_X11_ball_e T ta fi) 0 0 285 _ [vI x5, vI sm] U4
        have hnw : x5 = (nw_ (drw_ T) cl (g + 1) (ll_ T) (gf_ T) : Nat) := by
          rw [qU4.1, drw_e (T := T) (fun k => hf_265 301 0 k rfl) (fun k => hf_265 214 0 k rfl) (hf_265 111 0 12 rfl) (hf_265 111 0 99 rfl) (hf_265 111 0 100 rfl), ll_e (T := T) (fun k => hf_265 301 0 k rfl) go3 (hf_265 111 0 12 rfl), gf_e go3]
        refine j_blx (F := fX11) tb_X11 (nn_ _) bk_X11_ball_e_285 bs_X11_ball_e_285 hz (fun K hK => ?_)
        refine rg_i (by omega) ?_
        refine hK 265 [some (vR 111 0), some (vI ta), some (vI fi), none, some (vI pt), some (vI al), none, none, some (vI cl), some (vI tk), some (vI (sm + x5)), some (vI (g + 1))] [] U4 ?_
        have e6 : U4 111 0 103 = T3 111 0 103 := fU4 111 0 103 rfl
        refine ih_265 _ ?_ pt al cl tk (sm + x5) (g + 1) s0 U4 (Nat.le_refl _) ?_ ?_ ?_ ?_ ?_ ?_ ?_
        · have hm_265 := hm_265 (); omega
        · exact fr_t (fr_t (fr_0 _ _) (fr_s hf_265 rfl)) (fr_s fU4 rfl)
        · exact al1
        · first
          | exact el
          | (rw [show T 111 0 12 = k by omega]; exact ⟨(hq.resolve_left (by omega)).2.1, (hq.resolve_left (by omega)).2.2, by omega⟩)
        · exact fun k => ((qU4.2.1 k).trans (go3 k))
        · omega
        · refine ⟨by rw [sgm_s (by omega), ← sg.1, ← hnw], ?_, rfl⟩
          rw [show g + 1 - 1 = g by omega, ← sg.1]; omega
        · exact ⟨sd3.1, sd3.2.1, sd3.2.2.1, (fU4 111 0 103 rfl).trans sd3.2.2.2⟩
  have c_196 : ∀ (nn : Nat) (pt : Int) (al : Int) (wh : Int) (cl : Int) (k : Int) (w0 : Int) (s0 : Int) (T2 : Zt), ((12 - k).toNat) ≤ nn → (fr_ [(304, []), (305, []), (302, []), (111, [103])] T T2) → (al = BR0_ T ∧ 1 ≤ al ∧ al ≤ 13824) → (EL_ T pt (T 111 0 12) ∧ LP9_ T pt (T 111 0 12) ∧ T 111 0 98 ≠ 0) → (∀ k, T2 302 0 k = T 302 0 k) → (0 ≤ k ∧ k ≤ T 111 0 12 ∧ 0 ≤ w0 ∧ w0 < cel_ T pt (T 111 0 12) ∧ 0 ≤ pt ∧ pt ≤ 2) → (wh = w0 - cel_ T pt k) → ((w0 < cel_ T pt k ∧ 0 ≤ cl ∧ cl < T 111 0 12 ∧ T 301 0 cl = pt ∧ T 302 0 cl = -1 ∧ cel_ T pt cl = w0) ∨ (cel_ T pt k ≤ w0 ∧ cl = -1)) → (((fi = 0 ∧ s0 = (T 111 0 103)) ∨ (fi ≠ 0 ∧ s0 = ta)) ∧ w0 = (tb9_ (cel_ T pt (T 111 0 12)) s0).1 ∧ T2 111 0 103 = (tb9_ (cel_ T pt (T 111 0 12)) s0).2) → J_ zX11_ball T (po_X11_ball_e T ta fi) 0 0 196 [some (vR 111 0), some (vI ta), some (vI fi), none, some (vI pt), some (vI al), none, some (vI wh), some (vI cl), some (vI k), none, none] [] T2 := by
    intro nn
    induction nn using Nat.strongRecOn with
    | _ nn ih_196 =>
      intro pt al wh cl k w0 s0 T2 hm_196 hf_196 al1 el go2 i2 hw hcl sd2
      replace hm_196 := fun (_ : Unit) => hm_196
      have hb2 := cel_b (T := T) (p := pt) (k := k) (by omega)
      have hb3 := cel_b (T := T) (p := pt) (k := T 111 0 12) (by omega)
      refine j_blx (F := fX11) tb_X11 (nn_ _) bk_X11_ball_e_196 bs_X11_ball_e_196 hz (fun K hK => ?_)
      intro b7 b7b
      have e8 : T2 111 0 12 = T 111 0 12 := hf_196 111 0 12 rfl
      rw [e8] at b7 b7b ⊢
      refine And.intro (fun c9 => ?_) (fun c9 => ?_)
      · refine hK 251 _ [] T2 ?_
        rw [show k = T 111 0 12 by omega] at hcl
        refine j_blx (F := fX11) tb_X11 (nn_ _) bk_X11_ball_e_251 bs_X11_ball_e_251 hz (fun K hK => ?_)
        refine hK 254 _ [vI al, vR 111 0] T2 ?_
        refine j_callV (y := yX11_takenBelow) (Yc := zX11_takenBelow) (rest := []) [vI al] (ct_X11_takenBelow_e (T := T2) (by omega)) cl_X11_604 (qd_c (by decide +kernel)) (nn_ _) rfl (rf_of rfl) (Nat.le_of_ble_eq_true rfl) (Nat.le_of_ble_eq_true rfl) (Nat.le_of_ble_eq_true rfl) rfl ?_
        rintro U10 _ ⟨x11, rfl, fU10, qU10⟩
        show J_ zX11_ball T (po_X11_ball_e T ta fi) 0 0 257 _ [vI x11] U10
        refine j_blx (F := fX11) tb_X11 (nn_ _) bk_X11_ball_e_257 bs_X11_ball_e_257 hz (fun K hK => ?_)
        refine hK 265 [some (vR 111 0), some (vI ta), some (vI fi), none, some (vI pt), some (vI al), none, some (vI wh), some (vI cl), some (vI x11), some (vI 0), some (vI (-1))] [] U10 ?_
        refine j_drop [some (vR 111 0), some (vI ta), some (vI fi), none, some (vI pt), some (vI al), none, none, some (vI cl), some (vI x11), some (vI 0), some (vI (-1))] (fun k v hk => ?_) rfl ?_
        · match k, hk with
          | 0, hk => exact hk
          | 1, hk => exact hk
          | 2, hk => exact hk
          | 3, hk => cases hk
          | 4, hk => exact hk
          | 5, hk => exact hk
          | 6, hk => cases hk
          | 7, hk => cases hk
          | 8, hk => exact hk
          | 9, hk => exact hk
          | 10, hk => exact hk
          | 11, hk => exact hk
          | k + 12, hk => cases hk
        refine c_265 _ pt al cl x11 0 (-1) s0 U10 (Nat.le_refl _) ?_ ?_ ?_ ?_ ?_ ?_ ?_
        · exact fr_t (fr_t (fr_0 _ _) (fr_s hf_196 rfl)) (fr_s fU10 rfl)
        · exact al1
        · first
          | exact el
          | (rw [show T 111 0 12 = k by omega]; exact ⟨(hq.resolve_left (by omega)).2.1, (hq.resolve_left (by omega)).2.2, by omega⟩)
        · exact fun k => (fU10 302 0 k rfl).trans (go2 k)
        · omega
        · exact ⟨sgm_0.symm, by omega, rfl⟩
        · refine ⟨sd2.1, by rw [← sd2.2.1]; omega, ?_, ?_⟩
          · rw [← al1.1, ← sd2.2.2]; exact qU10.1
          · rw [← al1.1, ← sd2.2.2]; exact qU10.2.1
      · refine ix_i (by omega) ?_
        intro b12 b12b
        have e13 : T2 301 0 k = T 301 0 k := hf_196 301 0 k rfl
        rw [e13] at b12 b12b ⊢
        refine And.intro (fun c14 => ?_) (fun c14 => ?_)
        · refine hK 245 [some (vR 111 0), some (vI ta), some (vI fi), none, some (vI pt), some (vI al), none, some (vI wh), some (vI cl), some (vI k), none, none] [] T2 ?_
          refine j_blx (F := fX11) tb_X11 (nn_ _) bk_X11_ball_e_245 bs_X11_ball_e_245 hz (fun K hK => ?_)
          refine rg_i (by omega) ?_
          refine hK 196 [some (vR 111 0), some (vI ta), some (vI fi), none, some (vI pt), some (vI al), none, some (vI wh), some (vI cl), some (vI (k + 1)), none, none] [] T2 ?_
          refine ih_196 _ ?_ pt al wh cl (k + 1) w0 s0 T2 (Nat.le_refl _) ?_ ?_ ?_ ?_ ?_ ?_ ?_ ?_
          · have hm_196 := hm_196 (); omega
          · exact fr_t (fr_0 _ _) (fr_s hf_196 rfl)
          · exact al1
          · first
            | exact el
            | (rw [show T 111 0 12 = k by omega]; exact ⟨(hq.resolve_left (by omega)).2.1, (hq.resolve_left (by omega)).2.2, by omega⟩)
          · exact fun k => go2 k
          · first
            | omega
            | (have z9 := el.1.1; omega)
          · first
            | (rw [cel_f (by omega) (by omega)]; omega)
            | (rw [cel_t (by omega) (by omega)]; omega)
          · first
            | (rw [cel_f (by omega) (by omega)]; exact hcl)
            | (rw [cel_t (by omega) (by omega)]; omega)
          · exact sd2
        · refine ix_i (by omega) ?_
          intro b15 b15b
          have g16 := go2 k
          refine And.intro (fun c17 => ?_) (fun c17 => ?_)
          · refine hK 245 [some (vR 111 0), some (vI ta), some (vI fi), none, some (vI pt), some (vI al), none, some (vI wh), some (vI cl), some (vI k), none, none] [] T2 ?_
            refine j_blx (F := fX11) tb_X11 (nn_ _) bk_X11_ball_e_245 bs_X11_ball_e_245 hz (fun K hK => ?_)
            refine rg_i (by omega) ?_
            refine hK 196 [some (vR 111 0), some (vI ta), some (vI fi), none, some (vI pt), some (vI al), none, some (vI wh), some (vI cl), some (vI (k + 1)), none, none] [] T2 ?_
            refine ih_196 _ ?_ pt al wh cl (k + 1) w0 s0 T2 (Nat.le_refl _) ?_ ?_ ?_ ?_ ?_ ?_ ?_ ?_
            · have hm_196 := hm_196 (); omega
            · exact fr_t (fr_0 _ _) (fr_s hf_196 rfl)
            · exact al1
            · first
              | exact el
              | (rw [show T 111 0 12 = k by omega]; exact ⟨(hq.resolve_left (by omega)).2.1, (hq.resolve_left (by omega)).2.2, by omega⟩)
            · exact fun k => go2 k
            · first
              | omega
              | (have z9 := el.1.1; omega)
            · first
              | (rw [cel_f (by omega) (by omega)]; omega)
              | (rw [cel_t (by omega) (by omega)]; omega)
            · first
              | (rw [cel_f (by omega) (by omega)]; exact hcl)
              | (rw [cel_t (by omega) (by omega)]; omega)
            · exact sd2
          · refine And.intro (fun c18 => ?_) (fun c18 => ?_)
            · refine hK 238 [some (vR 111 0), some (vI ta), some (vI fi), none, some (vI pt), some (vI al), none, some (vI wh), some (vI cl), some (vI k), none, none] [] T2 ?_
              refine j_blx (F := fX11) tb_X11 (nn_ _) bk_X11_ball_e_238 bs_X11_ball_e_238 hz (fun K hK => ?_)
              refine rg_i (by omega) ?_
              refine rg_i (by omega) ?_
              refine hK 196 [some (vR 111 0), some (vI ta), some (vI fi), none, some (vI pt), some (vI al), none, some (vI (wh + (-1))), some (vI cl), some (vI (k + 1)), none, none] [] T2 ?_
              refine ih_196 _ ?_ pt al (wh + (-1)) cl (k + 1) w0 s0 T2 (Nat.le_refl _) ?_ ?_ ?_ ?_ ?_ ?_ ?_ ?_
              · have hm_196 := hm_196 (); omega
              · exact fr_t (fr_0 _ _) (fr_s hf_196 rfl)
              · exact al1
              · first
                | exact el
                | (rw [show T 111 0 12 = k by omega]; exact ⟨(hq.resolve_left (by omega)).2.1, (hq.resolve_left (by omega)).2.2, by omega⟩)
              · exact fun k => go2 k
              · first
                | omega
                | (have z9 := el.1.1; omega)
              · first
                | (rw [cel_f (by omega) (by omega)]; omega)
                | (rw [cel_t (by omega) (by omega)]; omega)
              · first
                | (rw [cel_f (by omega) (by omega)]; exact hcl)
                | (rw [cel_t (by omega) (by omega)]; omega)
              · exact sd2
            · refine hK 240 [some (vR 111 0), some (vI ta), some (vI fi), none, some (vI pt), some (vI al), none, some (vI wh), some (vI cl), some (vI k), none, none] [vI k] T2 ?_
              refine j_blx (F := fX11) tb_X11 (nn_ _) bk_X11_ball_e_240 bs_X11_ball_e_240 hz (fun K hK => ?_)
              refine rg_i (by omega) ?_
              refine rg_i (by omega) ?_
              refine hK 196 [some (vR 111 0), some (vI ta), some (vI fi), none, some (vI pt), some (vI al), none, some (vI (wh + (-1))), some (vI k), some (vI (k + 1)), none, none] [] T2 ?_
              refine ih_196 _ ?_ pt al (wh + (-1)) k (k + 1) w0 s0 T2 (Nat.le_refl _) ?_ ?_ ?_ ?_ ?_ ?_ ?_ ?_
              · have hm_196 := hm_196 (); omega
              · exact fr_t (fr_0 _ _) (fr_s hf_196 rfl)
              · exact al1
              · first
                | exact el
                | (rw [show T 111 0 12 = k by omega]; exact ⟨(hq.resolve_left (by omega)).2.1, (hq.resolve_left (by omega)).2.2, by omega⟩)
              · exact fun k => go2 k
              · first
                | omega
                | (have z9 := el.1.1; omega)
              · first
                | (rw [cel_f (by omega) (by omega)]; omega)
                | (rw [cel_t (by omega) (by omega)]; omega)
              · first
                | (rw [cel_f (by omega) (by omega)]; exact hcl)
                | (rw [cel_t (by omega) (by omega)]; omega)
              · exact sd2
  have c_134 : ∀ (nn : Nat) (pt : Int) (al : Int) (n : Int) (k : Int) (s0 : Int) (T1 : Zt), ((12 - k).toNat) ≤ nn → (fr_ [(304, []), (305, []), (302, []), (111, [103])] T T1) → (al = BR0_ T ∧ 1 ≤ al ∧ al ≤ 13824) → (∀ k, T1 302 0 k = T 302 0 k) → (EL_ T pt (T 111 0 12) ∧ LP9_ T pt (T 111 0 12) ∧ T 111 0 98 ≠ 0) → (0 ≤ k ∧ k ≤ T 111 0 12) → (n = cel_ T pt k) → (((fi = 0 ∧ s0 = (T 111 0 103)) ∨ (fi ≠ 0 ∧ s0 = ta)) ∧ T1 111 0 103 = s0) → J_ zX11_ball T (po_X11_ball_e T ta fi) 0 0 134 [some (vR 111 0), some (vI ta), some (vI fi), none, some (vI pt), some (vI al), some (vI n), some (vI k), none, none, none, none] [] T1 := by
    intro nn
    induction nn using Nat.strongRecOn with
    | _ nn ih_134 =>
      intro pt al n k s0 T1 hm_134 hf_134 al1 go1 el i1 cn sd1
      replace hm_134 := fun (_ : Unit) => hm_134
      have hb1 := cel_b (T := T) (p := pt) (k := k) (by omega)
      refine j_blx (F := fX11) tb_X11 (nn_ _) bk_X11_ball_e_134 bs_X11_ball_e_134 hz (fun K hK => ?_)
      intro b19 b19b
      have e20 : T1 111 0 12 = T 111 0 12 := hf_134 111 0 12 rfl
      rw [e20] at b19 b19b ⊢
      refine And.intro (fun c21 => ?_) (fun c21 => ?_)
      · refine hK 182 _ [] T1 ?_
        have hcp := cel_p el.1
        have hpt := el.1.1
        rw [show T 111 0 12 = k by omega] at hcp
        have hce : cel_ T pt (T 111 0 12) = n := by rw [cn, show T 111 0 12 = k by omega]
        refine j_blx (F := fX11) tb_X11 (nn_ _) bk_X11_ball_e_182 bs_X11_ball_e_182 hz (fun K hK => ?_)
        refine hK 185 _ [vI n, vR 111 0] T1 ?_
        refine j_callV (y := yX11_takenBelow) (Yc := zX11_takenBelow) (rest := []) [vI n] (ct_X11_takenBelow_e (T := T1) (by omega)) cl_X11_604 (qd_c (by decide +kernel)) (nn_ _) rfl (rf_of rfl) (Nat.le_of_ble_eq_true rfl) (Nat.le_of_ble_eq_true rfl) (Nat.le_of_ble_eq_true rfl) rfl ?_
        rintro U22 _ ⟨x23, rfl, fU22, qU22⟩
        show J_ zX11_ball T (po_X11_ball_e T ta fi) 0 0 188 _ [vI x23] U22
        refine j_blx (F := fX11) tb_X11 (nn_ _) bk_X11_ball_e_188 bs_X11_ball_e_188 hz (fun K hK => ?_)
        refine hK 196 [some (vR 111 0), some (vI ta), some (vI fi), none, some (vI pt), some (vI al), some (vI n), some (vI x23), some (vI (-1)), some (vI 0), none, none] [] U22 ?_
        refine j_drop [some (vR 111 0), some (vI ta), some (vI fi), none, some (vI pt), some (vI al), none, some (vI x23), some (vI (-1)), some (vI 0), none, none] (fun k v hk => ?_) rfl ?_
        · match k, hk with
          | 0, hk => exact hk
          | 1, hk => exact hk
          | 2, hk => exact hk
          | 3, hk => cases hk
          | 4, hk => exact hk
          | 5, hk => exact hk
          | 6, hk => cases hk
          | 7, hk => exact hk
          | 8, hk => exact hk
          | 9, hk => exact hk
          | 10, hk => cases hk
          | 11, hk => cases hk
          | k + 12, hk => cases hk
        refine c_196 _ pt al x23 (-1) 0 x23 s0 U22 (Nat.le_refl _) ?_ ?_ ?_ ?_ ?_ ?_ ?_ ?_
        · exact fr_t (fr_t (fr_0 _ _) (fr_s hf_134 rfl)) (fr_s fU22 rfl)
        · exact al1
        · first
          | exact el
          | (rw [show T 111 0 12 = k by omega]; exact ⟨(hq.resolve_left (by omega)).2.1, (hq.resolve_left (by omega)).2.2, by omega⟩)
        · exact fun k => (fU22 302 0 k rfl).trans (go1 k)
        · first
          | omega
          | (have z9 := el.1.1; omega)
        · show _ = _ - (0 : Int); omega
        · exact Or.inr ⟨by show (0 : Int) ≤ _; omega, rfl⟩
        · refine ⟨sd1.1, ?_, ?_⟩
          · rw [hce, ← sd1.2]; exact qU22.1
          · rw [hce, ← sd1.2]; exact qU22.2.1
      · refine ix_i (by omega) ?_
        intro b24 b24b
        have e25 : T1 301 0 k = T 301 0 k := hf_134 301 0 k rfl
        rw [e25] at b24 b24b ⊢
        refine And.intro (fun c26 => ?_) (fun c26 => ?_)
        · refine hK 172 [some (vR 111 0), some (vI ta), some (vI fi), none, some (vI pt), some (vI al), some (vI n), some (vI k), none, none, none, none] [vI n] T1 ?_
          refine j_blx (F := fX11) tb_X11 (nn_ _) bk_X11_ball_e_172 bs_X11_ball_e_172 hz (fun K hK => ?_)
          refine rg_i (by omega) ?_
          refine rg_i (by omega) ?_
          refine hK 134 [some (vR 111 0), some (vI ta), some (vI fi), none, some (vI pt), some (vI al), some (vI (n + 0)), some (vI (k + 1)), none, none, none, none] [] T1 ?_
          refine ih_134 _ ?_ pt al (n + 0) (k + 1) s0 T1 (Nat.le_refl _) ?_ ?_ ?_ ?_ ?_ ?_ ?_
          · have hm_134 := hm_134 (); omega
          · exact fr_t (fr_0 _ _) (fr_s hf_134 rfl)
          · exact al1
          · exact fun k => go1 k
          · first
            | exact el
            | (rw [show T 111 0 12 = k by omega]; exact ⟨(hq.resolve_left (by omega)).2.1, (hq.resolve_left (by omega)).2.2, by omega⟩)
          · omega
          · first
            | (rw [cel_f (by omega) (by omega)]; omega)
            | (rw [cel_t (by omega) (by omega)]; omega)
          · exact sd1
        · refine ix_i (by omega) ?_
          intro b27 b27b
          have g28 := go1 k
          refine And.intro (fun c29 => ?_) (fun c29 => ?_)
          · refine hK 172 [some (vR 111 0), some (vI ta), some (vI fi), none, some (vI pt), some (vI al), some (vI n), some (vI k), none, none, none, none] [vI n] T1 ?_
            refine j_blx (F := fX11) tb_X11 (nn_ _) bk_X11_ball_e_172 bs_X11_ball_e_172 hz (fun K hK => ?_)
            refine rg_i (by omega) ?_
            refine rg_i (by omega) ?_
            refine hK 134 [some (vR 111 0), some (vI ta), some (vI fi), none, some (vI pt), some (vI al), some (vI (n + 0)), some (vI (k + 1)), none, none, none, none] [] T1 ?_
            refine ih_134 _ ?_ pt al (n + 0) (k + 1) s0 T1 (Nat.le_refl _) ?_ ?_ ?_ ?_ ?_ ?_ ?_
            · have hm_134 := hm_134 (); omega
            · exact fr_t (fr_0 _ _) (fr_s hf_134 rfl)
            · exact al1
            · exact fun k => go1 k
            · first
              | exact el
              | (rw [show T 111 0 12 = k by omega]; exact ⟨(hq.resolve_left (by omega)).2.1, (hq.resolve_left (by omega)).2.2, by omega⟩)
            · omega
            · first
              | (rw [cel_f (by omega) (by omega)]; omega)
              | (rw [cel_t (by omega) (by omega)]; omega)
            · exact sd1
          · refine hK 173 [some (vR 111 0), some (vI ta), some (vI fi), none, some (vI pt), some (vI al), some (vI n), some (vI k), none, none, none, none] [vI 1, vI n] T1 ?_
            refine j_blx (F := fX11) tb_X11 (nn_ _) bk_X11_ball_e_173 bs_X11_ball_e_173 hz (fun K hK => ?_)
            refine rg_i (by omega) ?_
            refine rg_i (by omega) ?_
            refine hK 134 [some (vR 111 0), some (vI ta), some (vI fi), none, some (vI pt), some (vI al), some (vI (n + 1)), some (vI (k + 1)), none, none, none, none] [] T1 ?_
            refine ih_134 _ ?_ pt al (n + 1) (k + 1) s0 T1 (Nat.le_refl _) ?_ ?_ ?_ ?_ ?_ ?_ ?_
            · have hm_134 := hm_134 (); omega
            · exact fr_t (fr_0 _ _) (fr_s hf_134 rfl)
            · exact al1
            · exact fun k => go1 k
            · first
              | exact el
              | (rw [show T 111 0 12 = k by omega]; exact ⟨(hq.resolve_left (by omega)).2.1, (hq.resolve_left (by omega)).2.2, by omega⟩)
            · omega
            · first
              | (rw [cel_f (by omega) (by omega)]; omega)
              | (rw [cel_t (by omega) (by omega)]; omega)
            · exact sd1
  have c_8 : ∀ (nn : Nat) (lf : Int) (pt : Int) (k : Int), ((12 - k).toNat) ≤ nn → (0 ≤ k ∧ k ≤ T 111 0 12 ∧ 0 ≤ lf ∧ lf ≤ k) → ((lf = 0 ∧ pt = 3 ∧ LP9_ T 3 k) ∨ (0 < lf ∧ EL_ T pt k ∧ LP9_ T pt k)) → J_ zX11_ball T (po_X11_ball_e T ta fi) 0 0 8 [some (vR 111 0), some (vI ta), some (vI fi), some (vI lf), some (vI pt), some (vI k), none, none, none, none, none, none] [] T := by
    intro nn
    induction nn using Nat.strongRecOn with
    | _ nn ih_8 =>
      intro lf pt k hm_8 i0 hq
      replace hm_8 := fun (_ : Unit) => hm_8
      refine j_blx (F := fX11) tb_X11 (nn_ _) bk_X11_ball_e_8 bs_X11_ball_e_8 hz (fun K hK => ?_)
      intro b30 b30b
      refine And.intro (fun c31 => ?_) (fun c31 => ?_)
      · refine hK 81 _ [] T ?_
        refine j_blx (F := fX11) tb_X11 (nn_ _) bk_X11_ball_e_81 bs_X11_ball_e_81 hz (fun K hK => ?_)
        intro b32 b32b
        refine And.intro (fun c33 => ?_) (fun c33 => ?_)
        · refine hK 101 _ [] T ?_
          refine j_blx (F := fX11) tb_X11 (nn_ _) bk_X11_ball_e_101 bs_X11_ball_e_101 hz (fun K hK => ?_)
          refine And.intro (fun c34 => ?_) (fun c34 => ?_)
          · exact absurd c34 (by decide)
          · refine (show po_X11_ball_e T ta fi T (some (vI (-4))) from ?_)
            exact ⟨_, rfl, fr_0 _ _, rfl, Or.inl ⟨rfl, fun _ => rfl, rfl, by
              by_cases z : T 111 0 98 = 0
              · exact Or.inl z
              · refine Or.inr (Or.inl (fun j a b c d => ?_))
                have y := (hq.resolve_right (fun z => by omega)).2.2 j a (by omega) c d
                have y2 : T 301 0 j ≤ 2 := (bd_a hT 301 (by decide +kernel : ta_ 301 = some (1, some 12, -1, 2)) 0 a).2
                omega⟩⟩
        · refine And.intro (fun c35 => ?_) (fun c35 => ?_)
          · refine hK 101 _ [] T ?_
            refine j_blx (F := fX11) tb_X11 (nn_ _) bk_X11_ball_e_101 bs_X11_ball_e_101 hz (fun K hK => ?_)
            refine And.intro (fun c36 => ?_) (fun c36 => ?_)
            · exact absurd c36 (by decide)
            · refine (show po_X11_ball_e T ta fi T (some (vI (-4))) from ?_)
              exact ⟨_, rfl, fr_0 _ _, rfl, Or.inl ⟨rfl, fun _ => rfl, rfl, by
                by_cases z : T 111 0 98 = 0
                · exact Or.inl z
                · refine Or.inr (Or.inl (fun j a b c d => ?_))
                  have y := (hq.resolve_right (fun z => by omega)).2.2 j a (by omega) c d
                  have y2 : T 301 0 j ≤ 2 := (bd_a hT 301 (by decide +kernel : ta_ 301 = some (1, some 12, -1, 2)) 0 a).2
                  omega⟩⟩
          · refine hK 95 _ [vI (-1), vI (-1), vR 111 0] T ?_
            refine j_callV (y := yX11_countWays) (Yc := zX11_countWays) (rest := []) [vI (-1), vI (-1)] (ct_X11_countWays (T := T)) cl_X11_591 (qd_c (by decide +kernel)) (nn_ _) rfl (rf_of rfl) (Nat.le_of_ble_eq_true rfl) (Nat.le_of_ble_eq_true rfl) (Nat.le_of_ble_eq_true rfl) rfl ?_
            rintro U37 _ ⟨x38, rfl, fU37, qU37⟩
            have bU37 := qU37.2.2
            show J_ zX11_ball T (po_X11_ball_e T ta fi) 0 0 98 _ [vI x38] U37
            refine j_blx (F := fX11) tb_X11 (nn_ _) bk_X11_ball_e_98 bs_X11_ball_e_98 hz (fun K hK => ?_)
            refine hK 102 _ [vI x38] U37 ?_
            refine j_blx (F := fX11) tb_X11 (nn_ _) bk_X11_ball_e_102 bs_X11_ball_e_102 hz (fun K hK => ?_)
            refine And.intro (fun c39 => ?_) (fun c39 => ?_)
            · refine hK 112 [some (vR 111 0), some (vI ta), some (vI fi), some (vI lf), some (vI pt), some (vI x38), none, none, none, none, none, none] [] U37 ?_
              refine j_blx (F := fX11) tb_X11 (nn_ _) bk_X11_ball_e_112 bs_X11_ball_e_112 hz (fun K hK => ?_)
              refine And.intro (fun c40 => ?_) (fun c40 => ?_)
              · refine hK 121 _ [vR 111 0] U37 ?_
                refine j_blx (F := fX11) tb_X11 (nn_ _) bk_X11_ball_e_121 bs_X11_ball_e_121 hz (fun K hK => ?_)
                intro b41 b41b
                have e42 : U37 111 0 103 = T 111 0 103 := fU37 111 0 103 rfl
                rw [e42] at b41 b41b ⊢
                refine bd_i (by omega) ?_
                refine x_nm (fun U43 hU43 => ?_)
                have e44 := up_f hU43
                refine hK 134 [some (vR 111 0), some (vI ta), some (vI fi), some (vI lf), some (vI pt), some (vI x38), some (vI 0), some (vI 0), none, none, none, none] [] U43 ?_
                refine j_drop [some (vR 111 0), some (vI ta), some (vI fi), none, some (vI pt), some (vI x38), some (vI 0), some (vI 0), none, none, none, none] (fun k v hk => ?_) rfl ?_
                · match k, hk with
                  | 0, hk => exact hk
                  | 1, hk => exact hk
                  | 2, hk => exact hk
                  | 3, hk => cases hk
                  | 4, hk => exact hk
                  | 5, hk => exact hk
                  | 6, hk => exact hk
                  | 7, hk => exact hk
                  | 8, hk => cases hk
                  | 9, hk => cases hk
                  | 10, hk => cases hk
                  | 11, hk => cases hk
                  | k + 12, hk => cases hk
                have e45 : U43 111 0 103 = T 111 0 103 := up_f hU43
                refine c_134 _ pt x38 0 0 (T 111 0 103) U43 (Nat.le_refl _) ?_ ?_ ?_ ?_ ?_ ?_ ?_
                · exact fr_u (fr_t (fr_0 _ _) (fr_s fU37 rfl)) hU43 rfl
                · exact ⟨qU37.1, by omega, by omega⟩
                · exact fun k => (up_k hU43 (by exact Nat.ne_of_beq_eq_false rfl) 0 k).trans ((qU37.2.1 k))
                · first
                  | exact el
                  | (rw [show T 111 0 12 = k by omega]; exact ⟨(hq.resolve_left (by omega)).2.1, (hq.resolve_left (by omega)).2.2, by omega⟩)
                · omega
                · rfl
                · exact ⟨Or.inl ⟨by omega, rfl⟩, up_f hU43⟩
              · refine hK 125 [some (vR 111 0), some (vI ta), some (vI fi), some (vI lf), some (vI pt), some (vI x38), none, none, none, none, none, none] [vI ta, vR 111 0] U37 ?_
                refine j_blx (F := fX11) tb_X11 (nn_ _) bk_X11_ball_e_125 bs_X11_ball_e_125 hz (fun K hK => ?_)
                refine bd_i (by omega) ?_
                refine x_nm (fun U46 hU46 => ?_)
                have e47 := up_f hU46
                refine hK 134 [some (vR 111 0), some (vI ta), some (vI fi), some (vI lf), some (vI pt), some (vI x38), some (vI 0), some (vI 0), none, none, none, none] [] U46 ?_
                refine j_drop [some (vR 111 0), some (vI ta), some (vI fi), none, some (vI pt), some (vI x38), some (vI 0), some (vI 0), none, none, none, none] (fun k v hk => ?_) rfl ?_
                · match k, hk with
                  | 0, hk => exact hk
                  | 1, hk => exact hk
                  | 2, hk => exact hk
                  | 3, hk => cases hk
                  | 4, hk => exact hk
                  | 5, hk => exact hk
                  | 6, hk => exact hk
                  | 7, hk => exact hk
                  | 8, hk => cases hk
                  | 9, hk => cases hk
                  | 10, hk => cases hk
                  | 11, hk => cases hk
                  | k + 12, hk => cases hk
                have e48 : U46 111 0 103 = ta := up_f hU46
                refine c_134 _ pt x38 0 0 ta U46 (Nat.le_refl _) ?_ ?_ ?_ ?_ ?_ ?_ ?_
                · exact fr_u (fr_t (fr_0 _ _) (fr_s fU37 rfl)) hU46 rfl
                · exact ⟨qU37.1, by omega, by omega⟩
                · exact fun k => (up_k hU46 (by exact Nat.ne_of_beq_eq_false rfl) 0 k).trans ((qU37.2.1 k))
                · first
                  | exact el
                  | (rw [show T 111 0 12 = k by omega]; exact ⟨(hq.resolve_left (by omega)).2.1, (hq.resolve_left (by omega)).2.2, by omega⟩)
                · omega
                · rfl
                · exact ⟨Or.inr ⟨by omega, rfl⟩, up_f hU46⟩
            · refine (show po_X11_ball_e T ta fi U37 (some (vI (-4))) from ?_)
              exact ⟨_, rfl, fr_t (fr_0 _ _) (fr_s fU37 rfl), rfl, Or.inl ⟨rfl, qU37.2.1, fU37 111 0 103 rfl, Or.inr (Or.inr (by have y := qU37.1; show ((nw_ (drw_ T) (-1) (-1) (ll_ T) (gf_ T) : Nat) : Int) = 0; omega))⟩⟩
      · intro b49 b49b
        refine And.intro (fun c50 => ?_) (fun c50 => ?_)
        · refine hK 81 _ [] T ?_
          refine j_blx (F := fX11) tb_X11 (nn_ _) bk_X11_ball_e_81 bs_X11_ball_e_81 hz (fun K hK => ?_)
          intro b51 b51b
          refine And.intro (fun c52 => ?_) (fun c52 => ?_)
          · refine hK 101 _ [] T ?_
            refine j_blx (F := fX11) tb_X11 (nn_ _) bk_X11_ball_e_101 bs_X11_ball_e_101 hz (fun K hK => ?_)
            refine And.intro (fun c53 => ?_) (fun c53 => ?_)
            · exact absurd c53 (by decide)
            · refine (show po_X11_ball_e T ta fi T (some (vI (-4))) from ?_)
              exact ⟨_, rfl, fr_0 _ _, rfl, Or.inl ⟨rfl, fun _ => rfl, rfl, by
                by_cases z : T 111 0 98 = 0
                · exact Or.inl z
                · refine Or.inr (Or.inl (fun j a b c d => ?_))
                  have y := (hq.resolve_right (fun z => by omega)).2.2 j a (by omega) c d
                  have y2 : T 301 0 j ≤ 2 := (bd_a hT 301 (by decide +kernel : ta_ 301 = some (1, some 12, -1, 2)) 0 a).2
                  omega⟩⟩
          · refine And.intro (fun c54 => ?_) (fun c54 => ?_)
            · refine hK 101 _ [] T ?_
              refine j_blx (F := fX11) tb_X11 (nn_ _) bk_X11_ball_e_101 bs_X11_ball_e_101 hz (fun K hK => ?_)
              refine And.intro (fun c55 => ?_) (fun c55 => ?_)
              · exact absurd c55 (by decide)
              · refine (show po_X11_ball_e T ta fi T (some (vI (-4))) from ?_)
                exact ⟨_, rfl, fr_0 _ _, rfl, Or.inl ⟨rfl, fun _ => rfl, rfl, by
                  by_cases z : T 111 0 98 = 0
                  · exact Or.inl z
                  · refine Or.inr (Or.inl (fun j a b c d => ?_))
                    have y := (hq.resolve_right (fun z => by omega)).2.2 j a (by omega) c d
                    have y2 : T 301 0 j ≤ 2 := (bd_a hT 301 (by decide +kernel : ta_ 301 = some (1, some 12, -1, 2)) 0 a).2
                    omega⟩⟩
            · refine hK 95 _ [vI (-1), vI (-1), vR 111 0] T ?_
              refine j_callV (y := yX11_countWays) (Yc := zX11_countWays) (rest := []) [vI (-1), vI (-1)] (ct_X11_countWays (T := T)) cl_X11_591 (qd_c (by decide +kernel)) (nn_ _) rfl (rf_of rfl) (Nat.le_of_ble_eq_true rfl) (Nat.le_of_ble_eq_true rfl) (Nat.le_of_ble_eq_true rfl) rfl ?_
              rintro U56 _ ⟨x57, rfl, fU56, qU56⟩
              have bU56 := qU56.2.2
              show J_ zX11_ball T (po_X11_ball_e T ta fi) 0 0 98 _ [vI x57] U56
              refine j_blx (F := fX11) tb_X11 (nn_ _) bk_X11_ball_e_98 bs_X11_ball_e_98 hz (fun K hK => ?_)
              refine hK 102 _ [vI x57] U56 ?_
              refine j_blx (F := fX11) tb_X11 (nn_ _) bk_X11_ball_e_102 bs_X11_ball_e_102 hz (fun K hK => ?_)
              refine And.intro (fun c58 => ?_) (fun c58 => ?_)
              · refine hK 112 [some (vR 111 0), some (vI ta), some (vI fi), some (vI lf), some (vI pt), some (vI x57), none, none, none, none, none, none] [] U56 ?_
                refine j_blx (F := fX11) tb_X11 (nn_ _) bk_X11_ball_e_112 bs_X11_ball_e_112 hz (fun K hK => ?_)
                refine And.intro (fun c59 => ?_) (fun c59 => ?_)
                · refine hK 121 _ [vR 111 0] U56 ?_
                  refine j_blx (F := fX11) tb_X11 (nn_ _) bk_X11_ball_e_121 bs_X11_ball_e_121 hz (fun K hK => ?_)
                  intro b60 b60b
                  have e61 : U56 111 0 103 = T 111 0 103 := fU56 111 0 103 rfl
                  rw [e61] at b60 b60b ⊢
                  refine bd_i (by omega) ?_
                  refine x_nm (fun U62 hU62 => ?_)
                  have e63 := up_f hU62
                  refine hK 134 [some (vR 111 0), some (vI ta), some (vI fi), some (vI lf), some (vI pt), some (vI x57), some (vI 0), some (vI 0), none, none, none, none] [] U62 ?_
                  refine j_drop [some (vR 111 0), some (vI ta), some (vI fi), none, some (vI pt), some (vI x57), some (vI 0), some (vI 0), none, none, none, none] (fun k v hk => ?_) rfl ?_
                  · match k, hk with
                    | 0, hk => exact hk
                    | 1, hk => exact hk
                    | 2, hk => exact hk
                    | 3, hk => cases hk
                    | 4, hk => exact hk
                    | 5, hk => exact hk
                    | 6, hk => exact hk
                    | 7, hk => exact hk
                    | 8, hk => cases hk
                    | 9, hk => cases hk
                    | 10, hk => cases hk
                    | 11, hk => cases hk
                    | k + 12, hk => cases hk
                  have e64 : U62 111 0 103 = T 111 0 103 := up_f hU62
                  refine c_134 _ pt x57 0 0 (T 111 0 103) U62 (Nat.le_refl _) ?_ ?_ ?_ ?_ ?_ ?_ ?_
                  · exact fr_u (fr_t (fr_0 _ _) (fr_s fU56 rfl)) hU62 rfl
                  · exact ⟨qU56.1, by omega, by omega⟩
                  · exact fun k => (up_k hU62 (by exact Nat.ne_of_beq_eq_false rfl) 0 k).trans ((qU56.2.1 k))
                  · first
                    | exact el
                    | (rw [show T 111 0 12 = k by omega]; exact ⟨(hq.resolve_left (by omega)).2.1, (hq.resolve_left (by omega)).2.2, by omega⟩)
                  · omega
                  · rfl
                  · exact ⟨Or.inl ⟨by omega, rfl⟩, up_f hU62⟩
                · refine hK 125 [some (vR 111 0), some (vI ta), some (vI fi), some (vI lf), some (vI pt), some (vI x57), none, none, none, none, none, none] [vI ta, vR 111 0] U56 ?_
                  refine j_blx (F := fX11) tb_X11 (nn_ _) bk_X11_ball_e_125 bs_X11_ball_e_125 hz (fun K hK => ?_)
                  refine bd_i (by omega) ?_
                  refine x_nm (fun U65 hU65 => ?_)
                  have e66 := up_f hU65
                  refine hK 134 [some (vR 111 0), some (vI ta), some (vI fi), some (vI lf), some (vI pt), some (vI x57), some (vI 0), some (vI 0), none, none, none, none] [] U65 ?_
                  refine j_drop [some (vR 111 0), some (vI ta), some (vI fi), none, some (vI pt), some (vI x57), some (vI 0), some (vI 0), none, none, none, none] (fun k v hk => ?_) rfl ?_
                  · match k, hk with
                    | 0, hk => exact hk
                    | 1, hk => exact hk
                    | 2, hk => exact hk
                    | 3, hk => cases hk
                    | 4, hk => exact hk
                    | 5, hk => exact hk
                    | 6, hk => exact hk
                    | 7, hk => exact hk
                    | 8, hk => cases hk
                    | 9, hk => cases hk
                    | 10, hk => cases hk
                    | 11, hk => cases hk
                    | k + 12, hk => cases hk
                  have e67 : U65 111 0 103 = ta := up_f hU65
                  refine c_134 _ pt x57 0 0 ta U65 (Nat.le_refl _) ?_ ?_ ?_ ?_ ?_ ?_ ?_
                  · exact fr_u (fr_t (fr_0 _ _) (fr_s fU56 rfl)) hU65 rfl
                  · exact ⟨qU56.1, by omega, by omega⟩
                  · exact fun k => (up_k hU65 (by exact Nat.ne_of_beq_eq_false rfl) 0 k).trans ((qU56.2.1 k))
                  · first
                    | exact el
                    | (rw [show T 111 0 12 = k by omega]; exact ⟨(hq.resolve_left (by omega)).2.1, (hq.resolve_left (by omega)).2.2, by omega⟩)
                  · omega
                  · rfl
                  · exact ⟨Or.inr ⟨by omega, rfl⟩, up_f hU65⟩
              · refine (show po_X11_ball_e T ta fi U56 (some (vI (-4))) from ?_)
                exact ⟨_, rfl, fr_t (fr_0 _ _) (fr_s fU56 rfl), rfl, Or.inl ⟨rfl, qU56.2.1, fU56 111 0 103 rfl, Or.inr (Or.inr (by have y := qU56.1; show ((nw_ (drw_ T) (-1) (-1) (ll_ T) (gf_ T) : Nat) : Int) = 0; omega))⟩⟩
        · refine ix_i (by omega) ?_
          intro b68 b68b
          refine And.intro (fun c69 => ?_) (fun c69 => ?_)
          · refine hK 75 _ [] T ?_
            refine j_blx (F := fX11) tb_X11 (nn_ _) bk_X11_ball_e_75 bs_X11_ball_e_75 hz (fun K hK => ?_)
            refine rg_i (by omega) ?_
            refine hK 8 [some (vR 111 0), some (vI ta), some (vI fi), some (vI lf), some (vI pt), some (vI (k + 1)), none, none, none, none, none, none] [] T ?_
            refine ih_8 _ ?_ lf pt (k + 1) (Nat.le_refl _) ?_ ?_
            · have hm_8 := hm_8 (); omega
            · omega
            · exact hq.elim (fun z => Or.inl ⟨z.1, z.2.1, lp9_s z.2.2 (by omega) (fun p q => by omega)⟩) (fun z => Or.inr ⟨z.1, el_m z.2.1, lp9_s z.2.2 (by omega) (fun p q => by omega)⟩)
          · refine ix_i (by omega) ?_
            intro b70 b70b
            refine And.intro (fun c71 => ?_) (fun c71 => ?_)
            · refine hK 75 [some (vR 111 0), some (vI ta), some (vI fi), some (vI lf), some (vI pt), some (vI k), none, none, none, none, none, none] [] T ?_
              refine j_blx (F := fX11) tb_X11 (nn_ _) bk_X11_ball_e_75 bs_X11_ball_e_75 hz (fun K hK => ?_)
              refine rg_i (by omega) ?_
              refine hK 8 [some (vR 111 0), some (vI ta), some (vI fi), some (vI lf), some (vI pt), some (vI (k + 1)), none, none, none, none, none, none] [] T ?_
              refine ih_8 _ ?_ lf pt (k + 1) (Nat.le_refl _) ?_ ?_
              · have hm_8 := hm_8 (); omega
              · omega
              · exact hq.elim (fun z => Or.inl ⟨z.1, z.2.1, lp9_s z.2.2 (by omega) (fun p q => by omega)⟩) (fun z => Or.inr ⟨z.1, el_m z.2.1, lp9_s z.2.2 (by omega) (fun p q => by omega)⟩)
            · refine ix_i (by omega) ?_
              intro b72 b72b
              refine And.intro (fun c73 => ?_) (fun c73 => ?_)
              · refine hK 68 [some (vR 111 0), some (vI ta), some (vI fi), some (vI lf), some (vI pt), some (vI k), none, none, none, none, none, none] [] T ?_
                refine j_blx (F := fX11) tb_X11 (nn_ _) bk_X11_ball_e_68 bs_X11_ball_e_68 hz (fun K hK => ?_)
                refine rg_i (by omega) ?_
                refine rg_i (by omega) ?_
                refine hK 8 [some (vR 111 0), some (vI ta), some (vI fi), some (vI (lf + 1)), some (vI pt), some (vI (k + 1)), none, none, none, none, none, none] [] T ?_
                refine ih_8 _ ?_ (lf + 1) pt (k + 1) (Nat.le_refl _) ?_ ?_
                · have hm_8 := hm_8 (); omega
                · omega
                · exact hq.elim (fun z => by omega) (fun z => Or.inr ⟨by omega, el_m z.2.1, lp9_s z.2.2 (by omega) (fun p q => by omega)⟩)
              · refine ix_i (by omega) ?_
                intro b74 b74b
                refine hK 70 [some (vR 111 0), some (vI ta), some (vI fi), some (vI lf), some (vI pt), some (vI k), none, none, none, none, none, none] [vI (T 301 0 k)] T ?_
                refine j_blx (F := fX11) tb_X11 (nn_ _) bk_X11_ball_e_70 bs_X11_ball_e_70 hz (fun K hK => ?_)
                refine rg_i (by omega) ?_
                refine rg_i (by omega) ?_
                refine hK 8 [some (vR 111 0), some (vI ta), some (vI fi), some (vI (lf + 1)), some (vI (T 301 0 k)), some (vI (k + 1)), none, none, none, none, none, none] [] T ?_
                refine ih_8 _ ?_ (lf + 1) (T 301 0 k) (k + 1) (Nat.le_refl _) ?_ ?_
                · have hm_8 := hm_8 (); omega
                · omega
                · exact hq.elim (fun z => Or.inr ⟨by omega, el_n (by omega) (by omega) rfl (by omega), lp9_s z.2.2 (by omega) (fun p q => by omega)⟩) (fun z => Or.inr ⟨by omega, el_n (by omega) (by omega) rfl (by omega), lp9_s z.2.2 (by omega) (fun p q => by omega)⟩)
  refine j_blx (F := fX11) tb_X11 (nn_ _) bk_X11_ball_e_0 bs_X11_ball_e_0 hz (fun K hK => ?_)
  refine hK 8 [some (vR 111 0), some (vI ta), some (vI fi), some (vI 0), some (vI 3), some (vI 0), none, none, none, none, none, none] [] T ?_
  refine c_8 _ 0 3 0 (Nat.le_refl _) ?_ ?_
  · omega
  · exact Or.inl ⟨rfl, rfl, fun j a b => by omega⟩
-- the draw, both sides
theorem alk_x {E C f : Int → Int} {x g : Int} {n : Nat} : ∀ m : Nat, (∀ k : Int, n ≤ k → k < m → E k = -1) → n ≤ m → alk_ E C f x g m = alk_ E C f x g n
  | 0, _, h => by rw [show n = 0 by omega]
  | m + 1, z, h => by
    by_cases e : n = m + 1
    · rw [e]
    · have i := alk_x (C := C) (f := f) (x := x) (g := g) m (fun k a b => z k a (by omega)) (by omega)
      show alk_ E C f x g m + (if ((m : Nat) : Int) ≠ x ∧ E m ≠ -1 ∧ f m = g ∧ C m = C x then (1 : Int) else 0) = _
      have n1 : ¬ (((m : Nat) : Int) ≠ x ∧ E m ≠ -1 ∧ f m = g ∧ C m = C x) := fun q => q.2.1 (z m (by omega) (by omega))
      rw [i, if_neg n1]; omega
theorem alk_c {E C f E2 C2 f2 : Int → Int} {x g : Int} (hx : C2 x = C x) : ∀ n : Nat, (∀ k : Int, 0 ≤ k → k < n → E2 k = E k ∧ f2 k = f k ∧ (E k ≠ -1 → C2 k = C k)) → alk_ E2 C2 f2 x g n = alk_ E C f x g n
  | 0, _ => rfl
  | n + 1, h => by
    have i := alk_c (g := g) hx n (fun k a b => h k a (by omega))
    obtain ⟨h1, h2, h3⟩ := h n (by omega) (by omega)
    show alk_ E2 C2 f2 x g n + (if ((n : Nat) : Int) ≠ x ∧ E2 n ≠ -1 ∧ f2 n = g ∧ C2 n = C2 x then (1 : Int) else 0) = alk_ E C f x g n + (if ((n : Nat) : Int) ≠ x ∧ E n ≠ -1 ∧ f n = g ∧ C n = C x then (1 : Int) else 0)
    rw [i, h1, h2, hx]
    by_cases z : E n = -1
    · have n1 : ¬ (((n : Nat) : Int) ≠ x ∧ E n ≠ -1 ∧ f n = g ∧ C2 n = C x) := fun q => q.2.1 z
      have n2 : ¬ (((n : Nat) : Int) ≠ x ∧ E n ≠ -1 ∧ f n = g ∧ C n = C x) := fun q => q.2.1 z
      rw [if_neg n1, if_neg n2]
    · rw [h3 z]
/-- two draws that differ in nothing that counts -/
def DS9_ (d d2 : Dr_) : Prop := (0 ≤ d.n ∧ d.n ≤ d2.n) ∧ (∀ k, 0 ≤ k → k < d.n → d2.E k = d.E k ∧ (d.E k ≠ -1 → d2.C k = d.C k)) ∧ (∀ k, d.n ≤ k → k < d2.n → d2.E k = -1) ∧ d2.G = d.G ∧ d2.L = d.L
theorem ms_c {d d2 : Dr_} {f f2 : Int → Int} {x g : Int} (h : DS9_ d d2) (hf : ∀ k, 0 ≤ k → k < d.n → f2 k = f k) (hx : 0 ≤ x ∧ x < d.n) (he : d.E x ≠ -1) : ms_ d2 f2 x g ↔ ms_ d f x g := by
  obtain ⟨h1, h2, h3, h4, h5⟩ := h
  have ea : alk_ d2.E d2.C f2 x g d2.n.toNat = alk_ d.E d.C f x g d.n.toNat := by
    rw [alk_x (n := d.n.toNat) d2.n.toNat (fun k a b => h3 k (by omega) (by omega)) (by omega)]
    exact alk_c ((h2 x hx.1 hx.2).2 he) d.n.toNat (fun k a b => ⟨(h2 k a (by omega)).1, hf k a (by omega), (h2 k a (by omega)).2⟩)
  unfold ms_
  rw [ea, h5]
  constructor
  · rintro ⟨p, q⟩
    refine ⟨fun k a b c e u v => ?_, q⟩
    have y := (h2 k a b).1
    exact p k a (by omega) c (by rw [y]; exact e) (by rw [hf k a b]; exact u) (by rw [y, (h2 x hx.1 hx.2).1]; exact v)
  · rintro ⟨p, q⟩
    refine ⟨fun k a b c e u v => ?_, q⟩
    by_cases z : k < d.n
    · have y := (h2 k a z).1
      rw [y] at e v
      rw [hf k a z] at u
      rw [(h2 x hx.1 hx.2).1] at v
      exact p k a z c e u v
    · exact e (h3 k (by omega) b)
theorem nw_c {d d2 : Dr_} {fx gp : Int} (h : DS9_ d d2) : ∀ (l : List Int) (f f2 : Int → Int), (∀ z ∈ l, (0 ≤ z ∧ z < d.n) ∧ d.E z ≠ -1) → (∀ k, 0 ≤ k → k < d.n → f2 k = f k) → nw_ d2 fx gp l f2 = nw_ d fx gp l f
  | [], _, _, _, _ => rfl
  | x :: l, f, f2, hl, hf => by
    have q := hl x List.mem_cons_self
    show qs_ (ok_ d2 fx gp f2 x) (fun g => nw_ d2 fx gp l (fu_ f2 x g)) (-1) = qs_ (ok_ d fx gp f x) (fun g => nw_ d fx gp l (fu_ f x g)) (-1)
    refine qs_e (fun g _ _ => ?_) (fun g _ _ _ => nw_c h l _ _ (fun z hz => hl z (List.mem_cons_of_mem _ hz)) (fun k a b => ?_))
    · unfold ok_
      rw [h.2.2.2.1, ms_c h hf q.1 q.2]
    · unfold fu_
      by_cases z : k = x
      · rw [if_pos z, if_pos z]
      · rw [if_neg z, if_neg z]; exact hf k a b
theorem lpk_x {E b : Int → Int} {p : Int} {n : Nat} : ∀ m : Nat, (∀ k : Int, n ≤ k → k < m → E k ≠ p) → n ≤ m → lpk_ E b p m = lpk_ E b p n
  | 0, _, h => by rw [show n = 0 by omega]
  | m + 1, z, h => by
    by_cases e : n = m + 1
    · rw [e]
    · have i := lpk_x (b := b) m (fun k a c => z k a (by omega)) (by omega)
      show lpk_ E b p m ++ (if E m = p ∧ b m = -1 then [((m : Nat) : Int)] else []) = _
      have n1 : ¬ (E m = p ∧ b m = -1) := fun q => z m (by omega) (by omega) q.1
      rw [i, if_neg n1, List.append_nil]
theorem lpk_c {E b E2 b2 : Int → Int} {p : Int} : ∀ n : Nat, (∀ k : Int, 0 ≤ k → k < n → E2 k = E k ∧ b2 k = b k) → lpk_ E2 b2 p n = lpk_ E b p n
  | 0, _ => rfl
  | n + 1, h => by
    have i := lpk_c (p := p) n (fun k a c => h k a (by omega))
    obtain ⟨h1, h2⟩ := h n (by omega) (by omega)
    show lpk_ E2 b2 p n ++ (if E2 n = p ∧ b2 n = -1 then [((n : Nat) : Int)] else []) = lpk_ E b p n ++ (if E n = p ∧ b n = -1 then [((n : Nat) : Int)] else [])
    rw [i, h1, h2]
theorem lq_c {E b E2 b2 : Int → Int} {n m : Nat} (hn : n ≤ m) (h : ∀ k : Int, 0 ≤ k → k < n → E2 k = E k ∧ b2 k = b k) (z : ∀ k : Int, n ≤ k → k < m → E2 k = -1) : ∀ p : Nat, lq_ E2 b2 m p = lq_ E b n p
  | 0 => rfl
  | p + 1 => by
    show lq_ E2 b2 m p ++ lpk_ E2 b2 p m = lq_ E b n p ++ lpk_ E b p n
    rw [lq_c hn h z p, lpk_x m (fun k a c => by rw [z k a c]; omega) hn, lpk_c n h]
section DRW
variable {T : Zt}
/-- both sides' lists, ways -/
theorem lor_l (h : LOR_ T) (hl : LH_ T) (hn : T 108 0 2 = T 111 0 12) (hb : 0 ≤ T 108 0 2 ∧ T 108 0 2 ≤ 12) : lhw_ T = ll_ T := by
  unfold lhw_ ll_
  exact lq_c (by omega) (fun k a b => h.2.1 k a (by omega)) (fun k a b => hl.2.2.2.2.1 k (by omega) (by omega)) 3
theorem lor_n (h : LOR_ T) (hl : LH_ T) (th : THR_ T) (hn : T 108 0 2 = T 111 0 12) (hb : 0 ≤ T 108 0 2 ∧ T 108 0 2 ≤ 12) (fx gp : Int) : nw_ (dh_ T) fx gp (lhw_ T) (ghw_ T) = nw_ (drw_ T) fx gp (ll_ T) (gf_ T) := by
  rw [lor_l h hl hn hb]
  have hd : DS9_ (drw_ T) (dh_ T) := by
    refine ⟨⟨?_, ?_⟩, fun k a b => ?_, fun k a b => ?_, h.1.1, h.1.2.1⟩
    · show 0 ≤ T 111 0 12
      omega
    · show T 111 0 12 ≤ 12
      omega
    · have b2 : k < T 111 0 12 := b
      exact ⟨(h.2.1 k a (by omega)).1, fun _ => (th.1 k a (by omega)).2⟩
    · have a2 : T 111 0 12 ≤ k := a
      have b2 : k < 12 := b
      exact hl.2.2.2.2.1 k (by omega) b2
  refine nw_c hd _ _ _ (fun z hz => ?_) (fun k a b => ?_)
  · have q := ll_m (by omega) hz
    refine ⟨⟨q.1, q.2.1⟩, ?_⟩
    show T 301 0 z ≠ -1
    omega
  · have b2 : k < T 111 0 12 := b
    exact (h.2.1 k a (by omega)).2
/-- the same, of the things with index 0 -/
def kz_ (F : List (Nat × List Int)) (T T' : Zt) : Prop := ∀ k j, fw_ F k j = true → T' k 0 j = T k 0 j
theorem kz_s {F G : List (Nat × List Int)} {T T' : Zt} (h : kz_ G T T') (s : fs_ F G = true) : kz_ F T T' := fun k j w => h k j (fs_sub s w)
theorem kz_o {F : List (Nat × List Int)} {T T' : Zt} (h : ks_ F T T') : kz_ F T T' := fun k j w => h k 0 j w
theorem fw_3 {k : Nat} {j : Int} (n : k ≠ 302) (h : fw_ [(304, []), (305, [])] k j = false) : fw_ [(304, []), (305, []), (302, [])] k j = false := by
  simp [fw_] at h ⊢
  omega
theorem kz_3 {F : List (Nat × List Int)} {T T' : Zt} (f : fr_ [(304, []), (305, []), (302, [])] T T') (e : ∀ j, T' 302 0 j = T 302 0 j) (d : dj_ [(304, []), (305, [])] F = true) : kz_ F T T' := fun k j w => by
  by_cases z : k = 302
  · rw [z]; exact e j
  · refine f k 0 j (fw_3 z ?_)
    cases y : fw_ [(304, []), (305, [])] k j
    · rfl
    · rw [dj_s d y] at w
      cases w
/-- the house's own words under a frame -/
theorem lhw_k {T' : Zt} (h : LH_ T) (k : kz_ [(101, [1, 2, 3, 4, 6, 7, 13]), (108, [2]), (428, []), (429, []), (430, []), (431, []), (432, []), (561, [])] T T') : LH_ T' := by
  obtain ⟨h1, h2, h3, h4, h5, h6⟩ := h
  have eE : (fun j => T' 428 0 j) = (fun j => T 428 0 j) := funext (fun j => k 428 j rfl)
  have eG : (fun j => T' 429 0 j) = (fun j => T 429 0 j) := funext (fun j => k 429 j rfl)
  refine ⟨by rw [k 101 3 rfl, eE]; exact h1, by rw [k 101 4 rfl, eG]; exact h2, fun p a b => by rw [k 430 p rfl, eE, k 101 1 rfl]; exact h3 p a b, fun j a b => by rw [k 428 j rfl, k 429 j rfl]; exact h4 j a b, fun j a b => by rw [k 108 2 rfl] at a; rw [k 428 j rfl]; exact h5 j a b, ?_⟩
  rcases h6 with h6 | h6
  · exact Or.inl (by rw [k 101 7 rfl]; exact h6)
  · refine Or.inr ?_
    unfold FV_
    rw [dh_e (fun j => k 428 j rfl) (fun j => k 561 j rfl) (k 101 1 rfl) (k 101 2 rfl), lhw_e (fun j => k 428 j rfl) (fun j => k 429 j rfl), ghw_e (fun j => k 429 j rfl), k 101 6 rfl]
    exact ⟨h6.1, fun c hc u a b => by rw [k 431 _ rfl]; exact h6.2.1 c hc u a b, (wl_e (fun j => k 432 j rfl) (k 101 13 rfl) (h6.2.2 :) :)⟩
theorem lor_k {T' : Zt} (h : LOR_ T) (k : kz_ [(101, [1, 2, 3, 4, 5, 6, 7, 13]), (108, [2]), (428, []), (429, []), (430, []), (431, []), (432, []), (561, []), (111, [98, 99, 100, 103]), (301, []), (302, [])] T T') : LOR_ T' := by
  obtain ⟨⟨h1, h2, h3, h4⟩, h5, h6⟩ := h
  have e1 := k 101 1 rfl
  have e2 := k 101 2 rfl
  have e5 := k 101 5 rfl
  have f1 := k 111 98 rfl
  have f2 := k 111 99 rfl
  have f3 := k 111 100 rfl
  have f4 := k 111 103 rfl
  refine ⟨⟨by omega, by omega, by omega, by omega⟩, fun j a b => ?_, ?_⟩
  · rw [k 428 j rfl, k 429 j rfl, k 301 j rfl, k 302 j rfl]
    exact h5 j a b
  · rcases h6 with h6 | h6
    · exact Or.inl (by omega)
    · exact Or.inr (lhw_k h6 (kz_s k (by decide +kernel)))
/-- a new club is in no draw -/
theorem lor_c {T' : Zt} {n : Int} (h : LOR_ T) (hn : T 108 0 2 = n) (k : kz_ [(101, [1, 2, 3, 4, 5, 6, 7, 13]), (428, []), (429, []), (430, []), (431, []), (432, []), (111, [98, 99, 100, 103]), (301, []), (302, [])] T T') (g1 : n ≤ T' 108 0 2) (g2 : ∀ j, j ≠ n → T' 561 0 j = T 561 0 j) (g3 : 0 ≤ n) : LOR_ T' := by
  obtain ⟨⟨h1, h2, h3, h4⟩, h5, h6⟩ := h
  have e1 := k 101 1 rfl
  have e2 := k 101 2 rfl
  have e5 := k 101 5 rfl
  have f1 := k 111 98 rfl
  have f2 := k 111 99 rfl
  have f3 := k 111 100 rfl
  have f4 := k 111 103 rfl
  refine ⟨⟨by omega, by omega, by omega, by omega⟩, fun j a b => ?_, ?_⟩
  · rw [k 428 j rfl, k 429 j rfl, k 301 j rfl, k 302 j rfl]
    exact h5 j a b
  · rcases h6 with h6 | ⟨q1, q2, q3, q4, q5, q6⟩
    · exact Or.inl (by omega)
    · have eE : (fun j => T' 428 0 j) = (fun j => T 428 0 j) := funext (fun j => k 428 j rfl)
      have eG : (fun j => T' 429 0 j) = (fun j => T 429 0 j) := funext (fun j => k 429 j rfl)
      refine Or.inr ⟨by rw [k 101 3 rfl, eE]; exact q1, by rw [k 101 4 rfl, eG]; exact q2, fun p a b => by rw [k 430 p rfl, eE, k 101 1 rfl]; exact q3 p a b, fun j a b => by rw [k 428 j rfl, k 429 j rfl]; exact q4 j a b, fun j a b => by rw [k 428 j rfl]; exact q5 j (by omega) b, ?_⟩
      rcases q6 with q6 | q6
      · exact Or.inl (by rw [k 101 7 rfl]; exact q6)
      · refine Or.inr ?_
        have hd : DS9_ (dh_ T) (dh_ T') := by
          refine ⟨⟨show (0 : Int) ≤ 12 by decide, show (12 : Int) ≤ 12 by decide⟩, fun j a b => ⟨k 428 j rfl, fun c => g2 j (fun z => c ?_)⟩, fun j a b => absurd b (by show ¬ j < 12; have a2 : 12 ≤ j := a; omega), e1, e2⟩
          exact q5 j (by omega) b
        have e : ∀ fx gp, nw_ (dh_ T') fx gp (lhw_ T) (ghw_ T) = nw_ (dh_ T) fx gp (lhw_ T) (ghw_ T) := fun fx gp => nw_c hd _ _ _ (fun z hz => ⟨⟨(lhw_m hz).1, (lhw_m hz).2.1⟩, by show T 428 0 z ≠ -1; have := lhw_m hz; omega⟩) (fun _ _ _ => rfl)
        unfold FV_
        rw [lhw_e (fun j => k 428 j rfl) (fun j => k 429 j rfl), ghw_e (fun j => k 429 j rfl), k 101 6 rfl, e]
        exact ⟨q6.1, fun c hc u a b => by rw [k 431 _ rfl, e]; exact q6.2.1 c hc u a b, (wl_e (fun j => k 432 j rfl) (k 101 13 rfl) (q6.2.2 :) :)⟩
/-- the counts are fresh -/
theorem lor_r {T1 : Zt} (h : LOR_ T) (hg : T 101 0 1 ≠ 0) (f : fr_ [(101, [13, 6, 7]), (434, []), (435, []), (431, []), (432, [])] T T1) (r : RFP_ T T1) : LOR_ T1 ∧ LH_ T1 ∧ FV_ T1 := by
  have hl := h.2.2.resolve_left hg
  have q : LH_ T1 ∧ FV_ T1 := by
    rcases r with ⟨r1, r2⟩ | ⟨r1, r2, r3⟩
    · rw [r2]
      exact ⟨hl, hl.2.2.2.2.2.resolve_left r1⟩
    · obtain ⟨h1, h2, h3, h4, h5, h6⟩ := hl
      refine ⟨⟨by rw [f 101 0 3 rfl, show (fun k => T1 428 0 k) = (fun k => T 428 0 k) from funext (fun k => f 428 0 k rfl)]; exact h1, by rw [f 101 0 4 rfl, show (fun k => T1 429 0 k) = (fun k => T 429 0 k) from funext (fun k => f 429 0 k rfl)]; exact h2, fun p a b => by rw [f 430 0 p rfl, f 101 0 1 rfl, show (fun k => T1 428 0 k) = (fun k => T 428 0 k) from funext (fun k => f 428 0 k rfl)]; exact h3 p a b, fun k a b => by rw [f 428 0 k rfl, f 429 0 k rfl]; exact h4 k a b, fun k a b => by rw [f 108 0 2 rfl] at a; rw [f 428 0 k rfl]; exact h5 k a b, Or.inr r3⟩, r3⟩
  refine ⟨⟨⟨?_, ?_, ?_, ?_⟩, fun k a b => ?_, Or.inr q.1⟩, q.1, q.2⟩
  · rw [f 101 0 1 rfl, f 111 0 99 rfl]; exact h.1.1
  · rw [f 101 0 2 rfl, f 111 0 100 rfl]; exact h.1.2.1
  · rw [f 101 0 5 rfl, f 111 0 103 rfl]; exact h.1.2.2.1
  · rw [f 101 0 1 rfl, f 111 0 98 rfl]; exact h.1.2.2.2
  · rw [f 428 0 k rfl, f 429 0 k rfl, f 301 0 k rfl, f 302 0 k rfl]; exact h.2.1 k a b
theorem lor_3 {T' : Zt} (h : LOR_ T) (f : fr_ [(304, []), (305, []), (302, [])] T T') (e : ∀ j, T' 302 0 j = T 302 0 j) : LOR_ T' := lor_k h (kz_3 f e (by decide +kernel))
end DRW
/-- a new draw, both sides -/
theorem lor_d {T T1 T2 : Zt} {g l x1 x2 : Int} (h : LOR_ T) (hc : 0 ≤ T 108 0 2) (d1 : NDH_ T T1 g l x1) (f1 : fr_ [(101, [1, 2, 3, 4, 7]), (428, []), (429, []), (430, [])] T T1) (d2 : NDR_ T1 T2 g l x2) (f2 : fr_ [(111, [98, 99, 100]), (301, []), (302, [])] T1 T2) : x1 = x2 ∧ LOR_ T2 := by
  rcases d1 with ⟨a1, a2, a3⟩ | ⟨a1, a2, a3, a4, a5, a6, a7, a8, a9⟩
  · rcases d2 with ⟨b1, b2, b3⟩ | ⟨b1, b2⟩
    · rw [b1, a1]
      exact ⟨by omega, h⟩
    · exact absurd b1 a3
  · rcases d2 with ⟨b1, b2, b3⟩ | ⟨b1, b2, b3, b4, b5, b6⟩
    · exact absurd a1 b3
    · have e1 := f2 101 0 1 rfl
      have e2 := f2 101 0 2 rfl
      have e5 := f2 101 0 5 rfl
      have e6 := f1 101 0 5 rfl
      have g5 := f2 111 0 103 rfl
      have g6 := f1 111 0 103 rfl
      have h5 := h.1.2.2.1
      refine ⟨by omega, ⟨by omega, by omega, by omega, by omega⟩, fun k p q => ?_, Or.inr ⟨?_, ?_, fun p p1 p2 => ?_, fun k p q r => ?_, fun k p q => ?_, Or.inl ?_⟩⟩
      · rw [f2 428 0 k rfl, f2 429 0 k rfl, (a8 k p q).1, (a8 k p q).2, (b6 k p q).1, (b6 k p q).2]
        exact ⟨rfl, rfl⟩
      · rw [f2 101 0 3 rfl, a5, cnz_a 12 (fun k p q => by rw [f2 428 0 k rfl]; exact (a8 k p (by omega)).1)]
        rfl
      · rw [f2 101 0 4 rfl, a6, cnz_a 12 (fun k p q => by rw [f2 429 0 k rfl]; exact (a8 k p (by omega)).2)]
        rfl
      · rw [f2 430 0 p rfl, a9 p p1 (by omega), cnz_n 12 (fun k u v => by rw [f2 428 0 k rfl, (a8 k u (by omega)).1]; omega)]
        exact ⟨rfl, by omega⟩
      · rw [f2 429 0 k rfl]; exact (a8 k p q).2
      · rw [f2 428 0 k rfl]; exact (a8 k (by rw [f2 108 0 2 rfl, f1 108 0 2 rfl] at p; omega) q).1
      · rw [f2 101 0 7 rfl]; exact a7
/-- a club comes into a pot, both sides -/
theorem lor_p {T T1 T2 : Zt} {c k x1 x2 : Int} (h : LOR_ T) (hn : T 108 0 2 = T 111 0 12) (hb : T 108 0 2 ≤ 12) (d1 : PTH_ T T1 c k x1) (f1 : fr_ [(428, []), (430, []), (101, [3, 7])] T T1) (d2 : PTR_ T1 T2 c k x2) (f2 : fr_ [(301, [])] T1 T2) : x1 = x2 ∧ LOR_ T2 := by
  have g12 := f1 111 0 12 rfl
  have g98 := f1 111 0 98 rfl
  have g99 := f1 111 0 99 rfl
  have eG : (fun j => T1 302 0 j) = (fun j => T 302 0 j) := funext (fun j => f1 302 0 j rfl)
  have eE : (fun j => T1 301 0 j) = (fun j => T 301 0 j) := funext (fun j => f1 301 0 j rfl)
  have ec := f1 301 0 c rfl
  unfold PTR_ at d2
  rw [eG, eE, g12, g98, g99, ec] at d2
  obtain ⟨⟨h1, h2, h3, h4⟩, h5, h6⟩ := h
  have key : (0 ≤ c ∧ c < T 108 0 2) → ((T 101 0 1 = 0 ∨ T 428 0 c ≠ -1 ∨ 0 < T 101 0 4) ↔ (T 111 0 98 = 0 ∨ T 301 0 c ≠ -1 ∨ cnz_ (fun j => T 302 0 j) (-1) 12 < 12)) := fun hc => by
    have z := (h5 c hc.1 (by omega)).1
    rcases h6 with h6 | h6
    · constructor
      · intro _; exact Or.inl (by omega)
      · intro _; exact Or.inl h6
    · have y := h6.2.1
      have y2 : cnz_ (fun j => T 429 0 j) (-1) 12 = cnz_ (fun j => T 302 0 j) (-1) 12 := cnz_e 12 (fun j a b => (h5 j a (by omega)).2)
      omega
  have pots : ∀ p, 0 ≤ p → p < 3 → T 101 0 1 ≠ 0 → T 430 0 p = cnz_ (fun j => T 301 0 j) p 12 ∧ T 430 0 p ≤ T 101 0 1 := fun p a b d => by
    have y := (h6.resolve_left d).2.2.1 p a (by omega)
    have y2 : cnz_ (fun j => T 428 0 j) p 12 = cnz_ (fun j => T 301 0 j) p 12 := cnz_e 12 (fun j a b => (h5 j a (by omega)).1)
    omega
  rcases d1 with ⟨rfl, a⟩ | ⟨a1, a2, a3, a4, a5, a6, a7, a8, a9⟩
  · rcases d2 with ⟨rfl, b⟩ | ⟨b1, b2, b3, b4, b5, b6⟩
    · refine ⟨?_, ⟨h1, h2, h3, h4⟩, h5, h6⟩
      rcases a with ⟨u1, u2⟩ | ⟨u1, u2, u3⟩ | ⟨u1, u2, u3, u4⟩ | ⟨u1, u2, u3, u4, u5⟩
      · rcases b with ⟨v1, v2⟩ | ⟨v1, v2, v3⟩ | ⟨v1, v2, v3, v4⟩ | ⟨v1, v2, v3, v4, v5⟩
        · omega
        · exact absurd (by omega) u2
        · exact absurd (by omega) u2
        · exact absurd (by omega) u2
      · rcases b with ⟨v1, v2⟩ | ⟨v1, v2, v3⟩ | ⟨v1, v2, v3, v4⟩ | ⟨v1, v2, v3, v4, v5⟩
        · exact absurd (by omega) v2
        · omega
        · exact absurd v2 u3
        · exact absurd v2 u3
      · rcases b with ⟨v1, v2⟩ | ⟨v1, v2, v3⟩ | ⟨v1, v2, v3, v4⟩ | ⟨v1, v2, v3, v4, v5⟩
        · exact absurd (by omega) v2
        · exact absurd u2 v3
        · omega
        · exact absurd ((key u1).mp u4) v3
      · rcases b with ⟨v1, v2⟩ | ⟨v1, v2, v3⟩ | ⟨v1, v2, v3, v4⟩ | ⟨v1, v2, v3, v4, v5⟩
        · exact absurd (by omega) v2
        · exact absurd u2 v3
        · exact absurd ((key u1).mpr v4) u3
        · omega
    · exfalso
      have p1 : 0 ≤ c ∧ c < T1 108 0 2 := by omega
      rcases a with ⟨u1, u2⟩ | ⟨u1, u2, u3⟩ | ⟨u1, u2, u3, u4⟩ | ⟨u1, u2, u3, u4, u5⟩
      · exact u2 p1
      · exact u3 b2
      · exact b3 ((key u1).mp u4)
      · have y := pots k b2.1 b2.2 (fun z => u3 (Or.inl z))
        omega
  · have y := pots k a2.1 a2.2 (fun z => a3 (Or.inl z))
    have hg : T 101 0 1 ≠ 0 := fun z => a3 (Or.inl z)
    have hec : T 428 0 c = -1 := Classical.byContradiction (fun z => a3 (Or.inr (Or.inl z)))
    rcases d2 with ⟨e2, b⟩ | ⟨b1, b2, b3, b4, b5, b6, b7⟩
    · exfalso
      rcases b with ⟨v1, v2⟩ | ⟨v1, v2, v3⟩ | ⟨v1, v2, v3, v4⟩ | ⟨v1, v2, v3, v4, v5⟩
      · exact v2 (by omega)
      · exact v3 a2
      · exact a3 ((key a1).mpr v4)
      · omega
    · have e1 := f2 101 0 1 rfl
      have e1b := f1 101 0 1 rfl
      have e2 := f2 101 0 2 rfl
      have e2b := f1 101 0 2 rfl
      have e5 := f2 101 0 5 rfl
      have e5b := f1 101 0 5 rfl
      have k98 := f2 111 0 98 rfl
      have k99 := f2 111 0 99 rfl
      have k100 := f2 111 0 100 rfl
      have k100b := f1 111 0 100 rfl
      have k103 := f2 111 0 103 rfl
      have k103b := f1 111 0 103 rfl
      obtain ⟨q1, q2, q3, q4, q5, q6⟩ := h6.resolve_left hg
      have uE : ∀ v, cnz_ (fun j => T1 428 0 j) v 12 = cnz_ (fun j => T 428 0 j) v 12 - (if T 428 0 c = v then 1 else 0) + (if T1 428 0 c = v then 1 else 0) := fun v => cnz_u (f := fun j => T 428 0 j) (g := fun j => T1 428 0 j) (x := c) a1.1 (fun j hj => a6.2 j hj) 12 (by omega)
      have s2 : ∀ v, cnz_ (fun j => T2 428 0 j) v 12 = cnz_ (fun j => T1 428 0 j) v 12 := fun v => cnz_e 12 (fun j _ _ => f2 428 0 j rfl)
      refine ⟨by omega, ⟨by omega, by omega, by omega, by omega⟩, fun j p q => ?_, Or.inr ⟨?_, ?_, fun p p1 p2 => ?_, fun j p q r => ?_, fun j p q => ?_, Or.inl ?_⟩⟩
      · rw [f2 428 0 j rfl, f2 429 0 j rfl, f1 429 0 j rfl, f2 302 0 j rfl, f1 302 0 j rfl]
        refine ⟨?_, (h5 j p q).2⟩
        by_cases z : j = c
        · rw [z, a6.1, b6]
        · rw [a6.2 j z, b7 j z, f1 301 0 j rfl]; exact (h5 j p q).1
      · rw [s2, uE, if_pos hec, if_neg (show ¬ T1 428 0 c = -1 by omega), f2 101 0 3 rfl]
        omega
      · rw [f2 101 0 4 rfl, f1 101 0 4 rfl, show (fun j => T2 429 0 j) = (fun j => T 429 0 j) from funext (fun j => (f2 429 0 j rfl).trans (f1 429 0 j rfl))]
        exact q2
      · rw [s2, uE, if_neg (show ¬ T 428 0 c = p by omega), f2 430 0 p rfl]
        have w := q3 p p1 p2
        by_cases z : p = k
        · rw [if_pos (show T1 428 0 c = p by omega), z, a7.1]
          rw [z] at w
          omega
        · rw [if_neg (show ¬ T1 428 0 c = p by omega), a7.2 p z]
          omega
      · rw [f2 428 0 j rfl] at r
        rw [f2 429 0 j rfl, f1 429 0 j rfl]
        by_cases z : j = c
        · rw [z, a6.1] at r; omega
        · rw [a6.2 j z] at r; exact q4 j p q r
      · rw [f2 108 0 2 rfl, f1 108 0 2 rfl] at p
        rw [f2 428 0 j rfl, a6.2 j (by omega)]
        exact q5 j p q
      · rw [f2 101 0 7 rfl]; exact a9
/-- ways, both sides -/
theorem lor_w {T T1 T2 : Zt} {x1 x2 : Int} (h : LOR_ T) (hn : T 108 0 2 = T 111 0 12) (hb : 0 ≤ T 108 0 2 ∧ T 108 0 2 ≤ 12) (d1 : WYH_ T T1 x1) (f1 : fr_ [(101, [13, 6, 7]), (434, []), (435, []), (431, []), (432, [])] T T1) (th : THR_ T1) (d2 : WYR_ T1 T2 x2) (f2 : fr_ [(304, []), (305, []), (302, [])] T1 T2) : x1 = x2 ∧ LOR_ T2 := by
  have g98 := f1 111 0 98 rfl
  have k := h.1.2.2.2
  rcases d1 with ⟨rfl, a2, a3⟩ | ⟨a1, a2, a3⟩
  · rcases d2 with ⟨rfl, b2, b3⟩ | ⟨b1, b2, b3⟩
    · exact ⟨by omega, h⟩
    · exfalso; omega
  · obtain ⟨r1, r2, r3⟩ := lor_r h a1 f1 a2
    rcases d2 with ⟨e2, b2, b3⟩ | ⟨b1, b2, b3⟩
    · exfalso; omega
    · refine ⟨?_, lor_3 r1 f2 b2⟩
      have y := lor_n r1 r2 th (by rw [f1 108 0 2 rfl, f1 111 0 12 rfl]; exact hn) (by rw [f1 108 0 2 rfl]; exact hb) (-1) (-1)
      rw [a3, r3.1, b3, y]
/-- chance, both sides -/
theorem lor_h {T T1 T2 : Zt} {c g x1 x2 : Int} (h : LOR_ T) (hn : T 108 0 2 = T 111 0 12) (hb : 0 ≤ T 108 0 2 ∧ T 108 0 2 ≤ 12) (hE : ∀ j, 0 ≤ j → -1 ≤ T 428 0 j ∧ T 428 0 j ≤ 2) (hG : T 101 0 1 ≤ 4) (d1 : CHH_ T T1 c g x1) (f1 : fr_ [(101, [13, 6, 7]), (434, []), (435, []), (431, []), (432, [])] T T1) (th : THR_ T1) (d2 : CHR_ T1 T2 c g x2) (f2 : fr_ [(304, []), (305, []), (302, [])] T1 T2) : x1 = x2 ∧ LOR_ T2 := by
  have g98 := f1 111 0 98 rfl
  have g12 := f1 111 0 12 rfl
  have g99 := f1 111 0 99 rfl
  have g301 := f1 301 0 c rfl
  have k := h.1.2.2.2
  have k1 := h.1.1
  have kc : (0 ≤ c ∧ c < T 108 0 2) → T 428 0 c = T 301 0 c := fun z => (h.2.1 c z.1 (by omega)).1
  unfold CHR_ at d2
  rw [g98, g12, g99, g301] at d2
  have kk : ((0 ≤ c ∧ c < T 108 0 2) ∧ T 101 0 1 ≠ 0 ∧ T 428 0 c ≠ -1) ↔ ((0 ≤ c ∧ c < T 111 0 12) ∧ T 111 0 98 ≠ 0 ∧ T 301 0 c ≠ -1) := by
    constructor
    · rintro ⟨u, v, w⟩
      have := kc u
      exact ⟨by omega, by omega, by omega⟩
    · rintro ⟨u, v, w⟩
      have := kc (by omega)
      exact ⟨by omega, by omega, by omega⟩
  rcases d1 with ⟨rfl, a⟩ | ⟨a1, a2, a3, a4⟩
  · rcases d2 with ⟨rfl, b⟩ | ⟨b1, b2, b3⟩
    · refine ⟨?_, h⟩
      rcases a with ⟨u1, u2⟩ | ⟨u1, u2, u3⟩
      · rcases b with ⟨v1, v2⟩ | ⟨v1, v2, v3⟩
        · omega
        · exact absurd (kk.mpr v1) u2
      · rcases b with ⟨v1, v2⟩ | ⟨v1, v2, v3⟩
        · exact absurd (kk.mp u1) v2
        · omega
    · exfalso
      rcases a with ⟨u1, u2⟩ | ⟨u1, u2, u3⟩
      · exact u2 (kk.mpr b1)
      · exact u3 (by omega)
  · rcases d2 with ⟨e2, b⟩ | ⟨b1, b2, b3, b4⟩
    · exfalso
      rcases b with ⟨v1, v2⟩ | ⟨v1, v2, v3⟩
      · exact v2 (kk.mp a1)
      · exact v3 (by omega)
    · obtain ⟨r1, r2, r3⟩ := lor_r h a1.2.1 f1 a3
      refine ⟨?_, lor_3 r1 f2 b3⟩
      have y := lor_n r1 r2 th (by rw [f1 108 0 2 rfl, f1 111 0 12 rfl]; exact hn) (by rw [f1 108 0 2 rfl]; exact hb)
      have ef : T1 429 0 c = T1 302 0 c := (r1.2.1 c a1.1.1 (by omega)).2
      rcases a4 with ⟨a4, a5⟩ | ⟨a4, a5⟩
      · have w := y (-1) (-1)
        have w2 := r3.1
        rw [w] at w2
        rcases b4 with ⟨b4, b5⟩ | ⟨b4, b5⟩
        · omega
        · exfalso; omega
      · rcases b4 with ⟨b4, b5⟩ | ⟨b4, b5⟩
        · exfalso; omega
        · have e1 := f1 428 0 c rfl
          have e2 := hE c a1.1.1
          have m : c ∈ lhw_ T1 := lhw_i a1.1.1 (by omega) a4 (by omega) (by omega)
          rw [a5, r3.2.1 c m g a2.1 (by omega), b5, y]
/-- drawn, both sides -/
theorem lor_q {T : Zt} {c x1 x2 : Int} (h : LOR_ T) (hn : T 108 0 2 = T 111 0 12) (hb : T 108 0 2 ≤ 12) (d1 : DWH_ T c x1) (d2 : DWR_ T c x2) : x1 = x2 := by
  have k := h.1.2.2.2
  rcases d1 with ⟨a1, a2⟩ | ⟨a1, a2⟩
  · rcases d2 with ⟨b1, b2⟩ | ⟨b1, b2⟩
    · omega
    · exact absurd (by omega) a2
  · have z := (h.2.1 c a1.1 (by omega)).2
    rcases d2 with ⟨b1, b2⟩ | ⟨b1, b2⟩
    · exact absurd (by omega) b2
    · omega
theorem fw_4 {k : Nat} {j : Int} (n : k ≠ 302) (m : ¬ (k = 111 ∧ j = 103)) (h : fw_ [(304, []), (305, [])] k j = false) : fw_ [(304, []), (305, []), (302, []), (111, [103])] k j = false := by
  simp [fw_] at h ⊢
  omega
theorem kz_4 {F : List (Nat × List Int)} {T T' : Zt} (f : fr_ [(304, []), (305, []), (302, []), (111, [103])] T T') (e : ∀ j, T' 302 0 j = T 302 0 j) (e2 : T' 111 0 103 = T 111 0 103) (d : dj_ [(304, []), (305, [])] F = true) : kz_ F T T' := fun k j w => by
  by_cases z : k = 302
  · rw [z]; exact e j
  · by_cases y : k = 111 ∧ j = 103
    · rw [y.1, y.2]; exact e2
    · refine f k 0 j (fw_4 z y ?_)
      cases y : fw_ [(304, []), (305, [])] k j
      · rfl
      · rw [dj_s d y] at w
        cases w
theorem cen_e {T T1 : Zt} {p : Int} (a : ∀ k, T1 301 0 k = T 301 0 k) (b : ∀ k, T1 302 0 k = T 302 0 k) : ∀ n : Nat, cen_ T1 p n = cen_ T p n
  | 0 => rfl
  | n + 1 => by
    show cen_ T1 p n + (if T1 301 0 (n : Int) = p ∧ T1 302 0 (n : Int) = -1 then (1 : Int) else 0) = cen_ T p n + (if T 301 0 (n : Int) = p ∧ T 302 0 (n : Int) = -1 then (1 : Int) else 0)
    rw [cen_e a b n, a, b]
/-- a ball of the reference, told by another picture with the same reference -/
theorem blr_t {T T1 T2 : Zt} {s b x : Int} (a : ∀ k, T1 301 0 k = T 301 0 k) (c : ∀ k, T1 302 0 k = T 302 0 k) (d : ∀ k, T1 214 0 k = T 214 0 k) (e : ∀ j, T1 111 0 j = T 111 0 j) (h : BLR_ T1 T2 s b x) : BLR_ T T2 s b x := by
  have h0 : ∀ fx gp, nw_ (drw_ T1) fx gp (ll_ T1) (gf_ T1) = nw_ (drw_ T) fx gp (ll_ T) (gf_ T) := fun fx gp => by
    rw [drw_e a d (e 12) (e 99) (e 100), ll_e a c (e 12), gf_e c]
  have h1 : BR0_ T1 = BR0_ T := by
    unfold BR0_
    rw [h0]
  have h2 : ∀ p k, cel_ T1 p k = cel_ T p k := fun p k => cen_e a c _
  have h3 : ∀ c g, sgm_ T1 c g = sgm_ T c g := fun c g => by
    unfold sgm_
    rw [h0, h0, h0, h0]
  rcases h with ⟨q1, q2, q3, q4⟩ | ⟨q1, q2, s0, p, cc, g, u1, ⟨u2, j0, v1, v2, v3, v4⟩, u3, ⟨w1, w2, w3, w4, w5⟩, u4, ⟨u5, u6⟩, u7, u8, u9, u10⟩
  · refine Or.inl ⟨q1, fun k => (q2 k).trans (c k), q3.trans (e 103), ?_⟩
    rw [h1, e 98, e 12] at q4
    rcases q4 with q4 | q4 | q4
    · exact Or.inl q4
    · exact Or.inr (Or.inl (fun j z1 z2 z3 => by rw [← c]; exact q4 j z1 z2 (by rw [a]; exact z3)))
    · exact Or.inr (Or.inr q4)
  · rw [e 98] at q1
    rw [h1] at q2 u5 u6 u7
    rw [e 103] at u1
    rw [e 12] at v2 w2 w5 u5 u6 u7
    rw [h2] at w5 u5 u6 u7
    rw [h2] at w5
    rw [h3] at u5 u6
    rw [a] at w3 v3
    rw [c] at w4 v4
    refine Or.inr ⟨q1, q2, s0, p, cc, g, u1, ⟨u2, j0, v1, v2, v3, v4⟩, fun j z1 z2 z3 z4 => ?_, ⟨w1, w2, w3, w4, w5⟩, u4, ⟨u5, u6⟩, u7, u8, fun j hj => (u9 j hj).trans (c j), u10⟩
    have y := u3 j z1 (by rw [e 12]; exact z2) (by rw [a]; exact z3) (by rw [c]; exact z4)
    rw [a] at y
    exact y
theorem cen_l {T : Zt} {p : Int} : ∀ n : Nat, cen_ T p n = ((lpk_ (fun k => T 301 0 k) (gf_ T) p n).length : Int)
  | 0 => rfl
  | n + 1 => by
    show cen_ T p n + (if T 301 0 (n : Int) = p ∧ T 302 0 (n : Int) = -1 then (1 : Int) else 0) = ((lpk_ (fun k => T 301 0 k) (gf_ T) p n ++ (if T 301 0 (n : Int) = p ∧ gf_ T n = -1 then [((n : Nat) : Int)] else [])).length : Int)
    have i := cen_l (T := T) (p := p) n
    rw [List.length_append]
    by_cases z : T 301 0 (n : Int) = p ∧ T 302 0 (n : Int) = -1
    · have z2 : T 301 0 (n : Int) = p ∧ gf_ T n = -1 := z
      rw [if_pos z, if_pos z2, List.length_singleton]; omega
    · have z2 : ¬ (T 301 0 (n : Int) = p ∧ gf_ T n = -1) := z
      rw [if_neg z, if_neg z2, List.length_nil]; omega
theorem lpk_g {E b : Int → Int} {p : Int} {n : Nat} : ∀ m : Nat, n ≤ m → (lpk_ E b p n).length ≤ (lpk_ E b p m).length
  | 0, h => by rw [show n = 0 by omega]; exact Nat.le_refl _
  | m + 1, h => by
    by_cases e : n = m + 1
    · rw [e]; exact Nat.le_refl _
    · have i := lpk_g (E := E) (b := b) (p := p) (n := n) m (by omega)
      show _ ≤ (lpk_ E b p m ++ _).length
      rw [List.length_append]; omega
theorem lpk_u {E b : Int → Int} {p c c2 : Int} (h0 : 0 ≤ c) (h1 : E c = p ∧ b c = -1) (h : c < c2) : (lpk_ E b p c.toNat).length < (lpk_ E b p c2.toNat).length := by
  have i := lpk_g (E := E) (b := b) (p := p) (n := (c + 1).toNat) c2.toNat (by omega)
  rw [lpk_t h0 h1, List.length_append, List.length_singleton] at i
  omega
theorem wl_a {T : Zt} {r : List Int} : ∀ {l : List Int} {k : Int}, WL_ T (l ++ r) k → WB_ T l k ∧ WL_ T r (k + (l.length : Int))
  | [], k, h => ⟨trivial, by rw [List.length_nil, show k + ((0 : Nat) : Int) = k by omega]; exact h⟩
  | x :: l, k, h => by
    have i := wl_a (r := r) h.2
    refine ⟨⟨h.1, i.1⟩, ?_⟩
    rw [List.length_cons, show k + ((l.length + 1 : Nat) : Int) = k + 1 + (l.length : Int) by omega]
    exact i.2
theorem wb_a {T : Zt} {r : List Int} : ∀ {l : List Int} {k : Int}, WB_ T (l ++ r) k → WB_ T l k ∧ WB_ T r (k + (l.length : Int))
  | [], k, h => ⟨trivial, by rw [List.length_nil, show k + ((0 : Nat) : Int) = k by omega]; exact h⟩
  | x :: l, k, h => by
    have i := wb_a (r := r) h.2
    refine ⟨⟨h.1, i.1⟩, ?_⟩
    rw [List.length_cons, show k + ((l.length + 1 : Nat) : Int) = k + 1 + (l.length : Int) by omega]
    exact i.2
theorem wb_i {T : Zt} : ∀ {l : List Int} {k i : Int}, WB_ T l k → 0 ≤ i → i < (l.length : Int) → T 432 0 (k + i) ∈ l
  | [], _, _, _, a, b => by rw [List.length_nil] at b; omega
  | x :: l, k, i, h, a, b => by
    by_cases z : i = 0
    · rw [z, show k + 0 = k by omega, h.1]; exact List.mem_cons_self
    · have q := wb_i (i := i - 1) h.2 (by omega) (by rw [List.length_cons] at b; omega)
      rw [show k + 1 + (i - 1) = k + i by omega] at q
      exact List.mem_cons_of_mem _ q
/-- the w-th of a pot stands behind w of them -/
theorem lpk_w {T : Zt} {E b : Int → Int} {p : Int} : ∀ n : Nat, WB_ T (lpk_ E b p n) 0 → ∀ w, 0 ≤ w → w < ((lpk_ E b p n).length : Int) → ((lpk_ E b p (T 432 0 w).toNat).length : Int) = w
  | 0, _, w, a, c => by
    have c2 : w < ((0 : Nat) : Int) := c
    omega
  | n + 1, h, w, a, c => by
    have h2 : WB_ T (lpk_ E b p n ++ (if E n = p ∧ b n = -1 then [((n : Nat) : Int)] else [])) 0 := h
    have c2 : w < ((lpk_ E b p n ++ (if E n = p ∧ b n = -1 then [((n : Nat) : Int)] else [])).length : Int) := c
    by_cases z : E n = p ∧ b n = -1
    · rw [if_pos z] at h2 c2
      obtain ⟨g1, g2⟩ := wb_a h2
      rw [List.length_append, List.length_singleton] at c2
      by_cases y : w = ((lpk_ E b p n).length : Int)
      · have e : T 432 0 w = ((n : Nat) : Int) := by
          have g3 := g2.1
          rw [show (0 : Int) + ((lpk_ E b p n).length : Int) = w by omega] at g3
          exact g3
        rw [e, show (((n : Nat) : Int)).toNat = n by omega]
        exact y.symm
      · exact lpk_w n g1 w a (by omega)
    · rw [if_neg z, List.append_nil] at h2 c2
      exact lpk_w n h2 w a c2
theorem cnz_m {f : Int → Int} {v : Int} {m : Nat} : ∀ n : Nat, m ≤ n → (∀ k : Int, 0 ≤ k → k < m → f k = v) → (∀ k : Int, m ≤ k → k < n → f k ≠ v) → cnz_ f v n = m
  | 0, h, _, _ => by rw [show m = 0 by omega]; rfl
  | n + 1, h, a, b => by
    by_cases e : m = n + 1
    · rw [e] at a ⊢
      exact cnz_a (n + 1) a
    · have i := cnz_m (f := f) (v := v) n (by omega) a (fun k p q => b k p (by omega))
      show cnz_ f v n + (if f n = v then (1 : Int) else 0) = _
      rw [i, if_neg (b n (by omega) (by omega)), Int.add_zero]
theorem lq_p {N : Nat} {E b : Int → Int} {p : Int} (hp : 0 ≤ p ∧ p ≤ 2) (hl : ∀ q, 0 ≤ q → q < p → lpk_ E b q N = []) : ∃ R, lq_ E b N 3 = lpk_ E b p N ++ R ∧ ∀ z ∈ R, E z ≠ p := by
  have e : lq_ E b N 3 = (([] ++ lpk_ E b 0 N) ++ lpk_ E b 1 N) ++ lpk_ E b 2 N := rfl
  rcases (by omega : p = 0 ∨ p = 1 ∨ p = 2) with z | z | z
  · subst z
    refine ⟨lpk_ E b 1 N ++ lpk_ E b 2 N, by rw [e, List.nil_append, List.append_assoc], fun x hx => ?_⟩
    rcases List.mem_append.mp hx with q | q
    · have := lpk_m q; omega
    · have := lpk_m q; omega
  · subst z
    refine ⟨lpk_ E b 2 N, by rw [e, hl 0 (by decide) (by decide), List.nil_append, List.nil_append], fun x hx => ?_⟩
    have := lpk_m hx; omega
  · subst z
    refine ⟨[], by rw [e, hl 0 (by decide) (by decide), hl 1 (by decide) (by decide), List.nil_append, List.nil_append, List.nil_append, List.append_nil], fun x hx => absurd hx List.not_mem_nil⟩
/-- the first pot that waits, how many are in it, and its w-th club -/
theorem who_n {N : Nat} {T : Zt} {E b : Int → Int} {p : Int} (hE : ∀ k, T 428 0 k = E k) (hw : WL_ T (lq_ E b N 3) 0) (hp : 0 ≤ p ∧ p ≤ 2) (hl : ∀ q, 0 ≤ q → q < p → lpk_ E b q N = []) (hn : 0 < (lpk_ E b p N).length) : T 428 0 (T 432 0 0) = p ∧ cpw_ T p (T 101 0 13).toNat = ((lpk_ E b p N).length : Int) ∧ ∀ w, 0 ≤ w → w < ((lpk_ E b p N).length : Int) → (0 ≤ T 432 0 w ∧ T 432 0 w < (N : Int) ∧ E (T 432 0 w) = p ∧ b (T 432 0 w) = -1) ∧ ((lpk_ E b p (T 432 0 w).toNat).length : Int) = w := by
  have wc := wl_c hw
  obtain ⟨R, e, hR⟩ := lq_p hp hl
  rw [e] at hw wc
  obtain ⟨g1, g2⟩ := wl_a hw
  rw [List.length_append] at wc
  have m1 : ∀ w, 0 ≤ w → w < ((lpk_ E b p N).length : Int) → T 432 0 w ∈ lpk_ E b p N := fun w a c => by
    have q := wb_i g1 a c
    rwa [show (0 : Int) + w = w by omega] at q
  refine ⟨?_, ?_, fun w a c => ⟨?_, lpk_w N g1 w a c⟩⟩
  · rw [hE]
    exact (lpk_m (m1 0 (by decide) (by omega))).2.2.1
  · refine cnz_m _ (by omega) (fun k a c => ?_) (fun k a c => ?_)
    · show T 428 0 (T 432 0 k) = p
      rw [hE]
      exact (lpk_m (m1 k a c)).2.2.1
    · show T 428 0 (T 432 0 k) ≠ p
      rw [hE]
      have q := wl_i (i := k - ((lpk_ E b p N).length : Int)) g2 (by omega) (by omega)
      rw [show (0 : Int) + ((lpk_ E b p N).length : Int) + (k - ((lpk_ E b p N).length : Int)) = k by omega] at q
      exact hR _ q
  · have q := lpk_m (m1 w a c)
    have q2 := q.2.1
    exact ⟨q.1, q2, q.2.2.1, q.2.2.2⟩
theorem who_ {T : Zt} {E b : Int → Int} {p : Int} (hE : ∀ k, T 428 0 k = E k) (hw : WL_ T (lq_ E b 12 3) 0) (hp : 0 ≤ p ∧ p ≤ 2) (hl : ∀ q, 0 ≤ q → q < p → lpk_ E b q 12 = []) (hn : 0 < (lpk_ E b p 12).length) : T 428 0 (T 432 0 0) = p ∧ cpw_ T p (T 101 0 13).toNat = ((lpk_ E b p 12).length : Int) ∧ ∀ w, 0 ≤ w → w < ((lpk_ E b p 12).length : Int) → (0 ≤ T 432 0 w ∧ T 432 0 w < 12 ∧ E (T 432 0 w) = p ∧ b (T 432 0 w) = -1) ∧ ((lpk_ E b p (T 432 0 w).toNat).length : Int) = w := who_n hE (hw :) hp hl hn
theorem swn_m {T : Zt} {c i : Int} (h : ∀ u, 0 ≤ u → u < 4 → 0 ≤ T 431 0 (c * 4 + u)) (h0 : 0 ≤ i) : ∀ n : Nat, i + n ≤ 4 → swn_ T c i.toNat ≤ swn_ T c (i + n).toNat
  | 0, _ => by rw [show i + ((0 : Nat) : Int) = i by omega]; exact Int.le_refl _
  | n + 1, q => by
    have y := swn_m h h0 n (by omega)
    have z := h (i + n) (by omega) (by omega)
    have s := swn_s (T := T) (c := c) (g := i + n) (by omega)
    rw [show i + ((n + 1 : Nat) : Int) = i + (n : Int) + 1 by omega]
    omega
theorem swn_g {T U : Zt} {c : Int} (e : ∀ u, 0 ≤ u → u < 4 → U 431 0 (c * 4 + u) = (nw_ (drw_ T) c u (ll_ T) (gf_ T) : Nat)) {g : Int} (hg : 0 ≤ g ∧ g ≤ 3) : swn_ U c g.toNat = sgm_ T c (g - 1) ∧ swn_ U c (g + 1).toNat = sgm_ T c g := by
  have s0 : swn_ U c (0 : Int).toNat = sgm_ T c (-1) := sgm_0.symm
  have s1 : swn_ U c (1 : Int).toNat = sgm_ T c 0 := by
    have a := swn_s (T := U) (c := c) (g := 0) (by decide)
    have b := sgm_s (T := T) (c := c) (g := -1) (by decide)
    rw [e 0 (by decide) (by decide)] at a
    exact a.trans (by rw [s0]; exact b.symm)
  have s2 : swn_ U c (2 : Int).toNat = sgm_ T c 1 := by
    have a := swn_s (T := U) (c := c) (g := 1) (by decide)
    have b := sgm_s (T := T) (c := c) (g := 0) (by decide)
    rw [e 1 (by decide) (by decide)] at a
    exact a.trans (by rw [s1]; exact b.symm)
  have s3 : swn_ U c (3 : Int).toNat = sgm_ T c 2 := by
    have a := swn_s (T := U) (c := c) (g := 2) (by decide)
    have b := sgm_s (T := T) (c := c) (g := 1) (by decide)
    rw [e 2 (by decide) (by decide)] at a
    exact a.trans (by rw [s2]; exact b.symm)
  have s4 : swn_ U c (4 : Int).toNat = sgm_ T c 3 := by
    have a := swn_s (T := U) (c := c) (g := 3) (by decide)
    have b := sgm_s (T := T) (c := c) (g := 2) (by decide)
    rw [e 3 (by decide) (by decide)] at a
    exact a.trans (by rw [s3]; exact b.symm)
  rcases (by omega : g = 0 ∨ g = 1 ∨ g = 2 ∨ g = 3) with z | z | z | z
  · subst z; exact ⟨s0, s1⟩
  · subst z; exact ⟨s1, s2⟩
  · subst z; exact ⟨s2, s3⟩
  · subst z; exact ⟨s3, s4⟩
/-- a ball, both sides -/
theorem lor_b {T T1 T2 : Zt} {s b x1 x2 : Int} (h : LOR_ T) (hn : T 108 0 2 = T 111 0 12) (hb : 0 ≤ T 108 0 2 ∧ T 108 0 2 ≤ 12) (hE : ∀ j, 0 ≤ j → -1 ≤ T 428 0 j ∧ T 428 0 j ≤ 2) (hC : ∀ j, 0 ≤ j → 0 ≤ T 561 0 j ∧ T 561 0 j ≤ 7) (hG : 0 ≤ T 101 0 1 ∧ T 101 0 1 ≤ 4) (th : THR_ T) (d1 : BLH_ T T1 s b x1) (f1 : fr_ [(101, [13, 6, 7, 5, 4]), (434, []), (435, []), (431, []), (432, []), (429, [])] T T1) (d2 : BLR_ T1 T2 s b x2) (f2 : fr_ [(304, []), (305, []), (302, []), (111, [103])] T1 T2) : x1 = x2 ∧ LOR_ T2 := by
  have d2 := blr_t (T := T) (fun k => f1 301 0 k rfl) (fun k => f1 302 0 k rfl) (fun k => f1 214 0 k rfl) (fun j => f1 111 0 j rfl) d2
  have k98 := h.1.2.2.2
  have alike := h.2.1
  -- who waits, on both sides
  have wait : T 101 0 1 ≠ 0 → (T 101 0 3 ≤ T 101 0 4 ↔ ∀ j, 0 ≤ j → j < T 111 0 12 → T 301 0 j ≠ -1 → T 302 0 j ≠ -1) := fun hg => by
    obtain ⟨q1, q2, q3, q4, q5, q6⟩ := h.2.2.resolve_left hg
    constructor
    · intro l j p q r z
      have a := alike j p (by omega)
      have y := cnz_s (f := fun k => T 428 0 k) (g := fun k => T 429 0 k) (v := -1) (w := -1) (j := j) p (by show T 428 0 j ≠ -1; omega) (by show T 429 0 j = -1; omega) 12 (by omega) (fun k u v w => q4 k u (by omega) w)
      omega
    · intro l
      have y := cnz_l (f := fun k => T 429 0 k) (g := fun k => T 428 0 k) (v := -1) (w := -1) 12 (fun k u v w => by
        show T 428 0 k = -1
        have w2 : T 429 0 k = -1 := w
        by_cases z : k < T 108 0 2
        · have a := alike k u (by omega)
          by_cases z2 : T 428 0 k = -1
          · exact z2
          · exact absurd (a.2.symm.trans w2) (l k u (by omega) (by omega))
        · exact q5 k (by omega) (by omega))
      omega
  rcases d1 with ⟨rfl, a1, a2⟩ | ⟨a1, Tr, a2, a3, a4⟩
  · rcases d2 with ⟨b1, b2, b3, b4⟩ | ⟨b1, b2, s0, p, c, g, b3, ⟨b4, j0, b5, b6, b7, b8⟩, b9⟩
    · exact ⟨by omega, lor_k h (kz_4 f2 b2 b3 (by decide +kernel))⟩
    · exfalso
      rcases a2 with a2 | a2
      · omega
      · exact (wait (by omega)).mp a2 j0 b5 b6 (by omega) b8
  · have hg : T 101 0 1 ≠ 0 := fun z => a1 (Or.inl z)
    have hlt : ¬ T 101 0 3 ≤ T 101 0 4 := fun z => a1 (Or.inr z)
    obtain ⟨r1, r2, r3⟩ := lor_r h hg a3 a2
    have hl := h.2.2.resolve_left hg
    have eN : ∀ fx gp, nw_ (dh_ Tr) fx gp (lhw_ Tr) (ghw_ Tr) = nw_ (drw_ T) fx gp (ll_ T) (gf_ T) := fun fx gp => by
      rw [dh_e (fun k => a3 428 0 k rfl) (fun k => a3 561 0 k rfl) (a3 101 0 1 rfl) (a3 101 0 2 rfl), lhw_e (fun k => a3 428 0 k rfl) (fun k => a3 429 0 k rfl), ghw_e (fun k => a3 429 0 k rfl)]
      exact lor_n h hl th hn hb fx gp
    have e6 : Tr 101 0 6 = BR0_ T := by
      rw [r3.1, eN]
      rfl
    rcases a4 with ⟨a4, a5, a6⟩ | ⟨a4, s0, n, Tp, u1, u2, u3, u4, u5, ⟨g, u6, u7, u8, u9, u10, u11, u12⟩, u13⟩
    · rcases d2 with ⟨b1, b2, b3, b4⟩ | ⟨b1, b2, b3⟩
      · refine ⟨by omega, ?_⟩
        rw [a6] at f2
        exact lor_k r1 (kz_4 f2 (fun k => (b2 k).trans (a3 302 0 k rfl).symm) (b3.trans (a3 111 0 103 rfl).symm) (by decide +kernel))
      · exfalso; omega
    · rcases d2 with ⟨b1, b2, b3, b4⟩ | ⟨b1, b2, s1, p, c, g2, b3, ⟨b4, j0, b5, b6, b7, b8⟩, b9, ⟨c1, c2, c3, c4, c5⟩, c6, ⟨c7, c8⟩, c9, c10, c11, c12⟩
      · exfalso
        rcases b4 with b4 | b4 | b4
        · omega
        · exact hlt ((wait hg).mpr b4)
        · omega
      · -- the same seed
        have es : s1 = s0 := by
          have z := h.1.2.2.1
          have z2 := a3 101 0 5 rfl
          omega
        subst es
        -- the same pot, as many, the same club
        have eE : ∀ k : Int, 0 ≤ k → k < 12 → (fun k => T 428 0 k) k = (fun k => T 301 0 k) k ∧ ghw_ T k = gf_ T k := fun k x y => alike k x y
        have lp : ∀ q n, n ≤ 12 → lpk_ (fun k => T 428 0 k) (ghw_ T) q n = lpk_ (fun k => T 301 0 k) (gf_ T) q n := fun q n hq => lpk_c n (fun k x y => eE k x (by omega))
        have hwl := r3.2.2
        rw [lhw_e (fun k => a3 428 0 k rfl) (fun k => a3 429 0 k rfl)] at hwl
        have low : ∀ q, 0 ≤ q → q < p → lpk_ (fun k => T 428 0 k) (ghw_ T) q 12 = [] := fun q x y => by
          cases e : lpk_ (fun k => T 428 0 k) (ghw_ T) q 12 with
          | nil => rfl
          | cons z l =>
            exfalso
            have m := lpk_m (show z ∈ lpk_ (fun k => T 428 0 k) (ghw_ T) q 12 by rw [e]; exact List.mem_cons_self)
            obtain ⟨m1, m2, m3, m4⟩ := m
            have m3 : T 428 0 z = q := m3
            have m4 : T 429 0 z = -1 := m4
            have al := alike z m1 (by omega)
            have zc : z < T 108 0 2 := Classical.byContradiction (fun w => by
              have := hl.2.2.2.2.1 z (by omega) (by omega)
              omega)
            have := b9 z m1 (by omega) (by omega) (by omega)
            omega
        have inp : 0 < (lpk_ (fun k => T 428 0 k) (ghw_ T) p 12).length := by
          have m : j0 ∈ lpk_ (fun k => T 428 0 k) (ghw_ T) p 12 := by
            have al := alike j0 b5 (by omega)
            exact lpk_i b5 (by show T 428 0 j0 = p; omega) (by show T 429 0 j0 = -1; omega) (by omega)
          exact List.length_pos_of_mem m
        obtain ⟨w1, w2, w3⟩ := who_ (T := Tr) (fun k => a3 428 0 k rfl) (hwl :) b4 low inp
        rw [w1] at u2
        have many : n = cel_ T p (T 111 0 12) := by
          rw [u2, w2, lp p 12 (by omega)]
          have y := lpk_x (E := fun k => T 301 0 k) (b := gf_ T) (p := p) (n := (T 111 0 12).toNat) 12 (fun k x y => by
            show T 301 0 k ≠ p
            have al := (alike k (by omega) (by omega)).1
            have := hl.2.2.2.2.1 k (by omega) (by omega)
            omega) (by omega)
          rw [y]
          exact (cen_l _).symm
        rw [← many] at c5 c7 c8 c9
        have wr := tb9_r (m := n) (s := s1) (by omega)
        have w4 := w3 (tb9_ n s1).1 wr.1 (by omega)
        obtain ⟨⟨v1, v2, v3, v4⟩, v5⟩ := w4
        have ec : c = Tr 432 0 (tb9_ n s1).1 := by
          have l1 : ((lpk_ (fun k => T 301 0 k) (gf_ T) p c.toNat).length : Int) = (tb9_ n s1).1 := by
            rw [← c5]
            exact (cen_l _).symm
          rw [lp p _ (by omega)] at v5
          have v3 : T 428 0 (Tr 432 0 (tb9_ n s1).1) = p := v3
          have v4 : T 429 0 (Tr 432 0 (tb9_ n s1).1) = -1 := v4
          have al := alike _ v1 v2
          rcases Int.lt_trichotomy c (Tr 432 0 (tb9_ n s1).1) with z | z | z
          · have y := lpk_u (E := fun k => T 301 0 k) (b := gf_ T) (p := p) c1 ⟨c3, c4⟩ z
            omega
          · exact z
          · have y := lpk_u (E := fun k => T 301 0 k) (b := gf_ T) (p := p) v1 ⟨by show T 301 0 _ = p; omega, by show T 302 0 _ = -1; omega⟩ z
            omega
        rw [← ec] at u7 u8 u9 u13
        -- the same group
        have t6 : Tp 101 0 6 = BR0_ T := (u4 101 0 6 rfl).trans e6
        rw [t6, u5] at u7 u12
        have hc : c ∈ lhw_ Tr := by
          rw [lhw_e (fun k => a3 428 0 k rfl) (fun k => a3 429 0 k rfl)]
          have al := alike c c1 (by omega)
          exact lhw_i c1 (by omega) (by omega) (by omega) (by omega)
        have ew : ∀ u, 0 ≤ u → u < 4 → Tp 431 0 (c * 4 + u) = (nw_ (drw_ T) c u (ll_ T) (gf_ T) : Nat) := fun u x y => by
          rw [u4 431 0 _ rfl, r3.2.1 c hc u x y, eN]
        have hg4 : Tp 101 0 1 ≤ 4 := by
          rw [u4 101 0 1 rfl, a3 101 0 1 rfl]; exact hG.2
        have gr1 := swn_g ew (g := g2) c6
        rw [← gr1.1] at c7
        rw [← gr1.2] at c8
        have nn : ∀ u, 0 ≤ u → u < 4 → 0 ≤ Tp 431 0 (c * 4 + u) := fun u x y => by rw [ew u x y]; omega
        have eg : g = g2 := by
          rcases Int.lt_trichotomy g g2 with z | z | z
          · exfalso
            have y := swn_m nn (i := g + 1) (by omega) (g2 - (g + 1)).toNat (by omega)
            rw [show g + 1 + (((g2 - (g + 1)).toNat : Nat) : Int) = g2 by omega] at y
            omega
          · exact z
          · exfalso
            have y := swn_m nn (i := g2 + 1) (by omega) (g - (g2 + 1)).toNat (by omega)
            rw [show g2 + 1 + (((g - (g2 + 1)).toNat : Nat) : Int) = g by omega] at y
            omega
        subst eg
        obtain ⟨q1, q2, q3, q4, q5, q6⟩ := hl
        have al := alike c c1 (by omega)
        have t1 := (f2 101 0 1 rfl).trans (f1 101 0 1 rfl)
        have t2 := (f2 101 0 2 rfl).trans (f1 101 0 2 rfl)
        have t5 := f2 101 0 5 rfl
        have k98b := (f2 111 0 98 rfl).trans (f1 111 0 98 rfl)
        have k99 := (f2 111 0 99 rfl).trans (f1 111 0 99 rfl)
        have k100 := (f2 111 0 100 rfl).trans (f1 111 0 100 rfl)
        have h1 := h.1.1
        have h2 := h.1.2.1
        have u9 : ∀ j, j ≠ c → T1 429 0 j = T 429 0 j := fun j hj => (u9 j hj).trans ((u4 429 0 j rfl).trans (a3 429 0 j rfl))
        have u10 : T1 101 0 4 = T 101 0 4 + 1 := by rw [u10, u4 101 0 4 rfl, a3 101 0 4 rfl]
        refine ⟨by omega, ⟨by omega, by omega, by omega, by omega⟩, fun j x y => ?_, Or.inr ⟨?_, ?_, fun q x y => ?_, fun j x y z => ?_, fun j x y => ?_, Or.inl ?_⟩⟩
        · rw [f2 428 0 j rfl, f1 428 0 j rfl, f2 429 0 j rfl, f2 301 0 j rfl, f1 301 0 j rfl]
          refine ⟨(alike j x y).1, ?_⟩
          by_cases z : j = c
          · rw [z, u8, c10]
          · rw [u9 j z, c11 j z]; exact (alike j x y).2
        · rw [f2 101 0 3 rfl, f1 101 0 3 rfl, show (fun j => T2 428 0 j) = (fun j => T 428 0 j) from funext (fun j => (f2 428 0 j rfl).trans (f1 428 0 j rfl))]
          exact q1
        · have y := cnz_u (f := fun j => T 429 0 j) (g := fun j => T1 429 0 j) (v := -1) (x := c) c1 u9 12 (by omega)
          have y2 : cnz_ (fun j => T2 429 0 j) (-1) 12 = cnz_ (fun j => T1 429 0 j) (-1) 12 := cnz_e 12 (fun j _ _ => f2 429 0 j rfl)
          have y3 : T 429 0 c = -1 := by omega
          have y4 : ¬ T1 429 0 c = -1 := by omega
          rw [if_pos y3, if_neg y4] at y
          rw [y2, y, f2 101 0 4 rfl]
          omega
        · rw [f2 430 0 q rfl, f1 430 0 q rfl, t1, show (fun j => T2 428 0 j) = (fun j => T 428 0 j) from funext (fun j => (f2 428 0 j rfl).trans (f1 428 0 j rfl))]
          exact q3 q x y
        · rw [f2 428 0 j rfl, f1 428 0 j rfl] at z
          rw [f2 429 0 j rfl, u9 j (fun w => by rw [w] at z; omega)]
          exact q4 j x y z
        · rw [f2 108 0 2 rfl, f1 108 0 2 rfl] at x
          rw [f2 428 0 j rfl, f1 428 0 j rfl]
          exact q5 j x y
        · rw [f2 101 0 7 rfl]; exact u11
