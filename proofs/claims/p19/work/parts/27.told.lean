def SC_ (T : Zt) : Prop := ∀ m : Int, 0 ≤ m → m < 400 → (0 ≤ T 236 0 m ∧ T 236 0 m ≤ 20000) ∧ (0 ≤ T 237 0 m ∧ T 237 0 m ≤ 20000)
theorem SC__f {ws : List (Nat × List Int)} {T T' : Zt} (h : SC_ T) (f : fr_ ws T T') (w : (∀ j, fw_ ws 236 j = false) ∧ (∀ j, fw_ ws 237 j = false) ∧ True) : SC_ T' := by
  have e0 : ∀ i j, T' 236 i j = T 236 i j := fun i j => f 236 i j (w.1 j)
  have e1 : ∀ i j, T' 237 i j = T 237 i j := fun i j => f 237 i j (w.2.1 j)
  simp only [SC_, e0, e1] at h ⊢
  exact h
def YB_ (T : Zt) : Prop := ∀ j : Int, 0 ≤ j → j < 8000 → 0 ≤ T 242 0 j ∧ T 242 0 j ≤ 3010
theorem YB__f {ws : List (Nat × List Int)} {T T' : Zt} (h : YB_ T) (f : fr_ ws T T') (w : (∀ j, fw_ ws 242 j = false) ∧ True) : YB_ T' := by
  have e0 : ∀ i j, T' 242 i j = T 242 i j := fun i j => f 242 i j (w.1 j)
  simp only [YB_, e0] at h ⊢
  exact h
theorem sc_g {T : Zt} (h : GX_ T (-1)) (r : ∀ m, 0 ≤ m → m < 400 → T 254 0 m ≤ 3000) : SC_ T := fun m a b => by
  have k := h m a b (by omega)
  have q := r m a b
  have k1 := k.1
  have k2 := k.2.1
  omega
theorem yb_g {T : Zt} (h : GX_ T (-1)) (r : ∀ m, 0 ≤ m → m < 400 → T 254 0 m ≤ 3000) : YB_ T := fun j a b => by
  have k := (h (j / 20) (by omega) (by omega) (by omega)).2.2 j (by omega) (by omega)
  have q := r (j / 20) (by omega) (by omega)
  omega
def TB_ (T : Zt) (b : Int) : Prop := ∀ j, 0 ≤ j → j < 108 → -b ≤ T 276 0 j ∧ T 276 0 j ≤ b ∧ (j % 9 = 6 → -b ≤ 20 * T 276 0 j ∧ 20 * T 276 0 j ≤ b)
theorem tb_u {T T1 : Zt} {b i v d : Int} (h : TB_ T b) (e : T1 = up_ T 276 0 i v) (hd : 0 ≤ d) (hv : -(b + d) ≤ v ∧ v ≤ b + d ∧ (i % 9 = 6 → -(b + d) ≤ 20 * v ∧ 20 * v ≤ b + d)) : TB_ T1 (b + d) := fun j a c => by
  by_cases z : j = i
  · rw [z, up_f e]; exact hv
  · rw [up_g e (fun q => z q.2.2)]
    have := h j a c
    omega
theorem tb_f {T T1 : Zt} {b : Int} (h : TB_ T b) (e : ∀ j, T1 276 0 j = T 276 0 j) : TB_ T1 b := fun j a c => by rw [e]; exact h j a c
theorem tb_m {T : Zt} {b d : Int} (h : TB_ T b) (e : b ≤ d) : TB_ T d := fun j a c => by
  have := h j a c
  omega
def SA_ (T : Zt) (b : Int) : Prop := ∀ j, 0 ≤ j → j < 36 → -b ≤ T 284 0 j ∧ T 284 0 j ≤ b
theorem sa_u {T T1 : Zt} {b i v d : Int} (h : SA_ T b) (e : T1 = up_ T 284 0 i v) (hd : 0 ≤ d) (hv : -(b + d) ≤ v ∧ v ≤ b + d) : SA_ T1 (b + d) := fun j a c => by
  by_cases z : j = i
  · rw [z, up_f e]; exact hv
  · rw [up_g e (fun q => z q.2.2)]
    have := h j a c
    omega
theorem sa_f {T T1 : Zt} {b : Int} (h : SA_ T b) (e : ∀ j, T1 284 0 j = T 284 0 j) : SA_ T1 b := fun j a c => by rw [e]; exact h j a c
theorem sa_m {T : Zt} {b d : Int} (h : SA_ T b) (e : b ≤ d) : SA_ T d := fun j a c => by
  have := h j a c
  omega
abbrev cX11_counts : ByteArray := prog_13_method_81_code
def yX11_counts : MethodName := ⟨RX11, "counts", "(II)Z"⟩
def zX11_counts : Zm := (RX11, cX11_counts, 3, (some .boolean), { frames := 0, cells := 0, slots := 0, locals := 0 })
theorem bk_X11_counts_0 : ck_ fX11 (some .boolean) cX11_counts 0 [.aload 0, .tableswitch 0 11 35 #[], .iload 1, .iaload, .iconst 2, .if_icmp .eq 20, .aload 0, .tableswitch 0 11 35 #[], .iload 1, .iaload, .iconst 3, .if_icmp .ne 56, .aload 0, .aload 0, .tableswitch 0 11 36 #[], .iload 1, .iaload, .tableswitch 1 11 82 #[], .aload 0, .aload 0, .tableswitch 0 11 37 #[], .iload 1, .iaload, .tableswitch 1 11 83 #[], .aload 0, .tableswitch 0 11 34 #[], .iload 1, .iaload, .iload 2, .if_icmp .gt 54, .iconst 1, .goto 55] 54 = true := qck_r (nn_ _) (by decide +kernel)
theorem bs_X11_counts_0 {P : Zt → Option Zv → Prop} (K : Int → Zl → List Zv → Zt → Prop) : sx_ K P [.aload 0, .tableswitch 0 11 35 #[], .iload 1, .iaload, .iconst 2, .if_icmp .eq 20, .aload 0, .tableswitch 0 11 35 #[], .iload 1, .iaload, .iconst 3, .if_icmp .ne 56, .aload 0, .aload 0, .tableswitch 0 11 36 #[], .iload 1, .iaload, .tableswitch 1 11 82 #[], .aload 0, .aload 0, .tableswitch 0 11 37 #[], .iload 1, .iaload, .tableswitch 1 11 83 #[], .aload 0, .tableswitch 0 11 34 #[], .iload 1, .iaload, .iload 2, .if_icmp .gt 54, .iconst 1, .goto 55] 54 = x_aload 0 (x_g1 111 235 (x_iload 1 (x_iaload (x_iconst 2 (x_if_icmp .eq 20 K (x_aload 0 (x_g1 111 235 (x_iload 1 (x_iaload (x_iconst 3 (x_if_icmp .ne 56 K (x_aload 0 (x_aload 0 (x_g1 111 236 (x_iload 1 (x_iaload (x_p 111 82 (-2147483648) 2147483647 (x_aload 0 (x_aload 0 (x_g1 111 237 (x_iload 1 (x_iaload (x_p 111 83 (-2147483648) 2147483647 (x_aload 0 (x_g1 111 234 (x_iload 1 (x_iaload (x_iload 2 (x_if_icmp .gt 54 K (x_iconst 1 (x_goto 55 K))))))))))))))))))))))))))))))) := ((xe_aload 0).trans (congrArg (x_aload 0) ((xe_g1 (kk := 111) rfl tl_11_35).trans (congrArg (x_g1 111 235) ((xe_iload 1).trans (congrArg (x_iload 1) ((xe_iaload).trans (congrArg (x_iaload) ((xe_iconst 2).trans (congrArg (x_iconst 2) ((xe_if_icmp .eq 20).trans (congrArg (x_if_icmp .eq 20 K) ((xe_aload 0).trans (congrArg (x_aload 0) ((xe_g1 (kk := 111) rfl tl_11_35).trans (congrArg (x_g1 111 235) ((xe_iload 1).trans (congrArg (x_iload 1) ((xe_iaload).trans (congrArg (x_iaload) ((xe_iconst 3).trans (congrArg (x_iconst 3) ((xe_if_icmp .ne 56).trans (congrArg (x_if_icmp .ne 56 K) ((xe_aload 0).trans (congrArg (x_aload 0) ((xe_aload 0).trans (congrArg (x_aload 0) ((xe_g1 (kk := 111) rfl tl_11_36).trans (congrArg (x_g1 111 236) ((xe_iload 1).trans (congrArg (x_iload 1) ((xe_iaload).trans (congrArg (x_iaload) ((xe_p (kk := 111) rfl tl_11_82).trans (congrArg (x_p 111 82 (-2147483648) 2147483647) ((xe_aload 0).trans (congrArg (x_aload 0) ((xe_aload 0).trans (congrArg (x_aload 0) ((xe_g1 (kk := 111) rfl tl_11_37).trans (congrArg (x_g1 111 237) ((xe_iload 1).trans (congrArg (x_iload 1) ((xe_iaload).trans (congrArg (x_iaload) ((xe_p (kk := 111) rfl tl_11_83).trans (congrArg (x_p 111 83 (-2147483648) 2147483647) ((xe_aload 0).trans (congrArg (x_aload 0) ((xe_g1 (kk := 111) rfl tl_11_34).trans (congrArg (x_g1 111 234) ((xe_iload 1).trans (congrArg (x_iload 1) ((xe_iaload).trans (congrArg (x_iaload) ((xe_iload 2).trans (congrArg (x_iload 2) ((xe_if_icmp .gt 54).trans (congrArg (x_if_icmp .gt 54 K) ((xe_iconst 1).trans (congrArg (x_iconst 1) (xe_goto 55)))))))))))))))))))))))))))))))))))))))))))))))))))))))))))))))
theorem bk_X11_counts_20 : ck_ fX11 (some .boolean) cX11_counts 20 [.aload 0, .aload 0, .tableswitch 0 11 36 #[], .iload 1, .iaload, .tableswitch 1 11 82 #[], .aload 0, .aload 0, .tableswitch 0 11 37 #[], .iload 1, .iaload, .tableswitch 1 11 83 #[], .aload 0, .tableswitch 0 11 34 #[], .iload 1, .iaload, .iload 2, .if_icmp .gt 54, .iconst 1, .goto 55] 54 = true := qck_r (nn_ _) (by decide +kernel)
theorem bs_X11_counts_20 {P : Zt → Option Zv → Prop} (K : Int → Zl → List Zv → Zt → Prop) : sx_ K P [.aload 0, .aload 0, .tableswitch 0 11 36 #[], .iload 1, .iaload, .tableswitch 1 11 82 #[], .aload 0, .aload 0, .tableswitch 0 11 37 #[], .iload 1, .iaload, .tableswitch 1 11 83 #[], .aload 0, .tableswitch 0 11 34 #[], .iload 1, .iaload, .iload 2, .if_icmp .gt 54, .iconst 1, .goto 55] 54 = x_aload 0 (x_aload 0 (x_g1 111 236 (x_iload 1 (x_iaload (x_p 111 82 (-2147483648) 2147483647 (x_aload 0 (x_aload 0 (x_g1 111 237 (x_iload 1 (x_iaload (x_p 111 83 (-2147483648) 2147483647 (x_aload 0 (x_g1 111 234 (x_iload 1 (x_iaload (x_iload 2 (x_if_icmp .gt 54 K (x_iconst 1 (x_goto 55 K))))))))))))))))))) := ((xe_aload 0).trans (congrArg (x_aload 0) ((xe_aload 0).trans (congrArg (x_aload 0) ((xe_g1 (kk := 111) rfl tl_11_36).trans (congrArg (x_g1 111 236) ((xe_iload 1).trans (congrArg (x_iload 1) ((xe_iaload).trans (congrArg (x_iaload) ((xe_p (kk := 111) rfl tl_11_82).trans (congrArg (x_p 111 82 (-2147483648) 2147483647) ((xe_aload 0).trans (congrArg (x_aload 0) ((xe_aload 0).trans (congrArg (x_aload 0) ((xe_g1 (kk := 111) rfl tl_11_37).trans (congrArg (x_g1 111 237) ((xe_iload 1).trans (congrArg (x_iload 1) ((xe_iaload).trans (congrArg (x_iaload) ((xe_p (kk := 111) rfl tl_11_83).trans (congrArg (x_p 111 83 (-2147483648) 2147483647) ((xe_aload 0).trans (congrArg (x_aload 0) ((xe_g1 (kk := 111) rfl tl_11_34).trans (congrArg (x_g1 111 234) ((xe_iload 1).trans (congrArg (x_iload 1) ((xe_iaload).trans (congrArg (x_iaload) ((xe_iload 2).trans (congrArg (x_iload 2) ((xe_if_icmp .gt 54).trans (congrArg (x_if_icmp .gt 54 K) ((xe_iconst 1).trans (congrArg (x_iconst 1) (xe_goto 55)))))))))))))))))))))))))))))))))))))))
theorem bk_X11_counts_54 : ck_ fX11 (some .boolean) cX11_counts 54 [.iconst 0, .ireturn] 56 = true := qck_r (nn_ _) (by decide +kernel)
theorem bs_X11_counts_54 {P : Zt → Option Zv → Prop} (K : Int → Zl → List Zv → Zt → Prop) : sx_ K P [.iconst 0, .ireturn] 56 = x_iconst 0 (x_ireturn P) := ((xe_iconst 0).trans (congrArg (x_iconst 0) (xe_ireturn)))
theorem bk_X11_counts_55 : ck_ fX11 (some .boolean) cX11_counts 55 [.ireturn] 56 = true := qck_r (nn_ _) (by decide +kernel)
theorem bs_X11_counts_55 {P : Zt → Option Zv → Prop} (K : Int → Zl → List Zv → Zt → Prop) : sx_ K P [.ireturn] 56 = x_ireturn P := (xe_ireturn)
theorem bk_X11_counts_56 : ck_ fX11 (some .boolean) cX11_counts 56 [.aload 0, .tableswitch 0 11 80 #[], .ifCond .eq 102, .aload 0, .aload 0, .tableswitch 0 11 81 #[], .iload 1, .iaload, .ifCond .ne 77, .iconst 1, .goto 78] 77 = true := qck_r (nn_ _) (by decide +kernel)
theorem bs_X11_counts_56 {P : Zt → Option Zv → Prop} (K : Int → Zl → List Zv → Zt → Prop) : sx_ K P [.aload 0, .tableswitch 0 11 80 #[], .ifCond .eq 102, .aload 0, .aload 0, .tableswitch 0 11 81 #[], .iload 1, .iaload, .ifCond .ne 77, .iconst 1, .goto 78] 77 = x_aload 0 (x_g0 111 80 0 1 (x_ifCond .eq 102 K (x_aload 0 (x_aload 0 (x_g1 111 281 (x_iload 1 (x_iaload (x_ifCond .ne 77 K (x_iconst 1 (x_goto 78 K)))))))))) := ((xe_aload 0).trans (congrArg (x_aload 0) ((xe_g0 (kk := 111) rfl tl_11_80).trans (congrArg (x_g0 111 80 0 1) ((xe_ifCond .eq 102).trans (congrArg (x_ifCond .eq 102 K) ((xe_aload 0).trans (congrArg (x_aload 0) ((xe_aload 0).trans (congrArg (x_aload 0) ((xe_g1 (kk := 111) rfl tl_11_81).trans (congrArg (x_g1 111 281) ((xe_iload 1).trans (congrArg (x_iload 1) ((xe_iaload).trans (congrArg (x_iaload) ((xe_ifCond .ne 77).trans (congrArg (x_ifCond .ne 77 K) ((xe_iconst 1).trans (congrArg (x_iconst 1) (xe_goto 78)))))))))))))))))))))
theorem bk_X11_counts_102 : ck_ fX11 (some .boolean) cX11_counts 102 [.iconst 0, .ireturn] 104 = true := qck_r (nn_ _) (by decide +kernel)
theorem bs_X11_counts_102 {P : Zt → Option Zv → Prop} (K : Int → Zl → List Zv → Zt → Prop) : sx_ K P [.iconst 0, .ireturn] 104 = x_iconst 0 (x_ireturn P) := ((xe_iconst 0).trans (congrArg (x_iconst 0) (xe_ireturn)))
theorem bk_X11_counts_77 : ck_ fX11 (some .boolean) cX11_counts 77 [.iconst 0, .tableswitch 1 11 82 #[], .aload 0, .aload 0, .tableswitch 0 11 81 #[], .iload 1, .iaload, .iconst 2, .if_icmp .ne 96, .iconst 1, .goto 97] 96 = true := qck_r (nn_ _) (by decide +kernel)
theorem bs_X11_counts_77 {P : Zt → Option Zv → Prop} (K : Int → Zl → List Zv → Zt → Prop) : sx_ K P [.iconst 0, .tableswitch 1 11 82 #[], .aload 0, .aload 0, .tableswitch 0 11 81 #[], .iload 1, .iaload, .iconst 2, .if_icmp .ne 96, .iconst 1, .goto 97] 96 = x_iconst 0 (x_p 111 82 (-2147483648) 2147483647 (x_aload 0 (x_aload 0 (x_g1 111 281 (x_iload 1 (x_iaload (x_iconst 2 (x_if_icmp .ne 96 K (x_iconst 1 (x_goto 97 K)))))))))) := ((xe_iconst 0).trans (congrArg (x_iconst 0) ((xe_p (kk := 111) rfl tl_11_82).trans (congrArg (x_p 111 82 (-2147483648) 2147483647) ((xe_aload 0).trans (congrArg (x_aload 0) ((xe_aload 0).trans (congrArg (x_aload 0) ((xe_g1 (kk := 111) rfl tl_11_81).trans (congrArg (x_g1 111 281) ((xe_iload 1).trans (congrArg (x_iload 1) ((xe_iaload).trans (congrArg (x_iaload) ((xe_iconst 2).trans (congrArg (x_iconst 2) ((xe_if_icmp .ne 96).trans (congrArg (x_if_icmp .ne 96 K) ((xe_iconst 1).trans (congrArg (x_iconst 1) (xe_goto 97)))))))))))))))))))))
theorem bk_X11_counts_96 : ck_ fX11 (some .boolean) cX11_counts 96 [.iconst 0, .tableswitch 1 11 83 #[], .iconst 1, .ireturn] 102 = true := qck_r (nn_ _) (by decide +kernel)
theorem bs_X11_counts_96 {P : Zt → Option Zv → Prop} (K : Int → Zl → List Zv → Zt → Prop) : sx_ K P [.iconst 0, .tableswitch 1 11 83 #[], .iconst 1, .ireturn] 102 = x_iconst 0 (x_p 111 83 (-2147483648) 2147483647 (x_iconst 1 (x_ireturn P))) := ((xe_iconst 0).trans (congrArg (x_iconst 0) ((xe_p (kk := 111) rfl tl_11_83).trans (congrArg (x_p 111 83 (-2147483648) 2147483647) ((xe_iconst 1).trans (congrArg (x_iconst 1) (xe_ireturn)))))))
theorem bk_X11_counts_97 : ck_ fX11 (some .boolean) cX11_counts 97 [.tableswitch 1 11 83 #[], .iconst 1, .ireturn] 102 = true := qck_r (nn_ _) (by decide +kernel)
theorem bs_X11_counts_97 {P : Zt → Option Zv → Prop} (K : Int → Zl → List Zv → Zt → Prop) : sx_ K P [.tableswitch 1 11 83 #[], .iconst 1, .ireturn] 102 = x_p 111 83 (-2147483648) 2147483647 (x_iconst 1 (x_ireturn P)) := ((xe_p (kk := 111) rfl tl_11_83).trans (congrArg (x_p 111 83 (-2147483648) 2147483647) ((xe_iconst 1).trans (congrArg (x_iconst 1) (xe_ireturn)))))
theorem bk_X11_counts_78 : ck_ fX11 (some .boolean) cX11_counts 78 [.tableswitch 1 11 82 #[], .aload 0, .aload 0, .tableswitch 0 11 81 #[], .iload 1, .iaload, .iconst 2, .if_icmp .ne 96, .iconst 1, .goto 97] 96 = true := qck_r (nn_ _) (by decide +kernel)
theorem bs_X11_counts_78 {P : Zt → Option Zv → Prop} (K : Int → Zl → List Zv → Zt → Prop) : sx_ K P [.tableswitch 1 11 82 #[], .aload 0, .aload 0, .tableswitch 0 11 81 #[], .iload 1, .iaload, .iconst 2, .if_icmp .ne 96, .iconst 1, .goto 97] 96 = x_p 111 82 (-2147483648) 2147483647 (x_aload 0 (x_aload 0 (x_g1 111 281 (x_iload 1 (x_iaload (x_iconst 2 (x_if_icmp .ne 96 K (x_iconst 1 (x_goto 97 K))))))))) := ((xe_p (kk := 111) rfl tl_11_82).trans (congrArg (x_p 111 82 (-2147483648) 2147483647) ((xe_aload 0).trans (congrArg (x_aload 0) ((xe_aload 0).trans (congrArg (x_aload 0) ((xe_g1 (kk := 111) rfl tl_11_81).trans (congrArg (x_g1 111 281) ((xe_iload 1).trans (congrArg (x_iload 1) ((xe_iaload).trans (congrArg (x_iaload) ((xe_iconst 2).trans (congrArg (x_iconst 2) ((xe_if_icmp .ne 96).trans (congrArg (x_if_icmp .ne 96 K) ((xe_iconst 1).trans (congrArg (x_iconst 1) (xe_goto 97)))))))))))))))))))
abbrev po_X11_counts (T : Zt) (m d : Int) : Zt → Option Zv → Prop := fun T' r => ∃ x : Int, r = some (vI x) ∧ fr_ [(111, [82, 83])] T T' ∧ ((0 ≤ x ∧ x ≤ 1) ∧ (x = 1 → (0 ≤ T' 111 0 82 ∧ T' 111 0 82 ≤ 20000) ∧ (0 ≤ T' 111 0 83 ∧ T' 111 0 83 ≤ 20000)))
set_option maxHeartbeats 4000000 in
theorem ct_X11_counts {T : Zt} {m d : Int} (h1 : 0 ≤ m ∧ m < 400) (hsc : SC_ T) : Ct_ yX11_counts zX11_counts T [vR 111 0, vI m, vI d] (po_X11_counts T m d) := by
  refine ct_of pn_11 rfl rfl (Nat.le_of_ble_eq_true rfl) (fun hT hav => ?_)
  have hr_m : -2147483648 ≤ m ∧ m ≤ 2147483647 := hav (vI m) (List.mem_cons_of_mem _ List.mem_cons_self)
  have hr_d : -2147483648 ≤ d ∧ d ≤ 2147483647 := hav (vI d) (List.mem_cons_of_mem _ (List.mem_cons_of_mem _ List.mem_cons_self))
  have hz : zX11_counts.2.2.2.1 = some .boolean → ∀ (T' : Zt) (x : Int), po_X11_counts T m d T' (some (vI x)) → 0 ≤ x ∧ x ≤ 1 := fun _ T' x h => by obtain ⟨y, e, -, hy⟩ := h; cases e; omega
  have hsm := hsc m (by omega) (by omega)
  show J_ zX11_counts T (po_X11_counts T m d) 0 0 0 [some (vR 111 0), some (vI m), some (vI d)] [] T
  refine j_blx (F := fX11) tb_X11 (nn_ _) bk_X11_counts_0 bs_X11_counts_0 hz (fun K hK => ?_)
  refine ix_i (by omega) ?_
  intro b1 b1b
  refine And.intro (fun c2 => ?_) (fun c2 => ?_)
  · refine hK 20 _ [] T ?_
    refine j_blx (F := fX11) tb_X11 (nn_ _) bk_X11_counts_20 bs_X11_counts_20 hz (fun K hK => ?_)
    refine ix_i (by omega) ?_
    intro b3 b3b
    refine bd_i (by omega) ?_
    refine x_nm (fun U4 hU4 => ?_)
    have e5 := up_f hU4
    refine ix_i (by omega) ?_
    intro b6 b6b
    have e7 : U4 237 0 m = T 237 0 m := up_k hU4 (by exact Nat.ne_of_beq_eq_false rfl) 0 m
    rw [e7] at b6 b6b ⊢
    refine bd_i (by omega) ?_
    refine x_nm (fun U8 hU8 => ?_)
    have e9 := up_f hU8
    refine ix_i (by omega) ?_
    intro b10 b10b
    have e11 : U8 234 0 m = T 234 0 m := (up_k hU8 (by exact Nat.ne_of_beq_eq_false rfl) 0 m).trans (up_k hU4 (by exact Nat.ne_of_beq_eq_false rfl) 0 m)
    rw [e11] at b10 b10b ⊢
    refine And.intro (fun c12 => ?_) (fun c12 => ?_)
    · refine hK 54 _ [] U8 ?_
      refine j_blx (F := fX11) tb_X11 (nn_ _) bk_X11_counts_54 bs_X11_counts_54 hz (fun K hK => ?_)
      refine (show po_X11_counts T m d U8 (some (vI 0)) from ?_)
      have e13 : U8 111 0 82 = T 236 0 m := (up_j hU8 (by exact ni_ rfl) 111 0).trans (up_f hU4)
      have e14 : U8 111 0 83 = T 237 0 m := up_f hU8
      exact ⟨_, rfl, fr_u (fr_u (fr_0 _ _) hU4 rfl) hU8 rfl, by omega, fun z => absurd z (by decide)⟩
    · refine hK 55 _ [vI 1] U8 ?_
      refine j_blx (F := fX11) tb_X11 (nn_ _) bk_X11_counts_55 bs_X11_counts_55 hz (fun K hK => ?_)
      refine (show po_X11_counts T m d U8 (some (vI 1)) from ?_)
      have e15 : U8 111 0 82 = T 236 0 m := (up_j hU8 (by exact ni_ rfl) 111 0).trans (up_f hU4)
      have e16 : U8 111 0 83 = T 237 0 m := up_f hU8
      exact ⟨_, rfl, fr_u (fr_u (fr_0 _ _) hU4 rfl) hU8 rfl, by omega, fun _ => by omega⟩
  · refine ix_i (by omega) ?_
    intro b17 b17b
    refine And.intro (fun c18 => ?_) (fun c18 => ?_)
    · refine hK 56 _ [] T ?_
      refine j_blx (F := fX11) tb_X11 (nn_ _) bk_X11_counts_56 bs_X11_counts_56 hz (fun K hK => ?_)
      intro b19 b19b
      refine And.intro (fun c20 => ?_) (fun c20 => ?_)
      · refine hK 102 _ [] T ?_
        refine j_blx (F := fX11) tb_X11 (nn_ _) bk_X11_counts_102 bs_X11_counts_102 hz (fun K hK => ?_)
        refine (show po_X11_counts T m d T (some (vI 0)) from ?_)
        exact ⟨_, rfl, fr_0 _ _, by omega, fun z => absurd z (by decide)⟩
      · refine ix_i (by omega) ?_
        intro b21 b21b
        refine And.intro (fun c22 => ?_) (fun c22 => ?_)
        · refine hK 77 _ [vR 111 0] T ?_
          refine j_blx (F := fX11) tb_X11 (nn_ _) bk_X11_counts_77 bs_X11_counts_77 hz (fun K hK => ?_)
          refine bd_i (by omega) ?_
          refine x_nm (fun U23 hU23 => ?_)
          have e24 := up_f hU23
          refine ix_i (by omega) ?_
          intro b25 b25b
          have e26 : U23 281 0 m = T 281 0 m := up_k hU23 (by exact Nat.ne_of_beq_eq_false rfl) 0 m
          rw [e26] at b25 b25b ⊢
          refine And.intro (fun c27 => ?_) (fun c27 => ?_)
          · refine hK 96 _ [vR 111 0] U23 ?_
            refine j_blx (F := fX11) tb_X11 (nn_ _) bk_X11_counts_96 bs_X11_counts_96 hz (fun K hK => ?_)
            refine bd_i (by omega) ?_
            refine x_nm (fun U28 hU28 => ?_)
            have e29 := up_f hU28
            refine (show po_X11_counts T m d U28 (some (vI 1)) from ?_)
            have e30 : U28 111 0 82 = 0 := (up_j hU28 (by exact ni_ rfl) 111 0).trans (up_f hU23)
            have e31 : U28 111 0 83 = 0 := up_f hU28
            exact ⟨_, rfl, fr_u (fr_u (fr_0 _ _) hU23 rfl) hU28 rfl, by omega, fun _ => by omega⟩
          · refine hK 97 _ [vI 1, vR 111 0] U23 ?_
            refine j_blx (F := fX11) tb_X11 (nn_ _) bk_X11_counts_97 bs_X11_counts_97 hz (fun K hK => ?_)
            refine bd_i (by omega) ?_
            refine x_nm (fun U32 hU32 => ?_)
            have e33 := up_f hU32
            refine (show po_X11_counts T m d U32 (some (vI 1)) from ?_)
            have e34 : U32 111 0 82 = 0 := (up_j hU32 (by exact ni_ rfl) 111 0).trans (up_f hU23)
            have e35 : U32 111 0 83 = 1 := up_f hU32
            exact ⟨_, rfl, fr_u (fr_u (fr_0 _ _) hU23 rfl) hU32 rfl, by omega, fun _ => by omega⟩
        · refine hK 78 _ [vI 1, vR 111 0] T ?_
          refine j_blx (F := fX11) tb_X11 (nn_ _) bk_X11_counts_78 bs_X11_counts_78 hz (fun K hK => ?_)
          refine bd_i (by omega) ?_
          refine x_nm (fun U36 hU36 => ?_)
          have e37 := up_f hU36
          refine ix_i (by omega) ?_
          intro b38 b38b
          have e39 : U36 281 0 m = T 281 0 m := up_k hU36 (by exact Nat.ne_of_beq_eq_false rfl) 0 m
          rw [e39] at b38 b38b ⊢
          refine And.intro (fun c40 => ?_) (fun c40 => ?_)
          · refine hK 96 _ [vR 111 0] U36 ?_
            refine j_blx (F := fX11) tb_X11 (nn_ _) bk_X11_counts_96 bs_X11_counts_96 hz (fun K hK => ?_)
            refine bd_i (by omega) ?_
            refine x_nm (fun U41 hU41 => ?_)
            have e42 := up_f hU41
            refine (show po_X11_counts T m d U41 (some (vI 1)) from ?_)
            have e43 : U41 111 0 82 = 1 := (up_j hU41 (by exact ni_ rfl) 111 0).trans (up_f hU36)
            have e44 : U41 111 0 83 = 0 := up_f hU41
            exact ⟨_, rfl, fr_u (fr_u (fr_0 _ _) hU36 rfl) hU41 rfl, by omega, fun _ => by omega⟩
          · refine hK 97 _ [vI 1, vR 111 0] U36 ?_
            refine j_blx (F := fX11) tb_X11 (nn_ _) bk_X11_counts_97 bs_X11_counts_97 hz (fun K hK => ?_)
            refine bd_i (by omega) ?_
            refine x_nm (fun U45 hU45 => ?_)
            have e46 := up_f hU45
            refine (show po_X11_counts T m d U45 (some (vI 1)) from ?_)
            have e47 : U45 111 0 82 = 1 := (up_j hU45 (by exact ni_ rfl) 111 0).trans (up_f hU36)
            have e48 : U45 111 0 83 = 1 := up_f hU45
            exact ⟨_, rfl, fr_u (fr_u (fr_0 _ _) hU36 rfl) hU45 rfl, by omega, fun _ => by omega⟩
    · refine ix_i (by omega) ?_
      intro b49 b49b
      refine bd_i (by omega) ?_
      refine x_nm (fun U50 hU50 => ?_)
      have e51 := up_f hU50
      refine ix_i (by omega) ?_
      intro b52 b52b
      have e53 : U50 237 0 m = T 237 0 m := up_k hU50 (by exact Nat.ne_of_beq_eq_false rfl) 0 m
      rw [e53] at b52 b52b ⊢
      refine bd_i (by omega) ?_
      refine x_nm (fun U54 hU54 => ?_)
      have e55 := up_f hU54
      refine ix_i (by omega) ?_
      intro b56 b56b
      have e57 : U54 234 0 m = T 234 0 m := (up_k hU54 (by exact Nat.ne_of_beq_eq_false rfl) 0 m).trans (up_k hU50 (by exact Nat.ne_of_beq_eq_false rfl) 0 m)
      rw [e57] at b56 b56b ⊢
      refine And.intro (fun c58 => ?_) (fun c58 => ?_)
      · refine hK 54 _ [] U54 ?_
        refine j_blx (F := fX11) tb_X11 (nn_ _) bk_X11_counts_54 bs_X11_counts_54 hz (fun K hK => ?_)
        refine (show po_X11_counts T m d U54 (some (vI 0)) from ?_)
        have e59 : U54 111 0 82 = T 236 0 m := (up_j hU54 (by exact ni_ rfl) 111 0).trans (up_f hU50)
        have e60 : U54 111 0 83 = T 237 0 m := up_f hU54
        exact ⟨_, rfl, fr_u (fr_u (fr_0 _ _) hU50 rfl) hU54 rfl, by omega, fun z => absurd z (by decide)⟩
      · refine hK 55 _ [vI 1] U54 ?_
        refine j_blx (F := fX11) tb_X11 (nn_ _) bk_X11_counts_55 bs_X11_counts_55 hz (fun K hK => ?_)
        refine (show po_X11_counts T m d U54 (some (vI 1)) from ?_)
        have e61 : U54 111 0 82 = T 236 0 m := (up_j hU54 (by exact ni_ rfl) 111 0).trans (up_f hU50)
        have e62 : U54 111 0 83 = T 237 0 m := up_f hU54
        exact ⟨_, rfl, fr_u (fr_u (fr_0 _ _) hU50 rfl) hU54 rfl, by omega, fun _ => by omega⟩
abbrev cX11_tellResult : ByteArray := prog_13_method_82_code
def yX11_tellResult : MethodName := ⟨RX11, "tellResult", "(IIII)V"⟩
def zX11_tellResult : Zm := (RX11, cX11_tellResult, 6, none, { frames := 1, cells := 0, slots := 0, locals := 22 })
theorem bk_X11_tellResult_86 : ck_ fX11 none cX11_tellResult 86 [.aload 0, .tableswitch 0 11 76 #[], .iload 5, .iconst 4, .iadd, .dup2, .iaload, .iload 3, .iadd, .iastore, .aload 0, .tableswitch 0 11 76 #[], .iload 5, .iconst 5, .iadd, .dup2, .iaload, .iload 4, .iadd, .iastore, .aload 0, .tableswitch 0 11 76 #[], .iload 5, .iconst 6, .iadd, .dup2, .iaload, .iload 3, .iload 4, .if_icmp .le 139, .aload 0, .iload 1, .iconst 1] 133 = true := qck_r (nn_ _) (by decide +kernel)
theorem bs_X11_tellResult_86 {P : Zt → Option Zv → Prop} (K : Int → Zl → List Zv → Zt → Prop) : sx_ K P [.aload 0, .tableswitch 0 11 76 #[], .iload 5, .iconst 4, .iadd, .dup2, .iaload, .iload 3, .iadd, .iastore, .aload 0, .tableswitch 0 11 76 #[], .iload 5, .iconst 5, .iadd, .dup2, .iaload, .iload 4, .iadd, .iastore, .aload 0, .tableswitch 0 11 76 #[], .iload 5, .iconst 6, .iadd, .dup2, .iaload, .iload 3, .iload 4, .if_icmp .le 139, .aload 0, .iload 1, .iconst 1] 133 = x_aload 0 (x_g1 111 276 (x_iload 5 (x_iconst 4 (x_iadd (x_dup2 (x_iaload (x_iload 3 (x_iadd (x_iastore (x_aload 0 (x_g1 111 276 (x_iload 5 (x_iconst 5 (x_iadd (x_dup2 (x_iaload (x_iload 4 (x_iadd (x_iastore (x_aload 0 (x_g1 111 276 (x_iload 5 (x_iconst 6 (x_iadd (x_dup2 (x_iaload (x_iload 3 (x_iload 4 (x_if_icmp .le 139 K (x_aload 0 (x_iload 1 (x_iconst 1 (K 133))))))))))))))))))))))))))))))))) := ((xe_aload 0).trans (congrArg (x_aload 0) ((xe_g1 (kk := 111) rfl tl_11_76).trans (congrArg (x_g1 111 276) ((xe_iload 5).trans (congrArg (x_iload 5) ((xe_iconst 4).trans (congrArg (x_iconst 4) ((xe_iadd).trans (congrArg (x_iadd) ((xe_dup2).trans (congrArg (x_dup2) ((xe_iaload).trans (congrArg (x_iaload) ((xe_iload 3).trans (congrArg (x_iload 3) ((xe_iadd).trans (congrArg (x_iadd) ((xe_iastore).trans (congrArg (x_iastore) ((xe_aload 0).trans (congrArg (x_aload 0) ((xe_g1 (kk := 111) rfl tl_11_76).trans (congrArg (x_g1 111 276) ((xe_iload 5).trans (congrArg (x_iload 5) ((xe_iconst 5).trans (congrArg (x_iconst 5) ((xe_iadd).trans (congrArg (x_iadd) ((xe_dup2).trans (congrArg (x_dup2) ((xe_iaload).trans (congrArg (x_iaload) ((xe_iload 4).trans (congrArg (x_iload 4) ((xe_iadd).trans (congrArg (x_iadd) ((xe_iastore).trans (congrArg (x_iastore) ((xe_aload 0).trans (congrArg (x_aload 0) ((xe_g1 (kk := 111) rfl tl_11_76).trans (congrArg (x_g1 111 276) ((xe_iload 5).trans (congrArg (x_iload 5) ((xe_iconst 6).trans (congrArg (x_iconst 6) ((xe_iadd).trans (congrArg (x_iadd) ((xe_dup2).trans (congrArg (x_dup2) ((xe_iaload).trans (congrArg (x_iaload) ((xe_iload 3).trans (congrArg (x_iload 3) ((xe_iload 4).trans (congrArg (x_iload 4) ((xe_if_icmp .le 139).trans (congrArg (x_if_icmp .le 139 K) ((xe_aload 0).trans (congrArg (x_aload 0) ((xe_iload 1).trans (congrArg (x_iload 1) ((xe_iconst 1).trans (congrArg (x_iconst 1) xe_nil))))))))))))))))))))))))))))))))))))))))))))))))))))))))))))))))))
theorem bk_X11_tellResult_139 : ck_ fX11 none cX11_tellResult 139 [.iload 3, .iload 4, .if_icmp .ne 154, .aload 0, .iload 1, .iconst 2] 148 = true := qck_r (nn_ _) (by decide +kernel)
theorem bs_X11_tellResult_139 {P : Zt → Option Zv → Prop} (K : Int → Zl → List Zv → Zt → Prop) : sx_ K P [.iload 3, .iload 4, .if_icmp .ne 154, .aload 0, .iload 1, .iconst 2] 148 = x_iload 3 (x_iload 4 (x_if_icmp .ne 154 K (x_aload 0 (x_iload 1 (x_iconst 2 (K 148)))))) := ((xe_iload 3).trans (congrArg (x_iload 3) ((xe_iload 4).trans (congrArg (x_iload 4) ((xe_if_icmp .ne 154).trans (congrArg (x_if_icmp .ne 154 K) ((xe_aload 0).trans (congrArg (x_aload 0) ((xe_iload 1).trans (congrArg (x_iload 1) ((xe_iconst 2).trans (congrArg (x_iconst 2) xe_nil))))))))))))
theorem bk_X11_tellResult_154 : ck_ fX11 none cX11_tellResult 154 [.aload 0, .iload 1, .iconst 3] 157 = true := qck_r (nn_ _) (by decide +kernel)
theorem bs_X11_tellResult_154 {P : Zt → Option Zv → Prop} (K : Int → Zl → List Zv → Zt → Prop) : sx_ K P [.aload 0, .iload 1, .iconst 3] 157 = x_aload 0 (x_iload 1 (x_iconst 3 (K 157))) := ((xe_aload 0).trans (congrArg (x_aload 0) ((xe_iload 1).trans (congrArg (x_iload 1) ((xe_iconst 3).trans (congrArg (x_iconst 3) xe_nil))))))
theorem bk_X11_tellResult_160 : ck_ fX11 none cX11_tellResult 160 [.iadd, .iastore, .return_] 163 = true := qck_r (nn_ _) (by decide +kernel)
theorem bs_X11_tellResult_160 {P : Zt → Option Zv → Prop} (K : Int → Zl → List Zv → Zt → Prop) : sx_ K P [.iadd, .iastore, .return_] 163 = x_iadd (x_iastore (x_return_ P)) := ((xe_iadd).trans (congrArg (x_iadd) ((xe_iastore).trans (congrArg (x_iastore) (xe_return_)))))
theorem bk_X11_tellResult_151 : ck_ fX11 none cX11_tellResult 151 [.goto 160] 154 = true := qck_r (nn_ _) (by decide +kernel)
theorem bs_X11_tellResult_151 {P : Zt → Option Zv → Prop} (K : Int → Zl → List Zv → Zt → Prop) : sx_ K P [.goto 160] 154 = x_goto 160 K := (xe_goto 160)
theorem bk_X11_tellResult_136 : ck_ fX11 none cX11_tellResult 136 [.goto 160] 139 = true := qck_r (nn_ _) (by decide +kernel)
theorem bs_X11_tellResult_136 {P : Zt → Option Zv → Prop} (K : Int → Zl → List Zv → Zt → Prop) : sx_ K P [.goto 160] 139 = x_goto 160 K := (xe_goto 160)
theorem bk_X11_tellResult_63 : ck_ fX11 none cX11_tellResult 63 [.aload 0, .tableswitch 0 11 76 #[], .iload 5, .iconst 3, .iadd, .dup2, .iaload, .iload 3, .iload 4, .if_icmp .ge 83, .iconst 1, .goto 84] 83 = true := qck_r (nn_ _) (by decide +kernel)
theorem bs_X11_tellResult_63 {P : Zt → Option Zv → Prop} (K : Int → Zl → List Zv → Zt → Prop) : sx_ K P [.aload 0, .tableswitch 0 11 76 #[], .iload 5, .iconst 3, .iadd, .dup2, .iaload, .iload 3, .iload 4, .if_icmp .ge 83, .iconst 1, .goto 84] 83 = x_aload 0 (x_g1 111 276 (x_iload 5 (x_iconst 3 (x_iadd (x_dup2 (x_iaload (x_iload 3 (x_iload 4 (x_if_icmp .ge 83 K (x_iconst 1 (x_goto 84 K))))))))))) := ((xe_aload 0).trans (congrArg (x_aload 0) ((xe_g1 (kk := 111) rfl tl_11_76).trans (congrArg (x_g1 111 276) ((xe_iload 5).trans (congrArg (x_iload 5) ((xe_iconst 3).trans (congrArg (x_iconst 3) ((xe_iadd).trans (congrArg (x_iadd) ((xe_dup2).trans (congrArg (x_dup2) ((xe_iaload).trans (congrArg (x_iaload) ((xe_iload 3).trans (congrArg (x_iload 3) ((xe_iload 4).trans (congrArg (x_iload 4) ((xe_if_icmp .ge 83).trans (congrArg (x_if_icmp .ge 83 K) ((xe_iconst 1).trans (congrArg (x_iconst 1) (xe_goto 84)))))))))))))))))))))))
theorem bk_X11_tellResult_83 : ck_ fX11 none cX11_tellResult 83 [.iconst 0, .iadd, .iastore] 86 = true := qck_r (nn_ _) (by decide +kernel)
theorem bs_X11_tellResult_83 {P : Zt → Option Zv → Prop} (K : Int → Zl → List Zv → Zt → Prop) : sx_ K P [.iconst 0, .iadd, .iastore] 86 = x_iconst 0 (x_iadd (x_iastore (K 86))) := ((xe_iconst 0).trans (congrArg (x_iconst 0) ((xe_iadd).trans (congrArg (x_iadd) ((xe_iastore).trans (congrArg (x_iastore) xe_nil))))))
theorem bk_X11_tellResult_84 : ck_ fX11 none cX11_tellResult 84 [.iadd, .iastore] 86 = true := qck_r (nn_ _) (by decide +kernel)
theorem bs_X11_tellResult_84 {P : Zt → Option Zv → Prop} (K : Int → Zl → List Zv → Zt → Prop) : sx_ K P [.iadd, .iastore] 86 = x_iadd (x_iastore (K 86)) := ((xe_iadd).trans (congrArg (x_iadd) ((xe_iastore).trans (congrArg (x_iastore) xe_nil))))
theorem bk_X11_tellResult_40 : ck_ fX11 none cX11_tellResult 40 [.aload 0, .tableswitch 0 11 76 #[], .iload 5, .iconst 2, .iadd, .dup2, .iaload, .iload 3, .iload 4, .if_icmp .ne 60, .iconst 1, .goto 61] 60 = true := qck_r (nn_ _) (by decide +kernel)
theorem bs_X11_tellResult_40 {P : Zt → Option Zv → Prop} (K : Int → Zl → List Zv → Zt → Prop) : sx_ K P [.aload 0, .tableswitch 0 11 76 #[], .iload 5, .iconst 2, .iadd, .dup2, .iaload, .iload 3, .iload 4, .if_icmp .ne 60, .iconst 1, .goto 61] 60 = x_aload 0 (x_g1 111 276 (x_iload 5 (x_iconst 2 (x_iadd (x_dup2 (x_iaload (x_iload 3 (x_iload 4 (x_if_icmp .ne 60 K (x_iconst 1 (x_goto 61 K))))))))))) := ((xe_aload 0).trans (congrArg (x_aload 0) ((xe_g1 (kk := 111) rfl tl_11_76).trans (congrArg (x_g1 111 276) ((xe_iload 5).trans (congrArg (x_iload 5) ((xe_iconst 2).trans (congrArg (x_iconst 2) ((xe_iadd).trans (congrArg (x_iadd) ((xe_dup2).trans (congrArg (x_dup2) ((xe_iaload).trans (congrArg (x_iaload) ((xe_iload 3).trans (congrArg (x_iload 3) ((xe_iload 4).trans (congrArg (x_iload 4) ((xe_if_icmp .ne 60).trans (congrArg (x_if_icmp .ne 60 K) ((xe_iconst 1).trans (congrArg (x_iconst 1) (xe_goto 61)))))))))))))))))))))))
theorem bk_X11_tellResult_60 : ck_ fX11 none cX11_tellResult 60 [.iconst 0, .iadd, .iastore] 63 = true := qck_r (nn_ _) (by decide +kernel)
theorem bs_X11_tellResult_60 {P : Zt → Option Zv → Prop} (K : Int → Zl → List Zv → Zt → Prop) : sx_ K P [.iconst 0, .iadd, .iastore] 63 = x_iconst 0 (x_iadd (x_iastore (K 63))) := ((xe_iconst 0).trans (congrArg (x_iconst 0) ((xe_iadd).trans (congrArg (x_iadd) ((xe_iastore).trans (congrArg (x_iastore) xe_nil))))))
theorem bk_X11_tellResult_61 : ck_ fX11 none cX11_tellResult 61 [.iadd, .iastore] 63 = true := qck_r (nn_ _) (by decide +kernel)
theorem bs_X11_tellResult_61 {P : Zt → Option Zv → Prop} (K : Int → Zl → List Zv → Zt → Prop) : sx_ K P [.iadd, .iastore] 63 = x_iadd (x_iastore (K 63)) := ((xe_iadd).trans (congrArg (x_iadd) ((xe_iastore).trans (congrArg (x_iastore) xe_nil))))
theorem bk_X11_tellResult_0 : ck_ fX11 none cX11_tellResult 0 [.iconst 9, .iload 2, .imul, .istore 5, .aload 0, .tableswitch 0 11 76 #[], .iload 5, .dup2, .iaload, .iconst 1, .iadd, .iastore, .aload 0, .tableswitch 0 11 76 #[], .iload 5, .iconst 1, .iadd, .dup2, .iaload, .iload 3, .iload 4, .if_icmp .le 37, .iconst 1, .goto 38] 37 = true := qck_r (nn_ _) (by decide +kernel)
theorem bs_X11_tellResult_0 {P : Zt → Option Zv → Prop} (K : Int → Zl → List Zv → Zt → Prop) : sx_ K P [.iconst 9, .iload 2, .imul, .istore 5, .aload 0, .tableswitch 0 11 76 #[], .iload 5, .dup2, .iaload, .iconst 1, .iadd, .iastore, .aload 0, .tableswitch 0 11 76 #[], .iload 5, .iconst 1, .iadd, .dup2, .iaload, .iload 3, .iload 4, .if_icmp .le 37, .iconst 1, .goto 38] 37 = x_iconst 9 (x_iload 2 (x_imul (x_istore 5 (x_aload 0 (x_g1 111 276 (x_iload 5 (x_dup2 (x_iaload (x_iconst 1 (x_iadd (x_iastore (x_aload 0 (x_g1 111 276 (x_iload 5 (x_iconst 1 (x_iadd (x_dup2 (x_iaload (x_iload 3 (x_iload 4 (x_if_icmp .le 37 K (x_iconst 1 (x_goto 38 K))))))))))))))))))))))) := ((xe_iconst 9).trans (congrArg (x_iconst 9) ((xe_iload 2).trans (congrArg (x_iload 2) ((xe_imul).trans (congrArg (x_imul) ((xe_istore 5).trans (congrArg (x_istore 5) ((xe_aload 0).trans (congrArg (x_aload 0) ((xe_g1 (kk := 111) rfl tl_11_76).trans (congrArg (x_g1 111 276) ((xe_iload 5).trans (congrArg (x_iload 5) ((xe_dup2).trans (congrArg (x_dup2) ((xe_iaload).trans (congrArg (x_iaload) ((xe_iconst 1).trans (congrArg (x_iconst 1) ((xe_iadd).trans (congrArg (x_iadd) ((xe_iastore).trans (congrArg (x_iastore) ((xe_aload 0).trans (congrArg (x_aload 0) ((xe_g1 (kk := 111) rfl tl_11_76).trans (congrArg (x_g1 111 276) ((xe_iload 5).trans (congrArg (x_iload 5) ((xe_iconst 1).trans (congrArg (x_iconst 1) ((xe_iadd).trans (congrArg (x_iadd) ((xe_dup2).trans (congrArg (x_dup2) ((xe_iaload).trans (congrArg (x_iaload) ((xe_iload 3).trans (congrArg (x_iload 3) ((xe_iload 4).trans (congrArg (x_iload 4) ((xe_if_icmp .le 37).trans (congrArg (x_if_icmp .le 37 K) ((xe_iconst 1).trans (congrArg (x_iconst 1) (xe_goto 38)))))))))))))))))))))))))))))))))))))))))))))))
theorem bk_X11_tellResult_37 : ck_ fX11 none cX11_tellResult 37 [.iconst 0, .iadd, .iastore] 40 = true := qck_r (nn_ _) (by decide +kernel)
theorem bs_X11_tellResult_37 {P : Zt → Option Zv → Prop} (K : Int → Zl → List Zv → Zt → Prop) : sx_ K P [.iconst 0, .iadd, .iastore] 40 = x_iconst 0 (x_iadd (x_iastore (K 40))) := ((xe_iconst 0).trans (congrArg (x_iconst 0) ((xe_iadd).trans (congrArg (x_iadd) ((xe_iastore).trans (congrArg (x_iastore) xe_nil))))))
theorem bk_X11_tellResult_38 : ck_ fX11 none cX11_tellResult 38 [.iadd, .iastore] 40 = true := qck_r (nn_ _) (by decide +kernel)
theorem bs_X11_tellResult_38 {P : Zt → Option Zv → Prop} (K : Int → Zl → List Zv → Zt → Prop) : sx_ K P [.iadd, .iastore] 40 = x_iadd (x_iastore (K 40)) := ((xe_iadd).trans (congrArg (x_iadd) ((xe_iastore).trans (congrArg (x_iastore) xe_nil))))
abbrev po_X11_tellResult (T : Zt) (bb : Int) (c cl a b : Int) : Zt → Option Zv → Prop := fun T' r => r = none ∧ fr_ [(276, [])] T T' ∧ (TB_ T' (bb + 140000))
set_option maxHeartbeats 4000000 in
theorem ct_X11_tellResult {T : Zt} {bb : Int} {c cl a b : Int} (h1 : 0 ≤ c ∧ c < 4) (h2 : 0 ≤ cl ∧ cl < 12) (h3 : 0 ≤ a ∧ a ≤ 20000) (h4 : 0 ≤ b ∧ b ≤ 20000) (hbb : 0 ≤ bb ∧ bb ≤ 500000000) (htb : TB_ T bb) : Ct_ yX11_tellResult zX11_tellResult T [vR 111 0, vI c, vI cl, vI a, vI b] (po_X11_tellResult T bb c cl a b) := by
  refine ct_of pn_11 rfl rfl (Nat.le_of_ble_eq_true rfl) (fun hT hav => ?_)
  have hr_c : -2147483648 ≤ c ∧ c ≤ 2147483647 := hav (vI c) (List.mem_cons_of_mem _ List.mem_cons_self)
  have hr_cl : -2147483648 ≤ cl ∧ cl ≤ 2147483647 := hav (vI cl) (List.mem_cons_of_mem _ (List.mem_cons_of_mem _ List.mem_cons_self))
  have hr_a : -2147483648 ≤ a ∧ a ≤ 2147483647 := hav (vI a) (List.mem_cons_of_mem _ (List.mem_cons_of_mem _ (List.mem_cons_of_mem _ List.mem_cons_self)))
  have hr_b : -2147483648 ≤ b ∧ b ≤ 2147483647 := hav (vI b) (List.mem_cons_of_mem _ (List.mem_cons_of_mem _ (List.mem_cons_of_mem _ (List.mem_cons_of_mem _ List.mem_cons_self))))
  have hz : zX11_tellResult.2.2.2.1 = some .boolean → ∀ (T' : Zt) (x : Int), po_X11_tellResult T bb c cl a b T' (some (vI x)) → 0 ≤ x ∧ x ≤ 1 := fun h => by cases h
  have hr1 : (-1) ≤ T 205 0 (23 * c + 1) ∧ T 205 0 (23 * c + 1) ≤ 999 := bd_a hT 205 (by decide +kernel : ta_ 205 = some (1, some 92, (-1), 999)) 0 (by omega)
  have hr2 : (-1) ≤ T 205 0 (23 * c + 2) ∧ T 205 0 (23 * c + 2) ≤ 999 := bd_a hT 205 (by decide +kernel : ta_ 205 = some (1, some 92, (-1), 999)) 0 (by omega)
  have hr3 : (-1) ≤ T 205 0 (23 * c + 3) ∧ T 205 0 (23 * c + 3) ≤ 999 := bd_a hT 205 (by decide +kernel : ta_ 205 = some (1, some 92, (-1), 999)) 0 (by omega)
  show J_ zX11_tellResult T (po_X11_tellResult T bb c cl a b) 0 0 0 [some (vR 111 0), some (vI c), some (vI cl), some (vI a), some (vI b), none] [] T
  have c_86 : ∀ (T3 : Zt), (fr_ [(276, [])] T T3) → (TB_ T3 (bb + 80000)) → J_ zX11_tellResult T (po_X11_tellResult T bb c cl a b) 0 0 86 [some (vR 111 0), some (vI c), some (vI cl), some (vI a), some (vI b), some (vI (9 * cl))] [] T3 := by
    intro T3 hf_86 tb3
    refine j_blx (F := fX11) tb_X11 (nn_ _) bk_X11_tellResult_86 bs_X11_tellResult_86 hz (fun K hK => ?_)
    refine rg_i (by omega) ?_
    refine ix_i (by omega) ?_
    intro b1 b1b
    have t2 : -(bb + 80000) ≤ T3 276 0 ((9 * cl) + 4) ∧ T3 276 0 ((9 * cl) + 4) ≤ bb + 80000 ∧ (((9 * cl) + 4) % 9 = 6 → -(bb + 80000) ≤ 20 * (T3 276 0 ((9 * cl) + 4)) ∧ 20 * (T3 276 0 ((9 * cl) + 4)) ≤ bb + 80000) := (tb3) ((9 * cl) + 4) (by omega) (by omega)
    refine rg_i (by omega) ?_
    refine iy_i (by omega) (by omega) ?_
    refine x_nm (fun U3 hU3 => ?_)
    have e4 := up_f hU3
    refine rg_i (by omega) ?_
    refine ix_i (by omega) ?_
    intro b5 b5b
    have t6 : -(bb + 80000 + 20000) ≤ U3 276 0 ((9 * cl) + 5) ∧ U3 276 0 ((9 * cl) + 5) ≤ bb + 80000 + 20000 ∧ (((9 * cl) + 5) % 9 = 6 → -(bb + 80000 + 20000) ≤ 20 * (U3 276 0 ((9 * cl) + 5)) ∧ 20 * (U3 276 0 ((9 * cl) + 5)) ≤ bb + 80000 + 20000) := (tb_u (d := 20000) (tb3) hU3 (by decide) (by omega)) ((9 * cl) + 5) (by omega) (by omega)
    refine rg_i (by omega) ?_
    refine iy_i (by omega) (by omega) ?_
    refine x_nm (fun U7 hU7 => ?_)
    have e8 := up_f hU7
    refine rg_i (by omega) ?_
    refine ix_i (by omega) ?_
    intro b9 b9b
    refine And.intro (fun c10 => ?_) (fun c10 => ?_)
    · refine hK 139 _ [vI (U7 276 0 ((9 * cl) + 6)), vI ((9 * cl) + 6), vR 276 0] U7 ?_
      refine j_blx (F := fX11) tb_X11 (nn_ _) bk_X11_tellResult_139 bs_X11_tellResult_139 hz (fun K hK => ?_)
      refine And.intro (fun c11 => ?_) (fun c11 => ?_)
      · refine hK 154 _ [vI (U7 276 0 ((9 * cl) + 6)), vI ((9 * cl) + 6), vR 276 0] U7 ?_
        refine j_blx (F := fX11) tb_X11 (nn_ _) bk_X11_tellResult_154 bs_X11_tellResult_154 hz (fun K hK => ?_)
        refine hK 157 _ [vI 3, vI c, vR 111 0, vI (U7 276 0 ((9 * cl) + 6)), vI ((9 * cl) + 6), vR 276 0] U7 ?_
        refine j_callV (y := yX11_rule0) (Yc := zX11_rule0) (rest := [vI (U7 276 0 ((9 * cl) + 6)), vI ((9 * cl) + 6), vR 276 0]) [vI c, vI 3] (ct_X11_rule0 (T := U7) (by omega) (by omega)) cl_X11_321 (qd_c (by decide +kernel)) (nn_ _) rfl (rf_of rfl) (Nat.le_of_ble_eq_true rfl) (Nat.le_of_ble_eq_true rfl) (Nat.le_of_ble_eq_true rfl) rfl ?_
        rintro _ _ ⟨rfl, rfl⟩
        have e12 : U7 205 0 (23 * c + 3) = T 205 0 (23 * c + 3) := (up_k hU7 (by exact Nat.ne_of_beq_eq_false rfl) 0 (23 * c + 3)).trans ((up_k hU3 (by exact Nat.ne_of_beq_eq_false rfl) 0 (23 * c + 3)).trans (hf_86 205 0 (23 * c + 3) rfl))
        show J_ zX11_tellResult T (po_X11_tellResult T bb c cl a b) 0 0 160 _ [vI (U7 205 0 (23 * c + 3)), vI (U7 276 0 ((9 * cl) + 6)), vI ((9 * cl) + 6), vR 276 0] U7
        refine j_blx (F := fX11) tb_X11 (nn_ _) bk_X11_tellResult_160 bs_X11_tellResult_160 hz (fun K hK => ?_)
        have t13 : -(bb + 80000 + 20000 + 20000) ≤ U7 276 0 ((9 * cl) + 6) ∧ U7 276 0 ((9 * cl) + 6) ≤ bb + 80000 + 20000 + 20000 ∧ (((9 * cl) + 6) % 9 = 6 → -(bb + 80000 + 20000 + 20000) ≤ 20 * (U7 276 0 ((9 * cl) + 6)) ∧ 20 * (U7 276 0 ((9 * cl) + 6)) ≤ bb + 80000 + 20000 + 20000) := (tb_u (d := 20000) (tb_u (d := 20000) (tb3) hU3 (by decide) (by omega)) hU7 (by decide) (by omega)) ((9 * cl) + 6) (by omega) (by omega)
        refine rg_i (by omega) ?_
        refine iy_i (by omega) (by omega) ?_
        refine x_nm (fun U14 hU14 => ?_)
        have e15 := up_f hU14
        refine (show po_X11_tellResult T bb c cl a b U14 (none) from ?_)
        exact ⟨rfl, fr_u (fr_u (fr_u (fr_t (fr_0 _ _) (fr_s hf_86 rfl)) hU3 rfl) hU7 rfl) hU14 rfl, tb_m (tb_u (d := 20000) (tb_u (d := 20000) (tb_u (d := 20000) (tb3) hU3 (by decide) (by omega)) hU7 (by decide) (by omega)) hU14 (by decide) (by omega)) (by omega)⟩
      · refine hK 148 _ [vI 2, vI c, vR 111 0, vI (U7 276 0 ((9 * cl) + 6)), vI ((9 * cl) + 6), vR 276 0] U7 ?_
        refine j_callV (y := yX11_rule0) (Yc := zX11_rule0) (rest := [vI (U7 276 0 ((9 * cl) + 6)), vI ((9 * cl) + 6), vR 276 0]) [vI c, vI 2] (ct_X11_rule0 (T := U7) (by omega) (by omega)) cl_X11_321 (qd_c (by decide +kernel)) (nn_ _) rfl (rf_of rfl) (Nat.le_of_ble_eq_true rfl) (Nat.le_of_ble_eq_true rfl) (Nat.le_of_ble_eq_true rfl) rfl ?_
        rintro _ _ ⟨rfl, rfl⟩
        have e16 : U7 205 0 (23 * c + 2) = T 205 0 (23 * c + 2) := (up_k hU7 (by exact Nat.ne_of_beq_eq_false rfl) 0 (23 * c + 2)).trans ((up_k hU3 (by exact Nat.ne_of_beq_eq_false rfl) 0 (23 * c + 2)).trans (hf_86 205 0 (23 * c + 2) rfl))
        show J_ zX11_tellResult T (po_X11_tellResult T bb c cl a b) 0 0 151 _ [vI (U7 205 0 (23 * c + 2)), vI (U7 276 0 ((9 * cl) + 6)), vI ((9 * cl) + 6), vR 276 0] U7
        refine j_blx (F := fX11) tb_X11 (nn_ _) bk_X11_tellResult_151 bs_X11_tellResult_151 hz (fun K hK => ?_)
        refine hK 160 _ [vI (U7 205 0 (23 * c + 2)), vI (U7 276 0 ((9 * cl) + 6)), vI ((9 * cl) + 6), vR 276 0] U7 ?_
        refine j_blx (F := fX11) tb_X11 (nn_ _) bk_X11_tellResult_160 bs_X11_tellResult_160 hz (fun K hK => ?_)
        have t17 : -(bb + 80000 + 20000 + 20000) ≤ U7 276 0 ((9 * cl) + 6) ∧ U7 276 0 ((9 * cl) + 6) ≤ bb + 80000 + 20000 + 20000 ∧ (((9 * cl) + 6) % 9 = 6 → -(bb + 80000 + 20000 + 20000) ≤ 20 * (U7 276 0 ((9 * cl) + 6)) ∧ 20 * (U7 276 0 ((9 * cl) + 6)) ≤ bb + 80000 + 20000 + 20000) := (tb_u (d := 20000) (tb_u (d := 20000) (tb3) hU3 (by decide) (by omega)) hU7 (by decide) (by omega)) ((9 * cl) + 6) (by omega) (by omega)
        refine rg_i (by omega) ?_
        refine iy_i (by omega) (by omega) ?_
        refine x_nm (fun U18 hU18 => ?_)
        have e19 := up_f hU18
        refine (show po_X11_tellResult T bb c cl a b U18 (none) from ?_)
        exact ⟨rfl, fr_u (fr_u (fr_u (fr_t (fr_0 _ _) (fr_s hf_86 rfl)) hU3 rfl) hU7 rfl) hU18 rfl, tb_m (tb_u (d := 20000) (tb_u (d := 20000) (tb_u (d := 20000) (tb3) hU3 (by decide) (by omega)) hU7 (by decide) (by omega)) hU18 (by decide) (by omega)) (by omega)⟩
    · refine hK 133 _ [vI 1, vI c, vR 111 0, vI (U7 276 0 ((9 * cl) + 6)), vI ((9 * cl) + 6), vR 276 0] U7 ?_
      refine j_callV (y := yX11_rule0) (Yc := zX11_rule0) (rest := [vI (U7 276 0 ((9 * cl) + 6)), vI ((9 * cl) + 6), vR 276 0]) [vI c, vI 1] (ct_X11_rule0 (T := U7) (by omega) (by omega)) cl_X11_321 (qd_c (by decide +kernel)) (nn_ _) rfl (rf_of rfl) (Nat.le_of_ble_eq_true rfl) (Nat.le_of_ble_eq_true rfl) (Nat.le_of_ble_eq_true rfl) rfl ?_
      rintro _ _ ⟨rfl, rfl⟩
      have e20 : U7 205 0 (23 * c + 1) = T 205 0 (23 * c + 1) := (up_k hU7 (by exact Nat.ne_of_beq_eq_false rfl) 0 (23 * c + 1)).trans ((up_k hU3 (by exact Nat.ne_of_beq_eq_false rfl) 0 (23 * c + 1)).trans (hf_86 205 0 (23 * c + 1) rfl))
      show J_ zX11_tellResult T (po_X11_tellResult T bb c cl a b) 0 0 136 _ [vI (U7 205 0 (23 * c + 1)), vI (U7 276 0 ((9 * cl) + 6)), vI ((9 * cl) + 6), vR 276 0] U7
      refine j_blx (F := fX11) tb_X11 (nn_ _) bk_X11_tellResult_136 bs_X11_tellResult_136 hz (fun K hK => ?_)
      refine hK 160 _ [vI (U7 205 0 (23 * c + 1)), vI (U7 276 0 ((9 * cl) + 6)), vI ((9 * cl) + 6), vR 276 0] U7 ?_
      refine j_blx (F := fX11) tb_X11 (nn_ _) bk_X11_tellResult_160 bs_X11_tellResult_160 hz (fun K hK => ?_)
      have t21 : -(bb + 80000 + 20000 + 20000) ≤ U7 276 0 ((9 * cl) + 6) ∧ U7 276 0 ((9 * cl) + 6) ≤ bb + 80000 + 20000 + 20000 ∧ (((9 * cl) + 6) % 9 = 6 → -(bb + 80000 + 20000 + 20000) ≤ 20 * (U7 276 0 ((9 * cl) + 6)) ∧ 20 * (U7 276 0 ((9 * cl) + 6)) ≤ bb + 80000 + 20000 + 20000) := (tb_u (d := 20000) (tb_u (d := 20000) (tb3) hU3 (by decide) (by omega)) hU7 (by decide) (by omega)) ((9 * cl) + 6) (by omega) (by omega)
      refine rg_i (by omega) ?_
      refine iy_i (by omega) (by omega) ?_
      refine x_nm (fun U22 hU22 => ?_)
      have e23 := up_f hU22
      refine (show po_X11_tellResult T bb c cl a b U22 (none) from ?_)
      exact ⟨rfl, fr_u (fr_u (fr_u (fr_t (fr_0 _ _) (fr_s hf_86 rfl)) hU3 rfl) hU7 rfl) hU22 rfl, tb_m (tb_u (d := 20000) (tb_u (d := 20000) (tb_u (d := 20000) (tb3) hU3 (by decide) (by omega)) hU7 (by decide) (by omega)) hU22 (by decide) (by omega)) (by omega)⟩
  have c_63 : ∀ (T2 : Zt), (fr_ [(276, [])] T T2) → (TB_ T2 (bb + 60000)) → J_ zX11_tellResult T (po_X11_tellResult T bb c cl a b) 0 0 63 [some (vR 111 0), some (vI c), some (vI cl), some (vI a), some (vI b), some (vI (9 * cl))] [] T2 := by
    intro T2 hf_63 tb2
    refine j_blx (F := fX11) tb_X11 (nn_ _) bk_X11_tellResult_63 bs_X11_tellResult_63 hz (fun K hK => ?_)
    refine rg_i (by omega) ?_
    refine ix_i (by omega) ?_
    intro b24 b24b
    refine And.intro (fun c25 => ?_) (fun c25 => ?_)
    · refine hK 83 _ [vI (T2 276 0 ((9 * cl) + 3)), vI ((9 * cl) + 3), vR 276 0] T2 ?_
      refine j_blx (F := fX11) tb_X11 (nn_ _) bk_X11_tellResult_83 bs_X11_tellResult_83 hz (fun K hK => ?_)
      have t26 : -(bb + 60000) ≤ T2 276 0 ((9 * cl) + 3) ∧ T2 276 0 ((9 * cl) + 3) ≤ bb + 60000 ∧ (((9 * cl) + 3) % 9 = 6 → -(bb + 60000) ≤ 20 * (T2 276 0 ((9 * cl) + 3)) ∧ 20 * (T2 276 0 ((9 * cl) + 3)) ≤ bb + 60000) := (tb2) ((9 * cl) + 3) (by omega) (by omega)
      refine rg_i (by omega) ?_
      refine iy_i (by omega) (by omega) ?_
      refine x_nm (fun U27 hU27 => ?_)
      have e28 := up_f hU27
      refine hK 86 _ [] U27 ?_
      refine c_86 U27 ?_ ?_
      · exact fr_u (fr_t (fr_0 _ _) (fr_s hf_63 rfl)) hU27 rfl
      · exact tb_m (tb_u (d := 20000) (tb2) hU27 (by decide) (by omega)) (by omega)
    · refine hK 84 _ [vI 1, vI (T2 276 0 ((9 * cl) + 3)), vI ((9 * cl) + 3), vR 276 0] T2 ?_
      refine j_blx (F := fX11) tb_X11 (nn_ _) bk_X11_tellResult_84 bs_X11_tellResult_84 hz (fun K hK => ?_)
      have t29 : -(bb + 60000) ≤ T2 276 0 ((9 * cl) + 3) ∧ T2 276 0 ((9 * cl) + 3) ≤ bb + 60000 ∧ (((9 * cl) + 3) % 9 = 6 → -(bb + 60000) ≤ 20 * (T2 276 0 ((9 * cl) + 3)) ∧ 20 * (T2 276 0 ((9 * cl) + 3)) ≤ bb + 60000) := (tb2) ((9 * cl) + 3) (by omega) (by omega)
      refine rg_i (by omega) ?_
      refine iy_i (by omega) (by omega) ?_
      refine x_nm (fun U30 hU30 => ?_)
      have e31 := up_f hU30
      refine hK 86 _ [] U30 ?_
      refine c_86 U30 ?_ ?_
      · exact fr_u (fr_t (fr_0 _ _) (fr_s hf_63 rfl)) hU30 rfl
      · exact tb_m (tb_u (d := 20000) (tb2) hU30 (by decide) (by omega)) (by omega)
  have c_40 : ∀ (T1 : Zt), (fr_ [(276, [])] T T1) → (TB_ T1 (bb + 40000)) → J_ zX11_tellResult T (po_X11_tellResult T bb c cl a b) 0 0 40 [some (vR 111 0), some (vI c), some (vI cl), some (vI a), some (vI b), some (vI (9 * cl))] [] T1 := by
    intro T1 hf_40 tb1
    refine j_blx (F := fX11) tb_X11 (nn_ _) bk_X11_tellResult_40 bs_X11_tellResult_40 hz (fun K hK => ?_)
    refine rg_i (by omega) ?_
    refine ix_i (by omega) ?_
    intro b32 b32b
    refine And.intro (fun c33 => ?_) (fun c33 => ?_)
    · refine hK 60 _ [vI (T1 276 0 ((9 * cl) + 2)), vI ((9 * cl) + 2), vR 276 0] T1 ?_
      refine j_blx (F := fX11) tb_X11 (nn_ _) bk_X11_tellResult_60 bs_X11_tellResult_60 hz (fun K hK => ?_)
      have t34 : -(bb + 40000) ≤ T1 276 0 ((9 * cl) + 2) ∧ T1 276 0 ((9 * cl) + 2) ≤ bb + 40000 ∧ (((9 * cl) + 2) % 9 = 6 → -(bb + 40000) ≤ 20 * (T1 276 0 ((9 * cl) + 2)) ∧ 20 * (T1 276 0 ((9 * cl) + 2)) ≤ bb + 40000) := (tb1) ((9 * cl) + 2) (by omega) (by omega)
      refine rg_i (by omega) ?_
      refine iy_i (by omega) (by omega) ?_
      refine x_nm (fun U35 hU35 => ?_)
      have e36 := up_f hU35
      refine hK 63 _ [] U35 ?_
      refine c_63 U35 ?_ ?_
      · exact fr_u (fr_t (fr_0 _ _) (fr_s hf_40 rfl)) hU35 rfl
      · exact tb_m (tb_u (d := 20000) (tb1) hU35 (by decide) (by omega)) (by omega)
    · refine hK 61 _ [vI 1, vI (T1 276 0 ((9 * cl) + 2)), vI ((9 * cl) + 2), vR 276 0] T1 ?_
      refine j_blx (F := fX11) tb_X11 (nn_ _) bk_X11_tellResult_61 bs_X11_tellResult_61 hz (fun K hK => ?_)
      have t37 : -(bb + 40000) ≤ T1 276 0 ((9 * cl) + 2) ∧ T1 276 0 ((9 * cl) + 2) ≤ bb + 40000 ∧ (((9 * cl) + 2) % 9 = 6 → -(bb + 40000) ≤ 20 * (T1 276 0 ((9 * cl) + 2)) ∧ 20 * (T1 276 0 ((9 * cl) + 2)) ≤ bb + 40000) := (tb1) ((9 * cl) + 2) (by omega) (by omega)
      refine rg_i (by omega) ?_
      refine iy_i (by omega) (by omega) ?_
      refine x_nm (fun U38 hU38 => ?_)
      have e39 := up_f hU38
      refine hK 63 _ [] U38 ?_
      refine c_63 U38 ?_ ?_
      · exact fr_u (fr_t (fr_0 _ _) (fr_s hf_40 rfl)) hU38 rfl
      · exact tb_m (tb_u (d := 20000) (tb1) hU38 (by decide) (by omega)) (by omega)
  refine j_blx (F := fX11) tb_X11 (nn_ _) bk_X11_tellResult_0 bs_X11_tellResult_0 hz (fun K hK => ?_)
  refine rg_i (by omega) ?_
  refine ix_i (by omega) ?_
  intro b40 b40b
  have t41 : -(bb) ≤ T 276 0 (9 * cl) ∧ T 276 0 (9 * cl) ≤ bb ∧ ((9 * cl) % 9 = 6 → -(bb) ≤ 20 * (T 276 0 (9 * cl)) ∧ 20 * (T 276 0 (9 * cl)) ≤ bb) := (htb) (9 * cl) (by omega) (by omega)
  refine rg_i (by omega) ?_
  refine iy_i (by omega) (by omega) ?_
  refine x_nm (fun U42 hU42 => ?_)
  have e43 := up_f hU42
  refine rg_i (by omega) ?_
  refine ix_i (by omega) ?_
  intro b44 b44b
  refine And.intro (fun c45 => ?_) (fun c45 => ?_)
  · refine hK 37 [some (vR 111 0), some (vI c), some (vI cl), some (vI a), some (vI b), some (vI (9 * cl))] [vI (U42 276 0 ((9 * cl) + 1)), vI ((9 * cl) + 1), vR 276 0] U42 ?_
    refine j_blx (F := fX11) tb_X11 (nn_ _) bk_X11_tellResult_37 bs_X11_tellResult_37 hz (fun K hK => ?_)
    have t46 : -(bb + 20000) ≤ U42 276 0 ((9 * cl) + 1) ∧ U42 276 0 ((9 * cl) + 1) ≤ bb + 20000 ∧ (((9 * cl) + 1) % 9 = 6 → -(bb + 20000) ≤ 20 * (U42 276 0 ((9 * cl) + 1)) ∧ 20 * (U42 276 0 ((9 * cl) + 1)) ≤ bb + 20000) := (tb_u (d := 20000) (htb) hU42 (by decide) (by omega)) ((9 * cl) + 1) (by omega) (by omega)
    refine rg_i (by omega) ?_
    refine iy_i (by omega) (by omega) ?_
    refine x_nm (fun U47 hU47 => ?_)
    have e48 := up_f hU47
    refine hK 40 _ [] U47 ?_
    refine c_40 U47 ?_ ?_
    · exact fr_u (fr_u (fr_0 _ _) hU42 rfl) hU47 rfl
    · exact tb_m (tb_u (d := 20000) (tb_u (d := 20000) (htb) hU42 (by decide) (by omega)) hU47 (by decide) (by omega)) (by omega)
  · refine hK 38 _ [vI 1, vI (U42 276 0 ((9 * cl) + 1)), vI ((9 * cl) + 1), vR 276 0] U42 ?_
    refine j_blx (F := fX11) tb_X11 (nn_ _) bk_X11_tellResult_38 bs_X11_tellResult_38 hz (fun K hK => ?_)
    have t49 : -(bb + 20000) ≤ U42 276 0 ((9 * cl) + 1) ∧ U42 276 0 ((9 * cl) + 1) ≤ bb + 20000 ∧ (((9 * cl) + 1) % 9 = 6 → -(bb + 20000) ≤ 20 * (U42 276 0 ((9 * cl) + 1)) ∧ 20 * (U42 276 0 ((9 * cl) + 1)) ≤ bb + 20000) := (tb_u (d := 20000) (htb) hU42 (by decide) (by omega)) ((9 * cl) + 1) (by omega) (by omega)
    refine rg_i (by omega) ?_
    refine iy_i (by omega) (by omega) ?_
    refine x_nm (fun U50 hU50 => ?_)
    have e51 := up_f hU50
    refine hK 40 _ [] U50 ?_
    refine c_40 U50 ?_ ?_
    · exact fr_u (fr_u (fr_0 _ _) hU42 rfl) hU50 rfl
    · exact tb_m (tb_u (d := 20000) (tb_u (d := 20000) (htb) hU42 (by decide) (by omega)) hU50 (by decide) (by omega)) (by omega)
abbrev cX11_fairOf : ByteArray := prog_13_method_83_code
def yX11_fairOf : MethodName := ⟨RX11, "fairOf", "(I)I"⟩
def zX11_fairOf : Zm := (RX11, cX11_fairOf, 4, (some .int), { frames := 0, cells := 0, slots := 0, locals := 0 })
theorem bk_X11_fairOf_7 : ck_ fX11 (some .int) cX11_fairOf 7 [.iload 3, .iconst 10, .iload 1, .imul, .aload 0, .tableswitch 0 11 39 #[], .iload 1, .iaload, .iadd, .if_icmp .ge 52, .iload 2, .aload 0, .tableswitch 0 11 42 #[], .iload 3, .iaload, .aload 0, .tableswitch 0 11 43 #[], .iload 3, .baload, .ifCond .eq 42, .iconst 3, .goto 43] 42 = true := qck_r (nn_ _) (by decide +kernel)
theorem bs_X11_fairOf_7 {P : Zt → Option Zv → Prop} (K : Int → Zl → List Zv → Zt → Prop) : sx_ K P [.iload 3, .iconst 10, .iload 1, .imul, .aload 0, .tableswitch 0 11 39 #[], .iload 1, .iaload, .iadd, .if_icmp .ge 52, .iload 2, .aload 0, .tableswitch 0 11 42 #[], .iload 3, .iaload, .aload 0, .tableswitch 0 11 43 #[], .iload 3, .baload, .ifCond .eq 42, .iconst 3, .goto 43] 42 = x_iload 3 (x_iconst 10 (x_iload 1 (x_imul (x_aload 0 (x_g1 111 239 (x_iload 1 (x_iaload (x_iadd (x_if_icmp .ge 52 K (x_iload 2 (x_aload 0 (x_g1 111 242 (x_iload 3 (x_iaload (x_aload 0 (x_g1 111 243 (x_iload 3 (x_baload (x_ifCond .eq 42 K (x_iconst 3 (x_goto 43 K))))))))))))))))))))) := ((xe_iload 3).trans (congrArg (x_iload 3) ((xe_iconst 10).trans (congrArg (x_iconst 10) ((xe_iload 1).trans (congrArg (x_iload 1) ((xe_imul).trans (congrArg (x_imul) ((xe_aload 0).trans (congrArg (x_aload 0) ((xe_g1 (kk := 111) rfl tl_11_39).trans (congrArg (x_g1 111 239) ((xe_iload 1).trans (congrArg (x_iload 1) ((xe_iaload).trans (congrArg (x_iaload) ((xe_iadd).trans (congrArg (x_iadd) ((xe_if_icmp .ge 52).trans (congrArg (x_if_icmp .ge 52 K) ((xe_iload 2).trans (congrArg (x_iload 2) ((xe_aload 0).trans (congrArg (x_aload 0) ((xe_g1 (kk := 111) rfl tl_11_42).trans (congrArg (x_g1 111 242) ((xe_iload 3).trans (congrArg (x_iload 3) ((xe_iaload).trans (congrArg (x_iaload) ((xe_aload 0).trans (congrArg (x_aload 0) ((xe_g1 (kk := 111) rfl tl_11_43).trans (congrArg (x_g1 111 243) ((xe_iload 3).trans (congrArg (x_iload 3) ((xe_baload).trans (congrArg (x_baload) ((xe_ifCond .eq 42).trans (congrArg (x_ifCond .eq 42 K) ((xe_iconst 3).trans (congrArg (x_iconst 3) (xe_goto 43)))))))))))))))))))))))))))))))))))))))))))
theorem bk_X11_fairOf_52 : ck_ fX11 (some .int) cX11_fairOf 52 [.iload 2, .ireturn] 54 = true := qck_r (nn_ _) (by decide +kernel)
theorem bs_X11_fairOf_52 {P : Zt → Option Zv → Prop} (K : Int → Zl → List Zv → Zt → Prop) : sx_ K P [.iload 2, .ireturn] 54 = x_iload 2 (x_ireturn P) := ((xe_iload 2).trans (congrArg (x_iload 2) (xe_ireturn)))
theorem bk_X11_fairOf_42 : ck_ fX11 (some .int) cX11_fairOf 42 [.iconst 0, .iadd, .iadd, .istore 2, .iinc 3 1, .goto 7] 52 = true := qck_r (nn_ _) (by decide +kernel)
theorem bs_X11_fairOf_42 {P : Zt → Option Zv → Prop} (K : Int → Zl → List Zv → Zt → Prop) : sx_ K P [.iconst 0, .iadd, .iadd, .istore 2, .iinc 3 1, .goto 7] 52 = x_iconst 0 (x_iadd (x_iadd (x_istore 2 (x_iinc 3 1 (x_goto 7 K))))) := ((xe_iconst 0).trans (congrArg (x_iconst 0) ((xe_iadd).trans (congrArg (x_iadd) ((xe_iadd).trans (congrArg (x_iadd) ((xe_istore 2).trans (congrArg (x_istore 2) ((xe_iinc 3 1).trans (congrArg (x_iinc 3 1) (xe_goto 7)))))))))))
theorem bk_X11_fairOf_43 : ck_ fX11 (some .int) cX11_fairOf 43 [.iadd, .iadd, .istore 2, .iinc 3 1, .goto 7] 52 = true := qck_r (nn_ _) (by decide +kernel)
theorem bs_X11_fairOf_43 {P : Zt → Option Zv → Prop} (K : Int → Zl → List Zv → Zt → Prop) : sx_ K P [.iadd, .iadd, .istore 2, .iinc 3 1, .goto 7] 52 = x_iadd (x_iadd (x_istore 2 (x_iinc 3 1 (x_goto 7 K)))) := ((xe_iadd).trans (congrArg (x_iadd) ((xe_iadd).trans (congrArg (x_iadd) ((xe_istore 2).trans (congrArg (x_istore 2) ((xe_iinc 3 1).trans (congrArg (x_iinc 3 1) (xe_goto 7)))))))))
theorem bk_X11_fairOf_0 : ck_ fX11 (some .int) cX11_fairOf 0 [.iconst 0, .istore 2, .iconst 10, .iload 1, .imul, .istore 3] 7 = true := qck_r (nn_ _) (by decide +kernel)
theorem bs_X11_fairOf_0 {P : Zt → Option Zv → Prop} (K : Int → Zl → List Zv → Zt → Prop) : sx_ K P [.iconst 0, .istore 2, .iconst 10, .iload 1, .imul, .istore 3] 7 = x_iconst 0 (x_istore 2 (x_iconst 10 (x_iload 1 (x_imul (x_istore 3 (K 7)))))) := ((xe_iconst 0).trans (congrArg (x_iconst 0) ((xe_istore 2).trans (congrArg (x_istore 2) ((xe_iconst 10).trans (congrArg (x_iconst 10) ((xe_iload 1).trans (congrArg (x_iload 1) ((xe_imul).trans (congrArg (x_imul) ((xe_istore 3).trans (congrArg (x_istore 3) xe_nil))))))))))))
abbrev po_X11_fairOf (T : Zt) (sh : Int) : Zt → Option Zv → Prop := fun T' r => T = T' ∧ ∃ x : Int, r = some (vI x) ∧ (0 ≤ x ∧ x ≤ 30130)
set_option maxHeartbeats 4000000 in
theorem ct_X11_fairOf {T : Zt} {sh : Int} (h1 : 0 ≤ sh ∧ sh < 800) (hyb : YB_ T) : Ct_ yX11_fairOf zX11_fairOf T [vR 111 0, vI sh] (po_X11_fairOf T sh) := by
  refine ct_of pn_11 rfl rfl (Nat.le_of_ble_eq_true rfl) (fun hT hav => ?_)
  have hr_sh : -2147483648 ≤ sh ∧ sh ≤ 2147483647 := hav (vI sh) (List.mem_cons_of_mem _ List.mem_cons_self)
  have hz : zX11_fairOf.2.2.2.1 = some .boolean → ∀ (T' : Zt) (x : Int), po_X11_fairOf T sh T' (some (vI x)) → 0 ≤ x ∧ x ≤ 1 := fun h => by cases h
  show J_ zX11_fairOf T (po_X11_fairOf T sh) 0 0 0 [some (vR 111 0), some (vI sh), none, none] [] T
  have c_7 : ∀ (nn : Nat) (f : Int) (i : Int), ((10 * sh + 10 - i).toNat) ≤ nn → (10 * sh ≤ i ∧ i ≤ 10 * sh + 10 ∧ 0 ≤ f ∧ f ≤ 3013 * (i - 10 * sh)) → J_ zX11_fairOf T (po_X11_fairOf T sh) 0 0 7 [some (vR 111 0), some (vI sh), some (vI f), some (vI i)] [] T := by
    intro nn
    induction nn using Nat.strongRecOn with
    | _ nn ih_7 =>
      intro f i hm_7 i1
      replace hm_7 := fun (_ : Unit) => hm_7
      refine j_blx (F := fX11) tb_X11 (nn_ _) bk_X11_fairOf_7 bs_X11_fairOf_7 hz (fun K hK => ?_)
      refine rg_i (by omega) ?_
      refine ix_i (by omega) ?_
      intro b1 b1b
      refine rg_i (by omega) ?_
      refine And.intro (fun c2 => ?_) (fun c2 => ?_)
      · refine hK 52 _ [] T ?_
        refine j_blx (F := fX11) tb_X11 (nn_ _) bk_X11_fairOf_52 bs_X11_fairOf_52 hz (fun K hK => ?_)
        refine (show po_X11_fairOf T sh T (some (vI f)) from ?_)
        exact ⟨rfl, _, rfl, by omega⟩
      · have hy := hyb i (by omega) (by omega)
        refine ix_i (by omega) ?_
        intro b3 b3b
        refine ix_i (by omega) ?_
        intro b4 b4b
        refine And.intro (fun c5 => ?_) (fun c5 => ?_)
        · refine hK 42 _ [vI (T 242 0 i), vI f] T ?_
          refine j_blx (F := fX11) tb_X11 (nn_ _) bk_X11_fairOf_42 bs_X11_fairOf_42 hz (fun K hK => ?_)
          refine rg_i (by omega) ?_
          refine rg_i (by omega) ?_
          refine rg_i (by omega) ?_
          refine hK 7 [some (vR 111 0), some (vI sh), some (vI (f + ((T 242 0 i) + 0))), some (vI (i + 1))] [] T ?_
          refine ih_7 _ ?_ (f + ((T 242 0 i) + 0)) (i + 1) (Nat.le_refl _) ?_
          · have hm_7 := hm_7 (); omega
          · omega
        · refine hK 43 [some (vR 111 0), some (vI sh), some (vI f), some (vI i)] [vI 3, vI (T 242 0 i), vI f] T ?_
          refine j_blx (F := fX11) tb_X11 (nn_ _) bk_X11_fairOf_43 bs_X11_fairOf_43 hz (fun K hK => ?_)
          refine rg_i (by omega) ?_
          refine rg_i (by omega) ?_
          refine rg_i (by omega) ?_
          refine hK 7 [some (vR 111 0), some (vI sh), some (vI (f + ((T 242 0 i) + 3))), some (vI (i + 1))] [] T ?_
          refine ih_7 _ ?_ (f + ((T 242 0 i) + 3)) (i + 1) (Nat.le_refl _) ?_
          · have hm_7 := hm_7 (); omega
          · omega
  refine j_blx (F := fX11) tb_X11 (nn_ _) bk_X11_fairOf_0 bs_X11_fairOf_0 hz (fun K hK => ?_)
  refine rg_i (by omega) ?_
  refine hK 7 [some (vR 111 0), some (vI sh), some (vI 0), some (vI (10 * sh))] [] T ?_
  refine c_7 _ 0 (10 * sh) (Nat.le_refl _) ?_
  · omega

