def SC_ (T : Zt) : Prop := ∀ m : Int, 0 ≤ m → m < 400 → (0 ≤ T 236 0 m ∧ T 236 0 m ≤ 20000) ∧ (0 ≤ T 237 0 m ∧ T 237 0 m ≤ 20000)
theorem SC__f {ws : List (Nat × List Int)} {T T' : Zt} (h : SC_ T) (f : fr_ ws T T') (w : (∀ j, fw_ ws 236 j = false) ∧ (∀ j, fw_ ws 237 j = false) ∧ True) : SC_ T' := by
  have e0 : ∀ i j, T' 236 i j = T 236 i j := fun i j => f 236 i j (w.1 j)
  have e1 : ∀ i j, T' 237 i j = T 237 i j := fun i j => f 237 i j (w.2.1 j)
  simp only [SC_, e0, e1] at h ⊢
  exact h
def YB_ (T : Zt) : Prop := ∀ j : Int, 0 ≤ j → j < 8000 → 0 ≤ T 242 0 j ∧ T 242 0 j ≤ 3010
theorem YB__f {ws : List (Nat × List Int)} {T T' : Zt} (h : YB_ T) (f : fr_ ws T T') (w : (∀ j, fw_ ws 242 j = false) ∧ True) : YB_ T' := by
  have e0 : ∀ i j, T' 242 i j = T 242 i j := fun i j => f 242 i j (w.1 j)
  simp only [YB_, e0] at h ⊢
  exact h
theorem sc_g {T : Zt} (h : GX_ T (-1)) (r : ∀ m, 0 ≤ m → m < 400 → T 254 0 m ≤ 3000) : SC_ T := fun m a b => by
  have k := h m a b (by omega)
  have q := r m a b
  have k1 := k.1
  have k2 := k.2.1
  omega
theorem yb_g {T : Zt} (h : GX_ T (-1)) (r : ∀ m, 0 ≤ m → m < 400 → T 254 0 m ≤ 3000) : YB_ T := fun j a b => by
  have k := (h (j / 20) (by omega) (by omega) (by omega)).2.2 j (by omega) (by omega)
  have q := r (j / 20) (by omega) (by omega)
  omega
def TB_ (T : Zt) (b : Int) : Prop := ∀ j, 0 ≤ j → j < 108 → -b ≤ T 276 0 j ∧ T 276 0 j ≤ b ∧ (j % 9 = 6 → -b ≤ 20 * T 276 0 j ∧ 20 * T 276 0 j ≤ b)
theorem tb_u {T T1 : Zt} {b i v d : Int} (h : TB_ T b) (e : T1 = up_ T 276 0 i v) (hd : 0 ≤ d) (hv : -(b + d) ≤ v ∧ v ≤ b + d ∧ (i % 9 = 6 → -(b + d) ≤ 20 * v ∧ 20 * v ≤ b + d)) : TB_ T1 (b + d) := fun j a c => by
  by_cases z : j = i
  · rw [z, up_f e]; exact hv
  · rw [up_g e (fun q => z q.2.2)]
    have := h j a c
    omega
theorem tb_f {T T1 : Zt} {b : Int} (h : TB_ T b) (e : ∀ j, T1 276 0 j = T 276 0 j) : TB_ T1 b := fun j a c => by rw [e]; exact h j a c
theorem tb_m {T : Zt} {b d : Int} (h : TB_ T b) (e : b ≤ d) : TB_ T d := fun j a c => by
  have := h j a c
  omega
def SA_ (T : Zt) (b : Int) : Prop := ∀ j, 0 ≤ j → j < 36 → -b ≤ T 284 0 j ∧ T 284 0 j ≤ b
theorem sa_u {T T1 : Zt} {b i v d : Int} (h : SA_ T b) (e : T1 = up_ T 284 0 i v) (hd : 0 ≤ d) (hv : -(b + d) ≤ v ∧ v ≤ b + d) : SA_ T1 (b + d) := fun j a c => by
  by_cases z : j = i
  · rw [z, up_f e]; exact hv
  · rw [up_g e (fun q => z q.2.2)]
    have := h j a c
    omega
theorem sa_f {T T1 : Zt} {b : Int} (h : SA_ T b) (e : ∀ j, T1 284 0 j = T 284 0 j) : SA_ T1 b := fun j a c => by rw [e]; exact h j a c
theorem sa_m {T : Zt} {b d : Int} (h : SA_ T b) (e : b ≤ d) : SA_ T d := fun j a c => by
  have := h j a c
  omega
abbrev cX11_counts : ByteArray := prog_13_method_81_code
def yX11_counts : MethodName := ⟨RX11, "counts", "(II)Z"⟩
def zX11_counts : Zm := (RX11, cX11_counts, 3, (some .boolean), { frames := 0, cells := 0, slots := 0, locals := 0 })
theorem bk_X11_counts_0 : ck_ fX11 (some .boolean) cX11_counts 0 [.aload 0, .tableswitch 0 11 35 #[], .iload 1, .iaload, .iconst 2, .if_icmp .eq 20, .aload 0, .tableswitch 0 11 35 #[], .iload 1, .iaload, .iconst 3, .if_icmp .ne 56, .aload 0, .aload 0, .tableswitch 0 11 36 #[], .iload 1, .iaload, .tableswitch 1 11 82 #[], .aload 0, .aload 0, .tableswitch 0 11 37 #[], .iload 1, .iaload, .tableswitch 1 11 83 #[], .aload 0, .tableswitch 0 11 34 #[], .iload 1, .iaload, .iload 2, .if_icmp .gt 54, .iconst 1, .goto 55] 54 = true := qck_r (nn_ _) (by decide +kernel)
theorem bs_X11_counts_0 {P : Zt → Option Zv → Prop} (K : Int → Zl → List Zv → Zt → Prop) : sx_ K P [.aload 0, .tableswitch 0 11 35 #[], .iload 1, .iaload, .iconst 2, .if_icmp .eq 20, .aload 0, .tableswitch 0 11 35 #[], .iload 1, .iaload, .iconst 3, .if_icmp .ne 56, .aload 0, .aload 0, .tableswitch 0 11 36 #[], .iload 1, .iaload, .tableswitch 1 11 82 #[], .aload 0, .aload 0, .tableswitch 0 11 37 #[], .iload 1, .iaload, .tableswitch 1 11 83 #[], .aload 0, .tableswitch 0 11 34 #[], .iload 1, .iaload, .iload 2, .if_icmp .gt 54, .iconst 1, .goto 55] 54 = x_aload 0 (x_g1 111 235 (x_iload 1 (x_iaload (x_iconst 2 (x_if_icmp .eq 20 K (x_aload 0 (x_g1 111 235 (x_iload 1 (x_iaload (x_iconst 3 (x_if_icmp .ne 56 K (x_aload 0 (x_aload 0 (x_g1 111 236 (x_iload 1 (x_iaload (x_p 111 82 (-2147483648) 2147483647 (x_aload 0 (x_aload 0 (x_g1 111 237 (x_iload 1 (x_iaload (x_p 111 83 (-2147483648) 2147483647 (x_aload 0 (x_g1 111 234 (x_iload 1 (x_iaload (x_iload 2 (x_if_icmp .gt 54 K (x_iconst 1 (x_goto 55 K))))))))))))))))))))))))))))))) := ((xe_aload 0).trans (congrArg (x_aload 0) ((xe_g1 (kk := 111) rfl tl_11_35).trans (congrArg (x_g1 111 235) ((xe_iload 1).trans (congrArg (x_iload 1) ((xe_iaload).trans (congrArg (x_iaload) ((xe_iconst 2).trans (congrArg (x_iconst 2) ((xe_if_icmp .eq 20).trans (congrArg (x_if_icmp .eq 20 K) ((xe_aload 0).trans (congrArg (x_aload 0) ((xe_g1 (kk := 111) rfl tl_11_35).trans (congrArg (x_g1 111 235) ((xe_iload 1).trans (congrArg (x_iload 1) ((xe_iaload).trans (congrArg (x_iaload) ((xe_iconst 3).trans (congrArg (x_iconst 3) ((xe_if_icmp .ne 56).trans (congrArg (x_if_icmp .ne 56 K) ((xe_aload 0).trans (congrArg (x_aload 0) ((xe_aload 0).trans (congrArg (x_aload 0) ((xe_g1 (kk := 111) rfl tl_11_36).trans (congrArg (x_g1 111 236) ((xe_iload 1).trans (congrArg (x_iload 1) ((xe_iaload).trans (congrArg (x_iaload) ((xe_p (kk := 111) rfl tl_11_82).trans (congrArg (x_p 111 82 (-2147483648) 2147483647) ((xe_aload 0).trans (congrArg (x_aload 0) ((xe_aload 0).trans (congrArg (x_aload 0) ((xe_g1 (kk := 111) rfl tl_11_37).trans (congrArg (x_g1 111 237) ((xe_iload 1).trans (congrArg (x_iload 1) ((xe_iaload).trans (congrArg (x_iaload) ((xe_p (kk := 111) rfl tl_11_83).trans (congrArg (x_p 111 83 (-2147483648) 2147483647) ((xe_aload 0).trans (congrArg (x_aload 0) ((xe_g1 (kk := 111) rfl tl_11_34).trans (congrArg (x_g1 111 234) ((xe_iload 1).trans (congrArg (x_iload 1) ((xe_iaload).trans (congrArg (x_iaload) ((xe_iload 2).trans (congrArg (x_iload 2) ((xe_if_icmp .gt 54).trans (congrArg (x_if_icmp .gt 54 K) ((xe_iconst 1).trans (congrArg (x_iconst 1) (xe_goto 55)))))))))))))))))))))))))))))))))))))))))))))))))))))))))))))))
theorem bk_X11_counts_20 : ck_ fX11 (some .boolean) cX11_counts 20 [.aload 0, .aload 0, .tableswitch 0 11 36 #[], .iload 1, .iaload, .tableswitch 1 11 82 #[], .aload 0, .aload 0, .tableswitch 0 11 37 #[], .iload 1, .iaload, .tableswitch 1 11 83 #[], .aload 0, .tableswitch 0 11 34 #[], .iload 1, .iaload, .iload 2, .if_icmp .gt 54, .iconst 1, .goto 55] 54 = true := qck_r (nn_ _) (by decide +kernel)
theorem bs_X11_counts_20 {P : Zt → Option Zv → Prop} (K : Int → Zl → List Zv → Zt → Prop) : sx_ K P [.aload 0, .aload 0, .tableswitch 0 11 36 #[], .iload 1, .iaload, .tableswitch 1 11 82 #[], .aload 0, .aload 0, .tableswitch 0 11 37 #[], .iload 1, .iaload, .tableswitch 1 11 83 #[], .aload 0, .tableswitch 0 11 34 #[], .iload 1, .iaload, .iload 2, .if_icmp .gt 54, .iconst 1, .goto 55] 54 = x_aload 0 (x_aload 0 (x_g1 111 236 (x_iload 1 (x_iaload (x_p 111 82 (-2147483648) 2147483647 (x_aload 0 (x_aload 0 (x_g1 111 237 (x_iload 1 (x_iaload (x_p 111 83 (-2147483648) 2147483647 (x_aload 0 (x_g1 111 234 (x_iload 1 (x_iaload (x_iload 2 (x_if_icmp .gt 54 K (x_iconst 1 (x_goto 55 K))))))))))))))))))) := ((xe_aload 0).trans (congrArg (x_aload 0) ((xe_aload 0).trans (congrArg (x_aload 0) ((xe_g1 (kk := 111) rfl tl_11_36).trans (congrArg (x_g1 111 236) ((xe_iload 1).trans (congrArg (x_iload 1) ((xe_iaload).trans (congrArg (x_iaload) ((xe_p (kk := 111) rfl tl_11_82).trans (congrArg (x_p 111 82 (-2147483648) 2147483647) ((xe_aload 0).trans (congrArg (x_aload 0) ((xe_aload 0).trans (congrArg (x_aload 0) ((xe_g1 (kk := 111) rfl tl_11_37).trans (congrArg (x_g1 111 237) ((xe_iload 1).trans (congrArg (x_iload 1) ((xe_iaload).trans (congrArg (x_iaload) ((xe_p (kk := 111) rfl tl_11_83).trans (congrArg (x_p 111 83 (-2147483648) 2147483647) ((xe_aload 0).trans (congrArg (x_aload 0) ((xe_g1 (kk := 111) rfl tl_11_34).trans (congrArg (x_g1 111 234) ((xe_iload 1).trans (congrArg (x_iload 1) ((xe_iaload).trans (congrArg (x_iaload) ((xe_iload 2).trans (congrArg (x_iload 2) ((xe_if_icmp .gt 54).trans (congrArg (x_if_icmp .gt 54 K) ((xe_iconst 1).trans (congrArg (x_iconst 1) (xe_goto 55)))))))))))))))))))))))))))))))))))))))
theorem bk_X11_counts_54 : ck_ fX11 (some .boolean) cX11_counts 54 [.iconst 0, .ireturn] 56 = true := qck_r (nn_ _) (by decide +kernel)
theorem bs_X11_counts_54 {P : Zt → Option Zv → Prop} (K : Int → Zl → List Zv → Zt → Prop) : sx_ K P [.iconst 0, .ireturn] 56 = x_iconst 0 (x_ireturn P) := ((xe_iconst 0).trans (congrArg (x_iconst 0) (xe_ireturn)))
theorem bk_X11_counts_55 : ck_ fX11 (some .boolean) cX11_counts 55 [.ireturn] 56 = true := qck_r (nn_ _) (by decide +kernel)
theorem bs_X11_counts_55 {P : Zt → Option Zv → Prop} (K : Int → Zl → List Zv → Zt → Prop) : sx_ K P [.ireturn] 56 = x_ireturn P := (xe_ireturn)
theorem bk_X11_counts_56 : ck_ fX11 (some .boolean) cX11_counts 56 [.aload 0, .tableswitch 0 11 80 #[], .ifCond .eq 102, .aload 0, .aload 0, .tableswitch 0 11 81 #[], .iload 1, .iaload, .ifCond .ne 77, .iconst 1, .goto 78] 77 = true := qck_r (nn_ _) (by decide +kernel)
theorem bs_X11_counts_56 {P : Zt → Option Zv → Prop} (K : Int → Zl → List Zv → Zt → Prop) : sx_ K P [.aload 0, .tableswitch 0 11 80 #[], .ifCond .eq 102, .aload 0, .aload 0, .tableswitch 0 11 81 #[], .iload 1, .iaload, .ifCond .ne 77, .iconst 1, .goto 78] 77 = x_aload 0 (x_g0 111 80 0 1 (x_ifCond .eq 102 K (x_aload 0 (x_aload 0 (x_g1 111 281 (x_iload 1 (x_iaload (x_ifCond .ne 77 K (x_iconst 1 (x_goto 78 K)))))))))) := ((xe_aload 0).trans (congrArg (x_aload 0) ((xe_g0 (kk := 111) rfl tl_11_80).trans (congrArg (x_g0 111 80 0 1) ((xe_ifCond .eq 102).trans (congrArg (x_ifCond .eq 102 K) ((xe_aload 0).trans (congrArg (x_aload 0) ((xe_aload 0).trans (congrArg (x_aload 0) ((xe_g1 (kk := 111) rfl tl_11_81).trans (congrArg (x_g1 111 281) ((xe_iload 1).trans (congrArg (x_iload 1) ((xe_iaload).trans (congrArg (x_iaload) ((xe_ifCond .ne 77).trans (congrArg (x_ifCond .ne 77 K) ((xe_iconst 1).trans (congrArg (x_iconst 1) (xe_goto 78)))))))))))))))))))))
theorem bk_X11_counts_102 : ck_ fX11 (some .boolean) cX11_counts 102 [.iconst 0, .ireturn] 104 = true := qck_r (nn_ _) (by decide +kernel)
theorem bs_X11_counts_102 {P : Zt → Option Zv → Prop} (K : Int → Zl → List Zv → Zt → Prop) : sx_ K P [.iconst 0, .ireturn] 104 = x_iconst 0 (x_ireturn P) := ((xe_iconst 0).trans (congrArg (x_iconst 0) (xe_ireturn)))
theorem bk_X11_counts_77 : ck_ fX11 (some .boolean) cX11_counts 77 [.iconst 0, .tableswitch 1 11 82 #[], .aload 0, .aload 0, .tableswitch 0 11 81 #[], .iload 1, .iaload, .iconst 2, .if_icmp .ne 96, .iconst 1, .goto 97] 96 = true := qck_r (nn_ _) (by decide +kernel)
theorem bs_X11_counts_77 {P : Zt → Option Zv → Prop} (K : Int → Zl → List Zv → Zt → Prop) : sx_ K P [.iconst 0, .tableswitch 1 11 82 #[], .aload 0, .aload 0, .tableswitch 0 11 81 #[], .iload 1, .iaload, .iconst 2, .if_icmp .ne 96, .iconst 1, .goto 97] 96 = x_iconst 0 (x_p 111 82 (-2147483648) 2147483647 (x_aload 0 (x_aload 0 (x_g1 111 281 (x_iload 1 (x_iaload (x_iconst 2 (x_if_icmp .ne 96 K (x_iconst 1 (x_goto 97 K)))))))))) := ((xe_iconst 0).trans (congrArg (x_iconst 0) ((xe_p (kk := 111) rfl tl_11_82).trans (congrArg (x_p 111 82 (-2147483648) 2147483647) ((xe_aload 0).trans (congrArg (x_aload 0) ((xe_aload 0).trans (congrArg (x_aload 0) ((xe_g1 (kk := 111) rfl tl_11_81).trans (congrArg (x_g1 111 281) ((xe_iload 1).trans (congrArg (x_iload 1) ((xe_iaload).trans (congrArg (x_iaload) ((xe_iconst 2).trans (congrArg (x_iconst 2) ((xe_if_icmp .ne 96).trans (congrArg (x_if_icmp .ne 96 K) ((xe_iconst 1).trans (congrArg (x_iconst 1) (xe_goto 97)))))))))))))))))))))
theorem bk_X11_counts_96 : ck_ fX11 (some .boolean) cX11_counts 96 [.iconst 0, .tableswitch 1 11 83 #[], .iconst 1, .ireturn] 102 = true := qck_r (nn_ _) (by decide +kernel)
theorem bs_X11_counts_96 {P : Zt → Option Zv → Prop} (K : Int → Zl → List Zv → Zt → Prop) : sx_ K P [.iconst 0, .tableswitch 1 11 83 #[], .iconst 1, .ireturn] 102 = x_iconst 0 (x_p 111 83 (-2147483648) 2147483647 (x_iconst 1 (x_ireturn P))) := ((xe_iconst 0).trans (congrArg (x_iconst 0) ((xe_p (kk := 111) rfl tl_11_83).trans (congrArg (x_p 111 83 (-2147483648) 2147483647) ((xe_iconst 1).trans (congrArg (x_iconst 1) (xe_ireturn)))))))
theorem bk_X11_counts_97 : ck_ fX11 (some .boolean) cX11_counts 97 [.tableswitch 1 11 83 #[], .iconst 1, .ireturn] 102 = true := qck_r (nn_ _) (by decide +kernel)
theorem bs_X11_counts_97 {P : Zt → Option Zv → Prop} (K : Int → Zl → List Zv → Zt → Prop) : sx_ K P [.tableswitch 1 11 83 #[], .iconst 1, .ireturn] 102 = x_p 111 83 (-2147483648) 2147483647 (x_iconst 1 (x_ireturn P)) := ((xe_p (kk := 111) rfl tl_11_83).trans (congrArg (x_p 111 83 (-2147483648) 2147483647) ((xe_iconst 1).trans (congrArg (x_iconst 1) (xe_ireturn)))))
theorem bk_X11_counts_78 : ck_ fX11 (some .boolean) cX11_counts 78 [.tableswitch 1 11 82 #[], .aload 0, .aload 0, .tableswitch 0 11 81 #[], .iload 1, .iaload, .iconst 2, .if_icmp .ne 96, .iconst 1, .goto 97] 96 = true := qck_r (nn_ _) (by decide +kernel)
theorem bs_X11_counts_78 {P : Zt → Option Zv → Prop} (K : Int → Zl → List Zv → Zt → Prop) : sx_ K P [.tableswitch 1 11 82 #[], .aload 0, .aload 0, .tableswitch 0 11 81 #[], .iload 1, .iaload, .iconst 2, .if_icmp .ne 96, .iconst 1, .goto 97] 96 = x_p 111 82 (-2147483648) 2147483647 (x_aload 0 (x_aload 0 (x_g1 111 281 (x_iload 1 (x_iaload (x_iconst 2 (x_if_icmp .ne 96 K (x_iconst 1 (x_goto 97 K))))))))) := ((xe_p (kk := 111) rfl tl_11_82).trans (congrArg (x_p 111 82 (-2147483648) 2147483647) ((xe_aload 0).trans (congrArg (x_aload 0) ((xe_aload 0).trans (congrArg (x_aload 0) ((xe_g1 (kk := 111) rfl tl_11_81).trans (congrArg (x_g1 111 281) ((xe_iload 1).trans (congrArg (x_iload 1) ((xe_iaload).trans (congrArg (x_iaload) ((xe_iconst 2).trans (congrArg (x_iconst 2) ((xe_if_icmp .ne 96).trans (congrArg (x_if_icmp .ne 96 K) ((xe_iconst 1).trans (congrArg (x_iconst 1) (xe_goto 97)))))))))))))))))))
abbrev po_X11_counts (T : Zt) (m d : Int) : Zt → Option Zv → Prop := fun T' r => ∃ x : Int, r = some (vI x) ∧ fr_ [(111, [82, 83])] T T' ∧ ((0 ≤ x ∧ x ≤ 1) ∧ (x = 1 → (0 ≤ T' 111 0 82 ∧ T' 111 0 82 ≤ 20000) ∧ (0 ≤ T' 111 0 83 ∧ T' 111 0 83 ≤ 20000)))
set_option maxHeartbeats 4000000 in
theorem ct_X11_counts {T : Zt} {m d : Int} (h1 : 0 ≤ m ∧ m < 400) (hsc : SC_ T) : Ct_ yX11_counts zX11_counts T [vR 111 0, vI m, vI d] (po_X11_counts T m d) := by
  refine ct_of pn_11 rfl rfl (Nat.le_of_ble_eq_true rfl) (fun hT hav => ?_)
  have hr_m : -2147483648 ≤ m ∧ m ≤ 2147483647 := hav (vI m) (List.mem_cons_of_mem _ List.mem_cons_self)
  have hr_d : -2147483648 ≤ d ∧ d ≤ 2147483647 := hav (vI d) (List.mem_cons_of_mem _ (List.mem_cons_of_mem _ List.mem_cons_self))
  have hz : zX11_counts.2.2.2.1 = some .boolean → ∀ (T' : Zt) (x : Int), po_X11_counts T m d T' (some (vI x)) → 0 ≤ x ∧ x ≤ 1 := fun _ T' x h => by obtain ⟨y, e, -, hy⟩ := h; cases e; omega
  have hsm := hsc m (by omega) (by omega)
  show J_ zX11_counts T (po_X11_counts T m d) 0 0 0 [some (vR 111 0), some (vI m), some (vI d)] [] T
  refine j_blx (F := fX11) tb_X11 (nn_ _) bk_X11_counts_0 bs_X11_counts_0 hz (fun K hK => ?_)
  refine ix_i (by omega) ?_
  intro b1 b1b
  refine And.intro (fun c2 => ?_) (fun c2 => ?_)
  · refine hK 20 _ [] T ?_
    refine j_blx (F := fX11) tb_X11 (nn_ _) bk_X11_counts_20 bs_X11_counts_20 hz (fun K hK => ?_)
    refine ix_i (by omega) ?_
    intro b3 b3b
    refine bd_i (by omega) ?_
    refine x_nm (fun U4 hU4 => ?_)
    have e5 := up_f hU4
    refine ix_i (by omega) ?_
    intro b6 b6b
    have e7 : U4 237 0 m = T 237 0 m := up_k hU4 (by exact Nat.ne_of_beq_eq_false rfl) 0 m
    rw [e7] at b6 b6b ⊢
    refine bd_i (by omega) ?_
    refine x_nm (fun U8 hU8 => ?_)
    have e9 := up_f hU8
    refine ix_i (by omega) ?_
    intro b10 b10b
    have e11 : U8 234 0 m = T 234 0 m := (up_k hU8 (by exact Nat.ne_of_beq_eq_false rfl) 0 m).trans (up_k hU4 (by exact Nat.ne_of_beq_eq_false rfl) 0 m)
    rw [e11] at b10 b10b ⊢
    refine And.intro (fun c12 => ?_) (fun c12 => ?_)
    · refine hK 54 _ [] U8 ?_
      refine j_blx (F := fX11) tb_X11 (nn_ _) bk_X11_counts_54 bs_X11_counts_54 hz (fun K hK => ?_)
      refine (show po_X11_counts T m d U8 (some (vI 0)) from ?_)
      have e13 : U8 111 0 82 = T 236 0 m := (up_j hU8 (by exact ni_ rfl) 111 0).trans (up_f hU4)
      have e14 : U8 111 0 83 = T 237 0 m := up_f hU8
      exact ⟨_, rfl, fr_u (fr_u (fr_0 _ _) hU4 rfl) hU8 rfl, by omega, fun z => absurd z (by decide)⟩
    · refine hK 55 _ [vI 1] U8 ?_
      refine j_blx (F := fX11) tb_X11 (nn_ _) bk_X11_counts_55 bs_X11_counts_55 hz (fun K hK => ?_)
      refine (show po_X11_counts T m d U8 (some (vI 1)) from ?_)
      have e15 : U8 111 0 82 = T 236 0 m := (up_j hU8 (by exact ni_ rfl) 111 0).trans (up_f hU4)
      have e16 : U8 111 0 83 = T 237 0 m := up_f hU8
      exact ⟨_, rfl, fr_u (fr_u (fr_0 _ _) hU4 rfl) hU8 rfl, by omega, fun _ => by omega⟩
  · refine ix_i (by omega) ?_
    intro b17 b17b
    refine And.intro (fun c18 => ?_) (fun c18 => ?_)
    · refine hK 56 _ [] T ?_
      refine j_blx (F := fX11) tb_X11 (nn_ _) bk_X11_counts_56 bs_X11_counts_56 hz (fun K hK => ?_)
      intro b19 b19b
      refine And.intro (fun c20 => ?_) (fun c20 => ?_)
      · refine hK 102 _ [] T ?_
        refine j_blx (F := fX11) tb_X11 (nn_ _) bk_X11_counts_102 bs_X11_counts_102 hz (fun K hK => ?_)
        refine (show po_X11_counts T m d T (some (vI 0)) from ?_)
        exact ⟨_, rfl, fr_0 _ _, by omega, fun z => absurd z (by decide)⟩
      · refine ix_i (by omega) ?_
        intro b21 b21b
        refine And.intro (fun c22 => ?_) (fun c22 => ?_)
        · refine hK 77 _ [vR 111 0] T ?_
          refine j_blx (F := fX11) tb_X11 (nn_ _) bk_X11_counts_77 bs_X11_counts_77 hz (fun K hK => ?_)
          refine bd_i (by omega) ?_
          refine x_nm (fun U23 hU23 => ?_)
          have e24 := up_f hU23
          refine ix_i (by omega) ?_
          intro b25 b25b
          have e26 : U23 281 0 m = T 281 0 m := up_k hU23 (by exact Nat.ne_of_beq_eq_false rfl) 0 m
          rw [e26] at b25 b25b ⊢
          refine And.intro (fun c27 => ?_) (fun c27 => ?_)
          · refine hK 96 _ [vR 111 0] U23 ?_
            refine j_blx (F := fX11) tb_X11 (nn_ _) bk_X11_counts_96 bs_X11_counts_96 hz (fun K hK => ?_)
            refine bd_i (by omega) ?_
            refine x_nm (fun U28 hU28 => ?_)
            have e29 := up_f hU28
            refine (show po_X11_counts T m d U28 (some (vI 1)) from ?_)
            have e30 : U28 111 0 82 = 0 := (up_j hU28 (by exact ni_ rfl) 111 0).trans (up_f hU23)
            have e31 : U28 111 0 83 = 0 := up_f hU28
            exact ⟨_, rfl, fr_u (fr_u (fr_0 _ _) hU23 rfl) hU28 rfl, by omega, fun _ => by omega⟩
          · refine hK 97 _ [vI 1, vR 111 0] U23 ?_
            refine j_blx (F := fX11) tb_X11 (nn_ _) bk_X11_counts_97 bs_X11_counts_97 hz (fun K hK => ?_)
            refine bd_i (by omega) ?_
            refine x_nm (fun U32 hU32 => ?_)
            have e33 := up_f hU32
            refine (show po_X11_counts T m d U32 (some (vI 1)) from ?_)
            have e34 : U32 111 0 82 = 0 := (up_j hU32 (by exact ni_ rfl) 111 0).trans (up_f hU23)
            have e35 : U32 111 0 83 = 1 := up_f hU32
            exact ⟨_, rfl, fr_u (fr_u (fr_0 _ _) hU23 rfl) hU32 rfl, by omega, fun _ => by omega⟩
        · refine hK 78 _ [vI 1, vR 111 0] T ?_
          refine j_blx (F := fX11) tb_X11 (nn_ _) bk_X11_counts_78 bs_X11_counts_78 hz (fun K hK => ?_)
          refine bd_i (by omega) ?_
          refine x_nm (fun U36 hU36 => ?_)
          have e37 := up_f hU36
          refine ix_i (by omega) ?_
          intro b38 b38b
          have e39 : U36 281 0 m = T 281 0 m := up_k hU36 (by exact Nat.ne_of_beq_eq_false rfl) 0 m
          rw [e39] at b38 b38b ⊢
          refine And.intro (fun c40 => ?_) (fun c40 => ?_)
          · refine hK 96 _ [vR 111 0] U36 ?_
            refine j_blx (F := fX11) tb_X11 (nn_ _) bk_X11_counts_96 bs_X11_counts_96 hz (fun K hK => ?_)
            refine bd_i (by omega) ?_
            refine x_nm (fun U41 hU41 => ?_)
            have e42 := up_f hU41
            refine (show po_X11_counts T m d U41 (some (vI 1)) from ?_)
            have e43 : U41 111 0 82 = 1 := (up_j hU41 (by exact ni_ rfl) 111 0).trans (up_f hU36)
            have e44 : U41 111 0 83 = 0 := up_f hU41
            exact ⟨_, rfl, fr_u (fr_u (fr_0 _ _) hU36 rfl) hU41 rfl, by omega, fun _ => by omega⟩
          · refine hK 97 _ [vI 1, vR 111 0] U36 ?_
            refine j_blx (F := fX11) tb_X11 (nn_ _) bk_X11_counts_97 bs_X11_counts_97 hz (fun K hK => ?_)
            refine bd_i (by omega) ?_
            refine x_nm (fun U45 hU45 => ?_)
            have e46 := up_f hU45
            refine (show po_X11_counts T m d U45 (some (vI 1)) from ?_)
            have e47 : U45 111 0 82 = 1 := (up_j hU45 (by exact ni_ rfl) 111 0).trans (up_f hU36)
            have e48 : U45 111 0 83 = 1 := up_f hU45
            exact ⟨_, rfl, fr_u (fr_u (fr_0 _ _) hU36 rfl) hU45 rfl, by omega, fun _ => by omega⟩
    · refine ix_i (by omega) ?_
      intro b49 b49b
      refine bd_i (by omega) ?_
      refine x_nm (fun U50 hU50 => ?_)
      have e51 := up_f hU50
      refine ix_i (by omega) ?_
      intro b52 b52b
      have e53 : U50 237 0 m = T 237 0 m := up_k hU50 (by exact Nat.ne_of_beq_eq_false rfl) 0 m
      rw [e53] at b52 b52b ⊢
      refine bd_i (by omega) ?_
      refine x_nm (fun U54 hU54 => ?_)
      have e55 := up_f hU54
      refine ix_i (by omega) ?_
      intro b56 b56b
      have e57 : U54 234 0 m = T 234 0 m := (up_k hU54 (by exact Nat.ne_of_beq_eq_false rfl) 0 m).trans (up_k hU50 (by exact Nat.ne_of_beq_eq_false rfl) 0 m)
      rw [e57] at b56 b56b ⊢
      refine And.intro (fun c58 => ?_) (fun c58 => ?_)
      · refine hK 54 _ [] U54 ?_
        refine j_blx (F := fX11) tb_X11 (nn_ _) bk_X11_counts_54 bs_X11_counts_54 hz (fun K hK => ?_)
        refine (show po_X11_counts T m d U54 (some (vI 0)) from ?_)
        have e59 : U54 111 0 82 = T 236 0 m := (up_j hU54 (by exact ni_ rfl) 111 0).trans (up_f hU50)
        have e60 : U54 111 0 83 = T 237 0 m := up_f hU54
        exact ⟨_, rfl, fr_u (fr_u (fr_0 _ _) hU50 rfl) hU54 rfl, by omega, fun z => absurd z (by decide)⟩
      · refine hK 55 _ [vI 1] U54 ?_
        refine j_blx (F := fX11) tb_X11 (nn_ _) bk_X11_counts_55 bs_X11_counts_55 hz (fun K hK => ?_)
        refine (show po_X11_counts T m d U54 (some (vI 1)) from ?_)
        have e61 : U54 111 0 82 = T 236 0 m := (up_j hU54 (by exact ni_ rfl) 111 0).trans (up_f hU50)
        have e62 : U54 111 0 83 = T 237 0 m := up_f hU54
        exact ⟨_, rfl, fr_u (fr_u (fr_0 _ _) hU50 rfl) hU54 rfl, by omega, fun _ => by omega⟩
abbrev cX11_tellResult : ByteArray := prog_13_method_82_code
def yX11_tellResult : MethodName := ⟨RX11, "tellResult", "(IIII)V"⟩
def zX11_tellResult : Zm := (RX11, cX11_tellResult, 6, none, { frames := 1, cells := 0, slots := 0, locals := 22 })
theorem bk_X11_tellResult_86 : ck_ fX11 none cX11_tellResult 86 [.aload 0, .tableswitch 0 11 76 #[], .iload 5, .iconst 4, .iadd, .dup2, .iaload, .iload 3, .iadd, .iastore, .aload 0, .tableswitch 0 11 76 #[], .iload 5, .iconst 5, .iadd, .dup2, .iaload, .iload 4, .iadd, .iastore, .aload 0, .tableswitch 0 11 76 #[], .iload 5, .iconst 6, .iadd, .dup2, .iaload, .iload 3, .iload 4, .if_icmp .le 139, .aload 0, .iload 1, .iconst 1] 133 = true := qck_r (nn_ _) (by decide +kernel)
theorem bs_X11_tellResult_86 {P : Zt → Option Zv → Prop} (K : Int → Zl → List Zv → Zt → Prop) : sx_ K P [.aload 0, .tableswitch 0 11 76 #[], .iload 5, .iconst 4, .iadd, .dup2, .iaload, .iload 3, .iadd, .iastore, .aload 0, .tableswitch 0 11 76 #[], .iload 5, .iconst 5, .iadd, .dup2, .iaload, .iload 4, .iadd, .iastore, .aload 0, .tableswitch 0 11 76 #[], .iload 5, .iconst 6, .iadd, .dup2, .iaload, .iload 3, .iload 4, .if_icmp .le 139, .aload 0, .iload 1, .iconst 1] 133 = x_aload 0 (x_g1 111 276 (x_iload 5 (x_iconst 4 (x_iadd (x_dup2 (x_iaload (x_iload 3 (x_iadd (x_iastore (x_aload 0 (x_g1 111 276 (x_iload 5 (x_iconst 5 (x_iadd (x_dup2 (x_iaload (x_iload 4 (x_iadd (x_iastore (x_aload 0 (x_g1 111 276 (x_iload 5 (x_iconst 6 (x_iadd (x_dup2 (x_iaload (x_iload 3 (x_iload 4 (x_if_icmp .le 139 K (x_aload 0 (x_iload 1 (x_iconst 1 (K 133))))))))))))))))))))))))))))))))) := ((xe_aload 0).trans (congrArg (x_aload 0) ((xe_g1 (kk := 111) rfl tl_11_76).trans (congrArg (x_g1 111 276) ((xe_iload 5).trans (congrArg (x_iload 5) ((xe_iconst 4).trans (congrArg (x_iconst 4) ((xe_iadd).trans (congrArg (x_iadd) ((xe_dup2).trans (congrArg (x_dup2) ((xe_iaload).trans (congrArg (x_iaload) ((xe_iload 3).trans (congrArg (x_iload 3) ((xe_iadd).trans (congrArg (x_iadd) ((xe_iastore).trans (congrArg (x_iastore) ((xe_aload 0).trans (congrArg (x_aload 0) ((xe_g1 (kk := 111) rfl tl_11_76).trans (congrArg (x_g1 111 276) ((xe_iload 5).trans (congrArg (x_iload 5) ((xe_iconst 5).trans (congrArg (x_iconst 5) ((xe_iadd).trans (congrArg (x_iadd) ((xe_dup2).trans (congrArg (x_dup2) ((xe_iaload).trans (congrArg (x_iaload) ((xe_iload 4).trans (congrArg (x_iload 4) ((xe_iadd).trans (congrArg (x_iadd) ((xe_iastore).trans (congrArg (x_iastore) ((xe_aload 0).trans (congrArg (x_aload 0) ((xe_g1 (kk := 111) rfl tl_11_76).trans (congrArg (x_g1 111 276) ((xe_iload 5).trans (congrArg (x_iload 5) ((xe_iconst 6).trans (congrArg (x_iconst 6) ((xe_iadd).trans (congrArg (x_iadd) ((xe_dup2).trans (congrArg (x_dup2) ((xe_iaload).trans (congrArg (x_iaload) ((xe_iload 3).trans (congrArg (x_iload 3) ((xe_iload 4).trans (congrArg (x_iload 4) ((xe_if_icmp .le 139).trans (congrArg (x_if_icmp .le 139 K) ((xe_aload 0).trans (congrArg (x_aload 0) ((xe_iload 1).trans (congrArg (x_iload 1) ((xe_iconst 1).trans (congrArg (x_iconst 1) xe_nil))))))))))))))))))))))))))))))))))))))))))))))))))))))))))))))))))
theorem bk_X11_tellResult_139 : ck_ fX11 none cX11_tellResult 139 [.iload 3, .iload 4, .if_icmp .ne 154, .aload 0, .iload 1, .iconst 2] 148 = true := qck_r (nn_ _) (by decide +kernel)
theorem bs_X11_tellResult_139 {P : Zt → Option Zv → Prop} (K : Int → Zl → List Zv → Zt → Prop) : sx_ K P [.iload 3, .iload 4, .if_icmp .ne 154, .aload 0, .iload 1, .iconst 2] 148 = x_iload 3 (x_iload 4 (x_if_icmp .ne 154 K (x_aload 0 (x_iload 1 (x_iconst 2 (K 148)))))) := ((xe_iload 3).trans (congrArg (x_iload 3) ((xe_iload 4).trans (congrArg (x_iload 4) ((xe_if_icmp .ne 154).trans (congrArg (x_if_icmp .ne 154 K) ((xe_aload 0).trans (congrArg (x_aload 0) ((xe_iload 1).trans (congrArg (x_iload 1) ((xe_iconst 2).trans (congrArg (x_iconst 2) xe_nil))))))))))))
theorem bk_X11_tellResult_154 : ck_ fX11 none cX11_tellResult 154 [.aload 0, .iload 1, .iconst 3] 157 = true := qck_r (nn_ _) (by decide +kernel)
theorem bs_X11_tellResult_154 {P : Zt → Option Zv → Prop} (K : Int → Zl → List Zv → Zt → Prop) : sx_ K P [.aload 0, .iload 1, .iconst 3] 157 = x_aload 0 (x_iload 1 (x_iconst 3 (K 157))) := ((xe_aload 0).trans (congrArg (x_aload 0) ((xe_iload 1).trans (congrArg (x_iload 1) ((xe_iconst 3).trans (congrArg (x_iconst 3) xe_nil))))))
theorem bk_X11_tellResult_160 : ck_ fX11 none cX11_tellResult 160 [.iadd, .iastore, .return_] 163 = true := qck_r (nn_ _) (by decide +kernel)
theorem bs_X11_tellResult_160 {P : Zt → Option Zv → Prop} (K : Int → Zl → List Zv → Zt → Prop) : sx_ K P [.iadd, .iastore, .return_] 163 = x_iadd (x_iastore (x_return_ P)) := ((xe_iadd).trans (congrArg (x_iadd) ((xe_iastore).trans (congrArg (x_iastore) (xe_return_)))))
theorem bk_X11_tellResult_151 : ck_ fX11 none cX11_tellResult 151 [.goto 160] 154 = true := qck_r (nn_ _) (by decide +kernel)
theorem bs_X11_tellResult_151 {P : Zt → Option Zv → Prop} (K : Int → Zl → List Zv → Zt → Prop) : sx_ K P [.goto 160] 154 = x_goto 160 K := (xe_goto 160)
theorem bk_X11_tellResult_136 : ck_ fX11 none cX11_tellResult 136 [.goto 160] 139 = true := qck_r (nn_ _) (by decide +kernel)
theorem bs_X11_tellResult_136 {P : Zt → Option Zv → Prop} (K : Int → Zl → List Zv → Zt → Prop) : sx_ K P [.goto 160] 139 = x_goto 160 K := (xe_goto 160)
theorem bk_X11_tellResult_63 : ck_ fX11 none cX11_tellResult 63 [.aload 0, .tableswitch 0 11 76 #[], .iload 5, .iconst 3, .iadd, .dup2, .iaload, .iload 3, .iload 4, .if_icmp .ge 83, .iconst 1, .goto 84] 83 = true := qck_r (nn_ _) (by decide +kernel)
theorem bs_X11_tellResult_63 {P : Zt → Option Zv → Prop} (K : Int → Zl → List Zv → Zt → Prop) : sx_ K P [.aload 0, .tableswitch 0 11 76 #[], .iload 5, .iconst 3, .iadd, .dup2, .iaload, .iload 3, .iload 4, .if_icmp .ge 83, .iconst 1, .goto 84] 83 = x_aload 0 (x_g1 111 276 (x_iload 5 (x_iconst 3 (x_iadd (x_dup2 (x_iaload (x_iload 3 (x_iload 4 (x_if_icmp .ge 83 K (x_iconst 1 (x_goto 84 K))))))))))) := ((xe_aload 0).trans (congrArg (x_aload 0) ((xe_g1 (kk := 111) rfl tl_11_76).trans (congrArg (x_g1 111 276) ((xe_iload 5).trans (congrArg (x_iload 5) ((xe_iconst 3).trans (congrArg (x_iconst 3) ((xe_iadd).trans (congrArg (x_iadd) ((xe_dup2).trans (congrArg (x_dup2) ((xe_iaload).trans (congrArg (x_iaload) ((xe_iload 3).trans (congrArg (x_iload 3) ((xe_iload 4).trans (congrArg (x_iload 4) ((xe_if_icmp .ge 83).trans (congrArg (x_if_icmp .ge 83 K) ((xe_iconst 1).trans (congrArg (x_iconst 1) (xe_goto 84)))))))))))))))))))))))
theorem bk_X11_tellResult_83 : ck_ fX11 none cX11_tellResult 83 [.iconst 0, .iadd, .iastore] 86 = true := qck_r (nn_ _) (by decide +kernel)
theorem bs_X11_tellResult_83 {P : Zt → Option Zv → Prop} (K : Int → Zl → List Zv → Zt → Prop) : sx_ K P [.iconst 0, .iadd, .iastore] 86 = x_iconst 0 (x_iadd (x_iastore (K 86))) := ((xe_iconst 0).trans (congrArg (x_iconst 0) ((xe_iadd).trans (congrArg (x_iadd) ((xe_iastore).trans (congrArg (x_iastore) xe_nil))))))
theorem bk_X11_tellResult_84 : ck_ fX11 none cX11_tellResult 84 [.iadd, .iastore] 86 = true := qck_r (nn_ _) (by decide +kernel)
theorem bs_X11_tellResult_84 {P : Zt → Option Zv → Prop} (K : Int → Zl → List Zv → Zt → Prop) : sx_ K P [.iadd, .iastore] 86 = x_iadd (x_iastore (K 86)) := ((xe_iadd).trans (congrArg (x_iadd) ((xe_iastore).trans (congrArg (x_iastore) xe_nil))))
theorem bk_X11_tellResult_40 : ck_ fX11 none cX11_tellResult 40 [.aload 0, .tableswitch 0 11 76 #[], .iload 5, .iconst 2, .iadd, .dup2, .iaload, .iload 3, .iload 4, .if_icmp .ne 60, .iconst 1, .goto 61] 60 = true := qck_r (nn_ _) (by decide +kernel)
theorem bs_X11_tellResult_40 {P : Zt → Option Zv → Prop} (K : Int → Zl → List Zv → Zt → Prop) : sx_ K P [.aload 0, .tableswitch 0 11 76 #[], .iload 5, .iconst 2, .iadd, .dup2, .iaload, .iload 3, .iload 4, .if_icmp .ne 60, .iconst 1, .goto 61] 60 = x_aload 0 (x_g1 111 276 (x_iload 5 (x_iconst 2 (x_iadd (x_dup2 (x_iaload (x_iload 3 (x_iload 4 (x_if_icmp .ne 60 K (x_iconst 1 (x_goto 61 K))))))))))) := ((xe_aload 0).trans (congrArg (x_aload 0) ((xe_g1 (kk := 111) rfl tl_11_76).trans (congrArg (x_g1 111 276) ((xe_iload 5).trans (congrArg (x_iload 5) ((xe_iconst 2).trans (congrArg (x_iconst 2) ((xe_iadd).trans (congrArg (x_iadd) ((xe_dup2).trans (congrArg (x_dup2) ((xe_iaload).trans (congrArg (x_iaload) ((xe_iload 3).trans (congrArg (x_iload 3) ((xe_iload 4).trans (congrArg (x_iload 4) ((xe_if_icmp .ne 60).trans (congrArg (x_if_icmp .ne 60 K) ((xe_iconst 1).trans (congrArg (x_iconst 1) (xe_goto 61)))))))))))))))))))))))
theorem bk_X11_tellResult_60 : ck_ fX11 none cX11_tellResult 60 [.iconst 0, .iadd, .iastore] 63 = true := qck_r (nn_ _) (by decide +kernel)
theorem bs_X11_tellResult_60 {P : Zt → Option Zv → Prop} (K : Int → Zl → List Zv → Zt → Prop) : sx_ K P [.iconst 0, .iadd, .iastore] 63 = x_iconst 0 (x_iadd (x_iastore (K 63))) := ((xe_iconst 0).trans (congrArg (x_iconst 0) ((xe_iadd).trans (congrArg (x_iadd) ((xe_iastore).trans (congrArg (x_iastore) xe_nil))))))
theorem bk_X11_tellResult_61 : ck_ fX11 none cX11_tellResult 61 [.iadd, .iastore] 63 = true := qck_r (nn_ _) (by decide +kernel)
theorem bs_X11_tellResult_61 {P : Zt → Option Zv → Prop} (K : Int → Zl → List Zv → Zt → Prop) : sx_ K P [.iadd, .iastore] 63 = x_iadd (x_iastore (K 63)) := ((xe_iadd).trans (congrArg (x_iadd) ((xe_iastore).trans (congrArg (x_iastore) xe_nil))))
theorem bk_X11_tellResult_0 : ck_ fX11 none cX11_tellResult 0 [.iconst 9, .iload 2, .imul, .istore 5, .aload 0, .tableswitch 0 11 76 #[], .iload 5, .dup2, .iaload, .iconst 1, .iadd, .iastore, .aload 0, .tableswitch 0 11 76 #[], .iload 5, .iconst 1, .iadd, .dup2, .iaload, .iload 3, .iload 4, .if_icmp .le 37, .iconst 1, .goto 38] 37 = true := qck_r (nn_ _) (by decide +kernel)
theorem bs_X11_tellResult_0 {P : Zt → Option Zv → Prop} (K : Int → Zl → List Zv → Zt → Prop) : sx_ K P [.iconst 9, .iload 2, .imul, .istore 5, .aload 0, .tableswitch 0 11 76 #[], .iload 5, .dup2, .iaload, .iconst 1, .iadd, .iastore, .aload 0, .tableswitch 0 11 76 #[], .iload 5, .iconst 1, .iadd, .dup2, .iaload, .iload 3, .iload 4, .if_icmp .le 37, .iconst 1, .goto 38] 37 = x_iconst 9 (x_iload 2 (x_imul (x_istore 5 (x_aload 0 (x_g1 111 276 (x_iload 5 (x_dup2 (x_iaload (x_iconst 1 (x_iadd (x_iastore (x_aload 0 (x_g1 111 276 (x_iload 5 (x_iconst 1 (x_iadd (x_dup2 (x_iaload (x_iload 3 (x_iload 4 (x_if_icmp .le 37 K (x_iconst 1 (x_goto 38 K))))))))))))))))))))))) := ((xe_iconst 9).trans (congrArg (x_iconst 9) ((xe_iload 2).trans (congrArg (x_iload 2) ((xe_imul).trans (congrArg (x_imul) ((xe_istore 5).trans (congrArg (x_istore 5) ((xe_aload 0).trans (congrArg (x_aload 0) ((xe_g1 (kk := 111) rfl tl_11_76).trans (congrArg (x_g1 111 276) ((xe_iload 5).trans (congrArg (x_iload 5) ((xe_dup2).trans (congrArg (x_dup2) ((xe_iaload).trans (congrArg (x_iaload) ((xe_iconst 1).trans (congrArg (x_iconst 1) ((xe_iadd).trans (congrArg (x_iadd) ((xe_iastore).trans (congrArg (x_iastore) ((xe_aload 0).trans (congrArg (x_aload 0) ((xe_g1 (kk := 111) rfl tl_11_76).trans (congrArg (x_g1 111 276) ((xe_iload 5).trans (congrArg (x_iload 5) ((xe_iconst 1).trans (congrArg (x_iconst 1) ((xe_iadd).trans (congrArg (x_iadd) ((xe_dup2).trans (congrArg (x_dup2) ((xe_iaload).trans (congrArg (x_iaload) ((xe_iload 3).trans (congrArg (x_iload 3) ((xe_iload 4).trans (congrArg (x_iload 4) ((xe_if_icmp .le 37).trans (congrArg (x_if_icmp .le 37 K) ((xe_iconst 1).trans (congrArg (x_iconst 1) (xe_goto 38)))))))))))))))))))))))))))))))))))))))))))))))
theorem bk_X11_tellResult_37 : ck_ fX11 none cX11_tellResult 37 [.iconst 0, .iadd, .iastore] 40 = true := qck_r (nn_ _) (by decide +kernel)
theorem bs_X11_tellResult_37 {P : Zt → Option Zv → Prop} (K : Int → Zl → List Zv → Zt → Prop) : sx_ K P [.iconst 0, .iadd, .iastore] 40 = x_iconst 0 (x_iadd (x_iastore (K 40))) := ((xe_iconst 0).trans (congrArg (x_iconst 0) ((xe_iadd).trans (congrArg (x_iadd) ((xe_iastore).trans (congrArg (x_iastore) xe_nil))))))
theorem bk_X11_tellResult_38 : ck_ fX11 none cX11_tellResult 38 [.iadd, .iastore] 40 = true := qck_r (nn_ _) (by decide +kernel)
theorem bs_X11_tellResult_38 {P : Zt → Option Zv → Prop} (K : Int → Zl → List Zv → Zt → Prop) : sx_ K P [.iadd, .iastore] 40 = x_iadd (x_iastore (K 40)) := ((xe_iadd).trans (congrArg (x_iadd) ((xe_iastore).trans (congrArg (x_iastore) xe_nil))))
abbrev po_X11_tellResult (T : Zt) (bb : Int) (c cl a b : Int) : Zt → Option Zv → Prop := fun T' r => r = none ∧ fr_ [(276, [])] T T' ∧ (TB_ T' (bb + 140000))
set_option maxHeartbeats 4000000 in
theorem ct_X11_tellResult {T : Zt} {bb : Int} {c cl a b : Int} (h1 : 0 ≤ c ∧ c < 4) (h2 : 0 ≤ cl ∧ cl < 12) (h3 : 0 ≤ a ∧ a ≤ 20000) (h4 : 0 ≤ b ∧ b ≤ 20000) (hbb : 0 ≤ bb ∧ bb ≤ 500000000) (htb : TB_ T bb) : Ct_ yX11_tellResult zX11_tellResult T [vR 111 0, vI c, vI cl, vI a, vI b] (po_X11_tellResult T bb c cl a b) := by
  refine ct_of pn_11 rfl rfl (Nat.le_of_ble_eq_true rfl) (fun hT hav => ?_)
  have hr_c : -2147483648 ≤ c ∧ c ≤ 2147483647 := hav (vI c) (List.mem_cons_of_mem _ List.mem_cons_self)
  have hr_cl : -2147483648 ≤ cl ∧ cl ≤ 2147483647 := hav (vI cl) (List.mem_cons_of_mem _ (List.mem_cons_of_mem _ List.mem_cons_self))
  have hr_a : -2147483648 ≤ a ∧ a ≤ 2147483647 := hav (vI a) (List.mem_cons_of_mem _ (List.mem_cons_of_mem _ (List.mem_cons_of_mem _ List.mem_cons_self)))
  have hr_b : -2147483648 ≤ b ∧ b ≤ 2147483647 := hav (vI b) (List.mem_cons_of_mem _ (List.mem_cons_of_mem _ (List.mem_cons_of_mem _ (List.mem_cons_of_mem _ List.mem_cons_self))))
  have hz : zX11_tellResult.2.2.2.1 = some .boolean → ∀ (T' : Zt) (x : Int), po_X11_tellResult T bb c cl a b T' (some (vI x)) → 0 ≤ x ∧ x ≤ 1 := fun h => by cases h
  have hr1 : (-1) ≤ T 205 0 (23 * c + 1) ∧ T 205 0 (23 * c + 1) ≤ 999 := bd_a hT 205 (by decide +kernel : ta_ 205 = some (1, some 92, (-1), 999)) 0 (by omega)
  have hr2 : (-1) ≤ T 205 0 (23 * c + 2) ∧ T 205 0 (23 * c + 2) ≤ 999 := bd_a hT 205 (by decide +kernel : ta_ 205 = some (1, some 92, (-1), 999)) 0 (by omega)
  have hr3 : (-1) ≤ T 205 0 (23 * c + 3) ∧ T 205 0 (23 * c + 3) ≤ 999 := bd_a hT 205 (by decide +kernel : ta_ 205 = some (1, some 92, (-1), 999)) 0 (by omega)
  show J_ zX11_tellResult T (po_X11_tellResult T bb c cl a b) 0 0 0 [some (vR 111 0), some (vI c), some (vI cl), some (vI a), some (vI b), none] [] T
  have c_86 : ∀ (T3 : Zt), (fr_ [(276, [])] T T3) → (TB_ T3 (bb + 80000)) → J_ zX11_tellResult T (po_X11_tellResult T bb c cl a b) 0 0 86 [some (vR 111 0), some (vI c), some (vI cl), some (vI a), some (vI b), some (vI (9 * cl))] [] T3 := by
    intro T3 hf_86 tb3
    refine j_blx (F := fX11) tb_X11 (nn_ _) bk_X11_tellResult_86 bs_X11_tellResult_86 hz (fun K hK => ?_)
    refine rg_i (by omega) ?_
    refine ix_i (by omega) ?_
    intro b1 b1b
    have t2 : -(bb + 80000) ≤ T3 276 0 ((9 * cl) + 4) ∧ T3 276 0 ((9 * cl) + 4) ≤ bb + 80000 ∧ (((9 * cl) + 4) % 9 = 6 → -(bb + 80000) ≤ 20 * (T3 276 0 ((9 * cl) + 4)) ∧ 20 * (T3 276 0 ((9 * cl) + 4)) ≤ bb + 80000) := (tb3) ((9 * cl) + 4) (by omega) (by omega)
    refine rg_i (by omega) ?_
    refine iy_i (by omega) (by omega) ?_
    refine x_nm (fun U3 hU3 => ?_)
    have e4 := up_f hU3
    refine rg_i (by omega) ?_
    refine ix_i (by omega) ?_
    intro b5 b5b
    have t6 : -(bb + 80000 + 20000) ≤ U3 276 0 ((9 * cl) + 5) ∧ U3 276 0 ((9 * cl) + 5) ≤ bb + 80000 + 20000 ∧ (((9 * cl) + 5) % 9 = 6 → -(bb + 80000 + 20000) ≤ 20 * (U3 276 0 ((9 * cl) + 5)) ∧ 20 * (U3 276 0 ((9 * cl) + 5)) ≤ bb + 80000 + 20000) := (tb_u (d := 20000) (tb3) hU3 (by decide) (by omega)) ((9 * cl) + 5) (by omega) (by omega)
    refine rg_i (by omega) ?_
    refine iy_i (by omega) (by omega) ?_
    refine x_nm (fun U7 hU7 => ?_)
    have e8 := up_f hU7
    refine rg_i (by omega) ?_
    refine ix_i (by omega) ?_
    intro b9 b9b
    refine And.intro (fun c10 => ?_) (fun c10 => ?_)
    · refine hK 139 _ [vI (U7 276 0 ((9 * cl) + 6)), vI ((9 * cl) + 6), vR 276 0] U7 ?_
      refine j_blx (F := fX11) tb_X11 (nn_ _) bk_X11_tellResult_139 bs_X11_tellResult_139 hz (fun K hK => ?_)
      refine And.intro (fun c11 => ?_) (fun c11 => ?_)
      · refine hK 154 _ [vI (U7 276 0 ((9 * cl) + 6)), vI ((9 * cl) + 6), vR 276 0] U7 ?_
        refine j_blx (F := fX11) tb_X11 (nn_ _) bk_X11_tellResult_154 bs_X11_tellResult_154 hz (fun K hK => ?_)
        refine hK 157 _ [vI 3, vI c, vR 111 0, vI (U7 276 0 ((9 * cl) + 6)), vI ((9 * cl) + 6), vR 276 0] U7 ?_
        refine j_callV (y := yX11_rule0) (Yc := zX11_rule0) (rest := [vI (U7 276 0 ((9 * cl) + 6)), vI ((9 * cl) + 6), vR 276 0]) [vI c, vI 3] (ct_X11_rule0 (T := U7) (by omega) (by omega)) cl_X11_321 (qd_c (by decide +kernel)) (nn_ _) rfl (rf_of rfl) (Nat.le_of_ble_eq_true rfl) (Nat.le_of_ble_eq_true rfl) (Nat.le_of_ble_eq_true rfl) rfl ?_
        rintro _ _ ⟨rfl, rfl⟩
        have e12 : U7 205 0 (23 * c + 3) = T 205 0 (23 * c + 3) := (up_k hU7 (by exact Nat.ne_of_beq_eq_false rfl) 0 (23 * c + 3)).trans ((up_k hU3 (by exact Nat.ne_of_beq_eq_false rfl) 0 (23 * c + 3)).trans (hf_86 205 0 (23 * c + 3) rfl))
        show J_ zX11_tellResult T (po_X11_tellResult T bb c cl a b) 0 0 160 _ [vI (U7 205 0 (23 * c + 3)), vI (U7 276 0 ((9 * cl) + 6)), vI ((9 * cl) + 6), vR 276 0] U7
        refine j_blx (F := fX11) tb_X11 (nn_ _) bk_X11_tellResult_160 bs_X11_tellResult_160 hz (fun K hK => ?_)
        have t13 : -(bb + 80000 + 20000 + 20000) ≤ U7 276 0 ((9 * cl) + 6) ∧ U7 276 0 ((9 * cl) + 6) ≤ bb + 80000 + 20000 + 20000 ∧ (((9 * cl) + 6) % 9 = 6 → -(bb + 80000 + 20000 + 20000) ≤ 20 * (U7 276 0 ((9 * cl) + 6)) ∧ 20 * (U7 276 0 ((9 * cl) + 6)) ≤ bb + 80000 + 20000 + 20000) := (tb_u (d := 20000) (tb_u (d := 20000) (tb3) hU3 (by decide) (by omega)) hU7 (by decide) (by omega)) ((9 * cl) + 6) (by omega) (by omega)
        refine rg_i (by omega) ?_
        refine iy_i (by omega) (by omega) ?_
        refine x_nm (fun U14 hU14 => ?_)
        have e15 := up_f hU14
        refine (show po_X11_tellResult T bb c cl a b U14 (none) from ?_)
        exact ⟨rfl, fr_u (fr_u (fr_u (fr_t (fr_0 _ _) (fr_s hf_86 rfl)) hU3 rfl) hU7 rfl) hU14 rfl, tb_m (tb_u (d := 20000) (tb_u (d := 20000) (tb_u (d := 20000) (tb3) hU3 (by decide) (by omega)) hU7 (by decide) (by omega)) hU14 (by decide) (by omega)) (by omega)⟩
      · refine hK 148 _ [vI 2, vI c, vR 111 0, vI (U7 276 0 ((9 * cl) + 6)), vI ((9 * cl) + 6), vR 276 0] U7 ?_
        refine j_callV (y := yX11_rule0) (Yc := zX11_rule0) (rest := [vI (U7 276 0 ((9 * cl) + 6)), vI ((9 * cl) + 6), vR 276 0]) [vI c, vI 2] (ct_X11_rule0 (T := U7) (by omega) (by omega)) cl_X11_321 (qd_c (by decide +kernel)) (nn_ _) rfl (rf_of rfl) (Nat.le_of_ble_eq_true rfl) (Nat.le_of_ble_eq_true rfl) (Nat.le_of_ble_eq_true rfl) rfl ?_
        rintro _ _ ⟨rfl, rfl⟩
        have e16 : U7 205 0 (23 * c + 2) = T 205 0 (23 * c + 2) := (up_k hU7 (by exact Nat.ne_of_beq_eq_false rfl) 0 (23 * c + 2)).trans ((up_k hU3 (by exact Nat.ne_of_beq_eq_false rfl) 0 (23 * c + 2)).trans (hf_86 205 0 (23 * c + 2) rfl))
        show J_ zX11_tellResult T (po_X11_tellResult T bb c cl a b) 0 0 151 _ [vI (U7 205 0 (23 * c + 2)), vI (U7 276 0 ((9 * cl) + 6)), vI ((9 * cl) + 6), vR 276 0] U7
        refine j_blx (F := fX11) tb_X11 (nn_ _) bk_X11_tellResult_151 bs_X11_tellResult_151 hz (fun K hK => ?_)
        refine hK 160 _ [vI (U7 205 0 (23 * c + 2)), vI (U7 276 0 ((9 * cl) + 6)), vI ((9 * cl) + 6), vR 276 0] U7 ?_
        refine j_blx (F := fX11) tb_X11 (nn_ _) bk_X11_tellResult_160 bs_X11_tellResult_160 hz (fun K hK => ?_)
        have t17 : -(bb + 80000 + 20000 + 20000) ≤ U7 276 0 ((9 * cl) + 6) ∧ U7 276 0 ((9 * cl) + 6) ≤ bb + 80000 + 20000 + 20000 ∧ (((9 * cl) + 6) % 9 = 6 → -(bb + 80000 + 20000 + 20000) ≤ 20 * (U7 276 0 ((9 * cl) + 6)) ∧ 20 * (U7 276 0 ((9 * cl) + 6)) ≤ bb + 80000 + 20000 + 20000) := (tb_u (d := 20000) (tb_u (d := 20000) (tb3) hU3 (by decide) (by omega)) hU7 (by decide) (by omega)) ((9 * cl) + 6) (by omega) (by omega)
        refine rg_i (by omega) ?_
        refine iy_i (by omega) (by omega) ?_
        refine x_nm (fun U18 hU18 => ?_)
        have e19 := up_f hU18
        refine (show po_X11_tellResult T bb c cl a b U18 (none) from ?_)
        exact ⟨rfl, fr_u (fr_u (fr_u (fr_t (fr_0 _ _) (fr_s hf_86 rfl)) hU3 rfl) hU7 rfl) hU18 rfl, tb_m (tb_u (d := 20000) (tb_u (d := 20000) (tb_u (d := 20000) (tb3) hU3 (by decide) (by omega)) hU7 (by decide) (by omega)) hU18 (by decide) (by omega)) (by omega)⟩
    · refine hK 133 _ [vI 1, vI c, vR 111 0, vI (U7 276 0 ((9 * cl) + 6)), vI ((9 * cl) + 6), vR 276 0] U7 ?_
      refine j_callV (y := yX11_rule0) (Yc := zX11_rule0) (rest := [vI (U7 276 0 ((9 * cl) + 6)), vI ((9 * cl) + 6), vR 276 0]) [vI c, vI 1] (ct_X11_rule0 (T := U7) (by omega) (by omega)) cl_X11_321 (qd_c (by decide +kernel)) (nn_ _) rfl (rf_of rfl) (Nat.le_of_ble_eq_true rfl) (Nat.le_of_ble_eq_true rfl) (Nat.le_of_ble_eq_true rfl) rfl ?_
      rintro _ _ ⟨rfl, rfl⟩
      have e20 : U7 205 0 (23 * c + 1) = T 205 0 (23 * c + 1) := (up_k hU7 (by exact Nat.ne_of_beq_eq_false rfl) 0 (23 * c + 1)).trans ((up_k hU3 (by exact Nat.ne_of_beq_eq_false rfl) 0 (23 * c + 1)).trans (hf_86 205 0 (23 * c + 1) rfl))
      show J_ zX11_tellResult T (po_X11_tellResult T bb c cl a b) 0 0 136 _ [vI (U7 205 0 (23 * c + 1)), vI (U7 276 0 ((9 * cl) + 6)), vI ((9 * cl) + 6), vR 276 0] U7
      refine j_blx (F := fX11) tb_X11 (nn_ _) bk_X11_tellResult_136 bs_X11_tellResult_136 hz (fun K hK => ?_)
      refine hK 160 _ [vI (U7 205 0 (23 * c + 1)), vI (U7 276 0 ((9 * cl) + 6)), vI ((9 * cl) + 6), vR 276 0] U7 ?_
      refine j_blx (F := fX11) tb_X11 (nn_ _) bk_X11_tellResult_160 bs_X11_tellResult_160 hz (fun K hK => ?_)
      have t21 : -(bb + 80000 + 20000 + 20000) ≤ U7 276 0 ((9 * cl) + 6) ∧ U7 276 0 ((9 * cl) + 6) ≤ bb + 80000 + 20000 + 20000 ∧ (((9 * cl) + 6) % 9 = 6 → -(bb + 80000 + 20000 + 20000) ≤ 20 * (U7 276 0 ((9 * cl) + 6)) ∧ 20 * (U7 276 0 ((9 * cl) + 6)) ≤ bb + 80000 + 20000 + 20000) := (tb_u (d := 20000) (tb_u (d := 20000) (tb3) hU3 (by decide) (by omega)) hU7 (by decide) (by omega)) ((9 * cl) + 6) (by omega) (by omega)
      refine rg_i (by omega) ?_
      refine iy_i (by omega) (by omega) ?_
      refine x_nm (fun U22 hU22 => ?_)
      have e23 := up_f hU22
      refine (show po_X11_tellResult T bb c cl a b U22 (none) from ?_)
      exact ⟨rfl, fr_u (fr_u (fr_u (fr_t (fr_0 _ _) (fr_s hf_86 rfl)) hU3 rfl) hU7 rfl) hU22 rfl, tb_m (tb_u (d := 20000) (tb_u (d := 20000) (tb_u (d := 20000) (tb3) hU3 (by decide) (by omega)) hU7 (by decide) (by omega)) hU22 (by decide) (by omega)) (by omega)⟩
  have c_63 : ∀ (T2 : Zt), (fr_ [(276, [])] T T2) → (TB_ T2 (bb + 60000)) → J_ zX11_tellResult T (po_X11_tellResult T bb c cl a b) 0 0 63 [some (vR 111 0), some (vI c), some (vI cl), some (vI a), some (vI b), some (vI (9 * cl))] [] T2 := by
    intro T2 hf_63 tb2
    refine j_blx (F := fX11) tb_X11 (nn_ _) bk_X11_tellResult_63 bs_X11_tellResult_63 hz (fun K hK => ?_)
    refine rg_i (by omega) ?_
    refine ix_i (by omega) ?_
    intro b24 b24b
    refine And.intro (fun c25 => ?_) (fun c25 => ?_)
    · refine hK 83 _ [vI (T2 276 0 ((9 * cl) + 3)), vI ((9 * cl) + 3), vR 276 0] T2 ?_
      refine j_blx (F := fX11) tb_X11 (nn_ _) bk_X11_tellResult_83 bs_X11_tellResult_83 hz (fun K hK => ?_)
      have t26 : -(bb + 60000) ≤ T2 276 0 ((9 * cl) + 3) ∧ T2 276 0 ((9 * cl) + 3) ≤ bb + 60000 ∧ (((9 * cl) + 3) % 9 = 6 → -(bb + 60000) ≤ 20 * (T2 276 0 ((9 * cl) + 3)) ∧ 20 * (T2 276 0 ((9 * cl) + 3)) ≤ bb + 60000) := (tb2) ((9 * cl) + 3) (by omega) (by omega)
      refine rg_i (by omega) ?_
      refine iy_i (by omega) (by omega) ?_
      refine x_nm (fun U27 hU27 => ?_)
      have e28 := up_f hU27
      refine hK 86 _ [] U27 ?_
      refine c_86 U27 ?_ ?_
      · exact fr_u (fr_t (fr_0 _ _) (fr_s hf_63 rfl)) hU27 rfl
      · exact tb_m (tb_u (d := 20000) (tb2) hU27 (by decide) (by omega)) (by omega)
    · refine hK 84 _ [vI 1, vI (T2 276 0 ((9 * cl) + 3)), vI ((9 * cl) + 3), vR 276 0] T2 ?_
      refine j_blx (F := fX11) tb_X11 (nn_ _) bk_X11_tellResult_84 bs_X11_tellResult_84 hz (fun K hK => ?_)
      have t29 : -(bb + 60000) ≤ T2 276 0 ((9 * cl) + 3) ∧ T2 276 0 ((9 * cl) + 3) ≤ bb + 60000 ∧ (((9 * cl) + 3) % 9 = 6 → -(bb + 60000) ≤ 20 * (T2 276 0 ((9 * cl) + 3)) ∧ 20 * (T2 276 0 ((9 * cl) + 3)) ≤ bb + 60000) := (tb2) ((9 * cl) + 3) (by omega) (by omega)
      refine rg_i (by omega) ?_
      refine iy_i (by omega) (by omega) ?_
      refine x_nm (fun U30 hU30 => ?_)
      have e31 := up_f hU30
      refine hK 86 _ [] U30 ?_
      refine c_86 U30 ?_ ?_
      · exact fr_u (fr_t (fr_0 _ _) (fr_s hf_63 rfl)) hU30 rfl
      · exact tb_m (tb_u (d := 20000) (tb2) hU30 (by decide) (by omega)) (by omega)
  have c_40 : ∀ (T1 : Zt), (fr_ [(276, [])] T T1) → (TB_ T1 (bb + 40000)) → J_ zX11_tellResult T (po_X11_tellResult T bb c cl a b) 0 0 40 [some (vR 111 0), some (vI c), some (vI cl), some (vI a), some (vI b), some (vI (9 * cl))] [] T1 := by
    intro T1 hf_40 tb1
    refine j_blx (F := fX11) tb_X11 (nn_ _) bk_X11_tellResult_40 bs_X11_tellResult_40 hz (fun K hK => ?_)
    refine rg_i (by omega) ?_
    refine ix_i (by omega) ?_
    intro b32 b32b
    refine And.intro (fun c33 => ?_) (fun c33 => ?_)
    · refine hK 60 _ [vI (T1 276 0 ((9 * cl) + 2)), vI ((9 * cl) + 2), vR 276 0] T1 ?_
      refine j_blx (F := fX11) tb_X11 (nn_ _) bk_X11_tellResult_60 bs_X11_tellResult_60 hz (fun K hK => ?_)
      have t34 : -(bb + 40000) ≤ T1 276 0 ((9 * cl) + 2) ∧ T1 276 0 ((9 * cl) + 2) ≤ bb + 40000 ∧ (((9 * cl) + 2) % 9 = 6 → -(bb + 40000) ≤ 20 * (T1 276 0 ((9 * cl) + 2)) ∧ 20 * (T1 276 0 ((9 * cl) + 2)) ≤ bb + 40000) := (tb1) ((9 * cl) + 2) (by omega) (by omega)
      refine rg_i (by omega) ?_
      refine iy_i (by omega) (by omega) ?_
      refine x_nm (fun U35 hU35 => ?_)
      have e36 := up_f hU35
      refine hK 63 _ [] U35 ?_
      refine c_63 U35 ?_ ?_
      · exact fr_u (fr_t (fr_0 _ _) (fr_s hf_40 rfl)) hU35 rfl
      · exact tb_m (tb_u (d := 20000) (tb1) hU35 (by decide) (by omega)) (by omega)
    · refine hK 61 _ [vI 1, vI (T1 276 0 ((9 * cl) + 2)), vI ((9 * cl) + 2), vR 276 0] T1 ?_
      refine j_blx (F := fX11) tb_X11 (nn_ _) bk_X11_tellResult_61 bs_X11_tellResult_61 hz (fun K hK => ?_)
      have t37 : -(bb + 40000) ≤ T1 276 0 ((9 * cl) + 2) ∧ T1 276 0 ((9 * cl) + 2) ≤ bb + 40000 ∧ (((9 * cl) + 2) % 9 = 6 → -(bb + 40000) ≤ 20 * (T1 276 0 ((9 * cl) + 2)) ∧ 20 * (T1 276 0 ((9 * cl) + 2)) ≤ bb + 40000) := (tb1) ((9 * cl) + 2) (by omega) (by omega)
      refine rg_i (by omega) ?_
      refine iy_i (by omega) (by omega) ?_
      refine x_nm (fun U38 hU38 => ?_)
      have e39 := up_f hU38
      refine hK 63 _ [] U38 ?_
      refine c_63 U38 ?_ ?_
      · exact fr_u (fr_t (fr_0 _ _) (fr_s hf_40 rfl)) hU38 rfl
      · exact tb_m (tb_u (d := 20000) (tb1) hU38 (by decide) (by omega)) (by omega)
  refine j_blx (F := fX11) tb_X11 (nn_ _) bk_X11_tellResult_0 bs_X11_tellResult_0 hz (fun K hK => ?_)
  refine rg_i (by omega) ?_
  refine ix_i (by omega) ?_
  intro b40 b40b
  have t41 : -(bb) ≤ T 276 0 (9 * cl) ∧ T 276 0 (9 * cl) ≤ bb ∧ ((9 * cl) % 9 = 6 → -(bb) ≤ 20 * (T 276 0 (9 * cl)) ∧ 20 * (T 276 0 (9 * cl)) ≤ bb) := (htb) (9 * cl) (by omega) (by omega)
  refine rg_i (by omega) ?_
  refine iy_i (by omega) (by omega) ?_
  refine x_nm (fun U42 hU42 => ?_)
  have e43 := up_f hU42
  refine rg_i (by omega) ?_
  refine ix_i (by omega) ?_
  intro b44 b44b
  refine And.intro (fun c45 => ?_) (fun c45 => ?_)
  · refine hK 37 [some (vR 111 0), some (vI c), some (vI cl), some (vI a), some (vI b), some (vI (9 * cl))] [vI (U42 276 0 ((9 * cl) + 1)), vI ((9 * cl) + 1), vR 276 0] U42 ?_
    refine j_blx (F := fX11) tb_X11 (nn_ _) bk_X11_tellResult_37 bs_X11_tellResult_37 hz (fun K hK => ?_)
    have t46 : -(bb + 20000) ≤ U42 276 0 ((9 * cl) + 1) ∧ U42 276 0 ((9 * cl) + 1) ≤ bb + 20000 ∧ (((9 * cl) + 1) % 9 = 6 → -(bb + 20000) ≤ 20 * (U42 276 0 ((9 * cl) + 1)) ∧ 20 * (U42 276 0 ((9 * cl) + 1)) ≤ bb + 20000) := (tb_u (d := 20000) (htb) hU42 (by decide) (by omega)) ((9 * cl) + 1) (by omega) (by omega)
    refine rg_i (by omega) ?_
    refine iy_i (by omega) (by omega) ?_
    refine x_nm (fun U47 hU47 => ?_)
    have e48 := up_f hU47
    refine hK 40 _ [] U47 ?_
    refine c_40 U47 ?_ ?_
    · exact fr_u (fr_u (fr_0 _ _) hU42 rfl) hU47 rfl
    · exact tb_m (tb_u (d := 20000) (tb_u (d := 20000) (htb) hU42 (by decide) (by omega)) hU47 (by decide) (by omega)) (by omega)
  · refine hK 38 _ [vI 1, vI (U42 276 0 ((9 * cl) + 1)), vI ((9 * cl) + 1), vR 276 0] U42 ?_
    refine j_blx (F := fX11) tb_X11 (nn_ _) bk_X11_tellResult_38 bs_X11_tellResult_38 hz (fun K hK => ?_)
    have t49 : -(bb + 20000) ≤ U42 276 0 ((9 * cl) + 1) ∧ U42 276 0 ((9 * cl) + 1) ≤ bb + 20000 ∧ (((9 * cl) + 1) % 9 = 6 → -(bb + 20000) ≤ 20 * (U42 276 0 ((9 * cl) + 1)) ∧ 20 * (U42 276 0 ((9 * cl) + 1)) ≤ bb + 20000) := (tb_u (d := 20000) (htb) hU42 (by decide) (by omega)) ((9 * cl) + 1) (by omega) (by omega)
    refine rg_i (by omega) ?_
    refine iy_i (by omega) (by omega) ?_
    refine x_nm (fun U50 hU50 => ?_)
    have e51 := up_f hU50
    refine hK 40 _ [] U50 ?_
    refine c_40 U50 ?_ ?_
    · exact fr_u (fr_u (fr_0 _ _) hU42 rfl) hU50 rfl
    · exact tb_m (tb_u (d := 20000) (tb_u (d := 20000) (htb) hU42 (by decide) (by omega)) hU50 (by decide) (by omega)) (by omega)
abbrev cX11_fairOf : ByteArray := prog_13_method_83_code
def yX11_fairOf : MethodName := ⟨RX11, "fairOf", "(I)I"⟩
def zX11_fairOf : Zm := (RX11, cX11_fairOf, 4, (some .int), { frames := 0, cells := 0, slots := 0, locals := 0 })
theorem bk_X11_fairOf_7 : ck_ fX11 (some .int) cX11_fairOf 7 [.iload 3, .iconst 10, .iload 1, .imul, .aload 0, .tableswitch 0 11 39 #[], .iload 1, .iaload, .iadd, .if_icmp .ge 52, .iload 2, .aload 0, .tableswitch 0 11 42 #[], .iload 3, .iaload, .aload 0, .tableswitch 0 11 43 #[], .iload 3, .baload, .ifCond .eq 42, .iconst 3, .goto 43] 42 = true := qck_r (nn_ _) (by decide +kernel)
theorem bs_X11_fairOf_7 {P : Zt → Option Zv → Prop} (K : Int → Zl → List Zv → Zt → Prop) : sx_ K P [.iload 3, .iconst 10, .iload 1, .imul, .aload 0, .tableswitch 0 11 39 #[], .iload 1, .iaload, .iadd, .if_icmp .ge 52, .iload 2, .aload 0, .tableswitch 0 11 42 #[], .iload 3, .iaload, .aload 0, .tableswitch 0 11 43 #[], .iload 3, .baload, .ifCond .eq 42, .iconst 3, .goto 43] 42 = x_iload 3 (x_iconst 10 (x_iload 1 (x_imul (x_aload 0 (x_g1 111 239 (x_iload 1 (x_iaload (x_iadd (x_if_icmp .ge 52 K (x_iload 2 (x_aload 0 (x_g1 111 242 (x_iload 3 (x_iaload (x_aload 0 (x_g1 111 243 (x_iload 3 (x_baload (x_ifCond .eq 42 K (x_iconst 3 (x_goto 43 K))))))))))))))))))))) := ((xe_iload 3).trans (congrArg (x_iload 3) ((xe_iconst 10).trans (congrArg (x_iconst 10) ((xe_iload 1).trans (congrArg (x_iload 1) ((xe_imul).trans (congrArg (x_imul) ((xe_aload 0).trans (congrArg (x_aload 0) ((xe_g1 (kk := 111) rfl tl_11_39).trans (congrArg (x_g1 111 239) ((xe_iload 1).trans (congrArg (x_iload 1) ((xe_iaload).trans (congrArg (x_iaload) ((xe_iadd).trans (congrArg (x_iadd) ((xe_if_icmp .ge 52).trans (congrArg (x_if_icmp .ge 52 K) ((xe_iload 2).trans (congrArg (x_iload 2) ((xe_aload 0).trans (congrArg (x_aload 0) ((xe_g1 (kk := 111) rfl tl_11_42).trans (congrArg (x_g1 111 242) ((xe_iload 3).trans (congrArg (x_iload 3) ((xe_iaload).trans (congrArg (x_iaload) ((xe_aload 0).trans (congrArg (x_aload 0) ((xe_g1 (kk := 111) rfl tl_11_43).trans (congrArg (x_g1 111 243) ((xe_iload 3).trans (congrArg (x_iload 3) ((xe_baload).trans (congrArg (x_baload) ((xe_ifCond .eq 42).trans (congrArg (x_ifCond .eq 42 K) ((xe_iconst 3).trans (congrArg (x_iconst 3) (xe_goto 43)))))))))))))))))))))))))))))))))))))))))))
theorem bk_X11_fairOf_52 : ck_ fX11 (some .int) cX11_fairOf 52 [.iload 2, .ireturn] 54 = true := qck_r (nn_ _) (by decide +kernel)
theorem bs_X11_fairOf_52 {P : Zt → Option Zv → Prop} (K : Int → Zl → List Zv → Zt → Prop) : sx_ K P [.iload 2, .ireturn] 54 = x_iload 2 (x_ireturn P) := ((xe_iload 2).trans (congrArg (x_iload 2) (xe_ireturn)))
theorem bk_X11_fairOf_42 : ck_ fX11 (some .int) cX11_fairOf 42 [.iconst 0, .iadd, .iadd, .istore 2, .iinc 3 1, .goto 7] 52 = true := qck_r (nn_ _) (by decide +kernel)
theorem bs_X11_fairOf_42 {P : Zt → Option Zv → Prop} (K : Int → Zl → List Zv → Zt → Prop) : sx_ K P [.iconst 0, .iadd, .iadd, .istore 2, .iinc 3 1, .goto 7] 52 = x_iconst 0 (x_iadd (x_iadd (x_istore 2 (x_iinc 3 1 (x_goto 7 K))))) := ((xe_iconst 0).trans (congrArg (x_iconst 0) ((xe_iadd).trans (congrArg (x_iadd) ((xe_iadd).trans (congrArg (x_iadd) ((xe_istore 2).trans (congrArg (x_istore 2) ((xe_iinc 3 1).trans (congrArg (x_iinc 3 1) (xe_goto 7)))))))))))
theorem bk_X11_fairOf_43 : ck_ fX11 (some .int) cX11_fairOf 43 [.iadd, .iadd, .istore 2, .iinc 3 1, .goto 7] 52 = true := qck_r (nn_ _) (by decide +kernel)
theorem bs_X11_fairOf_43 {P : Zt → Option Zv → Prop} (K : Int → Zl → List Zv → Zt → Prop) : sx_ K P [.iadd, .iadd, .istore 2, .iinc 3 1, .goto 7] 52 = x_iadd (x_iadd (x_istore 2 (x_iinc 3 1 (x_goto 7 K)))) := ((xe_iadd).trans (congrArg (x_iadd) ((xe_iadd).trans (congrArg (x_iadd) ((xe_istore 2).trans (congrArg (x_istore 2) ((xe_iinc 3 1).trans (congrArg (x_iinc 3 1) (xe_goto 7)))))))))
theorem bk_X11_fairOf_0 : ck_ fX11 (some .int) cX11_fairOf 0 [.iconst 0, .istore 2, .iconst 10, .iload 1, .imul, .istore 3] 7 = true := qck_r (nn_ _) (by decide +kernel)
theorem bs_X11_fairOf_0 {P : Zt → Option Zv → Prop} (K : Int → Zl → List Zv → Zt → Prop) : sx_ K P [.iconst 0, .istore 2, .iconst 10, .iload 1, .imul, .istore 3] 7 = x_iconst 0 (x_istore 2 (x_iconst 10 (x_iload 1 (x_imul (x_istore 3 (K 7)))))) := ((xe_iconst 0).trans (congrArg (x_iconst 0) ((xe_istore 2).trans (congrArg (x_istore 2) ((xe_iconst 10).trans (congrArg (x_iconst 10) ((xe_iload 1).trans (congrArg (x_iload 1) ((xe_imul).trans (congrArg (x_imul) ((xe_istore 3).trans (congrArg (x_istore 3) xe_nil))))))))))))
abbrev po_X11_fairOf (T : Zt) (sh : Int) : Zt → Option Zv → Prop := fun T' r => T = T' ∧ ∃ x : Int, r = some (vI x) ∧ (0 ≤ x ∧ x ≤ 30130)
set_option maxHeartbeats 4000000 in
theorem ct_X11_fairOf {T : Zt} {sh : Int} (h1 : 0 ≤ sh ∧ sh < 800) (hyb : YB_ T) : Ct_ yX11_fairOf zX11_fairOf T [vR 111 0, vI sh] (po_X11_fairOf T sh) := by
  refine ct_of pn_11 rfl rfl (Nat.le_of_ble_eq_true rfl) (fun hT hav => ?_)
  have hr_sh : -2147483648 ≤ sh ∧ sh ≤ 2147483647 := hav (vI sh) (List.mem_cons_of_mem _ List.mem_cons_self)
  have hz : zX11_fairOf.2.2.2.1 = some .boolean → ∀ (T' : Zt) (x : Int), po_X11_fairOf T sh T' (some (vI x)) → 0 ≤ x ∧ x ≤ 1 := fun h => by cases h
  show J_ zX11_fairOf T (po_X11_fairOf T sh) 0 0 0 [some (vR 111 0), some (vI sh), none, none] [] T
  have c_7 : ∀ (nn : Nat) (f : Int) (i : Int), ((10 * sh + 10 - i).toNat) ≤ nn → (10 * sh ≤ i ∧ i ≤ 10 * sh + 10 ∧ 0 ≤ f ∧ f ≤ 3013 * (i - 10 * sh)) → J_ zX11_fairOf T (po_X11_fairOf T sh) 0 0 7 [some (vR 111 0), some (vI sh), some (vI f), some (vI i)] [] T := by
    intro nn
    induction nn using Nat.strongRecOn with
    | _ nn ih_7 =>
      intro f i hm_7 i1
      replace hm_7 := fun (_ : Unit) => hm_7
      refine j_blx (F := fX11) tb_X11 (nn_ _) bk_X11_fairOf_7 bs_X11_fairOf_7 hz (fun K hK => ?_)
      refine rg_i (by omega) ?_
      refine ix_i (by omega) ?_
      intro b1 b1b
      refine rg_i (by omega) ?_
      refine And.intro (fun c2 => ?_) (fun c2 => ?_)
      · refine hK 52 _ [] T ?_
        refine j_blx (F := fX11) tb_X11 (nn_ _) bk_X11_fairOf_52 bs_X11_fairOf_52 hz (fun K hK => ?_)
        refine (show po_X11_fairOf T sh T (some (vI f)) from ?_)
        exact ⟨rfl, _, rfl, by omega⟩
      · have hy := hyb i (by omega) (by omega)
        refine ix_i (by omega) ?_
        intro b3 b3b
        refine ix_i (by omega) ?_
        intro b4 b4b
        refine And.intro (fun c5 => ?_) (fun c5 => ?_)
        · refine hK 42 _ [vI (T 242 0 i), vI f] T ?_
          refine j_blx (F := fX11) tb_X11 (nn_ _) bk_X11_fairOf_42 bs_X11_fairOf_42 hz (fun K hK => ?_)
          refine rg_i (by omega) ?_
          refine rg_i (by omega) ?_
          refine rg_i (by omega) ?_
          refine hK 7 [some (vR 111 0), some (vI sh), some (vI (f + ((T 242 0 i) + 0))), some (vI (i + 1))] [] T ?_
          refine ih_7 _ ?_ (f + ((T 242 0 i) + 0)) (i + 1) (Nat.le_refl _) ?_
          · have hm_7 := hm_7 (); omega
          · omega
        · refine hK 43 [some (vR 111 0), some (vI sh), some (vI f), some (vI i)] [vI 3, vI (T 242 0 i), vI f] T ?_
          refine j_blx (F := fX11) tb_X11 (nn_ _) bk_X11_fairOf_43 bs_X11_fairOf_43 hz (fun K hK => ?_)
          refine rg_i (by omega) ?_
          refine rg_i (by omega) ?_
          refine rg_i (by omega) ?_
          refine hK 7 [some (vR 111 0), some (vI sh), some (vI (f + ((T 242 0 i) + 3))), some (vI (i + 1))] [] T ?_
          refine ih_7 _ ?_ (f + ((T 242 0 i) + 3)) (i + 1) (Nat.le_refl _) ?_
          · have hm_7 := hm_7 (); omega
          · omega
  refine j_blx (F := fX11) tb_X11 (nn_ _) bk_X11_fairOf_0 bs_X11_fairOf_0 hz (fun K hK => ?_)
  refine rg_i (by omega) ?_
  refine hK 7 [some (vR 111 0), some (vI sh), some (vI 0), some (vI (10 * sh))] [] T ?_
  refine c_7 _ 0 (10 * sh) (Nat.le_refl _) ?_
  · omega
abbrev cX11_tellAll : ByteArray := prog_13_method_84_code
def yX11_tellAll : MethodName := ⟨RX11, "tellAll", "(II)V"⟩
def zX11_tellAll : Zm := (RX11, cX11_tellAll, 4, none, { frames := 2, cells := 0, slots := 0, locals := 47 })
theorem bk_X11_tellAll_190 : ck_ fX11 none cX11_tellAll 190 [.iload 3, .aload 0, .tableswitch 0 11 24 #[], .if_icmp .ge 254, .aload 0, .tableswitch 0 11 76 #[], .iconst 9, .aload 0, .tableswitch 0 11 26 #[], .iload 3, .iaload, .imul, .iconst 6, .iadd, .dup2, .iaload, .aload 0, .tableswitch 0 11 25 #[], .iload 3, .iaload, .iload 1, .if_icmp .ne 245, .aload 0, .tableswitch 0 11 28 #[], .iload 3, .iaload, .iload 2, .if_icmp .gt 245, .aload 0, .tableswitch 0 11 27 #[], .iload 3, .iaload, .goto 246] 245 = true := qck_r (nn_ _) (by decide +kernel)
theorem bs_X11_tellAll_190 {P : Zt → Option Zv → Prop} (K : Int → Zl → List Zv → Zt → Prop) : sx_ K P [.iload 3, .aload 0, .tableswitch 0 11 24 #[], .if_icmp .ge 254, .aload 0, .tableswitch 0 11 76 #[], .iconst 9, .aload 0, .tableswitch 0 11 26 #[], .iload 3, .iaload, .imul, .iconst 6, .iadd, .dup2, .iaload, .aload 0, .tableswitch 0 11 25 #[], .iload 3, .iaload, .iload 1, .if_icmp .ne 245, .aload 0, .tableswitch 0 11 28 #[], .iload 3, .iaload, .iload 2, .if_icmp .gt 245, .aload 0, .tableswitch 0 11 27 #[], .iload 3, .iaload, .goto 246] 245 = x_iload 3 (x_aload 0 (x_g0 111 24 0 50 (x_if_icmp .ge 254 K (x_aload 0 (x_g1 111 276 (x_iconst 9 (x_aload 0 (x_g1 111 226 (x_iload 3 (x_iaload (x_imul (x_iconst 6 (x_iadd (x_dup2 (x_iaload (x_aload 0 (x_g1 111 225 (x_iload 3 (x_iaload (x_iload 1 (x_if_icmp .ne 245 K (x_aload 0 (x_g1 111 228 (x_iload 3 (x_iaload (x_iload 2 (x_if_icmp .gt 245 K (x_aload 0 (x_g1 111 227 (x_iload 3 (x_iaload (x_goto 246 K)))))))))))))))))))))))))))))))) := ((xe_iload 3).trans (congrArg (x_iload 3) ((xe_aload 0).trans (congrArg (x_aload 0) ((xe_g0 (kk := 111) rfl tl_11_24).trans (congrArg (x_g0 111 24 0 50) ((xe_if_icmp .ge 254).trans (congrArg (x_if_icmp .ge 254 K) ((xe_aload 0).trans (congrArg (x_aload 0) ((xe_g1 (kk := 111) rfl tl_11_76).trans (congrArg (x_g1 111 276) ((xe_iconst 9).trans (congrArg (x_iconst 9) ((xe_aload 0).trans (congrArg (x_aload 0) ((xe_g1 (kk := 111) rfl tl_11_26).trans (congrArg (x_g1 111 226) ((xe_iload 3).trans (congrArg (x_iload 3) ((xe_iaload).trans (congrArg (x_iaload) ((xe_imul).trans (congrArg (x_imul) ((xe_iconst 6).trans (congrArg (x_iconst 6) ((xe_iadd).trans (congrArg (x_iadd) ((xe_dup2).trans (congrArg (x_dup2) ((xe_iaload).trans (congrArg (x_iaload) ((xe_aload 0).trans (congrArg (x_aload 0) ((xe_g1 (kk := 111) rfl tl_11_25).trans (congrArg (x_g1 111 225) ((xe_iload 3).trans (congrArg (x_iload 3) ((xe_iaload).trans (congrArg (x_iaload) ((xe_iload 1).trans (congrArg (x_iload 1) ((xe_if_icmp .ne 245).trans (congrArg (x_if_icmp .ne 245 K) ((xe_aload 0).trans (congrArg (x_aload 0) ((xe_g1 (kk := 111) rfl tl_11_28).trans (congrArg (x_g1 111 228) ((xe_iload 3).trans (congrArg (x_iload 3) ((xe_iaload).trans (congrArg (x_iaload) ((xe_iload 2).trans (congrArg (x_iload 2) ((xe_if_icmp .gt 245).trans (congrArg (x_if_icmp .gt 245 K) ((xe_aload 0).trans (congrArg (x_aload 0) ((xe_g1 (kk := 111) rfl tl_11_27).trans (congrArg (x_g1 111 227) ((xe_iload 3).trans (congrArg (x_iload 3) ((xe_iaload).trans (congrArg (x_iaload) (xe_goto 246)))))))))))))))))))))))))))))))))))))))))))))))))))))))))))))))))
theorem bk_X11_tellAll_254 : ck_ fX11 none cX11_tellAll 254 [.return_] 255 = true := qck_r (nn_ _) (by decide +kernel)
theorem bs_X11_tellAll_254 {P : Zt → Option Zv → Prop} (K : Int → Zl → List Zv → Zt → Prop) : sx_ K P [.return_] 255 = x_return_ P := (xe_return_)
theorem bk_X11_tellAll_245 : ck_ fX11 none cX11_tellAll 245 [.iconst 0, .isub, .iastore, .iinc 3 1, .goto 190] 254 = true := qck_r (nn_ _) (by decide +kernel)
theorem bs_X11_tellAll_245 {P : Zt → Option Zv → Prop} (K : Int → Zl → List Zv → Zt → Prop) : sx_ K P [.iconst 0, .isub, .iastore, .iinc 3 1, .goto 190] 254 = x_iconst 0 (x_isub (x_iastore (x_iinc 3 1 (x_goto 190 K)))) := ((xe_iconst 0).trans (congrArg (x_iconst 0) ((xe_isub).trans (congrArg (x_isub) ((xe_iastore).trans (congrArg (x_iastore) ((xe_iinc 3 1).trans (congrArg (x_iinc 3 1) (xe_goto 190)))))))))
theorem bk_X11_tellAll_246 : ck_ fX11 none cX11_tellAll 246 [.isub, .iastore, .iinc 3 1, .goto 190] 254 = true := qck_r (nn_ _) (by decide +kernel)
theorem bs_X11_tellAll_246 {P : Zt → Option Zv → Prop} (K : Int → Zl → List Zv → Zt → Prop) : sx_ K P [.isub, .iastore, .iinc 3 1, .goto 190] 254 = x_isub (x_iastore (x_iinc 3 1 (x_goto 190 K))) := ((xe_isub).trans (congrArg (x_isub) ((xe_iastore).trans (congrArg (x_iastore) ((xe_iinc 3 1).trans (congrArg (x_iinc 3 1) (xe_goto 190)))))))
theorem bk_X11_tellAll_182 : ck_ fX11 none cX11_tellAll 182 [.iinc 3 1, .goto 28] 188 = true := qck_r (nn_ _) (by decide +kernel)
theorem bs_X11_tellAll_182 {P : Zt → Option Zv → Prop} (K : Int → Zl → List Zv → Zt → Prop) : sx_ K P [.iinc 3 1, .goto 28] 188 = x_iinc 3 1 (x_goto 28 K) := ((xe_iinc 3 1).trans (congrArg (x_iinc 3 1) (xe_goto 28)))
theorem bk_X11_tellAll_28 : ck_ fX11 none cX11_tellAll 28 [.iload 3, .aload 0, .tableswitch 0 11 10 #[], .iload 1, .iaload, .aload 0, .tableswitch 0 11 11 #[], .iload 1, .iaload, .iadd, .if_icmp .ge 188, .aload 0, .iload 3, .iload 2] 48 = true := qck_r (nn_ _) (by decide +kernel)
theorem bs_X11_tellAll_28 {P : Zt → Option Zv → Prop} (K : Int → Zl → List Zv → Zt → Prop) : sx_ K P [.iload 3, .aload 0, .tableswitch 0 11 10 #[], .iload 1, .iaload, .aload 0, .tableswitch 0 11 11 #[], .iload 1, .iaload, .iadd, .if_icmp .ge 188, .aload 0, .iload 3, .iload 2] 48 = x_iload 3 (x_aload 0 (x_g1 111 210 (x_iload 1 (x_iaload (x_aload 0 (x_g1 111 211 (x_iload 1 (x_iaload (x_iadd (x_if_icmp .ge 188 K (x_aload 0 (x_iload 3 (x_iload 2 (K 48)))))))))))))) := ((xe_iload 3).trans (congrArg (x_iload 3) ((xe_aload 0).trans (congrArg (x_aload 0) ((xe_g1 (kk := 111) rfl tl_11_10).trans (congrArg (x_g1 111 210) ((xe_iload 1).trans (congrArg (x_iload 1) ((xe_iaload).trans (congrArg (x_iaload) ((xe_aload 0).trans (congrArg (x_aload 0) ((xe_g1 (kk := 111) rfl tl_11_11).trans (congrArg (x_g1 111 211) ((xe_iload 1).trans (congrArg (x_iload 1) ((xe_iaload).trans (congrArg (x_iaload) ((xe_iadd).trans (congrArg (x_iadd) ((xe_if_icmp .ge 188).trans (congrArg (x_if_icmp .ge 188 K) ((xe_aload 0).trans (congrArg (x_aload 0) ((xe_iload 3).trans (congrArg (x_iload 3) ((xe_iload 2).trans (congrArg (x_iload 2) xe_nil))))))))))))))))))))))))))))
theorem bk_X11_tellAll_188 : ck_ fX11 none cX11_tellAll 188 [.iconst 0, .istore 3] 190 = true := qck_r (nn_ _) (by decide +kernel)
theorem bs_X11_tellAll_188 {P : Zt → Option Zv → Prop} (K : Int → Zl → List Zv → Zt → Prop) : sx_ K P [.iconst 0, .istore 3] 190 = x_iconst 0 (x_istore 3 (K 190)) := ((xe_iconst 0).trans (congrArg (x_iconst 0) ((xe_istore 3).trans (congrArg (x_istore 3) xe_nil))))
set_option maxRecDepth 100000 in
theorem cl_X11_487 : cv_ RX11 487 yX11_counts zX11_counts 11 2 := ⟨gi_V (lwq_9 (dqc_m (dqc_m (dqc_m (dqc_m (dqc_m (dqa_m (List.mem_of_getElem? (i := 2) rfl))))))) rfl : Cond.methodLink RX11 487 yX11_counts ∈ lw_g) (lwq_9 (dqc_m (dqc_m (dqc_m (dqc_m (dqc_m (dqa_m (List.mem_of_getElem? (i := 4) rfl))))))) rfl : Cond.instanceMethod yX11_counts ∈ lw_g) (lw_sel 15 rfl : Cond.selects yX11_counts.cls yX11_counts yX11_counts ∈ lw_g) (lwq_1 (dqa_m (List.mem_of_getElem? (i := 2) rfl)) rfl : Cond.initialized yX11_counts.cls ∈ lw_g) (lwq_9 (dqc_m (dqc_m (dqc_m (dqc_m (dqc_m (dqa_m (List.mem_of_getElem? (i := 5) rfl))))))) rfl : Cond.code yX11_counts cX11_counts 3 (some .boolean) ∈ lw_g), ⟨nmh_1.1, nmh_1.2, pdq_5⟩, ⟨_, _, rfl⟩⟩
theorem bk_X11_tellAll_51 : ck_ fX11 none cX11_tellAll 51 [.ifCond .eq 182, .aload 0, .iload 1, .aload 0, .tableswitch 0 11 32 #[], .iload 3, .iaload, .aload 0, .tableswitch 0 11 82 #[], .aload 0, .tableswitch 0 11 83 #[]] 70 = true := qck_r (nn_ _) (by decide +kernel)
theorem bs_X11_tellAll_51 {P : Zt → Option Zv → Prop} (K : Int → Zl → List Zv → Zt → Prop) : sx_ K P [.ifCond .eq 182, .aload 0, .iload 1, .aload 0, .tableswitch 0 11 32 #[], .iload 3, .iaload, .aload 0, .tableswitch 0 11 82 #[], .aload 0, .tableswitch 0 11 83 #[]] 70 = x_ifCond .eq 182 K (x_aload 0 (x_iload 1 (x_aload 0 (x_g1 111 232 (x_iload 3 (x_iaload (x_aload 0 (x_g0 111 82 (-2147483648) 2147483647 (x_aload 0 (x_g0 111 83 (-2147483648) 2147483647 (K 70))))))))))) := ((xe_ifCond .eq 182).trans (congrArg (x_ifCond .eq 182 K) ((xe_aload 0).trans (congrArg (x_aload 0) ((xe_iload 1).trans (congrArg (x_iload 1) ((xe_aload 0).trans (congrArg (x_aload 0) ((xe_g1 (kk := 111) rfl tl_11_32).trans (congrArg (x_g1 111 232) ((xe_iload 3).trans (congrArg (x_iload 3) ((xe_iaload).trans (congrArg (x_iaload) ((xe_aload 0).trans (congrArg (x_aload 0) ((xe_g0 (kk := 111) rfl tl_11_82).trans (congrArg (x_g0 111 82 (-2147483648) 2147483647) ((xe_aload 0).trans (congrArg (x_aload 0) ((xe_g0 (kk := 111) rfl tl_11_83).trans (congrArg (x_g0 111 83 (-2147483648) 2147483647) xe_nil))))))))))))))))))))))
set_option maxRecDepth 100000 in
theorem cl_X11_490 : cv_ RX11 490 yX11_tellResult zX11_tellResult 11 4 := ⟨gi_V (lwq_9 (dqc_m (dqc_m (dqc_m (dqc_m (dqc_m (dqa_m (List.mem_of_getElem? (i := 6) rfl))))))) rfl : Cond.methodLink RX11 490 yX11_tellResult ∈ lw_g) (lwq_9 (dqc_m (dqc_m (dqc_m (dqc_m (dqc_m (dqa_m (dqa_m (List.mem_of_getElem? (i := 0) rfl)))))))) rfl : Cond.instanceMethod yX11_tellResult ∈ lw_g) (lw_sel 75 rfl : Cond.selects yX11_tellResult.cls yX11_tellResult yX11_tellResult ∈ lw_g) (lwq_1 (dqa_m (List.mem_of_getElem? (i := 2) rfl)) rfl : Cond.initialized yX11_tellResult.cls ∈ lw_g) (lwq_9 (dqc_m (dqc_m (dqc_m (dqc_m (dqc_m (dqa_m (dqa_m (List.mem_of_getElem? (i := 1) rfl)))))))) rfl : Cond.code yX11_tellResult cX11_tellResult 6 none ∈ lw_g), ⟨nmh_1.1, nmh_1.2, pdq_12⟩, ⟨_, _, rfl⟩⟩
theorem bk_X11_tellAll_73 : ck_ fX11 none cX11_tellAll 73 [.aload 0, .iload 1, .aload 0, .tableswitch 0 11 33 #[], .iload 3, .iaload, .aload 0, .tableswitch 0 11 83 #[], .aload 0, .tableswitch 0 11 82 #[]] 89 = true := qck_r (nn_ _) (by decide +kernel)
theorem bs_X11_tellAll_73 {P : Zt → Option Zv → Prop} (K : Int → Zl → List Zv → Zt → Prop) : sx_ K P [.aload 0, .iload 1, .aload 0, .tableswitch 0 11 33 #[], .iload 3, .iaload, .aload 0, .tableswitch 0 11 83 #[], .aload 0, .tableswitch 0 11 82 #[]] 89 = x_aload 0 (x_iload 1 (x_aload 0 (x_g1 111 233 (x_iload 3 (x_iaload (x_aload 0 (x_g0 111 83 (-2147483648) 2147483647 (x_aload 0 (x_g0 111 82 (-2147483648) 2147483647 (K 89)))))))))) := ((xe_aload 0).trans (congrArg (x_aload 0) ((xe_iload 1).trans (congrArg (x_iload 1) ((xe_aload 0).trans (congrArg (x_aload 0) ((xe_g1 (kk := 111) rfl tl_11_33).trans (congrArg (x_g1 111 233) ((xe_iload 3).trans (congrArg (x_iload 3) ((xe_iaload).trans (congrArg (x_iaload) ((xe_aload 0).trans (congrArg (x_aload 0) ((xe_g0 (kk := 111) rfl tl_11_83).trans (congrArg (x_g0 111 83 (-2147483648) 2147483647) ((xe_aload 0).trans (congrArg (x_aload 0) ((xe_g0 (kk := 111) rfl tl_11_82).trans (congrArg (x_g0 111 82 (-2147483648) 2147483647) xe_nil))))))))))))))))))))
theorem bk_X11_tellAll_92 : ck_ fX11 none cX11_tellAll 92 [.aload 0, .tableswitch 0 11 76 #[], .iconst 9, .aload 0, .tableswitch 0 11 33 #[], .iload 3, .iaload, .imul, .iconst 7, .iadd, .dup2, .iaload, .aload 0, .tableswitch 0 11 83 #[], .iadd, .iastore, .aload 0, .tableswitch 0 11 35 #[], .iload 3, .iaload, .iconst 2, .if_icmp .ne 182, .aload 0, .tableswitch 0 11 76 #[], .iconst 9, .aload 0, .tableswitch 0 11 32 #[], .iload 3, .iaload, .imul, .iconst 8, .iadd, .dup2, .iaload, .aload 0, .iconst 2, .iload 3, .imul] 148 = true := qck_r (nn_ _) (by decide +kernel)
theorem bs_X11_tellAll_92 {P : Zt → Option Zv → Prop} (K : Int → Zl → List Zv → Zt → Prop) : sx_ K P [.aload 0, .tableswitch 0 11 76 #[], .iconst 9, .aload 0, .tableswitch 0 11 33 #[], .iload 3, .iaload, .imul, .iconst 7, .iadd, .dup2, .iaload, .aload 0, .tableswitch 0 11 83 #[], .iadd, .iastore, .aload 0, .tableswitch 0 11 35 #[], .iload 3, .iaload, .iconst 2, .if_icmp .ne 182, .aload 0, .tableswitch 0 11 76 #[], .iconst 9, .aload 0, .tableswitch 0 11 32 #[], .iload 3, .iaload, .imul, .iconst 8, .iadd, .dup2, .iaload, .aload 0, .iconst 2, .iload 3, .imul] 148 = x_aload 0 (x_g1 111 276 (x_iconst 9 (x_aload 0 (x_g1 111 233 (x_iload 3 (x_iaload (x_imul (x_iconst 7 (x_iadd (x_dup2 (x_iaload (x_aload 0 (x_g0 111 83 (-2147483648) 2147483647 (x_iadd (x_iastore (x_aload 0 (x_g1 111 235 (x_iload 3 (x_iaload (x_iconst 2 (x_if_icmp .ne 182 K (x_aload 0 (x_g1 111 276 (x_iconst 9 (x_aload 0 (x_g1 111 232 (x_iload 3 (x_iaload (x_imul (x_iconst 8 (x_iadd (x_dup2 (x_iaload (x_aload 0 (x_iconst 2 (x_iload 3 (x_imul (K 148)))))))))))))))))))))))))))))))))))))) := ((xe_aload 0).trans (congrArg (x_aload 0) ((xe_g1 (kk := 111) rfl tl_11_76).trans (congrArg (x_g1 111 276) ((xe_iconst 9).trans (congrArg (x_iconst 9) ((xe_aload 0).trans (congrArg (x_aload 0) ((xe_g1 (kk := 111) rfl tl_11_33).trans (congrArg (x_g1 111 233) ((xe_iload 3).trans (congrArg (x_iload 3) ((xe_iaload).trans (congrArg (x_iaload) ((xe_imul).trans (congrArg (x_imul) ((xe_iconst 7).trans (congrArg (x_iconst 7) ((xe_iadd).trans (congrArg (x_iadd) ((xe_dup2).trans (congrArg (x_dup2) ((xe_iaload).trans (congrArg (x_iaload) ((xe_aload 0).trans (congrArg (x_aload 0) ((xe_g0 (kk := 111) rfl tl_11_83).trans (congrArg (x_g0 111 83 (-2147483648) 2147483647) ((xe_iadd).trans (congrArg (x_iadd) ((xe_iastore).trans (congrArg (x_iastore) ((xe_aload 0).trans (congrArg (x_aload 0) ((xe_g1 (kk := 111) rfl tl_11_35).trans (congrArg (x_g1 111 235) ((xe_iload 3).trans (congrArg (x_iload 3) ((xe_iaload).trans (congrArg (x_iaload) ((xe_iconst 2).trans (congrArg (x_iconst 2) ((xe_if_icmp .ne 182).trans (congrArg (x_if_icmp .ne 182 K) ((xe_aload 0).trans (congrArg (x_aload 0) ((xe_g1 (kk := 111) rfl tl_11_76).trans (congrArg (x_g1 111 276) ((xe_iconst 9).trans (congrArg (x_iconst 9) ((xe_aload 0).trans (congrArg (x_aload 0) ((xe_g1 (kk := 111) rfl tl_11_32).trans (congrArg (x_g1 111 232) ((xe_iload 3).trans (congrArg (x_iload 3) ((xe_iaload).trans (congrArg (x_iaload) ((xe_imul).trans (congrArg (x_imul) ((xe_iconst 8).trans (congrArg (x_iconst 8) ((xe_iadd).trans (congrArg (x_iadd) ((xe_dup2).trans (congrArg (x_dup2) ((xe_iaload).trans (congrArg (x_iaload) ((xe_aload 0).trans (congrArg (x_aload 0) ((xe_iconst 2).trans (congrArg (x_iconst 2) ((xe_iload 3).trans (congrArg (x_iload 3) ((xe_imul).trans (congrArg (x_imul) xe_nil))))))))))))))))))))))))))))))))))))))))))))))))))))))))))))))))))))))))))))
set_option maxRecDepth 100000 in
theorem cl_X11_493 : cv_ RX11 493 yX11_fairOf zX11_fairOf 11 1 := ⟨gi_V (lwq_9 (dqc_m (dqc_m (dqc_m (dqc_m (dqc_m (dqa_m (dqa_m (List.mem_of_getElem? (i := 2) rfl)))))))) rfl : Cond.methodLink RX11 493 yX11_fairOf ∈ lw_g) (lwq_9 (dqc_m (dqc_m (dqc_m (dqc_m (dqc_m (dqa_m (dqa_m (List.mem_of_getElem? (i := 4) rfl)))))))) rfl : Cond.instanceMethod yX11_fairOf ∈ lw_g) (lw_sel 17 rfl : Cond.selects yX11_fairOf.cls yX11_fairOf yX11_fairOf ∈ lw_g) (lwq_1 (dqa_m (List.mem_of_getElem? (i := 2) rfl)) rfl : Cond.initialized yX11_fairOf.cls ∈ lw_g) (lwq_9 (dqc_m (dqc_m (dqc_m (dqc_m (dqc_m (dqa_m (dqa_m (List.mem_of_getElem? (i := 5) rfl)))))))) rfl : Cond.code yX11_fairOf cX11_fairOf 4 (some .int) ∈ lw_g), ⟨nmh_1.1, nmh_1.2, pdq_15⟩, ⟨_, _, rfl⟩⟩
theorem bk_X11_tellAll_151 : ck_ fX11 none cX11_tellAll 151 [.iadd, .iastore, .aload 0, .tableswitch 0 11 76 #[], .iconst 9, .aload 0, .tableswitch 0 11 33 #[], .iload 3, .iaload, .imul, .iconst 8, .iadd, .dup2, .iaload, .aload 0, .iconst 2, .iload 3, .imul, .iconst 1, .iadd] 177 = true := qck_r (nn_ _) (by decide +kernel)
theorem bs_X11_tellAll_151 {P : Zt → Option Zv → Prop} (K : Int → Zl → List Zv → Zt → Prop) : sx_ K P [.iadd, .iastore, .aload 0, .tableswitch 0 11 76 #[], .iconst 9, .aload 0, .tableswitch 0 11 33 #[], .iload 3, .iaload, .imul, .iconst 8, .iadd, .dup2, .iaload, .aload 0, .iconst 2, .iload 3, .imul, .iconst 1, .iadd] 177 = x_iadd (x_iastore (x_aload 0 (x_g1 111 276 (x_iconst 9 (x_aload 0 (x_g1 111 233 (x_iload 3 (x_iaload (x_imul (x_iconst 8 (x_iadd (x_dup2 (x_iaload (x_aload 0 (x_iconst 2 (x_iload 3 (x_imul (x_iconst 1 (x_iadd (K 177)))))))))))))))))))) := ((xe_iadd).trans (congrArg (x_iadd) ((xe_iastore).trans (congrArg (x_iastore) ((xe_aload 0).trans (congrArg (x_aload 0) ((xe_g1 (kk := 111) rfl tl_11_76).trans (congrArg (x_g1 111 276) ((xe_iconst 9).trans (congrArg (x_iconst 9) ((xe_aload 0).trans (congrArg (x_aload 0) ((xe_g1 (kk := 111) rfl tl_11_33).trans (congrArg (x_g1 111 233) ((xe_iload 3).trans (congrArg (x_iload 3) ((xe_iaload).trans (congrArg (x_iaload) ((xe_imul).trans (congrArg (x_imul) ((xe_iconst 8).trans (congrArg (x_iconst 8) ((xe_iadd).trans (congrArg (x_iadd) ((xe_dup2).trans (congrArg (x_dup2) ((xe_iaload).trans (congrArg (x_iaload) ((xe_aload 0).trans (congrArg (x_aload 0) ((xe_iconst 2).trans (congrArg (x_iconst 2) ((xe_iload 3).trans (congrArg (x_iload 3) ((xe_imul).trans (congrArg (x_imul) ((xe_iconst 1).trans (congrArg (x_iconst 1) ((xe_iadd).trans (congrArg (x_iadd) xe_nil))))))))))))))))))))))))))))))))))))))))
theorem bk_X11_tellAll_180 : ck_ fX11 none cX11_tellAll 180 [.iadd, .iastore] 182 = true := qck_r (nn_ _) (by decide +kernel)
theorem bs_X11_tellAll_180 {P : Zt → Option Zv → Prop} (K : Int → Zl → List Zv → Zt → Prop) : sx_ K P [.iadd, .iastore] 182 = x_iadd (x_iastore (K 182)) := ((xe_iadd).trans (congrArg (x_iadd) ((xe_iastore).trans (congrArg (x_iastore) xe_nil))))
theorem bk_X11_tellAll_2 : ck_ fX11 none cX11_tellAll 2 [.iload 3, .iconst 108, .if_icmp .ge 21, .aload 0, .tableswitch 0 11 76 #[], .iload 3, .iconst 0, .iastore, .iinc 3 1, .goto 2] 21 = true := qck_r (nn_ _) (by decide +kernel)
theorem bs_X11_tellAll_2 {P : Zt → Option Zv → Prop} (K : Int → Zl → List Zv → Zt → Prop) : sx_ K P [.iload 3, .iconst 108, .if_icmp .ge 21, .aload 0, .tableswitch 0 11 76 #[], .iload 3, .iconst 0, .iastore, .iinc 3 1, .goto 2] 21 = x_iload 3 (x_iconst 108 (x_if_icmp .ge 21 K (x_aload 0 (x_g1 111 276 (x_iload 3 (x_iconst 0 (x_iastore (x_iinc 3 1 (x_goto 2 K))))))))) := ((xe_iload 3).trans (congrArg (x_iload 3) ((xe_iconst 108).trans (congrArg (x_iconst 108) ((xe_if_icmp .ge 21).trans (congrArg (x_if_icmp .ge 21 K) ((xe_aload 0).trans (congrArg (x_aload 0) ((xe_g1 (kk := 111) rfl tl_11_76).trans (congrArg (x_g1 111 276) ((xe_iload 3).trans (congrArg (x_iload 3) ((xe_iconst 0).trans (congrArg (x_iconst 0) ((xe_iastore).trans (congrArg (x_iastore) ((xe_iinc 3 1).trans (congrArg (x_iinc 3 1) (xe_goto 2)))))))))))))))))))
theorem bk_X11_tellAll_21 : ck_ fX11 none cX11_tellAll 21 [.aload 0, .tableswitch 0 11 10 #[], .iload 1, .iaload, .istore 3] 28 = true := qck_r (nn_ _) (by decide +kernel)
theorem bs_X11_tellAll_21 {P : Zt → Option Zv → Prop} (K : Int → Zl → List Zv → Zt → Prop) : sx_ K P [.aload 0, .tableswitch 0 11 10 #[], .iload 1, .iaload, .istore 3] 28 = x_aload 0 (x_g1 111 210 (x_iload 1 (x_iaload (x_istore 3 (K 28))))) := ((xe_aload 0).trans (congrArg (x_aload 0) ((xe_g1 (kk := 111) rfl tl_11_10).trans (congrArg (x_g1 111 210) ((xe_iload 1).trans (congrArg (x_iload 1) ((xe_iaload).trans (congrArg (x_iaload) ((xe_istore 3).trans (congrArg (x_istore 3) xe_nil))))))))))
theorem bk_X11_tellAll_0 : ck_ fX11 none cX11_tellAll 0 [.iconst 0, .istore 3] 2 = true := qck_r (nn_ _) (by decide +kernel)
theorem bs_X11_tellAll_0 {P : Zt → Option Zv → Prop} (K : Int → Zl → List Zv → Zt → Prop) : sx_ K P [.iconst 0, .istore 3] 2 = x_iconst 0 (x_istore 3 (K 2)) := ((xe_iconst 0).trans (congrArg (x_iconst 0) ((xe_istore 3).trans (congrArg (x_istore 3) xe_nil))))
abbrev po_X11_tellAll (T : Zt) (c d : Int) : Zt → Option Zv → Prop := fun T' r => r = none ∧ fr_ [(276, []), (111, [82, 83])] T T' ∧ (TB_ T' 150000000)
set_option maxHeartbeats 4000000 in
theorem ct_X11_tellAll {T : Zt} {c d : Int} (h1 : 0 ≤ c ∧ c < 4) (hml : ML_ T) (hsc : SC_ T) (hyb : YB_ T) : Ct_ yX11_tellAll zX11_tellAll T [vR 111 0, vI c, vI d] (po_X11_tellAll T c d) := by
  refine ct_of pn_11 rfl rfl (Nat.le_of_ble_eq_true rfl) (fun hT hav => ?_)
  have hr_c : -2147483648 ≤ c ∧ c ≤ 2147483647 := hav (vI c) (List.mem_cons_of_mem _ List.mem_cons_self)
  have hr_d : -2147483648 ≤ d ∧ d ≤ 2147483647 := hav (vI d) (List.mem_cons_of_mem _ (List.mem_cons_of_mem _ List.mem_cons_self))
  have hz : zX11_tellAll.2.2.2.1 = some .boolean → ∀ (T' : Zt) (x : Int), po_X11_tellAll T c d T' (some (vI x)) → 0 ≤ x ∧ x ≤ 1 := fun h => by cases h
  have hb_29 : 0 ≤ T 111 0 29 ∧ T 111 0 29 ≤ 400 := bd_f hT 111 29 tl_11_29 0
  have hb_24 : 0 ≤ T 111 0 24 ∧ T 111 0 24 ≤ 50 := bd_f hT 111 24 tl_11_24 0
  have hmc := hml c (by omega) (by omega)
  have hfo : 0 ≤ T 210 0 c ∧ T 210 0 c ≤ 400 := bd_a hT 210 (by decide +kernel : ta_ 210 = some (1, some 4, 0, 400)) 0 (by omega)
  show J_ zX11_tellAll T (po_X11_tellAll T c d) 0 0 0 [some (vR 111 0), some (vI c), some (vI d), none] [] T
  have c_190 : ∀ (nn : Nat) (i : Int) (T4 : Zt), ((50 - i).toNat) ≤ nn → (fr_ [(276, []), (111, [82, 83])] T T4) → (TB_ T4 (144800000 + 20000 * i)) → (0 ≤ i ∧ i ≤ 50) → J_ zX11_tellAll T (po_X11_tellAll T c d) 0 0 190 [some (vR 111 0), some (vI c), some (vI d), some (vI i)] [] T4 := by
    intro nn
    induction nn using Nat.strongRecOn with
    | _ nn ih_190 =>
      intro i T4 hm_190 hf_190 tb4 i4
      replace hm_190 := fun (_ : Unit) => hm_190
      refine j_blx (F := fX11) tb_X11 (nn_ _) bk_X11_tellAll_190 bs_X11_tellAll_190 hz (fun K hK => ?_)
      intro b1 b1b
      have e2 : T4 111 0 24 = T 111 0 24 := hf_190 111 0 24 rfl
      rw [e2] at b1 b1b ⊢
      refine And.intro (fun c3 => ?_) (fun c3 => ?_)
      · refine hK 254 _ [] T4 ?_
        refine j_blx (F := fX11) tb_X11 (nn_ _) bk_X11_tellAll_254 bs_X11_tellAll_254 hz (fun K hK => ?_)
        refine (show po_X11_tellAll T c d T4 (none) from ?_)
        exact ⟨rfl, fr_t (fr_0 _ _) (fr_s hf_190 rfl), tb_m tb4 (by omega)⟩
      · refine ix_i (by omega) ?_
        intro b4 b4b
        have e5 : T4 226 0 i = T 226 0 i := hf_190 226 0 i rfl
        rw [e5] at b4 b4b ⊢
        refine rg_i (by omega) ?_
        refine rg_i (by omega) ?_
        refine ix_i (by omega) ?_
        intro b6 b6b
        refine ix_i (by omega) ?_
        intro b7 b7b
        have e8 : T4 225 0 i = T 225 0 i := hf_190 225 0 i rfl
        rw [e8] at b7 b7b ⊢
        refine And.intro (fun c9 => ?_) (fun c9 => ?_)
        · refine hK 245 _ [vI (T4 276 0 ((9 * (T 226 0 i)) + 6)), vI ((9 * (T 226 0 i)) + 6), vR 276 0] T4 ?_
          refine j_blx (F := fX11) tb_X11 (nn_ _) bk_X11_tellAll_245 bs_X11_tellAll_245 hz (fun K hK => ?_)
          have t10 : -(144800000 + 20000 * i) ≤ T4 276 0 ((9 * (T 226 0 i)) + 6) ∧ T4 276 0 ((9 * (T 226 0 i)) + 6) ≤ 144800000 + 20000 * i ∧ (((9 * (T 226 0 i)) + 6) % 9 = 6 → -(144800000 + 20000 * i) ≤ 20 * (T4 276 0 ((9 * (T 226 0 i)) + 6)) ∧ 20 * (T4 276 0 ((9 * (T 226 0 i)) + 6)) ≤ 144800000 + 20000 * i) := (tb4) ((9 * (T 226 0 i)) + 6) (by omega) (by omega)
          refine rg_i (by omega) ?_
          refine iy_i (by omega) (by omega) ?_
          refine x_nm (fun U11 hU11 => ?_)
          have e12 := up_f hU11
          refine rg_i (by omega) ?_
          refine hK 190 [some (vR 111 0), some (vI c), some (vI d), some (vI (i + 1))] [] U11 ?_
          refine ih_190 _ ?_ (i + 1) U11 (Nat.le_refl _) ?_ ?_ ?_
          · have hm_190 := hm_190 (); omega
          · exact fr_u (fr_t (fr_0 _ _) (fr_s hf_190 rfl)) hU11 rfl
          · exact tb_m (tb_u (d := 20000) (tb4) hU11 (by decide) (by omega)) (by omega)
          · omega
        · refine ix_i (by omega) ?_
          intro b13 b13b
          have e14 : T4 228 0 i = T 228 0 i := hf_190 228 0 i rfl
          rw [e14] at b13 b13b ⊢
          refine And.intro (fun c15 => ?_) (fun c15 => ?_)
          · refine hK 245 [some (vR 111 0), some (vI c), some (vI d), some (vI i)] [vI (T4 276 0 ((9 * (T 226 0 i)) + 6)), vI ((9 * (T 226 0 i)) + 6), vR 276 0] T4 ?_
            refine j_blx (F := fX11) tb_X11 (nn_ _) bk_X11_tellAll_245 bs_X11_tellAll_245 hz (fun K hK => ?_)
            have t16 : -(144800000 + 20000 * i) ≤ T4 276 0 ((9 * (T 226 0 i)) + 6) ∧ T4 276 0 ((9 * (T 226 0 i)) + 6) ≤ 144800000 + 20000 * i ∧ (((9 * (T 226 0 i)) + 6) % 9 = 6 → -(144800000 + 20000 * i) ≤ 20 * (T4 276 0 ((9 * (T 226 0 i)) + 6)) ∧ 20 * (T4 276 0 ((9 * (T 226 0 i)) + 6)) ≤ 144800000 + 20000 * i) := (tb4) ((9 * (T 226 0 i)) + 6) (by omega) (by omega)
            refine rg_i (by omega) ?_
            refine iy_i (by omega) (by omega) ?_
            refine x_nm (fun U17 hU17 => ?_)
            have e18 := up_f hU17
            refine rg_i (by omega) ?_
            refine hK 190 [some (vR 111 0), some (vI c), some (vI d), some (vI (i + 1))] [] U17 ?_
            refine ih_190 _ ?_ (i + 1) U17 (Nat.le_refl _) ?_ ?_ ?_
            · have hm_190 := hm_190 (); omega
            · exact fr_u (fr_t (fr_0 _ _) (fr_s hf_190 rfl)) hU17 rfl
            · exact tb_m (tb_u (d := 20000) (tb4) hU17 (by decide) (by omega)) (by omega)
            · omega
          · refine ix_i (by omega) ?_
            intro b19 b19b
            have e20 : T4 227 0 i = T 227 0 i := hf_190 227 0 i rfl
            rw [e20] at b19 b19b ⊢
            refine hK 246 [some (vR 111 0), some (vI c), some (vI d), some (vI i)] [vI (T 227 0 i), vI (T4 276 0 ((9 * (T 226 0 i)) + 6)), vI ((9 * (T 226 0 i)) + 6), vR 276 0] T4 ?_
            refine j_blx (F := fX11) tb_X11 (nn_ _) bk_X11_tellAll_246 bs_X11_tellAll_246 hz (fun K hK => ?_)
            have t21 : -(144800000 + 20000 * i) ≤ T4 276 0 ((9 * (T 226 0 i)) + 6) ∧ T4 276 0 ((9 * (T 226 0 i)) + 6) ≤ 144800000 + 20000 * i ∧ (((9 * (T 226 0 i)) + 6) % 9 = 6 → -(144800000 + 20000 * i) ≤ 20 * (T4 276 0 ((9 * (T 226 0 i)) + 6)) ∧ 20 * (T4 276 0 ((9 * (T 226 0 i)) + 6)) ≤ 144800000 + 20000 * i) := (tb4) ((9 * (T 226 0 i)) + 6) (by omega) (by omega)
            refine rg_i (by omega) ?_
            refine iy_i (by omega) (by omega) ?_
            refine x_nm (fun U22 hU22 => ?_)
            have e23 := up_f hU22
            refine rg_i (by omega) ?_
            refine hK 190 [some (vR 111 0), some (vI c), some (vI d), some (vI (i + 1))] [] U22 ?_
            refine ih_190 _ ?_ (i + 1) U22 (Nat.le_refl _) ?_ ?_ ?_
            · have hm_190 := hm_190 (); omega
            · exact fr_u (fr_t (fr_0 _ _) (fr_s hf_190 rfl)) hU22 rfl
            · exact tb_m (tb_u (d := 20000) (tb4) hU22 (by decide) (by omega)) (by omega)
            · omega
  have c_28 : ∀ (nn : Nat) (m : Int) (T2 : Zt), ((400 - m).toNat) ≤ nn → (fr_ [(276, []), (111, [82, 83])] T T2) → (TB_ T2 (362000 * (m - T 210 0 c))) → (T 210 0 c ≤ m ∧ m ≤ 400) → J_ zX11_tellAll T (po_X11_tellAll T c d) 0 0 28 [some (vR 111 0), some (vI c), some (vI d), some (vI m)] [] T2 := by
    intro nn
    induction nn using Nat.strongRecOn with
    | _ nn ih_28 =>
      intro m T2 hm_28 hf_28 tb2 i2
      replace hm_28 := fun (_ : Unit) => hm_28
      have c_182 : ∀ (T3 : Zt), (fr_ [(276, []), (111, [82, 83])] T T3) → (TB_ T3 (362000 * (m - T 210 0 c) + 362000)) → (m < 400) → J_ zX11_tellAll T (po_X11_tellAll T c d) 0 0 182 [some (vR 111 0), some (vI c), some (vI d), some (vI m)] [] T3 := by
        intro T3 hf_182 tb3 i3
        refine j_blx (F := fX11) tb_X11 (nn_ _) bk_X11_tellAll_182 bs_X11_tellAll_182 hz (fun K hK => ?_)
        refine rg_i (by omega) ?_
        refine hK 28 [some (vR 111 0), some (vI c), some (vI d), some (vI (m + 1))] [] T3 ?_
        refine ih_28 _ ?_ (m + 1) T3 (Nat.le_refl _) ?_ ?_ ?_
        · have hm_28 := hm_28 (); omega
        · exact fr_t (fr_0 _ _) (fr_s hf_182 rfl)
        · exact tb_m (tb3) (by omega)
        · omega
      refine j_blx (F := fX11) tb_X11 (nn_ _) bk_X11_tellAll_28 bs_X11_tellAll_28 hz (fun K hK => ?_)
      refine ix_i (by omega) ?_
      intro b24 b24b
      have e25 : T2 210 0 c = T 210 0 c := hf_28 210 0 c rfl
      rw [e25] at b24 b24b ⊢
      refine ix_i (by omega) ?_
      intro b26 b26b
      have e27 : T2 211 0 c = T 211 0 c := hf_28 211 0 c rfl
      rw [e27] at b26 b26b ⊢
      refine rg_i (by omega) ?_
      refine And.intro (fun c28 => ?_) (fun c28 => ?_)
      · refine hK 188 _ [] T2 ?_
        refine j_blx (F := fX11) tb_X11 (nn_ _) bk_X11_tellAll_188 bs_X11_tellAll_188 hz (fun K hK => ?_)
        refine hK 190 [some (vR 111 0), some (vI c), some (vI d), some (vI 0)] [] T2 ?_
        refine c_190 _ 0 T2 (Nat.le_refl _) ?_ ?_ ?_
        · exact fr_t (fr_0 _ _) (fr_s hf_28 rfl)
        · exact tb_m (tb2) (by omega)
        · omega
      · refine hK 48 [some (vR 111 0), some (vI c), some (vI d), some (vI m)] [vI d, vI m, vR 111 0] T2 ?_
        refine j_callV (y := yX11_counts) (Yc := zX11_counts) (rest := []) [vI m, vI d] (ct_X11_counts (T := T2) (by omega) (SC__f (ws := [(276, []), (111, [82, 83])]) hsc (fr_t (fr_0 _ _) (fr_s hf_28 rfl)) ⟨fun _ => rfl, fun _ => rfl, trivial⟩)) cl_X11_487 (qd_c (by decide +kernel)) (nn_ _) rfl (rf_of rfl) (Nat.le_of_ble_eq_true rfl) (Nat.le_of_ble_eq_true rfl) (Nat.le_of_ble_eq_true rfl) rfl ?_
        rintro U29 _ ⟨x30, rfl, fU29, qU29⟩
        show J_ zX11_tellAll T (po_X11_tellAll T c d) 0 0 51 _ [vI x30] U29
        refine j_blx (F := fX11) tb_X11 (nn_ _) bk_X11_tellAll_51 bs_X11_tellAll_51 hz (fun K hK => ?_)
        refine And.intro (fun c31 => ?_) (fun c31 => ?_)
        · refine hK 182 _ [] U29 ?_
          refine c_182 U29 ?_ ?_ ?_
          · exact fr_t (fr_t (fr_0 _ _) (fr_s hf_28 rfl)) (fr_s fU29 rfl)
          · exact tb_m (tb_f (tb2) (fun j => fU29 276 0 j rfl)) (by omega)
          · omega
        · refine ix_i (by omega) ?_
          intro b32 b32b
          have e33 : U29 232 0 m = T 232 0 m := (fU29 232 0 m rfl).trans (hf_28 232 0 m rfl)
          rw [e33] at b32 b32b ⊢
          intro b34 b34b
          intro b35 b35b
          refine hK 70 _ [vI (U29 111 0 83), vI (U29 111 0 82), vI (T 232 0 m), vI c, vR 111 0] U29 ?_
          refine j_callV (y := yX11_tellResult) (Yc := zX11_tellResult) (rest := []) [vI c, vI (T 232 0 m), vI (U29 111 0 82), vI (U29 111 0 83)] (ct_X11_tellResult (T := U29) (bb := 362000 * (m - T 210 0 c)) (by omega) (by omega) (by omega) (by omega) (by omega) (tb_f (tb2) (fun j => fU29 276 0 j rfl))) cl_X11_490 (qd_c (by decide +kernel)) (nn_ _) rfl (rf_of rfl) (Nat.le_of_ble_eq_true rfl) (Nat.le_of_ble_eq_true rfl) (Nat.le_of_ble_eq_true rfl) rfl ?_
          rintro U36 _ ⟨rfl, fU36, qU36⟩
          show J_ zX11_tellAll T (po_X11_tellAll T c d) 0 0 73 _ [] U36
          refine j_blx (F := fX11) tb_X11 (nn_ _) bk_X11_tellAll_73 bs_X11_tellAll_73 hz (fun K hK => ?_)
          refine ix_i (by omega) ?_
          intro b37 b37b
          have e38 : U36 233 0 m = T 233 0 m := (fU36 233 0 m rfl).trans ((fU29 233 0 m rfl).trans (hf_28 233 0 m rfl))
          rw [e38] at b37 b37b ⊢
          intro b39 b39b
          have e40 : U36 111 0 83 = U29 111 0 83 := fU36 111 0 83 rfl
          rw [e40] at b39 b39b ⊢
          intro b41 b41b
          have e42 : U36 111 0 82 = U29 111 0 82 := fU36 111 0 82 rfl
          rw [e42] at b41 b41b ⊢
          refine hK 89 _ [vI (U29 111 0 82), vI (U29 111 0 83), vI (T 233 0 m), vI c, vR 111 0] U36 ?_
          refine j_callV (y := yX11_tellResult) (Yc := zX11_tellResult) (rest := []) [vI c, vI (T 233 0 m), vI (U29 111 0 83), vI (U29 111 0 82)] (ct_X11_tellResult (T := U36) (bb := 362000 * (m - T 210 0 c) + 140000) (by omega) (by omega) (by omega) (by omega) (by omega) (qU36)) cl_X11_490 (qd_c (by decide +kernel)) (nn_ _) rfl (rf_of rfl) (Nat.le_of_ble_eq_true rfl) (Nat.le_of_ble_eq_true rfl) (Nat.le_of_ble_eq_true rfl) rfl ?_
          rintro U43 _ ⟨rfl, fU43, qU43⟩
          show J_ zX11_tellAll T (po_X11_tellAll T c d) 0 0 92 _ [] U43
          refine j_blx (F := fX11) tb_X11 (nn_ _) bk_X11_tellAll_92 bs_X11_tellAll_92 hz (fun K hK => ?_)
          refine ix_i (by omega) ?_
          intro b44 b44b
          have e45 : U43 233 0 m = T 233 0 m := (fU43 233 0 m rfl).trans ((fU36 233 0 m rfl).trans ((fU29 233 0 m rfl).trans (hf_28 233 0 m rfl)))
          rw [e45] at b44 b44b ⊢
          refine rg_i (by omega) ?_
          refine rg_i (by omega) ?_
          refine ix_i (by omega) ?_
          intro b46 b46b
          intro b47 b47b
          have e48 : U43 111 0 83 = U29 111 0 83 := (fU43 111 0 83 rfl).trans (fU36 111 0 83 rfl)
          rw [e48] at b47 b47b ⊢
          have t49 : -(362000 * (m - T 210 0 c) + 140000 + 140000) ≤ U43 276 0 ((9 * (T 233 0 m)) + 7) ∧ U43 276 0 ((9 * (T 233 0 m)) + 7) ≤ 362000 * (m - T 210 0 c) + 140000 + 140000 ∧ (((9 * (T 233 0 m)) + 7) % 9 = 6 → -(362000 * (m - T 210 0 c) + 140000 + 140000) ≤ 20 * (U43 276 0 ((9 * (T 233 0 m)) + 7)) ∧ 20 * (U43 276 0 ((9 * (T 233 0 m)) + 7)) ≤ 362000 * (m - T 210 0 c) + 140000 + 140000) := (qU43) ((9 * (T 233 0 m)) + 7) (by omega) (by omega)
          refine rg_i (by omega) ?_
          refine iy_i (by omega) (by omega) ?_
          refine x_nm (fun U50 hU50 => ?_)
          have e51 := up_f hU50
          refine ix_i (by omega) ?_
          intro b52 b52b
          have e53 : U50 235 0 m = T 235 0 m := (up_k hU50 (by exact Nat.ne_of_beq_eq_false rfl) 0 m).trans ((fU43 235 0 m rfl).trans ((fU36 235 0 m rfl).trans ((fU29 235 0 m rfl).trans (hf_28 235 0 m rfl))))
          rw [e53] at b52 b52b ⊢
          refine And.intro (fun c54 => ?_) (fun c54 => ?_)
          · refine hK 182 _ [] U50 ?_
            refine c_182 U50 ?_ ?_ ?_
            · exact fr_u (fr_t (fr_t (fr_t (fr_t (fr_0 _ _) (fr_s hf_28 rfl)) (fr_s fU29 rfl)) (fr_s fU36 rfl)) (fr_s fU43 rfl)) hU50 rfl
            · exact tb_m (tb_u (d := 20000) (qU43) hU50 (by decide) (by omega)) (by omega)
            · omega
          · refine ix_i (by omega) ?_
            intro b55 b55b
            have e56 : U50 232 0 m = T 232 0 m := (up_k hU50 (by exact Nat.ne_of_beq_eq_false rfl) 0 m).trans ((fU43 232 0 m rfl).trans ((fU36 232 0 m rfl).trans ((fU29 232 0 m rfl).trans (hf_28 232 0 m rfl))))
            rw [e56] at b55 b55b ⊢
            refine rg_i (by omega) ?_
            refine rg_i (by omega) ?_
            refine ix_i (by omega) ?_
            intro b57 b57b
            refine rg_i (by omega) ?_
            refine hK 148 _ [vI (2 * m), vR 111 0, vI (U50 276 0 ((9 * (T 232 0 m)) + 8)), vI ((9 * (T 232 0 m)) + 8), vR 276 0] U50 ?_
            refine j_callV (y := yX11_fairOf) (Yc := zX11_fairOf) (rest := [vI (U50 276 0 ((9 * (T 232 0 m)) + 8)), vI ((9 * (T 232 0 m)) + 8), vR 276 0]) [vI (2 * m)] (ct_X11_fairOf (T := U50) (by omega) (YB__f (ws := [(276, []), (111, [82, 83])]) hyb (fr_u (fr_t (fr_t (fr_t (fr_t (fr_0 _ _) (fr_s hf_28 rfl)) (fr_s fU29 rfl)) (fr_s fU36 rfl)) (fr_s fU43 rfl)) hU50 rfl) ⟨fun _ => rfl, trivial⟩)) cl_X11_493 (qd_c (by decide +kernel)) (nn_ _) rfl (rf_of rfl) (Nat.le_of_ble_eq_true rfl) (Nat.le_of_ble_eq_true rfl) (Nat.le_of_ble_eq_true rfl) rfl ?_
            rintro _ _ ⟨rfl, x58, rfl, hx58⟩
            show J_ zX11_tellAll T (po_X11_tellAll T c d) 0 0 151 _ [vI x58, vI (U50 276 0 ((9 * (T 232 0 m)) + 8)), vI ((9 * (T 232 0 m)) + 8), vR 276 0] U50
            refine j_blx (F := fX11) tb_X11 (nn_ _) bk_X11_tellAll_151 bs_X11_tellAll_151 hz (fun K hK => ?_)
            have t59 : -(362000 * (m - T 210 0 c) + 140000 + 140000 + 20000) ≤ U50 276 0 ((9 * (T 232 0 m)) + 8) ∧ U50 276 0 ((9 * (T 232 0 m)) + 8) ≤ 362000 * (m - T 210 0 c) + 140000 + 140000 + 20000 ∧ (((9 * (T 232 0 m)) + 8) % 9 = 6 → -(362000 * (m - T 210 0 c) + 140000 + 140000 + 20000) ≤ 20 * (U50 276 0 ((9 * (T 232 0 m)) + 8)) ∧ 20 * (U50 276 0 ((9 * (T 232 0 m)) + 8)) ≤ 362000 * (m - T 210 0 c) + 140000 + 140000 + 20000) := (tb_u (d := 20000) (qU43) hU50 (by decide) (by omega)) ((9 * (T 232 0 m)) + 8) (by omega) (by omega)
            refine rg_i (by omega) ?_
            refine iy_i (by omega) (by omega) ?_
            refine x_nm (fun U60 hU60 => ?_)
            have e61 := up_f hU60
            refine ix_i (by omega) ?_
            intro b62 b62b
            have e63 : U60 233 0 m = T 233 0 m := (up_k hU60 (by exact Nat.ne_of_beq_eq_false rfl) 0 m).trans ((up_k hU50 (by exact Nat.ne_of_beq_eq_false rfl) 0 m).trans ((fU43 233 0 m rfl).trans ((fU36 233 0 m rfl).trans ((fU29 233 0 m rfl).trans (hf_28 233 0 m rfl)))))
            rw [e63] at b62 b62b ⊢
            refine rg_i (by omega) ?_
            refine rg_i (by omega) ?_
            refine ix_i (by omega) ?_
            intro b64 b64b
            refine rg_i (by omega) ?_
            refine rg_i (by omega) ?_
            refine hK 177 _ [vI ((2 * m) + 1), vR 111 0, vI (U60 276 0 ((9 * (T 233 0 m)) + 8)), vI ((9 * (T 233 0 m)) + 8), vR 276 0] U60 ?_
            refine j_callV (y := yX11_fairOf) (Yc := zX11_fairOf) (rest := [vI (U60 276 0 ((9 * (T 233 0 m)) + 8)), vI ((9 * (T 233 0 m)) + 8), vR 276 0]) [vI ((2 * m) + 1)] (ct_X11_fairOf (T := U60) (by omega) (YB__f (ws := [(276, []), (111, [82, 83])]) hyb (fr_u (fr_u (fr_t (fr_t (fr_t (fr_t (fr_0 _ _) (fr_s hf_28 rfl)) (fr_s fU29 rfl)) (fr_s fU36 rfl)) (fr_s fU43 rfl)) hU50 rfl) hU60 rfl) ⟨fun _ => rfl, trivial⟩)) cl_X11_493 (qd_c (by decide +kernel)) (nn_ _) rfl (rf_of rfl) (Nat.le_of_ble_eq_true rfl) (Nat.le_of_ble_eq_true rfl) (Nat.le_of_ble_eq_true rfl) rfl ?_
            rintro _ _ ⟨rfl, x65, rfl, hx65⟩
            show J_ zX11_tellAll T (po_X11_tellAll T c d) 0 0 180 _ [vI x65, vI (U60 276 0 ((9 * (T 233 0 m)) + 8)), vI ((9 * (T 233 0 m)) + 8), vR 276 0] U60
            refine j_blx (F := fX11) tb_X11 (nn_ _) bk_X11_tellAll_180 bs_X11_tellAll_180 hz (fun K hK => ?_)
            have t66 : -(362000 * (m - T 210 0 c) + 140000 + 140000 + 20000 + 31000) ≤ U60 276 0 ((9 * (T 233 0 m)) + 8) ∧ U60 276 0 ((9 * (T 233 0 m)) + 8) ≤ 362000 * (m - T 210 0 c) + 140000 + 140000 + 20000 + 31000 ∧ (((9 * (T 233 0 m)) + 8) % 9 = 6 → -(362000 * (m - T 210 0 c) + 140000 + 140000 + 20000 + 31000) ≤ 20 * (U60 276 0 ((9 * (T 233 0 m)) + 8)) ∧ 20 * (U60 276 0 ((9 * (T 233 0 m)) + 8)) ≤ 362000 * (m - T 210 0 c) + 140000 + 140000 + 20000 + 31000) := (tb_u (d := 31000) (tb_u (d := 20000) (qU43) hU50 (by decide) (by omega)) hU60 (by decide) (by omega)) ((9 * (T 233 0 m)) + 8) (by omega) (by omega)
            refine rg_i (by omega) ?_
            refine iy_i (by omega) (by omega) ?_
            refine x_nm (fun U67 hU67 => ?_)
            have e68 := up_f hU67
            refine hK 182 _ [] U67 ?_
            refine c_182 U67 ?_ ?_ ?_
            · exact fr_u (fr_u (fr_u (fr_t (fr_t (fr_t (fr_t (fr_0 _ _) (fr_s hf_28 rfl)) (fr_s fU29 rfl)) (fr_s fU36 rfl)) (fr_s fU43 rfl)) hU50 rfl) hU60 rfl) hU67 rfl
            · exact tb_m (tb_u (d := 31000) (tb_u (d := 31000) (tb_u (d := 20000) (qU43) hU50 (by decide) (by omega)) hU60 (by decide) (by omega)) hU67 (by decide) (by omega)) (by omega)
            · omega
  have c_2 : ∀ (nn : Nat) (i : Int) (T1 : Zt), ((108 - i).toNat) ≤ nn → (fr_ [(276, [])] T T1) → (∀ j, 0 ≤ j → j < i → T1 276 0 j = 0) → (0 ≤ i ∧ i ≤ 108) → J_ zX11_tellAll T (po_X11_tellAll T c d) 0 0 2 [some (vR 111 0), some (vI c), some (vI d), some (vI i)] [] T1 := by
    intro nn
    induction nn using Nat.strongRecOn with
    | _ nn ih_2 =>
      intro i T1 hm_2 hf_2 z1 i1
      replace hm_2 := fun (_ : Unit) => hm_2
      refine j_blx (F := fX11) tb_X11 (nn_ _) bk_X11_tellAll_2 bs_X11_tellAll_2 hz (fun K hK => ?_)
      refine And.intro (fun c69 => ?_) (fun c69 => ?_)
      · refine hK 21 _ [] T1 ?_
        refine j_blx (F := fX11) tb_X11 (nn_ _) bk_X11_tellAll_21 bs_X11_tellAll_21 hz (fun K hK => ?_)
        refine ix_i (by omega) ?_
        intro b70 b70b
        have e71 : T1 210 0 c = T 210 0 c := hf_2 210 0 c rfl
        rw [e71] at b70 b70b ⊢
        refine hK 28 [some (vR 111 0), some (vI c), some (vI d), some (vI (T 210 0 c))] [] T1 ?_
        refine c_28 _ (T 210 0 c) T1 (Nat.le_refl _) ?_ ?_ ?_
        · exact fr_t (fr_0 _ _) (fr_s hf_2 rfl)
        · exact fun j a b => by have := z1 j a (by omega); omega
        · omega
      · refine iy_i (by omega) (by omega) ?_
        refine x_nm (fun U72 hU72 => ?_)
        have e73 := up_f hU72
        refine rg_i (by omega) ?_
        refine hK 2 [some (vR 111 0), some (vI c), some (vI d), some (vI (i + 1))] [] U72 ?_
        refine ih_2 _ ?_ (i + 1) U72 (Nat.le_refl _) ?_ ?_ ?_
        · have hm_2 := hm_2 (); omega
        · exact fr_u (fr_t (fr_0 _ _) (fr_s hf_2 rfl)) hU72 rfl
        · intro j a b
          by_cases z : j = i
          · rw [z]; exact up_f hU72
          · rw [up_g hU72 (fun q => z q.2.2)]; exact z1 j a (by omega)
        · omega
  refine j_blx (F := fX11) tb_X11 (nn_ _) bk_X11_tellAll_0 bs_X11_tellAll_0 hz (fun K hK => ?_)
  refine hK 2 [some (vR 111 0), some (vI c), some (vI d), some (vI 0)] [] T ?_
  refine c_2 _ 0 T (Nat.le_refl _) ?_ ?_ ?_
  · exact fr_0 _ _
  · intro j a b; omega
  · omega
abbrev cX11_sayHead : ByteArray := prog_13_method_86_code
def yX11_sayHead : MethodName := ⟨RX11, "sayHead", "(II)V"⟩
def zX11_sayHead : Zm := (RX11, cX11_sayHead, 7, none, { frames := 1, cells := 0, slots := 0, locals := 22 })
def SN_ (T : Zt) : Prop := ∀ j, 0 ≤ j → j < 36 → 0 ≤ T 284 0 j ∧ T 284 0 j ≤ 2147483647
theorem sb_a {T : Zt} {b : Int} (h : SA_ T b) (hb : b ≤ 1000000000) : SB_ T := fun x y i a1 a2 a3 a4 a5 a6 => by
  have p := h (3 * x + i) (by omega) (by omega)
  have q := h (3 * y + i) (by omega) (by omega)
  omega
theorem sb_n {T : Zt} (h : SN_ T) : SB_ T := fun x y i a1 a2 a3 a4 a5 a6 => by
  have p := h (3 * x + i) (by omega) (by omega)
  have q := h (3 * y + i) (by omega) (by omega)
  omega
theorem sa_v {T T1 : Zt} {b i v : Int} (h : SA_ T b) (e : T1 = up_ T 284 0 i v) (hv : -b ≤ v ∧ v ≤ b) : SA_ T1 b := fun j a c => by
  by_cases z : j = i
  · rw [z, up_f e]; exact hv
  · rw [up_g e (fun q => z q.2.2)]; exact h j a c
theorem sn_v {T T1 : Zt} {i v : Int} (h : SN_ T) (e : T1 = up_ T 284 0 i v) (hv : 0 ≤ v ∧ v ≤ 2147483647) : SN_ T1 := fun j a c => by
  by_cases z : j = i
  · rw [z, up_f e]; exact hv
  · rw [up_g e (fun q => z q.2.2)]; exact h j a c
abbrev cX11_say : ByteArray := prog_13_method_87_code
def yX11_say : MethodName := ⟨RX11, "say", "(III)V"⟩
def zX11_say : Zm := (RX11, cX11_say, 7, none, { frames := 2, cells := 0, slots := 0, locals := 48 })
theorem ds_X11_say_77 : decode cX11_say 77 = .ok (.tableswitch 183 (-1) 5 #[43, 65, 96, 117, 138, 183, 160], 43) := by decide +kernel
set_option maxRecDepth 100000 in
theorem cl_X11_505 : cs_ RX11 505 yX11_lot zX11_lot 3 := ⟨gi_S (lwq_9 (dqc_m (dqc_m (dqc_m (dqc_m (dqc_m (dqc_m (List.mem_of_getElem? (i := 6) rfl))))))) rfl : Cond.methodLink RX11 505 yX11_lot ∈ lw_g) (lwq_9 (dqc_m (dqc_m (dqc_m (dqc_m (dqc_m (dqc_m (List.mem_of_getElem? (i := 7) rfl))))))) rfl : Cond.static yX11_lot ∈ lw_g) (lwq_1 (dqa_m (List.mem_of_getElem? (i := 2) rfl)) rfl : Cond.initialized yX11_lot.cls ∈ lw_g) (lwq_9 (dqc_m (dqc_m (dqc_m (dqc_m (dqc_m (dqc_m (dqa_m (List.mem_of_getElem? (i := 0) rfl)))))))) rfl : Cond.code yX11_lot cX11_lot 5 (some .int) ∈ lw_g), ⟨by decide, by decide, by decide +kernel⟩⟩
set_option maxRecDepth 100000 in
theorem cl_X11_502 : cv_ RX11 502 yX11_sayHead zX11_sayHead 11 2 := ⟨gi_V (lwq_9 (dqc_m (dqc_m (dqc_m (dqc_m (dqc_m (dqc_m (List.mem_of_getElem? (i := 2) rfl))))))) rfl : Cond.methodLink RX11 502 yX11_sayHead ∈ lw_g) (lwq_9 (dqc_m (dqc_m (dqc_m (dqc_m (dqc_m (dqc_m (List.mem_of_getElem? (i := 4) rfl))))))) rfl : Cond.instanceMethod yX11_sayHead ∈ lw_g) (lw_sel 61 rfl : Cond.selects yX11_sayHead.cls yX11_sayHead yX11_sayHead ∈ lw_g) (lwq_1 (dqa_m (List.mem_of_getElem? (i := 2) rfl)) rfl : Cond.initialized yX11_sayHead.cls ∈ lw_g) (lwq_9 (dqc_m (dqc_m (dqc_m (dqc_m (dqc_m (dqc_m (List.mem_of_getElem? (i := 5) rfl))))))) rfl : Cond.code yX11_sayHead cX11_sayHead 7 none ∈ lw_g), ⟨nmh_1.1, nmh_1.2, pdq_0⟩, ⟨_, _, rfl⟩⟩
/-- the weight of a part still to be ordered -/
def wt_ (s k : Int) : Int := 10 * (s * s) + 9 - k
/-- the pile: p parts, their sizes together s, their weights together w -/
def pp_ (T : Zt) (n : Int) : Nat → Int → Int → Prop
  | 0, s, w => s = 0 ∧ w = 0
  | p + 1, s, w => pp_ T n p (s - (T 286 0 (3 * (p : Int) + 1) - T 286 0 (3 * (p : Int)))) (w - wt_ (T 286 0 (3 * (p : Int) + 1) - T 286 0 (3 * (p : Int))) (T 286 0 (3 * (p : Int) + 2))) ∧
      (0 ≤ T 286 0 (3 * (p : Int)) ∧ T 286 0 (3 * (p : Int)) ≤ T 286 0 (3 * (p : Int) + 1) ∧ (T 286 0 (3 * (p : Int)) < T 286 0 (3 * (p : Int) + 1) ∨ p = 0) ∧ T 286 0 (3 * (p : Int) + 1) ≤ n ∧ 0 ≤ T 286 0 (3 * (p : Int) + 2) ∧ T 286 0 (3 * (p : Int) + 2) ≤ 8)
theorem pp_e {T T' : Zt} {n : Int} : ∀ {p : Nat} {s w : Int}, pp_ T n p s w → (∀ j, j < 3 * (p : Int) → T' 286 0 j = T 286 0 j) → pp_ T' n p s w
  | 0, _, _, h, _ => h
  | p + 1, _, _, h, e => by
      unfold pp_
      rw [e (3 * (p : Int)) (by omega), e (3 * (p : Int) + 1) (by omega), e (3 * (p : Int) + 2) (by omega)]
      exact ⟨pp_e h.1 (fun j hj => e j (by omega)), h.2⟩
theorem pp_s {T T' : Zt} {n a b c : Int} {p : Nat} {s w : Int} (h : pp_ T n p s w) (e : ∀ j, j < 3 * (p : Int) → T' 286 0 j = T 286 0 j) (e1 : T' 286 0 (3 * (p : Int)) = a) (e2 : T' 286 0 (3 * (p : Int) + 1) = b) (e3 : T' 286 0 (3 * (p : Int) + 2) = c) (hb : 0 ≤ a ∧ a ≤ b ∧ (a < b ∨ p = 0) ∧ b ≤ n ∧ 0 ≤ c ∧ c ≤ 8) : pp_ T' n (p + 1) (s + (b - a)) (w + wt_ (b - a) c) := by
  unfold pp_
  rw [e1, e2, e3]
  refine ⟨?_, hb⟩
  rw [show s + (b - a) - (b - a) = s by omega, show w + wt_ (b - a) c - wt_ (b - a) c = w by omega]
  exact pp_e h e
theorem wt_1 {s k : Int} (h : k ≤ 8) : 1 ≤ wt_ s k := by
  have : 0 ≤ s * s := by
    rcases Int.le_total 0 s with z | z
    · exact Int.mul_nonneg z z
    · exact Int.mul_nonneg_of_nonpos_of_nonpos z z
  unfold wt_; omega
theorem pp_n {T : Zt} {n : Int} : ∀ {p : Nat} {s w : Int}, pp_ T n p s w → 0 ≤ s ∧ (p : Int) ≤ w ∧ (p : Int) ≤ s + 1
  | 0, _, _, h => by obtain ⟨rfl, rfl⟩ := h; exact ⟨by decide, by decide, by decide⟩
  | p + 1, s, w, h => by
      have i := pp_n h.1
      have k := wt_1 (s := T 286 0 (3 * (p : Int) + 1) - T 286 0 (3 * (p : Int))) h.2.2.2.2.2.2
      have g := h.2
      omega
/-- two parts weigh less than one -/
theorem wt_2 {x s : Int} (hx : 1 ≤ x) (hs : 1 ≤ s) : 10 * (x * x) + 10 * (s * s) + 20 ≤ 10 * ((x + s) * (x + s)) := by
  have p : 1 ≤ x * s := Int.mul_pos hx hs
  have e : (x + s) * (x + s) = x * x + x * s + (x * s + s * s) := by
    rw [Int.add_mul, Int.mul_add, Int.mul_add, Int.mul_comm s x]
  omega
theorem or_b {x y : Int} (hx : 0 ≤ x ∧ x ≤ 4095) (hy : 0 ≤ y ∧ y ≤ 4095) : 0 ≤ or_ x y ∧ or_ x y ≤ 4095 := by
  have ex : (Int32.ofInt x).toBitVec.toNat = x.toNat := by
    show (BitVec.ofInt 32 x).toNat = x.toNat
    rw [BitVec.toNat_ofInt]; omega
  have ey : (Int32.ofInt y).toBitVec.toNat = y.toNat := by
    show (BitVec.ofInt 32 y).toNat = y.toNat
    rw [BitVec.toNat_ofInt]; omega
  have h : ((Int32.ofInt x).toBitVec ||| (Int32.ofInt y).toBitVec).toNat < 2 ^ 12 := by
    rw [BitVec.toNat_or, ex, ey]
    exact Nat.or_lt_two_pow (by omega) (by omega)
  show 0 ≤ ((Int32.ofInt x).toBitVec ||| (Int32.ofInt y).toBitVec).toInt ∧ ((Int32.ofInt x).toBitVec ||| (Int32.ofInt y).toBitVec).toInt ≤ 4095
  rw [BitVec.toInt_eq_toNat_cond]
  split <;> omega
theorem sl_b {c : Int} (h : 0 ≤ c ∧ c ≤ 11) : 0 ≤ sl_ 1 c ∧ sl_ 1 c ≤ 4095 := by
  rcases (by omega : c = 0 ∨ c = 1 ∨ c = 2 ∨ c = 3 ∨ c = 4 ∨ c = 5 ∨ c = 6 ∨ c = 7 ∨ c = 8 ∨ c = 9 ∨ c = 10 ∨ c = 11) with rfl | rfl | rfl | rfl | rfl | rfl | rfl | rfl | rfl | rfl | rfl | rfl <;> decide
/-- the pile with its bottom hidden -/
def PQ_ (T : Zt) (n s w : Int) : Prop := ∃ (p : Nat) (w' : Int), T 111 0 87 = 3 * (p : Int) ∧ pp_ T n p s w' ∧ w' ≤ w
/-- one part is taken from the pile -/
theorem pq_p {T U : Zt} {n s w : Int} (h : PQ_ T n s w) (g : 0 < T 111 0 87) (e : ∀ j, U 286 0 j = T 286 0 j) (e2 : U 111 0 87 = T 111 0 87 - 3) :
    PQ_ U n (s - (T 286 0 (T 111 0 87 - 3 + 1) - T 286 0 (T 111 0 87 - 3))) (w - wt_ (T 286 0 (T 111 0 87 - 3 + 1) - T 286 0 (T 111 0 87 - 3)) (T 286 0 (T 111 0 87 - 3 + 2))) ∧
    (0 ≤ T 286 0 (T 111 0 87 - 3) ∧ T 286 0 (T 111 0 87 - 3) ≤ T 286 0 (T 111 0 87 - 3 + 1) ∧ T 286 0 (T 111 0 87 - 3 + 1) ≤ n ∧ 0 ≤ T 286 0 (T 111 0 87 - 3 + 2) ∧ T 286 0 (T 111 0 87 - 3 + 2) ≤ 8) ∧
    1 ≤ wt_ (T 286 0 (T 111 0 87 - 3 + 1) - T 286 0 (T 111 0 87 - 3)) (T 286 0 (T 111 0 87 - 3 + 2)) ∧ 0 ≤ w - wt_ (T 286 0 (T 111 0 87 - 3 + 1) - T 286 0 (T 111 0 87 - 3)) (T 286 0 (T 111 0 87 - 3 + 2)) ∧ 0 ≤ s - (T 286 0 (T 111 0 87 - 3 + 1) - T 286 0 (T 111 0 87 - 3)) ∧ 3 ≤ T 111 0 87 ∧ T 111 0 87 ≤ 3 * (s + 1) := by
  obtain ⟨p, w', a, b, c⟩ := h
  cases p with
  | zero => omega
  | succ p =>
    have q0 := pp_n b
    rw [show T 111 0 87 - 3 = 3 * (p : Int) by omega]
    have q := pp_n b.1
    have hb := b.2
    have k1 := wt_1 (s := T 286 0 (3 * (p : Int) + 1) - T 286 0 (3 * (p : Int))) hb.2.2.2.2.2
    exact ⟨⟨p, _, by omega, pp_e b.1 (fun j _ => e j), by omega⟩, ⟨hb.1, hb.2.1, hb.2.2.2.1, hb.2.2.2.2.1, hb.2.2.2.2.2⟩, k1, by omega, by omega, by omega, by omega⟩
theorem pp_l {T T3 U : Zt} {n a b q s w2 : Int} {p : Nat} (h : pp_ T n p s w2) (h87 : T 111 0 87 = 3 * (p : Int)) (g : ∀ j, T3 286 0 j = T 286 0 j) (g87 : T3 111 0 87 = T 111 0 87)
    (po : U 111 0 87 = T3 111 0 87 + 3 ∧ U 286 0 (T3 111 0 87) = a ∧ U 286 0 (T3 111 0 87 + 1) = b ∧ U 286 0 (T3 111 0 87 + 2) = q ∧ ∀ j, j < T3 111 0 87 → U 286 0 j = T3 286 0 j)
    (hb : 0 ≤ a ∧ a ≤ b ∧ (a < b ∨ p = 0) ∧ b ≤ n ∧ 0 ≤ q ∧ q ≤ 8) : pp_ U n (p + 1) (s + (b - a)) (w2 + wt_ (b - a) q) := by
  rw [g87, h87] at po
  exact pp_s h (fun j hj => (po.2.2.2.2 j hj).trans (g j)) po.2.1 po.2.2.1 po.2.2.2.1 hb
/-- how far the laying of the parts of [f, t) is -/
def ST_ (A : Prop) (f t k w st w2 : Int) : Prop := (st = f ∧ w2 ≤ w ∧ A) ∨ (f < st ∧ st < t ∧ w2 ≤ w + 10 * ((st - f) * (st - f)) + 9) ∨ (st = t ∧ f < t ∧ w2 ≤ w + wt_ (t - f) k - 1)
theorem st_l {A A' : Prop} {f t k w st w2 i q : Int} (h : ST_ A f t k w st w2) (hk : 0 ≤ k ∧ k ≤ 7) (hq : 0 ≤ q) (hi : f ≤ st ∧ st < i ∧ i ≤ t) (ha : A → i = t → q = k + 1) : ST_ A' f t k w i (w2 + wt_ (i - st) q) := by
  rcases h with ⟨rfl, h2, hA⟩ | ⟨h1, h2, h3⟩ | ⟨h1, _⟩
  · by_cases z : i = t
    · subst z
      have := ha hA rfl
      subst this
      exact Or.inr (Or.inr ⟨rfl, hi.2.1, by unfold wt_; omega⟩)
    · exact Or.inr (Or.inl ⟨hi.2.1, by omega, by unfold wt_; omega⟩)
  · have p := wt_2 (x := st - f) (s := i - st) (by omega) (by omega)
    rw [show st - f + (i - st) = i - f by omega] at p
    by_cases z : i = t
    · subst z
      exact Or.inr (Or.inr ⟨rfl, by omega, by unfold wt_; omega⟩)
    · exact Or.inr (Or.inl ⟨by omega, by omega, by unfold wt_; omega⟩)
  · omega
theorem st_a {A A' : Prop} {f t k w st w2 : Int} (h : ST_ A f t k w st w2) (g : A → A') : ST_ A' f t k w st w2 := by
  rcases h with ⟨a, b, c⟩ | h | h
  · exact Or.inl ⟨a, b, g c⟩
  · exact Or.inr (Or.inl h)
  · exact Or.inr (Or.inr h)
theorem st_z {A : Prop} {f t k w w2 : Int} (h : ST_ A f t k w t w2) (z : f < t) : w2 ≤ w + wt_ (t - f) k - 1 := by
  rcases h with ⟨a, _⟩ | ⟨_, a, _⟩ | ⟨_, _, a⟩
  · omega
  · omega
  · exact a

theorem EQ_e {T T1 : Zt} {a b i : Int} (e : ∀ j, T1 284 0 j = T 284 0 j) (h : EQ_ T1 a b i) : EQ_ T a b i := fun j p q => by
  have := h j p q
  rw [e, e] at this
  exact this
theorem oc_f {T T1 : Zt} {n v : Int} (h : OC_ T n v) (e : ∀ j, T1 277 0 j = T 277 0 j) : OC_ T1 n v := by
  obtain ⟨j, a, b, c⟩ := h
  exact ⟨j, a, b, (e j).trans c⟩
abbrev cX11_orderPart : ByteArray := prog_13_method_92_code
def yX11_orderPart : MethodName := ⟨RX11, "orderPart", "(IIIII)V"⟩
def zX11_orderPart : Zm := (RX11, cX11_orderPart, 10, none, { frames := 3, cells := 0, slots := 0, locals := 74 })
set_option maxRecDepth 100000 in
theorem cl_X11_520 : cv_ RX11 520 yX11_lay zX11_lay 11 3 := ⟨gi_V (lwq_9 (dqc_m (dqc_m (dqc_m (dqc_m (dqc_m (dqa_m (dqa_m (List.mem_of_getElem? (i := 6) rfl)))))))) rfl : Cond.methodLink RX11 520 yX11_lay ∈ lw_g) (lwq_9 (dqc_m (dqc_m (dqc_m (dqc_m (dqc_m (dqa_m (dqa_m (dqa_m (List.mem_of_getElem? (i := 0) rfl))))))))) rfl : Cond.instanceMethod yX11_lay ∈ lw_g) (lw_sel 30 rfl : Cond.selects yX11_lay.cls yX11_lay yX11_lay ∈ lw_g) (lwq_1 (dqa_m (List.mem_of_getElem? (i := 2) rfl)) rfl : Cond.initialized yX11_lay.cls ∈ lw_g) (lwq_9 (dqc_m (dqc_m (dqc_m (dqc_m (dqc_m (dqa_m (dqa_m (dqa_m (List.mem_of_getElem? (i := 1) rfl))))))))) rfl : Cond.code yX11_lay cX11_lay 4 none ∈ lw_g), ⟨nmh_1.1, nmh_1.2, pdq_3⟩, ⟨_, _, rfl⟩⟩
set_option maxRecDepth 100000 in
theorem cl_X11_526 : cv_ RX11 526 yX11_say zX11_say 11 3 := ⟨gi_V (lwq_9 (dqc_m (dqc_m (dqc_m (dqc_m (dqc_m (dqa_m (dqa_m (dqa_m (List.mem_of_getElem? (i := 6) rfl))))))))) rfl : Cond.methodLink RX11 526 yX11_say ∈ lw_g) (lwq_9 (dqc_m (dqc_m (dqc_m (dqc_m (dqc_m (dqc_m (List.mem_of_getElem? (i := 0) rfl))))))) rfl : Cond.instanceMethod yX11_say ∈ lw_g) (lw_sel 60 rfl : Cond.selects yX11_say.cls yX11_say yX11_say ∈ lw_g) (lwq_1 (dqa_m (List.mem_of_getElem? (i := 2) rfl)) rfl : Cond.initialized yX11_say.cls ∈ lw_g) (lwq_9 (dqc_m (dqc_m (dqc_m (dqc_m (dqc_m (dqc_m (List.mem_of_getElem? (i := 1) rfl))))))) rfl : Cond.code yX11_say cX11_say 7 none ∈ lw_g), ⟨nmh_1.1, nmh_1.2, pdq_3⟩, ⟨_, _, rfl⟩⟩
set_option maxRecDepth 100000 in
theorem cl_X11_529 : cv_ RX11 529 yX11_sortPart zX11_sortPart 11 2 := ⟨gi_V (lwq_9 (dqc_m (dqc_m (dqc_m (dqc_m (dqc_m (dqc_m (dqa_m (List.mem_of_getElem? (i := 4) rfl)))))))) rfl : Cond.methodLink RX11 529 yX11_sortPart ∈ lw_g) (lwq_9 (dqc_m (dqc_m (dqc_m (dqc_m (dqc_m (dqc_m (dqa_m (List.mem_of_getElem? (i := 6) rfl)))))))) rfl : Cond.instanceMethod yX11_sortPart ∈ lw_g) (lw_sel 68 rfl : Cond.selects yX11_sortPart.cls yX11_sortPart yX11_sortPart ∈ lw_g) (lwq_1 (dqa_m (List.mem_of_getElem? (i := 2) rfl)) rfl : Cond.initialized yX11_sortPart.cls ∈ lw_g) (lwq_9 (dqc_m (dqc_m (dqc_m (dqc_m (dqc_m (dqc_m (dqa_m (List.mem_of_getElem? (i := 7) rfl)))))))) rfl : Cond.code yX11_sortPart cX11_sortPart 6 none ∈ lw_g), ⟨nmh_1.1, nmh_1.2, pdq_0⟩, ⟨_, _, rfl⟩⟩
theorem pq_3 {T : Zt} {n s w : Int} (h : PQ_ T n s w) (g : 0 < T 111 0 87) : 3 ≤ T 111 0 87 := by
  obtain ⟨p, w1, a, b, c⟩ := h
  omega
theorem oc_m {T : Zt} {n k v : Int} (h : OC_ T n v) (e : n ≤ k) : OC_ T k v := by
  obtain ⟨j, a, b, c⟩ := h
  exact ⟨j, a, by omega, c⟩
abbrev cX11_orderAll : ByteArray := prog_13_method_91_code
def yX11_orderAll : MethodName := ⟨RX11, "orderAll", "(II)V"⟩
def zX11_orderAll : Zm := (RX11, cX11_orderAll, 6, none, { frames := 4, cells := 0, slots := 0, locals := 103 })
set_option maxRecDepth 100000 in
theorem cl_X11_523 : cv_ RX11 523 yX11_orderPart zX11_orderPart 11 5 := ⟨gi_V (lwq_9 (dqc_m (dqc_m (dqc_m (dqc_m (dqc_m (dqa_m (dqa_m (dqa_m (List.mem_of_getElem? (i := 2) rfl))))))))) rfl : Cond.methodLink RX11 523 yX11_orderPart ∈ lw_g) (lwq_9 (dqc_m (dqc_m (dqc_m (dqc_m (dqc_m (dqa_m (dqa_m (dqa_m (List.mem_of_getElem? (i := 4) rfl))))))))) rfl : Cond.instanceMethod yX11_orderPart ∈ lw_g) (lw_sel 42 rfl : Cond.selects yX11_orderPart.cls yX11_orderPart yX11_orderPart ∈ lw_g) (lwq_1 (dqa_m (List.mem_of_getElem? (i := 2) rfl)) rfl : Cond.initialized yX11_orderPart.cls ∈ lw_g) (lwq_9 (dqc_m (dqc_m (dqc_m (dqc_m (dqc_m (dqa_m (dqa_m (dqa_m (List.mem_of_getElem? (i := 5) rfl))))))))) rfl : Cond.code yX11_orderPart cX11_orderPart 10 none ∈ lw_g), ⟨nmh_1.1, nmh_1.2, pdq_6⟩, ⟨_, _, rfl⟩⟩
set_option maxRecDepth 100000 in
theorem cl_X11_514 : cv_ RX11 514 yX11_tellAll zX11_tellAll 11 2 := ⟨gi_V (lwq_9 (dqc_m (dqc_m (dqc_m (dqc_m (dqc_m (List.mem_of_getElem? (i := 6) rfl)))))) rfl : Cond.methodLink RX11 514 yX11_tellAll ∈ lw_g) (lwq_9 (dqc_m (dqc_m (dqc_m (dqc_m (dqc_m (dqa_m (List.mem_of_getElem? (i := 0) rfl))))))) rfl : Cond.instanceMethod yX11_tellAll ∈ lw_g) (lw_sel 74 rfl : Cond.selects yX11_tellAll.cls yX11_tellAll yX11_tellAll ∈ lw_g) (lwq_1 (dqa_m (List.mem_of_getElem? (i := 2) rfl)) rfl : Cond.initialized yX11_tellAll.cls ∈ lw_g) (lwq_9 (dqc_m (dqc_m (dqc_m (dqc_m (dqc_m (dqa_m (List.mem_of_getElem? (i := 1) rfl))))))) rfl : Cond.code yX11_tellAll cX11_tellAll 4 none ∈ lw_g), ⟨nmh_1.1, nmh_1.2, pdq_0⟩, ⟨_, _, rfl⟩⟩
abbrev cX11_table : ByteArray := prog_13_method_94_code
def yX11_table : MethodName := ⟨RX11, "table", "(IIII)I"⟩
def zX11_table : Zm := (RX11, cX11_table, 5, (some .int), { frames := 5, cells := 0, slots := 0, locals := 128 })
set_option maxRecDepth 100000 in
theorem cl_X11_532 : cv_ RX11 532 yX11_orderAll zX11_orderAll 11 2 := ⟨gi_V (lwq_9 (dqc_m (dqc_m (dqc_m (dqc_m (dqc_m (List.mem_of_getElem? (i := 2) rfl)))))) rfl : Cond.methodLink RX11 532 yX11_orderAll ∈ lw_g) (lwq_9 (dqc_m (dqc_m (dqc_m (dqc_m (dqc_m (List.mem_of_getElem? (i := 4) rfl)))))) rfl : Cond.instanceMethod yX11_orderAll ∈ lw_g) (lw_sel 41 rfl : Cond.selects yX11_orderAll.cls yX11_orderAll yX11_orderAll ∈ lw_g) (lwq_1 (dqa_m (List.mem_of_getElem? (i := 2) rfl)) rfl : Cond.initialized yX11_orderAll.cls ∈ lw_g) (lwq_9 (dqc_m (dqc_m (dqc_m (dqc_m (dqc_m (List.mem_of_getElem? (i := 5) rfl)))))) rfl : Cond.code yX11_orderAll cX11_orderAll 6 none ∈ lw_g), ⟨nmh_1.1, nmh_1.2, pdq_0⟩, ⟨_, _, rfl⟩⟩
set_option maxRecDepth 100000 in
theorem cl_X11_535 : cv_ RX11 535 yX11_placeOf zX11_placeOf 11 1 := ⟨gi_V (lwq_9 (dqc_m (dqc_m (dqc_m (dqc_m (dqc_m (dqc_m (dqa_m (dqa_m (List.mem_of_getElem? (i := 4) rfl))))))))) rfl : Cond.methodLink RX11 535 yX11_placeOf ∈ lw_g) (lwq_9 (dqc_m (dqc_m (dqc_m (dqc_m (dqc_m (dqc_m (dqa_m (dqa_m (List.mem_of_getElem? (i := 6) rfl))))))))) rfl : Cond.instanceMethod yX11_placeOf ∈ lw_g) (lw_sel 45 rfl : Cond.selects yX11_placeOf.cls yX11_placeOf yX11_placeOf ∈ lw_g) (lwq_1 (dqa_m (List.mem_of_getElem? (i := 2) rfl)) rfl : Cond.initialized yX11_placeOf.cls ∈ lw_g) (lwq_9 (dqc_m (dqc_m (dqc_m (dqc_m (dqc_m (dqc_m (dqa_m (dqa_m (List.mem_of_getElem? (i := 7) rfl))))))))) rfl : Cond.code yX11_placeOf cX11_placeOf 3 (some .int) ∈ lw_g), ⟨nmh_1.1, nmh_1.2, pdq_15⟩, ⟨_, _, rfl⟩⟩
abbrev po_X11_table (T : Zt) (c d cl w : Int) : Zt → Option Zv → Prop := fun T' r => ∃ x : Int, r = some (vI x) ∧ fr_ [(276, []), (284, []), (277, []), (286, []), (278, []), (111, [82, 83, 85, 87, 79])] T T' ∧ (True)
abbrev cX11_standing : ByteArray := prog_13_method_95_code
def yX11_standing : MethodName := ⟨RX11, "standing", "(III)I"⟩
def zX11_standing : Zm := (RX11, cX11_standing, 4, (some .int), { frames := 5, cells := 0, slots := 0, locals := 128 })
abbrev po_X11_standing (T : Zt) (c d k : Int) : Zt → Option Zv → Prop := fun T' r => ∃ x : Int, r = some (vI x) ∧ fr_ [(276, []), (284, []), (277, []), (286, []), (278, []), (111, [82, 83, 85, 87, 79])] T T' ∧ (True)
abbrev cX11_parted : ByteArray := prog_13_method_96_code
def yX11_parted : MethodName := ⟨RX11, "parted", "(III)I"⟩
def zX11_parted : Zm := (RX11, cX11_parted, 4, (some .int), { frames := 5, cells := 0, slots := 0, locals := 128 })
abbrev po_X11_parted (T : Zt) (c d k : Int) : Zt → Option Zv → Prop := fun T' r => ∃ x : Int, r = some (vI x) ∧ fr_ [(276, []), (284, []), (277, []), (286, []), (278, []), (111, [82, 83, 85, 87, 79])] T T' ∧ (True)
theorem i3_n {x : Int} (h : 0 ≤ x ∧ x ≤ 2147483647) : (Int32.ofInt x).toBitVec.toNat = x.toNat := by
  show (BitVec.ofInt 32 x).toNat = x.toNat
  rw [BitVec.toNat_ofInt]; omega
theorem bv_i {b : BitVec 32} (h : b.toNat < 2147483648) : b.toInt = (b.toNat : Int) := by
  rw [BitVec.toInt_eq_toNat_cond]; split <;> omega
theorem an_n {x y : Int} (hx : 0 ≤ x ∧ x ≤ 2147483647) (hy : 0 ≤ y ∧ y ≤ 2147483647) : an_ x y = ((x.toNat &&& y.toNat : Nat) : Int) := by
  have e : ((Int32.ofInt x).toBitVec &&& (Int32.ofInt y).toBitVec).toNat = x.toNat &&& y.toNat := by
    rw [BitVec.toNat_and, i3_n hx, i3_n hy]
  have l : x.toNat &&& y.toNat ≤ x.toNat := Nat.and_le_left
  show ((Int32.ofInt x).toBitVec &&& (Int32.ofInt y).toBitVec).toInt = _
  rw [bv_i (by rw [e]; omega), e]
theorem or_n {x y : Int} (hx : 0 ≤ x ∧ x ≤ 2147483647) (hy : 0 ≤ y ∧ y ≤ 2147483647) : or_ x y = ((x.toNat ||| y.toNat : Nat) : Int) := by
  have e : ((Int32.ofInt x).toBitVec ||| (Int32.ofInt y).toBitVec).toNat = x.toNat ||| y.toNat := by
    rw [BitVec.toNat_or, i3_n hx, i3_n hy]
  have l : x.toNat ||| y.toNat < 2 ^ 31 := Nat.or_lt_two_pow (by omega) (by omega)
  show ((Int32.ofInt x).toBitVec ||| (Int32.ofInt y).toBitVec).toInt = _
  rw [bv_i (by rw [e]; omega), e]
theorem sh_31 {k : Int} (h : 0 ≤ k ∧ k < 32) : (Int32.ofInt k &&& 31) = Int32.ofInt k := by
  have : ∀ n : Nat, n < 32 → (Int32.ofInt (n : Int) &&& 31) = Int32.ofInt (n : Int) := by decide +kernel
  have := this k.toNat (by omega)
  rwa [show ((k.toNat : Nat) : Int) = k by omega] at this
theorem sr_n {x k : Int} (hx : 0 ≤ x ∧ x ≤ 2147483647) (hk : 0 ≤ k ∧ k < 32) : sr_ x k = ((x.toNat >>> k.toNat : Nat) : Int) := by
  unfold sr_
  rw [sh_31 hk]
  have hs : ((Int32.ofInt k).toBitVec.smod 32).toNat = k.toNat := by
    have : ∀ n : Nat, n < 32 → ((Int32.ofInt (n : Int)).toBitVec.smod 32).toNat = n := by decide +kernel
    have := this k.toNat (by omega)
    rwa [show ((k.toNat : Nat) : Int) = k by omega] at this
  have m : (Int32.ofInt x).toBitVec.msb = false := by
    rw [BitVec.msb_eq_false_iff_two_mul_lt, i3_n hx]; omega
  have e : ((Int32.ofInt x).toBitVec.sshiftRight ((Int32.ofInt k).toBitVec.smod 32).toNat).toNat = x.toNat >>> k.toNat := by
    rw [hs, BitVec.sshiftRight_eq_of_msb_false m, BitVec.toNat_ushiftRight, i3_n hx]
  have l : x.toNat >>> k.toNat ≤ x.toNat := by rw [Nat.shiftRight_eq_div_pow]; exact Nat.div_le_self _ _
  show ((Int32.ofInt x).toBitVec.sshiftRight ((Int32.ofInt k).toBitVec.smod 32).toNat).toInt = _
  rw [bv_i (by rw [e]; omega), e]
/-- a bit of a number -/
def bt_ (s k : Nat) : Int := if s.testBit k then 1 else 0
theorem bt_01 (s k : Nat) : bt_ s k = 0 ∨ bt_ s k = 1 := by unfold bt_; split <;> simp
theorem bt_n {x k : Int} (hx : 0 ≤ x ∧ x ≤ 2147483647) (hk : 0 ≤ k ∧ k < 32) : an_ (sr_ x k) 1 = bt_ x.toNat k.toNat := by
  have l : x.toNat >>> k.toNat ≤ x.toNat := by rw [Nat.shiftRight_eq_div_pow]; exact Nat.div_le_self _ _
  rw [sr_n hx hk]
  unfold bt_ Nat.testBit
  generalize x.toNat >>> k.toNat = y at l ⊢
  rw [an_n (by omega) (by decide), show ((y : Int)).toNat = y by omega, show Int.toNat 1 = 1 by rfl, Nat.and_comm]
  have : 1 &&& y ≤ 1 := Nat.and_le_left
  rcases (by omega : 1 &&& y = 0 ∨ 1 &&& y = 1) with z | z <;> rw [z] <;> rfl
theorem bt_or (s t k : Nat) : bt_ (s ||| t) k = bt_ s k + bt_ t k - bt_ s k * bt_ t k := by
  unfold bt_; rw [Nat.testBit_or]; cases s.testBit k <;> cases t.testBit k <;> rfl
theorem bt_and (s t k : Nat) : bt_ (s &&& t) k = bt_ s k * bt_ t k := by
  unfold bt_; rw [Nat.testBit_and]; cases s.testBit k <;> cases t.testBit k <;> rfl
/-- a sum over the members below n -/
def sp_ (f : Nat → Int) (s : Nat) : Nat → Int
  | 0 => 0
  | n + 1 => sp_ f s n + bt_ s n * f n
/-- how many of the pairs lie within a set -/
def ed_ (s : Nat) : List (Nat × Nat) → Int
  | [] => 0
  | p :: l => bt_ s p.1 * bt_ s p.2 + ed_ s l
def vs_ (f : Nat → Int) (l : List (Nat × Nat)) (s : Nat) : Int := sp_ f s 12 - 2 * ed_ s l
/-- what a pair's way changes -/
def ch_ (s a b : Nat) (w : Int) : Int := 2 * bt_ s a * bt_ s b - (2 - w) * bt_ s a - w * bt_ s b
theorem ch_c (s a b : Nat) (w : Int) : (bt_ s a = bt_ s b ∧ ch_ s a b w = 0) ∨ (bt_ s a = 1 ∧ bt_ s b = 0 ∧ ch_ s a b w = w - 2) ∨ (bt_ s a = 0 ∧ bt_ s b = 1 ∧ ch_ s a b w = -w) := by
  unfold ch_
  rcases bt_01 s a with x | x <;> rcases bt_01 s b with y | y <;> rw [x, y] <;> omega
theorem sp_m (f : Nat → Int) (s t : Nat) : ∀ n, sp_ f (s ||| t) n + sp_ f (s &&& t) n = sp_ f s n + sp_ f t n
  | 0 => rfl
  | n + 1 => by
      have i := sp_m f s t n
      unfold sp_
      rw [bt_or, bt_and]
      rcases bt_01 s n with x | x <;> rcases bt_01 t n with y | y <;> rw [x, y] <;> simp <;> omega
theorem ed_m (s t : Nat) : ∀ l, ed_ s l + ed_ t l ≤ ed_ (s ||| t) l + ed_ (s &&& t) l
  | [] => Int.le_refl _
  | p :: l => by
      have i := ed_m s t l
      unfold ed_
      rw [bt_or, bt_or, bt_and, bt_and]
      rcases bt_01 s p.1 with x | x <;> rcases bt_01 t p.1 with y | y <;> rcases bt_01 s p.2 with z | z <;> rcases bt_01 t p.2 with w | w <;> rw [x, y, z, w] <;> simp <;> omega
theorem vs_2 {f : Nat → Int} {l : List (Nat × Nat)} {a b s t : Nat} (h : ∀ u, u = s ||| t ∨ u = s &&& t → 0 ≤ vs_ f ((a, b) :: l) u) (s1 : bt_ s a = 1) (s2 : bt_ s b = 0) (t1 : bt_ t a = 0) (t2 : bt_ t b = 1) : 2 ≤ vs_ f ((a, b) :: l) s + vs_ f ((a, b) :: l) t := by
  have p := h _ (Or.inl rfl)
  have q := h _ (Or.inr rfl)
  have i := ed_m s t l
  have j := sp_m f s t 12
  unfold vs_ ed_ at p q ⊢
  simp only [bt_or, bt_and, s1, s2, t1, t2] at p q ⊢
  simp at p q ⊢
  omega
/-- for any pair some way goes -/
theorem vs_w {f : Nat → Int} {l : List (Nat × Nat)} {a b : Nat} {P : Nat → Prop} (hu : ∀ s t, P s → P t → P (s ||| t) ∧ P (s &&& t)) (h : ∀ s, P s → 0 ≤ vs_ f ((a, b) :: l) s)
    {s0 s1 s2 : Nat} (p0 : P s0) (p1 : P s1) (p2 : P s2) (h0 : vs_ f ((a, b) :: l) s0 + ch_ s0 a b 0 < 0) (h1 : vs_ f ((a, b) :: l) s1 + ch_ s1 a b 1 < 0) (h2 : vs_ f ((a, b) :: l) s2 + ch_ s2 a b 2 < 0) : False := by
  have k0 := h s0 p0
  have k1 := h s1 p1
  have k2 := h s2 p2
  have c0 := ch_c s0 a b 0
  have c1 := ch_c s1 a b 1
  have c2 := ch_c s2 a b 2
  have v {s t : Nat} (ps : P s) (pt : P t) (e1 : bt_ s a = 1) (e2 : bt_ s b = 0) (e3 : bt_ t a = 0) (e4 : bt_ t b = 1) := vs_2 (f := f) (l := l) (fun u hu' => by rcases hu' with rfl | rfl; exact h _ (hu s t ps pt).1; exact h _ (hu s t ps pt).2) e1 e2 e3 e4
  rcases c1 with c1 | c1 | c1
  · omega
  · have := v p1 p2 c1.1 c1.2.1 (by omega) (by omega)
    omega
  · have := v p0 p1 (by omega) (by omega) c1.1 c1.2.1
    omega
/-- the spare after a way is taken -/
def fw2_ (f : Nat → Int) (a b : Nat) (w : Int) : Nat → Int := fun k => f k - (if k = a then 2 - w else 0) - (if k = b then w else 0)
theorem sp_w (f : Nat → Int) (s a b : Nat) (w : Int) : ∀ n, sp_ (fw2_ f a b w) s n = sp_ f s n - (if a < n then bt_ s a * (2 - w) else 0) - (if b < n then bt_ s b * w else 0)
  | 0 => rfl
  | n + 1 => by
      unfold sp_
      rw [sp_w f s a b w n]
      unfold fw2_
      by_cases x : n = a
      · subst x
        by_cases y : n = b
        · subst y
          simp only [Nat.lt_irrefl, Nat.lt_succ_self, if_true, if_false, Int.mul_sub]; omega
        · by_cases z : b < n
          · simp only [Nat.lt_irrefl, Nat.lt_succ_self, if_true, if_false, z, Nat.lt_succ_of_lt z, y, Int.mul_sub]; omega
          · have z' : ¬ b < n + 1 := by omega
            simp only [Nat.lt_irrefl, Nat.lt_succ_self, if_true, if_false, z, z', y, Int.mul_sub]; omega
      · by_cases y : n = b
        · subst y
          by_cases z : a < n
          · simp only [Nat.lt_irrefl, Nat.lt_succ_self, if_true, if_false, z, Nat.lt_succ_of_lt z, x, Int.mul_sub]; omega
          · have z' : ¬ a < n + 1 := by omega
            simp only [Nat.lt_irrefl, Nat.lt_succ_self, if_true, if_false, z, z', x, Int.mul_sub]; omega
        · have e1 : (a < n + 1) = (a < n) := by apply propext; omega
          have e2 : (b < n + 1) = (b < n) := by apply propext; omega
          simp only [e1, e2, x, y, if_false, Int.sub_zero]; omega
theorem vs_s {f : Nat → Int} {l : List (Nat × Nat)} {a b s : Nat} {w : Int} (ha : a < 12) (hb : b < 12) : vs_ (fw2_ f a b w) l s = vs_ f ((a, b) :: l) s + ch_ s a b w := by
  unfold vs_ ch_
  rw [sp_w, if_pos ha, if_pos hb]
  show _ = sp_ f s 12 - 2 * (bt_ s a * bt_ s b + ed_ s l) + _
  rcases bt_01 s a with x | x <;> rcases bt_01 s b with y | y <;> rw [x, y] <;> omega
theorem bt_low {s lo : Nat} (h1 : bt_ s lo = 1) (h0 : ∀ j, j < lo → bt_ s j = 0) (k : Nat) : bt_ (s &&& (s - 1)) k = if k = lo then 0 else bt_ s k := by
  have t1 : s.testBit lo = true := by unfold bt_ at h1; split at h1 <;> simp_all
  have t0 : ∀ j, j < lo → s.testBit j = false := fun j hj => by
    have := h0 j hj
    unfold bt_ at this
    split at this <;> simp_all
  have hm : s % 2 ^ lo = 0 := by
    apply Nat.eq_of_testBit_eq
    intro j
    rw [Nat.testBit_mod_two_pow, Nat.zero_testBit]
    by_cases z : j < lo
    · rw [t0 j z]; simp
    · simp [z]
  obtain ⟨m, rfl⟩ : ∃ m, s = 2 ^ lo * m := ⟨s / 2 ^ lo, (Nat.mul_div_cancel' (Nat.dvd_of_mod_eq_zero hm)).symm⟩
  have hp : 0 < 2 ^ lo := Nat.two_pow_pos lo
  have o : m % 2 = 1 := by
    rw [Nat.testBit_two_pow_mul] at t1
    simp only [ge_iff_le, Nat.le_refl, decide_true, Bool.true_and, Nat.sub_self, Nat.testBit_zero, decide_eq_true_eq] at t1
    exact t1
  have e : 2 ^ lo * m - 1 = 2 ^ lo * (m - 1) + (2 ^ lo - 1) := by
    obtain ⟨q, rfl⟩ : ∃ q, m = q + 1 := ⟨m - 1, by omega⟩
    rw [Nat.add_sub_cancel, Nat.mul_succ]; omega
  have b : ∀ j, (2 ^ lo * m &&& (2 ^ lo * m - 1)).testBit j = if j = lo then false else (2 ^ lo * m).testBit j := by
    intro j
    rw [Nat.testBit_and, e, Nat.testBit_two_pow_mul_add _ (by omega), Nat.testBit_two_pow_mul]
    by_cases z : j = lo
    · subst z
      obtain ⟨q, rfl⟩ : ∃ q, m = 2 * q + 1 := ⟨m / 2, by omega⟩
      simp [Nat.testBit_zero]
    · by_cases y : j < lo
      · have : ¬ lo ≤ j := by omega
        simp [z, y, this]
      · obtain ⟨i, rfl⟩ : ∃ i, j = lo + (i + 1) := ⟨j - lo - 1, by omega⟩
        obtain ⟨q, rfl⟩ : ∃ q, m = 2 * q + 1 := ⟨m / 2, by omega⟩
        have e1 : lo + (i + 1) - lo = i + 1 := by omega
        have e2 : 2 * q + 1 - 1 = 2 * q := by omega
        rw [e1, e2, Nat.testBit_add_one, Nat.testBit_add_one, show (2 * q + 1) / 2 = q by omega, show 2 * q / 2 = q by omega]
        simp
        exact fun h => Or.inr h
  unfold bt_
  rw [b k]
  by_cases z : k = lo
  · simp [z]
  · simp [z]
theorem sp_low {f : Nat → Int} {s t lo : Nat} (e : ∀ k, bt_ t k = if k = lo then 0 else bt_ s k) (h1 : bt_ s lo = 1) : ∀ n, sp_ f s n = sp_ f t n + (if lo < n then f lo else 0)
  | 0 => rfl
  | n + 1 => by
      have i := sp_low (f := f) e h1 n
      unfold sp_
      rw [i, e n]
      by_cases z : n = lo
      · subst z; simp [h1]
      · by_cases y : lo < n
        · have : lo < n + 1 := by omega
          simp [z, y, this]; omega
        · have : ¬ lo < n + 1 := by omega
          simp [z, y, this]
/-- a sum over the members from lo on, below n -/
def su_ (g : Nat → Int) (s lo : Nat) : Nat → Int
  | 0 => 0
  | n + 1 => su_ g s lo n + (if lo ≤ n then bt_ s n * g n else 0)
/-- how many of the pairs are these two -/
def cb_ (a b : Nat) : List (Nat × Nat) → Int
  | [] => 0
  | p :: l => (if (p.1 = a ∧ p.2 = b) ∨ (p.1 = b ∧ p.2 = a) then 1 else 0) + cb_ a b l
theorem su_0 (s lo : Nat) : ∀ n, su_ (fun _ => 0) s lo n = 0
  | 0 => rfl
  | n + 1 => by unfold su_; rw [su_0 s lo n]; simp
theorem su_a (g h : Nat → Int) (s lo : Nat) : ∀ n, su_ (fun k => g k + h k) s lo n = su_ g s lo n + su_ h s lo n
  | 0 => rfl
  | n + 1 => by
      unfold su_; rw [su_a g h s lo n]
      split
      · rw [Int.mul_add]; omega
      · omega
theorem su_1 (s lo c : Nat) : ∀ n, su_ (fun k => if k = c then 1 else 0) s lo n = if lo ≤ c ∧ c < n then bt_ s c else 0
  | 0 => by simp [su_]
  | n + 1 => by
      unfold su_; rw [su_1 s lo c n]
      by_cases z : n = c
      · subst z
        simp [Nat.lt_irrefl]
      · have e : (c < n + 1) = (c < n) := by apply propext; omega
        simp [z, e]
theorem su_e {g h : Nat → Int} {s lo : Nat} (e : ∀ k, lo ≤ k → g k = h k) : ∀ n, su_ g s lo n = su_ h s lo n
  | 0 => rfl
  | n + 1 => by
      unfold su_; rw [su_e e n]
      split
      · rw [e n (by assumption)]
      · rfl
theorem ed_low {s t lo : Nat} (e : ∀ k, bt_ t k = if k = lo then 0 else bt_ s k) (h1 : bt_ s lo = 1) (h0 : ∀ j, j < lo → bt_ s j = 0) (hl : lo < 12) : ∀ l : List (Nat × Nat), (∀ p ∈ l, p.1 ≠ p.2 ∧ p.1 < 12 ∧ p.2 < 12) → ed_ s l = ed_ t l + su_ (fun k => cb_ lo k l) s (lo + 1) 12
  | [], _ => by show (0 : Int) = 0 + su_ (fun _ => 0) s (lo + 1) 12; rw [su_0]; rfl
  | p :: l, h => by
      have i := ed_low e h1 h0 hl l (fun q hq => h q (List.mem_cons_of_mem _ hq))
      have hp := h p List.mem_cons_self
      show bt_ s p.1 * bt_ s p.2 + ed_ s l = bt_ t p.1 * bt_ t p.2 + ed_ t l + su_ (fun k => (if (p.1 = lo ∧ p.2 = k) ∨ (p.1 = k ∧ p.2 = lo) then 1 else 0) + cb_ lo k l) s (lo + 1) 12
      rw [su_a, i, e p.1, e p.2]
      by_cases x : p.1 = lo
      · have y : ¬ p.2 = lo := fun z => hp.1 (x.trans z.symm)
        have q : su_ (fun k => if (p.1 = lo ∧ p.2 = k) ∨ (p.1 = k ∧ p.2 = lo) then (1 : Int) else 0) s (lo + 1) 12 = bt_ s p.2 := by
          rw [su_e (h := fun k => if k = p.2 then 1 else 0) (fun k _ => by simp [x, y, eq_comm]), su_1]
          by_cases z : lo + 1 ≤ p.2
          · rw [if_pos ⟨z, hp.2.2⟩]
          · rw [if_neg (fun w => z w.1), h0 p.2 (by omega)]
        rw [q, x, h1]; simp; omega
      · by_cases y : p.2 = lo
        · have q : su_ (fun k => if (p.1 = lo ∧ p.2 = k) ∨ (p.1 = k ∧ p.2 = lo) then (1 : Int) else 0) s (lo + 1) 12 = bt_ s p.1 := by
            rw [su_e (h := fun k => if k = p.1 then 1 else 0) (fun k _ => by simp [x, y, eq_comm]), su_1]
            by_cases z : lo + 1 ≤ p.1
            · rw [if_pos ⟨z, hp.2.1⟩]
            · rw [if_neg (fun w => z w.1), h0 p.1 (by omega)]
          rw [q, y, h1]; simp [x]; omega
        · have q : su_ (fun k => if (p.1 = lo ∧ p.2 = k) ∨ (p.1 = k ∧ p.2 = lo) then (1 : Int) else 0) s (lo + 1) 12 = 0 := by
            rw [su_e (h := fun _ => 0) (fun k _ => by simp [x, y]), su_0]
          rw [q]; simp [x, y]; omega
theorem vs_low {f : Nat → Int} {l : List (Nat × Nat)} {s lo : Nat} (h1 : bt_ s lo = 1) (h0 : ∀ j, j < lo → bt_ s j = 0) (hl : lo < 12) (h : ∀ p ∈ l, p.1 ≠ p.2 ∧ p.1 < 12 ∧ p.2 < 12) : vs_ f l s = vs_ f l (s &&& (s - 1)) + f lo - 2 * su_ (fun k => cb_ lo k l) s (lo + 1) 12 := by
  have e := bt_low h1 h0
  unfold vs_
  rw [sp_low (f := f) e h1 12, ed_low e h1 h0 hl l h, if_pos hl]
  omega
theorem sp_b {f : Nat → Int} {s : Nat} {F : Int} (hF : 0 ≤ F) (h : ∀ k, k < 12 → -F ≤ f k ∧ f k ≤ F) : ∀ n, n ≤ 12 → -(n * F) ≤ sp_ f s n ∧ sp_ f s n ≤ n * F
  | 0, _ => by simp [sp_]
  | n + 1, hn => by
      have i := sp_b (s := s) hF h n (by omega)
      have k := h n (by omega)
      unfold sp_
      rw [show ((n + 1 : Nat) : Int) * F = n * F + F by rw [Int.natCast_add, Int.add_mul]; simp]
      rcases bt_01 s n with x | x <;> rw [x] <;> omega
theorem ed_b (s : Nat) : ∀ l : List (Nat × Nat), 0 ≤ ed_ s l ∧ ed_ s l ≤ l.length
  | [] => by simp [ed_]
  | p :: l => by
      have i := ed_b s l
      unfold ed_
      rw [List.length_cons]
      rcases bt_01 s p.1 with x | x <;> rcases bt_01 s p.2 with y | y <;> rw [x, y] <;> omega
theorem vs_b {f : Nat → Int} {l : List (Nat × Nat)} {F : Int} (hF : 0 ≤ F) (h : ∀ k, k < 12 → -F ≤ f k ∧ f k ≤ F) (s : Nat) : -(12 * F) - 2 * l.length ≤ vs_ f l s ∧ vs_ f l s ≤ 12 * F := by
  have a := sp_b (s := s) hF h 12 (Nat.le_refl _)
  have b := ed_b s l
  unfold vs_
  omega
theorem cb_b (a b : Nat) : ∀ l : List (Nat × Nat), 0 ≤ cb_ a b l ∧ cb_ a b l ≤ l.length
  | [] => by simp [cb_]
  | p :: l => by
      have i := cb_b a b l
      unfold cb_
      rw [List.length_cons]
      split <;> omega
theorem cb_s (a b : Nat) (p : Nat × Nat) : ∀ l : List (Nat × Nat), cb_ a b (l ++ [p]) = cb_ a b l + (if (p.1 = a ∧ p.2 = b) ∨ (p.1 = b ∧ p.2 = a) then 1 else 0)
  | [] => by simp [cb_]
  | q :: l => by
      show _ + cb_ a b (l ++ [p]) = _ + cb_ a b l + _
      rw [cb_s a b p l]; omega
/-- the pairs of the matches still left, from m on, that another club than cl plays -/
def plf_ (T : Zt) (cl : Int) : Nat → Int → List (Nat × Nat)
  | 0, _ => []
  | n + 1, m => (if (T 235 0 m = 0 ∨ T 235 0 m = 1) ∧ T 232 0 m ≠ cl ∧ T 233 0 m ≠ cl ∧ T 232 0 m ≠ T 233 0 m then [((T 232 0 m).toNat, (T 233 0 m).toNat)] else []) ++ plf_ T cl n (m + 1)
theorem plf_s (T : Zt) (cl : Int) : ∀ (n : Nat) (m : Int), plf_ T cl (n + 1) m = plf_ T cl n m ++ (if (T 235 0 (m + n) = 0 ∨ T 235 0 (m + n) = 1) ∧ T 232 0 (m + n) ≠ cl ∧ T 233 0 (m + n) ≠ cl ∧ T 232 0 (m + n) ≠ T 233 0 (m + n) then [((T 232 0 (m + n)).toNat, (T 233 0 (m + n)).toNat)] else [])
  | 0, m => by simp [plf_]
  | n + 1, m => by
      have i := plf_s T cl n (m + 1)
      rw [show m + 1 + (n : Int) = m + ((n + 1 : Nat) : Int) by omega] at i
      show _ ++ plf_ T cl (n + 1) (m + 1) = (_ ++ plf_ T cl n (m + 1)) ++ _
      rw [i, List.append_assoc]
theorem plf_b {T : Zt} {cl : Int} : ∀ (n : Nat) (m : Int), (∀ j, m ≤ j → j < m + n → (0 ≤ T 232 0 j ∧ T 232 0 j ≤ 11) ∧ (0 ≤ T 233 0 j ∧ T 233 0 j ≤ 11)) → ∀ p ∈ plf_ T cl n m, p.1 ≠ p.2 ∧ p.1 < 12 ∧ p.2 < 12
  | 0, _, _, p, hp => by cases hp
  | n + 1, m, h, p, hp => by
      unfold plf_ at hp
      rcases List.mem_append.mp hp with z | z
      · have g := h m (by omega) (by omega)
        split at z
        · rename_i c
          rw [List.mem_singleton] at z
          subst z
          refine ⟨?_, ?_, ?_⟩ <;> simp only <;> omega
        · cases z
      · exact plf_b n (m + 1) (fun j a b => h j (by omega) (by omega)) p z
theorem plf_n (T : Zt) (cl : Int) : ∀ (n : Nat) (m : Int), (plf_ T cl n m).length ≤ n
  | 0, _ => by simp [plf_]
  | n + 1, m => by
      have i := plf_n T cl n (m + 1)
      unfold plf_
      rw [List.length_append]
      split <;> simp <;> omega
/-- the slack of every set of others: a sum less its pairs twice, nowhere below 0 -/
def SVE_ (T : Zt) (o : Int) (l : List (Nat × Nat)) : Prop := ∃ f : Nat → Int, ∀ s : Int, 0 ≤ s → s < 4096 → an_ s o = s → T 296 0 s = vs_ f l s.toNat ∧ 0 ≤ T 296 0 s ∧ T 296 0 s ≤ 1000000000
def SW_ (T : Zt) (o a b : Int) (l : List (Nat × Nat)) : Prop := (a ≠ b → SVE_ T o ((a.toNat, b.toNat) :: l)) ∧ (a = b → SVE_ T o l)
def NW_ (T : Zt) (o a b w : Int) : Prop := ∃ s : Int, 1 ≤ s ∧ s < 4096 ∧ an_ s o = s ∧ T 296 0 s + ch_ s.toNat a.toNat b.toNat w < 0
theorem an_z {s o : Int} (ho : 0 ≤ o ∧ o ≤ 4095) (hs : 0 ≤ s ∧ s < 4096) : an_ s o = s ↔ s.toNat &&& o.toNat = s.toNat := by
  rw [an_n (by omega) (by omega)]; omega
theorem sw_n {T : Zt} {o a b : Int} {l : List (Nat × Nat)} (h : SW_ T o a b l) (ho : 0 ≤ o ∧ o ≤ 4095) (h0 : NW_ T o a b 0) (h1 : NW_ T o a b 1) (h2 : NW_ T o a b 2) : False := by
  by_cases z : a = b
  · obtain ⟨f, g⟩ := h.2 z
    obtain ⟨s, p1, p2, p3, p4⟩ := h0
    have q := g s (by omega) p2 p3
    have c := ch_c s.toNat a.toNat b.toNat 0
    rw [z] at c p4
    omega
  · obtain ⟨f, g⟩ := h.1 z
    obtain ⟨s0, p1, p2, p3, p4⟩ := h0
    obtain ⟨s1, q1, q2, q3, q4⟩ := h1
    obtain ⟨s2, r1, r2, r3, r4⟩ := h2
    rw [(g s0 (by omega) p2 p3).1] at p4
    rw [(g s1 (by omega) q2 q3).1] at q4
    rw [(g s2 (by omega) r2 r3).1] at r4
    refine vs_w (P := fun s => s < 4096 ∧ s &&& o.toNat = s) (fun s t hs ht => ⟨⟨Nat.or_lt_two_pow (n := 12) hs.1 ht.1, ?_⟩, ⟨Nat.lt_of_le_of_lt Nat.and_le_left hs.1, ?_⟩⟩) (fun s hs => ?_) ⟨by omega, (an_z ho (by omega)).mp p3⟩ ⟨by omega, (an_z ho (by omega)).mp q3⟩ ⟨by omega, (an_z ho (by omega)).mp r3⟩ p4 q4 r4
    · rw [Nat.and_or_distrib_right, hs.2, ht.2]
    · rw [Nat.and_assoc, ht.2]
    · have k := g (s : Int) (by omega) (by omega) ((an_z ho (by omega)).mpr (by rw [Int.toNat_natCast]; exact hs.2))
      rw [Int.toNat_natCast] at k
      omega
theorem ch_b (s a b : Nat) {w : Int} (hw : 0 ≤ w ∧ w ≤ 2) : -2 ≤ ch_ s a b w ∧ ch_ s a b w ≤ 0 := by
  have := ch_c s a b w
  omega
theorem ch_0 (a b : Nat) (w : Int) : ch_ 0 a b w = 0 := by
  have e : ∀ k, bt_ 0 k = 0 := fun k => by unfold bt_; rw [Nat.zero_testBit]; rfl
  unfold ch_; rw [e, e]; simp
theorem sw_p {T T1 : Zt} {o a b w : Int} {l : List (Nat × Nat)} (h : SW_ T o a b l) (ha : 0 ≤ a ∧ a < 12) (hb : 0 ≤ b ∧ b < 12) (hw : 0 ≤ w ∧ w ≤ 2)
    (ok : ∀ s, 1 ≤ s → s < 4096 → an_ s o = s → 0 ≤ T 296 0 s + ch_ s.toNat a.toNat b.toNat w)
    (up : ∀ s, 1 ≤ s → s < 4096 → an_ s o = s → T1 296 0 s = T 296 0 s + ch_ s.toNat a.toNat b.toNat w) (u0 : T1 296 0 0 = T 296 0 0) : SVE_ T1 o l := by
  have u : ∀ s, 0 ≤ s → s < 4096 → an_ s o = s → T1 296 0 s = T 296 0 s + ch_ s.toNat a.toNat b.toNat w := fun s h1 h2 h3 => by
    by_cases z : s = 0
    · subst z
      rw [u0, show Int.toNat 0 = 0 by rfl, ch_0]; omega
    · exact up s (by omega) h2 h3
  by_cases z : a = b
  · obtain ⟨f, g⟩ := h.2 z
    refine ⟨f, fun s h1 h2 h3 => ?_⟩
    have k := g s h1 h2 h3
    have c := ch_c s.toNat a.toNat b.toNat w
    have v := u s h1 h2 h3
    rw [z] at c v
    have : ch_ s.toNat b.toNat b.toNat w = 0 := by omega
    rw [this] at v
    rw [v, Int.add_zero]
    exact k
  · obtain ⟨f, g⟩ := h.1 z
    refine ⟨fw2_ f a.toNat b.toNat w, fun s h1 h2 h3 => ?_⟩
    have k := g s h1 h2 h3
    have v := u s h1 h2 h3
    have c := ch_b s.toNat a.toNat b.toNat hw
    rw [vs_s (by omega) (by omega)]
    by_cases y : s = 0
    · subst y
      rw [show Int.toNat 0 = 0 by rfl, ch_0] at v ⊢
      rw [show Int.toNat 0 = 0 by rfl] at k
      omega
    · have := ok s (by omega) h2 h3
      omega
theorem sve_e {T T1 : Zt} {o : Int} {l : List (Nat × Nat)} (h : SVE_ T o l) (e : ∀ j, T1 296 0 j = T 296 0 j) : SVE_ T1 o l := by
  obtain ⟨f, g⟩ := h
  exact ⟨f, fun s a b c => by rw [e]; exact g s a b c⟩
theorem plf_e {T T1 : Zt} {cl : Int} (a : ∀ j, T1 235 0 j = T 235 0 j) (b : ∀ j, T1 232 0 j = T 232 0 j) (c : ∀ j, T1 233 0 j = T 233 0 j) : ∀ (n : Nat) (m : Int), plf_ T1 cl n m = plf_ T cl n m
  | 0, _ => rfl
  | n + 1, m => by
      unfold plf_
      rw [a, b, c, plf_e a b c n (m + 1)]
/-- between two clubs stand as many as the pairs say -/
def BW_ (T : Zt) (l : List (Nat × Nat)) : Prop := ∀ x y : Int, 0 ≤ x → x < 12 → 0 ≤ y → y < 12 → x ≠ y → T 294 0 (12 * x + y) = cb_ x.toNat y.toNat l
theorem bw_s {T T1 T2 : Zt} {l : List (Nat × Nat)} {h a : Int} (w : BW_ T l) (hh : 0 ≤ h ∧ h ≤ 11) (ha : 0 ≤ a ∧ a ≤ 11) (e1 : T1 = up_ T 294 0 (12 * h + a) (T 294 0 (12 * h + a) + 1)) (e2 : T2 = up_ T1 294 0 (12 * a + h) (T1 294 0 (12 * a + h) + 1)) (ne : h ≠ a) : BW_ T2 (l ++ [(h.toNat, a.toNat)]) := fun x y x0 x1 y0 y1 xy => by
  rw [cb_s]
  have k := w x y x0 x1 y0 y1 xy
  by_cases z : x = h ∧ y = a
  · obtain ⟨rfl, rfl⟩ := z
    rw [up_g e2 (fun q => by omega), up_f e1, k, if_pos (Or.inl ⟨rfl, rfl⟩)]
  · by_cases z2 : x = a ∧ y = h
    · obtain ⟨rfl, rfl⟩ := z2
      rw [up_f e2, up_g e1 (fun q => by omega), k, if_pos (Or.inr ⟨rfl, rfl⟩)]
    · rw [up_g e2 (fun q => by omega), up_g e1 (fun q => by omega), k, if_neg (fun q => by simp only at q; omega)]; omega
theorem bw_d {T T1 T2 : Zt} {l : List (Nat × Nat)} {h a : Int} (w : BW_ T l) (hh : 0 ≤ h ∧ h ≤ 11) (e1 : T1 = up_ T 294 0 (12 * h + a) (T 294 0 (12 * h + a) + 1)) (e2 : T2 = up_ T1 294 0 (12 * a + h) (T1 294 0 (12 * a + h) + 1)) (ne : h = a) : BW_ T2 l := fun x y x0 x1 y0 y1 xy => by
  rw [up_g e2 (fun q => by omega), up_g e1 (fun q => by omega)]
  exact w x y x0 x1 y0 y1 xy
/-- what the slack is, below the set s -/
def SV_ (T : Zt) (o s : Int) (l : List (Nat × Nat)) (f : Nat → Int) : Prop := ∀ t : Int, 0 ≤ t → t < s → an_ t o = t → T 296 0 t = vs_ f l t.toNat
theorem su_b {g : Nat → Int} {s lo : Nat} {B : Int} (hB : 0 ≤ B) (h : ∀ k, 0 ≤ g k ∧ g k ≤ B) : ∀ n : Nat, 0 ≤ su_ g s lo n ∧ su_ g s lo n ≤ n * B
  | 0 => by simp [su_]
  | n + 1 => by
      have i := su_b (s := s) (lo := lo) hB h n
      have k := h n
      unfold su_
      rw [show ((n + 1 : Nat) : Int) * B = n * B + B by rw [Int.natCast_add, Int.add_mul]; simp]
      split
      · rcases bt_01 s n with x | x <;> rw [x] <;> omega
      · omega
theorem su_n {g : Nat → Int} {s lo : Nat} : ∀ n : Nat, n ≤ lo → su_ g s lo n = 0
  | 0, _ => rfl
  | n + 1, h => by unfold su_; rw [su_n n (by omega), if_neg (by omega)]; rfl
theorem vs_0 (f : Nat → Int) (l : List (Nat × Nat)) : vs_ f l 0 = 0 := by
  have e : ∀ k, bt_ 0 k = 0 := fun k => by unfold bt_; rw [Nat.zero_testBit]; rfl
  have a : ∀ n, sp_ f 0 n = 0 := fun n => by
    induction n with
    | zero => rfl
    | succ n i => unfold sp_; rw [i, e]; simp
  have b : ∀ l : List (Nat × Nat), ed_ 0 l = 0 := fun l => by
    induction l with
    | nil => rfl
    | cons p l i => unfold ed_; rw [i, e]; simp
  unfold vs_; rw [a, b]; rfl
theorem lo_lt {s lo : Int} (hs : 1 ≤ s ∧ s < 4096) (h0 : 0 ≤ lo) (h : ∀ j, 0 ≤ j → j < lo → an_ (sr_ s j) 1 = 0) : lo < 12 := by
  apply Int.not_le.mp
  intro hl
  have z : s.toNat = 0 := by
    apply Nat.eq_of_testBit_eq
    intro j
    rw [Nat.zero_testBit]
    by_cases y : j < 12
    · have k := h (j : Int) (by omega) (by omega)
      rw [bt_n (by omega) (by omega), Int.toNat_natCast] at k
      unfold bt_ at k
      split at k
      · omega
      · simp_all
    · exact Nat.testBit_lt_two_pow (Nat.lt_of_lt_of_le (by omega : s.toNat < 2 ^ 12) (Nat.pow_le_pow_right (by decide) (by omega)))
  omega
theorem an_1 {s : Int} (hs : 1 ≤ s ∧ s < 4096) : an_ s (s - 1) = ((s.toNat &&& (s.toNat - 1) : Nat) : Int) ∧ 0 ≤ an_ s (s - 1) ∧ an_ s (s - 1) ≤ s - 1 := by
  have e := an_n (x := s) (y := s - 1) (by omega) (by omega)
  rw [show (s - 1).toNat = s.toNat - 1 by omega] at e
  have l : s.toNat &&& (s.toNat - 1) ≤ s.toNat - 1 := Nat.and_le_right
  exact ⟨e, by omega, by omega⟩
theorem an_2 {s o : Int} (ho : 0 ≤ o ∧ o ≤ 4095) (hs : 1 ≤ s ∧ s < 4096) (h : an_ s o = s) : an_ (an_ s (s - 1)) o = an_ s (s - 1) := by
  have a := an_1 hs
  rw [an_z ho (by omega)] at h
  rw [an_z ho (by omega), a.1, Int.toNat_natCast, Nat.and_assoc, Nat.and_comm (s.toNat - 1), ← Nat.and_assoc, h]
theorem sw_b {T : Zt} {o a b s : Int} {l : List (Nat × Nat)} (h : SW_ T o a b l) (h1 : 0 ≤ s) (h2 : s < 4096) (h3 : an_ s o = s) : 0 ≤ T 296 0 s ∧ T 296 0 s ≤ 1000000000 := by
  by_cases z : a = b
  · obtain ⟨f, g⟩ := h.2 z
    exact (g s h1 h2 h3).2
  · obtain ⟨f, g⟩ := h.1 z
    exact (g s h1 h2 h3).2
theorem mul_b {x y : Int} (hx : 0 ≤ x ∧ x ≤ 9) (hy : 0 ≤ y ∧ y ≤ 1000) : 0 ≤ x * y ∧ x * y ≤ 9000 := by
  refine ⟨Int.mul_nonneg hx.1 hy.1, ?_⟩
  have := Int.mul_le_mul hx.2 hy.2 hy.1 (by decide : (0 : Int) ≤ 9)
  omega
abbrev cX11_isLeft : ByteArray := prog_13_method_97_code
def yX11_isLeft : MethodName := ⟨RX11, "isLeft", "(I)Z"⟩
def zX11_isLeft : Zm := (RX11, cX11_isLeft, 2, (some .boolean), { frames := 0, cells := 0, slots := 0, locals := 0 })
theorem bk_X11_isLeft_0 : ck_ fX11 (some .boolean) cX11_isLeft 0 [.aload 0, .tableswitch 0 11 35 #[], .iload 1, .iaload, .ifCond .eq 19, .aload 0, .tableswitch 0 11 35 #[], .iload 1, .iaload, .iconst 1, .if_icmp .ne 23, .iconst 1, .goto 24] 23 = true := qck_r (nn_ _) (by decide +kernel)
theorem bs_X11_isLeft_0 {P : Zt → Option Zv → Prop} (K : Int → Zl → List Zv → Zt → Prop) : sx_ K P [.aload 0, .tableswitch 0 11 35 #[], .iload 1, .iaload, .ifCond .eq 19, .aload 0, .tableswitch 0 11 35 #[], .iload 1, .iaload, .iconst 1, .if_icmp .ne 23, .iconst 1, .goto 24] 23 = x_aload 0 (x_g1 111 235 (x_iload 1 (x_iaload (x_ifCond .eq 19 K (x_aload 0 (x_g1 111 235 (x_iload 1 (x_iaload (x_iconst 1 (x_if_icmp .ne 23 K (x_iconst 1 (x_goto 24 K)))))))))))) := ((xe_aload 0).trans (congrArg (x_aload 0) ((xe_g1 (kk := 111) rfl tl_11_35).trans (congrArg (x_g1 111 235) ((xe_iload 1).trans (congrArg (x_iload 1) ((xe_iaload).trans (congrArg (x_iaload) ((xe_ifCond .eq 19).trans (congrArg (x_ifCond .eq 19 K) ((xe_aload 0).trans (congrArg (x_aload 0) ((xe_g1 (kk := 111) rfl tl_11_35).trans (congrArg (x_g1 111 235) ((xe_iload 1).trans (congrArg (x_iload 1) ((xe_iaload).trans (congrArg (x_iaload) ((xe_iconst 1).trans (congrArg (x_iconst 1) ((xe_if_icmp .ne 23).trans (congrArg (x_if_icmp .ne 23 K) ((xe_iconst 1).trans (congrArg (x_iconst 1) (xe_goto 24)))))))))))))))))))))))))
theorem bk_X11_isLeft_19 : ck_ fX11 (some .boolean) cX11_isLeft 19 [.iconst 1, .goto 24] 23 = true := qck_r (nn_ _) (by decide +kernel)
theorem bs_X11_isLeft_19 {P : Zt → Option Zv → Prop} (K : Int → Zl → List Zv → Zt → Prop) : sx_ K P [.iconst 1, .goto 24] 23 = x_iconst 1 (x_goto 24 K) := ((xe_iconst 1).trans (congrArg (x_iconst 1) (xe_goto 24)))
theorem bk_X11_isLeft_24 : ck_ fX11 (some .boolean) cX11_isLeft 24 [.ireturn] 25 = true := qck_r (nn_ _) (by decide +kernel)
theorem bs_X11_isLeft_24 {P : Zt → Option Zv → Prop} (K : Int → Zl → List Zv → Zt → Prop) : sx_ K P [.ireturn] 25 = x_ireturn P := (xe_ireturn)
theorem bk_X11_isLeft_23 : ck_ fX11 (some .boolean) cX11_isLeft 23 [.iconst 0, .ireturn] 25 = true := qck_r (nn_ _) (by decide +kernel)
theorem bs_X11_isLeft_23 {P : Zt → Option Zv → Prop} (K : Int → Zl → List Zv → Zt → Prop) : sx_ K P [.iconst 0, .ireturn] 25 = x_iconst 0 (x_ireturn P) := ((xe_iconst 0).trans (congrArg (x_iconst 0) (xe_ireturn)))
abbrev po_X11_isLeft (T : Zt) (m : Int) : Zt → Option Zv → Prop := fun T' r => T = T' ∧ ∃ x : Int, r = some (vI x) ∧ ((x = 1 ∧ (T 235 0 m = 0 ∨ T 235 0 m = 1)) ∨ (x = 0 ∧ ¬ (T 235 0 m = 0 ∨ T 235 0 m = 1)))
set_option maxHeartbeats 4000000 in
theorem ct_X11_isLeft {T : Zt} {m : Int} (h1 : 0 ≤ m ∧ m < 400) : Ct_ yX11_isLeft zX11_isLeft T [vR 111 0, vI m] (po_X11_isLeft T m) := by
  refine ct_of pn_11 rfl rfl (Nat.le_of_ble_eq_true rfl) (fun hT hav => ?_)
  have hr_m : -2147483648 ≤ m ∧ m ≤ 2147483647 := hav (vI m) (List.mem_cons_of_mem _ List.mem_cons_self)
  have hz : zX11_isLeft.2.2.2.1 = some .boolean → ∀ (T' : Zt) (x : Int), po_X11_isLeft T m T' (some (vI x)) → 0 ≤ x ∧ x ≤ 1 := fun _ T' x h => by obtain ⟨-, y, e, hy⟩ := h; cases e; omega
  show J_ zX11_isLeft T (po_X11_isLeft T m) 0 0 0 [some (vR 111 0), some (vI m)] [] T
  refine j_blx (F := fX11) tb_X11 (nn_ _) bk_X11_isLeft_0 bs_X11_isLeft_0 hz (fun K hK => ?_)
  refine ix_i (by omega) ?_
  intro b1 b1b
  refine And.intro (fun c2 => ?_) (fun c2 => ?_)
  · refine hK 19 _ [] T ?_
    refine j_blx (F := fX11) tb_X11 (nn_ _) bk_X11_isLeft_19 bs_X11_isLeft_19 hz (fun K hK => ?_)
    refine hK 24 _ [vI 1] T ?_
    refine j_blx (F := fX11) tb_X11 (nn_ _) bk_X11_isLeft_24 bs_X11_isLeft_24 hz (fun K hK => ?_)
    refine (show po_X11_isLeft T m T (some (vI 1)) from ?_)
    exact ⟨rfl, _, rfl, Or.inl ⟨rfl, by omega⟩⟩
  · refine ix_i (by omega) ?_
    intro b3 b3b
    refine And.intro (fun c4 => ?_) (fun c4 => ?_)
    · refine hK 23 _ [] T ?_
      refine j_blx (F := fX11) tb_X11 (nn_ _) bk_X11_isLeft_23 bs_X11_isLeft_23 hz (fun K hK => ?_)
      refine (show po_X11_isLeft T m T (some (vI 0)) from ?_)
      exact ⟨rfl, _, rfl, Or.inr ⟨rfl, by omega⟩⟩
    · refine hK 24 _ [vI 1] T ?_
      refine j_blx (F := fX11) tb_X11 (nn_ _) bk_X11_isLeft_24 bs_X11_isLeft_24 hz (fun K hK => ?_)
      refine (show po_X11_isLeft T m T (some (vI 1)) from ?_)
      exact ⟨rfl, _, rfl, Or.inl ⟨rfl, by omega⟩⟩
def PB6_ (T : Zt) : Prop := ∀ k : Int, 0 ≤ k → k < 12 → -7500000 ≤ T 291 0 k ∧ T 291 0 k ≤ 7500000
theorem PB6__f {ws : List (Nat × List Int)} {T T' : Zt} (h : PB6_ T) (f : fr_ ws T T') (w : (∀ j, fw_ ws 291 j = false) ∧ True) : PB6_ T' := by
  have e0 : ∀ i j, T' 291 i j = T 291 i j := fun i j => f 291 i j (w.1 j)
  simp only [PB6_, e0] at h ⊢
  exact h
def LB_ (T : Zt) (b : Int) : Prop := ∀ k, 0 ≤ k → k < 12 → 0 ≤ T 292 0 k ∧ T 292 0 k ≤ b
theorem lb_u {T T1 : Zt} {b i v : Int} (h : LB_ T b) (e : T1 = up_ T 292 0 i v) (hv : 0 ≤ v ∧ v ≤ b + 1) : LB_ T1 (b + 1) := fun j a c => by
  by_cases z : j = i
  · rw [z, up_f e]; exact hv
  · rw [up_g e (fun q => z q.2.2)]
    have := h j a c
    omega
theorem lb_m {T : Zt} {b d : Int} (h : LB_ T b) (e : b ≤ d) : LB_ T d := fun j a c => by
  have := h j a c
  omega
abbrev cX11_countLeft : ByteArray := prog_13_method_98_code
def yX11_countLeft : MethodName := ⟨RX11, "countLeft", "(I)V"⟩
def zX11_countLeft : Zm := (RX11, cX11_countLeft, 3, none, { frames := 3, cells := 0, slots := 0, locals := 70 })
set_option maxRecDepth 100000 in
theorem cl_X11_538 : cv_ RX11 538 yX11_isLeft zX11_isLeft 11 1 := ⟨gi_V (lwq_9 (dqc_m (dqc_m (dqc_m (dqc_m (dqc_m (dqc_m (dqc_m (dqa_m (List.mem_of_getElem? (i := 0) rfl))))))))) rfl : Cond.methodLink RX11 538 yX11_isLeft ∈ lw_g) (lwq_9 (dqc_m (dqc_m (dqc_m (dqc_m (dqc_m (dqc_m (dqc_m (dqa_m (List.mem_of_getElem? (i := 2) rfl))))))))) rfl : Cond.instanceMethod yX11_isLeft ∈ lw_g) (lw_sel 26 rfl : Cond.selects yX11_isLeft.cls yX11_isLeft yX11_isLeft ∈ lw_g) (lwq_1 (dqa_m (List.mem_of_getElem? (i := 2) rfl)) rfl : Cond.initialized yX11_isLeft.cls ∈ lw_g) (lwq_9 (dqc_m (dqc_m (dqc_m (dqc_m (dqc_m (dqc_m (dqc_m (dqa_m (List.mem_of_getElem? (i := 3) rfl))))))))) rfl : Cond.code yX11_isLeft cX11_isLeft 2 (some .boolean) ∈ lw_g), ⟨nmh_1.1, nmh_1.2, pdq_7⟩, ⟨_, _, rfl⟩⟩
abbrev cX11_othersOf : ByteArray := prog_13_method_99_code
def yX11_othersOf : MethodName := ⟨RX11, "othersOf", "(II)I"⟩
def zX11_othersOf : Zm := (RX11, cX11_othersOf, 5, (some .int), { frames := 0, cells := 0, slots := 0, locals := 0 })
theorem bk_X11_othersOf_5 : ck_ fX11 (some .int) cX11_othersOf 5 [.iload 4, .aload 0, .tableswitch 0 11 8 #[], .iload 1, .iaload, .if_icmp .ge 59, .aload 0, .tableswitch 0 11 7 #[], .iconst 12, .iload 1, .imul, .iload 4, .iadd, .iaload, .iload 2, .if_icmp .ne 36, .iload 3, .goto 52] 36 = true := qck_r (nn_ _) (by decide +kernel)
theorem bs_X11_othersOf_5 {P : Zt → Option Zv → Prop} (K : Int → Zl → List Zv → Zt → Prop) : sx_ K P [.iload 4, .aload 0, .tableswitch 0 11 8 #[], .iload 1, .iaload, .if_icmp .ge 59, .aload 0, .tableswitch 0 11 7 #[], .iconst 12, .iload 1, .imul, .iload 4, .iadd, .iaload, .iload 2, .if_icmp .ne 36, .iload 3, .goto 52] 36 = x_iload 4 (x_aload 0 (x_g1 111 208 (x_iload 1 (x_iaload (x_if_icmp .ge 59 K (x_aload 0 (x_g1 111 207 (x_iconst 12 (x_iload 1 (x_imul (x_iload 4 (x_iadd (x_iaload (x_iload 2 (x_if_icmp .ne 36 K (x_iload 3 (x_goto 52 K))))))))))))))))) := ((xe_iload 4).trans (congrArg (x_iload 4) ((xe_aload 0).trans (congrArg (x_aload 0) ((xe_g1 (kk := 111) rfl tl_11_8).trans (congrArg (x_g1 111 208) ((xe_iload 1).trans (congrArg (x_iload 1) ((xe_iaload).trans (congrArg (x_iaload) ((xe_if_icmp .ge 59).trans (congrArg (x_if_icmp .ge 59 K) ((xe_aload 0).trans (congrArg (x_aload 0) ((xe_g1 (kk := 111) rfl tl_11_7).trans (congrArg (x_g1 111 207) ((xe_iconst 12).trans (congrArg (x_iconst 12) ((xe_iload 1).trans (congrArg (x_iload 1) ((xe_imul).trans (congrArg (x_imul) ((xe_iload 4).trans (congrArg (x_iload 4) ((xe_iadd).trans (congrArg (x_iadd) ((xe_iaload).trans (congrArg (x_iaload) ((xe_iload 2).trans (congrArg (x_iload 2) ((xe_if_icmp .ne 36).trans (congrArg (x_if_icmp .ne 36 K) ((xe_iload 3).trans (congrArg (x_iload 3) (xe_goto 52)))))))))))))))))))))))))))))))))))
theorem bk_X11_othersOf_59 : ck_ fX11 (some .int) cX11_othersOf 59 [.iload 3, .ireturn] 61 = true := qck_r (nn_ _) (by decide +kernel)
theorem bs_X11_othersOf_59 {P : Zt → Option Zv → Prop} (K : Int → Zl → List Zv → Zt → Prop) : sx_ K P [.iload 3, .ireturn] 61 = x_iload 3 (x_ireturn P) := ((xe_iload 3).trans (congrArg (x_iload 3) (xe_ireturn)))
theorem bk_X11_othersOf_36 : ck_ fX11 (some .int) cX11_othersOf 36 [.iload 3, .iconst 1, .aload 0, .tableswitch 0 11 7 #[], .iconst 12, .iload 1, .imul, .iload 4, .iadd, .iaload, .ishl, .ior, .istore 3, .iinc 4 1, .goto 5] 59 = true := qck_r (nn_ _) (by decide +kernel)
theorem bs_X11_othersOf_36 {P : Zt → Option Zv → Prop} (K : Int → Zl → List Zv → Zt → Prop) : sx_ K P [.iload 3, .iconst 1, .aload 0, .tableswitch 0 11 7 #[], .iconst 12, .iload 1, .imul, .iload 4, .iadd, .iaload, .ishl, .ior, .istore 3, .iinc 4 1, .goto 5] 59 = x_iload 3 (x_iconst 1 (x_aload 0 (x_g1 111 207 (x_iconst 12 (x_iload 1 (x_imul (x_iload 4 (x_iadd (x_iaload (x_ishl (x_ior (x_istore 3 (x_iinc 4 1 (x_goto 5 K)))))))))))))) := ((xe_iload 3).trans (congrArg (x_iload 3) ((xe_iconst 1).trans (congrArg (x_iconst 1) ((xe_aload 0).trans (congrArg (x_aload 0) ((xe_g1 (kk := 111) rfl tl_11_7).trans (congrArg (x_g1 111 207) ((xe_iconst 12).trans (congrArg (x_iconst 12) ((xe_iload 1).trans (congrArg (x_iload 1) ((xe_imul).trans (congrArg (x_imul) ((xe_iload 4).trans (congrArg (x_iload 4) ((xe_iadd).trans (congrArg (x_iadd) ((xe_iaload).trans (congrArg (x_iaload) ((xe_ishl).trans (congrArg (x_ishl) ((xe_ior).trans (congrArg (x_ior) ((xe_istore 3).trans (congrArg (x_istore 3) ((xe_iinc 4 1).trans (congrArg (x_iinc 4 1) (xe_goto 5)))))))))))))))))))))))))))))
theorem bk_X11_othersOf_52 : ck_ fX11 (some .int) cX11_othersOf 52 [.istore 3, .iinc 4 1, .goto 5] 59 = true := qck_r (nn_ _) (by decide +kernel)
theorem bs_X11_othersOf_52 {P : Zt → Option Zv → Prop} (K : Int → Zl → List Zv → Zt → Prop) : sx_ K P [.istore 3, .iinc 4 1, .goto 5] 59 = x_istore 3 (x_iinc 4 1 (x_goto 5 K)) := ((xe_istore 3).trans (congrArg (x_istore 3) ((xe_iinc 4 1).trans (congrArg (x_iinc 4 1) (xe_goto 5)))))
theorem bk_X11_othersOf_0 : ck_ fX11 (some .int) cX11_othersOf 0 [.iconst 0, .istore 3, .iconst 0, .istore 4] 5 = true := qck_r (nn_ _) (by decide +kernel)
theorem bs_X11_othersOf_0 {P : Zt → Option Zv → Prop} (K : Int → Zl → List Zv → Zt → Prop) : sx_ K P [.iconst 0, .istore 3, .iconst 0, .istore 4] 5 = x_iconst 0 (x_istore 3 (x_iconst 0 (x_istore 4 (K 5)))) := ((xe_iconst 0).trans (congrArg (x_iconst 0) ((xe_istore 3).trans (congrArg (x_istore 3) ((xe_iconst 0).trans (congrArg (x_iconst 0) ((xe_istore 4).trans (congrArg (x_istore 4) xe_nil))))))))
abbrev po_X11_othersOf (T : Zt) (c cl : Int) : Zt → Option Zv → Prop := fun T' r => T = T' ∧ ∃ x : Int, r = some (vI x) ∧ (0 ≤ x ∧ x ≤ 4095)
set_option maxHeartbeats 4000000 in
theorem ct_X11_othersOf {T : Zt} {c cl : Int} (h1 : 0 ≤ c ∧ c < 4) : Ct_ yX11_othersOf zX11_othersOf T [vR 111 0, vI c, vI cl] (po_X11_othersOf T c cl) := by
  refine ct_of pn_11 rfl rfl (Nat.le_of_ble_eq_true rfl) (fun hT hav => ?_)
  have hr_c : -2147483648 ≤ c ∧ c ≤ 2147483647 := hav (vI c) (List.mem_cons_of_mem _ List.mem_cons_self)
  have hr_cl : -2147483648 ≤ cl ∧ cl ≤ 2147483647 := hav (vI cl) (List.mem_cons_of_mem _ (List.mem_cons_of_mem _ List.mem_cons_self))
  have hz : zX11_othersOf.2.2.2.1 = some .boolean → ∀ (T' : Zt) (x : Int), po_X11_othersOf T c cl T' (some (vI x)) → 0 ≤ x ∧ x ≤ 1 := fun h => by cases h
  show J_ zX11_othersOf T (po_X11_othersOf T c cl) 0 0 0 [some (vR 111 0), some (vI c), some (vI cl), none, none] [] T
  have c_5 : ∀ (nn : Nat) (u : Int) (i : Int), ((12 - i).toNat) ≤ nn → (0 ≤ i ∧ 0 ≤ u ∧ u ≤ 4095) → J_ zX11_othersOf T (po_X11_othersOf T c cl) 0 0 5 [some (vR 111 0), some (vI c), some (vI cl), some (vI u), some (vI i)] [] T := by
    intro nn
    induction nn using Nat.strongRecOn with
    | _ nn ih_5 =>
      intro u i hm_5 i1
      replace hm_5 := fun (_ : Unit) => hm_5
      refine j_blx (F := fX11) tb_X11 (nn_ _) bk_X11_othersOf_5 bs_X11_othersOf_5 hz (fun K hK => ?_)
      refine ix_i (by omega) ?_
      intro b1 b1b
      refine And.intro (fun c2 => ?_) (fun c2 => ?_)
      · refine hK 59 _ [] T ?_
        refine j_blx (F := fX11) tb_X11 (nn_ _) bk_X11_othersOf_59 bs_X11_othersOf_59 hz (fun K hK => ?_)
        refine (show po_X11_othersOf T c cl T (some (vI u)) from ?_)
        exact ⟨rfl, _, rfl, by omega⟩
      · refine rg_i (by omega) ?_
        refine rg_i (by omega) ?_
        refine ix_i (by omega) ?_
        intro b3 b3b
        refine And.intro (fun c4 => ?_) (fun c4 => ?_)
        · refine hK 36 _ [] T ?_
          refine j_blx (F := fX11) tb_X11 (nn_ _) bk_X11_othersOf_36 bs_X11_othersOf_36 hz (fun K hK => ?_)
          refine rg_i (by omega) ?_
          refine rg_i (by omega) ?_
          refine ix_i (by omega) ?_
          intro b5 b5b
          intro w6 w6b
          intro w7 w7b
          have ob8 : 0 ≤ or_ u (sl_ 1 (T 207 0 ((12 * c) + i))) ∧ or_ u (sl_ 1 (T 207 0 ((12 * c) + i))) ≤ 4095 := or_b (by omega) (sl_b (by omega))
          refine rg_i (by omega) ?_
          refine hK 5 [some (vR 111 0), some (vI c), some (vI cl), some (vI (or_ u (sl_ 1 (T 207 0 ((12 * c) + i))))), some (vI (i + 1))] [] T ?_
          refine ih_5 _ ?_ (or_ u (sl_ 1 (T 207 0 ((12 * c) + i)))) (i + 1) (Nat.le_refl _) ?_
          · have hm_5 := hm_5 (); omega
          · omega
        · refine hK 52 [some (vR 111 0), some (vI c), some (vI cl), some (vI u), some (vI i)] [vI u] T ?_
          refine j_blx (F := fX11) tb_X11 (nn_ _) bk_X11_othersOf_52 bs_X11_othersOf_52 hz (fun K hK => ?_)
          refine rg_i (by omega) ?_
          refine hK 5 [some (vR 111 0), some (vI c), some (vI cl), some (vI u), some (vI (i + 1))] [] T ?_
          refine ih_5 _ ?_ u (i + 1) (Nat.le_refl _) ?_
          · have hm_5 := hm_5 (); omega
          · omega
  refine j_blx (F := fX11) tb_X11 (nn_ _) bk_X11_othersOf_0 bs_X11_othersOf_0 hz (fun K hK => ?_)
  refine hK 5 [some (vR 111 0), some (vI c), some (vI cl), some (vI 0), some (vI 0)] [] T ?_
  refine c_5 _ 0 0 (Nat.le_refl _) ?_
  · omega
def BB_ (T : Zt) (b : Int) : Prop := ∀ k, 0 ≤ k → k < 144 → 0 ≤ T 294 0 k ∧ T 294 0 k ≤ b
theorem bb_u {T T1 : Zt} {b i v : Int} (h : BB_ T b) (e : T1 = up_ T 294 0 i v) (hv : 0 ≤ v ∧ v ≤ b + 1) : BB_ T1 (b + 1) := fun j a c => by
  by_cases z : j = i
  · rw [z, up_f e]; exact hv
  · rw [up_g e (fun q => z q.2.2)]
    have := h j a c
    omega
theorem bb_m {T : Zt} {b d : Int} (h : BB_ T b) (e : b ≤ d) : BB_ T d := fun j a c => by
  have := h j a c
  omega
abbrev cX11_layBetween : ByteArray := prog_13_method_100_code
def yX11_layBetween : MethodName := ⟨RX11, "layBetween", "(II)V"⟩
def zX11_layBetween : Zm := (RX11, cX11_layBetween, 4, none, { frames := 1, cells := 0, slots := 0, locals := 21 })
theorem bk_X11_layBetween_29 : ck_ fX11 none cX11_layBetween 29 [.iload 3, .aload 0, .tableswitch 0 11 10 #[], .iload 1, .iaload, .aload 0, .tableswitch 0 11 11 #[], .iload 1, .iaload, .iadd, .if_icmp .ge 130, .aload 0, .iload 3] 48 = true := qck_r (nn_ _) (by decide +kernel)
theorem bs_X11_layBetween_29 {P : Zt → Option Zv → Prop} (K : Int → Zl → List Zv → Zt → Prop) : sx_ K P [.iload 3, .aload 0, .tableswitch 0 11 10 #[], .iload 1, .iaload, .aload 0, .tableswitch 0 11 11 #[], .iload 1, .iaload, .iadd, .if_icmp .ge 130, .aload 0, .iload 3] 48 = x_iload 3 (x_aload 0 (x_g1 111 210 (x_iload 1 (x_iaload (x_aload 0 (x_g1 111 211 (x_iload 1 (x_iaload (x_iadd (x_if_icmp .ge 130 K (x_aload 0 (x_iload 3 (K 48))))))))))))) := ((xe_iload 3).trans (congrArg (x_iload 3) ((xe_aload 0).trans (congrArg (x_aload 0) ((xe_g1 (kk := 111) rfl tl_11_10).trans (congrArg (x_g1 111 210) ((xe_iload 1).trans (congrArg (x_iload 1) ((xe_iaload).trans (congrArg (x_iaload) ((xe_aload 0).trans (congrArg (x_aload 0) ((xe_g1 (kk := 111) rfl tl_11_11).trans (congrArg (x_g1 111 211) ((xe_iload 1).trans (congrArg (x_iload 1) ((xe_iaload).trans (congrArg (x_iaload) ((xe_iadd).trans (congrArg (x_iadd) ((xe_if_icmp .ge 130).trans (congrArg (x_if_icmp .ge 130 K) ((xe_aload 0).trans (congrArg (x_aload 0) ((xe_iload 3).trans (congrArg (x_iload 3) xe_nil))))))))))))))))))))))))))
theorem bk_X11_layBetween_130 : ck_ fX11 none cX11_layBetween 130 [.return_] 131 = true := qck_r (nn_ _) (by decide +kernel)
theorem bs_X11_layBetween_130 {P : Zt → Option Zv → Prop} (K : Int → Zl → List Zv → Zt → Prop) : sx_ K P [.return_] 131 = x_return_ P := (xe_return_)
theorem bk_X11_layBetween_51 : ck_ fX11 none cX11_layBetween 51 [.ifCond .eq 124, .aload 0, .tableswitch 0 11 32 #[], .iload 3, .iaload, .iload 2, .if_icmp .eq 124, .aload 0, .tableswitch 0 11 33 #[], .iload 3, .iaload, .iload 2, .if_icmp .eq 124, .aload 0, .tableswitch 0 11 94 #[], .iconst 12, .aload 0, .tableswitch 0 11 32 #[], .iload 3, .iaload, .imul, .aload 0, .tableswitch 0 11 33 #[], .iload 3, .iaload, .iadd, .dup2, .iaload, .iconst 1, .iadd, .iastore, .aload 0, .tableswitch 0 11 94 #[], .iconst 12, .aload 0, .tableswitch 0 11 33 #[], .iload 3, .iaload, .imul, .aload 0, .tableswitch 0 11 32 #[], .iload 3, .iaload, .iadd, .dup2, .iaload, .iconst 1, .iadd, .iastore, .iinc 3 1, .goto 29] 130 = true := qck_r (nn_ _) (by decide +kernel)
theorem bs_X11_layBetween_51 {P : Zt → Option Zv → Prop} (K : Int → Zl → List Zv → Zt → Prop) : sx_ K P [.ifCond .eq 124, .aload 0, .tableswitch 0 11 32 #[], .iload 3, .iaload, .iload 2, .if_icmp .eq 124, .aload 0, .tableswitch 0 11 33 #[], .iload 3, .iaload, .iload 2, .if_icmp .eq 124, .aload 0, .tableswitch 0 11 94 #[], .iconst 12, .aload 0, .tableswitch 0 11 32 #[], .iload 3, .iaload, .imul, .aload 0, .tableswitch 0 11 33 #[], .iload 3, .iaload, .iadd, .dup2, .iaload, .iconst 1, .iadd, .iastore, .aload 0, .tableswitch 0 11 94 #[], .iconst 12, .aload 0, .tableswitch 0 11 33 #[], .iload 3, .iaload, .imul, .aload 0, .tableswitch 0 11 32 #[], .iload 3, .iaload, .iadd, .dup2, .iaload, .iconst 1, .iadd, .iastore, .iinc 3 1, .goto 29] 130 = x_ifCond .eq 124 K (x_aload 0 (x_g1 111 232 (x_iload 3 (x_iaload (x_iload 2 (x_if_icmp .eq 124 K (x_aload 0 (x_g1 111 233 (x_iload 3 (x_iaload (x_iload 2 (x_if_icmp .eq 124 K (x_aload 0 (x_g1 111 294 (x_iconst 12 (x_aload 0 (x_g1 111 232 (x_iload 3 (x_iaload (x_imul (x_aload 0 (x_g1 111 233 (x_iload 3 (x_iaload (x_iadd (x_dup2 (x_iaload (x_iconst 1 (x_iadd (x_iastore (x_aload 0 (x_g1 111 294 (x_iconst 12 (x_aload 0 (x_g1 111 233 (x_iload 3 (x_iaload (x_imul (x_aload 0 (x_g1 111 232 (x_iload 3 (x_iaload (x_iadd (x_dup2 (x_iaload (x_iconst 1 (x_iadd (x_iastore (x_iinc 3 1 (x_goto 29 K)))))))))))))))))))))))))))))))))))))))))))))))))) := ((xe_ifCond .eq 124).trans (congrArg (x_ifCond .eq 124 K) ((xe_aload 0).trans (congrArg (x_aload 0) ((xe_g1 (kk := 111) rfl tl_11_32).trans (congrArg (x_g1 111 232) ((xe_iload 3).trans (congrArg (x_iload 3) ((xe_iaload).trans (congrArg (x_iaload) ((xe_iload 2).trans (congrArg (x_iload 2) ((xe_if_icmp .eq 124).trans (congrArg (x_if_icmp .eq 124 K) ((xe_aload 0).trans (congrArg (x_aload 0) ((xe_g1 (kk := 111) rfl tl_11_33).trans (congrArg (x_g1 111 233) ((xe_iload 3).trans (congrArg (x_iload 3) ((xe_iaload).trans (congrArg (x_iaload) ((xe_iload 2).trans (congrArg (x_iload 2) ((xe_if_icmp .eq 124).trans (congrArg (x_if_icmp .eq 124 K) ((xe_aload 0).trans (congrArg (x_aload 0) ((xe_g1 (kk := 111) rfl tl_11_94).trans (congrArg (x_g1 111 294) ((xe_iconst 12).trans (congrArg (x_iconst 12) ((xe_aload 0).trans (congrArg (x_aload 0) ((xe_g1 (kk := 111) rfl tl_11_32).trans (congrArg (x_g1 111 232) ((xe_iload 3).trans (congrArg (x_iload 3) ((xe_iaload).trans (congrArg (x_iaload) ((xe_imul).trans (congrArg (x_imul) ((xe_aload 0).trans (congrArg (x_aload 0) ((xe_g1 (kk := 111) rfl tl_11_33).trans (congrArg (x_g1 111 233) ((xe_iload 3).trans (congrArg (x_iload 3) ((xe_iaload).trans (congrArg (x_iaload) ((xe_iadd).trans (congrArg (x_iadd) ((xe_dup2).trans (congrArg (x_dup2) ((xe_iaload).trans (congrArg (x_iaload) ((xe_iconst 1).trans (congrArg (x_iconst 1) ((xe_iadd).trans (congrArg (x_iadd) ((xe_iastore).trans (congrArg (x_iastore) ((xe_aload 0).trans (congrArg (x_aload 0) ((xe_g1 (kk := 111) rfl tl_11_94).trans (congrArg (x_g1 111 294) ((xe_iconst 12).trans (congrArg (x_iconst 12) ((xe_aload 0).trans (congrArg (x_aload 0) ((xe_g1 (kk := 111) rfl tl_11_33).trans (congrArg (x_g1 111 233) ((xe_iload 3).trans (congrArg (x_iload 3) ((xe_iaload).trans (congrArg (x_iaload) ((xe_imul).trans (congrArg (x_imul) ((xe_aload 0).trans (congrArg (x_aload 0) ((xe_g1 (kk := 111) rfl tl_11_32).trans (congrArg (x_g1 111 232) ((xe_iload 3).trans (congrArg (x_iload 3) ((xe_iaload).trans (congrArg (x_iaload) ((xe_iadd).trans (congrArg (x_iadd) ((xe_dup2).trans (congrArg (x_dup2) ((xe_iaload).trans (congrArg (x_iaload) ((xe_iconst 1).trans (congrArg (x_iconst 1) ((xe_iadd).trans (congrArg (x_iadd) ((xe_iastore).trans (congrArg (x_iastore) ((xe_iinc 3 1).trans (congrArg (x_iinc 3 1) (xe_goto 29)))))))))))))))))))))))))))))))))))))))))))))))))))))))))))))))))))))))))))))))))))))))))))))))))))))
theorem bk_X11_layBetween_124 : ck_ fX11 none cX11_layBetween 124 [.iinc 3 1, .goto 29] 130 = true := qck_r (nn_ _) (by decide +kernel)
theorem bs_X11_layBetween_124 {P : Zt → Option Zv → Prop} (K : Int → Zl → List Zv → Zt → Prop) : sx_ K P [.iinc 3 1, .goto 29] 130 = x_iinc 3 1 (x_goto 29 K) := ((xe_iinc 3 1).trans (congrArg (x_iinc 3 1) (xe_goto 29)))
theorem bk_X11_layBetween_2 : ck_ fX11 none cX11_layBetween 2 [.iload 3, .iconst 144, .if_icmp .ge 22, .aload 0, .tableswitch 0 11 94 #[], .iload 3, .iconst 0, .iastore, .iinc 3 1, .goto 2] 22 = true := qck_r (nn_ _) (by decide +kernel)
theorem bs_X11_layBetween_2 {P : Zt → Option Zv → Prop} (K : Int → Zl → List Zv → Zt → Prop) : sx_ K P [.iload 3, .iconst 144, .if_icmp .ge 22, .aload 0, .tableswitch 0 11 94 #[], .iload 3, .iconst 0, .iastore, .iinc 3 1, .goto 2] 22 = x_iload 3 (x_iconst 144 (x_if_icmp .ge 22 K (x_aload 0 (x_g1 111 294 (x_iload 3 (x_iconst 0 (x_iastore (x_iinc 3 1 (x_goto 2 K))))))))) := ((xe_iload 3).trans (congrArg (x_iload 3) ((xe_iconst 144).trans (congrArg (x_iconst 144) ((xe_if_icmp .ge 22).trans (congrArg (x_if_icmp .ge 22 K) ((xe_aload 0).trans (congrArg (x_aload 0) ((xe_g1 (kk := 111) rfl tl_11_94).trans (congrArg (x_g1 111 294) ((xe_iload 3).trans (congrArg (x_iload 3) ((xe_iconst 0).trans (congrArg (x_iconst 0) ((xe_iastore).trans (congrArg (x_iastore) ((xe_iinc 3 1).trans (congrArg (x_iinc 3 1) (xe_goto 2)))))))))))))))))))
theorem bk_X11_layBetween_22 : ck_ fX11 none cX11_layBetween 22 [.aload 0, .tableswitch 0 11 10 #[], .iload 1, .iaload, .istore 3] 29 = true := qck_r (nn_ _) (by decide +kernel)
theorem bs_X11_layBetween_22 {P : Zt → Option Zv → Prop} (K : Int → Zl → List Zv → Zt → Prop) : sx_ K P [.aload 0, .tableswitch 0 11 10 #[], .iload 1, .iaload, .istore 3] 29 = x_aload 0 (x_g1 111 210 (x_iload 1 (x_iaload (x_istore 3 (K 29))))) := ((xe_aload 0).trans (congrArg (x_aload 0) ((xe_g1 (kk := 111) rfl tl_11_10).trans (congrArg (x_g1 111 210) ((xe_iload 1).trans (congrArg (x_iload 1) ((xe_iaload).trans (congrArg (x_iaload) ((xe_istore 3).trans (congrArg (x_istore 3) xe_nil))))))))))
theorem bk_X11_layBetween_0 : ck_ fX11 none cX11_layBetween 0 [.iconst 0, .istore 3] 2 = true := qck_r (nn_ _) (by decide +kernel)
theorem bs_X11_layBetween_0 {P : Zt → Option Zv → Prop} (K : Int → Zl → List Zv → Zt → Prop) : sx_ K P [.iconst 0, .istore 3] 2 = x_iconst 0 (x_istore 3 (K 2)) := ((xe_iconst 0).trans (congrArg (x_iconst 0) ((xe_istore 3).trans (congrArg (x_istore 3) xe_nil))))
abbrev po_X11_layBetween (T : Zt) (c cl : Int) : Zt → Option Zv → Prop := fun T' r => r = none ∧ fr_ [(294, [])] T T' ∧ (BW_ T' (plf_ T cl (T 211 0 c).toNat (T 210 0 c)))
set_option maxHeartbeats 4000000 in
theorem ct_X11_layBetween {T : Zt} {c cl : Int} (h1 : 0 ≤ c ∧ c < 4) (hml : ML_ T) : Ct_ yX11_layBetween zX11_layBetween T [vR 111 0, vI c, vI cl] (po_X11_layBetween T c cl) := by
  refine ct_of pn_11 rfl rfl (Nat.le_of_ble_eq_true rfl) (fun hT hav => ?_)
  have hr_c : -2147483648 ≤ c ∧ c ≤ 2147483647 := hav (vI c) (List.mem_cons_of_mem _ List.mem_cons_self)
  have hr_cl : -2147483648 ≤ cl ∧ cl ≤ 2147483647 := hav (vI cl) (List.mem_cons_of_mem _ (List.mem_cons_of_mem _ List.mem_cons_self))
  have hz : zX11_layBetween.2.2.2.1 = some .boolean → ∀ (T' : Zt) (x : Int), po_X11_layBetween T c cl T' (some (vI x)) → 0 ≤ x ∧ x ≤ 1 := fun h => by cases h
  have hmc := hml c (by omega) (by omega)
  have hb_29 : 0 ≤ T 111 0 29 ∧ T 111 0 29 ≤ 400 := bd_f hT 111 29 tl_11_29 0
  have hfo : 0 ≤ T 210 0 c ∧ T 210 0 c ≤ 400 := bd_a hT 210 (by decide +kernel : ta_ 210 = some (1, some 4, 0, 400)) 0 (by omega)
  have hmo : 0 ≤ T 211 0 c ∧ T 211 0 c ≤ 400 := bd_a hT 211 (by decide +kernel : ta_ 211 = some (1, some 4, 0, 400)) 0 (by omega)
  show J_ zX11_layBetween T (po_X11_layBetween T c cl) 0 0 0 [some (vR 111 0), some (vI c), some (vI cl), none] [] T
  have c_29 : ∀ (nn : Nat) (m : Int) (T2 : Zt), ((400 - m).toNat) ≤ nn → (fr_ [(294, [])] T T2) → (T 210 0 c ≤ m ∧ m ≤ T 210 0 c + T 211 0 c) → (BW_ T2 (plf_ T cl (m - T 210 0 c).toNat (T 210 0 c))) → (BB_ T2 (2 * (m - T 210 0 c))) → J_ zX11_layBetween T (po_X11_layBetween T c cl) 0 0 29 [some (vR 111 0), some (vI c), some (vI cl), some (vI m)] [] T2 := by
    intro nn
    induction nn using Nat.strongRecOn with
    | _ nn ih_29 =>
      intro m T2 hm_29 hf_29 i2 bw2 bb2
      replace hm_29 := fun (_ : Unit) => hm_29
      have hmw := hf_29 235 0 m rfl
      refine j_blx (F := fX11) tb_X11 (nn_ _) bk_X11_layBetween_29 bs_X11_layBetween_29 hz (fun K hK => ?_)
      refine ix_i (by omega) ?_
      intro b1 b1b
      have e2 : T2 210 0 c = T 210 0 c := hf_29 210 0 c rfl
      rw [e2] at b1 b1b ⊢
      refine ix_i (by omega) ?_
      intro b3 b3b
      have e4 : T2 211 0 c = T 211 0 c := hf_29 211 0 c rfl
      rw [e4] at b3 b3b ⊢
      refine rg_i (by omega) ?_
      refine And.intro (fun c5 => ?_) (fun c5 => ?_)
      · refine hK 130 _ [] T2 ?_
        refine j_blx (F := fX11) tb_X11 (nn_ _) bk_X11_layBetween_130 bs_X11_layBetween_130 hz (fun K hK => ?_)
        refine (show po_X11_layBetween T c cl T2 (none) from ?_)
        refine ⟨rfl, fr_t (fr_0 _ _) (fr_s hf_29 rfl), ?_⟩
        rw [show m - T 210 0 c = T 211 0 c by omega] at bw2
        exact bw2
      · refine hK 48 _ [vI m, vR 111 0] T2 ?_
        refine j_callV (y := yX11_isLeft) (Yc := zX11_isLeft) (rest := []) [vI m] (ct_X11_isLeft (T := T2) (by omega)) cl_X11_538 (qd_c (by decide +kernel)) (nn_ _) rfl (rf_of rfl) (Nat.le_of_ble_eq_true rfl) (Nat.le_of_ble_eq_true rfl) (Nat.le_of_ble_eq_true rfl) rfl ?_
        rintro _ _ ⟨rfl, x6, rfl, hx6⟩
        show J_ zX11_layBetween T (po_X11_layBetween T c cl) 0 0 51 _ [vI x6] T2
        refine j_blx (F := fX11) tb_X11 (nn_ _) bk_X11_layBetween_51 bs_X11_layBetween_51 hz (fun K hK => ?_)
        refine And.intro (fun c7 => ?_) (fun c7 => ?_)
        · replace hx6 := hx6.resolve_left (fun z => absurd (c7.symm.trans z.1) (by decide))
          clear c7
          refine hK 124 _ [] T2 ?_
          refine j_blx (F := fX11) tb_X11 (nn_ _) bk_X11_layBetween_124 bs_X11_layBetween_124 hz (fun K hK => ?_)
          refine rg_i (by omega) ?_
          refine hK 29 [some (vR 111 0), some (vI c), some (vI cl), some (vI (m + 1))] [] T2 ?_
          refine ih_29 _ ?_ (m + 1) T2 (Nat.le_refl _) ?_ ?_ ?_ ?_
          · have hm_29 := hm_29 (); omega
          · exact fr_t (fr_0 _ _) (fr_s hf_29 rfl)
          · omega
          · rw [show (m + 1 - T 210 0 c).toNat = (m - T 210 0 c).toNat + 1 by omega, plf_s, show T 210 0 c + ((m - T 210 0 c).toNat : Int) = m by omega, if_neg (by omega), List.append_nil]
            exact bw2
          · exact bb_m (bb2) (by omega)
        · replace hx6 := hx6.resolve_right (fun z => c7 z.1)
          clear c7
          refine ix_i (by omega) ?_
          intro b8 b8b
          have e9 : T2 232 0 m = T 232 0 m := hf_29 232 0 m rfl
          rw [e9] at b8 b8b ⊢
          refine And.intro (fun c10 => ?_) (fun c10 => ?_)
          · refine hK 124 [some (vR 111 0), some (vI c), some (vI cl), some (vI m)] [] T2 ?_
            refine j_blx (F := fX11) tb_X11 (nn_ _) bk_X11_layBetween_124 bs_X11_layBetween_124 hz (fun K hK => ?_)
            refine rg_i (by omega) ?_
            refine hK 29 [some (vR 111 0), some (vI c), some (vI cl), some (vI (m + 1))] [] T2 ?_
            refine ih_29 _ ?_ (m + 1) T2 (Nat.le_refl _) ?_ ?_ ?_ ?_
            · have hm_29 := hm_29 (); omega
            · exact fr_t (fr_0 _ _) (fr_s hf_29 rfl)
            · omega
            · rw [show (m + 1 - T 210 0 c).toNat = (m - T 210 0 c).toNat + 1 by omega, plf_s, show T 210 0 c + ((m - T 210 0 c).toNat : Int) = m by omega, if_neg (by omega), List.append_nil]
              exact bw2
            · exact bb_m (bb2) (by omega)
          · refine ix_i (by omega) ?_
            intro b11 b11b
            have e12 : T2 233 0 m = T 233 0 m := hf_29 233 0 m rfl
            rw [e12] at b11 b11b ⊢
            refine And.intro (fun c13 => ?_) (fun c13 => ?_)
            · refine hK 124 [some (vR 111 0), some (vI c), some (vI cl), some (vI m)] [] T2 ?_
              refine j_blx (F := fX11) tb_X11 (nn_ _) bk_X11_layBetween_124 bs_X11_layBetween_124 hz (fun K hK => ?_)
              refine rg_i (by omega) ?_
              refine hK 29 [some (vR 111 0), some (vI c), some (vI cl), some (vI (m + 1))] [] T2 ?_
              refine ih_29 _ ?_ (m + 1) T2 (Nat.le_refl _) ?_ ?_ ?_ ?_
              · have hm_29 := hm_29 (); omega
              · exact fr_t (fr_0 _ _) (fr_s hf_29 rfl)
              · omega
              · rw [show (m + 1 - T 210 0 c).toNat = (m - T 210 0 c).toNat + 1 by omega, plf_s, show T 210 0 c + ((m - T 210 0 c).toNat : Int) = m by omega, if_neg (by omega), List.append_nil]
                exact bw2
              · exact bb_m (bb2) (by omega)
            · refine ix_i (by omega) ?_
              intro b14 b14b
              have e15 : T2 232 0 m = T 232 0 m := hf_29 232 0 m rfl
              rw [e15] at b14 b14b ⊢
              refine rg_i (by omega) ?_
              refine ix_i (by omega) ?_
              intro b16 b16b
              have e17 : T2 233 0 m = T 233 0 m := hf_29 233 0 m rfl
              rw [e17] at b16 b16b ⊢
              refine rg_i (by omega) ?_
              refine ix_i (by omega) ?_
              intro b18 b18b
              have t19 : 0 ≤ T2 294 0 ((12 * (T 232 0 m)) + (T 233 0 m)) ∧ T2 294 0 ((12 * (T 232 0 m)) + (T 233 0 m)) ≤ 2 * (m - T 210 0 c) := (bb2) ((12 * (T 232 0 m)) + (T 233 0 m)) (by omega) (by omega)
              refine rg_i (by omega) ?_
              refine iy_i (by omega) (by omega) ?_
              refine x_nm (fun U20 hU20 => ?_)
              have e21 := up_f hU20
              refine ix_i (by omega) ?_
              intro b22 b22b
              have e23 : U20 233 0 m = T 233 0 m := (up_k hU20 (by exact Nat.ne_of_beq_eq_false rfl) 0 m).trans (hf_29 233 0 m rfl)
              rw [e23] at b22 b22b ⊢
              refine rg_i (by omega) ?_
              refine ix_i (by omega) ?_
              intro b24 b24b
              have e25 : U20 232 0 m = T 232 0 m := (up_k hU20 (by exact Nat.ne_of_beq_eq_false rfl) 0 m).trans (hf_29 232 0 m rfl)
              rw [e25] at b24 b24b ⊢
              refine rg_i (by omega) ?_
              refine ix_i (by omega) ?_
              intro b26 b26b
              have t27 : 0 ≤ U20 294 0 ((12 * (T 233 0 m)) + (T 232 0 m)) ∧ U20 294 0 ((12 * (T 233 0 m)) + (T 232 0 m)) ≤ 2 * (m - T 210 0 c) + 1 := (bb_u (bb2) hU20 (by omega)) ((12 * (T 233 0 m)) + (T 232 0 m)) (by omega) (by omega)
              refine rg_i (by omega) ?_
              refine iy_i (by omega) (by omega) ?_
              refine x_nm (fun U28 hU28 => ?_)
              have e29 := up_f hU28
              refine rg_i (by omega) ?_
              refine hK 29 _ [] U28 ?_
              refine ih_29 _ ?_ (m + 1) U28 (Nat.le_refl _) ?_ ?_ ?_ ?_
              · have hm_29 := hm_29 (); omega
              · exact fr_u (fr_u (fr_t (fr_0 _ _) (fr_s hf_29 rfl)) hU20 rfl) hU28 rfl
              · omega
              · rw [show (m + 1 - T 210 0 c).toNat = (m - T 210 0 c).toNat + 1 by omega, plf_s, show T 210 0 c + ((m - T 210 0 c).toNat : Int) = m by omega]
                by_cases z : T 232 0 m = T 233 0 m
                · rw [if_neg (fun q => q.2.2.2 z), List.append_nil]
                  exact bw_d bw2 (by omega) hU20 hU28 z
                · rw [if_pos ⟨by omega, by omega, by omega, z⟩]
                  exact bw_s bw2 (by omega) (by omega) hU20 hU28 z
              · exact bb_m (bb_u (bb_u (bb2) hU20 (by omega)) hU28 (by omega)) (by omega)
  have c_2 : ∀ (nn : Nat) (i : Int) (T1 : Zt), ((144 - i).toNat) ≤ nn → (fr_ [(294, [])] T T1) → (0 ≤ i ∧ i ≤ 144) → (∀ j, 0 ≤ j → j < i → T1 294 0 j = 0) → J_ zX11_layBetween T (po_X11_layBetween T c cl) 0 0 2 [some (vR 111 0), some (vI c), some (vI cl), some (vI i)] [] T1 := by
    intro nn
    induction nn using Nat.strongRecOn with
    | _ nn ih_2 =>
      intro i T1 hm_2 hf_2 i1 z1
      replace hm_2 := fun (_ : Unit) => hm_2
      refine j_blx (F := fX11) tb_X11 (nn_ _) bk_X11_layBetween_2 bs_X11_layBetween_2 hz (fun K hK => ?_)
      refine And.intro (fun c30 => ?_) (fun c30 => ?_)
      · refine hK 22 _ [] T1 ?_
        refine j_blx (F := fX11) tb_X11 (nn_ _) bk_X11_layBetween_22 bs_X11_layBetween_22 hz (fun K hK => ?_)
        refine ix_i (by omega) ?_
        intro b31 b31b
        have e32 : T1 210 0 c = T 210 0 c := hf_2 210 0 c rfl
        rw [e32] at b31 b31b ⊢
        refine hK 29 [some (vR 111 0), some (vI c), some (vI cl), some (vI (T 210 0 c))] [] T1 ?_
        refine c_29 _ (T 210 0 c) T1 (Nat.le_refl _) ?_ ?_ ?_ ?_
        · exact fr_t (fr_0 _ _) (fr_s hf_2 rfl)
        · omega
        · rw [show (T 210 0 c - T 210 0 c).toNat = 0 by omega]
          exact fun x y a b c d _ => z1 _ (by omega) (by omega)
        · exact fun j a b => by have := z1 j a (by omega); omega
      · refine iy_i (by omega) (by omega) ?_
        refine x_nm (fun U33 hU33 => ?_)
        have e34 := up_f hU33
        refine rg_i (by omega) ?_
        refine hK 2 [some (vR 111 0), some (vI c), some (vI cl), some (vI (i + 1))] [] U33 ?_
        refine ih_2 _ ?_ (i + 1) U33 (Nat.le_refl _) ?_ ?_ ?_
        · have hm_2 := hm_2 (); omega
        · exact fr_u (fr_t (fr_0 _ _) (fr_s hf_2 rfl)) hU33 rfl
        · omega
        · intro j a b
          by_cases z : j = i
          · rw [z]; exact up_f hU33
          · rw [up_g hU33 (fun q => z q.2.2)]; exact z1 j a (by omega)
  refine j_blx (F := fX11) tb_X11 (nn_ _) bk_X11_layBetween_0 bs_X11_layBetween_0 hz (fun K hK => ?_)
  refine hK 2 [some (vR 111 0), some (vI c), some (vI cl), some (vI 0)] [] T ?_
  refine c_2 _ 0 T (Nat.le_refl _) ?_ ?_ ?_
  · exact fr_0 _ _
  · omega
  · intro j a b; omega
abbrev cX11_laySlack : ByteArray := prog_13_method_101_code
def yX11_laySlack : MethodName := ⟨RX11, "laySlack", "(I)I"⟩
def zX11_laySlack : Zm := (RX11, cX11_laySlack, 7, (some .int), { frames := 0, cells := 0, slots := 0, locals := 0 })
theorem bk_X11_laySlack_76 : ck_ fX11 (some .int) cX11_laySlack 76 [.iload 6, .iconst 12, .if_icmp .ge 123, .iload 5, .iload 3, .iload 6, .ishr, .iconst 1, .iand, .iconst 1, .if_icmp .ne 113, .iconst 2, .aload 0, .tableswitch 0 11 94 #[], .iconst 12, .iload 4, .imul, .iload 6, .iadd, .iaload, .imul, .goto 114] 113 = true := qck_r (nn_ _) (by decide +kernel)
theorem bs_X11_laySlack_76 {P : Zt → Option Zv → Prop} (K : Int → Zl → List Zv → Zt → Prop) : sx_ K P [.iload 6, .iconst 12, .if_icmp .ge 123, .iload 5, .iload 3, .iload 6, .ishr, .iconst 1, .iand, .iconst 1, .if_icmp .ne 113, .iconst 2, .aload 0, .tableswitch 0 11 94 #[], .iconst 12, .iload 4, .imul, .iload 6, .iadd, .iaload, .imul, .goto 114] 113 = x_iload 6 (x_iconst 12 (x_if_icmp .ge 123 K (x_iload 5 (x_iload 3 (x_iload 6 (x_ishr (x_iconst 1 (x_iand (x_iconst 1 (x_if_icmp .ne 113 K (x_iconst 2 (x_aload 0 (x_g1 111 294 (x_iconst 12 (x_iload 4 (x_imul (x_iload 6 (x_iadd (x_iaload (x_imul (x_goto 114 K))))))))))))))))))))) := ((xe_iload 6).trans (congrArg (x_iload 6) ((xe_iconst 12).trans (congrArg (x_iconst 12) ((xe_if_icmp .ge 123).trans (congrArg (x_if_icmp .ge 123 K) ((xe_iload 5).trans (congrArg (x_iload 5) ((xe_iload 3).trans (congrArg (x_iload 3) ((xe_iload 6).trans (congrArg (x_iload 6) ((xe_ishr).trans (congrArg (x_ishr) ((xe_iconst 1).trans (congrArg (x_iconst 1) ((xe_iand).trans (congrArg (x_iand) ((xe_iconst 1).trans (congrArg (x_iconst 1) ((xe_if_icmp .ne 113).trans (congrArg (x_if_icmp .ne 113 K) ((xe_iconst 2).trans (congrArg (x_iconst 2) ((xe_aload 0).trans (congrArg (x_aload 0) ((xe_g1 (kk := 111) rfl tl_11_94).trans (congrArg (x_g1 111 294) ((xe_iconst 12).trans (congrArg (x_iconst 12) ((xe_iload 4).trans (congrArg (x_iload 4) ((xe_imul).trans (congrArg (x_imul) ((xe_iload 6).trans (congrArg (x_iload 6) ((xe_iadd).trans (congrArg (x_iadd) ((xe_iaload).trans (congrArg (x_iaload) ((xe_imul).trans (congrArg (x_imul) (xe_goto 114)))))))))))))))))))))))))))))))))))))))))))
theorem bk_X11_laySlack_123 : ck_ fX11 (some .int) cX11_laySlack 123 [.aload 0, .tableswitch 0 11 96 #[], .iload 3, .iload 5, .iastore, .iload 2, .ifCond .ne 144, .iload 5, .ifCond .ge 144, .iload 3, .goto 145] 144 = true := qck_r (nn_ _) (by decide +kernel)
theorem bs_X11_laySlack_123 {P : Zt → Option Zv → Prop} (K : Int → Zl → List Zv → Zt → Prop) : sx_ K P [.aload 0, .tableswitch 0 11 96 #[], .iload 3, .iload 5, .iastore, .iload 2, .ifCond .ne 144, .iload 5, .ifCond .ge 144, .iload 3, .goto 145] 144 = x_aload 0 (x_g1 111 296 (x_iload 3 (x_iload 5 (x_iastore (x_iload 2 (x_ifCond .ne 144 K (x_iload 5 (x_ifCond .ge 144 K (x_iload 3 (x_goto 145 K)))))))))) := ((xe_aload 0).trans (congrArg (x_aload 0) ((xe_g1 (kk := 111) rfl tl_11_96).trans (congrArg (x_g1 111 296) ((xe_iload 3).trans (congrArg (x_iload 3) ((xe_iload 5).trans (congrArg (x_iload 5) ((xe_iastore).trans (congrArg (x_iastore) ((xe_iload 2).trans (congrArg (x_iload 2) ((xe_ifCond .ne 144).trans (congrArg (x_ifCond .ne 144 K) ((xe_iload 5).trans (congrArg (x_iload 5) ((xe_ifCond .ge 144).trans (congrArg (x_ifCond .ge 144 K) ((xe_iload 3).trans (congrArg (x_iload 3) (xe_goto 145)))))))))))))))))))))
theorem bk_X11_laySlack_144 : ck_ fX11 (some .int) cX11_laySlack 144 [.iload 2, .istore 2, .iinc 3 1, .goto 11] 152 = true := qck_r (nn_ _) (by decide +kernel)
theorem bs_X11_laySlack_144 {P : Zt → Option Zv → Prop} (K : Int → Zl → List Zv → Zt → Prop) : sx_ K P [.iload 2, .istore 2, .iinc 3 1, .goto 11] 152 = x_iload 2 (x_istore 2 (x_iinc 3 1 (x_goto 11 K))) := ((xe_iload 2).trans (congrArg (x_iload 2) ((xe_istore 2).trans (congrArg (x_istore 2) ((xe_iinc 3 1).trans (congrArg (x_iinc 3 1) (xe_goto 11)))))))
theorem bk_X11_laySlack_145 : ck_ fX11 (some .int) cX11_laySlack 145 [.istore 2, .iinc 3 1, .goto 11] 152 = true := qck_r (nn_ _) (by decide +kernel)
theorem bs_X11_laySlack_145 {P : Zt → Option Zv → Prop} (K : Int → Zl → List Zv → Zt → Prop) : sx_ K P [.istore 2, .iinc 3 1, .goto 11] 152 = x_istore 2 (x_iinc 3 1 (x_goto 11 K)) := ((xe_istore 2).trans (congrArg (x_istore 2) ((xe_iinc 3 1).trans (congrArg (x_iinc 3 1) (xe_goto 11)))))
theorem bk_X11_laySlack_113 : ck_ fX11 (some .int) cX11_laySlack 113 [.iconst 0, .isub, .istore 5, .iinc 6 1, .goto 76] 123 = true := qck_r (nn_ _) (by decide +kernel)
theorem bs_X11_laySlack_113 {P : Zt → Option Zv → Prop} (K : Int → Zl → List Zv → Zt → Prop) : sx_ K P [.iconst 0, .isub, .istore 5, .iinc 6 1, .goto 76] 123 = x_iconst 0 (x_isub (x_istore 5 (x_iinc 6 1 (x_goto 76 K)))) := ((xe_iconst 0).trans (congrArg (x_iconst 0) ((xe_isub).trans (congrArg (x_isub) ((xe_istore 5).trans (congrArg (x_istore 5) ((xe_iinc 6 1).trans (congrArg (x_iinc 6 1) (xe_goto 76)))))))))
theorem bk_X11_laySlack_114 : ck_ fX11 (some .int) cX11_laySlack 114 [.isub, .istore 5, .iinc 6 1, .goto 76] 123 = true := qck_r (nn_ _) (by decide +kernel)
theorem bs_X11_laySlack_114 {P : Zt → Option Zv → Prop} (K : Int → Zl → List Zv → Zt → Prop) : sx_ K P [.isub, .istore 5, .iinc 6 1, .goto 76] 123 = x_isub (x_istore 5 (x_iinc 6 1 (x_goto 76 K))) := ((xe_isub).trans (congrArg (x_isub) ((xe_istore 5).trans (congrArg (x_istore 5) ((xe_iinc 6 1).trans (congrArg (x_iinc 6 1) (xe_goto 76)))))))
theorem bk_X11_laySlack_35 : ck_ fX11 (some .int) cX11_laySlack 35 [.iload 3, .iload 4, .ishr, .iconst 1, .iand, .ifCond .ne 50, .iinc 4 1, .goto 35] 50 = true := qck_r (nn_ _) (by decide +kernel)
theorem bs_X11_laySlack_35 {P : Zt → Option Zv → Prop} (K : Int → Zl → List Zv → Zt → Prop) : sx_ K P [.iload 3, .iload 4, .ishr, .iconst 1, .iand, .ifCond .ne 50, .iinc 4 1, .goto 35] 50 = x_iload 3 (x_iload 4 (x_ishr (x_iconst 1 (x_iand (x_ifCond .ne 50 K (x_iinc 4 1 (x_goto 35 K))))))) := ((xe_iload 3).trans (congrArg (x_iload 3) ((xe_iload 4).trans (congrArg (x_iload 4) ((xe_ishr).trans (congrArg (x_ishr) ((xe_iconst 1).trans (congrArg (x_iconst 1) ((xe_iand).trans (congrArg (x_iand) ((xe_ifCond .ne 50).trans (congrArg (x_ifCond .ne 50 K) ((xe_iinc 4 1).trans (congrArg (x_iinc 4 1) (xe_goto 35)))))))))))))))
theorem bk_X11_laySlack_50 : ck_ fX11 (some .int) cX11_laySlack 50 [.aload 0, .tableswitch 0 11 96 #[], .iload 3, .iload 3, .iconst 1, .isub, .iand, .iaload, .aload 0, .tableswitch 0 11 93 #[], .iload 4, .iaload, .iadd, .istore 5, .iload 4, .iconst 1, .iadd, .istore 6] 76 = true := qck_r (nn_ _) (by decide +kernel)
theorem bs_X11_laySlack_50 {P : Zt → Option Zv → Prop} (K : Int → Zl → List Zv → Zt → Prop) : sx_ K P [.aload 0, .tableswitch 0 11 96 #[], .iload 3, .iload 3, .iconst 1, .isub, .iand, .iaload, .aload 0, .tableswitch 0 11 93 #[], .iload 4, .iaload, .iadd, .istore 5, .iload 4, .iconst 1, .iadd, .istore 6] 76 = x_aload 0 (x_g1 111 296 (x_iload 3 (x_iload 3 (x_iconst 1 (x_isub (x_iand (x_iaload (x_aload 0 (x_g1 111 293 (x_iload 4 (x_iaload (x_iadd (x_istore 5 (x_iload 4 (x_iconst 1 (x_iadd (x_istore 6 (K 76)))))))))))))))))) := ((xe_aload 0).trans (congrArg (x_aload 0) ((xe_g1 (kk := 111) rfl tl_11_96).trans (congrArg (x_g1 111 296) ((xe_iload 3).trans (congrArg (x_iload 3) ((xe_iload 3).trans (congrArg (x_iload 3) ((xe_iconst 1).trans (congrArg (x_iconst 1) ((xe_isub).trans (congrArg (x_isub) ((xe_iand).trans (congrArg (x_iand) ((xe_iaload).trans (congrArg (x_iaload) ((xe_aload 0).trans (congrArg (x_aload 0) ((xe_g1 (kk := 111) rfl tl_11_93).trans (congrArg (x_g1 111 293) ((xe_iload 4).trans (congrArg (x_iload 4) ((xe_iaload).trans (congrArg (x_iaload) ((xe_iadd).trans (congrArg (x_iadd) ((xe_istore 5).trans (congrArg (x_istore 5) ((xe_iload 4).trans (congrArg (x_iload 4) ((xe_iconst 1).trans (congrArg (x_iconst 1) ((xe_iadd).trans (congrArg (x_iadd) ((xe_istore 6).trans (congrArg (x_istore 6) xe_nil))))))))))))))))))))))))))))))))))))
theorem bk_X11_laySlack_11 : ck_ fX11 (some .int) cX11_laySlack 11 [.iload 3, .iconst 4096, .if_icmp .ge 152, .aload 0, .tableswitch 0 11 96 #[], .iload 3, .iconst 0, .iastore, .iload 3, .iload 1, .iand, .iload 3, .if_icmp .ne 146, .iconst 0, .istore 4] 35 = true := qck_r (nn_ _) (by decide +kernel)
theorem bs_X11_laySlack_11 {P : Zt → Option Zv → Prop} (K : Int → Zl → List Zv → Zt → Prop) : sx_ K P [.iload 3, .iconst 4096, .if_icmp .ge 152, .aload 0, .tableswitch 0 11 96 #[], .iload 3, .iconst 0, .iastore, .iload 3, .iload 1, .iand, .iload 3, .if_icmp .ne 146, .iconst 0, .istore 4] 35 = x_iload 3 (x_iconst 4096 (x_if_icmp .ge 152 K (x_aload 0 (x_g1 111 296 (x_iload 3 (x_iconst 0 (x_iastore (x_iload 3 (x_iload 1 (x_iand (x_iload 3 (x_if_icmp .ne 146 K (x_iconst 0 (x_istore 4 (K 35))))))))))))))) := ((xe_iload 3).trans (congrArg (x_iload 3) ((xe_iconst 4096).trans (congrArg (x_iconst 4096) ((xe_if_icmp .ge 152).trans (congrArg (x_if_icmp .ge 152 K) ((xe_aload 0).trans (congrArg (x_aload 0) ((xe_g1 (kk := 111) rfl tl_11_96).trans (congrArg (x_g1 111 296) ((xe_iload 3).trans (congrArg (x_iload 3) ((xe_iconst 0).trans (congrArg (x_iconst 0) ((xe_iastore).trans (congrArg (x_iastore) ((xe_iload 3).trans (congrArg (x_iload 3) ((xe_iload 1).trans (congrArg (x_iload 1) ((xe_iand).trans (congrArg (x_iand) ((xe_iload 3).trans (congrArg (x_iload 3) ((xe_if_icmp .ne 146).trans (congrArg (x_if_icmp .ne 146 K) ((xe_iconst 0).trans (congrArg (x_iconst 0) ((xe_istore 4).trans (congrArg (x_istore 4) xe_nil))))))))))))))))))))))))))))))
theorem bk_X11_laySlack_152 : ck_ fX11 (some .int) cX11_laySlack 152 [.iload 2, .ireturn] 154 = true := qck_r (nn_ _) (by decide +kernel)
theorem bs_X11_laySlack_152 {P : Zt → Option Zv → Prop} (K : Int → Zl → List Zv → Zt → Prop) : sx_ K P [.iload 2, .ireturn] 154 = x_iload 2 (x_ireturn P) := ((xe_iload 2).trans (congrArg (x_iload 2) (xe_ireturn)))
theorem bk_X11_laySlack_146 : ck_ fX11 (some .int) cX11_laySlack 146 [.iinc 3 1, .goto 11] 152 = true := qck_r (nn_ _) (by decide +kernel)
theorem bs_X11_laySlack_146 {P : Zt → Option Zv → Prop} (K : Int → Zl → List Zv → Zt → Prop) : sx_ K P [.iinc 3 1, .goto 11] 152 = x_iinc 3 1 (x_goto 11 K) := ((xe_iinc 3 1).trans (congrArg (x_iinc 3 1) (xe_goto 11)))
theorem bk_X11_laySlack_0 : ck_ fX11 (some .int) cX11_laySlack 0 [.aload 0, .tableswitch 0 11 96 #[], .iconst 0, .iconst 0, .iastore, .iconst 0, .istore 2, .iconst 1, .istore 3] 11 = true := qck_r (nn_ _) (by decide +kernel)
theorem bs_X11_laySlack_0 {P : Zt → Option Zv → Prop} (K : Int → Zl → List Zv → Zt → Prop) : sx_ K P [.aload 0, .tableswitch 0 11 96 #[], .iconst 0, .iconst 0, .iastore, .iconst 0, .istore 2, .iconst 1, .istore 3] 11 = x_aload 0 (x_g1 111 296 (x_iconst 0 (x_iconst 0 (x_iastore (x_iconst 0 (x_istore 2 (x_iconst 1 (x_istore 3 (K 11))))))))) := ((xe_aload 0).trans (congrArg (x_aload 0) ((xe_g1 (kk := 111) rfl tl_11_96).trans (congrArg (x_g1 111 296) ((xe_iconst 0).trans (congrArg (x_iconst 0) ((xe_iconst 0).trans (congrArg (x_iconst 0) ((xe_iastore).trans (congrArg (x_iastore) ((xe_iconst 0).trans (congrArg (x_iconst 0) ((xe_istore 2).trans (congrArg (x_istore 2) ((xe_iconst 1).trans (congrArg (x_iconst 1) ((xe_istore 3).trans (congrArg (x_istore 3) xe_nil))))))))))))))))))
abbrev po_X11_laySlack (T : Zt) (l : List (Nat × Nat)) (o : Int) : Zt → Option Zv → Prop := fun T' r => ∃ x : Int, r = some (vI x) ∧ fr_ [(296, [])] T T' ∧ ((0 ≤ x ∧ x ≤ 4095) ∧ (x = 0 → SVE_ T' o l))
set_option maxHeartbeats 4000000 in
theorem ct_X11_laySlack {T : Zt} {l : List (Nat × Nat)} {o : Int} (hO : 0 ≤ o ∧ o ≤ 4095) (hl : ∀ p ∈ l, p.1 ≠ p.2 ∧ p.1 < 12 ∧ p.2 < 12) (hln : (l.length : Int) ≤ 400) (hbw : BW_ T l) (hsp : ∀ k : Int, 0 ≤ k → k < 12 → -20000000 ≤ T 293 0 k ∧ T 293 0 k ≤ 20000000) : Ct_ yX11_laySlack zX11_laySlack T [vR 111 0, vI o] (po_X11_laySlack T l o) := by
  refine ct_of pn_11 rfl rfl (Nat.le_of_ble_eq_true rfl) (fun hT hav => ?_)
  have hr_o : -2147483648 ≤ o ∧ o ≤ 2147483647 := hav (vI o) (List.mem_cons_of_mem _ List.mem_cons_self)
  have hz : zX11_laySlack.2.2.2.1 = some .boolean → ∀ (T' : Zt) (x : Int), po_X11_laySlack T l o T' (some (vI x)) → 0 ≤ x ∧ x ≤ 1 := fun h => by cases h
  show J_ zX11_laySlack T (po_X11_laySlack T l o) 0 0 0 [some (vR 111 0), some (vI o), none, none, none, none, none] [] T
  have c_11 : ∀ (nn : Nat) (cu : Int) (s : Int) (T1 : Zt), ((4096 - s).toNat) ≤ nn → (fr_ [(296, [])] T T1) → (1 ≤ s ∧ s ≤ 4096 ∧ 0 ≤ cu ∧ cu ≤ 4095) → (SV_ T1 o s l (fun k : Nat => T 293 0 (k : Int))) → (cu = 0 → ∀ t, 0 ≤ t → t < s → an_ t o = t → 0 ≤ T1 296 0 t) → J_ zX11_laySlack T (po_X11_laySlack T l o) 0 0 11 [some (vR 111 0), some (vI o), some (vI cu), some (vI s), none, none, none] [] T1 := by
    intro nn
    induction nn using Nat.strongRecOn with
    | _ nn ih_11 =>
      intro cu s T1 hm_11 hf_11 i1 sv1 nn1
      replace hm_11 := fun (_ : Unit) => hm_11
      have c_35 : ∀ (nn : Nat) (lo : Int) (T2 : Zt), ((12 - lo).toNat) ≤ nn → (fr_ [(296, [])] T1 T2) → (0 ≤ lo ∧ s < 4096) → (an_ s o = s) → (∀ j, j ≠ s → T2 296 0 j = T1 296 0 j) → (∀ j, 0 ≤ j → j < lo → an_ (sr_ s j) 1 = 0) → J_ zX11_laySlack T (po_X11_laySlack T l o) 0 0 35 [some (vR 111 0), some (vI o), some (vI cu), some (vI s), some (vI lo), none, none] [] T2 := by
        intro nn
        induction nn using Nat.strongRecOn with
        | _ nn ih_35 =>
          intro lo T2 hm_35 hf_35 j1 hsub e2 lo1
          replace hm_35 := fun (_ : Unit) => hm_35
          have hl12 := lo_lt (by omega) (by omega) lo1
          have c_76 : ∀ (nn : Nat) (u : Int) (k : Int), ((12 - k).toNat) ≤ nn → (lo + 1 ≤ k ∧ k ≤ 12) → (an_ (sr_ s lo) 1 ≠ 0) → (u = vs_ (fun k : Nat => T 293 0 (k : Int)) l (s.toNat &&& (s.toNat - 1)) + T 293 0 lo - 2 * su_ (fun k => cb_ lo.toNat k l) s.toNat (lo.toNat + 1) k.toNat) → J_ zX11_laySlack T (po_X11_laySlack T l o) 0 0 76 [some (vR 111 0), some (vI o), some (vI cu), some (vI s), some (vI lo), some (vI u), some (vI k)] [] T2 := by
            intro nn
            induction nn using Nat.strongRecOn with
            | _ nn ih_76 =>
              intro u k hm_76 k1 nz sm
              replace hm_76 := fun (_ : Unit) => hm_76
              have ha1 := an_1 (s := s) (by omega)
              have hb1 := bt_n (x := s) (k := lo) (by omega) (by omega)
              have hb2 := bt_01 s.toNat lo.toNat
              have hlow := vs_low (f := (fun k : Nat => T 293 0 (k : Int))) (l := l) (s := s.toNat) (lo := lo.toNat) (by omega) (fun j hj => by have := lo1 (j : Int) (by omega) (by omega); rw [bt_n (by omega) (by omega), Int.toNat_natCast] at this; exact this) (by omega) hl
              have hvb := vs_b (f := (fun k : Nat => T 293 0 (k : Int))) (l := l) (F := 20000000) (by decide) (fun k hk => hsp (k : Int) (by omega) (by omega)) (s.toNat &&& (s.toNat - 1))
              have hva := (e2 (an_ s (s - 1)) (by omega)).trans (sv1 (an_ s (s - 1)) (by omega) (by omega) (an_2 hO (by omega) hsub))
              rw [show (an_ s (s - 1)).toNat = s.toNat &&& (s.toNat - 1) by omega] at hva
              rw [show ((lo.toNat : Nat) : Int) = lo by omega] at hlow
              have hs9 := hsp lo (by omega) (by omega)
              refine j_blx (F := fX11) tb_X11 (nn_ _) bk_X11_laySlack_76 bs_X11_laySlack_76 hz (fun K hK => ?_)
              refine And.intro (fun c1 => ?_) (fun c1 => ?_)
              · have hsum : u = vs_ (fun k : Nat => T 293 0 (k : Int)) l (s.toNat &&& (s.toNat - 1)) + T 293 0 lo - 2 * su_ (fun k => cb_ lo.toNat k l) s.toNat (lo.toNat + 1) 12 := by rw [sm, show k = 12 by omega]; rfl
                have hvb2 := vs_b (f := (fun k : Nat => T 293 0 (k : Int))) (l := l) (F := 20000000) (by decide) (fun k hk => hsp (k : Int) (by omega) (by omega)) s.toNat
                refine hK 123 _ [] T2 ?_
                refine j_blx (F := fX11) tb_X11 (nn_ _) bk_X11_laySlack_123 bs_X11_laySlack_123 hz (fun K hK => ?_)
                refine iy_i (by omega) (by omega) ?_
                refine x_nm (fun U2 hU2 => ?_)
                have e3 := up_f hU2
                refine And.intro (fun c4 => ?_) (fun c4 => ?_)
                · refine hK 144 _ [] U2 ?_
                  refine j_blx (F := fX11) tb_X11 (nn_ _) bk_X11_laySlack_144 bs_X11_laySlack_144 hz (fun K hK => ?_)
                  refine rg_i (by omega) ?_
                  refine hK 11 [some (vR 111 0), some (vI o), some (vI cu), some (vI (s + 1)), some (vI lo), some (vI u), some (vI k)] [] U2 ?_
                  refine j_drop [some (vR 111 0), some (vI o), some (vI cu), some (vI (s + 1)), none, none, none] (fun k v hk => ?_) rfl ?_
                  · match k, hk with
                    | 0, hk => exact hk
                    | 1, hk => exact hk
                    | 2, hk => exact hk
                    | 3, hk => exact hk
                    | 4, hk => cases hk
                    | 5, hk => cases hk
                    | 6, hk => cases hk
                    | k + 7, hk => cases hk
                  refine ih_11 _ ?_ cu (s + 1) U2 (Nat.le_refl _) ?_ ?_ ?_ ?_
                  · have hm_11 := hm_11 (); omega
                  · exact fr_u (fr_t (fr_t (fr_0 _ _) (fr_s hf_11 rfl)) (fr_s hf_35 rfl)) hU2 rfl
                  · omega
                  · intro t a b d
                    by_cases z : t = s
                    · rw [z, up_f hU2, hsum]
                      exact hlow.symm
                    · exact (up_g hU2 (fun q => z q.2.2)).trans ((e2 t z).trans (sv1 t a (by omega) d))
                  · intro h9 t a b d
                    by_cases z : t = s
                    · rw [z, up_f hU2]; omega
                    · rw [up_g hU2 (fun q => z q.2.2), e2 t z]; exact nn1 (by omega) t a (by omega) d
                · refine And.intro (fun c5 => ?_) (fun c5 => ?_)
                  · refine hK 144 [some (vR 111 0), some (vI o), some (vI cu), some (vI s), some (vI lo), some (vI u), some (vI k)] [] U2 ?_
                    refine j_blx (F := fX11) tb_X11 (nn_ _) bk_X11_laySlack_144 bs_X11_laySlack_144 hz (fun K hK => ?_)
                    refine rg_i (by omega) ?_
                    refine hK 11 [some (vR 111 0), some (vI o), some (vI cu), some (vI (s + 1)), some (vI lo), some (vI u), some (vI k)] [] U2 ?_
                    refine j_drop [some (vR 111 0), some (vI o), some (vI cu), some (vI (s + 1)), none, none, none] (fun k v hk => ?_) rfl ?_
                    · match k, hk with
                      | 0, hk => exact hk
                      | 1, hk => exact hk
                      | 2, hk => exact hk
                      | 3, hk => exact hk
                      | 4, hk => cases hk
                      | 5, hk => cases hk
                      | 6, hk => cases hk
                      | k + 7, hk => cases hk
                    refine ih_11 _ ?_ cu (s + 1) U2 (Nat.le_refl _) ?_ ?_ ?_ ?_
                    · have hm_11 := hm_11 (); omega
                    · exact fr_u (fr_t (fr_t (fr_0 _ _) (fr_s hf_11 rfl)) (fr_s hf_35 rfl)) hU2 rfl
                    · omega
                    · intro t a b d
                      by_cases z : t = s
                      · rw [z, up_f hU2, hsum]
                        exact hlow.symm
                      · exact (up_g hU2 (fun q => z q.2.2)).trans ((e2 t z).trans (sv1 t a (by omega) d))
                    · intro h9 t a b d
                      by_cases z : t = s
                      · rw [z, up_f hU2]; omega
                      · rw [up_g hU2 (fun q => z q.2.2), e2 t z]; exact nn1 (by omega) t a (by omega) d
                  · refine hK 145 [some (vR 111 0), some (vI o), some (vI cu), some (vI s), some (vI lo), some (vI u), some (vI k)] [vI s] U2 ?_
                    refine j_blx (F := fX11) tb_X11 (nn_ _) bk_X11_laySlack_145 bs_X11_laySlack_145 hz (fun K hK => ?_)
                    refine rg_i (by omega) ?_
                    refine hK 11 [some (vR 111 0), some (vI o), some (vI s), some (vI (s + 1)), some (vI lo), some (vI u), some (vI k)] [] U2 ?_
                    refine j_drop [some (vR 111 0), some (vI o), some (vI s), some (vI (s + 1)), none, none, none] (fun k v hk => ?_) rfl ?_
                    · match k, hk with
                      | 0, hk => exact hk
                      | 1, hk => exact hk
                      | 2, hk => exact hk
                      | 3, hk => exact hk
                      | 4, hk => cases hk
                      | 5, hk => cases hk
                      | 6, hk => cases hk
                      | k + 7, hk => cases hk
                    refine ih_11 _ ?_ s (s + 1) U2 (Nat.le_refl _) ?_ ?_ ?_ ?_
                    · have hm_11 := hm_11 (); omega
                    · exact fr_u (fr_t (fr_t (fr_0 _ _) (fr_s hf_11 rfl)) (fr_s hf_35 rfl)) hU2 rfl
                    · omega
                    · intro t a b d
                      by_cases z : t = s
                      · rw [z, up_f hU2, hsum]
                        exact hlow.symm
                      · exact (up_g hU2 (fun q => z q.2.2)).trans ((e2 t z).trans (sv1 t a (by omega) d))
                    · intro h9 t a b d
                      by_cases z : t = s
                      · rw [z, up_f hU2]; omega
                      · rw [up_g hU2 (fun q => z q.2.2), e2 t z]; exact nn1 (by omega) t a (by omega) d
              · have hbk := bt_n (x := s) (k := k) (by omega) (by omega)
                have hb3 := bt_01 s.toNat k.toNat
                rw [← hbk] at hb3
                have hwb := hbw lo k (by omega) (by omega) (by omega) (by omega) (by omega)
                have hcb := cb_b lo.toNat k.toNat l
                have hsu := su_b (g := fun k => cb_ lo.toNat k l) (s := s.toNat) (lo := lo.toNat + 1) (B := 400) (by decide) (fun k => by have := cb_b lo.toNat k l; omega) k.toNat
                have hkt : ((k.toNat : Nat) : Int) * 400 ≤ 4800 := by omega
                intro w6 w6b
                intro w7 w7b
                refine And.intro (fun c8 => ?_) (fun c8 => ?_)
                · refine hK 113 _ [vI u] T2 ?_
                  refine j_blx (F := fX11) tb_X11 (nn_ _) bk_X11_laySlack_113 bs_X11_laySlack_113 hz (fun K hK => ?_)
                  refine rg_i (by omega) ?_
                  refine rg_i (by omega) ?_
                  refine hK 76 [some (vR 111 0), some (vI o), some (vI cu), some (vI s), some (vI lo), some (vI (u - 0)), some (vI (k + 1))] [] T2 ?_
                  refine ih_76 _ ?_ (u - 0) (k + 1) (Nat.le_refl _) ?_ ?_ ?_
                  · have hm_76 := hm_76 (); omega
                  · omega
                  · first
                    | exact nz
                    | omega
                  · rw [show (k + 1).toNat = k.toNat + 1 by omega]
                    show _ = _ - 2 * (su_ _ _ _ _ + _)
                    rw [if_pos (by omega), ← hbk]
                    dsimp only
                    first
                    | (rw [hcm, hwb]; omega)
                    | (rw [show an_ (sr_ s k) 1 = 0 by omega]; omega)
                · have hcm : an_ (sr_ s k) 1 = 1 := by omega
                  refine rg_i (by omega) ?_
                  refine rg_i (by omega) ?_
                  refine ix_i (by omega) ?_
                  intro b9 b9b
                  have e10 : T2 294 0 ((12 * lo) + k) = T 294 0 ((12 * lo) + k) := (hf_35 294 0 ((12 * lo) + k) rfl).trans (hf_11 294 0 ((12 * lo) + k) rfl)
                  rw [e10] at b9 b9b ⊢
                  refine rg_i (by omega) ?_
                  refine hK 114 [some (vR 111 0), some (vI o), some (vI cu), some (vI s), some (vI lo), some (vI u), some (vI k)] [vI (2 * (T 294 0 ((12 * lo) + k))), vI u] T2 ?_
                  refine j_blx (F := fX11) tb_X11 (nn_ _) bk_X11_laySlack_114 bs_X11_laySlack_114 hz (fun K hK => ?_)
                  refine rg_i (by omega) ?_
                  refine rg_i (by omega) ?_
                  refine hK 76 [some (vR 111 0), some (vI o), some (vI cu), some (vI s), some (vI lo), some (vI (u - (2 * (T 294 0 ((12 * lo) + k))))), some (vI (k + 1))] [] T2 ?_
                  refine ih_76 _ ?_ (u - (2 * (T 294 0 ((12 * lo) + k)))) (k + 1) (Nat.le_refl _) ?_ ?_ ?_
                  · have hm_76 := hm_76 (); omega
                  · omega
                  · first
                    | exact nz
                    | omega
                  · rw [show (k + 1).toNat = k.toNat + 1 by omega]
                    show _ = _ - 2 * (su_ _ _ _ _ + _)
                    rw [if_pos (by omega), ← hbk]
                    dsimp only
                    first
                    | (rw [hcm, hwb]; omega)
                    | (rw [show an_ (sr_ s k) 1 = 0 by omega]; omega)
          refine j_blx (F := fX11) tb_X11 (nn_ _) bk_X11_laySlack_35 bs_X11_laySlack_35 hz (fun K hK => ?_)
          intro w11 w11b
          intro w12 w12b
          refine And.intro (fun c13 => ?_) (fun c13 => ?_)
          · refine hK 50 _ [] T2 ?_
            have ha1 := an_1 (s := s) (by omega)
            have hb1 := bt_n (x := s) (k := lo) (by omega) (by omega)
            have hb2 := bt_01 s.toNat lo.toNat
            have hlow := vs_low (f := (fun k : Nat => T 293 0 (k : Int))) (l := l) (s := s.toNat) (lo := lo.toNat) (by omega) (fun j hj => by have := lo1 (j : Int) (by omega) (by omega); rw [bt_n (by omega) (by omega), Int.toNat_natCast] at this; exact this) (by omega) hl
            have hvb := vs_b (f := (fun k : Nat => T 293 0 (k : Int))) (l := l) (F := 20000000) (by decide) (fun k hk => hsp (k : Int) (by omega) (by omega)) (s.toNat &&& (s.toNat - 1))
            have hva := (e2 (an_ s (s - 1)) (by omega)).trans (sv1 (an_ s (s - 1)) (by omega) (by omega) (an_2 hO (by omega) hsub))
            rw [show (an_ s (s - 1)).toNat = s.toNat &&& (s.toNat - 1) by omega] at hva
            rw [show ((lo.toNat : Nat) : Int) = lo by omega] at hlow
            have hs9 := hsp lo (by omega) (by omega)
            refine j_blx (F := fX11) tb_X11 (nn_ _) bk_X11_laySlack_50 bs_X11_laySlack_50 hz (fun K hK => ?_)
            refine rg_i (by omega) ?_
            intro w14 w14b
            refine ix_i (by omega) ?_
            intro b15 b15b
            refine ix_i (by omega) ?_
            intro b16 b16b
            have e17 : T2 293 0 lo = T 293 0 lo := (hf_35 293 0 lo rfl).trans (hf_11 293 0 lo rfl)
            rw [e17] at b16 b16b ⊢
            refine rg_i (by omega) ?_
            refine rg_i (by omega) ?_
            refine hK 76 [some (vR 111 0), some (vI o), some (vI cu), some (vI s), some (vI lo), some (vI ((T2 296 0 (an_ s (s - 1))) + (T 293 0 lo))), some (vI (lo + 1))] [] T2 ?_
            refine c_76 _ ((T2 296 0 (an_ s (s - 1))) + (T 293 0 lo)) (lo + 1) (Nat.le_refl _) ?_ ?_ ?_
            · omega
            · first
              | exact nz
              | omega
            · rw [su_n _ (by omega), hva]; omega
          · refine rg_i (by omega) ?_
            refine hK 35 [some (vR 111 0), some (vI o), some (vI cu), some (vI s), some (vI (lo + 1)), none, none] [] T2 ?_
            refine ih_35 _ ?_ (lo + 1) T2 (Nat.le_refl _) ?_ ?_ ?_ ?_ ?_
            · have hm_35 := hm_35 (); omega
            · exact fr_t (fr_0 _ _) (fr_s hf_35 rfl)
            · omega
            · first
              | exact hsub
              | omega
            · exact e2
            · intro j a b
              by_cases z : j = lo
              · rw [z]; omega
              · exact lo1 j a (by omega)
      refine j_blx (F := fX11) tb_X11 (nn_ _) bk_X11_laySlack_11 bs_X11_laySlack_11 hz (fun K hK => ?_)
      refine And.intro (fun c18 => ?_) (fun c18 => ?_)
      · refine hK 152 _ [] T1 ?_
        refine j_blx (F := fX11) tb_X11 (nn_ _) bk_X11_laySlack_152 bs_X11_laySlack_152 hz (fun K hK => ?_)
        refine (show po_X11_laySlack T l o T1 (some (vI cu)) from ?_)
        refine ⟨_, rfl, fr_t (fr_0 _ _) (fr_s hf_11 rfl), by omega, fun z => ⟨(fun k : Nat => T 293 0 (k : Int)), fun t a b d => ⟨sv1 t a (by omega) d, nn1 z t a (by omega) d, ?_⟩⟩⟩
        rw [sv1 t a (by omega) d]
        have hvb := vs_b (f := (fun k : Nat => T 293 0 (k : Int))) (l := l) (F := 20000000) (by decide) (fun k hk => hsp (k : Int) (by omega) (by omega)) t.toNat
        omega
      · refine iy_i (by omega) (by omega) ?_
        refine x_nm (fun U19 hU19 => ?_)
        have e20 := up_f hU19
        intro w21 w21b
        refine And.intro (fun c22 => ?_) (fun c22 => ?_)
        · refine hK 146 _ [] U19 ?_
          refine j_blx (F := fX11) tb_X11 (nn_ _) bk_X11_laySlack_146 bs_X11_laySlack_146 hz (fun K hK => ?_)
          refine rg_i (by omega) ?_
          refine hK 11 [some (vR 111 0), some (vI o), some (vI cu), some (vI (s + 1)), none, none, none] [] U19 ?_
          refine ih_11 _ ?_ cu (s + 1) U19 (Nat.le_refl _) ?_ ?_ ?_ ?_
          · have hm_11 := hm_11 (); omega
          · exact fr_u (fr_t (fr_0 _ _) (fr_s hf_11 rfl)) hU19 rfl
          · omega
          · intro t a b d
            by_cases z : t = s
            · exact absurd (z ▸ d) (by omega)
            · exact (up_g hU19 (fun q => z q.2.2)).trans (sv1 t a (by omega) d)
          · intro h9 t a b d
            by_cases z : t = s
            · exact absurd (z ▸ d) (by omega)
            · rw [up_g hU19 (fun q => z q.2.2)]; exact nn1 h9 t a (by omega) d
        · refine hK 35 [some (vR 111 0), some (vI o), some (vI cu), some (vI s), some (vI 0), none, none] [] U19 ?_
          refine c_35 _ 0 U19 (Nat.le_refl _) ?_ ?_ ?_ ?_ ?_
          · exact fr_u (fr_0 _ _) hU19 rfl
          · omega
          · first
            | exact hsub
            | omega
          · exact fun j hj => up_g hU19 (fun q => hj q.2.2)
          · intro j a b; omega
  refine j_blx (F := fX11) tb_X11 (nn_ _) bk_X11_laySlack_0 bs_X11_laySlack_0 hz (fun K hK => ?_)
  refine iy_i (by omega) (by omega) ?_
  refine x_nm (fun U23 hU23 => ?_)
  have e24 := up_f hU23
  refine hK 11 [some (vR 111 0), some (vI o), some (vI 0), some (vI 1), none, none, none] [] U23 ?_
  refine c_11 _ 0 1 U23 (Nat.le_refl _) ?_ ?_ ?_ ?_
  · exact fr_u (fr_0 _ _) hU23 rfl
  · omega
  · intro t a b _
    rw [show t = 0 by omega]
    exact (up_f hU23).trans (vs_0 _ _).symm
  · intro _ t a b _
    rw [show t = 0 by omega, up_f hU23]; decide
abbrev cX11_changeOf : ByteArray := prog_13_method_102_code
def yX11_changeOf : MethodName := ⟨RX11, "changeOf", "(IIII)I"⟩
def zX11_changeOf : Zm := (RX11, cX11_changeOf, 6, (some .int), { frames := 0, cells := 0, slots := 0, locals := 0 })
theorem bk_X11_changeOf_0 : ck_ fX11 (some .int) cX11_changeOf 0 [.iload 0, .iload 1, .ishr, .iconst 1, .iand, .istore 4, .iload 0, .iload 2, .ishr, .iconst 1, .iand, .istore 5, .iconst 2, .iload 4, .imul, .iload 5, .imul, .iconst 2, .iload 3, .isub, .iload 4, .imul, .isub, .iload 3, .iload 5, .imul, .isub, .ireturn] 34 = true := qck_r (nn_ _) (by decide +kernel)
theorem bs_X11_changeOf_0 {P : Zt → Option Zv → Prop} (K : Int → Zl → List Zv → Zt → Prop) : sx_ K P [.iload 0, .iload 1, .ishr, .iconst 1, .iand, .istore 4, .iload 0, .iload 2, .ishr, .iconst 1, .iand, .istore 5, .iconst 2, .iload 4, .imul, .iload 5, .imul, .iconst 2, .iload 3, .isub, .iload 4, .imul, .isub, .iload 3, .iload 5, .imul, .isub, .ireturn] 34 = x_iload 0 (x_iload 1 (x_ishr (x_iconst 1 (x_iand (x_istore 4 (x_iload 0 (x_iload 2 (x_ishr (x_iconst 1 (x_iand (x_istore 5 (x_iconst 2 (x_iload 4 (x_imul (x_iload 5 (x_imul (x_iconst 2 (x_iload 3 (x_isub (x_iload 4 (x_imul (x_isub (x_iload 3 (x_iload 5 (x_imul (x_isub (x_ireturn P))))))))))))))))))))))))))) := ((xe_iload 0).trans (congrArg (x_iload 0) ((xe_iload 1).trans (congrArg (x_iload 1) ((xe_ishr).trans (congrArg (x_ishr) ((xe_iconst 1).trans (congrArg (x_iconst 1) ((xe_iand).trans (congrArg (x_iand) ((xe_istore 4).trans (congrArg (x_istore 4) ((xe_iload 0).trans (congrArg (x_iload 0) ((xe_iload 2).trans (congrArg (x_iload 2) ((xe_ishr).trans (congrArg (x_ishr) ((xe_iconst 1).trans (congrArg (x_iconst 1) ((xe_iand).trans (congrArg (x_iand) ((xe_istore 5).trans (congrArg (x_istore 5) ((xe_iconst 2).trans (congrArg (x_iconst 2) ((xe_iload 4).trans (congrArg (x_iload 4) ((xe_imul).trans (congrArg (x_imul) ((xe_iload 5).trans (congrArg (x_iload 5) ((xe_imul).trans (congrArg (x_imul) ((xe_iconst 2).trans (congrArg (x_iconst 2) ((xe_iload 3).trans (congrArg (x_iload 3) ((xe_isub).trans (congrArg (x_isub) ((xe_iload 4).trans (congrArg (x_iload 4) ((xe_imul).trans (congrArg (x_imul) ((xe_isub).trans (congrArg (x_isub) ((xe_iload 3).trans (congrArg (x_iload 3) ((xe_iload 5).trans (congrArg (x_iload 5) ((xe_imul).trans (congrArg (x_imul) ((xe_isub).trans (congrArg (x_isub) (xe_ireturn)))))))))))))))))))))))))))))))))))))))))))))))))))))))
abbrev po_X11_changeOf (T : Zt) (s a b w : Int) : Zt → Option Zv → Prop := fun T' r => T = T' ∧ r = some (vI (ch_ s.toNat a.toNat b.toNat w))
set_option maxHeartbeats 4000000 in
theorem ct_X11_changeOf {T : Zt} {s a b w : Int} (h1 : 0 ≤ s ∧ s < 4096) (h2 : 0 ≤ a ∧ a < 12) (h3 : 0 ≤ b ∧ b < 12) (h4 : 0 ≤ w ∧ w ≤ 2) : Ct_ yX11_changeOf zX11_changeOf T [vI s, vI a, vI b, vI w] (po_X11_changeOf T s a b w) := by
  refine ct_of pn_11 rfl rfl (Nat.le_of_ble_eq_true rfl) (fun hT hav => ?_)
  have hr_s : -2147483648 ≤ s ∧ s ≤ 2147483647 := hav (vI s) List.mem_cons_self
  have hr_a : -2147483648 ≤ a ∧ a ≤ 2147483647 := hav (vI a) (List.mem_cons_of_mem _ List.mem_cons_self)
  have hr_b : -2147483648 ≤ b ∧ b ≤ 2147483647 := hav (vI b) (List.mem_cons_of_mem _ (List.mem_cons_of_mem _ List.mem_cons_self))
  have hr_w : -2147483648 ≤ w ∧ w ≤ 2147483647 := hav (vI w) (List.mem_cons_of_mem _ (List.mem_cons_of_mem _ (List.mem_cons_of_mem _ List.mem_cons_self)))
  have hz : zX11_changeOf.2.2.2.1 = some .boolean → ∀ (T' : Zt) (x : Int), po_X11_changeOf T s a b w T' (some (vI x)) → 0 ≤ x ∧ x ≤ 1 := fun h => by cases h
  show J_ zX11_changeOf T (po_X11_changeOf T s a b w) 0 0 0 [some (vI s), some (vI a), some (vI b), some (vI w), none, none] [] T
  refine j_blx (F := fX11) tb_X11 (nn_ _) bk_X11_changeOf_0 bs_X11_changeOf_0 hz (fun K hK => ?_)
  intro w1 w1b
  intro w2 w2b
  intro w3 w3b
  intro w4 w4b
  have hA := bt_01 s.toNat a.toNat
  have hB := bt_01 s.toNat b.toNat
  rw [← bt_n (by omega) (by omega)] at hA hB
  refine rg_i (by omega) ?_
  refine rg_i (by rcases hA with z | z <;> rcases hB with y | y <;> rw [z, y] <;> omega) ?_
  refine rg_i (by omega) ?_
  refine rg_i (by rcases hA with z | z <;> rw [z] <;> omega) ?_
  refine rg_i (by rcases hA with z | z <;> rcases hB with y | y <;> rw [z, y] <;> omega) ?_
  refine rg_i (by rcases hB with z | z <;> rw [z] <;> omega) ?_
  refine rg_i (by rcases hA with z | z <;> rcases hB with y | y <;> rw [z, y] <;> omega) ?_
  refine (show po_X11_changeOf T s a b w T (some (vI ((((2 * (an_ (sr_ s a) 1)) * (an_ (sr_ s b) 1)) - ((2 - w) * (an_ (sr_ s a) 1))) - (w * (an_ (sr_ s b) 1))))) from ?_)
  exact ⟨rfl, by unfold ch_; rw [bt_n (by omega) (by omega), bt_n (by omega) (by omega)]⟩
def OKW_ (T : Zt) (o a b w n : Int) : Prop := ∀ t, 1 ≤ t → t < n → an_ t o = t → 0 ≤ T 296 0 t + ch_ t.toNat a.toNat b.toNat (w)
def PW_ (T : Zt) (o a b ev g w : Int) : Prop := (g = 0 ∧ (ev = 0 ∨ w = -1) ∧ -1 ≤ w ∧ ∀ u, 0 ≤ u → u ≤ w → NW_ T o a b u) ∨ (g = 1 ∧ 0 ≤ w ∧ w ≤ 2 ∧ (ev = 0 → OKW_ T o a b w 4096))
theorem pw_2 {T : Zt} {o a b ev w : Int} {l : List (Nat × Nat)} (h : PW_ T o a b ev 0 w) (hs : ev = 0 → SW_ T o a b l) (ho : 0 ≤ o ∧ o ≤ 4095) : -1 ≤ w ∧ w ≤ 1 ∧ ∀ u, 0 ≤ u → u ≤ w → NW_ T o a b u := by
  rcases h with ⟨_, h1, h2, h3⟩ | ⟨h, _⟩
  · refine ⟨h2, ?_, h3⟩
    apply Int.not_lt.mp
    intro hw
    have he : ev = 0 := by omega
    exact sw_n (hs he) ho (h3 0 (by omega) (by omega)) (h3 1 (by omega) (by omega)) (h3 2 (by omega) (by omega))
  · cases h
theorem pw_1 {T : Zt} {o a b ev w g : Int} (h : PW_ T o a b ev g w) (hg : g ≠ 0) : 0 ≤ w ∧ w ≤ 2 ∧ (ev = 0 → OKW_ T o a b w 4096) := by
  rcases h with ⟨h, _⟩ | ⟨_, h⟩
  · exact absurd h hg
  · exact h
abbrev cX11_settle : ByteArray := prog_13_method_103_code
def yX11_settle : MethodName := ⟨RX11, "settle", "(IIIZ)I"⟩
def zX11_settle : Zm := (RX11, cX11_settle, 8, (some .int), { frames := 1, cells := 0, slots := 0, locals := 25 })
theorem bk_X11_settle_20 : ck_ fX11 (some .int) cX11_settle 20 [.iload 7, .iconst 4096, .if_icmp .ge 80, .iload 6, .ifCond .eq 80, .iload 4, .ifCond .ne 80, .iload 7, .iload 1, .iand, .iload 7, .if_icmp .ne 67, .aload 0, .tableswitch 0 11 96 #[], .iload 7, .iaload, .iload 7, .iload 2, .iload 3, .iload 5] 60 = true := qck_r (nn_ _) (by decide +kernel)
theorem bs_X11_settle_20 {P : Zt → Option Zv → Prop} (K : Int → Zl → List Zv → Zt → Prop) : sx_ K P [.iload 7, .iconst 4096, .if_icmp .ge 80, .iload 6, .ifCond .eq 80, .iload 4, .ifCond .ne 80, .iload 7, .iload 1, .iand, .iload 7, .if_icmp .ne 67, .aload 0, .tableswitch 0 11 96 #[], .iload 7, .iaload, .iload 7, .iload 2, .iload 3, .iload 5] 60 = x_iload 7 (x_iconst 4096 (x_if_icmp .ge 80 K (x_iload 6 (x_ifCond .eq 80 K (x_iload 4 (x_ifCond .ne 80 K (x_iload 7 (x_iload 1 (x_iand (x_iload 7 (x_if_icmp .ne 67 K (x_aload 0 (x_g1 111 296 (x_iload 7 (x_iaload (x_iload 7 (x_iload 2 (x_iload 3 (x_iload 5 (K 60)))))))))))))))))))) := ((xe_iload 7).trans (congrArg (x_iload 7) ((xe_iconst 4096).trans (congrArg (x_iconst 4096) ((xe_if_icmp .ge 80).trans (congrArg (x_if_icmp .ge 80 K) ((xe_iload 6).trans (congrArg (x_iload 6) ((xe_ifCond .eq 80).trans (congrArg (x_ifCond .eq 80 K) ((xe_iload 4).trans (congrArg (x_iload 4) ((xe_ifCond .ne 80).trans (congrArg (x_ifCond .ne 80 K) ((xe_iload 7).trans (congrArg (x_iload 7) ((xe_iload 1).trans (congrArg (x_iload 1) ((xe_iand).trans (congrArg (x_iand) ((xe_iload 7).trans (congrArg (x_iload 7) ((xe_if_icmp .ne 67).trans (congrArg (x_if_icmp .ne 67 K) ((xe_aload 0).trans (congrArg (x_aload 0) ((xe_g1 (kk := 111) rfl tl_11_96).trans (congrArg (x_g1 111 296) ((xe_iload 7).trans (congrArg (x_iload 7) ((xe_iaload).trans (congrArg (x_iaload) ((xe_iload 7).trans (congrArg (x_iload 7) ((xe_iload 2).trans (congrArg (x_iload 2) ((xe_iload 3).trans (congrArg (x_iload 3) ((xe_iload 5).trans (congrArg (x_iload 5) xe_nil))))))))))))))))))))))))))))))))))))))))
theorem bk_X11_settle_80 : ck_ fX11 (some .int) cX11_settle 80 [.goto 6] 83 = true := qck_r (nn_ _) (by decide +kernel)
theorem bs_X11_settle_80 {P : Zt → Option Zv → Prop} (K : Int → Zl → List Zv → Zt → Prop) : sx_ K P [.goto 6] 83 = x_goto 6 K := (xe_goto 6)
theorem bk_X11_settle_67 : ck_ fX11 (some .int) cX11_settle 67 [.iconst 1, .goto 72] 71 = true := qck_r (nn_ _) (by decide +kernel)
theorem bs_X11_settle_67 {P : Zt → Option Zv → Prop} (K : Int → Zl → List Zv → Zt → Prop) : sx_ K P [.iconst 1, .goto 72] 71 = x_iconst 1 (x_goto 72 K) := ((xe_iconst 1).trans (congrArg (x_iconst 1) (xe_goto 72)))
theorem bk_X11_settle_72 : ck_ fX11 (some .int) cX11_settle 72 [.istore 6, .iinc 7 1, .goto 20] 80 = true := qck_r (nn_ _) (by decide +kernel)
theorem bs_X11_settle_72 {P : Zt → Option Zv → Prop} (K : Int → Zl → List Zv → Zt → Prop) : sx_ K P [.istore 6, .iinc 7 1, .goto 20] 80 = x_istore 6 (x_iinc 7 1 (x_goto 20 K)) := ((xe_istore 6).trans (congrArg (x_istore 6) ((xe_iinc 7 1).trans (congrArg (x_iinc 7 1) (xe_goto 20)))))
set_option maxRecDepth 100000 in
theorem cl_X11_541 : cs_ RX11 541 yX11_changeOf zX11_changeOf 4 := ⟨gi_S (lwq_10 (dqa_m (dqa_m (List.mem_of_getElem? (i := 0) rfl))) rfl : Cond.methodLink RX11 541 yX11_changeOf ∈ lw_g) (lwq_10 (dqa_m (dqa_m (List.mem_of_getElem? (i := 1) rfl))) rfl : Cond.static yX11_changeOf ∈ lw_g) (lwq_1 (dqa_m (List.mem_of_getElem? (i := 2) rfl)) rfl : Cond.initialized yX11_changeOf.cls ∈ lw_g) (lwq_10 (dqa_m (dqa_m (List.mem_of_getElem? (i := 2) rfl))) rfl : Cond.code yX11_changeOf cX11_changeOf 6 (some .int) ∈ lw_g), ⟨by decide, by decide, by decide +kernel⟩⟩
theorem bk_X11_settle_63 : ck_ fX11 (some .int) cX11_settle 63 [.iadd, .ifCond .lt 71, .iconst 1, .goto 72] 71 = true := qck_r (nn_ _) (by decide +kernel)
theorem bs_X11_settle_63 {P : Zt → Option Zv → Prop} (K : Int → Zl → List Zv → Zt → Prop) : sx_ K P [.iadd, .ifCond .lt 71, .iconst 1, .goto 72] 71 = x_iadd (x_ifCond .lt 71 K (x_iconst 1 (x_goto 72 K))) := ((xe_iadd).trans (congrArg (x_iadd) ((xe_ifCond .lt 71).trans (congrArg (x_ifCond .lt 71 K) ((xe_iconst 1).trans (congrArg (x_iconst 1) (xe_goto 72)))))))
theorem bk_X11_settle_71 : ck_ fX11 (some .int) cX11_settle 71 [.iconst 0, .istore 6, .iinc 7 1, .goto 20] 80 = true := qck_r (nn_ _) (by decide +kernel)
theorem bs_X11_settle_71 {P : Zt → Option Zv → Prop} (K : Int → Zl → List Zv → Zt → Prop) : sx_ K P [.iconst 0, .istore 6, .iinc 7 1, .goto 20] 80 = x_iconst 0 (x_istore 6 (x_iinc 7 1 (x_goto 20 K))) := ((xe_iconst 0).trans (congrArg (x_iconst 0) ((xe_istore 6).trans (congrArg (x_istore 6) ((xe_iinc 7 1).trans (congrArg (x_iinc 7 1) (xe_goto 20)))))))
theorem bk_X11_settle_86 : ck_ fX11 (some .int) cX11_settle 86 [.iload 7, .iconst 4096, .if_icmp .ge 137, .iload 4, .ifCond .ne 137, .aload 0, .tableswitch 0 11 96 #[], .iload 7, .dup2, .iaload, .iload 7, .iload 1, .iand, .iload 7, .if_icmp .ne 128, .iload 7, .iload 2, .iload 3, .iload 5] 122 = true := qck_r (nn_ _) (by decide +kernel)
theorem bs_X11_settle_86 {P : Zt → Option Zv → Prop} (K : Int → Zl → List Zv → Zt → Prop) : sx_ K P [.iload 7, .iconst 4096, .if_icmp .ge 137, .iload 4, .ifCond .ne 137, .aload 0, .tableswitch 0 11 96 #[], .iload 7, .dup2, .iaload, .iload 7, .iload 1, .iand, .iload 7, .if_icmp .ne 128, .iload 7, .iload 2, .iload 3, .iload 5] 122 = x_iload 7 (x_iconst 4096 (x_if_icmp .ge 137 K (x_iload 4 (x_ifCond .ne 137 K (x_aload 0 (x_g1 111 296 (x_iload 7 (x_dup2 (x_iaload (x_iload 7 (x_iload 1 (x_iand (x_iload 7 (x_if_icmp .ne 128 K (x_iload 7 (x_iload 2 (x_iload 3 (x_iload 5 (K 122))))))))))))))))))) := ((xe_iload 7).trans (congrArg (x_iload 7) ((xe_iconst 4096).trans (congrArg (x_iconst 4096) ((xe_if_icmp .ge 137).trans (congrArg (x_if_icmp .ge 137 K) ((xe_iload 4).trans (congrArg (x_iload 4) ((xe_ifCond .ne 137).trans (congrArg (x_ifCond .ne 137 K) ((xe_aload 0).trans (congrArg (x_aload 0) ((xe_g1 (kk := 111) rfl tl_11_96).trans (congrArg (x_g1 111 296) ((xe_iload 7).trans (congrArg (x_iload 7) ((xe_dup2).trans (congrArg (x_dup2) ((xe_iaload).trans (congrArg (x_iaload) ((xe_iload 7).trans (congrArg (x_iload 7) ((xe_iload 1).trans (congrArg (x_iload 1) ((xe_iand).trans (congrArg (x_iand) ((xe_iload 7).trans (congrArg (x_iload 7) ((xe_if_icmp .ne 128).trans (congrArg (x_if_icmp .ne 128 K) ((xe_iload 7).trans (congrArg (x_iload 7) ((xe_iload 2).trans (congrArg (x_iload 2) ((xe_iload 3).trans (congrArg (x_iload 3) ((xe_iload 5).trans (congrArg (x_iload 5) xe_nil))))))))))))))))))))))))))))))))))))))
theorem bk_X11_settle_137 : ck_ fX11 (some .int) cX11_settle 137 [.iload 5, .ireturn] 140 = true := qck_r (nn_ _) (by decide +kernel)
theorem bs_X11_settle_137 {P : Zt → Option Zv → Prop} (K : Int → Zl → List Zv → Zt → Prop) : sx_ K P [.iload 5, .ireturn] 140 = x_iload 5 (x_ireturn P) := ((xe_iload 5).trans (congrArg (x_iload 5) (xe_ireturn)))
theorem bk_X11_settle_128 : ck_ fX11 (some .int) cX11_settle 128 [.iconst 0, .iadd, .iastore, .iinc 7 1, .goto 86] 137 = true := qck_r (nn_ _) (by decide +kernel)
theorem bs_X11_settle_128 {P : Zt → Option Zv → Prop} (K : Int → Zl → List Zv → Zt → Prop) : sx_ K P [.iconst 0, .iadd, .iastore, .iinc 7 1, .goto 86] 137 = x_iconst 0 (x_iadd (x_iastore (x_iinc 7 1 (x_goto 86 K)))) := ((xe_iconst 0).trans (congrArg (x_iconst 0) ((xe_iadd).trans (congrArg (x_iadd) ((xe_iastore).trans (congrArg (x_iastore) ((xe_iinc 7 1).trans (congrArg (x_iinc 7 1) (xe_goto 86)))))))))
theorem bk_X11_settle_125 : ck_ fX11 (some .int) cX11_settle 125 [.goto 129] 128 = true := qck_r (nn_ _) (by decide +kernel)
theorem bs_X11_settle_125 {P : Zt → Option Zv → Prop} (K : Int → Zl → List Zv → Zt → Prop) : sx_ K P [.goto 129] 128 = x_goto 129 K := (xe_goto 129)
theorem bk_X11_settle_129 : ck_ fX11 (some .int) cX11_settle 129 [.iadd, .iastore, .iinc 7 1, .goto 86] 137 = true := qck_r (nn_ _) (by decide +kernel)
theorem bs_X11_settle_129 {P : Zt → Option Zv → Prop} (K : Int → Zl → List Zv → Zt → Prop) : sx_ K P [.iadd, .iastore, .iinc 7 1, .goto 86] 137 = x_iadd (x_iastore (x_iinc 7 1 (x_goto 86 K))) := ((xe_iadd).trans (congrArg (x_iadd) ((xe_iastore).trans (congrArg (x_iastore) ((xe_iinc 7 1).trans (congrArg (x_iinc 7 1) (xe_goto 86)))))))
theorem bk_X11_settle_6 : ck_ fX11 (some .int) cX11_settle 6 [.iload 6, .ifCond .ne 83, .iinc 5 1, .iconst 1, .istore 6, .iconst 1, .istore 7] 20 = true := qck_r (nn_ _) (by decide +kernel)
theorem bs_X11_settle_6 {P : Zt → Option Zv → Prop} (K : Int → Zl → List Zv → Zt → Prop) : sx_ K P [.iload 6, .ifCond .ne 83, .iinc 5 1, .iconst 1, .istore 6, .iconst 1, .istore 7] 20 = x_iload 6 (x_ifCond .ne 83 K (x_iinc 5 1 (x_iconst 1 (x_istore 6 (x_iconst 1 (x_istore 7 (K 20))))))) := ((xe_iload 6).trans (congrArg (x_iload 6) ((xe_ifCond .ne 83).trans (congrArg (x_ifCond .ne 83 K) ((xe_iinc 5 1).trans (congrArg (x_iinc 5 1) ((xe_iconst 1).trans (congrArg (x_iconst 1) ((xe_istore 6).trans (congrArg (x_istore 6) ((xe_iconst 1).trans (congrArg (x_iconst 1) ((xe_istore 7).trans (congrArg (x_istore 7) xe_nil))))))))))))))
theorem bk_X11_settle_83 : ck_ fX11 (some .int) cX11_settle 83 [.iconst 1, .istore 7] 86 = true := qck_r (nn_ _) (by decide +kernel)
theorem bs_X11_settle_83 {P : Zt → Option Zv → Prop} (K : Int → Zl → List Zv → Zt → Prop) : sx_ K P [.iconst 1, .istore 7] 86 = x_iconst 1 (x_istore 7 (K 86)) := ((xe_iconst 1).trans (congrArg (x_iconst 1) ((xe_istore 7).trans (congrArg (x_istore 7) xe_nil))))
theorem bk_X11_settle_0 : ck_ fX11 (some .int) cX11_settle 0 [.iconst (-1), .istore 5, .iconst 0, .istore 6] 6 = true := qck_r (nn_ _) (by decide +kernel)
theorem bs_X11_settle_0 {P : Zt → Option Zv → Prop} (K : Int → Zl → List Zv → Zt → Prop) : sx_ K P [.iconst (-1), .istore 5, .iconst 0, .istore 6] 6 = x_iconst (-1) (x_istore 5 (x_iconst 0 (x_istore 6 (K 6)))) := ((xe_iconst (-1)).trans (congrArg (x_iconst (-1)) ((xe_istore 5).trans (congrArg (x_istore 5) ((xe_iconst 0).trans (congrArg (x_iconst 0) ((xe_istore 6).trans (congrArg (x_istore 6) xe_nil))))))))
abbrev po_X11_settle (T : Zt) (l : List (Nat × Nat)) (o a b ev : Int) : Zt → Option Zv → Prop := fun T' r => ∃ x : Int, r = some (vI x) ∧ fr_ [(296, [])] T T' ∧ ((0 ≤ x ∧ x ≤ 2) ∧ (ev = 0 → SVE_ T' o l))
set_option maxHeartbeats 4000000 in
theorem ct_X11_settle {T : Zt} {l : List (Nat × Nat)} {o a b ev : Int} (hO : 0 ≤ o ∧ o ≤ 4095) (ha : 0 ≤ a ∧ a < 12) (hb : 0 ≤ b ∧ b < 12) (hev : 0 ≤ ev ∧ ev ≤ 1) (hs : ev = 0 → SW_ T o a b l) : Ct_ yX11_settle zX11_settle T [vR 111 0, vI o, vI a, vI b, vI ev] (po_X11_settle T l o a b ev) := by
  refine ct_of pn_11 rfl rfl (Nat.le_of_ble_eq_true rfl) (fun hT hav => ?_)
  have hr_o : -2147483648 ≤ o ∧ o ≤ 2147483647 := hav (vI o) (List.mem_cons_of_mem _ List.mem_cons_self)
  have hr_a : -2147483648 ≤ a ∧ a ≤ 2147483647 := hav (vI a) (List.mem_cons_of_mem _ (List.mem_cons_of_mem _ List.mem_cons_self))
  have hr_b : -2147483648 ≤ b ∧ b ≤ 2147483647 := hav (vI b) (List.mem_cons_of_mem _ (List.mem_cons_of_mem _ (List.mem_cons_of_mem _ List.mem_cons_self)))
  have hr_ev : -2147483648 ≤ ev ∧ ev ≤ 2147483647 := hav (vI ev) (List.mem_cons_of_mem _ (List.mem_cons_of_mem _ (List.mem_cons_of_mem _ (List.mem_cons_of_mem _ List.mem_cons_self))))
  have hz : zX11_settle.2.2.2.1 = some .boolean → ∀ (T' : Zt) (x : Int), po_X11_settle T l o a b ev T' (some (vI x)) → 0 ≤ x ∧ x ≤ 1 := fun h => by cases h
  show J_ zX11_settle T (po_X11_settle T l o a b ev) 0 0 0 [some (vR 111 0), some (vI o), some (vI a), some (vI b), some (vI ev), none, none, none] [] T
  have c_6 : ∀ (nn : Nat) (w : Int) (g : Int), ((3 - w).toNat) ≤ nn → (PW_ T o a b ev g w) → J_ zX11_settle T (po_X11_settle T l o a b ev) 0 0 6 [some (vR 111 0), some (vI o), some (vI a), some (vI b), some (vI ev), some (vI w), some (vI g), none] [] T := by
    intro nn
    induction nn using Nat.strongRecOn with
    | _ nn ih_6 =>
      intro w g hm_6 hw
      replace hm_6 := fun (_ : Unit) => hm_6
      have c_20 : ∀ (nn : Nat) (g2 : Int) (s : Int), ((4096 - s).toNat) ≤ nn → (1 ≤ s ∧ s ≤ 4096 ∧ g = 0) → ((g2 = 1 ∧ OKW_ T o a b (w + 1) s) ∨ (g2 = 0 ∧ ev = 0 ∧ NW_ T o a b (w + 1))) → J_ zX11_settle T (po_X11_settle T l o a b ev) 0 0 20 [some (vR 111 0), some (vI o), some (vI a), some (vI b), some (vI ev), some (vI (w + 1)), some (vI g2), some (vI s)] [] T := by
        intro nn
        induction nn using Nat.strongRecOn with
        | _ nn ih_20 =>
          intro g2 s hm_20 j1 h20
          replace hm_20 := fun (_ : Unit) => hm_20
          have hw6 := pw_2 (by rw [j1.2.2] at hw; exact hw) hs hO
          refine j_blx (F := fX11) tb_X11 (nn_ _) bk_X11_settle_20 bs_X11_settle_20 hz (fun K hK => ?_)
          refine And.intro (fun c1 => ?_) (fun c1 => ?_)
          · refine hK 80 _ [] T ?_
            refine j_blx (F := fX11) tb_X11 (nn_ _) bk_X11_settle_80 bs_X11_settle_80 hz (fun K hK => ?_)
            refine hK 6 _ [] T ?_
            refine j_drop [some (vR 111 0), some (vI o), some (vI a), some (vI b), some (vI ev), some (vI (w + 1)), some (vI g2), none] (fun k v hk => ?_) rfl ?_
            · match k, hk with
              | 0, hk => exact hk
              | 1, hk => exact hk
              | 2, hk => exact hk
              | 3, hk => exact hk
              | 4, hk => exact hk
              | 5, hk => exact hk
              | 6, hk => exact hk
              | 7, hk => cases hk
              | k + 8, hk => cases hk
            refine ih_6 _ ?_ (w + 1) g2 (Nat.le_refl _) ?_
            · have hm_6 := hm_6 (); omega
            · first
              | (rcases h20 with z | z
                 · exact Or.inr ⟨z.1, by omega, by omega, fun e9 => by rw [show (4096 : Int) = s by omega]; exact z.2⟩
                 · exact Or.inl ⟨z.1, Or.inl z.2.1, by omega, fun u p q => by
                     by_cases y : u = w + 1
                     · rw [y]; exact z.2.2
                     · exact hw6.2.2 u p (by omega)⟩)
              | (rcases h20 with z | z
                 · exact Or.inr ⟨z.1, by omega, by omega, fun e9 => by omega⟩
                 · exact absurd z.2.1 (by omega))
          · refine And.intro (fun c2 => ?_) (fun c2 => ?_)
            · refine hK 80 [some (vR 111 0), some (vI o), some (vI a), some (vI b), some (vI ev), some (vI (w + 1)), some (vI g2), some (vI s)] [] T ?_
              refine j_blx (F := fX11) tb_X11 (nn_ _) bk_X11_settle_80 bs_X11_settle_80 hz (fun K hK => ?_)
              refine hK 6 _ [] T ?_
              refine j_drop [some (vR 111 0), some (vI o), some (vI a), some (vI b), some (vI ev), some (vI (w + 1)), some (vI g2), none] (fun k v hk => ?_) rfl ?_
              · match k, hk with
                | 0, hk => exact hk
                | 1, hk => exact hk
                | 2, hk => exact hk
                | 3, hk => exact hk
                | 4, hk => exact hk
                | 5, hk => exact hk
                | 6, hk => exact hk
                | 7, hk => cases hk
                | k + 8, hk => cases hk
              refine ih_6 _ ?_ (w + 1) g2 (Nat.le_refl _) ?_
              · have hm_6 := hm_6 (); omega
              · first
                | (rcases h20 with z | z
                   · exact Or.inr ⟨z.1, by omega, by omega, fun e9 => by rw [show (4096 : Int) = s by omega]; exact z.2⟩
                   · exact Or.inl ⟨z.1, Or.inl z.2.1, by omega, fun u p q => by
                       by_cases y : u = w + 1
                       · rw [y]; exact z.2.2
                       · exact hw6.2.2 u p (by omega)⟩)
                | (rcases h20 with z | z
                   · exact Or.inr ⟨z.1, by omega, by omega, fun e9 => by omega⟩
                   · exact absurd z.2.1 (by omega))
            · refine And.intro (fun c3 => ?_) (fun c3 => ?_)
              · refine hK 80 [some (vR 111 0), some (vI o), some (vI a), some (vI b), some (vI ev), some (vI (w + 1)), some (vI g2), some (vI s)] [] T ?_
                refine j_blx (F := fX11) tb_X11 (nn_ _) bk_X11_settle_80 bs_X11_settle_80 hz (fun K hK => ?_)
                refine hK 6 _ [] T ?_
                refine j_drop [some (vR 111 0), some (vI o), some (vI a), some (vI b), some (vI ev), some (vI (w + 1)), some (vI g2), none] (fun k v hk => ?_) rfl ?_
                · match k, hk with
                  | 0, hk => exact hk
                  | 1, hk => exact hk
                  | 2, hk => exact hk
                  | 3, hk => exact hk
                  | 4, hk => exact hk
                  | 5, hk => exact hk
                  | 6, hk => exact hk
                  | 7, hk => cases hk
                  | k + 8, hk => cases hk
                refine ih_6 _ ?_ (w + 1) g2 (Nat.le_refl _) ?_
                · have hm_6 := hm_6 (); omega
                · first
                  | (rcases h20 with z | z
                     · exact Or.inr ⟨z.1, by omega, by omega, fun e9 => by rw [show (4096 : Int) = s by omega]; exact z.2⟩
                     · exact Or.inl ⟨z.1, Or.inl z.2.1, by omega, fun u p q => by
                         by_cases y : u = w + 1
                         · rw [y]; exact z.2.2
                         · exact hw6.2.2 u p (by omega)⟩)
                  | (rcases h20 with z | z
                     · exact Or.inr ⟨z.1, by omega, by omega, fun e9 => by omega⟩
                     · exact absurd z.2.1 (by omega))
              · intro w4 w4b
                refine And.intro (fun c5 => ?_) (fun c5 => ?_)
                · refine hK 67 [some (vR 111 0), some (vI o), some (vI a), some (vI b), some (vI ev), some (vI (w + 1)), some (vI g2), some (vI s)] [] T ?_
                  refine j_blx (F := fX11) tb_X11 (nn_ _) bk_X11_settle_67 bs_X11_settle_67 hz (fun K hK => ?_)
                  refine hK 72 _ [vI 1] T ?_
                  refine j_blx (F := fX11) tb_X11 (nn_ _) bk_X11_settle_72 bs_X11_settle_72 hz (fun K hK => ?_)
                  refine rg_i (by omega) ?_
                  refine hK 20 [some (vR 111 0), some (vI o), some (vI a), some (vI b), some (vI ev), some (vI (w + 1)), some (vI 1), some (vI (s + 1))] [] T ?_
                  refine ih_20 _ ?_ 1 (s + 1) (Nat.le_refl _) ?_ ?_
                  · have hm_20 := hm_20 (); omega
                  · omega
                  · refine Or.inl ⟨rfl, fun t p q r => ?_⟩
                    by_cases z : t = s
                    · first
                      | (rw [z]; omega)
                      | exact absurd (z ▸ r) (by omega)
                    · rcases h20 with y | y
                      · exact y.2 t p (by omega) r
                      · omega
                · refine ix_i (by omega) ?_
                  intro b6 b6b
                  refine hK 60 [some (vR 111 0), some (vI o), some (vI a), some (vI b), some (vI ev), some (vI (w + 1)), some (vI g2), some (vI s)] [vI (w + 1), vI b, vI a, vI s, vI (T 296 0 s)] T ?_
                  have hb6 := sw_b (s := s) (hs (by omega)) (by omega) (by omega) (by omega)
                  have hc6 := ch_b s.toNat a.toNat b.toNat (w := w + 1) (by omega)
                  refine j_callS (y := yX11_changeOf) (Yc := zX11_changeOf) (rest := [vI (T 296 0 s)]) [vI s, vI a, vI b, vI (w + 1)] (ct_X11_changeOf (T := T) (by omega) (by omega) (by omega) (by omega)) cl_X11_541 (qd_c (by decide +kernel)) (nn_ _) rfl (rf_of rfl) (Nat.le_of_ble_eq_true rfl) (Nat.le_of_ble_eq_true rfl) (Nat.le_of_ble_eq_true rfl) rfl ?_
                  rintro _ _ ⟨rfl, rfl⟩
                  show J_ zX11_settle T (po_X11_settle T l o a b ev) 0 0 63 _ [vI (ch_ s.toNat a.toNat b.toNat (w + 1)), vI (T 296 0 s)] T
                  refine j_blx (F := fX11) tb_X11 (nn_ _) bk_X11_settle_63 bs_X11_settle_63 hz (fun K hK => ?_)
                  refine rg_i (by omega) ?_
                  refine And.intro (fun c7 => ?_) (fun c7 => ?_)
                  · refine hK 71 _ [] T ?_
                    refine j_blx (F := fX11) tb_X11 (nn_ _) bk_X11_settle_71 bs_X11_settle_71 hz (fun K hK => ?_)
                    refine rg_i (by omega) ?_
                    refine hK 20 [some (vR 111 0), some (vI o), some (vI a), some (vI b), some (vI ev), some (vI (w + 1)), some (vI 0), some (vI (s + 1))] [] T ?_
                    refine ih_20 _ ?_ 0 (s + 1) (Nat.le_refl _) ?_ ?_
                    · have hm_20 := hm_20 (); omega
                    · omega
                    · exact Or.inr ⟨rfl, by omega, s, by omega, by omega, by omega, by omega⟩
                  · refine hK 72 [some (vR 111 0), some (vI o), some (vI a), some (vI b), some (vI ev), some (vI (w + 1)), some (vI g2), some (vI s)] [vI 1] T ?_
                    refine j_blx (F := fX11) tb_X11 (nn_ _) bk_X11_settle_72 bs_X11_settle_72 hz (fun K hK => ?_)
                    refine rg_i (by omega) ?_
                    refine hK 20 [some (vR 111 0), some (vI o), some (vI a), some (vI b), some (vI ev), some (vI (w + 1)), some (vI 1), some (vI (s + 1))] [] T ?_
                    refine ih_20 _ ?_ 1 (s + 1) (Nat.le_refl _) ?_ ?_
                    · have hm_20 := hm_20 (); omega
                    · omega
                    · refine Or.inl ⟨rfl, fun t p q r => ?_⟩
                      by_cases z : t = s
                      · first
                        | (rw [z]; omega)
                        | exact absurd (z ▸ r) (by omega)
                      · rcases h20 with y | y
                        · exact y.2 t p (by omega) r
                        · omega
      have c_86 : ∀ (nn : Nat) (s : Int) (T1 : Zt), ((4096 - s).toNat) ≤ nn → (fr_ [(296, [])] T T1) → (1 ≤ s ∧ s ≤ 4096 ∧ g ≠ 0) → (∀ t, 1 ≤ t → t < s → an_ t o = t → T1 296 0 t = T 296 0 t + ch_ t.toNat a.toNat b.toNat w) → (∀ t, t < 1 ∨ s ≤ t → T1 296 0 t = T 296 0 t) → J_ zX11_settle T (po_X11_settle T l o a b ev) 0 0 86 [some (vR 111 0), some (vI o), some (vI a), some (vI b), some (vI ev), some (vI w), some (vI g), some (vI s)] [] T1 := by
        intro nn
        induction nn using Nat.strongRecOn with
        | _ nn ih_86 =>
          intro s T1 hm_86 hf_86 j1 u1 k1
          replace hm_86 := fun (_ : Unit) => hm_86
          have hw7 := pw_1 hw j1.2.2
          refine j_blx (F := fX11) tb_X11 (nn_ _) bk_X11_settle_86 bs_X11_settle_86 hz (fun K hK => ?_)
          refine And.intro (fun c8 => ?_) (fun c8 => ?_)
          · refine hK 137 _ [] T1 ?_
            refine j_blx (F := fX11) tb_X11 (nn_ _) bk_X11_settle_137 bs_X11_settle_137 hz (fun K hK => ?_)
            refine (show po_X11_settle T l o a b ev T1 (some (vI w)) from ?_)
            exact ⟨_, rfl, fr_t (fr_0 _ _) (fr_s hf_86 rfl), by omega, fun z => sw_p (hs z) ha hb (by omega) (hw7.2.2 z) (fun t p q r => u1 t p (by omega) r) (k1 0 (Or.inl (by decide)))⟩
          · refine And.intro (fun c9 => ?_) (fun c9 => ?_)
            · refine hK 137 _ [] T1 ?_
              refine j_blx (F := fX11) tb_X11 (nn_ _) bk_X11_settle_137 bs_X11_settle_137 hz (fun K hK => ?_)
              refine (show po_X11_settle T l o a b ev T1 (some (vI w)) from ?_)
              exact ⟨_, rfl, fr_t (fr_0 _ _) (fr_s hf_86 rfl), by omega, fun z => sw_p (hs z) ha hb (by omega) (hw7.2.2 z) (fun t p q r => u1 t p (by omega) r) (k1 0 (Or.inl (by decide)))⟩
            · refine ix_i (by omega) ?_
              intro b10 b10b
              have hk7 := k1 s (Or.inr (by omega))
              intro w11 w11b
              refine And.intro (fun c12 => ?_) (fun c12 => ?_)
              · refine hK 128 _ [vI (T1 296 0 s), vI s, vR 296 0] T1 ?_
                refine j_blx (F := fX11) tb_X11 (nn_ _) bk_X11_settle_128 bs_X11_settle_128 hz (fun K hK => ?_)
                refine rg_i (by omega) ?_
                refine iy_i (by omega) (by omega) ?_
                refine x_nm (fun U13 hU13 => ?_)
                have e14 := up_f hU13
                refine rg_i (by omega) ?_
                refine hK 86 [some (vR 111 0), some (vI o), some (vI a), some (vI b), some (vI ev), some (vI w), some (vI g), some (vI (s + 1))] [] U13 ?_
                refine ih_86 _ ?_ (s + 1) U13 (Nat.le_refl _) ?_ ?_ ?_ ?_
                · have hm_86 := hm_86 (); omega
                · exact fr_u (fr_t (fr_0 _ _) (fr_s hf_86 rfl)) hU13 rfl
                · omega
                · intro t p q r
                  by_cases z : t = s
                  · first
                    | (rw [z, up_f hU13]; omega)
                    | exact absurd (z ▸ r) (by omega)
                  · rw [up_g hU13 (fun q => z q.2.2)]; exact u1 t p (by omega) r
                · exact fun t p => (up_g hU13 (by omega)).trans (k1 t (by omega))
              · refine hK 122 [some (vR 111 0), some (vI o), some (vI a), some (vI b), some (vI ev), some (vI w), some (vI g), some (vI s)] [vI w, vI b, vI a, vI s, vI (T1 296 0 s), vI s, vR 296 0] T1 ?_
                have hb7 := sw_b (s := s) (hs (by omega)) (by omega) (by omega) (by omega)
                have hc7 := ch_b s.toNat a.toNat b.toNat (w := w) (by omega)
                refine j_callS (y := yX11_changeOf) (Yc := zX11_changeOf) (rest := [vI (T1 296 0 s), vI s, vR 296 0]) [vI s, vI a, vI b, vI w] (ct_X11_changeOf (T := T1) (by omega) (by omega) (by omega) (by omega)) cl_X11_541 (qd_c (by decide +kernel)) (nn_ _) rfl (rf_of rfl) (Nat.le_of_ble_eq_true rfl) (Nat.le_of_ble_eq_true rfl) (Nat.le_of_ble_eq_true rfl) rfl ?_
                rintro _ _ ⟨rfl, rfl⟩
                show J_ zX11_settle T (po_X11_settle T l o a b ev) 0 0 125 _ [vI (ch_ s.toNat a.toNat b.toNat w), vI (T1 296 0 s), vI s, vR 296 0] T1
                refine j_blx (F := fX11) tb_X11 (nn_ _) bk_X11_settle_125 bs_X11_settle_125 hz (fun K hK => ?_)
                refine hK 129 _ [vI (ch_ s.toNat a.toNat b.toNat w), vI (T1 296 0 s), vI s, vR 296 0] T1 ?_
                refine j_blx (F := fX11) tb_X11 (nn_ _) bk_X11_settle_129 bs_X11_settle_129 hz (fun K hK => ?_)
                refine rg_i (by omega) ?_
                refine iy_i (by omega) (by omega) ?_
                refine x_nm (fun U15 hU15 => ?_)
                have e16 := up_f hU15
                refine rg_i (by omega) ?_
                refine hK 86 [some (vR 111 0), some (vI o), some (vI a), some (vI b), some (vI ev), some (vI w), some (vI g), some (vI (s + 1))] [] U15 ?_
                refine ih_86 _ ?_ (s + 1) U15 (Nat.le_refl _) ?_ ?_ ?_ ?_
                · have hm_86 := hm_86 (); omega
                · exact fr_u (fr_t (fr_0 _ _) (fr_s hf_86 rfl)) hU15 rfl
                · omega
                · intro t p q r
                  by_cases z : t = s
                  · first
                    | (rw [z, up_f hU15]; omega)
                    | exact absurd (z ▸ r) (by omega)
                  · rw [up_g hU15 (fun q => z q.2.2)]; exact u1 t p (by omega) r
                · exact fun t p => (up_g hU15 (by omega)).trans (k1 t (by omega))
      refine j_blx (F := fX11) tb_X11 (nn_ _) bk_X11_settle_6 bs_X11_settle_6 hz (fun K hK => ?_)
      refine And.intro (fun c17 => ?_) (fun c17 => ?_)
      · have hw7 := pw_1 hw (by omega)
        refine hK 83 _ [] T ?_
        refine j_blx (F := fX11) tb_X11 (nn_ _) bk_X11_settle_83 bs_X11_settle_83 hz (fun K hK => ?_)
        refine hK 86 [some (vR 111 0), some (vI o), some (vI a), some (vI b), some (vI ev), some (vI w), some (vI g), some (vI 1)] [] T ?_
        refine c_86 _ 1 T (Nat.le_refl _) ?_ ?_ ?_ ?_
        · exact fr_0 _ _
        · omega
        · intro t p q; omega
        · exact fun _ _ => rfl
      · have hw6 := pw_2 (by rw [show g = 0 by omega] at hw; exact hw) hs hO
        refine rg_i (by omega) ?_
        refine hK 20 [some (vR 111 0), some (vI o), some (vI a), some (vI b), some (vI ev), some (vI (w + 1)), some (vI 1), some (vI 1)] [] T ?_
        refine c_20 _ 1 1 (Nat.le_refl _) ?_ ?_
        · omega
        · exact Or.inl ⟨rfl, fun t p q => by omega⟩
  refine j_blx (F := fX11) tb_X11 (nn_ _) bk_X11_settle_0 bs_X11_settle_0 hz (fun K hK => ?_)
  refine hK 6 [some (vR 111 0), some (vI o), some (vI a), some (vI b), some (vI ev), some (vI (-1)), some (vI 0), none] [] T ?_
  refine c_6 _ (-1) 0 (Nat.le_refl _) ?_
  · exact Or.inl ⟨rfl, Or.inr rfl, by decide, fun u a b => by omega⟩
