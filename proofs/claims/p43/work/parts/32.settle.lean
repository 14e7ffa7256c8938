abbrev cX11_changeOf : ByteArray := prog_13_method_102_code
def yX11_changeOf : MethodName := ⟨RX11, "changeOf", "(IIII)I"⟩
def zX11_changeOf : Zm := (RX11, cX11_changeOf, 6, (some .int), { frames := 0, cells := 0, slots := 0, locals := 0 })
theorem bk_X11_changeOf_0 : ck_ fX11 (some .int) cX11_changeOf 0 [.iload 0, .iload 1, .ishr, .iconst 1, .iand, .istore 4, .iload 0, .iload 2, .ishr, .iconst 1, .iand, .istore 5, .iconst 2, .iload 4, .imul, .iload 5, .imul, .iconst 2, .iload 3, .isub, .iload 4, .imul, .isub, .iload 3, .iload 5, .imul, .isub, .ireturn] 34 = true := qck_r (nn_ _) (by decide +kernel)
theorem bs_X11_changeOf_0 {P : Zt → Option Zv → Prop} (K : Int → Zl → List Zv → Zt → Prop) : sx_ K P [.iload 0, .iload 1, .ishr, .iconst 1, .iand, .istore 4, .iload 0, .iload 2, .ishr, .iconst 1, .iand, .istore 5, .iconst 2, .iload 4, .imul, .iload 5, .imul, .iconst 2, .iload 3, .isub, .iload 4, .imul, .isub, .iload 3, .iload 5, .imul, .isub, .ireturn] 34 = x_iload 0 (x_iload 1 (x_ishr (x_iconst 1 (x_iand (x_istore 4 (x_iload 0 (x_iload 2 (x_ishr (x_iconst 1 (x_iand (x_istore 5 (x_iconst 2 (x_iload 4 (x_imul (x_iload 5 (x_imul (x_iconst 2 (x_iload 3 (x_isub (x_iload 4 (x_imul (x_isub (x_iload 3 (x_iload 5 (x_imul (x_isub (x_ireturn P))))))))))))))))))))))))))) := ((xe_iload 0).trans (congrArg (x_iload 0) ((xe_iload 1).trans (congrArg (x_iload 1) ((xe_ishr).trans (congrArg (x_ishr) ((xe_iconst 1).trans (congrArg (x_iconst 1) ((xe_iand).trans (congrArg (x_iand) ((xe_istore 4).trans (congrArg (x_istore 4) ((xe_iload 0).trans (congrArg (x_iload 0) ((xe_iload 2).trans (congrArg (x_iload 2) ((xe_ishr).trans (congrArg (x_ishr) ((xe_iconst 1).trans (congrArg (x_iconst 1) ((xe_iand).trans (congrArg (x_iand) ((xe_istore 5).trans (congrArg (x_istore 5) ((xe_iconst 2).trans (congrArg (x_iconst 2) ((xe_iload 4).trans (congrArg (x_iload 4) ((xe_imul).trans (congrArg (x_imul) ((xe_iload 5).trans (congrArg (x_iload 5) ((xe_imul).trans (congrArg (x_imul) ((xe_iconst 2).trans (congrArg (x_iconst 2) ((xe_iload 3).trans (congrArg (x_iload 3) ((xe_isub).trans (congrArg (x_isub) ((xe_iload 4).trans (congrArg (x_iload 4) ((xe_imul).trans (congrArg (x_imul) ((xe_isub).trans (congrArg (x_isub) ((xe_iload 3).trans (congrArg (x_iload 3) ((xe_iload 5).trans (congrArg (x_iload 5) ((xe_imul).trans (congrArg (x_imul) ((xe_isub).trans (congrArg (x_isub) (xe_ireturn)))))))))))))))))))))))))))))))))))))))))))))))))))))))
abbrev po_X11_changeOf (T : Zt) (s a b w : Int) : Zt → Option Zv → Prop := fun T' r => T = T' ∧ r = some (vI (ch_ s.toNat a.toNat b.toNat w))
set_option maxHeartbeats 4000000 in
theorem ct_X11_changeOf {T : Zt} {s a b w : Int} (h1 : 0 ≤ s ∧ s < 4096) (h2 : 0 ≤ a ∧ a < 12) (h3 : 0 ≤ b ∧ b < 12) (h4 : 0 ≤ w ∧ w ≤ 2) : Ct_ yX11_changeOf zX11_changeOf T [vI s, vI a, vI b, vI w] (po_X11_changeOf T s a b w) := by
  refine ct_of pn_11 rfl rfl (Nat.le_of_ble_eq_true rfl) (fun hT hav => ?_)
  have hr_s : -2147483648 ≤ s ∧ s ≤ 2147483647 := hav (vI s) List.mem_cons_self
  have hr_a : -2147483648 ≤ a ∧ a ≤ 2147483647 := hav (vI a) (List.mem_cons_of_mem _ List.mem_cons_self)
  have hr_b : -2147483648 ≤ b ∧ b ≤ 2147483647 := hav (vI b) (List.mem_cons_of_mem _ (List.mem_cons_of_mem _ List.mem_cons_self))
  have hr_w : -2147483648 ≤ w ∧ w ≤ 2147483647 := hav (vI w) (List.mem_cons_of_mem _ (List.mem_cons_of_mem _ (List.mem_cons_of_mem _ List.mem_cons_self)))
  have hz : zX11_changeOf.2.2.2.1 = some .boolean → ∀ (T' : Zt) (x : Int), po_X11_changeOf T s a b w T' (some (vI x)) → 0 ≤ x ∧ x ≤ 1 := fun h => by cases h
  show J_ zX11_changeOf T (po_X11_changeOf T s a b w) 0 0 0 [some (vI s), some (vI a), some (vI b), some (vI w), none, none] [] T
  refine j_blx (F := fX11) tb_X11 (nn_ _) bk_X11_changeOf_0 bs_X11_changeOf_0 hz (fun K hK => ?_)
  intro w1 w1b
  intro w2 w2b
  intro w3 w3b
  intro w4 w4b
  have hA := bt_01 s.toNat a.toNat
  have hB := bt_01 s.toNat b.toNat
  rw [← bt_n (by omega) (by omega)] at hA hB
  refine rg_i (by omega) ?_
  refine rg_i (by rcases hA with z | z <;> rcases hB with y | y <;> rw [z, y] <;> omega) ?_
  refine rg_i (by omega) ?_
  refine rg_i (by rcases hA with z | z <;> rw [z] <;> omega) ?_
  refine rg_i (by rcases hA with z | z <;> rcases hB with y | y <;> rw [z, y] <;> omega) ?_
  refine rg_i (by rcases hB with z | z <;> rw [z] <;> omega) ?_
  refine rg_i (by rcases hA with z | z <;> rcases hB with y | y <;> rw [z, y] <;> omega) ?_
  refine (show po_X11_changeOf T s a b w T (some (vI ((((2 * (an_ (sr_ s a) 1)) * (an_ (sr_ s b) 1)) - ((2 - w) * (an_ (sr_ s a) 1))) - (w * (an_ (sr_ s b) 1))))) from ?_)
  exact ⟨rfl, by unfold ch_; rw [bt_n (by omega) (by omega), bt_n (by omega) (by omega)]⟩
def OKW_ (T : Zt) (o a b w n : Int) : Prop := ∀ t, 1 ≤ t → t < n → an_ t o = t → 0 ≤ T 296 0 t + ch_ t.toNat a.toNat b.toNat (w)
def PW_ (T : Zt) (o a b ev g w : Int) : Prop := (g = 0 ∧ (ev = 0 ∨ w = -1) ∧ -1 ≤ w ∧ ∀ u, 0 ≤ u → u ≤ w → NW_ T o a b u) ∨ (g = 1 ∧ 0 ≤ w ∧ w ≤ 2 ∧ (ev = 0 → OKW_ T o a b w 4096))
theorem pw_2 {T : Zt} {o a b ev w : Int} {l : List (Nat × Nat)} (h : PW_ T o a b ev 0 w) (hs : ev = 0 → SW_ T o a b l) (ho : 0 ≤ o ∧ o ≤ 4095) : -1 ≤ w ∧ w ≤ 1 ∧ ∀ u, 0 ≤ u → u ≤ w → NW_ T o a b u := by
  rcases h with ⟨_, h1, h2, h3⟩ | ⟨h, _⟩
  · refine ⟨h2, ?_, h3⟩
    apply Int.not_lt.mp
    intro hw
    have he : ev = 0 := by omega
    exact sw_n (hs he) ho (h3 0 (by omega) (by omega)) (h3 1 (by omega) (by omega)) (h3 2 (by omega) (by omega))
  · cases h
theorem pw_1 {T : Zt} {o a b ev w g : Int} (h : PW_ T o a b ev g w) (hg : g ≠ 0) : 0 ≤ w ∧ w ≤ 2 ∧ (ev = 0 → OKW_ T o a b w 4096) := by
  rcases h with ⟨h, _⟩ | ⟨_, h⟩
  · exact absurd h hg
  · exact h
abbrev cX11_settle : ByteArray := prog_13_method_103_code
def yX11_settle : MethodName := ⟨RX11, "settle", "(IIIZ)I"⟩
def zX11_settle : Zm := (RX11, cX11_settle, 8, (some .int), { frames := 1, cells := 0, slots := 0, locals := 25 })
theorem bk_X11_settle_20 : ck_ fX11 (some .int) cX11_settle 20 [.iload 7, .iconst 4096, .if_icmp .ge 80, .iload 6, .ifCond .eq 80, .iload 4, .ifCond .ne 80, .iload 7, .iload 1, .iand, .iload 7, .if_icmp .ne 67, .aload 0, .tableswitch 0 11 96 #[], .iload 7, .iaload, .iload 7, .iload 2, .iload 3, .iload 5] 60 = true := qck_r (nn_ _) (by decide +kernel)
theorem bs_X11_settle_20 {P : Zt → Option Zv → Prop} (K : Int → Zl → List Zv → Zt → Prop) : sx_ K P [.iload 7, .iconst 4096, .if_icmp .ge 80, .iload 6, .ifCond .eq 80, .iload 4, .ifCond .ne 80, .iload 7, .iload 1, .iand, .iload 7, .if_icmp .ne 67, .aload 0, .tableswitch 0 11 96 #[], .iload 7, .iaload, .iload 7, .iload 2, .iload 3, .iload 5] 60 = x_iload 7 (x_iconst 4096 (x_if_icmp .ge 80 K (x_iload 6 (x_ifCond .eq 80 K (x_iload 4 (x_ifCond .ne 80 K (x_iload 7 (x_iload 1 (x_iand (x_iload 7 (x_if_icmp .ne 67 K (x_aload 0 (x_g1 111 296 (x_iload 7 (x_iaload (x_iload 7 (x_iload 2 (x_iload 3 (x_iload 5 (K 60)))))))))))))))))))) := ((xe_iload 7).trans (congrArg (x_iload 7) ((xe_iconst 4096).trans (congrArg (x_iconst 4096) ((xe_if_icmp .ge 80).trans (congrArg (x_if_icmp .ge 80 K) ((xe_iload 6).trans (congrArg (x_iload 6) ((xe_ifCond .eq 80).trans (congrArg (x_ifCond .eq 80 K) ((xe_iload 4).trans (congrArg (x_iload 4) ((xe_ifCond .ne 80).trans (congrArg (x_ifCond .ne 80 K) ((xe_iload 7).trans (congrArg (x_iload 7) ((xe_iload 1).trans (congrArg (x_iload 1) ((xe_iand).trans (congrArg (x_iand) ((xe_iload 7).trans (congrArg (x_iload 7) ((xe_if_icmp .ne 67).trans (congrArg (x_if_icmp .ne 67 K) ((xe_aload 0).trans (congrArg (x_aload 0) ((xe_g1 (kk := 111) rfl tl_11_96).trans (congrArg (x_g1 111 296) ((xe_iload 7).trans (congrArg (x_iload 7) ((xe_iaload).trans (congrArg (x_iaload) ((xe_iload 7).trans (congrArg (x_iload 7) ((xe_iload 2).trans (congrArg (x_iload 2) ((xe_iload 3).trans (congrArg (x_iload 3) ((xe_iload 5).trans (congrArg (x_iload 5) xe_nil))))))))))))))))))))))))))))))))))))))))
theorem bk_X11_settle_80 : ck_ fX11 (some .int) cX11_settle 80 [.goto 6] 83 = true := qck_r (nn_ _) (by decide +kernel)
theorem bs_X11_settle_80 {P : Zt → Option Zv → Prop} (K : Int → Zl → List Zv → Zt → Prop) : sx_ K P [.goto 6] 83 = x_goto 6 K := (xe_goto 6)
theorem bk_X11_settle_67 : ck_ fX11 (some .int) cX11_settle 67 [.iconst 1, .goto 72] 71 = true := qck_r (nn_ _) (by decide +kernel)
theorem bs_X11_settle_67 {P : Zt → Option Zv → Prop} (K : Int → Zl → List Zv → Zt → Prop) : sx_ K P [.iconst 1, .goto 72] 71 = x_iconst 1 (x_goto 72 K) := ((xe_iconst 1).trans (congrArg (x_iconst 1) (xe_goto 72)))
theorem bk_X11_settle_72 : ck_ fX11 (some .int) cX11_settle 72 [.istore 6, .iinc 7 1, .goto 20] 80 = true := qck_r (nn_ _) (by decide +kernel)
theorem bs_X11_settle_72 {P : Zt → Option Zv → Prop} (K : Int → Zl → List Zv → Zt → Prop) : sx_ K P [.istore 6, .iinc 7 1, .goto 20] 80 = x_istore 6 (x_iinc 7 1 (x_goto 20 K)) := ((xe_istore 6).trans (congrArg (x_istore 6) ((xe_iinc 7 1).trans (congrArg (x_iinc 7 1) (xe_goto 20)))))
set_option maxRecDepth 100000 in
theorem cl_X11_541 : cs_ RX11 541 yX11_changeOf zX11_changeOf 4 := ⟨gi_S (lwq_10 (dqa_m (dqa_m (List.mem_of_getElem? (i := 0) rfl))) rfl : Cond.methodLink RX11 541 yX11_changeOf ∈ lw_g) (lwq_10 (dqa_m (dqa_m (List.mem_of_getElem? (i := 1) rfl))) rfl : Cond.static yX11_changeOf ∈ lw_g) (lwq_1 (dqa_m (List.mem_of_getElem? (i := 2) rfl)) rfl : Cond.initialized yX11_changeOf.cls ∈ lw_g) (lwq_10 (dqa_m (dqa_m (List.mem_of_getElem? (i := 2) rfl))) rfl : Cond.code yX11_changeOf cX11_changeOf 6 (some .int) ∈ lw_g), ⟨by decide, by decide, by decide +kernel⟩⟩
theorem bk_X11_settle_63 : ck_ fX11 (some .int) cX11_settle 63 [.iadd, .ifCond .lt 71, .iconst 1, .goto 72] 71 = true := qck_r (nn_ _) (by decide +kernel)
theorem bs_X11_settle_63 {P : Zt → Option Zv → Prop} (K : Int → Zl → List Zv → Zt → Prop) : sx_ K P [.iadd, .ifCond .lt 71, .iconst 1, .goto 72] 71 = x_iadd (x_ifCond .lt 71 K (x_iconst 1 (x_goto 72 K))) := ((xe_iadd).trans (congrArg (x_iadd) ((xe_ifCond .lt 71).trans (congrArg (x_ifCond .lt 71 K) ((xe_iconst 1).trans (congrArg (x_iconst 1) (xe_goto 72)))))))
theorem bk_X11_settle_71 : ck_ fX11 (some .int) cX11_settle 71 [.iconst 0, .istore 6, .iinc 7 1, .goto 20] 80 = true := qck_r (nn_ _) (by decide +kernel)
theorem bs_X11_settle_71 {P : Zt → Option Zv → Prop} (K : Int → Zl → List Zv → Zt → Prop) : sx_ K P [.iconst 0, .istore 6, .iinc 7 1, .goto 20] 80 = x_iconst 0 (x_istore 6 (x_iinc 7 1 (x_goto 20 K))) := ((xe_iconst 0).trans (congrArg (x_iconst 0) ((xe_istore 6).trans (congrArg (x_istore 6) ((xe_iinc 7 1).trans (congrArg (x_iinc 7 1) (xe_goto 20)))))))
theorem bk_X11_settle_86 : ck_ fX11 (some .int) cX11_settle 86 [.iload 7, .iconst 4096, .if_icmp .ge 137, .iload 4, .ifCond .ne 137, .aload 0, .tableswitch 0 11 96 #[], .iload 7, .dup2, .iaload, .iload 7, .iload 1, .iand, .iload 7, .if_icmp .ne 128, .iload 7, .iload 2, .iload 3, .iload 5] 122 = true := qck_r (nn_ _) (by decide +kernel)
theorem bs_X11_settle_86 {P : Zt → Option Zv → Prop} (K : Int → Zl → List Zv → Zt → Prop) : sx_ K P [.iload 7, .iconst 4096, .if_icmp .ge 137, .iload 4, .ifCond .ne 137, .aload 0, .tableswitch 0 11 96 #[], .iload 7, .dup2, .iaload, .iload 7, .iload 1, .iand, .iload 7, .if_icmp .ne 128, .iload 7, .iload 2, .iload 3, .iload 5] 122 = x_iload 7 (x_iconst 4096 (x_if_icmp .ge 137 K (x_iload 4 (x_ifCond .ne 137 K (x_aload 0 (x_g1 111 296 (x_iload 7 (x_dup2 (x_iaload (x_iload 7 (x_iload 1 (x_iand (x_iload 7 (x_if_icmp .ne 128 K (x_iload 7 (x_iload 2 (x_iload 3 (x_iload 5 (K 122))))))))))))))))))) := ((xe_iload 7).trans (congrArg (x_iload 7) ((xe_iconst 4096).trans (congrArg (x_iconst 4096) ((xe_if_icmp .ge 137).trans (congrArg (x_if_icmp .ge 137 K) ((xe_iload 4).trans (congrArg (x_iload 4) ((xe_ifCond .ne 137).trans (congrArg (x_ifCond .ne 137 K) ((xe_aload 0).trans (congrArg (x_aload 0) ((xe_g1 (kk := 111) rfl tl_11_96).trans (congrArg (x_g1 111 296) ((xe_iload 7).trans (congrArg (x_iload 7) ((xe_dup2).trans (congrArg (x_dup2) ((xe_iaload).trans (congrArg (x_iaload) ((xe_iload 7).trans (congrArg (x_iload 7) ((xe_iload 1).trans (congrArg (x_iload 1) ((xe_iand).trans (congrArg (x_iand) ((xe_iload 7).trans (congrArg (x_iload 7) ((xe_if_icmp .ne 128).trans (congrArg (x_if_icmp .ne 128 K) ((xe_iload 7).trans (congrArg (x_iload 7) ((xe_iload 2).trans (congrArg (x_iload 2) ((xe_iload 3).trans (congrArg (x_iload 3) ((xe_iload 5).trans (congrArg (x_iload 5) xe_nil))))))))))))))))))))))))))))))))))))))
theorem bk_X11_settle_137 : ck_ fX11 (some .int) cX11_settle 137 [.iload 5, .ireturn] 140 = true := qck_r (nn_ _) (by decide +kernel)
theorem bs_X11_settle_137 {P : Zt → Option Zv → Prop} (K : Int → Zl → List Zv → Zt → Prop) : sx_ K P [.iload 5, .ireturn] 140 = x_iload 5 (x_ireturn P) := ((xe_iload 5).trans (congrArg (x_iload 5) (xe_ireturn)))
theorem bk_X11_settle_128 : ck_ fX11 (some .int) cX11_settle 128 [.iconst 0, .iadd, .iastore, .iinc 7 1, .goto 86] 137 = true := qck_r (nn_ _) (by decide +kernel)
theorem bs_X11_settle_128 {P : Zt → Option Zv → Prop} (K : Int → Zl → List Zv → Zt → Prop) : sx_ K P [.iconst 0, .iadd, .iastore, .iinc 7 1, .goto 86] 137 = x_iconst 0 (x_iadd (x_iastore (x_iinc 7 1 (x_goto 86 K)))) := ((xe_iconst 0).trans (congrArg (x_iconst 0) ((xe_iadd).trans (congrArg (x_iadd) ((xe_iastore).trans (congrArg (x_iastore) ((xe_iinc 7 1).trans (congrArg (x_iinc 7 1) (xe_goto 86)))))))))
theorem bk_X11_settle_125 : ck_ fX11 (some .int) cX11_settle 125 [.goto 129] 128 = true := qck_r (nn_ _) (by decide +kernel)
theorem bs_X11_settle_125 {P : Zt → Option Zv → Prop} (K : Int → Zl → List Zv → Zt → Prop) : sx_ K P [.goto 129] 128 = x_goto 129 K := (xe_goto 129)
theorem bk_X11_settle_129 : ck_ fX11 (some .int) cX11_settle 129 [.iadd, .iastore, .iinc 7 1, .goto 86] 137 = true := qck_r (nn_ _) (by decide +kernel)
theorem bs_X11_settle_129 {P : Zt → Option Zv → Prop} (K : Int → Zl → List Zv → Zt → Prop) : sx_ K P [.iadd, .iastore, .iinc 7 1, .goto 86] 137 = x_iadd (x_iastore (x_iinc 7 1 (x_goto 86 K))) := ((xe_iadd).trans (congrArg (x_iadd) ((xe_iastore).trans (congrArg (x_iastore) ((xe_iinc 7 1).trans (congrArg (x_iinc 7 1) (xe_goto 86)))))))
theorem bk_X11_settle_6 : ck_ fX11 (some .int) cX11_settle 6 [.iload 6, .ifCond .ne 83, .iinc 5 1, .iconst 1, .istore 6, .iconst 1, .istore 7] 20 = true := qck_r (nn_ _) (by decide +kernel)
theorem bs_X11_settle_6 {P : Zt → Option Zv → Prop} (K : Int → Zl → List Zv → Zt → Prop) : sx_ K P [.iload 6, .ifCond .ne 83, .iinc 5 1, .iconst 1, .istore 6, .iconst 1, .istore 7] 20 = x_iload 6 (x_ifCond .ne 83 K (x_iinc 5 1 (x_iconst 1 (x_istore 6 (x_iconst 1 (x_istore 7 (K 20))))))) := ((xe_iload 6).trans (congrArg (x_iload 6) ((xe_ifCond .ne 83).trans (congrArg (x_ifCond .ne 83 K) ((xe_iinc 5 1).trans (congrArg (x_iinc 5 1) ((xe_iconst 1).trans (congrArg (x_iconst 1) ((xe_istore 6).trans (congrArg (x_istore 6) ((xe_iconst 1).trans (congrArg (x_iconst 1) ((xe_istore 7).trans (congrArg (x_istore 7) xe_nil))))))))))))))
theorem bk_X11_settle_83 : ck_ fX11 (some .int) cX11_settle 83 [.iconst 1, .istore 7] 86 = true := qck_r (nn_ _) (by decide +kernel)
theorem bs_X11_settle_83 {P : Zt → Option Zv → Prop} (K : Int → Zl → List Zv → Zt → Prop) : sx_ K P [.iconst 1, .istore 7] 86 = x_iconst 1 (x_istore 7 (K 86)) := ((xe_iconst 1).trans (congrArg (x_iconst 1) ((xe_istore 7).trans (congrArg (x_istore 7) xe_nil))))
theorem bk_X11_settle_0 : ck_ fX11 (some .int) cX11_settle 0 [.iconst (-1), .istore 5, .iconst 0, .istore 6] 6 = true := qck_r (nn_ _) (by decide +kernel)
theorem bs_X11_settle_0 {P : Zt → Option Zv → Prop} (K : Int → Zl → List Zv → Zt → Prop) : sx_ K P [.iconst (-1), .istore 5, .iconst 0, .istore 6] 6 = x_iconst (-1) (x_istore 5 (x_iconst 0 (x_istore 6 (K 6)))) := ((xe_iconst (-1)).trans (congrArg (x_iconst (-1)) ((xe_istore 5).trans (congrArg (x_istore 5) ((xe_iconst 0).trans (congrArg (x_iconst 0) ((xe_istore 6).trans (congrArg (x_istore 6) xe_nil))))))))
abbrev po_X11_settle (T : Zt) (l : List (Nat × Nat)) (o a b ev : Int) : Zt → Option Zv → Prop := fun T' r => ∃ x : Int, r = some (vI x) ∧ fr_ [(296, [])] T T' ∧ ((0 ≤ x ∧ x ≤ 2) ∧ (ev = 0 → SVE_ T' o l))
set_option maxHeartbeats 4000000 in
theorem ct_X11_settle {T : Zt} {l : List (Nat × Nat)} {o a b ev : Int} (hO : 0 ≤ o ∧ o ≤ 4095) (ha : 0 ≤ a ∧ a < 12) (hb : 0 ≤ b ∧ b < 12) (hev : 0 ≤ ev ∧ ev ≤ 1) (hs : ev = 0 → SW_ T o a b l) : Ct_ yX11_settle zX11_settle T [vR 111 0, vI o, vI a, vI b, vI ev] (po_X11_settle T l o a b ev) := by
  refine ct_of pn_11 rfl rfl (Nat.le_of_ble_eq_true rfl) (fun hT hav => ?_)
  have hr_o : -2147483648 ≤ o ∧ o ≤ 2147483647 := hav (vI o) (List.mem_cons_of_mem _ List.mem_cons_self)
  have hr_a : -2147483648 ≤ a ∧ a ≤ 2147483647 := hav (vI a) (List.mem_cons_of_mem _ (List.mem_cons_of_mem _ List.mem_cons_self))
  have hr_b : -2147483648 ≤ b ∧ b ≤ 2147483647 := hav (vI b) (List.mem_cons_of_mem _ (List.mem_cons_of_mem _ (List.mem_cons_of_mem _ List.mem_cons_self)))
  have hr_ev : -2147483648 ≤ ev ∧ ev ≤ 2147483647 := hav (vI ev) (List.mem_cons_of_mem _ (List.mem_cons_of_mem _ (List.mem_cons_of_mem _ (List.mem_cons_of_mem _ List.mem_cons_self))))
  have hz : zX11_settle.2.2.2.1 = some .boolean → ∀ (T' : Zt) (x : Int), po_X11_settle T l o a b ev T' (some (vI x)) → 0 ≤ x ∧ x ≤ 1 := fun h => by cases h
  show J_ zX11_settle T (po_X11_settle T l o a b ev) 0 0 0 [some (vR 111 0), some (vI o), some (vI a), some (vI b), some (vI ev), none, none, none] [] T
  have c_6 : ∀ (nn : Nat) (w : Int) (g : Int), ((3 - w).toNat) ≤ nn → (PW_ T o a b ev g w) → J_ zX11_settle T (po_X11_settle T l o a b ev) 0 0 6 [some (vR 111 0), some (vI o), some (vI a), some (vI b), some (vI ev), some (vI w), some (vI g), none] [] T := by
    intro nn
    induction nn using Nat.strongRecOn with
    | _ nn ih_6 =>
      intro w g hm_6 hw
      replace hm_6 := fun (_ : Unit) => hm_6
      have c_20 : ∀ (nn : Nat) (g2 : Int) (s : Int), ((4096 - s).toNat) ≤ nn → (1 ≤ s ∧ s ≤ 4096 ∧ g = 0) → ((g2 = 1 ∧ OKW_ T o a b (w + 1) s) ∨ (g2 = 0 ∧ ev = 0 ∧ NW_ T o a b (w + 1))) → J_ zX11_settle T (po_X11_settle T l o a b ev) 0 0 20 [some (vR 111 0), some (vI o), some (vI a), some (vI b), some (vI ev), some (vI (w + 1)), some (vI g2), some (vI s)] [] T := by
        intro nn
        induction nn using Nat.strongRecOn with
        | _ nn ih_20 =>
          intro g2 s hm_20 j1 h20
          replace hm_20 := fun (_ : Unit) => hm_20
          have hw6 := pw_2 (by rw [j1.2.2] at hw; exact hw) hs hO
          refine j_blx (F := fX11) tb_X11 (nn_ _) bk_X11_settle_20 bs_X11_settle_20 hz (fun K hK => ?_)
          refine And.intro (fun c1 => ?_) (fun c1 => ?_)
          · refine hK 80 _ [] T ?_
            refine j_blx (F := fX11) tb_X11 (nn_ _) bk_X11_settle_80 bs_X11_settle_80 hz (fun K hK => ?_)
            refine hK 6 _ [] T ?_
            refine j_drq [some (vR 111 0), some (vI o), some (vI a), some (vI b), some (vI ev), some (vI (w + 1)), some (vI g2), none] (drq_s (drq_s (drq_s (drq_s (drq_s (drq_s (drq_s (drq_n drq_0)))))))) ?_
            refine ih_6 _ ?_ (w + 1) g2 (Nat.le_refl _) ?_
            · have hm_6 := hm_6 (); omega
            · first
              | (rcases h20 with z | z
                 · exact Or.inr ⟨z.1, by omega, by omega, fun e9 => by rw [show (4096 : Int) = s by omega]; exact z.2⟩
                 · exact Or.inl ⟨z.1, Or.inl z.2.1, by omega, fun u p q => by
                     by_cases y : u = w + 1
                     · rw [y]; exact z.2.2
                     · exact hw6.2.2 u p (by omega)⟩)
              | (rcases h20 with z | z
                 · exact Or.inr ⟨z.1, by omega, by omega, fun e9 => by omega⟩
                 · exact absurd z.2.1 (by omega))
          · refine And.intro (fun c2 => ?_) (fun c2 => ?_)
            · refine hK 80 [some (vR 111 0), some (vI o), some (vI a), some (vI b), some (vI ev), some (vI (w + 1)), some (vI g2), some (vI s)] [] T ?_
              refine j_blx (F := fX11) tb_X11 (nn_ _) bk_X11_settle_80 bs_X11_settle_80 hz (fun K hK => ?_)
              refine hK 6 _ [] T ?_
              refine j_drq [some (vR 111 0), some (vI o), some (vI a), some (vI b), some (vI ev), some (vI (w + 1)), some (vI g2), none] (drq_s (drq_s (drq_s (drq_s (drq_s (drq_s (drq_s (drq_n drq_0)))))))) ?_
              refine ih_6 _ ?_ (w + 1) g2 (Nat.le_refl _) ?_
              · have hm_6 := hm_6 (); omega
              · first
                | (rcases h20 with z | z
                   · exact Or.inr ⟨z.1, by omega, by omega, fun e9 => by rw [show (4096 : Int) = s by omega]; exact z.2⟩
                   · exact Or.inl ⟨z.1, Or.inl z.2.1, by omega, fun u p q => by
                       by_cases y : u = w + 1
                       · rw [y]; exact z.2.2
                       · exact hw6.2.2 u p (by omega)⟩)
                | (rcases h20 with z | z
                   · exact Or.inr ⟨z.1, by omega, by omega, fun e9 => by omega⟩
                   · exact absurd z.2.1 (by omega))
            · refine And.intro (fun c3 => ?_) (fun c3 => ?_)
              · refine hK 80 [some (vR 111 0), some (vI o), some (vI a), some (vI b), some (vI ev), some (vI (w + 1)), some (vI g2), some (vI s)] [] T ?_
                refine j_blx (F := fX11) tb_X11 (nn_ _) bk_X11_settle_80 bs_X11_settle_80 hz (fun K hK => ?_)
                refine hK 6 _ [] T ?_
                refine j_drq [some (vR 111 0), some (vI o), some (vI a), some (vI b), some (vI ev), some (vI (w + 1)), some (vI g2), none] (drq_s (drq_s (drq_s (drq_s (drq_s (drq_s (drq_s (drq_n drq_0)))))))) ?_
                refine ih_6 _ ?_ (w + 1) g2 (Nat.le_refl _) ?_
                · have hm_6 := hm_6 (); omega
                · first
                  | (rcases h20 with z | z
                     · exact Or.inr ⟨z.1, by omega, by omega, fun e9 => by rw [show (4096 : Int) = s by omega]; exact z.2⟩
                     · exact Or.inl ⟨z.1, Or.inl z.2.1, by omega, fun u p q => by
                         by_cases y : u = w + 1
                         · rw [y]; exact z.2.2
                         · exact hw6.2.2 u p (by omega)⟩)
                  | (rcases h20 with z | z
                     · exact Or.inr ⟨z.1, by omega, by omega, fun e9 => by omega⟩
                     · exact absurd z.2.1 (by omega))
              · intro w4 w4b
                refine And.intro (fun c5 => ?_) (fun c5 => ?_)
                · refine hK 67 [some (vR 111 0), some (vI o), some (vI a), some (vI b), some (vI ev), some (vI (w + 1)), some (vI g2), some (vI s)] [] T ?_
                  refine j_blx (F := fX11) tb_X11 (nn_ _) bk_X11_settle_67 bs_X11_settle_67 hz (fun K hK => ?_)
                  refine hK 72 _ [vI 1] T ?_
                  refine j_blx (F := fX11) tb_X11 (nn_ _) bk_X11_settle_72 bs_X11_settle_72 hz (fun K hK => ?_)
                  refine rg_i (by omega) ?_
                  refine hK 20 [some (vR 111 0), some (vI o), some (vI a), some (vI b), some (vI ev), some (vI (w + 1)), some (vI 1), some (vI (s + 1))] [] T ?_
                  refine ih_20 _ ?_ 1 (s + 1) (Nat.le_refl _) ?_ ?_
                  · have hm_20 := hm_20 (); omega
                  · omega
                  · refine Or.inl ⟨rfl, fun t p q r => ?_⟩
                    by_cases z : t = s
                    · first
                      | (rw [z]; omega)
                      | exact absurd (z ▸ r) (by omega)
                    · rcases h20 with y | y
                      · exact y.2 t p (by omega) r
                      · omega
                · refine ix_i (by omega) ?_
                  intro b6 b6b
                  refine hK 60 [some (vR 111 0), some (vI o), some (vI a), some (vI b), some (vI ev), some (vI (w + 1)), some (vI g2), some (vI s)] [vI (w + 1), vI b, vI a, vI s, vI (T 296 0 s)] T ?_
                  have hb6 := sw_b (s := s) (hs (by omega)) (by omega) (by omega) (by omega)
                  have hc6 := ch_b s.toNat a.toNat b.toNat (w := w + 1) (by omega)
                  refine j_callS (y := yX11_changeOf) (Yc := zX11_changeOf) (rest := [vI (T 296 0 s)]) [vI s, vI a, vI b, vI (w + 1)] (ct_X11_changeOf (T := T) (by omega) (by omega) (by omega) (by omega)) cl_X11_541 (qd_c (by decide +kernel)) (nn_ _) rfl (rf_of rfl) (Nat.le_of_ble_eq_true rfl) (Nat.le_of_ble_eq_true rfl) (Nat.le_of_ble_eq_true rfl) rfl ?_
                  rintro _ _ ⟨rfl, rfl⟩
                  show J_ zX11_settle T (po_X11_settle T l o a b ev) 0 0 63 _ [vI (ch_ s.toNat a.toNat b.toNat (w + 1)), vI (T 296 0 s)] T
                  refine j_blx (F := fX11) tb_X11 (nn_ _) bk_X11_settle_63 bs_X11_settle_63 hz (fun K hK => ?_)
                  refine rg_i (by omega) ?_
                  refine And.intro (fun c7 => ?_) (fun c7 => ?_)
                  · refine hK 71 _ [] T ?_
                    refine j_blx (F := fX11) tb_X11 (nn_ _) bk_X11_settle_71 bs_X11_settle_71 hz (fun K hK => ?_)
                    refine rg_i (by omega) ?_
                    refine hK 20 [some (vR 111 0), some (vI o), some (vI a), some (vI b), some (vI ev), some (vI (w + 1)), some (vI 0), some (vI (s + 1))] [] T ?_
                    refine ih_20 _ ?_ 0 (s + 1) (Nat.le_refl _) ?_ ?_
                    · have hm_20 := hm_20 (); omega
                    · omega
                    · exact Or.inr ⟨rfl, by omega, s, by omega, by omega, by omega, by omega⟩
                  · refine hK 72 [some (vR 111 0), some (vI o), some (vI a), some (vI b), some (vI ev), some (vI (w + 1)), some (vI g2), some (vI s)] [vI 1] T ?_
                    refine j_blx (F := fX11) tb_X11 (nn_ _) bk_X11_settle_72 bs_X11_settle_72 hz (fun K hK => ?_)
                    refine rg_i (by omega) ?_
                    refine hK 20 [some (vR 111 0), some (vI o), some (vI a), some (vI b), some (vI ev), some (vI (w + 1)), some (vI 1), some (vI (s + 1))] [] T ?_
                    refine ih_20 _ ?_ 1 (s + 1) (Nat.le_refl _) ?_ ?_
                    · have hm_20 := hm_20 (); omega
                    · omega
                    · refine Or.inl ⟨rfl, fun t p q r => ?_⟩
                      by_cases z : t = s
                      · first
                        | (rw [z]; omega)
                        | exact absurd (z ▸ r) (by omega)
                      · rcases h20 with y | y
                        · exact y.2 t p (by omega) r
                        · omega
      have c_86 : ∀ (nn : Nat) (s : Int) (T1 : Zt), ((4096 - s).toNat) ≤ nn → (fr_ [(296, [])] T T1) → (1 ≤ s ∧ s ≤ 4096 ∧ g ≠ 0) → (∀ t, 1 ≤ t → t < s → an_ t o = t → T1 296 0 t = T 296 0 t + ch_ t.toNat a.toNat b.toNat w) → (∀ t, t < 1 ∨ s ≤ t → T1 296 0 t = T 296 0 t) → J_ zX11_settle T (po_X11_settle T l o a b ev) 0 0 86 [some (vR 111 0), some (vI o), some (vI a), some (vI b), some (vI ev), some (vI w), some (vI g), some (vI s)] [] T1 := by
        intro nn
        induction nn using Nat.strongRecOn with
        | _ nn ih_86 =>
          intro s T1 hm_86 hf_86 j1 u1 k1
          replace hm_86 := fun (_ : Unit) => hm_86
          have hw7 := pw_1 hw j1.2.2
          refine j_blx (F := fX11) tb_X11 (nn_ _) bk_X11_settle_86 bs_X11_settle_86 hz (fun K hK => ?_)
          refine And.intro (fun c8 => ?_) (fun c8 => ?_)
          · refine hK 137 _ [] T1 ?_
            refine j_blx (F := fX11) tb_X11 (nn_ _) bk_X11_settle_137 bs_X11_settle_137 hz (fun K hK => ?_)
            refine (show po_X11_settle T l o a b ev T1 (some (vI w)) from ?_)
            exact ⟨_, rfl, fr_t (fr_0 _ _) (fr_s hf_86 rfl), by omega, fun z => sw_p (hs z) ha hb (by omega) (hw7.2.2 z) (fun t p q r => u1 t p (by omega) r) (k1 0 (Or.inl (by decide)))⟩
          · refine And.intro (fun c9 => ?_) (fun c9 => ?_)
            · refine hK 137 _ [] T1 ?_
              refine j_blx (F := fX11) tb_X11 (nn_ _) bk_X11_settle_137 bs_X11_settle_137 hz (fun K hK => ?_)
              refine (show po_X11_settle T l o a b ev T1 (some (vI w)) from ?_)
              exact ⟨_, rfl, fr_t (fr_0 _ _) (fr_s hf_86 rfl), by omega, fun z => sw_p (hs z) ha hb (by omega) (hw7.2.2 z) (fun t p q r => u1 t p (by omega) r) (k1 0 (Or.inl (by decide)))⟩
            · refine ix_i (by omega) ?_
              intro b10 b10b
              have hk7 := k1 s (Or.inr (by omega))
              intro w11 w11b
              refine And.intro (fun c12 => ?_) (fun c12 => ?_)
              · refine hK 128 _ [vI (T1 296 0 s), vI s, vR 296 0] T1 ?_
                refine j_blx (F := fX11) tb_X11 (nn_ _) bk_X11_settle_128 bs_X11_settle_128 hz (fun K hK => ?_)
                refine rg_i (by omega) ?_
                refine iy_i (by omega) (by omega) ?_
                refine x_nm (fun U13 hU13 => ?_)
                have e14 := up_f hU13
                refine rg_i (by omega) ?_
                refine hK 86 [some (vR 111 0), some (vI o), some (vI a), some (vI b), some (vI ev), some (vI w), some (vI g), some (vI (s + 1))] [] U13 ?_
                refine ih_86 _ ?_ (s + 1) U13 (Nat.le_refl _) ?_ ?_ ?_ ?_
                · have hm_86 := hm_86 (); omega
                · exact fr_u (fr_t (fr_0 _ _) (fr_s hf_86 rfl)) hU13 rfl
                · omega
                · intro t p q r
                  by_cases z : t = s
                  · first
                    | (rw [z, up_f hU13]; omega)
                    | exact absurd (z ▸ r) (by omega)
                  · rw [up_g hU13 (fun q => z q.2.2)]; exact u1 t p (by omega) r
                · exact fun t p => (up_g hU13 (by omega)).trans (k1 t (by omega))
              · refine hK 122 [some (vR 111 0), some (vI o), some (vI a), some (vI b), some (vI ev), some (vI w), some (vI g), some (vI s)] [vI w, vI b, vI a, vI s, vI (T1 296 0 s), vI s, vR 296 0] T1 ?_
                have hb7 := sw_b (s := s) (hs (by omega)) (by omega) (by omega) (by omega)
                have hc7 := ch_b s.toNat a.toNat b.toNat (w := w) (by omega)
                refine j_callS (y := yX11_changeOf) (Yc := zX11_changeOf) (rest := [vI (T1 296 0 s), vI s, vR 296 0]) [vI s, vI a, vI b, vI w] (ct_X11_changeOf (T := T1) (by omega) (by omega) (by omega) (by omega)) cl_X11_541 (qd_c (by decide +kernel)) (nn_ _) rfl (rf_of rfl) (Nat.le_of_ble_eq_true rfl) (Nat.le_of_ble_eq_true rfl) (Nat.le_of_ble_eq_true rfl) rfl ?_
                rintro _ _ ⟨rfl, rfl⟩
                show J_ zX11_settle T (po_X11_settle T l o a b ev) 0 0 125 _ [vI (ch_ s.toNat a.toNat b.toNat w), vI (T1 296 0 s), vI s, vR 296 0] T1
                refine j_blx (F := fX11) tb_X11 (nn_ _) bk_X11_settle_125 bs_X11_settle_125 hz (fun K hK => ?_)
                refine hK 129 _ [vI (ch_ s.toNat a.toNat b.toNat w), vI (T1 296 0 s), vI s, vR 296 0] T1 ?_
                refine j_blx (F := fX11) tb_X11 (nn_ _) bk_X11_settle_129 bs_X11_settle_129 hz (fun K hK => ?_)
                refine rg_i (by omega) ?_
                refine iy_i (by omega) (by omega) ?_
                refine x_nm (fun U15 hU15 => ?_)
                have e16 := up_f hU15
                refine rg_i (by omega) ?_
                refine hK 86 [some (vR 111 0), some (vI o), some (vI a), some (vI b), some (vI ev), some (vI w), some (vI g), some (vI (s + 1))] [] U15 ?_
                refine ih_86 _ ?_ (s + 1) U15 (Nat.le_refl _) ?_ ?_ ?_ ?_
                · have hm_86 := hm_86 (); omega
                · exact fr_u (fr_t (fr_0 _ _) (fr_s hf_86 rfl)) hU15 rfl
                · omega
                · intro t p q r
                  by_cases z : t = s
                  · first
                    | (rw [z, up_f hU15]; omega)
                    | exact absurd (z ▸ r) (by omega)
                  · rw [up_g hU15 (fun q => z q.2.2)]; exact u1 t p (by omega) r
                · exact fun t p => (up_g hU15 (by omega)).trans (k1 t (by omega))
      refine j_blx (F := fX11) tb_X11 (nn_ _) bk_X11_settle_6 bs_X11_settle_6 hz (fun K hK => ?_)
      refine And.intro (fun c17 => ?_) (fun c17 => ?_)
      · have hw7 := pw_1 hw (by omega)
        refine hK 83 _ [] T ?_
        refine j_blx (F := fX11) tb_X11 (nn_ _) bk_X11_settle_83 bs_X11_settle_83 hz (fun K hK => ?_)
        refine hK 86 [some (vR 111 0), some (vI o), some (vI a), some (vI b), some (vI ev), some (vI w), some (vI g), some (vI 1)] [] T ?_
        refine c_86 _ 1 T (Nat.le_refl _) ?_ ?_ ?_ ?_
        · exact fr_0 _ _
        · omega
        · intro t p q; omega
        · exact fun _ _ => rfl
      · have hw6 := pw_2 (by rw [show g = 0 by omega] at hw; exact hw) hs hO
        refine rg_i (by omega) ?_
        refine hK 20 [some (vR 111 0), some (vI o), some (vI a), some (vI b), some (vI ev), some (vI (w + 1)), some (vI 1), some (vI 1)] [] T ?_
        refine c_20 _ 1 1 (Nat.le_refl _) ?_ ?_
        · omega
        · exact Or.inl ⟨rfl, fun t p q => by omega⟩
  refine j_blx (F := fX11) tb_X11 (nn_ _) bk_X11_settle_0 bs_X11_settle_0 hz (fun K hK => ?_)
  refine hK 6 [some (vR 111 0), some (vI o), some (vI a), some (vI b), some (vI ev), some (vI (-1)), some (vI 0), none] [] T ?_
  refine c_6 _ (-1) 0 (Nat.le_refl _) ?_
  · exact Or.inl ⟨rfl, Or.inr rfl, by decide, fun u a b => by omega⟩

