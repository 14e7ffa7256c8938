def PB6_ (T : Zt) : Prop := ∀ k : Int, 0 ≤ k → k < 12 → -7500000 ≤ T 291 0 k ∧ T 291 0 k ≤ 7500000
theorem PB6__f {ws : List (Nat × List Int)} {T T' : Zt} (h : PB6_ T) (f : fr_ ws T T') (w : (∀ j, fw_ ws 291 j = false) ∧ True) : PB6_ T' := by
  have e0 : ∀ i j, T' 291 i j = T 291 i j := fun i j => f 291 i j (w.1 j)
  simp only [PB6_, e0] at h ⊢
  exact h
def LB_ (T : Zt) (b : Int) : Prop := ∀ k, 0 ≤ k → k < 12 → 0 ≤ T 292 0 k ∧ T 292 0 k ≤ b
theorem lb_u {T T1 : Zt} {b i v : Int} (h : LB_ T b) (e : T1 = up_ T 292 0 i v) (hv : 0 ≤ v ∧ v ≤ b + 1) : LB_ T1 (b + 1) := fun j a c => by
  by_cases z : j = i
  · rw [z, up_f e]; exact hv
  · rw [up_g e (fun q => z q.2.2)]
    have := h j a c
    omega
theorem lb_m {T : Zt} {b d : Int} (h : LB_ T b) (e : b ≤ d) : LB_ T d := fun j a c => by
  have := h j a c
  omega
abbrev cX11_countLeft : ByteArray := prog_13_method_98_code
def yX11_countLeft : MethodName := ⟨RX11, "countLeft", "(I)V"⟩
def zX11_countLeft : Zm := (RX11, cX11_countLeft, 3, none, { frames := 3, cells := 0, slots := 0, locals := 70 })
theorem bk_X11_countLeft_59 : ck_ fX11 none cX11_countLeft 59 [.iload 2, .aload 0, .tableswitch 0 11 10 #[], .iload 1, .iaload, .aload 0, .tableswitch 0 11 11 #[], .iload 1, .iaload, .iadd, .if_icmp .ge 136, .aload 0, .tableswitch 0 11 92 #[], .aload 0, .tableswitch 0 11 32 #[], .iload 2, .iaload, .dup2, .iaload, .aload 0, .iload 2] 90 = true := qck_r (nn_ _) (by decide +kernel)
theorem bs_X11_countLeft_59 {P : Zt → Option Zv → Prop} (K : Int → Zl → List Zv → Zt → Prop) : sx_ K P [.iload 2, .aload 0, .tableswitch 0 11 10 #[], .iload 1, .iaload, .aload 0, .tableswitch 0 11 11 #[], .iload 1, .iaload, .iadd, .if_icmp .ge 136, .aload 0, .tableswitch 0 11 92 #[], .aload 0, .tableswitch 0 11 32 #[], .iload 2, .iaload, .dup2, .iaload, .aload 0, .iload 2] 90 = x_iload 2 (x_aload 0 (x_g1 111 210 (x_iload 1 (x_iaload (x_aload 0 (x_g1 111 211 (x_iload 1 (x_iaload (x_iadd (x_if_icmp .ge 136 K (x_aload 0 (x_g1 111 292 (x_aload 0 (x_g1 111 232 (x_iload 2 (x_iaload (x_dup2 (x_iaload (x_aload 0 (x_iload 2 (K 90))))))))))))))))))))) := ((xe_iload 2).trans (congrArg (x_iload 2) ((xe_aload 0).trans (congrArg (x_aload 0) ((xe_g1 (kk := 111) rfl tl_11_10).trans (congrArg (x_g1 111 210) ((xe_iload 1).trans (congrArg (x_iload 1) ((xe_iaload).trans (congrArg (x_iaload) ((xe_aload 0).trans (congrArg (x_aload 0) ((xe_g1 (kk := 111) rfl tl_11_11).trans (congrArg (x_g1 111 211) ((xe_iload 1).trans (congrArg (x_iload 1) ((xe_iaload).trans (congrArg (x_iaload) ((xe_iadd).trans (congrArg (x_iadd) ((xe_if_icmp .ge 136).trans (congrArg (x_if_icmp .ge 136 K) ((xe_aload 0).trans (congrArg (x_aload 0) ((xe_g1 (kk := 111) rfl tl_11_92).trans (congrArg (x_g1 111 292) ((xe_aload 0).trans (congrArg (x_aload 0) ((xe_g1 (kk := 111) rfl tl_11_32).trans (congrArg (x_g1 111 232) ((xe_iload 2).trans (congrArg (x_iload 2) ((xe_iaload).trans (congrArg (x_iaload) ((xe_dup2).trans (congrArg (x_dup2) ((xe_iaload).trans (congrArg (x_iaload) ((xe_aload 0).trans (congrArg (x_aload 0) ((xe_iload 2).trans (congrArg (x_iload 2) xe_nil))))))))))))))))))))))))))))))))))))))))))
theorem bk_X11_countLeft_136 : ck_ fX11 none cX11_countLeft 136 [.return_] 137 = true := qck_r (nn_ _) (by decide +kernel)
theorem bs_X11_countLeft_136 {P : Zt → Option Zv → Prop} (K : Int → Zl → List Zv → Zt → Prop) : sx_ K P [.return_] 137 = x_return_ P := (xe_return_)
set_option maxRecDepth 100000 in
theorem cl_X11_538 : cv_ RX11 538 yX11_isLeft zX11_isLeft 11 1 := ⟨gi_V (lwq_9 (dqc_m (dqc_m (dqc_m (dqc_m (dqc_m (dqc_m (dqc_m (dqa_m (List.mem_of_getElem? (i := 0) rfl))))))))) rfl : Cond.methodLink RX11 538 yX11_isLeft ∈ lw_g) (lwq_9 (dqc_m (dqc_m (dqc_m (dqc_m (dqc_m (dqc_m (dqc_m (dqa_m (List.mem_of_getElem? (i := 2) rfl))))))))) rfl : Cond.instanceMethod yX11_isLeft ∈ lw_g) (lw_sel 26 rfl : Cond.selects yX11_isLeft.cls yX11_isLeft yX11_isLeft ∈ lw_g) (lwq_1 (dqa_m (List.mem_of_getElem? (i := 2) rfl)) rfl : Cond.initialized yX11_isLeft.cls ∈ lw_g) (lwq_9 (dqc_m (dqc_m (dqc_m (dqc_m (dqc_m (dqc_m (dqc_m (dqa_m (List.mem_of_getElem? (i := 3) rfl))))))))) rfl : Cond.code yX11_isLeft cX11_isLeft 2 (some .boolean) ∈ lw_g), ⟨nmh_1.1, nmh_1.2, pdq_7⟩, ⟨_, _, rfl⟩⟩
theorem bk_X11_countLeft_93 : ck_ fX11 none cX11_countLeft 93 [.ifCond .eq 100, .iconst 1, .goto 101] 100 = true := qck_r (nn_ _) (by decide +kernel)
theorem bs_X11_countLeft_93 {P : Zt → Option Zv → Prop} (K : Int → Zl → List Zv → Zt → Prop) : sx_ K P [.ifCond .eq 100, .iconst 1, .goto 101] 100 = x_ifCond .eq 100 K (x_iconst 1 (x_goto 101 K)) := ((xe_ifCond .eq 100).trans (congrArg (x_ifCond .eq 100 K) ((xe_iconst 1).trans (congrArg (x_iconst 1) (xe_goto 101)))))
theorem bk_X11_countLeft_100 : ck_ fX11 none cX11_countLeft 100 [.iconst 0, .iadd, .iastore, .aload 0, .tableswitch 0 11 92 #[], .aload 0, .tableswitch 0 11 33 #[], .iload 2, .iaload, .dup2, .iaload, .aload 0, .iload 2] 117 = true := qck_r (nn_ _) (by decide +kernel)
theorem bs_X11_countLeft_100 {P : Zt → Option Zv → Prop} (K : Int → Zl → List Zv → Zt → Prop) : sx_ K P [.iconst 0, .iadd, .iastore, .aload 0, .tableswitch 0 11 92 #[], .aload 0, .tableswitch 0 11 33 #[], .iload 2, .iaload, .dup2, .iaload, .aload 0, .iload 2] 117 = x_iconst 0 (x_iadd (x_iastore (x_aload 0 (x_g1 111 292 (x_aload 0 (x_g1 111 233 (x_iload 2 (x_iaload (x_dup2 (x_iaload (x_aload 0 (x_iload 2 (K 117))))))))))))) := ((xe_iconst 0).trans (congrArg (x_iconst 0) ((xe_iadd).trans (congrArg (x_iadd) ((xe_iastore).trans (congrArg (x_iastore) ((xe_aload 0).trans (congrArg (x_aload 0) ((xe_g1 (kk := 111) rfl tl_11_92).trans (congrArg (x_g1 111 292) ((xe_aload 0).trans (congrArg (x_aload 0) ((xe_g1 (kk := 111) rfl tl_11_33).trans (congrArg (x_g1 111 233) ((xe_iload 2).trans (congrArg (x_iload 2) ((xe_iaload).trans (congrArg (x_iaload) ((xe_dup2).trans (congrArg (x_dup2) ((xe_iaload).trans (congrArg (x_iaload) ((xe_aload 0).trans (congrArg (x_aload 0) ((xe_iload 2).trans (congrArg (x_iload 2) xe_nil))))))))))))))))))))))))))
theorem bk_X11_countLeft_120 : ck_ fX11 none cX11_countLeft 120 [.ifCond .eq 127, .iconst 1, .goto 128] 127 = true := qck_r (nn_ _) (by decide +kernel)
theorem bs_X11_countLeft_120 {P : Zt → Option Zv → Prop} (K : Int → Zl → List Zv → Zt → Prop) : sx_ K P [.ifCond .eq 127, .iconst 1, .goto 128] 127 = x_ifCond .eq 127 K (x_iconst 1 (x_goto 128 K)) := ((xe_ifCond .eq 127).trans (congrArg (x_ifCond .eq 127 K) ((xe_iconst 1).trans (congrArg (x_iconst 1) (xe_goto 128)))))
theorem bk_X11_countLeft_127 : ck_ fX11 none cX11_countLeft 127 [.iconst 0, .iadd, .iastore, .iinc 2 1, .goto 59] 136 = true := qck_r (nn_ _) (by decide +kernel)
theorem bs_X11_countLeft_127 {P : Zt → Option Zv → Prop} (K : Int → Zl → List Zv → Zt → Prop) : sx_ K P [.iconst 0, .iadd, .iastore, .iinc 2 1, .goto 59] 136 = x_iconst 0 (x_iadd (x_iastore (x_iinc 2 1 (x_goto 59 K)))) := ((xe_iconst 0).trans (congrArg (x_iconst 0) ((xe_iadd).trans (congrArg (x_iadd) ((xe_iastore).trans (congrArg (x_iastore) ((xe_iinc 2 1).trans (congrArg (x_iinc 2 1) (xe_goto 59)))))))))
theorem bk_X11_countLeft_128 : ck_ fX11 none cX11_countLeft 128 [.iadd, .iastore, .iinc 2 1, .goto 59] 136 = true := qck_r (nn_ _) (by decide +kernel)
theorem bs_X11_countLeft_128 {P : Zt → Option Zv → Prop} (K : Int → Zl → List Zv → Zt → Prop) : sx_ K P [.iadd, .iastore, .iinc 2 1, .goto 59] 136 = x_iadd (x_iastore (x_iinc 2 1 (x_goto 59 K))) := ((xe_iadd).trans (congrArg (x_iadd) ((xe_iastore).trans (congrArg (x_iastore) ((xe_iinc 2 1).trans (congrArg (x_iinc 2 1) (xe_goto 59)))))))
theorem bk_X11_countLeft_101 : ck_ fX11 none cX11_countLeft 101 [.iadd, .iastore, .aload 0, .tableswitch 0 11 92 #[], .aload 0, .tableswitch 0 11 33 #[], .iload 2, .iaload, .dup2, .iaload, .aload 0, .iload 2] 117 = true := qck_r (nn_ _) (by decide +kernel)
theorem bs_X11_countLeft_101 {P : Zt → Option Zv → Prop} (K : Int → Zl → List Zv → Zt → Prop) : sx_ K P [.iadd, .iastore, .aload 0, .tableswitch 0 11 92 #[], .aload 0, .tableswitch 0 11 33 #[], .iload 2, .iaload, .dup2, .iaload, .aload 0, .iload 2] 117 = x_iadd (x_iastore (x_aload 0 (x_g1 111 292 (x_aload 0 (x_g1 111 233 (x_iload 2 (x_iaload (x_dup2 (x_iaload (x_aload 0 (x_iload 2 (K 117)))))))))))) := ((xe_iadd).trans (congrArg (x_iadd) ((xe_iastore).trans (congrArg (x_iastore) ((xe_aload 0).trans (congrArg (x_aload 0) ((xe_g1 (kk := 111) rfl tl_11_92).trans (congrArg (x_g1 111 292) ((xe_aload 0).trans (congrArg (x_aload 0) ((xe_g1 (kk := 111) rfl tl_11_33).trans (congrArg (x_g1 111 233) ((xe_iload 2).trans (congrArg (x_iload 2) ((xe_iaload).trans (congrArg (x_iaload) ((xe_dup2).trans (congrArg (x_dup2) ((xe_iaload).trans (congrArg (x_iaload) ((xe_aload 0).trans (congrArg (x_aload 0) ((xe_iload 2).trans (congrArg (x_iload 2) xe_nil))))))))))))))))))))))))
theorem bk_X11_countLeft_15 : ck_ fX11 none cX11_countLeft 15 [.iload 2, .iconst 12, .if_icmp .ge 52, .aload 0, .tableswitch 0 11 91 #[], .iload 2, .aload 0, .tableswitch 0 11 76 #[], .iconst 9, .iload 2, .imul, .iconst 6, .iadd, .iaload, .iastore, .aload 0, .tableswitch 0 11 92 #[], .iload 2, .iconst 0, .iastore, .iinc 2 1, .goto 15] 52 = true := qck_r (nn_ _) (by decide +kernel)
theorem bs_X11_countLeft_15 {P : Zt → Option Zv → Prop} (K : Int → Zl → List Zv → Zt → Prop) : sx_ K P [.iload 2, .iconst 12, .if_icmp .ge 52, .aload 0, .tableswitch 0 11 91 #[], .iload 2, .aload 0, .tableswitch 0 11 76 #[], .iconst 9, .iload 2, .imul, .iconst 6, .iadd, .iaload, .iastore, .aload 0, .tableswitch 0 11 92 #[], .iload 2, .iconst 0, .iastore, .iinc 2 1, .goto 15] 52 = x_iload 2 (x_iconst 12 (x_if_icmp .ge 52 K (x_aload 0 (x_g1 111 291 (x_iload 2 (x_aload 0 (x_g1 111 276 (x_iconst 9 (x_iload 2 (x_imul (x_iconst 6 (x_iadd (x_iaload (x_iastore (x_aload 0 (x_g1 111 292 (x_iload 2 (x_iconst 0 (x_iastore (x_iinc 2 1 (x_goto 15 K))))))))))))))))))))) := ((xe_iload 2).trans (congrArg (x_iload 2) ((xe_iconst 12).trans (congrArg (x_iconst 12) ((xe_if_icmp .ge 52).trans (congrArg (x_if_icmp .ge 52 K) ((xe_aload 0).trans (congrArg (x_aload 0) ((xe_g1 (kk := 111) rfl tl_11_91).trans (congrArg (x_g1 111 291) ((xe_iload 2).trans (congrArg (x_iload 2) ((xe_aload 0).trans (congrArg (x_aload 0) ((xe_g1 (kk := 111) rfl tl_11_76).trans (congrArg (x_g1 111 276) ((xe_iconst 9).trans (congrArg (x_iconst 9) ((xe_iload 2).trans (congrArg (x_iload 2) ((xe_imul).trans (congrArg (x_imul) ((xe_iconst 6).trans (congrArg (x_iconst 6) ((xe_iadd).trans (congrArg (x_iadd) ((xe_iaload).trans (congrArg (x_iaload) ((xe_iastore).trans (congrArg (x_iastore) ((xe_aload 0).trans (congrArg (x_aload 0) ((xe_g1 (kk := 111) rfl tl_11_92).trans (congrArg (x_g1 111 292) ((xe_iload 2).trans (congrArg (x_iload 2) ((xe_iconst 0).trans (congrArg (x_iconst 0) ((xe_iastore).trans (congrArg (x_iastore) ((xe_iinc 2 1).trans (congrArg (x_iinc 2 1) (xe_goto 15)))))))))))))))))))))))))))))))))))))))))))
theorem bk_X11_countLeft_52 : ck_ fX11 none cX11_countLeft 52 [.aload 0, .tableswitch 0 11 10 #[], .iload 1, .iaload, .istore 2] 59 = true := qck_r (nn_ _) (by decide +kernel)
theorem bs_X11_countLeft_52 {P : Zt → Option Zv → Prop} (K : Int → Zl → List Zv → Zt → Prop) : sx_ K P [.aload 0, .tableswitch 0 11 10 #[], .iload 1, .iaload, .istore 2] 59 = x_aload 0 (x_g1 111 210 (x_iload 1 (x_iaload (x_istore 2 (K 59))))) := ((xe_aload 0).trans (congrArg (x_aload 0) ((xe_g1 (kk := 111) rfl tl_11_10).trans (congrArg (x_g1 111 210) ((xe_iload 1).trans (congrArg (x_iload 1) ((xe_iaload).trans (congrArg (x_iaload) ((xe_istore 2).trans (congrArg (x_istore 2) xe_nil))))))))))
theorem bk_X11_countLeft_0 : ck_ fX11 none cX11_countLeft 0 [.aload 0, .iconst 0, .tableswitch 1 11 80 #[], .aload 0, .iload 1, .iconst 999] 10 = true := qck_r (nn_ _) (by decide +kernel)
theorem bs_X11_countLeft_0 {P : Zt → Option Zv → Prop} (K : Int → Zl → List Zv → Zt → Prop) : sx_ K P [.aload 0, .iconst 0, .tableswitch 1 11 80 #[], .aload 0, .iload 1, .iconst 999] 10 = x_aload 0 (x_iconst 0 (x_p 111 80 0 1 (x_aload 0 (x_iload 1 (x_iconst 999 (K 10)))))) := ((xe_aload 0).trans (congrArg (x_aload 0) ((xe_iconst 0).trans (congrArg (x_iconst 0) ((xe_p (kk := 111) rfl tl_11_80).trans (congrArg (x_p 111 80 0 1) ((xe_aload 0).trans (congrArg (x_aload 0) ((xe_iload 1).trans (congrArg (x_iload 1) ((xe_iconst 999).trans (congrArg (x_iconst 999) xe_nil))))))))))))
theorem bk_X11_countLeft_13 : ck_ fX11 none cX11_countLeft 13 [.iconst 0, .istore 2] 15 = true := qck_r (nn_ _) (by decide +kernel)
theorem bs_X11_countLeft_13 {P : Zt → Option Zv → Prop} (K : Int → Zl → List Zv → Zt → Prop) : sx_ K P [.iconst 0, .istore 2] 15 = x_iconst 0 (x_istore 2 (K 15)) := ((xe_iconst 0).trans (congrArg (x_iconst 0) ((xe_istore 2).trans (congrArg (x_istore 2) xe_nil))))
abbrev po_X11_countLeft (T : Zt) (c : Int) : Zt → Option Zv → Prop := fun T' r => r = none ∧ fr_ [(276, []), (291, []), (292, []), (111, [80, 82, 83])] T T' ∧ (PB6_ T' ∧ LB_ T' 1000)
set_option maxHeartbeats 4000000 in
theorem ct_X11_countLeft {T : Zt} {c : Int} (h1 : 0 ≤ c ∧ c < 4) (hml : ML_ T) (hsc : SC_ T) (hyb : YB_ T) : Ct_ yX11_countLeft zX11_countLeft T [vR 111 0, vI c] (po_X11_countLeft T c) := by
  refine ct_of pn_11 rfl rfl (Nat.le_of_ble_eq_true rfl) (fun hT hav => ?_)
  have hr_c : -2147483648 ≤ c ∧ c ≤ 2147483647 := hav (vI c) (List.mem_cons_of_mem _ List.mem_cons_self)
  have hz : zX11_countLeft.2.2.2.1 = some .boolean → ∀ (T' : Zt) (x : Int), po_X11_countLeft T c T' (some (vI x)) → 0 ≤ x ∧ x ≤ 1 := fun h => by cases h
  have hmc := hml c (by omega) (by omega)
  have hb_29 : 0 ≤ T 111 0 29 ∧ T 111 0 29 ≤ 400 := bd_f hT 111 29 tl_11_29 0
  have hfo : 0 ≤ T 210 0 c ∧ T 210 0 c ≤ 400 := bd_a hT 210 (by decide +kernel : ta_ 210 = some (1, some 4, 0, 400)) 0 (by omega)
  have hmo : 0 ≤ T 211 0 c ∧ T 211 0 c ≤ 400 := bd_a hT 211 (by decide +kernel : ta_ 211 = some (1, some 4, 0, 400)) 0 (by omega)
  show J_ zX11_countLeft T (po_X11_countLeft T c) 0 0 0 [some (vR 111 0), some (vI c), none] [] T
  have c_59 : ∀ (nn : Nat) (m : Int) (T2 : Zt), ((400 - m).toNat) ≤ nn → (fr_ [(276, []), (291, []), (292, []), (111, [80, 82, 83])] T T2) → (T 210 0 c ≤ m ∧ m ≤ T 210 0 c + T 211 0 c) → (PB6_ T2) → (LB_ T2 (2 * (m - T 210 0 c))) → J_ zX11_countLeft T (po_X11_countLeft T c) 0 0 59 [some (vR 111 0), some (vI c), some (vI m)] [] T2 := by
    intro nn
    induction nn using Nat.strongRecOn with
    | _ nn ih_59 =>
      intro m T2 hm_59 hf_59 i2 pb2 lb2
      replace hm_59 := fun (_ : Unit) => hm_59
      refine j_blx (F := fX11) tb_X11 (nn_ _) bk_X11_countLeft_59 bs_X11_countLeft_59 hz (fun K hK => ?_)
      refine ix_i (by omega) ?_
      intro b1 b1b
      have e2 : T2 210 0 c = T 210 0 c := hf_59 210 0 c rfl
      rw [e2] at b1 b1b ⊢
      refine ix_i (by omega) ?_
      intro b3 b3b
      have e4 : T2 211 0 c = T 211 0 c := hf_59 211 0 c rfl
      rw [e4] at b3 b3b ⊢
      refine rg_i (by omega) ?_
      refine And.intro (fun c5 => ?_) (fun c5 => ?_)
      · refine hK 136 _ [] T2 ?_
        refine j_blx (F := fX11) tb_X11 (nn_ _) bk_X11_countLeft_136 bs_X11_countLeft_136 hz (fun K hK => ?_)
        refine (show po_X11_countLeft T c T2 (none) from ?_)
        exact ⟨rfl, fr_t (fr_0 _ _) (fr_s hf_59 rfl), pb2, lb_m lb2 (by omega)⟩
      · refine ix_i (by omega) ?_
        intro b6 b6b
        have e7 : T2 232 0 m = T 232 0 m := hf_59 232 0 m rfl
        rw [e7] at b6 b6b ⊢
        refine ix_i (by omega) ?_
        intro b8 b8b
        have t9 : 0 ≤ T2 292 0 (T 232 0 m) ∧ T2 292 0 (T 232 0 m) ≤ 2 * (m - T 210 0 c) := (lb2) (T 232 0 m) (by omega) (by omega)
        refine hK 90 _ [vI m, vR 111 0, vI (T2 292 0 (T 232 0 m)), vI (T 232 0 m), vR 292 0] T2 ?_
        refine j_callV (y := yX11_isLeft) (Yc := zX11_isLeft) (rest := [vI (T2 292 0 (T 232 0 m)), vI (T 232 0 m), vR 292 0]) [vI m] (ct_X11_isLeft (T := T2) (by omega)) cl_X11_538 (qd_c (by decide +kernel)) (nn_ _) rfl (rf_of rfl) (Nat.le_of_ble_eq_true rfl) (Nat.le_of_ble_eq_true rfl) (Nat.le_of_ble_eq_true rfl) rfl ?_
        rintro _ _ ⟨rfl, x10, rfl, hx10⟩
        show J_ zX11_countLeft T (po_X11_countLeft T c) 0 0 93 _ [vI x10, vI (T2 292 0 (T 232 0 m)), vI (T 232 0 m), vR 292 0] T2
        refine j_blx (F := fX11) tb_X11 (nn_ _) bk_X11_countLeft_93 bs_X11_countLeft_93 hz (fun K hK => ?_)
        refine And.intro (fun c11 => ?_) (fun c11 => ?_)
        · replace hx10 := hx10.resolve_left (fun z => absurd (c11.symm.trans z.1) (by decide))
          clear c11
          refine hK 100 _ [vI (T2 292 0 (T 232 0 m)), vI (T 232 0 m), vR 292 0] T2 ?_
          refine j_blx (F := fX11) tb_X11 (nn_ _) bk_X11_countLeft_100 bs_X11_countLeft_100 hz (fun K hK => ?_)
          refine rg_i (by omega) ?_
          refine iy_i (by omega) (by omega) ?_
          refine x_nm (fun U12 hU12 => ?_)
          have e13 := up_f hU12
          refine ix_i (by omega) ?_
          intro b14 b14b
          have e15 : U12 233 0 m = T 233 0 m := (up_k hU12 (by exact Nat.ne_of_beq_eq_false rfl) 0 m).trans (hf_59 233 0 m rfl)
          rw [e15] at b14 b14b ⊢
          refine ix_i (by omega) ?_
          intro b16 b16b
          have t17 : 0 ≤ U12 292 0 (T 233 0 m) ∧ U12 292 0 (T 233 0 m) ≤ 2 * (m - T 210 0 c) + 1 := (lb_u (lb2) hU12 (by omega)) (T 233 0 m) (by omega) (by omega)
          refine hK 117 _ [vI m, vR 111 0, vI (U12 292 0 (T 233 0 m)), vI (T 233 0 m), vR 292 0] U12 ?_
          refine j_callV (y := yX11_isLeft) (Yc := zX11_isLeft) (rest := [vI (U12 292 0 (T 233 0 m)), vI (T 233 0 m), vR 292 0]) [vI m] (ct_X11_isLeft (T := U12) (by omega)) cl_X11_538 (qd_c (by decide +kernel)) (nn_ _) rfl (rf_of rfl) (Nat.le_of_ble_eq_true rfl) (Nat.le_of_ble_eq_true rfl) (Nat.le_of_ble_eq_true rfl) rfl ?_
          rintro _ _ ⟨rfl, x18, rfl, hx18⟩
          show J_ zX11_countLeft T (po_X11_countLeft T c) 0 0 120 _ [vI x18, vI (U12 292 0 (T 233 0 m)), vI (T 233 0 m), vR 292 0] U12
          refine j_blx (F := fX11) tb_X11 (nn_ _) bk_X11_countLeft_120 bs_X11_countLeft_120 hz (fun K hK => ?_)
          refine And.intro (fun c19 => ?_) (fun c19 => ?_)
          · replace hx18 := hx18.resolve_left (fun z => absurd (c19.symm.trans z.1) (by decide))
            clear c19
            refine hK 127 _ [vI (U12 292 0 (T 233 0 m)), vI (T 233 0 m), vR 292 0] U12 ?_
            refine j_blx (F := fX11) tb_X11 (nn_ _) bk_X11_countLeft_127 bs_X11_countLeft_127 hz (fun K hK => ?_)
            refine rg_i (by omega) ?_
            refine iy_i (by omega) (by omega) ?_
            refine x_nm (fun U20 hU20 => ?_)
            have e21 := up_f hU20
            refine rg_i (by omega) ?_
            refine hK 59 [some (vR 111 0), some (vI c), some (vI (m + 1))] [] U20 ?_
            refine ih_59 _ ?_ (m + 1) U20 (Nat.le_refl _) ?_ ?_ ?_ ?_
            · have hm_59 := hm_59 (); omega
            · exact fr_u (fr_u (fr_t (fr_0 _ _) (fr_s hf_59 rfl)) hU12 rfl) hU20 rfl
            · omega
            · exact PB6__f (ws := [(292, [])]) pb2 (fr_u (fr_u (fr_0 _ _) hU12 rfl) hU20 rfl) ⟨fun _ => rfl, trivial⟩
            · exact lb_m (lb_u (lb_u (lb2) hU12 (by omega)) hU20 (by omega)) (by omega)
          · replace hx18 := hx18.resolve_right (fun z => c19 z.1)
            clear c19
            refine hK 128 [some (vR 111 0), some (vI c), some (vI m)] [vI 1, vI (U12 292 0 (T 233 0 m)), vI (T 233 0 m), vR 292 0] U12 ?_
            refine j_blx (F := fX11) tb_X11 (nn_ _) bk_X11_countLeft_128 bs_X11_countLeft_128 hz (fun K hK => ?_)
            refine rg_i (by omega) ?_
            refine iy_i (by omega) (by omega) ?_
            refine x_nm (fun U22 hU22 => ?_)
            have e23 := up_f hU22
            refine rg_i (by omega) ?_
            refine hK 59 [some (vR 111 0), some (vI c), some (vI (m + 1))] [] U22 ?_
            refine ih_59 _ ?_ (m + 1) U22 (Nat.le_refl _) ?_ ?_ ?_ ?_
            · have hm_59 := hm_59 (); omega
            · exact fr_u (fr_u (fr_t (fr_0 _ _) (fr_s hf_59 rfl)) hU12 rfl) hU22 rfl
            · omega
            · exact PB6__f (ws := [(292, [])]) pb2 (fr_u (fr_u (fr_0 _ _) hU12 rfl) hU22 rfl) ⟨fun _ => rfl, trivial⟩
            · exact lb_m (lb_u (lb_u (lb2) hU12 (by omega)) hU22 (by omega)) (by omega)
        · replace hx10 := hx10.resolve_right (fun z => c11 z.1)
          clear c11
          refine hK 101 _ [vI 1, vI (T2 292 0 (T 232 0 m)), vI (T 232 0 m), vR 292 0] T2 ?_
          refine j_blx (F := fX11) tb_X11 (nn_ _) bk_X11_countLeft_101 bs_X11_countLeft_101 hz (fun K hK => ?_)
          refine rg_i (by omega) ?_
          refine iy_i (by omega) (by omega) ?_
          refine x_nm (fun U24 hU24 => ?_)
          have e25 := up_f hU24
          refine ix_i (by omega) ?_
          intro b26 b26b
          have e27 : U24 233 0 m = T 233 0 m := (up_k hU24 (by exact Nat.ne_of_beq_eq_false rfl) 0 m).trans (hf_59 233 0 m rfl)
          rw [e27] at b26 b26b ⊢
          refine ix_i (by omega) ?_
          intro b28 b28b
          have t29 : 0 ≤ U24 292 0 (T 233 0 m) ∧ U24 292 0 (T 233 0 m) ≤ 2 * (m - T 210 0 c) + 1 := (lb_u (lb2) hU24 (by omega)) (T 233 0 m) (by omega) (by omega)
          refine hK 117 _ [vI m, vR 111 0, vI (U24 292 0 (T 233 0 m)), vI (T 233 0 m), vR 292 0] U24 ?_
          refine j_callV (y := yX11_isLeft) (Yc := zX11_isLeft) (rest := [vI (U24 292 0 (T 233 0 m)), vI (T 233 0 m), vR 292 0]) [vI m] (ct_X11_isLeft (T := U24) (by omega)) cl_X11_538 (qd_c (by decide +kernel)) (nn_ _) rfl (rf_of rfl) (Nat.le_of_ble_eq_true rfl) (Nat.le_of_ble_eq_true rfl) (Nat.le_of_ble_eq_true rfl) rfl ?_
          rintro _ _ ⟨rfl, x30, rfl, hx30⟩
          show J_ zX11_countLeft T (po_X11_countLeft T c) 0 0 120 _ [vI x30, vI (U24 292 0 (T 233 0 m)), vI (T 233 0 m), vR 292 0] U24
          refine j_blx (F := fX11) tb_X11 (nn_ _) bk_X11_countLeft_120 bs_X11_countLeft_120 hz (fun K hK => ?_)
          refine And.intro (fun c31 => ?_) (fun c31 => ?_)
          · replace hx30 := hx30.resolve_left (fun z => absurd (c31.symm.trans z.1) (by decide))
            clear c31
            refine hK 127 _ [vI (U24 292 0 (T 233 0 m)), vI (T 233 0 m), vR 292 0] U24 ?_
            refine j_blx (F := fX11) tb_X11 (nn_ _) bk_X11_countLeft_127 bs_X11_countLeft_127 hz (fun K hK => ?_)
            refine rg_i (by omega) ?_
            refine iy_i (by omega) (by omega) ?_
            refine x_nm (fun U32 hU32 => ?_)
            have e33 := up_f hU32
            refine rg_i (by omega) ?_
            refine hK 59 [some (vR 111 0), some (vI c), some (vI (m + 1))] [] U32 ?_
            refine ih_59 _ ?_ (m + 1) U32 (Nat.le_refl _) ?_ ?_ ?_ ?_
            · have hm_59 := hm_59 (); omega
            · exact fr_u (fr_u (fr_t (fr_0 _ _) (fr_s hf_59 rfl)) hU24 rfl) hU32 rfl
            · omega
            · exact PB6__f (ws := [(292, [])]) pb2 (fr_u (fr_u (fr_0 _ _) hU24 rfl) hU32 rfl) ⟨fun _ => rfl, trivial⟩
            · exact lb_m (lb_u (lb_u (lb2) hU24 (by omega)) hU32 (by omega)) (by omega)
          · replace hx30 := hx30.resolve_right (fun z => c31 z.1)
            clear c31
            refine hK 128 [some (vR 111 0), some (vI c), some (vI m)] [vI 1, vI (U24 292 0 (T 233 0 m)), vI (T 233 0 m), vR 292 0] U24 ?_
            refine j_blx (F := fX11) tb_X11 (nn_ _) bk_X11_countLeft_128 bs_X11_countLeft_128 hz (fun K hK => ?_)
            refine rg_i (by omega) ?_
            refine iy_i (by omega) (by omega) ?_
            refine x_nm (fun U34 hU34 => ?_)
            have e35 := up_f hU34
            refine rg_i (by omega) ?_
            refine hK 59 [some (vR 111 0), some (vI c), some (vI (m + 1))] [] U34 ?_
            refine ih_59 _ ?_ (m + 1) U34 (Nat.le_refl _) ?_ ?_ ?_ ?_
            · have hm_59 := hm_59 (); omega
            · exact fr_u (fr_u (fr_t (fr_0 _ _) (fr_s hf_59 rfl)) hU24 rfl) hU34 rfl
            · omega
            · exact PB6__f (ws := [(292, [])]) pb2 (fr_u (fr_u (fr_0 _ _) hU24 rfl) hU34 rfl) ⟨fun _ => rfl, trivial⟩
            · exact lb_m (lb_u (lb_u (lb2) hU24 (by omega)) hU34 (by omega)) (by omega)
  have c_15 : ∀ (nn : Nat) (i : Int) (T1 : Zt), ((12 - i).toNat) ≤ nn → (fr_ [(276, []), (291, []), (292, []), (111, [80, 82, 83])] T T1) → (0 ≤ i ∧ i ≤ 12) → (TB_ T1 150000000) → (∀ k, 0 ≤ k → k < i → -7500000 ≤ T1 291 0 k ∧ T1 291 0 k ≤ 7500000) → (∀ k, 0 ≤ k → k < i → T1 292 0 k = 0) → J_ zX11_countLeft T (po_X11_countLeft T c) 0 0 15 [some (vR 111 0), some (vI c), some (vI i)] [] T1 := by
    intro nn
    induction nn using Nat.strongRecOn with
    | _ nn ih_15 =>
      intro i T1 hm_15 hf_15 i1 tb1 p1 l1
      replace hm_15 := fun (_ : Unit) => hm_15
      refine j_blx (F := fX11) tb_X11 (nn_ _) bk_X11_countLeft_15 bs_X11_countLeft_15 hz (fun K hK => ?_)
      refine And.intro (fun c36 => ?_) (fun c36 => ?_)
      · refine hK 52 _ [] T1 ?_
        refine j_blx (F := fX11) tb_X11 (nn_ _) bk_X11_countLeft_52 bs_X11_countLeft_52 hz (fun K hK => ?_)
        refine ix_i (by omega) ?_
        intro b37 b37b
        have e38 : T1 210 0 c = T 210 0 c := hf_15 210 0 c rfl
        rw [e38] at b37 b37b ⊢
        refine hK 59 [some (vR 111 0), some (vI c), some (vI (T 210 0 c))] [] T1 ?_
        refine c_59 _ (T 210 0 c) T1 (Nat.le_refl _) ?_ ?_ ?_ ?_
        · exact fr_t (fr_0 _ _) (fr_s hf_15 rfl)
        · omega
        · exact fun k a b => p1 k a (by omega)
        · exact fun k a b => by have := l1 k a (by omega); omega
      · refine rg_i (by omega) ?_
        refine rg_i (by omega) ?_
        refine ix_i (by omega) ?_
        intro b39 b39b
        refine iy_i (by omega) (by omega) ?_
        refine x_nm (fun U40 hU40 => ?_)
        have e41 := up_f hU40
        refine iy_i (by omega) (by omega) ?_
        refine x_nm (fun U42 hU42 => ?_)
        have e43 := up_f hU42
        refine rg_i (by omega) ?_
        refine hK 15 [some (vR 111 0), some (vI c), some (vI (i + 1))] [] U42 ?_
        refine ih_15 _ ?_ (i + 1) U42 (Nat.le_refl _) ?_ ?_ ?_ ?_ ?_
        · have hm_15 := hm_15 (); omega
        · exact fr_u (fr_u (fr_t (fr_0 _ _) (fr_s hf_15 rfl)) hU40 rfl) hU42 rfl
        · omega
        · exact tb_f tb1 (fun j => (up_k hU42 (by exact Nat.ne_of_beq_eq_false rfl) 0 j).trans (up_k hU40 (by exact Nat.ne_of_beq_eq_false rfl) 0 j))
        · intro j a b
          by_cases z : j = i
          · have e9 : U42 291 0 j = T1 276 0 ((9 * i) + 6) := by rw [z]; exact (up_k hU42 (by exact Nat.ne_of_beq_eq_false rfl) 0 i).trans (up_f hU40)
            have := tb1 (9 * i + 6) (by omega) (by omega)
            omega
          · rw [(up_k hU42 (by exact Nat.ne_of_beq_eq_false rfl) 0 j).trans (up_g hU40 (by omega))]; exact p1 j a (by omega)
        · intro j a b
          by_cases z : j = i
          · have e9 : U42 292 0 j = 0 := by rw [z]; exact (rfl).trans (up_f hU42)
            have := tb1 (9 * i + 6) (by omega) (by omega)
            omega
          · rw [(up_g hU42 (by omega)).trans (up_k hU40 (by exact Nat.ne_of_beq_eq_false rfl) 0 j)]; exact l1 j a (by omega)
  refine j_blx (F := fX11) tb_X11 (nn_ _) bk_X11_countLeft_0 bs_X11_countLeft_0 hz (fun K hK => ?_)
  refine bd_i (by omega) ?_
  refine x_nm (fun U44 hU44 => ?_)
  have e45 := up_f hU44
  refine hK 10 _ [vI 999, vI c, vR 111 0] U44 ?_
  refine j_callV (y := yX11_tellAll) (Yc := zX11_tellAll) (rest := []) [vI c, vI 999] (ct_X11_tellAll (T := U44) (by omega) (ML__f (ws := [(111, [80])]) hml (fr_u (fr_0 _ _) hU44 rfl) ⟨fun _ => rfl, fun _ => rfl, rfl, trivial⟩) (SC__f (ws := [(111, [80])]) hsc (fr_u (fr_0 _ _) hU44 rfl) ⟨fun _ => rfl, fun _ => rfl, trivial⟩) (YB__f (ws := [(111, [80])]) hyb (fr_u (fr_0 _ _) hU44 rfl) ⟨fun _ => rfl, trivial⟩)) cl_X11_514 (qd_c (by decide +kernel)) (nn_ _) rfl (rf_of rfl) (Nat.le_of_ble_eq_true rfl) (Nat.le_of_ble_eq_true rfl) (Nat.le_of_ble_eq_true rfl) rfl ?_
  rintro U46 _ ⟨rfl, fU46, qU46⟩
  show J_ zX11_countLeft T (po_X11_countLeft T c) 0 0 13 _ [] U46
  refine j_blx (F := fX11) tb_X11 (nn_ _) bk_X11_countLeft_13 bs_X11_countLeft_13 hz (fun K hK => ?_)
  refine hK 15 [some (vR 111 0), some (vI c), some (vI 0)] [] U46 ?_
  refine c_15 _ 0 U46 (Nat.le_refl _) ?_ ?_ ?_ ?_ ?_
  · exact fr_t (fr_u (fr_0 _ _) hU44 rfl) (fr_s fU46 rfl)
  · omega
  · exact qU46
  · intro j a b; omega
  · intro j a b; omega
