theorem ci_e {T T1 : Zt} {d : Dr_} {x : Int} {l : List Int} {f : Int → Int} {v g : Int} (h : CI_ T T1 d x l f v g) (hg : d.G ≤ g) (a : ∀ j, T1 434 0 j = T 434 0 j) (b : ∀ j, T1 435 0 j = T 435 0 j) : PC_ T T1 d (x :: l) f v := by
  have e : ∀ c u, qs_ (ok_ d c u f x) (fun w => nw_ d c u l (fu_ f x w)) (g - 1) = 0 := fun c u => qs_n (fun u p _ _ q => by have := q.1; omega)
  obtain ⟨h1, h2, h3⟩ := h
  refine ⟨?_, a, b, fun c hc u p q => ?_, h3⟩
  · rw [e] at h1
    omega
  · rw [h2 c hc u p q, e]
    congr 1
    omega
theorem pc_n {T : Zt} {d : Dr_} {f : Int → Int} : PC_ T T d [] f 1 := ⟨rfl, fun _ => rfl, fun _ => rfl, fun c hc => absurd hc List.not_mem_nil, fun _ _ _ _ _ => rfl⟩
def zX1_cf (n : Nat) : Zm := (RX1, cX1_countFrom, 8, (some .int), { frames := n + 1, cells := 0, slots := 0, locals := 27 * (n + 1) })
theorem rf_cf (n : Nat) : rf_ (zX1_cf n) (zX1_cf (n + 1)) = true := by
  unfold rf_
  rw [Bool.and_eq_true, decide_eq_true_eq, decide_eq_true_eq]
  show n + 1 + 1 ≤ n + 1 + 1 ∧ 8 + (8 + 11) + 27 * (n + 1) ≤ 27 * (n + 1 + 1)
  omega
set_option maxRecDepth 100000 in
theorem cl_cf (n : Nat) : cv_ RX1 68 yX1_countFrom (zX1_cf n) 1 1 := ⟨gi_V (lwq_6 (dqc_m (dqc_m (dqc_m (dqc_m (dqa_m (dqa_m (List.mem_of_getElem? (i := 2) rfl))))))) rfl : Cond.methodLink RX1 68 yX1_countFrom ∈ lw_g) (lwq_6 (dqc_m (dqc_m (dqc_m (dqc_m (dqa_m (dqa_m (List.mem_of_getElem? (i := 4) rfl))))))) rfl : Cond.instanceMethod yX1_countFrom ∈ lw_g) (lw_sel 81 rfl : Cond.selects yX1_countFrom.cls yX1_countFrom yX1_countFrom ∈ lw_g) (lwq_1 (dqa_m (List.mem_of_getElem? (i := 0) rfl)) rfl : Cond.initialized yX1_countFrom.cls ∈ lw_g) (lwq_6 (dqc_m (dqc_m (dqc_m (dqc_m (dqa_m (dqa_m (List.mem_of_getElem? (i := 5) rfl))))))) rfl : Cond.code yX1_countFrom cX1_countFrom 8 (some .int) ∈ lw_g), ⟨by decide, by decide, by decide +kernel⟩, ⟨_, _, rfl⟩⟩
abbrev po_X1_cf (T : Zt) (d : Dr_) (l : List Int) (f : Int → Int) : Zt → Option Zv → Prop := fun T' r => ∃ x : Int, r = some (vI x) ∧ fr_ [(434, []), (435, []), (431, [])] T T' ∧ PC_ T T' d l f x
theorem bk_X1_cf_0 : ck_ fX1 (some .int) cX1_countFrom 0 [.iload 1, .aload 0, .tableswitch 0 1 13 #[], .if_icmp .lt 10, .iconst 1, .ireturn] 10 = true := qck_r (nn_ _) (by decide +kernel)
theorem bs_X1_cf_0 {P : Zt → Option Zv → Prop} (K : Int → Zl → List Zv → Zt → Prop) : sx_ K P [.iload 1, .aload 0, .tableswitch 0 1 13 #[], .if_icmp .lt 10, .iconst 1, .ireturn] 10 = x_iload 1 (x_aload 0 (x_g0 101 13 0 12 (x_if_icmp .lt 10 K (x_iconst 1 (x_ireturn P))))) := ((xe_iload 1).trans (congrArg (x_iload 1) ((xe_aload 0).trans (congrArg (x_aload 0) ((xe_g0 (kk := 101) rfl tl_1_13).trans (congrArg (x_g0 101 13 0 12) ((xe_if_icmp .lt 10).trans (congrArg (x_if_icmp .lt 10 K) ((xe_iconst 1).trans (congrArg (x_iconst 1) (xe_ireturn)))))))))))
abbrev po_X1_cf_n (T : Zt) (d : Dr_) (f : Int → Int) (n : Nat) (k : Int) : Zt → Option Zv → Prop := fun T' r => ∃ x : Int, r = some (vI x) ∧ fr_ [(434, []), (435, []), (431, [])] T T' ∧ (PC_ T T' d [] f x)
set_option maxHeartbeats 4000000 in
theorem ct_X1_cf_n {T : Zt} {d : Dr_} {f : Int → Int} {n : Nat} {k : Int} (hk : k = T 101 0 13) : Ct_ yX1_countFrom (zX1_cf n) T [vR 101 0, vI k] (po_X1_cf_n T d f n k) := by
  refine ct_of pn_1 rfl rfl (Nat.le_of_ble_eq_true rfl) (fun hT hav => ?_) (hi := fun h => absurd (show im_ 0 = true from h) (by decide))
  have hr_k : -2147483648 ≤ k ∧ k ≤ 2147483647 := hav (vI k) (List.mem_cons_of_mem _ List.mem_cons_self)
  have hz : (zX1_cf n).2.2.2.1 = some .boolean → ∀ (T' : Zt) (x : Int), po_X1_cf_n T d f n k T' (some (vI x)) → 0 ≤ x ∧ x ≤ 1 := fun h => by cases h
  show J_ (zX1_cf n) T (po_X1_cf_n T d f n k) 0 0 0 [some (vR 101 0), some (vI k), none, none, none, none, none, none] [] T
  refine j_blx (F := fX1) tb_X1 (nn_ _) bk_X1_cf_0 bs_X1_cf_0 hz (fun K hK => ?_)
  intro b1 b1b
  refine And.intro (fun c2 => ?_) (fun c2 => ?_)
  · exact absurd c2 (by omega)
  · refine (show po_X1_cf_n T d f n k T (some (vI 1)) from ?_)
    exact ⟨_, rfl, fr_0 _ _, pc_n⟩
theorem bk_X1_cf_22 : ck_ fX1 (some .int) cX1_countFrom 22 [.iload 4, .aload 0, .tableswitch 0 1 1 #[], .if_icmp .ge 159, .aload 0, .tableswitch 0 1 8 #[], .iload 2, .iaload, .iconst 4, .imul, .iload 4, .iadd, .istore 5, .iload 4, .iconst 8, .imul, .aload 0, .tableswitch 0 1 0 #[], .tableswitch 0 8 1 #[], .iload 2, .iaload, .iadd, .istore 6, .aload 0, .tableswitch 0 1 14 #[], .iload 5, .iaload, .ifCond .ne 153, .aload 0, .tableswitch 0 1 15 #[], .iload 6, .iaload, .aload 0, .tableswitch 0 1 2 #[], .if_icmp .ge 153, .aload 0, .tableswitch 0 1 14 #[], .iload 5, .iconst 1, .iastore, .aload 0, .tableswitch 0 1 15 #[], .iload 6, .dup2, .iaload, .iconst 1, .iadd, .iastore, .aload 0, .iload 1, .iconst 1, .iadd] 108 = true := qck_r (nn_ _) (by decide +kernel)
theorem bs_X1_cf_22 {P : Zt → Option Zv → Prop} (K : Int → Zl → List Zv → Zt → Prop) : sx_ K P [.iload 4, .aload 0, .tableswitch 0 1 1 #[], .if_icmp .ge 159, .aload 0, .tableswitch 0 1 8 #[], .iload 2, .iaload, .iconst 4, .imul, .iload 4, .iadd, .istore 5, .iload 4, .iconst 8, .imul, .aload 0, .tableswitch 0 1 0 #[], .tableswitch 0 8 1 #[], .iload 2, .iaload, .iadd, .istore 6, .aload 0, .tableswitch 0 1 14 #[], .iload 5, .iaload, .ifCond .ne 153, .aload 0, .tableswitch 0 1 15 #[], .iload 6, .iaload, .aload 0, .tableswitch 0 1 2 #[], .if_icmp .ge 153, .aload 0, .tableswitch 0 1 14 #[], .iload 5, .iconst 1, .iastore, .aload 0, .tableswitch 0 1 15 #[], .iload 6, .dup2, .iaload, .iconst 1, .iadd, .iastore, .aload 0, .iload 1, .iconst 1, .iadd] 108 = x_iload 4 (x_aload 0 (x_g0 101 1 0 4 (x_if_icmp .ge 159 K (x_aload 0 (x_g1 101 428 (x_iload 2 (x_iaload (x_iconst 4 (x_imul (x_iload 4 (x_iadd (x_istore 5 (x_iload 4 (x_iconst 8 (x_imul (x_aload 0 (x_g1 101 108 (x_g1 108 561 (x_iload 2 (x_iaload (x_iadd (x_istore 6 (x_aload 0 (x_g1 101 434 (x_iload 5 (x_iaload (x_ifCond .ne 153 K (x_aload 0 (x_g1 101 435 (x_iload 6 (x_iaload (x_aload 0 (x_g0 101 2 0 3 (x_if_icmp .ge 153 K (x_aload 0 (x_g1 101 434 (x_iload 5 (x_iconst 1 (x_iastore (x_aload 0 (x_g1 101 435 (x_iload 6 (x_dup2 (x_iaload (x_iconst 1 (x_iadd (x_iastore (x_aload 0 (x_iload 1 (x_iconst 1 (x_iadd (K 108)))))))))))))))))))))))))))))))))))))))))))))))))))) := ((xe_iload 4).trans (congrArg (x_iload 4) ((xe_aload 0).trans (congrArg (x_aload 0) ((xe_g0 (kk := 101) rfl tl_1_1).trans (congrArg (x_g0 101 1 0 4) ((xe_if_icmp .ge 159).trans (congrArg (x_if_icmp .ge 159 K) ((xe_aload 0).trans (congrArg (x_aload 0) ((xe_g1 (kk := 101) rfl tl_1_8).trans (congrArg (x_g1 101 428) ((xe_iload 2).trans (congrArg (x_iload 2) ((xe_iaload).trans (congrArg (x_iaload) ((xe_iconst 4).trans (congrArg (x_iconst 4) ((xe_imul).trans (congrArg (x_imul) ((xe_iload 4).trans (congrArg (x_iload 4) ((xe_iadd).trans (congrArg (x_iadd) ((xe_istore 5).trans (congrArg (x_istore 5) ((xe_iload 4).trans (congrArg (x_iload 4) ((xe_iconst 8).trans (congrArg (x_iconst 8) ((xe_imul).trans (congrArg (x_imul) ((xe_aload 0).trans (congrArg (x_aload 0) ((xe_g1 (kk := 101) rfl tl_1_0).trans (congrArg (x_g1 101 108) ((xe_g1 (kk := 108) rfl tl_8_1).trans (congrArg (x_g1 108 561) ((xe_iload 2).trans (congrArg (x_iload 2) ((xe_iaload).trans (congrArg (x_iaload) ((xe_iadd).trans (congrArg (x_iadd) ((xe_istore 6).trans (congrArg (x_istore 6) ((xe_aload 0).trans (congrArg (x_aload 0) ((xe_g1 (kk := 101) rfl tl_1_14).trans (congrArg (x_g1 101 434) ((xe_iload 5).trans (congrArg (x_iload 5) ((xe_iaload).trans (congrArg (x_iaload) ((xe_ifCond .ne 153).trans (congrArg (x_ifCond .ne 153 K) ((xe_aload 0).trans (congrArg (x_aload 0) ((xe_g1 (kk := 101) rfl tl_1_15).trans (congrArg (x_g1 101 435) ((xe_iload 6).trans (congrArg (x_iload 6) ((xe_iaload).trans (congrArg (x_iaload) ((xe_aload 0).trans (congrArg (x_aload 0) ((xe_g0 (kk := 101) rfl tl_1_2).trans (congrArg (x_g0 101 2 0 3) ((xe_if_icmp .ge 153).trans (congrArg (x_if_icmp .ge 153 K) ((xe_aload 0).trans (congrArg (x_aload 0) ((xe_g1 (kk := 101) rfl tl_1_14).trans (congrArg (x_g1 101 434) ((xe_iload 5).trans (congrArg (x_iload 5) ((xe_iconst 1).trans (congrArg (x_iconst 1) ((xe_iastore).trans (congrArg (x_iastore) ((xe_aload 0).trans (congrArg (x_aload 0) ((xe_g1 (kk := 101) rfl tl_1_15).trans (congrArg (x_g1 101 435) ((xe_iload 6).trans (congrArg (x_iload 6) ((xe_dup2).trans (congrArg (x_dup2) ((xe_iaload).trans (congrArg (x_iaload) ((xe_iconst 1).trans (congrArg (x_iconst 1) ((xe_iadd).trans (congrArg (x_iadd) ((xe_iastore).trans (congrArg (x_iastore) ((xe_aload 0).trans (congrArg (x_aload 0) ((xe_iload 1).trans (congrArg (x_iload 1) ((xe_iconst 1).trans (congrArg (x_iconst 1) ((xe_iadd).trans (congrArg (x_iadd) xe_nil))))))))))))))))))))))))))))))))))))))))))))))))))))))))))))))))))))))))))))))))))))))))))))))))))))))))
theorem bk_X1_cf_159 : ck_ fX1 (some .int) cX1_countFrom 159 [.iload 3, .ireturn] 161 = true := qck_r (nn_ _) (by decide +kernel)
theorem bs_X1_cf_159 {P : Zt → Option Zv → Prop} (K : Int → Zl → List Zv → Zt → Prop) : sx_ K P [.iload 3, .ireturn] 161 = x_iload 3 (x_ireturn P) := ((xe_iload 3).trans (congrArg (x_iload 3) (xe_ireturn)))
theorem bk_X1_cf_153 : ck_ fX1 (some .int) cX1_countFrom 153 [.iinc 4 1, .goto 22] 159 = true := qck_r (nn_ _) (by decide +kernel)
theorem bs_X1_cf_153 {P : Zt → Option Zv → Prop} (K : Int → Zl → List Zv → Zt → Prop) : sx_ K P [.iinc 4 1, .goto 22] 159 = x_iinc 4 1 (x_goto 22 K) := ((xe_iinc 4 1).trans (congrArg (x_iinc 4 1) (xe_goto 22)))
theorem bk_X1_cf_111 : ck_ fX1 (some .int) cX1_countFrom 111 [.istore 7, .aload 0, .tableswitch 0 1 11 #[], .iload 2, .iconst 4, .imul, .iload 4, .iadd, .dup2, .iaload, .iload 7, .fadd, .iastore, .iload 3, .iload 7, .iadd, .istore 3, .aload 0, .tableswitch 0 1 15 #[], .iload 6, .dup2, .iaload, .iconst 1, .isub, .iastore, .aload 0, .tableswitch 0 1 14 #[], .iload 5, .iconst 0, .iastore, .iinc 4 1, .goto 22] 159 = true := qck_r (nn_ _) (by decide +kernel)
theorem bs_X1_cf_111 {P : Zt → Option Zv → Prop} (K : Int → Zl → List Zv → Zt → Prop) : sx_ K P [.istore 7, .aload 0, .tableswitch 0 1 11 #[], .iload 2, .iconst 4, .imul, .iload 4, .iadd, .dup2, .iaload, .iload 7, .fadd, .iastore, .iload 3, .iload 7, .iadd, .istore 3, .aload 0, .tableswitch 0 1 15 #[], .iload 6, .dup2, .iaload, .iconst 1, .isub, .iastore, .aload 0, .tableswitch 0 1 14 #[], .iload 5, .iconst 0, .iastore, .iinc 4 1, .goto 22] 159 = x_istore 7 (x_aload 0 (x_g1 101 431 (x_iload 2 (x_iconst 4 (x_imul (x_iload 4 (x_iadd (x_dup2 (x_iaload (x_iload 7 (x_fadd (x_iastore (x_iload 3 (x_iload 7 (x_iadd (x_istore 3 (x_aload 0 (x_g1 101 435 (x_iload 6 (x_dup2 (x_iaload (x_iconst 1 (x_isub (x_iastore (x_aload 0 (x_g1 101 434 (x_iload 5 (x_iconst 0 (x_iastore (x_iinc 4 1 (x_goto 22 K))))))))))))))))))))))))))))))) := ((xe_istore 7).trans (congrArg (x_istore 7) ((xe_aload 0).trans (congrArg (x_aload 0) ((xe_g1 (kk := 101) rfl tl_1_11).trans (congrArg (x_g1 101 431) ((xe_iload 2).trans (congrArg (x_iload 2) ((xe_iconst 4).trans (congrArg (x_iconst 4) ((xe_imul).trans (congrArg (x_imul) ((xe_iload 4).trans (congrArg (x_iload 4) ((xe_iadd).trans (congrArg (x_iadd) ((xe_dup2).trans (congrArg (x_dup2) ((xe_iaload).trans (congrArg (x_iaload) ((xe_iload 7).trans (congrArg (x_iload 7) ((xe_fadd).trans (congrArg (x_fadd) ((xe_iastore).trans (congrArg (x_iastore) ((xe_iload 3).trans (congrArg (x_iload 3) ((xe_iload 7).trans (congrArg (x_iload 7) ((xe_iadd).trans (congrArg (x_iadd) ((xe_istore 3).trans (congrArg (x_istore 3) ((xe_aload 0).trans (congrArg (x_aload 0) ((xe_g1 (kk := 101) rfl tl_1_15).trans (congrArg (x_g1 101 435) ((xe_iload 6).trans (congrArg (x_iload 6) ((xe_dup2).trans (congrArg (x_dup2) ((xe_iaload).trans (congrArg (x_iaload) ((xe_iconst 1).trans (congrArg (x_iconst 1) ((xe_isub).trans (congrArg (x_isub) ((xe_iastore).trans (congrArg (x_iastore) ((xe_aload 0).trans (congrArg (x_aload 0) ((xe_g1 (kk := 101) rfl tl_1_14).trans (congrArg (x_g1 101 434) ((xe_iload 5).trans (congrArg (x_iload 5) ((xe_iconst 0).trans (congrArg (x_iconst 0) ((xe_iastore).trans (congrArg (x_iastore) ((xe_iinc 4 1).trans (congrArg (x_iinc 4 1) (xe_goto 22)))))))))))))))))))))))))))))))))))))))))))))))))))))))))))))))
theorem bk_X1_cf_10 : ck_ fX1 (some .int) cX1_countFrom 10 [.aload 0, .tableswitch 0 1 12 #[], .iload 1, .iaload, .istore 2, .iconst 0, .istore 3, .iconst 0, .istore 4] 22 = true := qck_r (nn_ _) (by decide +kernel)
theorem bs_X1_cf_10 {P : Zt → Option Zv → Prop} (K : Int → Zl → List Zv → Zt → Prop) : sx_ K P [.aload 0, .tableswitch 0 1 12 #[], .iload 1, .iaload, .istore 2, .iconst 0, .istore 3, .iconst 0, .istore 4] 22 = x_aload 0 (x_g1 101 432 (x_iload 1 (x_iaload (x_istore 2 (x_iconst 0 (x_istore 3 (x_iconst 0 (x_istore 4 (K 22))))))))) := ((xe_aload 0).trans (congrArg (x_aload 0) ((xe_g1 (kk := 101) rfl tl_1_12).trans (congrArg (x_g1 101 432) ((xe_iload 1).trans (congrArg (x_iload 1) ((xe_iaload).trans (congrArg (x_iaload) ((xe_istore 2).trans (congrArg (x_istore 2) ((xe_iconst 0).trans (congrArg (x_iconst 0) ((xe_istore 3).trans (congrArg (x_istore 3) ((xe_iconst 0).trans (congrArg (x_iconst 0) ((xe_istore 4).trans (congrArg (x_istore 4) xe_nil))))))))))))))))))
abbrev po_X1_cf_s (T : Zt) (d : Dr_) (l : List Int) (f : Int → Int) (n : Nat) (k : Int) : Zt → Option Zv → Prop := fun T' r => ∃ x : Int, r = some (vI x) ∧ fr_ [(434, []), (435, []), (431, [])] T T' ∧ (PC_ T T' d ((T 432 0 k) :: l) f x)
set_option maxHeartbeats 4000000 in
theorem ct_X1_cf_s {T : Zt} {d : Dr_} {l : List Int} {f : Int → Int} {n : Nat} {k : Int} (IH : ∀ (T1 : Zt) (f1 : Int → Int) (k1 : Int), d = dh_ T1 → WL_ T1 l k1 → OCW_ T1 d.E d.C f1 → FZ_ T1 f1 l → 0 ≤ k1 → Ct_ yX1_countFrom (zX1_cf n) T1 [vR 101 0, vI k1] (po_X1_cf T1 d l f1)) (hd : d = dh_ T) (hw : WL_ T l (k + 1)) (ho : OCW_ T d.E d.C f) (hz9 : FZ_ T f ((T 432 0 k) :: l)) (hk : 0 ≤ k) : Ct_ yX1_countFrom (zX1_cf (n + 1)) T [vR 101 0, vI k] (po_X1_cf_s T d l f n k) := by
  refine ct_of pn_1 rfl rfl (Nat.le_of_ble_eq_true rfl) (fun hT hav => ?_) (hi := fun h => absurd (show im_ 0 = true from h) (by decide))
  have hr_k : -2147483648 ≤ k ∧ k ≤ 2147483647 := hav (vI k) (by simp)
  have hz : (zX1_cf (n + 1)).2.2.2.1 = some .boolean → ∀ (T' : Zt) (x : Int), po_X1_cf_s T d l f n k T' (some (vI x)) → 0 ≤ x ∧ x ≤ 1 := fun h => by cases h
  have hwc : 0 ≤ T 101 0 13 ∧ T 101 0 13 ≤ 12 := bd_f hT 101 13 tl_1_13 0
  have hgr : 0 ≤ T 101 0 1 ∧ T 101 0 1 ≤ 4 := bd_f hT 101 1 tl_1_1 0
  have hwk := wl_c hw
  have hy := hz9.2 (T 432 0 k) List.mem_cons_self
  have hN := fz_b (fx := -1) (gp := -1) hd hz9
  show J_ (zX1_cf (n + 1)) T (po_X1_cf_s T d l f n k) 0 0 0 [some (vR 101 0), some (vI k), none, none, none, none, none, none] [] T
  have c_22 : ∀ (nn : Nat) (v : Int) (g : Int) (T1 : Zt), ((4 - g).toNat) ≤ nn → (fr_ [(434, []), (435, []), (431, [])] T T1) → (0 ≤ v ∧ v ≤ 13824) → (0 ≤ g ∧ g ≤ T 101 0 1) → (∀ j, T1 434 0 j = T 434 0 j) → (∀ j, T1 435 0 j = T 435 0 j) → (CI_ T T1 d (T 432 0 k) l f v g) → J_ (zX1_cf (n + 1)) T (po_X1_cf_s T d l f n k) 0 0 22 [some (vR 101 0), some (vI k), some (vI (T 432 0 k)), some (vI v), some (vI g), none, none, none] [] T1 := by
    intro nn
    induction nn using Nat.strongRecOn with
    | _ nn ih_22 =>
      intro v g T1 hm_22 hf_22 i2 i1 ta1 cm1 ci1
      replace hm_22 := fun (_ : Unit) => hm_22
      have hv1 := ci1.1
      refine j_blx (F := fX1) tb_X1 (nn_ _) bk_X1_cf_22 bs_X1_cf_22 hz (fun K hK => ?_)
      intro b1 b1b
      have e2 : T1 101 0 1 = T 101 0 1 := hf_22 101 0 1 rfl
      rw [e2] at b1 b1b ⊢
      refine And.intro (fun c3 => ?_) (fun c3 => ?_)
      · refine hK 159 _ [] T1 ?_
        refine j_blx (F := fX1) tb_X1 (nn_ _) bk_X1_cf_159 bs_X1_cf_159 hz (fun K hK => ?_)
        refine (show po_X1_cf_s T d l f n k T1 (some (vI v)) from ?_)
        exact ⟨_, rfl, hf_22, ci_e ci1 (by rw [hd]; show T 101 0 1 ≤ g; omega) ta1 cm1⟩
      · have hms := oc_t (x := (T 432 0 k)) (g := g) hd ho hy.1 hy.2.1 hy.2.2.1 hy.2.2.2 ⟨by omega, by omega⟩
        have ht1 := ta1 (T 428 0 (T 432 0 k) * 4 + g)
        have hc1 := cm1 (g * 8 + T 561 0 (T 432 0 k))
        have hcb : T 435 0 (g * 8 + T 561 0 (T 432 0 k)) = cmk_ d.E d.C f g (T 561 0 (T 432 0 k)) 12 := ho.2 g (T 561 0 (T 432 0 k)) (by omega) (by omega) hy.2.2.2.1 (by omega)
        have hcc := cmk_b d.E d.C f g (T 561 0 (T 432 0 k)) 12
        refine ix_i (by omega) ?_
        intro b4 b4b
        have e5 : T1 428 0 (T 432 0 k) = T 428 0 (T 432 0 k) := hf_22 428 0 (T 432 0 k) rfl
        rw [e5] at b4 b4b ⊢
        refine rg_i (by omega) ?_
        refine rg_i (by omega) ?_
        refine rg_i (by omega) ?_
        refine ix_i (by omega) ?_
        intro b6 b6b
        have e7 : T1 561 0 (T 432 0 k) = T 561 0 (T 432 0 k) := hf_22 561 0 (T 432 0 k) rfl
        rw [e7] at b6 b6b ⊢
        refine rg_i (by omega) ?_
        refine ix_i (by omega) ?_
        intro b8 b8b
        refine And.intro (fun c9 => ?_) (fun c9 => ?_)
        · refine hK 153 [some (vR 101 0), some (vI k), some (vI (T 432 0 k)), some (vI v), some (vI g), some (vI (((T 428 0 (T 432 0 k)) * 4) + g)), some (vI ((g * 8) + (T 561 0 (T 432 0 k)))), none] [] T1 ?_
          refine j_blx (F := fX1) tb_X1 (nn_ _) bk_X1_cf_153 bs_X1_cf_153 hz (fun K hK => ?_)
          refine rg_i (by omega) ?_
          refine hK 22 [some (vR 101 0), some (vI k), some (vI (T 432 0 k)), some (vI v), some (vI (g + 1)), some (vI (((T 428 0 (T 432 0 k)) * 4) + g)), some (vI ((g * 8) + (T 561 0 (T 432 0 k)))), none] [] T1 ?_
          refine j_drop [some (vR 101 0), some (vI k), some (vI (T 432 0 k)), some (vI v), some (vI (g + 1)), none, none, none] (fun k v hk => ?_) rfl ?_
          · match k, hk with
            | 0, hk => exact hk
            | 1, hk => exact hk
            | 2, hk => exact hk
            | 3, hk => exact hk
            | 4, hk => exact hk
            | 5, hk => cases hk
            | 6, hk => cases hk
            | 7, hk => cases hk
            | k + 8, hk => cases hk
          refine ih_22 _ ?_ v (g + 1) T1 (Nat.le_refl _) ?_ ?_ ?_ ?_ ?_ ?_
          · have hm_22 := hm_22 (); omega
          · exact fr_t (fr_0 _ _) (fr_s hf_22 rfl)
          · omega
          · omega
          · exact ta1
          · exact cm1
          · exact ci_n ci1 (fun z9 => by have z := hms.mpr z9; omega)
        · refine ix_i (by omega) ?_
          intro b10 b10b
          intro b11 b11b
          have e12 : T1 101 0 2 = T 101 0 2 := hf_22 101 0 2 rfl
          rw [e12] at b11 b11b ⊢
          refine And.intro (fun c13 => ?_) (fun c13 => ?_)
          · refine hK 153 [some (vR 101 0), some (vI k), some (vI (T 432 0 k)), some (vI v), some (vI g), some (vI (((T 428 0 (T 432 0 k)) * 4) + g)), some (vI ((g * 8) + (T 561 0 (T 432 0 k)))), none] [] T1 ?_
            refine j_blx (F := fX1) tb_X1 (nn_ _) bk_X1_cf_153 bs_X1_cf_153 hz (fun K hK => ?_)
            refine rg_i (by omega) ?_
            refine hK 22 [some (vR 101 0), some (vI k), some (vI (T 432 0 k)), some (vI v), some (vI (g + 1)), some (vI (((T 428 0 (T 432 0 k)) * 4) + g)), some (vI ((g * 8) + (T 561 0 (T 432 0 k)))), none] [] T1 ?_
            refine j_drop [some (vR 101 0), some (vI k), some (vI (T 432 0 k)), some (vI v), some (vI (g + 1)), none, none, none] (fun k v hk => ?_) rfl ?_
            · match k, hk with
              | 0, hk => exact hk
              | 1, hk => exact hk
              | 2, hk => exact hk
              | 3, hk => exact hk
              | 4, hk => exact hk
              | 5, hk => cases hk
              | 6, hk => cases hk
              | 7, hk => cases hk
              | k + 8, hk => cases hk
            refine ih_22 _ ?_ v (g + 1) T1 (Nat.le_refl _) ?_ ?_ ?_ ?_ ?_ ?_
            · have hm_22 := hm_22 (); omega
            · exact fr_t (fr_0 _ _) (fr_s hf_22 rfl)
            · omega
            · omega
            · exact ta1
            · exact cm1
            · exact ci_n ci1 (fun z9 => by have z := hms.mpr z9; omega)
          · refine iy_i (by omega) (by omega) ?_
            refine x_nm (fun U14 hU14 => ?_)
            have e15 := up_f hU14
            refine ix_i (by omega) ?_
            intro b16 b16b
            have e17 : U14 435 0 ((g * 8) + (T 561 0 (T 432 0 k))) = T1 435 0 ((g * 8) + (T 561 0 (T 432 0 k))) := up_k hU14 (by exact Nat.ne_of_beq_eq_false rfl) 0 ((g * 8) + (T 561 0 (T 432 0 k)))
            rw [e17] at b16 b16b ⊢
            refine rg_i (by omega) ?_
            refine iy_i (by omega) (by omega) ?_
            refine x_nm (fun U18 hU18 => ?_)
            have e19 := up_f hU18
            refine rg_i (by omega) ?_
            refine hK 108 [some (vR 101 0), some (vI k), some (vI (T 432 0 k)), some (vI v), some (vI g), some (vI (((T 428 0 (T 432 0 k)) * 4) + g)), some (vI ((g * 8) + (T 561 0 (T 432 0 k)))), none] [vI (k + 1), vR 101 0] U18 ?_
            have fq := (show fr_ [(434, []), (435, []), (431, [])] T U18 from fr_u (fr_u (fr_t (fr_0 _ _) (fr_s hf_22 rfl)) hU14 rfl) hU18 rfl)
            have okm : ms_ d f (T 432 0 k) g := hms.mp ⟨by omega, by omega⟩
            have hoc : OCW_ U18 d.E d.C (fu_ f (T 432 0 k) g) := oc_u (T := T1) (oc_e ho ta1 cm1) ⟨hy.1.1, hy.1.2⟩ hy.2.1 (by rw [hd]; exact hy.2.2.1) (by rw [hd]; exact ⟨hy.2.2.2.1, by have := hy.2.2.2.2; show T 561 0 (T 432 0 k) < 8; omega⟩) ⟨by omega, by omega⟩ (by rw [hd]; show U18 434 0 (T 428 0 (T 432 0 k) * 4 + g) ≠ 0; rw [up_k hU18 (by exact Nat.ne_of_beq_eq_false rfl), up_f hU14]; decide) (by rw [hd]; exact fun j hj => (up_k hU18 (by exact Nat.ne_of_beq_eq_false rfl) 0 j).trans (up_g hU14 (fun q => hj q.2.2))) (by rw [hd]; show U18 435 0 (g * 8 + T 561 0 (T 432 0 k)) = T1 435 0 (g * 8 + T 561 0 (T 432 0 k)) + 1; exact up_f hU18) (by rw [hd]; exact fun j hj => (up_g hU18 (fun q => hj q.2.2)).trans (up_k hU14 (by exact Nat.ne_of_beq_eq_false rfl) 0 j))
            have hwl2 := wl_e (fun j => fq 432 0 j rfl) (fq 101 0 13 rfl) hw
            have hfz2 : FZ_ U18 (fu_ f (T 432 0 k) g) l := fz_u hz9 (fun j => fq 428 0 j rfl) (fun j => fq 561 0 j rfl)
            have hdq2 : d = dh_ U18 := dq_f hd fq ⟨fun _ => rfl, fun _ => rfl, rfl, rfl⟩
            refine j_callV (pc := 108) (y := yX1_countFrom) (Yc := zX1_cf n) (rest := []) [vI (k + 1)] (IH U18 (fu_ f (T 432 0 k) g) (k + 1) hdq2 hwl2 hoc hfz2 (by omega)) (cl_cf n) (by show decode cX1_countFrom (Int.toNat 108) = _; decide +kernel) (by decide) rfl (rf_cf n) (Nat.le_of_ble_eq_true rfl) (Nat.le_refl _) (Nat.le_refl _) rfl ?_
            rintro U21 _ ⟨x20, rfl, fU21, qU21⟩
            have hb9 := fz_b (fx := -1) (gp := -1) hdq2 hfz2
            have hx9 : 0 ≤ x20 ∧ x20 ≤ 13824 := by have := qU21.1; omega
            have hvw : v + x20 ≤ 13824 := by
              have s0 := qs_g1 (C := ok_ d (-1) (-1) f (T 432 0 k)) (V := fun u => nw_ d (-1) (-1) l (fu_ f (T 432 0 k) u)) (g := g) (by omega) (by omega) ⟨by rw [hd]; show g < T 101 0 1; omega, fun z => by omega, okm⟩
              have s1 := ci1.1
              rw [s0] at s1
              have s2 := qU21.1
              have s3 := hN
              omega
            show J_ (zX1_cf (n + 1)) T (po_X1_cf_s T d l f n k) 0 0 111 _ [vI x20] U21
            refine j_blx (F := fX1) tb_X1 (nn_ _) bk_X1_cf_111 bs_X1_cf_111 hz (fun K hK => ?_)
            refine rg_i (by omega) ?_
            refine rg_i (by omega) ?_
            refine ix_i (by omega) ?_
            intro b22 b22b
            intro w23 w23b
            refine iy_i (by omega) (by omega) ?_
            refine x_nm (fun U24 hU24 => ?_)
            have e25 := up_f hU24
            refine rg_i (by omega) ?_
            refine ix_i (by omega) ?_
            intro b26 b26b
            have e27 : U24 435 0 ((g * 8) + (T 561 0 (T 432 0 k))) = U21 435 0 ((g * 8) + (T 561 0 (T 432 0 k))) := up_k hU24 (by exact Nat.ne_of_beq_eq_false rfl) 0 ((g * 8) + (T 561 0 (T 432 0 k)))
            rw [e27] at b26 b26b ⊢
            have y5 := qU21.2.2.1 (g * 8 + T 561 0 (T 432 0 k))
            have y6 := up_f hU18
            have y7 : U24 435 0 (g * 8 + T 561 0 (T 432 0 k)) = U21 435 0 (g * 8 + T 561 0 (T 432 0 k)) := up_k hU24 (by exact Nat.ne_of_beq_eq_false rfl) 0 _
            refine rg_i (by omega) ?_
            refine iy_i (by omega) (by omega) ?_
            refine x_nm (fun U28 hU28 => ?_)
            have e29 := up_f hU28
            refine iy_i (by omega) (by omega) ?_
            refine x_nm (fun U30 hU30 => ?_)
            have e31 := up_f hU30
            refine rg_i (by omega) ?_
            refine hK 22 [some (vR 101 0), some (vI k), some (vI (T 432 0 k)), some (vI (v + x20)), some (vI (g + 1)), some (vI (((T 428 0 (T 432 0 k)) * 4) + g)), some (vI ((g * 8) + (T 561 0 (T 432 0 k)))), some (vI x20)] [] U30 ?_
            refine j_drop [some (vR 101 0), some (vI k), some (vI (T 432 0 k)), some (vI (v + x20)), some (vI (g + 1)), none, none, none] (fun k v hk => ?_) rfl ?_
            · match k, hk with
              | 0, hk => exact hk
              | 1, hk => exact hk
              | 2, hk => exact hk
              | 3, hk => exact hk
              | 4, hk => exact hk
              | 5, hk => cases hk
              | 6, hk => cases hk
              | 7, hk => cases hk
              | k + 8, hk => cases hk
            refine ih_22 _ ?_ (v + x20) (g + 1) U30 (Nat.le_refl _) ?_ ?_ ?_ ?_ ?_ ?_
            · have hm_22 := hm_22 (); omega
            · exact fr_u (fr_u (fr_u (fr_t (fr_u (fr_u (fr_t (fr_0 _ _) (fr_s hf_22 rfl)) hU14 rfl) hU18 rfl) (fr_s fU21 rfl)) hU24 rfl) hU28 rfl) hU30 rfl
            · omega
            · omega
            · intro j
              by_cases z : j = T 428 0 (T 432 0 k) * 4 + g
              · rw [z, up_f hU30]; omega
              · rw [up_g hU30 (fun q => z q.2.2), up_k hU28 (by exact Nat.ne_of_beq_eq_false rfl), up_k hU24 (by exact Nat.ne_of_beq_eq_false rfl), qU21.2.1, up_k hU18 (by exact Nat.ne_of_beq_eq_false rfl), up_g hU14 (fun q => z q.2.2)]; exact ta1 j
            · intro j
              by_cases z : j = g * 8 + T 561 0 (T 432 0 k)
              · rw [z, up_k hU30 (by exact Nat.ne_of_beq_eq_false rfl), up_f hU28]; have y1 := qU21.2.2.1 (g * 8 + T 561 0 (T 432 0 k)); have y2 := up_f hU18; have y3 := cm1 (g * 8 + T 561 0 (T 432 0 k)); omega
              · rw [up_k hU30 (by exact Nat.ne_of_beq_eq_false rfl), up_g hU28 (fun q => z q.2.2), up_k hU24 (by exact Nat.ne_of_beq_eq_false rfl), qU21.2.2.1, up_g hU18 (fun q => z q.2.2), up_k hU14 (by exact Nat.ne_of_beq_eq_false rfl)]; exact cm1 j
            · exact ci_y (T1 := T1) (T2 := U18) (T3 := U21) ci1 hz9.1 (fun z hz => (hz9.2 z hz).1.1) ⟨by omega, by omega⟩ (by rw [hd]; show g < T 101 0 1; omega) okm (fun j => (up_k hU18 (by exact Nat.ne_of_beq_eq_false rfl) 0 j).trans (up_k hU14 (by exact Nat.ne_of_beq_eq_false rfl) 0 j)) qU21 ((up_k hU30 (by exact Nat.ne_of_beq_eq_false rfl) 0 _).trans ((up_k hU28 (by exact Nat.ne_of_beq_eq_false rfl) 0 _).trans (up_f hU24))) (fun j hj => (up_k hU30 (by exact Nat.ne_of_beq_eq_false rfl) 0 j).trans ((up_k hU28 (by exact Nat.ne_of_beq_eq_false rfl) 0 j).trans (up_g hU24 (fun q => hj q.2.2))))
  refine j_blx (F := fX1) tb_X1 (nn_ _) bk_X1_cf_0 bs_X1_cf_0 hz (fun K hK => ?_)
  intro b32 b32b
  refine And.intro (fun c33 => ?_) (fun c33 => ?_)
  · refine hK 10 _ [] T ?_
    refine j_blx (F := fX1) tb_X1 (nn_ _) bk_X1_cf_10 bs_X1_cf_10 hz (fun K hK => ?_)
    refine ix_i (by omega) ?_
    intro b34 b34b
    refine hK 22 [some (vR 101 0), some (vI k), some (vI (T 432 0 k)), some (vI 0), some (vI 0), none, none, none] [] T ?_
    refine c_22 _ 0 0 T (Nat.le_refl _) ?_ ?_ ?_ ?_ ?_ ?_
    · exact fr_0 _ _
    · omega
    · omega
    · exact fun _ => rfl
    · exact fun _ => rfl
    · exact ci_0 (fun z hz => (hz9.2 z hz).1.1) (fun j hj => bd_a hT 431 (by decide +kernel : ta_ 431 = some (1, some 48, -2147483648, 2147483647)) 0 hj)
  · exact absurd c33 (by omega)
