-- assign and can: what they leave of the int rows
/-- all old rows but the referees' own stay -/
def KPA_ (T U : Zt) : Prop := (∀ x j, x < T 191 0 0 → x ≠ T 104 0 4 → U 190 x j = T 190 x j) ∧ (U 104 0 4 = T 104 0 4 ∨ (U 104 0 4 = T 191 0 0 ∧ T 191 0 0 < U 191 0 0))
theorem kpa_r {T : Zt} : KPA_ T T := ⟨fun _ _ _ _ => rfl, Or.inl rfl⟩
/-- all old rows but the title's own stay -/
def KPT_ (T U : Zt) : Prop := (∀ x j, x < T 191 0 0 → x + 1 ≠ T 109 0 15 → U 190 x j = T 190 x j) ∧ (U 109 0 15 = T 109 0 15 ∨ (U 109 0 15 = T 191 0 0 + 1 ∧ T 191 0 0 < U 191 0 0))
theorem kpt_r {T : Zt} : KPT_ T T := ⟨fun _ _ _ _ => rfl, Or.inl rfl⟩
theorem bk_X9_leastCut_e_72 : ck_ fX9 (some .int) cX9_leastCut 72 [.iload 4, .iconst 4096, .if_icmp .ge 161, .iload 3, .iload 2, .if_icmp .eq 161, .iload 3, .iload 2, .isub, .iload 2, .iand, .istore 3, .iload 3] 92 = true := qck_r (nn_ _) (by decide +kernel)
theorem bs_X9_leastCut_e_72 {P : Zt → Option Zv → Prop} (K : Int → Zl → List Zv → Zt → Prop) : sx_ K P [.iload 4, .iconst 4096, .if_icmp .ge 161, .iload 3, .iload 2, .if_icmp .eq 161, .iload 3, .iload 2, .isub, .iload 2, .iand, .istore 3, .iload 3] 92 = x_iload 4 (x_iconst 4096 (x_if_icmp .ge 161 K (x_iload 3 (x_iload 2 (x_if_icmp .eq 161 K (x_iload 3 (x_iload 2 (x_isub (x_iload 2 (x_iand (x_istore 3 (x_iload 3 (K 92))))))))))))) := ((xe_iload 4).trans (congrArg (x_iload 4) ((xe_iconst 4096).trans (congrArg (x_iconst 4096) ((xe_if_icmp .ge 161).trans (congrArg (x_if_icmp .ge 161 K) ((xe_iload 3).trans (congrArg (x_iload 3) ((xe_iload 2).trans (congrArg (x_iload 2) ((xe_if_icmp .eq 161).trans (congrArg (x_if_icmp .eq 161 K) ((xe_iload 3).trans (congrArg (x_iload 3) ((xe_iload 2).trans (congrArg (x_iload 2) ((xe_isub).trans (congrArg (x_isub) ((xe_iload 2).trans (congrArg (x_iload 2) ((xe_iand).trans (congrArg (x_iand) ((xe_istore 3).trans (congrArg (x_istore 3) ((xe_iload 3).trans (congrArg (x_iload 3) xe_nil))))))))))))))))))))))))))
theorem bk_X9_leastCut_e_161 : ck_ fX9 (some .int) cX9_leastCut 161 [.iconst 0, .ireturn] 163 = true := qck_r (nn_ _) (by decide +kernel)
theorem bs_X9_leastCut_e_161 {P : Zt → Option Zv → Prop} (K : Int → Zl → List Zv → Zt → Prop) : sx_ K P [.iconst 0, .ireturn] 163 = x_iconst 0 (x_ireturn P) := ((xe_iconst 0).trans (congrArg (x_iconst 0) (xe_ireturn)))
theorem bk_X9_leastCut_e_95 : ck_ fX9 (some .int) cX9_leastCut 95 [.istore 5, .iload 3, .iload 3, .iconst 1, .isub, .iand, .istore 6, .aload 0, .tableswitch 0 9 15 #[], .iload 3, .aload 0, .tableswitch 0 9 15 #[], .iload 6, .iaload, .aload 0, .tableswitch 0 9 11 #[], .aload 0, .tableswitch 0 9 5 #[], .tableswitch 0 0 4 #[], .iload 5, .iaload, .iaload, .fadd, .iconst 2, .aload 0, .iload 5, .iload 6] 138 = true := qck_r (nn_ _) (by decide +kernel)
theorem bs_X9_leastCut_e_95 {P : Zt → Option Zv → Prop} (K : Int → Zl → List Zv → Zt → Prop) : sx_ K P [.istore 5, .iload 3, .iload 3, .iconst 1, .isub, .iand, .istore 6, .aload 0, .tableswitch 0 9 15 #[], .iload 3, .aload 0, .tableswitch 0 9 15 #[], .iload 6, .iaload, .aload 0, .tableswitch 0 9 11 #[], .aload 0, .tableswitch 0 9 5 #[], .tableswitch 0 0 4 #[], .iload 5, .iaload, .iaload, .fadd, .iconst 2, .aload 0, .iload 5, .iload 6] 138 = x_istore 5 (x_iload 3 (x_iload 3 (x_iconst 1 (x_isub (x_iand (x_istore 6 (x_aload 0 (x_g5 109 190 15 (x_iload 3 (x_aload 0 (x_g5 109 190 15 (x_iload 6 (x_iaload (x_aload 0 (x_g1 109 591 (x_aload 0 (x_g5 109 100 5 (x_g2 100 404 (x_iload 5 (x_iaload (x_iaload (x_fadd (x_iconst 2 (x_aload 0 (x_iload 5 (x_iload 6 (K 138))))))))))))))))))))))))))) := ((xe_istore 5).trans (congrArg (x_istore 5) ((xe_iload 3).trans (congrArg (x_iload 3) ((xe_iload 3).trans (congrArg (x_iload 3) ((xe_iconst 1).trans (congrArg (x_iconst 1) ((xe_isub).trans (congrArg (x_isub) ((xe_iand).trans (congrArg (x_iand) ((xe_istore 6).trans (congrArg (x_istore 6) ((xe_aload 0).trans (congrArg (x_aload 0) ((xe_g5 (kk := 109) rfl tl_9_15).trans (congrArg (x_g5 109 190 15) ((xe_iload 3).trans (congrArg (x_iload 3) ((xe_aload 0).trans (congrArg (x_aload 0) ((xe_g5 (kk := 109) rfl tl_9_15).trans (congrArg (x_g5 109 190 15) ((xe_iload 6).trans (congrArg (x_iload 6) ((xe_iaload).trans (congrArg (x_iaload) ((xe_aload 0).trans (congrArg (x_aload 0) ((xe_g1 (kk := 109) rfl tl_9_11).trans (congrArg (x_g1 109 591) ((xe_aload 0).trans (congrArg (x_aload 0) ((xe_g5 (kk := 109) rfl tl_9_5).trans (congrArg (x_g5 109 100 5) ((xe_g2 (kk := 100) rfl tl_0_4).trans (congrArg (x_g2 100 404) ((xe_iload 5).trans (congrArg (x_iload 5) ((xe_iaload).trans (congrArg (x_iaload) ((xe_iaload).trans (congrArg (x_iaload) ((xe_fadd).trans (congrArg (x_fadd) ((xe_iconst 2).trans (congrArg (x_iconst 2) ((xe_aload 0).trans (congrArg (x_aload 0) ((xe_iload 5).trans (congrArg (x_iload 5) ((xe_iload 6).trans (congrArg (x_iload 6) xe_nil))))))))))))))))))))))))))))))))))))))))))))))))))))))
theorem bk_X9_leastCut_e_141 : ck_ fX9 (some .int) cX9_leastCut 141 [.imul, .fsub, .iastore, .aload 0, .tableswitch 0 9 15 #[], .iload 3, .iaload, .ifCond .ge 155, .iload 3, .ireturn] 155 = true := qck_r (nn_ _) (by decide +kernel)
theorem bs_X9_leastCut_e_141 {P : Zt → Option Zv → Prop} (K : Int → Zl → List Zv → Zt → Prop) : sx_ K P [.imul, .fsub, .iastore, .aload 0, .tableswitch 0 9 15 #[], .iload 3, .iaload, .ifCond .ge 155, .iload 3, .ireturn] 155 = x_imul (x_fsub (x_iastore (x_aload 0 (x_g5 109 190 15 (x_iload 3 (x_iaload (x_ifCond .ge 155 K (x_iload 3 (x_ireturn P))))))))) := ((xe_imul).trans (congrArg (x_imul) ((xe_fsub).trans (congrArg (x_fsub) ((xe_iastore).trans (congrArg (x_iastore) ((xe_aload 0).trans (congrArg (x_aload 0) ((xe_g5 (kk := 109) rfl tl_9_15).trans (congrArg (x_g5 109 190 15) ((xe_iload 3).trans (congrArg (x_iload 3) ((xe_iaload).trans (congrArg (x_iaload) ((xe_ifCond .ge 155).trans (congrArg (x_ifCond .ge 155 K) ((xe_iload 3).trans (congrArg (x_iload 3) (xe_ireturn)))))))))))))))))))
theorem bk_X9_leastCut_e_155 : ck_ fX9 (some .int) cX9_leastCut 155 [.iinc 4 1, .goto 72] 161 = true := qck_r (nn_ _) (by decide +kernel)
theorem bs_X9_leastCut_e_155 {P : Zt → Option Zv → Prop} (K : Int → Zl → List Zv → Zt → Prop) : sx_ K P [.iinc 4 1, .goto 72] 161 = x_iinc 4 1 (x_goto 72 K) := ((xe_iinc 4 1).trans (congrArg (x_iinc 4 1) (xe_goto 72)))
theorem bk_X9_leastCut_e_27 : ck_ fX9 (some .int) cX9_leastCut 27 [.iload 3, .aload 0, .tableswitch 0 9 5 #[], .tableswitch 0 0 5 #[], .if_icmp .ge 67, .iload 2, .iload 3, .iload 1, .if_icmp .ne 48, .iconst 0, .goto 59] 48 = true := qck_r (nn_ _) (by decide +kernel)
theorem bs_X9_leastCut_e_27 {P : Zt → Option Zv → Prop} (K : Int → Zl → List Zv → Zt → Prop) : sx_ K P [.iload 3, .aload 0, .tableswitch 0 9 5 #[], .tableswitch 0 0 5 #[], .if_icmp .ge 67, .iload 2, .iload 3, .iload 1, .if_icmp .ne 48, .iconst 0, .goto 59] 48 = x_iload 3 (x_aload 0 (x_g5 109 100 5 (x_g0 100 5 0 12 (x_if_icmp .ge 67 K (x_iload 2 (x_iload 3 (x_iload 1 (x_if_icmp .ne 48 K (x_iconst 0 (x_goto 59 K)))))))))) := ((xe_iload 3).trans (congrArg (x_iload 3) ((xe_aload 0).trans (congrArg (x_aload 0) ((xe_g5 (kk := 109) rfl tl_9_5).trans (congrArg (x_g5 109 100 5) ((xe_g0 (kk := 100) rfl tl_0_5).trans (congrArg (x_g0 100 5 0 12) ((xe_if_icmp .ge 67).trans (congrArg (x_if_icmp .ge 67 K) ((xe_iload 2).trans (congrArg (x_iload 2) ((xe_iload 3).trans (congrArg (x_iload 3) ((xe_iload 1).trans (congrArg (x_iload 1) ((xe_if_icmp .ne 48).trans (congrArg (x_if_icmp .ne 48 K) ((xe_iconst 0).trans (congrArg (x_iconst 0) (xe_goto 59)))))))))))))))))))))
theorem bk_X9_leastCut_e_67 : ck_ fX9 (some .int) cX9_leastCut 67 [.iconst 0, .istore 3, .iconst 1, .istore 4] 72 = true := qck_r (nn_ _) (by decide +kernel)
theorem bs_X9_leastCut_e_67 {P : Zt → Option Zv → Prop} (K : Int → Zl → List Zv → Zt → Prop) : sx_ K P [.iconst 0, .istore 3, .iconst 1, .istore 4] 72 = x_iconst 0 (x_istore 3 (x_iconst 1 (x_istore 4 (K 72)))) := ((xe_iconst 0).trans (congrArg (x_iconst 0) ((xe_istore 3).trans (congrArg (x_istore 3) ((xe_iconst 1).trans (congrArg (x_iconst 1) ((xe_istore 4).trans (congrArg (x_istore 4) xe_nil))))))))
theorem bk_X9_leastCut_e_48 : ck_ fX9 (some .int) cX9_leastCut 48 [.iconst 1, .aload 0, .tableswitch 0 9 5 #[], .tableswitch 0 0 3 #[], .iload 3, .iaload, .ishl, .ior, .istore 2, .iinc 3 1, .goto 27] 67 = true := qck_r (nn_ _) (by decide +kernel)
theorem bs_X9_leastCut_e_48 {P : Zt → Option Zv → Prop} (K : Int → Zl → List Zv → Zt → Prop) : sx_ K P [.iconst 1, .aload 0, .tableswitch 0 9 5 #[], .tableswitch 0 0 3 #[], .iload 3, .iaload, .ishl, .ior, .istore 2, .iinc 3 1, .goto 27] 67 = x_iconst 1 (x_aload 0 (x_g5 109 100 5 (x_g2 100 403 (x_iload 3 (x_iaload (x_ishl (x_ior (x_istore 2 (x_iinc 3 1 (x_goto 27 K)))))))))) := ((xe_iconst 1).trans (congrArg (x_iconst 1) ((xe_aload 0).trans (congrArg (x_aload 0) ((xe_g5 (kk := 109) rfl tl_9_5).trans (congrArg (x_g5 109 100 5) ((xe_g2 (kk := 100) rfl tl_0_3).trans (congrArg (x_g2 100 403) ((xe_iload 3).trans (congrArg (x_iload 3) ((xe_iaload).trans (congrArg (x_iaload) ((xe_ishl).trans (congrArg (x_ishl) ((xe_ior).trans (congrArg (x_ior) ((xe_istore 2).trans (congrArg (x_istore 2) ((xe_iinc 3 1).trans (congrArg (x_iinc 3 1) (xe_goto 27)))))))))))))))))))))
theorem bk_X9_leastCut_e_59 : ck_ fX9 (some .int) cX9_leastCut 59 [.ior, .istore 2, .iinc 3 1, .goto 27] 67 = true := qck_r (nn_ _) (by decide +kernel)
theorem bs_X9_leastCut_e_59 {P : Zt → Option Zv → Prop} (K : Int → Zl → List Zv → Zt → Prop) : sx_ K P [.ior, .istore 2, .iinc 3 1, .goto 27] 67 = x_ior (x_istore 2 (x_iinc 3 1 (x_goto 27 K))) := ((xe_ior).trans (congrArg (x_ior) ((xe_istore 2).trans (congrArg (x_istore 2) ((xe_iinc 3 1).trans (congrArg (x_iinc 3 1) (xe_goto 27)))))))
theorem bk_X9_leastCut_e_16 : ck_ fX9 (some .int) cX9_leastCut 16 [.aload 0, .tableswitch 0 9 15 #[], .iconst 0, .iconst 0, .iastore, .iconst 0, .istore 2, .iconst 0, .istore 3] 27 = true := qck_r (nn_ _) (by decide +kernel)
theorem bs_X9_leastCut_e_16 {P : Zt → Option Zv → Prop} (K : Int → Zl → List Zv → Zt → Prop) : sx_ K P [.aload 0, .tableswitch 0 9 15 #[], .iconst 0, .iconst 0, .iastore, .iconst 0, .istore 2, .iconst 0, .istore 3] 27 = x_aload 0 (x_g5 109 190 15 (x_iconst 0 (x_iconst 0 (x_iastore (x_iconst 0 (x_istore 2 (x_iconst 0 (x_istore 3 (K 27))))))))) := ((xe_aload 0).trans (congrArg (x_aload 0) ((xe_g5 (kk := 109) rfl tl_9_15).trans (congrArg (x_g5 109 190 15) ((xe_iconst 0).trans (congrArg (x_iconst 0) ((xe_iconst 0).trans (congrArg (x_iconst 0) ((xe_iastore).trans (congrArg (x_iastore) ((xe_iconst 0).trans (congrArg (x_iconst 0) ((xe_istore 2).trans (congrArg (x_istore 2) ((xe_iconst 0).trans (congrArg (x_iconst 0) ((xe_istore 3).trans (congrArg (x_istore 3) xe_nil))))))))))))))))))
theorem bk_X9_leastCut_e_0 : ck_ fX9 (some .int) cX9_leastCut 0 [.aload 0, .tableswitch 0 9 15 #[], .ifnonnull 16, .aload 0, .iconst 4096] 11 = true := qck_r (nn_ _) (by decide +kernel)
theorem bs_X9_leastCut_e_0 {P : Zt → Option Zv → Prop} (K : Int → Zl → List Zv → Zt → Prop) : sx_ K P [.aload 0, .tableswitch 0 9 15 #[], .ifnonnull 16, .aload 0, .iconst 4096] 11 = x_aload 0 (x_g5 109 190 15 (x_ifnonnull 16 K (x_aload 0 (x_iconst 4096 (K 11))))) := ((xe_aload 0).trans (congrArg (x_aload 0) ((xe_g5 (kk := 109) rfl tl_9_15).trans (congrArg (x_g5 109 190 15) ((xe_ifnonnull 16).trans (congrArg (x_ifnonnull 16 K) ((xe_aload 0).trans (congrArg (x_aload 0) ((xe_iconst 4096).trans (congrArg (x_iconst 4096) xe_nil))))))))))
abbrev po_X9_leastCut_e (T : Zt) (t : Int) : Zt → Option Zv → Prop := fun T' r => ∃ x : Int, r = some (vI x) ∧ fr_ [(109, [15]), (190, []), (191, [0])] T T' ∧ (0 ≤ x ∧ x ≤ 4095) ∧ (T' 109 0 15 ≠ 0 → T' 190 (T' 109 0 15 - 1) (-2) = 4096 ∧ 1 ≤ T' 109 0 15) ∧ KPT_ T T' ∧ lh_ T T' ∧ T' 191 0 0 ≤ T 191 0 0 + 1
set_option maxHeartbeats 4000000 in
theorem ct_X9_leastCut_e {T : Zt} {t : Int} (hq9 : Q9_ T) (hka : KA_ T) (hke : KEc_ T (T 109 0 5 - 1)) (hsl : T 109 0 15 ≠ 0 → T 190 (T 109 0 15 - 1) (-2) = 4096 ∧ 1 ≤ T 109 0 15) (h9 : 0 ≤ T 191 0 0 ∧ T 191 0 0 ≤ 900000000) : Ct_ yX9_leastCut zX9_leastCut T [vR 109 0, vI t] (po_X9_leastCut_e T t) := by
  refine ct_of pn_9 rfl rfl (Nat.le_of_ble_eq_true rfl) (fun hT hav => ?_)
  have hr_t : -2147483648 ≤ t ∧ t ≤ 2147483647 := hav (vI t) (List.mem_cons_of_mem _ List.mem_cons_self)
  have hz : zX9_leastCut.2.2.2.1 = some .boolean → ∀ (T' : Zt) (x : Int), po_X9_leastCut_e T t T' (some (vI x)) → 0 ≤ x ∧ x ≤ 1 := fun h => by cases h
  have hct := hq9.1
  have hen : 0 ≤ T 100 (T 109 0 5 - 1) 5 ∧ T 100 (T 109 0 5 - 1) 5 ≤ 12 := bd_f hT 100 5 tl_0_5 (T 109 0 5 - 1)
  show J_ zX9_leastCut T (po_X9_leastCut_e T t) 1 4096 0 [some (vR 109 0), some (vI t), none, none, none, none, none] [] T
  have c_16 : ∀ (b : Int) (T1 : Zt), (fr_ [(109, [15]), (190, []), (191, [0])] T T1) → (T1 109 0 15 = b + 1 ∧ T1 190 b (-2) = 4096 ∧ 0 ≤ b) → (lh_ T T1 ∧ T1 191 0 0 ≤ T 191 0 0 + 1) → (KPT_ T T1) → J_ zX9_leastCut T (po_X9_leastCut_e T t) 0 0 16 [some (vR 109 0), some (vI t), none, none, none, none, none] [] T1 := by
    intro b T1 hf_16 l1 h1 k1
    have c_72 : ∀ (nn : Nat) (o : Int) (g : Int) (j : Int) (T3 : Zt), ((4096 - j).toNat) ≤ nn → (fr_ [(109, [15]), (190, []), (191, [0])] T T3) → (0 ≤ o ∧ o ≤ 4095 ∧ 0 ≤ g ∧ g < 4096 ∧ 1 ≤ j) → (an_ g o = g) → (OB_ T (T 109 0 5 - 1) o) → (T3 109 0 15 = b + 1 ∧ T3 190 b (-2) = 4096 ∧ 0 ≤ b) → (lh_ T T3 ∧ T3 191 0 0 ≤ T 191 0 0 + 1) → (KPT_ T T3) → J_ zX9_leastCut T (po_X9_leastCut_e T t) 0 0 72 [some (vR 109 0), some (vI t), some (vI o), some (vI g), some (vI j), none, none] [] T3 := by
      intro nn
      induction nn using Nat.strongRecOn with
      | _ nn ih_72 =>
        intro o g j T3 hm_72 hf_72 i3 n3 obo l3 h3 k3
        replace hm_72 := fun (_ : Unit) => hm_72
        refine j_blx (F := fX9) tb_X9 (nn_ _) bk_X9_leastCut_e_72 bs_X9_leastCut_e_72 hz (fun K hK => ?_)
        refine And.intro (fun c1 => ?_) (fun c1 => ?_)
        · refine hK 161 _ [] T3 ?_
          refine j_blx (F := fX9) tb_X9 (nn_ _) bk_X9_leastCut_e_161 bs_X9_leastCut_e_161 hz (fun K hK => ?_)
          refine (show po_X9_leastCut_e T t T3 (some (vI 0)) from ?_)
          exact ⟨_, rfl, hf_72, by omega, fun _ => ⟨by rw [show T3 109 0 15 - 1 = b by omega]; exact l3.2.1, by omega⟩, k3, h3⟩
        · refine And.intro (fun c2 => ?_) (fun c2 => ?_)
          · refine hK 161 _ [] T3 ?_
            refine j_blx (F := fX9) tb_X9 (nn_ _) bk_X9_leastCut_e_161 bs_X9_leastCut_e_161 hz (fun K hK => ?_)
            refine (show po_X9_leastCut_e T t T3 (some (vI 0)) from ?_)
            exact ⟨_, rfl, hf_72, by omega, fun _ => ⟨by rw [show T3 109 0 15 - 1 = b by omega]; exact l3.2.1, by omega⟩, k3, h3⟩
          · refine rg_i (by omega) ?_
            intro w3 w3b
            obtain ⟨nx0, nx1, nxi⟩ := nx_1 (s := g) (o := o) (by omega) (by omega) n3 (by omega)
            refine hK 92 [some (vR 109 0), some (vI t), some (vI o), some (vI (an_ (g - o) o)), some (vI j), none, none] [vI (an_ (g - o) o)] T3 ?_
            refine j_callS (y := yJ6_numberOfTrailingZeros_0f7a4) (Yc := zJ6_numberOfTrailingZeros_0f7a4) (rest := []) [vI (an_ (g - o) o)] (ct_J6_numberOfTrailingZeros_0f7a4 (T := T3) (by omega)) cl_X9_168 (qd_c (by decide +kernel)) (nn_ _) rfl (rf_of rfl) (Nat.le_of_ble_eq_true rfl) (Nat.le_of_ble_eq_true rfl) (Nat.le_of_ble_eq_true rfl) rfl ?_
            rintro _ _ ⟨rfl, x4, rfl, hx4⟩
            have g5 := obo x4 hx4.1 hx4.2.1 (nx_b (by omega) (by omega) nxi ⟨by omega, by omega⟩ hx4.2.2)
            show J_ zX9_leastCut T (po_X9_leastCut_e T t) 0 0 95 _ [vI x4] T3
            refine j_blx (F := fX9) tb_X9 (nn_ _) bk_X9_leastCut_e_95 bs_X9_leastCut_e_95 hz (fun K hK => ?_)
            refine rg_i (by omega) ?_
            intro w5 w5b
            obtain ⟨-, ny0, ny1⟩ := an_1 (s := an_ (g - o) o) (by omega)
            refine And.intro (fun c6 => ?_) (fun c6 => ?_)
            · exact absurd c6 (by omega)
            · have z7 : T3 109 0 15 - 1 = b := by omega
              rw [z7]
              refine And.intro (fun c8 => ?_) (fun c8 => ?_)
              · exact absurd c8 (by omega)
              · have z9 : T3 109 0 15 - 1 = b := by omega
                rw [z9]
                refine ix_i (by omega) ?_
                intro b10 b10b
                have e12 : T3 109 0 5 = T 109 0 5 := hf_72 109 0 5 rfl
                refine And.intro (fun c11 => ?_) (fun c11 => ?_)
                · exact absurd c11 (by omega)
                · have z13 : T3 109 0 5 - 1 = (T 109 0 5 - 1) := by omega
                  rw [z13]
                  refine ix_i (by omega) ?_
                  intro b14 b14b
                  have e15 : T3 404 (T 109 0 5 - 1) x4 = T 404 (T 109 0 5 - 1) x4 := hf_72 404 (T 109 0 5 - 1) x4 rfl
                  rw [e15] at b14 b14b ⊢
                  refine ix_i (by omega) ?_
                  intro b16 b16b
                  have e17 : T3 591 0 (T 404 (T 109 0 5 - 1) x4) = T 591 0 (T 404 (T 109 0 5 - 1) x4) := hf_72 591 0 (T 404 (T 109 0 5 - 1) x4) rfl
                  rw [e17] at b16 b16b ⊢
                  intro w18 w18b
                  refine hK 138 [some (vR 109 0), some (vI t), some (vI o), some (vI (an_ (g - o) o)), some (vI j), some (vI x4), some (vI (an_ (an_ (g - o) o) ((an_ (g - o) o) - 1)))] [vI (an_ (an_ (g - o) o) ((an_ (g - o) o) - 1)), vI x4, vR 109 0, vI 2, vI (wr_ ((T3 190 b (an_ (an_ (g - o) o) ((an_ (g - o) o) - 1))) + (T 591 0 (T 404 (T 109 0 5 - 1) x4)))), vI (an_ (g - o) o), vR 190 b] T3 ?_
                  refine j_callV (y := yX9_openBetween) (Yc := zX9_openBetween) (rest := [vI 2, vI (wr_ ((T3 190 b (an_ (an_ (g - o) o) ((an_ (g - o) o) - 1))) + (T 591 0 (T 404 (T 109 0 5 - 1) x4)))), vI (an_ (g - o) o), vR 190 b]) [vI x4, vI (an_ (an_ (g - o) o) ((an_ (g - o) o) - 1))] (ct_X9_openBetween (T := T3) (by exact q9_f hq9 (show fr_ [(109, [15]), (190, []), (191, [0])] T T3 from fr_t (fr_0 _ _) (fr_s hf_72 rfl)) ⟨fun _ _ => rfl, fun _ => rfl, rfl, rfl, rfl, rfl, rfl⟩) (by exact KA__f hka (show fr_ [(109, [15]), (190, []), (191, [0])] T T3 from fr_t (fr_0 _ _) (fr_s hf_72 rfl)) ⟨fun _ => rfl, fun _ => rfl, rfl, rfl, trivial⟩)) cl_X9_173 (qd_c (by decide +kernel)) (nn_ _) rfl (rf_of rfl) (Nat.le_of_ble_eq_true rfl) (Nat.le_of_ble_eq_true rfl) (Nat.le_of_ble_eq_true rfl) rfl ?_
                  rintro _ _ ⟨rfl, x19, rfl, hx19⟩
                  show J_ zX9_leastCut T (po_X9_leastCut_e T t) 0 0 141 _ [vI x19, vI 2, vI (wr_ ((T3 190 b (an_ (an_ (g - o) o) ((an_ (g - o) o) - 1))) + (T 591 0 (T 404 (T 109 0 5 - 1) x4)))), vI (an_ (g - o) o), vR 190 b] T3
                  refine j_blx (F := fX9) tb_X9 (nn_ _) bk_X9_leastCut_e_141 bs_X9_leastCut_e_141 hz (fun K hK => ?_)
                  refine rg_i (by omega) ?_
                  intro w20 w20b
                  refine iy_i (by omega) (by omega) ?_
                  refine x_nm (fun U21 hU21 => ?_)
                  have e22 := up_f hU21
                  have e24 : U21 109 0 15 = T3 109 0 15 := up_k hU21 (by exact Nat.ne_of_beq_eq_false rfl) 0 15
                  refine And.intro (fun c23 => ?_) (fun c23 => ?_)
                  · exact absurd c23 (by omega)
                  · have z25 : U21 109 0 15 - 1 = b := by omega
                    rw [z25]
                    have y26 : U21 190 b (-2) = T3 190 b (-2) := up_g hU21 (fun z => by omega)
                    refine ix_i (by omega) ?_
                    intro b27 b27b
                    have e28 : U21 190 b (an_ (g - o) o) = wr_ ((wr_ ((T3 190 b (an_ (an_ (g - o) o) ((an_ (g - o) o) - 1))) + (T 591 0 (T 404 (T 109 0 5 - 1) x4)))) - (2 * x19)) := up_f hU21
                    rw [e28] at b27 b27b ⊢
                    refine And.intro (fun c29 => ?_) (fun c29 => ?_)
                    · refine hK 155 _ [] U21 ?_
                      refine j_blx (F := fX9) tb_X9 (nn_ _) bk_X9_leastCut_e_155 bs_X9_leastCut_e_155 hz (fun K hK => ?_)
                      refine rg_i (by omega) ?_
                      refine hK 72 [some (vR 109 0), some (vI t), some (vI o), some (vI (an_ (g - o) o)), some (vI (j + 1)), some (vI x4), some (vI (an_ (an_ (g - o) o) ((an_ (g - o) o) - 1)))] [] U21 ?_
                      refine j_drq [some (vR 109 0), some (vI t), some (vI o), some (vI (an_ (g - o) o)), some (vI (j + 1)), none, none] (drq_s (drq_s (drq_s (drq_s (drq_s (drq_n (drq_n drq_0))))))) ?_
                      have e30 : U21 109 0 15 = T3 109 0 15 := up_k hU21 (by exact Nat.ne_of_beq_eq_false rfl) 0 15
                      have e31 : U21 191 0 0 = T3 191 0 0 := up_k hU21 (by exact Nat.ne_of_beq_eq_false rfl) 0 0
                      refine ih_72 _ ?_ o (an_ (g - o) o) (j + 1) U21 (Nat.le_refl _) ?_ ?_ ?_ ?_ ?_ ?_ ?_
                      · have hm_72 := hm_72 (); omega
                      · exact fr_u (fr_t (fr_0 _ _) (fr_s hf_72 rfl)) hU21 rfl
                      · omega
                      · exact nxi
                      · exact obo
                      · exact ⟨(up_k hU21 (by exact Nat.ne_of_beq_eq_false rfl) _ _).trans l3.1, (up_g hU21 (fun z => by omega)).trans l3.2.1, l3.2.2⟩
                      · have y3 : U21 191 0 0 = T3 191 0 0 := up_k hU21 (by exact Nat.ne_of_beq_eq_false rfl) _ _
                        exact ⟨lh_t h3.1 ⟨fun x _ => up_g hU21 (fun z => by omega), by omega⟩, by have := h3.2; omega⟩
                      · exact ⟨fun x j hx hn => (up_g hU21 (fun z => by have y9 := k3.2; have y8 := z.2.1; have y7 := l3.1; omega)).trans (k3.1 x j hx hn), by have y1 : U21 109 0 15 = T3 109 0 15 := up_k hU21 (by exact Nat.ne_of_beq_eq_false rfl) _ _; have y3 : U21 191 0 0 = T3 191 0 0 := up_k hU21 (by exact Nat.ne_of_beq_eq_false rfl) _ _; have y9 := k3.2; omega⟩
                    · refine (show po_X9_leastCut_e T t U21 (some (vI (an_ (g - o) o))) from ?_)
                      have e32 : U21 109 0 15 = T3 109 0 15 := up_k hU21 (by exact Nat.ne_of_beq_eq_false rfl) 0 15
                      have e33 : U21 191 0 0 = T3 191 0 0 := up_k hU21 (by exact Nat.ne_of_beq_eq_false rfl) 0 0
                      have y1 : U21 109 0 15 = b + 1 := (up_k hU21 (by exact Nat.ne_of_beq_eq_false rfl) _ _).trans l3.1
                      have y2 : ∀ x, U21 190 x (-2) = T3 190 x (-2) := fun x => up_g hU21 (fun z => by omega)
                      have y3 : U21 191 0 0 = T3 191 0 0 := up_k hU21 (by exact Nat.ne_of_beq_eq_false rfl) _ _
                      have k4 : KPT_ T U21 := ⟨fun x j hx hn => (up_g hU21 (fun z => by have y9 := k3.2; have y8 := z.2.1; have y7 := l3.1; omega)).trans (k3.1 x j hx hn), by have y1 : U21 109 0 15 = T3 109 0 15 := up_k hU21 (by exact Nat.ne_of_beq_eq_false rfl) _ _; have y9 := k3.2; omega⟩
                      exact ⟨_, rfl, fr_u (fr_t (fr_0 _ _) (fr_s hf_72 rfl)) hU21 rfl, by omega, fun _ => ⟨by rw [show U21 109 0 15 - 1 = b by omega, y2]; exact l3.2.1, by omega⟩, k4, lh_t h3.1 ⟨fun x _ => y2 x, by omega⟩, by have := h3.2; omega⟩
    have c_27 : ∀ (nn : Nat) (o : Int) (k : Int) (T2 : Zt), ((12 - k).toNat) ≤ nn → (fr_ [(109, [15]), (190, []), (191, [0])] T T2) → (0 ≤ o ∧ o ≤ 4095 ∧ 0 ≤ k ∧ k ≤ 12) → (OB_ T (T 109 0 5 - 1) o) → (T2 109 0 15 = b + 1 ∧ T2 190 b (-2) = 4096 ∧ 0 ≤ b) → (lh_ T T2 ∧ T2 191 0 0 ≤ T 191 0 0 + 1) → (KPT_ T T2) → J_ zX9_leastCut T (po_X9_leastCut_e T t) 0 0 27 [some (vR 109 0), some (vI t), some (vI o), some (vI k), none, none, none] [] T2 := by
      intro nn
      induction nn using Nat.strongRecOn with
      | _ nn ih_27 =>
        intro o k T2 hm_27 hf_27 i2 ob2 l2 h2 k2
        replace hm_27 := fun (_ : Unit) => hm_27
        refine j_blx (F := fX9) tb_X9 (nn_ _) bk_X9_leastCut_e_27 bs_X9_leastCut_e_27 hz (fun K hK => ?_)
        have e35 : T2 109 0 5 = T 109 0 5 := hf_27 109 0 5 rfl
        refine And.intro (fun c34 => ?_) (fun c34 => ?_)
        · exact absurd c34 (by omega)
        · have z36 : T2 109 0 5 - 1 = (T 109 0 5 - 1) := by omega
          rw [z36]
          intro b37 b37b
          have e38 : T2 100 (T 109 0 5 - 1) 5 = T 100 (T 109 0 5 - 1) 5 := hf_27 100 (T 109 0 5 - 1) 5 rfl
          rw [e38] at b37 b37b ⊢
          refine And.intro (fun c39 => ?_) (fun c39 => ?_)
          · refine hK 67 _ [] T2 ?_
            refine j_blx (F := fX9) tb_X9 (nn_ _) bk_X9_leastCut_e_67 bs_X9_leastCut_e_67 hz (fun K hK => ?_)
            refine hK 72 [some (vR 109 0), some (vI t), some (vI o), some (vI 0), some (vI 1), none, none] [] T2 ?_
            refine c_72 _ o 0 1 T2 (Nat.le_refl _) ?_ ?_ ?_ ?_ ?_ ?_ ?_
            · exact fr_t (fr_0 _ _) (fr_s hf_27 rfl)
            · omega
            · exact (an_z (by omega) (by omega)).mpr (by simp)
            · exact ob2
            · exact l2
            · exact h2
            · exact k2
          · refine And.intro (fun c40 => ?_) (fun c40 => ?_)
            · refine hK 48 [some (vR 109 0), some (vI t), some (vI o), some (vI k), none, none, none] [vI o] T2 ?_
              refine j_blx (F := fX9) tb_X9 (nn_ _) bk_X9_leastCut_e_48 bs_X9_leastCut_e_48 hz (fun K hK => ?_)
              have e42 : T2 109 0 5 = T 109 0 5 := hf_27 109 0 5 rfl
              refine And.intro (fun c41 => ?_) (fun c41 => ?_)
              · exact absurd c41 (by omega)
              · have z43 : T2 109 0 5 - 1 = (T 109 0 5 - 1) := by omega
                rw [z43]
                refine ix_i (by omega) ?_
                intro b44 b44b
                have e45 : T2 403 (T 109 0 5 - 1) k = T 403 (T 109 0 5 - 1) k := hf_27 403 (T 109 0 5 - 1) k rfl
                rw [e45] at b44 b44b ⊢
                intro w46 w46b
                intro w47 w47b
                have y48 := or_b (x := o) (y := (sl_ 1 (T 403 (T 109 0 5 - 1) k))) (by omega) (sl_b (by omega))
                refine rg_i (by omega) ?_
                refine hK 27 [some (vR 109 0), some (vI t), some (vI (or_ o (sl_ 1 (T 403 (T 109 0 5 - 1) k)))), some (vI (k + 1)), none, none, none] [] T2 ?_
                refine ih_27 _ ?_ (or_ o (sl_ 1 (T 403 (T 109 0 5 - 1) k))) (k + 1) T2 (Nat.le_refl _) ?_ ?_ ?_ ?_ ?_ ?_
                · have hm_27 := hm_27 (); omega
                · exact fr_t (fr_0 _ _) (fr_s hf_27 rfl)
                · omega
                · exact ob_s ob2 (by omega) (by omega) (by rw [hke k (by omega) (by omega)]; omega)
                · exact l2
                · exact h2
                · exact k2
            · refine hK 59 _ [vI 0, vI o] T2 ?_
              refine j_blx (F := fX9) tb_X9 (nn_ _) bk_X9_leastCut_e_59 bs_X9_leastCut_e_59 hz (fun K hK => ?_)
              intro w49 w49b
              have y50 := or_0 (o := o) (by omega)
              refine rg_i (by omega) ?_
              refine hK 27 [some (vR 109 0), some (vI t), some (vI (or_ o 0)), some (vI (k + 1)), none, none, none] [] T2 ?_
              refine ih_27 _ ?_ (or_ o 0) (k + 1) T2 (Nat.le_refl _) ?_ ?_ ?_ ?_ ?_ ?_
              · have hm_27 := hm_27 (); omega
              · exact fr_t (fr_0 _ _) (fr_s hf_27 rfl)
              · omega
              · rw [or_0 (by omega)]; exact ob2
              · exact l2
              · exact h2
              · exact k2
    refine j_blx (F := fX9) tb_X9 (nn_ _) bk_X9_leastCut_e_16 bs_X9_leastCut_e_16 hz (fun K hK => ?_)
    refine And.intro (fun c51 => ?_) (fun c51 => ?_)
    · exact absurd c51 (by omega)
    · have z52 : T1 109 0 15 - 1 = b := by omega
      rw [z52]
      refine iy_i (by omega) (by omega) ?_
      refine x_nm (fun U53 hU53 => ?_)
      have e54 := up_f hU53
      refine hK 27 [some (vR 109 0), some (vI t), some (vI 0), some (vI 0), none, none, none] [] U53 ?_
      have e55 : U53 109 0 15 = T1 109 0 15 := up_k hU53 (by exact Nat.ne_of_beq_eq_false rfl) 0 15
      have e56 : U53 191 0 0 = T1 191 0 0 := up_k hU53 (by exact Nat.ne_of_beq_eq_false rfl) 0 0
      refine c_27 _ 0 0 U53 (Nat.le_refl _) ?_ ?_ ?_ ?_ ?_ ?_
      · exact fr_u (fr_t (fr_0 _ _) (fr_s hf_16 rfl)) hU53 rfl
      · omega
      · exact ob_0 _ _
      · exact ⟨(up_k hU53 (by exact Nat.ne_of_beq_eq_false rfl) _ _).trans l1.1, (up_g hU53 (fun z => by omega)).trans l1.2.1, l1.2.2⟩
      · have y3 : U53 191 0 0 = T1 191 0 0 := up_k hU53 (by exact Nat.ne_of_beq_eq_false rfl) _ _
        exact ⟨lh_t h1.1 ⟨fun x _ => up_g hU53 (fun z => by omega), by omega⟩, by have := h1.2; omega⟩
      · exact ⟨fun x j hx hn => (up_g hU53 (fun z => by have y9 := k1.2; have y8 := z.2.1; have y7 := l1.1; omega)).trans (k1.1 x j hx hn), by have y1 : U53 109 0 15 = T1 109 0 15 := up_k hU53 (by exact Nat.ne_of_beq_eq_false rfl) _ _; have y3 : U53 191 0 0 = T1 191 0 0 := up_k hU53 (by exact Nat.ne_of_beq_eq_false rfl) _ _; have y9 := k1.2; omega⟩
  refine j_blx (F := fX9) tb_X9 (nn_ _) bk_X9_leastCut_e_0 bs_X9_leastCut_e_0 hz (fun K hK => ?_)
  refine And.intro (fun c57 => ?_) (fun c57 => ?_)
  · refine hK 11 _ [vI 4096, vR 109 0] T ?_
    refine j_newL (bc' := 0) (bs' := 0) (pc := 11) (by decide) (by omega) (by omega) (by omega) (by decide +kernel) (lwq_1 (dqc_m (dqc_m (dqa_m (List.mem_of_getElem? (i := 0) rfl)))) rfl : Cond.arrayClass .int ∈ lw_g) ?_
    refine j_nm (fun U58 hU58 => ?_)
    have fU58 := nv_fr hU58
    have aU58 := nv_t9 hU58
    have lU58 := nv_tl hU58
    have oU58 := nv_to hU58
    show J_ zX9_leastCut T (po_X9_leastCut_e T t) 0 0 13 _ [vR 190 (T 191 0 0), vR 109 0] U58
    refine j_putR (pc := 13) (ci := 9) (j := 15) (by decide) fr5_X9_165 rfl (by decide +kernel) (by omega) (by omega) (by omega) ?_
    refine j_nm (fun U59 hU59 => ?_)
    have e60 := up_f hU59
    show J_ zX9_leastCut T (po_X9_leastCut_e T t) 0 0 16 _ [] U59
    refine j_mono (bc' := 0) (bs' := 0) (by omega) (by omega) ?_
    have e61 : U59 109 0 15 = (T 191 0 0) + 1 := up_f hU59
    have e62 : U59 191 0 0 = U58 191 0 0 := up_k hU59 (by exact Nat.ne_of_beq_eq_false rfl) 0 0
    refine c_16 (T 191 0 0) U59 ?_ ?_ ?_ ?_
    · exact fr_u (fr_t (fr_0 _ _) (fr_s fU58 rfl)) hU59 rfl
    · exact ⟨up_f hU59, (up_k hU59 (by exact Nat.ne_of_beq_eq_false rfl) _ _).trans lU58, by omega⟩
    · have y3 : U59 191 0 0 = U58 191 0 0 := up_k hU59 (by exact Nat.ne_of_beq_eq_false rfl) _ _
      exact ⟨⟨fun x hx => (up_k hU59 (by exact Nat.ne_of_beq_eq_false rfl) _ _).trans (oU58 x (-2) (by omega)), by omega⟩, by omega⟩
    · exact ⟨fun x j hx hn => (up_k hU59 (by exact Nat.ne_of_beq_eq_false rfl) _ _).trans (oU58 x j (by omega)), Or.inr ⟨up_f hU59, by have y3 : U59 191 0 0 = U58 191 0 0 := up_k hU59 (by exact Nat.ne_of_beq_eq_false rfl) _ _; omega⟩⟩
  · refine hK 16 _ [] T ?_
    refine j_mono (bc' := 0) (bs' := 0) (by omega) (by omega) ?_
    refine c_16 (T 109 0 15 - 1) T ?_ ?_ ?_ ?_
    · exact fr_0 _ _
    · exact ⟨by omega, (hsl (by omega)).1, by have := (hsl (by omega)).2; omega⟩
    · exact ⟨lh_r, by omega⟩
    · exact kpt_r
theorem bk_X9_ask_e_94 : ck_ fX9 (some .int) cX9_ask 94 [.aload 0, .iload 2] 96 = true := qck_r (nn_ _) (by decide +kernel)
theorem bs_X9_ask_e_94 {P : Zt → Option Zv → Prop} (K : Int → Zl → List Zv → Zt → Prop) : sx_ K P [.aload 0, .iload 2] 96 = x_aload 0 (x_iload 2 (K 96)) := ((xe_aload 0).trans (congrArg (x_aload 0) ((xe_iload 2).trans (congrArg (x_iload 2) xe_nil))))
theorem bk_X9_ask_e_99 : ck_ fX9 (some .int) cX9_ask 99 [.iload 3, .ifCond .eq 144, .aload 0, .iload 2] 105 = true := qck_r (nn_ _) (by decide +kernel)
theorem bs_X9_ask_e_99 {P : Zt → Option Zv → Prop} (K : Int → Zl → List Zv → Zt → Prop) : sx_ K P [.iload 3, .ifCond .eq 144, .aload 0, .iload 2] 105 = x_iload 3 (x_ifCond .eq 144 K (x_aload 0 (x_iload 2 (K 105)))) := ((xe_iload 3).trans (congrArg (x_iload 3) ((xe_ifCond .eq 144).trans (congrArg (x_ifCond .eq 144 K) ((xe_aload 0).trans (congrArg (x_aload 0) ((xe_iload 2).trans (congrArg (x_iload 2) xe_nil))))))))
theorem bk_X9_ask_e_144 : ck_ fX9 (some .int) cX9_ask 144 [.aload 0, .aload 0, .iload 2] 147 = true := qck_r (nn_ _) (by decide +kernel)
theorem bs_X9_ask_e_144 {P : Zt → Option Zv → Prop} (K : Int → Zl → List Zv → Zt → Prop) : sx_ K P [.aload 0, .aload 0, .iload 2] 147 = x_aload 0 (x_aload 0 (x_iload 2 (K 147))) := ((xe_aload 0).trans (congrArg (x_aload 0) ((xe_aload 0).trans (congrArg (x_aload 0) ((xe_iload 2).trans (congrArg (x_iload 2) xe_nil))))))
theorem bk_X9_ask_e_150 : ck_ fX9 (some .int) cX9_ask 150 [.ifCond .eq 165, .aload 0, .iconst 0] 155 = true := qck_r (nn_ _) (by decide +kernel)
theorem bs_X9_ask_e_150 {P : Zt → Option Zv → Prop} (K : Int → Zl → List Zv → Zt → Prop) : sx_ K P [.ifCond .eq 165, .aload 0, .iconst 0] 155 = x_ifCond .eq 165 K (x_aload 0 (x_iconst 0 (K 155))) := ((xe_ifCond .eq 165).trans (congrArg (x_ifCond .eq 165 K) ((xe_aload 0).trans (congrArg (x_aload 0) ((xe_iconst 0).trans (congrArg (x_iconst 0) xe_nil))))))
theorem bk_X9_ask_e_165 : ck_ fX9 (some .int) cX9_ask 165 [.iconst 0, .tableswitch 1 9 2 #[], .aload 0, .tableswitch 0 9 2 #[], .ireturn] 174 = true := qck_r (nn_ _) (by decide +kernel)
theorem bs_X9_ask_e_165 {P : Zt → Option Zv → Prop} (K : Int → Zl → List Zv → Zt → Prop) : sx_ K P [.iconst 0, .tableswitch 1 9 2 #[], .aload 0, .tableswitch 0 9 2 #[], .ireturn] 174 = x_iconst 0 (x_p 109 2 (-1) 2 (x_aload 0 (x_g0 109 2 (-1) 2 (x_ireturn P)))) := ((xe_iconst 0).trans (congrArg (x_iconst 0) ((xe_p (kk := 109) rfl tl_9_2).trans (congrArg (x_p 109 2 (-1) 2) ((xe_aload 0).trans (congrArg (x_aload 0) ((xe_g0 (kk := 109) rfl tl_9_2).trans (congrArg (x_g0 109 2 (-1) 2) (xe_ireturn)))))))))
theorem bk_X9_ask_e_158 : ck_ fX9 (some .int) cX9_ask 158 [.ifCond .eq 165, .iconst 1, .goto 166] 165 = true := qck_r (nn_ _) (by decide +kernel)
theorem bs_X9_ask_e_158 {P : Zt → Option Zv → Prop} (K : Int → Zl → List Zv → Zt → Prop) : sx_ K P [.ifCond .eq 165, .iconst 1, .goto 166] 165 = x_ifCond .eq 165 K (x_iconst 1 (x_goto 166 K)) := ((xe_ifCond .eq 165).trans (congrArg (x_ifCond .eq 165 K) ((xe_iconst 1).trans (congrArg (x_iconst 1) (xe_goto 166)))))
theorem bk_X9_ask_e_166 : ck_ fX9 (some .int) cX9_ask 166 [.tableswitch 1 9 2 #[], .aload 0, .tableswitch 0 9 2 #[], .ireturn] 174 = true := qck_r (nn_ _) (by decide +kernel)
theorem bs_X9_ask_e_166 {P : Zt → Option Zv → Prop} (K : Int → Zl → List Zv → Zt → Prop) : sx_ K P [.tableswitch 1 9 2 #[], .aload 0, .tableswitch 0 9 2 #[], .ireturn] 174 = x_p 109 2 (-1) 2 (x_aload 0 (x_g0 109 2 (-1) 2 (x_ireturn P))) := ((xe_p (kk := 109) rfl tl_9_2).trans (congrArg (x_p 109 2 (-1) 2) ((xe_aload 0).trans (congrArg (x_aload 0) ((xe_g0 (kk := 109) rfl tl_9_2).trans (congrArg (x_g0 109 2 (-1) 2) (xe_ireturn)))))))
theorem bk_X9_ask_e_108 : ck_ fX9 (some .int) cX9_ask 108 [.aload 0, .aload 0, .iload 2] 111 = true := qck_r (nn_ _) (by decide +kernel)
theorem bs_X9_ask_e_108 {P : Zt → Option Zv → Prop} (K : Int → Zl → List Zv → Zt → Prop) : sx_ K P [.aload 0, .aload 0, .iload 2] 111 = x_aload 0 (x_aload 0 (x_iload 2 (K 111))) := ((xe_aload 0).trans (congrArg (x_aload 0) ((xe_aload 0).trans (congrArg (x_aload 0) ((xe_iload 2).trans (congrArg (x_iload 2) xe_nil))))))
theorem bk_X9_ask_e_114 : ck_ fX9 (some .int) cX9_ask 114 [.ifCond .eq 121, .iconst 1, .goto 122] 121 = true := qck_r (nn_ _) (by decide +kernel)
theorem bs_X9_ask_e_114 {P : Zt → Option Zv → Prop} (K : Int → Zl → List Zv → Zt → Prop) : sx_ K P [.ifCond .eq 121, .iconst 1, .goto 122] 121 = x_ifCond .eq 121 K (x_iconst 1 (x_goto 122 K)) := ((xe_ifCond .eq 121).trans (congrArg (x_ifCond .eq 121 K) ((xe_iconst 1).trans (congrArg (x_iconst 1) (xe_goto 122)))))
theorem bk_X9_ask_e_121 : ck_ fX9 (some .int) cX9_ask 121 [.iconst 0, .tableswitch 1 9 2 #[], .aload 0, .tableswitch 0 9 2 #[], .ifCond .ne 169, .aload 0, .aload 0, .iload 2] 135 = true := qck_r (nn_ _) (by decide +kernel)
theorem bs_X9_ask_e_121 {P : Zt → Option Zv → Prop} (K : Int → Zl → List Zv → Zt → Prop) : sx_ K P [.iconst 0, .tableswitch 1 9 2 #[], .aload 0, .tableswitch 0 9 2 #[], .ifCond .ne 169, .aload 0, .aload 0, .iload 2] 135 = x_iconst 0 (x_p 109 2 (-1) 2 (x_aload 0 (x_g0 109 2 (-1) 2 (x_ifCond .ne 169 K (x_aload 0 (x_aload 0 (x_iload 2 (K 135)))))))) := ((xe_iconst 0).trans (congrArg (x_iconst 0) ((xe_p (kk := 109) rfl tl_9_2).trans (congrArg (x_p 109 2 (-1) 2) ((xe_aload 0).trans (congrArg (x_aload 0) ((xe_g0 (kk := 109) rfl tl_9_2).trans (congrArg (x_g0 109 2 (-1) 2) ((xe_ifCond .ne 169).trans (congrArg (x_ifCond .ne 169 K) ((xe_aload 0).trans (congrArg (x_aload 0) ((xe_aload 0).trans (congrArg (x_aload 0) ((xe_iload 2).trans (congrArg (x_iload 2) xe_nil))))))))))))))))
theorem bk_X9_ask_e_169 : ck_ fX9 (some .int) cX9_ask 169 [.aload 0, .tableswitch 0 9 2 #[], .ireturn] 174 = true := qck_r (nn_ _) (by decide +kernel)
theorem bs_X9_ask_e_169 {P : Zt → Option Zv → Prop} (K : Int → Zl → List Zv → Zt → Prop) : sx_ K P [.aload 0, .tableswitch 0 9 2 #[], .ireturn] 174 = x_aload 0 (x_g0 109 2 (-1) 2 (x_ireturn P)) := ((xe_aload 0).trans (congrArg (x_aload 0) ((xe_g0 (kk := 109) rfl tl_9_2).trans (congrArg (x_g0 109 2 (-1) 2) (xe_ireturn)))))
theorem bk_X9_ask_e_138 : ck_ fX9 (some .int) cX9_ask 138 [.tableswitch 1 9 3 #[], .goto 169] 144 = true := qck_r (nn_ _) (by decide +kernel)
theorem bs_X9_ask_e_138 {P : Zt → Option Zv → Prop} (K : Int → Zl → List Zv → Zt → Prop) : sx_ K P [.tableswitch 1 9 3 #[], .goto 169] 144 = x_p 109 3 0 4095 (x_goto 169 K) := ((xe_p (kk := 109) rfl tl_9_3).trans (congrArg (x_p 109 3 0 4095) (xe_goto 169)))
theorem bk_X9_ask_e_122 : ck_ fX9 (some .int) cX9_ask 122 [.tableswitch 1 9 2 #[], .aload 0, .tableswitch 0 9 2 #[], .ifCond .ne 169, .aload 0, .aload 0, .iload 2] 135 = true := qck_r (nn_ _) (by decide +kernel)
theorem bs_X9_ask_e_122 {P : Zt → Option Zv → Prop} (K : Int → Zl → List Zv → Zt → Prop) : sx_ K P [.tableswitch 1 9 2 #[], .aload 0, .tableswitch 0 9 2 #[], .ifCond .ne 169, .aload 0, .aload 0, .iload 2] 135 = x_p 109 2 (-1) 2 (x_aload 0 (x_g0 109 2 (-1) 2 (x_ifCond .ne 169 K (x_aload 0 (x_aload 0 (x_iload 2 (K 135))))))) := ((xe_p (kk := 109) rfl tl_9_2).trans (congrArg (x_p 109 2 (-1) 2) ((xe_aload 0).trans (congrArg (x_aload 0) ((xe_g0 (kk := 109) rfl tl_9_2).trans (congrArg (x_g0 109 2 (-1) 2) ((xe_ifCond .ne 169).trans (congrArg (x_ifCond .ne 169 K) ((xe_aload 0).trans (congrArg (x_aload 0) ((xe_aload 0).trans (congrArg (x_aload 0) ((xe_iload 2).trans (congrArg (x_iload 2) xe_nil))))))))))))))
theorem bk_X9_ask_e_56 : ck_ fX9 (some .int) cX9_ask 56 [.istore 3, .aload 0, .aload 0, .tableswitch 0 9 5 #[], .tableswitch 0 0 3 #[], .iload 2, .iaload, .iload 3, .ifCond .eq 76, .iconst 40, .goto 78] 76 = true := qck_r (nn_ _) (by decide +kernel)
theorem bs_X9_ask_e_56 {P : Zt → Option Zv → Prop} (K : Int → Zl → List Zv → Zt → Prop) : sx_ K P [.istore 3, .aload 0, .aload 0, .tableswitch 0 9 5 #[], .tableswitch 0 0 3 #[], .iload 2, .iaload, .iload 3, .ifCond .eq 76, .iconst 40, .goto 78] 76 = x_istore 3 (x_aload 0 (x_aload 0 (x_g5 109 100 5 (x_g2 100 403 (x_iload 2 (x_iaload (x_iload 3 (x_ifCond .eq 76 K (x_iconst 40 (x_goto 78 K)))))))))) := ((xe_istore 3).trans (congrArg (x_istore 3) ((xe_aload 0).trans (congrArg (x_aload 0) ((xe_aload 0).trans (congrArg (x_aload 0) ((xe_g5 (kk := 109) rfl tl_9_5).trans (congrArg (x_g5 109 100 5) ((xe_g2 (kk := 100) rfl tl_0_3).trans (congrArg (x_g2 100 403) ((xe_iload 2).trans (congrArg (x_iload 2) ((xe_iaload).trans (congrArg (x_iaload) ((xe_iload 3).trans (congrArg (x_iload 3) ((xe_ifCond .eq 76).trans (congrArg (x_ifCond .eq 76 K) ((xe_iconst 40).trans (congrArg (x_iconst 40) (xe_goto 78)))))))))))))))))))))
theorem bk_X9_ask_e_76 : ck_ fX9 (some .int) cX9_ask 76 [.iconst 8] 78 = true := qck_r (nn_ _) (by decide +kernel)
theorem bs_X9_ask_e_76 {P : Zt → Option Zv → Prop} (K : Int → Zl → List Zv → Zt → Prop) : sx_ K P [.iconst 8] 78 = x_iconst 8 (K 78) := ((xe_iconst 8).trans (congrArg (x_iconst 8) xe_nil))
theorem bk_X9_ask_e_81 : ck_ fX9 (some .int) cX9_ask 81 [.ifCond .ne 94, .aload 0, .iconst 2, .tableswitch 1 9 2 #[], .aload 0, .tableswitch 0 9 2 #[], .ireturn] 94 = true := qck_r (nn_ _) (by decide +kernel)
theorem bs_X9_ask_e_81 {P : Zt → Option Zv → Prop} (K : Int → Zl → List Zv → Zt → Prop) : sx_ K P [.ifCond .ne 94, .aload 0, .iconst 2, .tableswitch 1 9 2 #[], .aload 0, .tableswitch 0 9 2 #[], .ireturn] 94 = x_ifCond .ne 94 K (x_aload 0 (x_iconst 2 (x_p 109 2 (-1) 2 (x_aload 0 (x_g0 109 2 (-1) 2 (x_ireturn P)))))) := ((xe_ifCond .ne 94).trans (congrArg (x_ifCond .ne 94 K) ((xe_aload 0).trans (congrArg (x_aload 0) ((xe_iconst 2).trans (congrArg (x_iconst 2) ((xe_p (kk := 109) rfl tl_9_2).trans (congrArg (x_p 109 2 (-1) 2) ((xe_aload 0).trans (congrArg (x_aload 0) ((xe_g0 (kk := 109) rfl tl_9_2).trans (congrArg (x_g0 109 2 (-1) 2) (xe_ireturn)))))))))))))
theorem bk_X9_ask_e_0 : ck_ fX9 (some .int) cX9_ask 0 [.aload 0, .aload 1] 2 = true := qck_r (nn_ _) (by decide +kernel)
theorem bs_X9_ask_e_0 {P : Zt → Option Zv → Prop} (K : Int → Zl → List Zv → Zt → Prop) : sx_ K P [.aload 0, .aload 1] 2 = x_aload 0 (x_aload 1 (K 2)) := ((xe_aload 0).trans (congrArg (x_aload 0) ((xe_aload 1).trans (congrArg (x_aload 1) xe_nil))))
theorem bk_X9_ask_e_5 : ck_ fX9 (some .int) cX9_ask 5 [.aload 0, .iconst 0, .tableswitch 1 9 3 #[], .aload 0, .tableswitch 0 9 4 #[], .iconst (-1)] 15 = true := qck_r (nn_ _) (by decide +kernel)
theorem bs_X9_ask_e_5 {P : Zt → Option Zv → Prop} (K : Int → Zl → List Zv → Zt → Prop) : sx_ K P [.aload 0, .iconst 0, .tableswitch 1 9 3 #[], .aload 0, .tableswitch 0 9 4 #[], .iconst (-1)] 15 = x_aload 0 (x_iconst 0 (x_p 109 3 0 4095 (x_aload 0 (x_g1 109 584 (x_iconst (-1) (K 15)))))) := ((xe_aload 0).trans (congrArg (x_aload 0) ((xe_iconst 0).trans (congrArg (x_iconst 0) ((xe_p (kk := 109) rfl tl_9_3).trans (congrArg (x_p 109 3 0 4095) ((xe_aload 0).trans (congrArg (x_aload 0) ((xe_g1 (kk := 109) rfl tl_9_4).trans (congrArg (x_g1 109 584) ((xe_iconst (-1)).trans (congrArg (x_iconst (-1)) xe_nil))))))))))))
theorem bk_X9_ask_e_18 : ck_ fX9 (some .int) cX9_ask 18 [.aload 0, .tableswitch 0 9 5 #[], .tableswitch 0 0 1 #[], .iconst 1, .iaload, .aload 0, .tableswitch 0 9 5 #[], .tableswitch 0 0 1 #[], .iconst 3, .iaload, .iadd, .iconst 2, .aload 0, .tableswitch 0 9 5 #[], .tableswitch 0 0 1 #[], .iconst 2, .iaload, .imul, .if_icmp .ne 55, .iconst 1, .goto 56] 55 = true := qck_r (nn_ _) (by decide +kernel)
theorem bs_X9_ask_e_18 {P : Zt → Option Zv → Prop} (K : Int → Zl → List Zv → Zt → Prop) : sx_ K P [.aload 0, .tableswitch 0 9 5 #[], .tableswitch 0 0 1 #[], .iconst 1, .iaload, .aload 0, .tableswitch 0 9 5 #[], .tableswitch 0 0 1 #[], .iconst 3, .iaload, .iadd, .iconst 2, .aload 0, .tableswitch 0 9 5 #[], .tableswitch 0 0 1 #[], .iconst 2, .iaload, .imul, .if_icmp .ne 55, .iconst 1, .goto 56] 55 = x_aload 0 (x_g5 109 100 5 (x_g2 100 401 (x_iconst 1 (x_iaload (x_aload 0 (x_g5 109 100 5 (x_g2 100 401 (x_iconst 3 (x_iaload (x_iadd (x_iconst 2 (x_aload 0 (x_g5 109 100 5 (x_g2 100 401 (x_iconst 2 (x_iaload (x_imul (x_if_icmp .ne 55 K (x_iconst 1 (x_goto 56 K)))))))))))))))))))) := ((xe_aload 0).trans (congrArg (x_aload 0) ((xe_g5 (kk := 109) rfl tl_9_5).trans (congrArg (x_g5 109 100 5) ((xe_g2 (kk := 100) rfl tl_0_1).trans (congrArg (x_g2 100 401) ((xe_iconst 1).trans (congrArg (x_iconst 1) ((xe_iaload).trans (congrArg (x_iaload) ((xe_aload 0).trans (congrArg (x_aload 0) ((xe_g5 (kk := 109) rfl tl_9_5).trans (congrArg (x_g5 109 100 5) ((xe_g2 (kk := 100) rfl tl_0_1).trans (congrArg (x_g2 100 401) ((xe_iconst 3).trans (congrArg (x_iconst 3) ((xe_iaload).trans (congrArg (x_iaload) ((xe_iadd).trans (congrArg (x_iadd) ((xe_iconst 2).trans (congrArg (x_iconst 2) ((xe_aload 0).trans (congrArg (x_aload 0) ((xe_g5 (kk := 109) rfl tl_9_5).trans (congrArg (x_g5 109 100 5) ((xe_g2 (kk := 100) rfl tl_0_1).trans (congrArg (x_g2 100 401) ((xe_iconst 2).trans (congrArg (x_iconst 2) ((xe_iaload).trans (congrArg (x_iaload) ((xe_imul).trans (congrArg (x_imul) ((xe_if_icmp .ne 55).trans (congrArg (x_if_icmp .ne 55 K) ((xe_iconst 1).trans (congrArg (x_iconst 1) (xe_goto 56)))))))))))))))))))))))))))))))))))))))))
theorem bk_X9_ask_e_55 : ck_ fX9 (some .int) cX9_ask 55 [.iconst 0] 56 = true := qck_r (nn_ _) (by decide +kernel)
theorem bs_X9_ask_e_55 {P : Zt → Option Zv → Prop} (K : Int → Zl → List Zv → Zt → Prop) : sx_ K P [.iconst 0] 56 = x_iconst 0 (K 56) := ((xe_iconst 0).trans (congrArg (x_iconst 0) xe_nil))
abbrev po_X9_ask_e (T : Zt) (c : Int) (t : Int) : Zt → Option Zv → Prop := fun T' r => ∃ x : Int, r = some (vI x) ∧ fr_ [(109, [5, 3, 9, 6, 2, 15]), (584, []), (588, []), (587, []), (591, []), (592, []), (590, []), (593, []), (594, []), (107, [1]), (542, []), (543, []), (544, []), (545, []), (546, []), (190, []), (191, [0])] T T' ∧ (T' 109 0 15 ≠ 0 → T' 190 (T' 109 0 15 - 1) (-2) = 4096 ∧ 1 ≤ T' 109 0 15) ∧ KPT_ T T' ∧ lh_ T T' ∧ T' 191 0 0 ≤ T 191 0 0 + 1
set_option maxHeartbeats 4000000 in
theorem ct_X9_ask_e {T : Zt} {c : Int} {t : Int} (hka : KA_ T) (hkm : KM_ T) (hkc : KC_ T) (hks : KS_ T) (hke : KE_ T) (hkw : KW_ T) (hsl : T 109 0 15 ≠ 0 → T 190 (T 109 0 15 - 1) (-2) = 4096 ∧ 1 ≤ T 109 0 15) (h9 : 0 ≤ T 191 0 0 ∧ T 191 0 0 ≤ 900000000) (hc : 0 ≤ c ∧ c < T 106 0 2) (ht : 0 ≤ t ∧ t ≤ 11) : Ct_ yX9_ask zX9_ask T [vR 109 0, vR 100 c, vI t] (po_X9_ask_e T c t) := by
  refine ct_of pn_9 rfl rfl (Nat.le_of_ble_eq_true rfl) (fun hT hav => ?_)
  have hr_t : -2147483648 ≤ t ∧ t ≤ 2147483647 := hav (vI t) (List.mem_cons_of_mem _ (List.mem_cons_of_mem _ List.mem_cons_self))
  have hz : zX9_ask.2.2.2.1 = some .boolean → ∀ (T' : Zt) (x : Int), po_X9_ask_e T c t T' (some (vI x)) → 0 ≤ x ∧ x ≤ 1 := fun h => by cases h
  have hw := hkw c hc.1 hc.2
  have hb_competitionCount : 0 ≤ T 106 0 2 ∧ T 106 0 2 ≤ 4 := bd_f hT 106 2 tl_6_2 0
  have hb7 : 0 ≤ T 100 c 7 ∧ T 100 c 7 ≤ 400 := bd_f hT 100 7 tl_0_7 c
  have hok0 := hT
  show J_ zX9_ask T (po_X9_ask_e T c t) 1 4096 0 [some (vR 109 0), some (vR 100 c), some (vI t), none] [] T
  have c_94 : ∀ (v : Int) (T2 : Zt), (fr_ [(109, [5, 3, 9]), (584, []), (588, [])] T T2) → (0 ≤ v ∧ v ≤ 1 ∧ (v = 1 → T 401 c 1 + T 401 c 3 = 2 * T 401 c 2)) → (T2 109 0 5 = c + 1) → (Q9_ T2) → J_ zX9_ask T (po_X9_ask_e T c t) 1 4096 94 [some (vR 109 0), some (vR 100 c), some (vI t), some (vI v)] [] T2 := by
    intro v T2 hf_94 iv2 t2 q2
    refine j_blx (F := fX9) tb_X9 (nn_ _) bk_X9_ask_e_94 bs_X9_ask_e_94 hz (fun K hK => ?_)
    refine hK 96 _ [vI t, vR 109 0] T2 ?_
    have e1 : T2 106 0 2 = T 106 0 2 := hf_94 106 0 2 rfl
    have e2 : T2 106 0 4 = T 106 0 4 := hf_94 106 0 4 rfl
    refine j_callV (y := yX9_takePoints) (Yc := zX9_takePoints) (rest := []) [vI t] (ct_X9_takePoints (T := T2) (KA__f hka (show fr_ [(109, [5, 3, 9, 6, 2, 15]), (584, []), (588, []), (587, []), (591, []), (592, []), (590, []), (593, []), (594, []), (107, [1]), (542, []), (543, []), (544, []), (545, []), (546, []), (190, []), (191, [0])] T T2 from fr_t (fr_0 _ _) (fr_s hf_94 rfl)) ⟨fun _ => rfl, fun _ => rfl, rfl, rfl, trivial⟩) (KC__f hkc (show fr_ [(109, [5, 3, 9, 6, 2, 15]), (584, []), (588, []), (587, []), (591, []), (592, []), (590, []), (593, []), (594, []), (107, [1]), (542, []), (543, []), (544, []), (545, []), (546, []), (190, []), (191, [0])] T T2 from fr_t (fr_0 _ _) (fr_s hf_94 rfl)) ⟨rfl, rfl, rfl, rfl, trivial⟩) (KS__f hks (show fr_ [(109, [5, 3, 9, 6, 2, 15]), (584, []), (588, []), (587, []), (591, []), (592, []), (590, []), (593, []), (594, []), (107, [1]), (542, []), (543, []), (544, []), (545, []), (546, []), (190, []), (191, [0])] T T2 from fr_t (fr_0 _ _) (fr_s hf_94 rfl)) ⟨fun _ => rfl, rfl, rfl, rfl, rfl, rfl, rfl, trivial⟩) (by omega) (by omega)) cl_X9_73 (qd_c (by decide +kernel)) (nn_ _) rfl (rf_of rfl) (Nat.le_of_ble_eq_true rfl) (Nat.le_of_ble_eq_true rfl) (Nat.le_of_ble_eq_true rfl) rfl ?_
    rintro U3 _ ⟨rfl, fU3, -⟩
    show J_ zX9_ask T (po_X9_ask_e T c t) 1 4096 99 _ [] U3
    refine j_blx (F := fX9) tb_X9 (nn_ _) bk_X9_ask_e_99 bs_X9_ask_e_99 hz (fun K hK => ?_)
    refine And.intro (fun c5 => ?_) (fun c5 => ?_)
    · refine hK 144 _ [] U3 ?_
      refine j_blx (F := fX9) tb_X9 (nn_ _) bk_X9_ask_e_144 bs_X9_ask_e_144 hz (fun K hK => ?_)
      refine hK 147 _ [vI t, vR 109 0, vR 109 0] U3 ?_
      have e6 : U3 109 0 5 = T2 109 0 5 := fU3 109 0 5 rfl
      have e7 : U3 106 0 2 = T 106 0 2 := (fU3 106 0 2 rfl).trans (hf_94 106 0 2 rfl)
      have e8 : U3 106 0 4 = T 106 0 4 := (fU3 106 0 4 rfl).trans (hf_94 106 0 4 rfl)
      refine j_callV (y := yX9_noneAbove) (Yc := zX9_noneAbove) (rest := [vR 109 0]) [vI t] (ct_X9_noneAbove (T := U3) (by omega)) cl_X9_88 (qd_c (by decide +kernel)) (nn_ _) rfl (rf_of rfl) (Nat.le_of_ble_eq_true rfl) (Nat.le_of_ble_eq_true rfl) (Nat.le_of_ble_eq_true rfl) rfl ?_
      rintro _ _ ⟨rfl, x9, rfl, hx9⟩
      show J_ zX9_ask T (po_X9_ask_e T c t) 1 4096 150 _ [vI x9, vR 109 0] U3
      refine j_blx (F := fX9) tb_X9 (nn_ _) bk_X9_ask_e_150 bs_X9_ask_e_150 hz (fun K hK => ?_)
      refine And.intro (fun c10 => ?_) (fun c10 => ?_)
      · refine hK 165 _ [vR 109 0] U3 ?_
        refine j_blx (F := fX9) tb_X9 (nn_ _) bk_X9_ask_e_165 bs_X9_ask_e_165 hz (fun K hK => ?_)
        refine bd_i (by omega) ?_
        refine x_nm (fun U11 hU11 => ?_)
        have e12 := up_f hU11
        intro b13 b13b
        have e14 : U11 109 0 2 = 0 := up_f hU11
        rw [e14] at b13 b13b ⊢
        refine (show po_X9_ask_e T c t U11 (some (vI 0)) from ?_)
        have e15 : U11 109 0 15 = T 109 0 15 := (up_j hU11 (by decide) 109 0).trans ((fU3 109 0 15 rfl).trans (hf_94 109 0 15 rfl))
        have e16 : U11 191 0 0 = T 191 0 0 := (up_k hU11 (by exact Nat.ne_of_beq_eq_false rfl) 0 0).trans ((fU3 191 0 0 rfl).trans (hf_94 191 0 0 rfl))
        have e17 : U11 109 0 15 = T 109 0 15 := (up_j hU11 (by decide) 109 0).trans ((fU3 109 0 15 rfl).trans (hf_94 109 0 15 rfl))
        have e18 : U11 191 0 0 = T 191 0 0 := (up_k hU11 (by exact Nat.ne_of_beq_eq_false rfl) 0 0).trans ((fU3 191 0 0 rfl).trans (hf_94 191 0 0 rfl))
        have e190 : ∀ x, U11 190 x (-2) = T 190 x (-2) := fun x => (up_k hU11 (by exact Nat.ne_of_beq_eq_false rfl) _ _).trans ((fU3 190 _ _ rfl).trans (hf_94 190 _ _ rfl))
        have f190 : ∀ x j, U11 190 x j = T 190 x j := fun x j => (up_k hU11 (by exact Nat.ne_of_beq_eq_false rfl) _ _).trans ((fU3 190 _ _ rfl).trans (hf_94 190 _ _ rfl))
        exact ⟨_, rfl, fr_u (fr_t (fr_t (fr_0 _ _) (fr_s hf_94 rfl)) (fr_s fU3 rfl)) hU11 rfl, by rw [e17, e190]; exact hsl, ⟨fun x j _ _ => f190 x j, by omega⟩, ⟨fun x _ => e190 x, by omega⟩, by omega⟩
      · refine hK 155 _ [vI 0, vR 109 0, vR 109 0] U3 ?_
        refine j_callV (y := yX9_search) (Yc := zX9_search_8) (rest := [vR 109 0]) [vI 0] (ct_X9_search_8 (T := U3) (q9_f q2 (show fr_ [(109, [3, 6, 2, 15]), (584, []), (587, []), (591, []), (592, []), (590, []), (593, []), (594, []), (107, [1]), (542, []), (543, []), (544, []), (545, []), (546, []), (190, []), (191, [0])] T2 U3 from fr_t (fr_0 _ _) (fr_s fU3 rfl)) ⟨fun _ _ => rfl, fun _ => rfl, rfl, rfl, rfl, rfl, rfl⟩) (KA__f hka (show fr_ [(109, [5, 3, 9, 6, 2, 15]), (584, []), (588, []), (587, []), (591, []), (592, []), (590, []), (593, []), (594, []), (107, [1]), (542, []), (543, []), (544, []), (545, []), (546, []), (190, []), (191, [0])] T U3 from fr_t (fr_t (fr_0 _ _) (fr_s hf_94 rfl)) (fr_s fU3 rfl)) ⟨fun _ => rfl, fun _ => rfl, rfl, rfl, trivial⟩) (by omega)) cl_X9_91_zX9_search_8 (qd_c (by decide +kernel)) (nn_ _) rfl (rf_of rfl) (Nat.le_of_ble_eq_true rfl) (Nat.le_of_ble_eq_true rfl) (Nat.le_of_ble_eq_true rfl) rfl ?_
        rintro U19 _ ⟨x20, rfl, fU19, hx20⟩
        show J_ zX9_ask T (po_X9_ask_e T c t) 1 4096 158 _ [vI x20, vR 109 0] U19
        refine j_blx (F := fX9) tb_X9 (nn_ _) bk_X9_ask_e_158 bs_X9_ask_e_158 hz (fun K hK => ?_)
        refine And.intro (fun c21 => ?_) (fun c21 => ?_)
        · refine hK 165 _ [vR 109 0] U19 ?_
          refine j_blx (F := fX9) tb_X9 (nn_ _) bk_X9_ask_e_165 bs_X9_ask_e_165 hz (fun K hK => ?_)
          refine bd_i (by omega) ?_
          refine x_nm (fun U22 hU22 => ?_)
          have e23 := up_f hU22
          intro b24 b24b
          have e25 : U22 109 0 2 = 0 := up_f hU22
          rw [e25] at b24 b24b ⊢
          refine (show po_X9_ask_e T c t U22 (some (vI 0)) from ?_)
          have e26 : U22 109 0 15 = T 109 0 15 := (up_j hU22 (by decide) 109 0).trans ((fU19 109 0 15 rfl).trans ((fU3 109 0 15 rfl).trans (hf_94 109 0 15 rfl)))
          have e27 : U22 191 0 0 = T 191 0 0 := (up_k hU22 (by exact Nat.ne_of_beq_eq_false rfl) 0 0).trans ((fU19 191 0 0 rfl).trans ((fU3 191 0 0 rfl).trans (hf_94 191 0 0 rfl)))
          have e28 : U22 109 0 15 = T 109 0 15 := (up_j hU22 (by decide) 109 0).trans ((fU19 109 0 15 rfl).trans ((fU3 109 0 15 rfl).trans (hf_94 109 0 15 rfl)))
          have e29 : U22 191 0 0 = T 191 0 0 := (up_k hU22 (by exact Nat.ne_of_beq_eq_false rfl) 0 0).trans ((fU19 191 0 0 rfl).trans ((fU3 191 0 0 rfl).trans (hf_94 191 0 0 rfl)))
          have e190 : ∀ x, U22 190 x (-2) = T 190 x (-2) := fun x => (up_k hU22 (by exact Nat.ne_of_beq_eq_false rfl) _ _).trans ((fU19 190 _ _ rfl).trans ((fU3 190 _ _ rfl).trans (hf_94 190 _ _ rfl)))
          have f190 : ∀ x j, U22 190 x j = T 190 x j := fun x j => (up_k hU22 (by exact Nat.ne_of_beq_eq_false rfl) _ _).trans ((fU19 190 _ _ rfl).trans ((fU3 190 _ _ rfl).trans (hf_94 190 _ _ rfl)))
          exact ⟨_, rfl, fr_u (fr_t (fr_t (fr_t (fr_0 _ _) (fr_s hf_94 rfl)) (fr_s fU3 rfl)) (fr_s fU19 rfl)) hU22 rfl, by rw [e28, e190]; exact hsl, ⟨fun x j _ _ => f190 x j, by omega⟩, ⟨fun x _ => e190 x, by omega⟩, by omega⟩
        · refine hK 166 _ [vI 1, vR 109 0] U19 ?_
          refine j_blx (F := fX9) tb_X9 (nn_ _) bk_X9_ask_e_166 bs_X9_ask_e_166 hz (fun K hK => ?_)
          refine bd_i (by omega) ?_
          refine x_nm (fun U30 hU30 => ?_)
          have e31 := up_f hU30
          intro b32 b32b
          have e33 : U30 109 0 2 = 1 := up_f hU30
          rw [e33] at b32 b32b ⊢
          refine (show po_X9_ask_e T c t U30 (some (vI 1)) from ?_)
          have e34 : U30 109 0 15 = T 109 0 15 := (up_j hU30 (by decide) 109 0).trans ((fU19 109 0 15 rfl).trans ((fU3 109 0 15 rfl).trans (hf_94 109 0 15 rfl)))
          have e35 : U30 191 0 0 = T 191 0 0 := (up_k hU30 (by exact Nat.ne_of_beq_eq_false rfl) 0 0).trans ((fU19 191 0 0 rfl).trans ((fU3 191 0 0 rfl).trans (hf_94 191 0 0 rfl)))
          have e36 : U30 109 0 15 = T 109 0 15 := (up_j hU30 (by decide) 109 0).trans ((fU19 109 0 15 rfl).trans ((fU3 109 0 15 rfl).trans (hf_94 109 0 15 rfl)))
          have e37 : U30 191 0 0 = T 191 0 0 := (up_k hU30 (by exact Nat.ne_of_beq_eq_false rfl) 0 0).trans ((fU19 191 0 0 rfl).trans ((fU3 191 0 0 rfl).trans (hf_94 191 0 0 rfl)))
          have e190 : ∀ x, U30 190 x (-2) = T 190 x (-2) := fun x => (up_k hU30 (by exact Nat.ne_of_beq_eq_false rfl) _ _).trans ((fU19 190 _ _ rfl).trans ((fU3 190 _ _ rfl).trans (hf_94 190 _ _ rfl)))
          have f190 : ∀ x j, U30 190 x j = T 190 x j := fun x j => (up_k hU30 (by exact Nat.ne_of_beq_eq_false rfl) _ _).trans ((fU19 190 _ _ rfl).trans ((fU3 190 _ _ rfl).trans (hf_94 190 _ _ rfl)))
          exact ⟨_, rfl, fr_u (fr_t (fr_t (fr_t (fr_0 _ _) (fr_s hf_94 rfl)) (fr_s fU3 rfl)) (fr_s fU19 rfl)) hU30 rfl, by rw [e36, e190]; exact hsl, ⟨fun x j _ _ => f190 x j, by omega⟩, ⟨fun x _ => e190 x, by omega⟩, by omega⟩
    · refine hK 105 _ [vI t, vR 109 0] U3 ?_
      have e38 : U3 109 0 5 = T2 109 0 5 := fU3 109 0 5 rfl
      have e39 : U3 106 0 2 = T 106 0 2 := (fU3 106 0 2 rfl).trans (hf_94 106 0 2 rfl)
      have e40 : U3 106 0 4 = T 106 0 4 := (fU3 106 0 4 rfl).trans (hf_94 106 0 4 rfl)
      have e41 : U3 401 c 1 = T 401 c 1 := (fU3 401 c 1 rfl).trans (hf_94 401 c 1 rfl)
      have e42 : U3 401 c 2 = T 401 c 2 := (fU3 401 c 2 rfl).trans (hf_94 401 c 2 rfl)
      have yc : (U3 109 0 5 - 1) = c := by omega
      refine j_callV (y := yX9_setCaps) (Yc := zX9_setCaps) (rest := []) [vI t] (ct_X9_setCaps (T := U3) (q9_f q2 (show fr_ [(109, [3, 6, 2, 15]), (584, []), (587, []), (591, []), (592, []), (590, []), (593, []), (594, []), (107, [1]), (542, []), (543, []), (544, []), (545, []), (546, []), (190, []), (191, [0])] T2 U3 from fr_t (fr_0 _ _) (fr_s fU3 rfl)) ⟨fun _ _ => rfl, fun _ => rfl, rfl, rfl, rfl, rfl, rfl⟩) (KA__f hka (show fr_ [(109, [5, 3, 9, 6, 2, 15]), (584, []), (588, []), (587, []), (591, []), (592, []), (590, []), (593, []), (594, []), (107, [1]), (542, []), (543, []), (544, []), (545, []), (546, []), (190, []), (191, [0])] T U3 from fr_t (fr_t (fr_0 _ _) (fr_s hf_94 rfl)) (fr_s fU3 rfl)) ⟨fun _ => rfl, fun _ => rfl, rfl, rfl, trivial⟩) (by rw [yc]; omega) (by omega)) cl_X9_77 (qd_c (by decide +kernel)) (nn_ _) rfl (rf_of rfl) (Nat.le_of_ble_eq_true rfl) (Nat.le_of_ble_eq_true rfl) (Nat.le_of_ble_eq_true rfl) rfl ?_
      rintro U43 _ ⟨rfl, fU43, -⟩
      show J_ zX9_ask T (po_X9_ask_e T c t) 1 4096 108 _ [] U43
      refine j_blx (F := fX9) tb_X9 (nn_ _) bk_X9_ask_e_108 bs_X9_ask_e_108 hz (fun K hK => ?_)
      refine hK 111 _ [vI t, vR 109 0, vR 109 0] U43 ?_
      refine j_callV (y := yX9_spreadParts) (Yc := zX9_spreadParts) (rest := [vR 109 0]) [vI t] (ct_X9_spreadParts (T := U43) (q9_f q2 (show fr_ [(109, [3, 6, 2, 15]), (584, []), (587, []), (591, []), (592, []), (590, []), (593, []), (594, []), (107, [1]), (542, []), (543, []), (544, []), (545, []), (546, []), (190, []), (191, [0])] T2 U43 from fr_t (fr_t (fr_0 _ _) (fr_s fU3 rfl)) (fr_s fU43 rfl)) ⟨fun _ _ => rfl, fun _ => rfl, rfl, rfl, rfl, rfl, rfl⟩) (KA__f hka (show fr_ [(109, [5, 3, 9, 6, 2, 15]), (584, []), (588, []), (587, []), (591, []), (592, []), (590, []), (593, []), (594, []), (107, [1]), (542, []), (543, []), (544, []), (545, []), (546, []), (190, []), (191, [0])] T U43 from fr_t (fr_t (fr_t (fr_0 _ _) (fr_s hf_94 rfl)) (fr_s fU3 rfl)) (fr_s fU43 rfl)) ⟨fun _ => rfl, fun _ => rfl, rfl, rfl, trivial⟩) (by omega)) cl_X9_80 (qd_c (by decide +kernel)) (nn_ _) rfl (rf_of rfl) (Nat.le_of_ble_eq_true rfl) (Nat.le_of_ble_eq_true rfl) (Nat.le_of_ble_eq_true rfl) rfl ?_
      rintro U45 _ ⟨x46, rfl, fU45, hx46⟩
      show J_ zX9_ask T (po_X9_ask_e T c t) 1 4096 114 _ [vI x46, vR 109 0] U45
      refine j_blx (F := fX9) tb_X9 (nn_ _) bk_X9_ask_e_114 bs_X9_ask_e_114 hz (fun K hK => ?_)
      refine And.intro (fun c47 => ?_) (fun c47 => ?_)
      · refine hK 121 _ [vR 109 0] U45 ?_
        refine j_blx (F := fX9) tb_X9 (nn_ _) bk_X9_ask_e_121 bs_X9_ask_e_121 hz (fun K hK => ?_)
        refine bd_i (by omega) ?_
        refine x_nm (fun U48 hU48 => ?_)
        have e49 := up_f hU48
        intro b50 b50b
        have e51 : U48 109 0 2 = 0 := up_f hU48
        rw [e51] at b50 b50b ⊢
        refine And.intro (fun c52 => ?_) (fun c52 => ?_)
        · refine hK 169 _ [] U48 ?_
          refine j_blx (F := fX9) tb_X9 (nn_ _) bk_X9_ask_e_169 bs_X9_ask_e_169 hz (fun K hK => ?_)
          intro b53 b53b
          have e54 : U48 109 0 2 = 0 := up_f hU48
          rw [e54] at b53 b53b ⊢
          refine (show po_X9_ask_e T c t U48 (some (vI 0)) from ?_)
          have e55 : U48 109 0 15 = T 109 0 15 := (up_j hU48 (by decide) 109 0).trans ((fU45 109 0 15 rfl).trans ((fU43 109 0 15 rfl).trans ((fU3 109 0 15 rfl).trans (hf_94 109 0 15 rfl))))
          have e56 : U48 191 0 0 = T 191 0 0 := (up_k hU48 (by exact Nat.ne_of_beq_eq_false rfl) 0 0).trans ((fU45 191 0 0 rfl).trans ((fU43 191 0 0 rfl).trans ((fU3 191 0 0 rfl).trans (hf_94 191 0 0 rfl))))
          have e57 : U48 109 0 15 = T 109 0 15 := (up_j hU48 (by decide) 109 0).trans ((fU45 109 0 15 rfl).trans ((fU43 109 0 15 rfl).trans ((fU3 109 0 15 rfl).trans (hf_94 109 0 15 rfl))))
          have e58 : U48 191 0 0 = T 191 0 0 := (up_k hU48 (by exact Nat.ne_of_beq_eq_false rfl) 0 0).trans ((fU45 191 0 0 rfl).trans ((fU43 191 0 0 rfl).trans ((fU3 191 0 0 rfl).trans (hf_94 191 0 0 rfl))))
          have e190 : ∀ x, U48 190 x (-2) = T 190 x (-2) := fun x => (up_k hU48 (by exact Nat.ne_of_beq_eq_false rfl) _ _).trans ((fU45 190 _ _ rfl).trans ((fU43 190 _ _ rfl).trans ((fU3 190 _ _ rfl).trans (hf_94 190 _ _ rfl))))
          have f190 : ∀ x j, U48 190 x j = T 190 x j := fun x j => (up_k hU48 (by exact Nat.ne_of_beq_eq_false rfl) _ _).trans ((fU45 190 _ _ rfl).trans ((fU43 190 _ _ rfl).trans ((fU3 190 _ _ rfl).trans (hf_94 190 _ _ rfl))))
          exact ⟨_, rfl, fr_u (fr_t (fr_t (fr_t (fr_t (fr_0 _ _) (fr_s hf_94 rfl)) (fr_s fU3 rfl)) (fr_s fU43 rfl)) (fr_s fU45 rfl)) hU48 rfl, by rw [e57, e190]; exact hsl, ⟨fun x j _ _ => f190 x j, by omega⟩, ⟨fun x _ => e190 x, by omega⟩, by omega⟩
        · refine hK 135 _ [vI t, vR 109 0, vR 109 0] U48 ?_
          have e59 : U48 109 0 5 = T2 109 0 5 := (up_j hU48 (by decide) 109 0).trans ((fU45 109 0 5 rfl).trans ((fU43 109 0 5 rfl).trans (fU3 109 0 5 rfl)))
          have e60 : U48 106 0 2 = T 106 0 2 := (up_k hU48 (by exact Nat.ne_of_beq_eq_false rfl) 0 2).trans ((fU45 106 0 2 rfl).trans ((fU43 106 0 2 rfl).trans ((fU3 106 0 2 rfl).trans (hf_94 106 0 2 rfl))))
          have e61 : U48 106 0 4 = T 106 0 4 := (up_k hU48 (by exact Nat.ne_of_beq_eq_false rfl) 0 4).trans ((fU45 106 0 4 rfl).trans ((fU43 106 0 4 rfl).trans ((fU3 106 0 4 rfl).trans (hf_94 106 0 4 rfl))))
          have e62 : U48 109 0 15 = T 109 0 15 := (up_j hU48 (by decide) 109 0).trans ((fU45 109 0 15 rfl).trans ((fU43 109 0 15 rfl).trans ((fU3 109 0 15 rfl).trans (hf_94 109 0 15 rfl))))
          have e63 : U48 191 0 0 = T 191 0 0 := (up_k hU48 (by exact Nat.ne_of_beq_eq_false rfl) 0 0).trans ((fU45 191 0 0 rfl).trans ((fU43 191 0 0 rfl).trans ((fU3 191 0 0 rfl).trans (hf_94 191 0 0 rfl))))
          have yd : (U48 109 0 5 - 1) = c := by omega
          refine j_callV (y := yX9_leastCut) (Yc := zX9_leastCut) (rest := [vR 109 0]) [vI t] (ct_X9_leastCut_e (T := U48) (q9_f q2 (show fr_ [(109, [3, 6, 2, 15]), (584, []), (587, []), (591, []), (592, []), (590, []), (593, []), (594, []), (107, [1]), (542, []), (543, []), (544, []), (545, []), (546, []), (190, []), (191, [0])] T2 U48 from fr_u (fr_t (fr_t (fr_t (fr_0 _ _) (fr_s fU3 rfl)) (fr_s fU43 rfl)) (fr_s fU45 rfl)) hU48 rfl) ⟨fun _ _ => rfl, fun _ => rfl, rfl, rfl, rfl, rfl, rfl⟩) (KA__f hka (show fr_ [(109, [5, 3, 9, 6, 2, 15]), (584, []), (588, []), (587, []), (591, []), (592, []), (590, []), (593, []), (594, []), (107, [1]), (542, []), (543, []), (544, []), (545, []), (546, []), (190, []), (191, [0])] T U48 from fr_u (fr_t (fr_t (fr_t (fr_t (fr_0 _ _) (fr_s hf_94 rfl)) (fr_s fU3 rfl)) (fr_s fU43 rfl)) (fr_s fU45 rfl)) hU48 rfl) ⟨fun _ => rfl, fun _ => rfl, rfl, rfl, trivial⟩) (by rw [yd]; exact KEc_f (hke c (by omega) (by omega)) (show fr_ [(109, [5, 3, 9, 6, 2, 15]), (584, []), (588, []), (587, []), (591, []), (592, []), (590, []), (593, []), (594, []), (107, [1]), (542, []), (543, []), (544, []), (545, []), (546, []), (190, []), (191, [0])] T U48 from fr_u (fr_t (fr_t (fr_t (fr_t (fr_0 _ _) (fr_s hf_94 rfl)) (fr_s fU3 rfl)) (fr_s fU43 rfl)) (fr_s fU45 rfl)) hU48 rfl) ⟨rfl, fun _ => rfl, fun _ => rfl⟩) (by rw [e62, show ∀ x, U48 190 x (-2) = T 190 x (-2) from fun x => (up_k hU48 (by exact Nat.ne_of_beq_eq_false rfl) _ _).trans ((fU45 190 _ _ rfl).trans ((fU43 190 _ _ rfl).trans ((fU3 190 _ _ rfl).trans (hf_94 190 _ _ rfl))))]; exact hsl) (by omega)) cl_X9_84 (qd_c (by decide +kernel)) (nn_ _) rfl (rf_of rfl) (Nat.le_of_ble_eq_true rfl) (Nat.le_of_ble_eq_true rfl) (Nat.le_of_ble_eq_true rfl) rfl ?_
          rintro U64 _ ⟨x65, rfl, fU64, hx65, slU64, kpU64, lhU64, mU64⟩
          show J_ zX9_ask T (po_X9_ask_e T c t) 0 0 138 _ [vI x65, vR 109 0] U64
          refine j_blx (F := fX9) tb_X9 (nn_ _) bk_X9_ask_e_138 bs_X9_ask_e_138 hz (fun K hK => ?_)
          refine bd_i (by omega) ?_
          refine x_nm (fun U66 hU66 => ?_)
          have e67 := up_f hU66
          refine hK 169 _ [] U66 ?_
          refine j_blx (F := fX9) tb_X9 (nn_ _) bk_X9_ask_e_169 bs_X9_ask_e_169 hz (fun K hK => ?_)
          intro b68 b68b
          have e69 : U66 109 0 2 = 0 := (up_j hU66 (by decide) 109 0).trans ((fU64 109 0 2 rfl).trans (up_f hU48))
          rw [e69] at b68 b68b ⊢
          refine (show po_X9_ask_e T c t U66 (some (vI 0)) from ?_)
          have e70 : U66 109 0 15 = U64 109 0 15 := up_j hU66 (by decide) 109 0
          have e71 : U66 191 0 0 = U64 191 0 0 := up_k hU66 (by exact Nat.ne_of_beq_eq_false rfl) 0 0
          have e190 : ∀ x, U66 190 x (-2) = U64 190 x (-2) := fun x => up_k hU66 (by exact Nat.ne_of_beq_eq_false rfl) _ _
          have e15 : U66 109 0 15 = U64 109 0 15 := up_j hU66 (by decide) _ _
          have e91 : U66 191 0 0 = U64 191 0 0 := up_k hU66 (by exact Nat.ne_of_beq_eq_false rfl) _ _
          have e92 : U48 191 0 0 = T 191 0 0 := (up_k hU48 (by exact Nat.ne_of_beq_eq_false rfl) _ _).trans ((fU45 191 _ _ rfl).trans ((fU43 191 _ _ rfl).trans ((fU3 191 _ _ rfl).trans (hf_94 191 _ _ rfl))))
          have e93 : ∀ x, U48 190 x (-2) = T 190 x (-2) := fun x => (up_k hU48 (by exact Nat.ne_of_beq_eq_false rfl) _ _).trans ((fU45 190 _ _ rfl).trans ((fU43 190 _ _ rfl).trans ((fU3 190 _ _ rfl).trans (hf_94 190 _ _ rfl))))
          have f190 : ∀ x j, U66 190 x j = U64 190 x j := fun x j => up_k hU66 (by exact Nat.ne_of_beq_eq_false rfl) _ _
          have f193 : ∀ x j, U48 190 x j = T 190 x j := fun x j => (up_k hU48 (by exact Nat.ne_of_beq_eq_false rfl) _ _).trans ((fU45 190 _ _ rfl).trans ((fU43 190 _ _ rfl).trans ((fU3 190 _ _ rfl).trans (hf_94 190 _ _ rfl))))
          have e94 : U48 109 0 15 = T 109 0 15 := (up_j hU48 (by decide) _ _).trans ((fU45 109 _ _ rfl).trans ((fU43 109 _ _ rfl).trans ((fU3 109 _ _ rfl).trans (hf_94 109 _ _ rfl))))
          have kp9 : KPT_ T U66 := ⟨fun x j hx hn => (f190 x j).trans ((kpU64.1 x j (by omega) (by omega)).trans (f193 x j)), by have y6 := kpU64.2; omega⟩
          exact ⟨_, rfl, fr_u (fr_t (fr_u (fr_t (fr_t (fr_t (fr_t (fr_0 _ _) (fr_s hf_94 rfl)) (fr_s fU3 rfl)) (fr_s fU43 rfl)) (fr_s fU45 rfl)) hU48 rfl) (fr_s fU64 rfl)) hU66 rfl, by rw [e15, e190]; exact slU64, kp9, lh_t (lh_t ⟨fun x _ => e93 x, by omega⟩ lhU64) ⟨fun x _ => e190 x, by omega⟩, by have := mU64; omega⟩
      · refine hK 122 _ [vI 1, vR 109 0] U45 ?_
        refine j_blx (F := fX9) tb_X9 (nn_ _) bk_X9_ask_e_122 bs_X9_ask_e_122 hz (fun K hK => ?_)
        refine bd_i (by omega) ?_
        refine x_nm (fun U72 hU72 => ?_)
        have e73 := up_f hU72
        intro b74 b74b
        have e75 : U72 109 0 2 = 1 := up_f hU72
        rw [e75] at b74 b74b ⊢
        refine And.intro (fun c76 => ?_) (fun c76 => ?_)
        · refine hK 169 _ [] U72 ?_
          refine j_blx (F := fX9) tb_X9 (nn_ _) bk_X9_ask_e_169 bs_X9_ask_e_169 hz (fun K hK => ?_)
          intro b77 b77b
          have e78 : U72 109 0 2 = 1 := up_f hU72
          rw [e78] at b77 b77b ⊢
          refine (show po_X9_ask_e T c t U72 (some (vI 1)) from ?_)
          have e79 : U72 109 0 15 = T 109 0 15 := (up_j hU72 (by decide) 109 0).trans ((fU45 109 0 15 rfl).trans ((fU43 109 0 15 rfl).trans ((fU3 109 0 15 rfl).trans (hf_94 109 0 15 rfl))))
          have e80 : U72 191 0 0 = T 191 0 0 := (up_k hU72 (by exact Nat.ne_of_beq_eq_false rfl) 0 0).trans ((fU45 191 0 0 rfl).trans ((fU43 191 0 0 rfl).trans ((fU3 191 0 0 rfl).trans (hf_94 191 0 0 rfl))))
          have e81 : U72 109 0 15 = T 109 0 15 := (up_j hU72 (by decide) 109 0).trans ((fU45 109 0 15 rfl).trans ((fU43 109 0 15 rfl).trans ((fU3 109 0 15 rfl).trans (hf_94 109 0 15 rfl))))
          have e82 : U72 191 0 0 = T 191 0 0 := (up_k hU72 (by exact Nat.ne_of_beq_eq_false rfl) 0 0).trans ((fU45 191 0 0 rfl).trans ((fU43 191 0 0 rfl).trans ((fU3 191 0 0 rfl).trans (hf_94 191 0 0 rfl))))
          have e190 : ∀ x, U72 190 x (-2) = T 190 x (-2) := fun x => (up_k hU72 (by exact Nat.ne_of_beq_eq_false rfl) _ _).trans ((fU45 190 _ _ rfl).trans ((fU43 190 _ _ rfl).trans ((fU3 190 _ _ rfl).trans (hf_94 190 _ _ rfl))))
          have f190 : ∀ x j, U72 190 x j = T 190 x j := fun x j => (up_k hU72 (by exact Nat.ne_of_beq_eq_false rfl) _ _).trans ((fU45 190 _ _ rfl).trans ((fU43 190 _ _ rfl).trans ((fU3 190 _ _ rfl).trans (hf_94 190 _ _ rfl))))
          exact ⟨_, rfl, fr_u (fr_t (fr_t (fr_t (fr_t (fr_0 _ _) (fr_s hf_94 rfl)) (fr_s fU3 rfl)) (fr_s fU43 rfl)) (fr_s fU45 rfl)) hU72 rfl, by rw [e81, e190]; exact hsl, ⟨fun x j _ _ => f190 x j, by omega⟩, ⟨fun x _ => e190 x, by omega⟩, by omega⟩
        · refine hK 135 _ [vI t, vR 109 0, vR 109 0] U72 ?_
          have e83 : U72 109 0 5 = T2 109 0 5 := (up_j hU72 (by decide) 109 0).trans ((fU45 109 0 5 rfl).trans ((fU43 109 0 5 rfl).trans (fU3 109 0 5 rfl)))
          have e84 : U72 106 0 2 = T 106 0 2 := (up_k hU72 (by exact Nat.ne_of_beq_eq_false rfl) 0 2).trans ((fU45 106 0 2 rfl).trans ((fU43 106 0 2 rfl).trans ((fU3 106 0 2 rfl).trans (hf_94 106 0 2 rfl))))
          have e85 : U72 106 0 4 = T 106 0 4 := (up_k hU72 (by exact Nat.ne_of_beq_eq_false rfl) 0 4).trans ((fU45 106 0 4 rfl).trans ((fU43 106 0 4 rfl).trans ((fU3 106 0 4 rfl).trans (hf_94 106 0 4 rfl))))
          have e86 : U72 109 0 15 = T 109 0 15 := (up_j hU72 (by decide) 109 0).trans ((fU45 109 0 15 rfl).trans ((fU43 109 0 15 rfl).trans ((fU3 109 0 15 rfl).trans (hf_94 109 0 15 rfl))))
          have e87 : U72 191 0 0 = T 191 0 0 := (up_k hU72 (by exact Nat.ne_of_beq_eq_false rfl) 0 0).trans ((fU45 191 0 0 rfl).trans ((fU43 191 0 0 rfl).trans ((fU3 191 0 0 rfl).trans (hf_94 191 0 0 rfl))))
          have yd : (U72 109 0 5 - 1) = c := by omega
          refine j_callV (y := yX9_leastCut) (Yc := zX9_leastCut) (rest := [vR 109 0]) [vI t] (ct_X9_leastCut_e (T := U72) (q9_f q2 (show fr_ [(109, [3, 6, 2, 15]), (584, []), (587, []), (591, []), (592, []), (590, []), (593, []), (594, []), (107, [1]), (542, []), (543, []), (544, []), (545, []), (546, []), (190, []), (191, [0])] T2 U72 from fr_u (fr_t (fr_t (fr_t (fr_0 _ _) (fr_s fU3 rfl)) (fr_s fU43 rfl)) (fr_s fU45 rfl)) hU72 rfl) ⟨fun _ _ => rfl, fun _ => rfl, rfl, rfl, rfl, rfl, rfl⟩) (KA__f hka (show fr_ [(109, [5, 3, 9, 6, 2, 15]), (584, []), (588, []), (587, []), (591, []), (592, []), (590, []), (593, []), (594, []), (107, [1]), (542, []), (543, []), (544, []), (545, []), (546, []), (190, []), (191, [0])] T U72 from fr_u (fr_t (fr_t (fr_t (fr_t (fr_0 _ _) (fr_s hf_94 rfl)) (fr_s fU3 rfl)) (fr_s fU43 rfl)) (fr_s fU45 rfl)) hU72 rfl) ⟨fun _ => rfl, fun _ => rfl, rfl, rfl, trivial⟩) (by rw [yd]; exact KEc_f (hke c (by omega) (by omega)) (show fr_ [(109, [5, 3, 9, 6, 2, 15]), (584, []), (588, []), (587, []), (591, []), (592, []), (590, []), (593, []), (594, []), (107, [1]), (542, []), (543, []), (544, []), (545, []), (546, []), (190, []), (191, [0])] T U72 from fr_u (fr_t (fr_t (fr_t (fr_t (fr_0 _ _) (fr_s hf_94 rfl)) (fr_s fU3 rfl)) (fr_s fU43 rfl)) (fr_s fU45 rfl)) hU72 rfl) ⟨rfl, fun _ => rfl, fun _ => rfl⟩) (by rw [e86, show ∀ x, U72 190 x (-2) = T 190 x (-2) from fun x => (up_k hU72 (by exact Nat.ne_of_beq_eq_false rfl) _ _).trans ((fU45 190 _ _ rfl).trans ((fU43 190 _ _ rfl).trans ((fU3 190 _ _ rfl).trans (hf_94 190 _ _ rfl))))]; exact hsl) (by omega)) cl_X9_84 (qd_c (by decide +kernel)) (nn_ _) rfl (rf_of rfl) (Nat.le_of_ble_eq_true rfl) (Nat.le_of_ble_eq_true rfl) (Nat.le_of_ble_eq_true rfl) rfl ?_
          rintro U88 _ ⟨x89, rfl, fU88, hx89, slU88, kpU88, lhU88, mU88⟩
          show J_ zX9_ask T (po_X9_ask_e T c t) 0 0 138 _ [vI x89, vR 109 0] U88
          refine j_blx (F := fX9) tb_X9 (nn_ _) bk_X9_ask_e_138 bs_X9_ask_e_138 hz (fun K hK => ?_)
          refine bd_i (by omega) ?_
          refine x_nm (fun U90 hU90 => ?_)
          have e91 := up_f hU90
          refine hK 169 _ [] U90 ?_
          refine j_blx (F := fX9) tb_X9 (nn_ _) bk_X9_ask_e_169 bs_X9_ask_e_169 hz (fun K hK => ?_)
          intro b92 b92b
          have e93 : U90 109 0 2 = 1 := (up_j hU90 (by decide) 109 0).trans ((fU88 109 0 2 rfl).trans (up_f hU72))
          rw [e93] at b92 b92b ⊢
          refine (show po_X9_ask_e T c t U90 (some (vI 1)) from ?_)
          have e94 : U90 109 0 15 = U88 109 0 15 := up_j hU90 (by decide) 109 0
          have e95 : U90 191 0 0 = U88 191 0 0 := up_k hU90 (by exact Nat.ne_of_beq_eq_false rfl) 0 0
          have e190 : ∀ x, U90 190 x (-2) = U88 190 x (-2) := fun x => up_k hU90 (by exact Nat.ne_of_beq_eq_false rfl) _ _
          have e15 : U90 109 0 15 = U88 109 0 15 := up_j hU90 (by decide) _ _
          have e91 : U90 191 0 0 = U88 191 0 0 := up_k hU90 (by exact Nat.ne_of_beq_eq_false rfl) _ _
          have e92 : U72 191 0 0 = T 191 0 0 := (up_k hU72 (by exact Nat.ne_of_beq_eq_false rfl) _ _).trans ((fU45 191 _ _ rfl).trans ((fU43 191 _ _ rfl).trans ((fU3 191 _ _ rfl).trans (hf_94 191 _ _ rfl))))
          have e93 : ∀ x, U72 190 x (-2) = T 190 x (-2) := fun x => (up_k hU72 (by exact Nat.ne_of_beq_eq_false rfl) _ _).trans ((fU45 190 _ _ rfl).trans ((fU43 190 _ _ rfl).trans ((fU3 190 _ _ rfl).trans (hf_94 190 _ _ rfl))))
          have f190 : ∀ x j, U90 190 x j = U88 190 x j := fun x j => up_k hU90 (by exact Nat.ne_of_beq_eq_false rfl) _ _
          have f193 : ∀ x j, U72 190 x j = T 190 x j := fun x j => (up_k hU72 (by exact Nat.ne_of_beq_eq_false rfl) _ _).trans ((fU45 190 _ _ rfl).trans ((fU43 190 _ _ rfl).trans ((fU3 190 _ _ rfl).trans (hf_94 190 _ _ rfl))))
          have e94 : U72 109 0 15 = T 109 0 15 := (up_j hU72 (by decide) _ _).trans ((fU45 109 _ _ rfl).trans ((fU43 109 _ _ rfl).trans ((fU3 109 _ _ rfl).trans (hf_94 109 _ _ rfl))))
          have kp9 : KPT_ T U90 := ⟨fun x j hx hn => (f190 x j).trans ((kpU88.1 x j (by omega) (by omega)).trans (f193 x j)), by have y6 := kpU88.2; omega⟩
          exact ⟨_, rfl, fr_u (fr_t (fr_u (fr_t (fr_t (fr_t (fr_t (fr_0 _ _) (fr_s hf_94 rfl)) (fr_s fU3 rfl)) (fr_s fU43 rfl)) (fr_s fU45 rfl)) hU72 rfl) (fr_s fU88 rfl)) hU90 rfl, by rw [e15, e190]; exact slU88, kp9, lh_t (lh_t ⟨fun x _ => e93 x, by omega⟩ lhU88) ⟨fun x _ => e190 x, by omega⟩, by have := mU88; omega⟩
  have c_56 : ∀ (v : Int) (T1 : Zt), (fr_ [(109, [5, 3]), (584, [])] T T1) → (0 ≤ v ∧ v ≤ 1 ∧ (v = 1 → T 401 c 1 + T 401 c 3 = 2 * T 401 c 2)) → (T1 109 0 5 = c + 1) → J_ zX9_ask T (po_X9_ask_e T c t) 1 4096 56 [some (vR 109 0), some (vR 100 c), some (vI t), none] [vI v] T1 := by
    intro v T1 hf_56 iv1 t1
    refine j_blx (F := fX9) tb_X9 (nn_ _) bk_X9_ask_e_56 bs_X9_ask_e_56 hz (fun K hK => ?_)
    refine And.intro (fun c96 => ?_) (fun c96 => ?_)
    · exact absurd c96 (by omega)
    · have z97 : T1 109 0 5 - 1 = c := by omega
      rw [z97]
      refine ix_i (by omega) ?_
      intro b98 b98b
      have e99 : T1 403 c t = T 403 c t := hf_56 403 c t rfl
      rw [e99] at b98 b98b ⊢
      refine And.intro (fun c100 => ?_) (fun c100 => ?_)
      · refine hK 76 [some (vR 109 0), some (vR 100 c), some (vI t), some (vI v)] [vI (T 403 c t), vR 109 0] T1 ?_
        refine j_blx (F := fX9) tb_X9 (nn_ _) bk_X9_ask_e_76 bs_X9_ask_e_76 hz (fun K hK => ?_)
        refine hK 78 _ [vI 8, vI (T 403 c t), vR 109 0] T1 ?_
        have e101 : T1 106 0 2 = T 106 0 2 := hf_56 106 0 2 rfl
        have e102 : T1 106 0 4 = T 106 0 4 := hf_56 106 0 4 rfl
        refine j_callV (y := yX9_listOpen) (Yc := zX9_listOpen) (rest := []) [vI (T 403 c t), vI 8] (ct_X9_listOpen (T := T1) (KA__f hka (show fr_ [(109, [5, 3, 9, 6, 2, 15]), (584, []), (588, []), (587, []), (591, []), (592, []), (590, []), (593, []), (594, []), (107, [1]), (542, []), (543, []), (544, []), (545, []), (546, []), (190, []), (191, [0])] T T1 from fr_t (fr_0 _ _) (fr_s hf_56 rfl)) ⟨fun _ => rfl, fun _ => rfl, rfl, rfl, trivial⟩) (KM__f hkm (show fr_ [(109, [5, 3, 9, 6, 2, 15]), (584, []), (588, []), (587, []), (591, []), (592, []), (590, []), (593, []), (594, []), (107, [1]), (542, []), (543, []), (544, []), (545, []), (546, []), (190, []), (191, [0])] T T1 from fr_t (fr_0 _ _) (fr_s hf_56 rfl)) ⟨rfl, rfl, rfl, rfl, trivial⟩) (KC__f hkc (show fr_ [(109, [5, 3, 9, 6, 2, 15]), (584, []), (588, []), (587, []), (591, []), (592, []), (590, []), (593, []), (594, []), (107, [1]), (542, []), (543, []), (544, []), (545, []), (546, []), (190, []), (191, [0])] T T1 from fr_t (fr_0 _ _) (fr_s hf_56 rfl)) ⟨rfl, rfl, rfl, rfl, trivial⟩) (by omega) (by omega)) cl_X9_69 (qd_c (by decide +kernel)) (nn_ _) rfl (rf_of rfl) (Nat.le_of_ble_eq_true rfl) (Nat.le_of_ble_eq_true rfl) (Nat.le_of_ble_eq_true rfl) rfl ?_
        rintro U103 _ ⟨x104, rfl, fU103, hx104, olU103⟩
        show J_ zX9_ask T (po_X9_ask_e T c t) 1 4096 81 _ [vI x104] U103
        refine j_blx (F := fX9) tb_X9 (nn_ _) bk_X9_ask_e_81 bs_X9_ask_e_81 hz (fun K hK => ?_)
        refine And.intro (fun c105 => ?_) (fun c105 => ?_)
        · refine hK 94 _ [] U103 ?_
          refine j_ok (fun gok _ => ?_)
          have q5x : U103 109 0 5 = c + 1 := (fU103 109 _ _ rfl).trans t1
          have e106 : U103 109 0 5 = T1 109 0 5 := fU103 109 0 5 rfl
          refine c_94 v U103 ?_ ?_ ?_ ?_
          · exact fr_t (fr_t (fr_0 _ _) (fr_s hf_56 rfl)) (fr_s fU103 rfl)
          · omega
          · exact q5x
          · exact q9_of gok hks hkc (by omega) q5x hb7.1 (fun j a b => by have y := olU103 j a b; rw [show (T1 109 0 5 - 1) = c by omega, show T1 100 c 7 = T 100 c 7 from hf_56 100 _ _ rfl, show T1 100 c 8 = T 100 c 8 from hf_56 100 _ _ rfl] at y; exact y) (fun i j => (fU103 102 _ _ rfl).trans (hf_56 102 _ _ rfl)) (fun i j => (fU103 404 _ _ rfl).trans (hf_56 404 _ _ rfl)) ((fU103 106 _ _ rfl).trans (hf_56 106 _ _ rfl))
        · refine bd_i (by omega) ?_
          refine x_nm (fun U107 hU107 => ?_)
          have e108 := up_f hU107
          intro b109 b109b
          have e110 : U107 109 0 2 = 2 := up_f hU107
          rw [e110] at b109 b109b ⊢
          refine (show po_X9_ask_e T c t U107 (some (vI 2)) from ?_)
          have e111 : U107 109 0 15 = T 109 0 15 := (up_j hU107 (by decide) 109 0).trans ((fU103 109 0 15 rfl).trans (hf_56 109 0 15 rfl))
          have e112 : U107 191 0 0 = T 191 0 0 := (up_k hU107 (by exact Nat.ne_of_beq_eq_false rfl) 0 0).trans ((fU103 191 0 0 rfl).trans (hf_56 191 0 0 rfl))
          have e113 : U107 109 0 15 = T 109 0 15 := (up_j hU107 (by decide) 109 0).trans ((fU103 109 0 15 rfl).trans (hf_56 109 0 15 rfl))
          have e114 : U107 191 0 0 = T 191 0 0 := (up_k hU107 (by exact Nat.ne_of_beq_eq_false rfl) 0 0).trans ((fU103 191 0 0 rfl).trans (hf_56 191 0 0 rfl))
          have e190 : ∀ x, U107 190 x (-2) = T 190 x (-2) := fun x => (up_k hU107 (by exact Nat.ne_of_beq_eq_false rfl) _ _).trans ((fU103 190 _ _ rfl).trans (hf_56 190 _ _ rfl))
          have f190 : ∀ x j, U107 190 x j = T 190 x j := fun x j => (up_k hU107 (by exact Nat.ne_of_beq_eq_false rfl) _ _).trans ((fU103 190 _ _ rfl).trans (hf_56 190 _ _ rfl))
          exact ⟨_, rfl, fr_u (fr_t (fr_t (fr_0 _ _) (fr_s hf_56 rfl)) (fr_s fU103 rfl)) hU107 rfl, by rw [e113, e190]; exact hsl, ⟨fun x j _ _ => f190 x j, by omega⟩, ⟨fun x _ => e190 x, by omega⟩, by omega⟩
      · refine hK 78 _ [vI 40, vI (T 403 c t), vR 109 0] T1 ?_
        have e115 : T1 106 0 2 = T 106 0 2 := hf_56 106 0 2 rfl
        have e116 : T1 106 0 4 = T 106 0 4 := hf_56 106 0 4 rfl
        refine j_callV (y := yX9_listOpen) (Yc := zX9_listOpen) (rest := []) [vI (T 403 c t), vI 40] (ct_X9_listOpen (T := T1) (KA__f hka (show fr_ [(109, [5, 3, 9, 6, 2, 15]), (584, []), (588, []), (587, []), (591, []), (592, []), (590, []), (593, []), (594, []), (107, [1]), (542, []), (543, []), (544, []), (545, []), (546, []), (190, []), (191, [0])] T T1 from fr_t (fr_0 _ _) (fr_s hf_56 rfl)) ⟨fun _ => rfl, fun _ => rfl, rfl, rfl, trivial⟩) (KM__f hkm (show fr_ [(109, [5, 3, 9, 6, 2, 15]), (584, []), (588, []), (587, []), (591, []), (592, []), (590, []), (593, []), (594, []), (107, [1]), (542, []), (543, []), (544, []), (545, []), (546, []), (190, []), (191, [0])] T T1 from fr_t (fr_0 _ _) (fr_s hf_56 rfl)) ⟨rfl, rfl, rfl, rfl, trivial⟩) (KC__f hkc (show fr_ [(109, [5, 3, 9, 6, 2, 15]), (584, []), (588, []), (587, []), (591, []), (592, []), (590, []), (593, []), (594, []), (107, [1]), (542, []), (543, []), (544, []), (545, []), (546, []), (190, []), (191, [0])] T T1 from fr_t (fr_0 _ _) (fr_s hf_56 rfl)) ⟨rfl, rfl, rfl, rfl, trivial⟩) (by omega) (by omega)) cl_X9_69 (qd_c (by decide +kernel)) (nn_ _) rfl (rf_of rfl) (Nat.le_of_ble_eq_true rfl) (Nat.le_of_ble_eq_true rfl) (Nat.le_of_ble_eq_true rfl) rfl ?_
        rintro U117 _ ⟨x118, rfl, fU117, hx118, olU117⟩
        show J_ zX9_ask T (po_X9_ask_e T c t) 1 4096 81 _ [vI x118] U117
        refine j_blx (F := fX9) tb_X9 (nn_ _) bk_X9_ask_e_81 bs_X9_ask_e_81 hz (fun K hK => ?_)
        refine And.intro (fun c119 => ?_) (fun c119 => ?_)
        · refine hK 94 _ [] U117 ?_
          refine j_ok (fun gok _ => ?_)
          have q5x : U117 109 0 5 = c + 1 := (fU117 109 _ _ rfl).trans t1
          have e120 : U117 109 0 5 = T1 109 0 5 := fU117 109 0 5 rfl
          refine c_94 v U117 ?_ ?_ ?_ ?_
          · exact fr_t (fr_t (fr_0 _ _) (fr_s hf_56 rfl)) (fr_s fU117 rfl)
          · omega
          · exact q5x
          · exact q9_of gok hks hkc (by omega) q5x hb7.1 (fun j a b => by have y := olU117 j a b; rw [show (T1 109 0 5 - 1) = c by omega, show T1 100 c 7 = T 100 c 7 from hf_56 100 _ _ rfl, show T1 100 c 8 = T 100 c 8 from hf_56 100 _ _ rfl] at y; exact y) (fun i j => (fU117 102 _ _ rfl).trans (hf_56 102 _ _ rfl)) (fun i j => (fU117 404 _ _ rfl).trans (hf_56 404 _ _ rfl)) ((fU117 106 _ _ rfl).trans (hf_56 106 _ _ rfl))
        · refine bd_i (by omega) ?_
          refine x_nm (fun U121 hU121 => ?_)
          have e122 := up_f hU121
          intro b123 b123b
          have e124 : U121 109 0 2 = 2 := up_f hU121
          rw [e124] at b123 b123b ⊢
          refine (show po_X9_ask_e T c t U121 (some (vI 2)) from ?_)
          have e125 : U121 109 0 15 = T 109 0 15 := (up_j hU121 (by decide) 109 0).trans ((fU117 109 0 15 rfl).trans (hf_56 109 0 15 rfl))
          have e126 : U121 191 0 0 = T 191 0 0 := (up_k hU121 (by exact Nat.ne_of_beq_eq_false rfl) 0 0).trans ((fU117 191 0 0 rfl).trans (hf_56 191 0 0 rfl))
          have e127 : U121 109 0 15 = T 109 0 15 := (up_j hU121 (by decide) 109 0).trans ((fU117 109 0 15 rfl).trans (hf_56 109 0 15 rfl))
          have e128 : U121 191 0 0 = T 191 0 0 := (up_k hU121 (by exact Nat.ne_of_beq_eq_false rfl) 0 0).trans ((fU117 191 0 0 rfl).trans (hf_56 191 0 0 rfl))
          have e190 : ∀ x, U121 190 x (-2) = T 190 x (-2) := fun x => (up_k hU121 (by exact Nat.ne_of_beq_eq_false rfl) _ _).trans ((fU117 190 _ _ rfl).trans (hf_56 190 _ _ rfl))
          have f190 : ∀ x j, U121 190 x j = T 190 x j := fun x j => (up_k hU121 (by exact Nat.ne_of_beq_eq_false rfl) _ _).trans ((fU117 190 _ _ rfl).trans (hf_56 190 _ _ rfl))
          exact ⟨_, rfl, fr_u (fr_t (fr_t (fr_0 _ _) (fr_s hf_56 rfl)) (fr_s fU117 rfl)) hU121 rfl, by rw [e127, e190]; exact hsl, ⟨fun x j _ _ => f190 x j, by omega⟩, ⟨fun x _ => e190 x, by omega⟩, by omega⟩
  refine j_blx (F := fX9) tb_X9 (nn_ _) bk_X9_ask_e_0 bs_X9_ask_e_0 hz (fun K hK => ?_)
  refine hK 2 _ [vR 100 c, vR 109 0] T ?_
  refine j_putR (pc := 2) (ci := 9) (j := 5) (by decide) fr5_X9_54 rfl (by decide +kernel) (by omega) (by omega) (by omega) ?_
  refine j_nm (fun U129 hU129 => ?_)
  have e130 := up_f hU129
  show J_ zX9_ask T (po_X9_ask_e T c t) 1 4096 5 _ [] U129
  refine j_blx (F := fX9) tb_X9 (nn_ _) bk_X9_ask_e_5 bs_X9_ask_e_5 hz (fun K hK => ?_)
  refine bd_i (by omega) ?_
  refine x_nm (fun U131 hU131 => ?_)
  have e132 := up_f hU131
  refine hK 15 _ [vI (-1), vR 584 0] U131 ?_
  refine j_callS (y := yJ7_fill_53178) (Yc := zJ7_fill_53178) (rest := []) [vR 584 0, vI (-1)] (ct_J7_fill_584 (T := U131) (by omega)) cl_X9_48 (qd_c (by decide +kernel)) (nn_ _) rfl (rf_of rfl) (Nat.le_of_ble_eq_true rfl) (Nat.le_of_ble_eq_true rfl) (Nat.le_of_ble_eq_true rfl) rfl ?_
  rintro U133 _ ⟨rfl, fU133, qU133o, qU133⟩
  show J_ zX9_ask T (po_X9_ask_e T c t) 1 4096 18 _ [] U133
  refine j_blx (F := fX9) tb_X9 (nn_ _) bk_X9_ask_e_18 bs_X9_ask_e_18 hz (fun K hK => ?_)
  have e135 : U133 109 0 5 = c + 1 := (fU133 109 0 5 rfl).trans ((up_j hU131 (by decide) 109 0).trans (up_f hU129))
  refine And.intro (fun c134 => ?_) (fun c134 => ?_)
  · exact absurd c134 (by omega)
  · have z136 : U133 109 0 5 - 1 = c := by omega
    rw [z136]
    refine ix_i (by omega) ?_
    intro b137 b137b
    have e138 : U133 401 c 1 = T 401 c 1 := (fU133 401 c 1 rfl).trans ((up_k hU131 (by exact Nat.ne_of_beq_eq_false rfl) c 1).trans (up_k hU129 (by exact Nat.ne_of_beq_eq_false rfl) c 1))
    rw [e138] at b137 b137b ⊢
    have e140 : U133 109 0 5 = c + 1 := (fU133 109 0 5 rfl).trans ((up_j hU131 (by decide) 109 0).trans (up_f hU129))
    refine And.intro (fun c139 => ?_) (fun c139 => ?_)
    · exact absurd c139 (by omega)
    · have z141 : U133 109 0 5 - 1 = c := by omega
      rw [z141]
      refine ix_i (by omega) ?_
      intro b142 b142b
      have e143 : U133 401 c 3 = T 401 c 3 := (fU133 401 c 3 rfl).trans ((up_k hU131 (by exact Nat.ne_of_beq_eq_false rfl) c 3).trans (up_k hU129 (by exact Nat.ne_of_beq_eq_false rfl) c 3))
      rw [e143] at b142 b142b ⊢
      refine rg_i (by omega) ?_
      have e145 : U133 109 0 5 = c + 1 := (fU133 109 0 5 rfl).trans ((up_j hU131 (by decide) 109 0).trans (up_f hU129))
      refine And.intro (fun c144 => ?_) (fun c144 => ?_)
      · exact absurd c144 (by omega)
      · have z146 : U133 109 0 5 - 1 = c := by omega
        rw [z146]
        refine ix_i (by omega) ?_
        intro b147 b147b
        have e148 : U133 401 c 2 = T 401 c 2 := (fU133 401 c 2 rfl).trans ((up_k hU131 (by exact Nat.ne_of_beq_eq_false rfl) c 2).trans (up_k hU129 (by exact Nat.ne_of_beq_eq_false rfl) c 2))
        rw [e148] at b147 b147b ⊢
        refine rg_i (by omega) ?_
        refine And.intro (fun c149 => ?_) (fun c149 => ?_)
        · refine hK 55 _ [] U133 ?_
          refine j_blx (F := fX9) tb_X9 (nn_ _) bk_X9_ask_e_55 bs_X9_ask_e_55 hz (fun K hK => ?_)
          refine hK 56 _ [vI 0] U133 ?_
          have e150 : U133 109 0 5 = c + 1 := (fU133 109 0 5 rfl).trans ((up_j hU131 (by decide) 109 0).trans (up_f hU129))
          refine c_56 0 U133 ?_ ?_ ?_
          · exact fr_t (fr_u (fr_u (fr_0 _ _) hU129 rfl) hU131 rfl) (fr_s fU133 rfl)
          · omega
          · exact ((fU133 109 _ _ rfl).trans (up_j hU131 (by decide) _ _)).trans (up_f hU129)
        · refine hK 56 _ [vI 1] U133 ?_
          have e151 : U133 109 0 5 = c + 1 := (fU133 109 0 5 rfl).trans ((up_j hU131 (by decide) 109 0).trans (up_f hU129))
          refine c_56 1 U133 ?_ ?_ ?_
          · exact fr_t (fr_u (fr_u (fr_0 _ _) hU129 rfl) hU131 rfl) (fr_s fU133 rfl)
          · omega
          · exact ((fU133 109 _ _ rfl).trans (up_j hU131 (by decide) _ _)).trans (up_f hU129)
theorem bk_X10_can_e_0 : ck_ fX10 (some .int) cX10_can 0 [.aload 0, .iload 1] 2 = true := qck_r (nn_ _) (by decide +kernel)
theorem bs_X10_can_e_0 {P : Zt → Option Zv → Prop} (K : Int → Zl → List Zv → Zt → Prop) : sx_ K P [.aload 0, .iload 1] 2 = x_aload 0 (x_iload 1 (K 2)) := ((xe_aload 0).trans (congrArg (x_aload 0) ((xe_iload 1).trans (congrArg (x_iload 1) xe_nil))))
theorem bk_X10_can_e_5 : ck_ fX10 (some .int) cX10_can 5 [.ifCond .eq 16, .aload 0, .iload 2] 10 = true := qck_r (nn_ _) (by decide +kernel)
theorem bs_X10_can_e_5 {P : Zt → Option Zv → Prop} (K : Int → Zl → List Zv → Zt → Prop) : sx_ K P [.ifCond .eq 16, .aload 0, .iload 2] 10 = x_ifCond .eq 16 K (x_aload 0 (x_iload 2 (K 10))) := ((xe_ifCond .eq 16).trans (congrArg (x_ifCond .eq 16 K) ((xe_aload 0).trans (congrArg (x_aload 0) ((xe_iload 2).trans (congrArg (x_iload 2) xe_nil))))))
theorem bk_X10_can_e_16 : ck_ fX10 (some .int) cX10_can 16 [.iconst (-2), .ireturn] 19 = true := qck_r (nn_ _) (by decide +kernel)
theorem bs_X10_can_e_16 {P : Zt → Option Zv → Prop} (K : Int → Zl → List Zv → Zt → Prop) : sx_ K P [.iconst (-2), .ireturn] 19 = x_iconst (-2) (x_ireturn P) := ((xe_iconst (-2)).trans (congrArg (x_iconst (-2)) (xe_ireturn)))
theorem bk_X10_can_e_13 : ck_ fX10 (some .int) cX10_can 13 [.ifCond .ne 19, .iconst (-2), .ireturn] 19 = true := qck_r (nn_ _) (by decide +kernel)
theorem bs_X10_can_e_13 {P : Zt → Option Zv → Prop} (K : Int → Zl → List Zv → Zt → Prop) : sx_ K P [.ifCond .ne 19, .iconst (-2), .ireturn] 19 = x_ifCond .ne 19 K (x_iconst (-2) (x_ireturn P)) := ((xe_ifCond .ne 19).trans (congrArg (x_ifCond .ne 19 K) ((xe_iconst (-2)).trans (congrArg (x_iconst (-2)) (xe_ireturn)))))
theorem bk_X10_can_e_19 : ck_ fX10 (some .int) cX10_can 19 [.aload 0, .tableswitch 0 10 2 #[], .tableswitch 0 6 1 #[], .iload 1, .aaload, .astore 3, .aload 3, .tableswitch 0 0 4 #[], .iload 2, .iaload, .iconst (-1), .if_icmp .eq 46, .aload 3, .tableswitch 0 0 6 #[], .ifCond .ne 49, .iconst (-4), .ireturn] 49 = true := qck_r (nn_ _) (by decide +kernel)
theorem bs_X10_can_e_19 {P : Zt → Option Zv → Prop} (K : Int → Zl → List Zv → Zt → Prop) : sx_ K P [.aload 0, .tableswitch 0 10 2 #[], .tableswitch 0 6 1 #[], .iload 1, .aaload, .astore 3, .aload 3, .tableswitch 0 0 4 #[], .iload 2, .iaload, .iconst (-1), .if_icmp .eq 46, .aload 3, .tableswitch 0 0 6 #[], .ifCond .ne 49, .iconst (-4), .ireturn] 49 = x_aload 0 (x_g1 110 106 (x_g1 106 521 (x_iload 1 (x_aaload (x_astore 3 (x_aload 3 (x_g2 100 404 (x_iload 2 (x_iaload (x_iconst (-1) (x_if_icmp .eq 46 K (x_aload 3 (x_g0 100 6 0 1 (x_ifCond .ne 49 K (x_iconst (-4) (x_ireturn P)))))))))))))))) := ((xe_aload 0).trans (congrArg (x_aload 0) ((xe_g1 (kk := 110) rfl tl_10_2).trans (congrArg (x_g1 110 106) ((xe_g1 (kk := 106) rfl tl_6_1).trans (congrArg (x_g1 106 521) ((xe_iload 1).trans (congrArg (x_iload 1) ((xe_aaload).trans (congrArg (x_aaload) ((xe_astore 3).trans (congrArg (x_astore 3) ((xe_aload 3).trans (congrArg (x_aload 3) ((xe_g2 (kk := 100) rfl tl_0_4).trans (congrArg (x_g2 100 404) ((xe_iload 2).trans (congrArg (x_iload 2) ((xe_iaload).trans (congrArg (x_iaload) ((xe_iconst (-1)).trans (congrArg (x_iconst (-1)) ((xe_if_icmp .eq 46).trans (congrArg (x_if_icmp .eq 46 K) ((xe_aload 3).trans (congrArg (x_aload 3) ((xe_g0 (kk := 100) rfl tl_0_6).trans (congrArg (x_g0 100 6 0 1) ((xe_ifCond .ne 49).trans (congrArg (x_ifCond .ne 49 K) ((xe_iconst (-4)).trans (congrArg (x_iconst (-4)) (xe_ireturn)))))))))))))))))))))))))))))))))
theorem bk_X10_can_e_46 : ck_ fX10 (some .int) cX10_can 46 [.iconst (-4), .ireturn] 49 = true := qck_r (nn_ _) (by decide +kernel)
theorem bs_X10_can_e_46 {P : Zt → Option Zv → Prop} (K : Int → Zl → List Zv → Zt → Prop) : sx_ K P [.iconst (-4), .ireturn] 49 = x_iconst (-4) (x_ireturn P) := ((xe_iconst (-4)).trans (congrArg (x_iconst (-4)) (xe_ireturn)))
theorem bk_X10_can_e_49 : ck_ fX10 (some .int) cX10_can 49 [.aload 0, .tableswitch 0 10 4 #[], .aload 3, .aload 3, .tableswitch 0 0 4 #[], .iload 2, .iaload] 60 = true := qck_r (nn_ _) (by decide +kernel)
theorem bs_X10_can_e_49 {P : Zt → Option Zv → Prop} (K : Int → Zl → List Zv → Zt → Prop) : sx_ K P [.aload 0, .tableswitch 0 10 4 #[], .aload 3, .aload 3, .tableswitch 0 0 4 #[], .iload 2, .iaload] 60 = x_aload 0 (x_g1 110 109 (x_aload 3 (x_aload 3 (x_g2 100 404 (x_iload 2 (x_iaload (K 60))))))) := ((xe_aload 0).trans (congrArg (x_aload 0) ((xe_g1 (kk := 110) rfl tl_10_4).trans (congrArg (x_g1 110 109) ((xe_aload 3).trans (congrArg (x_aload 3) ((xe_aload 3).trans (congrArg (x_aload 3) ((xe_g2 (kk := 100) rfl tl_0_4).trans (congrArg (x_g2 100 404) ((xe_iload 2).trans (congrArg (x_iload 2) ((xe_iaload).trans (congrArg (x_iaload) xe_nil))))))))))))))
theorem bk_X10_can_e_63 : ck_ fX10 (some .int) cX10_can 63 [.ireturn] 64 = true := qck_r (nn_ _) (by decide +kernel)
theorem bs_X10_can_e_63 {P : Zt → Option Zv → Prop} (K : Int → Zl → List Zv → Zt → Prop) : sx_ K P [.ireturn] 64 = x_ireturn P := (xe_ireturn)
abbrev po_X10_can_e (T : Zt) (c b : Int) : Zt → Option Zv → Prop := fun T' r => ∃ x : Int, r = some (vI x) ∧ fr_ [(109, [5, 3, 9, 6, 2, 15]), (584, []), (588, []), (587, []), (591, []), (592, []), (590, []), (593, []), (594, []), (107, [1]), (542, []), (543, []), (544, []), (545, []), (546, []), (190, []), (191, [0])] T T' ∧ (T' 109 0 15 ≠ 0 → T' 190 (T' 109 0 15 - 1) (-2) = 4096 ∧ 1 ≤ T' 109 0 15) ∧ KPT_ T T' ∧ lh_ T T' ∧ T' 191 0 0 ≤ T 191 0 0 + 1
set_option maxHeartbeats 4000000 in
theorem ct_X10_can_e {T : Zt} {c b : Int} (hka : KA_ T) (hkm : KM_ T) (hkc : KC_ T) (hks : KS_ T) (hke : KE_ T) (hkw : KW_ T) (hsl : T 109 0 15 ≠ 0 → T 190 (T 109 0 15 - 1) (-2) = 4096 ∧ 1 ≤ T 109 0 15) (h9 : 0 ≤ T 191 0 0 ∧ T 191 0 0 ≤ 900000000) : Ct_ yX10_can zX10_can T [vR 110 0, vI c, vI b] (po_X10_can_e T c b) := by
  refine ct_of pn_10 rfl rfl (Nat.le_of_ble_eq_true rfl) (fun hT hav => ?_)
  have hr_c : -2147483648 ≤ c ∧ c ≤ 2147483647 := hav (vI c) (List.mem_cons_of_mem _ List.mem_cons_self)
  have hr_b : -2147483648 ≤ b ∧ b ≤ 2147483647 := hav (vI b) (List.mem_cons_of_mem _ (List.mem_cons_of_mem _ List.mem_cons_self))
  have hz : zX10_can.2.2.2.1 = some .boolean → ∀ (T' : Zt) (x : Int), po_X10_can_e T c b T' (some (vI x)) → 0 ≤ x ∧ x ≤ 1 := fun h => by cases h
  have hb_competitionCount : 0 ≤ T 106 0 2 ∧ T 106 0 2 ≤ 4 := bd_f hT 106 2 tl_6_2 0
  have hb_clubs : 0 ≤ T 108 0 2 ∧ T 108 0 2 ≤ 12 := bd_f hT 108 2 tl_8_2 0
  show J_ zX10_can T (po_X10_can_e T c b) 1 4096 0 [some (vR 110 0), some (vI c), some (vI b), none] [] T
  refine j_blx (F := fX10) tb_X10 (nn_ _) bk_X10_can_e_0 bs_X10_can_e_0 hz (fun K hK => ?_)
  refine hK 2 _ [vI c, vR 110 0] T ?_
  refine j_callV (y := yX10_isCompetition) (Yc := zX10_isCompetition) (rest := []) [vI c] (ct_X10_isCompetition (T := T)) cl_X10_107 (qd_c (by decide +kernel)) (nn_ _) rfl (rf_of rfl) (Nat.le_of_ble_eq_true rfl) (Nat.le_of_ble_eq_true rfl) (Nat.le_of_ble_eq_true rfl) rfl ?_
  rintro _ _ ⟨rfl, x1, rfl, hx1⟩
  show J_ zX10_can T (po_X10_can_e T c b) 1 4096 5 _ [vI x1] T
  refine j_blx (F := fX10) tb_X10 (nn_ _) bk_X10_can_e_5 bs_X10_can_e_5 hz (fun K hK => ?_)
  refine And.intro (fun c2 => ?_) (fun c2 => ?_)
  · replace hx1 := hx1.resolve_left (fun z => absurd (c2.symm.trans z.1) (by decide))
    clear c2
    refine hK 16 _ [] T ?_
    refine j_blx (F := fX10) tb_X10 (nn_ _) bk_X10_can_e_16 bs_X10_can_e_16 hz (fun K hK => ?_)
    refine (show po_X10_can_e T c b T (some (vI (-2))) from ?_)
    exact ⟨_, rfl, fr_0 _ _, hsl, kpt_r, lh_r, by omega⟩
  · replace hx1 := hx1.resolve_right (fun z => c2 z.1)
    clear c2
    refine hK 10 _ [vI b, vR 110 0] T ?_
    refine j_callV (y := yX10_isClub) (Yc := zX10_isClub) (rest := []) [vI b] (ct_X10_isClub (T := T)) cl_X10_137 (qd_c (by decide +kernel)) (nn_ _) rfl (rf_of rfl) (Nat.le_of_ble_eq_true rfl) (Nat.le_of_ble_eq_true rfl) (Nat.le_of_ble_eq_true rfl) rfl ?_
    rintro _ _ ⟨rfl, x3, rfl, hx3⟩
    show J_ zX10_can T (po_X10_can_e T c b) 1 4096 13 _ [vI x3] T
    refine j_blx (F := fX10) tb_X10 (nn_ _) bk_X10_can_e_13 bs_X10_can_e_13 hz (fun K hK => ?_)
    refine And.intro (fun c4 => ?_) (fun c4 => ?_)
    · replace hx3 := hx3.resolve_right (fun z => c4 z.1)
      clear c4
      refine hK 19 _ [] T ?_
      refine j_blx (F := fX10) tb_X10 (nn_ _) bk_X10_can_e_19 bs_X10_can_e_19 hz (fun K hK => ?_)
      refine ix_i (by omega) ?_
      refine And.intro (fun c5 => ?_) (fun c5 => ?_)
      · exact absurd (show T 521 0 c = 0 by omega) (hka.1 _ (by omega) (by omega))
      · refine ix_i (by omega) ?_
        intro b6 b6b
        refine And.intro (fun c7 => ?_) (fun c7 => ?_)
        · refine hK 46 [some (vR 110 0), some (vI c), some (vI b), some (vR 100 c)] [] T ?_
          refine j_blx (F := fX10) tb_X10 (nn_ _) bk_X10_can_e_46 bs_X10_can_e_46 hz (fun K hK => ?_)
          refine (show po_X10_can_e T c b T (some (vI (-4))) from ?_)
          exact ⟨_, rfl, fr_0 _ _, hsl, kpt_r, lh_r, by omega⟩
        · intro b8 b8b
          refine And.intro (fun c9 => ?_) (fun c9 => ?_)
          · refine hK 49 _ [] T ?_
            refine j_blx (F := fX10) tb_X10 (nn_ _) bk_X10_can_e_49 bs_X10_can_e_49 hz (fun K hK => ?_)
            refine ix_i (by omega) ?_
            intro b10 b10b
            refine hK 60 _ [vI (T 404 c b), vR 100 c, vR 109 0] T ?_
            refine j_callV (y := yX9_ask) (Yc := zX9_ask) (rest := []) [vR 100 c, vI (T 404 c b)] (ct_X9_ask_e (T := T) hka hkm hkc hks hke hkw hsl h9 (by omega) (by omega)) cl_X10_365 (qd_c (by decide +kernel)) (nn_ _) rfl (rf_of rfl) (Nat.le_of_ble_eq_true rfl) (Nat.le_of_ble_eq_true rfl) (Nat.le_of_ble_eq_true rfl) rfl ?_
            rintro U11 _ ⟨x12, rfl, fU11, slU11, kpU11, lhU11, mU11⟩
            show J_ zX10_can T (po_X10_can_e T c b) 0 0 63 _ [vI x12] U11
            refine j_blx (F := fX10) tb_X10 (nn_ _) bk_X10_can_e_63 bs_X10_can_e_63 hz (fun K hK => ?_)
            refine (show po_X10_can_e T c b U11 (some (vI x12)) from ?_)
            exact ⟨_, rfl, fU11, slU11, kpU11, lhU11, mU11⟩
          · refine (show po_X10_can_e T c b T (some (vI (-4))) from ?_)
            exact ⟨_, rfl, fr_0 _ _, hsl, kpt_r, lh_r, by omega⟩
    · replace hx3 := hx3.resolve_left (fun z => absurd (c4.symm.trans z.1) (by decide))
      clear c4
      refine (show po_X10_can_e T c b T (some (vI (-2))) from ?_)
      exact ⟨_, rfl, fr_0 _ _, hsl, kpt_r, lh_r, by omega⟩
-- the sheets under a plan, the number of a competition
/-- a new match comes with empty sheets -/
def SN8_ (T T' : Zt) : Prop := (∀ (k : Nat) (i j : Int), k = 448 ∨ k = 449 → i ≠ T 106 0 4 → T' k i j = T k i j) ∧ ∀ j, 0 ≤ j → T' 449 (T 106 0 4) j = 0
/-- the sheets: the old stay, the new are empty -/
def SQ8_ (T T' : Zt) : Prop := (∀ (k : Nat) (i j : Int), k = 448 ∨ k = 449 → i < T 106 0 4 → T' k i j = T k i j) ∧ ∀ i j, T 106 0 4 ≤ i → i < T' 106 0 4 → 0 ≤ j → T' 449 i j = 0
theorem sq8_r {T : Zt} : SQ8_ T T := ⟨fun _ _ _ _ _ => rfl, fun i j a b => by omega⟩
theorem sq8_t {T T1 T2 : Zt} (h : SQ8_ T T1) (g : SQ8_ T1 T2) (h4 : T 106 0 4 ≤ T1 106 0 4) (g4 : T1 106 0 4 ≤ T2 106 0 4) : SQ8_ T T2 := by
  refine ⟨fun k i j hk hi => (g.1 k i j hk (by omega)).trans (h.1 k i j hk hi), fun i j a b c => ?_⟩
  by_cases z : i < T1 106 0 4
  · rw [g.1 449 i j (Or.inr rfl) z]
    exact h.2 i j a z c
  · exact g.2 i j (by omega) b c
theorem sq8_f {T T1 T2 : Zt} {c hh a d : Int} {A B C D : Prop} (h : SQ8_ T T1) (h4 : T 106 0 4 ≤ T1 106 0 4) (q : (T2 = T1 ∧ A) ∨ (nm_ T1 T2 c hh a d ∧ B ∧ C ∧ D ∧ SN8_ T1 T2)) : SQ8_ T T2 := by
  rcases q with ⟨rfl, -⟩ | ⟨n, -, -, -, s⟩
  · exact h
  · have e := n.1.1
    refine ⟨fun k i j hk hi => (s.1 k i j hk (by omega)).trans (h.1 k i j hk hi), fun i j u v g => ?_⟩
    by_cases z : i = T1 106 0 4
    · rw [z]; exact s.2 j g
    · rw [s.1 449 i j (Or.inr rfl) z]
      exact h.2 i j u (by omega) g
theorem sq8_u {T T1 : Zt} {k : Nat} {i j v : Int} (u : T1 = up_ T k i j v) (c : k ≠ 448 ∧ k ≠ 449 ∧ k ≠ 106) : SQ8_ T T1 := by
  refine ⟨fun k' i' j' hk _ => up_g u (fun z => by omega), fun i' j' a b _ => ?_⟩
  have e : T1 106 0 4 = T 106 0 4 := up_g u (fun z => by omega)
  omega
/-- a new competition knows its number -/
def CNN_ (T T' : Zt) : Prop := T' 106 0 2 = T 106 0 2 ∨ T' 100 (T 106 0 2) 0 = T 106 0 2
theorem fw9_ {A N B C D E : Prop} (h : A ∨ (N ∧ B ∧ C ∧ D ∧ E)) : A ∨ (N ∧ B ∧ C ∧ D) := h.imp id (fun z => ⟨z.1, z.2.1, z.2.2.1, z.2.2.2.1⟩)
theorem bk_X6_addFixture_s_0 : ck_ fX6 none cX6_addFixture 0 [.iload 3, .aload 1, .tableswitch 0 0 5 #[], .if_icmp .ge 27, .iload 4, .aload 1, .tableswitch 0 0 5 #[], .if_icmp .ge 27, .aload 0, .tableswitch 0 6 4 #[], .iconst 400, .if_icmp .lt 28, .return_] 28 = true := qck_r (nn_ _) (by decide +kernel)
theorem bs_X6_addFixture_s_0 {P : Zt → Option Zv → Prop} (K : Int → Zl → List Zv → Zt → Prop) : sx_ K P [.iload 3, .aload 1, .tableswitch 0 0 5 #[], .if_icmp .ge 27, .iload 4, .aload 1, .tableswitch 0 0 5 #[], .if_icmp .ge 27, .aload 0, .tableswitch 0 6 4 #[], .iconst 400, .if_icmp .lt 28, .return_] 28 = x_iload 3 (x_aload 1 (x_g0 100 5 0 12 (x_if_icmp .ge 27 K (x_iload 4 (x_aload 1 (x_g0 100 5 0 12 (x_if_icmp .ge 27 K (x_aload 0 (x_g0 106 4 0 400 (x_iconst 400 (x_if_icmp .lt 28 K (x_return_ P)))))))))))) := ((xe_iload 3).trans (congrArg (x_iload 3) ((xe_aload 1).trans (congrArg (x_aload 1) ((xe_g0 (kk := 100) rfl tl_0_5).trans (congrArg (x_g0 100 5 0 12) ((xe_if_icmp .ge 27).trans (congrArg (x_if_icmp .ge 27 K) ((xe_iload 4).trans (congrArg (x_iload 4) ((xe_aload 1).trans (congrArg (x_aload 1) ((xe_g0 (kk := 100) rfl tl_0_5).trans (congrArg (x_g0 100 5 0 12) ((xe_if_icmp .ge 27).trans (congrArg (x_if_icmp .ge 27 K) ((xe_aload 0).trans (congrArg (x_aload 0) ((xe_g0 (kk := 106) rfl tl_6_4).trans (congrArg (x_g0 106 4 0 400) ((xe_iconst 400).trans (congrArg (x_iconst 400) ((xe_if_icmp .lt 28).trans (congrArg (x_if_icmp .lt 28 K) (xe_return_)))))))))))))))))))))))))
theorem bk_X6_addFixture_s_27 : ck_ fX6 none cX6_addFixture 27 [.return_] 28 = true := qck_r (nn_ _) (by decide +kernel)
theorem bs_X6_addFixture_s_27 {P : Zt → Option Zv → Prop} (K : Int → Zl → List Zv → Zt → Prop) : sx_ K P [.return_] 28 = x_return_ P := (xe_return_)
theorem bk_X6_addFixture_s_28 : ck_ fX6 none cX6_addFixture 28 [.aload 0, .tableswitch 0 6 3 #[], .aload 0, .tableswitch 0 6 4 #[]] 36 = true := qck_r (nn_ _) (by decide +kernel)
theorem bs_X6_addFixture_s_28 {P : Zt → Option Zv → Prop} (K : Int → Zl → List Zv → Zt → Prop) : sx_ K P [.aload 0, .tableswitch 0 6 3 #[], .aload 0, .tableswitch 0 6 4 #[]] 36 = x_aload 0 (x_g1 106 523 (x_aload 0 (x_g0 106 4 0 400 (K 36)))) := ((xe_aload 0).trans (congrArg (x_aload 0) ((xe_g1 (kk := 106) rfl tl_6_3).trans (congrArg (x_g1 106 523) ((xe_aload 0).trans (congrArg (x_aload 0) ((xe_g0 (kk := 106) rfl tl_6_4).trans (congrArg (x_g0 106 4 0 400) xe_nil))))))))
theorem bk_X6_addFixture_s_39 : ck_ fX6 none cX6_addFixture 39 [.dup, .aload 1, .aload 0, .tableswitch 0 6 4 #[], .iload 2, .aload 1, .tableswitch 0 0 3 #[], .iload 3, .iaload, .aload 1, .tableswitch 0 0 3 #[], .iload 4, .iaload, .iload 5] 61 = true := qck_r (nn_ _) (by decide +kernel)
theorem bs_X6_addFixture_s_39 {P : Zt → Option Zv → Prop} (K : Int → Zl → List Zv → Zt → Prop) : sx_ K P [.dup, .aload 1, .aload 0, .tableswitch 0 6 4 #[], .iload 2, .aload 1, .tableswitch 0 0 3 #[], .iload 3, .iaload, .aload 1, .tableswitch 0 0 3 #[], .iload 4, .iaload, .iload 5] 61 = x_dup (x_aload 1 (x_aload 0 (x_g0 106 4 0 400 (x_iload 2 (x_aload 1 (x_g2 100 403 (x_iload 3 (x_iaload (x_aload 1 (x_g2 100 403 (x_iload 4 (x_iaload (x_iload 5 (K 61)))))))))))))) := ((xe_dup).trans (congrArg (x_dup) ((xe_aload 1).trans (congrArg (x_aload 1) ((xe_aload 0).trans (congrArg (x_aload 0) ((xe_g0 (kk := 106) rfl tl_6_4).trans (congrArg (x_g0 106 4 0 400) ((xe_iload 2).trans (congrArg (x_iload 2) ((xe_aload 1).trans (congrArg (x_aload 1) ((xe_g2 (kk := 100) rfl tl_0_3).trans (congrArg (x_g2 100 403) ((xe_iload 3).trans (congrArg (x_iload 3) ((xe_iaload).trans (congrArg (x_iaload) ((xe_aload 1).trans (congrArg (x_aload 1) ((xe_g2 (kk := 100) rfl tl_0_3).trans (congrArg (x_g2 100 403) ((xe_iload 4).trans (congrArg (x_iload 4) ((xe_iaload).trans (congrArg (x_iaload) ((xe_iload 5).trans (congrArg (x_iload 5) xe_nil))))))))))))))))))))))))))))
theorem bk_X6_addFixture_s_65 : ck_ fX6 none cX6_addFixture 65 [.aload 0, .dup, .tableswitch 0 6 4 #[], .iconst 1, .iadd, .tableswitch 1 6 4 #[], .return_] 76 = true := qck_r (nn_ _) (by decide +kernel)
theorem bs_X6_addFixture_s_65 {P : Zt → Option Zv → Prop} (K : Int → Zl → List Zv → Zt → Prop) : sx_ K P [.aload 0, .dup, .tableswitch 0 6 4 #[], .iconst 1, .iadd, .tableswitch 1 6 4 #[], .return_] 76 = x_aload 0 (x_dup (x_g0 106 4 0 400 (x_iconst 1 (x_iadd (x_p 106 4 0 400 (x_return_ P)))))) := ((xe_aload 0).trans (congrArg (x_aload 0) ((xe_dup).trans (congrArg (x_dup) ((xe_g0 (kk := 106) rfl tl_6_4).trans (congrArg (x_g0 106 4 0 400) ((xe_iconst 1).trans (congrArg (x_iconst 1) ((xe_iadd).trans (congrArg (x_iadd) ((xe_p (kk := 106) rfl tl_6_4).trans (congrArg (x_p 106 4 0 400) (xe_return_)))))))))))))
abbrev po_X6_addFixture_s (T : Zt) (c : Int) (u h a d : Int) : Zt → Option Zv → Prop := fun T' r => r = none ∧ fr_ [(106, [4]), (523, []), (152, []), (102, []), (448, []), (449, [])] T T' ∧ ((T' = T ∧ (T 100 c 5 ≤ h ∨ T 100 c 5 ≤ a ∨ 400 ≤ T 106 0 4)) ∨ (nm_ T T' c h a d ∧ T' 102 (T 106 0 4) 2 = u ∧ T' 102 (T 106 0 4) 6 = -1 ∧ T' 102 (T 106 0 4) 7 = -1 ∧ SN8_ T T'))
set_option maxHeartbeats 4000000 in
theorem ct_X6_addFixture_s {T : Zt} {c : Int} {u h a d : Int} (hc : 0 ≤ c ∧ c ≤ 3) (hh : 0 ≤ h ∧ 0 ≤ a ∧ 0 ≤ d ∧ d ≤ 999) (hna : NA_ T) : Ct_ yX6_addFixture zX6_addFixture T [vR 106 0, vR 100 c, vI u, vI h, vI a, vI d] (po_X6_addFixture_s T c u h a d) := by
  refine ct_of pn_6 rfl rfl (Nat.le_of_ble_eq_true rfl) (fun hT hav => ?_)
  have hr_u : -2147483648 ≤ u ∧ u ≤ 2147483647 := hav (vI u) (List.mem_cons_of_mem _ (List.mem_cons_of_mem _ List.mem_cons_self))
  have hr_h : -2147483648 ≤ h ∧ h ≤ 2147483647 := hav (vI h) (List.mem_cons_of_mem _ (List.mem_cons_of_mem _ (List.mem_cons_of_mem _ List.mem_cons_self)))
  have hr_a : -2147483648 ≤ a ∧ a ≤ 2147483647 := hav (vI a) (List.mem_cons_of_mem _ (List.mem_cons_of_mem _ (List.mem_cons_of_mem _ (List.mem_cons_of_mem _ List.mem_cons_self))))
  have hr_d : -2147483648 ≤ d ∧ d ≤ 2147483647 := hav (vI d) (List.mem_cons_of_mem _ (List.mem_cons_of_mem _ (List.mem_cons_of_mem _ (List.mem_cons_of_mem _ (List.mem_cons_of_mem _ List.mem_cons_self)))))
  have hz : zX6_addFixture.2.2.2.1 = some .boolean → ∀ (T' : Zt) (x : Int), po_X6_addFixture_s T c u h a d T' (some (vI x)) → 0 ≤ x ∧ x ≤ 1 := fun h => by cases h
  have hb_matchCount : 0 ≤ T 106 0 4 ∧ T 106 0 4 ≤ 400 := bd_f hT 106 4 tl_6_4 0
  have hb5 : 0 ≤ T 100 c 5 ∧ T 100 c 5 ≤ 12 := bd_f hT 100 5 tl_0_5 c
  show J_ zX6_addFixture T (po_X6_addFixture_s T c u h a d) 3 34 0 [some (vR 106 0), some (vR 100 c), some (vI u), some (vI h), some (vI a), some (vI d)] [] T
  refine j_blx (F := fX6) tb_X6 (nn_ _) bk_X6_addFixture_s_0 bs_X6_addFixture_s_0 hz (fun K hK => ?_)
  intro b1 b1b
  refine And.intro (fun c2 => ?_) (fun c2 => ?_)
  · refine hK 27 _ [] T ?_
    refine j_blx (F := fX6) tb_X6 (nn_ _) bk_X6_addFixture_s_27 bs_X6_addFixture_s_27 hz (fun K hK => ?_)
    refine (show po_X6_addFixture_s T c u h a d T (none) from ?_)
    exact ⟨rfl, fr_0 _ _, Or.inl ⟨rfl, by omega⟩⟩
  · intro b3 b3b
    refine And.intro (fun c4 => ?_) (fun c4 => ?_)
    · refine hK 27 _ [] T ?_
      refine j_blx (F := fX6) tb_X6 (nn_ _) bk_X6_addFixture_s_27 bs_X6_addFixture_s_27 hz (fun K hK => ?_)
      refine (show po_X6_addFixture_s T c u h a d T (none) from ?_)
      exact ⟨rfl, fr_0 _ _, Or.inl ⟨rfl, by omega⟩⟩
    · intro b5 b5b
      refine And.intro (fun c6 => ?_) (fun c6 => ?_)
      · refine hK 28 _ [] T ?_
        refine j_blx (F := fX6) tb_X6 (nn_ _) bk_X6_addFixture_s_28 bs_X6_addFixture_s_28 hz (fun K hK => ?_)
        intro b7 b7b
        refine hK 36 _ [vI (T 106 0 4), vR 523 0] T ?_
        refine j_newO (bc' := 2) (bs' := 23) (pc := 36) (ci := 2) (i := T 106 0 4) (by decide) (by decide) vi_2 tyX2_ok (nf_2 _) (lwq_1 (dqc_m (dqc_m (dqc_m (dqc_m (dqa_m (dqa_m (List.mem_of_getElem? (i := 0) rfl))))))) rfl : Cond.classLink RX6 17 RX2 ∈ lw_g) (lwq_3 (dqc_m (dqc_m (dqc_m (dqc_m (dqc_m (dqc_m (dqa_m (dqa_m (dqa_m (List.mem_of_getElem? (i := 5) rfl)))))))))) rfl : Cond.instantiable RX2 11 ∈ lw_g) (lwq_1 (dqa_m (dqa_m (List.mem_of_getElem? (i := 0) rfl))) rfl : Cond.initialized RX2 ∈ lw_g) (hna.1.2.1 _) (by omega) (by omega) (by decide +kernel) ?_
        refine j_nm (fun U8 hU8 => ?_)
        have fU8 := nu_fr hU8
        have zU8 := nu_tz hU8
        have oU8 := nu_to hU8
        have vU8 := nu_tv hU8
        show J_ zX6_addFixture T (po_X6_addFixture_s T c u h a d) 2 23 39 _ [vR 152 (T 106 0 4), vI (T 106 0 4), vR 523 0] U8
        refine j_blx (F := fX6) tb_X6 (nn_ _) bk_X6_addFixture_s_39 bs_X6_addFixture_s_39 hz (fun K hK => ?_)
        intro b9 b9b
        have e10 : U8 106 0 4 = T 106 0 4 := fU8 106 0 4 rfl
        rw [e10] at b9 b9b ⊢
        refine ix_i (by omega) ?_
        intro b11 b11b
        have e12 : U8 403 c h = T 403 c h := fU8 403 c h rfl
        rw [e12] at b11 b11b ⊢
        refine ix_i (by omega) ?_
        intro b13 b13b
        have e14 : U8 403 c a = T 403 c a := fU8 403 c a rfl
        rw [e14] at b13 b13b ⊢
        refine hK 61 _ [vI d, vI (T 403 c a), vI (T 403 c h), vI u, vI (T 106 0 4), vR 100 c, vR 152 (T 106 0 4), vR 152 (T 106 0 4), vI (T 106 0 4), vR 523 0] U8 ?_
        have hv1 : ∀ k : Nat, ow_ k = some 102 → ¬ T k (T 106 0 4) (-1) = 1 := fun k hk h => (hT.2.2.2.2.2.2.2.1 k _ 102 hk h).elim (hna.2.2.1 _ (by omega)) (hna.1.2.1 _)
        have e15 : U8 448 (T 106 0 4) (-1) = T 448 (T 106 0 4) (-1) := fU8 448 (T 106 0 4) (-1) rfl
        have e16 : U8 449 (T 106 0 4) (-1) = T 449 (T 106 0 4) (-1) := fU8 449 (T 106 0 4) (-1) rfl
        refine j_callI (y := yX2_init) (Yc := zX2_init) (rest := [vR 152 (T 106 0 4), vI (T 106 0 4), vR 523 0]) [vR 100 c, vI (T 106 0 4), vI u, vI (T 403 c h), vI (T 403 c a), vI d] (ct_X2_init (T := U8) (by omega) (by rw [e15]; exact hv1 448 (by decide)) (by rw [e16]; exact hv1 449 (by decide))) ci_X6_85 (qd_c (by decide +kernel)) (nn_ _) rfl (rf_of rfl) (Nat.le_of_ble_eq_true rfl) (Nat.le_of_ble_eq_true rfl) (Nat.le_of_ble_eq_true rfl) rfl ?_
        rintro U17 _ ⟨rfl, fU17, qU17o, ⟨t0U17, t1U17, t2U17, t3U17, t4U17, t5U17⟩, ⟨t6U17, t7U17, t8U17, t9U17, t10U17⟩, z8U17, z9U17⟩
        show J_ zX6_addFixture T (po_X6_addFixture_s T c u h a d) 0 0 64 _ [vR 152 (T 106 0 4), vI (T 106 0 4), vR 523 0] U17
        refine j_ok (fun gt2 _ => ?_)
        have e19 : U17 102 (T 106 0 4) (-1) = T 102 (T 106 0 4) (-1) := (fU17 102 (T 106 0 4) (-1) rfl).trans (fU8 102 (T 106 0 4) (-1) rfl)
        refine j_conv (k := 102) (i := T 106 0 4) (g := g2_ U17 (T 106 0 4)) (by decide) (by show ¬ U17 102 (T 106 0 4) (-1) = 1; rw [e19]; exact hna.2.2.1 _ (by omega)) (hna.1.2.1 _) (cg_2 gt2 (by omega) (by omega) t8U17 t9U17 (t10U17.trans (zU8 10 (by decide)))) rfl rfl ?_
        refine j_nm (fun U20 hU20 => ?_)
        have fU20 := cw_fr hU20
        have sU20 := cw_ts hU20
        have oU20 := cw_to hU20
        have rU20 := cw_r hU20
        show J_ zX6_addFixture T (po_X6_addFixture_s T c u h a d) 0 0 64 _ [vR 102 (T 106 0 4), vI (T 106 0 4), vR 523 0] U20
        refine j_aast (pc := 64) (by decide) (by decide) (by decide +kernel : ta_ 523 = some (5, some 400, 0, 1)) (by decide +kernel) (by omega) (by show _ < (400 : Int); omega) (by decide) ?_
        refine j_nm (fun U21 hU21 => ?_)
        have e22 := up_f hU21
        show J_ zX6_addFixture T (po_X6_addFixture_s T c u h a d) 0 0 65 _ [] U21
        refine j_blx (F := fX6) tb_X6 (nn_ _) bk_X6_addFixture_s_65 bs_X6_addFixture_s_65 hz (fun K hK => ?_)
        intro b23 b23b
        have e24 : U21 106 0 4 = T 106 0 4 := (up_k hU21 (by exact Nat.ne_of_beq_eq_false rfl) 0 4).trans ((fU20 106 0 4 rfl).trans ((fU17 106 0 4 rfl).trans (fU8 106 0 4 rfl)))
        rw [e24] at b23 b23b ⊢
        refine rg_i (by omega) ?_
        refine bd_i (by omega) ?_
        refine x_nm (fun U25 hU25 => ?_)
        have e26 := up_f hU25
        refine (show po_X6_addFixture_s T c u h a d U25 (none) from ?_)
        have w0 : U20 102 (T 106 0 4) 0 = U17 152 (T 106 0 4) 0 - 1 := (sU20 0 (by decide)).trans (by unfold g2_; rw [if_pos (by decide)])
        have w1 : U20 102 (T 106 0 4) 1 = U17 152 (T 106 0 4) 1 := (sU20 1 (by decide)).trans (by unfold g2_; rw [if_neg (by decide)])
        have w2 : U20 102 (T 106 0 4) 2 = U17 152 (T 106 0 4) 2 := (sU20 2 (by decide)).trans (by unfold g2_; rw [if_neg (by decide)])
        have w3 : U20 102 (T 106 0 4) 3 = U17 152 (T 106 0 4) 3 := (sU20 3 (by decide)).trans (by unfold g2_; rw [if_neg (by decide)])
        have w4 : U20 102 (T 106 0 4) 4 = U17 152 (T 106 0 4) 4 := (sU20 4 (by decide)).trans (by unfold g2_; rw [if_neg (by decide)])
        have w5 : U20 102 (T 106 0 4) 5 = U17 152 (T 106 0 4) 5 := (sU20 5 (by decide)).trans (by unfold g2_; rw [if_neg (by decide)])
        have w6 : U20 102 (T 106 0 4) 6 = U17 152 (T 106 0 4) 6 := (sU20 6 (by decide)).trans (by unfold g2_; rw [if_neg (by decide)])
        have w7 : U20 102 (T 106 0 4) 7 = U17 152 (T 106 0 4) 7 := (sU20 7 (by decide)).trans (by unfold g2_; rw [if_neg (by decide)])
        have w10 : U20 102 (T 106 0 4) 10 = U17 152 (T 106 0 4) 10 := (sU20 10 (by decide)).trans (by unfold g2_; rw [if_neg (by decide)])
        have y10 : U8 152 (T 106 0 4) 10 = 0 := zU8 10 (by decide)
        have u0 : U25 102 (T 106 0 4) 0 = U20 102 (T 106 0 4) 0 := (up_k hU25 (by exact Nat.ne_of_beq_eq_false rfl) _ _).trans (up_k hU21 (by exact Nat.ne_of_beq_eq_false rfl) _ _)
        have u1 : U25 102 (T 106 0 4) 1 = U20 102 (T 106 0 4) 1 := (up_k hU25 (by exact Nat.ne_of_beq_eq_false rfl) _ _).trans (up_k hU21 (by exact Nat.ne_of_beq_eq_false rfl) _ _)
        have u2 : U25 102 (T 106 0 4) 2 = U20 102 (T 106 0 4) 2 := (up_k hU25 (by exact Nat.ne_of_beq_eq_false rfl) _ _).trans (up_k hU21 (by exact Nat.ne_of_beq_eq_false rfl) _ _)
        have u3 : U25 102 (T 106 0 4) 3 = U20 102 (T 106 0 4) 3 := (up_k hU25 (by exact Nat.ne_of_beq_eq_false rfl) _ _).trans (up_k hU21 (by exact Nat.ne_of_beq_eq_false rfl) _ _)
        have u4 : U25 102 (T 106 0 4) 4 = U20 102 (T 106 0 4) 4 := (up_k hU25 (by exact Nat.ne_of_beq_eq_false rfl) _ _).trans (up_k hU21 (by exact Nat.ne_of_beq_eq_false rfl) _ _)
        have u5 : U25 102 (T 106 0 4) 5 = U20 102 (T 106 0 4) 5 := (up_k hU25 (by exact Nat.ne_of_beq_eq_false rfl) _ _).trans (up_k hU21 (by exact Nat.ne_of_beq_eq_false rfl) _ _)
        have u6 : U25 102 (T 106 0 4) 6 = U20 102 (T 106 0 4) 6 := (up_k hU25 (by exact Nat.ne_of_beq_eq_false rfl) _ _).trans (up_k hU21 (by exact Nat.ne_of_beq_eq_false rfl) _ _)
        have u7 : U25 102 (T 106 0 4) 7 = U20 102 (T 106 0 4) 7 := (up_k hU25 (by exact Nat.ne_of_beq_eq_false rfl) _ _).trans (up_k hU21 (by exact Nat.ne_of_beq_eq_false rfl) _ _)
        have u10 : U25 102 (T 106 0 4) 10 = U20 102 (T 106 0 4) 10 := (up_k hU25 (by exact Nat.ne_of_beq_eq_false rfl) _ _).trans (up_k hU21 (by exact Nat.ne_of_beq_eq_false rfl) _ _)
        have d1 : U25 106 0 4 = T 106 0 4 + 1 := by omega
        have d2 : ∀ (k : Nat) (i j : Int), k = 102 ∨ k = 152 → i ≠ T 106 0 4 → U25 k i j = T k i j := fun k i j hk hi => (up_g hU25 (fun z => by omega)).trans ((up_g hU21 (fun z => by omega)).trans ((oU20 k i j hi).trans ((qU17o k i j hi).trans (oU8 k i j (fun z => hi z.2)))))
        have d3 : ∀ j, j ≠ T 106 0 4 → U25 523 0 j = T 523 0 j := fun j hj => (up_k hU25 (by exact Nat.ne_of_beq_eq_false rfl) _ _).trans ((up_g hU21 (fun z => hj z.2.2)).trans ((fU20 523 _ _ rfl).trans ((fU17 523 _ _ rfl).trans (fU8 523 _ _ rfl))))
        have d4 : U25 523 0 (T 106 0 4) = 1 := (up_k hU25 (by exact Nat.ne_of_beq_eq_false rfl) _ _).trans (up_f hU21)
        have d5 : ∀ i, U25 150 i (-1) = T 150 i (-1) := fun i => (up_k hU25 (by exact Nat.ne_of_beq_eq_false rfl) _ _).trans ((up_k hU21 (by exact Nat.ne_of_beq_eq_false rfl) _ _).trans ((fU20 150 _ _ rfl).trans ((fU17 150 _ _ rfl).trans (fU8 150 _ _ rfl))))
        have d6 : ∀ i, U25 153 i (-1) = T 153 i (-1) := fun i => (up_k hU25 (by exact Nat.ne_of_beq_eq_false rfl) _ _).trans ((up_k hU21 (by exact Nat.ne_of_beq_eq_false rfl) _ _).trans ((fU20 153 _ _ rfl).trans ((fU17 153 _ _ rfl).trans (fU8 153 _ _ rfl))))
        have d7 : ∀ i, U25 100 i (-1) = T 100 i (-1) := fun i => (up_k hU25 (by exact Nat.ne_of_beq_eq_false rfl) _ _).trans ((up_k hU21 (by exact Nat.ne_of_beq_eq_false rfl) _ _).trans ((fU20 100 _ _ rfl).trans ((fU17 100 _ _ rfl).trans (fU8 100 _ _ rfl))))
        have d8 : ∀ i, U25 103 i (-1) = T 103 i (-1) := fun i => (up_k hU25 (by exact Nat.ne_of_beq_eq_false rfl) _ _).trans ((up_k hU21 (by exact Nat.ne_of_beq_eq_false rfl) _ _).trans ((fU20 103 _ _ rfl).trans ((fU17 103 _ _ rfl).trans (fU8 103 _ _ rfl))))
        have d9 : U25 152 (T 106 0 4) (-1) = U20 152 (T 106 0 4) (-1) := (up_k hU25 (by exact Nat.ne_of_beq_eq_false rfl) _ _).trans (up_k hU21 (by exact Nat.ne_of_beq_eq_false rfl) _ _)
        have sn9 : SN8_ T U25 := ⟨fun k i j hk hi => (up_g hU25 (fun z => by omega)).trans ((up_g hU21 (fun z => by omega)).trans ((oU20 k i j hi).trans ((qU17o k i j hi).trans (oU8 k i j (fun z => hi z.2))))), fun j hj => (up_k hU25 (by exact Nat.ne_of_beq_eq_false rfl) _ _).trans ((up_k hU21 (by exact Nat.ne_of_beq_eq_false rfl) _ _).trans ((fU20 449 _ _ rfl).trans (z9U17 j hj)))⟩
        have e27 : U25 106 0 2 = T 106 0 2 := (up_j hU25 (by decide) 106 0).trans ((up_k hU21 (by exact Nat.ne_of_beq_eq_false rfl) 0 2).trans ((fU20 106 0 2 rfl).trans ((fU17 106 0 2 rfl).trans (fU8 106 0 2 rfl))))
        have n2 : NA_ U25 := by
          refine ⟨⟨fun i => by rw [d5]; exact hna.1.1 i, fun i => ?_, fun i => by rw [d6]; exact hna.1.2.2 i⟩, fun i hi => by rw [d7]; exact hna.2.1 i (by omega), fun i hi => ?_, fun i hi => ?_⟩
          · by_cases z : i = T 106 0 4
            · rw [z, d9]; exact rU20
            · rw [d2 152 i (-1) (Or.inr rfl) z]; exact hna.1.2.1 i
          · rw [d2 102 i (-1) (Or.inl rfl) (by omega)]; exact hna.2.2.1 i (by omega)
          · rw [d8]
            by_cases z : i = T 106 0 4
            · exact hna.2.2.2 i (by omega)
            · rw [d2 102 i 10 (Or.inl rfl) z] at hi; exact hna.2.2.2 i (by omega)
        exact ⟨rfl, fr_u (fr_u (fr_t (fr_t (fr_t (fr_0 _ _) (fr_s fU8 rfl)) (fr_s fU17 rfl)) (fr_s fU20 rfl)) hU21 rfl) hU25 rfl, Or.inr ⟨⟨⟨d1, by omega, by omega, by omega⟩, d2, d3, d4, ⟨by omega, by omega, by omega, by omega, by omega, by omega⟩, n2⟩, by omega, by omega, by omega, sn9⟩⟩
      · refine (show po_X6_addFixture_s T c u h a d T (none) from ?_)
        exact ⟨rfl, fr_0 _ _, Or.inl ⟨rfl, by omega⟩⟩
theorem bk_X6_addRound_s_111 : ck_ fX6 none cX6_addRound 111 [.istore 11, .aload 0, .aload 1, .iload 2, .iload 11, .ifCond .eq 126, .iload 9, .goto 128] 126 = true := qck_r (nn_ _) (by decide +kernel)
theorem bs_X6_addRound_s_111 {P : Zt → Option Zv → Prop} (K : Int → Zl → List Zv → Zt → Prop) : sx_ K P [.istore 11, .aload 0, .aload 1, .iload 2, .iload 11, .ifCond .eq 126, .iload 9, .goto 128] 126 = x_istore 11 (x_aload 0 (x_aload 1 (x_iload 2 (x_iload 11 (x_ifCond .eq 126 K (x_iload 9 (x_goto 128 K))))))) := ((xe_istore 11).trans (congrArg (x_istore 11) ((xe_aload 0).trans (congrArg (x_aload 0) ((xe_aload 1).trans (congrArg (x_aload 1) ((xe_iload 2).trans (congrArg (x_iload 2) ((xe_iload 11).trans (congrArg (x_iload 11) ((xe_ifCond .eq 126).trans (congrArg (x_ifCond .eq 126 K) ((xe_iload 9).trans (congrArg (x_iload 9) (xe_goto 128)))))))))))))))
theorem bk_X6_addRound_s_126 : ck_ fX6 none cX6_addRound 126 [.iload 10, .iload 11, .ifCond .eq 138, .iload 10, .goto 140] 138 = true := qck_r (nn_ _) (by decide +kernel)
theorem bs_X6_addRound_s_126 {P : Zt → Option Zv → Prop} (K : Int → Zl → List Zv → Zt → Prop) : sx_ K P [.iload 10, .iload 11, .ifCond .eq 138, .iload 10, .goto 140] 138 = x_iload 10 (x_iload 11 (x_ifCond .eq 138 K (x_iload 10 (x_goto 140 K)))) := ((xe_iload 10).trans (congrArg (x_iload 10) ((xe_iload 11).trans (congrArg (x_iload 11) ((xe_ifCond .eq 138).trans (congrArg (x_ifCond .eq 138 K) ((xe_iload 10).trans (congrArg (x_iload 10) (xe_goto 140)))))))))
theorem bk_X6_addRound_s_138 : ck_ fX6 none cX6_addRound 138 [.iload 9, .iload 5] 142 = true := qck_r (nn_ _) (by decide +kernel)
theorem bs_X6_addRound_s_138 {P : Zt → Option Zv → Prop} (K : Int → Zl → List Zv → Zt → Prop) : sx_ K P [.iload 9, .iload 5] 142 = x_iload 9 (x_iload 5 (K 142)) := ((xe_iload 9).trans (congrArg (x_iload 9) ((xe_iload 5).trans (congrArg (x_iload 5) xe_nil))))
theorem bk_X6_addRound_s_145 : ck_ fX6 none cX6_addRound 145 [.iinc 8 1, .goto 58] 151 = true := qck_r (nn_ _) (by decide +kernel)
theorem bs_X6_addRound_s_145 {P : Zt → Option Zv → Prop} (K : Int → Zl → List Zv → Zt → Prop) : sx_ K P [.iinc 8 1, .goto 58] 151 = x_iinc 8 1 (x_goto 58 K) := ((xe_iinc 8 1).trans (congrArg (x_iinc 8 1) (xe_goto 58)))
theorem bk_X6_addRound_s_128 : ck_ fX6 none cX6_addRound 128 [.iload 11, .ifCond .eq 138, .iload 10, .goto 140] 138 = true := qck_r (nn_ _) (by decide +kernel)
theorem bs_X6_addRound_s_128 {P : Zt → Option Zv → Prop} (K : Int → Zl → List Zv → Zt → Prop) : sx_ K P [.iload 11, .ifCond .eq 138, .iload 10, .goto 140] 138 = x_iload 11 (x_ifCond .eq 138 K (x_iload 10 (x_goto 140 K))) := ((xe_iload 11).trans (congrArg (x_iload 11) ((xe_ifCond .eq 138).trans (congrArg (x_ifCond .eq 138 K) ((xe_iload 10).trans (congrArg (x_iload 10) (xe_goto 140)))))))
theorem bk_X6_addRound_s_140 : ck_ fX6 none cX6_addRound 140 [.iload 5] 142 = true := qck_r (nn_ _) (by decide +kernel)
theorem bs_X6_addRound_s_140 {P : Zt → Option Zv → Prop} (K : Int → Zl → List Zv → Zt → Prop) : sx_ K P [.iload 5] 142 = x_iload 5 (K 142) := ((xe_iload 5).trans (congrArg (x_iload 5) xe_nil))
theorem bk_X6_addRound_s_58 : ck_ fX6 none cX6_addRound 58 [.iload 8, .iload 6, .iconst 2, .idiv, .if_icmp .gt 151, .iload 3, .iload 8, .iadd, .iload 6, .irem, .istore 9, .iload 3, .iload 8, .isub, .iload 6, .iadd, .iload 6, .irem, .istore 10, .iload 8, .iconst 1, .iand, .iconst 1, .if_icmp .ne 100, .iconst 1, .goto 101] 100 = true := qck_r (nn_ _) (by decide +kernel)
theorem bs_X6_addRound_s_58 {P : Zt → Option Zv → Prop} (K : Int → Zl → List Zv → Zt → Prop) : sx_ K P [.iload 8, .iload 6, .iconst 2, .idiv, .if_icmp .gt 151, .iload 3, .iload 8, .iadd, .iload 6, .irem, .istore 9, .iload 3, .iload 8, .isub, .iload 6, .iadd, .iload 6, .irem, .istore 10, .iload 8, .iconst 1, .iand, .iconst 1, .if_icmp .ne 100, .iconst 1, .goto 101] 100 = x_iload 8 (x_iload 6 (x_iconst 2 (x_idiv (x_if_icmp .gt 151 K (x_iload 3 (x_iload 8 (x_iadd (x_iload 6 (x_irem (x_istore 9 (x_iload 3 (x_iload 8 (x_isub (x_iload 6 (x_iadd (x_iload 6 (x_irem (x_istore 10 (x_iload 8 (x_iconst 1 (x_iand (x_iconst 1 (x_if_icmp .ne 100 K (x_iconst 1 (x_goto 101 K))))))))))))))))))))))))) := ((xe_iload 8).trans (congrArg (x_iload 8) ((xe_iload 6).trans (congrArg (x_iload 6) ((xe_iconst 2).trans (congrArg (x_iconst 2) ((xe_idiv).trans (congrArg (x_idiv) ((xe_if_icmp .gt 151).trans (congrArg (x_if_icmp .gt 151 K) ((xe_iload 3).trans (congrArg (x_iload 3) ((xe_iload 8).trans (congrArg (x_iload 8) ((xe_iadd).trans (congrArg (x_iadd) ((xe_iload 6).trans (congrArg (x_iload 6) ((xe_irem).trans (congrArg (x_irem) ((xe_istore 9).trans (congrArg (x_istore 9) ((xe_iload 3).trans (congrArg (x_iload 3) ((xe_iload 8).trans (congrArg (x_iload 8) ((xe_isub).trans (congrArg (x_isub) ((xe_iload 6).trans (congrArg (x_iload 6) ((xe_iadd).trans (congrArg (x_iadd) ((xe_iload 6).trans (congrArg (x_iload 6) ((xe_irem).trans (congrArg (x_irem) ((xe_istore 10).trans (congrArg (x_istore 10) ((xe_iload 8).trans (congrArg (x_iload 8) ((xe_iconst 1).trans (congrArg (x_iconst 1) ((xe_iand).trans (congrArg (x_iand) ((xe_iconst 1).trans (congrArg (x_iconst 1) ((xe_if_icmp .ne 100).trans (congrArg (x_if_icmp .ne 100 K) ((xe_iconst 1).trans (congrArg (x_iconst 1) (xe_goto 101)))))))))))))))))))))))))))))))))))))))))))))))))))
theorem bk_X6_addRound_s_151 : ck_ fX6 none cX6_addRound 151 [.return_] 152 = true := qck_r (nn_ _) (by decide +kernel)
theorem bs_X6_addRound_s_151 {P : Zt → Option Zv → Prop} (K : Int → Zl → List Zv → Zt → Prop) : sx_ K P [.return_] 152 = x_return_ P := (xe_return_)
theorem bk_X6_addRound_s_100 : ck_ fX6 none cX6_addRound 100 [.iconst 0, .iload 4, .if_icmp .eq 110, .iconst 1, .goto 111] 110 = true := qck_r (nn_ _) (by decide +kernel)
theorem bs_X6_addRound_s_100 {P : Zt → Option Zv → Prop} (K : Int → Zl → List Zv → Zt → Prop) : sx_ K P [.iconst 0, .iload 4, .if_icmp .eq 110, .iconst 1, .goto 111] 110 = x_iconst 0 (x_iload 4 (x_if_icmp .eq 110 K (x_iconst 1 (x_goto 111 K)))) := ((xe_iconst 0).trans (congrArg (x_iconst 0) ((xe_iload 4).trans (congrArg (x_iload 4) ((xe_if_icmp .eq 110).trans (congrArg (x_if_icmp .eq 110 K) ((xe_iconst 1).trans (congrArg (x_iconst 1) (xe_goto 111)))))))))
theorem bk_X6_addRound_s_110 : ck_ fX6 none cX6_addRound 110 [.iconst 0] 111 = true := qck_r (nn_ _) (by decide +kernel)
theorem bs_X6_addRound_s_110 {P : Zt → Option Zv → Prop} (K : Int → Zl → List Zv → Zt → Prop) : sx_ K P [.iconst 0] 111 = x_iconst 0 (K 111) := ((xe_iconst 0).trans (congrArg (x_iconst 0) xe_nil))
theorem bk_X6_addRound_s_101 : ck_ fX6 none cX6_addRound 101 [.iload 4, .if_icmp .eq 110, .iconst 1, .goto 111] 110 = true := qck_r (nn_ _) (by decide +kernel)
theorem bs_X6_addRound_s_101 {P : Zt → Option Zv → Prop} (K : Int → Zl → List Zv → Zt → Prop) : sx_ K P [.iload 4, .if_icmp .eq 110, .iconst 1, .goto 111] 110 = x_iload 4 (x_if_icmp .eq 110 K (x_iconst 1 (x_goto 111 K))) := ((xe_iload 4).trans (congrArg (x_iload 4) ((xe_if_icmp .eq 110).trans (congrArg (x_if_icmp .eq 110 K) ((xe_iconst 1).trans (congrArg (x_iconst 1) (xe_goto 111)))))))
theorem bk_X6_addRound_s_0 : ck_ fX6 none cX6_addRound 0 [.aload 1] 1 = true := qck_r (nn_ _) (by decide +kernel)
theorem bs_X6_addRound_s_0 {P : Zt → Option Zv → Prop} (K : Int → Zl → List Zv → Zt → Prop) : sx_ K P [.aload 1] 1 = x_aload 1 (K 1) := ((xe_aload 1).trans (congrArg (x_aload 1) xe_nil))
theorem bk_X6_addRound_s_4 : ck_ fX6 none cX6_addRound 4 [.iconst 1, .isub, .istore 6, .iload 3, .iconst 1, .iand, .ifCond .ne 18, .iconst 1, .goto 19] 18 = true := qck_r (nn_ _) (by decide +kernel)
theorem bs_X6_addRound_s_4 {P : Zt → Option Zv → Prop} (K : Int → Zl → List Zv → Zt → Prop) : sx_ K P [.iconst 1, .isub, .istore 6, .iload 3, .iconst 1, .iand, .ifCond .ne 18, .iconst 1, .goto 19] 18 = x_iconst 1 (x_isub (x_istore 6 (x_iload 3 (x_iconst 1 (x_iand (x_ifCond .ne 18 K (x_iconst 1 (x_goto 19 K)))))))) := ((xe_iconst 1).trans (congrArg (x_iconst 1) ((xe_isub).trans (congrArg (x_isub) ((xe_istore 6).trans (congrArg (x_istore 6) ((xe_iload 3).trans (congrArg (x_iload 3) ((xe_iconst 1).trans (congrArg (x_iconst 1) ((xe_iand).trans (congrArg (x_iand) ((xe_ifCond .ne 18).trans (congrArg (x_ifCond .ne 18 K) ((xe_iconst 1).trans (congrArg (x_iconst 1) (xe_goto 19)))))))))))))))))
theorem bk_X6_addRound_s_18 : ck_ fX6 none cX6_addRound 18 [.iconst 0, .istore 7, .aload 0, .aload 1, .iload 2, .iload 7, .iload 4, .if_icmp .eq 35, .iload 3, .goto 37] 35 = true := qck_r (nn_ _) (by decide +kernel)
theorem bs_X6_addRound_s_18 {P : Zt → Option Zv → Prop} (K : Int → Zl → List Zv → Zt → Prop) : sx_ K P [.iconst 0, .istore 7, .aload 0, .aload 1, .iload 2, .iload 7, .iload 4, .if_icmp .eq 35, .iload 3, .goto 37] 35 = x_iconst 0 (x_istore 7 (x_aload 0 (x_aload 1 (x_iload 2 (x_iload 7 (x_iload 4 (x_if_icmp .eq 35 K (x_iload 3 (x_goto 37 K))))))))) := ((xe_iconst 0).trans (congrArg (x_iconst 0) ((xe_istore 7).trans (congrArg (x_istore 7) ((xe_aload 0).trans (congrArg (x_aload 0) ((xe_aload 1).trans (congrArg (x_aload 1) ((xe_iload 2).trans (congrArg (x_iload 2) ((xe_iload 7).trans (congrArg (x_iload 7) ((xe_iload 4).trans (congrArg (x_iload 4) ((xe_if_icmp .eq 35).trans (congrArg (x_if_icmp .eq 35 K) ((xe_iload 3).trans (congrArg (x_iload 3) (xe_goto 37)))))))))))))))))))
theorem bk_X6_addRound_s_35 : ck_ fX6 none cX6_addRound 35 [.iload 6, .iload 7, .iload 4, .if_icmp .eq 49, .iload 6, .goto 50] 49 = true := qck_r (nn_ _) (by decide +kernel)
theorem bs_X6_addRound_s_35 {P : Zt → Option Zv → Prop} (K : Int → Zl → List Zv → Zt → Prop) : sx_ K P [.iload 6, .iload 7, .iload 4, .if_icmp .eq 49, .iload 6, .goto 50] 49 = x_iload 6 (x_iload 7 (x_iload 4 (x_if_icmp .eq 49 K (x_iload 6 (x_goto 50 K))))) := ((xe_iload 6).trans (congrArg (x_iload 6) ((xe_iload 7).trans (congrArg (x_iload 7) ((xe_iload 4).trans (congrArg (x_iload 4) ((xe_if_icmp .eq 49).trans (congrArg (x_if_icmp .eq 49 K) ((xe_iload 6).trans (congrArg (x_iload 6) (xe_goto 50)))))))))))
theorem bk_X6_addRound_s_49 : ck_ fX6 none cX6_addRound 49 [.iload 3, .iload 5] 52 = true := qck_r (nn_ _) (by decide +kernel)
theorem bs_X6_addRound_s_49 {P : Zt → Option Zv → Prop} (K : Int → Zl → List Zv → Zt → Prop) : sx_ K P [.iload 3, .iload 5] 52 = x_iload 3 (x_iload 5 (K 52)) := ((xe_iload 3).trans (congrArg (x_iload 3) ((xe_iload 5).trans (congrArg (x_iload 5) xe_nil))))
theorem bk_X6_addRound_s_55 : ck_ fX6 none cX6_addRound 55 [.iconst 1, .istore 8] 58 = true := qck_r (nn_ _) (by decide +kernel)
theorem bs_X6_addRound_s_55 {P : Zt → Option Zv → Prop} (K : Int → Zl → List Zv → Zt → Prop) : sx_ K P [.iconst 1, .istore 8] 58 = x_iconst 1 (x_istore 8 (K 58)) := ((xe_iconst 1).trans (congrArg (x_iconst 1) ((xe_istore 8).trans (congrArg (x_istore 8) xe_nil))))
theorem bk_X6_addRound_s_37 : ck_ fX6 none cX6_addRound 37 [.iload 7, .iload 4, .if_icmp .eq 49, .iload 6, .goto 50] 49 = true := qck_r (nn_ _) (by decide +kernel)
theorem bs_X6_addRound_s_37 {P : Zt → Option Zv → Prop} (K : Int → Zl → List Zv → Zt → Prop) : sx_ K P [.iload 7, .iload 4, .if_icmp .eq 49, .iload 6, .goto 50] 49 = x_iload 7 (x_iload 4 (x_if_icmp .eq 49 K (x_iload 6 (x_goto 50 K)))) := ((xe_iload 7).trans (congrArg (x_iload 7) ((xe_iload 4).trans (congrArg (x_iload 4) ((xe_if_icmp .eq 49).trans (congrArg (x_if_icmp .eq 49 K) ((xe_iload 6).trans (congrArg (x_iload 6) (xe_goto 50)))))))))
theorem bk_X6_addRound_s_50 : ck_ fX6 none cX6_addRound 50 [.iload 5] 52 = true := qck_r (nn_ _) (by decide +kernel)
theorem bs_X6_addRound_s_50 {P : Zt → Option Zv → Prop} (K : Int → Zl → List Zv → Zt → Prop) : sx_ K P [.iload 5] 52 = x_iload 5 (K 52) := ((xe_iload 5).trans (congrArg (x_iload 5) xe_nil))
theorem bk_X6_addRound_s_19 : ck_ fX6 none cX6_addRound 19 [.istore 7, .aload 0, .aload 1, .iload 2, .iload 7, .iload 4, .if_icmp .eq 35, .iload 3, .goto 37] 35 = true := qck_r (nn_ _) (by decide +kernel)
theorem bs_X6_addRound_s_19 {P : Zt → Option Zv → Prop} (K : Int → Zl → List Zv → Zt → Prop) : sx_ K P [.istore 7, .aload 0, .aload 1, .iload 2, .iload 7, .iload 4, .if_icmp .eq 35, .iload 3, .goto 37] 35 = x_istore 7 (x_aload 0 (x_aload 1 (x_iload 2 (x_iload 7 (x_iload 4 (x_if_icmp .eq 35 K (x_iload 3 (x_goto 37 K)))))))) := ((xe_istore 7).trans (congrArg (x_istore 7) ((xe_aload 0).trans (congrArg (x_aload 0) ((xe_aload 1).trans (congrArg (x_aload 1) ((xe_iload 2).trans (congrArg (x_iload 2) ((xe_iload 7).trans (congrArg (x_iload 7) ((xe_iload 4).trans (congrArg (x_iload 4) ((xe_if_icmp .eq 35).trans (congrArg (x_if_icmp .eq 35 K) ((xe_iload 3).trans (congrArg (x_iload 3) (xe_goto 37)))))))))))))))))
abbrev po_X6_addRound_s (T : Zt) (c : Int) (f : Int) (u q w d : Int) : Zt → Option Zv → Prop := fun T' r => r = none ∧ fr_ [(106, [4]), (523, []), (152, []), (102, []), (448, []), (449, [])] T T' ∧ (RK_ T' c f (T 100 c 5 + an_ (T 100 c 5) 1 - 1) q 13 d ∧ (∀ i j, i < f → T' 102 i j = T 102 i j) ∧ T 106 0 4 ≤ T' 106 0 4 ∧ (∀ i j, i < T 106 0 4 → T' 102 i j = T 102 i j) ∧ SQ8_ T T' ∧ AP9_ T T' c (rl9_ (T 100 c 5) (T 100 c 5 + an_ (T 100 c 5) 1 - 1) q w u d ((T 100 c 5 + an_ (T 100 c 5) 1 - 1) / 2 + 1).toNat []))
set_option maxHeartbeats 4000000 in
theorem ct_X6_addRound_s {T : Zt} {c : Int} {f : Int} {u q w d : Int} (hc : 0 ≤ c ∧ c ≤ 3) (he : 2 ≤ T 100 c 5) (hr : 0 ≤ q ∧ q < T 100 c 5 + an_ (T 100 c 5) 1 - 1) (hd : 0 ≤ d ∧ d ≤ 999) (hke : KEc_ T c) (hrb : RK_ T c f (T 100 c 5 + an_ (T 100 c 5) 1 - 1) q 0 d) (hw : w = 0 ∨ w = 1) (hro : T 106 0 4 + (T 100 c 5 + an_ (T 100 c 5) 1 - 1) / 2 + 1 - T 100 c 5 % 2 ≤ 400) : Ct_ yX6_addRound zX6_addRound T [vR 106 0, vR 100 c, vI u, vI q, vI w, vI d] (po_X6_addRound_s T c f u q w d) := by
  refine ct_of pn_6 rfl rfl (Nat.le_of_ble_eq_true rfl) (fun hT hav => ?_)
  have hr_u : -2147483648 ≤ u ∧ u ≤ 2147483647 := hav (vI u) (List.mem_cons_of_mem _ (List.mem_cons_of_mem _ List.mem_cons_self))
  have hr_q : -2147483648 ≤ q ∧ q ≤ 2147483647 := hav (vI q) (List.mem_cons_of_mem _ (List.mem_cons_of_mem _ (List.mem_cons_of_mem _ List.mem_cons_self)))
  have hr_w : -2147483648 ≤ w ∧ w ≤ 2147483647 := hav (vI w) (List.mem_cons_of_mem _ (List.mem_cons_of_mem _ (List.mem_cons_of_mem _ (List.mem_cons_of_mem _ List.mem_cons_self))))
  have hr_d : -2147483648 ≤ d ∧ d ≤ 2147483647 := hav (vI d) (List.mem_cons_of_mem _ (List.mem_cons_of_mem _ (List.mem_cons_of_mem _ (List.mem_cons_of_mem _ (List.mem_cons_of_mem _ List.mem_cons_self)))))
  have hz : zX6_addRound.2.2.2.1 = some .boolean → ∀ (T' : Zt) (x : Int), po_X6_addRound_s T c f u q w d T' (some (vI x)) → 0 ≤ x ∧ x ≤ 1 := fun h => by cases h
  have hb_matchCount : 0 ≤ T 106 0 4 ∧ T 106 0 4 ≤ 400 := bd_f hT 106 4 tl_6_4 0
  have hb5 : 0 ≤ T 100 c 5 ∧ T 100 c 5 ≤ 12 := bd_f hT 100 5 tl_0_5 c
  have hp1 := an_1b (T 100 c 5)
  have hpm := an9_m (x := T 100 c 5) (by omega)
  have hpq := an9_m (x := q) (by omega)
  have hp2 : T 100 c 5 = 12 → an_ (T 100 c 5) 1 = 0 := fun h => by rw [h]; decide
  show J_ zX6_addRound T (po_X6_addRound_s T c f u q w d) 18 204 0 [some (vR 106 0), some (vR 100 c), some (vI u), some (vI q), some (vI w), some (vI d), none, none, none, none, none, none] [] T
  have c_58 : ∀ (nn : Nat) (k : Int) (T1 : Zt), ((13 - k).toNat) ≤ nn → (fr_ [(106, [4]), (523, []), (152, []), (102, []), (448, []), (449, [])] T T1) → (RK_ T1 c f (T 100 c 5 + an_ (T 100 c 5) 1 - 1) q k d) → ((∀ i j, i < f → T1 102 i j = T 102 i j) ∧ T 106 0 4 ≤ T1 106 0 4) → (1 ≤ k ∧ k ≤ (T 100 c 5 + an_ (T 100 c 5) 1 - 1) / 2 + 1) → (∀ i j, i < T 106 0 4 → T1 102 i j = T 102 i j) → (SQ8_ T T1) → (AP9_ T T1 c (rl9_ (T 100 c 5) (T 100 c 5 + an_ (T 100 c 5) 1 - 1) q w u d k.toNat [])) → J_ zX6_addRound T (po_X6_addRound_s T c f u q w d) ((3 * ((T 100 c 5 + an_ (T 100 c 5) 1 - 1) / 2 + 1 - k)).toNat) ((34 * ((T 100 c 5 + an_ (T 100 c 5) 1 - 1) / 2 + 1 - k)).toNat) 58 [some (vR 106 0), some (vR 100 c), some (vI u), some (vI q), some (vI w), some (vI d), some (vI (T 100 c 5 + an_ (T 100 c 5) 1 - 1)), none, some (vI k), none, none, none] [] T1 := by
    intro nn
    induction nn using Nat.strongRecOn with
    | _ nn ih_58 =>
      intro k T1 hm_58 hf_58 hrb1 od1 i1 oe1 sk1 ap1
      replace hm_58 := fun (_ : Unit) => hm_58
      have lq := rl9_l (e := T 100 c 5) (L := T 100 c 5 + an_ (T 100 c 5) 1 - 1) (r := q) (u := w) (rd := u) (dt := d) (q := (T 100 c 5 % 2).toNat) (l := []) (by omega) (k - 1).toNat
      rw [show (k - 1).toNat + 1 = k.toNat by omega] at lq
      have lq2 : (rl9_ (T 100 c 5) (T 100 c 5 + an_ (T 100 c 5) 1 - 1) q w u d k.toNat []).length + (T 100 c 5 % 2).toNat ≤ k.toNat := by have z : ([] : List Fx9_).length = 0 := rfl; omega
      have lq3 := ap1.1
      have hpk := an9_m (x := k) (by omega)
      have c_111 : ∀ (v : Int), (2 * k ≤ T 100 c 5 + an_ (T 100 c 5) 1 - 1) → ((v = 1 ∧ k % 2 ≠ w) ∨ (v = 0 ∧ k % 2 = w)) → J_ zX6_addRound T (po_X6_addRound_s T c f u q w d) ((3 * ((T 100 c 5 + an_ (T 100 c 5) 1 - 1) / 2 + 1 - k)).toNat) ((34 * ((T 100 c 5 + an_ (T 100 c 5) 1 - 1) / 2 + 1 - k)).toNat) 111 [some (vR 106 0), some (vR 100 c), some (vI u), some (vI q), some (vI w), some (vI d), some (vI (T 100 c 5 + an_ (T 100 c 5) 1 - 1)), none, some (vI k), some (vI ((q + k) % (T 100 c 5 + an_ (T 100 c 5) 1 - 1))), some (vI (((q - k) + (T 100 c 5 + an_ (T 100 c 5) 1 - 1)) % (T 100 c 5 + an_ (T 100 c 5) 1 - 1))), none] [vI v] T1 := by
        intro v i2 i3
        have y1 := em_2 (x := q + k) (R := T 100 c 5 + an_ (T 100 c 5) 1 - 1) (by omega) (by omega)
        have y2 := em_2 (x := q - k + (T 100 c 5 + an_ (T 100 c 5) 1 - 1)) (R := T 100 c 5 + an_ (T 100 c 5) 1 - 1) (by omega) (by omega)
        refine j_blx (F := fX6) tb_X6 (nn_ _) bk_X6_addRound_s_111 bs_X6_addRound_s_111 hz (fun K hK => ?_)
        refine And.intro (fun c1 => ?_) (fun c1 => ?_)
        · refine hK 126 [some (vR 106 0), some (vR 100 c), some (vI u), some (vI q), some (vI w), some (vI d), some (vI (T 100 c 5 + an_ (T 100 c 5) 1 - 1)), none, some (vI k), some (vI ((q + k) % (T 100 c 5 + an_ (T 100 c 5) 1 - 1))), some (vI (((q - k) + (T 100 c 5 + an_ (T 100 c 5) 1 - 1)) % (T 100 c 5 + an_ (T 100 c 5) 1 - 1))), some (vI v)] [vI u, vR 100 c, vR 106 0] T1 ?_
          refine j_blx (F := fX6) tb_X6 (nn_ _) bk_X6_addRound_s_126 bs_X6_addRound_s_126 hz (fun K hK => ?_)
          refine And.intro (fun c2 => ?_) (fun c2 => ?_)
          · refine hK 138 _ [vI (((q - k) + (T 100 c 5 + an_ (T 100 c 5) 1 - 1)) % (T 100 c 5 + an_ (T 100 c 5) 1 - 1)), vI u, vR 100 c, vR 106 0] T1 ?_
            refine j_blx (F := fX6) tb_X6 (nn_ _) bk_X6_addRound_s_138 bs_X6_addRound_s_138 hz (fun K hK => ?_)
            refine hK 142 _ [vI d, vI ((q + k) % (T 100 c 5 + an_ (T 100 c 5) 1 - 1)), vI (((q - k) + (T 100 c 5 + an_ (T 100 c 5) 1 - 1)) % (T 100 c 5 + an_ (T 100 c 5) 1 - 1)), vI u, vR 100 c, vR 106 0] T1 ?_
            refine j_callV (y := yX6_addFixture) (Yc := zX6_addFixture) (rest := []) [vR 100 c, vI u, vI (((q - k) + (T 100 c 5 + an_ (T 100 c 5) 1 - 1)) % (T 100 c 5 + an_ (T 100 c 5) 1 - 1)), vI ((q + k) % (T 100 c 5 + an_ (T 100 c 5) 1 - 1)), vI d] (ct_X6_addFixture_s (T := T1) hc (by omega) (hrb1.2.2.2.2)) cl_X6_75 (qd_c (by decide +kernel)) (by decide) rfl (by decide +kernel) (Nat.le_of_ble_eq_true rfl) (by show 3 ≤ (3 * ((T 100 c 5 + an_ (T 100 c 5) 1 - 1) / 2 + 1 - k)).toNat; omega) (by show 34 ≤ (34 * ((T 100 c 5 + an_ (T 100 c 5) 1 - 1) / 2 + 1 - k)).toNat; omega) rfl ?_
            rintro U3 _ ⟨rfl, fU3, qU3⟩
            show J_ zX6_addRound T (po_X6_addRound_s T c f u q w d) (((3 * ((T 100 c 5 + an_ (T 100 c 5) 1 - 1) / 2 + 1 - k)).toNat) - 3) (((34 * ((T 100 c 5 + an_ (T 100 c 5) 1 - 1) / 2 + 1 - k)).toNat) - 34) 145 _ [] U3
            refine j_blx (F := fX6) tb_X6 (nn_ _) bk_X6_addRound_s_145 bs_X6_addRound_s_145 hz (fun K hK => ?_)
            refine rg_i (by omega) ?_
            refine hK 58 [some (vR 106 0), some (vR 100 c), some (vI u), some (vI q), some (vI w), some (vI d), some (vI (T 100 c 5 + an_ (T 100 c 5) 1 - 1)), none, some (vI (k + 1)), some (vI ((q + k) % (T 100 c 5 + an_ (T 100 c 5) 1 - 1))), some (vI (((q - k) + (T 100 c 5 + an_ (T 100 c 5) 1 - 1)) % (T 100 c 5 + an_ (T 100 c 5) 1 - 1))), some (vI v)] [] U3 ?_
            refine j_drq [some (vR 106 0), some (vR 100 c), some (vI u), some (vI q), some (vI w), some (vI d), some (vI (T 100 c 5 + an_ (T 100 c 5) 1 - 1)), none, some (vI (k + 1)), none, none, none] (drq_s (drq_s (drq_s (drq_s (drq_s (drq_s (drq_s (drq_n (drq_s (drq_n (drq_n (drq_n drq_0)))))))))))) ?_
            refine j_mono (bc' := ((3 * ((T 100 c 5 + an_ (T 100 c 5) 1 - 1) / 2 + 1 - (k + 1))).toNat)) (bs' := ((34 * ((T 100 c 5 + an_ (T 100 c 5) 1 - 1) / 2 + 1 - (k + 1))).toNat)) (by omega) (by omega) ?_
            refine ih_58 _ ?_ (k + 1) U3 (Nat.le_refl _) ?_ ?_ ?_ ?_ ?_ ?_ ?_
            · have hm_58 := hm_58 (); omega
            · exact fr_t (fr_t (fr_0 _ _) (fr_s hf_58 rfl)) (fr_s fU3 rfl)
            · exact (rb_add hrb1 (KEc_f hke hf_58 ⟨rfl, fun _ => rfl, fun _ => rfl⟩) (by omega) (lv_b hr (by omega)) fU3 (qU3.imp id And.left)).1
            · have y9 := rb_add hrb1 (KEc_f hke hf_58 ⟨rfl, fun _ => rfl, fun _ => rfl⟩) (by omega) (lv_b hr (by omega)) fU3 (qU3.imp id And.left)
              exact ⟨fun i j hi => (y9.2.1 i j hi).trans (od1.1 i j hi), by have := y9.2.2; have := od1.2; omega⟩
            · omega
            · exact fun i j hi => (fx9_o (fw9_ qU3) i j (by have := od1.2; omega)).trans (oe1 i j hi)
            · exact sq8_f sk1 od1.2 qU3
            · have eh := hm9_b (L := (T 100 c 5 + an_ (T 100 c 5) 1 - 1)) (r := q) (u := w) (i := k) (by rw [pq9_i (by omega)]; omega)
              rw [pa9_i (by omega), pb9_i (by omega)] at eh
              rw [show (k + 1).toNat = k.toNat + 1 by omega]
              show AP9_ T U3 c (fa9_ (T 100 c 5) u d (hm9_ (T 100 c 5 + an_ (T 100 c 5) 1 - 1) q w (k.toNat : Int)) (aw9_ (T 100 c 5 + an_ (T 100 c 5) 1 - 1) q w (k.toNat : Int)) (rl9_ (T 100 c 5) (T 100 c 5 + an_ (T 100 c 5) 1 - 1) q w u d k.toNat []))
              rw [show ((k.toNat : Nat) : Int) = k by omega, eh.1, eh.2]
              exact ap9_f (T1 := T1) ap1 (by omega) (by omega) (hf_58 100 c 5 rfl) (fun j => hf_58 403 c j rfl) (fw9_ qU3)
          · exfalso; omega
        · refine hK 128 _ [vI ((q + k) % (T 100 c 5 + an_ (T 100 c 5) 1 - 1)), vI u, vR 100 c, vR 106 0] T1 ?_
          refine j_blx (F := fX6) tb_X6 (nn_ _) bk_X6_addRound_s_128 bs_X6_addRound_s_128 hz (fun K hK => ?_)
          refine And.intro (fun c5 => ?_) (fun c5 => ?_)
          · exfalso; omega
          · refine hK 140 _ [vI (((q - k) + (T 100 c 5 + an_ (T 100 c 5) 1 - 1)) % (T 100 c 5 + an_ (T 100 c 5) 1 - 1)), vI ((q + k) % (T 100 c 5 + an_ (T 100 c 5) 1 - 1)), vI u, vR 100 c, vR 106 0] T1 ?_
            refine j_blx (F := fX6) tb_X6 (nn_ _) bk_X6_addRound_s_140 bs_X6_addRound_s_140 hz (fun K hK => ?_)
            refine hK 142 _ [vI d, vI (((q - k) + (T 100 c 5 + an_ (T 100 c 5) 1 - 1)) % (T 100 c 5 + an_ (T 100 c 5) 1 - 1)), vI ((q + k) % (T 100 c 5 + an_ (T 100 c 5) 1 - 1)), vI u, vR 100 c, vR 106 0] T1 ?_
            refine j_callV (y := yX6_addFixture) (Yc := zX6_addFixture) (rest := []) [vR 100 c, vI u, vI ((q + k) % (T 100 c 5 + an_ (T 100 c 5) 1 - 1)), vI (((q - k) + (T 100 c 5 + an_ (T 100 c 5) 1 - 1)) % (T 100 c 5 + an_ (T 100 c 5) 1 - 1)), vI d] (ct_X6_addFixture_s (T := T1) hc (by omega) (hrb1.2.2.2.2)) cl_X6_75 (qd_c (by decide +kernel)) (by decide) rfl (by decide +kernel) (Nat.le_of_ble_eq_true rfl) (by show 3 ≤ (3 * ((T 100 c 5 + an_ (T 100 c 5) 1 - 1) / 2 + 1 - k)).toNat; omega) (by show 34 ≤ (34 * ((T 100 c 5 + an_ (T 100 c 5) 1 - 1) / 2 + 1 - k)).toNat; omega) rfl ?_
            rintro U6 _ ⟨rfl, fU6, qU6⟩
            show J_ zX6_addRound T (po_X6_addRound_s T c f u q w d) (((3 * ((T 100 c 5 + an_ (T 100 c 5) 1 - 1) / 2 + 1 - k)).toNat) - 3) (((34 * ((T 100 c 5 + an_ (T 100 c 5) 1 - 1) / 2 + 1 - k)).toNat) - 34) 145 _ [] U6
            refine j_blx (F := fX6) tb_X6 (nn_ _) bk_X6_addRound_s_145 bs_X6_addRound_s_145 hz (fun K hK => ?_)
            refine rg_i (by omega) ?_
            refine hK 58 [some (vR 106 0), some (vR 100 c), some (vI u), some (vI q), some (vI w), some (vI d), some (vI (T 100 c 5 + an_ (T 100 c 5) 1 - 1)), none, some (vI (k + 1)), some (vI ((q + k) % (T 100 c 5 + an_ (T 100 c 5) 1 - 1))), some (vI (((q - k) + (T 100 c 5 + an_ (T 100 c 5) 1 - 1)) % (T 100 c 5 + an_ (T 100 c 5) 1 - 1))), some (vI v)] [] U6 ?_
            refine j_drq [some (vR 106 0), some (vR 100 c), some (vI u), some (vI q), some (vI w), some (vI d), some (vI (T 100 c 5 + an_ (T 100 c 5) 1 - 1)), none, some (vI (k + 1)), none, none, none] (drq_s (drq_s (drq_s (drq_s (drq_s (drq_s (drq_s (drq_n (drq_s (drq_n (drq_n (drq_n drq_0)))))))))))) ?_
            refine j_mono (bc' := ((3 * ((T 100 c 5 + an_ (T 100 c 5) 1 - 1) / 2 + 1 - (k + 1))).toNat)) (bs' := ((34 * ((T 100 c 5 + an_ (T 100 c 5) 1 - 1) / 2 + 1 - (k + 1))).toNat)) (by omega) (by omega) ?_
            refine ih_58 _ ?_ (k + 1) U6 (Nat.le_refl _) ?_ ?_ ?_ ?_ ?_ ?_ ?_
            · have hm_58 := hm_58 (); omega
            · exact fr_t (fr_t (fr_0 _ _) (fr_s hf_58 rfl)) (fr_s fU6 rfl)
            · exact (rb_add hrb1 (KEc_f hke hf_58 ⟨rfl, fun _ => rfl, fun _ => rfl⟩) (by omega) (lv_a hr (by omega)) fU6 (qU6.imp id And.left)).1
            · have y9 := rb_add hrb1 (KEc_f hke hf_58 ⟨rfl, fun _ => rfl, fun _ => rfl⟩) (by omega) (lv_a hr (by omega)) fU6 (qU6.imp id And.left)
              exact ⟨fun i j hi => (y9.2.1 i j hi).trans (od1.1 i j hi), by have := y9.2.2; have := od1.2; omega⟩
            · omega
            · exact fun i j hi => (fx9_o (fw9_ qU6) i j (by have := od1.2; omega)).trans (oe1 i j hi)
            · exact sq8_f sk1 od1.2 qU6
            · have eh := hm9_a (L := (T 100 c 5 + an_ (T 100 c 5) 1 - 1)) (r := q) (u := w) (i := k) (by rw [pq9_i (by omega)]; omega)
              rw [pa9_i (by omega), pb9_i (by omega)] at eh
              rw [show (k + 1).toNat = k.toNat + 1 by omega]
              show AP9_ T U6 c (fa9_ (T 100 c 5) u d (hm9_ (T 100 c 5 + an_ (T 100 c 5) 1 - 1) q w (k.toNat : Int)) (aw9_ (T 100 c 5 + an_ (T 100 c 5) 1 - 1) q w (k.toNat : Int)) (rl9_ (T 100 c 5) (T 100 c 5 + an_ (T 100 c 5) 1 - 1) q w u d k.toNat []))
              rw [show ((k.toNat : Nat) : Int) = k by omega, eh.1, eh.2]
              exact ap9_f (T1 := T1) ap1 (by omega) (by omega) (hf_58 100 c 5 rfl) (fun j => hf_58 403 c j rfl) (fw9_ qU6)
      refine j_blx (F := fX6) tb_X6 (nn_ _) bk_X6_addRound_s_58 bs_X6_addRound_s_58 hz (fun K hK => ?_)
      refine dv_i (by omega) ?_
      refine And.intro (fun c8 => ?_) (fun c8 => ?_)
      · refine hK 151 _ [] T1 ?_
        refine j_blx (F := fX6) tb_X6 (nn_ _) bk_X6_addRound_s_151 bs_X6_addRound_s_151 hz (fun K hK => ?_)
        refine (show po_X6_addRound_s T c f u q w d T1 (none) from ?_)
        have ek : k = (T 100 c 5 + an_ (T 100 c 5) 1 - 1) / 2 + 1 := by omega
        rw [ek] at ap1
        exact ⟨rfl, hf_58, rb_mono hrb1 (by omega), od1.1, od1.2, oe1, sk1, ap1⟩
      · refine rg_i (by omega) ?_
        refine dv_i (by omega) ?_
        refine rg_i (by omega) ?_
        refine rg_i (by omega) ?_
        refine dv_i (by omega) ?_
        intro w9 w9b
        refine And.intro (fun c10 => ?_) (fun c10 => ?_)
        · refine hK 100 [some (vR 106 0), some (vR 100 c), some (vI u), some (vI q), some (vI w), some (vI d), some (vI (T 100 c 5 + an_ (T 100 c 5) 1 - 1)), none, some (vI k), some (vI ((q + k) % (T 100 c 5 + an_ (T 100 c 5) 1 - 1))), some (vI (((q - k) + (T 100 c 5 + an_ (T 100 c 5) 1 - 1)) % (T 100 c 5 + an_ (T 100 c 5) 1 - 1))), none] [] T1 ?_
          refine j_blx (F := fX6) tb_X6 (nn_ _) bk_X6_addRound_s_100 bs_X6_addRound_s_100 hz (fun K hK => ?_)
          refine And.intro (fun c11 => ?_) (fun c11 => ?_)
          · refine hK 110 _ [] T1 ?_
            refine j_blx (F := fX6) tb_X6 (nn_ _) bk_X6_addRound_s_110 bs_X6_addRound_s_110 hz (fun K hK => ?_)
            refine hK 111 _ [vI 0] T1 ?_
            refine c_111 0 ?_ ?_
            · omega
            · omega
          · refine hK 111 _ [vI 1] T1 ?_
            refine c_111 1 ?_ ?_
            · omega
            · omega
        · refine hK 101 _ [vI 1] T1 ?_
          refine j_blx (F := fX6) tb_X6 (nn_ _) bk_X6_addRound_s_101 bs_X6_addRound_s_101 hz (fun K hK => ?_)
          refine And.intro (fun c12 => ?_) (fun c12 => ?_)
          · refine hK 110 _ [] T1 ?_
            refine j_blx (F := fX6) tb_X6 (nn_ _) bk_X6_addRound_s_110 bs_X6_addRound_s_110 hz (fun K hK => ?_)
            refine hK 111 _ [vI 0] T1 ?_
            refine c_111 0 ?_ ?_
            · omega
            · omega
          · refine hK 111 _ [vI 1] T1 ?_
            refine c_111 1 ?_ ?_
            · omega
            · omega
  refine j_blx (F := fX6) tb_X6 (nn_ _) bk_X6_addRound_s_0 bs_X6_addRound_s_0 hz (fun K hK => ?_)
  refine hK 1 _ [vR 100 c] T ?_
  refine j_callV (y := yX0_placeCount) (Yc := zX0_placeCount) (rest := []) [] (ct_X0_placeCount (T := T)) cl_X6_63 (qd_c (by decide +kernel)) (nn_ _) rfl (rf_of rfl) (Nat.le_of_ble_eq_true rfl) (Nat.le_of_ble_eq_true rfl) (Nat.le_of_ble_eq_true rfl) rfl ?_
  rintro _ _ ⟨rfl, rfl⟩
  show J_ zX6_addRound T (po_X6_addRound_s T c f u q w d) 18 204 4 _ [vI (T 100 c 5 + an_ (T 100 c 5) 1)] T
  refine j_blx (F := fX6) tb_X6 (nn_ _) bk_X6_addRound_s_4 bs_X6_addRound_s_4 hz (fun K hK => ?_)
  refine rg_i (by omega) ?_
  intro w13 w13b
  refine And.intro (fun c14 => ?_) (fun c14 => ?_)
  · refine hK 18 [some (vR 106 0), some (vR 100 c), some (vI u), some (vI q), some (vI w), some (vI d), some (vI ((T 100 c 5 + an_ (T 100 c 5) 1) - 1)), none, none, none, none, none] [] T ?_
    refine j_blx (F := fX6) tb_X6 (nn_ _) bk_X6_addRound_s_18 bs_X6_addRound_s_18 hz (fun K hK => ?_)
    refine And.intro (fun c15 => ?_) (fun c15 => ?_)
    · refine hK 35 [some (vR 106 0), some (vR 100 c), some (vI u), some (vI q), some (vI w), some (vI d), some (vI ((T 100 c 5 + an_ (T 100 c 5) 1) - 1)), some (vI 0), none, none, none, none] [vI u, vR 100 c, vR 106 0] T ?_
      refine j_blx (F := fX6) tb_X6 (nn_ _) bk_X6_addRound_s_35 bs_X6_addRound_s_35 hz (fun K hK => ?_)
      refine And.intro (fun c16 => ?_) (fun c16 => ?_)
      · refine hK 49 _ [vI ((T 100 c 5 + an_ (T 100 c 5) 1) - 1), vI u, vR 100 c, vR 106 0] T ?_
        refine j_blx (F := fX6) tb_X6 (nn_ _) bk_X6_addRound_s_49 bs_X6_addRound_s_49 hz (fun K hK => ?_)
        refine hK 52 _ [vI d, vI q, vI ((T 100 c 5 + an_ (T 100 c 5) 1) - 1), vI u, vR 100 c, vR 106 0] T ?_
        refine j_callV (y := yX6_addFixture) (Yc := zX6_addFixture) (rest := []) [vR 100 c, vI u, vI ((T 100 c 5 + an_ (T 100 c 5) 1) - 1), vI q, vI d] (ct_X6_addFixture_s (T := T) hc (by omega) (hrb.2.2.2.2)) cl_X6_75 (qd_c (by decide +kernel)) (nn_ _) rfl (rf_of rfl) (Nat.le_of_ble_eq_true rfl) (Nat.le_of_ble_eq_true rfl) (Nat.le_of_ble_eq_true rfl) rfl ?_
        rintro U17 _ ⟨rfl, fU17, qU17⟩
        show J_ zX6_addRound T (po_X6_addRound_s T c f u q w d) 15 170 55 _ [] U17
        refine j_blx (F := fX6) tb_X6 (nn_ _) bk_X6_addRound_s_55 bs_X6_addRound_s_55 hz (fun K hK => ?_)
        refine hK 58 [some (vR 106 0), some (vR 100 c), some (vI u), some (vI q), some (vI w), some (vI d), some (vI ((T 100 c 5 + an_ (T 100 c 5) 1) - 1)), some (vI 0), some (vI 1), none, none, none] [] U17 ?_
        refine j_drq [some (vR 106 0), some (vR 100 c), some (vI u), some (vI q), some (vI w), some (vI d), some (vI ((T 100 c 5 + an_ (T 100 c 5) 1) - 1)), none, some (vI 1), none, none, none] (drq_s (drq_s (drq_s (drq_s (drq_s (drq_s (drq_s (drq_n (drq_s (drq_n (drq_n (drq_n drq_0)))))))))))) ?_
        refine j_mono (bc' := ((3 * ((T 100 c 5 + an_ (T 100 c 5) 1 - 1) / 2 + 1 - 1)).toNat)) (bs' := ((34 * ((T 100 c 5 + an_ (T 100 c 5) 1 - 1) / 2 + 1 - 1)).toNat)) (by omega) (by omega) ?_
        refine c_58 _ 1 U17 (Nat.le_refl _) ?_ ?_ ?_ ?_ ?_ ?_ ?_
        · exact fr_t (fr_0 _ _) (fr_s fU17 rfl)
        · exact (rb_add hrb hke (by omega) (lv_R _ _) fU17 (qU17.imp id And.left)).1
        · exact (rb_add hrb hke (by omega) (lv_R _ _) fU17 (qU17.imp id And.left)).2
        · omega
        · exact fun i j hi => fx9_o (fw9_ qU17) i j hi
        · exact sq8_f sq8_r (Int.le_refl _) qU17
        · have eh := hm9_a (L := (T 100 c 5 + an_ (T 100 c 5) 1 - 1)) (r := q) (u := w) (i := 0) (by rw [pq9_0]; omega)
          rw [pa9_0, pb9_0] at eh
          show AP9_ T U17 c (fa9_ (T 100 c 5) u d (hm9_ (T 100 c 5 + an_ (T 100 c 5) 1 - 1) q w 0) (aw9_ (T 100 c 5 + an_ (T 100 c 5) 1 - 1) q w 0) [])
          rw [eh.1, eh.2]
          exact ap9_f (T1 := T) (ap9_0 rfl) (by omega) (by omega) rfl (fun j => rfl) (fw9_ qU17)
      · exfalso; omega
    · refine hK 37 _ [vI q, vI u, vR 100 c, vR 106 0] T ?_
      refine j_blx (F := fX6) tb_X6 (nn_ _) bk_X6_addRound_s_37 bs_X6_addRound_s_37 hz (fun K hK => ?_)
      refine And.intro (fun c19 => ?_) (fun c19 => ?_)
      · exfalso; omega
      · refine hK 50 _ [vI ((T 100 c 5 + an_ (T 100 c 5) 1) - 1), vI q, vI u, vR 100 c, vR 106 0] T ?_
        refine j_blx (F := fX6) tb_X6 (nn_ _) bk_X6_addRound_s_50 bs_X6_addRound_s_50 hz (fun K hK => ?_)
        refine hK 52 _ [vI d, vI ((T 100 c 5 + an_ (T 100 c 5) 1) - 1), vI q, vI u, vR 100 c, vR 106 0] T ?_
        refine j_callV (y := yX6_addFixture) (Yc := zX6_addFixture) (rest := []) [vR 100 c, vI u, vI q, vI ((T 100 c 5 + an_ (T 100 c 5) 1) - 1), vI d] (ct_X6_addFixture_s (T := T) hc (by omega) (hrb.2.2.2.2)) cl_X6_75 (qd_c (by decide +kernel)) (nn_ _) rfl (rf_of rfl) (Nat.le_of_ble_eq_true rfl) (Nat.le_of_ble_eq_true rfl) (Nat.le_of_ble_eq_true rfl) rfl ?_
        rintro U20 _ ⟨rfl, fU20, qU20⟩
        show J_ zX6_addRound T (po_X6_addRound_s T c f u q w d) 15 170 55 _ [] U20
        refine j_blx (F := fX6) tb_X6 (nn_ _) bk_X6_addRound_s_55 bs_X6_addRound_s_55 hz (fun K hK => ?_)
        refine hK 58 [some (vR 106 0), some (vR 100 c), some (vI u), some (vI q), some (vI w), some (vI d), some (vI ((T 100 c 5 + an_ (T 100 c 5) 1) - 1)), some (vI 0), some (vI 1), none, none, none] [] U20 ?_
        refine j_drq [some (vR 106 0), some (vR 100 c), some (vI u), some (vI q), some (vI w), some (vI d), some (vI ((T 100 c 5 + an_ (T 100 c 5) 1) - 1)), none, some (vI 1), none, none, none] (drq_s (drq_s (drq_s (drq_s (drq_s (drq_s (drq_s (drq_n (drq_s (drq_n (drq_n (drq_n drq_0)))))))))))) ?_
        refine j_mono (bc' := ((3 * ((T 100 c 5 + an_ (T 100 c 5) 1 - 1) / 2 + 1 - 1)).toNat)) (bs' := ((34 * ((T 100 c 5 + an_ (T 100 c 5) 1 - 1) / 2 + 1 - 1)).toNat)) (by omega) (by omega) ?_
        refine c_58 _ 1 U20 (Nat.le_refl _) ?_ ?_ ?_ ?_ ?_ ?_ ?_
        · exact fr_t (fr_0 _ _) (fr_s fU20 rfl)
        · exact (rb_add hrb hke (by omega) (lv_r hr) fU20 (qU20.imp id And.left)).1
        · exact (rb_add hrb hke (by omega) (lv_r hr) fU20 (qU20.imp id And.left)).2
        · omega
        · exact fun i j hi => fx9_o (fw9_ qU20) i j hi
        · exact sq8_f sq8_r (Int.le_refl _) qU20
        · have eh := hm9_b (L := (T 100 c 5 + an_ (T 100 c 5) 1 - 1)) (r := q) (u := w) (i := 0) (by rw [pq9_0]; omega)
          rw [pa9_0, pb9_0] at eh
          show AP9_ T U20 c (fa9_ (T 100 c 5) u d (hm9_ (T 100 c 5 + an_ (T 100 c 5) 1 - 1) q w 0) (aw9_ (T 100 c 5 + an_ (T 100 c 5) 1 - 1) q w 0) [])
          rw [eh.1, eh.2]
          exact ap9_f (T1 := T) (ap9_0 rfl) (by omega) (by omega) rfl (fun j => rfl) (fw9_ qU20)
  · refine hK 19 _ [vI 1] T ?_
    refine j_blx (F := fX6) tb_X6 (nn_ _) bk_X6_addRound_s_19 bs_X6_addRound_s_19 hz (fun K hK => ?_)
    refine And.intro (fun c22 => ?_) (fun c22 => ?_)
    · refine hK 35 [some (vR 106 0), some (vR 100 c), some (vI u), some (vI q), some (vI w), some (vI d), some (vI ((T 100 c 5 + an_ (T 100 c 5) 1) - 1)), some (vI 1), none, none, none, none] [vI u, vR 100 c, vR 106 0] T ?_
      refine j_blx (F := fX6) tb_X6 (nn_ _) bk_X6_addRound_s_35 bs_X6_addRound_s_35 hz (fun K hK => ?_)
      refine And.intro (fun c23 => ?_) (fun c23 => ?_)
      · refine hK 49 _ [vI ((T 100 c 5 + an_ (T 100 c 5) 1) - 1), vI u, vR 100 c, vR 106 0] T ?_
        refine j_blx (F := fX6) tb_X6 (nn_ _) bk_X6_addRound_s_49 bs_X6_addRound_s_49 hz (fun K hK => ?_)
        refine hK 52 _ [vI d, vI q, vI ((T 100 c 5 + an_ (T 100 c 5) 1) - 1), vI u, vR 100 c, vR 106 0] T ?_
        refine j_callV (y := yX6_addFixture) (Yc := zX6_addFixture) (rest := []) [vR 100 c, vI u, vI ((T 100 c 5 + an_ (T 100 c 5) 1) - 1), vI q, vI d] (ct_X6_addFixture_s (T := T) hc (by omega) (hrb.2.2.2.2)) cl_X6_75 (qd_c (by decide +kernel)) (nn_ _) rfl (rf_of rfl) (Nat.le_of_ble_eq_true rfl) (Nat.le_of_ble_eq_true rfl) (Nat.le_of_ble_eq_true rfl) rfl ?_
        rintro U24 _ ⟨rfl, fU24, qU24⟩
        show J_ zX6_addRound T (po_X6_addRound_s T c f u q w d) 15 170 55 _ [] U24
        refine j_blx (F := fX6) tb_X6 (nn_ _) bk_X6_addRound_s_55 bs_X6_addRound_s_55 hz (fun K hK => ?_)
        refine hK 58 [some (vR 106 0), some (vR 100 c), some (vI u), some (vI q), some (vI w), some (vI d), some (vI ((T 100 c 5 + an_ (T 100 c 5) 1) - 1)), some (vI 1), some (vI 1), none, none, none] [] U24 ?_
        refine j_drq [some (vR 106 0), some (vR 100 c), some (vI u), some (vI q), some (vI w), some (vI d), some (vI ((T 100 c 5 + an_ (T 100 c 5) 1) - 1)), none, some (vI 1), none, none, none] (drq_s (drq_s (drq_s (drq_s (drq_s (drq_s (drq_s (drq_n (drq_s (drq_n (drq_n (drq_n drq_0)))))))))))) ?_
        refine j_mono (bc' := ((3 * ((T 100 c 5 + an_ (T 100 c 5) 1 - 1) / 2 + 1 - 1)).toNat)) (bs' := ((34 * ((T 100 c 5 + an_ (T 100 c 5) 1 - 1) / 2 + 1 - 1)).toNat)) (by omega) (by omega) ?_
        refine c_58 _ 1 U24 (Nat.le_refl _) ?_ ?_ ?_ ?_ ?_ ?_ ?_
        · exact fr_t (fr_0 _ _) (fr_s fU24 rfl)
        · exact (rb_add hrb hke (by omega) (lv_R _ _) fU24 (qU24.imp id And.left)).1
        · exact (rb_add hrb hke (by omega) (lv_R _ _) fU24 (qU24.imp id And.left)).2
        · omega
        · exact fun i j hi => fx9_o (fw9_ qU24) i j hi
        · exact sq8_f sq8_r (Int.le_refl _) qU24
        · have eh := hm9_a (L := (T 100 c 5 + an_ (T 100 c 5) 1 - 1)) (r := q) (u := w) (i := 0) (by rw [pq9_0]; omega)
          rw [pa9_0, pb9_0] at eh
          show AP9_ T U24 c (fa9_ (T 100 c 5) u d (hm9_ (T 100 c 5 + an_ (T 100 c 5) 1 - 1) q w 0) (aw9_ (T 100 c 5 + an_ (T 100 c 5) 1 - 1) q w 0) [])
          rw [eh.1, eh.2]
          exact ap9_f (T1 := T) (ap9_0 rfl) (by omega) (by omega) rfl (fun j => rfl) (fw9_ qU24)
      · exfalso; omega
    · refine hK 37 _ [vI q, vI u, vR 100 c, vR 106 0] T ?_
      refine j_blx (F := fX6) tb_X6 (nn_ _) bk_X6_addRound_s_37 bs_X6_addRound_s_37 hz (fun K hK => ?_)
      refine And.intro (fun c26 => ?_) (fun c26 => ?_)
      · exfalso; omega
      · refine hK 50 _ [vI ((T 100 c 5 + an_ (T 100 c 5) 1) - 1), vI q, vI u, vR 100 c, vR 106 0] T ?_
        refine j_blx (F := fX6) tb_X6 (nn_ _) bk_X6_addRound_s_50 bs_X6_addRound_s_50 hz (fun K hK => ?_)
        refine hK 52 _ [vI d, vI ((T 100 c 5 + an_ (T 100 c 5) 1) - 1), vI q, vI u, vR 100 c, vR 106 0] T ?_
        refine j_callV (y := yX6_addFixture) (Yc := zX6_addFixture) (rest := []) [vR 100 c, vI u, vI q, vI ((T 100 c 5 + an_ (T 100 c 5) 1) - 1), vI d] (ct_X6_addFixture_s (T := T) hc (by omega) (hrb.2.2.2.2)) cl_X6_75 (qd_c (by decide +kernel)) (nn_ _) rfl (rf_of rfl) (Nat.le_of_ble_eq_true rfl) (Nat.le_of_ble_eq_true rfl) (Nat.le_of_ble_eq_true rfl) rfl ?_
        rintro U27 _ ⟨rfl, fU27, qU27⟩
        show J_ zX6_addRound T (po_X6_addRound_s T c f u q w d) 15 170 55 _ [] U27
        refine j_blx (F := fX6) tb_X6 (nn_ _) bk_X6_addRound_s_55 bs_X6_addRound_s_55 hz (fun K hK => ?_)
        refine hK 58 [some (vR 106 0), some (vR 100 c), some (vI u), some (vI q), some (vI w), some (vI d), some (vI ((T 100 c 5 + an_ (T 100 c 5) 1) - 1)), some (vI 1), some (vI 1), none, none, none] [] U27 ?_
        refine j_drq [some (vR 106 0), some (vR 100 c), some (vI u), some (vI q), some (vI w), some (vI d), some (vI ((T 100 c 5 + an_ (T 100 c 5) 1) - 1)), none, some (vI 1), none, none, none] (drq_s (drq_s (drq_s (drq_s (drq_s (drq_s (drq_s (drq_n (drq_s (drq_n (drq_n (drq_n drq_0)))))))))))) ?_
        refine j_mono (bc' := ((3 * ((T 100 c 5 + an_ (T 100 c 5) 1 - 1) / 2 + 1 - 1)).toNat)) (bs' := ((34 * ((T 100 c 5 + an_ (T 100 c 5) 1 - 1) / 2 + 1 - 1)).toNat)) (by omega) (by omega) ?_
        refine c_58 _ 1 U27 (Nat.le_refl _) ?_ ?_ ?_ ?_ ?_ ?_ ?_
        · exact fr_t (fr_0 _ _) (fr_s fU27 rfl)
        · exact (rb_add hrb hke (by omega) (lv_r hr) fU27 (qU27.imp id And.left)).1
        · exact (rb_add hrb hke (by omega) (lv_r hr) fU27 (qU27.imp id And.left)).2
        · omega
        · exact fun i j hi => fx9_o (fw9_ qU27) i j hi
        · exact sq8_f sq8_r (Int.le_refl _) qU27
        · have eh := hm9_b (L := (T 100 c 5 + an_ (T 100 c 5) 1 - 1)) (r := q) (u := w) (i := 0) (by rw [pq9_0]; omega)
          rw [pa9_0, pb9_0] at eh
          show AP9_ T U27 c (fa9_ (T 100 c 5) u d (hm9_ (T 100 c 5 + an_ (T 100 c 5) 1 - 1) q w 0) (aw9_ (T 100 c 5 + an_ (T 100 c 5) 1 - 1) q w 0) [])
          rw [eh.1, eh.2]
          exact ap9_f (T1 := T) (ap9_0 rfl) (by omega) (by omega) rfl (fun j => rfl) (fw9_ qU27)
theorem bk_X6_schedule_s_38 : ck_ fX6 none cX6_schedule 38 [.iload 5, .iload 3, .if_icmp .ge 93, .iload 4, .iload 3, .imul, .iload 5, .iadd, .istore 6, .aload 0, .aload 1, .iload 6, .iload 5, .iload 4, .iconst 1, .iand, .iconst 1, .if_icmp .ne 71, .iconst 1, .goto 72] 71 = true := qck_r (nn_ _) (by decide +kernel)
theorem bs_X6_schedule_s_38 {P : Zt → Option Zv → Prop} (K : Int → Zl → List Zv → Zt → Prop) : sx_ K P [.iload 5, .iload 3, .if_icmp .ge 93, .iload 4, .iload 3, .imul, .iload 5, .iadd, .istore 6, .aload 0, .aload 1, .iload 6, .iload 5, .iload 4, .iconst 1, .iand, .iconst 1, .if_icmp .ne 71, .iconst 1, .goto 72] 71 = x_iload 5 (x_iload 3 (x_if_icmp .ge 93 K (x_iload 4 (x_iload 3 (x_imul (x_iload 5 (x_iadd (x_istore 6 (x_aload 0 (x_aload 1 (x_iload 6 (x_iload 5 (x_iload 4 (x_iconst 1 (x_iand (x_iconst 1 (x_if_icmp .ne 71 K (x_iconst 1 (x_goto 72 K))))))))))))))))))) := ((xe_iload 5).trans (congrArg (x_iload 5) ((xe_iload 3).trans (congrArg (x_iload 3) ((xe_if_icmp .ge 93).trans (congrArg (x_if_icmp .ge 93 K) ((xe_iload 4).trans (congrArg (x_iload 4) ((xe_iload 3).trans (congrArg (x_iload 3) ((xe_imul).trans (congrArg (x_imul) ((xe_iload 5).trans (congrArg (x_iload 5) ((xe_iadd).trans (congrArg (x_iadd) ((xe_istore 6).trans (congrArg (x_istore 6) ((xe_aload 0).trans (congrArg (x_aload 0) ((xe_aload 1).trans (congrArg (x_aload 1) ((xe_iload 6).trans (congrArg (x_iload 6) ((xe_iload 5).trans (congrArg (x_iload 5) ((xe_iload 4).trans (congrArg (x_iload 4) ((xe_iconst 1).trans (congrArg (x_iconst 1) ((xe_iand).trans (congrArg (x_iand) ((xe_iconst 1).trans (congrArg (x_iconst 1) ((xe_if_icmp .ne 71).trans (congrArg (x_if_icmp .ne 71 K) ((xe_iconst 1).trans (congrArg (x_iconst 1) (xe_goto 72)))))))))))))))))))))))))))))))))))))))
theorem bk_X6_schedule_s_93 : ck_ fX6 none cX6_schedule 93 [.iinc 4 1, .goto 23] 99 = true := qck_r (nn_ _) (by decide +kernel)
theorem bs_X6_schedule_s_93 {P : Zt → Option Zv → Prop} (K : Int → Zl → List Zv → Zt → Prop) : sx_ K P [.iinc 4 1, .goto 23] 99 = x_iinc 4 1 (x_goto 23 K) := ((xe_iinc 4 1).trans (congrArg (x_iinc 4 1) (xe_goto 23)))
theorem bk_X6_schedule_s_71 : ck_ fX6 none cX6_schedule 71 [.iconst 0, .iload 2, .iload 6, .aload 1, .tableswitch 0 0 1 #[], .iconst 7, .iaload, .imul, .iadd] 84 = true := qck_r (nn_ _) (by decide +kernel)
theorem bs_X6_schedule_s_71 {P : Zt → Option Zv → Prop} (K : Int → Zl → List Zv → Zt → Prop) : sx_ K P [.iconst 0, .iload 2, .iload 6, .aload 1, .tableswitch 0 0 1 #[], .iconst 7, .iaload, .imul, .iadd] 84 = x_iconst 0 (x_iload 2 (x_iload 6 (x_aload 1 (x_g2 100 401 (x_iconst 7 (x_iaload (x_imul (x_iadd (K 84))))))))) := ((xe_iconst 0).trans (congrArg (x_iconst 0) ((xe_iload 2).trans (congrArg (x_iload 2) ((xe_iload 6).trans (congrArg (x_iload 6) ((xe_aload 1).trans (congrArg (x_aload 1) ((xe_g2 (kk := 100) rfl tl_0_1).trans (congrArg (x_g2 100 401) ((xe_iconst 7).trans (congrArg (x_iconst 7) ((xe_iaload).trans (congrArg (x_iaload) ((xe_imul).trans (congrArg (x_imul) ((xe_iadd).trans (congrArg (x_iadd) xe_nil))))))))))))))))))
theorem bk_X6_schedule_s_87 : ck_ fX6 none cX6_schedule 87 [.iinc 5 1, .goto 38] 93 = true := qck_r (nn_ _) (by decide +kernel)
theorem bs_X6_schedule_s_87 {P : Zt → Option Zv → Prop} (K : Int → Zl → List Zv → Zt → Prop) : sx_ K P [.iinc 5 1, .goto 38] 93 = x_iinc 5 1 (x_goto 38 K) := ((xe_iinc 5 1).trans (congrArg (x_iinc 5 1) (xe_goto 38)))
theorem bk_X6_schedule_s_72 : ck_ fX6 none cX6_schedule 72 [.iload 2, .iload 6, .aload 1, .tableswitch 0 0 1 #[], .iconst 7, .iaload, .imul, .iadd] 84 = true := qck_r (nn_ _) (by decide +kernel)
theorem bs_X6_schedule_s_72 {P : Zt → Option Zv → Prop} (K : Int → Zl → List Zv → Zt → Prop) : sx_ K P [.iload 2, .iload 6, .aload 1, .tableswitch 0 0 1 #[], .iconst 7, .iaload, .imul, .iadd] 84 = x_iload 2 (x_iload 6 (x_aload 1 (x_g2 100 401 (x_iconst 7 (x_iaload (x_imul (x_iadd (K 84)))))))) := ((xe_iload 2).trans (congrArg (x_iload 2) ((xe_iload 6).trans (congrArg (x_iload 6) ((xe_aload 1).trans (congrArg (x_aload 1) ((xe_g2 (kk := 100) rfl tl_0_1).trans (congrArg (x_g2 100 401) ((xe_iconst 7).trans (congrArg (x_iconst 7) ((xe_iaload).trans (congrArg (x_iaload) ((xe_imul).trans (congrArg (x_imul) ((xe_iadd).trans (congrArg (x_iadd) xe_nil))))))))))))))))
theorem bk_X6_schedule_s_23 : ck_ fX6 none cX6_schedule 23 [.iload 4, .aload 1, .tableswitch 0 0 1 #[], .iconst 6, .iaload, .if_icmp .ge 99, .iconst 0, .istore 5] 38 = true := qck_r (nn_ _) (by decide +kernel)
theorem bs_X6_schedule_s_23 {P : Zt → Option Zv → Prop} (K : Int → Zl → List Zv → Zt → Prop) : sx_ K P [.iload 4, .aload 1, .tableswitch 0 0 1 #[], .iconst 6, .iaload, .if_icmp .ge 99, .iconst 0, .istore 5] 38 = x_iload 4 (x_aload 1 (x_g2 100 401 (x_iconst 6 (x_iaload (x_if_icmp .ge 99 K (x_iconst 0 (x_istore 5 (K 38)))))))) := ((xe_iload 4).trans (congrArg (x_iload 4) ((xe_aload 1).trans (congrArg (x_aload 1) ((xe_g2 (kk := 100) rfl tl_0_1).trans (congrArg (x_g2 100 401) ((xe_iconst 6).trans (congrArg (x_iconst 6) ((xe_iaload).trans (congrArg (x_iaload) ((xe_if_icmp .ge 99).trans (congrArg (x_if_icmp .ge 99 K) ((xe_iconst 0).trans (congrArg (x_iconst 0) ((xe_istore 5).trans (congrArg (x_istore 5) xe_nil))))))))))))))))
theorem bk_X6_schedule_s_99 : ck_ fX6 none cX6_schedule 99 [.aload 1, .aload 0, .tableswitch 0 6 4 #[], .aload 1, .tableswitch 0 0 7 #[], .isub, .tableswitch 1 0 8 #[], .return_] 113 = true := qck_r (nn_ _) (by decide +kernel)
theorem bs_X6_schedule_s_99 {P : Zt → Option Zv → Prop} (K : Int → Zl → List Zv → Zt → Prop) : sx_ K P [.aload 1, .aload 0, .tableswitch 0 6 4 #[], .aload 1, .tableswitch 0 0 7 #[], .isub, .tableswitch 1 0 8 #[], .return_] 113 = x_aload 1 (x_aload 0 (x_g0 106 4 0 400 (x_aload 1 (x_g0 100 7 0 400 (x_isub (x_p 100 8 0 400 (x_return_ P))))))) := ((xe_aload 1).trans (congrArg (x_aload 1) ((xe_aload 0).trans (congrArg (x_aload 0) ((xe_g0 (kk := 106) rfl tl_6_4).trans (congrArg (x_g0 106 4 0 400) ((xe_aload 1).trans (congrArg (x_aload 1) ((xe_g0 (kk := 100) rfl tl_0_7).trans (congrArg (x_g0 100 7 0 400) ((xe_isub).trans (congrArg (x_isub) ((xe_p (kk := 100) rfl tl_0_8).trans (congrArg (x_p 100 8 0 400) (xe_return_)))))))))))))))
theorem bk_X6_schedule_s_0 : ck_ fX6 none cX6_schedule 0 [.aload 1, .iconst 1, .tableswitch 1 0 6 #[], .aload 1, .aload 0, .tableswitch 0 6 4 #[], .tableswitch 1 0 7 #[], .aload 1] 14 = true := qck_r (nn_ _) (by decide +kernel)
theorem bs_X6_schedule_s_0 {P : Zt → Option Zv → Prop} (K : Int → Zl → List Zv → Zt → Prop) : sx_ K P [.aload 1, .iconst 1, .tableswitch 1 0 6 #[], .aload 1, .aload 0, .tableswitch 0 6 4 #[], .tableswitch 1 0 7 #[], .aload 1] 14 = x_aload 1 (x_iconst 1 (x_p 100 6 0 1 (x_aload 1 (x_aload 0 (x_g0 106 4 0 400 (x_p 100 7 0 400 (x_aload 1 (K 14)))))))) := ((xe_aload 1).trans (congrArg (x_aload 1) ((xe_iconst 1).trans (congrArg (x_iconst 1) ((xe_p (kk := 100) rfl tl_0_6).trans (congrArg (x_p 100 6 0 1) ((xe_aload 1).trans (congrArg (x_aload 1) ((xe_aload 0).trans (congrArg (x_aload 0) ((xe_g0 (kk := 106) rfl tl_6_4).trans (congrArg (x_g0 106 4 0 400) ((xe_p (kk := 100) rfl tl_0_7).trans (congrArg (x_p 100 7 0 400) ((xe_aload 1).trans (congrArg (x_aload 1) xe_nil))))))))))))))))
theorem bk_X6_schedule_s_17 : ck_ fX6 none cX6_schedule 17 [.iconst 1, .isub, .istore 3, .iconst 0, .istore 4] 23 = true := qck_r (nn_ _) (by decide +kernel)
theorem bs_X6_schedule_s_17 {P : Zt → Option Zv → Prop} (K : Int → Zl → List Zv → Zt → Prop) : sx_ K P [.iconst 1, .isub, .istore 3, .iconst 0, .istore 4] 23 = x_iconst 1 (x_isub (x_istore 3 (x_iconst 0 (x_istore 4 (K 23))))) := ((xe_iconst 1).trans (congrArg (x_iconst 1) ((xe_isub).trans (congrArg (x_isub) ((xe_istore 3).trans (congrArg (x_istore 3) ((xe_iconst 0).trans (congrArg (x_iconst 0) ((xe_istore 4).trans (congrArg (x_istore 4) xe_nil))))))))))
abbrev po_X6_schedule_s (T : Zt) (c : Int) (b : Int) : Zt → Option Zv → Prop := fun T' r => r = none ∧ fr_ [(106, [4]), (523, []), (152, []), (102, []), (448, []), (449, []), (100, [6, 7, 8])] T T' ∧ ((∀ i j, i < T 106 0 4 → T' 102 i j = T 102 i j) ∧ RK_ T' c (T 106 0 4) (T 100 c 5 + an_ (T 100 c 5) 1 - 1) 0 0 2000000 ∧ (T' 100 c 6 = 1 ∧ T' 100 c 7 = T 106 0 4 ∧ T' 100 c 8 = T' 106 0 4 - T 106 0 4) ∧ (∀ i j, i ≠ c → T' 100 i j = T 100 i j) ∧ SQ8_ T T' ∧ AP9_ T T' c (pl9_ (T 100 c 5) (T 100 c 5 + an_ (T 100 c 5) 1 - 1) b (T 401 c 7) (T 401 c 6).toNat))
set_option maxHeartbeats 4000000 in
theorem ct_X6_schedule_s {T : Zt} {c : Int} {b : Int} (hc : 0 ≤ c ∧ c ≤ 3) (hl : 0 ≤ T 401 c 6 ∧ T 401 c 6 ≤ 4) (hE : 1 ≤ T 401 c 7 ∧ T 401 c 7 ≤ 30) (he : 2 ≤ T 100 c 5) (hb : 0 ≤ b ∧ b + ((T 100 c 5 + an_ (T 100 c 5) 1 - 1) * T 401 c 6 - 1) * T 401 c 7 ≤ 999) (hke : KEc_ T c) (hka : KA_ T) (hna : NA_ T) (hfx : T 106 0 4 + T 100 c 5 * (T 100 c 5 - 1) / 2 * T 401 c 6 ≤ 400) : Ct_ yX6_schedule zX6_schedule T [vR 106 0, vR 100 c, vI b] (po_X6_schedule_s T c b) := by
  refine ct_of pn_6 rfl rfl (Nat.le_of_ble_eq_true rfl) (fun hT hav => ?_)
  have hr_b : -2147483648 ≤ b ∧ b ≤ 2147483647 := hav (vI b) (List.mem_cons_of_mem _ (List.mem_cons_of_mem _ List.mem_cons_self))
  have hz : zX6_schedule.2.2.2.1 = some .boolean → ∀ (T' : Zt) (x : Int), po_X6_schedule_s T c b T' (some (vI x)) → 0 ≤ x ∧ x ≤ 1 := fun h => by cases h
  have hb_matchCount : 0 ≤ T 106 0 4 ∧ T 106 0 4 ≤ 400 := bd_f hT 106 4 tl_6_4 0
  have hb5 : 0 ≤ T 100 c 5 ∧ T 100 c 5 ≤ 12 := bd_f hT 100 5 tl_0_5 c
  have hp1 := an_1b (T 100 c 5)
  have hpm := an9_m (x := T 100 c 5) (by omega)
  have hp2 : T 100 c 5 = 12 → an_ (T 100 c 5) 1 = 0 := fun h => by rw [h]; decide
  have hbb : b ≤ 2000 := by have y := mlb (a := (T 100 c 5 + an_ (T 100 c 5) 1 - 1) * T 401 c 6) (b := T 401 c 7) (A := 48) (B := 30) (mlb (A := 12) (B := 4) (by omega) (by omega)) (by omega); have y2 := hb.2; rw [Int.sub_mul, Int.one_mul] at y2; omega
  show J_ zX6_schedule T (po_X6_schedule_s T c b) 792 8976 0 [some (vR 106 0), some (vR 100 c), some (vI b), none, none, none, none] [] T
  have c_23 : ∀ (nn : Nat) (l : Int) (T1 : Zt), ((4 - l).toNat) ≤ nn → (fr_ [(106, [4]), (523, []), (152, []), (102, []), (448, []), (449, []), (100, [6, 7, 8])] T T1) → (∀ z, RK_ T1 c (T 106 0 4) (T 100 c 5 + an_ (T 100 c 5) 1 - 1) z 0 (b + (l * (T 100 c 5 + an_ (T 100 c 5) 1 - 1) + 0) * T 401 c 7)) → (∀ i j, i < T 106 0 4 → T1 102 i j = T 102 i j) → (∀ i j, i ≠ c → T1 100 i j = T 100 i j) → (T1 100 c 7 = T 106 0 4 ∧ T1 100 c 6 = 1) → (0 ≤ l ∧ l ≤ 4 ∧ (l ≤ T 401 c 6 ∨ l = 0)) → (AP9_ T T1 c (pl9_ (T 100 c 5) (T 100 c 5 + an_ (T 100 c 5) 1 - 1) b (T 401 c 7) l.toNat)) → (SQ8_ T T1) → J_ zX6_schedule T (po_X6_schedule_s T c b) ((18 * (((4 : Int) - l) * 11)).toNat) ((204 * (((4 : Int) - l) * 11)).toNat) 23 [some (vR 106 0), some (vR 100 c), some (vI b), some (vI (T 100 c 5 + an_ (T 100 c 5) 1 - 1)), some (vI l), none, none] [] T1 := by
    intro nn
    induction nn using Nat.strongRecOn with
    | _ nn ih_23 =>
      intro l T1 hm_23 hf_23 hrb1 od1 oc1 s1 i1 ap1 sk1
      replace hm_23 := fun (_ : Unit) => hm_23
      have hpl := an9_m (x := l) (by omega)
      have hq1 := (hrb1 0).1
      have hm1 := mlb (a := l) (b := T 100 c 5 + an_ (T 100 c 5) 1 - 1) (A := 4) (B := 12) (by omega) (by omega)
      have hm2 := mlb (a := l * (T 100 c 5 + an_ (T 100 c 5) 1 - 1) + 0) (b := T 401 c 7) (A := 48) (B := 30) (by omega) (by omega)
      have hmx : (b + (l * (T 100 c 5 + an_ (T 100 c 5) 1 - 1) + 0) * T 401 c 7) ≤ 1000000 := by have := hb.1; have := hbb; omega
      have c_38 : ∀ (nn : Nat) (q : Int) (T2 : Zt), ((13 - q).toNat) ≤ nn → (fr_ [(106, [4]), (523, []), (152, []), (102, []), (448, []), (449, []), (100, [6, 7, 8])] T T2) → (∀ z, RK_ T2 c (T 106 0 4) (T 100 c 5 + an_ (T 100 c 5) 1 - 1) z 0 (b + (l * (T 100 c 5 + an_ (T 100 c 5) 1 - 1) + q) * T 401 c 7)) → (∀ i j, i < T 106 0 4 → T2 102 i j = T 102 i j) → (∀ i j, i ≠ c → T2 100 i j = T 100 i j) → (T2 100 c 7 = T 106 0 4 ∧ T2 100 c 6 = 1) → (0 ≤ q ∧ q ≤ T 100 c 5 + an_ (T 100 c 5) 1 - 1 ∧ l < T 401 c 6) → (AP9_ T T2 c (ll9_ (T 100 c 5) (T 100 c 5 + an_ (T 100 c 5) 1 - 1) l b (T 401 c 7) q.toNat (pl9_ (T 100 c 5) (T 100 c 5 + an_ (T 100 c 5) 1 - 1) b (T 401 c 7) l.toNat))) → (SQ8_ T T2) → J_ zX6_schedule T (po_X6_schedule_s T c b) ((18 * (((4 : Int) - l) * 11 - q)).toNat) ((204 * (((4 : Int) - l) * 11 - q)).toNat) 38 [some (vR 106 0), some (vR 100 c), some (vI b), some (vI (T 100 c 5 + an_ (T 100 c 5) 1 - 1)), some (vI l), some (vI q), none] [] T2 := by
        intro nn
        induction nn using Nat.strongRecOn with
        | _ nn ih_38 =>
          intro q T2 hm_38 hf_38 hrb2 od2 oc2 s2 i2 ap2 sk2
          replace hm_38 := fun (_ : Unit) => hm_38
          have hm3 := mlb (a := l * (T 100 c 5 + an_ (T 100 c 5) 1 - 1) + q) (b := T 401 c 7) (A := 60) (B := 30) (by omega) (by omega)
          refine j_blx (F := fX6) tb_X6 (nn_ _) bk_X6_schedule_s_38 bs_X6_schedule_s_38 hz (fun K hK => ?_)
          refine And.intro (fun c1 => ?_) (fun c1 => ?_)
          · refine hK 93 _ [] T2 ?_
            refine j_blx (F := fX6) tb_X6 (nn_ _) bk_X6_schedule_s_93 bs_X6_schedule_s_93 hz (fun K hK => ?_)
            refine rg_i (by omega) ?_
            refine hK 23 [some (vR 106 0), some (vR 100 c), some (vI b), some (vI (T 100 c 5 + an_ (T 100 c 5) 1 - 1)), some (vI (l + 1)), some (vI q), none] [] T2 ?_
            refine j_drq [some (vR 106 0), some (vR 100 c), some (vI b), some (vI (T 100 c 5 + an_ (T 100 c 5) 1 - 1)), some (vI (l + 1)), none, none] (drq_s (drq_s (drq_s (drq_s (drq_s (drq_n (drq_n drq_0))))))) ?_
            refine j_mono (bc' := ((18 * (((4 : Int) - (l + 1)) * 11)).toNat)) (bs' := ((204 * (((4 : Int) - (l + 1)) * 11)).toNat)) (by omega) (by omega) ?_
            refine ih_23 _ ?_ (l + 1) T2 (Nat.le_refl _) ?_ ?_ ?_ ?_ ?_ ?_ ?_ ?_
            · have hm_23 := hm_23 (); omega
            · exact fr_t (fr_0 _ _) (fr_s hf_38 rfl)
            · intro z; rw [sc_l l q (T 100 c 5 + an_ (T 100 c 5) 1 - 1) (T 401 c 7) b (by omega)]; exact hrb2 z
            · exact od2
            · exact oc2
            · exact s2
            · omega
            · rw [show q = (T 100 c 5 + an_ (T 100 c 5) 1 - 1) by omega] at ap2
              rw [show (l + 1).toNat = l.toNat + 1 by omega]
              show AP9_ T T2 c (ll9_ (T 100 c 5) (T 100 c 5 + an_ (T 100 c 5) 1 - 1) (l.toNat : Int) b (T 401 c 7) ((T 100 c 5 + an_ (T 100 c 5) 1 - 1)).toNat (pl9_ (T 100 c 5) (T 100 c 5 + an_ (T 100 c 5) 1 - 1) b (T 401 c 7) l.toNat))
              rw [show ((l.toNat : Nat) : Int) = l by omega]
              exact ap2
            · exact sk2
          · refine rg_i (by omega) ?_
            refine rg_i (by omega) ?_
            intro w2 w2b
            refine And.intro (fun c3 => ?_) (fun c3 => ?_)
            · refine hK 71 [some (vR 106 0), some (vR 100 c), some (vI b), some (vI (T 100 c 5 + an_ (T 100 c 5) 1 - 1)), some (vI l), some (vI q), some (vI ((l * (T 100 c 5 + an_ (T 100 c 5) 1 - 1)) + q))] [vI q, vI ((l * (T 100 c 5 + an_ (T 100 c 5) 1 - 1)) + q), vR 100 c, vR 106 0] T2 ?_
              refine j_blx (F := fX6) tb_X6 (nn_ _) bk_X6_schedule_s_71 bs_X6_schedule_s_71 hz (fun K hK => ?_)
              refine ix_i (by omega) ?_
              intro b4 b4b
              have e5 : T2 401 c 7 = T 401 c 7 := hf_38 401 c 7 rfl
              rw [e5] at b4 b4b ⊢
              refine rg_i (by omega) ?_
              refine rg_i (by have y8 := sc_b (l := l) (q := q) (R := T 100 c 5 + an_ (T 100 c 5) 1 - 1) (L := T 401 c 6) (E := T 401 c 7) (b := b) (by omega) (by omega) (by omega) (by omega) hb.2; omega) ?_
              refine hK 84 _ [vI (b + (((l * (T 100 c 5 + an_ (T 100 c 5) 1 - 1)) + q) * (T 401 c 7))), vI 0, vI q, vI ((l * (T 100 c 5 + an_ (T 100 c 5) 1 - 1)) + q), vR 100 c, vR 106 0] T2 ?_
              have e6 : T2 100 c 5 = T 100 c 5 := hf_38 100 c 5 rfl
              have rb9 := rm9_b (e := T 100 c 5) (L := T 100 c 5 + an_ (T 100 c 5) 1 - 1) (f := b) (E := T 401 c 7) (M := T 106 0 4) (lg := T 401 c 6) (l := l) (q := q) (by omega) (by omega) hfx (by omega) (by omega)
              have ap3 := ap2.1
              have eR : T2 100 c 5 + an_ (T2 100 c 5) 1 - 1 = T 100 c 5 + an_ (T 100 c 5) 1 - 1 := by rw [e6]
              have y8 := sc_b (l := l) (q := q) (R := T 100 c 5 + an_ (T 100 c 5) 1 - 1) (L := T 401 c 6) (E := T 401 c 7) (b := b) (by omega) (by omega) (by omega) (by omega) hb.2
              refine j_callV (y := yX6_addRound) (Yc := zX6_addRound) (rest := []) [vR 100 c, vI ((l * (T 100 c 5 + an_ (T 100 c 5) 1 - 1)) + q), vI q, vI 0, vI (b + (((l * (T 100 c 5 + an_ (T 100 c 5) 1 - 1)) + q) * (T 401 c 7)))] (ct_X6_addRound_s (T := T2) (f := T 106 0 4) hc (by omega) (by omega) (by omega) (KEc_f hke hf_38 ⟨rfl, fun _ => rfl, fun _ => rfl⟩) (by rw [eR]; exact hrb2 q) (by omega) (by rw [e6]; omega)) cl_X6_70 (qd_c (by decide +kernel)) (by decide) rfl (by decide +kernel) (Nat.le_of_ble_eq_true rfl) (by show 18 ≤ (18 * ((4 - l) * 11 - q)).toNat; omega) (by show 204 ≤ (204 * ((4 - l) * 11 - q)).toNat; omega) rfl ?_
              rintro U7 _ ⟨rfl, fU7, qU7, odU7⟩
              show J_ zX6_schedule T (po_X6_schedule_s T c b) (((18 * (((4 : Int) - l) * 11 - q)).toNat) - 18) (((204 * (((4 : Int) - l) * 11 - q)).toNat) - 204) 87 _ [] U7
              refine j_blx (F := fX6) tb_X6 (nn_ _) bk_X6_schedule_s_87 bs_X6_schedule_s_87 hz (fun K hK => ?_)
              refine rg_i (by omega) ?_
              refine hK 38 [some (vR 106 0), some (vR 100 c), some (vI b), some (vI (T 100 c 5 + an_ (T 100 c 5) 1 - 1)), some (vI l), some (vI (q + 1)), some (vI ((l * (T 100 c 5 + an_ (T 100 c 5) 1 - 1)) + q))] [] U7 ?_
              refine j_drq [some (vR 106 0), some (vR 100 c), some (vI b), some (vI (T 100 c 5 + an_ (T 100 c 5) 1 - 1)), some (vI l), some (vI (q + 1)), none] (drq_s (drq_s (drq_s (drq_s (drq_s (drq_s (drq_n drq_0))))))) ?_
              refine j_mono (bc' := ((18 * (((4 : Int) - l) * 11 - (q + 1))).toNat)) (bs' := ((204 * (((4 : Int) - l) * 11 - (q + 1))).toNat)) (by omega) (by omega) ?_
              refine ih_38 _ ?_ (q + 1) U7 (Nat.le_refl _) ?_ ?_ ?_ ?_ ?_ ?_ ?_ ?_
              · have hm_38 := hm_38 (); omega
              · exact fr_t (fr_t (fr_0 _ _) (fr_s hf_38 rfl)) (fr_s fU7 rfl)
              · intro z; rw [sc_n]; exact rb_next (r' := z) (by rw [eR] at qU7; exact qU7) (by omega)
              · exact fun i j hi => (odU7.1 i j hi).trans (od2 i j hi)
              · exact fun i j hi => (fU7 100 i j rfl).trans (oc2 i j hi)
              · exact ⟨(fU7 100 _ _ rfl).trans s2.1, (fU7 100 _ _ rfl).trans s2.2⟩
              · omega
              · have ap := odU7.2.2.2.2
                rw [e6] at ap
                rw [show (q + 1).toNat = q.toNat + 1 by omega]
                show AP9_ T U7 c (rl9_ (T 100 c 5) (T 100 c 5 + an_ (T 100 c 5) 1 - 1) (q.toNat : Int) (l % 2) (l * (T 100 c 5 + an_ (T 100 c 5) 1 - 1) + (q.toNat : Int)) (b + (l * (T 100 c 5 + an_ (T 100 c 5) 1 - 1) + (q.toNat : Int)) * (T 401 c 7)) (((T 100 c 5 + an_ (T 100 c 5) 1 - 1) + 1) / 2).toNat (ll9_ (T 100 c 5) (T 100 c 5 + an_ (T 100 c 5) 1 - 1) l b (T 401 c 7) q.toNat (pl9_ (T 100 c 5) (T 100 c 5 + an_ (T 100 c 5) 1 - 1) b (T 401 c 7) l.toNat)))
                rw [show ((q.toNat : Nat) : Int) = q by omega, rl9_a, show (((T 100 c 5 + an_ (T 100 c 5) 1 - 1) + 1) / 2).toNat = ((T 100 c 5 + an_ (T 100 c 5) 1 - 1) / 2 + 1).toNat by omega, show l % 2 = 0 by omega]
                exact ap9_t ap2 ap (by omega) odU7.2.2.1 (fun j => hf_38 403 c j rfl)
              · exact sq8_t sk2 odU7.2.2.2.1 (by have z := ap2.1; omega) odU7.2.1
            · refine hK 72 [some (vR 106 0), some (vR 100 c), some (vI b), some (vI (T 100 c 5 + an_ (T 100 c 5) 1 - 1)), some (vI l), some (vI q), some (vI ((l * (T 100 c 5 + an_ (T 100 c 5) 1 - 1)) + q))] [vI 1, vI q, vI ((l * (T 100 c 5 + an_ (T 100 c 5) 1 - 1)) + q), vR 100 c, vR 106 0] T2 ?_
              refine j_blx (F := fX6) tb_X6 (nn_ _) bk_X6_schedule_s_72 bs_X6_schedule_s_72 hz (fun K hK => ?_)
              refine ix_i (by omega) ?_
              intro b9 b9b
              have e10 : T2 401 c 7 = T 401 c 7 := hf_38 401 c 7 rfl
              rw [e10] at b9 b9b ⊢
              refine rg_i (by omega) ?_
              refine rg_i (by have y8 := sc_b (l := l) (q := q) (R := T 100 c 5 + an_ (T 100 c 5) 1 - 1) (L := T 401 c 6) (E := T 401 c 7) (b := b) (by omega) (by omega) (by omega) (by omega) hb.2; omega) ?_
              refine hK 84 _ [vI (b + (((l * (T 100 c 5 + an_ (T 100 c 5) 1 - 1)) + q) * (T 401 c 7))), vI 1, vI q, vI ((l * (T 100 c 5 + an_ (T 100 c 5) 1 - 1)) + q), vR 100 c, vR 106 0] T2 ?_
              have e11 : T2 100 c 5 = T 100 c 5 := hf_38 100 c 5 rfl
              have rb9 := rm9_b (e := T 100 c 5) (L := T 100 c 5 + an_ (T 100 c 5) 1 - 1) (f := b) (E := T 401 c 7) (M := T 106 0 4) (lg := T 401 c 6) (l := l) (q := q) (by omega) (by omega) hfx (by omega) (by omega)
              have ap3 := ap2.1
              have eR : T2 100 c 5 + an_ (T2 100 c 5) 1 - 1 = T 100 c 5 + an_ (T 100 c 5) 1 - 1 := by rw [e11]
              have y8 := sc_b (l := l) (q := q) (R := T 100 c 5 + an_ (T 100 c 5) 1 - 1) (L := T 401 c 6) (E := T 401 c 7) (b := b) (by omega) (by omega) (by omega) (by omega) hb.2
              refine j_callV (y := yX6_addRound) (Yc := zX6_addRound) (rest := []) [vR 100 c, vI ((l * (T 100 c 5 + an_ (T 100 c 5) 1 - 1)) + q), vI q, vI 1, vI (b + (((l * (T 100 c 5 + an_ (T 100 c 5) 1 - 1)) + q) * (T 401 c 7)))] (ct_X6_addRound_s (T := T2) (f := T 106 0 4) hc (by omega) (by omega) (by omega) (KEc_f hke hf_38 ⟨rfl, fun _ => rfl, fun _ => rfl⟩) (by rw [eR]; exact hrb2 q) (by omega) (by rw [e11]; omega)) cl_X6_70 (qd_c (by decide +kernel)) (by decide) rfl (by decide +kernel) (Nat.le_of_ble_eq_true rfl) (by show 18 ≤ (18 * ((4 - l) * 11 - q)).toNat; omega) (by show 204 ≤ (204 * ((4 - l) * 11 - q)).toNat; omega) rfl ?_
              rintro U12 _ ⟨rfl, fU12, qU12, odU12⟩
              show J_ zX6_schedule T (po_X6_schedule_s T c b) (((18 * (((4 : Int) - l) * 11 - q)).toNat) - 18) (((204 * (((4 : Int) - l) * 11 - q)).toNat) - 204) 87 _ [] U12
              refine j_blx (F := fX6) tb_X6 (nn_ _) bk_X6_schedule_s_87 bs_X6_schedule_s_87 hz (fun K hK => ?_)
              refine rg_i (by omega) ?_
              refine hK 38 [some (vR 106 0), some (vR 100 c), some (vI b), some (vI (T 100 c 5 + an_ (T 100 c 5) 1 - 1)), some (vI l), some (vI (q + 1)), some (vI ((l * (T 100 c 5 + an_ (T 100 c 5) 1 - 1)) + q))] [] U12 ?_
              refine j_drq [some (vR 106 0), some (vR 100 c), some (vI b), some (vI (T 100 c 5 + an_ (T 100 c 5) 1 - 1)), some (vI l), some (vI (q + 1)), none] (drq_s (drq_s (drq_s (drq_s (drq_s (drq_s (drq_n drq_0))))))) ?_
              refine j_mono (bc' := ((18 * (((4 : Int) - l) * 11 - (q + 1))).toNat)) (bs' := ((204 * (((4 : Int) - l) * 11 - (q + 1))).toNat)) (by omega) (by omega) ?_
              refine ih_38 _ ?_ (q + 1) U12 (Nat.le_refl _) ?_ ?_ ?_ ?_ ?_ ?_ ?_ ?_
              · have hm_38 := hm_38 (); omega
              · exact fr_t (fr_t (fr_0 _ _) (fr_s hf_38 rfl)) (fr_s fU12 rfl)
              · intro z; rw [sc_n]; exact rb_next (r' := z) (by rw [eR] at qU12; exact qU12) (by omega)
              · exact fun i j hi => (odU12.1 i j hi).trans (od2 i j hi)
              · exact fun i j hi => (fU12 100 i j rfl).trans (oc2 i j hi)
              · exact ⟨(fU12 100 _ _ rfl).trans s2.1, (fU12 100 _ _ rfl).trans s2.2⟩
              · omega
              · have ap := odU12.2.2.2.2
                rw [e11] at ap
                rw [show (q + 1).toNat = q.toNat + 1 by omega]
                show AP9_ T U12 c (rl9_ (T 100 c 5) (T 100 c 5 + an_ (T 100 c 5) 1 - 1) (q.toNat : Int) (l % 2) (l * (T 100 c 5 + an_ (T 100 c 5) 1 - 1) + (q.toNat : Int)) (b + (l * (T 100 c 5 + an_ (T 100 c 5) 1 - 1) + (q.toNat : Int)) * (T 401 c 7)) (((T 100 c 5 + an_ (T 100 c 5) 1 - 1) + 1) / 2).toNat (ll9_ (T 100 c 5) (T 100 c 5 + an_ (T 100 c 5) 1 - 1) l b (T 401 c 7) q.toNat (pl9_ (T 100 c 5) (T 100 c 5 + an_ (T 100 c 5) 1 - 1) b (T 401 c 7) l.toNat)))
                rw [show ((q.toNat : Nat) : Int) = q by omega, rl9_a, show (((T 100 c 5 + an_ (T 100 c 5) 1 - 1) + 1) / 2).toNat = ((T 100 c 5 + an_ (T 100 c 5) 1 - 1) / 2 + 1).toNat by omega, show l % 2 = 1 by omega]
                exact ap9_t ap2 ap (by omega) odU12.2.2.1 (fun j => hf_38 403 c j rfl)
              · exact sq8_t sk2 odU12.2.2.2.1 (by have z := ap2.1; omega) odU12.2.1
      refine j_blx (F := fX6) tb_X6 (nn_ _) bk_X6_schedule_s_23 bs_X6_schedule_s_23 hz (fun K hK => ?_)
      refine ix_i (by omega) ?_
      intro b14 b14b
      have e15 : T1 401 c 6 = T 401 c 6 := hf_23 401 c 6 rfl
      rw [e15] at b14 b14b ⊢
      refine And.intro (fun c16 => ?_) (fun c16 => ?_)
      · refine hK 99 _ [] T1 ?_
        refine j_blx (F := fX6) tb_X6 (nn_ _) bk_X6_schedule_s_99 bs_X6_schedule_s_99 hz (fun K hK => ?_)
        intro b17 b17b
        intro b18 b18b
        refine rg_i (by omega) ?_
        refine bd_i (by omega) ?_
        refine x_nm (fun U19 hU19 => ?_)
        have e20 := up_f hU19
        refine (show po_X6_schedule_s T c b U19 (none) from ?_)
        have e21 : U19 106 0 4 = T1 106 0 4 := up_k hU19 (by exact Nat.ne_of_beq_eq_false rfl) 0 4
        have e22 : U19 106 0 4 = T1 106 0 4 := up_k hU19 (by exact Nat.ne_of_beq_eq_false rfl) 0 4
        have e23 : U19 100 c 7 = T1 100 c 7 := up_j hU19 (by decide) 100 c
        have e24 : U19 100 c 6 = T1 100 c 6 := up_j hU19 (by decide) 100 c
        have el : l = T 401 c 6 := by omega
        have ap7 := ap1
        rw [el] at ap7
        have ap8 : AP9_ T U19 c (pl9_ (T 100 c 5) (T 100 c 5 + an_ (T 100 c 5) 1 - 1) b (T 401 c 7) (T 401 c 6).toNat) := ⟨(up_k hU19 (by exact Nat.ne_of_beq_eq_false rfl) 0 4).trans ap7.1, fun k q hq => by have z := ap7.2 k q hq; have o : ∀ j, U19 102 (T 106 0 4 + k) j = T1 102 (T 106 0 4 + k) j := fun j => up_k hU19 (by exact Nat.ne_of_beq_eq_false rfl) _ _; rw [o 0, o 2, o 3, o 4, o 5, o 6, o 7, o 10]; exact z⟩
        have sk8 : SQ8_ T U19 := sq8_t sk1 (sq8_u hU19 (by decide)) (by have z := ap7.1; omega) (by have z : U19 106 0 4 = T1 106 0 4 := up_k hU19 (by exact Nat.ne_of_beq_eq_false rfl) 0 4; omega)
        have r1 := hrb1 0
        obtain ⟨r2, r3, r4, r5, r6⟩ := r1
        have k1 : ∀ k i j, k ≠ 100 → U19 k i j = T1 k i j := fun k i j hk => up_k hU19 hk _ _
        have r7 : RK_ U19 c (T 106 0 4) (T 100 c 5 + an_ (T 100 c 5) 1 - 1) 0 0 2000000 := by
          refine ⟨by rw [k1 106 0 4 (by decide)]; exact r2, fun i p q => ?_, fun i j p q w => ?_, fun i p q => ?_, NA_f r6 (show fr_ [(100, [6, 7, 8])] T1 U19 from fr_u (fr_0 _ _) hU19 rfl) ⟨rfl, rfl, rfl, rfl, rfl, rfl, rfl, rfl, rfl⟩⟩
          · rw [k1 106 0 4 (by decide)] at q
            obtain ⟨a1, a2, a3, a4, a5, a6⟩ := r3 i p q
            rw [k1 102 i 0 (by decide), k1 102 i 1 (by decide), k1 102 i 10 (by decide), k1 102 i 3 (by decide), k1 102 i 4 (by decide), k1 102 i 5 (by decide), k1 404 c _ (by decide), k1 404 c _ (by decide)]
            refine ⟨a1, a2, a3, a4, a5, Or.inl ?_⟩
            have y1 := a6
            have y2 : (b + (l * (T 100 c 5 + an_ (T 100 c 5) 1 - 1) + 0) * T 401 c 7) ≤ 1000000 := hmx
            omega
          · rw [k1 106 0 4 (by decide)] at w
            rw [k1 102 i 3 (by decide), k1 102 i 5 (by decide), k1 102 j 3 (by decide), k1 102 j 5 (by decide)]
            exact r4 i j p q w
          · rw [k1 106 0 4 (by decide)] at q
            rw [k1 523 0 i (by decide)]
            exact r5 i p q
        exact ⟨rfl, fr_u (fr_t (fr_0 _ _) (fr_s hf_23 rfl)) hU19 rfl, fun i j hi => (k1 102 i j (by decide)).trans (od1 i j hi), r7, by omega, fun i j hi => (up_g hU19 (fun z => hi z.2.1)).trans (oc1 i j hi), sk8, ap8⟩
      · refine hK 38 [some (vR 106 0), some (vR 100 c), some (vI b), some (vI (T 100 c 5 + an_ (T 100 c 5) 1 - 1)), some (vI l), some (vI 0), none] [] T1 ?_
        refine j_mono (bc' := ((18 * (((4 : Int) - l) * 11 - 0)).toNat)) (bs' := ((204 * (((4 : Int) - l) * 11 - 0)).toNat)) (by omega) (by omega) ?_
        refine c_38 _ 0 T1 (Nat.le_refl _) ?_ ?_ ?_ ?_ ?_ ?_ ?_ ?_
        · exact fr_t (fr_0 _ _) (fr_s hf_23 rfl)
        · exact hrb1
        · exact od1
        · exact oc1
        · exact s1
        · omega
        · exact ap1
        · exact sk1
  refine j_blx (F := fX6) tb_X6 (nn_ _) bk_X6_schedule_s_0 bs_X6_schedule_s_0 hz (fun K hK => ?_)
  refine bd_i (by omega) ?_
  refine x_nm (fun U25 hU25 => ?_)
  have e26 := up_f hU25
  intro b27 b27b
  have e28 : U25 106 0 4 = T 106 0 4 := up_k hU25 (by exact Nat.ne_of_beq_eq_false rfl) 0 4
  rw [e28] at b27 b27b ⊢
  refine bd_i (by omega) ?_
  refine x_nm (fun U29 hU29 => ?_)
  have e30 := up_f hU29
  refine hK 14 _ [vR 100 c] U29 ?_
  refine j_callV (y := yX0_placeCount) (Yc := zX0_placeCount) (rest := []) [] (ct_X0_placeCount (T := U29)) cl_X6_63 (qd_c (by decide +kernel)) (nn_ _) rfl (rf_of rfl) (Nat.le_of_ble_eq_true rfl) (Nat.le_of_ble_eq_true rfl) (Nat.le_of_ble_eq_true rfl) rfl ?_
  rintro _ _ ⟨rfl, rfl⟩
  have e31 : U29 100 c 5 + an_ (U29 100 c 5) 1 = T 100 c 5 + an_ (T 100 c 5) 1 := by rw [show _ = T 100 c 5 from (up_j hU29 (by decide) _ _).trans (up_j hU25 (by decide) _ _)]
  rw [e31]
  show J_ zX6_schedule T (po_X6_schedule_s T c b) 792 8976 17 _ [vI (T 100 c 5 + an_ (T 100 c 5) 1)] U29
  refine j_blx (F := fX6) tb_X6 (nn_ _) bk_X6_schedule_s_17 bs_X6_schedule_s_17 hz (fun K hK => ?_)
  refine rg_i (by omega) ?_
  refine hK 23 [some (vR 106 0), some (vR 100 c), some (vI b), some (vI ((T 100 c 5 + an_ (T 100 c 5) 1) - 1)), some (vI 0), none, none] [] U29 ?_
  refine j_mono (bc' := ((18 * (((4 : Int) - 0) * 11)).toNat)) (bs' := ((204 * (((4 : Int) - 0) * 11)).toNat)) (by omega) (by omega) ?_
  refine c_23 _ 0 U29 (Nat.le_refl _) ?_ ?_ ?_ ?_ ?_ ?_ ?_ ?_
  · exact fr_u (fr_u (fr_0 _ _) hU25 rfl) hU29 rfl
  · intro z; have y7 : U29 106 0 4 = T 106 0 4 := (up_k hU29 (by exact Nat.ne_of_beq_eq_false rfl) _ _).trans (up_k hU25 (by exact Nat.ne_of_beq_eq_false rfl) _ _); exact ⟨⟨by omega, by omega, by omega⟩, fun i p q => absurd q (by omega), fun i j p q w => absurd w (by omega), fun i p q => by rw [show _ = T 523 0 i from (up_k hU29 (by exact Nat.ne_of_beq_eq_false rfl) _ _).trans (up_k hU25 (by exact Nat.ne_of_beq_eq_false rfl) _ _)]; exact hka.2 i p (by omega), NA_f hna (show fr_ [(100, [6, 7, 8])] T U29 from fr_u (fr_u (fr_0 _ _) hU25 rfl) hU29 rfl) ⟨rfl, rfl, rfl, rfl, rfl, rfl, rfl, rfl, rfl⟩⟩
  · exact fun i j hi => (up_k hU29 (by exact Nat.ne_of_beq_eq_false rfl) _ _).trans (up_k hU25 (by exact Nat.ne_of_beq_eq_false rfl) _ _)
  · exact fun i j hi => (up_g hU29 (fun z => hi z.2.1)).trans (up_g hU25 (fun z => hi z.2.1))
  · exact ⟨up_f hU29, (up_j hU29 (by decide) _ _).trans (up_f hU25)⟩
  · omega
  · exact ap9_0 ((up_k hU29 (by exact Nat.ne_of_beq_eq_false rfl) _ _).trans (up_k hU25 (by exact Nat.ne_of_beq_eq_false rfl) _ _))
  · exact sq8_t (sq8_u hU25 (by decide)) (sq8_u hU29 (by decide)) (by have z : U25 106 0 4 = T 106 0 4 := up_k hU25 (by exact Nat.ne_of_beq_eq_false rfl) 0 4; omega) (by have z : U29 106 0 4 = U25 106 0 4 := up_k hU29 (by exact Nat.ne_of_beq_eq_false rfl) 0 4; omega)
theorem bk_X10_plan_s_0 : ck_ fX10 (some .int) cX10_plan 0 [.aload 0, .iload 1] 2 = true := qck_r (nn_ _) (by decide +kernel)
theorem bs_X10_plan_s_0 {P : Zt → Option Zv → Prop} (K : Int → Zl → List Zv → Zt → Prop) : sx_ K P [.aload 0, .iload 1] 2 = x_aload 0 (x_iload 1 (K 2)) := ((xe_aload 0).trans (congrArg (x_aload 0) ((xe_iload 1).trans (congrArg (x_iload 1) xe_nil))))
theorem bk_X10_plan_s_5 : ck_ fX10 (some .int) cX10_plan 5 [.ifCond .ne 11, .iconst (-2), .ireturn] 11 = true := qck_r (nn_ _) (by decide +kernel)
theorem bs_X10_plan_s_5 {P : Zt → Option Zv → Prop} (K : Int → Zl → List Zv → Zt → Prop) : sx_ K P [.ifCond .ne 11, .iconst (-2), .ireturn] 11 = x_ifCond .ne 11 K (x_iconst (-2) (x_ireturn P)) := ((xe_ifCond .ne 11).trans (congrArg (x_ifCond .ne 11 K) ((xe_iconst (-2)).trans (congrArg (x_iconst (-2)) (xe_ireturn)))))
theorem bk_X10_plan_s_11 : ck_ fX10 (some .int) cX10_plan 11 [.iload 2] 12 = true := qck_r (nn_ _) (by decide +kernel)
theorem bs_X10_plan_s_11 {P : Zt → Option Zv → Prop} (K : Int → Zl → List Zv → Zt → Prop) : sx_ K P [.iload 2] 12 = x_iload 2 (K 12) := ((xe_iload 2).trans (congrArg (x_iload 2) xe_nil))
theorem bk_X10_plan_s_15 : ck_ fX10 (some .int) cX10_plan 15 [.ifCond .eq 29, .iload 2, .aload 0, .tableswitch 0 10 1 #[], .tableswitch 0 8 13 #[], .if_icmp .ge 32, .iconst (-3), .ireturn] 32 = true := qck_r (nn_ _) (by decide +kernel)
theorem bs_X10_plan_s_15 {P : Zt → Option Zv → Prop} (K : Int → Zl → List Zv → Zt → Prop) : sx_ K P [.ifCond .eq 29, .iload 2, .aload 0, .tableswitch 0 10 1 #[], .tableswitch 0 8 13 #[], .if_icmp .ge 32, .iconst (-3), .ireturn] 32 = x_ifCond .eq 29 K (x_iload 2 (x_aload 0 (x_g1 110 108 (x_g0 108 13 0 999 (x_if_icmp .ge 32 K (x_iconst (-3) (x_ireturn P))))))) := ((xe_ifCond .eq 29).trans (congrArg (x_ifCond .eq 29 K) ((xe_iload 2).trans (congrArg (x_iload 2) ((xe_aload 0).trans (congrArg (x_aload 0) ((xe_g1 (kk := 110) rfl tl_10_1).trans (congrArg (x_g1 110 108) ((xe_g0 (kk := 108) rfl tl_8_13).trans (congrArg (x_g0 108 13 0 999) ((xe_if_icmp .ge 32).trans (congrArg (x_if_icmp .ge 32 K) ((xe_iconst (-3)).trans (congrArg (x_iconst (-3)) (xe_ireturn)))))))))))))))
theorem bk_X10_plan_s_29 : ck_ fX10 (some .int) cX10_plan 29 [.iconst (-3), .ireturn] 32 = true := qck_r (nn_ _) (by decide +kernel)
theorem bs_X10_plan_s_29 {P : Zt → Option Zv → Prop} (K : Int → Zl → List Zv → Zt → Prop) : sx_ K P [.iconst (-3), .ireturn] 32 = x_iconst (-3) (x_ireturn P) := ((xe_iconst (-3)).trans (congrArg (x_iconst (-3)) (xe_ireturn)))
theorem bk_X10_plan_s_32 : ck_ fX10 (some .int) cX10_plan 32 [.aload 0, .tableswitch 0 10 2 #[], .tableswitch 0 6 1 #[], .iload 1, .aaload, .astore 3, .aload 3, .tableswitch 0 0 6 #[], .ifCond .ne 69, .aload 3, .tableswitch 0 0 5 #[], .iconst 2, .if_icmp .lt 69, .iload 2, .aload 3] 59 = true := qck_r (nn_ _) (by decide +kernel)
theorem bs_X10_plan_s_32 {P : Zt → Option Zv → Prop} (K : Int → Zl → List Zv → Zt → Prop) : sx_ K P [.aload 0, .tableswitch 0 10 2 #[], .tableswitch 0 6 1 #[], .iload 1, .aaload, .astore 3, .aload 3, .tableswitch 0 0 6 #[], .ifCond .ne 69, .aload 3, .tableswitch 0 0 5 #[], .iconst 2, .if_icmp .lt 69, .iload 2, .aload 3] 59 = x_aload 0 (x_g1 110 106 (x_g1 106 521 (x_iload 1 (x_aaload (x_astore 3 (x_aload 3 (x_g0 100 6 0 1 (x_ifCond .ne 69 K (x_aload 3 (x_g0 100 5 0 12 (x_iconst 2 (x_if_icmp .lt 69 K (x_iload 2 (x_aload 3 (K 59))))))))))))))) := ((xe_aload 0).trans (congrArg (x_aload 0) ((xe_g1 (kk := 110) rfl tl_10_2).trans (congrArg (x_g1 110 106) ((xe_g1 (kk := 106) rfl tl_6_1).trans (congrArg (x_g1 106 521) ((xe_iload 1).trans (congrArg (x_iload 1) ((xe_aaload).trans (congrArg (x_aaload) ((xe_astore 3).trans (congrArg (x_astore 3) ((xe_aload 3).trans (congrArg (x_aload 3) ((xe_g0 (kk := 100) rfl tl_0_6).trans (congrArg (x_g0 100 6 0 1) ((xe_ifCond .ne 69).trans (congrArg (x_ifCond .ne 69 K) ((xe_aload 3).trans (congrArg (x_aload 3) ((xe_g0 (kk := 100) rfl tl_0_5).trans (congrArg (x_g0 100 5 0 12) ((xe_iconst 2).trans (congrArg (x_iconst 2) ((xe_if_icmp .lt 69).trans (congrArg (x_if_icmp .lt 69 K) ((xe_iload 2).trans (congrArg (x_iload 2) ((xe_aload 3).trans (congrArg (x_aload 3) xe_nil))))))))))))))))))))))))))))))
theorem bk_X10_plan_s_69 : ck_ fX10 (some .int) cX10_plan 69 [.iconst (-4), .ireturn] 72 = true := qck_r (nn_ _) (by decide +kernel)
theorem bs_X10_plan_s_69 {P : Zt → Option Zv → Prop} (K : Int → Zl → List Zv → Zt → Prop) : sx_ K P [.iconst (-4), .ireturn] 72 = x_iconst (-4) (x_ireturn P) := ((xe_iconst (-4)).trans (congrArg (x_iconst (-4)) (xe_ireturn)))
theorem bk_X10_plan_s_62 : ck_ fX10 (some .int) cX10_plan 62 [.iadd, .iconst 999, .if_icmp .le 72, .iconst (-4), .ireturn] 72 = true := qck_r (nn_ _) (by decide +kernel)
theorem bs_X10_plan_s_62 {P : Zt → Option Zv → Prop} (K : Int → Zl → List Zv → Zt → Prop) : sx_ K P [.iadd, .iconst 999, .if_icmp .le 72, .iconst (-4), .ireturn] 72 = x_iadd (x_iconst 999 (x_if_icmp .le 72 K (x_iconst (-4) (x_ireturn P)))) := ((xe_iadd).trans (congrArg (x_iadd) ((xe_iconst 999).trans (congrArg (x_iconst 999) ((xe_if_icmp .le 72).trans (congrArg (x_if_icmp .le 72 K) ((xe_iconst (-4)).trans (congrArg (x_iconst (-4)) (xe_ireturn)))))))))
theorem bk_X10_plan_s_72 : ck_ fX10 (some .int) cX10_plan 72 [.aload 0, .tableswitch 0 10 2 #[], .tableswitch 0 6 4 #[], .aload 3] 80 = true := qck_r (nn_ _) (by decide +kernel)
theorem bs_X10_plan_s_72 {P : Zt → Option Zv → Prop} (K : Int → Zl → List Zv → Zt → Prop) : sx_ K P [.aload 0, .tableswitch 0 10 2 #[], .tableswitch 0 6 4 #[], .aload 3] 80 = x_aload 0 (x_g1 110 106 (x_g0 106 4 0 400 (x_aload 3 (K 80)))) := ((xe_aload 0).trans (congrArg (x_aload 0) ((xe_g1 (kk := 110) rfl tl_10_2).trans (congrArg (x_g1 110 106) ((xe_g0 (kk := 106) rfl tl_6_4).trans (congrArg (x_g0 106 4 0 400) ((xe_aload 3).trans (congrArg (x_aload 3) xe_nil))))))))
theorem bk_X10_plan_s_83 : ck_ fX10 (some .int) cX10_plan 83 [.iadd, .iconst 400, .if_icmp .le 93, .iconst (-5), .ireturn] 93 = true := qck_r (nn_ _) (by decide +kernel)
theorem bs_X10_plan_s_83 {P : Zt → Option Zv → Prop} (K : Int → Zl → List Zv → Zt → Prop) : sx_ K P [.iadd, .iconst 400, .if_icmp .le 93, .iconst (-5), .ireturn] 93 = x_iadd (x_iconst 400 (x_if_icmp .le 93 K (x_iconst (-5) (x_ireturn P)))) := ((xe_iadd).trans (congrArg (x_iadd) ((xe_iconst 400).trans (congrArg (x_iconst 400) ((xe_if_icmp .le 93).trans (congrArg (x_if_icmp .le 93 K) ((xe_iconst (-5)).trans (congrArg (x_iconst (-5)) (xe_ireturn)))))))))
theorem bk_X10_plan_s_93 : ck_ fX10 (some .int) cX10_plan 93 [.aload 0, .tableswitch 0 10 2 #[], .aload 3, .iload 2] 99 = true := qck_r (nn_ _) (by decide +kernel)
theorem bs_X10_plan_s_93 {P : Zt → Option Zv → Prop} (K : Int → Zl → List Zv → Zt → Prop) : sx_ K P [.aload 0, .tableswitch 0 10 2 #[], .aload 3, .iload 2] 99 = x_aload 0 (x_g1 110 106 (x_aload 3 (x_iload 2 (K 99)))) := ((xe_aload 0).trans (congrArg (x_aload 0) ((xe_g1 (kk := 110) rfl tl_10_2).trans (congrArg (x_g1 110 106) ((xe_aload 3).trans (congrArg (x_aload 3) ((xe_iload 2).trans (congrArg (x_iload 2) xe_nil))))))))
theorem bk_X10_plan_s_102 : ck_ fX10 (some .int) cX10_plan 102 [.aload 3, .tableswitch 0 0 7 #[], .ireturn] 107 = true := qck_r (nn_ _) (by decide +kernel)
theorem bs_X10_plan_s_102 {P : Zt → Option Zv → Prop} (K : Int → Zl → List Zv → Zt → Prop) : sx_ K P [.aload 3, .tableswitch 0 0 7 #[], .ireturn] 107 = x_aload 3 (x_g0 100 7 0 400 (x_ireturn P)) := ((xe_aload 3).trans (congrArg (x_aload 3) ((xe_g0 (kk := 100) rfl tl_0_7).trans (congrArg (x_g0 100 7 0 400) (xe_ireturn)))))
abbrev po_X10_plan_s (T : Zt) (c b : Int) : Zt → Option Zv → Prop := fun T' r => ∃ x : Int, r = some (vI x) ∧ (T' = T ∨ SJ_ T T' c) ∧ PH9_ T T' c b x ∧ SQ8_ T T'
set_option maxHeartbeats 4000000 in
theorem ct_X10_plan_s {T : Zt} {c b : Int} (hka : KA_ T) (hke : KE_ T) (hkb : KB_ T) (hna : NA_ T) : Ct_ yX10_plan zX10_plan T [vR 110 0, vI c, vI b] (po_X10_plan_s T c b) := by
  refine ct_of pn_10 rfl rfl (Nat.le_of_ble_eq_true rfl) (fun hT hav => ?_)
  have hr_c : -2147483648 ≤ c ∧ c ≤ 2147483647 := hav (vI c) (List.mem_cons_of_mem _ List.mem_cons_self)
  have hr_b : -2147483648 ≤ b ∧ b ≤ 2147483647 := hav (vI b) (List.mem_cons_of_mem _ (List.mem_cons_of_mem _ List.mem_cons_self))
  have hz : zX10_plan.2.2.2.1 = some .boolean → ∀ (T' : Zt) (x : Int), po_X10_plan_s T c b T' (some (vI x)) → 0 ≤ x ∧ x ≤ 1 := fun h => by cases h
  have hb_matchCount : 0 ≤ T 106 0 4 ∧ T 106 0 4 ≤ 400 := bd_f hT 106 4 tl_6_4 0
  have hb_competitionCount : 0 ≤ T 106 0 2 ∧ T 106 0 2 ≤ 4 := bd_f hT 106 2 tl_6_2 0
  have hb5 : 0 ≤ T 100 c 5 ∧ T 100 c 5 ≤ 12 := bd_f hT 100 5 tl_0_5 c
  show J_ zX10_plan T (po_X10_plan_s T c b) 792 8976 0 [some (vR 110 0), some (vI c), some (vI b), none] [] T
  refine j_blx (F := fX10) tb_X10 (nn_ _) bk_X10_plan_s_0 bs_X10_plan_s_0 hz (fun K hK => ?_)
  refine hK 2 _ [vI c, vR 110 0] T ?_
  refine j_callV (y := yX10_isCompetition) (Yc := zX10_isCompetition) (rest := []) [vI c] (ct_X10_isCompetition (T := T)) cl_X10_107 (qd_c (by decide +kernel)) (nn_ _) rfl (rf_of rfl) (Nat.le_of_ble_eq_true rfl) (Nat.le_of_ble_eq_true rfl) (Nat.le_of_ble_eq_true rfl) rfl ?_
  rintro _ _ ⟨rfl, x1, rfl, hx1⟩
  show J_ zX10_plan T (po_X10_plan_s T c b) 792 8976 5 _ [vI x1] T
  refine j_blx (F := fX10) tb_X10 (nn_ _) bk_X10_plan_s_5 bs_X10_plan_s_5 hz (fun K hK => ?_)
  refine And.intro (fun c2 => ?_) (fun c2 => ?_)
  · replace hx1 := hx1.resolve_right (fun z => c2 z.1)
    clear c2
    refine hK 11 _ [] T ?_
    refine j_blx (F := fX10) tb_X10 (nn_ _) bk_X10_plan_s_11 bs_X10_plan_s_11 hz (fun K hK => ?_)
    refine hK 12 _ [vI b] T ?_
    refine j_callS (y := yX10_isDay) (Yc := zX10_isDay) (rest := []) [vI b] (ct_X10_isDay (T := T)) cl_X10_140 (qd_c (by decide +kernel)) (nn_ _) rfl (rf_of rfl) (Nat.le_of_ble_eq_true rfl) (Nat.le_of_ble_eq_true rfl) (Nat.le_of_ble_eq_true rfl) rfl ?_
    rintro _ _ ⟨rfl, x3, rfl, hx3⟩
    show J_ zX10_plan T (po_X10_plan_s T c b) 792 8976 15 _ [vI x3] T
    refine j_blx (F := fX10) tb_X10 (nn_ _) bk_X10_plan_s_15 bs_X10_plan_s_15 hz (fun K hK => ?_)
    refine And.intro (fun c4 => ?_) (fun c4 => ?_)
    · replace hx3 := hx3.resolve_left (fun z => absurd (c4.symm.trans z.1) (by decide))
      clear c4
      refine hK 29 _ [] T ?_
      refine j_blx (F := fX10) tb_X10 (nn_ _) bk_X10_plan_s_29 bs_X10_plan_s_29 hz (fun K hK => ?_)
      refine (show po_X10_plan_s T c b T (some (vI (-3))) from ?_)
      exact ⟨_, rfl, Or.inl rfl, Or.inl ⟨rfl, Or.inr (Or.inl ⟨by omega, rfl, by omega⟩)⟩, sq8_r⟩
    · replace hx3 := hx3.resolve_right (fun z => c4 z.1)
      clear c4
      intro b5 b5b
      refine And.intro (fun c6 => ?_) (fun c6 => ?_)
      · refine hK 32 _ [] T ?_
        refine j_blx (F := fX10) tb_X10 (nn_ _) bk_X10_plan_s_32 bs_X10_plan_s_32 hz (fun K hK => ?_)
        refine ix_i (by omega) ?_
        refine And.intro (fun c7 => ?_) (fun c7 => ?_)
        · exact absurd (show T 521 0 c = 0 by omega) (hka.1 _ (by omega) (by omega))
        · have hB := hkb c (by omega) (by omega)
          intro b8 b8b
          refine And.intro (fun c9 => ?_) (fun c9 => ?_)
          · refine hK 69 [some (vR 110 0), some (vI c), some (vI b), some (vR 100 c)] [] T ?_
            refine j_blx (F := fX10) tb_X10 (nn_ _) bk_X10_plan_s_69 bs_X10_plan_s_69 hz (fun K hK => ?_)
            refine (show po_X10_plan_s T c b T (some (vI (-4))) from ?_)
            exact ⟨_, rfl, Or.inl rfl, Or.inl ⟨rfl, Or.inr (Or.inr (Or.inl ⟨by omega, by omega, rfl, by omega⟩))⟩, sq8_r⟩
          · intro b10 b10b
            refine And.intro (fun c11 => ?_) (fun c11 => ?_)
            · refine hK 69 _ [] T ?_
              refine j_blx (F := fX10) tb_X10 (nn_ _) bk_X10_plan_s_69 bs_X10_plan_s_69 hz (fun K hK => ?_)
              refine (show po_X10_plan_s T c b T (some (vI (-4))) from ?_)
              exact ⟨_, rfl, Or.inl rfl, Or.inl ⟨rfl, Or.inr (Or.inr (Or.inl ⟨by omega, by omega, rfl, by omega⟩))⟩, sq8_r⟩
            · refine hK 59 _ [vR 100 c, vI b] T ?_
              refine j_callV (y := yX0_daysFromFirstToLast) (Yc := zX0_daysFromFirstToLast) (rest := [vI b]) [] (ct_X0_daysFromFirstToLast (T := T) (by exact hB.1) (by exact hB.2) (by omega)) cl_X10_178 (qd_c (by decide +kernel)) (nn_ _) rfl (rf_of rfl) (Nat.le_of_ble_eq_true rfl) (Nat.le_of_ble_eq_true rfl) (Nat.le_of_ble_eq_true rfl) rfl ?_
              rintro _ _ ⟨rfl, x12, rfl, hx12⟩
              show J_ zX10_plan T (po_X10_plan_s T c b) 792 8976 62 _ [vI x12, vI b] T
              refine j_blx (F := fX10) tb_X10 (nn_ _) bk_X10_plan_s_62 bs_X10_plan_s_62 hz (fun K hK => ?_)
              have hp1 := an_1b (T 100 c 5)
              have y9 := dy_b (R := T 100 c 5 + an_ (T 100 c 5) 1 - 1) (x := x12) hB ⟨by omega, by omega, hx12⟩
              refine rg_i (by omega) ?_
              refine And.intro (fun c13 => ?_) (fun c13 => ?_)
              · refine hK 72 _ [] T ?_
                refine j_blx (F := fX10) tb_X10 (nn_ _) bk_X10_plan_s_72 bs_X10_plan_s_72 hz (fun K hK => ?_)
                intro b14 b14b
                refine hK 80 _ [vR 100 c, vI (T 106 0 4)] T ?_
                refine j_callV (y := yX0_fixtureCount) (Yc := zX0_fixtureCount) (rest := [vI (T 106 0 4)]) [] (ct_X0_fixtureCount_e (T := T) (by exact hB.1) (by omega)) cl_X10_185 (qd_c (by decide +kernel)) (nn_ _) rfl (rf_of rfl) (Nat.le_of_ble_eq_true rfl) (Nat.le_of_ble_eq_true rfl) (Nat.le_of_ble_eq_true rfl) rfl ?_
                rintro _ _ ⟨rfl, x15, rfl, hx15⟩
                show J_ zX10_plan T (po_X10_plan_s T c b) 792 8976 83 _ [vI x15, vI (T 106 0 4)] T
                refine j_blx (F := fX10) tb_X10 (nn_ _) bk_X10_plan_s_83 bs_X10_plan_s_83 hz (fun K hK => ?_)
                refine rg_i (by omega) ?_
                refine And.intro (fun c16 => ?_) (fun c16 => ?_)
                · refine hK 93 _ [] T ?_
                  refine j_blx (F := fX10) tb_X10 (nn_ _) bk_X10_plan_s_93 bs_X10_plan_s_93 hz (fun K hK => ?_)
                  refine hK 99 _ [vI b, vR 100 c, vR 106 0] T ?_
                  refine j_callV (y := yX6_schedule) (Yc := zX6_schedule) (rest := []) [vR 100 c, vI b] (ct_X6_schedule_s (T := T) (by omega) hB.1 hB.2 (by omega) (by omega) (hke c (by omega) (by omega)) hka hna (by omega)) cl_X10_188 (qd_c (by decide +kernel)) (nn_ _) rfl (rf_of rfl) (Nat.le_of_ble_eq_true rfl) (Nat.le_of_ble_eq_true rfl) (Nat.le_of_ble_eq_true rfl) rfl ?_
                  rintro U17 _ ⟨rfl, fU17, odU17, qU17, tU17, ocU17, skU17, apU17⟩
                  show J_ zX10_plan T (po_X10_plan_s T c b) 0 0 102 _ [] U17
                  refine j_blx (F := fX10) tb_X10 (nn_ _) bk_X10_plan_s_102 bs_X10_plan_s_102 hz (fun K hK => ?_)
                  intro b19 b19b
                  refine (show po_X10_plan_s T c b U17 (some (vI (U17 100 c 7))) from ?_)
                  have sj : SJ_ T U17 c := ⟨⟨by omega, by omega, by omega⟩, fU17, odU17, qU17, tU17, ocU17⟩
                  exact ⟨_, rfl, Or.inr sj, Or.inr ⟨by omega, by omega, by omega, by omega, by omega, by omega, by omega, sj, apU17⟩, skU17⟩
                · refine (show po_X10_plan_s T c b T (some (vI (-5))) from ?_)
                  exact ⟨_, rfl, Or.inl rfl, Or.inl ⟨rfl, Or.inr (Or.inr (Or.inr ⟨by omega, by omega, by omega, by omega, by omega, rfl, by omega⟩))⟩, sq8_r⟩
              · refine (show po_X10_plan_s T c b T (some (vI (-4))) from ?_)
                exact ⟨_, rfl, Or.inl rfl, Or.inl ⟨rfl, Or.inr (Or.inr (Or.inl ⟨by omega, by omega, rfl, by omega⟩))⟩, sq8_r⟩
      · refine (show po_X10_plan_s T c b T (some (vI (-3))) from ?_)
        exact ⟨_, rfl, Or.inl rfl, Or.inl ⟨rfl, Or.inr (Or.inl ⟨by omega, rfl, by omega⟩)⟩, sq8_r⟩
  · replace hx1 := hx1.resolve_left (fun z => absurd (c2.symm.trans z.1) (by decide))
    clear c2
    refine (show po_X10_plan_s T c b T (some (vI (-2))) from ?_)
    exact ⟨_, rfl, Or.inl rfl, Or.inl ⟨rfl, Or.inl ⟨rfl, by omega⟩⟩, sq8_r⟩
theorem bk_X10_competition_s_0 : ck_ fX10 (some .int) cX10_competition 0 [.aload 0, .tableswitch 0 10 2 #[], .tableswitch 0 6 2 #[], .iconst 4, .if_icmp .lt 22, .aload 0, .tableswitch 0 10 0 #[], .iconst (-1), .tableswitch 1 5 3 #[], .iconst (-5), .ireturn] 22 = true := qck_r (nn_ _) (by decide +kernel)
theorem bs_X10_competition_s_0 {P : Zt → Option Zv → Prop} (K : Int → Zl → List Zv → Zt → Prop) : sx_ K P [.aload 0, .tableswitch 0 10 2 #[], .tableswitch 0 6 2 #[], .iconst 4, .if_icmp .lt 22, .aload 0, .tableswitch 0 10 0 #[], .iconst (-1), .tableswitch 1 5 3 #[], .iconst (-5), .ireturn] 22 = x_aload 0 (x_g1 110 106 (x_g0 106 2 0 4 (x_iconst 4 (x_if_icmp .lt 22 K (x_aload 0 (x_g1 110 105 (x_iconst (-1) (x_p 105 3 (-1) 400 (x_iconst (-5) (x_ireturn P)))))))))) := ((xe_aload 0).trans (congrArg (x_aload 0) ((xe_g1 (kk := 110) rfl tl_10_2).trans (congrArg (x_g1 110 106) ((xe_g0 (kk := 106) rfl tl_6_2).trans (congrArg (x_g0 106 2 0 4) ((xe_iconst 4).trans (congrArg (x_iconst 4) ((xe_if_icmp .lt 22).trans (congrArg (x_if_icmp .lt 22 K) ((xe_aload 0).trans (congrArg (x_aload 0) ((xe_g1 (kk := 110) rfl tl_10_0).trans (congrArg (x_g1 110 105) ((xe_iconst (-1)).trans (congrArg (x_iconst (-1)) ((xe_p (kk := 105) rfl tl_5_3).trans (congrArg (x_p 105 3 (-1) 400) ((xe_iconst (-5)).trans (congrArg (x_iconst (-5)) (xe_ireturn)))))))))))))))))))))
theorem bk_X10_competition_s_22 : ck_ fX10 (some .int) cX10_competition 22 [.aload 0, .tableswitch 0 10 0 #[]] 26 = true := qck_r (nn_ _) (by decide +kernel)
theorem bs_X10_competition_s_22 {P : Zt → Option Zv → Prop} (K : Int → Zl → List Zv → Zt → Prop) : sx_ K P [.aload 0, .tableswitch 0 10 0 #[]] 26 = x_aload 0 (x_g1 110 105 (K 26)) := ((xe_aload 0).trans (congrArg (x_aload 0) ((xe_g1 (kk := 110) rfl tl_10_0).trans (congrArg (x_g1 110 105) xe_nil))))
theorem bk_X10_competition_s_29 : ck_ fX10 (some .int) cX10_competition 29 [.istore 1, .aload 0, .tableswitch 0 10 0 #[], .iconst 0, .tableswitch 1 5 1 #[], .iload 1, .ifCond .ne 53, .iconst (-10), .aload 0, .tableswitch 0 10 0 #[], .tableswitch 0 5 2 #[], .isub, .ireturn] 53 = true := qck_r (nn_ _) (by decide +kernel)
theorem bs_X10_competition_s_29 {P : Zt → Option Zv → Prop} (K : Int → Zl → List Zv → Zt → Prop) : sx_ K P [.istore 1, .aload 0, .tableswitch 0 10 0 #[], .iconst 0, .tableswitch 1 5 1 #[], .iload 1, .ifCond .ne 53, .iconst (-10), .aload 0, .tableswitch 0 10 0 #[], .tableswitch 0 5 2 #[], .isub, .ireturn] 53 = x_istore 1 (x_aload 0 (x_g1 110 105 (x_iconst 0 (x_p 105 1 0 400 (x_iload 1 (x_ifCond .ne 53 K (x_iconst (-10) (x_aload 0 (x_g1 110 105 (x_g0 105 2 0 5 (x_isub (x_ireturn P)))))))))))) := ((xe_istore 1).trans (congrArg (x_istore 1) ((xe_aload 0).trans (congrArg (x_aload 0) ((xe_g1 (kk := 110) rfl tl_10_0).trans (congrArg (x_g1 110 105) ((xe_iconst 0).trans (congrArg (x_iconst 0) ((xe_p (kk := 105) rfl tl_5_1).trans (congrArg (x_p 105 1 0 400) ((xe_iload 1).trans (congrArg (x_iload 1) ((xe_ifCond .ne 53).trans (congrArg (x_ifCond .ne 53 K) ((xe_iconst (-10)).trans (congrArg (x_iconst (-10)) ((xe_aload 0).trans (congrArg (x_aload 0) ((xe_g1 (kk := 110) rfl tl_10_0).trans (congrArg (x_g1 110 105) ((xe_g0 (kk := 105) rfl tl_5_2).trans (congrArg (x_g0 105 2 0 5) ((xe_isub).trans (congrArg (x_isub) (xe_ireturn)))))))))))))))))))))))))
theorem bk_X10_competition_s_53 : ck_ fX10 (some .int) cX10_competition 53 [.aload 0, .tableswitch 0 10 2 #[], .tableswitch 0 6 2 #[], .istore 2, .aload 0, .tableswitch 0 10 2 #[], .tableswitch 0 6 1 #[], .iload 2] 69 = true := qck_r (nn_ _) (by decide +kernel)
theorem bs_X10_competition_s_53 {P : Zt → Option Zv → Prop} (K : Int → Zl → List Zv → Zt → Prop) : sx_ K P [.aload 0, .tableswitch 0 10 2 #[], .tableswitch 0 6 2 #[], .istore 2, .aload 0, .tableswitch 0 10 2 #[], .tableswitch 0 6 1 #[], .iload 2] 69 = x_aload 0 (x_g1 110 106 (x_g0 106 2 0 4 (x_istore 2 (x_aload 0 (x_g1 110 106 (x_g1 106 521 (x_iload 2 (K 69)))))))) := ((xe_aload 0).trans (congrArg (x_aload 0) ((xe_g1 (kk := 110) rfl tl_10_2).trans (congrArg (x_g1 110 106) ((xe_g0 (kk := 106) rfl tl_6_2).trans (congrArg (x_g0 106 2 0 4) ((xe_istore 2).trans (congrArg (x_istore 2) ((xe_aload 0).trans (congrArg (x_aload 0) ((xe_g1 (kk := 110) rfl tl_10_2).trans (congrArg (x_g1 110 106) ((xe_g1 (kk := 106) rfl tl_6_1).trans (congrArg (x_g1 106 521) ((xe_iload 2).trans (congrArg (x_iload 2) xe_nil))))))))))))))))
theorem bk_X10_competition_s_72 : ck_ fX10 (some .int) cX10_competition 72 [.dup, .iload 2, .aload 0, .tableswitch 0 10 0 #[], .tableswitch 0 5 4 #[]] 81 = true := qck_r (nn_ _) (by decide +kernel)
theorem bs_X10_competition_s_72 {P : Zt → Option Zv → Prop} (K : Int → Zl → List Zv → Zt → Prop) : sx_ K P [.dup, .iload 2, .aload 0, .tableswitch 0 10 0 #[], .tableswitch 0 5 4 #[]] 81 = x_dup (x_iload 2 (x_aload 0 (x_g1 110 105 (x_g1 105 504 (K 81))))) := ((xe_dup).trans (congrArg (x_dup) ((xe_iload 2).trans (congrArg (x_iload 2) ((xe_aload 0).trans (congrArg (x_aload 0) ((xe_g1 (kk := 110) rfl tl_10_0).trans (congrArg (x_g1 110 105) ((xe_g1 (kk := 105) rfl tl_5_4).trans (congrArg (x_g1 105 504) xe_nil))))))))))
theorem bk_X10_competition_s_87 : ck_ fX10 (some .int) cX10_competition 87 [.aload 0, .tableswitch 0 10 0 #[], .tableswitch 0 5 5 #[]] 94 = true := qck_r (nn_ _) (by decide +kernel)
theorem bs_X10_competition_s_87 {P : Zt → Option Zv → Prop} (K : Int → Zl → List Zv → Zt → Prop) : sx_ K P [.aload 0, .tableswitch 0 10 0 #[], .tableswitch 0 5 5 #[]] 94 = x_aload 0 (x_g1 110 105 (x_g1 105 505 (K 94))) := ((xe_aload 0).trans (congrArg (x_aload 0) ((xe_g1 (kk := 110) rfl tl_10_0).trans (congrArg (x_g1 110 105) ((xe_g1 (kk := 105) rfl tl_5_5).trans (congrArg (x_g1 105 505) xe_nil))))))
theorem bk_X10_competition_s_104 : ck_ fX10 (some .int) cX10_competition 104 [.aload 0, .tableswitch 0 10 2 #[], .dup, .tableswitch 0 6 2 #[], .iconst 1, .iadd, .tableswitch 1 6 2 #[], .iload 2, .ireturn] 119 = true := qck_r (nn_ _) (by decide +kernel)
theorem bs_X10_competition_s_104 {P : Zt → Option Zv → Prop} (K : Int → Zl → List Zv → Zt → Prop) : sx_ K P [.aload 0, .tableswitch 0 10 2 #[], .dup, .tableswitch 0 6 2 #[], .iconst 1, .iadd, .tableswitch 1 6 2 #[], .iload 2, .ireturn] 119 = x_aload 0 (x_g1 110 106 (x_dup (x_g0 106 2 0 4 (x_iconst 1 (x_iadd (x_p 106 2 0 4 (x_iload 2 (x_ireturn P)))))))) := ((xe_aload 0).trans (congrArg (x_aload 0) ((xe_g1 (kk := 110) rfl tl_10_2).trans (congrArg (x_g1 110 106) ((xe_dup).trans (congrArg (x_dup) ((xe_g0 (kk := 106) rfl tl_6_2).trans (congrArg (x_g0 106 2 0 4) ((xe_iconst 1).trans (congrArg (x_iconst 1) ((xe_iadd).trans (congrArg (x_iadd) ((xe_p (kk := 106) rfl tl_6_2).trans (congrArg (x_p 106 2 0 4) ((xe_iload 2).trans (congrArg (x_iload 2) (xe_ireturn)))))))))))))))))
abbrev po_X10_competition_s (T : Zt) : Zt → Option Zv → Prop := fun T' r => ∃ x : Int, r = some (vI x) ∧ (fr_ [(105, [7, 8, 9, 2, 3, 6, 1]), (504, []), (505, [])] T T' ∨ nc_ T T') ∧ CH9_ T T' x ∧ CNN_ T T'
set_option maxHeartbeats 4000000 in
theorem ct_X10_competition_s {T : Zt} (hna : NA_ T) : Ct_ yX10_competition zX10_competition T [vR 110 0] (po_X10_competition_s T) := by
  refine ct_of pn_10 rfl rfl (Nat.le_of_ble_eq_true rfl) (fun hT hav => ?_)
  have hz : zX10_competition.2.2.2.1 = some .boolean → ∀ (T' : Zt) (x : Int), po_X10_competition_s T T' (some (vI x)) → 0 ≤ x ∧ x ≤ 1 := fun h => by cases h
  have hb_competitionCount : 0 ≤ T 106 0 2 ∧ T 106 0 2 ≤ 4 := bd_f hT 106 2 tl_6_2 0
  show J_ zX10_competition T (po_X10_competition_s T) 5 57 0 [some (vR 110 0), none, none] [] T
  refine j_blx (F := fX10) tb_X10 (nn_ _) bk_X10_competition_s_0 bs_X10_competition_s_0 hz (fun K hK => ?_)
  intro b1 b1b
  refine And.intro (fun c2 => ?_) (fun c2 => ?_)
  · refine hK 22 _ [] T ?_
    refine j_blx (F := fX10) tb_X10 (nn_ _) bk_X10_competition_s_22 bs_X10_competition_s_22 hz (fun K hK => ?_)
    refine hK 26 _ [vR 105 0] T ?_
    refine j_callV (y := yX5_read) (Yc := zX5_read) (rest := []) [] (ct_X5_read_e (T := T)) cl_X10_80 (qd_c (by decide +kernel)) (nn_ _) rfl (rf_of rfl) (Nat.le_of_ble_eq_true rfl) (Nat.le_of_ble_eq_true rfl) (Nat.le_of_ble_eq_true rfl) rfl ?_
    rintro U3 _ ⟨x4, rfl, fU3, qU3⟩
    show J_ zX10_competition T (po_X10_competition_s T) 5 57 29 _ [vI x4] U3
    refine j_blx (F := fX10) tb_X10 (nn_ _) bk_X10_competition_s_29 bs_X10_competition_s_29 hz (fun K hK => ?_)
    refine bd_i (by omega) ?_
    refine x_nm (fun U5 hU5 => ?_)
    have e6 := up_f hU5
    refine And.intro (fun c7 => ?_) (fun c7 => ?_)
    · refine hK 53 [some (vR 110 0), some (vI x4), none] [] U5 ?_
      refine j_blx (F := fX10) tb_X10 (nn_ _) bk_X10_competition_s_53 bs_X10_competition_s_53 hz (fun K hK => ?_)
      intro b8 b8b
      have e9 : U5 106 0 2 = T 106 0 2 := (up_k hU5 (by exact Nat.ne_of_beq_eq_false rfl) 0 2).trans (fU3 106 0 2 rfl)
      rw [e9] at b8 b8b ⊢
      refine hK 69 [some (vR 110 0), some (vI x4), some (vI (T 106 0 2))] [vI (T 106 0 2), vR 521 0] U5 ?_
      have e11 : U5 150 (T 106 0 2) (-1) = T 150 (T 106 0 2) (-1) := (up_k hU5 (by exact Nat.ne_of_beq_eq_false rfl) (T 106 0 2) (-1)).trans (fU3 150 (T 106 0 2) (-1) rfl)
      have hv1 : ∀ k : Nat, ow_ k = some 100 → ¬ T k (T 106 0 2) (-1) = 1 := fun k hk h => (hT.2.2.2.2.2.2.2.1 k _ 100 hk h).elim (hna.2.1 _ (by omega)) (hna.1.1 _)
      refine j_newO (bc' := 4) (bs' := 48) (pc := 69) (ci := 0) (i := T 106 0 2) (by decide) (by decide) vi_0 tyX0_ok (nf_0 _) (lwq_3 (dqc_m (dqc_m (List.mem_of_getElem? (i := 1) rfl))) rfl : Cond.classLink RX10 91 RX0 ∈ lw_g) (lwq_3 (dqc_m (dqc_m (List.mem_of_getElem? (i := 2) rfl))) rfl : Cond.instantiable RX0 9 ∈ lw_g) (lwq_1 (dqa_m (List.mem_of_getElem? (i := 7) rfl)) rfl : Cond.initialized RX0 ∈ lw_g) (by show ¬ U5 150 (T 106 0 2) (-1) = 1; rw [e11]; exact hna.1.1 _) (by omega) (by omega) (by decide +kernel) ?_
      refine j_nm (fun U10 hU10 => ?_)
      have fU10 := nu_fr hU10
      have zU10 := nu_tz hU10
      have oU10 := nu_to hU10
      have vU10 := nu_tv hU10
      show J_ zX10_competition T (po_X10_competition_s T) 4 48 72 _ [vR 150 (T 106 0 2), vI (T 106 0 2), vR 521 0] U10
      refine j_blx (F := fX10) tb_X10 (nn_ _) bk_X10_competition_s_72 bs_X10_competition_s_72 hz (fun K hK => ?_)
      refine hK 81 _ [vR 504 0, vI (T 106 0 2), vR 150 (T 106 0 2), vR 150 (T 106 0 2), vI (T 106 0 2), vR 521 0] U10 ?_
      have e12 : U10 401 (T 106 0 2) (-1) = T 401 (T 106 0 2) (-1) := (fU10 401 (T 106 0 2) (-1) rfl).trans ((up_k hU5 (by exact Nat.ne_of_beq_eq_false rfl) (T 106 0 2) (-1)).trans (fU3 401 (T 106 0 2) (-1) rfl))
      refine j_clone2 (bc' := 3) (bs' := 32) (pc := 81) (k := 401) (i := T 106 0 2) (by decide) (by decide +kernel : ta_ 504 = some (1, some 16, 0, 999)) (by decide +kernel : ta_ 401 = some (1, some 16, 0, 999)) (by decide) (by decide) (by show ¬ U10 401 (T 106 0 2) (-1) = 1; rw [e12]; exact hv1 401 (by decide)) (fun o ho => by rw [show ow_ 401 = some 100 by decide] at ho; cases ho; exact Or.inr (show U10 150 (T 106 0 2) (-1) = 1 from vU10)) (lwq_3 (dqc_m (dqc_m (List.mem_of_getElem? (i := 3) rfl))) rfl : Cond.methodLink RX10 96 ⟨"[I", "clone", "()Ljava/lang/Object;"⟩ ∈ lw_g) (lwq_3 (dqc_m (dqc_m (List.mem_of_getElem? (i := 4) rfl))) rfl : Cond.sameMethod "[I" "java/lang/Object" "clone" "()Ljava/lang/Object;" ∈ lw_g) (lwq_3 (dqc_m (dqc_m (List.mem_of_getElem? (i := 5) rfl))) rfl : Cond.native ⟨"java/lang/Object", "clone", "()Ljava/lang/Object;"⟩ ∈ lw_g) (lwq_3 (dqc_m (dqc_m (List.mem_of_getElem? (i := 6) rfl))) rfl : Cond.instanceMethod ⟨"java/lang/Object", "clone", "()Ljava/lang/Object;"⟩ ∈ lw_g) (lwq_3 (dqc_m (dqc_m (List.mem_of_getElem? (i := 7) rfl))) rfl : Cond.selects "[I" ⟨"[I", "clone", "()Ljava/lang/Object;"⟩ ⟨"java/lang/Object", "clone", "()Ljava/lang/Object;"⟩ ∈ lw_g) (by decide) (by decide) (Nat.le_of_ble_eq_true rfl) (by decide) (by decide) (by decide +kernel) ?_
      refine j_nm (fun U13 hU13 => ?_)
      have fU13 := nu_fr hU13
      have zU13 := nu_tc hU13
      have oU13 := nu_to hU13
      have vU13 := nu_tv hU13
      show J_ zX10_competition T (po_X10_competition_s T) 3 32 84 _ [vR 401 (T 106 0 2), vI (T 106 0 2), vR 150 (T 106 0 2), vR 150 (T 106 0 2), vI (T 106 0 2), vR 521 0] U13
      refine j_castA (pc := 84) (by decide) (by decide +kernel : ta_ 401 = some (1, some 16, 0, 999)) (lwq_3 (dqc_m (dqc_m (dqa_m (List.mem_of_getElem? (i := 1) rfl)))) rfl : Cond.classLink RX10 97 "[I" ∈ lw_g) (by decide +kernel) ?_
      show J_ zX10_competition T (po_X10_competition_s T) 3 32 87 _ [vR 401 (T 106 0 2), vI (T 106 0 2), vR 150 (T 106 0 2), vR 150 (T 106 0 2), vI (T 106 0 2), vR 521 0] U13
      refine j_blx (F := fX10) tb_X10 (nn_ _) bk_X10_competition_s_87 bs_X10_competition_s_87 hz (fun K hK => ?_)
      refine hK 94 _ [vR 505 0, vR 401 (T 106 0 2), vI (T 106 0 2), vR 150 (T 106 0 2), vR 150 (T 106 0 2), vI (T 106 0 2), vR 521 0] U13 ?_
      have e14 : U13 402 (T 106 0 2) (-1) = T 402 (T 106 0 2) (-1) := (fU13 402 (T 106 0 2) (-1) rfl).trans ((fU10 402 (T 106 0 2) (-1) rfl).trans ((up_k hU5 (by exact Nat.ne_of_beq_eq_false rfl) (T 106 0 2) (-1)).trans (fU3 402 (T 106 0 2) (-1) rfl)))
      refine j_clone2 (bc' := 2) (bs' := 25) (pc := 94) (k := 402) (i := T 106 0 2) (by decide) (by decide +kernel : ta_ 505 = some (1, some 7, (-1), 6)) (by decide +kernel : ta_ 402 = some (1, some 7, (-1), 6)) (by decide) (by decide) (by show ¬ U13 402 (T 106 0 2) (-1) = 1; rw [e14]; exact hv1 402 (by decide)) (fun o ho => by rw [show ow_ 402 = some 100 by decide] at ho; cases ho; exact Or.inr (show U13 150 (T 106 0 2) (-1) = 1 from (fU13 150 _ _ rfl).trans vU10)) (lwq_3 (dqc_m (dqc_m (List.mem_of_getElem? (i := 3) rfl))) rfl : Cond.methodLink RX10 96 ⟨"[I", "clone", "()Ljava/lang/Object;"⟩ ∈ lw_g) (lwq_3 (dqc_m (dqc_m (List.mem_of_getElem? (i := 4) rfl))) rfl : Cond.sameMethod "[I" "java/lang/Object" "clone" "()Ljava/lang/Object;" ∈ lw_g) (lwq_3 (dqc_m (dqc_m (List.mem_of_getElem? (i := 5) rfl))) rfl : Cond.native ⟨"java/lang/Object", "clone", "()Ljava/lang/Object;"⟩ ∈ lw_g) (lwq_3 (dqc_m (dqc_m (List.mem_of_getElem? (i := 6) rfl))) rfl : Cond.instanceMethod ⟨"java/lang/Object", "clone", "()Ljava/lang/Object;"⟩ ∈ lw_g) (lwq_3 (dqc_m (dqc_m (List.mem_of_getElem? (i := 7) rfl))) rfl : Cond.selects "[I" ⟨"[I", "clone", "()Ljava/lang/Object;"⟩ ⟨"java/lang/Object", "clone", "()Ljava/lang/Object;"⟩ ∈ lw_g) (by decide) (by decide) (Nat.le_of_ble_eq_true rfl) (by decide) (by decide) (by decide +kernel) ?_
      refine j_nm (fun U15 hU15 => ?_)
      have fU15 := nu_fr hU15
      have zU15 := nu_tc hU15
      have oU15 := nu_to hU15
      have vU15 := nu_tv hU15
      show J_ zX10_competition T (po_X10_competition_s T) 2 25 97 _ [vR 402 (T 106 0 2), vR 401 (T 106 0 2), vI (T 106 0 2), vR 150 (T 106 0 2), vR 150 (T 106 0 2), vI (T 106 0 2), vR 521 0] U15
      refine j_castA (pc := 97) (by decide) (by decide +kernel : ta_ 402 = some (1, some 7, (-1), 6)) (lwq_3 (dqc_m (dqc_m (dqa_m (List.mem_of_getElem? (i := 1) rfl)))) rfl : Cond.classLink RX10 97 "[I" ∈ lw_g) (by decide +kernel) ?_
      show J_ zX10_competition T (po_X10_competition_s T) 2 25 100 _ [vR 402 (T 106 0 2), vR 401 (T 106 0 2), vI (T 106 0 2), vR 150 (T 106 0 2), vR 150 (T 106 0 2), vI (T 106 0 2), vR 521 0] U15
      have e16 : U15 403 (T 106 0 2) (-1) = T 403 (T 106 0 2) (-1) := (fU15 403 (T 106 0 2) (-1) rfl).trans ((fU13 403 (T 106 0 2) (-1) rfl).trans ((fU10 403 (T 106 0 2) (-1) rfl).trans ((up_k hU5 (by exact Nat.ne_of_beq_eq_false rfl) (T 106 0 2) (-1)).trans (fU3 403 (T 106 0 2) (-1) rfl))))
      have e17 : U15 404 (T 106 0 2) (-1) = T 404 (T 106 0 2) (-1) := (fU15 404 (T 106 0 2) (-1) rfl).trans ((fU13 404 (T 106 0 2) (-1) rfl).trans ((fU10 404 (T 106 0 2) (-1) rfl).trans ((up_k hU5 (by exact Nat.ne_of_beq_eq_false rfl) (T 106 0 2) (-1)).trans (fU3 404 (T 106 0 2) (-1) rfl))))
      refine j_callI (y := yX0_init) (Yc := zX0_init) (rest := [vR 150 (T 106 0 2), vI (T 106 0 2), vR 521 0]) [vI (T 106 0 2), vR 401 (T 106 0 2), vR 402 (T 106 0 2)] (ct_X0_init (T := U15) (by omega) (by rw [e16]; exact hv1 403 (by decide)) (by rw [e17]; exact hv1 404 (by decide))) ci_X10_104 (qd_c (by decide +kernel)) (nn_ _) rfl (rf_of rfl) (Nat.le_of_ble_eq_true rfl) (Nat.le_of_ble_eq_true rfl) (Nat.le_of_ble_eq_true rfl) rfl ?_
      rintro U18 _ ⟨rfl, fU18, qU18o, ⟨t0U18, t1U18, t2U18, t3U18, t4U18⟩, ⟨t5U18, t6U18, t7U18, t8U18⟩, zU18⟩
      show J_ zX10_competition T (po_X10_competition_s T) 0 0 103 _ [vR 150 (T 106 0 2), vI (T 106 0 2), vR 521 0] U18
      refine j_ok (fun gt0 _ => ?_)
      have e20 : U18 100 (T 106 0 2) (-1) = T 100 (T 106 0 2) (-1) := (fU18 100 (T 106 0 2) (-1) rfl).trans ((fU15 100 (T 106 0 2) (-1) rfl).trans ((fU13 100 (T 106 0 2) (-1) rfl).trans ((fU10 100 (T 106 0 2) (-1) rfl).trans ((up_k hU5 (by exact Nat.ne_of_beq_eq_false rfl) (T 106 0 2) (-1)).trans (fU3 100 (T 106 0 2) (-1) rfl)))))
      refine j_conv (k := 100) (i := T 106 0 2) (g := g0_ U18 (T 106 0 2)) (by decide) (by show ¬ U18 100 (T 106 0 2) (-1) = 1; rw [e20]; exact hna.2.1 _ (by omega)) (hna.1.1 _) (cg_0 gt0 (by omega) t1U18 t2U18 t3U18 t4U18) rfl rfl ?_
      refine j_nm (fun U21 hU21 => ?_)
      have fU21 := cw_fr hU21
      have sU21 := cw_ts hU21
      have oU21 := cw_to hU21
      have rU21 := cw_r hU21
      show J_ zX10_competition T (po_X10_competition_s T) 0 0 103 _ [vR 100 (T 106 0 2), vI (T 106 0 2), vR 521 0] U21
      refine j_aast (pc := 103) (by decide) (by decide) (by decide +kernel : ta_ 521 = some (4, some 4, 0, 1)) (by decide +kernel) (by omega) (by show _ < (4 : Int); omega) (by decide) ?_
      refine j_nm (fun U22 hU22 => ?_)
      have e23 := up_f hU22
      show J_ zX10_competition T (po_X10_competition_s T) 0 0 104 _ [] U22
      refine j_blx (F := fX10) tb_X10 (nn_ _) bk_X10_competition_s_104 bs_X10_competition_s_104 hz (fun K hK => ?_)
      intro b24 b24b
      have e25 : U22 106 0 2 = T 106 0 2 := (up_k hU22 (by exact Nat.ne_of_beq_eq_false rfl) 0 2).trans ((fU21 106 0 2 rfl).trans ((fU18 106 0 2 rfl).trans ((fU15 106 0 2 rfl).trans ((fU13 106 0 2 rfl).trans ((fU10 106 0 2 rfl).trans ((up_k hU5 (by exact Nat.ne_of_beq_eq_false rfl) 0 2).trans (fU3 106 0 2 rfl)))))))
      rw [e25] at b24 b24b ⊢
      refine rg_i (by omega) ?_
      refine bd_i (by omega) ?_
      refine x_nm (fun U26 hU26 => ?_)
      have e27 := up_f hU26
      refine (show po_X10_competition_s T U26 (some (vI (T 106 0 2))) from ?_)
      have w5 : U21 100 (T 106 0 2) 5 = U18 150 (T 106 0 2) 5 := (sU21 5 (by decide)).trans (by unfold g0_; rw [if_neg (by decide)])
      have y5 : U15 150 (T 106 0 2) 5 = 0 := (fU15 150 _ _ rfl).trans ((fU13 150 _ _ rfl).trans (zU10 5 (by decide)))
      have u5 : U26 100 (T 106 0 2) 5 = U21 100 (T 106 0 2) 5 := (up_k hU26 (by exact Nat.ne_of_beq_eq_false rfl) _ _).trans (up_k hU22 (by exact Nat.ne_of_beq_eq_false rfl) _ _)
      have w6 : U21 100 (T 106 0 2) 6 = U18 150 (T 106 0 2) 6 := (sU21 6 (by decide)).trans (by unfold g0_; rw [if_neg (by decide)])
      have y6 : U15 150 (T 106 0 2) 6 = 0 := (fU15 150 _ _ rfl).trans ((fU13 150 _ _ rfl).trans (zU10 6 (by decide)))
      have u6 : U26 100 (T 106 0 2) 6 = U21 100 (T 106 0 2) 6 := (up_k hU26 (by exact Nat.ne_of_beq_eq_false rfl) _ _).trans (up_k hU22 (by exact Nat.ne_of_beq_eq_false rfl) _ _)
      have w7 : U21 100 (T 106 0 2) 7 = U18 150 (T 106 0 2) 7 := (sU21 7 (by decide)).trans (by unfold g0_; rw [if_neg (by decide)])
      have y7 : U15 150 (T 106 0 2) 7 = 0 := (fU15 150 _ _ rfl).trans ((fU13 150 _ _ rfl).trans (zU10 7 (by decide)))
      have u7 : U26 100 (T 106 0 2) 7 = U21 100 (T 106 0 2) 7 := (up_k hU26 (by exact Nat.ne_of_beq_eq_false rfl) _ _).trans (up_k hU22 (by exact Nat.ne_of_beq_eq_false rfl) _ _)
      have w8 : U21 100 (T 106 0 2) 8 = U18 150 (T 106 0 2) 8 := (sU21 8 (by decide)).trans (by unfold g0_; rw [if_neg (by decide)])
      have y8 : U15 150 (T 106 0 2) 8 = 0 := (fU15 150 _ _ rfl).trans ((fU13 150 _ _ rfl).trans (zU10 8 (by decide)))
      have u8 : U26 100 (T 106 0 2) 8 = U21 100 (T 106 0 2) 8 := (up_k hU26 (by exact Nat.ne_of_beq_eq_false rfl) _ _).trans (up_k hU22 (by exact Nat.ne_of_beq_eq_false rfl) _ _)
      have w0 : U26 100 (T 106 0 2) 0 = T 106 0 2 := by
        have y1 : U26 100 (T 106 0 2) 0 = U21 100 (T 106 0 2) 0 := (up_k hU26 (by exact Nat.ne_of_beq_eq_false rfl) _ _).trans (up_k hU22 (by exact Nat.ne_of_beq_eq_false rfl) _ _)
        have y2 : U21 100 (T 106 0 2) 0 = U18 150 (T 106 0 2) 0 := (sU21 0 (by decide)).trans (by unfold g0_; rw [if_neg (by decide)])
        have y3 := t0U18
        omega
      have e28 : U26 106 0 2 = (T 106 0 2) + 1 := up_f hU26
      have d2 : ∀ (k : Nat) (i j : Int), k = 100 ∨ k = 150 ∨ k = 401 ∨ k = 403 ∨ k = 404 → i ≠ T 106 0 2 → U26 k i j = T k i j := by
        intro k i j hk hi
        have c1 : U26 k i j = U21 k i j := (up_g hU26 (fun z => by omega)).trans (up_g hU22 (fun z => by omega))
        have c2 : U21 k i j = U5 k i j := (oU21 k i j hi).trans ((qU18o k i j hi).trans ((oU15 k i j (fun z => hi z.2)).trans ((oU13 k i j (fun z => hi z.2)).trans (oU10 k i j (fun z => hi z.2)))))
        have c3 : U5 k i j = T k i j := by rcases hk with rfl | rfl | rfl | rfl | rfl <;> exact (up_k hU5 (by exact Nat.ne_of_beq_eq_false rfl) _ _).trans (fU3 _ _ _ rfl)
        exact c1.trans (c2.trans c3)
      have d3 : ∀ j, j ≠ T 106 0 2 → U26 521 0 j = T 521 0 j := fun j hj => (up_k hU26 (by exact Nat.ne_of_beq_eq_false rfl) _ _).trans ((up_g hU22 (fun z => hj z.2.2)).trans ((fU21 521 _ _ rfl).trans ((fU18 521 _ _ rfl).trans ((fU15 521 _ _ rfl).trans ((fU13 521 _ _ rfl).trans ((fU10 521 _ _ rfl).trans ((up_k hU5 (by exact Nat.ne_of_beq_eq_false rfl) _ _).trans (fU3 521 _ _ rfl))))))))
      have d4 : U26 521 0 (T 106 0 2) = 1 := (up_k hU26 (by exact Nat.ne_of_beq_eq_false rfl) _ _).trans (up_f hU22)
      have d5 : ∀ j, 0 ≤ j → U26 401 (T 106 0 2) j = U3 504 0 j := fun j hj => (up_k hU26 (by exact Nat.ne_of_beq_eq_false rfl) _ _).trans ((up_k hU22 (by exact Nat.ne_of_beq_eq_false rfl) _ _).trans ((fU21 401 _ _ rfl).trans ((fU18 401 _ _ rfl).trans ((fU15 401 _ _ rfl).trans ((zU13 j hj).trans ((fU10 504 _ _ rfl).trans (up_k hU5 (by exact Nat.ne_of_beq_eq_false rfl) _ _)))))))
      obtain ⟨qx, ⟨v, qr, qv⟩, q3⟩ := qU3.resolve_left (fun z => by omega)
      have hw := rdf9_g 402 gb9_d qr
      have vc : VC8_ U3 := ⟨fun j a b => by rw [qv.1 j a b, ← (rb9_i a b).1, ← (rb9_i a b).2]; exact hw.1 j a (by omega), by rw [qv.1 2 (by omega) (by omega), qv.1 1 (by omega) (by omega)]; exact hw.2.1⟩
      have d6 : ∀ j, 0 ≤ j → U26 402 (T 106 0 2) j = U3 505 0 j := fun j hj => (up_k hU26 (by exact Nat.ne_of_beq_eq_false rfl) _ _).trans ((up_k hU22 (by exact Nat.ne_of_beq_eq_false rfl) _ _).trans ((fU21 402 _ _ rfl).trans ((fU18 402 _ _ rfl).trans ((zU15 j hj).trans ((fU13 505 _ _ rfl).trans ((fU10 505 _ _ rfl).trans (up_k hU5 (by exact Nat.ne_of_beq_eq_false rfl) _ _)))))))
      have d7 : ∀ i j, i ≠ T 106 0 2 → U26 402 i j = T 402 i j := fun i j hi => (up_k hU26 (by exact Nat.ne_of_beq_eq_false rfl) _ _).trans ((up_k hU22 (by exact Nat.ne_of_beq_eq_false rfl) _ _).trans ((fU21 402 _ _ rfl).trans ((fU18 402 _ _ rfl).trans ((oU15 402 i j (fun z => hi z.2)).trans ((fU13 402 _ _ rfl).trans ((fU10 402 _ _ rfl).trans ((up_k hU5 (by exact Nat.ne_of_beq_eq_false rfl) _ _).trans (fU3 402 _ _ rfl))))))))
      have d8 : ∀ j, 0 ≤ j → j < 12 → U26 404 (T 106 0 2) j = -1 := fun j a b => (up_k hU26 (by exact Nat.ne_of_beq_eq_false rfl) _ _).trans ((up_k hU22 (by exact Nat.ne_of_beq_eq_false rfl) _ _).trans ((fU21 404 _ _ rfl).trans (zU18 j a b)))
      have e29 : U26 105 0 1 = 0 := (up_k hU26 (by exact Nat.ne_of_beq_eq_false rfl) 0 1).trans ((up_k hU22 (by exact Nat.ne_of_beq_eq_false rfl) 0 1).trans ((fU21 105 0 1 rfl).trans ((fU18 105 0 1 rfl).trans ((fU15 105 0 1 rfl).trans ((fU13 105 0 1 rfl).trans ((fU10 105 0 1 rfl).trans (up_f hU5)))))))
      have e30 : U26 105 0 3 = U3 105 0 3 := (up_k hU26 (by exact Nat.ne_of_beq_eq_false rfl) 0 3).trans ((up_k hU22 (by exact Nat.ne_of_beq_eq_false rfl) 0 3).trans ((fU21 105 0 3 rfl).trans ((fU18 105 0 3 rfl).trans ((fU15 105 0 3 rfl).trans ((fU13 105 0 3 rfl).trans ((fU10 105 0 3 rfl).trans (up_j hU5 (by decide) 105 0)))))))
      have n2 : NA_ U26 := by
        refine ⟨⟨fun i => ?_, fun i => by rw [show U26 152 i (-1) = T 152 i (-1) from (up_k hU26 (by exact Nat.ne_of_beq_eq_false rfl) _ _).trans ((up_k hU22 (by exact Nat.ne_of_beq_eq_false rfl) _ _).trans ((fU21 152 _ _ rfl).trans ((fU18 152 _ _ rfl).trans ((fU15 152 _ _ rfl).trans ((fU13 152 _ _ rfl).trans ((fU10 152 _ _ rfl).trans ((up_k hU5 (by exact Nat.ne_of_beq_eq_false rfl) _ _).trans (fU3 152 _ _ rfl))))))))]; exact hna.1.2.1 i, fun i => by rw [show U26 153 i (-1) = T 153 i (-1) from (up_k hU26 (by exact Nat.ne_of_beq_eq_false rfl) _ _).trans ((up_k hU22 (by exact Nat.ne_of_beq_eq_false rfl) _ _).trans ((fU21 153 _ _ rfl).trans ((fU18 153 _ _ rfl).trans ((fU15 153 _ _ rfl).trans ((fU13 153 _ _ rfl).trans ((fU10 153 _ _ rfl).trans ((up_k hU5 (by exact Nat.ne_of_beq_eq_false rfl) _ _).trans (fU3 153 _ _ rfl))))))))]; exact hna.1.2.2 i⟩, fun i hi => ?_, fun i hi => ?_, fun i hi => ?_⟩
        · by_cases z : i = T 106 0 2
          · rw [z, show U26 150 (T 106 0 2) (-1) = U21 150 (T 106 0 2) (-1) from (up_k hU26 (by exact Nat.ne_of_beq_eq_false rfl) _ _).trans (up_k hU22 (by exact Nat.ne_of_beq_eq_false rfl) _ _)]; exact rU21
          · rw [d2 150 i (-1) (Or.inr (Or.inl rfl)) z]; exact hna.1.1 i
        · rw [d2 100 i (-1) (Or.inl rfl) (by omega)]; exact hna.2.1 i (by omega)
        · rw [show U26 106 0 4 = T 106 0 4 from (up_j hU26 (by decide) _ _).trans ((up_k hU22 (by exact Nat.ne_of_beq_eq_false rfl) _ _).trans ((fU21 106 _ _ rfl).trans ((fU18 106 _ _ rfl).trans ((fU15 106 _ _ rfl).trans ((fU13 106 _ _ rfl).trans ((fU10 106 _ _ rfl).trans ((up_k hU5 (by exact Nat.ne_of_beq_eq_false rfl) _ _).trans (fU3 106 _ _ rfl))))))))] at hi
          rw [show U26 102 i (-1) = T 102 i (-1) from (up_k hU26 (by exact Nat.ne_of_beq_eq_false rfl) _ _).trans ((up_k hU22 (by exact Nat.ne_of_beq_eq_false rfl) _ _).trans ((fU21 102 _ _ rfl).trans ((fU18 102 _ _ rfl).trans ((fU15 102 _ _ rfl).trans ((fU13 102 _ _ rfl).trans ((fU10 102 _ _ rfl).trans ((up_k hU5 (by exact Nat.ne_of_beq_eq_false rfl) _ _).trans (fU3 102 _ _ rfl))))))))]; exact hna.2.2.1 i hi
        · rw [show U26 106 0 4 = T 106 0 4 from (up_j hU26 (by decide) _ _).trans ((up_k hU22 (by exact Nat.ne_of_beq_eq_false rfl) _ _).trans ((fU21 106 _ _ rfl).trans ((fU18 106 _ _ rfl).trans ((fU15 106 _ _ rfl).trans ((fU13 106 _ _ rfl).trans ((fU10 106 _ _ rfl).trans ((up_k hU5 (by exact Nat.ne_of_beq_eq_false rfl) _ _).trans (fU3 106 _ _ rfl)))))))), show U26 102 i 10 = T 102 i 10 from (up_k hU26 (by exact Nat.ne_of_beq_eq_false rfl) _ _).trans ((up_k hU22 (by exact Nat.ne_of_beq_eq_false rfl) _ _).trans ((fU21 102 _ _ rfl).trans ((fU18 102 _ _ rfl).trans ((fU15 102 _ _ rfl).trans ((fU13 102 _ _ rfl).trans ((fU10 102 _ _ rfl).trans ((up_k hU5 (by exact Nat.ne_of_beq_eq_false rfl) _ _).trans (fU3 102 _ _ rfl))))))))] at hi
          rw [show U26 103 i (-1) = T 103 i (-1) from (up_k hU26 (by exact Nat.ne_of_beq_eq_false rfl) _ _).trans ((up_k hU22 (by exact Nat.ne_of_beq_eq_false rfl) _ _).trans ((fU21 103 _ _ rfl).trans ((fU18 103 _ _ rfl).trans ((fU15 103 _ _ rfl).trans ((fU13 103 _ _ rfl).trans ((fU10 103 _ _ rfl).trans ((up_k hU5 (by exact Nat.ne_of_beq_eq_false rfl) _ _).trans (fU3 103 _ _ rfl))))))))]; exact hna.2.2.2 i hi
      exact ⟨_, rfl, Or.inr ⟨fr_u (fr_u (fr_t (fr_t (fr_t (fr_t (fr_t (fr_u (fr_t (fr_0 _ _) (fr_s fU3 rfl)) hU5 rfl) (fr_s fU10 rfl)) (fr_s fU13 rfl)) (fr_s fU15 rfl)) (fr_s fU18 rfl)) (fr_s fU21 rfl)) hU22 rfl) hU26 rfl, by omega, d2, d3, d4, by omega, fun j a b => by rw [d5 j a]; exact vc.1 j a b, by rw [d5 2 (by omega), d5 1 (by omega)]; exact vc.2, n2⟩, Or.inr ⟨by omega, by omega, Or.inr ⟨by omega, by omega, by omega, d7, d8, v, qr, fun j a b => (d5 j a).trans (qv.1 j a b), fun k a b => (d6 k a).trans (qv.2 k a b)⟩⟩, Or.inr w0⟩
    · intro b31 b31b
      have e32 : U5 105 0 2 = U3 105 0 2 := up_j hU5 (by decide) 105 0
      rw [e32] at b31 b31b ⊢
      refine rg_i (by omega) ?_
      refine (show po_X10_competition_s T U5 (some (vI ((-10) - (U3 105 0 2)))) from ?_)
      have e33 : U5 105 0 1 = 0 := up_f hU5
      have e34 : U5 105 0 3 = U3 105 0 3 := up_j hU5 (by decide) 105 0
      have e35 : U5 106 0 2 = T 106 0 2 := (up_k hU5 (by exact Nat.ne_of_beq_eq_false rfl) 0 2).trans (fU3 106 0 2 rfl)
      have e36 : U5 105 0 2 = U3 105 0 2 := up_j hU5 (by decide) 105 0
      refine ⟨_, rfl, Or.inl (fr_u (fr_t (fr_0 _ _) (fr_s fU3 rfl)) hU5 rfl), Or.inr ⟨by omega, by omega, Or.inl ⟨by omega, U3 105 0 2, by omega, ?_⟩⟩, Or.inl (by omega)⟩
      rw [show U5 105 0 3 = U3 105 0 3 by omega]
      exact (qU3.resolve_right (fun z => by omega)).2
  · refine bd_i (by omega) ?_
    refine x_nm (fun U37 hU37 => ?_)
    have e38 := up_f hU37
    refine (show po_X10_competition_s T U37 (some (vI (-5))) from ?_)
    have e39 : U37 105 0 1 = T 105 0 1 := up_j hU37 (by decide) 105 0
    have e40 : U37 105 0 3 = (-1) := up_f hU37
    have e41 : U37 106 0 2 = T 106 0 2 := up_k hU37 (by exact Nat.ne_of_beq_eq_false rfl) 0 2
    exact ⟨_, rfl, Or.inl (fr_u (fr_0 _ _) hU37 rfl), Or.inl ⟨by omega, rfl, by omega, by omega, by omega⟩, Or.inl (by omega)⟩
-- the plays of both sides alike: what holds between the calls
def rlm_ (f : Int → Int) : Int → Int := fun w => if 0 ≤ w ∧ w < 16 then f w else 0
theorem rlm_e {f g : Int → Int} (h : ∀ w, 0 ≤ w → w < 16 → f w = g w) : rlm_ f = rlm_ g := by
  funext w
  unfold rlm_
  by_cases z : 0 ≤ w ∧ w < 16
  · rw [if_pos z, if_pos z]
    exact h w z.1 z.2
  · rw [if_neg z, if_neg z]
theorem rlm_v {f : Int → Int} {w : Int} (h0 : 0 ≤ w) (h1 : w < 16) : rlm_ f w = f w := if_pos ⟨h0, h1⟩
theorem rlm_p {T : Zt} {m : Int} : RLP_ T m (rlm_ (fun w => T 401 (T 103 m 0) w)) := fun w a b => (rlm_v (f := fun w => T 401 (T 103 m 0) w) a b).symm
theorem rlm_r {T : Zt} {m : Int} : RLR_ T m (rlm_ (fun w => T 205 0 (23 * T 230 0 m + w))) := fun w a b => (rlm_v (f := fun w => T 205 0 (23 * T 230 0 m + w)) a b).symm
theorem rlm_s {T : Zt} {m : Int} : ∀ w, 0 ≤ w → w < 16 → T 401 (T 102 m 0) w = rlm_ (fun w => T 401 (T 102 m 0) w) w := fun w a b => (rlm_v (f := fun w => T 401 (T 102 m 0) w) a b).symm
abbrev ruH_ (T : Zt) (m : Int) : Int → Int := rlm_ (fun w => T 401 (T 102 m 0) w)
theorem rb_m {T : Zt} {m : Int} (hri : RI_ T) (hx : TXR_ T) (hc : 0 ≤ T 102 m 0 ∧ T 102 m 0 < T 106 0 2) : RB9_ (ruH_ T m) := by
  have e := hx.2.2.1
  have v : ∀ w, 0 ≤ w → w < 16 → (rb_ w).1 ≤ ruH_ T m w ∧ ruH_ T m w ≤ (rb_ w).2 := fun w a b => by
    rw [show ruH_ T m w = T 401 (T 102 m 0) w from rlm_v (f := fun w => T 401 (T 102 m 0) w) a b, (hx.2.2.2.2 _ hc.1 hc.2).1 w a b]
    exact hri (T 102 m 0) w hc.1 (by omega) a (by omega)
  have v0 : 0 ≤ ruH_ T m 0 ∧ ruH_ T m 0 ≤ 3 := v 0 (by decide) (by decide)
  have v9 : 1 ≤ ruH_ T m 9 ∧ ruH_ T m 9 ≤ 6 := v 9 (by decide) (by decide)
  have v10 : 0 ≤ ruH_ T m 10 ∧ ruH_ T m 10 ≤ 5 := v 10 (by decide) (by decide)
  have v11 : 2 ≤ ruH_ T m 11 ∧ ruH_ T m 11 ≤ 25 := v 11 (by decide) (by decide)
  have v12 : 1 ≤ ruH_ T m 12 ∧ ruH_ T m 12 ≤ 9 := v 12 (by decide) (by decide)
  exact ⟨v0, v9, v10, v11, v12⟩
theorem ru_q {T : Zt} {m : Int} (hx : TXR_ T) (he : T 102 m 0 = T 230 0 m) (hc : 0 ≤ T 102 m 0 ∧ T 102 m 0 < T 106 0 2) : rlm_ (fun w => T 205 0 (23 * T 230 0 m + w)) = ruH_ T m := rlm_e (fun w a b => by
  show T 205 0 (23 * T 230 0 m + w) = T 401 (T 102 m 0) w
  rw [← he]
  exact ((hx.2.2.2.2 _ hc.1 hc.2).1 w a b).symm)
/-- the sheets of a match -/
def SHM_ (T : Zt) (m : Int) : Prop :=
  (∀ t, 0 ≤ t → t ≤ 1 → T 239 0 (2 * m + t) = T 449 m t ∧ 0 ≤ T 449 m t ∧ T 449 m t ≤ 10) ∧
  (∀ t x, 0 ≤ t → t ≤ 1 → t * 10 ≤ x → x < t * 10 + T 449 m t → T 240 0 (20 * m + x) = T 448 m x) ∧
  ∀ t x y, 0 ≤ t → t ≤ 1 → t * 10 ≤ x → x < t * 10 + T 449 m t → t * 10 ≤ y → y < t * 10 + T 449 m t → T 448 m x = T 448 m y → x = y
/-- a match that is told -/
def PAA_ (T : Zt) (m : Int) : Prop := T 102 m 6 = -1 ∧ T 102 m 10 = 0 ∧ T 235 0 m = 0 ∧ T 236 0 m = 0 ∧ T 237 0 m = 0 ∧ T 254 0 m = 0 ∧ T 256 0 m = 0
/-- a match that was walked over -/
def PBB_ (T : Zt) (m : Int) : Prop := T 102 m 10 = 0 ∧ T 235 0 m = 3 ∧ ((T 102 m 6 = 0 ∧ T 236 0 m = 0 ∧ T 237 0 m = T 401 (T 102 m 0) 12) ∨ (T 102 m 6 = 1 ∧ T 236 0 m = T 401 (T 102 m 0) 12 ∧ T 237 0 m = 0)) ∧ T 254 0 m = 0 ∧ T 256 0 m = 0
/-- a match that is played -/
def PCC_ (T : Zt) (m : Int) : Prop := T 102 m 6 = -1 ∧ T 102 m 10 ≠ 0 ∧ T 103 m 0 = T 102 m 0 ∧ (∃ n, n ≤ 3 * (T 103 m 15 + T 103 m 17) ∧ SI_ m n (ruH_ T m) (rp9_ T m) (rs9_ T m)) ∧ FN_ (rs9_ T m) ∧ (∀ t, 0 ≤ t → t ≤ 1 → T 401 (T 102 m 0) 9 ≤ T 449 m t) ∧ hr9_ T (T 103 m 14) (T 103 m 15).toNat = rw9_ T m ∧ T 103 m 17 = T 256 0 m
def PM_ (T : Zt) (m : Int) : Prop := PAA_ T m ∨ PBB_ T m ∨ PCC_ T m
/-- every match alike on both sides -/
def PLR_ (T : Zt) : Prop := (∀ m, 0 ≤ m → m < T 106 0 4 → SHM_ T m ∧ PM_ T m) ∧ ∀ m, T 111 0 29 ≤ m → m < 400 → T 236 0 m = 0 ∧ T 237 0 m = 0
/-- the logs of the plays are rows of their own -/
def LDR_ (T : Zt) : Prop := (T 104 0 4 < T 191 0 0 ∧ T 109 0 15 ≤ T 191 0 0) ∧ ∀ m, 0 ≤ m → m < T 106 0 4 → T 102 m 10 ≠ 0 → (T 103 m 14 ≠ T 103 m 16 ∧ T 103 m 14 ≠ T 104 0 4 ∧ T 103 m 14 + 1 ≠ T 109 0 15) ∧ ∀ j, 0 ≤ j → j < T 106 0 4 → T 102 j 10 ≠ 0 → j ≠ m → T 103 m 14 ≠ T 103 j 14 ∧ T 103 m 14 ≠ T 103 j 16
def RCR_ (T : Zt) : Prop := T 106 0 5 = T 111 0 47
def DAR_ (T : Zt) : Prop := ∀ m, 0 ≤ m → m < T 106 0 4 → T 102 m 5 = T 234 0 m
def MVR_ (T : Zt) : Prop := T 106 0 12 = T 111 0 75 ∧ ∀ k, 0 ≤ k → k < T 106 0 12 → T 531 0 k = T 274 0 k
def CNO_ (T : Zt) : Prop := ∀ c, 0 ≤ c → c < T 106 0 2 → T 100 c 0 = c
-- cells of the reference's match
theorem rp_35 {T : Zt} {m : Int} : rp9_ T m 103 3 = T 235 0 m := rp_v rfl rfl rfl
theorem rp_36 {T : Zt} {m : Int} : rp9_ T m 468 0 = T 236 0 m := rp_v rfl rfl rfl
theorem rp_37 {T : Zt} {m : Int} : rp9_ T m 468 1 = T 237 0 m := rp_v rfl rfl rfl
theorem rp_39 {T : Zt} {m t : Int} (h0 : 0 ≤ t) (h1 : t ≤ 1) : rp9_ T m 449 t = T 239 0 (2 * m + t) := rp_v (dm_449 ⟨h0, h1⟩) rfl rfl
theorem rp_40 {T : Zt} {m x : Int} (h0 : 0 ≤ x) (h1 : x ≤ 19) : rp9_ T m 448 x = T 240 0 (20 * m + x) := rp_v (dm_448 ⟨h0, h1⟩) rfl rfl
theorem rpe_ {T T' : Zt} {m : Int} (h : rp9_ T' m = rp9_ T m) : T' 235 0 m = T 235 0 m ∧ T' 236 0 m = T 236 0 m ∧ T' 237 0 m = T 237 0 m := by
  rw [← rp_35 (T := T'), ← rp_36 (T := T'), ← rp_37 (T := T'), h, rp_35, rp_36, rp_37]
  exact ⟨rfl, rfl, rfl⟩
-- what a match's state hangs on
def KHM_ (T T' : Zt) (m : Int) : Prop := (∀ (k : Nat) (j : Int), dk_ k j = true → T' k m j = T k m j) ∧ (T' 102 m 0 = T 102 m 0 ∧ T' 102 m 6 = T 102 m 6 ∧ T' 102 m 10 = T 102 m 10) ∧ (T' 103 m 0 = T 103 m 0 ∧ T' 103 m 14 = T 103 m 14 ∧ T' 103 m 15 = T 103 m 15 ∧ T' 103 m 17 = T 103 m 17) ∧ (∀ w, T' 401 (T 102 m 0) w = T 401 (T 102 m 0) w) ∧ (T 102 m 10 ≠ 0 → ∀ j, 0 ≤ j → j < 4 * T 103 m 15 → T' 190 (T 103 m 14) j = T 190 (T 103 m 14) j)
def KRM_ (T T' : Zt) (m : Int) : Prop := rp9_ T' m = rp9_ T m ∧ rw9_ T' m = rw9_ T m ∧ T' 254 0 m = T 254 0 m ∧ T' 256 0 m = T 256 0 m
theorem khm_t {T T1 T2 : Zt} {m : Int} (a : KHM_ T T1 m) (b : KHM_ T1 T2 m) : KHM_ T T2 m := by
  obtain ⟨a1, ⟨a2, a3, a4⟩, ⟨a5, a6, a7, a8⟩, a9, a0⟩ := a
  obtain ⟨b1, ⟨b2, b3, b4⟩, ⟨b5, b6, b7, b8⟩, b9, b0⟩ := b
  refine ⟨fun k j d => (b1 k j d).trans (a1 k j d), ⟨by omega, by omega, by omega⟩, ⟨by omega, by omega, by omega, by omega⟩, fun w => ?_, fun h j j0 j1 => ?_⟩
  · rw [a2] at b9
    exact (b9 w).trans (a9 w)
  · rw [a6] at b0
    exact (b0 (by omega) j j0 (by omega)).trans (a0 h j j0 j1)
theorem kqm_t {T T1 T2 : Zt} {m : Int} (a : KRM_ T T1 m) (b : KRM_ T1 T2 m) : KRM_ T T2 m := ⟨b.1.trans a.1, b.2.1.trans a.2.1, b.2.2.1.trans a.2.2.1, b.2.2.2.trans a.2.2.2⟩
def FRF_ : List (Nat × List Int) := [(235, []), (236, []), (237, []), (239, []), (240, []), (241, []), (242, []), (243, []), (244, []), (245, []), (246, []), (248, []), (249, []), (250, []), (251, []), (252, []), (253, []), (254, []), (256, [])]
def FHS_ : List (Nat × List Int) := [(102, [0, 6, 10]), (103, []), (448, []), (449, []), (466, []), (467, []), (468, []), (469, []), (470, []), (471, []), (472, []), (473, []), (401, []), (190, [])]
theorem kqm_s {T T' : Zt} {m : Int} (k : ks_ FRF_ T T') : KRM_ T T' m := by
  refine ⟨rp_x (fun K j c => ?_), rw_k (fun K x c => ?_) (fun x => k 252 0 x rfl) (k 253 0 m rfl) (k 254 0 m rfl), k 254 0 m rfl, k 256 0 m rfl⟩
  · rcases c with rfl | rfl | rfl | rfl | rfl | rfl | rfl | rfl | rfl | rfl | rfl <;> exact k _ 0 j rfl
  · rcases c with rfl | rfl | rfl | rfl <;> exact k _ 0 x rfl
theorem khm_s {T T' : Zt} {m : Int} (k : ks_ FHS_ T T') : KHM_ T T' m := by
  refine ⟨fun K j d => ?_, ⟨k 102 m 0 rfl, k 102 m 6 rfl, k 102 m 10 rfl⟩, ⟨k 103 m 0 rfl, k 103 m 14 rfl, k 103 m 15 rfl, k 103 m 17 rfl⟩, fun w => k 401 _ w rfl, fun _ j _ _ => k 190 _ j rfl⟩
  rcases dk_c d with rfl | rfl | rfl | rfl | rfl | rfl | rfl | rfl | rfl | rfl | ⟨rfl, _⟩ <;> exact k _ m j rfl
theorem shm_c {T T' : Zt} {m : Int} (h : SHM_ T m) (e49 : ∀ t, T' 449 m t = T 449 m t) (e48 : ∀ t, T' 448 m t = T 448 m t) (e39 : ∀ t, 0 ≤ t → t ≤ 1 → T' 239 0 (2 * m + t) = T 239 0 (2 * m + t)) (e40 : ∀ x, 0 ≤ x → x ≤ 19 → T' 240 0 (20 * m + x) = T 240 0 (20 * m + x)) : SHM_ T' m := by
  obtain ⟨h1, h2, h3⟩ := h
  refine ⟨fun t t0 t1 => ?_, fun t x t0 t1 x0 x1 => ?_, fun t x y t0 t1 x0 x1 y0 y1 e => ?_⟩
  · rw [e49, e39 t t0 t1]
    exact h1 t t0 t1
  · rw [e49] at x1
    have g := h1 t t0 t1
    rw [e48, e40 x (by omega) (by omega)]
    exact h2 t x t0 t1 x0 x1
  · rw [e49] at x1 y1
    rw [e48, e48] at e
    exact h3 t x y t0 t1 x0 x1 y0 y1 e
theorem shm_k {T T' : Zt} {m : Int} (h : SHM_ T m) (a : KHM_ T T' m) (b : KRM_ T T' m) : SHM_ T' m :=
  shm_c h (fun t => a.1 449 t rfl) (fun t => a.1 448 t rfl) (fun t t0 t1 => by rw [← rp_39 (T := T') (m := m) t0 t1, b.1, rp_39 t0 t1]) (fun x x0 x1 => by rw [← rp_40 (T := T') (m := m) x0 x1, b.1, rp_40 x0 x1])
theorem pm_k {T T' : Zt} {m : Int} (h : PM_ T m) (a : KHM_ T T' m) (b : KRM_ T T' m) : PM_ T' m := by
  obtain ⟨a1, ⟨a2, a3, a4⟩, ⟨a5, a6, a7, a8⟩, a9, a0⟩ := a
  obtain ⟨b1, b2, b3, b4⟩ := b
  obtain ⟨c35, c36, c37⟩ := rpe_ b1
  have es : rs9_ T' m = rs9_ T m := rs_n a1
  have er : ruH_ T' m = ruH_ T m := rlm_e (fun w _ _ => by
    show T' 401 (T' 102 m 0) w = T 401 (T 102 m 0) w
    rw [a2, a9])
  rcases h with h | h | h
  · refine Or.inl ?_
    unfold PAA_ at h ⊢
    omega
  · refine Or.inr (Or.inl ?_)
    unfold PBB_ at h ⊢
    rw [a2, a9]
    omega
  · obtain ⟨h1, h2, h3, ⟨n, hn, hs⟩, h5, h6, h7, h8⟩ := h
    refine Or.inr (Or.inr ⟨by omega, by omega, by omega, ⟨n, by omega, ?_⟩, ?_, fun t t0 t1 => ?_, ?_, by omega⟩)
    · rw [er, b1, es]
      exact hs
    · rw [es]
      exact h5
    · rw [a2, a9, show T' 449 m t = T 449 m t from a1 449 t rfl]
      exact h6 t t0 t1
    · rw [a6, a7, b2, ← h7]
      exact hrw_e (fun j j0 j1 => a0 h2 j j0 (by omega))
/-- one match changes -/
theorem plr_s {T T2 : Zt} {m : Int} (h : PLR_ T) (c1 : T2 106 0 4 = T 106 0 4) (c2 : T2 111 0 29 = T 111 0 29) (hm : 0 ≤ m → m < T 106 0 4 → SHM_ T2 m ∧ PM_ T2 m) (ho : ∀ j, 0 ≤ j → j < T 106 0 4 → j ≠ m → KHM_ T T2 j ∧ KRM_ T T2 j) (hz : ∀ j, T 111 0 29 ≤ j → j < 400 → T2 236 0 j = T 236 0 j ∧ T2 237 0 j = T 237 0 j) : PLR_ T2 := by
  refine ⟨fun j j0 j1 => ?_, fun j j0 j1 => ?_⟩
  · rw [c1] at j1
    by_cases z : j = m
    · rw [z]
      exact hm (by omega) (by omega)
    · have g := h.1 j j0 j1
      have k := ho j j0 j1 z
      exact ⟨shm_k g.1 k.1 k.2, pm_k g.2 k.1 k.2⟩
  · rw [c2] at j0
    have g := h.2 j j0 j1
    have k := hz j j0 j1
    omega
theorem plr_k {T T' : Zt} (h : PLR_ T) (a : ks_ FHS_ T T') (b : ks_ FRF_ T T') (c1 : T' 106 0 4 = T 106 0 4) (c2 : T' 111 0 29 = T 111 0 29) : PLR_ T' :=
  plr_s (m := -1) h c1 c2 (fun z => absurd z (by decide)) (fun _ _ _ _ => ⟨khm_s a, kqm_s b⟩) (fun j _ _ => ⟨b 236 0 j rfl, b 237 0 j rfl⟩)
theorem ldr_k {T T' : Zt} (h : LDR_ T) (e : T' 104 0 4 = T 104 0 4 ∧ T' 109 0 15 = T 109 0 15 ∧ T' 191 0 0 = T 191 0 0 ∧ T' 106 0 4 = T 106 0 4) (g : ∀ m, T' 102 m 10 = T 102 m 10 ∧ T' 103 m 14 = T 103 m 14 ∧ T' 103 m 16 = T 103 m 16) : LDR_ T' := by
  obtain ⟨e1, e2, e3, e4⟩ := e
  refine ⟨by have := h.1; omega, fun m m0 m1 mp => ?_⟩
  have gm := g m
  have y := h.2 m m0 (by omega) (by omega)
  refine ⟨by have := y.1; omega, fun j j0 j1 jp n => ?_⟩
  have gj := g j
  have w := y.2 j j0 (by omega) (by omega) n
  omega
theorem dk_n {k : Nat} {j : Int} (d : dk_ k j = true) : k ≠ 190 ∧ k ≠ 191 ∧ k ≠ 106 := by
  rcases dk_c d with y | y | y | y | y | y | y | y | y | y | ⟨y, _⟩ <;> omega
/-- the others' plays under an event or a review -/
theorem khm_o {T T1 : Zt} {N m j : Int} (hL : LDR_ T) (hl : LP_ N T) (hm : 0 ≤ m ∧ m < T 106 0 4) (hp : T 102 m 10 ≠ 0) (o : OMH_ T T1 m) (j0 : 0 ≤ j) (j1 : j < T 106 0 4) (n : j ≠ m) (e401 : ∀ i w, T1 401 i w = T 401 i w) : KHM_ T T1 j :=
  ⟨fun k i d => o.1 k j i n (dk_n d).1 (dk_n d).2.1 (dk_n d).2.2, ⟨o.1 102 j 0 n (by decide) (by decide) (by decide), o.1 102 j 6 n (by decide) (by decide) (by decide), o.1 102 j 10 n (by decide) (by decide) (by decide)⟩, ⟨o.1 103 j 0 n (by decide) (by decide) (by decide), o.1 103 j 14 n (by decide) (by decide) (by decide), o.1 103 j 15 n (by decide) (by decide) (by decide), o.1 103 j 17 n (by decide) (by decide) (by decide)⟩, fun w => e401 _ w, fun q i _ _ => o.2.1 _ i (hl j j0 j1 q).1.2.2.2.2.2.1 ((hL.2 j j0 j1 q).2 m hm.1 hm.2 hp (Ne.symm n)).1 ((hL.2 j j0 j1 q).2 m hm.1 hm.2 hp (Ne.symm n)).2⟩
theorem ldr_o {T T1 : Zt} {N m : Int} (h : LDR_ T) (hl : LP_ N T) (hm : 0 ≤ m ∧ m < T 106 0 4) (hp : T 102 m 10 ≠ 0) (o : OMH_ T T1 m) (e4 : T1 106 0 4 = T 106 0 4) (e10 : T1 102 m 10 = T 102 m 10) (e44 : T1 104 0 4 = T 104 0 4) (e15 : T1 109 0 15 = T 109 0 15) (e91 : T 191 0 0 ≤ T1 191 0 0) (one : T1 103 m 14 = T 103 m 14 ∨ T1 103 m 16 = T 103 m 16) : LDR_ T1 := by
  obtain ⟨⟨h1, h2⟩, h3⟩ := h
  obtain ⟨o1, o2, o3, o4⟩ := o
  have lo : ∀ j, 0 ≤ j → j < T 106 0 4 → T 102 j 10 ≠ 0 → T 103 j 14 < T 191 0 0 ∧ T 103 j 16 < T 191 0 0 := fun j a b c => ⟨(hl j a b c).1.2.2.2.2.2.1, (hl j a b c).1.2.2.2.2.2.2.1⟩
  have lm := lo m hm.1 hm.2 hp
  have hmm := h3 m hm.1 hm.2 hp
  have oth : ∀ j, j ≠ m → T1 102 j 10 = T 102 j 10 ∧ T1 103 j 14 = T 103 j 14 ∧ T1 103 j 16 = T 103 j 16 := fun j n => ⟨o1 102 j 10 n (by decide) (by decide) (by decide), o1 103 j 14 n (by decide) (by decide) (by decide), o1 103 j 16 n (by decide) (by decide) (by decide)⟩
  refine ⟨⟨by omega, by omega⟩, fun i i0 i1 ip => ?_⟩
  rw [e4] at i1
  by_cases z : i = m
  · rw [z]
    have g := hmm.1
    refine ⟨?_, fun j j0 j1 jp n => ?_⟩
    · rcases o3 with a | a
      · rcases o4 with b | b
        · exact ⟨fun x => g.1 (by omega), fun x => g.2.1 (by omega), fun x => g.2.2 (by omega)⟩
        · exact ⟨fun x => g.1 (by omega), fun x => g.2.1 (by omega), fun x => g.2.2 (by omega)⟩
      · rcases one with c | c
        · exact ⟨fun x => g.1 (by omega), fun x => g.2.1 (by omega), fun x => g.2.2 (by omega)⟩
        · exact ⟨fun x => g.1 (by omega), fun x => g.2.1 (by omega), fun x => g.2.2 (by omega)⟩
    · rw [e4] at j1
      have y := oth j n
      rw [y.1] at jp
      have w := lo j j0 j1 jp
      have v := hmm.2 j j0 j1 jp n
      rcases o3 with a | a
      · exact ⟨fun x => v.1 (by omega), fun x => v.2 (by omega)⟩
      · exact ⟨fun x => v.1 (by omega), fun x => v.2 (by omega)⟩
  · have y := oth i z
    rw [y.1] at ip
    have w := lo i i0 i1 ip
    have v := h3 i i0 i1 ip
    have g := v.1
    refine ⟨⟨fun x => g.1 (by omega), fun x => g.2.1 (by omega), fun x => g.2.2 (by omega)⟩, fun j j0 j1 jp n => ?_⟩
    rw [e4] at j1
    by_cases q : j = m
    · rw [q] at n ⊢
      have u := v.2 m hm.1 hm.2 hp n
      rcases o3 with a | a
      · rcases o4 with b | b
        · exact ⟨fun x => u.1 (by omega), fun x => u.2 (by omega)⟩
        · exact ⟨fun x => u.1 (by omega), fun x => u.2 (by omega)⟩
      · rcases o4 with b | b
        · exact ⟨fun x => u.1 (by omega), fun x => u.2 (by omega)⟩
        · exact ⟨fun x => u.1 (by omega), fun x => u.2 (by omega)⟩
    · have y2 := oth j q
      rw [y2.1] at jp
      have u := v.2 j j0 j1 jp n
      exact ⟨fun x => u.1 (by omega), fun x => u.2 (by omega)⟩
theorem rx_n {T : Zt} (h : RX_ T []) {m : Int} (h0 : 0 ≤ m) (h1 : m < T 111 0 29) : 0 ≤ T 254 0 m := by
  obtain ⟨L, hB, -⟩ := h
  have y : lk_ T (T 253 0 m) (L m 0) ∧ T 254 0 m = ((L m 0).length : Int) := hB.1 m 0 h0 h1 (by decide) (by decide)
  omega
theorem pcc_n {T : Zt} {m : Int} (h : PCC_ T m) (i : 0 ≤ T 103 m 15) (j : 0 ≤ T 254 0 m) : T 103 m 15 = T 254 0 m := by
  have e := congrArg List.length h.2.2.2.2.2.2.1
  rw [hrw_l, rw_n] at e
  omega
/-- one who stands on each field -/
theorem fn_t {a : Sg_} (h : FN_ a) (h3 : a 103 3 = 0) : ∀ t, 0 ≤ t → t ≤ 1 → 1 ≤ a 470 t := fun t t0 t1 => by
  have y := h h3
  rcases (by omega : t = 0 ∨ t = 1) with c | c
  · rw [c]; exact y.1
  · rw [c]; exact y.2
/-- the reference's rows and matches under an event or a review of another -/
theorem kqm_o {T1 T2 : Zt} {m j : Int} (o : OMR_ T1 T2 m) (n : j ≠ m) (j0 : 0 ≤ j) (j1 : j < T1 111 0 29) : KRM_ T1 T2 j := ⟨o.1 j n, (o.2 j n j0 j1).1, (o.2 j n j0 j1).2.1, (o.2 j n j0 j1).2.2⟩
theorem lwR_1 {r : Int → Int} {b : Sg_} {k s q o : Int} (h : b 103 3 ≠ 1) : lwR_ r b k s q o = 1 := by
  unfold lwR_
  exact cz_t h
