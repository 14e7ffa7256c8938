-- assign and can: what they leave of the int rows
/-- all old rows but the referees' own stay -/
def KPA_ (T U : Zt) : Prop := (∀ x j, x < T 191 0 0 → x ≠ T 104 0 4 → U 190 x j = T 190 x j) ∧ (U 104 0 4 = T 104 0 4 ∨ (U 104 0 4 = T 191 0 0 ∧ T 191 0 0 < U 191 0 0))
theorem kpa_r {T : Zt} : KPA_ T T := ⟨fun _ _ _ _ => rfl, Or.inl rfl⟩
/-- all old rows but the title's own stay -/
def KPT_ (T U : Zt) : Prop := (∀ x j, x < T 191 0 0 → x + 1 ≠ T 109 0 15 → U 190 x j = T 190 x j) ∧ (U 109 0 15 = T 109 0 15 ∨ (U 109 0 15 = T 191 0 0 + 1 ∧ T 191 0 0 < U 191 0 0))
theorem kpt_r {T : Zt} : KPT_ T T := ⟨fun _ _ _ _ => rfl, Or.inl rfl⟩
theorem bk_X4_weighAll_e_82 : ck_ fX4 none cX4_weighAll 82 [.iload 5, .iload 1, .if_icmp .ge 115, .aload 0, .tableswitch 0 4 4 #[], .iload 3, .iload 1, .imul, .iload 5, .iadd, .aload 0, .aload 4, .iload 3, .iload 5, .iload 1] 105 = true := qck_r (nn_ _) (by decide +kernel)
theorem bs_X4_weighAll_e_82 {P : Zt → Option Zv → Prop} (K : Int → Zl → List Zv → Zt → Prop) : sx_ K P [.iload 5, .iload 1, .if_icmp .ge 115, .aload 0, .tableswitch 0 4 4 #[], .iload 3, .iload 1, .imul, .iload 5, .iadd, .aload 0, .aload 4, .iload 3, .iload 5, .iload 1] 105 = x_iload 5 (x_iload 1 (x_if_icmp .ge 115 K (x_aload 0 (x_g3 104 190 4 (x_iload 3 (x_iload 1 (x_imul (x_iload 5 (x_iadd (x_aload 0 (x_aload 4 (x_iload 3 (x_iload 5 (x_iload 1 (K 105))))))))))))))) := ((xe_iload 5).trans (congrArg (x_iload 5) ((xe_iload 1).trans (congrArg (x_iload 1) ((xe_if_icmp .ge 115).trans (congrArg (x_if_icmp .ge 115 K) ((xe_aload 0).trans (congrArg (x_aload 0) ((xe_g3 (kk := 104) rfl tl_4_4).trans (congrArg (x_g3 104 190 4) ((xe_iload 3).trans (congrArg (x_iload 3) ((xe_iload 1).trans (congrArg (x_iload 1) ((xe_imul).trans (congrArg (x_imul) ((xe_iload 5).trans (congrArg (x_iload 5) ((xe_iadd).trans (congrArg (x_iadd) ((xe_aload 0).trans (congrArg (x_aload 0) ((xe_aload 4).trans (congrArg (x_aload 4) ((xe_iload 3).trans (congrArg (x_iload 3) ((xe_iload 5).trans (congrArg (x_iload 5) ((xe_iload 1).trans (congrArg (x_iload 1) xe_nil))))))))))))))))))))))))))))))
theorem bk_X4_weighAll_e_115 : ck_ fX4 none cX4_weighAll 115 [.iinc 3 (-1), .goto 59] 121 = true := qck_r (nn_ _) (by decide +kernel)
theorem bs_X4_weighAll_e_115 {P : Zt → Option Zv → Prop} (K : Int → Zl → List Zv → Zt → Prop) : sx_ K P [.iinc 3 (-1), .goto 59] 121 = x_iinc 3 (-1) (x_goto 59 K) := ((xe_iinc 3 (-1)).trans (congrArg (x_iinc 3 (-1)) (xe_goto 59)))
theorem bk_X4_weighAll_e_108 : ck_ fX4 none cX4_weighAll 108 [.iastore, .iinc 5 1, .goto 82] 115 = true := qck_r (nn_ _) (by decide +kernel)
theorem bs_X4_weighAll_e_108 {P : Zt → Option Zv → Prop} (K : Int → Zl → List Zv → Zt → Prop) : sx_ K P [.iastore, .iinc 5 1, .goto 82] 115 = x_iastore (x_iinc 5 1 (x_goto 82 K)) := ((xe_iastore).trans (congrArg (x_iastore) ((xe_iinc 5 1).trans (congrArg (x_iinc 5 1) (xe_goto 82)))))
theorem bk_X4_weighAll_e_59 : ck_ fX4 none cX4_weighAll 59 [.iload 3, .ifCond .lt 121, .aload 0, .tableswitch 0 4 0 #[], .tableswitch 0 6 3 #[], .aload 0, .tableswitch 0 4 2 #[], .iload 3, .iaload, .aaload, .astore 4, .iconst 0, .istore 5] 82 = true := qck_r (nn_ _) (by decide +kernel)
theorem bs_X4_weighAll_e_59 {P : Zt → Option Zv → Prop} (K : Int → Zl → List Zv → Zt → Prop) : sx_ K P [.iload 3, .ifCond .lt 121, .aload 0, .tableswitch 0 4 0 #[], .tableswitch 0 6 3 #[], .aload 0, .tableswitch 0 4 2 #[], .iload 3, .iaload, .aaload, .astore 4, .iconst 0, .istore 5] 82 = x_iload 3 (x_ifCond .lt 121 K (x_aload 0 (x_g1 104 106 (x_g1 106 523 (x_aload 0 (x_g1 104 482 (x_iload 3 (x_iaload (x_aaload (x_astore 4 (x_iconst 0 (x_istore 5 (K 82))))))))))))) := ((xe_iload 3).trans (congrArg (x_iload 3) ((xe_ifCond .lt 121).trans (congrArg (x_ifCond .lt 121 K) ((xe_aload 0).trans (congrArg (x_aload 0) ((xe_g1 (kk := 104) rfl tl_4_0).trans (congrArg (x_g1 104 106) ((xe_g1 (kk := 106) rfl tl_6_3).trans (congrArg (x_g1 106 523) ((xe_aload 0).trans (congrArg (x_aload 0) ((xe_g1 (kk := 104) rfl tl_4_2).trans (congrArg (x_g1 104 482) ((xe_iload 3).trans (congrArg (x_iload 3) ((xe_iaload).trans (congrArg (x_iaload) ((xe_aaload).trans (congrArg (x_aaload) ((xe_astore 4).trans (congrArg (x_astore 4) ((xe_iconst 0).trans (congrArg (x_iconst 0) ((xe_istore 5).trans (congrArg (x_istore 5) xe_nil))))))))))))))))))))))))))
theorem bk_X4_weighAll_e_121 : ck_ fX4 none cX4_weighAll 121 [.return_] 122 = true := qck_r (nn_ _) (by decide +kernel)
theorem bs_X4_weighAll_e_121 {P : Zt → Option Zv → Prop} (K : Int → Zl → List Zv → Zt → Prop) : sx_ K P [.return_] 122 = x_return_ P := (xe_return_)
theorem bk_X4_weighAll_e_27 : ck_ fX4 none cX4_weighAll 27 [.iload 3, .iload 1, .if_icmp .ge 52, .aload 0, .tableswitch 0 4 4 #[], .aload 0, .tableswitch 0 4 3 #[], .iload 1, .imul, .iload 3, .iadd, .iconst 0, .iastore, .iinc 3 1, .goto 27] 52 = true := qck_r (nn_ _) (by decide +kernel)
theorem bs_X4_weighAll_e_27 {P : Zt → Option Zv → Prop} (K : Int → Zl → List Zv → Zt → Prop) : sx_ K P [.iload 3, .iload 1, .if_icmp .ge 52, .aload 0, .tableswitch 0 4 4 #[], .aload 0, .tableswitch 0 4 3 #[], .iload 1, .imul, .iload 3, .iadd, .iconst 0, .iastore, .iinc 3 1, .goto 27] 52 = x_iload 3 (x_iload 1 (x_if_icmp .ge 52 K (x_aload 0 (x_g3 104 190 4 (x_aload 0 (x_g0 104 3 0 400 (x_iload 1 (x_imul (x_iload 3 (x_iadd (x_iconst 0 (x_iastore (x_iinc 3 1 (x_goto 27 K)))))))))))))) := ((xe_iload 3).trans (congrArg (x_iload 3) ((xe_iload 1).trans (congrArg (x_iload 1) ((xe_if_icmp .ge 52).trans (congrArg (x_if_icmp .ge 52 K) ((xe_aload 0).trans (congrArg (x_aload 0) ((xe_g3 (kk := 104) rfl tl_4_4).trans (congrArg (x_g3 104 190 4) ((xe_aload 0).trans (congrArg (x_aload 0) ((xe_g0 (kk := 104) rfl tl_4_3).trans (congrArg (x_g0 104 3 0 400) ((xe_iload 1).trans (congrArg (x_iload 1) ((xe_imul).trans (congrArg (x_imul) ((xe_iload 3).trans (congrArg (x_iload 3) ((xe_iadd).trans (congrArg (x_iadd) ((xe_iconst 0).trans (congrArg (x_iconst 0) ((xe_iastore).trans (congrArg (x_iastore) ((xe_iinc 3 1).trans (congrArg (x_iinc 3 1) (xe_goto 27)))))))))))))))))))))))))))))
theorem bk_X4_weighAll_e_52 : ck_ fX4 none cX4_weighAll 52 [.aload 0, .tableswitch 0 4 3 #[], .iconst 1, .isub, .istore 3] 59 = true := qck_r (nn_ _) (by decide +kernel)
theorem bs_X4_weighAll_e_52 {P : Zt → Option Zv → Prop} (K : Int → Zl → List Zv → Zt → Prop) : sx_ K P [.aload 0, .tableswitch 0 4 3 #[], .iconst 1, .isub, .istore 3] 59 = x_aload 0 (x_g0 104 3 0 400 (x_iconst 1 (x_isub (x_istore 3 (K 59))))) := ((xe_aload 0).trans (congrArg (x_aload 0) ((xe_g0 (kk := 104) rfl tl_4_3).trans (congrArg (x_g0 104 3 0 400) ((xe_iconst 1).trans (congrArg (x_iconst 1) ((xe_isub).trans (congrArg (x_isub) ((xe_istore 3).trans (congrArg (x_istore 3) xe_nil))))))))))
theorem bk_X4_weighAll_e_0 : ck_ fX4 none cX4_weighAll 0 [.aload 0, .tableswitch 0 4 3 #[], .iconst 1, .iadd, .iload 1, .imul, .istore 2, .aload 0, .tableswitch 0 4 4 #[], .arraylength, .iload 2, .if_icmp .ge 25, .aload 0, .iload 2] 20 = true := qck_r (nn_ _) (by decide +kernel)
theorem bs_X4_weighAll_e_0 {P : Zt → Option Zv → Prop} (K : Int → Zl → List Zv → Zt → Prop) : sx_ K P [.aload 0, .tableswitch 0 4 3 #[], .iconst 1, .iadd, .iload 1, .imul, .istore 2, .aload 0, .tableswitch 0 4 4 #[], .arraylength, .iload 2, .if_icmp .ge 25, .aload 0, .iload 2] 20 = x_aload 0 (x_g0 104 3 0 400 (x_iconst 1 (x_iadd (x_iload 1 (x_imul (x_istore 2 (x_aload 0 (x_g3 104 190 4 (x_arraylength (x_iload 2 (x_if_icmp .ge 25 K (x_aload 0 (x_iload 2 (K 20)))))))))))))) := ((xe_aload 0).trans (congrArg (x_aload 0) ((xe_g0 (kk := 104) rfl tl_4_3).trans (congrArg (x_g0 104 3 0 400) ((xe_iconst 1).trans (congrArg (x_iconst 1) ((xe_iadd).trans (congrArg (x_iadd) ((xe_iload 1).trans (congrArg (x_iload 1) ((xe_imul).trans (congrArg (x_imul) ((xe_istore 2).trans (congrArg (x_istore 2) ((xe_aload 0).trans (congrArg (x_aload 0) ((xe_g3 (kk := 104) rfl tl_4_4).trans (congrArg (x_g3 104 190 4) ((xe_arraylength).trans (congrArg (x_arraylength) ((xe_iload 2).trans (congrArg (x_iload 2) ((xe_if_icmp .ge 25).trans (congrArg (x_if_icmp .ge 25 K) ((xe_aload 0).trans (congrArg (x_aload 0) ((xe_iload 2).trans (congrArg (x_iload 2) xe_nil))))))))))))))))))))))))))))
theorem bk_X4_weighAll_e_25 : ck_ fX4 none cX4_weighAll 25 [.iconst 0, .istore 3] 27 = true := qck_r (nn_ _) (by decide +kernel)
theorem bs_X4_weighAll_e_25 {P : Zt → Option Zv → Prop} (K : Int → Zl → List Zv → Zt → Prop) : sx_ K P [.iconst 0, .istore 3] 27 = x_iconst 0 (x_istore 3 (K 27)) := ((xe_iconst 0).trans (congrArg (x_iconst 0) ((xe_istore 3).trans (congrArg (x_istore 3) xe_nil))))
abbrev po_X4_weighAll_e (T : Zt) (e : Int) : Zt → Option Zv → Prop := fun T' r => r = none ∧ fr_ [(104, [4]), (190, []), (191, [0])] T T' ∧ ((T 104 0 3 + 1) * e ≤ T' 190 (T' 104 0 4) (-2) ∧ KPA_ T T' ∧ lh_ T T' ∧ T' 191 0 0 ≤ T 191 0 0 + 1)
set_option maxHeartbeats 4000000 in
theorem ct_X4_weighAll_e {T : Zt} {e : Int} (hka : KA_ T) (hs : 0 ≤ T 104 0 3 ∧ T 104 0 3 ≤ 48) (hO : OS_ (T 108 0 12) e) (hv : ∀ j, 0 ≤ j → j < T 104 0 3 → 0 ≤ T 482 0 j ∧ T 482 0 j < T 106 0 4) (h9 : 0 ≤ T 191 0 0 ∧ T 191 0 0 ≤ 900000000) : Ct_ yX4_weighAll zX4_weighAll T [vR 104 0, vI e] (po_X4_weighAll_e T e) := by
  refine ct_of pn_4 rfl rfl (Nat.le_of_ble_eq_true rfl) (fun hT hav => ?_)
  have hr_e : -2147483648 ≤ e ∧ e ≤ 2147483647 := hav (vI e) (List.mem_cons_of_mem _ List.mem_cons_self)
  have hz : zX4_weighAll.2.2.2.1 = some .boolean → ∀ (T' : Zt) (x : Int), po_X4_weighAll_e T e T' (some (vI x)) → 0 ≤ x ∧ x ≤ 1 := fun h => by cases h
  have hb_matchCount : 0 ≤ T 106 0 4 ∧ T 106 0 4 ≤ 400 := bd_f hT 106 4 tl_6_4 0
  have hb_officials : 0 ≤ T 108 0 12 ∧ T 108 0 12 ≤ 8 := bd_f hT 108 12 tl_8_12 0
  have hE := hO.1
  have hm := mlb (a := T 104 0 3 + 1) (b := e) (A := 49) (B := 256) (by omega) (by omega)
  have hm1 := mlb (a := T 104 0 3) (b := e) (A := 48) (B := 256) (by omega) (by omega)
  have x1 := k1e (T 104 0 3) e
  have hbx := bx_4 hT (ok_al (v := none) (by decide) (hav (vR 104 0) (by simp)))
  show J_ zX4_weighAll T (po_X4_weighAll_e T e) 1 12544 0 [some (vR 104 0), some (vI e), none, none, none, none] [] T
  have c_59 : ∀ (nn : Nat) (k : Int) (T2 : Zt), ((k + 1).toNat) ≤ nn → (fr_ [(104, [4]), (190, []), (191, [0])] T T2) → (-1 ≤ k ∧ k < T 104 0 3) → ((T 104 0 3 + 1) * e ≤ T2 190 (T2 104 0 4) (-2)) → (lh_ T T2 ∧ T2 191 0 0 ≤ T 191 0 0 + 1) → (KPA_ T T2) → J_ zX4_weighAll T (po_X4_weighAll_e T e) 0 0 59 [some (vR 104 0), some (vI e), some (vI ((T 104 0 3 + 1) * e)), some (vI k), none, none] [] T2 := by
    intro nn
    induction nn using Nat.strongRecOn with
    | _ nn ih_59 =>
      intro k T2 hm_59 hf_59 i2 l2 h2 k2
      replace hm_59 := fun (_ : Unit) => hm_59
      have c_82 : ∀ (nn : Nat) (j : Int) (T3 : Zt), ((256 - j).toNat) ≤ nn → (fr_ [(104, [4]), (190, []), (191, [0])] T T3) → (0 ≤ j ∧ 0 ≤ k) → ((T 104 0 3 + 1) * e ≤ T3 190 (T3 104 0 4) (-2)) → (lh_ T T3 ∧ T3 191 0 0 ≤ T 191 0 0 + 1) → (KPA_ T T3) → J_ zX4_weighAll T (po_X4_weighAll_e T e) 0 0 82 [some (vR 104 0), some (vI e), some (vI ((T 104 0 3 + 1) * e)), some (vI k), some (vR 102 (T 482 0 k)), some (vI j)] [] T3 := by
        intro nn
        induction nn using Nat.strongRecOn with
        | _ nn ih_82 =>
          intro j T3 hm_82 hf_82 i3 l3 h3 k3
          replace hm_82 := fun (_ : Unit) => hm_82
          have y4 := hv k (by omega) (by omega)
          have hm3 := mlb (a := k) (b := e) (A := 48) (B := 256) (by omega) (by omega)
          have x3 := k1e k e
          have x4 := k2e k e
          have y5 := kse (k := k) (s := T 104 0 3) (e := e) (by omega) (by omega)
          refine j_blx (F := fX4) tb_X4 (nn_ _) bk_X4_weighAll_e_82 bs_X4_weighAll_e_82 hz (fun K hK => ?_)
          refine And.intro (fun c1 => ?_) (fun c1 => ?_)
          · refine hK 115 _ [] T3 ?_
            refine j_blx (F := fX4) tb_X4 (nn_ _) bk_X4_weighAll_e_115 bs_X4_weighAll_e_115 hz (fun K hK => ?_)
            refine rg_i (by omega) ?_
            refine hK 59 [some (vR 104 0), some (vI e), some (vI ((T 104 0 3 + 1) * e)), some (vI (k + (-1))), some (vR 102 (T 482 0 k)), some (vI j)] [] T3 ?_
            refine j_drq [some (vR 104 0), some (vI e), some (vI ((T 104 0 3 + 1) * e)), some (vI (k + (-1))), none, none] (drq_s (drq_s (drq_s (drq_s (drq_n (drq_n drq_0)))))) ?_
            refine j_mono (bc' := 0) (bs' := 0) (by omega) (by omega) ?_
            refine ih_59 _ ?_ (k + (-1)) T3 (Nat.le_refl _) ?_ ?_ ?_ ?_ ?_
            · have hm_59 := hm_59 (); omega
            · exact fr_t (fr_0 _ _) (fr_s hf_82 rfl)
            · omega
            · exact l3
            · exact h3
            · exact k3
          · refine rg_i (by omega) ?_
            refine rg_i (by omega) ?_
            refine hK 105 [some (vR 104 0), some (vI e), some (vI ((T 104 0 3 + 1) * e)), some (vI k), some (vR 102 (T 482 0 k)), some (vI j)] [vI e, vI j, vI k, vR 102 (T 482 0 k), vR 104 0, vI ((k * e) + j), vR 190 (T3 104 0 4)] T3 ?_
            have e3 : T3 108 0 12 = T 108 0 12 := hf_82 108 0 12 rfl
            have y5 := kse (k := k) (s := T 104 0 3) (e := e) (by omega) (by omega)
            refine j_callV (y := yX4_weigh) (Yc := zX4_weigh) (rest := [vI ((k * e) + j), vR 190 (T3 104 0 4)]) [vR 102 (T 482 0 k), vI k, vI j, vI e] (ct_X4_weigh (T := T3) (by omega) (by omega) (by rw [e3]; exact hO) (by omega)) cl_X4_67 (qd_c (by decide +kernel)) (nn_ _) rfl (rf_of rfl) (Nat.le_of_ble_eq_true rfl) (Nat.le_of_ble_eq_true rfl) (Nat.le_of_ble_eq_true rfl) rfl ?_
            rintro _ _ ⟨rfl, x4, rfl, hx4⟩
            show J_ zX4_weighAll T (po_X4_weighAll_e T e) 0 0 108 _ [vI x4, vI ((k * e) + j), vR 190 (T3 104 0 4)] T3
            refine j_blx (F := fX4) tb_X4 (nn_ _) bk_X4_weighAll_e_108 bs_X4_weighAll_e_108 hz (fun K hK => ?_)
            refine iy_i (by omega) (by omega) ?_
            refine x_nm (fun U5 hU5 => ?_)
            have e6 := up_f hU5
            refine rg_i (by omega) ?_
            refine hK 82 [some (vR 104 0), some (vI e), some (vI ((T 104 0 3 + 1) * e)), some (vI k), some (vR 102 (T 482 0 k)), some (vI (j + 1))] [] U5 ?_
            refine j_mono (bc' := 0) (bs' := 0) (by omega) (by omega) ?_
            have e7 : U5 104 0 4 = T3 104 0 4 := up_k hU5 (by exact Nat.ne_of_beq_eq_false rfl) 0 4
            have e8 : U5 191 0 0 = T3 191 0 0 := up_k hU5 (by exact Nat.ne_of_beq_eq_false rfl) 0 0
            refine ih_82 _ ?_ (j + 1) U5 (Nat.le_refl _) ?_ ?_ ?_ ?_ ?_
            · have hm_82 := hm_82 (); omega
            · exact fr_u (fr_t (fr_0 _ _) (fr_s hf_82 rfl)) hU5 rfl
            · omega
            · have y1 : U5 104 0 4 = T3 104 0 4 := up_k hU5 (by exact Nat.ne_of_beq_eq_false rfl) _ _
              have y2 : ∀ x, U5 190 x (-2) = T3 190 x (-2) := fun x => up_g hU5 (fun z => by omega)
              rw [y2, y1]; exact l3
            · have y1 : U5 104 0 4 = T3 104 0 4 := up_k hU5 (by exact Nat.ne_of_beq_eq_false rfl) _ _
              have y2 : ∀ x, U5 190 x (-2) = T3 190 x (-2) := fun x => up_g hU5 (fun z => by omega)
              have y3 : U5 191 0 0 = T3 191 0 0 := up_k hU5 (by exact Nat.ne_of_beq_eq_false rfl) _ _
              exact ⟨lh_t h3.1 ⟨fun x _ => y2 x, by omega⟩, by have := h3.2; omega⟩
            · exact ⟨fun x j hx hn => (up_g hU5 (fun z => by have y9 := k3.2; have y8 := z.2.1; omega)).trans (k3.1 x j hx hn), by have y1 : U5 104 0 4 = T3 104 0 4 := up_k hU5 (by exact Nat.ne_of_beq_eq_false rfl) _ _; have y3 : U5 191 0 0 = T3 191 0 0 := up_k hU5 (by exact Nat.ne_of_beq_eq_false rfl) _ _; have y9 := k3.2; omega⟩
      refine j_blx (F := fX4) tb_X4 (nn_ _) bk_X4_weighAll_e_59 bs_X4_weighAll_e_59 hz (fun K hK => ?_)
      refine And.intro (fun c9 => ?_) (fun c9 => ?_)
      · refine hK 121 _ [] T2 ?_
        refine j_blx (F := fX4) tb_X4 (nn_ _) bk_X4_weighAll_e_121 bs_X4_weighAll_e_121 hz (fun K hK => ?_)
        refine (show po_X4_weighAll_e T e T2 (none) from ?_)
        exact ⟨rfl, hf_59, l2, k2, h2⟩
      · refine ix_i (by omega) ?_
        intro b10 b10b
        have e11 : T2 482 0 k = T 482 0 k := hf_59 482 0 k rfl
        rw [e11] at b10 b10b ⊢
        refine ix_i (by omega) ?_
        have e13 : T2 523 0 (T 482 0 k) = T 523 0 (T 482 0 k) := hf_59 523 0 (T 482 0 k) rfl
        refine And.intro (fun c12 => ?_) (fun c12 => ?_)
        · exact absurd (show T 523 0 (T 482 0 k) = 0 by omega) (hka.2 _ (hv k (by omega) (by omega)).1 (hv k (by omega) (by omega)).2)
        · refine hK 82 [some (vR 104 0), some (vI e), some (vI ((T 104 0 3 + 1) * e)), some (vI k), some (vR 102 (T 482 0 k)), some (vI 0)] [] T2 ?_
          refine j_mono (bc' := 0) (bs' := 0) (by omega) (by omega) ?_
          refine c_82 _ 0 T2 (Nat.le_refl _) ?_ ?_ ?_ ?_ ?_
          · exact fr_t (fr_0 _ _) (fr_s hf_59 rfl)
          · omega
          · exact l2
          · exact h2
          · exact k2
  have c_27 : ∀ (nn : Nat) (j : Int) (T1 : Zt), ((256 - j).toNat) ≤ nn → (fr_ [(104, [4]), (190, []), (191, [0])] T T1) → (0 ≤ j) → ((T 104 0 3 + 1) * e ≤ T1 190 (T1 104 0 4) (-2)) → (lh_ T T1 ∧ T1 191 0 0 ≤ T 191 0 0 + 1) → (KPA_ T T1) → J_ zX4_weighAll T (po_X4_weighAll_e T e) 0 0 27 [some (vR 104 0), some (vI e), some (vI ((T 104 0 3 + 1) * e)), some (vI j), none, none] [] T1 := by
    intro nn
    induction nn using Nat.strongRecOn with
    | _ nn ih_27 =>
      intro j T1 hm_27 hf_27 i1 l1 h1 k1
      replace hm_27 := fun (_ : Unit) => hm_27
      refine j_blx (F := fX4) tb_X4 (nn_ _) bk_X4_weighAll_e_27 bs_X4_weighAll_e_27 hz (fun K hK => ?_)
      refine And.intro (fun c14 => ?_) (fun c14 => ?_)
      · refine hK 52 _ [] T1 ?_
        refine j_blx (F := fX4) tb_X4 (nn_ _) bk_X4_weighAll_e_52 bs_X4_weighAll_e_52 hz (fun K hK => ?_)
        intro b15 b15b
        have e16 : T1 104 0 3 = T 104 0 3 := hf_27 104 0 3 rfl
        rw [e16] at b15 b15b ⊢
        refine rg_i (by omega) ?_
        refine hK 59 [some (vR 104 0), some (vI e), some (vI ((T 104 0 3 + 1) * e)), some (vI ((T 104 0 3) - 1)), none, none] [] T1 ?_
        refine j_mono (bc' := 0) (bs' := 0) (by omega) (by omega) ?_
        refine c_59 _ ((T 104 0 3) - 1) T1 (Nat.le_refl _) ?_ ?_ ?_ ?_ ?_
        · exact fr_t (fr_0 _ _) (fr_s hf_27 rfl)
        · omega
        · exact l1
        · exact h1
        · exact k1
      · intro b18 b18b
        have e19 : T1 104 0 3 = T 104 0 3 := hf_27 104 0 3 rfl
        rw [e19] at b18 b18b ⊢
        refine rg_i (by omega) ?_
        refine rg_i (by omega) ?_
        refine iy_i (by omega) (by omega) ?_
        refine x_nm (fun U20 hU20 => ?_)
        have e21 := up_f hU20
        refine rg_i (by omega) ?_
        refine hK 27 [some (vR 104 0), some (vI e), some (vI ((T 104 0 3 + 1) * e)), some (vI (j + 1)), none, none] [] U20 ?_
        refine j_mono (bc' := 0) (bs' := 0) (by omega) (by omega) ?_
        have e22 : U20 104 0 4 = T1 104 0 4 := up_k hU20 (by exact Nat.ne_of_beq_eq_false rfl) 0 4
        have e23 : U20 191 0 0 = T1 191 0 0 := up_k hU20 (by exact Nat.ne_of_beq_eq_false rfl) 0 0
        refine ih_27 _ ?_ (j + 1) U20 (Nat.le_refl _) ?_ ?_ ?_ ?_ ?_
        · have hm_27 := hm_27 (); omega
        · exact fr_u (fr_t (fr_0 _ _) (fr_s hf_27 rfl)) hU20 rfl
        · omega
        · have y1 : U20 104 0 4 = T1 104 0 4 := up_k hU20 (by exact Nat.ne_of_beq_eq_false rfl) _ _
          have y2 : ∀ x, U20 190 x (-2) = T1 190 x (-2) := fun x => up_g hU20 (fun z => by omega)
          rw [y2, y1]; exact l1
        · have y1 : U20 104 0 4 = T1 104 0 4 := up_k hU20 (by exact Nat.ne_of_beq_eq_false rfl) _ _
          have y2 : ∀ x, U20 190 x (-2) = T1 190 x (-2) := fun x => up_g hU20 (fun z => by omega)
          have y3 : U20 191 0 0 = T1 191 0 0 := up_k hU20 (by exact Nat.ne_of_beq_eq_false rfl) _ _
          exact ⟨lh_t h1.1 ⟨fun x _ => y2 x, by omega⟩, by have := h1.2; omega⟩
        · exact ⟨fun x j hx hn => (up_g hU20 (fun z => by have y9 := k1.2; have y8 := z.2.1; omega)).trans (k1.1 x j hx hn), by have y1 : U20 104 0 4 = T1 104 0 4 := up_k hU20 (by exact Nat.ne_of_beq_eq_false rfl) _ _; have y3 : U20 191 0 0 = T1 191 0 0 := up_k hU20 (by exact Nat.ne_of_beq_eq_false rfl) _ _; have y9 := k1.2; omega⟩
  refine j_blx (F := fX4) tb_X4 (nn_ _) bk_X4_weighAll_e_0 bs_X4_weighAll_e_0 hz (fun K hK => ?_)
  intro b24 b24b
  refine rg_i (by omega) ?_
  refine rg_i (by omega) ?_
  intro b26 b26b
  refine And.intro (fun c27 => ?_) (fun c27 => ?_)
  · refine hK 25 [some (vR 104 0), some (vI e), some (vI (((T 104 0 3) + 1) * e)), none, none, none] [] T ?_
    refine j_blx (F := fX4) tb_X4 (nn_ _) bk_X4_weighAll_e_25 bs_X4_weighAll_e_25 hz (fun K hK => ?_)
    refine hK 27 [some (vR 104 0), some (vI e), some (vI (((T 104 0 3) + 1) * e)), some (vI 0), none, none] [] T ?_
    refine j_mono (bc' := 0) (bs' := 0) (by omega) (by omega) ?_
    refine c_27 _ 0 T (Nat.le_refl _) ?_ ?_ ?_ ?_ ?_
    · exact fr_0 _ _
    · omega
    · omega
    · exact ⟨lh_r, by omega⟩
    · exact kpa_r
  · refine hK 20 [some (vR 104 0), some (vI e), some (vI (((T 104 0 3) + 1) * e)), none, none, none] [vI (((T 104 0 3) + 1) * e), vR 104 0] T ?_
    refine j_newL (bc' := 0) (bs' := 0) (pc := 20) (by decide) (by omega) (by omega) (by omega) (by decide +kernel) (lwq_1 (dqc_m (dqc_m (dqa_m (List.mem_of_getElem? (i := 0) rfl)))) rfl : Cond.arrayClass .int ∈ lw_g) ?_
    refine j_nm (fun U28 hU28 => ?_)
    have fU28 := nv_fr hU28
    have aU28 := nv_t9 hU28
    have lU28 := nv_tl hU28
    have oU28 := nv_to hU28
    show J_ zX4_weighAll T (po_X4_weighAll_e T e) 0 0 22 _ [vR 190 (T 191 0 0), vR 104 0] U28
    refine j_putV (pc := 22) (ci := 4) (j := 4) (z := T 191 0 0) (by decide) fr5_X4_15 tl_4_4 (by decide +kernel) rfl (by omega) (by omega) ?_
    refine j_nm (fun U29 hU29 => ?_)
    have e30 := up_f hU29
    show J_ zX4_weighAll T (po_X4_weighAll_e T e) 0 0 25 _ [] U29
    refine j_blx (F := fX4) tb_X4 (nn_ _) bk_X4_weighAll_e_25 bs_X4_weighAll_e_25 hz (fun K hK => ?_)
    refine hK 27 [some (vR 104 0), some (vI e), some (vI (((T 104 0 3) + 1) * e)), some (vI 0), none, none] [] U29 ?_
    refine j_mono (bc' := 0) (bs' := 0) (by omega) (by omega) ?_
    have e31 : U29 104 0 4 = T 191 0 0 := up_f hU29
    have e32 : U29 191 0 0 = U28 191 0 0 := up_k hU29 (by exact Nat.ne_of_beq_eq_false rfl) 0 0
    refine c_27 _ 0 U29 (Nat.le_refl _) ?_ ?_ ?_ ?_ ?_
    · exact fr_u (fr_t (fr_0 _ _) (fr_s fU28 rfl)) hU29 rfl
    · omega
    · have y1 : U29 104 0 4 = T 191 0 0 := up_f hU29
      rw [y1, show U29 190 (T 191 0 0) (-2) = U28 190 (T 191 0 0) (-2) from up_k hU29 (by exact Nat.ne_of_beq_eq_false rfl) _ _, lU28]; omega
    · have y3 : U29 191 0 0 = U28 191 0 0 := up_k hU29 (by exact Nat.ne_of_beq_eq_false rfl) _ _
      exact ⟨⟨fun x hx => (up_k hU29 (by exact Nat.ne_of_beq_eq_false rfl) _ _).trans (oU28 x (-2) (by omega)), by omega⟩, by omega⟩
    · exact ⟨fun x j hx hn => (up_k hU29 (by exact Nat.ne_of_beq_eq_false rfl) _ _).trans (oU28 x j (by omega)), Or.inr ⟨up_f hU29, by have y3 : U29 191 0 0 = U28 191 0 0 := up_k hU29 (by exact Nat.ne_of_beq_eq_false rfl) _ _; omega⟩⟩
theorem bk_X4_share_e_28 : ck_ fX4 (some .int) cX4_share 28 [.iload 5, .aload 0, .tableswitch 0 4 3 #[], .if_icmp .ge 95, .aload 0, .tableswitch 0 4 0 #[], .tableswitch 0 6 3 #[], .aload 0, .tableswitch 0 4 2 #[], .iload 5, .iaload, .aaload, .astore 6, .aload 0, .aload 6, .iload 5, .iload 3, .iload 2] 61 = true := qck_r (nn_ _) (by decide +kernel)
theorem bs_X4_share_e_28 {P : Zt → Option Zv → Prop} (K : Int → Zl → List Zv → Zt → Prop) : sx_ K P [.iload 5, .aload 0, .tableswitch 0 4 3 #[], .if_icmp .ge 95, .aload 0, .tableswitch 0 4 0 #[], .tableswitch 0 6 3 #[], .aload 0, .tableswitch 0 4 2 #[], .iload 5, .iaload, .aaload, .astore 6, .aload 0, .aload 6, .iload 5, .iload 3, .iload 2] 61 = x_iload 5 (x_aload 0 (x_g0 104 3 0 400 (x_if_icmp .ge 95 K (x_aload 0 (x_g1 104 106 (x_g1 106 523 (x_aload 0 (x_g1 104 482 (x_iload 5 (x_iaload (x_aaload (x_astore 6 (x_aload 0 (x_aload 6 (x_iload 5 (x_iload 3 (x_iload 2 (K 61)))))))))))))))))) := ((xe_iload 5).trans (congrArg (x_iload 5) ((xe_aload 0).trans (congrArg (x_aload 0) ((xe_g0 (kk := 104) rfl tl_4_3).trans (congrArg (x_g0 104 3 0 400) ((xe_if_icmp .ge 95).trans (congrArg (x_if_icmp .ge 95 K) ((xe_aload 0).trans (congrArg (x_aload 0) ((xe_g1 (kk := 104) rfl tl_4_0).trans (congrArg (x_g1 104 106) ((xe_g1 (kk := 106) rfl tl_6_3).trans (congrArg (x_g1 106 523) ((xe_aload 0).trans (congrArg (x_aload 0) ((xe_g1 (kk := 104) rfl tl_4_2).trans (congrArg (x_g1 104 482) ((xe_iload 5).trans (congrArg (x_iload 5) ((xe_iaload).trans (congrArg (x_iaload) ((xe_aaload).trans (congrArg (x_aaload) ((xe_astore 6).trans (congrArg (x_astore 6) ((xe_aload 0).trans (congrArg (x_aload 0) ((xe_aload 6).trans (congrArg (x_aload 6) ((xe_iload 5).trans (congrArg (x_iload 5) ((xe_iload 3).trans (congrArg (x_iload 3) ((xe_iload 2).trans (congrArg (x_iload 2) xe_nil))))))))))))))))))))))))))))))))))))
theorem bk_X4_share_e_95 : ck_ fX4 (some .int) cX4_share 95 [.iload 4, .ireturn] 98 = true := qck_r (nn_ _) (by decide +kernel)
theorem bs_X4_share_e_95 {P : Zt → Option Zv → Prop} (K : Int → Zl → List Zv → Zt → Prop) : sx_ K P [.iload 4, .ireturn] 98 = x_iload 4 (x_ireturn P) := ((xe_iload 4).trans (congrArg (x_iload 4) (xe_ireturn)))
theorem bk_X4_share_e_64 : ck_ fX4 (some .int) cX4_share 64 [.istore 7, .aload 6, .iload 7, .tableswitch 1 2 7 #[], .iload 7, .iconst (-1), .if_icmp .eq 89, .iload 3, .iconst 1, .iload 7, .ishl, .ior, .istore 3, .iinc 4 1, .iinc 5 1, .goto 28] 95 = true := qck_r (nn_ _) (by decide +kernel)
theorem bs_X4_share_e_64 {P : Zt → Option Zv → Prop} (K : Int → Zl → List Zv → Zt → Prop) : sx_ K P [.istore 7, .aload 6, .iload 7, .tableswitch 1 2 7 #[], .iload 7, .iconst (-1), .if_icmp .eq 89, .iload 3, .iconst 1, .iload 7, .ishl, .ior, .istore 3, .iinc 4 1, .iinc 5 1, .goto 28] 95 = x_istore 7 (x_aload 6 (x_iload 7 (x_p 102 7 (-1) 7 (x_iload 7 (x_iconst (-1) (x_if_icmp .eq 89 K (x_iload 3 (x_iconst 1 (x_iload 7 (x_ishl (x_ior (x_istore 3 (x_iinc 4 1 (x_iinc 5 1 (x_goto 28 K))))))))))))))) := ((xe_istore 7).trans (congrArg (x_istore 7) ((xe_aload 6).trans (congrArg (x_aload 6) ((xe_iload 7).trans (congrArg (x_iload 7) ((xe_p (kk := 102) rfl tl_2_7).trans (congrArg (x_p 102 7 (-1) 7) ((xe_iload 7).trans (congrArg (x_iload 7) ((xe_iconst (-1)).trans (congrArg (x_iconst (-1)) ((xe_if_icmp .eq 89).trans (congrArg (x_if_icmp .eq 89 K) ((xe_iload 3).trans (congrArg (x_iload 3) ((xe_iconst 1).trans (congrArg (x_iconst 1) ((xe_iload 7).trans (congrArg (x_iload 7) ((xe_ishl).trans (congrArg (x_ishl) ((xe_ior).trans (congrArg (x_ior) ((xe_istore 3).trans (congrArg (x_istore 3) ((xe_iinc 4 1).trans (congrArg (x_iinc 4 1) ((xe_iinc 5 1).trans (congrArg (x_iinc 5 1) (xe_goto 28)))))))))))))))))))))))))))))))
theorem bk_X4_share_e_89 : ck_ fX4 (some .int) cX4_share 89 [.iinc 5 1, .goto 28] 95 = true := qck_r (nn_ _) (by decide +kernel)
theorem bs_X4_share_e_89 {P : Zt → Option Zv → Prop} (K : Int → Zl → List Zv → Zt → Prop) : sx_ K P [.iinc 5 1, .goto 28] 95 = x_iinc 5 1 (x_goto 28 K) := ((xe_iinc 5 1).trans (congrArg (x_iinc 5 1) (xe_goto 28)))
theorem bk_X4_share_e_0 : ck_ fX4 (some .int) cX4_share 0 [.aload 0, .iload 1] 2 = true := qck_r (nn_ _) (by decide +kernel)
theorem bs_X4_share_e_0 {P : Zt → Option Zv → Prop} (K : Int → Zl → List Zv → Zt → Prop) : sx_ K P [.aload 0, .iload 1] 2 = x_aload 0 (x_iload 1 (K 2)) := ((xe_aload 0).trans (congrArg (x_aload 0) ((xe_iload 1).trans (congrArg (x_iload 1) xe_nil))))
theorem bk_X4_share_e_5 : ck_ fX4 (some .int) cX4_share 5 [.iconst 1, .aload 0, .tableswitch 0 4 1 #[], .tableswitch 0 8 12 #[], .ishl, .istore 2, .aload 0, .iload 2] 17 = true := qck_r (nn_ _) (by decide +kernel)
theorem bs_X4_share_e_5 {P : Zt → Option Zv → Prop} (K : Int → Zl → List Zv → Zt → Prop) : sx_ K P [.iconst 1, .aload 0, .tableswitch 0 4 1 #[], .tableswitch 0 8 12 #[], .ishl, .istore 2, .aload 0, .iload 2] 17 = x_iconst 1 (x_aload 0 (x_g1 104 108 (x_g0 108 12 0 8 (x_ishl (x_istore 2 (x_aload 0 (x_iload 2 (K 17)))))))) := ((xe_iconst 1).trans (congrArg (x_iconst 1) ((xe_aload 0).trans (congrArg (x_aload 0) ((xe_g1 (kk := 104) rfl tl_4_1).trans (congrArg (x_g1 104 108) ((xe_g0 (kk := 108) rfl tl_8_12).trans (congrArg (x_g0 108 12 0 8) ((xe_ishl).trans (congrArg (x_ishl) ((xe_istore 2).trans (congrArg (x_istore 2) ((xe_aload 0).trans (congrArg (x_aload 0) ((xe_iload 2).trans (congrArg (x_iload 2) xe_nil))))))))))))))))
theorem bk_X4_share_e_20 : ck_ fX4 (some .int) cX4_share 20 [.iconst 0, .istore 3, .iconst 0, .istore 4, .iconst 0, .istore 5] 28 = true := qck_r (nn_ _) (by decide +kernel)
theorem bs_X4_share_e_20 {P : Zt → Option Zv → Prop} (K : Int → Zl → List Zv → Zt → Prop) : sx_ K P [.iconst 0, .istore 3, .iconst 0, .istore 4, .iconst 0, .istore 5] 28 = x_iconst 0 (x_istore 3 (x_iconst 0 (x_istore 4 (x_iconst 0 (x_istore 5 (K 28)))))) := ((xe_iconst 0).trans (congrArg (x_iconst 0) ((xe_istore 3).trans (congrArg (x_istore 3) ((xe_iconst 0).trans (congrArg (x_iconst 0) ((xe_istore 4).trans (congrArg (x_istore 4) ((xe_iconst 0).trans (congrArg (x_iconst 0) ((xe_istore 5).trans (congrArg (x_istore 5) xe_nil))))))))))))
abbrev po_X4_share_e (T : Zt) (d : Int) : Zt → Option Zv → Prop := fun T' r => ∃ x : Int, r = some (vI x) ∧ fr_ [(104, [3, 4]), (482, []), (102, [7]), (190, []), (191, [0])] T T' ∧ KPA_ T T' ∧ lh_ T T' ∧ T' 191 0 0 ≤ T 191 0 0 + 1
set_option maxHeartbeats 4000000 in
theorem ct_X4_share_e {T : Zt} {d : Int} (hka : KA_ T) (hkm : KM_ T) (hdd : DD_ T) (h9 : 0 ≤ T 191 0 0 ∧ T 191 0 0 ≤ 900000000) : Ct_ yX4_share zX4_share T [vR 104 0, vI d] (po_X4_share_e T d) := by
  refine ct_of pn_4 rfl rfl (Nat.le_of_ble_eq_true rfl) (fun hT hav => ?_)
  have hr_d : -2147483648 ≤ d ∧ d ≤ 2147483647 := hav (vI d) (List.mem_cons_of_mem _ List.mem_cons_self)
  have hz : zX4_share.2.2.2.1 = some .boolean → ∀ (T' : Zt) (x : Int), po_X4_share_e T d T' (some (vI x)) → 0 ≤ x ∧ x ≤ 1 := fun h => by cases h
  have hb_matchCount : 0 ≤ T 106 0 4 ∧ T 106 0 4 ≤ 400 := bd_f hT 106 4 tl_6_4 0
  have hb_officials : 0 ≤ T 108 0 12 ∧ T 108 0 12 ≤ 8 := bd_f hT 108 12 tl_8_12 0
  have hE0 := (os_1 (o := T 108 0 12) (by omega)).1
  show J_ zX4_share T (po_X4_share_e T d) 1 12544 0 [some (vR 104 0), some (vI d), none, none, none, none, none, none] [] T
  have c_28 : ∀ (nn : Nat) (a : Int) (v : Int) (k : Int) (T1 : Zt), ((48 - k).toNat) ≤ nn → (fr_ [(104, [3, 4]), (482, []), (102, [7]), (190, []), (191, [0])] T T1) → (0 ≤ a ∧ a < sl_ 1 (T 108 0 12) ∧ 0 ≤ k ∧ 0 ≤ v ∧ v ≤ k ∧ k ≤ 48) → (0 ≤ T1 104 0 3 ∧ T1 104 0 3 ≤ 48) → (∀ j, 0 ≤ j → j < T1 104 0 3 → 0 ≤ T1 482 0 j ∧ T1 482 0 j < T 106 0 4) → ((T1 104 0 3 + 1) * (sl_ 1 (T 108 0 12)) ≤ T1 190 (T1 104 0 4) (-2)) → (lh_ T T1 ∧ T1 191 0 0 ≤ T 191 0 0 + 1) → (KPA_ T T1) → J_ zX4_share T (po_X4_share_e T d) 0 0 28 [some (vR 104 0), some (vI d), some (vI (sl_ 1 (T 108 0 12))), some (vI a), some (vI v), some (vI k), none, none] [] T1 := by
    intro nn
    induction nn using Nat.strongRecOn with
    | _ nn ih_28 =>
      intro a v k T1 hm_28 hf_28 i1 s1 v1 l1 h1 k1
      replace hm_28 := fun (_ : Unit) => hm_28
      have hO := os_1 (o := T 108 0 12) (by omega)
      have hE := hO.1
      refine j_blx (F := fX4) tb_X4 (nn_ _) bk_X4_share_e_28 bs_X4_share_e_28 hz (fun K hK => ?_)
      intro b1 b1b
      refine And.intro (fun c2 => ?_) (fun c2 => ?_)
      · refine hK 95 _ [] T1 ?_
        refine j_blx (F := fX4) tb_X4 (nn_ _) bk_X4_share_e_95 bs_X4_share_e_95 hz (fun K hK => ?_)
        refine (show po_X4_share_e T d T1 (some (vI v)) from ?_)
        exact ⟨_, rfl, hf_28, k1, h1⟩
      · refine ix_i (by omega) ?_
        intro b3 b3b
        refine ix_i (by omega) ?_
        have e5 : T1 523 0 (T1 482 0 k) = T 523 0 (T1 482 0 k) := hf_28 523 0 (T1 482 0 k) rfl
        refine And.intro (fun c4 => ?_) (fun c4 => ?_)
        · exact absurd (show T 523 0 (T1 482 0 k) = 0 by omega) (hka.2 _ (v1 k (by omega) (by omega)).1 (v1 k (by omega) (by omega)).2)
        · refine hK 61 [some (vR 104 0), some (vI d), some (vI (sl_ 1 (T 108 0 12))), some (vI a), some (vI v), some (vI k), some (vR 102 (T1 482 0 k)), none] [vI (sl_ 1 (T 108 0 12)), vI a, vI k, vR 102 (T1 482 0 k), vR 104 0] T1 ?_
          have e6 : T1 108 0 12 = T 108 0 12 := hf_28 108 0 12 rfl
          have x1 := kse (k := k) (s := T1 104 0 3) (e := sl_ 1 (T 108 0 12)) (by omega) (by omega)
          refine j_callV (y := yX4_firstBest) (Yc := zX4_firstBest) (rest := []) [vR 102 (T1 482 0 k), vI k, vI a, vI (sl_ 1 (T 108 0 12))] (ct_X4_firstBest (T := T1) (by omega) (by omega) (by rw [e6]; exact hO) (by omega)) cl_X4_48 (qd_c (by decide +kernel)) (nn_ _) rfl (rf_of rfl) (Nat.le_of_ble_eq_true rfl) (Nat.le_of_ble_eq_true rfl) (Nat.le_of_ble_eq_true rfl) rfl ?_
          rintro _ _ ⟨rfl, x7, rfl, hx7⟩
          show J_ zX4_share T (po_X4_share_e T d) 0 0 64 _ [vI x7] T1
          refine j_blx (F := fX4) tb_X4 (nn_ _) bk_X4_share_e_64 bs_X4_share_e_64 hz (fun K hK => ?_)
          refine bd_i (by omega) ?_
          refine x_nm (fun U8 hU8 => ?_)
          have e9 := up_f hU8
          refine And.intro (fun c10 => ?_) (fun c10 => ?_)
          · refine hK 89 [some (vR 104 0), some (vI d), some (vI (sl_ 1 (T 108 0 12))), some (vI a), some (vI v), some (vI k), some (vR 102 (T1 482 0 k)), some (vI x7)] [] U8 ?_
            refine j_blx (F := fX4) tb_X4 (nn_ _) bk_X4_share_e_89 bs_X4_share_e_89 hz (fun K hK => ?_)
            refine rg_i (by omega) ?_
            refine hK 28 [some (vR 104 0), some (vI d), some (vI (sl_ 1 (T 108 0 12))), some (vI a), some (vI v), some (vI (k + 1)), some (vR 102 (T1 482 0 k)), some (vI x7)] [] U8 ?_
            refine j_drq [some (vR 104 0), some (vI d), some (vI (sl_ 1 (T 108 0 12))), some (vI a), some (vI v), some (vI (k + 1)), none, none] (drq_s (drq_s (drq_s (drq_s (drq_s (drq_s (drq_n (drq_n drq_0)))))))) ?_
            refine j_mono (bc' := 0) (bs' := 0) (by omega) (by omega) ?_
            have e11 : U8 104 0 3 = T1 104 0 3 := up_k hU8 (by exact Nat.ne_of_beq_eq_false rfl) 0 3
            have e12 : U8 104 0 4 = T1 104 0 4 := up_k hU8 (by exact Nat.ne_of_beq_eq_false rfl) 0 4
            have e13 : U8 191 0 0 = T1 191 0 0 := up_k hU8 (by exact Nat.ne_of_beq_eq_false rfl) 0 0
            refine ih_28 _ ?_ a v (k + 1) U8 (Nat.le_refl _) ?_ ?_ ?_ ?_ ?_ ?_ ?_
            · have hm_28 := hm_28 (); omega
            · exact fr_u (fr_t (fr_0 _ _) (fr_s hf_28 rfl)) hU8 rfl
            · omega
            · have y1 : U8 104 0 3 = T1 104 0 3 := up_k hU8 (by exact Nat.ne_of_beq_eq_false rfl) _ _
              omega
            · intro j a b; rw [show U8 482 0 j = T1 482 0 j from up_k hU8 (by exact Nat.ne_of_beq_eq_false rfl) _ _]; exact v1 j a (by rw [← show U8 104 0 3 = T1 104 0 3 from up_k hU8 (by exact Nat.ne_of_beq_eq_false rfl) _ _]; exact b)
            · have y1 : U8 104 0 3 = T1 104 0 3 := up_k hU8 (by exact Nat.ne_of_beq_eq_false rfl) _ _
              have y2 : U8 104 0 4 = T1 104 0 4 := up_k hU8 (by exact Nat.ne_of_beq_eq_false rfl) _ _
              rw [y1, y2, show U8 190 (T1 104 0 4) (-2) = T1 190 (T1 104 0 4) (-2) from up_k hU8 (by exact Nat.ne_of_beq_eq_false rfl) _ _]; exact l1
            · have y3 : U8 191 0 0 = T1 191 0 0 := up_k hU8 (by exact Nat.ne_of_beq_eq_false rfl) _ _
              exact ⟨lh_u h1.1 hU8 (by decide), by have := h1.2; omega⟩
            · exact ⟨fun x j hx hn => (up_k hU8 (by exact Nat.ne_of_beq_eq_false rfl) _ _).trans (k1.1 x j hx hn), by have y1 : U8 104 0 4 = T1 104 0 4 := up_k hU8 (by exact Nat.ne_of_beq_eq_false rfl) _ _; have y3 : U8 191 0 0 = T1 191 0 0 := up_k hU8 (by exact Nat.ne_of_beq_eq_false rfl) _ _; have y9 := k1.2; omega⟩
          · intro w14 w14b
            intro w15 w15b
            have y16 := hO.2 a x7 (by omega) (by omega) (by omega) (by omega)
            refine rg_i (by omega) ?_
            refine rg_i (by omega) ?_
            refine hK 28 [some (vR 104 0), some (vI d), some (vI (sl_ 1 (T 108 0 12))), some (vI (or_ a (sl_ 1 x7))), some (vI (v + 1)), some (vI (k + 1)), some (vR 102 (T1 482 0 k)), some (vI x7)] [] U8 ?_
            refine j_drq [some (vR 104 0), some (vI d), some (vI (sl_ 1 (T 108 0 12))), some (vI (or_ a (sl_ 1 x7))), some (vI (v + 1)), some (vI (k + 1)), none, none] (drq_s (drq_s (drq_s (drq_s (drq_s (drq_s (drq_n (drq_n drq_0)))))))) ?_
            refine j_mono (bc' := 0) (bs' := 0) (by omega) (by omega) ?_
            have e17 : U8 104 0 3 = T1 104 0 3 := up_k hU8 (by exact Nat.ne_of_beq_eq_false rfl) 0 3
            have e18 : U8 104 0 4 = T1 104 0 4 := up_k hU8 (by exact Nat.ne_of_beq_eq_false rfl) 0 4
            have e19 : U8 191 0 0 = T1 191 0 0 := up_k hU8 (by exact Nat.ne_of_beq_eq_false rfl) 0 0
            refine ih_28 _ ?_ (or_ a (sl_ 1 x7)) (v + 1) (k + 1) U8 (Nat.le_refl _) ?_ ?_ ?_ ?_ ?_ ?_ ?_
            · have hm_28 := hm_28 (); omega
            · exact fr_u (fr_t (fr_0 _ _) (fr_s hf_28 rfl)) hU8 rfl
            · omega
            · have y1 : U8 104 0 3 = T1 104 0 3 := up_k hU8 (by exact Nat.ne_of_beq_eq_false rfl) _ _
              omega
            · intro j a b; rw [show U8 482 0 j = T1 482 0 j from up_k hU8 (by exact Nat.ne_of_beq_eq_false rfl) _ _]; exact v1 j a (by rw [← show U8 104 0 3 = T1 104 0 3 from up_k hU8 (by exact Nat.ne_of_beq_eq_false rfl) _ _]; exact b)
            · have y1 : U8 104 0 3 = T1 104 0 3 := up_k hU8 (by exact Nat.ne_of_beq_eq_false rfl) _ _
              have y2 : U8 104 0 4 = T1 104 0 4 := up_k hU8 (by exact Nat.ne_of_beq_eq_false rfl) _ _
              rw [y1, y2, show U8 190 (T1 104 0 4) (-2) = T1 190 (T1 104 0 4) (-2) from up_k hU8 (by exact Nat.ne_of_beq_eq_false rfl) _ _]; exact l1
            · have y3 : U8 191 0 0 = T1 191 0 0 := up_k hU8 (by exact Nat.ne_of_beq_eq_false rfl) _ _
              exact ⟨lh_u h1.1 hU8 (by decide), by have := h1.2; omega⟩
            · exact ⟨fun x j hx hn => (up_k hU8 (by exact Nat.ne_of_beq_eq_false rfl) _ _).trans (k1.1 x j hx hn), by have y1 : U8 104 0 4 = T1 104 0 4 := up_k hU8 (by exact Nat.ne_of_beq_eq_false rfl) _ _; have y3 : U8 191 0 0 = T1 191 0 0 := up_k hU8 (by exact Nat.ne_of_beq_eq_false rfl) _ _; have y9 := k1.2; omega⟩
  refine j_blx (F := fX4) tb_X4 (nn_ _) bk_X4_share_e_0 bs_X4_share_e_0 hz (fun K hK => ?_)
  refine hK 2 _ [vI d, vR 104 0] T ?_
  refine j_callV (y := yX4_listMatches) (Yc := zX4_listMatches) (rest := []) [vI d] (ct_X4_listMatches (T := T) (hka) (hkm) (hdd)) cl_X4_26 (qd_c (by decide +kernel)) (nn_ _) rfl (rf_of rfl) (Nat.le_of_ble_eq_true rfl) (Nat.le_of_ble_eq_true rfl) (Nat.le_of_ble_eq_true rfl) rfl ?_
  rintro U20 _ ⟨rfl, fU20, qU20⟩
  show J_ zX4_share T (po_X4_share_e T d) 1 12544 5 _ [] U20
  refine j_blx (F := fX4) tb_X4 (nn_ _) bk_X4_share_e_5 bs_X4_share_e_5 hz (fun K hK => ?_)
  intro b21 b21b
  have e22 : U20 108 0 12 = T 108 0 12 := fU20 108 0 12 rfl
  rw [e22] at b21 b21b ⊢
  intro w23 w23b
  refine hK 17 [some (vR 104 0), some (vI d), some (vI (sl_ 1 (T 108 0 12))), none, none, none, none, none] [vI (sl_ 1 (T 108 0 12)), vR 104 0] U20 ?_
  have e24 : U20 108 0 12 = T 108 0 12 := fU20 108 0 12 rfl
  have e25 : U20 191 0 0 = T 191 0 0 := fU20 191 0 0 rfl
  have e26 : U20 106 0 4 = T 106 0 4 := fU20 106 0 4 rfl
  have hO := os_1 (o := T 108 0 12) (by omega)
  have hv : ∀ j, 0 ≤ j → j < U20 104 0 3 → 0 ≤ U20 482 0 j ∧ U20 482 0 j < U20 106 0 4 := fun j a b => by have y := qU20.2.1 j a b; omega
  refine j_callV (y := yX4_weighAll) (Yc := zX4_weighAll) (rest := []) [vI (sl_ 1 (T 108 0 12))] (ct_X4_weighAll_e (T := U20) (by exact KA__f hka (fU20) ⟨fun _ => rfl, fun _ => rfl, rfl, rfl, trivial⟩) (by exact qU20.1) (by rw [e24]; exact hO) (by exact hv) (by omega)) cl_X4_36 (qd_c (by decide +kernel)) (nn_ _) rfl (rf_of rfl) (Nat.le_of_ble_eq_true rfl) (Nat.le_of_ble_eq_true rfl) (Nat.le_of_ble_eq_true rfl) rfl ?_
  rintro U27 _ ⟨rfl, fU27, qU27⟩
  show J_ zX4_share T (po_X4_share_e T d) 0 0 20 _ [] U27
  refine j_blx (F := fX4) tb_X4 (nn_ _) bk_X4_share_e_20 bs_X4_share_e_20 hz (fun K hK => ?_)
  refine hK 28 [some (vR 104 0), some (vI d), some (vI (sl_ 1 (T 108 0 12))), some (vI 0), some (vI 0), some (vI 0), none, none] [] U27 ?_
  refine j_mono (bc' := 0) (bs' := 0) (by omega) (by omega) ?_
  have e28 : U27 104 0 3 = U20 104 0 3 := fU27 104 0 3 rfl
  refine c_28 _ 0 0 0 U27 (Nat.le_refl _) ?_ ?_ ?_ ?_ ?_ ?_ ?_
  · exact fr_t (fr_t (fr_0 _ _) (fr_s fU20 rfl)) (fr_s fU27 rfl)
  · omega
  · have y1 : U27 104 0 3 = U20 104 0 3 := fU27 104 0 3 rfl
    have y2 := qU20.1
    omega
  · intro j a b; rw [fU27 482 0 j rfl]; rw [fU27 104 0 3 rfl] at b; have y := hv j a b; omega
  · rw [fU27 104 0 3 rfl]; exact qU27.1
  · have y3 : U20 191 0 0 = T 191 0 0 := fU20 191 0 0 rfl
    exact ⟨lh_t (lh_f (ws := [(104, [3]), (482, [])]) lh_r fU20 rfl rfl) qU27.2.2.1, by have := qU27.2.2.2; omega⟩
  · have y4 : U20 104 0 4 = T 104 0 4 := fU20 104 0 4 rfl
    have y5 : U20 191 0 0 = T 191 0 0 := fU20 191 0 0 rfl
    exact ⟨fun x j hx hn => (qU27.2.1.1 x j (by omega) (by omega)).trans (fU20 190 x j rfl), by have y6 := qU27.2.1.2; omega⟩
theorem bk_X10_assign_e_0 : ck_ fX10 (some .int) cX10_assign 0 [.iload 1] 1 = true := qck_r (nn_ _) (by decide +kernel)
theorem bs_X10_assign_e_0 {P : Zt → Option Zv → Prop} (K : Int → Zl → List Zv → Zt → Prop) : sx_ K P [.iload 1] 1 = x_iload 1 (K 1) := ((xe_iload 1).trans (congrArg (x_iload 1) xe_nil))
theorem bk_X10_assign_e_4 : ck_ fX10 (some .int) cX10_assign 4 [.ifCond .ne 10, .iconst (-3), .ireturn] 10 = true := qck_r (nn_ _) (by decide +kernel)
theorem bs_X10_assign_e_4 {P : Zt → Option Zv → Prop} (K : Int → Zl → List Zv → Zt → Prop) : sx_ K P [.ifCond .ne 10, .iconst (-3), .ireturn] 10 = x_ifCond .ne 10 K (x_iconst (-3) (x_ireturn P)) := ((xe_ifCond .ne 10).trans (congrArg (x_ifCond .ne 10 K) ((xe_iconst (-3)).trans (congrArg (x_iconst (-3)) (xe_ireturn)))))
theorem bk_X10_assign_e_10 : ck_ fX10 (some .int) cX10_assign 10 [.aload 0, .tableswitch 0 10 6 #[], .iload 1] 15 = true := qck_r (nn_ _) (by decide +kernel)
theorem bs_X10_assign_e_10 {P : Zt → Option Zv → Prop} (K : Int → Zl → List Zv → Zt → Prop) : sx_ K P [.aload 0, .tableswitch 0 10 6 #[], .iload 1] 15 = x_aload 0 (x_g1 110 104 (x_iload 1 (K 15))) := ((xe_aload 0).trans (congrArg (x_aload 0) ((xe_g1 (kk := 110) rfl tl_10_6).trans (congrArg (x_g1 110 104) ((xe_iload 1).trans (congrArg (x_iload 1) xe_nil))))))
theorem bk_X10_assign_e_18 : ck_ fX10 (some .int) cX10_assign 18 [.ireturn] 19 = true := qck_r (nn_ _) (by decide +kernel)
theorem bs_X10_assign_e_18 {P : Zt → Option Zv → Prop} (K : Int → Zl → List Zv → Zt → Prop) : sx_ K P [.ireturn] 19 = x_ireturn P := (xe_ireturn)
abbrev po_X10_assign_e (T : Zt) (d : Int) : Zt → Option Zv → Prop := fun T' r => ∃ x : Int, r = some (vI x) ∧ fr_ [(104, [3, 4]), (482, []), (102, [7]), (190, []), (191, [0])] T T' ∧ KPA_ T T' ∧ lh_ T T' ∧ T' 191 0 0 ≤ T 191 0 0 + 1
set_option maxHeartbeats 4000000 in
theorem ct_X10_assign_e {T : Zt} {d : Int} (hka : KA_ T) (hkm : KM_ T) (hdd : DD_ T) (h9 : 0 ≤ T 191 0 0 ∧ T 191 0 0 ≤ 900000000) : Ct_ yX10_assign zX10_assign T [vR 110 0, vI d] (po_X10_assign_e T d) := by
  refine ct_of pn_10 rfl rfl (Nat.le_of_ble_eq_true rfl) (fun hT hav => ?_)
  have hr_d : -2147483648 ≤ d ∧ d ≤ 2147483647 := hav (vI d) (List.mem_cons_of_mem _ List.mem_cons_self)
  have hz : zX10_assign.2.2.2.1 = some .boolean → ∀ (T' : Zt) (x : Int), po_X10_assign_e T d T' (some (vI x)) → 0 ≤ x ∧ x ≤ 1 := fun h => by cases h
  show J_ zX10_assign T (po_X10_assign_e T d) 1 12544 0 [some (vR 110 0), some (vI d)] [] T
  refine j_blx (F := fX10) tb_X10 (nn_ _) bk_X10_assign_e_0 bs_X10_assign_e_0 hz (fun K hK => ?_)
  refine hK 1 _ [vI d] T ?_
  refine j_callS (y := yX10_isDay) (Yc := zX10_isDay) (rest := []) [vI d] (ct_X10_isDay (T := T)) cl_X10_140 (qd_c (by decide +kernel)) (nn_ _) rfl (rf_of rfl) (Nat.le_of_ble_eq_true rfl) (Nat.le_of_ble_eq_true rfl) (Nat.le_of_ble_eq_true rfl) rfl ?_
  rintro _ _ ⟨rfl, x1, rfl, hx1⟩
  show J_ zX10_assign T (po_X10_assign_e T d) 1 12544 4 _ [vI x1] T
  refine j_blx (F := fX10) tb_X10 (nn_ _) bk_X10_assign_e_4 bs_X10_assign_e_4 hz (fun K hK => ?_)
  refine And.intro (fun c2 => ?_) (fun c2 => ?_)
  · replace hx1 := hx1.resolve_right (fun z => c2 z.1)
    clear c2
    refine hK 10 _ [] T ?_
    refine j_blx (F := fX10) tb_X10 (nn_ _) bk_X10_assign_e_10 bs_X10_assign_e_10 hz (fun K hK => ?_)
    refine hK 15 _ [vI d, vR 104 0] T ?_
    refine j_callV (y := yX4_share) (Yc := zX4_share) (rest := []) [vI d] (ct_X4_share_e (T := T) hka hkm hdd h9) cl_X10_423 (qd_c (by decide +kernel)) (nn_ _) rfl (rf_of rfl) (Nat.le_of_ble_eq_true rfl) (Nat.le_of_ble_eq_true rfl) (Nat.le_of_ble_eq_true rfl) rfl ?_
    rintro U3 _ ⟨x4, rfl, fU3, kpU3, lhU3, mU3⟩
    show J_ zX10_assign T (po_X10_assign_e T d) 0 0 18 _ [vI x4] U3
    refine j_blx (F := fX10) tb_X10 (nn_ _) bk_X10_assign_e_18 bs_X10_assign_e_18 hz (fun K hK => ?_)
    refine (show po_X10_assign_e T d U3 (some (vI x4)) from ?_)
    exact ⟨_, rfl, fU3, kpU3, lhU3, mU3⟩
  · replace hx1 := hx1.resolve_left (fun z => absurd (c2.symm.trans z.1) (by decide))
    clear c2
    refine (show po_X10_assign_e T d T (some (vI (-3))) from ?_)
    exact ⟨_, rfl, fr_0 _ _, kpa_r, lh_r, by omega⟩
-- the sheets under a plan, the number of a competition
/-- a new match comes with empty sheets -/
def SN8_ (T T' : Zt) : Prop := (∀ (k : Nat) (i j : Int), k = 448 ∨ k = 449 → i ≠ T 106 0 4 → T' k i j = T k i j) ∧ ∀ j, 0 ≤ j → T' 449 (T 106 0 4) j = 0
/-- the sheets: the old stay, the new are empty -/
def SQ8_ (T T' : Zt) : Prop := (∀ (k : Nat) (i j : Int), k = 448 ∨ k = 449 → i < T 106 0 4 → T' k i j = T k i j) ∧ ∀ i j, T 106 0 4 ≤ i → i < T' 106 0 4 → 0 ≤ j → T' 449 i j = 0
theorem sq8_r {T : Zt} : SQ8_ T T := ⟨fun _ _ _ _ _ => rfl, fun i j a b => by omega⟩
theorem sq8_t {T T1 T2 : Zt} (h : SQ8_ T T1) (g : SQ8_ T1 T2) (h4 : T 106 0 4 ≤ T1 106 0 4) (g4 : T1 106 0 4 ≤ T2 106 0 4) : SQ8_ T T2 := by
  refine ⟨fun k i j hk hi => (g.1 k i j hk (by omega)).trans (h.1 k i j hk hi), fun i j a b c => ?_⟩
  by_cases z : i < T1 106 0 4
  · rw [g.1 449 i j (Or.inr rfl) z]
    exact h.2 i j a z c
  · exact g.2 i j (by omega) b c
theorem sq8_f {T T1 T2 : Zt} {c hh a d : Int} {A B C D : Prop} (h : SQ8_ T T1) (h4 : T 106 0 4 ≤ T1 106 0 4) (q : (T2 = T1 ∧ A) ∨ (nm_ T1 T2 c hh a d ∧ B ∧ C ∧ D ∧ SN8_ T1 T2)) : SQ8_ T T2 := by
  rcases q with ⟨rfl, -⟩ | ⟨n, -, -, -, s⟩
  · exact h
  · have e := n.1.1
    refine ⟨fun k i j hk hi => (s.1 k i j hk (by omega)).trans (h.1 k i j hk hi), fun i j u v g => ?_⟩
    by_cases z : i = T1 106 0 4
    · rw [z]; exact s.2 j g
    · rw [s.1 449 i j (Or.inr rfl) z]
      exact h.2 i j u (by omega) g
theorem sq8_u {T T1 : Zt} {k : Nat} {i j v : Int} (u : T1 = up_ T k i j v) (c : k ≠ 448 ∧ k ≠ 449 ∧ k ≠ 106) : SQ8_ T T1 := by
  refine ⟨fun k' i' j' hk _ => up_g u (fun z => by omega), fun i' j' a b _ => ?_⟩
  have e : T1 106 0 4 = T 106 0 4 := up_g u (fun z => by omega)
  omega
/-- a new competition knows its number -/
def CNN_ (T T' : Zt) : Prop := T' 106 0 2 = T 106 0 2 ∨ T' 100 (T 106 0 2) 0 = T 106 0 2
theorem fw9_ {A N B C D E : Prop} (h : A ∨ (N ∧ B ∧ C ∧ D ∧ E)) : A ∨ (N ∧ B ∧ C ∧ D) := h.imp id (fun z => ⟨z.1, z.2.1, z.2.2.1, z.2.2.2.1⟩)
theorem bk_X6_addFixture_s_0 : ck_ fX6 none cX6_addFixture 0 [.iload 3, .aload 1, .tableswitch 0 0 5 #[], .if_icmp .ge 27, .iload 4, .aload 1, .tableswitch 0 0 5 #[], .if_icmp .ge 27, .aload 0, .tableswitch 0 6 4 #[], .iconst 400, .if_icmp .lt 28, .return_] 28 = true := qck_r (nn_ _) (by decide +kernel)
theorem bs_X6_addFixture_s_0 {P : Zt → Option Zv → Prop} (K : Int → Zl → List Zv → Zt → Prop) : sx_ K P [.iload 3, .aload 1, .tableswitch 0 0 5 #[], .if_icmp .ge 27, .iload 4, .aload 1, .tableswitch 0 0 5 #[], .if_icmp .ge 27, .aload 0, .tableswitch 0 6 4 #[], .iconst 400, .if_icmp .lt 28, .return_] 28 = x_iload 3 (x_aload 1 (x_g0 100 5 0 12 (x_if_icmp .ge 27 K (x_iload 4 (x_aload 1 (x_g0 100 5 0 12 (x_if_icmp .ge 27 K (x_aload 0 (x_g0 106 4 0 400 (x_iconst 400 (x_if_icmp .lt 28 K (x_return_ P)))))))))))) := ((xe_iload 3).trans (congrArg (x_iload 3) ((xe_aload 1).trans (congrArg (x_aload 1) ((xe_g0 (kk := 100) rfl tl_0_5).trans (congrArg (x_g0 100 5 0 12) ((xe_if_icmp .ge 27).trans (congrArg (x_if_icmp .ge 27 K) ((xe_iload 4).trans (congrArg (x_iload 4) ((xe_aload 1).trans (congrArg (x_aload 1) ((xe_g0 (kk := 100) rfl tl_0_5).trans (congrArg (x_g0 100 5 0 12) ((xe_if_icmp .ge 27).trans (congrArg (x_if_icmp .ge 27 K) ((xe_aload 0).trans (congrArg (x_aload 0) ((xe_g0 (kk := 106) rfl tl_6_4).trans (congrArg (x_g0 106 4 0 400) ((xe_iconst 400).trans (congrArg (x_iconst 400) ((xe_if_icmp .lt 28).trans (congrArg (x_if_icmp .lt 28 K) (xe_return_)))))))))))))))))))))))))
theorem bk_X6_addFixture_s_27 : ck_ fX6 none cX6_addFixture 27 [.return_] 28 = true := qck_r (nn_ _) (by decide +kernel)
theorem bs_X6_addFixture_s_27 {P : Zt → Option Zv → Prop} (K : Int → Zl → List Zv → Zt → Prop) : sx_ K P [.return_] 28 = x_return_ P := (xe_return_)
theorem bk_X6_addFixture_s_28 : ck_ fX6 none cX6_addFixture 28 [.aload 0, .tableswitch 0 6 3 #[], .aload 0, .tableswitch 0 6 4 #[]] 36 = true := qck_r (nn_ _) (by decide +kernel)
theorem bs_X6_addFixture_s_28 {P : Zt → Option Zv → Prop} (K : Int → Zl → List Zv → Zt → Prop) : sx_ K P [.aload 0, .tableswitch 0 6 3 #[], .aload 0, .tableswitch 0 6 4 #[]] 36 = x_aload 0 (x_g1 106 523 (x_aload 0 (x_g0 106 4 0 400 (K 36)))) := ((xe_aload 0).trans (congrArg (x_aload 0) ((xe_g1 (kk := 106) rfl tl_6_3).trans (congrArg (x_g1 106 523) ((xe_aload 0).trans (congrArg (x_aload 0) ((xe_g0 (kk := 106) rfl tl_6_4).trans (congrArg (x_g0 106 4 0 400) xe_nil))))))))
theorem bk_X6_addFixture_s_39 : ck_ fX6 none cX6_addFixture 39 [.dup, .aload 1, .aload 0, .tableswitch 0 6 4 #[], .iload 2, .aload 1, .tableswitch 0 0 3 #[], .iload 3, .iaload, .aload 1, .tableswitch 0 0 3 #[], .iload 4, .iaload, .iload 5] 61 = true := qck_r (nn_ _) (by decide +kernel)
theorem bs_X6_addFixture_s_39 {P : Zt → Option Zv → Prop} (K : Int → Zl → List Zv → Zt → Prop) : sx_ K P [.dup, .aload 1, .aload 0, .tableswitch 0 6 4 #[], .iload 2, .aload 1, .tableswitch 0 0 3 #[], .iload 3, .iaload, .aload 1, .tableswitch 0 0 3 #[], .iload 4, .iaload, .iload 5] 61 = x_dup (x_aload 1 (x_aload 0 (x_g0 106 4 0 400 (x_iload 2 (x_aload 1 (x_g2 100 403 (x_iload 3 (x_iaload (x_aload 1 (x_g2 100 403 (x_iload 4 (x_iaload (x_iload 5 (K 61)))))))))))))) := ((xe_dup).trans (congrArg (x_dup) ((xe_aload 1).trans (congrArg (x_aload 1) ((xe_aload 0).trans (congrArg (x_aload 0) ((xe_g0 (kk := 106) rfl tl_6_4).trans (congrArg (x_g0 106 4 0 400) ((xe_iload 2).trans (congrArg (x_iload 2) ((xe_aload 1).trans (congrArg (x_aload 1) ((xe_g2 (kk := 100) rfl tl_0_3).trans (congrArg (x_g2 100 403) ((xe_iload 3).trans (congrArg (x_iload 3) ((xe_iaload).trans (congrArg (x_iaload) ((xe_aload 1).trans (congrArg (x_aload 1) ((xe_g2 (kk := 100) rfl tl_0_3).trans (congrArg (x_g2 100 403) ((xe_iload 4).trans (congrArg (x_iload 4) ((xe_iaload).trans (congrArg (x_iaload) ((xe_iload 5).trans (congrArg (x_iload 5) xe_nil))))))))))))))))))))))))))))
theorem bk_X6_addFixture_s_65 : ck_ fX6 none cX6_addFixture 65 [.aload 0, .dup, .tableswitch 0 6 4 #[], .iconst 1, .iadd, .tableswitch 1 6 4 #[], .return_] 76 = true := qck_r (nn_ _) (by decide +kernel)
theorem bs_X6_addFixture_s_65 {P : Zt → Option Zv → Prop} (K : Int → Zl → List Zv → Zt → Prop) : sx_ K P [.aload 0, .dup, .tableswitch 0 6 4 #[], .iconst 1, .iadd, .tableswitch 1 6 4 #[], .return_] 76 = x_aload 0 (x_dup (x_g0 106 4 0 400 (x_iconst 1 (x_iadd (x_p 106 4 0 400 (x_return_ P)))))) := ((xe_aload 0).trans (congrArg (x_aload 0) ((xe_dup).trans (congrArg (x_dup) ((xe_g0 (kk := 106) rfl tl_6_4).trans (congrArg (x_g0 106 4 0 400) ((xe_iconst 1).trans (congrArg (x_iconst 1) ((xe_iadd).trans (congrArg (x_iadd) ((xe_p (kk := 106) rfl tl_6_4).trans (congrArg (x_p 106 4 0 400) (xe_return_)))))))))))))
abbrev po_X6_addFixture_s (T : Zt) (c : Int) (u h a d : Int) : Zt → Option Zv → Prop := fun T' r => r = none ∧ fr_ [(106, [4]), (523, []), (152, []), (102, []), (448, []), (449, [])] T T' ∧ ((T' = T ∧ (T 100 c 5 ≤ h ∨ T 100 c 5 ≤ a ∨ 400 ≤ T 106 0 4)) ∨ (nm_ T T' c h a d ∧ T' 102 (T 106 0 4) 2 = u ∧ T' 102 (T 106 0 4) 6 = -1 ∧ T' 102 (T 106 0 4) 7 = -1 ∧ SN8_ T T'))
set_option maxHeartbeats 4000000 in
theorem ct_X6_addFixture_s {T : Zt} {c : Int} {u h a d : Int} (hc : 0 ≤ c ∧ c ≤ 3) (hh : 0 ≤ h ∧ 0 ≤ a ∧ 0 ≤ d ∧ d ≤ 999) (hna : NA_ T) : Ct_ yX6_addFixture zX6_addFixture T [vR 106 0, vR 100 c, vI u, vI h, vI a, vI d] (po_X6_addFixture_s T c u h a d) := by
  refine ct_of pn_6 rfl rfl (Nat.le_of_ble_eq_true rfl) (fun hT hav => ?_)
  have hr_u : -2147483648 ≤ u ∧ u ≤ 2147483647 := hav (vI u) (List.mem_cons_of_mem _ (List.mem_cons_of_mem _ List.mem_cons_self))
  have hr_h : -2147483648 ≤ h ∧ h ≤ 2147483647 := hav (vI h) (List.mem_cons_of_mem _ (List.mem_cons_of_mem _ (List.mem_cons_of_mem _ List.mem_cons_self)))
  have hr_a : -2147483648 ≤ a ∧ a ≤ 2147483647 := hav (vI a) (List.mem_cons_of_mem _ (List.mem_cons_of_mem _ (List.mem_cons_of_mem _ (List.mem_cons_of_mem _ List.mem_cons_self))))
  have hr_d : -2147483648 ≤ d ∧ d ≤ 2147483647 := hav (vI d) (List.mem_cons_of_mem _ (List.mem_cons_of_mem _ (List.mem_cons_of_mem _ (List.mem_cons_of_mem _ (List.mem_cons_of_mem _ List.mem_cons_self)))))
  have hz : zX6_addFixture.2.2.2.1 = some .boolean → ∀ (T' : Zt) (x : Int), po_X6_addFixture_s T c u h a d T' (some (vI x)) → 0 ≤ x ∧ x ≤ 1 := fun h => by cases h
  have hb_matchCount : 0 ≤ T 106 0 4 ∧ T 106 0 4 ≤ 400 := bd_f hT 106 4 tl_6_4 0
  have hb5 : 0 ≤ T 100 c 5 ∧ T 100 c 5 ≤ 12 := bd_f hT 100 5 tl_0_5 c
  show J_ zX6_addFixture T (po_X6_addFixture_s T c u h a d) 3 34 0 [some (vR 106 0), some (vR 100 c), some (vI u), some (vI h), some (vI a), some (vI d)] [] T
  refine j_blx (F := fX6) tb_X6 (nn_ _) bk_X6_addFixture_s_0 bs_X6_addFixture_s_0 hz (fun K hK => ?_)
  intro b1 b1b
  refine And.intro (fun c2 => ?_) (fun c2 => ?_)
  · refine hK 27 _ [] T ?_
    refine j_blx (F := fX6) tb_X6 (nn_ _) bk_X6_addFixture_s_27 bs_X6_addFixture_s_27 hz (fun K hK => ?_)
    refine (show po_X6_addFixture_s T c u h a d T (none) from ?_)
    exact ⟨rfl, fr_0 _ _, Or.inl ⟨rfl, by omega⟩⟩
  · intro b3 b3b
    refine And.intro (fun c4 => ?_) (fun c4 => ?_)
    · refine hK 27 _ [] T ?_
      refine j_blx (F := fX6) tb_X6 (nn_ _) bk_X6_addFixture_s_27 bs_X6_addFixture_s_27 hz (fun K hK => ?_)
      refine (show po_X6_addFixture_s T c u h a d T (none) from ?_)
      exact ⟨rfl, fr_0 _ _, Or.inl ⟨rfl, by omega⟩⟩
    · intro b5 b5b
      refine And.intro (fun c6 => ?_) (fun c6 => ?_)
      · refine hK 28 _ [] T ?_
        refine j_blx (F := fX6) tb_X6 (nn_ _) bk_X6_addFixture_s_28 bs_X6_addFixture_s_28 hz (fun K hK => ?_)
        intro b7 b7b
        refine hK 36 _ [vI (T 106 0 4), vR 523 0] T ?_
        refine j_newO (bc' := 2) (bs' := 23) (pc := 36) (ci := 2) (i := T 106 0 4) (by decide) (by decide) vi_2 tyX2_ok (nf_2 _) (lwq_1 (dqc_m (dqc_m (dqc_m (dqc_m (dqa_m (dqa_m (List.mem_of_getElem? (i := 0) rfl))))))) rfl : Cond.classLink RX6 17 RX2 ∈ lw_g) (lwq_3 (dqc_m (dqc_m (dqc_m (dqc_m (dqc_m (dqc_m (dqa_m (dqa_m (dqa_m (List.mem_of_getElem? (i := 5) rfl)))))))))) rfl : Cond.instantiable RX2 11 ∈ lw_g) (lwq_1 (dqa_m (dqa_m (List.mem_of_getElem? (i := 0) rfl))) rfl : Cond.initialized RX2 ∈ lw_g) (hna.1.2.1 _) (by omega) (by omega) (by decide +kernel) ?_
        refine j_nm (fun U8 hU8 => ?_)
        have fU8 := nu_fr hU8
        have zU8 := nu_tz hU8
        have oU8 := nu_to hU8
        have vU8 := nu_tv hU8
        show J_ zX6_addFixture T (po_X6_addFixture_s T c u h a d) 2 23 39 _ [vR 152 (T 106 0 4), vI (T 106 0 4), vR 523 0] U8
        refine j_blx (F := fX6) tb_X6 (nn_ _) bk_X6_addFixture_s_39 bs_X6_addFixture_s_39 hz (fun K hK => ?_)
        intro b9 b9b
        have e10 : U8 106 0 4 = T 106 0 4 := fU8 106 0 4 rfl
        rw [e10] at b9 b9b ⊢
        refine ix_i (by omega) ?_
        intro b11 b11b
        have e12 : U8 403 c h = T 403 c h := fU8 403 c h rfl
        rw [e12] at b11 b11b ⊢
        refine ix_i (by omega) ?_
        intro b13 b13b
        have e14 : U8 403 c a = T 403 c a := fU8 403 c a rfl
        rw [e14] at b13 b13b ⊢
        refine hK 61 _ [vI d, vI (T 403 c a), vI (T 403 c h), vI u, vI (T 106 0 4), vR 100 c, vR 152 (T 106 0 4), vR 152 (T 106 0 4), vI (T 106 0 4), vR 523 0] U8 ?_
        have hv1 : ∀ k : Nat, ow_ k = some 102 → ¬ T k (T 106 0 4) (-1) = 1 := fun k hk h => (hT.2.2.2.2.2.2.2.1 k _ 102 hk h).elim (hna.2.2.1 _ (by omega)) (hna.1.2.1 _)
        have e15 : U8 448 (T 106 0 4) (-1) = T 448 (T 106 0 4) (-1) := fU8 448 (T 106 0 4) (-1) rfl
        have e16 : U8 449 (T 106 0 4) (-1) = T 449 (T 106 0 4) (-1) := fU8 449 (T 106 0 4) (-1) rfl
        refine j_callI (y := yX2_init) (Yc := zX2_init) (rest := [vR 152 (T 106 0 4), vI (T 106 0 4), vR 523 0]) [vR 100 c, vI (T 106 0 4), vI u, vI (T 403 c h), vI (T 403 c a), vI d] (ct_X2_init (T := U8) (by omega) (by rw [e15]; exact hv1 448 (by decide)) (by rw [e16]; exact hv1 449 (by decide))) ci_X6_85 (qd_c (by decide +kernel)) (nn_ _) rfl (rf_of rfl) (Nat.le_of_ble_eq_true rfl) (Nat.le_of_ble_eq_true rfl) (Nat.le_of_ble_eq_true rfl) rfl ?_
        rintro U17 _ ⟨rfl, fU17, qU17o, ⟨t0U17, t1U17, t2U17, t3U17, t4U17, t5U17⟩, ⟨t6U17, t7U17, t8U17, t9U17, t10U17⟩, z8U17, z9U17⟩
        show J_ zX6_addFixture T (po_X6_addFixture_s T c u h a d) 0 0 64 _ [vR 152 (T 106 0 4), vI (T 106 0 4), vR 523 0] U17
        refine j_ok (fun gt2 _ => ?_)
        have e19 : U17 102 (T 106 0 4) (-1) = T 102 (T 106 0 4) (-1) := (fU17 102 (T 106 0 4) (-1) rfl).trans (fU8 102 (T 106 0 4) (-1) rfl)
        refine j_conv (k := 102) (i := T 106 0 4) (g := g2_ U17 (T 106 0 4)) (by decide) (by show ¬ U17 102 (T 106 0 4) (-1) = 1; rw [e19]; exact hna.2.2.1 _ (by omega)) (hna.1.2.1 _) (cg_2 gt2 (by omega) (by omega) t8U17 t9U17 (t10U17.trans (zU8 10 (by decide)))) rfl rfl ?_
        refine j_nm (fun U20 hU20 => ?_)
        have fU20 := cw_fr hU20
        have sU20 := cw_ts hU20
        have oU20 := cw_to hU20
        have rU20 := cw_r hU20
        show J_ zX6_addFixture T (po_X6_addFixture_s T c u h a d) 0 0 64 _ [vR 102 (T 106 0 4), vI (T 106 0 4), vR 523 0] U20
        refine j_aast (pc := 64) (by decide) (by decide) (by decide +kernel : ta_ 523 = some (5, some 400, 0, 1)) (by decide +kernel) (by omega) (by show _ < (400 : Int); omega) (by decide) ?_
        refine j_nm (fun U21 hU21 => ?_)
        have e22 := up_f hU21
        show J_ zX6_addFixture T (po_X6_addFixture_s T c u h a d) 0 0 65 _ [] U21
        refine j_blx (F := fX6) tb_X6 (nn_ _) bk_X6_addFixture_s_65 bs_X6_addFixture_s_65 hz (fun K hK => ?_)
        intro b23 b23b
        have e24 : U21 106 0 4 = T 106 0 4 := (up_k hU21 (by exact Nat.ne_of_beq_eq_false rfl) 0 4).trans ((fU20 106 0 4 rfl).trans ((fU17 106 0 4 rfl).trans (fU8 106 0 4 rfl)))
        rw [e24] at b23 b23b ⊢
        refine rg_i (by omega) ?_
        refine bd_i (by omega) ?_
        refine x_nm (fun U25 hU25 => ?_)
        have e26 := up_f hU25
        refine (show po_X6_addFixture_s T c u h a d U25 (none) from ?_)
        have w0 : U20 102 (T 106 0 4) 0 = U17 152 (T 106 0 4) 0 - 1 := (sU20 0 (by decide)).trans (by unfold g2_; rw [if_pos (by decide)])
        have w1 : U20 102 (T 106 0 4) 1 = U17 152 (T 106 0 4) 1 := (sU20 1 (by decide)).trans (by unfold g2_; rw [if_neg (by decide)])
        have w2 : U20 102 (T 106 0 4) 2 = U17 152 (T 106 0 4) 2 := (sU20 2 (by decide)).trans (by unfold g2_; rw [if_neg (by decide)])
        have w3 : U20 102 (T 106 0 4) 3 = U17 152 (T 106 0 4) 3 := (sU20 3 (by decide)).trans (by unfold g2_; rw [if_neg (by decide)])
        have w4 : U20 102 (T 106 0 4) 4 = U17 152 (T 106 0 4) 4 := (sU20 4 (by decide)).trans (by unfold g2_; rw [if_neg (by decide)])
        have w5 : U20 102 (T 106 0 4) 5 = U17 152 (T 106 0 4) 5 := (sU20 5 (by decide)).trans (by unfold g2_; rw [if_neg (by decide)])
        have w6 : U20 102 (T 106 0 4) 6 = U17 152 (T 106 0 4) 6 := (sU20 6 (by decide)).trans (by unfold g2_; rw [if_neg (by decide)])
        have w7 : U20 102 (T 106 0 4) 7 = U17 152 (T 106 0 4) 7 := (sU20 7 (by decide)).trans (by unfold g2_; rw [if_neg (by decide)])
        have w10 : U20 102 (T 106 0 4) 10 = U17 152 (T 106 0 4) 10 := (sU20 10 (by decide)).trans (by unfold g2_; rw [if_neg (by decide)])
        have y10 : U8 152 (T 106 0 4) 10 = 0 := zU8 10 (by decide)
        have u0 : U25 102 (T 106 0 4) 0 = U20 102 (T 106 0 4) 0 := (up_k hU25 (by exact Nat.ne_of_beq_eq_false rfl) _ _).trans (up_k hU21 (by exact Nat.ne_of_beq_eq_false rfl) _ _)
        have u1 : U25 102 (T 106 0 4) 1 = U20 102 (T 106 0 4) 1 := (up_k hU25 (by exact Nat.ne_of_beq_eq_false rfl) _ _).trans (up_k hU21 (by exact Nat.ne_of_beq_eq_false rfl) _ _)
        have u2 : U25 102 (T 106 0 4) 2 = U20 102 (T 106 0 4) 2 := (up_k hU25 (by exact Nat.ne_of_beq_eq_false rfl) _ _).trans (up_k hU21 (by exact Nat.ne_of_beq_eq_false rfl) _ _)
        have u3 : U25 102 (T 106 0 4) 3 = U20 102 (T 106 0 4) 3 := (up_k hU25 (by exact Nat.ne_of_beq_eq_false rfl) _ _).trans (up_k hU21 (by exact Nat.ne_of_beq_eq_false rfl) _ _)
        have u4 : U25 102 (T 106 0 4) 4 = U20 102 (T 106 0 4) 4 := (up_k hU25 (by exact Nat.ne_of_beq_eq_false rfl) _ _).trans (up_k hU21 (by exact Nat.ne_of_beq_eq_false rfl) _ _)
        have u5 : U25 102 (T 106 0 4) 5 = U20 102 (T 106 0 4) 5 := (up_k hU25 (by exact Nat.ne_of_beq_eq_false rfl) _ _).trans (up_k hU21 (by exact Nat.ne_of_beq_eq_false rfl) _ _)
        have u6 : U25 102 (T 106 0 4) 6 = U20 102 (T 106 0 4) 6 := (up_k hU25 (by exact Nat.ne_of_beq_eq_false rfl) _ _).trans (up_k hU21 (by exact Nat.ne_of_beq_eq_false rfl) _ _)
        have u7 : U25 102 (T 106 0 4) 7 = U20 102 (T 106 0 4) 7 := (up_k hU25 (by exact Nat.ne_of_beq_eq_false rfl) _ _).trans (up_k hU21 (by exact Nat.ne_of_beq_eq_false rfl) _ _)
        have u10 : U25 102 (T 106 0 4) 10 = U20 102 (T 106 0 4) 10 := (up_k hU25 (by exact Nat.ne_of_beq_eq_false rfl) _ _).trans (up_k hU21 (by exact Nat.ne_of_beq_eq_false rfl) _ _)
        have d1 : U25 106 0 4 = T 106 0 4 + 1 := by omega
        have d2 : ∀ (k : Nat) (i j : Int), k = 102 ∨ k = 152 → i ≠ T 106 0 4 → U25 k i j = T k i j := fun k i j hk hi => (up_g hU25 (fun z => by omega)).trans ((up_g hU21 (fun z => by omega)).trans ((oU20 k i j hi).trans ((qU17o k i j hi).trans (oU8 k i j (fun z => hi z.2)))))
        have d3 : ∀ j, j ≠ T 106 0 4 → U25 523 0 j = T 523 0 j := fun j hj => (up_k hU25 (by exact Nat.ne_of_beq_eq_false rfl) _ _).trans ((up_g hU21 (fun z => hj z.2.2)).trans ((fU20 523 _ _ rfl).trans ((fU17 523 _ _ rfl).trans (fU8 523 _ _ rfl))))
        have d4 : U25 523 0 (T 106 0 4) = 1 := (up_k hU25 (by exact Nat.ne_of_beq_eq_false rfl) _ _).trans (up_f hU21)
        have d5 : ∀ i, U25 150 i (-1) = T 150 i (-1) := fun i => (up_k hU25 (by exact Nat.ne_of_beq_eq_false rfl) _ _).trans ((up_k hU21 (by exact Nat.ne_of_beq_eq_false rfl) _ _).trans ((fU20 150 _ _ rfl).trans ((fU17 150 _ _ rfl).trans (fU8 150 _ _ rfl))))
        have d6 : ∀ i, U25 153 i (-1) = T 153 i (-1) := fun i => (up_k hU25 (by exact Nat.ne_of_beq_eq_false rfl) _ _).trans ((up_k hU21 (by exact Nat.ne_of_beq_eq_false rfl) _ _).trans ((fU20 153 _ _ rfl).trans ((fU17 153 _ _ rfl).trans (fU8 153 _ _ rfl))))
        have d7 : ∀ i, U25 100 i (-1) = T 100 i (-1) := fun i => (up_k hU25 (by exact Nat.ne_of_beq_eq_false rfl) _ _).trans ((up_k hU21 (by exact Nat.ne_of_beq_eq_false rfl) _ _).trans ((fU20 100 _ _ rfl).trans ((fU17 100 _ _ rfl).trans (fU8 100 _ _ rfl))))
        have d8 : ∀ i, U25 103 i (-1) = T 103 i (-1) := fun i => (up_k hU25 (by exact Nat.ne_of_beq_eq_false rfl) _ _).trans ((up_k hU21 (by exact Nat.ne_of_beq_eq_false rfl) _ _).trans ((fU20 103 _ _ rfl).trans ((fU17 103 _ _ rfl).trans (fU8 103 _ _ rfl))))
        have d9 : U25 152 (T 106 0 4) (-1) = U20 152 (T 106 0 4) (-1) := (up_k hU25 (by exact Nat.ne_of_beq_eq_false rfl) _ _).trans (up_k hU21 (by exact Nat.ne_of_beq_eq_false rfl) _ _)
        have sn9 : SN8_ T U25 := ⟨fun k i j hk hi => (up_g hU25 (fun z => by omega)).trans ((up_g hU21 (fun z => by omega)).trans ((oU20 k i j hi).trans ((qU17o k i j hi).trans (oU8 k i j (fun z => hi z.2))))), fun j hj => (up_k hU25 (by exact Nat.ne_of_beq_eq_false rfl) _ _).trans ((up_k hU21 (by exact Nat.ne_of_beq_eq_false rfl) _ _).trans ((fU20 449 _ _ rfl).trans (z9U17 j hj)))⟩
        have e27 : U25 106 0 2 = T 106 0 2 := (up_j hU25 (by decide) 106 0).trans ((up_k hU21 (by exact Nat.ne_of_beq_eq_false rfl) 0 2).trans ((fU20 106 0 2 rfl).trans ((fU17 106 0 2 rfl).trans (fU8 106 0 2 rfl))))
        have n2 : NA_ U25 := by
          refine ⟨⟨fun i => by rw [d5]; exact hna.1.1 i, fun i => ?_, fun i => by rw [d6]; exact hna.1.2.2 i⟩, fun i hi => by rw [d7]; exact hna.2.1 i (by omega), fun i hi => ?_, fun i hi => ?_⟩
          · by_cases z : i = T 106 0 4
            · rw [z, d9]; exact rU20
            · rw [d2 152 i (-1) (Or.inr rfl) z]; exact hna.1.2.1 i
          · rw [d2 102 i (-1) (Or.inl rfl) (by omega)]; exact hna.2.2.1 i (by omega)
          · rw [d8]
            by_cases z : i = T 106 0 4
            · exact hna.2.2.2 i (by omega)
            · rw [d2 102 i 10 (Or.inl rfl) z] at hi; exact hna.2.2.2 i (by omega)
        exact ⟨rfl, fr_u (fr_u (fr_t (fr_t (fr_t (fr_0 _ _) (fr_s fU8 rfl)) (fr_s fU17 rfl)) (fr_s fU20 rfl)) hU21 rfl) hU25 rfl, Or.inr ⟨⟨⟨d1, by omega, by omega, by omega⟩, d2, d3, d4, ⟨by omega, by omega, by omega, by omega, by omega, by omega⟩, n2⟩, by omega, by omega, by omega, sn9⟩⟩
      · refine (show po_X6_addFixture_s T c u h a d T (none) from ?_)
        exact ⟨rfl, fr_0 _ _, Or.inl ⟨rfl, by omega⟩⟩
theorem bk_X6_addRound_s_111 : ck_ fX6 none cX6_addRound 111 [.istore 11, .aload 0, .aload 1, .iload 2, .iload 11, .ifCond .eq 126, .iload 9, .goto 128] 126 = true := qck_r (nn_ _) (by decide +kernel)
theorem bs_X6_addRound_s_111 {P : Zt → Option Zv → Prop} (K : Int → Zl → List Zv → Zt → Prop) : sx_ K P [.istore 11, .aload 0, .aload 1, .iload 2, .iload 11, .ifCond .eq 126, .iload 9, .goto 128] 126 = x_istore 11 (x_aload 0 (x_aload 1 (x_iload 2 (x_iload 11 (x_ifCond .eq 126 K (x_iload 9 (x_goto 128 K))))))) := ((xe_istore 11).trans (congrArg (x_istore 11) ((xe_aload 0).trans (congrArg (x_aload 0) ((xe_aload 1).trans (congrArg (x_aload 1) ((xe_iload 2).trans (congrArg (x_iload 2) ((xe_iload 11).trans (congrArg (x_iload 11) ((xe_ifCond .eq 126).trans (congrArg (x_ifCond .eq 126 K) ((xe_iload 9).trans (congrArg (x_iload 9) (xe_goto 128)))))))))))))))
theorem bk_X6_addRound_s_126 : ck_ fX6 none cX6_addRound 126 [.iload 10, .iload 11, .ifCond .eq 138, .iload 10, .goto 140] 138 = true := qck_r (nn_ _) (by decide +kernel)
theorem bs_X6_addRound_s_126 {P : Zt → Option Zv → Prop} (K : Int → Zl → List Zv → Zt → Prop) : sx_ K P [.iload 10, .iload 11, .ifCond .eq 138, .iload 10, .goto 140] 138 = x_iload 10 (x_iload 11 (x_ifCond .eq 138 K (x_iload 10 (x_goto 140 K)))) := ((xe_iload 10).trans (congrArg (x_iload 10) ((xe_iload 11).trans (congrArg (x_iload 11) ((xe_ifCond .eq 138).trans (congrArg (x_ifCond .eq 138 K) ((xe_iload 10).trans (congrArg (x_iload 10) (xe_goto 140)))))))))
theorem bk_X6_addRound_s_138 : ck_ fX6 none cX6_addRound 138 [.iload 9, .iload 5] 142 = true := qck_r (nn_ _) (by decide +kernel)
theorem bs_X6_addRound_s_138 {P : Zt → Option Zv → Prop} (K : Int → Zl → List Zv → Zt → Prop) : sx_ K P [.iload 9, .iload 5] 142 = x_iload 9 (x_iload 5 (K 142)) := ((xe_iload 9).trans (congrArg (x_iload 9) ((xe_iload 5).trans (congrArg (x_iload 5) xe_nil))))
theorem bk_X6_addRound_s_145 : ck_ fX6 none cX6_addRound 145 [.iinc 8 1, .goto 58] 151 = true := qck_r (nn_ _) (by decide +kernel)
theorem bs_X6_addRound_s_145 {P : Zt → Option Zv → Prop} (K : Int → Zl → List Zv → Zt → Prop) : sx_ K P [.iinc 8 1, .goto 58] 151 = x_iinc 8 1 (x_goto 58 K) := ((xe_iinc 8 1).trans (congrArg (x_iinc 8 1) (xe_goto 58)))
theorem bk_X6_addRound_s_128 : ck_ fX6 none cX6_addRound 128 [.iload 11, .ifCond .eq 138, .iload 10, .goto 140] 138 = true := qck_r (nn_ _) (by decide +kernel)
theorem bs_X6_addRound_s_128 {P : Zt → Option Zv → Prop} (K : Int → Zl → List Zv → Zt → Prop) : sx_ K P [.iload 11, .ifCond .eq 138, .iload 10, .goto 140] 138 = x_iload 11 (x_ifCond .eq 138 K (x_iload 10 (x_goto 140 K))) := ((xe_iload 11).trans (congrArg (x_iload 11) ((xe_ifCond .eq 138).trans (congrArg (x_ifCond .eq 138 K) ((xe_iload 10).trans (congrArg (x_iload 10) (xe_goto 140)))))))
theorem bk_X6_addRound_s_140 : ck_ fX6 none cX6_addRound 140 [.iload 5] 142 = true := qck_r (nn_ _) (by decide +kernel)
theorem bs_X6_addRound_s_140 {P : Zt → Option Zv → Prop} (K : Int → Zl → List Zv → Zt → Prop) : sx_ K P [.iload 5] 142 = x_iload 5 (K 142) := ((xe_iload 5).trans (congrArg (x_iload 5) xe_nil))
theorem bk_X6_addRound_s_58 : ck_ fX6 none cX6_addRound 58 [.iload 8, .iload 6, .iconst 2, .idiv, .if_icmp .gt 151, .iload 3, .iload 8, .iadd, .iload 6, .irem, .istore 9, .iload 3, .iload 8, .isub, .iload 6, .iadd, .iload 6, .irem, .istore 10, .iload 8, .iconst 1, .iand, .iconst 1, .if_icmp .ne 100, .iconst 1, .goto 101] 100 = true := qck_r (nn_ _) (by decide +kernel)
theorem bs_X6_addRound_s_58 {P : Zt → Option Zv → Prop} (K : Int → Zl → List Zv → Zt → Prop) : sx_ K P [.iload 8, .iload 6, .iconst 2, .idiv, .if_icmp .gt 151, .iload 3, .iload 8, .iadd, .iload 6, .irem, .istore 9, .iload 3, .iload 8, .isub, .iload 6, .iadd, .iload 6, .irem, .istore 10, .iload 8, .iconst 1, .iand, .iconst 1, .if_icmp .ne 100, .iconst 1, .goto 101] 100 = x_iload 8 (x_iload 6 (x_iconst 2 (x_idiv (x_if_icmp .gt 151 K (x_iload 3 (x_iload 8 (x_iadd (x_iload 6 (x_irem (x_istore 9 (x_iload 3 (x_iload 8 (x_isub (x_iload 6 (x_iadd (x_iload 6 (x_irem (x_istore 10 (x_iload 8 (x_iconst 1 (x_iand (x_iconst 1 (x_if_icmp .ne 100 K (x_iconst 1 (x_goto 101 K))))))))))))))))))))))))) := ((xe_iload 8).trans (congrArg (x_iload 8) ((xe_iload 6).trans (congrArg (x_iload 6) ((xe_iconst 2).trans (congrArg (x_iconst 2) ((xe_idiv).trans (congrArg (x_idiv) ((xe_if_icmp .gt 151).trans (congrArg (x_if_icmp .gt 151 K) ((xe_iload 3).trans (congrArg (x_iload 3) ((xe_iload 8).trans (congrArg (x_iload 8) ((xe_iadd).trans (congrArg (x_iadd) ((xe_iload 6).trans (congrArg (x_iload 6) ((xe_irem).trans (congrArg (x_irem) ((xe_istore 9).trans (congrArg (x_istore 9) ((xe_iload 3).trans (congrArg (x_iload 3) ((xe_iload 8).trans (congrArg (x_iload 8) ((xe_isub).trans (congrArg (x_isub) ((xe_iload 6).trans (congrArg (x_iload 6) ((xe_iadd).trans (congrArg (x_iadd) ((xe_iload 6).trans (congrArg (x_iload 6) ((xe_irem).trans (congrArg (x_irem) ((xe_istore 10).trans (congrArg (x_istore 10) ((xe_iload 8).trans (congrArg (x_iload 8) ((xe_iconst 1).trans (congrArg (x_iconst 1) ((xe_iand).trans (congrArg (x_iand) ((xe_iconst 1).trans (congrArg (x_iconst 1) ((xe_if_icmp .ne 100).trans (congrArg (x_if_icmp .ne 100 K) ((xe_iconst 1).trans (congrArg (x_iconst 1) (xe_goto 101)))))))))))))))))))))))))))))))))))))))))))))))))))
theorem bk_X6_addRound_s_151 : ck_ fX6 none cX6_addRound 151 [.return_] 152 = true := qck_r (nn_ _) (by decide +kernel)
theorem bs_X6_addRound_s_151 {P : Zt → Option Zv → Prop} (K : Int → Zl → List Zv → Zt → Prop) : sx_ K P [.return_] 152 = x_return_ P := (xe_return_)
theorem bk_X6_addRound_s_100 : ck_ fX6 none cX6_addRound 100 [.iconst 0, .iload 4, .if_icmp .eq 110, .iconst 1, .goto 111] 110 = true := qck_r (nn_ _) (by decide +kernel)
theorem bs_X6_addRound_s_100 {P : Zt → Option Zv → Prop} (K : Int → Zl → List Zv → Zt → Prop) : sx_ K P [.iconst 0, .iload 4, .if_icmp .eq 110, .iconst 1, .goto 111] 110 = x_iconst 0 (x_iload 4 (x_if_icmp .eq 110 K (x_iconst 1 (x_goto 111 K)))) := ((xe_iconst 0).trans (congrArg (x_iconst 0) ((xe_iload 4).trans (congrArg (x_iload 4) ((xe_if_icmp .eq 110).trans (congrArg (x_if_icmp .eq 110 K) ((xe_iconst 1).trans (congrArg (x_iconst 1) (xe_goto 111)))))))))
theorem bk_X6_addRound_s_110 : ck_ fX6 none cX6_addRound 110 [.iconst 0] 111 = true := qck_r (nn_ _) (by decide +kernel)
theorem bs_X6_addRound_s_110 {P : Zt → Option Zv → Prop} (K : Int → Zl → List Zv → Zt → Prop) : sx_ K P [.iconst 0] 111 = x_iconst 0 (K 111) := ((xe_iconst 0).trans (congrArg (x_iconst 0) xe_nil))
theorem bk_X6_addRound_s_101 : ck_ fX6 none cX6_addRound 101 [.iload 4, .if_icmp .eq 110, .iconst 1, .goto 111] 110 = true := qck_r (nn_ _) (by decide +kernel)
theorem bs_X6_addRound_s_101 {P : Zt → Option Zv → Prop} (K : Int → Zl → List Zv → Zt → Prop) : sx_ K P [.iload 4, .if_icmp .eq 110, .iconst 1, .goto 111] 110 = x_iload 4 (x_if_icmp .eq 110 K (x_iconst 1 (x_goto 111 K))) := ((xe_iload 4).trans (congrArg (x_iload 4) ((xe_if_icmp .eq 110).trans (congrArg (x_if_icmp .eq 110 K) ((xe_iconst 1).trans (congrArg (x_iconst 1) (xe_goto 111)))))))
theorem bk_X6_addRound_s_0 : ck_ fX6 none cX6_addRound 0 [.aload 1] 1 = true := qck_r (nn_ _) (by decide +kernel)
theorem bs_X6_addRound_s_0 {P : Zt → Option Zv → Prop} (K : Int → Zl → List Zv → Zt → Prop) : sx_ K P [.aload 1] 1 = x_aload 1 (K 1) := ((xe_aload 1).trans (congrArg (x_aload 1) xe_nil))
theorem bk_X6_addRound_s_4 : ck_ fX6 none cX6_addRound 4 [.iconst 1, .isub, .istore 6, .iload 3, .iconst 1, .iand, .ifCond .ne 18, .iconst 1, .goto 19] 18 = true := qck_r (nn_ _) (by decide +kernel)
theorem bs_X6_addRound_s_4 {P : Zt → Option Zv → Prop} (K : Int → Zl → List Zv → Zt → Prop) : sx_ K P [.iconst 1, .isub, .istore 6, .iload 3, .iconst 1, .iand, .ifCond .ne 18, .iconst 1, .goto 19] 18 = x_iconst 1 (x_isub (x_istore 6 (x_iload 3 (x_iconst 1 (x_iand (x_ifCond .ne 18 K (x_iconst 1 (x_goto 19 K)))))))) := ((xe_iconst 1).trans (congrArg (x_iconst 1) ((xe_isub).trans (congrArg (x_isub) ((xe_istore 6).trans (congrArg (x_istore 6) ((xe_iload 3).trans (congrArg (x_iload 3) ((xe_iconst 1).trans (congrArg (x_iconst 1) ((xe_iand).trans (congrArg (x_iand) ((xe_ifCond .ne 18).trans (congrArg (x_ifCond .ne 18 K) ((xe_iconst 1).trans (congrArg (x_iconst 1) (xe_goto 19)))))))))))))))))
theorem bk_X6_addRound_s_18 : ck_ fX6 none cX6_addRound 18 [.iconst 0, .istore 7, .aload 0, .aload 1, .iload 2, .iload 7, .iload 4, .if_icmp .eq 35, .iload 3, .goto 37] 35 = true := qck_r (nn_ _) (by decide +kernel)
theorem bs_X6_addRound_s_18 {P : Zt → Option Zv → Prop} (K : Int → Zl → List Zv → Zt → Prop) : sx_ K P [.iconst 0, .istore 7, .aload 0, .aload 1, .iload 2, .iload 7, .iload 4, .if_icmp .eq 35, .iload 3, .goto 37] 35 = x_iconst 0 (x_istore 7 (x_aload 0 (x_aload 1 (x_iload 2 (x_iload 7 (x_iload 4 (x_if_icmp .eq 35 K (x_iload 3 (x_goto 37 K))))))))) := ((xe_iconst 0).trans (congrArg (x_iconst 0) ((xe_istore 7).trans (congrArg (x_istore 7) ((xe_aload 0).trans (congrArg (x_aload 0) ((xe_aload 1).trans (congrArg (x_aload 1) ((xe_iload 2).trans (congrArg (x_iload 2) ((xe_iload 7).trans (congrArg (x_iload 7) ((xe_iload 4).trans (congrArg (x_iload 4) ((xe_if_icmp .eq 35).trans (congrArg (x_if_icmp .eq 35 K) ((xe_iload 3).trans (congrArg (x_iload 3) (xe_goto 37)))))))))))))))))))
theorem bk_X6_addRound_s_35 : ck_ fX6 none cX6_addRound 35 [.iload 6, .iload 7, .iload 4, .if_icmp .eq 49, .iload 6, .goto 50] 49 = true := qck_r (nn_ _) (by decide +kernel)
theorem bs_X6_addRound_s_35 {P : Zt → Option Zv → Prop} (K : Int → Zl → List Zv → Zt → Prop) : sx_ K P [.iload 6, .iload 7, .iload 4, .if_icmp .eq 49, .iload 6, .goto 50] 49 = x_iload 6 (x_iload 7 (x_iload 4 (x_if_icmp .eq 49 K (x_iload 6 (x_goto 50 K))))) := ((xe_iload 6).trans (congrArg (x_iload 6) ((xe_iload 7).trans (congrArg (x_iload 7) ((xe_iload 4).trans (congrArg (x_iload 4) ((xe_if_icmp .eq 49).trans (congrArg (x_if_icmp .eq 49 K) ((xe_iload 6).trans (congrArg (x_iload 6) (xe_goto 50)))))))))))
theorem bk_X6_addRound_s_49 : ck_ fX6 none cX6_addRound 49 [.iload 3, .iload 5] 52 = true := qck_r (nn_ _) (by decide +kernel)
theorem bs_X6_addRound_s_49 {P : Zt → Option Zv → Prop} (K : Int → Zl → List Zv → Zt → Prop) : sx_ K P [.iload 3, .iload 5] 52 = x_iload 3 (x_iload 5 (K 52)) := ((xe_iload 3).trans (congrArg (x_iload 3) ((xe_iload 5).trans (congrArg (x_iload 5) xe_nil))))
theorem bk_X6_addRound_s_55 : ck_ fX6 none cX6_addRound 55 [.iconst 1, .istore 8] 58 = true := qck_r (nn_ _) (by decide +kernel)
theorem bs_X6_addRound_s_55 {P : Zt → Option Zv → Prop} (K : Int → Zl → List Zv → Zt → Prop) : sx_ K P [.iconst 1, .istore 8] 58 = x_iconst 1 (x_istore 8 (K 58)) := ((xe_iconst 1).trans (congrArg (x_iconst 1) ((xe_istore 8).trans (congrArg (x_istore 8) xe_nil))))
theorem bk_X6_addRound_s_37 : ck_ fX6 none cX6_addRound 37 [.iload 7, .iload 4, .if_icmp .eq 49, .iload 6, .goto 50] 49 = true := qck_r (nn_ _) (by decide +kernel)
theorem bs_X6_addRound_s_37 {P : Zt → Option Zv → Prop} (K : Int → Zl → List Zv → Zt → Prop) : sx_ K P [.iload 7, .iload 4, .if_icmp .eq 49, .iload 6, .goto 50] 49 = x_iload 7 (x_iload 4 (x_if_icmp .eq 49 K (x_iload 6 (x_goto 50 K)))) := ((xe_iload 7).trans (congrArg (x_iload 7) ((xe_iload 4).trans (congrArg (x_iload 4) ((xe_if_icmp .eq 49).trans (congrArg (x_if_icmp .eq 49 K) ((xe_iload 6).trans (congrArg (x_iload 6) (xe_goto 50)))))))))
theorem bk_X6_addRound_s_50 : ck_ fX6 none cX6_addRound 50 [.iload 5] 52 = true := qck_r (nn_ _) (by decide +kernel)
theorem bs_X6_addRound_s_50 {P : Zt → Option Zv → Prop} (K : Int → Zl → List Zv → Zt → Prop) : sx_ K P [.iload 5] 52 = x_iload 5 (K 52) := ((xe_iload 5).trans (congrArg (x_iload 5) xe_nil))
theorem bk_X6_addRound_s_19 : ck_ fX6 none cX6_addRound 19 [.istore 7, .aload 0, .aload 1, .iload 2, .iload 7, .iload 4, .if_icmp .eq 35, .iload 3, .goto 37] 35 = true := qck_r (nn_ _) (by decide +kernel)
theorem bs_X6_addRound_s_19 {P : Zt → Option Zv → Prop} (K : Int → Zl → List Zv → Zt → Prop) : sx_ K P [.istore 7, .aload 0, .aload 1, .iload 2, .iload 7, .iload 4, .if_icmp .eq 35, .iload 3, .goto 37] 35 = x_istore 7 (x_aload 0 (x_aload 1 (x_iload 2 (x_iload 7 (x_iload 4 (x_if_icmp .eq 35 K (x_iload 3 (x_goto 37 K)))))))) := ((xe_istore 7).trans (congrArg (x_istore 7) ((xe_aload 0).trans (congrArg (x_aload 0) ((xe_aload 1).trans (congrArg (x_aload 1) ((xe_iload 2).trans (congrArg (x_iload 2) ((xe_iload 7).trans (congrArg (x_iload 7) ((xe_iload 4).trans (congrArg (x_iload 4) ((xe_if_icmp .eq 35).trans (congrArg (x_if_icmp .eq 35 K) ((xe_iload 3).trans (congrArg (x_iload 3) (xe_goto 37)))))))))))))))))
abbrev po_X6_addRound_s (T : Zt) (c : Int) (f : Int) (u q w d : Int) : Zt → Option Zv → Prop := fun T' r => r = none ∧ fr_ [(106, [4]), (523, []), (152, []), (102, []), (448, []), (449, [])] T T' ∧ (RK_ T' c f (T 100 c 5 + an_ (T 100 c 5) 1 - 1) q 13 d ∧ (∀ i j, i < f → T' 102 i j = T 102 i j) ∧ T 106 0 4 ≤ T' 106 0 4 ∧ (∀ i j, i < T 106 0 4 → T' 102 i j = T 102 i j) ∧ SQ8_ T T' ∧ AP9_ T T' c (rl9_ (T 100 c 5) (T 100 c 5 + an_ (T 100 c 5) 1 - 1) q w u d ((T 100 c 5 + an_ (T 100 c 5) 1 - 1) / 2 + 1).toNat []))
set_option maxHeartbeats 4000000 in
theorem ct_X6_addRound_s {T : Zt} {c : Int} {f : Int} {u q w d : Int} (hc : 0 ≤ c ∧ c ≤ 3) (he : 2 ≤ T 100 c 5) (hr : 0 ≤ q ∧ q < T 100 c 5 + an_ (T 100 c 5) 1 - 1) (hd : 0 ≤ d ∧ d ≤ 999) (hke : KEc_ T c) (hrb : RK_ T c f (T 100 c 5 + an_ (T 100 c 5) 1 - 1) q 0 d) (hw : w = 0 ∨ w = 1) (hro : T 106 0 4 + (T 100 c 5 + an_ (T 100 c 5) 1 - 1) / 2 + 1 - T 100 c 5 % 2 ≤ 400) : Ct_ yX6_addRound zX6_addRound T [vR 106 0, vR 100 c, vI u, vI q, vI w, vI d] (po_X6_addRound_s T c f u q w d) := by
  refine ct_of pn_6 rfl rfl (Nat.le_of_ble_eq_true rfl) (fun hT hav => ?_)
  have hr_u : -2147483648 ≤ u ∧ u ≤ 2147483647 := hav (vI u) (List.mem_cons_of_mem _ (List.mem_cons_of_mem _ List.mem_cons_self))
  have hr_q : -2147483648 ≤ q ∧ q ≤ 2147483647 := hav (vI q) (List.mem_cons_of_mem _ (List.mem_cons_of_mem _ (List.mem_cons_of_mem _ List.mem_cons_self)))
  have hr_w : -2147483648 ≤ w ∧ w ≤ 2147483647 := hav (vI w) (List.mem_cons_of_mem _ (List.mem_cons_of_mem _ (List.mem_cons_of_mem _ (List.mem_cons_of_mem _ List.mem_cons_self))))
  have hr_d : -2147483648 ≤ d ∧ d ≤ 2147483647 := hav (vI d) (List.mem_cons_of_mem _ (List.mem_cons_of_mem _ (List.mem_cons_of_mem _ (List.mem_cons_of_mem _ (List.mem_cons_of_mem _ List.mem_cons_self)))))
  have hz : zX6_addRound.2.2.2.1 = some .boolean → ∀ (T' : Zt) (x : Int), po_X6_addRound_s T c f u q w d T' (some (vI x)) → 0 ≤ x ∧ x ≤ 1 := fun h => by cases h
  have hb_matchCount : 0 ≤ T 106 0 4 ∧ T 106 0 4 ≤ 400 := bd_f hT 106 4 tl_6_4 0
  have hb5 : 0 ≤ T 100 c 5 ∧ T 100 c 5 ≤ 12 := bd_f hT 100 5 tl_0_5 c
  have hp1 := an_1b (T 100 c 5)
  have hpm := an9_m (x := T 100 c 5) (by omega)
  have hpq := an9_m (x := q) (by omega)
  have hp2 : T 100 c 5 = 12 → an_ (T 100 c 5) 1 = 0 := fun h => by rw [h]; decide
  show J_ zX6_addRound T (po_X6_addRound_s T c f u q w d) 18 204 0 [some (vR 106 0), some (vR 100 c), some (vI u), some (vI q), some (vI w), some (vI d), none, none, none, none, none, none] [] T
  have c_58 : ∀ (nn : Nat) (k : Int) (T1 : Zt), ((13 - k).toNat) ≤ nn → (fr_ [(106, [4]), (523, []), (152, []), (102, []), (448, []), (449, [])] T T1) → (RK_ T1 c f (T 100 c 5 + an_ (T 100 c 5) 1 - 1) q k d) → ((∀ i j, i < f → T1 102 i j = T 102 i j) ∧ T 106 0 4 ≤ T1 106 0 4) → (1 ≤ k ∧ k ≤ (T 100 c 5 + an_ (T 100 c 5) 1 - 1) / 2 + 1) → (∀ i j, i < T 106 0 4 → T1 102 i j = T 102 i j) → (SQ8_ T T1) → (AP9_ T T1 c (rl9_ (T 100 c 5) (T 100 c 5 + an_ (T 100 c 5) 1 - 1) q w u d k.toNat [])) → J_ zX6_addRound T (po_X6_addRound_s T c f u q w d) ((3 * ((T 100 c 5 + an_ (T 100 c 5) 1 - 1) / 2 + 1 - k)).toNat) ((34 * ((T 100 c 5 + an_ (T 100 c 5) 1 - 1) / 2 + 1 - k)).toNat) 58 [some (vR 106 0), some (vR 100 c), some (vI u), some (vI q), some (vI w), some (vI d), some (vI (T 100 c 5 + an_ (T 100 c 5) 1 - 1)), none, some (vI k), none, none, none] [] T1 := by
    intro nn
    induction nn using Nat.strongRecOn with
    | _ nn ih_58 =>
      intro k T1 hm_58 hf_58 hrb1 od1 i1 oe1 sk1 ap1
      replace hm_58 := fun (_ : Unit) => hm_58
      have lq := rl9_l (e := T 100 c 5) (L := T 100 c 5 + an_ (T 100 c 5) 1 - 1) (r := q) (u := w) (rd := u) (dt := d) (q := (T 100 c 5 % 2).toNat) (l := []) (by omega) (k - 1).toNat
      rw [show (k - 1).toNat + 1 = k.toNat by omega] at lq
      have lq2 : (rl9_ (T 100 c 5) (T 100 c 5 + an_ (T 100 c 5) 1 - 1) q w u d k.toNat []).length + (T 100 c 5 % 2).toNat ≤ k.toNat := by have z : ([] : List Fx9_).length = 0 := rfl; omega
      have lq3 := ap1.1
      have hpk := an9_m (x := k) (by omega)
      have c_111 : ∀ (v : Int), (2 * k ≤ T 100 c 5 + an_ (T 100 c 5) 1 - 1) → ((v = 1 ∧ k % 2 ≠ w) ∨ (v = 0 ∧ k % 2 = w)) → J_ zX6_addRound T (po_X6_addRound_s T c f u q w d) ((3 * ((T 100 c 5 + an_ (T 100 c 5) 1 - 1) / 2 + 1 - k)).toNat) ((34 * ((T 100 c 5 + an_ (T 100 c 5) 1 - 1) / 2 + 1 - k)).toNat) 111 [some (vR 106 0), some (vR 100 c), some (vI u), some (vI q), some (vI w), some (vI d), some (vI (T 100 c 5 + an_ (T 100 c 5) 1 - 1)), none, some (vI k), some (vI ((q + k) % (T 100 c 5 + an_ (T 100 c 5) 1 - 1))), some (vI (((q - k) + (T 100 c 5 + an_ (T 100 c 5) 1 - 1)) % (T 100 c 5 + an_ (T 100 c 5) 1 - 1))), none] [vI v] T1 := by
        intro v i2 i3
        have y1 := em_2 (x := q + k) (R := T 100 c 5 + an_ (T 100 c 5) 1 - 1) (by omega) (by omega)
        have y2 := em_2 (x := q - k + (T 100 c 5 + an_ (T 100 c 5) 1 - 1)) (R := T 100 c 5 + an_ (T 100 c 5) 1 - 1) (by omega) (by omega)
        refine j_blx (F := fX6) tb_X6 (nn_ _) bk_X6_addRound_s_111 bs_X6_addRound_s_111 hz (fun K hK => ?_)
        refine And.intro (fun c1 => ?_) (fun c1 => ?_)
        · refine hK 126 [some (vR 106 0), some (vR 100 c), some (vI u), some (vI q), some (vI w), some (vI d), some (vI (T 100 c 5 + an_ (T 100 c 5) 1 - 1)), none, some (vI k), some (vI ((q + k) % (T 100 c 5 + an_ (T 100 c 5) 1 - 1))), some (vI (((q - k) + (T 100 c 5 + an_ (T 100 c 5) 1 - 1)) % (T 100 c 5 + an_ (T 100 c 5) 1 - 1))), some (vI v)] [vI u, vR 100 c, vR 106 0] T1 ?_
          refine j_blx (F := fX6) tb_X6 (nn_ _) bk_X6_addRound_s_126 bs_X6_addRound_s_126 hz (fun K hK => ?_)
          refine And.intro (fun c2 => ?_) (fun c2 => ?_)
          · refine hK 138 _ [vI (((q - k) + (T 100 c 5 + an_ (T 100 c 5) 1 - 1)) % (T 100 c 5 + an_ (T 100 c 5) 1 - 1)), vI u, vR 100 c, vR 106 0] T1 ?_
            refine j_blx (F := fX6) tb_X6 (nn_ _) bk_X6_addRound_s_138 bs_X6_addRound_s_138 hz (fun K hK => ?_)
            refine hK 142 _ [vI d, vI ((q + k) % (T 100 c 5 + an_ (T 100 c 5) 1 - 1)), vI (((q - k) + (T 100 c 5 + an_ (T 100 c 5) 1 - 1)) % (T 100 c 5 + an_ (T 100 c 5) 1 - 1)), vI u, vR 100 c, vR 106 0] T1 ?_
            refine j_callV (y := yX6_addFixture) (Yc := zX6_addFixture) (rest := []) [vR 100 c, vI u, vI (((q - k) + (T 100 c 5 + an_ (T 100 c 5) 1 - 1)) % (T 100 c 5 + an_ (T 100 c 5) 1 - 1)), vI ((q + k) % (T 100 c 5 + an_ (T 100 c 5) 1 - 1)), vI d] (ct_X6_addFixture_s (T := T1) hc (by omega) (hrb1.2.2.2.2)) cl_X6_75 (qd_c (by decide +kernel)) (by decide) rfl (by decide +kernel) (Nat.le_of_ble_eq_true rfl) (by show 3 ≤ (3 * ((T 100 c 5 + an_ (T 100 c 5) 1 - 1) / 2 + 1 - k)).toNat; omega) (by show 34 ≤ (34 * ((T 100 c 5 + an_ (T 100 c 5) 1 - 1) / 2 + 1 - k)).toNat; omega) rfl ?_
            rintro U3 _ ⟨rfl, fU3, qU3⟩
            show J_ zX6_addRound T (po_X6_addRound_s T c f u q w d) (((3 * ((T 100 c 5 + an_ (T 100 c 5) 1 - 1) / 2 + 1 - k)).toNat) - 3) (((34 * ((T 100 c 5 + an_ (T 100 c 5) 1 - 1) / 2 + 1 - k)).toNat) - 34) 145 _ [] U3
            refine j_blx (F := fX6) tb_X6 (nn_ _) bk_X6_addRound_s_145 bs_X6_addRound_s_145 hz (fun K hK => ?_)
            refine rg_i (by omega) ?_
            refine hK 58 [some (vR 106 0), some (vR 100 c), some (vI u), some (vI q), some (vI w), some (vI d), some (vI (T 100 c 5 + an_ (T 100 c 5) 1 - 1)), none, some (vI (k + 1)), some (vI ((q + k) % (T 100 c 5 + an_ (T 100 c 5) 1 - 1))), some (vI (((q - k) + (T 100 c 5 + an_ (T 100 c 5) 1 - 1)) % (T 100 c 5 + an_ (T 100 c 5) 1 - 1))), some (vI v)] [] U3 ?_
            refine j_drq [some (vR 106 0), some (vR 100 c), some (vI u), some (vI q), some (vI w), some (vI d), some (vI (T 100 c 5 + an_ (T 100 c 5) 1 - 1)), none, some (vI (k + 1)), none, none, none] (drq_s (drq_s (drq_s (drq_s (drq_s (drq_s (drq_s (drq_n (drq_s (drq_n (drq_n (drq_n drq_0)))))))))))) ?_
            refine j_mono (bc' := ((3 * ((T 100 c 5 + an_ (T 100 c 5) 1 - 1) / 2 + 1 - (k + 1))).toNat)) (bs' := ((34 * ((T 100 c 5 + an_ (T 100 c 5) 1 - 1) / 2 + 1 - (k + 1))).toNat)) (by omega) (by omega) ?_
            refine ih_58 _ ?_ (k + 1) U3 (Nat.le_refl _) ?_ ?_ ?_ ?_ ?_ ?_ ?_
            · have hm_58 := hm_58 (); omega
            · exact fr_t (fr_t (fr_0 _ _) (fr_s hf_58 rfl)) (fr_s fU3 rfl)
            · exact (rb_add hrb1 (KEc_f hke hf_58 ⟨rfl, fun _ => rfl, fun _ => rfl⟩) (by omega) (lv_b hr (by omega)) fU3 (qU3.imp id And.left)).1
            · have y9 := rb_add hrb1 (KEc_f hke hf_58 ⟨rfl, fun _ => rfl, fun _ => rfl⟩) (by omega) (lv_b hr (by omega)) fU3 (qU3.imp id And.left)
              exact ⟨fun i j hi => (y9.2.1 i j hi).trans (od1.1 i j hi), by have := y9.2.2; have := od1.2; omega⟩
            · omega
            · exact fun i j hi => (fx9_o (fw9_ qU3) i j (by have := od1.2; omega)).trans (oe1 i j hi)
            · exact sq8_f sk1 od1.2 qU3
            · have eh := hm9_b (L := (T 100 c 5 + an_ (T 100 c 5) 1 - 1)) (r := q) (u := w) (i := k) (by rw [pq9_i (by omega)]; omega)
              rw [pa9_i (by omega), pb9_i (by omega)] at eh
              rw [show (k + 1).toNat = k.toNat + 1 by omega]
              show AP9_ T U3 c (fa9_ (T 100 c 5) u d (hm9_ (T 100 c 5 + an_ (T 100 c 5) 1 - 1) q w (k.toNat : Int)) (aw9_ (T 100 c 5 + an_ (T 100 c 5) 1 - 1) q w (k.toNat : Int)) (rl9_ (T 100 c 5) (T 100 c 5 + an_ (T 100 c 5) 1 - 1) q w u d k.toNat []))
              rw [show ((k.toNat : Nat) : Int) = k by omega, eh.1, eh.2]
              exact ap9_f (T1 := T1) ap1 (by omega) (by omega) (hf_58 100 c 5 rfl) (fun j => hf_58 403 c j rfl) (fw9_ qU3)
          · exfalso; omega
        · refine hK 128 _ [vI ((q + k) % (T 100 c 5 + an_ (T 100 c 5) 1 - 1)), vI u, vR 100 c, vR 106 0] T1 ?_
          refine j_blx (F := fX6) tb_X6 (nn_ _) bk_X6_addRound_s_128 bs_X6_addRound_s_128 hz (fun K hK => ?_)
          refine And.intro (fun c5 => ?_) (fun c5 => ?_)
          · exfalso; omega
          · refine hK 140 _ [vI (((q - k) + (T 100 c 5 + an_ (T 100 c 5) 1 - 1)) % (T 100 c 5 + an_ (T 100 c 5) 1 - 1)), vI ((q + k) % (T 100 c 5 + an_ (T 100 c 5) 1 - 1)), vI u, vR 100 c, vR 106 0] T1 ?_
            refine j_blx (F := fX6) tb_X6 (nn_ _) bk_X6_addRound_s_140 bs_X6_addRound_s_140 hz (fun K hK => ?_)
            refine hK 142 _ [vI d, vI (((q - k) + (T 100 c 5 + an_ (T 100 c 5) 1 - 1)) % (T 100 c 5 + an_ (T 100 c 5) 1 - 1)), vI ((q + k) % (T 100 c 5 + an_ (T 100 c 5) 1 - 1)), vI u, vR 100 c, vR 106 0] T1 ?_
            refine j_callV (y := yX6_addFixture) (Yc := zX6_addFixture) (rest := []) [vR 100 c, vI u, vI ((q + k) % (T 100 c 5 + an_ (T 100 c 5) 1 - 1)), vI (((q - k) + (T 100 c 5 + an_ (T 100 c 5) 1 - 1)) % (T 100 c 5 + an_ (T 100 c 5) 1 - 1)), vI d] (ct_X6_addFixture_s (T := T1) hc (by omega) (hrb1.2.2.2.2)) cl_X6_75 (qd_c (by decide +kernel)) (by decide) rfl (by decide +kernel) (Nat.le_of_ble_eq_true rfl) (by show 3 ≤ (3 * ((T 100 c 5 + an_ (T 100 c 5) 1 - 1) / 2 + 1 - k)).toNat; omega) (by show 34 ≤ (34 * ((T 100 c 5 + an_ (T 100 c 5) 1 - 1) / 2 + 1 - k)).toNat; omega) rfl ?_
            rintro U6 _ ⟨rfl, fU6, qU6⟩
            show J_ zX6_addRound T (po_X6_addRound_s T c f u q w d) (((3 * ((T 100 c 5 + an_ (T 100 c 5) 1 - 1) / 2 + 1 - k)).toNat) - 3) (((34 * ((T 100 c 5 + an_ (T 100 c 5) 1 - 1) / 2 + 1 - k)).toNat) - 34) 145 _ [] U6
            refine j_blx (F := fX6) tb_X6 (nn_ _) bk_X6_addRound_s_145 bs_X6_addRound_s_145 hz (fun K hK => ?_)
            refine rg_i (by omega) ?_
            refine hK 58 [some (vR 106 0), some (vR 100 c), some (vI u), some (vI q), some (vI w), some (vI d), some (vI (T 100 c 5 + an_ (T 100 c 5) 1 - 1)), none, some (vI (k + 1)), some (vI ((q + k) % (T 100 c 5 + an_ (T 100 c 5) 1 - 1))), some (vI (((q - k) + (T 100 c 5 + an_ (T 100 c 5) 1 - 1)) % (T 100 c 5 + an_ (T 100 c 5) 1 - 1))), some (vI v)] [] U6 ?_
            refine j_drq [some (vR 106 0), some (vR 100 c), some (vI u), some (vI q), some (vI w), some (vI d), some (vI (T 100 c 5 + an_ (T 100 c 5) 1 - 1)), none, some (vI (k + 1)), none, none, none] (drq_s (drq_s (drq_s (drq_s (drq_s (drq_s (drq_s (drq_n (drq_s (drq_n (drq_n (drq_n drq_0)))))))))))) ?_
            refine j_mono (bc' := ((3 * ((T 100 c 5 + an_ (T 100 c 5) 1 - 1) / 2 + 1 - (k + 1))).toNat)) (bs' := ((34 * ((T 100 c 5 + an_ (T 100 c 5) 1 - 1) / 2 + 1 - (k + 1))).toNat)) (by omega) (by omega) ?_
            refine ih_58 _ ?_ (k + 1) U6 (Nat.le_refl _) ?_ ?_ ?_ ?_ ?_ ?_ ?_
            · have hm_58 := hm_58 (); omega
            · exact fr_t (fr_t (fr_0 _ _) (fr_s hf_58 rfl)) (fr_s fU6 rfl)
            · exact (rb_add hrb1 (KEc_f hke hf_58 ⟨rfl, fun _ => rfl, fun _ => rfl⟩) (by omega) (lv_a hr (by omega)) fU6 (qU6.imp id And.left)).1
            · have y9 := rb_add hrb1 (KEc_f hke hf_58 ⟨rfl, fun _ => rfl, fun _ => rfl⟩) (by omega) (lv_a hr (by omega)) fU6 (qU6.imp id And.left)
              exact ⟨fun i j hi => (y9.2.1 i j hi).trans (od1.1 i j hi), by have := y9.2.2; have := od1.2; omega⟩
            · omega
            · exact fun i j hi => (fx9_o (fw9_ qU6) i j (by have := od1.2; omega)).trans (oe1 i j hi)
            · exact sq8_f sk1 od1.2 qU6
            · have eh := hm9_a (L := (T 100 c 5 + an_ (T 100 c 5) 1 - 1)) (r := q) (u := w) (i := k) (by rw [pq9_i (by omega)]; omega)
              rw [pa9_i (by omega), pb9_i (by omega)] at eh
              rw [show (k + 1).toNat = k.toNat + 1 by omega]
              show AP9_ T U6 c (fa9_ (T 100 c 5) u d (hm9_ (T 100 c 5 + an_ (T 100 c 5) 1 - 1) q w (k.toNat : Int)) (aw9_ (T 100 c 5 + an_ (T 100 c 5) 1 - 1) q w (k.toNat : Int)) (rl9_ (T 100 c 5) (T 100 c 5 + an_ (T 100 c 5) 1 - 1) q w u d k.toNat []))
              rw [show ((k.toNat : Nat) : Int) = k by omega, eh.1, eh.2]
              exact ap9_f (T1 := T1) ap1 (by omega) (by omega) (hf_58 100 c 5 rfl) (fun j => hf_58 403 c j rfl) (fw9_ qU6)
      refine j_blx (F := fX6) tb_X6 (nn_ _) bk_X6_addRound_s_58 bs_X6_addRound_s_58 hz (fun K hK => ?_)
      refine dv_i (by omega) ?_
      refine And.intro (fun c8 => ?_) (fun c8 => ?_)
      · refine hK 151 _ [] T1 ?_
        refine j_blx (F := fX6) tb_X6 (nn_ _) bk_X6_addRound_s_151 bs_X6_addRound_s_151 hz (fun K hK => ?_)
        refine (show po_X6_addRound_s T c f u q w d T1 (none) from ?_)
        have ek : k = (T 100 c 5 + an_ (T 100 c 5) 1 - 1) / 2 + 1 := by omega
        rw [ek] at ap1
        exact ⟨rfl, hf_58, rb_mono hrb1 (by omega), od1.1, od1.2, oe1, sk1, ap1⟩
      · refine rg_i (by omega) ?_
        refine dv_i (by omega) ?_
        refine rg_i (by omega) ?_
        refine rg_i (by omega) ?_
        refine dv_i (by omega) ?_
        intro w9 w9b
        refine And.intro (fun c10 => ?_) (fun c10 => ?_)
        · refine hK 100 [some (vR 106 0), some (vR 100 c), some (vI u), some (vI q), some (vI w), some (vI d), some (vI (T 100 c 5 + an_ (T 100 c 5) 1 - 1)), none, some (vI k), some (vI ((q + k) % (T 100 c 5 + an_ (T 100 c 5) 1 - 1))), some (vI (((q - k) + (T 100 c 5 + an_ (T 100 c 5) 1 - 1)) % (T 100 c 5 + an_ (T 100 c 5) 1 - 1))), none] [] T1 ?_
          refine j_blx (F := fX6) tb_X6 (nn_ _) bk_X6_addRound_s_100 bs_X6_addRound_s_100 hz (fun K hK => ?_)
          refine And.intro (fun c11 => ?_) (fun c11 => ?_)
          · refine hK 110 _ [] T1 ?_
            refine j_blx (F := fX6) tb_X6 (nn_ _) bk_X6_addRound_s_110 bs_X6_addRound_s_110 hz (fun K hK => ?_)
            refine hK 111 _ [vI 0] T1 ?_
            refine c_111 0 ?_ ?_
            · omega
            · omega
          · refine hK 111 _ [vI 1] T1 ?_
            refine c_111 1 ?_ ?_
            · omega
            · omega
        · refine hK 101 _ [vI 1] T1 ?_
          refine j_blx (F := fX6) tb_X6 (nn_ _) bk_X6_addRound_s_101 bs_X6_addRound_s_101 hz (fun K hK => ?_)
          refine And.intro (fun c12 => ?_) (fun c12 => ?_)
          · refine hK 110 _ [] T1 ?_
            refine j_blx (F := fX6) tb_X6 (nn_ _) bk_X6_addRound_s_110 bs_X6_addRound_s_110 hz (fun K hK => ?_)
            refine hK 111 _ [vI 0] T1 ?_
            refine c_111 0 ?_ ?_
            · omega
            · omega
          · refine hK 111 _ [vI 1] T1 ?_
            refine c_111 1 ?_ ?_
            · omega
            · omega
  refine j_blx (F := fX6) tb_X6 (nn_ _) bk_X6_addRound_s_0 bs_X6_addRound_s_0 hz (fun K hK => ?_)
  refine hK 1 _ [vR 100 c] T ?_
  refine j_callV (y := yX0_placeCount) (Yc := zX0_placeCount) (rest := []) [] (ct_X0_placeCount (T := T)) cl_X6_63 (qd_c (by decide +kernel)) (nn_ _) rfl (rf_of rfl) (Nat.le_of_ble_eq_true rfl) (Nat.le_of_ble_eq_true rfl) (Nat.le_of_ble_eq_true rfl) rfl ?_
  rintro _ _ ⟨rfl, rfl⟩
  show J_ zX6_addRound T (po_X6_addRound_s T c f u q w d) 18 204 4 _ [vI (T 100 c 5 + an_ (T 100 c 5) 1)] T
  refine j_blx (F := fX6) tb_X6 (nn_ _) bk_X6_addRound_s_4 bs_X6_addRound_s_4 hz (fun K hK => ?_)
  refine rg_i (by omega) ?_
  intro w13 w13b
  refine And.intro (fun c14 => ?_) (fun c14 => ?_)
  · refine hK 18 [some (vR 106 0), some (vR 100 c), some (vI u), some (vI q), some (vI w), some (vI d), some (vI ((T 100 c 5 + an_ (T 100 c 5) 1) - 1)), none, none, none, none, none] [] T ?_
    refine j_blx (F := fX6) tb_X6 (nn_ _) bk_X6_addRound_s_18 bs_X6_addRound_s_18 hz (fun K hK => ?_)
    refine And.intro (fun c15 => ?_) (fun c15 => ?_)
    · refine hK 35 [some (vR 106 0), some (vR 100 c), some (vI u), some (vI q), some (vI w), some (vI d), some (vI ((T 100 c 5 + an_ (T 100 c 5) 1) - 1)), some (vI 0), none, none, none, none] [vI u, vR 100 c, vR 106 0] T ?_
      refine j_blx (F := fX6) tb_X6 (nn_ _) bk_X6_addRound_s_35 bs_X6_addRound_s_35 hz (fun K hK => ?_)
      refine And.intro (fun c16 => ?_) (fun c16 => ?_)
      · refine hK 49 _ [vI ((T 100 c 5 + an_ (T 100 c 5) 1) - 1), vI u, vR 100 c, vR 106 0] T ?_
        refine j_blx (F := fX6) tb_X6 (nn_ _) bk_X6_addRound_s_49 bs_X6_addRound_s_49 hz (fun K hK => ?_)
        refine hK 52 _ [vI d, vI q, vI ((T 100 c 5 + an_ (T 100 c 5) 1) - 1), vI u, vR 100 c, vR 106 0] T ?_
        refine j_callV (y := yX6_addFixture) (Yc := zX6_addFixture) (rest := []) [vR 100 c, vI u, vI ((T 100 c 5 + an_ (T 100 c 5) 1) - 1), vI q, vI d] (ct_X6_addFixture_s (T := T) hc (by omega) (hrb.2.2.2.2)) cl_X6_75 (qd_c (by decide +kernel)) (nn_ _) rfl (rf_of rfl) (Nat.le_of_ble_eq_true rfl) (Nat.le_of_ble_eq_true rfl) (Nat.le_of_ble_eq_true rfl) rfl ?_
        rintro U17 _ ⟨rfl, fU17, qU17⟩
        show J_ zX6_addRound T (po_X6_addRound_s T c f u q w d) 15 170 55 _ [] U17
        refine j_blx (F := fX6) tb_X6 (nn_ _) bk_X6_addRound_s_55 bs_X6_addRound_s_55 hz (fun K hK => ?_)
        refine hK 58 [some (vR 106 0), some (vR 100 c), some (vI u), some (vI q), some (vI w), some (vI d), some (vI ((T 100 c 5 + an_ (T 100 c 5) 1) - 1)), some (vI 0), some (vI 1), none, none, none] [] U17 ?_
        refine j_drq [some (vR 106 0), some (vR 100 c), some (vI u), some (vI q), some (vI w), some (vI d), some (vI ((T 100 c 5 + an_ (T 100 c 5) 1) - 1)), none, some (vI 1), none, none, none] (drq_s (drq_s (drq_s (drq_s (drq_s (drq_s (drq_s (drq_n (drq_s (drq_n (drq_n (drq_n drq_0)))))))))))) ?_
        refine j_mono (bc' := ((3 * ((T 100 c 5 + an_ (T 100 c 5) 1 - 1) / 2 + 1 - 1)).toNat)) (bs' := ((34 * ((T 100 c 5 + an_ (T 100 c 5) 1 - 1) / 2 + 1 - 1)).toNat)) (by omega) (by omega) ?_
        refine c_58 _ 1 U17 (Nat.le_refl _) ?_ ?_ ?_ ?_ ?_ ?_ ?_
        · exact fr_t (fr_0 _ _) (fr_s fU17 rfl)
        · exact (rb_add hrb hke (by omega) (lv_R _ _) fU17 (qU17.imp id And.left)).1
        · exact (rb_add hrb hke (by omega) (lv_R _ _) fU17 (qU17.imp id And.left)).2
        · omega
        · exact fun i j hi => fx9_o (fw9_ qU17) i j hi
        · exact sq8_f sq8_r (Int.le_refl _) qU17
        · have eh := hm9_a (L := (T 100 c 5 + an_ (T 100 c 5) 1 - 1)) (r := q) (u := w) (i := 0) (by rw [pq9_0]; omega)
          rw [pa9_0, pb9_0] at eh
          show AP9_ T U17 c (fa9_ (T 100 c 5) u d (hm9_ (T 100 c 5 + an_ (T 100 c 5) 1 - 1) q w 0) (aw9_ (T 100 c 5 + an_ (T 100 c 5) 1 - 1) q w 0) [])
          rw [eh.1, eh.2]
          exact ap9_f (T1 := T) (ap9_0 rfl) (by omega) (by omega) rfl (fun j => rfl) (fw9_ qU17)
      · exfalso; omega
    · refine hK 37 _ [vI q, vI u, vR 100 c, vR 106 0] T ?_
      refine j_blx (F := fX6) tb_X6 (nn_ _) bk_X6_addRound_s_37 bs_X6_addRound_s_37 hz (fun K hK => ?_)
      refine And.intro (fun c19 => ?_) (fun c19 => ?_)
      · exfalso; omega
      · refine hK 50 _ [vI ((T 100 c 5 + an_ (T 100 c 5) 1) - 1), vI q, vI u, vR 100 c, vR 106 0] T ?_
        refine j_blx (F := fX6) tb_X6 (nn_ _) bk_X6_addRound_s_50 bs_X6_addRound_s_50 hz (fun K hK => ?_)
        refine hK 52 _ [vI d, vI ((T 100 c 5 + an_ (T 100 c 5) 1) - 1), vI q, vI u, vR 100 c, vR 106 0] T ?_
        refine j_callV (y := yX6_addFixture) (Yc := zX6_addFixture) (rest := []) [vR 100 c, vI u, vI q, vI ((T 100 c 5 + an_ (T 100 c 5) 1) - 1), vI d] (ct_X6_addFixture_s (T := T) hc (by omega) (hrb.2.2.2.2)) cl_X6_75 (qd_c (by decide +kernel)) (nn_ _) rfl (rf_of rfl) (Nat.le_of_ble_eq_true rfl) (Nat.le_of_ble_eq_true rfl) (Nat.le_of_ble_eq_true rfl) rfl ?_
        rintro U20 _ ⟨rfl, fU20, qU20⟩
        show J_ zX6_addRound T (po_X6_addRound_s T c f u q w d) 15 170 55 _ [] U20
        refine j_blx (F := fX6) tb_X6 (nn_ _) bk_X6_addRound_s_55 bs_X6_addRound_s_55 hz (fun K hK => ?_)
        refine hK 58 [some (vR 106 0), some (vR 100 c), some (vI u), some (vI q), some (vI w), some (vI d), some (vI ((T 100 c 5 + an_ (T 100 c 5) 1) - 1)), some (vI 0), some (vI 1), none, none, none] [] U20 ?_
        refine j_drq [some (vR 106 0), some (vR 100 c), some (vI u), some (vI q), some (vI w), some (vI d), some (vI ((T 100 c 5 + an_ (T 100 c 5) 1) - 1)), none, some (vI 1), none, none, none] (drq_s (drq_s (drq_s (drq_s (drq_s (drq_s (drq_s (drq_n (drq_s (drq_n (drq_n (drq_n drq_0)))))))))))) ?_
        refine j_mono (bc' := ((3 * ((T 100 c 5 + an_ (T 100 c 5) 1 - 1) / 2 + 1 - 1)).toNat)) (bs' := ((34 * ((T 100 c 5 + an_ (T 100 c 5) 1 - 1) / 2 + 1 - 1)).toNat)) (by omega) (by omega) ?_
        refine c_58 _ 1 U20 (Nat.le_refl _) ?_ ?_ ?_ ?_ ?_ ?_ ?_
        · exact fr_t (fr_0 _ _) (fr_s fU20 rfl)
        · exact (rb_add hrb hke (by omega) (lv_r hr) fU20 (qU20.imp id And.left)).1
        · exact (rb_add hrb hke (by omega) (lv_r hr) fU20 (qU20.imp id And.left)).2
        · omega
        · exact fun i j hi => fx9_o (fw9_ qU20) i j hi
        · exact sq8_f sq8_r (Int.le_refl _) qU20
        · have eh := hm9_b (L := (T 100 c 5 + an_ (T 100 c 5) 1 - 1)) (r := q) (u := w) (i := 0) (by rw [pq9_0]; omega)
          rw [pa9_0, pb9_0] at eh
          show AP9_ T U20 c (fa9_ (T 100 c 5) u d (hm9_ (T 100 c 5 + an_ (T 100 c 5) 1 - 1) q w 0) (aw9_ (T 100 c 5 + an_ (T 100 c 5) 1 - 1) q w 0) [])
          rw [eh.1, eh.2]
          exact ap9_f (T1 := T) (ap9_0 rfl) (by omega) (by omega) rfl (fun j => rfl) (fw9_ qU20)
  · refine hK 19 _ [vI 1] T ?_
    refine j_blx (F := fX6) tb_X6 (nn_ _) bk_X6_addRound_s_19 bs_X6_addRound_s_19 hz (fun K hK => ?_)
    refine And.intro (fun c22 => ?_) (fun c22 => ?_)
    · refine hK 35 [some (vR 106 0), some (vR 100 c), some (vI u), some (vI q), some (vI w), some (vI d), some (vI ((T 100 c 5 + an_ (T 100 c 5) 1) - 1)), some (vI 1), none, none, none, none] [vI u, vR 100 c, vR 106 0] T ?_
      refine j_blx (F := fX6) tb_X6 (nn_ _) bk_X6_addRound_s_35 bs_X6_addRound_s_35 hz (fun K hK => ?_)
      refine And.intro (fun c23 => ?_) (fun c23 => ?_)
      · refine hK 49 _ [vI ((T 100 c 5 + an_ (T 100 c 5) 1) - 1), vI u, vR 100 c, vR 106 0] T ?_
        refine j_blx (F := fX6) tb_X6 (nn_ _) bk_X6_addRound_s_49 bs_X6_addRound_s_49 hz (fun K hK => ?_)
        refine hK 52 _ [vI d, vI q, vI ((T 100 c 5 + an_ (T 100 c 5) 1) - 1), vI u, vR 100 c, vR 106 0] T ?_
        refine j_callV (y := yX6_addFixture) (Yc := zX6_addFixture) (rest := []) [vR 100 c, vI u, vI ((T 100 c 5 + an_ (T 100 c 5) 1) - 1), vI q, vI d] (ct_X6_addFixture_s (T := T) hc (by omega) (hrb.2.2.2.2)) cl_X6_75 (qd_c (by decide +kernel)) (nn_ _) rfl (rf_of rfl) (Nat.le_of_ble_eq_true rfl) (Nat.le_of_ble_eq_true rfl) (Nat.le_of_ble_eq_true rfl) rfl ?_
        rintro U24 _ ⟨rfl, fU24, qU24⟩
        show J_ zX6_addRound T (po_X6_addRound_s T c f u q w d) 15 170 55 _ [] U24
        refine j_blx (F := fX6) tb_X6 (nn_ _) bk_X6_addRound_s_55 bs_X6_addRound_s_55 hz (fun K hK => ?_)
        refine hK 58 [some (vR 106 0), some (vR 100 c), some (vI u), some (vI q), some (vI w), some (vI d), some (vI ((T 100 c 5 + an_ (T 100 c 5) 1) - 1)), some (vI 1), some (vI 1), none, none, none] [] U24 ?_
        refine j_drq [some (vR 106 0), some (vR 100 c), some (vI u), some (vI q), some (vI w), some (vI d), some (vI ((T 100 c 5 + an_ (T 100 c 5) 1) - 1)), none, some (vI 1), none, none, none] (drq_s (drq_s (drq_s (drq_s (drq_s (drq_s (drq_s (drq_n (drq_s (drq_n (drq_n (drq_n drq_0)))))))))))) ?_
        refine j_mono (bc' := ((3 * ((T 100 c 5 + an_ (T 100 c 5) 1 - 1) / 2 + 1 - 1)).toNat)) (bs' := ((34 * ((T 100 c 5 + an_ (T 100 c 5) 1 - 1) / 2 + 1 - 1)).toNat)) (by omega) (by omega) ?_
        refine c_58 _ 1 U24 (Nat.le_refl _) ?_ ?_ ?_ ?_ ?_ ?_ ?_
        · exact fr_t (fr_0 _ _) (fr_s fU24 rfl)
        · exact (rb_add hrb hke (by omega) (lv_R _ _) fU24 (qU24.imp id And.left)).1
        · exact (rb_add hrb hke (by omega) (lv_R _ _) fU24 (qU24.imp id And.left)).2
        · omega
        · exact fun i j hi => fx9_o (fw9_ qU24) i j hi
        · exact sq8_f sq8_r (Int.le_refl _) qU24
        · have eh := hm9_a (L := (T 100 c 5 + an_ (T 100 c 5) 1 - 1)) (r := q) (u := w) (i := 0) (by rw [pq9_0]; omega)
          rw [pa9_0, pb9_0] at eh
          show AP9_ T U24 c (fa9_ (T 100 c 5) u d (hm9_ (T 100 c 5 + an_ (T 100 c 5) 1 - 1) q w 0) (aw9_ (T 100 c 5 + an_ (T 100 c 5) 1 - 1) q w 0) [])
          rw [eh.1, eh.2]
          exact ap9_f (T1 := T) (ap9_0 rfl) (by omega) (by omega) rfl (fun j => rfl) (fw9_ qU24)
      · exfalso; omega
    · refine hK 37 _ [vI q, vI u, vR 100 c, vR 106 0] T ?_
      refine j_blx (F := fX6) tb_X6 (nn_ _) bk_X6_addRound_s_37 bs_X6_addRound_s_37 hz (fun K hK => ?_)
      refine And.intro (fun c26 => ?_) (fun c26 => ?_)
      · exfalso; omega
      · refine hK 50 _ [vI ((T 100 c 5 + an_ (T 100 c 5) 1) - 1), vI q, vI u, vR 100 c, vR 106 0] T ?_
        refine j_blx (F := fX6) tb_X6 (nn_ _) bk_X6_addRound_s_50 bs_X6_addRound_s_50 hz (fun K hK => ?_)
        refine hK 52 _ [vI d, vI ((T 100 c 5 + an_ (T 100 c 5) 1) - 1), vI q, vI u, vR 100 c, vR 106 0] T ?_
        refine j_callV (y := yX6_addFixture) (Yc := zX6_addFixture) (rest := []) [vR 100 c, vI u, vI q, vI ((T 100 c 5 + an_ (T 100 c 5) 1) - 1), vI d] (ct_X6_addFixture_s (T := T) hc (by omega) (hrb.2.2.2.2)) cl_X6_75 (qd_c (by decide +kernel)) (nn_ _) rfl (rf_of rfl) (Nat.le_of_ble_eq_true rfl) (Nat.le_of_ble_eq_true rfl) (Nat.le_of_ble_eq_true rfl) rfl ?_
        rintro U27 _ ⟨rfl, fU27, qU27⟩
        show J_ zX6_addRound T (po_X6_addRound_s T c f u q w d) 15 170 55 _ [] U27
        refine j_blx (F := fX6) tb_X6 (nn_ _) bk_X6_addRound_s_55 bs_X6_addRound_s_55 hz (fun K hK => ?_)
        refine hK 58 [some (vR 106 0), some (vR 100 c), some (vI u), some (vI q), some (vI w), some (vI d), some (vI ((T 100 c 5 + an_ (T 100 c 5) 1) - 1)), some (vI 1), some (vI 1), none, none, none] [] U27 ?_
        refine j_drq [some (vR 106 0), some (vR 100 c), some (vI u), some (vI q), some (vI w), some (vI d), some (vI ((T 100 c 5 + an_ (T 100 c 5) 1) - 1)), none, some (vI 1), none, none, none] (drq_s (drq_s (drq_s (drq_s (drq_s (drq_s (drq_s (drq_n (drq_s (drq_n (drq_n (drq_n drq_0)))))))))))) ?_
        refine j_mono (bc' := ((3 * ((T 100 c 5 + an_ (T 100 c 5) 1 - 1) / 2 + 1 - 1)).toNat)) (bs' := ((34 * ((T 100 c 5 + an_ (T 100 c 5) 1 - 1) / 2 + 1 - 1)).toNat)) (by omega) (by omega) ?_
        refine c_58 _ 1 U27 (Nat.le_refl _) ?_ ?_ ?_ ?_ ?_ ?_ ?_
        · exact fr_t (fr_0 _ _) (fr_s fU27 rfl)
        · exact (rb_add hrb hke (by omega) (lv_r hr) fU27 (qU27.imp id And.left)).1
        · exact (rb_add hrb hke (by omega) (lv_r hr) fU27 (qU27.imp id And.left)).2
        · omega
        · exact fun i j hi => fx9_o (fw9_ qU27) i j hi
        · exact sq8_f sq8_r (Int.le_refl _) qU27
        · have eh := hm9_b (L := (T 100 c 5 + an_ (T 100 c 5) 1 - 1)) (r := q) (u := w) (i := 0) (by rw [pq9_0]; omega)
          rw [pa9_0, pb9_0] at eh
          show AP9_ T U27 c (fa9_ (T 100 c 5) u d (hm9_ (T 100 c 5 + an_ (T 100 c 5) 1 - 1) q w 0) (aw9_ (T 100 c 5 + an_ (T 100 c 5) 1 - 1) q w 0) [])
          rw [eh.1, eh.2]
          exact ap9_f (T1 := T) (ap9_0 rfl) (by omega) (by omega) rfl (fun j => rfl) (fw9_ qU27)
theorem bk_X6_schedule_s_38 : ck_ fX6 none cX6_schedule 38 [.iload 5, .iload 3, .if_icmp .ge 93, .iload 4, .iload 3, .imul, .iload 5, .iadd, .istore 6, .aload 0, .aload 1, .iload 6, .iload 5, .iload 4, .iconst 1, .iand, .iconst 1, .if_icmp .ne 71, .iconst 1, .goto 72] 71 = true := qck_r (nn_ _) (by decide +kernel)
theorem bs_X6_schedule_s_38 {P : Zt → Option Zv → Prop} (K : Int → Zl → List Zv → Zt → Prop) : sx_ K P [.iload 5, .iload 3, .if_icmp .ge 93, .iload 4, .iload 3, .imul, .iload 5, .iadd, .istore 6, .aload 0, .aload 1, .iload 6, .iload 5, .iload 4, .iconst 1, .iand, .iconst 1, .if_icmp .ne 71, .iconst 1, .goto 72] 71 = x_iload 5 (x_iload 3 (x_if_icmp .ge 93 K (x_iload 4 (x_iload 3 (x_imul (x_iload 5 (x_iadd (x_istore 6 (x_aload 0 (x_aload 1 (x_iload 6 (x_iload 5 (x_iload 4 (x_iconst 1 (x_iand (x_iconst 1 (x_if_icmp .ne 71 K (x_iconst 1 (x_goto 72 K))))))))))))))))))) := ((xe_iload 5).trans (congrArg (x_iload 5) ((xe_iload 3).trans (congrArg (x_iload 3) ((xe_if_icmp .ge 93).trans (congrArg (x_if_icmp .ge 93 K) ((xe_iload 4).trans (congrArg (x_iload 4) ((xe_iload 3).trans (congrArg (x_iload 3) ((xe_imul).trans (congrArg (x_imul) ((xe_iload 5).trans (congrArg (x_iload 5) ((xe_iadd).trans (congrArg (x_iadd) ((xe_istore 6).trans (congrArg (x_istore 6) ((xe_aload 0).trans (congrArg (x_aload 0) ((xe_aload 1).trans (congrArg (x_aload 1) ((xe_iload 6).trans (congrArg (x_iload 6) ((xe_iload 5).trans (congrArg (x_iload 5) ((xe_iload 4).trans (congrArg (x_iload 4) ((xe_iconst 1).trans (congrArg (x_iconst 1) ((xe_iand).trans (congrArg (x_iand) ((xe_iconst 1).trans (congrArg (x_iconst 1) ((xe_if_icmp .ne 71).trans (congrArg (x_if_icmp .ne 71 K) ((xe_iconst 1).trans (congrArg (x_iconst 1) (xe_goto 72)))))))))))))))))))))))))))))))))))))))
theorem bk_X6_schedule_s_93 : ck_ fX6 none cX6_schedule 93 [.iinc 4 1, .goto 23] 99 = true := qck_r (nn_ _) (by decide +kernel)
theorem bs_X6_schedule_s_93 {P : Zt → Option Zv → Prop} (K : Int → Zl → List Zv → Zt → Prop) : sx_ K P [.iinc 4 1, .goto 23] 99 = x_iinc 4 1 (x_goto 23 K) := ((xe_iinc 4 1).trans (congrArg (x_iinc 4 1) (xe_goto 23)))
theorem bk_X6_schedule_s_71 : ck_ fX6 none cX6_schedule 71 [.iconst 0, .iload 2, .iload 6, .aload 1, .tableswitch 0 0 1 #[], .iconst 7, .iaload, .imul, .iadd] 84 = true := qck_r (nn_ _) (by decide +kernel)
theorem bs_X6_schedule_s_71 {P : Zt → Option Zv → Prop} (K : Int → Zl → List Zv → Zt → Prop) : sx_ K P [.iconst 0, .iload 2, .iload 6, .aload 1, .tableswitch 0 0 1 #[], .iconst 7, .iaload, .imul, .iadd] 84 = x_iconst 0 (x_iload 2 (x_iload 6 (x_aload 1 (x_g2 100 401 (x_iconst 7 (x_iaload (x_imul (x_iadd (K 84))))))))) := ((xe_iconst 0).trans (congrArg (x_iconst 0) ((xe_iload 2).trans (congrArg (x_iload 2) ((xe_iload 6).trans (congrArg (x_iload 6) ((xe_aload 1).trans (congrArg (x_aload 1) ((xe_g2 (kk := 100) rfl tl_0_1).trans (congrArg (x_g2 100 401) ((xe_iconst 7).trans (congrArg (x_iconst 7) ((xe_iaload).trans (congrArg (x_iaload) ((xe_imul).trans (congrArg (x_imul) ((xe_iadd).trans (congrArg (x_iadd) xe_nil))))))))))))))))))
theorem bk_X6_schedule_s_87 : ck_ fX6 none cX6_schedule 87 [.iinc 5 1, .goto 38] 93 = true := qck_r (nn_ _) (by decide +kernel)
theorem bs_X6_schedule_s_87 {P : Zt → Option Zv → Prop} (K : Int → Zl → List Zv → Zt → Prop) : sx_ K P [.iinc 5 1, .goto 38] 93 = x_iinc 5 1 (x_goto 38 K) := ((xe_iinc 5 1).trans (congrArg (x_iinc 5 1) (xe_goto 38)))
theorem bk_X6_schedule_s_72 : ck_ fX6 none cX6_schedule 72 [.iload 2, .iload 6, .aload 1, .tableswitch 0 0 1 #[], .iconst 7, .iaload, .imul, .iadd] 84 = true := qck_r (nn_ _) (by decide +kernel)
theorem bs_X6_schedule_s_72 {P : Zt → Option Zv → Prop} (K : Int → Zl → List Zv → Zt → Prop) : sx_ K P [.iload 2, .iload 6, .aload 1, .tableswitch 0 0 1 #[], .iconst 7, .iaload, .imul, .iadd] 84 = x_iload 2 (x_iload 6 (x_aload 1 (x_g2 100 401 (x_iconst 7 (x_iaload (x_imul (x_iadd (K 84)))))))) := ((xe_iload 2).trans (congrArg (x_iload 2) ((xe_iload 6).trans (congrArg (x_iload 6) ((xe_aload 1).trans (congrArg (x_aload 1) ((xe_g2 (kk := 100) rfl tl_0_1).trans (congrArg (x_g2 100 401) ((xe_iconst 7).trans (congrArg (x_iconst 7) ((xe_iaload).trans (congrArg (x_iaload) ((xe_imul).trans (congrArg (x_imul) ((xe_iadd).trans (congrArg (x_iadd) xe_nil))))))))))))))))
theorem bk_X6_schedule_s_23 : ck_ fX6 none cX6_schedule 23 [.iload 4, .aload 1, .tableswitch 0 0 1 #[], .iconst 6, .iaload, .if_icmp .ge 99, .iconst 0, .istore 5] 38 = true := qck_r (nn_ _) (by decide +kernel)
theorem bs_X6_schedule_s_23 {P : Zt → Option Zv → Prop} (K : Int → Zl → List Zv → Zt → Prop) : sx_ K P [.iload 4, .aload 1, .tableswitch 0 0 1 #[], .iconst 6, .iaload, .if_icmp .ge 99, .iconst 0, .istore 5] 38 = x_iload 4 (x_aload 1 (x_g2 100 401 (x_iconst 6 (x_iaload (x_if_icmp .ge 99 K (x_iconst 0 (x_istore 5 (K 38)))))))) := ((xe_iload 4).trans (congrArg (x_iload 4) ((xe_aload 1).trans (congrArg (x_aload 1) ((xe_g2 (kk := 100) rfl tl_0_1).trans (congrArg (x_g2 100 401) ((xe_iconst 6).trans (congrArg (x_iconst 6) ((xe_iaload).trans (congrArg (x_iaload) ((xe_if_icmp .ge 99).trans (congrArg (x_if_icmp .ge 99 K) ((xe_iconst 0).trans (congrArg (x_iconst 0) ((xe_istore 5).trans (congrArg (x_istore 5) xe_nil))))))))))))))))
theorem bk_X6_schedule_s_99 : ck_ fX6 none cX6_schedule 99 [.aload 1, .aload 0, .tableswitch 0 6 4 #[], .aload 1, .tableswitch 0 0 7 #[], .isub, .tableswitch 1 0 8 #[], .return_] 113 = true := qck_r (nn_ _) (by decide +kernel)
theorem bs_X6_schedule_s_99 {P : Zt → Option Zv → Prop} (K : Int → Zl → List Zv → Zt → Prop) : sx_ K P [.aload 1, .aload 0, .tableswitch 0 6 4 #[], .aload 1, .tableswitch 0 0 7 #[], .isub, .tableswitch 1 0 8 #[], .return_] 113 = x_aload 1 (x_aload 0 (x_g0 106 4 0 400 (x_aload 1 (x_g0 100 7 0 400 (x_isub (x_p 100 8 0 400 (x_return_ P))))))) := ((xe_aload 1).trans (congrArg (x_aload 1) ((xe_aload 0).trans (congrArg (x_aload 0) ((xe_g0 (kk := 106) rfl tl_6_4).trans (congrArg (x_g0 106 4 0 400) ((xe_aload 1).trans (congrArg (x_aload 1) ((xe_g0 (kk := 100) rfl tl_0_7).trans (congrArg (x_g0 100 7 0 400) ((xe_isub).trans (congrArg (x_isub) ((xe_p (kk := 100) rfl tl_0_8).trans (congrArg (x_p 100 8 0 400) (xe_return_)))))))))))))))
theorem bk_X6_schedule_s_0 : ck_ fX6 none cX6_schedule 0 [.aload 1, .iconst 1, .tableswitch 1 0 6 #[], .aload 1, .aload 0, .tableswitch 0 6 4 #[], .tableswitch 1 0 7 #[], .aload 1] 14 = true := qck_r (nn_ _) (by decide +kernel)
theorem bs_X6_schedule_s_0 {P : Zt → Option Zv → Prop} (K : Int → Zl → List Zv → Zt → Prop) : sx_ K P [.aload 1, .iconst 1, .tableswitch 1 0 6 #[], .aload 1, .aload 0, .tableswitch 0 6 4 #[], .tableswitch 1 0 7 #[], .aload 1] 14 = x_aload 1 (x_iconst 1 (x_p 100 6 0 1 (x_aload 1 (x_aload 0 (x_g0 106 4 0 400 (x_p 100 7 0 400 (x_aload 1 (K 14)))))))) := ((xe_aload 1).trans (congrArg (x_aload 1) ((xe_iconst 1).trans (congrArg (x_iconst 1) ((xe_p (kk := 100) rfl tl_0_6).trans (congrArg (x_p 100 6 0 1) ((xe_aload 1).trans (congrArg (x_aload 1) ((xe_aload 0).trans (congrArg (x_aload 0) ((xe_g0 (kk := 106) rfl tl_6_4).trans (congrArg (x_g0 106 4 0 400) ((xe_p (kk := 100) rfl tl_0_7).trans (congrArg (x_p 100 7 0 400) ((xe_aload 1).trans (congrArg (x_aload 1) xe_nil))))))))))))))))
theorem bk_X6_schedule_s_17 : ck_ fX6 none cX6_schedule 17 [.iconst 1, .isub, .istore 3, .iconst 0, .istore 4] 23 = true := qck_r (nn_ _) (by decide +kernel)
theorem bs_X6_schedule_s_17 {P : Zt → Option Zv → Prop} (K : Int → Zl → List Zv → Zt → Prop) : sx_ K P [.iconst 1, .isub, .istore 3, .iconst 0, .istore 4] 23 = x_iconst 1 (x_isub (x_istore 3 (x_iconst 0 (x_istore 4 (K 23))))) := ((xe_iconst 1).trans (congrArg (x_iconst 1) ((xe_isub).trans (congrArg (x_isub) ((xe_istore 3).trans (congrArg (x_istore 3) ((xe_iconst 0).trans (congrArg (x_iconst 0) ((xe_istore 4).trans (congrArg (x_istore 4) xe_nil))))))))))
abbrev po_X6_schedule_s (T : Zt) (c : Int) (b : Int) : Zt → Option Zv → Prop := fun T' r => r = none ∧ fr_ [(106, [4]), (523, []), (152, []), (102, []), (448, []), (449, []), (100, [6, 7, 8])] T T' ∧ ((∀ i j, i < T 106 0 4 → T' 102 i j = T 102 i j) ∧ RK_ T' c (T 106 0 4) (T 100 c 5 + an_ (T 100 c 5) 1 - 1) 0 0 2000000 ∧ (T' 100 c 6 = 1 ∧ T' 100 c 7 = T 106 0 4 ∧ T' 100 c 8 = T' 106 0 4 - T 106 0 4) ∧ (∀ i j, i ≠ c → T' 100 i j = T 100 i j) ∧ SQ8_ T T' ∧ AP9_ T T' c (pl9_ (T 100 c 5) (T 100 c 5 + an_ (T 100 c 5) 1 - 1) b (T 401 c 7) (T 401 c 6).toNat))
set_option maxHeartbeats 4000000 in
theorem ct_X6_schedule_s {T : Zt} {c : Int} {b : Int} (hc : 0 ≤ c ∧ c ≤ 3) (hl : 0 ≤ T 401 c 6 ∧ T 401 c 6 ≤ 4) (hE : 1 ≤ T 401 c 7 ∧ T 401 c 7 ≤ 30) (he : 2 ≤ T 100 c 5) (hb : 0 ≤ b ∧ b + ((T 100 c 5 + an_ (T 100 c 5) 1 - 1) * T 401 c 6 - 1) * T 401 c 7 ≤ 999) (hke : KEc_ T c) (hka : KA_ T) (hna : NA_ T) (hfx : T 106 0 4 + T 100 c 5 * (T 100 c 5 - 1) / 2 * T 401 c 6 ≤ 400) : Ct_ yX6_schedule zX6_schedule T [vR 106 0, vR 100 c, vI b] (po_X6_schedule_s T c b) := by
  refine ct_of pn_6 rfl rfl (Nat.le_of_ble_eq_true rfl) (fun hT hav => ?_)
  have hr_b : -2147483648 ≤ b ∧ b ≤ 2147483647 := hav (vI b) (List.mem_cons_of_mem _ (List.mem_cons_of_mem _ List.mem_cons_self))
  have hz : zX6_schedule.2.2.2.1 = some .boolean → ∀ (T' : Zt) (x : Int), po_X6_schedule_s T c b T' (some (vI x)) → 0 ≤ x ∧ x ≤ 1 := fun h => by cases h
  have hb_matchCount : 0 ≤ T 106 0 4 ∧ T 106 0 4 ≤ 400 := bd_f hT 106 4 tl_6_4 0
  have hb5 : 0 ≤ T 100 c 5 ∧ T 100 c 5 ≤ 12 := bd_f hT 100 5 tl_0_5 c
  have hp1 := an_1b (T 100 c 5)
  have hpm := an9_m (x := T 100 c 5) (by omega)
  have hp2 : T 100 c 5 = 12 → an_ (T 100 c 5) 1 = 0 := fun h => by rw [h]; decide
  have hbb : b ≤ 2000 := by have y := mlb (a := (T 100 c 5 + an_ (T 100 c 5) 1 - 1) * T 401 c 6) (b := T 401 c 7) (A := 48) (B := 30) (mlb (A := 12) (B := 4) (by omega) (by omega)) (by omega); have y2 := hb.2; rw [Int.sub_mul, Int.one_mul] at y2; omega
  show J_ zX6_schedule T (po_X6_schedule_s T c b) 792 8976 0 [some (vR 106 0), some (vR 100 c), some (vI b), none, none, none, none] [] T
  have c_23 : ∀ (nn : Nat) (l : Int) (T1 : Zt), ((4 - l).toNat) ≤ nn → (fr_ [(106, [4]), (523, []), (152, []), (102, []), (448, []), (449, []), (100, [6, 7, 8])] T T1) → (∀ z, RK_ T1 c (T 106 0 4) (T 100 c 5 + an_ (T 100 c 5) 1 - 1) z 0 (b + (l * (T 100 c 5 + an_ (T 100 c 5) 1 - 1) + 0) * T 401 c 7)) → (∀ i j, i < T 106 0 4 → T1 102 i j = T 102 i j) → (∀ i j, i ≠ c → T1 100 i j = T 100 i j) → (T1 100 c 7 = T 106 0 4 ∧ T1 100 c 6 = 1) → (0 ≤ l ∧ l ≤ 4 ∧ (l ≤ T 401 c 6 ∨ l = 0)) → (AP9_ T T1 c (pl9_ (T 100 c 5) (T 100 c 5 + an_ (T 100 c 5) 1 - 1) b (T 401 c 7) l.toNat)) → (SQ8_ T T1) → J_ zX6_schedule T (po_X6_schedule_s T c b) ((18 * (((4 : Int) - l) * 11)).toNat) ((204 * (((4 : Int) - l) * 11)).toNat) 23 [some (vR 106 0), some (vR 100 c), some (vI b), some (vI (T 100 c 5 + an_ (T 100 c 5) 1 - 1)), some (vI l), none, none] [] T1 := by
    intro nn
    induction nn using Nat.strongRecOn with
    | _ nn ih_23 =>
      intro l T1 hm_23 hf_23 hrb1 od1 oc1 s1 i1 ap1 sk1
      replace hm_23 := fun (_ : Unit) => hm_23
      have hpl := an9_m (x := l) (by omega)
      have hq1 := (hrb1 0).1
      have hm1 := mlb (a := l) (b := T 100 c 5 + an_ (T 100 c 5) 1 - 1) (A := 4) (B := 12) (by omega) (by omega)
      have hm2 := mlb (a := l * (T 100 c 5 + an_ (T 100 c 5) 1 - 1) + 0) (b := T 401 c 7) (A := 48) (B := 30) (by omega) (by omega)
      have hmx : (b + (l * (T 100 c 5 + an_ (T 100 c 5) 1 - 1) + 0) * T 401 c 7) ≤ 1000000 := by have := hb.1; have := hbb; omega
      have c_38 : ∀ (nn : Nat) (q : Int) (T2 : Zt), ((13 - q).toNat) ≤ nn → (fr_ [(106, [4]), (523, []), (152, []), (102, []), (448, []), (449, []), (100, [6, 7, 8])] T T2) → (∀ z, RK_ T2 c (T 106 0 4) (T 100 c 5 + an_ (T 100 c 5) 1 - 1) z 0 (b + (l * (T 100 c 5 + an_ (T 100 c 5) 1 - 1) + q) * T 401 c 7)) → (∀ i j, i < T 106 0 4 → T2 102 i j = T 102 i j) → (∀ i j, i ≠ c → T2 100 i j = T 100 i j) → (T2 100 c 7 = T 106 0 4 ∧ T2 100 c 6 = 1) → (0 ≤ q ∧ q ≤ T 100 c 5 + an_ (T 100 c 5) 1 - 1 ∧ l < T 401 c 6) → (AP9_ T T2 c (ll9_ (T 100 c 5) (T 100 c 5 + an_ (T 100 c 5) 1 - 1) l b (T 401 c 7) q.toNat (pl9_ (T 100 c 5) (T 100 c 5 + an_ (T 100 c 5) 1 - 1) b (T 401 c 7) l.toNat))) → (SQ8_ T T2) → J_ zX6_schedule T (po_X6_schedule_s T c b) ((18 * (((4 : Int) - l) * 11 - q)).toNat) ((204 * (((4 : Int) - l) * 11 - q)).toNat) 38 [some (vR 106 0), some (vR 100 c), some (vI b), some (vI (T 100 c 5 + an_ (T 100 c 5) 1 - 1)), some (vI l), some (vI q), none] [] T2 := by
        intro nn
        induction nn using Nat.strongRecOn with
        | _ nn ih_38 =>
          intro q T2 hm_38 hf_38 hrb2 od2 oc2 s2 i2 ap2 sk2
          replace hm_38 := fun (_ : Unit) => hm_38
          have hm3 := mlb (a := l * (T 100 c 5 + an_ (T 100 c 5) 1 - 1) + q) (b := T 401 c 7) (A := 60) (B := 30) (by omega) (by omega)
          refine j_blx (F := fX6) tb_X6 (nn_ _) bk_X6_schedule_s_38 bs_X6_schedule_s_38 hz (fun K hK => ?_)
          refine And.intro (fun c1 => ?_) (fun c1 => ?_)
          · refine hK 93 _ [] T2 ?_
            refine j_blx (F := fX6) tb_X6 (nn_ _) bk_X6_schedule_s_93 bs_X6_schedule_s_93 hz (fun K hK => ?_)
            refine rg_i (by omega) ?_
            refine hK 23 [some (vR 106 0), some (vR 100 c), some (vI b), some (vI (T 100 c 5 + an_ (T 100 c 5) 1 - 1)), some (vI (l + 1)), some (vI q), none] [] T2 ?_
            refine j_drq [some (vR 106 0), some (vR 100 c), some (vI b), some (vI (T 100 c 5 + an_ (T 100 c 5) 1 - 1)), some (vI (l + 1)), none, none] (drq_s (drq_s (drq_s (drq_s (drq_s (drq_n (drq_n drq_0))))))) ?_
            refine j_mono (bc' := ((18 * (((4 : Int) - (l + 1)) * 11)).toNat)) (bs' := ((204 * (((4 : Int) - (l + 1)) * 11)).toNat)) (by omega) (by omega) ?_
            refine ih_23 _ ?_ (l + 1) T2 (Nat.le_refl _) ?_ ?_ ?_ ?_ ?_ ?_ ?_ ?_
            · have hm_23 := hm_23 (); omega
            · exact fr_t (fr_0 _ _) (fr_s hf_38 rfl)
            · intro z; rw [sc_l l q (T 100 c 5 + an_ (T 100 c 5) 1 - 1) (T 401 c 7) b (by omega)]; exact hrb2 z
            · exact od2
            · exact oc2
            · exact s2
            · omega
            · rw [show q = (T 100 c 5 + an_ (T 100 c 5) 1 - 1) by omega] at ap2
              rw [show (l + 1).toNat = l.toNat + 1 by omega]
              show AP9_ T T2 c (ll9_ (T 100 c 5) (T 100 c 5 + an_ (T 100 c 5) 1 - 1) (l.toNat : Int) b (T 401 c 7) ((T 100 c 5 + an_ (T 100 c 5) 1 - 1)).toNat (pl9_ (T 100 c 5) (T 100 c 5 + an_ (T 100 c 5) 1 - 1) b (T 401 c 7) l.toNat))
              rw [show ((l.toNat : Nat) : Int) = l by omega]
              exact ap2
            · exact sk2
          · refine rg_i (by omega) ?_
            refine rg_i (by omega) ?_
            intro w2 w2b
            refine And.intro (fun c3 => ?_) (fun c3 => ?_)
            · refine hK 71 [some (vR 106 0), some (vR 100 c), some (vI b), some (vI (T 100 c 5 + an_ (T 100 c 5) 1 - 1)), some (vI l), some (vI q), some (vI ((l * (T 100 c 5 + an_ (T 100 c 5) 1 - 1)) + q))] [vI q, vI ((l * (T 100 c 5 + an_ (T 100 c 5) 1 - 1)) + q), vR 100 c, vR 106 0] T2 ?_
              refine j_blx (F := fX6) tb_X6 (nn_ _) bk_X6_schedule_s_71 bs_X6_schedule_s_71 hz (fun K hK => ?_)
              refine ix_i (by omega) ?_
              intro b4 b4b
              have e5 : T2 401 c 7 = T 401 c 7 := hf_38 401 c 7 rfl
              rw [e5] at b4 b4b ⊢
              refine rg_i (by omega) ?_
              refine rg_i (by have y8 := sc_b (l := l) (q := q) (R := T 100 c 5 + an_ (T 100 c 5) 1 - 1) (L := T 401 c 6) (E := T 401 c 7) (b := b) (by omega) (by omega) (by omega) (by omega) hb.2; omega) ?_
              refine hK 84 _ [vI (b + (((l * (T 100 c 5 + an_ (T 100 c 5) 1 - 1)) + q) * (T 401 c 7))), vI 0, vI q, vI ((l * (T 100 c 5 + an_ (T 100 c 5) 1 - 1)) + q), vR 100 c, vR 106 0] T2 ?_
              have e6 : T2 100 c 5 = T 100 c 5 := hf_38 100 c 5 rfl
              have rb9 := rm9_b (e := T 100 c 5) (L := T 100 c 5 + an_ (T 100 c 5) 1 - 1) (f := b) (E := T 401 c 7) (M := T 106 0 4) (lg := T 401 c 6) (l := l) (q := q) (by omega) (by omega) hfx (by omega) (by omega)
              have ap3 := ap2.1
              have eR : T2 100 c 5 + an_ (T2 100 c 5) 1 - 1 = T 100 c 5 + an_ (T 100 c 5) 1 - 1 := by rw [e6]
              have y8 := sc_b (l := l) (q := q) (R := T 100 c 5 + an_ (T 100 c 5) 1 - 1) (L := T 401 c 6) (E := T 401 c 7) (b := b) (by omega) (by omega) (by omega) (by omega) hb.2
              refine j_callV (y := yX6_addRound) (Yc := zX6_addRound) (rest := []) [vR 100 c, vI ((l * (T 100 c 5 + an_ (T 100 c 5) 1 - 1)) + q), vI q, vI 0, vI (b + (((l * (T 100 c 5 + an_ (T 100 c 5) 1 - 1)) + q) * (T 401 c 7)))] (ct_X6_addRound_s (T := T2) (f := T 106 0 4) hc (by omega) (by omega) (by omega) (KEc_f hke hf_38 ⟨rfl, fun _ => rfl, fun _ => rfl⟩) (by rw [eR]; exact hrb2 q) (by omega) (by rw [e6]; omega)) cl_X6_70 (qd_c (by decide +kernel)) (by decide) rfl (by decide +kernel) (Nat.le_of_ble_eq_true rfl) (by show 18 ≤ (18 * ((4 - l) * 11 - q)).toNat; omega) (by show 204 ≤ (204 * ((4 - l) * 11 - q)).toNat; omega) rfl ?_
              rintro U7 _ ⟨rfl, fU7, qU7, odU7⟩
              show J_ zX6_schedule T (po_X6_schedule_s T c b) (((18 * (((4 : Int) - l) * 11 - q)).toNat) - 18) (((204 * (((4 : Int) - l) * 11 - q)).toNat) - 204) 87 _ [] U7
              refine j_blx (F := fX6) tb_X6 (nn_ _) bk_X6_schedule_s_87 bs_X6_schedule_s_87 hz (fun K hK => ?_)
              refine rg_i (by omega) ?_
              refine hK 38 [some (vR 106 0), some (vR 100 c), some (vI b), some (vI (T 100 c 5 + an_ (T 100 c 5) 1 - 1)), some (vI l), some (vI (q + 1)), some (vI ((l * (T 100 c 5 + an_ (T 100 c 5) 1 - 1)) + q))] [] U7 ?_
              refine j_drq [some (vR 106 0), some (vR 100 c), some (vI b), some (vI (T 100 c 5 + an_ (T 100 c 5) 1 - 1)), some (vI l), some (vI (q + 1)), none] (drq_s (drq_s (drq_s (drq_s (drq_s (drq_s (drq_n drq_0))))))) ?_
              refine j_mono (bc' := ((18 * (((4 : Int) - l) * 11 - (q + 1))).toNat)) (bs' := ((204 * (((4 : Int) - l) * 11 - (q + 1))).toNat)) (by omega) (by omega) ?_
              refine ih_38 _ ?_ (q + 1) U7 (Nat.le_refl _) ?_ ?_ ?_ ?_ ?_ ?_ ?_ ?_
              · have hm_38 := hm_38 (); omega
              · exact fr_t (fr_t (fr_0 _ _) (fr_s hf_38 rfl)) (fr_s fU7 rfl)
              · intro z; rw [sc_n]; exact rb_next (r' := z) (by rw [eR] at qU7; exact qU7) (by omega)
              · exact fun i j hi => (odU7.1 i j hi).trans (od2 i j hi)
              · exact fun i j hi => (fU7 100 i j rfl).trans (oc2 i j hi)
              · exact ⟨(fU7 100 _ _ rfl).trans s2.1, (fU7 100 _ _ rfl).trans s2.2⟩
              · omega
              · have ap := odU7.2.2.2.2
                rw [e6] at ap
                rw [show (q + 1).toNat = q.toNat + 1 by omega]
                show AP9_ T U7 c (rl9_ (T 100 c 5) (T 100 c 5 + an_ (T 100 c 5) 1 - 1) (q.toNat : Int) (l % 2) (l * (T 100 c 5 + an_ (T 100 c 5) 1 - 1) + (q.toNat : Int)) (b + (l * (T 100 c 5 + an_ (T 100 c 5) 1 - 1) + (q.toNat : Int)) * (T 401 c 7)) (((T 100 c 5 + an_ (T 100 c 5) 1 - 1) + 1) / 2).toNat (ll9_ (T 100 c 5) (T 100 c 5 + an_ (T 100 c 5) 1 - 1) l b (T 401 c 7) q.toNat (pl9_ (T 100 c 5) (T 100 c 5 + an_ (T 100 c 5) 1 - 1) b (T 401 c 7) l.toNat)))
                rw [show ((q.toNat : Nat) : Int) = q by omega, rl9_a, show (((T 100 c 5 + an_ (T 100 c 5) 1 - 1) + 1) / 2).toNat = ((T 100 c 5 + an_ (T 100 c 5) 1 - 1) / 2 + 1).toNat by omega, show l % 2 = 0 by omega]
                exact ap9_t ap2 ap (by omega) odU7.2.2.1 (fun j => hf_38 403 c j rfl)
              · exact sq8_t sk2 odU7.2.2.2.1 (by have z := ap2.1; omega) odU7.2.1
            · refine hK 72 [some (vR 106 0), some (vR 100 c), some (vI b), some (vI (T 100 c 5 + an_ (T 100 c 5) 1 - 1)), some (vI l), some (vI q), some (vI ((l * (T 100 c 5 + an_ (T 100 c 5) 1 - 1)) + q))] [vI 1, vI q, vI ((l * (T 100 c 5 + an_ (T 100 c 5) 1 - 1)) + q), vR 100 c, vR 106 0] T2 ?_
              refine j_blx (F := fX6) tb_X6 (nn_ _) bk_X6_schedule_s_72 bs_X6_schedule_s_72 hz (fun K hK => ?_)
              refine ix_i (by omega) ?_
              intro b9 b9b
              have e10 : T2 401 c 7 = T 401 c 7 := hf_38 401 c 7 rfl
              rw [e10] at b9 b9b ⊢
              refine rg_i (by omega) ?_
              refine rg_i (by have y8 := sc_b (l := l) (q := q) (R := T 100 c 5 + an_ (T 100 c 5) 1 - 1) (L := T 401 c 6) (E := T 401 c 7) (b := b) (by omega) (by omega) (by omega) (by omega) hb.2; omega) ?_
              refine hK 84 _ [vI (b + (((l * (T 100 c 5 + an_ (T 100 c 5) 1 - 1)) + q) * (T 401 c 7))), vI 1, vI q, vI ((l * (T 100 c 5 + an_ (T 100 c 5) 1 - 1)) + q), vR 100 c, vR 106 0] T2 ?_
              have e11 : T2 100 c 5 = T 100 c 5 := hf_38 100 c 5 rfl
              have rb9 := rm9_b (e := T 100 c 5) (L := T 100 c 5 + an_ (T 100 c 5) 1 - 1) (f := b) (E := T 401 c 7) (M := T 106 0 4) (lg := T 401 c 6) (l := l) (q := q) (by omega) (by omega) hfx (by omega) (by omega)
              have ap3 := ap2.1
              have eR : T2 100 c 5 + an_ (T2 100 c 5) 1 - 1 = T 100 c 5 + an_ (T 100 c 5) 1 - 1 := by rw [e11]
              have y8 := sc_b (l := l) (q := q) (R := T 100 c 5 + an_ (T 100 c 5) 1 - 1) (L := T 401 c 6) (E := T 401 c 7) (b := b) (by omega) (by omega) (by omega) (by omega) hb.2
              refine j_callV (y := yX6_addRound) (Yc := zX6_addRound) (rest := []) [vR 100 c, vI ((l * (T 100 c 5 + an_ (T 100 c 5) 1 - 1)) + q), vI q, vI 1, vI (b + (((l * (T 100 c 5 + an_ (T 100 c 5) 1 - 1)) + q) * (T 401 c 7)))] (ct_X6_addRound_s (T := T2) (f := T 106 0 4) hc (by omega) (by omega) (by omega) (KEc_f hke hf_38 ⟨rfl, fun _ => rfl, fun _ => rfl⟩) (by rw [eR]; exact hrb2 q) (by omega) (by rw [e11]; omega)) cl_X6_70 (qd_c (by decide +kernel)) (by decide) rfl (by decide +kernel) (Nat.le_of_ble_eq_true rfl) (by show 18 ≤ (18 * ((4 - l) * 11 - q)).toNat; omega) (by show 204 ≤ (204 * ((4 - l) * 11 - q)).toNat; omega) rfl ?_
              rintro U12 _ ⟨rfl, fU12, qU12, odU12⟩
              show J_ zX6_schedule T (po_X6_schedule_s T c b) (((18 * (((4 : Int) - l) * 11 - q)).toNat) - 18) (((204 * (((4 : Int) - l) * 11 - q)).toNat) - 204) 87 _ [] U12
              refine j_blx (F := fX6) tb_X6 (nn_ _) bk_X6_schedule_s_87 bs_X6_schedule_s_87 hz (fun K hK => ?_)
              refine rg_i (by omega) ?_
              refine hK 38 [some (vR 106 0), some (vR 100 c), some (vI b), some (vI (T 100 c 5 + an_ (T 100 c 5) 1 - 1)), some (vI l), some (vI (q + 1)), some (vI ((l * (T 100 c 5 + an_ (T 100 c 5) 1 - 1)) + q))] [] U12 ?_
              refine j_drq [some (vR 106 0), some (vR 100 c), some (vI b), some (vI (T 100 c 5 + an_ (T 100 c 5) 1 - 1)), some (vI l), some (vI (q + 1)), none] (drq_s (drq_s (drq_s (drq_s (drq_s (drq_s (drq_n drq_0))))))) ?_
              refine j_mono (bc' := ((18 * (((4 : Int) - l) * 11 - (q + 1))).toNat)) (bs' := ((204 * (((4 : Int) - l) * 11 - (q + 1))).toNat)) (by omega) (by omega) ?_
              refine ih_38 _ ?_ (q + 1) U12 (Nat.le_refl _) ?_ ?_ ?_ ?_ ?_ ?_ ?_ ?_
              · have hm_38 := hm_38 (); omega
              · exact fr_t (fr_t (fr_0 _ _) (fr_s hf_38 rfl)) (fr_s fU12 rfl)
              · intro z; rw [sc_n]; exact rb_next (r' := z) (by rw [eR] at qU12; exact qU12) (by omega)
              · exact fun i j hi => (odU12.1 i j hi).trans (od2 i j hi)
              · exact fun i j hi => (fU12 100 i j rfl).trans (oc2 i j hi)
              · exact ⟨(fU12 100 _ _ rfl).trans s2.1, (fU12 100 _ _ rfl).trans s2.2⟩
              · omega
              · have ap := odU12.2.2.2.2
                rw [e11] at ap
                rw [show (q + 1).toNat = q.toNat + 1 by omega]
                show AP9_ T U12 c (rl9_ (T 100 c 5) (T 100 c 5 + an_ (T 100 c 5) 1 - 1) (q.toNat : Int) (l % 2) (l * (T 100 c 5 + an_ (T 100 c 5) 1 - 1) + (q.toNat : Int)) (b + (l * (T 100 c 5 + an_ (T 100 c 5) 1 - 1) + (q.toNat : Int)) * (T 401 c 7)) (((T 100 c 5 + an_ (T 100 c 5) 1 - 1) + 1) / 2).toNat (ll9_ (T 100 c 5) (T 100 c 5 + an_ (T 100 c 5) 1 - 1) l b (T 401 c 7) q.toNat (pl9_ (T 100 c 5) (T 100 c 5 + an_ (T 100 c 5) 1 - 1) b (T 401 c 7) l.toNat)))
                rw [show ((q.toNat : Nat) : Int) = q by omega, rl9_a, show (((T 100 c 5 + an_ (T 100 c 5) 1 - 1) + 1) / 2).toNat = ((T 100 c 5 + an_ (T 100 c 5) 1 - 1) / 2 + 1).toNat by omega, show l % 2 = 1 by omega]
                exact ap9_t ap2 ap (by omega) odU12.2.2.1 (fun j => hf_38 403 c j rfl)
              · exact sq8_t sk2 odU12.2.2.2.1 (by have z := ap2.1; omega) odU12.2.1
      refine j_blx (F := fX6) tb_X6 (nn_ _) bk_X6_schedule_s_23 bs_X6_schedule_s_23 hz (fun K hK => ?_)
      refine ix_i (by omega) ?_
      intro b14 b14b
      have e15 : T1 401 c 6 = T 401 c 6 := hf_23 401 c 6 rfl
      rw [e15] at b14 b14b ⊢
      refine And.intro (fun c16 => ?_) (fun c16 => ?_)
      · refine hK 99 _ [] T1 ?_
        refine j_blx (F := fX6) tb_X6 (nn_ _) bk_X6_schedule_s_99 bs_X6_schedule_s_99 hz (fun K hK => ?_)
        intro b17 b17b
        intro b18 b18b
        refine rg_i (by omega) ?_
        refine bd_i (by omega) ?_
        refine x_nm (fun U19 hU19 => ?_)
        have e20 := up_f hU19
        refine (show po_X6_schedule_s T c b U19 (none) from ?_)
        have e21 : U19 106 0 4 = T1 106 0 4 := up_k hU19 (by exact Nat.ne_of_beq_eq_false rfl) 0 4
        have e22 : U19 106 0 4 = T1 106 0 4 := up_k hU19 (by exact Nat.ne_of_beq_eq_false rfl) 0 4
        have e23 : U19 100 c 7 = T1 100 c 7 := up_j hU19 (by decide) 100 c
        have e24 : U19 100 c 6 = T1 100 c 6 := up_j hU19 (by decide) 100 c
        have el : l = T 401 c 6 := by omega
        have ap7 := ap1
        rw [el] at ap7
        have ap8 : AP9_ T U19 c (pl9_ (T 100 c 5) (T 100 c 5 + an_ (T 100 c 5) 1 - 1) b (T 401 c 7) (T 401 c 6).toNat) := ⟨(up_k hU19 (by exact Nat.ne_of_beq_eq_false rfl) 0 4).trans ap7.1, fun k q hq => by have z := ap7.2 k q hq; have o : ∀ j, U19 102 (T 106 0 4 + k) j = T1 102 (T 106 0 4 + k) j := fun j => up_k hU19 (by exact Nat.ne_of_beq_eq_false rfl) _ _; rw [o 0, o 2, o 3, o 4, o 5, o 6, o 7, o 10]; exact z⟩
        have sk8 : SQ8_ T U19 := sq8_t sk1 (sq8_u hU19 (by decide)) (by have z := ap7.1; omega) (by have z : U19 106 0 4 = T1 106 0 4 := up_k hU19 (by exact Nat.ne_of_beq_eq_false rfl) 0 4; omega)
        have r1 := hrb1 0
        obtain ⟨r2, r3, r4, r5, r6⟩ := r1
        have k1 : ∀ k i j, k ≠ 100 → U19 k i j = T1 k i j := fun k i j hk => up_k hU19 hk _ _
        have r7 : RK_ U19 c (T 106 0 4) (T 100 c 5 + an_ (T 100 c 5) 1 - 1) 0 0 2000000 := by
          refine ⟨by rw [k1 106 0 4 (by decide)]; exact r2, fun i p q => ?_, fun i j p q w => ?_, fun i p q => ?_, NA_f r6 (show fr_ [(100, [6, 7, 8])] T1 U19 from fr_u (fr_0 _ _) hU19 rfl) ⟨rfl, rfl, rfl, rfl, rfl, rfl, rfl, rfl, rfl⟩⟩
          · rw [k1 106 0 4 (by decide)] at q
            obtain ⟨a1, a2, a3, a4, a5, a6⟩ := r3 i p q
            rw [k1 102 i 0 (by decide), k1 102 i 1 (by decide), k1 102 i 10 (by decide), k1 102 i 3 (by decide), k1 102 i 4 (by decide), k1 102 i 5 (by decide), k1 404 c _ (by decide), k1 404 c _ (by decide)]
            refine ⟨a1, a2, a3, a4, a5, Or.inl ?_⟩
            have y1 := a6
            have y2 : (b + (l * (T 100 c 5 + an_ (T 100 c 5) 1 - 1) + 0) * T 401 c 7) ≤ 1000000 := hmx
            omega
          · rw [k1 106 0 4 (by decide)] at w
            rw [k1 102 i 3 (by decide), k1 102 i 5 (by decide), k1 102 j 3 (by decide), k1 102 j 5 (by decide)]
            exact r4 i j p q w
          · rw [k1 106 0 4 (by decide)] at q
            rw [k1 523 0 i (by decide)]
            exact r5 i p q
        exact ⟨rfl, fr_u (fr_t (fr_0 _ _) (fr_s hf_23 rfl)) hU19 rfl, fun i j hi => (k1 102 i j (by decide)).trans (od1 i j hi), r7, by omega, fun i j hi => (up_g hU19 (fun z => hi z.2.1)).trans (oc1 i j hi), sk8, ap8⟩
      · refine hK 38 [some (vR 106 0), some (vR 100 c), some (vI b), some (vI (T 100 c 5 + an_ (T 100 c 5) 1 - 1)), some (vI l), some (vI 0), none] [] T1 ?_
        refine j_mono (bc' := ((18 * (((4 : Int) - l) * 11 - 0)).toNat)) (bs' := ((204 * (((4 : Int) - l) * 11 - 0)).toNat)) (by omega) (by omega) ?_
        refine c_38 _ 0 T1 (Nat.le_refl _) ?_ ?_ ?_ ?_ ?_ ?_ ?_ ?_
        · exact fr_t (fr_0 _ _) (fr_s hf_23 rfl)
        · exact hrb1
        · exact od1
        · exact oc1
        · exact s1
        · omega
        · exact ap1
        · exact sk1
  refine j_blx (F := fX6) tb_X6 (nn_ _) bk_X6_schedule_s_0 bs_X6_schedule_s_0 hz (fun K hK => ?_)
  refine bd_i (by omega) ?_
  refine x_nm (fun U25 hU25 => ?_)
  have e26 := up_f hU25
  intro b27 b27b
  have e28 : U25 106 0 4 = T 106 0 4 := up_k hU25 (by exact Nat.ne_of_beq_eq_false rfl) 0 4
  rw [e28] at b27 b27b ⊢
  refine bd_i (by omega) ?_
  refine x_nm (fun U29 hU29 => ?_)
  have e30 := up_f hU29
  refine hK 14 _ [vR 100 c] U29 ?_
  refine j_callV (y := yX0_placeCount) (Yc := zX0_placeCount) (rest := []) [] (ct_X0_placeCount (T := U29)) cl_X6_63 (qd_c (by decide +kernel)) (nn_ _) rfl (rf_of rfl) (Nat.le_of_ble_eq_true rfl) (Nat.le_of_ble_eq_true rfl) (Nat.le_of_ble_eq_true rfl) rfl ?_
  rintro _ _ ⟨rfl, rfl⟩
  have e31 : U29 100 c 5 + an_ (U29 100 c 5) 1 = T 100 c 5 + an_ (T 100 c 5) 1 := by rw [show _ = T 100 c 5 from (up_j hU29 (by decide) _ _).trans (up_j hU25 (by decide) _ _)]
  rw [e31]
  show J_ zX6_schedule T (po_X6_schedule_s T c b) 792 8976 17 _ [vI (T 100 c 5 + an_ (T 100 c 5) 1)] U29
  refine j_blx (F := fX6) tb_X6 (nn_ _) bk_X6_schedule_s_17 bs_X6_schedule_s_17 hz (fun K hK => ?_)
  refine rg_i (by omega) ?_
  refine hK 23 [some (vR 106 0), some (vR 100 c), some (vI b), some (vI ((T 100 c 5 + an_ (T 100 c 5) 1) - 1)), some (vI 0), none, none] [] U29 ?_
  refine j_mono (bc' := ((18 * (((4 : Int) - 0) * 11)).toNat)) (bs' := ((204 * (((4 : Int) - 0) * 11)).toNat)) (by omega) (by omega) ?_
  refine c_23 _ 0 U29 (Nat.le_refl _) ?_ ?_ ?_ ?_ ?_ ?_ ?_ ?_
  · exact fr_u (fr_u (fr_0 _ _) hU25 rfl) hU29 rfl
  · intro z; have y7 : U29 106 0 4 = T 106 0 4 := (up_k hU29 (by exact Nat.ne_of_beq_eq_false rfl) _ _).trans (up_k hU25 (by exact Nat.ne_of_beq_eq_false rfl) _ _); exact ⟨⟨by omega, by omega, by omega⟩, fun i p q => absurd q (by omega), fun i j p q w => absurd w (by omega), fun i p q => by rw [show _ = T 523 0 i from (up_k hU29 (by exact Nat.ne_of_beq_eq_false rfl) _ _).trans (up_k hU25 (by exact Nat.ne_of_beq_eq_false rfl) _ _)]; exact hka.2 i p (by omega), NA_f hna (show fr_ [(100, [6, 7, 8])] T U29 from fr_u (fr_u (fr_0 _ _) hU25 rfl) hU29 rfl) ⟨rfl, rfl, rfl, rfl, rfl, rfl, rfl, rfl, rfl⟩⟩
  · exact fun i j hi => (up_k hU29 (by exact Nat.ne_of_beq_eq_false rfl) _ _).trans (up_k hU25 (by exact Nat.ne_of_beq_eq_false rfl) _ _)
  · exact fun i j hi => (up_g hU29 (fun z => hi z.2.1)).trans (up_g hU25 (fun z => hi z.2.1))
  · exact ⟨up_f hU29, (up_j hU29 (by decide) _ _).trans (up_f hU25)⟩
  · omega
  · exact ap9_0 ((up_k hU29 (by exact Nat.ne_of_beq_eq_false rfl) _ _).trans (up_k hU25 (by exact Nat.ne_of_beq_eq_false rfl) _ _))
  · exact sq8_t (sq8_u hU25 (by decide)) (sq8_u hU29 (by decide)) (by have z : U25 106 0 4 = T 106 0 4 := up_k hU25 (by exact Nat.ne_of_beq_eq_false rfl) 0 4; omega) (by have z : U29 106 0 4 = U25 106 0 4 := up_k hU29 (by exact Nat.ne_of_beq_eq_false rfl) 0 4; omega)
theorem bk_X10_plan_s_0 : ck_ fX10 (some .int) cX10_plan 0 [.aload 0, .iload 1] 2 = true := qck_r (nn_ _) (by decide +kernel)
theorem bs_X10_plan_s_0 {P : Zt → Option Zv → Prop} (K : Int → Zl → List Zv → Zt → Prop) : sx_ K P [.aload 0, .iload 1] 2 = x_aload 0 (x_iload 1 (K 2)) := ((xe_aload 0).trans (congrArg (x_aload 0) ((xe_iload 1).trans (congrArg (x_iload 1) xe_nil))))
theorem bk_X10_plan_s_5 : ck_ fX10 (some .int) cX10_plan 5 [.ifCond .ne 11, .iconst (-2), .ireturn] 11 = true := qck_r (nn_ _) (by decide +kernel)
theorem bs_X10_plan_s_5 {P : Zt → Option Zv → Prop} (K : Int → Zl → List Zv → Zt → Prop) : sx_ K P [.ifCond .ne 11, .iconst (-2), .ireturn] 11 = x_ifCond .ne 11 K (x_iconst (-2) (x_ireturn P)) := ((xe_ifCond .ne 11).trans (congrArg (x_ifCond .ne 11 K) ((xe_iconst (-2)).trans (congrArg (x_iconst (-2)) (xe_ireturn)))))
theorem bk_X10_plan_s_11 : ck_ fX10 (some .int) cX10_plan 11 [.iload 2] 12 = true := qck_r (nn_ _) (by decide +kernel)
theorem bs_X10_plan_s_11 {P : Zt → Option Zv → Prop} (K : Int → Zl → List Zv → Zt → Prop) : sx_ K P [.iload 2] 12 = x_iload 2 (K 12) := ((xe_iload 2).trans (congrArg (x_iload 2) xe_nil))
theorem bk_X10_plan_s_15 : ck_ fX10 (some .int) cX10_plan 15 [.ifCond .eq 29, .iload 2, .aload 0, .tableswitch 0 10 1 #[], .tableswitch 0 8 13 #[], .if_icmp .ge 32, .iconst (-3), .ireturn] 32 = true := qck_r (nn_ _) (by decide +kernel)
theorem bs_X10_plan_s_15 {P : Zt → Option Zv → Prop} (K : Int → Zl → List Zv → Zt → Prop) : sx_ K P [.ifCond .eq 29, .iload 2, .aload 0, .tableswitch 0 10 1 #[], .tableswitch 0 8 13 #[], .if_icmp .ge 32, .iconst (-3), .ireturn] 32 = x_ifCond .eq 29 K (x_iload 2 (x_aload 0 (x_g1 110 108 (x_g0 108 13 0 999 (x_if_icmp .ge 32 K (x_iconst (-3) (x_ireturn P))))))) := ((xe_ifCond .eq 29).trans (congrArg (x_ifCond .eq 29 K) ((xe_iload 2).trans (congrArg (x_iload 2) ((xe_aload 0).trans (congrArg (x_aload 0) ((xe_g1 (kk := 110) rfl tl_10_1).trans (congrArg (x_g1 110 108) ((xe_g0 (kk := 108) rfl tl_8_13).trans (congrArg (x_g0 108 13 0 999) ((xe_if_icmp .ge 32).trans (congrArg (x_if_icmp .ge 32 K) ((xe_iconst (-3)).trans (congrArg (x_iconst (-3)) (xe_ireturn)))))))))))))))
theorem bk_X10_plan_s_29 : ck_ fX10 (some .int) cX10_plan 29 [.iconst (-3), .ireturn] 32 = true := qck_r (nn_ _) (by decide +kernel)
theorem bs_X10_plan_s_29 {P : Zt → Option Zv → Prop} (K : Int → Zl → List Zv → Zt → Prop) : sx_ K P [.iconst (-3), .ireturn] 32 = x_iconst (-3) (x_ireturn P) := ((xe_iconst (-3)).trans (congrArg (x_iconst (-3)) (xe_ireturn)))
theorem bk_X10_plan_s_32 : ck_ fX10 (some .int) cX10_plan 32 [.aload 0, .tableswitch 0 10 2 #[], .tableswitch 0 6 1 #[], .iload 1, .aaload, .astore 3, .aload 3, .tableswitch 0 0 6 #[], .ifCond .ne 69, .aload 3, .tableswitch 0 0 5 #[], .iconst 2, .if_icmp .lt 69, .iload 2, .aload 3] 59 = true := qck_r (nn_ _) (by decide +kernel)
theorem bs_X10_plan_s_32 {P : Zt → Option Zv → Prop} (K : Int → Zl → List Zv → Zt → Prop) : sx_ K P [.aload 0, .tableswitch 0 10 2 #[], .tableswitch 0 6 1 #[], .iload 1, .aaload, .astore 3, .aload 3, .tableswitch 0 0 6 #[], .ifCond .ne 69, .aload 3, .tableswitch 0 0 5 #[], .iconst 2, .if_icmp .lt 69, .iload 2, .aload 3] 59 = x_aload 0 (x_g1 110 106 (x_g1 106 521 (x_iload 1 (x_aaload (x_astore 3 (x_aload 3 (x_g0 100 6 0 1 (x_ifCond .ne 69 K (x_aload 3 (x_g0 100 5 0 12 (x_iconst 2 (x_if_icmp .lt 69 K (x_iload 2 (x_aload 3 (K 59))))))))))))))) := ((xe_aload 0).trans (congrArg (x_aload 0) ((xe_g1 (kk := 110) rfl tl_10_2).trans (congrArg (x_g1 110 106) ((xe_g1 (kk := 106) rfl tl_6_1).trans (congrArg (x_g1 106 521) ((xe_iload 1).trans (congrArg (x_iload 1) ((xe_aaload).trans (congrArg (x_aaload) ((xe_astore 3).trans (congrArg (x_astore 3) ((xe_aload 3).trans (congrArg (x_aload 3) ((xe_g0 (kk := 100) rfl tl_0_6).trans (congrArg (x_g0 100 6 0 1) ((xe_ifCond .ne 69).trans (congrArg (x_ifCond .ne 69 K) ((xe_aload 3).trans (congrArg (x_aload 3) ((xe_g0 (kk := 100) rfl tl_0_5).trans (congrArg (x_g0 100 5 0 12) ((xe_iconst 2).trans (congrArg (x_iconst 2) ((xe_if_icmp .lt 69).trans (congrArg (x_if_icmp .lt 69 K) ((xe_iload 2).trans (congrArg (x_iload 2) ((xe_aload 3).trans (congrArg (x_aload 3) xe_nil))))))))))))))))))))))))))))))
theorem bk_X10_plan_s_69 : ck_ fX10 (some .int) cX10_plan 69 [.iconst (-4), .ireturn] 72 = true := qck_r (nn_ _) (by decide +kernel)
theorem bs_X10_plan_s_69 {P : Zt → Option Zv → Prop} (K : Int → Zl → List Zv → Zt → Prop) : sx_ K P [.iconst (-4), .ireturn] 72 = x_iconst (-4) (x_ireturn P) := ((xe_iconst (-4)).trans (congrArg (x_iconst (-4)) (xe_ireturn)))
theorem bk_X10_plan_s_62 : ck_ fX10 (some .int) cX10_plan 62 [.iadd, .iconst 999, .if_icmp .le 72, .iconst (-4), .ireturn] 72 = true := qck_r (nn_ _) (by decide +kernel)
theorem bs_X10_plan_s_62 {P : Zt → Option Zv → Prop} (K : Int → Zl → List Zv → Zt → Prop) : sx_ K P [.iadd, .iconst 999, .if_icmp .le 72, .iconst (-4), .ireturn] 72 = x_iadd (x_iconst 999 (x_if_icmp .le 72 K (x_iconst (-4) (x_ireturn P)))) := ((xe_iadd).trans (congrArg (x_iadd) ((xe_iconst 999).trans (congrArg (x_iconst 999) ((xe_if_icmp .le 72).trans (congrArg (x_if_icmp .le 72 K) ((xe_iconst (-4)).trans (congrArg (x_iconst (-4)) (xe_ireturn)))))))))
theorem bk_X10_plan_s_72 : ck_ fX10 (some .int) cX10_plan 72 [.aload 0, .tableswitch 0 10 2 #[], .tableswitch 0 6 4 #[], .aload 3] 80 = true := qck_r (nn_ _) (by decide +kernel)
theorem bs_X10_plan_s_72 {P : Zt → Option Zv → Prop} (K : Int → Zl → List Zv → Zt → Prop) : sx_ K P [.aload 0, .tableswitch 0 10 2 #[], .tableswitch 0 6 4 #[], .aload 3] 80 = x_aload 0 (x_g1 110 106 (x_g0 106 4 0 400 (x_aload 3 (K 80)))) := ((xe_aload 0).trans (congrArg (x_aload 0) ((xe_g1 (kk := 110) rfl tl_10_2).trans (congrArg (x_g1 110 106) ((xe_g0 (kk := 106) rfl tl_6_4).trans (congrArg (x_g0 106 4 0 400) ((xe_aload 3).trans (congrArg (x_aload 3) xe_nil))))))))
theorem bk_X10_plan_s_83 : ck_ fX10 (some .int) cX10_plan 83 [.iadd, .iconst 400, .if_icmp .le 93, .iconst (-5), .ireturn] 93 = true := qck_r (nn_ _) (by decide +kernel)
theorem bs_X10_plan_s_83 {P : Zt → Option Zv → Prop} (K : Int → Zl → List Zv → Zt → Prop) : sx_ K P [.iadd, .iconst 400, .if_icmp .le 93, .iconst (-5), .ireturn] 93 = x_iadd (x_iconst 400 (x_if_icmp .le 93 K (x_iconst (-5) (x_ireturn P)))) := ((xe_iadd).trans (congrArg (x_iadd) ((xe_iconst 400).trans (congrArg (x_iconst 400) ((xe_if_icmp .le 93).trans (congrArg (x_if_icmp .le 93 K) ((xe_iconst (-5)).trans (congrArg (x_iconst (-5)) (xe_ireturn)))))))))
theorem bk_X10_plan_s_93 : ck_ fX10 (some .int) cX10_plan 93 [.aload 0, .tableswitch 0 10 2 #[], .aload 3, .iload 2] 99 = true := qck_r (nn_ _) (by decide +kernel)
theorem bs_X10_plan_s_93 {P : Zt → Option Zv → Prop} (K : Int → Zl → List Zv → Zt → Prop) : sx_ K P [.aload 0, .tableswitch 0 10 2 #[], .aload 3, .iload 2] 99 = x_aload 0 (x_g1 110 106 (x_aload 3 (x_iload 2 (K 99)))) := ((xe_aload 0).trans (congrArg (x_aload 0) ((xe_g1 (kk := 110) rfl tl_10_2).trans (congrArg (x_g1 110 106) ((xe_aload 3).trans (congrArg (x_aload 3) ((xe_iload 2).trans (congrArg (x_iload 2) xe_nil))))))))
theorem bk_X10_plan_s_102 : ck_ fX10 (some .int) cX10_plan 102 [.aload 3, .tableswitch 0 0 7 #[], .ireturn] 107 = true := qck_r (nn_ _) (by decide +kernel)
theorem bs_X10_plan_s_102 {P : Zt → Option Zv → Prop} (K : Int → Zl → List Zv → Zt → Prop) : sx_ K P [.aload 3, .tableswitch 0 0 7 #[], .ireturn] 107 = x_aload 3 (x_g0 100 7 0 400 (x_ireturn P)) := ((xe_aload 3).trans (congrArg (x_aload 3) ((xe_g0 (kk := 100) rfl tl_0_7).trans (congrArg (x_g0 100 7 0 400) (xe_ireturn)))))
abbrev po_X10_plan_s (T : Zt) (c b : Int) : Zt → Option Zv → Prop := fun T' r => ∃ x : Int, r = some (vI x) ∧ (T' = T ∨ SJ_ T T' c) ∧ PH9_ T T' c b x ∧ SQ8_ T T'
set_option maxHeartbeats 4000000 in
theorem ct_X10_plan_s {T : Zt} {c b : Int} (hka : KA_ T) (hke : KE_ T) (hkb : KB_ T) (hna : NA_ T) : Ct_ yX10_plan zX10_plan T [vR 110 0, vI c, vI b] (po_X10_plan_s T c b) := by
  refine ct_of pn_10 rfl rfl (Nat.le_of_ble_eq_true rfl) (fun hT hav => ?_)
  have hr_c : -2147483648 ≤ c ∧ c ≤ 2147483647 := hav (vI c) (List.mem_cons_of_mem _ List.mem_cons_self)
  have hr_b : -2147483648 ≤ b ∧ b ≤ 2147483647 := hav (vI b) (List.mem_cons_of_mem _ (List.mem_cons_of_mem _ List.mem_cons_self))
  have hz : zX10_plan.2.2.2.1 = some .boolean → ∀ (T' : Zt) (x : Int), po_X10_plan_s T c b T' (some (vI x)) → 0 ≤ x ∧ x ≤ 1 := fun h => by cases h
  have hb_matchCount : 0 ≤ T 106 0 4 ∧ T 106 0 4 ≤ 400 := bd_f hT 106 4 tl_6_4 0
  have hb_competitionCount : 0 ≤ T 106 0 2 ∧ T 106 0 2 ≤ 4 := bd_f hT 106 2 tl_6_2 0
  have hb5 : 0 ≤ T 100 c 5 ∧ T 100 c 5 ≤ 12 := bd_f hT 100 5 tl_0_5 c
  show J_ zX10_plan T (po_X10_plan_s T c b) 792 8976 0 [some (vR 110 0), some (vI c), some (vI b), none] [] T
  refine j_blx (F := fX10) tb_X10 (nn_ _) bk_X10_plan_s_0 bs_X10_plan_s_0 hz (fun K hK => ?_)
  refine hK 2 _ [vI c, vR 110 0] T ?_
  refine j_callV (y := yX10_isCompetition) (Yc := zX10_isCompetition) (rest := []) [vI c] (ct_X10_isCompetition (T := T)) cl_X10_107 (qd_c (by decide +kernel)) (nn_ _) rfl (rf_of rfl) (Nat.le_of_ble_eq_true rfl) (Nat.le_of_ble_eq_true rfl) (Nat.le_of_ble_eq_true rfl) rfl ?_
  rintro _ _ ⟨rfl, x1, rfl, hx1⟩
  show J_ zX10_plan T (po_X10_plan_s T c b) 792 8976 5 _ [vI x1] T
  refine j_blx (F := fX10) tb_X10 (nn_ _) bk_X10_plan_s_5 bs_X10_plan_s_5 hz (fun K hK => ?_)
  refine And.intro (fun c2 => ?_) (fun c2 => ?_)
  · replace hx1 := hx1.resolve_right (fun z => c2 z.1)
    clear c2
    refine hK 11 _ [] T ?_
    refine j_blx (F := fX10) tb_X10 (nn_ _) bk_X10_plan_s_11 bs_X10_plan_s_11 hz (fun K hK => ?_)
    refine hK 12 _ [vI b] T ?_
    refine j_callS (y := yX10_isDay) (Yc := zX10_isDay) (rest := []) [vI b] (ct_X10_isDay (T := T)) cl_X10_140 (qd_c (by decide +kernel)) (nn_ _) rfl (rf_of rfl) (Nat.le_of_ble_eq_true rfl) (Nat.le_of_ble_eq_true rfl) (Nat.le_of_ble_eq_true rfl) rfl ?_
    rintro _ _ ⟨rfl, x3, rfl, hx3⟩
    show J_ zX10_plan T (po_X10_plan_s T c b) 792 8976 15 _ [vI x3] T
    refine j_blx (F := fX10) tb_X10 (nn_ _) bk_X10_plan_s_15 bs_X10_plan_s_15 hz (fun K hK => ?_)
    refine And.intro (fun c4 => ?_) (fun c4 => ?_)
    · replace hx3 := hx3.resolve_left (fun z => absurd (c4.symm.trans z.1) (by decide))
      clear c4
      refine hK 29 _ [] T ?_
      refine j_blx (F := fX10) tb_X10 (nn_ _) bk_X10_plan_s_29 bs_X10_plan_s_29 hz (fun K hK => ?_)
      refine (show po_X10_plan_s T c b T (some (vI (-3))) from ?_)
      exact ⟨_, rfl, Or.inl rfl, Or.inl ⟨rfl, Or.inr (Or.inl ⟨by omega, rfl, by omega⟩)⟩, sq8_r⟩
    · replace hx3 := hx3.resolve_right (fun z => c4 z.1)
      clear c4
      intro b5 b5b
      refine And.intro (fun c6 => ?_) (fun c6 => ?_)
      · refine hK 32 _ [] T ?_
        refine j_blx (F := fX10) tb_X10 (nn_ _) bk_X10_plan_s_32 bs_X10_plan_s_32 hz (fun K hK => ?_)
        refine ix_i (by omega) ?_
        refine And.intro (fun c7 => ?_) (fun c7 => ?_)
        · exact absurd (show T 521 0 c = 0 by omega) (hka.1 _ (by omega) (by omega))
        · have hB := hkb c (by omega) (by omega)
          intro b8 b8b
          refine And.intro (fun c9 => ?_) (fun c9 => ?_)
          · refine hK 69 [some (vR 110 0), some (vI c), some (vI b), some (vR 100 c)] [] T ?_
            refine j_blx (F := fX10) tb_X10 (nn_ _) bk_X10_plan_s_69 bs_X10_plan_s_69 hz (fun K hK => ?_)
            refine (show po_X10_plan_s T c b T (some (vI (-4))) from ?_)
            exact ⟨_, rfl, Or.inl rfl, Or.inl ⟨rfl, Or.inr (Or.inr (Or.inl ⟨by omega, by omega, rfl, by omega⟩))⟩, sq8_r⟩
          · intro b10 b10b
            refine And.intro (fun c11 => ?_) (fun c11 => ?_)
            · refine hK 69 _ [] T ?_
              refine j_blx (F := fX10) tb_X10 (nn_ _) bk_X10_plan_s_69 bs_X10_plan_s_69 hz (fun K hK => ?_)
              refine (show po_X10_plan_s T c b T (some (vI (-4))) from ?_)
              exact ⟨_, rfl, Or.inl rfl, Or.inl ⟨rfl, Or.inr (Or.inr (Or.inl ⟨by omega, by omega, rfl, by omega⟩))⟩, sq8_r⟩
            · refine hK 59 _ [vR 100 c, vI b] T ?_
              refine j_callV (y := yX0_daysFromFirstToLast) (Yc := zX0_daysFromFirstToLast) (rest := [vI b]) [] (ct_X0_daysFromFirstToLast (T := T) (by exact hB.1) (by exact hB.2) (by omega)) cl_X10_178 (qd_c (by decide +kernel)) (nn_ _) rfl (rf_of rfl) (Nat.le_of_ble_eq_true rfl) (Nat.le_of_ble_eq_true rfl) (Nat.le_of_ble_eq_true rfl) rfl ?_
              rintro _ _ ⟨rfl, x12, rfl, hx12⟩
              show J_ zX10_plan T (po_X10_plan_s T c b) 792 8976 62 _ [vI x12, vI b] T
              refine j_blx (F := fX10) tb_X10 (nn_ _) bk_X10_plan_s_62 bs_X10_plan_s_62 hz (fun K hK => ?_)
              have hp1 := an_1b (T 100 c 5)
              have y9 := dy_b (R := T 100 c 5 + an_ (T 100 c 5) 1 - 1) (x := x12) hB ⟨by omega, by omega, hx12⟩
              refine rg_i (by omega) ?_
              refine And.intro (fun c13 => ?_) (fun c13 => ?_)
              · refine hK 72 _ [] T ?_
                refine j_blx (F := fX10) tb_X10 (nn_ _) bk_X10_plan_s_72 bs_X10_plan_s_72 hz (fun K hK => ?_)
                intro b14 b14b
                refine hK 80 _ [vR 100 c, vI (T 106 0 4)] T ?_
                refine j_callV (y := yX0_fixtureCount) (Yc := zX0_fixtureCount) (rest := [vI (T 106 0 4)]) [] (ct_X0_fixtureCount_e (T := T) (by exact hB.1) (by omega)) cl_X10_185 (qd_c (by decide +kernel)) (nn_ _) rfl (rf_of rfl) (Nat.le_of_ble_eq_true rfl) (Nat.le_of_ble_eq_true rfl) (Nat.le_of_ble_eq_true rfl) rfl ?_
                rintro _ _ ⟨rfl, x15, rfl, hx15⟩
                show J_ zX10_plan T (po_X10_plan_s T c b) 792 8976 83 _ [vI x15, vI (T 106 0 4)] T
                refine j_blx (F := fX10) tb_X10 (nn_ _) bk_X10_plan_s_83 bs_X10_plan_s_83 hz (fun K hK => ?_)
                refine rg_i (by omega) ?_
                refine And.intro (fun c16 => ?_) (fun c16 => ?_)
                · refine hK 93 _ [] T ?_
                  refine j_blx (F := fX10) tb_X10 (nn_ _) bk_X10_plan_s_93 bs_X10_plan_s_93 hz (fun K hK => ?_)
                  refine hK 99 _ [vI b, vR 100 c, vR 106 0] T ?_
                  refine j_callV (y := yX6_schedule) (Yc := zX6_schedule) (rest := []) [vR 100 c, vI b] (ct_X6_schedule_s (T := T) (by omega) hB.1 hB.2 (by omega) (by omega) (hke c (by omega) (by omega)) hka hna (by omega)) cl_X10_188 (qd_c (by decide +kernel)) (nn_ _) rfl (rf_of rfl) (Nat.le_of_ble_eq_true rfl) (Nat.le_of_ble_eq_true rfl) (Nat.le_of_ble_eq_true rfl) rfl ?_
                  rintro U17 _ ⟨rfl, fU17, odU17, qU17, tU17, ocU17, skU17, apU17⟩
                  show J_ zX10_plan T (po_X10_plan_s T c b) 0 0 102 _ [] U17
                  refine j_blx (F := fX10) tb_X10 (nn_ _) bk_X10_plan_s_102 bs_X10_plan_s_102 hz (fun K hK => ?_)
                  intro b19 b19b
                  refine (show po_X10_plan_s T c b U17 (some (vI (U17 100 c 7))) from ?_)
                  have sj : SJ_ T U17 c := ⟨⟨by omega, by omega, by omega⟩, fU17, odU17, qU17, tU17, ocU17⟩
                  exact ⟨_, rfl, Or.inr sj, Or.inr ⟨by omega, by omega, by omega, by omega, by omega, by omega, by omega, sj, apU17⟩, skU17⟩
                · refine (show po_X10_plan_s T c b T (some (vI (-5))) from ?_)
                  exact ⟨_, rfl, Or.inl rfl, Or.inl ⟨rfl, Or.inr (Or.inr (Or.inr ⟨by omega, by omega, by omega, by omega, by omega, rfl, by omega⟩))⟩, sq8_r⟩
              · refine (show po_X10_plan_s T c b T (some (vI (-4))) from ?_)
                exact ⟨_, rfl, Or.inl rfl, Or.inl ⟨rfl, Or.inr (Or.inr (Or.inl ⟨by omega, by omega, rfl, by omega⟩))⟩, sq8_r⟩
      · refine (show po_X10_plan_s T c b T (some (vI (-3))) from ?_)
        exact ⟨_, rfl, Or.inl rfl, Or.inl ⟨rfl, Or.inr (Or.inl ⟨by omega, rfl, by omega⟩)⟩, sq8_r⟩
  · replace hx1 := hx1.resolve_left (fun z => absurd (c2.symm.trans z.1) (by decide))
    clear c2
    refine (show po_X10_plan_s T c b T (some (vI (-2))) from ?_)
    exact ⟨_, rfl, Or.inl rfl, Or.inl ⟨rfl, Or.inl ⟨rfl, by omega⟩⟩, sq8_r⟩
theorem bk_X10_competition_s_0 : ck_ fX10 (some .int) cX10_competition 0 [.aload 0, .tableswitch 0 10 2 #[], .tableswitch 0 6 2 #[], .iconst 4, .if_icmp .lt 22, .aload 0, .tableswitch 0 10 0 #[], .iconst (-1), .tableswitch 1 5 3 #[], .iconst (-5), .ireturn] 22 = true := qck_r (nn_ _) (by decide +kernel)
theorem bs_X10_competition_s_0 {P : Zt → Option Zv → Prop} (K : Int → Zl → List Zv → Zt → Prop) : sx_ K P [.aload 0, .tableswitch 0 10 2 #[], .tableswitch 0 6 2 #[], .iconst 4, .if_icmp .lt 22, .aload 0, .tableswitch 0 10 0 #[], .iconst (-1), .tableswitch 1 5 3 #[], .iconst (-5), .ireturn] 22 = x_aload 0 (x_g1 110 106 (x_g0 106 2 0 4 (x_iconst 4 (x_if_icmp .lt 22 K (x_aload 0 (x_g1 110 105 (x_iconst (-1) (x_p 105 3 (-1) 400 (x_iconst (-5) (x_ireturn P)))))))))) := ((xe_aload 0).trans (congrArg (x_aload 0) ((xe_g1 (kk := 110) rfl tl_10_2).trans (congrArg (x_g1 110 106) ((xe_g0 (kk := 106) rfl tl_6_2).trans (congrArg (x_g0 106 2 0 4) ((xe_iconst 4).trans (congrArg (x_iconst 4) ((xe_if_icmp .lt 22).trans (congrArg (x_if_icmp .lt 22 K) ((xe_aload 0).trans (congrArg (x_aload 0) ((xe_g1 (kk := 110) rfl tl_10_0).trans (congrArg (x_g1 110 105) ((xe_iconst (-1)).trans (congrArg (x_iconst (-1)) ((xe_p (kk := 105) rfl tl_5_3).trans (congrArg (x_p 105 3 (-1) 400) ((xe_iconst (-5)).trans (congrArg (x_iconst (-5)) (xe_ireturn)))))))))))))))))))))
theorem bk_X10_competition_s_22 : ck_ fX10 (some .int) cX10_competition 22 [.aload 0, .tableswitch 0 10 0 #[]] 26 = true := qck_r (nn_ _) (by decide +kernel)
theorem bs_X10_competition_s_22 {P : Zt → Option Zv → Prop} (K : Int → Zl → List Zv → Zt → Prop) : sx_ K P [.aload 0, .tableswitch 0 10 0 #[]] 26 = x_aload 0 (x_g1 110 105 (K 26)) := ((xe_aload 0).trans (congrArg (x_aload 0) ((xe_g1 (kk := 110) rfl tl_10_0).trans (congrArg (x_g1 110 105) xe_nil))))
theorem bk_X10_competition_s_29 : ck_ fX10 (some .int) cX10_competition 29 [.istore 1, .aload 0, .tableswitch 0 10 0 #[], .iconst 0, .tableswitch 1 5 1 #[], .iload 1, .ifCond .ne 53, .iconst (-10), .aload 0, .tableswitch 0 10 0 #[], .tableswitch 0 5 2 #[], .isub, .ireturn] 53 = true := qck_r (nn_ _) (by decide +kernel)
theorem bs_X10_competition_s_29 {P : Zt → Option Zv → Prop} (K : Int → Zl → List Zv → Zt → Prop) : sx_ K P [.istore 1, .aload 0, .tableswitch 0 10 0 #[], .iconst 0, .tableswitch 1 5 1 #[], .iload 1, .ifCond .ne 53, .iconst (-10), .aload 0, .tableswitch 0 10 0 #[], .tableswitch 0 5 2 #[], .isub, .ireturn] 53 = x_istore 1 (x_aload 0 (x_g1 110 105 (x_iconst 0 (x_p 105 1 0 400 (x_iload 1 (x_ifCond .ne 53 K (x_iconst (-10) (x_aload 0 (x_g1 110 105 (x_g0 105 2 0 5 (x_isub (x_ireturn P)))))))))))) := ((xe_istore 1).trans (congrArg (x_istore 1) ((xe_aload 0).trans (congrArg (x_aload 0) ((xe_g1 (kk := 110) rfl tl_10_0).trans (congrArg (x_g1 110 105) ((xe_iconst 0).trans (congrArg (x_iconst 0) ((xe_p (kk := 105) rfl tl_5_1).trans (congrArg (x_p 105 1 0 400) ((xe_iload 1).trans (congrArg (x_iload 1) ((xe_ifCond .ne 53).trans (congrArg (x_ifCond .ne 53 K) ((xe_iconst (-10)).trans (congrArg (x_iconst (-10)) ((xe_aload 0).trans (congrArg (x_aload 0) ((xe_g1 (kk := 110) rfl tl_10_0).trans (congrArg (x_g1 110 105) ((xe_g0 (kk := 105) rfl tl_5_2).trans (congrArg (x_g0 105 2 0 5) ((xe_isub).trans (congrArg (x_isub) (xe_ireturn)))))))))))))))))))))))))
theorem bk_X10_competition_s_53 : ck_ fX10 (some .int) cX10_competition 53 [.aload 0, .tableswitch 0 10 2 #[], .tableswitch 0 6 2 #[], .istore 2, .aload 0, .tableswitch 0 10 2 #[], .tableswitch 0 6 1 #[], .iload 2] 69 = true := qck_r (nn_ _) (by decide +kernel)
theorem bs_X10_competition_s_53 {P : Zt → Option Zv → Prop} (K : Int → Zl → List Zv → Zt → Prop) : sx_ K P [.aload 0, .tableswitch 0 10 2 #[], .tableswitch 0 6 2 #[], .istore 2, .aload 0, .tableswitch 0 10 2 #[], .tableswitch 0 6 1 #[], .iload 2] 69 = x_aload 0 (x_g1 110 106 (x_g0 106 2 0 4 (x_istore 2 (x_aload 0 (x_g1 110 106 (x_g1 106 521 (x_iload 2 (K 69)))))))) := ((xe_aload 0).trans (congrArg (x_aload 0) ((xe_g1 (kk := 110) rfl tl_10_2).trans (congrArg (x_g1 110 106) ((xe_g0 (kk := 106) rfl tl_6_2).trans (congrArg (x_g0 106 2 0 4) ((xe_istore 2).trans (congrArg (x_istore 2) ((xe_aload 0).trans (congrArg (x_aload 0) ((xe_g1 (kk := 110) rfl tl_10_2).trans (congrArg (x_g1 110 106) ((xe_g1 (kk := 106) rfl tl_6_1).trans (congrArg (x_g1 106 521) ((xe_iload 2).trans (congrArg (x_iload 2) xe_nil))))))))))))))))
theorem bk_X10_competition_s_72 : ck_ fX10 (some .int) cX10_competition 72 [.dup, .iload 2, .aload 0, .tableswitch 0 10 0 #[], .tableswitch 0 5 4 #[]] 81 = true := qck_r (nn_ _) (by decide +kernel)
theorem bs_X10_competition_s_72 {P : Zt → Option Zv → Prop} (K : Int → Zl → List Zv → Zt → Prop) : sx_ K P [.dup, .iload 2, .aload 0, .tableswitch 0 10 0 #[], .tableswitch 0 5 4 #[]] 81 = x_dup (x_iload 2 (x_aload 0 (x_g1 110 105 (x_g1 105 504 (K 81))))) := ((xe_dup).trans (congrArg (x_dup) ((xe_iload 2).trans (congrArg (x_iload 2) ((xe_aload 0).trans (congrArg (x_aload 0) ((xe_g1 (kk := 110) rfl tl_10_0).trans (congrArg (x_g1 110 105) ((xe_g1 (kk := 105) rfl tl_5_4).trans (congrArg (x_g1 105 504) xe_nil))))))))))
theorem bk_X10_competition_s_87 : ck_ fX10 (some .int) cX10_competition 87 [.aload 0, .tableswitch 0 10 0 #[], .tableswitch 0 5 5 #[]] 94 = true := qck_r (nn_ _) (by decide +kernel)
theorem bs_X10_competition_s_87 {P : Zt → Option Zv → Prop} (K : Int → Zl → List Zv → Zt → Prop) : sx_ K P [.aload 0, .tableswitch 0 10 0 #[], .tableswitch 0 5 5 #[]] 94 = x_aload 0 (x_g1 110 105 (x_g1 105 505 (K 94))) := ((xe_aload 0).trans (congrArg (x_aload 0) ((xe_g1 (kk := 110) rfl tl_10_0).trans (congrArg (x_g1 110 105) ((xe_g1 (kk := 105) rfl tl_5_5).trans (congrArg (x_g1 105 505) xe_nil))))))
theorem bk_X10_competition_s_104 : ck_ fX10 (some .int) cX10_competition 104 [.aload 0, .tableswitch 0 10 2 #[], .dup, .tableswitch 0 6 2 #[], .iconst 1, .iadd, .tableswitch 1 6 2 #[], .iload 2, .ireturn] 119 = true := qck_r (nn_ _) (by decide +kernel)
theorem bs_X10_competition_s_104 {P : Zt → Option Zv → Prop} (K : Int → Zl → List Zv → Zt → Prop) : sx_ K P [.aload 0, .tableswitch 0 10 2 #[], .dup, .tableswitch 0 6 2 #[], .iconst 1, .iadd, .tableswitch 1 6 2 #[], .iload 2, .ireturn] 119 = x_aload 0 (x_g1 110 106 (x_dup (x_g0 106 2 0 4 (x_iconst 1 (x_iadd (x_p 106 2 0 4 (x_iload 2 (x_ireturn P)))))))) := ((xe_aload 0).trans (congrArg (x_aload 0) ((xe_g1 (kk := 110) rfl tl_10_2).trans (congrArg (x_g1 110 106) ((xe_dup).trans (congrArg (x_dup) ((xe_g0 (kk := 106) rfl tl_6_2).trans (congrArg (x_g0 106 2 0 4) ((xe_iconst 1).trans (congrArg (x_iconst 1) ((xe_iadd).trans (congrArg (x_iadd) ((xe_p (kk := 106) rfl tl_6_2).trans (congrArg (x_p 106 2 0 4) ((xe_iload 2).trans (congrArg (x_iload 2) (xe_ireturn)))))))))))))))))
abbrev po_X10_competition_s (T : Zt) : Zt → Option Zv → Prop := fun T' r => ∃ x : Int, r = some (vI x) ∧ (fr_ [(105, [7, 8, 9, 2, 3, 6, 1]), (504, []), (505, [])] T T' ∨ nc_ T T') ∧ CH9_ T T' x ∧ CNN_ T T'
set_option maxHeartbeats 4000000 in
theorem ct_X10_competition_s {T : Zt} (hna : NA_ T) : Ct_ yX10_competition zX10_competition T [vR 110 0] (po_X10_competition_s T) := by
  refine ct_of pn_10 rfl rfl (Nat.le_of_ble_eq_true rfl) (fun hT hav => ?_)
  have hz : zX10_competition.2.2.2.1 = some .boolean → ∀ (T' : Zt) (x : Int), po_X10_competition_s T T' (some (vI x)) → 0 ≤ x ∧ x ≤ 1 := fun h => by cases h
  have hb_competitionCount : 0 ≤ T 106 0 2 ∧ T 106 0 2 ≤ 4 := bd_f hT 106 2 tl_6_2 0
  show J_ zX10_competition T (po_X10_competition_s T) 5 57 0 [some (vR 110 0), none, none] [] T
  refine j_blx (F := fX10) tb_X10 (nn_ _) bk_X10_competition_s_0 bs_X10_competition_s_0 hz (fun K hK => ?_)
  intro b1 b1b
  refine And.intro (fun c2 => ?_) (fun c2 => ?_)
  · refine hK 22 _ [] T ?_
    refine j_blx (F := fX10) tb_X10 (nn_ _) bk_X10_competition_s_22 bs_X10_competition_s_22 hz (fun K hK => ?_)
    refine hK 26 _ [vR 105 0] T ?_
    refine j_callV (y := yX5_read) (Yc := zX5_read) (rest := []) [] (ct_X5_read_e (T := T)) cl_X10_80 (qd_c (by decide +kernel)) (nn_ _) rfl (rf_of rfl) (Nat.le_of_ble_eq_true rfl) (Nat.le_of_ble_eq_true rfl) (Nat.le_of_ble_eq_true rfl) rfl ?_
    rintro U3 _ ⟨x4, rfl, fU3, qU3⟩
    show J_ zX10_competition T (po_X10_competition_s T) 5 57 29 _ [vI x4] U3
    refine j_blx (F := fX10) tb_X10 (nn_ _) bk_X10_competition_s_29 bs_X10_competition_s_29 hz (fun K hK => ?_)
    refine bd_i (by omega) ?_
    refine x_nm (fun U5 hU5 => ?_)
    have e6 := up_f hU5
    refine And.intro (fun c7 => ?_) (fun c7 => ?_)
    · refine hK 53 [some (vR 110 0), some (vI x4), none] [] U5 ?_
      refine j_blx (F := fX10) tb_X10 (nn_ _) bk_X10_competition_s_53 bs_X10_competition_s_53 hz (fun K hK => ?_)
      intro b8 b8b
      have e9 : U5 106 0 2 = T 106 0 2 := (up_k hU5 (by exact Nat.ne_of_beq_eq_false rfl) 0 2).trans (fU3 106 0 2 rfl)
      rw [e9] at b8 b8b ⊢
      refine hK 69 [some (vR 110 0), some (vI x4), some (vI (T 106 0 2))] [vI (T 106 0 2), vR 521 0] U5 ?_
      have e11 : U5 150 (T 106 0 2) (-1) = T 150 (T 106 0 2) (-1) := (up_k hU5 (by exact Nat.ne_of_beq_eq_false rfl) (T 106 0 2) (-1)).trans (fU3 150 (T 106 0 2) (-1) rfl)
      have hv1 : ∀ k : Nat, ow_ k = some 100 → ¬ T k (T 106 0 2) (-1) = 1 := fun k hk h => (hT.2.2.2.2.2.2.2.1 k _ 100 hk h).elim (hna.2.1 _ (by omega)) (hna.1.1 _)
      refine j_newO (bc' := 4) (bs' := 48) (pc := 69) (ci := 0) (i := T 106 0 2) (by decide) (by decide) vi_0 tyX0_ok (nf_0 _) (lwq_3 (dqc_m (dqc_m (List.mem_of_getElem? (i := 1) rfl))) rfl : Cond.classLink RX10 91 RX0 ∈ lw_g) (lwq_3 (dqc_m (dqc_m (List.mem_of_getElem? (i := 2) rfl))) rfl : Cond.instantiable RX0 9 ∈ lw_g) (lwq_1 (dqa_m (List.mem_of_getElem? (i := 7) rfl)) rfl : Cond.initialized RX0 ∈ lw_g) (by show ¬ U5 150 (T 106 0 2) (-1) = 1; rw [e11]; exact hna.1.1 _) (by omega) (by omega) (by decide +kernel) ?_
      refine j_nm (fun U10 hU10 => ?_)
      have fU10 := nu_fr hU10
      have zU10 := nu_tz hU10
      have oU10 := nu_to hU10
      have vU10 := nu_tv hU10
      show J_ zX10_competition T (po_X10_competition_s T) 4 48 72 _ [vR 150 (T 106 0 2), vI (T 106 0 2), vR 521 0] U10
      refine j_blx (F := fX10) tb_X10 (nn_ _) bk_X10_competition_s_72 bs_X10_competition_s_72 hz (fun K hK => ?_)
      refine hK 81 _ [vR 504 0, vI (T 106 0 2), vR 150 (T 106 0 2), vR 150 (T 106 0 2), vI (T 106 0 2), vR 521 0] U10 ?_
      have e12 : U10 401 (T 106 0 2) (-1) = T 401 (T 106 0 2) (-1) := (fU10 401 (T 106 0 2) (-1) rfl).trans ((up_k hU5 (by exact Nat.ne_of_beq_eq_false rfl) (T 106 0 2) (-1)).trans (fU3 401 (T 106 0 2) (-1) rfl))
      refine j_clone2 (bc' := 3) (bs' := 32) (pc := 81) (k := 401) (i := T 106 0 2) (by decide) (by decide +kernel : ta_ 504 = some (1, some 16, 0, 999)) (by decide +kernel : ta_ 401 = some (1, some 16, 0, 999)) (by decide) (by decide) (by show ¬ U10 401 (T 106 0 2) (-1) = 1; rw [e12]; exact hv1 401 (by decide)) (fun o ho => by rw [show ow_ 401 = some 100 by decide] at ho; cases ho; exact Or.inr (show U10 150 (T 106 0 2) (-1) = 1 from vU10)) (lwq_3 (dqc_m (dqc_m (List.mem_of_getElem? (i := 3) rfl))) rfl : Cond.methodLink RX10 96 ⟨"[I", "clone", "()Ljava/lang/Object;"⟩ ∈ lw_g) (lwq_3 (dqc_m (dqc_m (List.mem_of_getElem? (i := 4) rfl))) rfl : Cond.sameMethod "[I" "java/lang/Object" "clone" "()Ljava/lang/Object;" ∈ lw_g) (lwq_3 (dqc_m (dqc_m (List.mem_of_getElem? (i := 5) rfl))) rfl : Cond.native ⟨"java/lang/Object", "clone", "()Ljava/lang/Object;"⟩ ∈ lw_g) (lwq_3 (dqc_m (dqc_m (List.mem_of_getElem? (i := 6) rfl))) rfl : Cond.instanceMethod ⟨"java/lang/Object", "clone", "()Ljava/lang/Object;"⟩ ∈ lw_g) (lwq_3 (dqc_m (dqc_m (List.mem_of_getElem? (i := 7) rfl))) rfl : Cond.selects "[I" ⟨"[I", "clone", "()Ljava/lang/Object;"⟩ ⟨"java/lang/Object", "clone", "()Ljava/lang/Object;"⟩ ∈ lw_g) (by decide) (by decide) (Nat.le_of_ble_eq_true rfl) (by decide) (by decide) (by decide +kernel) ?_
      refine j_nm (fun U13 hU13 => ?_)
      have fU13 := nu_fr hU13
      have zU13 := nu_tc hU13
      have oU13 := nu_to hU13
      have vU13 := nu_tv hU13
      show J_ zX10_competition T (po_X10_competition_s T) 3 32 84 _ [vR 401 (T 106 0 2), vI (T 106 0 2), vR 150 (T 106 0 2), vR 150 (T 106 0 2), vI (T 106 0 2), vR 521 0] U13
      refine j_castA (pc := 84) (by decide) (by decide +kernel : ta_ 401 = some (1, some 16, 0, 999)) (lwq_3 (dqc_m (dqc_m (dqa_m (List.mem_of_getElem? (i := 1) rfl)))) rfl : Cond.classLink RX10 97 "[I" ∈ lw_g) (by decide +kernel) ?_
      show J_ zX10_competition T (po_X10_competition_s T) 3 32 87 _ [vR 401 (T 106 0 2), vI (T 106 0 2), vR 150 (T 106 0 2), vR 150 (T 106 0 2), vI (T 106 0 2), vR 521 0] U13
      refine j_blx (F := fX10) tb_X10 (nn_ _) bk_X10_competition_s_87 bs_X10_competition_s_87 hz (fun K hK => ?_)
      refine hK 94 _ [vR 505 0, vR 401 (T 106 0 2), vI (T 106 0 2), vR 150 (T 106 0 2), vR 150 (T 106 0 2), vI (T 106 0 2), vR 521 0] U13 ?_
      have e14 : U13 402 (T 106 0 2) (-1) = T 402 (T 106 0 2) (-1) := (fU13 402 (T 106 0 2) (-1) rfl).trans ((fU10 402 (T 106 0 2) (-1) rfl).trans ((up_k hU5 (by exact Nat.ne_of_beq_eq_false rfl) (T 106 0 2) (-1)).trans (fU3 402 (T 106 0 2) (-1) rfl)))
      refine j_clone2 (bc' := 2) (bs' := 25) (pc := 94) (k := 402) (i := T 106 0 2) (by decide) (by decide +kernel : ta_ 505 = some (1, some 7, (-1), 6)) (by decide +kernel : ta_ 402 = some (1, some 7, (-1), 6)) (by decide) (by decide) (by show ¬ U13 402 (T 106 0 2) (-1) = 1; rw [e14]; exact hv1 402 (by decide)) (fun o ho => by rw [show ow_ 402 = some 100 by decide] at ho; cases ho; exact Or.inr (show U13 150 (T 106 0 2) (-1) = 1 from (fU13 150 _ _ rfl).trans vU10)) (lwq_3 (dqc_m (dqc_m (List.mem_of_getElem? (i := 3) rfl))) rfl : Cond.methodLink RX10 96 ⟨"[I", "clone", "()Ljava/lang/Object;"⟩ ∈ lw_g) (lwq_3 (dqc_m (dqc_m (List.mem_of_getElem? (i := 4) rfl))) rfl : Cond.sameMethod "[I" "java/lang/Object" "clone" "()Ljava/lang/Object;" ∈ lw_g) (lwq_3 (dqc_m (dqc_m (List.mem_of_getElem? (i := 5) rfl))) rfl : Cond.native ⟨"java/lang/Object", "clone", "()Ljava/lang/Object;"⟩ ∈ lw_g) (lwq_3 (dqc_m (dqc_m (List.mem_of_getElem? (i := 6) rfl))) rfl : Cond.instanceMethod ⟨"java/lang/Object", "clone", "()Ljava/lang/Object;"⟩ ∈ lw_g) (lwq_3 (dqc_m (dqc_m (List.mem_of_getElem? (i := 7) rfl))) rfl : Cond.selects "[I" ⟨"[I", "clone", "()Ljava/lang/Object;"⟩ ⟨"java/lang/Object", "clone", "()Ljava/lang/Object;"⟩ ∈ lw_g) (by decide) (by decide) (Nat.le_of_ble_eq_true rfl) (by decide) (by decide) (by decide +kernel) ?_
      refine j_nm (fun U15 hU15 => ?_)
      have fU15 := nu_fr hU15
      have zU15 := nu_tc hU15
      have oU15 := nu_to hU15
      have vU15 := nu_tv hU15
      show J_ zX10_competition T (po_X10_competition_s T) 2 25 97 _ [vR 402 (T 106 0 2), vR 401 (T 106 0 2), vI (T 106 0 2), vR 150 (T 106 0 2), vR 150 (T 106 0 2), vI (T 106 0 2), vR 521 0] U15
      refine j_castA (pc := 97) (by decide) (by decide +kernel : ta_ 402 = some (1, some 7, (-1), 6)) (lwq_3 (dqc_m (dqc_m (dqa_m (List.mem_of_getElem? (i := 1) rfl)))) rfl : Cond.classLink RX10 97 "[I" ∈ lw_g) (by decide +kernel) ?_
      show J_ zX10_competition T (po_X10_competition_s T) 2 25 100 _ [vR 402 (T 106 0 2), vR 401 (T 106 0 2), vI (T 106 0 2), vR 150 (T 106 0 2), vR 150 (T 106 0 2), vI (T 106 0 2), vR 521 0] U15
      have e16 : U15 403 (T 106 0 2) (-1) = T 403 (T 106 0 2) (-1) := (fU15 403 (T 106 0 2) (-1) rfl).trans ((fU13 403 (T 106 0 2) (-1) rfl).trans ((fU10 403 (T 106 0 2) (-1) rfl).trans ((up_k hU5 (by exact Nat.ne_of_beq_eq_false rfl) (T 106 0 2) (-1)).trans (fU3 403 (T 106 0 2) (-1) rfl))))
      have e17 : U15 404 (T 106 0 2) (-1) = T 404 (T 106 0 2) (-1) := (fU15 404 (T 106 0 2) (-1) rfl).trans ((fU13 404 (T 106 0 2) (-1) rfl).trans ((fU10 404 (T 106 0 2) (-1) rfl).trans ((up_k hU5 (by exact Nat.ne_of_beq_eq_false rfl) (T 106 0 2) (-1)).trans (fU3 404 (T 106 0 2) (-1) rfl))))
      refine j_callI (y := yX0_init) (Yc := zX0_init) (rest := [vR 150 (T 106 0 2), vI (T 106 0 2), vR 521 0]) [vI (T 106 0 2), vR 401 (T 106 0 2), vR 402 (T 106 0 2)] (ct_X0_init (T := U15) (by omega) (by rw [e16]; exact hv1 403 (by decide)) (by rw [e17]; exact hv1 404 (by decide))) ci_X10_104 (qd_c (by decide +kernel)) (nn_ _) rfl (rf_of rfl) (Nat.le_of_ble_eq_true rfl) (Nat.le_of_ble_eq_true rfl) (Nat.le_of_ble_eq_true rfl) rfl ?_
      rintro U18 _ ⟨rfl, fU18, qU18o, ⟨t0U18, t1U18, t2U18, t3U18, t4U18⟩, ⟨t5U18, t6U18, t7U18, t8U18⟩, zU18⟩
      show J_ zX10_competition T (po_X10_competition_s T) 0 0 103 _ [vR 150 (T 106 0 2), vI (T 106 0 2), vR 521 0] U18
      refine j_ok (fun gt0 _ => ?_)
      have e20 : U18 100 (T 106 0 2) (-1) = T 100 (T 106 0 2) (-1) := (fU18 100 (T 106 0 2) (-1) rfl).trans ((fU15 100 (T 106 0 2) (-1) rfl).trans ((fU13 100 (T 106 0 2) (-1) rfl).trans ((fU10 100 (T 106 0 2) (-1) rfl).trans ((up_k hU5 (by exact Nat.ne_of_beq_eq_false rfl) (T 106 0 2) (-1)).trans (fU3 100 (T 106 0 2) (-1) rfl)))))
      refine j_conv (k := 100) (i := T 106 0 2) (g := g0_ U18 (T 106 0 2)) (by decide) (by show ¬ U18 100 (T 106 0 2) (-1) = 1; rw [e20]; exact hna.2.1 _ (by omega)) (hna.1.1 _) (cg_0 gt0 (by omega) t1U18 t2U18 t3U18 t4U18) rfl rfl ?_
      refine j_nm (fun U21 hU21 => ?_)
      have fU21 := cw_fr hU21
      have sU21 := cw_ts hU21
      have oU21 := cw_to hU21
      have rU21 := cw_r hU21
      show J_ zX10_competition T (po_X10_competition_s T) 0 0 103 _ [vR 100 (T 106 0 2), vI (T 106 0 2), vR 521 0] U21
      refine j_aast (pc := 103) (by decide) (by decide) (by decide +kernel : ta_ 521 = some (4, some 4, 0, 1)) (by decide +kernel) (by omega) (by show _ < (4 : Int); omega) (by decide) ?_
      refine j_nm (fun U22 hU22 => ?_)
      have e23 := up_f hU22
      show J_ zX10_competition T (po_X10_competition_s T) 0 0 104 _ [] U22
      refine j_blx (F := fX10) tb_X10 (nn_ _) bk_X10_competition_s_104 bs_X10_competition_s_104 hz (fun K hK => ?_)
      intro b24 b24b
      have e25 : U22 106 0 2 = T 106 0 2 := (up_k hU22 (by exact Nat.ne_of_beq_eq_false rfl) 0 2).trans ((fU21 106 0 2 rfl).trans ((fU18 106 0 2 rfl).trans ((fU15 106 0 2 rfl).trans ((fU13 106 0 2 rfl).trans ((fU10 106 0 2 rfl).trans ((up_k hU5 (by exact Nat.ne_of_beq_eq_false rfl) 0 2).trans (fU3 106 0 2 rfl)))))))
      rw [e25] at b24 b24b ⊢
      refine rg_i (by omega) ?_
      refine bd_i (by omega) ?_
      refine x_nm (fun U26 hU26 => ?_)
      have e27 := up_f hU26
      refine (show po_X10_competition_s T U26 (some (vI (T 106 0 2))) from ?_)
      have w5 : U21 100 (T 106 0 2) 5 = U18 150 (T 106 0 2) 5 := (sU21 5 (by decide)).trans (by unfold g0_; rw [if_neg (by decide)])
      have y5 : U15 150 (T 106 0 2) 5 = 0 := (fU15 150 _ _ rfl).trans ((fU13 150 _ _ rfl).trans (zU10 5 (by decide)))
      have u5 : U26 100 (T 106 0 2) 5 = U21 100 (T 106 0 2) 5 := (up_k hU26 (by exact Nat.ne_of_beq_eq_false rfl) _ _).trans (up_k hU22 (by exact Nat.ne_of_beq_eq_false rfl) _ _)
      have w6 : U21 100 (T 106 0 2) 6 = U18 150 (T 106 0 2) 6 := (sU21 6 (by decide)).trans (by unfold g0_; rw [if_neg (by decide)])
      have y6 : U15 150 (T 106 0 2) 6 = 0 := (fU15 150 _ _ rfl).trans ((fU13 150 _ _ rfl).trans (zU10 6 (by decide)))
      have u6 : U26 100 (T 106 0 2) 6 = U21 100 (T 106 0 2) 6 := (up_k hU26 (by exact Nat.ne_of_beq_eq_false rfl) _ _).trans (up_k hU22 (by exact Nat.ne_of_beq_eq_false rfl) _ _)
      have w7 : U21 100 (T 106 0 2) 7 = U18 150 (T 106 0 2) 7 := (sU21 7 (by decide)).trans (by unfold g0_; rw [if_neg (by decide)])
      have y7 : U15 150 (T 106 0 2) 7 = 0 := (fU15 150 _ _ rfl).trans ((fU13 150 _ _ rfl).trans (zU10 7 (by decide)))
      have u7 : U26 100 (T 106 0 2) 7 = U21 100 (T 106 0 2) 7 := (up_k hU26 (by exact Nat.ne_of_beq_eq_false rfl) _ _).trans (up_k hU22 (by exact Nat.ne_of_beq_eq_false rfl) _ _)
      have w8 : U21 100 (T 106 0 2) 8 = U18 150 (T 106 0 2) 8 := (sU21 8 (by decide)).trans (by unfold g0_; rw [if_neg (by decide)])
      have y8 : U15 150 (T 106 0 2) 8 = 0 := (fU15 150 _ _ rfl).trans ((fU13 150 _ _ rfl).trans (zU10 8 (by decide)))
      have u8 : U26 100 (T 106 0 2) 8 = U21 100 (T 106 0 2) 8 := (up_k hU26 (by exact Nat.ne_of_beq_eq_false rfl) _ _).trans (up_k hU22 (by exact Nat.ne_of_beq_eq_false rfl) _ _)
      have w0 : U26 100 (T 106 0 2) 0 = T 106 0 2 := by
        have y1 : U26 100 (T 106 0 2) 0 = U21 100 (T 106 0 2) 0 := (up_k hU26 (by exact Nat.ne_of_beq_eq_false rfl) _ _).trans (up_k hU22 (by exact Nat.ne_of_beq_eq_false rfl) _ _)
        have y2 : U21 100 (T 106 0 2) 0 = U18 150 (T 106 0 2) 0 := (sU21 0 (by decide)).trans (by unfold g0_; rw [if_neg (by decide)])
        have y3 := t0U18
        omega
      have e28 : U26 106 0 2 = (T 106 0 2) + 1 := up_f hU26
      have d2 : ∀ (k : Nat) (i j : Int), k = 100 ∨ k = 150 ∨ k = 401 ∨ k = 403 ∨ k = 404 → i ≠ T 106 0 2 → U26 k i j = T k i j := by
        intro k i j hk hi
        have c1 : U26 k i j = U21 k i j := (up_g hU26 (fun z => by omega)).trans (up_g hU22 (fun z => by omega))
        have c2 : U21 k i j = U5 k i j := (oU21 k i j hi).trans ((qU18o k i j hi).trans ((oU15 k i j (fun z => hi z.2)).trans ((oU13 k i j (fun z => hi z.2)).trans (oU10 k i j (fun z => hi z.2)))))
        have c3 : U5 k i j = T k i j := by rcases hk with rfl | rfl | rfl | rfl | rfl <;> exact (up_k hU5 (by exact Nat.ne_of_beq_eq_false rfl) _ _).trans (fU3 _ _ _ rfl)
        exact c1.trans (c2.trans c3)
      have d3 : ∀ j, j ≠ T 106 0 2 → U26 521 0 j = T 521 0 j := fun j hj => (up_k hU26 (by exact Nat.ne_of_beq_eq_false rfl) _ _).trans ((up_g hU22 (fun z => hj z.2.2)).trans ((fU21 521 _ _ rfl).trans ((fU18 521 _ _ rfl).trans ((fU15 521 _ _ rfl).trans ((fU13 521 _ _ rfl).trans ((fU10 521 _ _ rfl).trans ((up_k hU5 (by exact Nat.ne_of_beq_eq_false rfl) _ _).trans (fU3 521 _ _ rfl))))))))
      have d4 : U26 521 0 (T 106 0 2) = 1 := (up_k hU26 (by exact Nat.ne_of_beq_eq_false rfl) _ _).trans (up_f hU22)
      have d5 : ∀ j, 0 ≤ j → U26 401 (T 106 0 2) j = U3 504 0 j := fun j hj => (up_k hU26 (by exact Nat.ne_of_beq_eq_false rfl) _ _).trans ((up_k hU22 (by exact Nat.ne_of_beq_eq_false rfl) _ _).trans ((fU21 401 _ _ rfl).trans ((fU18 401 _ _ rfl).trans ((fU15 401 _ _ rfl).trans ((zU13 j hj).trans ((fU10 504 _ _ rfl).trans (up_k hU5 (by exact Nat.ne_of_beq_eq_false rfl) _ _)))))))
      obtain ⟨qx, ⟨v, qr, qv⟩, q3⟩ := qU3.resolve_left (fun z => by omega)
      have hw := rdf9_g 402 gb9_d qr
      have vc : VC8_ U3 := ⟨fun j a b => by rw [qv.1 j a b, ← (rb9_i a b).1, ← (rb9_i a b).2]; exact hw.1 j a (by omega), by rw [qv.1 2 (by omega) (by omega), qv.1 1 (by omega) (by omega)]; exact hw.2.1⟩
      have d6 : ∀ j, 0 ≤ j → U26 402 (T 106 0 2) j = U3 505 0 j := fun j hj => (up_k hU26 (by exact Nat.ne_of_beq_eq_false rfl) _ _).trans ((up_k hU22 (by exact Nat.ne_of_beq_eq_false rfl) _ _).trans ((fU21 402 _ _ rfl).trans ((fU18 402 _ _ rfl).trans ((zU15 j hj).trans ((fU13 505 _ _ rfl).trans ((fU10 505 _ _ rfl).trans (up_k hU5 (by exact Nat.ne_of_beq_eq_false rfl) _ _)))))))
      have d7 : ∀ i j, i ≠ T 106 0 2 → U26 402 i j = T 402 i j := fun i j hi => (up_k hU26 (by exact Nat.ne_of_beq_eq_false rfl) _ _).trans ((up_k hU22 (by exact Nat.ne_of_beq_eq_false rfl) _ _).trans ((fU21 402 _ _ rfl).trans ((fU18 402 _ _ rfl).trans ((oU15 402 i j (fun z => hi z.2)).trans ((fU13 402 _ _ rfl).trans ((fU10 402 _ _ rfl).trans ((up_k hU5 (by exact Nat.ne_of_beq_eq_false rfl) _ _).trans (fU3 402 _ _ rfl))))))))
      have d8 : ∀ j, 0 ≤ j → j < 12 → U26 404 (T 106 0 2) j = -1 := fun j a b => (up_k hU26 (by exact Nat.ne_of_beq_eq_false rfl) _ _).trans ((up_k hU22 (by exact Nat.ne_of_beq_eq_false rfl) _ _).trans ((fU21 404 _ _ rfl).trans (zU18 j a b)))
      have e29 : U26 105 0 1 = 0 := (up_k hU26 (by exact Nat.ne_of_beq_eq_false rfl) 0 1).trans ((up_k hU22 (by exact Nat.ne_of_beq_eq_false rfl) 0 1).trans ((fU21 105 0 1 rfl).trans ((fU18 105 0 1 rfl).trans ((fU15 105 0 1 rfl).trans ((fU13 105 0 1 rfl).trans ((fU10 105 0 1 rfl).trans (up_f hU5)))))))
      have e30 : U26 105 0 3 = U3 105 0 3 := (up_k hU26 (by exact Nat.ne_of_beq_eq_false rfl) 0 3).trans ((up_k hU22 (by exact Nat.ne_of_beq_eq_false rfl) 0 3).trans ((fU21 105 0 3 rfl).trans ((fU18 105 0 3 rfl).trans ((fU15 105 0 3 rfl).trans ((fU13 105 0 3 rfl).trans ((fU10 105 0 3 rfl).trans (up_j hU5 (by decide) 105 0)))))))
      have n2 : NA_ U26 := by
        refine ⟨⟨fun i => ?_, fun i => by rw [show U26 152 i (-1) = T 152 i (-1) from (up_k hU26 (by exact Nat.ne_of_beq_eq_false rfl) _ _).trans ((up_k hU22 (by exact Nat.ne_of_beq_eq_false rfl) _ _).trans ((fU21 152 _ _ rfl).trans ((fU18 152 _ _ rfl).trans ((fU15 152 _ _ rfl).trans ((fU13 152 _ _ rfl).trans ((fU10 152 _ _ rfl).trans ((up_k hU5 (by exact Nat.ne_of_beq_eq_false rfl) _ _).trans (fU3 152 _ _ rfl))))))))]; exact hna.1.2.1 i, fun i => by rw [show U26 153 i (-1) = T 153 i (-1) from (up_k hU26 (by exact Nat.ne_of_beq_eq_false rfl) _ _).trans ((up_k hU22 (by exact Nat.ne_of_beq_eq_false rfl) _ _).trans ((fU21 153 _ _ rfl).trans ((fU18 153 _ _ rfl).trans ((fU15 153 _ _ rfl).trans ((fU13 153 _ _ rfl).trans ((fU10 153 _ _ rfl).trans ((up_k hU5 (by exact Nat.ne_of_beq_eq_false rfl) _ _).trans (fU3 153 _ _ rfl))))))))]; exact hna.1.2.2 i⟩, fun i hi => ?_, fun i hi => ?_, fun i hi => ?_⟩
        · by_cases z : i = T 106 0 2
          · rw [z, show U26 150 (T 106 0 2) (-1) = U21 150 (T 106 0 2) (-1) from (up_k hU26 (by exact Nat.ne_of_beq_eq_false rfl) _ _).trans (up_k hU22 (by exact Nat.ne_of_beq_eq_false rfl) _ _)]; exact rU21
          · rw [d2 150 i (-1) (Or.inr (Or.inl rfl)) z]; exact hna.1.1 i
        · rw [d2 100 i (-1) (Or.inl rfl) (by omega)]; exact hna.2.1 i (by omega)
        · rw [show U26 106 0 4 = T 106 0 4 from (up_j hU26 (by decide) _ _).trans ((up_k hU22 (by exact Nat.ne_of_beq_eq_false rfl) _ _).trans ((fU21 106 _ _ rfl).trans ((fU18 106 _ _ rfl).trans ((fU15 106 _ _ rfl).trans ((fU13 106 _ _ rfl).trans ((fU10 106 _ _ rfl).trans ((up_k hU5 (by exact Nat.ne_of_beq_eq_false rfl) _ _).trans (fU3 106 _ _ rfl))))))))] at hi
          rw [show U26 102 i (-1) = T 102 i (-1) from (up_k hU26 (by exact Nat.ne_of_beq_eq_false rfl) _ _).trans ((up_k hU22 (by exact Nat.ne_of_beq_eq_false rfl) _ _).trans ((fU21 102 _ _ rfl).trans ((fU18 102 _ _ rfl).trans ((fU15 102 _ _ rfl).trans ((fU13 102 _ _ rfl).trans ((fU10 102 _ _ rfl).trans ((up_k hU5 (by exact Nat.ne_of_beq_eq_false rfl) _ _).trans (fU3 102 _ _ rfl))))))))]; exact hna.2.2.1 i hi
        · rw [show U26 106 0 4 = T 106 0 4 from (up_j hU26 (by decide) _ _).trans ((up_k hU22 (by exact Nat.ne_of_beq_eq_false rfl) _ _).trans ((fU21 106 _ _ rfl).trans ((fU18 106 _ _ rfl).trans ((fU15 106 _ _ rfl).trans ((fU13 106 _ _ rfl).trans ((fU10 106 _ _ rfl).trans ((up_k hU5 (by exact Nat.ne_of_beq_eq_false rfl) _ _).trans (fU3 106 _ _ rfl)))))))), show U26 102 i 10 = T 102 i 10 from (up_k hU26 (by exact Nat.ne_of_beq_eq_false rfl) _ _).trans ((up_k hU22 (by exact Nat.ne_of_beq_eq_false rfl) _ _).trans ((fU21 102 _ _ rfl).trans ((fU18 102 _ _ rfl).trans ((fU15 102 _ _ rfl).trans ((fU13 102 _ _ rfl).trans ((fU10 102 _ _ rfl).trans ((up_k hU5 (by exact Nat.ne_of_beq_eq_false rfl) _ _).trans (fU3 102 _ _ rfl))))))))] at hi
          rw [show U26 103 i (-1) = T 103 i (-1) from (up_k hU26 (by exact Nat.ne_of_beq_eq_false rfl) _ _).trans ((up_k hU22 (by exact Nat.ne_of_beq_eq_false rfl) _ _).trans ((fU21 103 _ _ rfl).trans ((fU18 103 _ _ rfl).trans ((fU15 103 _ _ rfl).trans ((fU13 103 _ _ rfl).trans ((fU10 103 _ _ rfl).trans ((up_k hU5 (by exact Nat.ne_of_beq_eq_false rfl) _ _).trans (fU3 103 _ _ rfl))))))))]; exact hna.2.2.2 i hi
      exact ⟨_, rfl, Or.inr ⟨fr_u (fr_u (fr_t (fr_t (fr_t (fr_t (fr_t (fr_u (fr_t (fr_0 _ _) (fr_s fU3 rfl)) hU5 rfl) (fr_s fU10 rfl)) (fr_s fU13 rfl)) (fr_s fU15 rfl)) (fr_s fU18 rfl)) (fr_s fU21 rfl)) hU22 rfl) hU26 rfl, by omega, d2, d3, d4, by omega, fun j a b => by rw [d5 j a]; exact vc.1 j a b, by rw [d5 2 (by omega), d5 1 (by omega)]; exact vc.2, n2⟩, Or.inr ⟨by omega, by omega, Or.inr ⟨by omega, by omega, by omega, d7, d8, v, qr, fun j a b => (d5 j a).trans (qv.1 j a b), fun k a b => (d6 k a).trans (qv.2 k a b)⟩⟩, Or.inr w0⟩
    · intro b31 b31b
      have e32 : U5 105 0 2 = U3 105 0 2 := up_j hU5 (by decide) 105 0
      rw [e32] at b31 b31b ⊢
      refine rg_i (by omega) ?_
      refine (show po_X10_competition_s T U5 (some (vI ((-10) - (U3 105 0 2)))) from ?_)
      have e33 : U5 105 0 1 = 0 := up_f hU5
      have e34 : U5 105 0 3 = U3 105 0 3 := up_j hU5 (by decide) 105 0
      have e35 : U5 106 0 2 = T 106 0 2 := (up_k hU5 (by exact Nat.ne_of_beq_eq_false rfl) 0 2).trans (fU3 106 0 2 rfl)
      have e36 : U5 105 0 2 = U3 105 0 2 := up_j hU5 (by decide) 105 0
      refine ⟨_, rfl, Or.inl (fr_u (fr_t (fr_0 _ _) (fr_s fU3 rfl)) hU5 rfl), Or.inr ⟨by omega, by omega, Or.inl ⟨by omega, U3 105 0 2, by omega, ?_⟩⟩, Or.inl (by omega)⟩
      rw [show U5 105 0 3 = U3 105 0 3 by omega]
      exact (qU3.resolve_right (fun z => by omega)).2
  · refine bd_i (by omega) ?_
    refine x_nm (fun U37 hU37 => ?_)
    have e38 := up_f hU37
    refine (show po_X10_competition_s T U37 (some (vI (-5))) from ?_)
    have e39 : U37 105 0 1 = T 105 0 1 := up_j hU37 (by decide) 105 0
    have e40 : U37 105 0 3 = (-1) := up_f hU37
    have e41 : U37 106 0 2 = T 106 0 2 := up_k hU37 (by exact Nat.ne_of_beq_eq_false rfl) 0 2
    exact ⟨_, rfl, Or.inl (fr_u (fr_0 _ _) hU37 rfl), Or.inl ⟨by omega, rfl, by omega, by omega, by omega⟩, Or.inl (by omega)⟩
-- the plays of both sides alike: what holds between the calls
def rlm_ (f : Int → Int) : Int → Int := fun w => if 0 ≤ w ∧ w < 16 then f w else 0
theorem rlm_e {f g : Int → Int} (h : ∀ w, 0 ≤ w → w < 16 → f w = g w) : rlm_ f = rlm_ g := by
  funext w
  unfold rlm_
  by_cases z : 0 ≤ w ∧ w < 16
  · rw [if_pos z, if_pos z]
    exact h w z.1 z.2
  · rw [if_neg z, if_neg z]
theorem rlm_v {f : Int → Int} {w : Int} (h0 : 0 ≤ w) (h1 : w < 16) : rlm_ f w = f w := if_pos ⟨h0, h1⟩
theorem rlm_p {T : Zt} {m : Int} : RLP_ T m (rlm_ (fun w => T 401 (T 103 m 0) w)) := fun w a b => (rlm_v (f := fun w => T 401 (T 103 m 0) w) a b).symm
theorem rlm_r {T : Zt} {m : Int} : RLR_ T m (rlm_ (fun w => T 205 0 (23 * T 230 0 m + w))) := fun w a b => (rlm_v (f := fun w => T 205 0 (23 * T 230 0 m + w)) a b).symm
theorem rlm_s {T : Zt} {m : Int} : ∀ w, 0 ≤ w → w < 16 → T 401 (T 102 m 0) w = rlm_ (fun w => T 401 (T 102 m 0) w) w := fun w a b => (rlm_v (f := fun w => T 401 (T 102 m 0) w) a b).symm
abbrev ruH_ (T : Zt) (m : Int) : Int → Int := rlm_ (fun w => T 401 (T 102 m 0) w)
theorem rb_m {T : Zt} {m : Int} (hri : RI_ T) (hx : TXR_ T) (hc : 0 ≤ T 102 m 0 ∧ T 102 m 0 < T 106 0 2) : RB9_ (ruH_ T m) := by
  have e := hx.2.2.1
  have v : ∀ w, 0 ≤ w → w < 16 → (rb_ w).1 ≤ ruH_ T m w ∧ ruH_ T m w ≤ (rb_ w).2 := fun w a b => by
    rw [show ruH_ T m w = T 401 (T 102 m 0) w from rlm_v (f := fun w => T 401 (T 102 m 0) w) a b, (hx.2.2.2.2 _ hc.1 hc.2).1 w a b]
    exact hri (T 102 m 0) w hc.1 (by omega) a (by omega)
  have v0 : 0 ≤ ruH_ T m 0 ∧ ruH_ T m 0 ≤ 3 := v 0 (by decide) (by decide)
  have v9 : 1 ≤ ruH_ T m 9 ∧ ruH_ T m 9 ≤ 6 := v 9 (by decide) (by decide)
  have v10 : 0 ≤ ruH_ T m 10 ∧ ruH_ T m 10 ≤ 5 := v 10 (by decide) (by decide)
  have v11 : 2 ≤ ruH_ T m 11 ∧ ruH_ T m 11 ≤ 25 := v 11 (by decide) (by decide)
  have v12 : 1 ≤ ruH_ T m 12 ∧ ruH_ T m 12 ≤ 9 := v 12 (by decide) (by decide)
  exact ⟨v0, v9, v10, v11, v12⟩
theorem ru_q {T : Zt} {m : Int} (hx : TXR_ T) (he : T 102 m 0 = T 230 0 m) (hc : 0 ≤ T 102 m 0 ∧ T 102 m 0 < T 106 0 2) : rlm_ (fun w => T 205 0 (23 * T 230 0 m + w)) = ruH_ T m := rlm_e (fun w a b => by
  show T 205 0 (23 * T 230 0 m + w) = T 401 (T 102 m 0) w
  rw [← he]
  exact ((hx.2.2.2.2 _ hc.1 hc.2).1 w a b).symm)
/-- the sheets of a match -/
def SHM_ (T : Zt) (m : Int) : Prop :=
  (∀ t, 0 ≤ t → t ≤ 1 → T 239 0 (2 * m + t) = T 449 m t ∧ 0 ≤ T 449 m t ∧ T 449 m t ≤ 10) ∧
  (∀ t x, 0 ≤ t → t ≤ 1 → t * 10 ≤ x → x < t * 10 + T 449 m t → T 240 0 (20 * m + x) = T 448 m x) ∧
  ∀ t x y, 0 ≤ t → t ≤ 1 → t * 10 ≤ x → x < t * 10 + T 449 m t → t * 10 ≤ y → y < t * 10 + T 449 m t → T 448 m x = T 448 m y → x = y
/-- a match that is told -/
def PAA_ (T : Zt) (m : Int) : Prop := T 102 m 6 = -1 ∧ T 102 m 10 = 0 ∧ T 235 0 m = 0 ∧ T 236 0 m = 0 ∧ T 237 0 m = 0 ∧ T 254 0 m = 0 ∧ T 256 0 m = 0
/-- a match that was walked over -/
def PBB_ (T : Zt) (m : Int) : Prop := T 102 m 10 = 0 ∧ T 235 0 m = 3 ∧ ((T 102 m 6 = 0 ∧ T 236 0 m = 0 ∧ T 237 0 m = T 401 (T 102 m 0) 12) ∨ (T 102 m 6 = 1 ∧ T 236 0 m = T 401 (T 102 m 0) 12 ∧ T 237 0 m = 0)) ∧ T 254 0 m = 0 ∧ T 256 0 m = 0
/-- a match that is played -/
def PCC_ (T : Zt) (m : Int) : Prop := T 102 m 6 = -1 ∧ T 102 m 10 ≠ 0 ∧ T 103 m 0 = T 102 m 0 ∧ (∃ n, n ≤ 3 * (T 103 m 15 + T 103 m 17) ∧ SI_ m n (ruH_ T m) (rp9_ T m) (rs9_ T m)) ∧ FN_ (rs9_ T m) ∧ (∀ t, 0 ≤ t → t ≤ 1 → T 401 (T 102 m 0) 9 ≤ T 449 m t) ∧ hr9_ T (T 103 m 14) (T 103 m 15).toNat = rw9_ T m ∧ T 103 m 17 = T 256 0 m
def PM_ (T : Zt) (m : Int) : Prop := PAA_ T m ∨ PBB_ T m ∨ PCC_ T m
/-- every match alike on both sides -/
def PLR_ (T : Zt) : Prop := (∀ m, 0 ≤ m → m < T 106 0 4 → SHM_ T m ∧ PM_ T m) ∧ ∀ m, T 111 0 29 ≤ m → m < 400 → T 236 0 m = 0 ∧ T 237 0 m = 0
/-- the logs of the plays are rows of their own -/
def LDR_ (T : Zt) : Prop := (T 104 0 4 < T 191 0 0 ∧ T 109 0 15 ≤ T 191 0 0) ∧ ∀ m, 0 ≤ m → m < T 106 0 4 → T 102 m 10 ≠ 0 → (T 103 m 14 ≠ T 103 m 16 ∧ T 103 m 14 ≠ T 104 0 4 ∧ T 103 m 14 + 1 ≠ T 109 0 15) ∧ ∀ j, 0 ≤ j → j < T 106 0 4 → T 102 j 10 ≠ 0 → j ≠ m → T 103 m 14 ≠ T 103 j 14 ∧ T 103 m 14 ≠ T 103 j 16
def RCR_ (T : Zt) : Prop := T 106 0 5 = T 111 0 47
def DAR_ (T : Zt) : Prop := ∀ m, 0 ≤ m → m < T 106 0 4 → T 102 m 5 = T 234 0 m
def MVR_ (T : Zt) : Prop := T 106 0 12 = T 111 0 75 ∧ ∀ k, 0 ≤ k → k < T 106 0 12 → T 531 0 k = T 274 0 k
def CNO_ (T : Zt) : Prop := ∀ c, 0 ≤ c → c < T 106 0 2 → T 100 c 0 = c
-- cells of the reference's match
theorem rp_35 {T : Zt} {m : Int} : rp9_ T m 103 3 = T 235 0 m := rp_v rfl rfl rfl
theorem rp_36 {T : Zt} {m : Int} : rp9_ T m 468 0 = T 236 0 m := rp_v rfl rfl rfl
theorem rp_37 {T : Zt} {m : Int} : rp9_ T m 468 1 = T 237 0 m := rp_v rfl rfl rfl
theorem rp_39 {T : Zt} {m t : Int} (h0 : 0 ≤ t) (h1 : t ≤ 1) : rp9_ T m 449 t = T 239 0 (2 * m + t) := rp_v (dm_449 ⟨h0, h1⟩) rfl rfl
theorem rp_40 {T : Zt} {m x : Int} (h0 : 0 ≤ x) (h1 : x ≤ 19) : rp9_ T m 448 x = T 240 0 (20 * m + x) := rp_v (dm_448 ⟨h0, h1⟩) rfl rfl
theorem rpe_ {T T' : Zt} {m : Int} (h : rp9_ T' m = rp9_ T m) : T' 235 0 m = T 235 0 m ∧ T' 236 0 m = T 236 0 m ∧ T' 237 0 m = T 237 0 m := by
  rw [← rp_35 (T := T'), ← rp_36 (T := T'), ← rp_37 (T := T'), h, rp_35, rp_36, rp_37]
  exact ⟨rfl, rfl, rfl⟩
-- what a match's state hangs on
def KHM_ (T T' : Zt) (m : Int) : Prop := (∀ (k : Nat) (j : Int), dk_ k j = true → T' k m j = T k m j) ∧ (T' 102 m 0 = T 102 m 0 ∧ T' 102 m 6 = T 102 m 6 ∧ T' 102 m 10 = T 102 m 10) ∧ (T' 103 m 0 = T 103 m 0 ∧ T' 103 m 14 = T 103 m 14 ∧ T' 103 m 15 = T 103 m 15 ∧ T' 103 m 17 = T 103 m 17) ∧ (∀ w, T' 401 (T 102 m 0) w = T 401 (T 102 m 0) w) ∧ (T 102 m 10 ≠ 0 → ∀ j, 0 ≤ j → j < 4 * T 103 m 15 → T' 190 (T 103 m 14) j = T 190 (T 103 m 14) j)
def KRM_ (T T' : Zt) (m : Int) : Prop := rp9_ T' m = rp9_ T m ∧ rw9_ T' m = rw9_ T m ∧ T' 254 0 m = T 254 0 m ∧ T' 256 0 m = T 256 0 m
theorem khm_t {T T1 T2 : Zt} {m : Int} (a : KHM_ T T1 m) (b : KHM_ T1 T2 m) : KHM_ T T2 m := by
  obtain ⟨a1, ⟨a2, a3, a4⟩, ⟨a5, a6, a7, a8⟩, a9, a0⟩ := a
  obtain ⟨b1, ⟨b2, b3, b4⟩, ⟨b5, b6, b7, b8⟩, b9, b0⟩ := b
  refine ⟨fun k j d => (b1 k j d).trans (a1 k j d), ⟨by omega, by omega, by omega⟩, ⟨by omega, by omega, by omega, by omega⟩, fun w => ?_, fun h j j0 j1 => ?_⟩
  · rw [a2] at b9
    exact (b9 w).trans (a9 w)
  · rw [a6] at b0
    exact (b0 (by omega) j j0 (by omega)).trans (a0 h j j0 j1)
theorem kqm_t {T T1 T2 : Zt} {m : Int} (a : KRM_ T T1 m) (b : KRM_ T1 T2 m) : KRM_ T T2 m := ⟨b.1.trans a.1, b.2.1.trans a.2.1, b.2.2.1.trans a.2.2.1, b.2.2.2.trans a.2.2.2⟩
def FRF_ : List (Nat × List Int) := [(235, []), (236, []), (237, []), (239, []), (240, []), (241, []), (242, []), (243, []), (244, []), (245, []), (246, []), (248, []), (249, []), (250, []), (251, []), (252, []), (253, []), (254, []), (256, [])]
def FHS_ : List (Nat × List Int) := [(102, [0, 6, 10]), (103, []), (448, []), (449, []), (466, []), (467, []), (468, []), (469, []), (470, []), (471, []), (472, []), (473, []), (401, []), (190, [])]
theorem kqm_s {T T' : Zt} {m : Int} (k : ks_ FRF_ T T') : KRM_ T T' m := by
  refine ⟨rp_x (fun K j c => ?_), rw_k (fun K x c => ?_) (fun x => k 252 0 x rfl) (k 253 0 m rfl) (k 254 0 m rfl), k 254 0 m rfl, k 256 0 m rfl⟩
  · rcases c with rfl | rfl | rfl | rfl | rfl | rfl | rfl | rfl | rfl | rfl | rfl <;> exact k _ 0 j rfl
  · rcases c with rfl | rfl | rfl | rfl <;> exact k _ 0 x rfl
theorem khm_s {T T' : Zt} {m : Int} (k : ks_ FHS_ T T') : KHM_ T T' m := by
  refine ⟨fun K j d => ?_, ⟨k 102 m 0 rfl, k 102 m 6 rfl, k 102 m 10 rfl⟩, ⟨k 103 m 0 rfl, k 103 m 14 rfl, k 103 m 15 rfl, k 103 m 17 rfl⟩, fun w => k 401 _ w rfl, fun _ j _ _ => k 190 _ j rfl⟩
  rcases dk_c d with rfl | rfl | rfl | rfl | rfl | rfl | rfl | rfl | rfl | rfl | ⟨rfl, _⟩ <;> exact k _ m j rfl
theorem shm_c {T T' : Zt} {m : Int} (h : SHM_ T m) (e49 : ∀ t, T' 449 m t = T 449 m t) (e48 : ∀ t, T' 448 m t = T 448 m t) (e39 : ∀ t, 0 ≤ t → t ≤ 1 → T' 239 0 (2 * m + t) = T 239 0 (2 * m + t)) (e40 : ∀ x, 0 ≤ x → x ≤ 19 → T' 240 0 (20 * m + x) = T 240 0 (20 * m + x)) : SHM_ T' m := by
  obtain ⟨h1, h2, h3⟩ := h
  refine ⟨fun t t0 t1 => ?_, fun t x t0 t1 x0 x1 => ?_, fun t x y t0 t1 x0 x1 y0 y1 e => ?_⟩
  · rw [e49, e39 t t0 t1]
    exact h1 t t0 t1
  · rw [e49] at x1
    have g := h1 t t0 t1
    rw [e48, e40 x (by omega) (by omega)]
    exact h2 t x t0 t1 x0 x1
  · rw [e49] at x1 y1
    rw [e48, e48] at e
    exact h3 t x y t0 t1 x0 x1 y0 y1 e
theorem shm_k {T T' : Zt} {m : Int} (h : SHM_ T m) (a : KHM_ T T' m) (b : KRM_ T T' m) : SHM_ T' m :=
  shm_c h (fun t => a.1 449 t rfl) (fun t => a.1 448 t rfl) (fun t t0 t1 => by rw [← rp_39 (T := T') (m := m) t0 t1, b.1, rp_39 t0 t1]) (fun x x0 x1 => by rw [← rp_40 (T := T') (m := m) x0 x1, b.1, rp_40 x0 x1])
theorem pm_k {T T' : Zt} {m : Int} (h : PM_ T m) (a : KHM_ T T' m) (b : KRM_ T T' m) : PM_ T' m := by
  obtain ⟨a1, ⟨a2, a3, a4⟩, ⟨a5, a6, a7, a8⟩, a9, a0⟩ := a
  obtain ⟨b1, b2, b3, b4⟩ := b
  obtain ⟨c35, c36, c37⟩ := rpe_ b1
  have es : rs9_ T' m = rs9_ T m := rs_n a1
  have er : ruH_ T' m = ruH_ T m := rlm_e (fun w _ _ => by
    show T' 401 (T' 102 m 0) w = T 401 (T 102 m 0) w
    rw [a2, a9])
  rcases h with h | h | h
  · refine Or.inl ?_
    unfold PAA_ at h ⊢
    omega
  · refine Or.inr (Or.inl ?_)
    unfold PBB_ at h ⊢
    rw [a2, a9]
    omega
  · obtain ⟨h1, h2, h3, ⟨n, hn, hs⟩, h5, h6, h7, h8⟩ := h
    refine Or.inr (Or.inr ⟨by omega, by omega, by omega, ⟨n, by omega, ?_⟩, ?_, fun t t0 t1 => ?_, ?_, by omega⟩)
    · rw [er, b1, es]
      exact hs
    · rw [es]
      exact h5
    · rw [a2, a9, show T' 449 m t = T 449 m t from a1 449 t rfl]
      exact h6 t t0 t1
    · rw [a6, a7, b2, ← h7]
      exact hrw_e (fun j j0 j1 => a0 h2 j j0 (by omega))
/-- one match changes -/
theorem plr_s {T T2 : Zt} {m : Int} (h : PLR_ T) (c1 : T2 106 0 4 = T 106 0 4) (c2 : T2 111 0 29 = T 111 0 29) (hm : 0 ≤ m → m < T 106 0 4 → SHM_ T2 m ∧ PM_ T2 m) (ho : ∀ j, 0 ≤ j → j < T 106 0 4 → j ≠ m → KHM_ T T2 j ∧ KRM_ T T2 j) (hz : ∀ j, T 111 0 29 ≤ j → j < 400 → T2 236 0 j = T 236 0 j ∧ T2 237 0 j = T 237 0 j) : PLR_ T2 := by
  refine ⟨fun j j0 j1 => ?_, fun j j0 j1 => ?_⟩
  · rw [c1] at j1
    by_cases z : j = m
    · rw [z]
      exact hm (by omega) (by omega)
    · have g := h.1 j j0 j1
      have k := ho j j0 j1 z
      exact ⟨shm_k g.1 k.1 k.2, pm_k g.2 k.1 k.2⟩
  · rw [c2] at j0
    have g := h.2 j j0 j1
    have k := hz j j0 j1
    omega
theorem plr_k {T T' : Zt} (h : PLR_ T) (a : ks_ FHS_ T T') (b : ks_ FRF_ T T') (c1 : T' 106 0 4 = T 106 0 4) (c2 : T' 111 0 29 = T 111 0 29) : PLR_ T' :=
  plr_s (m := -1) h c1 c2 (fun z => absurd z (by decide)) (fun _ _ _ _ => ⟨khm_s a, kqm_s b⟩) (fun j _ _ => ⟨b 236 0 j rfl, b 237 0 j rfl⟩)
theorem ldr_k {T T' : Zt} (h : LDR_ T) (e : T' 104 0 4 = T 104 0 4 ∧ T' 109 0 15 = T 109 0 15 ∧ T' 191 0 0 = T 191 0 0 ∧ T' 106 0 4 = T 106 0 4) (g : ∀ m, T' 102 m 10 = T 102 m 10 ∧ T' 103 m 14 = T 103 m 14 ∧ T' 103 m 16 = T 103 m 16) : LDR_ T' := by
  obtain ⟨e1, e2, e3, e4⟩ := e
  refine ⟨by have := h.1; omega, fun m m0 m1 mp => ?_⟩
  have gm := g m
  have y := h.2 m m0 (by omega) (by omega)
  refine ⟨by have := y.1; omega, fun j j0 j1 jp n => ?_⟩
  have gj := g j
  have w := y.2 j j0 (by omega) (by omega) n
  omega
theorem dk_n {k : Nat} {j : Int} (d : dk_ k j = true) : k ≠ 190 ∧ k ≠ 191 ∧ k ≠ 106 := by
  rcases dk_c d with y | y | y | y | y | y | y | y | y | y | ⟨y, _⟩ <;> omega
/-- the others' plays under an event or a review -/
theorem khm_o {T T1 : Zt} {N m j : Int} (hL : LDR_ T) (hl : LP_ N T) (hm : 0 ≤ m ∧ m < T 106 0 4) (hp : T 102 m 10 ≠ 0) (o : OMH_ T T1 m) (j0 : 0 ≤ j) (j1 : j < T 106 0 4) (n : j ≠ m) (e401 : ∀ i w, T1 401 i w = T 401 i w) : KHM_ T T1 j :=
  ⟨fun k i d => o.1 k j i n (dk_n d).1 (dk_n d).2.1 (dk_n d).2.2, ⟨o.1 102 j 0 n (by decide) (by decide) (by decide), o.1 102 j 6 n (by decide) (by decide) (by decide), o.1 102 j 10 n (by decide) (by decide) (by decide)⟩, ⟨o.1 103 j 0 n (by decide) (by decide) (by decide), o.1 103 j 14 n (by decide) (by decide) (by decide), o.1 103 j 15 n (by decide) (by decide) (by decide), o.1 103 j 17 n (by decide) (by decide) (by decide)⟩, fun w => e401 _ w, fun q i _ _ => o.2.1 _ i (hl j j0 j1 q).1.2.2.2.2.2.1 ((hL.2 j j0 j1 q).2 m hm.1 hm.2 hp (Ne.symm n)).1 ((hL.2 j j0 j1 q).2 m hm.1 hm.2 hp (Ne.symm n)).2⟩
theorem ldr_o {T T1 : Zt} {N m : Int} (h : LDR_ T) (hl : LP_ N T) (hm : 0 ≤ m ∧ m < T 106 0 4) (hp : T 102 m 10 ≠ 0) (o : OMH_ T T1 m) (e4 : T1 106 0 4 = T 106 0 4) (e10 : T1 102 m 10 = T 102 m 10) (e44 : T1 104 0 4 = T 104 0 4) (e15 : T1 109 0 15 = T 109 0 15) (e91 : T 191 0 0 ≤ T1 191 0 0) (one : T1 103 m 14 = T 103 m 14 ∨ T1 103 m 16 = T 103 m 16) : LDR_ T1 := by
  obtain ⟨⟨h1, h2⟩, h3⟩ := h
  obtain ⟨o1, o2, o3, o4⟩ := o
  have lo : ∀ j, 0 ≤ j → j < T 106 0 4 → T 102 j 10 ≠ 0 → T 103 j 14 < T 191 0 0 ∧ T 103 j 16 < T 191 0 0 := fun j a b c => ⟨(hl j a b c).1.2.2.2.2.2.1, (hl j a b c).1.2.2.2.2.2.2.1⟩
  have lm := lo m hm.1 hm.2 hp
  have hmm := h3 m hm.1 hm.2 hp
  have oth : ∀ j, j ≠ m → T1 102 j 10 = T 102 j 10 ∧ T1 103 j 14 = T 103 j 14 ∧ T1 103 j 16 = T 103 j 16 := fun j n => ⟨o1 102 j 10 n (by decide) (by decide) (by decide), o1 103 j 14 n (by decide) (by decide) (by decide), o1 103 j 16 n (by decide) (by decide) (by decide)⟩
  refine ⟨⟨by omega, by omega⟩, fun i i0 i1 ip => ?_⟩
  rw [e4] at i1
  by_cases z : i = m
  · rw [z]
    have g := hmm.1
    refine ⟨?_, fun j j0 j1 jp n => ?_⟩
    · rcases o3 with a | a
      · rcases o4 with b | b
        · exact ⟨fun x => g.1 (by omega), fun x => g.2.1 (by omega), fun x => g.2.2 (by omega)⟩
        · exact ⟨fun x => g.1 (by omega), fun x => g.2.1 (by omega), fun x => g.2.2 (by omega)⟩
      · rcases one with c | c
        · exact ⟨fun x => g.1 (by omega), fun x => g.2.1 (by omega), fun x => g.2.2 (by omega)⟩
        · exact ⟨fun x => g.1 (by omega), fun x => g.2.1 (by omega), fun x => g.2.2 (by omega)⟩
    · rw [e4] at j1
      have y := oth j n
      rw [y.1] at jp
      have w := lo j j0 j1 jp
      have v := hmm.2 j j0 j1 jp n
      rcases o3 with a | a
      · exact ⟨fun x => v.1 (by omega), fun x => v.2 (by omega)⟩
      · exact ⟨fun x => v.1 (by omega), fun x => v.2 (by omega)⟩
  · have y := oth i z
    rw [y.1] at ip
    have w := lo i i0 i1 ip
    have v := h3 i i0 i1 ip
    have g := v.1
    refine ⟨⟨fun x => g.1 (by omega), fun x => g.2.1 (by omega), fun x => g.2.2 (by omega)⟩, fun j j0 j1 jp n => ?_⟩
    rw [e4] at j1
    by_cases q : j = m
    · rw [q] at n ⊢
      have u := v.2 m hm.1 hm.2 hp n
      rcases o3 with a | a
      · rcases o4 with b | b
        · exact ⟨fun x => u.1 (by omega), fun x => u.2 (by omega)⟩
        · exact ⟨fun x => u.1 (by omega), fun x => u.2 (by omega)⟩
      · rcases o4 with b | b
        · exact ⟨fun x => u.1 (by omega), fun x => u.2 (by omega)⟩
        · exact ⟨fun x => u.1 (by omega), fun x => u.2 (by omega)⟩
    · have y2 := oth j q
      rw [y2.1] at jp
      have u := v.2 j j0 j1 jp n
      exact ⟨fun x => u.1 (by omega), fun x => u.2 (by omega)⟩
theorem rx_n {T : Zt} (h : RX_ T []) {m : Int} (h0 : 0 ≤ m) (h1 : m < T 111 0 29) : 0 ≤ T 254 0 m := by
  obtain ⟨L, hB, -⟩ := h
  have y : lk_ T (T 253 0 m) (L m 0) ∧ T 254 0 m = ((L m 0).length : Int) := hB.1 m 0 h0 h1 (by decide) (by decide)
  omega
theorem pcc_n {T : Zt} {m : Int} (h : PCC_ T m) (i : 0 ≤ T 103 m 15) (j : 0 ≤ T 254 0 m) : T 103 m 15 = T 254 0 m := by
  have e := congrArg List.length h.2.2.2.2.2.2.1
  rw [hrw_l, rw_n] at e
  omega
/-- one who stands on each field -/
theorem fn_t {a : Sg_} (h : FN_ a) (h3 : a 103 3 = 0) : ∀ t, 0 ≤ t → t ≤ 1 → 1 ≤ a 470 t := fun t t0 t1 => by
  have y := h h3
  rcases (by omega : t = 0 ∨ t = 1) with c | c
  · rw [c]; exact y.1
  · rw [c]; exact y.2
/-- the reference's rows and matches under an event or a review of another -/
theorem kqm_o {T1 T2 : Zt} {m j : Int} (o : OMR_ T1 T2 m) (n : j ≠ m) (j0 : 0 ≤ j) (j1 : j < T1 111 0 29) : KRM_ T1 T2 j := ⟨o.1 j n, (o.2 j n j0 j1).1, (o.2 j n j0 j1).2.1, (o.2 j n j0 j1).2.2⟩
theorem lwR_1 {r : Int → Int} {b : Sg_} {k s q o : Int} (h : b 103 3 ≠ 1) : lwR_ r b k s q o = 1 := by
  unfold lwR_
  exact cz_t h
-- the plays of both sides alike: events and reviews
/-- an event -/
theorem pl_event {T T1 T2 : Zt} {N m k s p q x1 x2 : Int} (hI : IC_ N T) (hR : IR_ T) (hb5 : T 106 0 5 ≤ 3000) (hP : PLR_ T) (hL : LDR_ T) (hC : RCR_ T) (hX : TXR_ T) (hM : MAR_ T) (i2 : IC_ (N + 1) T2) (j2 : IR_ T2) (f1 : fr_ [(106, [5]), (103, [3, 4, 5, 14, 15]), (466, []), (467, []), (468, []), (472, []), (471, []), (469, []), (470, []), (473, []), (190, []), (191, [0])] T T1) (d1 : (LP_ (N + 1) T1 ∧ lh_ T T1 ∧ T1 191 0 0 ≤ T 191 0 0 + 600) ∧ ((x1 = -2 ∧ ¬ (0 ≤ m ∧ m < T 106 0 4) ∧ T = T1) ∨ ((0 ≤ m ∧ m < T 106 0 4) ∧ ((T 102 m 10 = 0 ∧ x1 = -11 ∧ T = T1) ∨ (¬ (T 102 m 10 = 0) ∧ ((lw9_ (rlm_ (fun w => T 401 (T 103 m 0) w)) (rs9_ T m) k s p q ≠ 0 ∧ x1 = -10 - lw9_ (rlm_ (fun w => T 401 (T 103 m 0) w)) (rs9_ T m) k s p q ∧ T = T1) ∨ (lw9_ (rlm_ (fun w => T 401 (T 103 m 0) w)) (rs9_ T m) k s p q = 0 ∧ 3000 ≤ T 106 0 5 ∧ x1 = -5 ∧ T = T1) ∨ (lw9_ (rlm_ (fun w => T 401 (T 103 m 0) w)) (rs9_ T m) k s p q = 0 ∧ T 106 0 5 < 3000 ∧ T1 106 0 5 = T 106 0 5 + 1 ∧ rs9_ T1 m = ca9_ (rlm_ (fun w => T 401 (T 103 m 0) w)) (rs9_ T m) k s p q ∧ hr9_ T1 (T1 103 m 14) (T1 103 m 15).toNat = hr9_ T (T 103 m 14) (T 103 m 15).toNat ++ [(k, s, p, q)] ∧ x1 = T1 103 m 15 ∧ T1 103 m 15 = T 103 m 15 + 1 ∧ T1 103 m 17 = T 103 m 17 ∧ OMH_ T T1 m))))))) (f2 : fr_ [(111, [47]), (248, []), (249, []), (250, []), (251, []), (252, []), (253, []), (254, []), (256, []), (244, []), (241, []), (242, []), (243, []), (245, []), (246, []), (236, []), (237, []), (235, [])] T1 T2) (d2 : (FM_ T2 ∧ RX_ T2 [] ∧ ZS_ T2 ∧ GX_ T2 (-1) ∧ (∀ j, j ≠ m ∨ T1 111 0 29 ≤ j → T2 254 0 j = T1 254 0 j ∧ T2 256 0 j = T1 256 0 j) ∧ ((x2 = -2 ∧ ¬ (0 ≤ m ∧ m < T1 111 0 29) ∧ T1 = T2) ∨ ((0 ≤ m ∧ m < T1 111 0 29) ∧ ((lwR_ (rlm_ (fun w => T1 205 0 (23 * T1 230 0 m + w))) (rp9_ T1 m) k s p q ≠ 0 ∧ x2 = -10 - lwR_ (rlm_ (fun w => T1 205 0 (23 * T1 230 0 m + w))) (rp9_ T1 m) k s p q ∧ T1 = T2) ∨ (lwR_ (rlm_ (fun w => T1 205 0 (23 * T1 230 0 m + w))) (rp9_ T1 m) k s p q = 0 ∧ T1 111 0 47 = 3000 ∧ x2 = -5 ∧ T1 = T2) ∨ (lwR_ (rlm_ (fun w => T1 205 0 (23 * T1 230 0 m + w))) (rp9_ T1 m) k s p q = 0 ∧ T1 111 0 47 ≠ 3000 ∧ T2 111 0 47 = T1 111 0 47 + 1 ∧ rp9_ T2 m = plR_ (rlm_ (fun w => T1 205 0 (23 * T1 230 0 m + w))) (rp9_ T1 m) m k s p q ∧ rw9_ T2 m = rw9_ T1 m ++ [(k, s, p, q)] ∧ x2 = T2 254 0 m ∧ T2 256 0 m = T1 256 0 m ∧ OMR_ T1 T2 m)))))) : x1 = x2 ∧ PLR_ T2 ∧ LDR_ T2 ∧ RCR_ T2 := by
  have c4 : T1 106 0 4 = T 106 0 4 := f1 106 0 4 rfl
  have c29 : T1 111 0 29 = T 111 0 29 := f1 111 0 29 rfl
  have c47 : T1 111 0 47 = T 111 0 47 := f1 111 0 47 rfl
  have v4 : T2 106 0 4 = T1 106 0 4 := f2 106 0 4 rfl
  have v5 : T2 106 0 5 = T1 106 0 5 := f2 106 0 5 rfl
  have v29 : T2 111 0 29 = T1 111 0 29 := f2 111 0 29 rfl
  have mm := hM.1
  have h5 : T 106 0 5 = T 111 0 47 := hC
  have kR : ∀ j, KRM_ T T1 j := fun j => kqm_s (ks_f f1 (by decide +kernel))
  have kH : ∀ j, KHM_ T1 T2 j := fun j => khm_s (ks_f f2 (by decide +kernel))
  obtain ⟨⟨-, lh, -⟩, d1⟩ := d1
  obtain ⟨-, -, -, -, -, d2⟩ := d2
  rcases d1 with ⟨rfl, hn, rfl⟩ | ⟨hm, d1⟩
  · rcases d2 with ⟨rfl, -, rfl⟩ | ⟨hm2, -⟩
    · exact ⟨rfl, hP, hL, hC⟩
    · exfalso; omega
  · have g := hP.1 m hm.1 hm.2
    obtain ⟨-, d2⟩ := d2.resolve_left (fun z => z.2.1 (by omega))
    have hc : 0 ≤ T 102 m 0 ∧ T 102 m 0 < T 106 0 2 := (hI.1.2.1 m hm.1 hm.2).2
    have r2 : rlm_ (fun w => T1 205 0 (23 * T1 230 0 m + w)) = ruH_ T m := Eq.trans (rlm_e (fun w _ _ => by
      show T1 205 0 (23 * T1 230 0 m + w) = T 205 0 (23 * T 230 0 m + w)
      rw [f1 230 0 m rfl, f1 205 0 (23 * T 230 0 m + w) rfl])) (ru_q hX (hM.2 m hm.1 hm.2).1 hc)
    rw [r2, (kR m).1] at d2
    rcases d1 with ⟨h0, rfl, rfl⟩ | ⟨h0, d1⟩
    · have l1 : lwR_ (ruH_ T m) (rp9_ T m) k s p q = 1 := lwR_1 (by
        rw [rp_35]
        rcases g.2 with z | z | z
        · have := z.2.2.1; omega
        · have := z.2.1; omega
        · exact absurd h0 z.2.1)
      rw [l1] at d2
      rcases d2 with ⟨-, e, rfl⟩ | ⟨z, -⟩ | ⟨z, -⟩
      · exact ⟨by omega, hP, hL, hC⟩
      · exact absurd z (by decide)
      · exact absurd z (by decide)
    · have gc : PCC_ T m := by
        rcases g.2 with z | z | z
        · exact absurd z.2.1 h0
        · exact absurd z.1 h0
        · exact z
      obtain ⟨p1, p2, p3, ⟨n, pn, ps⟩, p5, p6, p7, p8⟩ := gc
      have lp := hI.2.2.2.1 m hm.1 hm.2 h0
      have l1 := lz_b lp.2.1
      have l2 := lz_b lp.2.2.1
      have l3 := lp.1
      have rb := rb_m hR.2.1 hX hc
      have r1 : rlm_ (fun w => T 401 (T 103 m 0) w) = ruH_ T m := by rw [p3]
      have el : lwR_ (ruH_ T m) (rp9_ T m) k s p q = lw9_ (ruH_ T m) (rs9_ T m) k s p q := lw_q ps.1 ps.2.1 (fun t a b => ps.2.2.2.2.2.2.2.2.2 t a b)
      rw [r1] at d1
      rw [el] at d2
      rcases d1 with ⟨a1, e1, rfl⟩ | ⟨a1, a2, e1, rfl⟩ | ⟨a1, a2, a3, a4, a5, e1, a6, a7, a8⟩
      · rcases d2 with ⟨-, e2, rfl⟩ | ⟨z, -⟩ | ⟨z, -⟩
        · exact ⟨by omega, hP, hL, hC⟩
        · exact absurd z a1
        · exact absurd z a1
      · rcases d2 with ⟨z, -⟩ | ⟨-, z, e2, rfl⟩ | ⟨-, z, -⟩
        · exact absurd a1 z
        · exact ⟨by omega, hP, hL, hC⟩
        · exfalso; omega
      · rcases d2 with ⟨z, -⟩ | ⟨-, z, -⟩ | ⟨-, b1, b2, b3, b4, e2, b5, b6⟩
        · exact absurd a1 z
        · exfalso; omega
        · have h3 := (lw_0 a1).1
          have es : rs9_ T2 m = ca9_ (ruH_ T m) (rs9_ T m) k s p q := (rs_n (kH m).1).trans a4
          have e0 : T2 102 m 0 = T 102 m 0 := (f2 102 m 0 rfl).trans (f1 102 m 0 rfl)
          have e401 : ∀ i w, T2 401 i w = T 401 i w := fun i w => (f2 401 i w rfl).trans (f1 401 i w rfl)
          have er : ruH_ T2 m = ruH_ T m := rlm_e (fun w _ _ => by
            show T2 401 (T2 102 m 0) w = T 401 (T 102 m 0) w
            rw [e0, e401])
          have q15 : T2 103 m 15 = T1 103 m 15 := f2 103 m 15 rfl
          have q17 : T2 103 m 17 = T1 103 m 17 := f2 103 m 17 rfl
          have hpc : PCC_ T2 m := by
            refine ⟨(f2 102 m 6 rfl).trans ((f1 102 m 6 rfl).trans p1), ?_, ?_, ⟨n + 3, by omega, ?_⟩, ?_, fun t t0 t1 => ?_, ?_, ?_⟩
            · rw [f2 102 m 10 rfl, f1 102 m 10 rfl]; exact p2
            · rw [f2 103 m 0 rfl, f1 103 m 0 rfl, e0]; exact p3
            · rw [er, b3, es]
              exact si_ca ps rb a1 (fn_t p5 h3) (by omega)
            · rw [es]
              exact fn_ca rb p5 a1
            · rw [e0, e401, f2 449 m t rfl, f1 449 m t rfl]
              exact p6 t t0 t1
            · rw [b4, (kR m).2.1, ← p7, ← a5, f2 103 m 14 rfl, f2 103 m 15 rfl]
              exact hrw_e (fun j _ _ => f2 190 _ j rfl)
            · rw [q17, a7, p8, b5, (kR m).2.2.2]
          have lq := (i2.2.2.2.1 m hm.1 (by omega) hpc.2.1).1
          have ln := pcc_n hpc lq.1 (rx_n j2.2.2.2.2.2.2.2.2.1 hm.1 (by omega))
          have hL1 : LDR_ T1 := ldr_o hL hI.2.2.2.1 hm h0 a8 c4 (f1 102 m 10 rfl) (f1 104 0 4 rfl) (f1 109 0 15 rfl) lh.2 (Or.inr (f1 103 m 16 rfl))
          refine ⟨by omega, plr_s (m := m) hP (by omega) (by omega) (fun _ _ => ⟨shm_c g.1 (fun t => (f2 449 m t rfl).trans (f1 449 m t rfl)) (fun t => (f2 448 m t rfl).trans (f1 448 m t rfl)) (fun t _ _ => (f2 239 0 _ rfl).trans (f1 239 0 _ rfl)) (fun x _ _ => (f2 240 0 _ rfl).trans (f1 240 0 _ rfl)), Or.inr (Or.inr hpc)⟩) (fun j j0 j1 nj => ⟨khm_t (khm_o hL hI.2.2.2.1 hm h0 a8 j0 j1 nj (fun i w => f1 401 i w rfl)) (kH j), kqm_t (kR j) (kqm_o b6 nj j0 (by omega))⟩) (fun j j0 j1 => ?_), ldr_k hL1 ⟨f2 104 0 4 rfl, f2 109 0 15 rfl, f2 191 0 0 rfl, v4⟩ (fun i => ⟨f2 102 i 10 rfl, f2 103 i 14 rfl, f2 103 i 16 rfl⟩), ?_⟩
          · have y := rpe_ (b6.1 j (by omega))
            have y1 : T1 236 0 j = T 236 0 j := f1 236 0 j rfl
            have y2 : T1 237 0 j = T 237 0 j := f1 237 0 j rfl
            omega
          · show T2 106 0 5 = T2 111 0 47
            omega
/-- each row of a run is kept or put aside -/
theorem rn_len {r : Int → Int} : ∀ (l : List Rw_) (x : Rz_), ((l.foldl (stH_ r) x).2.1.length : Int) + (l.foldl (stH_ r) x).2.2 = (x.2.1.length : Int) + x.2.2 + (l.length : Int)
  | [], x => by
    show (x.2.1.length : Int) + x.2.2 = (x.2.1.length : Int) + x.2.2 + ((0 : Nat) : Int)
    omega
  | (k, s, q, o) :: l, x => by
    have h := rn_len (r := r) l (stH_ r x (k, s, q, o))
    show ((l.foldl (stH_ r) (stH_ r x (k, s, q, o))).2.1.length : Int) + (l.foldl (stH_ r) (stH_ r x (k, s, q, o))).2.2 = (x.2.1.length : Int) + x.2.2 + ((l.length + 1 : Nat) : Int)
    have e : ((stH_ r x (k, s, q, o)).2.1.length : Int) + (stH_ r x (k, s, q, o)).2.2 = (x.2.1.length : Int) + x.2.2 + 1 := by
      by_cases z : lw9_ r x.1 k s q o = 0
      · rw [stH_t z]
        show ((x.2.1 ++ [(k, s, q, o)]).length : Int) + x.2.2 = (x.2.1.length : Int) + x.2.2 + 1
        rw [List.length_append]
        show ((x.2.1.length + 1 : Nat) : Int) + x.2.2 = _
        omega
      · rw [stH_f z]
        show (x.2.1.length : Int) + (x.2.2 + 1) = _
        omega
    omega
theorem rn_lh {r : Int → Int} {a : Sg_} {l : List Rw_} : ((rnH_ r a l).2.1.length : Int) + (rnH_ r a l).2.2 = (l.length : Int) := by
  have h := rn_len (r := r) l (a, [], 0)
  have e : ((a, ([] : List Rw_), (0 : Int)) : Rz_).2.1.length = 0 := rfl
  have e2 : ((a, ([] : List Rw_), (0 : Int)) : Rz_).2.2 = 0 := rfl
  rw [e, e2] at h
  unfold rnH_
  omega
/-- a play run anew -/
theorem pl_run {T T1 T2 : Zt} {N m x1 x2 : Int} {l : List Rw_} (hpc : PCC_ T m) (rb : RB9_ (ruH_ T m)) (hl : l.length ≤ 3000) (h17 : 0 ≤ T 103 m 17) (kR : KRM_ T T1 m) (kH : KHM_ T1 T2 m) (e16 : T1 102 m 6 = T 102 m 6 ∧ T1 102 m 10 = T 102 m 10 ∧ T1 102 m 0 = T 102 m 0 ∧ T1 103 m 0 = T 103 m 0) (e401 : ∀ i w, T1 401 i w = T 401 i w) (e449 : ∀ t, T1 449 m t = T 449 m t) (f190 : ∀ i j, T2 190 i j = T1 190 i j) (h15 : 0 ≤ T2 103 m 15) (a : RNH_ (ruH_ T m) m x1 T T1 l) (b : RNR_ (ruH_ T m) m x2 T1 T2 l) : x1 = x2 ∧ PCC_ T2 m := by
  obtain ⟨p1, p2, p3, ⟨n, pn, ps⟩, p5, p6, p7, p8⟩ := hpc
  obtain ⟨a1, a2, a3, a4⟩ := a
  obtain ⟨bb, b0, b1, b2, b3, b4⟩ := b
  obtain ⟨k1, ⟨k2, k3, k4⟩, ⟨k5, k6, k7, k8⟩, k9, k0⟩ := kH
  obtain ⟨e1, e2, e3, e4⟩ := e16
  rw [kR.1] at b0
  have ws := ps.2.1
  have eq := ps.1
  have g9 : ruH_ T m 9 = T 401 (T 102 m 0) 9 := rlm_v (f := fun w => T 401 (T 102 m 0) w) (by decide) (by decide)
  have r49 : ∀ t, rs9_ T m 449 t = T 449 m t := fun t => rs_d rfl
  have sb := si_bg (m := m) (r := ruH_ T m) (a0 := rp9_ T m) (b := bb) (a := rs9_ T m) rb (fun t t0 t1 => by
      have y := ws.1 t t0 t1
      have z := p6 t t0 t1
      rw [g9]
      rw [r49] at y ⊢
      omega) ws.2.2.2.2 (fun t t0 t1 => (eq_j eq t0 t1).1) (fun t x t0 t1 x0 x1 => (eq.2.2.2.2 t x t0 t1 x0 x1).1) b0
  have rn := rn_q (m := m) (l := l) rb sb.1 sb.2 (by omega)
  have es : rs9_ T2 m = (rnH_ (ruH_ T m) (bb9_ (ruH_ T m) (rs9_ T m)) l).1 := (rs_n k1).trans a1
  have e5 : x1 = x2 := by rw [a3, b3, rn.2.2]
  have e0 : T2 102 m 0 = T 102 m 0 := by omega
  have e41 : ∀ w, T2 401 (T 102 m 0) w = T 401 (T 102 m 0) w := fun w => by
    rw [e3] at k9
    exact (k9 w).trans (e401 _ w)
  have er : ruH_ T2 m = ruH_ T m := rlm_e (fun w _ _ => by
    show T2 401 (T2 102 m 0) w = T 401 (T 102 m 0) w
    rw [e0, e41])
  have ll := congrArg List.length a2
  rw [hrw_l] at ll
  have lr := rn_lh (r := ruH_ T m) (a := bb9_ (ruH_ T m) (rs9_ T m)) (l := l)
  refine ⟨e5, by omega, by omega, by omega, ⟨3 * (l.length : Int), by omega, ?_⟩, ?_, fun t t0 t1 => ?_, ?_, ?_⟩
  · rw [er, b1, es]
    exact rn.1
  · rw [es]
    exact rn.2.1
  · rw [e0, e41, show T2 449 m t = T 449 m t from (k1 449 t rfl).trans (e449 t)]
    exact p6 t t0 t1
  · rw [b2, rn.2.2, ← a2, k6, k7]
    exact hrw_e (fun j _ _ => f190 _ j)
  · rw [k8, a4, b4, kR.2.2.2, p8, e5]
/-- kinds and sides, told by both -/
theorem ev_kk {r k s : Int} : ((k = 0 ∨ (0 ≤ s ∧ s ≤ 1)) ∧ ((r = 0 ∧ 0 ≤ k ∧ k ≤ 5) ∨ (r = 1 ∧ (k = 1 ∨ k = 5)) ∨ (r = 2 ∧ (k = 1 ∨ k = 6)) ∨ (¬ r = 0 ∧ ¬ r = 1 ∧ ¬ r = 2 ∧ 1 ≤ k ∧ k ≤ 4))) ↔ (((r = 0 ∧ 0 ≤ k ∧ k ≤ 5) ∨ (r = 1 ∧ (k = 1 ∨ k = 5)) ∨ (r = 2 ∧ (k = 1 ∨ k = 6)) ∨ (¬ r = 0 ∧ ¬ r = 1 ∧ ¬ r = 2 ∧ 1 ≤ k ∧ k ≤ 4)) ∧ ((r = 0 ∧ k = 0) ∨ (0 ≤ s ∧ s ≤ 1))) := by
  constructor
  · rintro ⟨a, b⟩
    refine ⟨b, ?_⟩
    rcases a with a | a
    · refine Or.inl ⟨?_, a⟩
      rcases b with b | b | b | b
      · exact b.1
      · omega
      · omega
      · omega
    · exact Or.inr a
  · rintro ⟨b, a⟩
    refine ⟨?_, b⟩
    rcases a with a | a
    · exact Or.inl a.2
    · exact Or.inr a
/-- a review -/
theorem pl_review {T T1 T2 : Zt} {N m i k s p q x1 x2 : Int} (hI : IC_ N T) (hR : IR_ T) (hP : PLR_ T) (hL : LDR_ T) (hC : RCR_ T) (hX : TXR_ T) (hM : MAR_ T) (i2 : IC_ (N + 1) T2) (j2 : IR_ T2) (f1 : fr_ [(103, [3, 4, 5, 15, 16, 17]), (466, []), (467, []), (468, []), (469, []), (472, []), (473, []), (470, []), (471, []), (190, []), (191, [0])] T T1) (d1 : (LP_ (N + 1) T1 ∧ lh_ T T1 ∧ T1 191 0 0 ≤ T 191 0 0 + 600) ∧ ((x1 = -2 ∧ ¬ ((0 ≤ m ∧ m < T 106 0 4) ∧ ¬ (T 102 m 10 = 0) ∧ 0 ≤ i ∧ i < T 103 m 15) ∧ T = T1) ∨ (((0 ≤ m ∧ m < T 106 0 4) ∧ ¬ (T 102 m 10 = 0) ∧ 0 ≤ i ∧ i < T 103 m 15) ∧ OMH_ T T1 m ∧ ((k = -1 ∧ RNH_ (rlm_ (fun w => T 401 (T 103 m 0) w)) m x1 T T1 ((hr9_ T (T 103 m 14) (T 103 m 15).toNat).eraseIdx i.toNat)) ∨ (k ≠ -1 ∧ ((¬ ((k = 0 ∨ (0 ≤ s ∧ s ≤ 1)) ∧ (((rlm_ (fun w => T 401 (T 103 m 0) w)) 0 = 0 ∧ 0 ≤ k ∧ k ≤ 5) ∨ ((rlm_ (fun w => T 401 (T 103 m 0) w)) 0 = 1 ∧ (k = 1 ∨ k = 5)) ∨ ((rlm_ (fun w => T 401 (T 103 m 0) w)) 0 = 2 ∧ (k = 1 ∨ k = 6)) ∨ (¬ (rlm_ (fun w => T 401 (T 103 m 0) w)) 0 = 0 ∧ ¬ (rlm_ (fun w => T 401 (T 103 m 0) w)) 0 = 1 ∧ ¬ (rlm_ (fun w => T 401 (T 103 m 0) w)) 0 = 2 ∧ 1 ≤ k ∧ k ≤ 4))) ∧ x1 = -12 ∧ T = T1) ∨ (((k = 0 ∨ (0 ≤ s ∧ s ≤ 1)) ∧ (((rlm_ (fun w => T 401 (T 103 m 0) w)) 0 = 0 ∧ 0 ≤ k ∧ k ≤ 5) ∨ ((rlm_ (fun w => T 401 (T 103 m 0) w)) 0 = 1 ∧ (k = 1 ∨ k = 5)) ∨ ((rlm_ (fun w => T 401 (T 103 m 0) w)) 0 = 2 ∧ (k = 1 ∨ k = 6)) ∨ (¬ (rlm_ (fun w => T 401 (T 103 m 0) w)) 0 = 0 ∧ ¬ (rlm_ (fun w => T 401 (T 103 m 0) w)) 0 = 1 ∧ ¬ (rlm_ (fun w => T 401 (T 103 m 0) w)) 0 = 2 ∧ 1 ≤ k ∧ k ≤ 4))) ∧ ¬ ((rlm_ (fun w => T 401 (T 103 m 0) w)) 0 ≠ 3 ∨ k ≠ 1 ∨ (1 ≤ q ∧ q ≤ 4)) ∧ x1 = -17 ∧ T = T1) ∨ (((k = 0 ∨ (0 ≤ s ∧ s ≤ 1)) ∧ (((rlm_ (fun w => T 401 (T 103 m 0) w)) 0 = 0 ∧ 0 ≤ k ∧ k ≤ 5) ∨ ((rlm_ (fun w => T 401 (T 103 m 0) w)) 0 = 1 ∧ (k = 1 ∨ k = 5)) ∨ ((rlm_ (fun w => T 401 (T 103 m 0) w)) 0 = 2 ∧ (k = 1 ∨ k = 6)) ∨ (¬ (rlm_ (fun w => T 401 (T 103 m 0) w)) 0 = 0 ∧ ¬ (rlm_ (fun w => T 401 (T 103 m 0) w)) 0 = 1 ∧ ¬ (rlm_ (fun w => T 401 (T 103 m 0) w)) 0 = 2 ∧ 1 ≤ k ∧ k ≤ 4))) ∧ ((rlm_ (fun w => T 401 (T 103 m 0) w)) 0 ≠ 3 ∨ k ≠ 1 ∨ (1 ≤ q ∧ q ≤ 4)) ∧ (hr9_ T (T 103 m 14) (T 103 m 15).toNat)[i.toNat]? = some (k, s, p, q) ∧ x1 = -20 ∧ T = T1) ∨ (((k = 0 ∨ (0 ≤ s ∧ s ≤ 1)) ∧ (((rlm_ (fun w => T 401 (T 103 m 0) w)) 0 = 0 ∧ 0 ≤ k ∧ k ≤ 5) ∨ ((rlm_ (fun w => T 401 (T 103 m 0) w)) 0 = 1 ∧ (k = 1 ∨ k = 5)) ∨ ((rlm_ (fun w => T 401 (T 103 m 0) w)) 0 = 2 ∧ (k = 1 ∨ k = 6)) ∨ (¬ (rlm_ (fun w => T 401 (T 103 m 0) w)) 0 = 0 ∧ ¬ (rlm_ (fun w => T 401 (T 103 m 0) w)) 0 = 1 ∧ ¬ (rlm_ (fun w => T 401 (T 103 m 0) w)) 0 = 2 ∧ 1 ≤ k ∧ k ≤ 4))) ∧ ((rlm_ (fun w => T 401 (T 103 m 0) w)) 0 ≠ 3 ∨ k ≠ 1 ∨ (1 ≤ q ∧ q ≤ 4)) ∧ ¬ ((hr9_ T (T 103 m 14) (T 103 m 15).toNat)[i.toNat]? = some (k, s, p, q)) ∧ RNH_ (rlm_ (fun w => T 401 (T 103 m 0) w)) m x1 T T1 ((hr9_ T (T 103 m 14) (T 103 m 15).toNat).set i.toNat (k, s, p, q))))))))) (f2 : fr_ [(252, []), (253, []), (255, []), (254, []), (256, []), (244, []), (241, []), (242, []), (243, []), (245, []), (246, []), (236, []), (237, []), (235, []), (248, []), (249, []), (250, []), (251, [])] T1 T2) (d2 : (FM_ T2 ∧ RX_ T2 [] ∧ ZS_ T2 ∧ GX_ T2 (-1) ∧ (∀ j, j ≠ m ∨ T1 111 0 29 ≤ j → T2 254 0 j = T1 254 0 j ∧ T2 256 0 j = T1 256 0 j) ∧ ((x2 = -2 ∧ ¬ ((0 ≤ m ∧ m < T1 111 0 29) ∧ 0 ≤ i ∧ i < T1 254 0 m) ∧ T1 = T2) ∨ (((0 ≤ m ∧ m < T1 111 0 29) ∧ 0 ≤ i ∧ i < T1 254 0 m) ∧ OMR_ T1 T2 m ∧ ((k = -1 ∧ RNR_ (rlm_ (fun w => T1 205 0 (23 * T1 230 0 m + w))) m x2 T1 T2 ((rw9_ T1 m).eraseIdx i.toNat)) ∨ (k ≠ -1 ∧ ((¬ ((((rlm_ (fun w => T1 205 0 (23 * T1 230 0 m + w))) 0 = 0 ∧ 0 ≤ k ∧ k ≤ 5) ∨ ((rlm_ (fun w => T1 205 0 (23 * T1 230 0 m + w))) 0 = 1 ∧ (k = 1 ∨ k = 5)) ∨ ((rlm_ (fun w => T1 205 0 (23 * T1 230 0 m + w))) 0 = 2 ∧ (k = 1 ∨ k = 6)) ∨ (¬ (rlm_ (fun w => T1 205 0 (23 * T1 230 0 m + w))) 0 = 0 ∧ ¬ (rlm_ (fun w => T1 205 0 (23 * T1 230 0 m + w))) 0 = 1 ∧ ¬ (rlm_ (fun w => T1 205 0 (23 * T1 230 0 m + w))) 0 = 2 ∧ 1 ≤ k ∧ k ≤ 4)) ∧ (((rlm_ (fun w => T1 205 0 (23 * T1 230 0 m + w))) 0 = 0 ∧ k = 0) ∨ (0 ≤ s ∧ s ≤ 1))) ∧ x2 = -12 ∧ T1 = T2) ∨ (((((rlm_ (fun w => T1 205 0 (23 * T1 230 0 m + w))) 0 = 0 ∧ 0 ≤ k ∧ k ≤ 5) ∨ ((rlm_ (fun w => T1 205 0 (23 * T1 230 0 m + w))) 0 = 1 ∧ (k = 1 ∨ k = 5)) ∨ ((rlm_ (fun w => T1 205 0 (23 * T1 230 0 m + w))) 0 = 2 ∧ (k = 1 ∨ k = 6)) ∨ (¬ (rlm_ (fun w => T1 205 0 (23 * T1 230 0 m + w))) 0 = 0 ∧ ¬ (rlm_ (fun w => T1 205 0 (23 * T1 230 0 m + w))) 0 = 1 ∧ ¬ (rlm_ (fun w => T1 205 0 (23 * T1 230 0 m + w))) 0 = 2 ∧ 1 ≤ k ∧ k ≤ 4)) ∧ (((rlm_ (fun w => T1 205 0 (23 * T1 230 0 m + w))) 0 = 0 ∧ k = 0) ∨ (0 ≤ s ∧ s ≤ 1))) ∧ ¬ ((rlm_ (fun w => T1 205 0 (23 * T1 230 0 m + w))) 0 ≠ 3 ∨ k ≠ 1 ∨ (1 ≤ q ∧ q ≤ 4)) ∧ x2 = -17 ∧ T1 = T2) ∨ (((((rlm_ (fun w => T1 205 0 (23 * T1 230 0 m + w))) 0 = 0 ∧ 0 ≤ k ∧ k ≤ 5) ∨ ((rlm_ (fun w => T1 205 0 (23 * T1 230 0 m + w))) 0 = 1 ∧ (k = 1 ∨ k = 5)) ∨ ((rlm_ (fun w => T1 205 0 (23 * T1 230 0 m + w))) 0 = 2 ∧ (k = 1 ∨ k = 6)) ∨ (¬ (rlm_ (fun w => T1 205 0 (23 * T1 230 0 m + w))) 0 = 0 ∧ ¬ (rlm_ (fun w => T1 205 0 (23 * T1 230 0 m + w))) 0 = 1 ∧ ¬ (rlm_ (fun w => T1 205 0 (23 * T1 230 0 m + w))) 0 = 2 ∧ 1 ≤ k ∧ k ≤ 4)) ∧ (((rlm_ (fun w => T1 205 0 (23 * T1 230 0 m + w))) 0 = 0 ∧ k = 0) ∨ (0 ≤ s ∧ s ≤ 1))) ∧ ((rlm_ (fun w => T1 205 0 (23 * T1 230 0 m + w))) 0 ≠ 3 ∨ k ≠ 1 ∨ (1 ≤ q ∧ q ≤ 4)) ∧ (rw9_ T1 m)[i.toNat]? = some (k, s, p, q) ∧ x2 = -20 ∧ T1 = T2) ∨ (((((rlm_ (fun w => T1 205 0 (23 * T1 230 0 m + w))) 0 = 0 ∧ 0 ≤ k ∧ k ≤ 5) ∨ ((rlm_ (fun w => T1 205 0 (23 * T1 230 0 m + w))) 0 = 1 ∧ (k = 1 ∨ k = 5)) ∨ ((rlm_ (fun w => T1 205 0 (23 * T1 230 0 m + w))) 0 = 2 ∧ (k = 1 ∨ k = 6)) ∨ (¬ (rlm_ (fun w => T1 205 0 (23 * T1 230 0 m + w))) 0 = 0 ∧ ¬ (rlm_ (fun w => T1 205 0 (23 * T1 230 0 m + w))) 0 = 1 ∧ ¬ (rlm_ (fun w => T1 205 0 (23 * T1 230 0 m + w))) 0 = 2 ∧ 1 ≤ k ∧ k ≤ 4)) ∧ (((rlm_ (fun w => T1 205 0 (23 * T1 230 0 m + w))) 0 = 0 ∧ k = 0) ∨ (0 ≤ s ∧ s ≤ 1))) ∧ ((rlm_ (fun w => T1 205 0 (23 * T1 230 0 m + w))) 0 ≠ 3 ∨ k ≠ 1 ∨ (1 ≤ q ∧ q ≤ 4)) ∧ ¬ ((rw9_ T1 m)[i.toNat]? = some (k, s, p, q)) ∧ RNR_ (rlm_ (fun w => T1 205 0 (23 * T1 230 0 m + w))) m x2 T1 T2 ((rw9_ T1 m).set i.toNat (k, s, p, q)))))))))) : x1 = x2 ∧ PLR_ T2 ∧ LDR_ T2 ∧ RCR_ T2 := by
  have c4 : T1 106 0 4 = T 106 0 4 := f1 106 0 4 rfl
  have c29 : T1 111 0 29 = T 111 0 29 := f1 111 0 29 rfl
  have v4 : T2 106 0 4 = T1 106 0 4 := f2 106 0 4 rfl
  have v29 : T2 111 0 29 = T1 111 0 29 := f2 111 0 29 rfl
  have mm := hM.1
  have kR : ∀ j, KRM_ T T1 j := fun j => kqm_s (ks_f f1 (by decide +kernel))
  have kH : ∀ j, KHM_ T1 T2 j := fun j => khm_s (ks_f f2 (by decide +kernel))
  have hC2 : RCR_ T2 := by
    show T2 106 0 5 = T2 111 0 47
    rw [f2 106 0 5 rfl, f1 106 0 5 rfl, f2 111 0 47 rfl, f1 111 0 47 rfl]
    exact hC
  obtain ⟨⟨-, lh, -⟩, d1⟩ := d1
  obtain ⟨-, -, -, -, -, d2⟩ := d2
  have n54 : ∀ j, 0 ≤ j → j < T 106 0 4 → (T 102 j 10 = 0 → T 254 0 j = 0) ∧ (T 102 j 10 ≠ 0 → T 103 j 15 = T 254 0 j ∧ PCC_ T j) := fun j j0 j1 => by
    rcases (hP.1 j j0 j1).2 with z | z | z
    · exact ⟨fun _ => z.2.2.2.2.2.1, fun y => absurd z.2.1 y⟩
    · exact ⟨fun _ => z.2.2.2.1, fun y => absurd z.1 y⟩
    · exact ⟨fun y => absurd y z.2.1, fun y => ⟨pcc_n z (hI.2.2.2.1 j j0 j1 y).1.1 (rx_n hR.2.2.2.2.2.2.2.2.1 j0 (by omega)), z⟩⟩
  have q54 : T1 254 0 m = T 254 0 m := (kR m).2.2.1
  rcases d1 with ⟨rfl, hn, rfl⟩ | ⟨⟨hm, h0, hi0, hi1⟩, oh, d1⟩
  · rcases d2 with ⟨rfl, -, rfl⟩ | ⟨⟨hm2, hj0, hj1⟩, -⟩
    · exact ⟨rfl, hP, hL, hC⟩
    · exfalso
      have y := n54 m hm2.1 (by omega)
      by_cases z : T 102 m 10 = 0
      · have := y.1 z; omega
      · have := (y.2 z).1; exact hn ⟨by omega, z, hj0, by omega⟩
  · have y := (n54 m hm.1 hm.2).2 h0
    have hpc := y.2
    have hm2 : 0 ≤ m ∧ m < T1 111 0 29 := by clear d1 d2; omega
    obtain ⟨-, orr, d2⟩ := d2.resolve_left (fun z => z.2.1 ⟨hm2, hi0, by have := y.1; clear d1 d2 z; omega⟩)
    have hc : 0 ≤ T 102 m 0 ∧ T 102 m 0 < T 106 0 2 := (hI.1.2.1 m hm.1 hm.2).2
    have rb := rb_m hR.2.1 hX hc
    have r2 : rlm_ (fun w => T1 205 0 (23 * T1 230 0 m + w)) = ruH_ T m := Eq.trans (rlm_e (fun w _ _ => by
      show T1 205 0 (23 * T1 230 0 m + w) = T 205 0 (23 * T 230 0 m + w)
      rw [f1 230 0 m rfl, f1 205 0 (23 * T 230 0 m + w) rfl])) (ru_q hX (hM.2 m hm.1 hm.2).1 hc)
    have r1 : rlm_ (fun w => T 401 (T 103 m 0) w) = ruH_ T m := by rw [hpc.2.2.1]
    rw [r1, hpc.2.2.2.2.2.2.1] at d1
    rw [r2, (kR m).2.1] at d2
    have lp := hI.2.2.2.1 m hm.1 hm.2 h0
    have l1 := lz_b lp.2.1
    have l3 := lp.1
    have lw : (rw9_ T m).length ≤ 2000 := by
      clear d1 d2
      rw [rw_n]
      omega
    have go : ∀ l : List Rw_, l.length ≤ 3000 → RNH_ (ruH_ T m) m x1 T T1 l → RNR_ (ruH_ T m) m x2 T1 T2 l → x1 = x2 ∧ PLR_ T2 ∧ LDR_ T2 ∧ RCR_ T2 := fun l hl a b => by
      clear d1 d2
      have e10 : T2 102 m 10 ≠ 0 := by
        rw [f2 102 m 10 rfl, f1 102 m 10 rfl]
        exact h0
      have lq := (i2.2.2.2.1 m hm.1 (by omega) e10).1
      have pr := pl_run (N := N) hpc rb hl l3.2.1 (kR m) (kH m) ⟨f1 102 m 6 rfl, f1 102 m 10 rfl, f1 102 m 0 rfl, f1 103 m 0 rfl⟩ (fun i w => f1 401 i w rfl) (fun t => f1 449 m t rfl) (fun i j => f2 190 i j rfl) lq.1 a b
      have hL1 : LDR_ T1 := ldr_o hL hI.2.2.2.1 hm h0 oh c4 (f1 102 m 10 rfl) (f1 104 0 4 rfl) (f1 109 0 15 rfl) lh.2 (Or.inl (f1 103 m 14 rfl))
      refine ⟨pr.1, plr_s (m := m) hP (by omega) (by omega) (fun _ _ => ⟨shm_c (hP.1 m hm.1 hm.2).1 (fun t => (f2 449 m t rfl).trans (f1 449 m t rfl)) (fun t => (f2 448 m t rfl).trans (f1 448 m t rfl)) (fun t _ _ => (f2 239 0 _ rfl).trans (f1 239 0 _ rfl)) (fun x _ _ => (f2 240 0 _ rfl).trans (f1 240 0 _ rfl)), Or.inr (Or.inr pr.2)⟩) (fun j j0 j1 nj => ⟨khm_t (khm_o hL hI.2.2.2.1 hm h0 oh j0 j1 nj (fun i w => f1 401 i w rfl)) (kH j), kqm_t (kR j) (kqm_o orr nj j0 (by omega))⟩) (fun j j0 j1 => ?_), ldr_k hL1 ⟨f2 104 0 4 rfl, f2 109 0 15 rfl, f2 191 0 0 rfl, v4⟩ (fun i => ⟨f2 102 i 10 rfl, f2 103 i 14 rfl, f2 103 i 16 rfl⟩), hC2⟩
      have w := rpe_ (orr.1 j (by omega))
      have y1 : T1 236 0 j = T 236 0 j := f1 236 0 j rfl
      have y2 : T1 237 0 j = T 237 0 j := f1 237 0 j rfl
      omega
    rcases d1 with ⟨a0, a1⟩ | ⟨a0, d1⟩
    · rcases d2 with ⟨-, b1⟩ | ⟨b0, -⟩
      · exact go _ (by have := List.length_eraseIdx_le (rw9_ T m) i.toNat; clear d2; omega) a1 b1
      · exact absurd a0 b0
    · obtain ⟨-, d2⟩ := d2.resolve_left (fun z => a0 z.1)
      rcases d1 with ⟨a1, e1, rfl⟩ | ⟨a1, a2, e1, rfl⟩ | ⟨a1, a2, a3, e1, rfl⟩ | ⟨a1, a2, a3, a4⟩
      · rcases d2 with ⟨-, e2, rfl⟩ | ⟨z, -⟩ | ⟨z, -⟩ | ⟨z, -⟩
        · exact ⟨e1.trans e2.symm, hP, hL, hC⟩
        · exact absurd (ev_kk.mpr z) a1
        · exact absurd (ev_kk.mpr z) a1
        · exact absurd (ev_kk.mpr z) a1
      · rcases d2 with ⟨z, -⟩ | ⟨-, -, e2, rfl⟩ | ⟨-, z, -⟩ | ⟨-, z, -⟩
        · exact absurd (ev_kk.mp a1) z
        · exact ⟨e1.trans e2.symm, hP, hL, hC⟩
        · exact absurd z a2
        · exact absurd z a2
      · rcases d2 with ⟨z, -⟩ | ⟨-, z, -⟩ | ⟨-, -, -, e2, rfl⟩ | ⟨-, -, z, -⟩
        · exact absurd (ev_kk.mp a1) z
        · exact absurd a2 z
        · exact ⟨e1.trans e2.symm, hP, hL, hC⟩
        · exact absurd a3 z
      · rcases d2 with ⟨z, -⟩ | ⟨-, z, -⟩ | ⟨-, -, z, -⟩ | ⟨-, -, -, b4⟩
        · exact absurd (ev_kk.mp a1) z
        · exact absurd a2 z
        · exact absurd z a3
        · exact go _ (by rw [List.length_set]; exact Nat.le_trans lw (by decide)) a4 b4
theorem rw_0 {T : Zt} {m : Int} (h : T 254 0 m = 0) : rw9_ T m = [] := List.eq_nil_of_length_eq_zero (by rw [rw_n, h]; rfl)
/-- whether a match is told only -/
theorem pm_0 {T : Zt} {m : Int} (h : PM_ T m) : (T 102 m 6 = -1 ∧ T 102 m 10 = 0) ↔ T 235 0 m = 0 := by
  rcases h with z | z | z
  · exact ⟨fun _ => z.2.2.1, fun _ => ⟨z.1, z.2.1⟩⟩
  · have y := z.2.2.1
    have w := z.2.1
    constructor
    · intro u; omega
    · intro u; omega
  · have y := z.2.2.2.1
    obtain ⟨n, -, ps⟩ := y
    have e := ps.1.2.2.1.2.2
    rw [rp_35] at e
    have u := z.2.1
    constructor
    · intro v; omega
    · intro v; omega
theorem pm_3 {T : Zt} {m : Int} (h : PM_ T m) : T 102 m 6 = -1 ↔ T 235 0 m ≠ 3 := by
  rcases h with z | z | z
  · have y := z.2.2.1
    have w := z.1
    constructor
    · intro u; omega
    · intro u; omega
  · have y := z.2.2.1
    have w := z.2.1
    constructor
    · intro u; omega
    · intro u; omega
  · obtain ⟨n, -, ps⟩ := z.2.2.2.1
    have e := ps.1.2.2.1.2.2
    rw [rp_35] at e
    have u := z.1
    constructor
    · intro v; omega
    · intro v; omega
/-- a start -/
theorem pl_start {T T1 T2 : Zt} {N m x1 x2 : Int} (hI : IC_ N T) (hR : IR_ T) (hP : PLR_ T) (hL : LDR_ T) (hX : TXR_ T) (hM : MAR_ T) (hD : DAR_ T) (hN : CNR_ T) (f1 : fr_ [(153, []), (103, []), (102, [10]), (466, []), (467, []), (468, []), (469, []), (470, []), (471, []), (472, []), (473, []), (190, []), (191, [0])] T T1) (d1 : (LP_ N T1 ∧ lh_ T T1 ∧ T1 191 0 0 ≤ T 191 0 0 + 600 ∧ NA_ T1 ∧ ∀ k i j, i ≠ m → k ≠ 190 → k ≠ 191 → T1 k i j = T k i j) ∧ ((x1 = -2 ∧ ¬ (0 ≤ m ∧ m < T 106 0 4) ∧ T = T1) ∨ ((0 ≤ m ∧ m < T 106 0 4) ∧ ((x1 = -4 ∧ ¬ ((T 102 m 6 = -1 ∧ T 102 m 10 = 0) ∧ T 102 m 5 = T 108 0 13 ∧ T 401 (T 102 m 0) 9 ≤ T 449 m 0 ∧ T 401 (T 102 m 0) 9 ≤ T 449 m 1) ∧ T = T1) ∨ (x1 = 1 ∧ ((T 102 m 6 = -1 ∧ T 102 m 10 = 0) ∧ T 102 m 5 = T 108 0 13 ∧ T 401 (T 102 m 0) 9 ≤ T 449 m 0 ∧ T 401 (T 102 m 0) 9 ≤ T 449 m 1) ∧ T1 102 m 10 ≠ 0 ∧ T1 103 m 0 = T 102 m 0 ∧ (∃ z : Sg_, (∀ (k : Nat) (j : Int), k = 448 ∨ k = 449 → z k j = rs9_ T m k j) ∧ rs9_ T1 m = bb9_ (rlm_ (fun w => T 401 (T 102 m 0) w)) z) ∧ T1 103 m 14 = T 191 0 0 ∧ T1 103 m 16 = T 191 0 0 + 1 ∧ T1 103 m 15 = 0 ∧ T1 103 m 17 = 0 ∧ (∀ x1 j, x1 < T 191 0 0 → T1 190 x1 j = T 190 x1 j) ∧ ∀ k i j, i ≠ m → k ≠ 190 → k ≠ 191 → T1 k i j = T k i j))))) (f2 : fr_ [(244, []), (241, []), (242, []), (243, []), (245, []), (246, []), (236, []), (237, []), (235, [])] T1 T2) (d2 : ((FM_ T2 ∧ ZS_ T2 ∧ GX_ T2 (-1)) ∧ ((x2 = -2 ∧ ¬ (0 ≤ m ∧ m < T1 111 0 29) ∧ T1 = T2) ∨ ((0 ≤ m ∧ m < T1 111 0 29) ∧ ((x2 = -4 ∧ ¬ (T1 235 0 m = 0 ∧ T1 234 0 m = T1 111 0 3 ∧ T1 205 0 (23 * T1 230 0 m + 9) ≤ T1 239 0 (2 * m) ∧ T1 205 0 (23 * T1 230 0 m + 9) ≤ T1 239 0 (2 * m + 1)) ∧ T1 = T2) ∨ (x2 = 1 ∧ (T1 235 0 m = 0 ∧ T1 234 0 m = T1 111 0 3 ∧ T1 205 0 (23 * T1 230 0 m + 9) ≤ T1 239 0 (2 * m) ∧ T1 205 0 (23 * T1 230 0 m + 9) ≤ T1 239 0 (2 * m + 1)) ∧ BGR_ m (rlm_ (fun w => T1 205 0 (23 * T1 230 0 m + w))) (rp9_ T1 m) (rp9_ T2 m) ∧ ro9_ T1 T2 m)))))) : x1 = x2 ∧ PLR_ T2 ∧ LDR_ T2 := by
  have c4 : T1 106 0 4 = T 106 0 4 := f1 106 0 4 rfl
  have c29 : T1 111 0 29 = T 111 0 29 := f1 111 0 29 rfl
  have v4 : T2 106 0 4 = T1 106 0 4 := f2 106 0 4 rfl
  have v29 : T2 111 0 29 = T1 111 0 29 := f2 111 0 29 rfl
  have mm := hM.1
  have kR : ∀ j, KRM_ T T1 j := fun j => kqm_s (ks_f f1 (by decide +kernel))
  have kH : ∀ j, KHM_ T1 T2 j := fun j => khm_s (ks_f f2 (by decide +kernel))
  obtain ⟨⟨-, lh, -, -, -⟩, d1⟩ := d1
  obtain ⟨-, d2⟩ := d2
  rcases d1 with ⟨rfl, hn, rfl⟩ | ⟨hm, d1⟩
  · rcases d2 with ⟨rfl, -, rfl⟩ | ⟨hm2, -⟩
    · exact ⟨rfl, hP, hL⟩
    · exfalso; omega
  · have g := hP.1 m hm.1 hm.2
    obtain ⟨-, d2⟩ := d2.resolve_left (fun z => z.2.1 (by omega))
    have hc : 0 ≤ T 102 m 0 ∧ T 102 m 0 < T 106 0 2 := (hI.1.2.1 m hm.1 hm.2).2
    have e230 : T1 230 0 m = T 102 m 0 := (f1 230 0 m rfl).trans (hM.2 m hm.1 hm.2).1.symm
    have r2 : rlm_ (fun w => T1 205 0 (23 * T1 230 0 m + w)) = ruH_ T m := Eq.trans (rlm_e (fun w _ _ => by
      show T1 205 0 (23 * T1 230 0 m + w) = T 205 0 (23 * T 230 0 m + w)
      rw [f1 230 0 m rfl, f1 205 0 (23 * T 230 0 m + w) rfl])) (ru_q hX (hM.2 m hm.1 hm.2).1 hc)
    have e9 : T1 205 0 (23 * T1 230 0 m + 9) = T 401 (T 102 m 0) 9 := by
      rw [e230, f1 205 0 (23 * T 102 m 0 + 9) rfl]
      exact ((hX.2.2.2.2 _ hc.1 hc.2).1 9 (by decide) (by decide)).symm
    have s0 := g.1.1 0 (by decide) (by decide)
    have s1 := g.1.1 1 (by decide) (by decide)
    rw [Int.add_zero] at s0
    have t0 : T1 239 0 (2 * m) = T 239 0 (2 * m) := f1 239 0 _ rfl
    have t1 : T1 239 0 (2 * m + 1) = T 239 0 (2 * m + 1) := f1 239 0 _ rfl
    have t2 : T1 235 0 m = T 235 0 m := f1 235 0 m rfl
    have t3 : T1 234 0 m = T 234 0 m := f1 234 0 m rfl
    have t4 : T1 111 0 3 = T 111 0 3 := f1 111 0 3 rfl
    have t5 := hD m hm.1 hm.2
    have t6 := hN.2.2.2
    have t7 := pm_0 g.2
    rw [r2, (kR m).1, e9] at d2
    rcases d1 with ⟨rfl, a1, rfl⟩ | ⟨rfl, a1, a2, a3, ⟨z, z1, z2⟩, a4, a5, a6, a7, a8, a9⟩
    · rcases d2 with ⟨rfl, -, rfl⟩ | ⟨-, y, -⟩
      · exact ⟨rfl, hP, hL⟩
      · exfalso; omega
    · rcases d2 with ⟨-, y, -⟩ | ⟨rfl, -, b1, b2⟩
      · exfalso; omega
      · have pa : PAA_ T m := by
          rcases g.2 with y | y | y
          · exact y
          · exfalso; have := y.2.1; omega
          · exact absurd a1.1.2 y.2.1
        have rb := rb_m hR.2.1 hX hc
        have g9 : ruH_ T m 9 = T 401 (T 102 m 0) 9 := rlm_v (f := fun w => T 401 (T 102 m 0) w) (by decide) (by decide)
        have z49 : ∀ t, z 449 t = T 449 m t := fun t => (z1 449 t (Or.inr rfl)).trans (rs_d rfl)
        have z48 : ∀ t, z 448 t = T 448 m t := fun t => (z1 448 t (Or.inl rfl)).trans (rs_d rfl)
        have sb := si_bg (m := m) (r := ruH_ T m) (a0 := rp9_ T m) (b := rp9_ T2 m) (a := z) rb (fun t u0 u1 => by
            have y := g.1.1 t u0 u1
            rw [g9, z49]
            rcases (by omega : t = 0 ∨ t = 1) with c | c
            · rw [c] at y ⊢; omega
            · rw [c] at y ⊢; omega) (fun t x y u0 u1 x0 x1 y0 y1 e => by
            rw [z49] at x1 y1
            rw [z48, z48] at e
            exact g.1.2.2 t x y u0 u1 x0 x1 y0 y1 e) (fun t u0 u1 => by
            rw [rp_39 u0 u1, z49]
            exact (g.1.1 t u0 u1).1) (fun t x u0 u1 x0 x1 => by
            have y := g.1.1 t u0 u1
            rw [z49] at x1
            rw [rp_40 (by omega) (by omega), z48]
            exact g.1.2.1 t x u0 u1 x0 x1) b1
        have es : rs9_ T2 m = bb9_ (ruH_ T m) z := (rs_n (kH m).1).trans z2
        have e0 : T2 102 m 0 = T 102 m 0 := (f2 102 m 0 rfl).trans (f1 102 m 0 rfl)
        have e401 : ∀ i w, T2 401 i w = T 401 i w := fun i w => (f2 401 i w rfl).trans (f1 401 i w rfl)
        have er : ruH_ T2 m = ruH_ T m := rlm_e (fun w _ _ => by
          show T2 401 (T2 102 m 0) w = T 401 (T 102 m 0) w
          rw [e0, e401])
        have q15 : T2 103 m 15 = T1 103 m 15 := f2 103 m 15 rfl
        have q17 : T2 103 m 17 = T1 103 m 17 := f2 103 m 17 rfl
        have q54 : T2 254 0 m = 0 := (f2 254 0 m rfl).trans ((f1 254 0 m rfl).trans pa.2.2.2.2.2.1)
        have q56 : T2 256 0 m = 0 := (f2 256 0 m rfl).trans ((f1 256 0 m rfl).trans pa.2.2.2.2.2.2)
        have hpc : PCC_ T2 m := by
          refine ⟨(f2 102 m 6 rfl).trans ((f1 102 m 6 rfl).trans pa.1), ?_, ?_, ⟨0, by omega, ?_⟩, ?_, fun t u0 u1 => ?_, ?_, by omega⟩
          · rw [f2 102 m 10 rfl]; exact a2
          · rw [f2 103 m 0 rfl, a3, e0]
          · rw [er, es]
            exact sb.1
          · rw [es]
            exact sb.2
          · rw [e0, e401, f2 449 m t rfl, f1 449 m t rfl]
            rcases (by omega : t = 0 ∨ t = 1) with c | c
            · rw [c]; omega
            · rw [c]; omega
          · rw [rw_0 q54, q15, a6]
            rfl
        have oth : ∀ j, j ≠ m → T1 102 j 10 = T 102 j 10 ∧ T1 103 j 14 = T 103 j 14 ∧ T1 103 j 16 = T 103 j 16 := fun j n => ⟨a9 102 j 10 n (by decide) (by decide), a9 103 j 14 n (by decide) (by decide), a9 103 j 16 n (by decide) (by decide)⟩
        have lo : ∀ j, 0 ≤ j → j < T 106 0 4 → T 102 j 10 ≠ 0 → T 103 j 14 < T 191 0 0 ∧ T 103 j 16 < T 191 0 0 := fun j a b c => ⟨(hI.2.2.2.1 j a b c).1.2.2.2.2.2.1, (hI.2.2.2.1 j a b c).1.2.2.2.2.2.2.1⟩
        have e44 : T1 104 0 4 = T 104 0 4 := f1 104 0 4 rfl
        have e15 : T1 109 0 15 = T 109 0 15 := f1 109 0 15 rfl
        have hL1 : LDR_ T1 := by
          obtain ⟨⟨h1, h2⟩, h3⟩ := hL
          have l2 := lh.2
          refine ⟨⟨by omega, by omega⟩, fun i i0 i1 ip => ?_⟩
          rw [c4] at i1
          by_cases w : i = m
          · rw [w]
            refine ⟨by omega, fun j j0 j1 jp n => ?_⟩
            rw [c4] at j1
            have y := oth j n
            rw [y.1] at jp
            have v := lo j j0 j1 jp
            omega
          · have y := oth i w
            rw [y.1] at ip
            have v := lo i i0 i1 ip
            have u := h3 i i0 i1 ip
            refine ⟨by have := u.1; omega, fun j j0 j1 jp n => ?_⟩
            rw [c4] at j1
            by_cases o : j = m
            · rw [o]
              omega
            · have y2 := oth j o
              rw [y2.1] at jp
              have u2 := u.2 j j0 j1 jp n
              omega
        refine ⟨rfl, plr_s (m := m) hP (by omega) (by omega) (fun _ _ => ⟨shm_c g.1 (fun t => (f2 449 m t rfl).trans (f1 449 m t rfl)) (fun t => (f2 448 m t rfl).trans (f1 448 m t rfl)) (fun t _ _ => (f2 239 0 _ rfl).trans (f1 239 0 _ rfl)) (fun x _ _ => (f2 240 0 _ rfl).trans (f1 240 0 _ rfl)), Or.inr (Or.inr hpc)⟩) (fun j j0 j1 nj => ⟨khm_t ⟨fun k i d => a9 k j i nj (dk_n d).1 (dk_n d).2.1, ⟨f1 102 j 0 rfl, f1 102 j 6 rfl, (oth j nj).1⟩, ⟨a9 103 j 0 nj (by decide) (by decide), (oth j nj).2.1, a9 103 j 15 nj (by decide) (by decide), a9 103 j 17 nj (by decide) (by decide)⟩, fun w => f1 401 _ w rfl, fun q i _ _ => a8 _ i (lo j j0 j1 q).1⟩ (kH j), kqm_t (kR j) ⟨b2 j nj, rw_k (fun k x c => by rcases c with rfl | rfl | rfl | rfl <;> exact f2 _ 0 x rfl) (fun x => f2 252 0 x rfl) (f2 253 0 j rfl) (f2 254 0 j rfl), f2 254 0 j rfl, f2 256 0 j rfl⟩⟩) (fun j j0 j1 => ?_), ldr_k hL1 ⟨f2 104 0 4 rfl, f2 109 0 15 rfl, f2 191 0 0 rfl, v4⟩ (fun i => ⟨f2 102 i 10 rfl, f2 103 i 14 rfl, f2 103 i 16 rfl⟩)⟩
        have w := rpe_ (b2 j (by omega))
        have y1 : T1 236 0 j = T 236 0 j := f1 236 0 j rfl
        have y2 : T1 237 0 j = T 237 0 j := f1 237 0 j rfl
        omega
/-- a walkover -/
theorem pl_walk {T T1 T2 : Zt} {N m s x1 x2 : Int} (hI : IC_ N T) (hP : PLR_ T) (hL : LDR_ T) (hX : TXR_ T) (hM : MAR_ T) (hD : DAR_ T) (hN : CNR_ T) (f1 : fr_ [(102, [6])] T T1) (d1 : ((x1 = -2 ∧ ¬ (0 ≤ m ∧ m < T 106 0 4) ∧ T = T1) ∨ ((0 ≤ m ∧ m < T 106 0 4) ∧ ((x1 = -3 ∧ ¬ (0 ≤ s ∧ s ≤ 1) ∧ T = T1) ∨ ((0 ≤ s ∧ s ≤ 1) ∧ ((x1 = -4 ∧ ¬ ((T 102 m 6 = -1 ∧ T 102 m 10 = 0) ∧ T 102 m 5 ≤ T 108 0 13) ∧ T = T1) ∨ (x1 = 1 ∧ ((T 102 m 6 = -1 ∧ T 102 m 10 = 0) ∧ T 102 m 5 ≤ T 108 0 13) ∧ T1 = up_ T 102 m 6 s))))))) (f2 : fr_ [(235, []), (236, []), (237, [])] T1 T2) (d2 : ((FM_ T2 ∧ ZS_ T2 ∧ GX_ T2 (-1)) ∧ ((x2 = -2 ∧ ¬ (0 ≤ m ∧ m < T1 111 0 29) ∧ T1 = T2) ∨ ((0 ≤ m ∧ m < T1 111 0 29) ∧ ((x2 = -3 ∧ ¬ (0 ≤ s ∧ s ≤ 1) ∧ T1 = T2) ∨ ((0 ≤ s ∧ s ≤ 1) ∧ ((x2 = -4 ∧ ¬ (T1 235 0 m = 0 ∧ T1 234 0 m ≤ T1 111 0 3) ∧ T1 = T2) ∨ (x2 = 1 ∧ (T1 235 0 m = 0 ∧ T1 234 0 m ≤ T1 111 0 3) ∧ T2 235 0 m = 3 ∧ (s = 0 → T2 236 0 m = 0 ∧ T2 237 0 m = T1 205 0 (23 * T1 230 0 m + 12)) ∧ (s = 1 → T2 236 0 m = T1 205 0 (23 * T1 230 0 m + 12) ∧ T2 237 0 m = 0) ∧ ro9_ T1 T2 m)))))))) : x1 = x2 ∧ PLR_ T2 ∧ LDR_ T2 := by
  have c4 : T1 106 0 4 = T 106 0 4 := f1 106 0 4 rfl
  have c29 : T1 111 0 29 = T 111 0 29 := f1 111 0 29 rfl
  have v4 : T2 106 0 4 = T1 106 0 4 := f2 106 0 4 rfl
  have v29 : T2 111 0 29 = T1 111 0 29 := f2 111 0 29 rfl
  have mm := hM.1
  have kR : ∀ j, KRM_ T T1 j := fun j => kqm_s (ks_f f1 (by decide +kernel))
  have kH : ∀ j, KHM_ T1 T2 j := fun j => khm_s (ks_f f2 (by decide +kernel))
  have hL2 : LDR_ T2 := ldr_k hL ⟨(f2 104 0 4 rfl).trans (f1 104 0 4 rfl), (f2 109 0 15 rfl).trans (f1 109 0 15 rfl), (f2 191 0 0 rfl).trans (f1 191 0 0 rfl), v4.trans c4⟩ (fun i => ⟨(f2 102 i 10 rfl).trans (f1 102 i 10 rfl), (f2 103 i 14 rfl).trans (f1 103 i 14 rfl), (f2 103 i 16 rfl).trans (f1 103 i 16 rfl)⟩)
  obtain ⟨-, d2⟩ := d2
  rcases d1 with ⟨rfl, hn, rfl⟩ | ⟨hm, d1⟩
  · rcases d2 with ⟨rfl, -, rfl⟩ | ⟨hm2, -⟩
    · exact ⟨rfl, hP, hL⟩
    · exfalso; omega
  · have g := hP.1 m hm.1 hm.2
    obtain ⟨-, d2⟩ := d2.resolve_left (fun z => z.2.1 (by omega))
    rcases d1 with ⟨rfl, hn, rfl⟩ | ⟨hs, d1⟩
    · rcases d2 with ⟨rfl, -, rfl⟩ | ⟨y, -⟩
      · exact ⟨rfl, hP, hL⟩
      · exact absurd y hn
    · obtain ⟨-, d2⟩ := d2.resolve_left (fun z => z.2.1 hs)
      have hc : 0 ≤ T 102 m 0 ∧ T 102 m 0 < T 106 0 2 := (hI.1.2.1 m hm.1 hm.2).2
      have e230 : T1 230 0 m = T 102 m 0 := (f1 230 0 m rfl).trans (hM.2 m hm.1 hm.2).1.symm
      have e12 : T1 205 0 (23 * T1 230 0 m + 12) = T 401 (T 102 m 0) 12 := by
        rw [e230, f1 205 0 (23 * T 102 m 0 + 12) rfl]
        exact ((hX.2.2.2.2 _ hc.1 hc.2).1 12 (by decide) (by decide)).symm
      have t2 : T1 235 0 m = T 235 0 m := f1 235 0 m rfl
      have t3 : T1 234 0 m = T 234 0 m := f1 234 0 m rfl
      have t4 : T1 111 0 3 = T 111 0 3 := f1 111 0 3 rfl
      have t5 := hD m hm.1 hm.2
      have t6 := hN.2.2.2
      have t7 := pm_0 g.2
      rw [e12] at d2
      rcases d1 with ⟨rfl, a1, rfl⟩ | ⟨rfl, a1, a2⟩
      · rcases d2 with ⟨rfl, -, rfl⟩ | ⟨-, y, -⟩
        · exact ⟨rfl, hP, hL⟩
        · exfalso; omega
      · rcases d2 with ⟨-, y, -⟩ | ⟨rfl, -, b1, b2, b3, b4⟩
        · exfalso; omega
        · have pa : PAA_ T m := by
            rcases g.2 with y | y | y
            · exact y
            · exfalso; have := y.2.1; omega
            · exact absurd a1.1.2 y.2.1
          have e6 : T2 102 m 6 = s := (f2 102 m 6 rfl).trans (up_f a2)
          have q10 : T2 102 m 10 = 0 := (f2 102 m 10 rfl).trans ((f1 102 m 10 rfl).trans pa.2.1)
          have q54 : T2 254 0 m = 0 := (f2 254 0 m rfl).trans ((f1 254 0 m rfl).trans pa.2.2.2.2.2.1)
          have q56 : T2 256 0 m = 0 := (f2 256 0 m rfl).trans ((f1 256 0 m rfl).trans pa.2.2.2.2.2.2)
          have e0 : T2 102 m 0 = T 102 m 0 := (f2 102 m 0 rfl).trans (f1 102 m 0 rfl)
          have e401 : ∀ i w, T2 401 i w = T 401 i w := fun i w => (f2 401 i w rfl).trans (f1 401 i w rfl)
          have hpb : PBB_ T2 m := by
            refine ⟨q10, b1, ?_, q54, q56⟩
            rw [e0, e401, e6]
            rcases (by omega : s = 0 ∨ s = 1) with c | c
            · exact Or.inl ⟨c, b2 c⟩
            · exact Or.inr ⟨c, b3 c⟩
          refine ⟨rfl, plr_s (m := m) hP (by omega) (by omega) (fun _ _ => ⟨shm_c g.1 (fun t => (f2 449 m t rfl).trans (f1 449 m t rfl)) (fun t => (f2 448 m t rfl).trans (f1 448 m t rfl)) (fun t _ _ => (f2 239 0 _ rfl).trans (f1 239 0 _ rfl)) (fun x _ _ => (f2 240 0 _ rfl).trans (f1 240 0 _ rfl)), Or.inr (Or.inl hpb)⟩) (fun j j0 j1 nj => ⟨khm_t ⟨fun k i d => up_g a2 (fun z => nj z.2.1), ⟨f1 102 j 0 rfl, up_g a2 (fun z => nj z.2.1), f1 102 j 10 rfl⟩, ⟨f1 103 j 0 rfl, f1 103 j 14 rfl, f1 103 j 15 rfl, f1 103 j 17 rfl⟩, fun w => f1 401 _ w rfl, fun q i _ _ => f1 190 _ i rfl⟩ (kH j), kqm_t (kR j) ⟨b4 j nj, rw_k (fun k x c => by rcases c with rfl | rfl | rfl | rfl <;> exact f2 _ 0 x rfl) (fun x => f2 252 0 x rfl) (f2 253 0 j rfl) (f2 254 0 j rfl), f2 254 0 j rfl, f2 256 0 j rfl⟩⟩) (fun j j0 j1 => ?_), hL2⟩
          have w := rpe_ (b4 j (by omega))
          have y1 : T1 236 0 j = T 236 0 j := f1 236 0 j rfl
          have y2 : T1 237 0 j = T 237 0 j := f1 237 0 j rfl
          omega
