-- assign and can: what they leave of the int rows
/-- all old rows but the referees' own stay -/
def KPA_ (T U : Zt) : Prop := (∀ x j, x < T 191 0 0 → x ≠ T 104 0 4 → U 190 x j = T 190 x j) ∧ (U 104 0 4 = T 104 0 4 ∨ (U 104 0 4 = T 191 0 0 ∧ T 191 0 0 < U 191 0 0))
theorem kpa_r {T : Zt} : KPA_ T T := ⟨fun _ _ _ _ => rfl, Or.inl rfl⟩
/-- all old rows but the title's own stay -/
def KPT_ (T U : Zt) : Prop := (∀ x j, x < T 191 0 0 → x + 1 ≠ T 109 0 15 → U 190 x j = T 190 x j) ∧ (U 109 0 15 = T 109 0 15 ∨ (U 109 0 15 = T 191 0 0 + 1 ∧ T 191 0 0 < U 191 0 0))
theorem kpt_r {T : Zt} : KPT_ T T := ⟨fun _ _ _ _ => rfl, Or.inl rfl⟩
theorem bk_X4_weighAll_e_82 : ck_ fX4 none cX4_weighAll 82 [.iload 5, .iload 1, .if_icmp .ge 115, .aload 0, .tableswitch 0 4 4 #[], .iload 3, .iload 1, .imul, .iload 5, .iadd, .aload 0, .aload 4, .iload 3, .iload 5, .iload 1] 105 = true := qck_r (nn_ _) (by decide +kernel)
theorem bs_X4_weighAll_e_82 {P : Zt → Option Zv → Prop} (K : Int → Zl → List Zv → Zt → Prop) : sx_ K P [.iload 5, .iload 1, .if_icmp .ge 115, .aload 0, .tableswitch 0 4 4 #[], .iload 3, .iload 1, .imul, .iload 5, .iadd, .aload 0, .aload 4, .iload 3, .iload 5, .iload 1] 105 = x_iload 5 (x_iload 1 (x_if_icmp .ge 115 K (x_aload 0 (x_g3 104 190 4 (x_iload 3 (x_iload 1 (x_imul (x_iload 5 (x_iadd (x_aload 0 (x_aload 4 (x_iload 3 (x_iload 5 (x_iload 1 (K 105))))))))))))))) := ((xe_iload 5).trans (congrArg (x_iload 5) ((xe_iload 1).trans (congrArg (x_iload 1) ((xe_if_icmp .ge 115).trans (congrArg (x_if_icmp .ge 115 K) ((xe_aload 0).trans (congrArg (x_aload 0) ((xe_g3 (kk := 104) rfl tl_4_4).trans (congrArg (x_g3 104 190 4) ((xe_iload 3).trans (congrArg (x_iload 3) ((xe_iload 1).trans (congrArg (x_iload 1) ((xe_imul).trans (congrArg (x_imul) ((xe_iload 5).trans (congrArg (x_iload 5) ((xe_iadd).trans (congrArg (x_iadd) ((xe_aload 0).trans (congrArg (x_aload 0) ((xe_aload 4).trans (congrArg (x_aload 4) ((xe_iload 3).trans (congrArg (x_iload 3) ((xe_iload 5).trans (congrArg (x_iload 5) ((xe_iload 1).trans (congrArg (x_iload 1) xe_nil))))))))))))))))))))))))))))))
theorem bk_X4_weighAll_e_115 : ck_ fX4 none cX4_weighAll 115 [.iinc 3 (-1), .goto 59] 121 = true := qck_r (nn_ _) (by decide +kernel)
theorem bs_X4_weighAll_e_115 {P : Zt → Option Zv → Prop} (K : Int → Zl → List Zv → Zt → Prop) : sx_ K P [.iinc 3 (-1), .goto 59] 121 = x_iinc 3 (-1) (x_goto 59 K) := ((xe_iinc 3 (-1)).trans (congrArg (x_iinc 3 (-1)) (xe_goto 59)))
theorem bk_X4_weighAll_e_108 : ck_ fX4 none cX4_weighAll 108 [.iastore, .iinc 5 1, .goto 82] 115 = true := qck_r (nn_ _) (by decide +kernel)
theorem bs_X4_weighAll_e_108 {P : Zt → Option Zv → Prop} (K : Int → Zl → List Zv → Zt → Prop) : sx_ K P [.iastore, .iinc 5 1, .goto 82] 115 = x_iastore (x_iinc 5 1 (x_goto 82 K)) := ((xe_iastore).trans (congrArg (x_iastore) ((xe_iinc 5 1).trans (congrArg (x_iinc 5 1) (xe_goto 82)))))
theorem bk_X4_weighAll_e_59 : ck_ fX4 none cX4_weighAll 59 [.iload 3, .ifCond .lt 121, .aload 0, .tableswitch 0 4 0 #[], .tableswitch 0 6 3 #[], .aload 0, .tableswitch 0 4 2 #[], .iload 3, .iaload, .aaload, .astore 4, .iconst 0, .istore 5] 82 = true := qck_r (nn_ _) (by decide +kernel)
theorem bs_X4_weighAll_e_59 {P : Zt → Option Zv → Prop} (K : Int → Zl → List Zv → Zt → Prop) : sx_ K P [.iload 3, .ifCond .lt 121, .aload 0, .tableswitch 0 4 0 #[], .tableswitch 0 6 3 #[], .aload 0, .tableswitch 0 4 2 #[], .iload 3, .iaload, .aaload, .astore 4, .iconst 0, .istore 5] 82 = x_iload 3 (x_ifCond .lt 121 K (x_aload 0 (x_g1 104 106 (x_g1 106 523 (x_aload 0 (x_g1 104 482 (x_iload 3 (x_iaload (x_aaload (x_astore 4 (x_iconst 0 (x_istore 5 (K 82))))))))))))) := ((xe_iload 3).trans (congrArg (x_iload 3) ((xe_ifCond .lt 121).trans (congrArg (x_ifCond .lt 121 K) ((xe_aload 0).trans (congrArg (x_aload 0) ((xe_g1 (kk := 104) rfl tl_4_0).trans (congrArg (x_g1 104 106) ((xe_g1 (kk := 106) rfl tl_6_3).trans (congrArg (x_g1 106 523) ((xe_aload 0).trans (congrArg (x_aload 0) ((xe_g1 (kk := 104) rfl tl_4_2).trans (congrArg (x_g1 104 482) ((xe_iload 3).trans (congrArg (x_iload 3) ((xe_iaload).trans (congrArg (x_iaload) ((xe_aaload).trans (congrArg (x_aaload) ((xe_astore 4).trans (congrArg (x_astore 4) ((xe_iconst 0).trans (congrArg (x_iconst 0) ((xe_istore 5).trans (congrArg (x_istore 5) xe_nil))))))))))))))))))))))))))
theorem bk_X4_weighAll_e_121 : ck_ fX4 none cX4_weighAll 121 [.return_] 122 = true := qck_r (nn_ _) (by decide +kernel)
theorem bs_X4_weighAll_e_121 {P : Zt → Option Zv → Prop} (K : Int → Zl → List Zv → Zt → Prop) : sx_ K P [.return_] 122 = x_return_ P := (xe_return_)
theorem bk_X4_weighAll_e_27 : ck_ fX4 none cX4_weighAll 27 [.iload 3, .iload 1, .if_icmp .ge 52, .aload 0, .tableswitch 0 4 4 #[], .aload 0, .tableswitch 0 4 3 #[], .iload 1, .imul, .iload 3, .iadd, .iconst 0, .iastore, .iinc 3 1, .goto 27] 52 = true := qck_r (nn_ _) (by decide +kernel)
theorem bs_X4_weighAll_e_27 {P : Zt → Option Zv → Prop} (K : Int → Zl → List Zv → Zt → Prop) : sx_ K P [.iload 3, .iload 1, .if_icmp .ge 52, .aload 0, .tableswitch 0 4 4 #[], .aload 0, .tableswitch 0 4 3 #[], .iload 1, .imul, .iload 3, .iadd, .iconst 0, .iastore, .iinc 3 1, .goto 27] 52 = x_iload 3 (x_iload 1 (x_if_icmp .ge 52 K (x_aload 0 (x_g3 104 190 4 (x_aload 0 (x_g0 104 3 0 400 (x_iload 1 (x_imul (x_iload 3 (x_iadd (x_iconst 0 (x_iastore (x_iinc 3 1 (x_goto 27 K)))))))))))))) := ((xe_iload 3).trans (congrArg (x_iload 3) ((xe_iload 1).trans (congrArg (x_iload 1) ((xe_if_icmp .ge 52).trans (congrArg (x_if_icmp .ge 52 K) ((xe_aload 0).trans (congrArg (x_aload 0) ((xe_g3 (kk := 104) rfl tl_4_4).trans (congrArg (x_g3 104 190 4) ((xe_aload 0).trans (congrArg (x_aload 0) ((xe_g0 (kk := 104) rfl tl_4_3).trans (congrArg (x_g0 104 3 0 400) ((xe_iload 1).trans (congrArg (x_iload 1) ((xe_imul).trans (congrArg (x_imul) ((xe_iload 3).trans (congrArg (x_iload 3) ((xe_iadd).trans (congrArg (x_iadd) ((xe_iconst 0).trans (congrArg (x_iconst 0) ((xe_iastore).trans (congrArg (x_iastore) ((xe_iinc 3 1).trans (congrArg (x_iinc 3 1) (xe_goto 27)))))))))))))))))))))))))))))
theorem bk_X4_weighAll_e_52 : ck_ fX4 none cX4_weighAll 52 [.aload 0, .tableswitch 0 4 3 #[], .iconst 1, .isub, .istore 3] 59 = true := qck_r (nn_ _) (by decide +kernel)
theorem bs_X4_weighAll_e_52 {P : Zt → Option Zv → Prop} (K : Int → Zl → List Zv → Zt → Prop) : sx_ K P [.aload 0, .tableswitch 0 4 3 #[], .iconst 1, .isub, .istore 3] 59 = x_aload 0 (x_g0 104 3 0 400 (x_iconst 1 (x_isub (x_istore 3 (K 59))))) := ((xe_aload 0).trans (congrArg (x_aload 0) ((xe_g0 (kk := 104) rfl tl_4_3).trans (congrArg (x_g0 104 3 0 400) ((xe_iconst 1).trans (congrArg (x_iconst 1) ((xe_isub).trans (congrArg (x_isub) ((xe_istore 3).trans (congrArg (x_istore 3) xe_nil))))))))))
theorem bk_X4_weighAll_e_0 : ck_ fX4 none cX4_weighAll 0 [.aload 0, .tableswitch 0 4 3 #[], .iconst 1, .iadd, .iload 1, .imul, .istore 2, .aload 0, .tableswitch 0 4 4 #[], .arraylength, .iload 2, .if_icmp .ge 25, .aload 0, .iload 2] 20 = true := qck_r (nn_ _) (by decide +kernel)
theorem bs_X4_weighAll_e_0 {P : Zt → Option Zv → Prop} (K : Int → Zl → List Zv → Zt → Prop) : sx_ K P [.aload 0, .tableswitch 0 4 3 #[], .iconst 1, .iadd, .iload 1, .imul, .istore 2, .aload 0, .tableswitch 0 4 4 #[], .arraylength, .iload 2, .if_icmp .ge 25, .aload 0, .iload 2] 20 = x_aload 0 (x_g0 104 3 0 400 (x_iconst 1 (x_iadd (x_iload 1 (x_imul (x_istore 2 (x_aload 0 (x_g3 104 190 4 (x_arraylength (x_iload 2 (x_if_icmp .ge 25 K (x_aload 0 (x_iload 2 (K 20)))))))))))))) := ((xe_aload 0).trans (congrArg (x_aload 0) ((xe_g0 (kk := 104) rfl tl_4_3).trans (congrArg (x_g0 104 3 0 400) ((xe_iconst 1).trans (congrArg (x_iconst 1) ((xe_iadd).trans (congrArg (x_iadd) ((xe_iload 1).trans (congrArg (x_iload 1) ((xe_imul).trans (congrArg (x_imul) ((xe_istore 2).trans (congrArg (x_istore 2) ((xe_aload 0).trans (congrArg (x_aload 0) ((xe_g3 (kk := 104) rfl tl_4_4).trans (congrArg (x_g3 104 190 4) ((xe_arraylength).trans (congrArg (x_arraylength) ((xe_iload 2).trans (congrArg (x_iload 2) ((xe_if_icmp .ge 25).trans (congrArg (x_if_icmp .ge 25 K) ((xe_aload 0).trans (congrArg (x_aload 0) ((xe_iload 2).trans (congrArg (x_iload 2) xe_nil))))))))))))))))))))))))))))
theorem bk_X4_weighAll_e_25 : ck_ fX4 none cX4_weighAll 25 [.iconst 0, .istore 3] 27 = true := qck_r (nn_ _) (by decide +kernel)
theorem bs_X4_weighAll_e_25 {P : Zt → Option Zv → Prop} (K : Int → Zl → List Zv → Zt → Prop) : sx_ K P [.iconst 0, .istore 3] 27 = x_iconst 0 (x_istore 3 (K 27)) := ((xe_iconst 0).trans (congrArg (x_iconst 0) ((xe_istore 3).trans (congrArg (x_istore 3) xe_nil))))
abbrev po_X4_weighAll_e (T : Zt) (e : Int) : Zt → Option Zv → Prop := fun T' r => r = none ∧ fr_ [(104, [4]), (190, []), (191, [0])] T T' ∧ ((T 104 0 3 + 1) * e ≤ T' 190 (T' 104 0 4) (-2) ∧ KPA_ T T' ∧ lh_ T T' ∧ T' 191 0 0 ≤ T 191 0 0 + 1)
set_option maxHeartbeats 4000000 in
theorem ct_X4_weighAll_e {T : Zt} {e : Int} (hka : KA_ T) (hs : 0 ≤ T 104 0 3 ∧ T 104 0 3 ≤ 48) (hO : OS_ (T 108 0 12) e) (hv : ∀ j, 0 ≤ j → j < T 104 0 3 → 0 ≤ T 482 0 j ∧ T 482 0 j < T 106 0 4) (h9 : 0 ≤ T 191 0 0 ∧ T 191 0 0 ≤ 900000000) : Ct_ yX4_weighAll zX4_weighAll T [vR 104 0, vI e] (po_X4_weighAll_e T e) := by
  refine ct_of pn_4 rfl rfl (Nat.le_of_ble_eq_true rfl) (fun hT hav => ?_)
  have hr_e : -2147483648 ≤ e ∧ e ≤ 2147483647 := hav (vI e) (List.mem_cons_of_mem _ List.mem_cons_self)
  have hz : zX4_weighAll.2.2.2.1 = some .boolean → ∀ (T' : Zt) (x : Int), po_X4_weighAll_e T e T' (some (vI x)) → 0 ≤ x ∧ x ≤ 1 := fun h => by cases h
  have hb_matchCount : 0 ≤ T 106 0 4 ∧ T 106 0 4 ≤ 400 := bd_f hT 106 4 tl_6_4 0
  have hb_officials : 0 ≤ T 108 0 12 ∧ T 108 0 12 ≤ 8 := bd_f hT 108 12 tl_8_12 0
  have hE := hO.1
  have hm := mlb (a := T 104 0 3 + 1) (b := e) (A := 49) (B := 256) (by omega) (by omega)
  have hm1 := mlb (a := T 104 0 3) (b := e) (A := 48) (B := 256) (by omega) (by omega)
  have x1 := k1e (T 104 0 3) e
  have hbx := bx_4 hT (ok_al (v := none) (by decide) (hav (vR 104 0) (by simp)))
  show J_ zX4_weighAll T (po_X4_weighAll_e T e) 1 12544 0 [some (vR 104 0), some (vI e), none, none, none, none] [] T
  have c_59 : ∀ (nn : Nat) (k : Int) (T2 : Zt), ((k + 1).toNat) ≤ nn → (fr_ [(104, [4]), (190, []), (191, [0])] T T2) → (-1 ≤ k ∧ k < T 104 0 3) → ((T 104 0 3 + 1) * e ≤ T2 190 (T2 104 0 4) (-2)) → (lh_ T T2 ∧ T2 191 0 0 ≤ T 191 0 0 + 1) → (KPA_ T T2) → J_ zX4_weighAll T (po_X4_weighAll_e T e) 0 0 59 [some (vR 104 0), some (vI e), some (vI ((T 104 0 3 + 1) * e)), some (vI k), none, none] [] T2 := by
    intro nn
    induction nn using Nat.strongRecOn with
    | _ nn ih_59 =>
      intro k T2 hm_59 hf_59 i2 l2 h2 k2
      replace hm_59 := fun (_ : Unit) => hm_59
      have c_82 : ∀ (nn : Nat) (j : Int) (T3 : Zt), ((256 - j).toNat) ≤ nn → (fr_ [(104, [4]), (190, []), (191, [0])] T T3) → (0 ≤ j ∧ 0 ≤ k) → ((T 104 0 3 + 1) * e ≤ T3 190 (T3 104 0 4) (-2)) → (lh_ T T3 ∧ T3 191 0 0 ≤ T 191 0 0 + 1) → (KPA_ T T3) → J_ zX4_weighAll T (po_X4_weighAll_e T e) 0 0 82 [some (vR 104 0), some (vI e), some (vI ((T 104 0 3 + 1) * e)), some (vI k), some (vR 102 (T 482 0 k)), some (vI j)] [] T3 := by
        intro nn
        induction nn using Nat.strongRecOn with
        | _ nn ih_82 =>
          intro j T3 hm_82 hf_82 i3 l3 h3 k3
          replace hm_82 := fun (_ : Unit) => hm_82
          have y4 := hv k (by omega) (by omega)
          have hm3 := mlb (a := k) (b := e) (A := 48) (B := 256) (by omega) (by omega)
          have x3 := k1e k e
          have x4 := k2e k e
          have y5 := kse (k := k) (s := T 104 0 3) (e := e) (by omega) (by omega)
          refine j_blx (F := fX4) tb_X4 (nn_ _) bk_X4_weighAll_e_82 bs_X4_weighAll_e_82 hz (fun K hK => ?_)
          refine And.intro (fun c1 => ?_) (fun c1 => ?_)
          · refine hK 115 _ [] T3 ?_
            refine j_blx (F := fX4) tb_X4 (nn_ _) bk_X4_weighAll_e_115 bs_X4_weighAll_e_115 hz (fun K hK => ?_)
            refine rg_i (by omega) ?_
            refine hK 59 [some (vR 104 0), some (vI e), some (vI ((T 104 0 3 + 1) * e)), some (vI (k + (-1))), some (vR 102 (T 482 0 k)), some (vI j)] [] T3 ?_
            refine j_drop [some (vR 104 0), some (vI e), some (vI ((T 104 0 3 + 1) * e)), some (vI (k + (-1))), none, none] (fun k v hk => ?_) rfl ?_
            · match k, hk with
              | 0, hk => exact hk
              | 1, hk => exact hk
              | 2, hk => exact hk
              | 3, hk => exact hk
              | 4, hk => cases hk
              | 5, hk => cases hk
              | k + 6, hk => cases hk
            refine j_mono (bc' := 0) (bs' := 0) (by omega) (by omega) ?_
            refine ih_59 _ ?_ (k + (-1)) T3 (Nat.le_refl _) ?_ ?_ ?_ ?_ ?_
            · have hm_59 := hm_59 (); omega
            · exact fr_t (fr_0 _ _) (fr_s hf_82 rfl)
            · omega
            · exact l3
            · exact h3
            · exact k3
          · refine rg_i (by omega) ?_
            refine rg_i (by omega) ?_
            refine hK 105 [some (vR 104 0), some (vI e), some (vI ((T 104 0 3 + 1) * e)), some (vI k), some (vR 102 (T 482 0 k)), some (vI j)] [vI e, vI j, vI k, vR 102 (T 482 0 k), vR 104 0, vI ((k * e) + j), vR 190 (T3 104 0 4)] T3 ?_
            have e3 : T3 108 0 12 = T 108 0 12 := hf_82 108 0 12 rfl
            have y5 := kse (k := k) (s := T 104 0 3) (e := e) (by omega) (by omega)
            refine j_callV (y := yX4_weigh) (Yc := zX4_weigh) (rest := [vI ((k * e) + j), vR 190 (T3 104 0 4)]) [vR 102 (T 482 0 k), vI k, vI j, vI e] (ct_X4_weigh (T := T3) (by omega) (by omega) (by rw [e3]; exact hO) (by omega)) cl_X4_67 (qd_c (by decide +kernel)) (nn_ _) rfl (rf_of rfl) (Nat.le_of_ble_eq_true rfl) (Nat.le_of_ble_eq_true rfl) (Nat.le_of_ble_eq_true rfl) rfl ?_
            rintro _ _ ⟨rfl, x4, rfl, hx4⟩
            show J_ zX4_weighAll T (po_X4_weighAll_e T e) 0 0 108 _ [vI x4, vI ((k * e) + j), vR 190 (T3 104 0 4)] T3
            refine j_blx (F := fX4) tb_X4 (nn_ _) bk_X4_weighAll_e_108 bs_X4_weighAll_e_108 hz (fun K hK => ?_)
            refine iy_i (by omega) (by omega) ?_
            refine x_nm (fun U5 hU5 => ?_)
            have e6 := up_f hU5
            refine rg_i (by omega) ?_
            refine hK 82 [some (vR 104 0), some (vI e), some (vI ((T 104 0 3 + 1) * e)), some (vI k), some (vR 102 (T 482 0 k)), some (vI (j + 1))] [] U5 ?_
            refine j_mono (bc' := 0) (bs' := 0) (by omega) (by omega) ?_
            have e7 : U5 104 0 4 = T3 104 0 4 := up_k hU5 (by exact Nat.ne_of_beq_eq_false rfl) 0 4
            have e8 : U5 191 0 0 = T3 191 0 0 := up_k hU5 (by exact Nat.ne_of_beq_eq_false rfl) 0 0
            refine ih_82 _ ?_ (j + 1) U5 (Nat.le_refl _) ?_ ?_ ?_ ?_ ?_
            · have hm_82 := hm_82 (); omega
            · exact fr_u (fr_t (fr_0 _ _) (fr_s hf_82 rfl)) hU5 rfl
            · omega
            · have y1 : U5 104 0 4 = T3 104 0 4 := up_k hU5 (by exact Nat.ne_of_beq_eq_false rfl) _ _
              have y2 : ∀ x, U5 190 x (-2) = T3 190 x (-2) := fun x => up_g hU5 (fun z => by omega)
              rw [y2, y1]; exact l3
            · have y1 : U5 104 0 4 = T3 104 0 4 := up_k hU5 (by exact Nat.ne_of_beq_eq_false rfl) _ _
              have y2 : ∀ x, U5 190 x (-2) = T3 190 x (-2) := fun x => up_g hU5 (fun z => by omega)
              have y3 : U5 191 0 0 = T3 191 0 0 := up_k hU5 (by exact Nat.ne_of_beq_eq_false rfl) _ _
              exact ⟨lh_t h3.1 ⟨fun x _ => y2 x, by omega⟩, by have := h3.2; omega⟩
            · exact ⟨fun x j hx hn => (up_g hU5 (fun z => by have y9 := k3.2; have y8 := z.2.1; omega)).trans (k3.1 x j hx hn), by have y1 : U5 104 0 4 = T3 104 0 4 := up_k hU5 (by exact Nat.ne_of_beq_eq_false rfl) _ _; have y3 : U5 191 0 0 = T3 191 0 0 := up_k hU5 (by exact Nat.ne_of_beq_eq_false rfl) _ _; have y9 := k3.2; omega⟩
      refine j_blx (F := fX4) tb_X4 (nn_ _) bk_X4_weighAll_e_59 bs_X4_weighAll_e_59 hz (fun K hK => ?_)
      refine And.intro (fun c9 => ?_) (fun c9 => ?_)
      · refine hK 121 _ [] T2 ?_
        refine j_blx (F := fX4) tb_X4 (nn_ _) bk_X4_weighAll_e_121 bs_X4_weighAll_e_121 hz (fun K hK => ?_)
        refine (show po_X4_weighAll_e T e T2 (none) from ?_)
        exact ⟨rfl, hf_59, l2, k2, h2⟩
      · refine ix_i (by omega) ?_
        intro b10 b10b
        have e11 : T2 482 0 k = T 482 0 k := hf_59 482 0 k rfl
        rw [e11] at b10 b10b ⊢
        refine ix_i (by omega) ?_
        have e13 : T2 523 0 (T 482 0 k) = T 523 0 (T 482 0 k) := hf_59 523 0 (T 482 0 k) rfl
        refine And.intro (fun c12 => ?_) (fun c12 => ?_)
        · exact absurd (show T 523 0 (T 482 0 k) = 0 by omega) (hka.2 _ (hv k (by omega) (by omega)).1 (hv k (by omega) (by omega)).2)
        · refine hK 82 [some (vR 104 0), some (vI e), some (vI ((T 104 0 3 + 1) * e)), some (vI k), some (vR 102 (T 482 0 k)), some (vI 0)] [] T2 ?_
          refine j_mono (bc' := 0) (bs' := 0) (by omega) (by omega) ?_
          refine c_82 _ 0 T2 (Nat.le_refl _) ?_ ?_ ?_ ?_ ?_
          · exact fr_t (fr_0 _ _) (fr_s hf_59 rfl)
          · omega
          · exact l2
          · exact h2
          · exact k2
  have c_27 : ∀ (nn : Nat) (j : Int) (T1 : Zt), ((256 - j).toNat) ≤ nn → (fr_ [(104, [4]), (190, []), (191, [0])] T T1) → (0 ≤ j) → ((T 104 0 3 + 1) * e ≤ T1 190 (T1 104 0 4) (-2)) → (lh_ T T1 ∧ T1 191 0 0 ≤ T 191 0 0 + 1) → (KPA_ T T1) → J_ zX4_weighAll T (po_X4_weighAll_e T e) 0 0 27 [some (vR 104 0), some (vI e), some (vI ((T 104 0 3 + 1) * e)), some (vI j), none, none] [] T1 := by
    intro nn
    induction nn using Nat.strongRecOn with
    | _ nn ih_27 =>
      intro j T1 hm_27 hf_27 i1 l1 h1 k1
      replace hm_27 := fun (_ : Unit) => hm_27
      refine j_blx (F := fX4) tb_X4 (nn_ _) bk_X4_weighAll_e_27 bs_X4_weighAll_e_27 hz (fun K hK => ?_)
      refine And.intro (fun c14 => ?_) (fun c14 => ?_)
      · refine hK 52 _ [] T1 ?_
        refine j_blx (F := fX4) tb_X4 (nn_ _) bk_X4_weighAll_e_52 bs_X4_weighAll_e_52 hz (fun K hK => ?_)
        intro b15 b15b
        have e16 : T1 104 0 3 = T 104 0 3 := hf_27 104 0 3 rfl
        rw [e16] at b15 b15b ⊢
        refine rg_i (by omega) ?_
        refine hK 59 [some (vR 104 0), some (vI e), some (vI ((T 104 0 3 + 1) * e)), some (vI ((T 104 0 3) - 1)), none, none] [] T1 ?_
        refine j_mono (bc' := 0) (bs' := 0) (by omega) (by omega) ?_
        refine c_59 _ ((T 104 0 3) - 1) T1 (Nat.le_refl _) ?_ ?_ ?_ ?_ ?_
        · exact fr_t (fr_0 _ _) (fr_s hf_27 rfl)
        · omega
        · exact l1
        · exact h1
        · exact k1
      · intro b18 b18b
        have e19 : T1 104 0 3 = T 104 0 3 := hf_27 104 0 3 rfl
        rw [e19] at b18 b18b ⊢
        refine rg_i (by omega) ?_
        refine rg_i (by omega) ?_
        refine iy_i (by omega) (by omega) ?_
        refine x_nm (fun U20 hU20 => ?_)
        have e21 := up_f hU20
        refine rg_i (by omega) ?_
        refine hK 27 [some (vR 104 0), some (vI e), some (vI ((T 104 0 3 + 1) * e)), some (vI (j + 1)), none, none] [] U20 ?_
        refine j_mono (bc' := 0) (bs' := 0) (by omega) (by omega) ?_
        have e22 : U20 104 0 4 = T1 104 0 4 := up_k hU20 (by exact Nat.ne_of_beq_eq_false rfl) 0 4
        have e23 : U20 191 0 0 = T1 191 0 0 := up_k hU20 (by exact Nat.ne_of_beq_eq_false rfl) 0 0
        refine ih_27 _ ?_ (j + 1) U20 (Nat.le_refl _) ?_ ?_ ?_ ?_ ?_
        · have hm_27 := hm_27 (); omega
        · exact fr_u (fr_t (fr_0 _ _) (fr_s hf_27 rfl)) hU20 rfl
        · omega
        · have y1 : U20 104 0 4 = T1 104 0 4 := up_k hU20 (by exact Nat.ne_of_beq_eq_false rfl) _ _
          have y2 : ∀ x, U20 190 x (-2) = T1 190 x (-2) := fun x => up_g hU20 (fun z => by omega)
          rw [y2, y1]; exact l1
        · have y1 : U20 104 0 4 = T1 104 0 4 := up_k hU20 (by exact Nat.ne_of_beq_eq_false rfl) _ _
          have y2 : ∀ x, U20 190 x (-2) = T1 190 x (-2) := fun x => up_g hU20 (fun z => by omega)
          have y3 : U20 191 0 0 = T1 191 0 0 := up_k hU20 (by exact Nat.ne_of_beq_eq_false rfl) _ _
          exact ⟨lh_t h1.1 ⟨fun x _ => y2 x, by omega⟩, by have := h1.2; omega⟩
        · exact ⟨fun x j hx hn => (up_g hU20 (fun z => by have y9 := k1.2; have y8 := z.2.1; omega)).trans (k1.1 x j hx hn), by have y1 : U20 104 0 4 = T1 104 0 4 := up_k hU20 (by exact Nat.ne_of_beq_eq_false rfl) _ _; have y3 : U20 191 0 0 = T1 191 0 0 := up_k hU20 (by exact Nat.ne_of_beq_eq_false rfl) _ _; have y9 := k1.2; omega⟩
  refine j_blx (F := fX4) tb_X4 (nn_ _) bk_X4_weighAll_e_0 bs_X4_weighAll_e_0 hz (fun K hK => ?_)
  intro b24 b24b
  refine rg_i (by omega) ?_
  refine rg_i (by omega) ?_
  intro b26 b26b
  refine And.intro (fun c27 => ?_) (fun c27 => ?_)
  · refine hK 25 [some (vR 104 0), some (vI e), some (vI (((T 104 0 3) + 1) * e)), none, none, none] [] T ?_
    refine j_blx (F := fX4) tb_X4 (nn_ _) bk_X4_weighAll_e_25 bs_X4_weighAll_e_25 hz (fun K hK => ?_)
    refine hK 27 [some (vR 104 0), some (vI e), some (vI (((T 104 0 3) + 1) * e)), some (vI 0), none, none] [] T ?_
    refine j_mono (bc' := 0) (bs' := 0) (by omega) (by omega) ?_
    refine c_27 _ 0 T (Nat.le_refl _) ?_ ?_ ?_ ?_ ?_
    · exact fr_0 _ _
    · omega
    · omega
    · exact ⟨lh_r, by omega⟩
    · exact kpa_r
  · refine hK 20 [some (vR 104 0), some (vI e), some (vI (((T 104 0 3) + 1) * e)), none, none, none] [vI (((T 104 0 3) + 1) * e), vR 104 0] T ?_
    refine j_newL (bc' := 0) (bs' := 0) (pc := 20) (by decide) (by omega) (by omega) (by omega) (by decide +kernel) (lwq_1 (dqc_m (dqc_m (dqa_m (List.mem_of_getElem? (i := 0) rfl)))) rfl : Cond.arrayClass .int ∈ lw_g) ?_
    refine j_nm (fun U28 hU28 => ?_)
    have fU28 := nv_fr hU28
    have aU28 := nv_t9 hU28
    have lU28 := nv_tl hU28
    have oU28 := nv_to hU28
    show J_ zX4_weighAll T (po_X4_weighAll_e T e) 0 0 22 _ [vR 190 (T 191 0 0), vR 104 0] U28
    refine j_putV (pc := 22) (ci := 4) (j := 4) (z := T 191 0 0) (by decide) fr5_X4_15 tl_4_4 (by decide +kernel) rfl (by omega) (by omega) ?_
    refine j_nm (fun U29 hU29 => ?_)
    have e30 := up_f hU29
    show J_ zX4_weighAll T (po_X4_weighAll_e T e) 0 0 25 _ [] U29
    refine j_blx (F := fX4) tb_X4 (nn_ _) bk_X4_weighAll_e_25 bs_X4_weighAll_e_25 hz (fun K hK => ?_)
    refine hK 27 [some (vR 104 0), some (vI e), some (vI (((T 104 0 3) + 1) * e)), some (vI 0), none, none] [] U29 ?_
    refine j_mono (bc' := 0) (bs' := 0) (by omega) (by omega) ?_
    have e31 : U29 104 0 4 = T 191 0 0 := up_f hU29
    have e32 : U29 191 0 0 = U28 191 0 0 := up_k hU29 (by exact Nat.ne_of_beq_eq_false rfl) 0 0
    refine c_27 _ 0 U29 (Nat.le_refl _) ?_ ?_ ?_ ?_ ?_
    · exact fr_u (fr_t (fr_0 _ _) (fr_s fU28 rfl)) hU29 rfl
    · omega
    · have y1 : U29 104 0 4 = T 191 0 0 := up_f hU29
      rw [y1, show U29 190 (T 191 0 0) (-2) = U28 190 (T 191 0 0) (-2) from up_k hU29 (by exact Nat.ne_of_beq_eq_false rfl) _ _, lU28]; omega
    · have y3 : U29 191 0 0 = U28 191 0 0 := up_k hU29 (by exact Nat.ne_of_beq_eq_false rfl) _ _
      exact ⟨⟨fun x hx => (up_k hU29 (by exact Nat.ne_of_beq_eq_false rfl) _ _).trans (oU28 x (-2) (by omega)), by omega⟩, by omega⟩
    · exact ⟨fun x j hx hn => (up_k hU29 (by exact Nat.ne_of_beq_eq_false rfl) _ _).trans (oU28 x j (by omega)), Or.inr ⟨up_f hU29, by have y3 : U29 191 0 0 = U28 191 0 0 := up_k hU29 (by exact Nat.ne_of_beq_eq_false rfl) _ _; omega⟩⟩
theorem bk_X4_share_e_28 : ck_ fX4 (some .int) cX4_share 28 [.iload 5, .aload 0, .tableswitch 0 4 3 #[], .if_icmp .ge 95, .aload 0, .tableswitch 0 4 0 #[], .tableswitch 0 6 3 #[], .aload 0, .tableswitch 0 4 2 #[], .iload 5, .iaload, .aaload, .astore 6, .aload 0, .aload 6, .iload 5, .iload 3, .iload 2] 61 = true := qck_r (nn_ _) (by decide +kernel)
theorem bs_X4_share_e_28 {P : Zt → Option Zv → Prop} (K : Int → Zl → List Zv → Zt → Prop) : sx_ K P [.iload 5, .aload 0, .tableswitch 0 4 3 #[], .if_icmp .ge 95, .aload 0, .tableswitch 0 4 0 #[], .tableswitch 0 6 3 #[], .aload 0, .tableswitch 0 4 2 #[], .iload 5, .iaload, .aaload, .astore 6, .aload 0, .aload 6, .iload 5, .iload 3, .iload 2] 61 = x_iload 5 (x_aload 0 (x_g0 104 3 0 400 (x_if_icmp .ge 95 K (x_aload 0 (x_g1 104 106 (x_g1 106 523 (x_aload 0 (x_g1 104 482 (x_iload 5 (x_iaload (x_aaload (x_astore 6 (x_aload 0 (x_aload 6 (x_iload 5 (x_iload 3 (x_iload 2 (K 61)))))))))))))))))) := ((xe_iload 5).trans (congrArg (x_iload 5) ((xe_aload 0).trans (congrArg (x_aload 0) ((xe_g0 (kk := 104) rfl tl_4_3).trans (congrArg (x_g0 104 3 0 400) ((xe_if_icmp .ge 95).trans (congrArg (x_if_icmp .ge 95 K) ((xe_aload 0).trans (congrArg (x_aload 0) ((xe_g1 (kk := 104) rfl tl_4_0).trans (congrArg (x_g1 104 106) ((xe_g1 (kk := 106) rfl tl_6_3).trans (congrArg (x_g1 106 523) ((xe_aload 0).trans (congrArg (x_aload 0) ((xe_g1 (kk := 104) rfl tl_4_2).trans (congrArg (x_g1 104 482) ((xe_iload 5).trans (congrArg (x_iload 5) ((xe_iaload).trans (congrArg (x_iaload) ((xe_aaload).trans (congrArg (x_aaload) ((xe_astore 6).trans (congrArg (x_astore 6) ((xe_aload 0).trans (congrArg (x_aload 0) ((xe_aload 6).trans (congrArg (x_aload 6) ((xe_iload 5).trans (congrArg (x_iload 5) ((xe_iload 3).trans (congrArg (x_iload 3) ((xe_iload 2).trans (congrArg (x_iload 2) xe_nil))))))))))))))))))))))))))))))))))))
theorem bk_X4_share_e_95 : ck_ fX4 (some .int) cX4_share 95 [.iload 4, .ireturn] 98 = true := qck_r (nn_ _) (by decide +kernel)
theorem bs_X4_share_e_95 {P : Zt → Option Zv → Prop} (K : Int → Zl → List Zv → Zt → Prop) : sx_ K P [.iload 4, .ireturn] 98 = x_iload 4 (x_ireturn P) := ((xe_iload 4).trans (congrArg (x_iload 4) (xe_ireturn)))
theorem bk_X4_share_e_64 : ck_ fX4 (some .int) cX4_share 64 [.istore 7, .aload 6, .iload 7, .tableswitch 1 2 7 #[], .iload 7, .iconst (-1), .if_icmp .eq 89, .iload 3, .iconst 1, .iload 7, .ishl, .ior, .istore 3, .iinc 4 1, .iinc 5 1, .goto 28] 95 = true := qck_r (nn_ _) (by decide +kernel)
theorem bs_X4_share_e_64 {P : Zt → Option Zv → Prop} (K : Int → Zl → List Zv → Zt → Prop) : sx_ K P [.istore 7, .aload 6, .iload 7, .tableswitch 1 2 7 #[], .iload 7, .iconst (-1), .if_icmp .eq 89, .iload 3, .iconst 1, .iload 7, .ishl, .ior, .istore 3, .iinc 4 1, .iinc 5 1, .goto 28] 95 = x_istore 7 (x_aload 6 (x_iload 7 (x_p 102 7 (-1) 7 (x_iload 7 (x_iconst (-1) (x_if_icmp .eq 89 K (x_iload 3 (x_iconst 1 (x_iload 7 (x_ishl (x_ior (x_istore 3 (x_iinc 4 1 (x_iinc 5 1 (x_goto 28 K))))))))))))))) := ((xe_istore 7).trans (congrArg (x_istore 7) ((xe_aload 6).trans (congrArg (x_aload 6) ((xe_iload 7).trans (congrArg (x_iload 7) ((xe_p (kk := 102) rfl tl_2_7).trans (congrArg (x_p 102 7 (-1) 7) ((xe_iload 7).trans (congrArg (x_iload 7) ((xe_iconst (-1)).trans (congrArg (x_iconst (-1)) ((xe_if_icmp .eq 89).trans (congrArg (x_if_icmp .eq 89 K) ((xe_iload 3).trans (congrArg (x_iload 3) ((xe_iconst 1).trans (congrArg (x_iconst 1) ((xe_iload 7).trans (congrArg (x_iload 7) ((xe_ishl).trans (congrArg (x_ishl) ((xe_ior).trans (congrArg (x_ior) ((xe_istore 3).trans (congrArg (x_istore 3) ((xe_iinc 4 1).trans (congrArg (x_iinc 4 1) ((xe_iinc 5 1).trans (congrArg (x_iinc 5 1) (xe_goto 28)))))))))))))))))))))))))))))))
theorem bk_X4_share_e_89 : ck_ fX4 (some .int) cX4_share 89 [.iinc 5 1, .goto 28] 95 = true := qck_r (nn_ _) (by decide +kernel)
theorem bs_X4_share_e_89 {P : Zt → Option Zv → Prop} (K : Int → Zl → List Zv → Zt → Prop) : sx_ K P [.iinc 5 1, .goto 28] 95 = x_iinc 5 1 (x_goto 28 K) := ((xe_iinc 5 1).trans (congrArg (x_iinc 5 1) (xe_goto 28)))
theorem bk_X4_share_e_0 : ck_ fX4 (some .int) cX4_share 0 [.aload 0, .iload 1] 2 = true := qck_r (nn_ _) (by decide +kernel)
theorem bs_X4_share_e_0 {P : Zt → Option Zv → Prop} (K : Int → Zl → List Zv → Zt → Prop) : sx_ K P [.aload 0, .iload 1] 2 = x_aload 0 (x_iload 1 (K 2)) := ((xe_aload 0).trans (congrArg (x_aload 0) ((xe_iload 1).trans (congrArg (x_iload 1) xe_nil))))
theorem bk_X4_share_e_5 : ck_ fX4 (some .int) cX4_share 5 [.iconst 1, .aload 0, .tableswitch 0 4 1 #[], .tableswitch 0 8 12 #[], .ishl, .istore 2, .aload 0, .iload 2] 17 = true := qck_r (nn_ _) (by decide +kernel)
theorem bs_X4_share_e_5 {P : Zt → Option Zv → Prop} (K : Int → Zl → List Zv → Zt → Prop) : sx_ K P [.iconst 1, .aload 0, .tableswitch 0 4 1 #[], .tableswitch 0 8 12 #[], .ishl, .istore 2, .aload 0, .iload 2] 17 = x_iconst 1 (x_aload 0 (x_g1 104 108 (x_g0 108 12 0 8 (x_ishl (x_istore 2 (x_aload 0 (x_iload 2 (K 17)))))))) := ((xe_iconst 1).trans (congrArg (x_iconst 1) ((xe_aload 0).trans (congrArg (x_aload 0) ((xe_g1 (kk := 104) rfl tl_4_1).trans (congrArg (x_g1 104 108) ((xe_g0 (kk := 108) rfl tl_8_12).trans (congrArg (x_g0 108 12 0 8) ((xe_ishl).trans (congrArg (x_ishl) ((xe_istore 2).trans (congrArg (x_istore 2) ((xe_aload 0).trans (congrArg (x_aload 0) ((xe_iload 2).trans (congrArg (x_iload 2) xe_nil))))))))))))))))
theorem bk_X4_share_e_20 : ck_ fX4 (some .int) cX4_share 20 [.iconst 0, .istore 3, .iconst 0, .istore 4, .iconst 0, .istore 5] 28 = true := qck_r (nn_ _) (by decide +kernel)
theorem bs_X4_share_e_20 {P : Zt → Option Zv → Prop} (K : Int → Zl → List Zv → Zt → Prop) : sx_ K P [.iconst 0, .istore 3, .iconst 0, .istore 4, .iconst 0, .istore 5] 28 = x_iconst 0 (x_istore 3 (x_iconst 0 (x_istore 4 (x_iconst 0 (x_istore 5 (K 28)))))) := ((xe_iconst 0).trans (congrArg (x_iconst 0) ((xe_istore 3).trans (congrArg (x_istore 3) ((xe_iconst 0).trans (congrArg (x_iconst 0) ((xe_istore 4).trans (congrArg (x_istore 4) ((xe_iconst 0).trans (congrArg (x_iconst 0) ((xe_istore 5).trans (congrArg (x_istore 5) xe_nil))))))))))))
abbrev po_X4_share_e (T : Zt) (d : Int) : Zt → Option Zv → Prop := fun T' r => ∃ x : Int, r = some (vI x) ∧ fr_ [(104, [3, 4]), (482, []), (102, [7]), (190, []), (191, [0])] T T' ∧ KPA_ T T' ∧ lh_ T T' ∧ T' 191 0 0 ≤ T 191 0 0 + 1
set_option maxHeartbeats 4000000 in
theorem ct_X4_share_e {T : Zt} {d : Int} (hka : KA_ T) (hkm : KM_ T) (hdd : DD_ T) (h9 : 0 ≤ T 191 0 0 ∧ T 191 0 0 ≤ 900000000) : Ct_ yX4_share zX4_share T [vR 104 0, vI d] (po_X4_share_e T d) := by
  refine ct_of pn_4 rfl rfl (Nat.le_of_ble_eq_true rfl) (fun hT hav => ?_)
  have hr_d : -2147483648 ≤ d ∧ d ≤ 2147483647 := hav (vI d) (List.mem_cons_of_mem _ List.mem_cons_self)
  have hz : zX4_share.2.2.2.1 = some .boolean → ∀ (T' : Zt) (x : Int), po_X4_share_e T d T' (some (vI x)) → 0 ≤ x ∧ x ≤ 1 := fun h => by cases h
  have hb_matchCount : 0 ≤ T 106 0 4 ∧ T 106 0 4 ≤ 400 := bd_f hT 106 4 tl_6_4 0
  have hb_officials : 0 ≤ T 108 0 12 ∧ T 108 0 12 ≤ 8 := bd_f hT 108 12 tl_8_12 0
  have hE0 := (os_1 (o := T 108 0 12) (by omega)).1
  show J_ zX4_share T (po_X4_share_e T d) 1 12544 0 [some (vR 104 0), some (vI d), none, none, none, none, none, none] [] T
  have c_28 : ∀ (nn : Nat) (a : Int) (v : Int) (k : Int) (T1 : Zt), ((48 - k).toNat) ≤ nn → (fr_ [(104, [3, 4]), (482, []), (102, [7]), (190, []), (191, [0])] T T1) → (0 ≤ a ∧ a < sl_ 1 (T 108 0 12) ∧ 0 ≤ k ∧ 0 ≤ v ∧ v ≤ k ∧ k ≤ 48) → (0 ≤ T1 104 0 3 ∧ T1 104 0 3 ≤ 48) → (∀ j, 0 ≤ j → j < T1 104 0 3 → 0 ≤ T1 482 0 j ∧ T1 482 0 j < T 106 0 4) → ((T1 104 0 3 + 1) * (sl_ 1 (T 108 0 12)) ≤ T1 190 (T1 104 0 4) (-2)) → (lh_ T T1 ∧ T1 191 0 0 ≤ T 191 0 0 + 1) → (KPA_ T T1) → J_ zX4_share T (po_X4_share_e T d) 0 0 28 [some (vR 104 0), some (vI d), some (vI (sl_ 1 (T 108 0 12))), some (vI a), some (vI v), some (vI k), none, none] [] T1 := by
    intro nn
    induction nn using Nat.strongRecOn with
    | _ nn ih_28 =>
      intro a v k T1 hm_28 hf_28 i1 s1 v1 l1 h1 k1
      replace hm_28 := fun (_ : Unit) => hm_28
      have hO := os_1 (o := T 108 0 12) (by omega)
      have hE := hO.1
      refine j_blx (F := fX4) tb_X4 (nn_ _) bk_X4_share_e_28 bs_X4_share_e_28 hz (fun K hK => ?_)
      intro b1 b1b
      refine And.intro (fun c2 => ?_) (fun c2 => ?_)
      · refine hK 95 _ [] T1 ?_
        refine j_blx (F := fX4) tb_X4 (nn_ _) bk_X4_share_e_95 bs_X4_share_e_95 hz (fun K hK => ?_)
        refine (show po_X4_share_e T d T1 (some (vI v)) from ?_)
        exact ⟨_, rfl, hf_28, k1, h1⟩
      · refine ix_i (by omega) ?_
        intro b3 b3b
        refine ix_i (by omega) ?_
        have e5 : T1 523 0 (T1 482 0 k) = T 523 0 (T1 482 0 k) := hf_28 523 0 (T1 482 0 k) rfl
        refine And.intro (fun c4 => ?_) (fun c4 => ?_)
        · exact absurd (show T 523 0 (T1 482 0 k) = 0 by omega) (hka.2 _ (v1 k (by omega) (by omega)).1 (v1 k (by omega) (by omega)).2)
        · refine hK 61 [some (vR 104 0), some (vI d), some (vI (sl_ 1 (T 108 0 12))), some (vI a), some (vI v), some (vI k), some (vR 102 (T1 482 0 k)), none] [vI (sl_ 1 (T 108 0 12)), vI a, vI k, vR 102 (T1 482 0 k), vR 104 0] T1 ?_
          have e6 : T1 108 0 12 = T 108 0 12 := hf_28 108 0 12 rfl
          have x1 := kse (k := k) (s := T1 104 0 3) (e := sl_ 1 (T 108 0 12)) (by omega) (by omega)
          refine j_callV (y := yX4_firstBest) (Yc := zX4_firstBest) (rest := []) [vR 102 (T1 482 0 k), vI k, vI a, vI (sl_ 1 (T 108 0 12))] (ct_X4_firstBest (T := T1) (by omega) (by omega) (by rw [e6]; exact hO) (by omega)) cl_X4_48 (qd_c (by decide +kernel)) (nn_ _) rfl (rf_of rfl) (Nat.le_of_ble_eq_true rfl) (Nat.le_of_ble_eq_true rfl) (Nat.le_of_ble_eq_true rfl) rfl ?_
          rintro _ _ ⟨rfl, x7, rfl, hx7⟩
          show J_ zX4_share T (po_X4_share_e T d) 0 0 64 _ [vI x7] T1
          refine j_blx (F := fX4) tb_X4 (nn_ _) bk_X4_share_e_64 bs_X4_share_e_64 hz (fun K hK => ?_)
          refine bd_i (by omega) ?_
          refine x_nm (fun U8 hU8 => ?_)
          have e9 := up_f hU8
          refine And.intro (fun c10 => ?_) (fun c10 => ?_)
          · refine hK 89 [some (vR 104 0), some (vI d), some (vI (sl_ 1 (T 108 0 12))), some (vI a), some (vI v), some (vI k), some (vR 102 (T1 482 0 k)), some (vI x7)] [] U8 ?_
            refine j_blx (F := fX4) tb_X4 (nn_ _) bk_X4_share_e_89 bs_X4_share_e_89 hz (fun K hK => ?_)
            refine rg_i (by omega) ?_
            refine hK 28 [some (vR 104 0), some (vI d), some (vI (sl_ 1 (T 108 0 12))), some (vI a), some (vI v), some (vI (k + 1)), some (vR 102 (T1 482 0 k)), some (vI x7)] [] U8 ?_
            refine j_drop [some (vR 104 0), some (vI d), some (vI (sl_ 1 (T 108 0 12))), some (vI a), some (vI v), some (vI (k + 1)), none, none] (fun k v hk => ?_) rfl ?_
            · match k, hk with
              | 0, hk => exact hk
              | 1, hk => exact hk
              | 2, hk => exact hk
              | 3, hk => exact hk
              | 4, hk => exact hk
              | 5, hk => exact hk
              | 6, hk => cases hk
              | 7, hk => cases hk
              | k + 8, hk => cases hk
            refine j_mono (bc' := 0) (bs' := 0) (by omega) (by omega) ?_
            have e11 : U8 104 0 3 = T1 104 0 3 := up_k hU8 (by exact Nat.ne_of_beq_eq_false rfl) 0 3
            have e12 : U8 104 0 4 = T1 104 0 4 := up_k hU8 (by exact Nat.ne_of_beq_eq_false rfl) 0 4
            have e13 : U8 191 0 0 = T1 191 0 0 := up_k hU8 (by exact Nat.ne_of_beq_eq_false rfl) 0 0
            refine ih_28 _ ?_ a v (k + 1) U8 (Nat.le_refl _) ?_ ?_ ?_ ?_ ?_ ?_ ?_
            · have hm_28 := hm_28 (); omega
            · exact fr_u (fr_t (fr_0 _ _) (fr_s hf_28 rfl)) hU8 rfl
            · omega
            · have y1 : U8 104 0 3 = T1 104 0 3 := up_k hU8 (by exact Nat.ne_of_beq_eq_false rfl) _ _
              omega
            · intro j a b; rw [show U8 482 0 j = T1 482 0 j from up_k hU8 (by exact Nat.ne_of_beq_eq_false rfl) _ _]; exact v1 j a (by rw [← show U8 104 0 3 = T1 104 0 3 from up_k hU8 (by exact Nat.ne_of_beq_eq_false rfl) _ _]; exact b)
            · have y1 : U8 104 0 3 = T1 104 0 3 := up_k hU8 (by exact Nat.ne_of_beq_eq_false rfl) _ _
              have y2 : U8 104 0 4 = T1 104 0 4 := up_k hU8 (by exact Nat.ne_of_beq_eq_false rfl) _ _
              rw [y1, y2, show U8 190 (T1 104 0 4) (-2) = T1 190 (T1 104 0 4) (-2) from up_k hU8 (by exact Nat.ne_of_beq_eq_false rfl) _ _]; exact l1
            · have y3 : U8 191 0 0 = T1 191 0 0 := up_k hU8 (by exact Nat.ne_of_beq_eq_false rfl) _ _
              exact ⟨lh_u h1.1 hU8 (by decide), by have := h1.2; omega⟩
            · exact ⟨fun x j hx hn => (up_k hU8 (by exact Nat.ne_of_beq_eq_false rfl) _ _).trans (k1.1 x j hx hn), by have y1 : U8 104 0 4 = T1 104 0 4 := up_k hU8 (by exact Nat.ne_of_beq_eq_false rfl) _ _; have y3 : U8 191 0 0 = T1 191 0 0 := up_k hU8 (by exact Nat.ne_of_beq_eq_false rfl) _ _; have y9 := k1.2; omega⟩
          · intro w14 w14b
            intro w15 w15b
            have y16 := hO.2 a x7 (by omega) (by omega) (by omega) (by omega)
            refine rg_i (by omega) ?_
            refine rg_i (by omega) ?_
            refine hK 28 [some (vR 104 0), some (vI d), some (vI (sl_ 1 (T 108 0 12))), some (vI (or_ a (sl_ 1 x7))), some (vI (v + 1)), some (vI (k + 1)), some (vR 102 (T1 482 0 k)), some (vI x7)] [] U8 ?_
            refine j_drop [some (vR 104 0), some (vI d), some (vI (sl_ 1 (T 108 0 12))), some (vI (or_ a (sl_ 1 x7))), some (vI (v + 1)), some (vI (k + 1)), none, none] (fun k v hk => ?_) rfl ?_
            · match k, hk with
              | 0, hk => exact hk
              | 1, hk => exact hk
              | 2, hk => exact hk
              | 3, hk => exact hk
              | 4, hk => exact hk
              | 5, hk => exact hk
              | 6, hk => cases hk
              | 7, hk => cases hk
              | k + 8, hk => cases hk
            refine j_mono (bc' := 0) (bs' := 0) (by omega) (by omega) ?_
            have e17 : U8 104 0 3 = T1 104 0 3 := up_k hU8 (by exact Nat.ne_of_beq_eq_false rfl) 0 3
            have e18 : U8 104 0 4 = T1 104 0 4 := up_k hU8 (by exact Nat.ne_of_beq_eq_false rfl) 0 4
            have e19 : U8 191 0 0 = T1 191 0 0 := up_k hU8 (by exact Nat.ne_of_beq_eq_false rfl) 0 0
            refine ih_28 _ ?_ (or_ a (sl_ 1 x7)) (v + 1) (k + 1) U8 (Nat.le_refl _) ?_ ?_ ?_ ?_ ?_ ?_ ?_
            · have hm_28 := hm_28 (); omega
            · exact fr_u (fr_t (fr_0 _ _) (fr_s hf_28 rfl)) hU8 rfl
            · omega
            · have y1 : U8 104 0 3 = T1 104 0 3 := up_k hU8 (by exact Nat.ne_of_beq_eq_false rfl) _ _
              omega
            · intro j a b; rw [show U8 482 0 j = T1 482 0 j from up_k hU8 (by exact Nat.ne_of_beq_eq_false rfl) _ _]; exact v1 j a (by rw [← show U8 104 0 3 = T1 104 0 3 from up_k hU8 (by exact Nat.ne_of_beq_eq_false rfl) _ _]; exact b)
            · have y1 : U8 104 0 3 = T1 104 0 3 := up_k hU8 (by exact Nat.ne_of_beq_eq_false rfl) _ _
              have y2 : U8 104 0 4 = T1 104 0 4 := up_k hU8 (by exact Nat.ne_of_beq_eq_false rfl) _ _
              rw [y1, y2, show U8 190 (T1 104 0 4) (-2) = T1 190 (T1 104 0 4) (-2) from up_k hU8 (by exact Nat.ne_of_beq_eq_false rfl) _ _]; exact l1
            · have y3 : U8 191 0 0 = T1 191 0 0 := up_k hU8 (by exact Nat.ne_of_beq_eq_false rfl) _ _
              exact ⟨lh_u h1.1 hU8 (by decide), by have := h1.2; omega⟩
            · exact ⟨fun x j hx hn => (up_k hU8 (by exact Nat.ne_of_beq_eq_false rfl) _ _).trans (k1.1 x j hx hn), by have y1 : U8 104 0 4 = T1 104 0 4 := up_k hU8 (by exact Nat.ne_of_beq_eq_false rfl) _ _; have y3 : U8 191 0 0 = T1 191 0 0 := up_k hU8 (by exact Nat.ne_of_beq_eq_false rfl) _ _; have y9 := k1.2; omega⟩
  refine j_blx (F := fX4) tb_X4 (nn_ _) bk_X4_share_e_0 bs_X4_share_e_0 hz (fun K hK => ?_)
  refine hK 2 _ [vI d, vR 104 0] T ?_
  refine j_callV (y := yX4_listMatches) (Yc := zX4_listMatches) (rest := []) [vI d] (ct_X4_listMatches (T := T) (hka) (hkm) (hdd)) cl_X4_26 (qd_c (by decide +kernel)) (nn_ _) rfl (rf_of rfl) (Nat.le_of_ble_eq_true rfl) (Nat.le_of_ble_eq_true rfl) (Nat.le_of_ble_eq_true rfl) rfl ?_
  rintro U20 _ ⟨rfl, fU20, qU20⟩
  show J_ zX4_share T (po_X4_share_e T d) 1 12544 5 _ [] U20
  refine j_blx (F := fX4) tb_X4 (nn_ _) bk_X4_share_e_5 bs_X4_share_e_5 hz (fun K hK => ?_)
  intro b21 b21b
  have e22 : U20 108 0 12 = T 108 0 12 := fU20 108 0 12 rfl
  rw [e22] at b21 b21b ⊢
  intro w23 w23b
  refine hK 17 [some (vR 104 0), some (vI d), some (vI (sl_ 1 (T 108 0 12))), none, none, none, none, none] [vI (sl_ 1 (T 108 0 12)), vR 104 0] U20 ?_
  have e24 : U20 108 0 12 = T 108 0 12 := fU20 108 0 12 rfl
  have e25 : U20 191 0 0 = T 191 0 0 := fU20 191 0 0 rfl
  have e26 : U20 106 0 4 = T 106 0 4 := fU20 106 0 4 rfl
  have hO := os_1 (o := T 108 0 12) (by omega)
  have hv : ∀ j, 0 ≤ j → j < U20 104 0 3 → 0 ≤ U20 482 0 j ∧ U20 482 0 j < U20 106 0 4 := fun j a b => by have y := qU20.2.1 j a b; omega
  refine j_callV (y := yX4_weighAll) (Yc := zX4_weighAll) (rest := []) [vI (sl_ 1 (T 108 0 12))] (ct_X4_weighAll_e (T := U20) (by exact KA__f hka (fU20) ⟨fun _ => rfl, fun _ => rfl, rfl, rfl, trivial⟩) (by exact qU20.1) (by rw [e24]; exact hO) (by exact hv) (by omega)) cl_X4_36 (qd_c (by decide +kernel)) (nn_ _) rfl (rf_of rfl) (Nat.le_of_ble_eq_true rfl) (Nat.le_of_ble_eq_true rfl) (Nat.le_of_ble_eq_true rfl) rfl ?_
  rintro U27 _ ⟨rfl, fU27, qU27⟩
  show J_ zX4_share T (po_X4_share_e T d) 0 0 20 _ [] U27
  refine j_blx (F := fX4) tb_X4 (nn_ _) bk_X4_share_e_20 bs_X4_share_e_20 hz (fun K hK => ?_)
  refine hK 28 [some (vR 104 0), some (vI d), some (vI (sl_ 1 (T 108 0 12))), some (vI 0), some (vI 0), some (vI 0), none, none] [] U27 ?_
  refine j_mono (bc' := 0) (bs' := 0) (by omega) (by omega) ?_
  have e28 : U27 104 0 3 = U20 104 0 3 := fU27 104 0 3 rfl
  refine c_28 _ 0 0 0 U27 (Nat.le_refl _) ?_ ?_ ?_ ?_ ?_ ?_ ?_
  · exact fr_t (fr_t (fr_0 _ _) (fr_s fU20 rfl)) (fr_s fU27 rfl)
  · omega
  · have y1 : U27 104 0 3 = U20 104 0 3 := fU27 104 0 3 rfl
    have y2 := qU20.1
    omega
  · intro j a b; rw [fU27 482 0 j rfl]; rw [fU27 104 0 3 rfl] at b; have y := hv j a b; omega
  · rw [fU27 104 0 3 rfl]; exact qU27.1
  · have y3 : U20 191 0 0 = T 191 0 0 := fU20 191 0 0 rfl
    exact ⟨lh_t (lh_f (ws := [(104, [3]), (482, [])]) lh_r fU20 rfl rfl) qU27.2.2.1, by have := qU27.2.2.2; omega⟩
  · have y4 : U20 104 0 4 = T 104 0 4 := fU20 104 0 4 rfl
    have y5 : U20 191 0 0 = T 191 0 0 := fU20 191 0 0 rfl
    exact ⟨fun x j hx hn => (qU27.2.1.1 x j (by omega) (by omega)).trans (fU20 190 x j rfl), by have y6 := qU27.2.1.2; omega⟩
theorem bk_X10_assign_e_0 : ck_ fX10 (some .int) cX10_assign 0 [.iload 1] 1 = true := qck_r (nn_ _) (by decide +kernel)
theorem bs_X10_assign_e_0 {P : Zt → Option Zv → Prop} (K : Int → Zl → List Zv → Zt → Prop) : sx_ K P [.iload 1] 1 = x_iload 1 (K 1) := ((xe_iload 1).trans (congrArg (x_iload 1) xe_nil))
theorem bk_X10_assign_e_4 : ck_ fX10 (some .int) cX10_assign 4 [.ifCond .ne 10, .iconst (-3), .ireturn] 10 = true := qck_r (nn_ _) (by decide +kernel)
theorem bs_X10_assign_e_4 {P : Zt → Option Zv → Prop} (K : Int → Zl → List Zv → Zt → Prop) : sx_ K P [.ifCond .ne 10, .iconst (-3), .ireturn] 10 = x_ifCond .ne 10 K (x_iconst (-3) (x_ireturn P)) := ((xe_ifCond .ne 10).trans (congrArg (x_ifCond .ne 10 K) ((xe_iconst (-3)).trans (congrArg (x_iconst (-3)) (xe_ireturn)))))
theorem bk_X10_assign_e_10 : ck_ fX10 (some .int) cX10_assign 10 [.aload 0, .tableswitch 0 10 6 #[], .iload 1] 15 = true := qck_r (nn_ _) (by decide +kernel)
theorem bs_X10_assign_e_10 {P : Zt → Option Zv → Prop} (K : Int → Zl → List Zv → Zt → Prop) : sx_ K P [.aload 0, .tableswitch 0 10 6 #[], .iload 1] 15 = x_aload 0 (x_g1 110 104 (x_iload 1 (K 15))) := ((xe_aload 0).trans (congrArg (x_aload 0) ((xe_g1 (kk := 110) rfl tl_10_6).trans (congrArg (x_g1 110 104) ((xe_iload 1).trans (congrArg (x_iload 1) xe_nil))))))
theorem bk_X10_assign_e_18 : ck_ fX10 (some .int) cX10_assign 18 [.ireturn] 19 = true := qck_r (nn_ _) (by decide +kernel)
theorem bs_X10_assign_e_18 {P : Zt → Option Zv → Prop} (K : Int → Zl → List Zv → Zt → Prop) : sx_ K P [.ireturn] 19 = x_ireturn P := (xe_ireturn)
abbrev po_X10_assign_e (T : Zt) (d : Int) : Zt → Option Zv → Prop := fun T' r => ∃ x : Int, r = some (vI x) ∧ fr_ [(104, [3, 4]), (482, []), (102, [7]), (190, []), (191, [0])] T T' ∧ KPA_ T T' ∧ lh_ T T' ∧ T' 191 0 0 ≤ T 191 0 0 + 1
set_option maxHeartbeats 4000000 in
theorem ct_X10_assign_e {T : Zt} {d : Int} (hka : KA_ T) (hkm : KM_ T) (hdd : DD_ T) (h9 : 0 ≤ T 191 0 0 ∧ T 191 0 0 ≤ 900000000) : Ct_ yX10_assign zX10_assign T [vR 110 0, vI d] (po_X10_assign_e T d) := by
  refine ct_of pn_10 rfl rfl (Nat.le_of_ble_eq_true rfl) (fun hT hav => ?_)
  have hr_d : -2147483648 ≤ d ∧ d ≤ 2147483647 := hav (vI d) (List.mem_cons_of_mem _ List.mem_cons_self)
  have hz : zX10_assign.2.2.2.1 = some .boolean → ∀ (T' : Zt) (x : Int), po_X10_assign_e T d T' (some (vI x)) → 0 ≤ x ∧ x ≤ 1 := fun h => by cases h
  show J_ zX10_assign T (po_X10_assign_e T d) 1 12544 0 [some (vR 110 0), some (vI d)] [] T
  refine j_blx (F := fX10) tb_X10 (nn_ _) bk_X10_assign_e_0 bs_X10_assign_e_0 hz (fun K hK => ?_)
  refine hK 1 _ [vI d] T ?_
  refine j_callS (y := yX10_isDay) (Yc := zX10_isDay) (rest := []) [vI d] (ct_X10_isDay (T := T)) cl_X10_140 (qd_c (by decide +kernel)) (nn_ _) rfl (rf_of rfl) (Nat.le_of_ble_eq_true rfl) (Nat.le_of_ble_eq_true rfl) (Nat.le_of_ble_eq_true rfl) rfl ?_
  rintro _ _ ⟨rfl, x1, rfl, hx1⟩
  show J_ zX10_assign T (po_X10_assign_e T d) 1 12544 4 _ [vI x1] T
  refine j_blx (F := fX10) tb_X10 (nn_ _) bk_X10_assign_e_4 bs_X10_assign_e_4 hz (fun K hK => ?_)
  refine And.intro (fun c2 => ?_) (fun c2 => ?_)
  · replace hx1 := hx1.resolve_right (fun z => c2 z.1)
    clear c2
    refine hK 10 _ [] T ?_
    refine j_blx (F := fX10) tb_X10 (nn_ _) bk_X10_assign_e_10 bs_X10_assign_e_10 hz (fun K hK => ?_)
    refine hK 15 _ [vI d, vR 104 0] T ?_
    refine j_callV (y := yX4_share) (Yc := zX4_share) (rest := []) [vI d] (ct_X4_share_e (T := T) hka hkm hdd h9) cl_X10_423 (qd_c (by decide +kernel)) (nn_ _) rfl (rf_of rfl) (Nat.le_of_ble_eq_true rfl) (Nat.le_of_ble_eq_true rfl) (Nat.le_of_ble_eq_true rfl) rfl ?_
    rintro U3 _ ⟨x4, rfl, fU3, kpU3, lhU3, mU3⟩
    show J_ zX10_assign T (po_X10_assign_e T d) 0 0 18 _ [vI x4] U3
    refine j_blx (F := fX10) tb_X10 (nn_ _) bk_X10_assign_e_18 bs_X10_assign_e_18 hz (fun K hK => ?_)
    refine (show po_X10_assign_e T d U3 (some (vI x4)) from ?_)
    exact ⟨_, rfl, fU3, kpU3, lhU3, mU3⟩
  · replace hx1 := hx1.resolve_left (fun z => absurd (c2.symm.trans z.1) (by decide))
    clear c2
    refine (show po_X10_assign_e T d T (some (vI (-3))) from ?_)
    exact ⟨_, rfl, fr_0 _ _, kpa_r, lh_r, by omega⟩
theorem bk_X9_leastCut_e_72 : ck_ fX9 (some .int) cX9_leastCut 72 [.iload 4, .iconst 4096, .if_icmp .ge 161, .iload 3, .iload 2, .if_icmp .eq 161, .iload 3, .iload 2, .isub, .iload 2, .iand, .istore 3, .iload 3] 92 = true := qck_r (nn_ _) (by decide +kernel)
theorem bs_X9_leastCut_e_72 {P : Zt → Option Zv → Prop} (K : Int → Zl → List Zv → Zt → Prop) : sx_ K P [.iload 4, .iconst 4096, .if_icmp .ge 161, .iload 3, .iload 2, .if_icmp .eq 161, .iload 3, .iload 2, .isub, .iload 2, .iand, .istore 3, .iload 3] 92 = x_iload 4 (x_iconst 4096 (x_if_icmp .ge 161 K (x_iload 3 (x_iload 2 (x_if_icmp .eq 161 K (x_iload 3 (x_iload 2 (x_isub (x_iload 2 (x_iand (x_istore 3 (x_iload 3 (K 92))))))))))))) := ((xe_iload 4).trans (congrArg (x_iload 4) ((xe_iconst 4096).trans (congrArg (x_iconst 4096) ((xe_if_icmp .ge 161).trans (congrArg (x_if_icmp .ge 161 K) ((xe_iload 3).trans (congrArg (x_iload 3) ((xe_iload 2).trans (congrArg (x_iload 2) ((xe_if_icmp .eq 161).trans (congrArg (x_if_icmp .eq 161 K) ((xe_iload 3).trans (congrArg (x_iload 3) ((xe_iload 2).trans (congrArg (x_iload 2) ((xe_isub).trans (congrArg (x_isub) ((xe_iload 2).trans (congrArg (x_iload 2) ((xe_iand).trans (congrArg (x_iand) ((xe_istore 3).trans (congrArg (x_istore 3) ((xe_iload 3).trans (congrArg (x_iload 3) xe_nil))))))))))))))))))))))))))
theorem bk_X9_leastCut_e_161 : ck_ fX9 (some .int) cX9_leastCut 161 [.iconst 0, .ireturn] 163 = true := qck_r (nn_ _) (by decide +kernel)
theorem bs_X9_leastCut_e_161 {P : Zt → Option Zv → Prop} (K : Int → Zl → List Zv → Zt → Prop) : sx_ K P [.iconst 0, .ireturn] 163 = x_iconst 0 (x_ireturn P) := ((xe_iconst 0).trans (congrArg (x_iconst 0) (xe_ireturn)))
theorem bk_X9_leastCut_e_95 : ck_ fX9 (some .int) cX9_leastCut 95 [.istore 5, .iload 3, .iload 3, .iconst 1, .isub, .iand, .istore 6, .aload 0, .tableswitch 0 9 15 #[], .iload 3, .aload 0, .tableswitch 0 9 15 #[], .iload 6, .iaload, .aload 0, .tableswitch 0 9 11 #[], .aload 0, .tableswitch 0 9 5 #[], .tableswitch 0 0 4 #[], .iload 5, .iaload, .iaload, .fadd, .iconst 2, .aload 0, .iload 5, .iload 6] 138 = true := qck_r (nn_ _) (by decide +kernel)
theorem bs_X9_leastCut_e_95 {P : Zt → Option Zv → Prop} (K : Int → Zl → List Zv → Zt → Prop) : sx_ K P [.istore 5, .iload 3, .iload 3, .iconst 1, .isub, .iand, .istore 6, .aload 0, .tableswitch 0 9 15 #[], .iload 3, .aload 0, .tableswitch 0 9 15 #[], .iload 6, .iaload, .aload 0, .tableswitch 0 9 11 #[], .aload 0, .tableswitch 0 9 5 #[], .tableswitch 0 0 4 #[], .iload 5, .iaload, .iaload, .fadd, .iconst 2, .aload 0, .iload 5, .iload 6] 138 = x_istore 5 (x_iload 3 (x_iload 3 (x_iconst 1 (x_isub (x_iand (x_istore 6 (x_aload 0 (x_g5 109 190 15 (x_iload 3 (x_aload 0 (x_g5 109 190 15 (x_iload 6 (x_iaload (x_aload 0 (x_g1 109 591 (x_aload 0 (x_g5 109 100 5 (x_g2 100 404 (x_iload 5 (x_iaload (x_iaload (x_fadd (x_iconst 2 (x_aload 0 (x_iload 5 (x_iload 6 (K 138))))))))))))))))))))))))))) := ((xe_istore 5).trans (congrArg (x_istore 5) ((xe_iload 3).trans (congrArg (x_iload 3) ((xe_iload 3).trans (congrArg (x_iload 3) ((xe_iconst 1).trans (congrArg (x_iconst 1) ((xe_isub).trans (congrArg (x_isub) ((xe_iand).trans (congrArg (x_iand) ((xe_istore 6).trans (congrArg (x_istore 6) ((xe_aload 0).trans (congrArg (x_aload 0) ((xe_g5 (kk := 109) rfl tl_9_15).trans (congrArg (x_g5 109 190 15) ((xe_iload 3).trans (congrArg (x_iload 3) ((xe_aload 0).trans (congrArg (x_aload 0) ((xe_g5 (kk := 109) rfl tl_9_15).trans (congrArg (x_g5 109 190 15) ((xe_iload 6).trans (congrArg (x_iload 6) ((xe_iaload).trans (congrArg (x_iaload) ((xe_aload 0).trans (congrArg (x_aload 0) ((xe_g1 (kk := 109) rfl tl_9_11).trans (congrArg (x_g1 109 591) ((xe_aload 0).trans (congrArg (x_aload 0) ((xe_g5 (kk := 109) rfl tl_9_5).trans (congrArg (x_g5 109 100 5) ((xe_g2 (kk := 100) rfl tl_0_4).trans (congrArg (x_g2 100 404) ((xe_iload 5).trans (congrArg (x_iload 5) ((xe_iaload).trans (congrArg (x_iaload) ((xe_iaload).trans (congrArg (x_iaload) ((xe_fadd).trans (congrArg (x_fadd) ((xe_iconst 2).trans (congrArg (x_iconst 2) ((xe_aload 0).trans (congrArg (x_aload 0) ((xe_iload 5).trans (congrArg (x_iload 5) ((xe_iload 6).trans (congrArg (x_iload 6) xe_nil))))))))))))))))))))))))))))))))))))))))))))))))))))))
theorem bk_X9_leastCut_e_141 : ck_ fX9 (some .int) cX9_leastCut 141 [.imul, .fsub, .iastore, .aload 0, .tableswitch 0 9 15 #[], .iload 3, .iaload, .ifCond .ge 155, .iload 3, .ireturn] 155 = true := qck_r (nn_ _) (by decide +kernel)
theorem bs_X9_leastCut_e_141 {P : Zt → Option Zv → Prop} (K : Int → Zl → List Zv → Zt → Prop) : sx_ K P [.imul, .fsub, .iastore, .aload 0, .tableswitch 0 9 15 #[], .iload 3, .iaload, .ifCond .ge 155, .iload 3, .ireturn] 155 = x_imul (x_fsub (x_iastore (x_aload 0 (x_g5 109 190 15 (x_iload 3 (x_iaload (x_ifCond .ge 155 K (x_iload 3 (x_ireturn P))))))))) := ((xe_imul).trans (congrArg (x_imul) ((xe_fsub).trans (congrArg (x_fsub) ((xe_iastore).trans (congrArg (x_iastore) ((xe_aload 0).trans (congrArg (x_aload 0) ((xe_g5 (kk := 109) rfl tl_9_15).trans (congrArg (x_g5 109 190 15) ((xe_iload 3).trans (congrArg (x_iload 3) ((xe_iaload).trans (congrArg (x_iaload) ((xe_ifCond .ge 155).trans (congrArg (x_ifCond .ge 155 K) ((xe_iload 3).trans (congrArg (x_iload 3) (xe_ireturn)))))))))))))))))))
theorem bk_X9_leastCut_e_155 : ck_ fX9 (some .int) cX9_leastCut 155 [.iinc 4 1, .goto 72] 161 = true := qck_r (nn_ _) (by decide +kernel)
theorem bs_X9_leastCut_e_155 {P : Zt → Option Zv → Prop} (K : Int → Zl → List Zv → Zt → Prop) : sx_ K P [.iinc 4 1, .goto 72] 161 = x_iinc 4 1 (x_goto 72 K) := ((xe_iinc 4 1).trans (congrArg (x_iinc 4 1) (xe_goto 72)))
theorem bk_X9_leastCut_e_27 : ck_ fX9 (some .int) cX9_leastCut 27 [.iload 3, .aload 0, .tableswitch 0 9 5 #[], .tableswitch 0 0 5 #[], .if_icmp .ge 67, .iload 2, .iload 3, .iload 1, .if_icmp .ne 48, .iconst 0, .goto 59] 48 = true := qck_r (nn_ _) (by decide +kernel)
theorem bs_X9_leastCut_e_27 {P : Zt → Option Zv → Prop} (K : Int → Zl → List Zv → Zt → Prop) : sx_ K P [.iload 3, .aload 0, .tableswitch 0 9 5 #[], .tableswitch 0 0 5 #[], .if_icmp .ge 67, .iload 2, .iload 3, .iload 1, .if_icmp .ne 48, .iconst 0, .goto 59] 48 = x_iload 3 (x_aload 0 (x_g5 109 100 5 (x_g0 100 5 0 12 (x_if_icmp .ge 67 K (x_iload 2 (x_iload 3 (x_iload 1 (x_if_icmp .ne 48 K (x_iconst 0 (x_goto 59 K)))))))))) := ((xe_iload 3).trans (congrArg (x_iload 3) ((xe_aload 0).trans (congrArg (x_aload 0) ((xe_g5 (kk := 109) rfl tl_9_5).trans (congrArg (x_g5 109 100 5) ((xe_g0 (kk := 100) rfl tl_0_5).trans (congrArg (x_g0 100 5 0 12) ((xe_if_icmp .ge 67).trans (congrArg (x_if_icmp .ge 67 K) ((xe_iload 2).trans (congrArg (x_iload 2) ((xe_iload 3).trans (congrArg (x_iload 3) ((xe_iload 1).trans (congrArg (x_iload 1) ((xe_if_icmp .ne 48).trans (congrArg (x_if_icmp .ne 48 K) ((xe_iconst 0).trans (congrArg (x_iconst 0) (xe_goto 59)))))))))))))))))))))
theorem bk_X9_leastCut_e_67 : ck_ fX9 (some .int) cX9_leastCut 67 [.iconst 0, .istore 3, .iconst 1, .istore 4] 72 = true := qck_r (nn_ _) (by decide +kernel)
theorem bs_X9_leastCut_e_67 {P : Zt → Option Zv → Prop} (K : Int → Zl → List Zv → Zt → Prop) : sx_ K P [.iconst 0, .istore 3, .iconst 1, .istore 4] 72 = x_iconst 0 (x_istore 3 (x_iconst 1 (x_istore 4 (K 72)))) := ((xe_iconst 0).trans (congrArg (x_iconst 0) ((xe_istore 3).trans (congrArg (x_istore 3) ((xe_iconst 1).trans (congrArg (x_iconst 1) ((xe_istore 4).trans (congrArg (x_istore 4) xe_nil))))))))
theorem bk_X9_leastCut_e_48 : ck_ fX9 (some .int) cX9_leastCut 48 [.iconst 1, .aload 0, .tableswitch 0 9 5 #[], .tableswitch 0 0 3 #[], .iload 3, .iaload, .ishl, .ior, .istore 2, .iinc 3 1, .goto 27] 67 = true := qck_r (nn_ _) (by decide +kernel)
theorem bs_X9_leastCut_e_48 {P : Zt → Option Zv → Prop} (K : Int → Zl → List Zv → Zt → Prop) : sx_ K P [.iconst 1, .aload 0, .tableswitch 0 9 5 #[], .tableswitch 0 0 3 #[], .iload 3, .iaload, .ishl, .ior, .istore 2, .iinc 3 1, .goto 27] 67 = x_iconst 1 (x_aload 0 (x_g5 109 100 5 (x_g2 100 403 (x_iload 3 (x_iaload (x_ishl (x_ior (x_istore 2 (x_iinc 3 1 (x_goto 27 K)))))))))) := ((xe_iconst 1).trans (congrArg (x_iconst 1) ((xe_aload 0).trans (congrArg (x_aload 0) ((xe_g5 (kk := 109) rfl tl_9_5).trans (congrArg (x_g5 109 100 5) ((xe_g2 (kk := 100) rfl tl_0_3).trans (congrArg (x_g2 100 403) ((xe_iload 3).trans (congrArg (x_iload 3) ((xe_iaload).trans (congrArg (x_iaload) ((xe_ishl).trans (congrArg (x_ishl) ((xe_ior).trans (congrArg (x_ior) ((xe_istore 2).trans (congrArg (x_istore 2) ((xe_iinc 3 1).trans (congrArg (x_iinc 3 1) (xe_goto 27)))))))))))))))))))))
theorem bk_X9_leastCut_e_59 : ck_ fX9 (some .int) cX9_leastCut 59 [.ior, .istore 2, .iinc 3 1, .goto 27] 67 = true := qck_r (nn_ _) (by decide +kernel)
theorem bs_X9_leastCut_e_59 {P : Zt → Option Zv → Prop} (K : Int → Zl → List Zv → Zt → Prop) : sx_ K P [.ior, .istore 2, .iinc 3 1, .goto 27] 67 = x_ior (x_istore 2 (x_iinc 3 1 (x_goto 27 K))) := ((xe_ior).trans (congrArg (x_ior) ((xe_istore 2).trans (congrArg (x_istore 2) ((xe_iinc 3 1).trans (congrArg (x_iinc 3 1) (xe_goto 27)))))))
theorem bk_X9_leastCut_e_16 : ck_ fX9 (some .int) cX9_leastCut 16 [.aload 0, .tableswitch 0 9 15 #[], .iconst 0, .iconst 0, .iastore, .iconst 0, .istore 2, .iconst 0, .istore 3] 27 = true := qck_r (nn_ _) (by decide +kernel)
theorem bs_X9_leastCut_e_16 {P : Zt → Option Zv → Prop} (K : Int → Zl → List Zv → Zt → Prop) : sx_ K P [.aload 0, .tableswitch 0 9 15 #[], .iconst 0, .iconst 0, .iastore, .iconst 0, .istore 2, .iconst 0, .istore 3] 27 = x_aload 0 (x_g5 109 190 15 (x_iconst 0 (x_iconst 0 (x_iastore (x_iconst 0 (x_istore 2 (x_iconst 0 (x_istore 3 (K 27))))))))) := ((xe_aload 0).trans (congrArg (x_aload 0) ((xe_g5 (kk := 109) rfl tl_9_15).trans (congrArg (x_g5 109 190 15) ((xe_iconst 0).trans (congrArg (x_iconst 0) ((xe_iconst 0).trans (congrArg (x_iconst 0) ((xe_iastore).trans (congrArg (x_iastore) ((xe_iconst 0).trans (congrArg (x_iconst 0) ((xe_istore 2).trans (congrArg (x_istore 2) ((xe_iconst 0).trans (congrArg (x_iconst 0) ((xe_istore 3).trans (congrArg (x_istore 3) xe_nil))))))))))))))))))
theorem bk_X9_leastCut_e_0 : ck_ fX9 (some .int) cX9_leastCut 0 [.aload 0, .tableswitch 0 9 15 #[], .ifnonnull 16, .aload 0, .iconst 4096] 11 = true := qck_r (nn_ _) (by decide +kernel)
theorem bs_X9_leastCut_e_0 {P : Zt → Option Zv → Prop} (K : Int → Zl → List Zv → Zt → Prop) : sx_ K P [.aload 0, .tableswitch 0 9 15 #[], .ifnonnull 16, .aload 0, .iconst 4096] 11 = x_aload 0 (x_g5 109 190 15 (x_ifnonnull 16 K (x_aload 0 (x_iconst 4096 (K 11))))) := ((xe_aload 0).trans (congrArg (x_aload 0) ((xe_g5 (kk := 109) rfl tl_9_15).trans (congrArg (x_g5 109 190 15) ((xe_ifnonnull 16).trans (congrArg (x_ifnonnull 16 K) ((xe_aload 0).trans (congrArg (x_aload 0) ((xe_iconst 4096).trans (congrArg (x_iconst 4096) xe_nil))))))))))
abbrev po_X9_leastCut_e (T : Zt) (t : Int) : Zt → Option Zv → Prop := fun T' r => ∃ x : Int, r = some (vI x) ∧ fr_ [(109, [15]), (190, []), (191, [0])] T T' ∧ (0 ≤ x ∧ x ≤ 4095) ∧ (T' 109 0 15 ≠ 0 → T' 190 (T' 109 0 15 - 1) (-2) = 4096 ∧ 1 ≤ T' 109 0 15) ∧ KPT_ T T' ∧ lh_ T T' ∧ T' 191 0 0 ≤ T 191 0 0 + 1
set_option maxHeartbeats 4000000 in
theorem ct_X9_leastCut_e {T : Zt} {t : Int} (hq9 : Q9_ T) (hka : KA_ T) (hke : KEc_ T (T 109 0 5 - 1)) (hsl : T 109 0 15 ≠ 0 → T 190 (T 109 0 15 - 1) (-2) = 4096 ∧ 1 ≤ T 109 0 15) (h9 : 0 ≤ T 191 0 0 ∧ T 191 0 0 ≤ 900000000) : Ct_ yX9_leastCut zX9_leastCut T [vR 109 0, vI t] (po_X9_leastCut_e T t) := by
  refine ct_of pn_9 rfl rfl (Nat.le_of_ble_eq_true rfl) (fun hT hav => ?_)
  have hr_t : -2147483648 ≤ t ∧ t ≤ 2147483647 := hav (vI t) (List.mem_cons_of_mem _ List.mem_cons_self)
  have hz : zX9_leastCut.2.2.2.1 = some .boolean → ∀ (T' : Zt) (x : Int), po_X9_leastCut_e T t T' (some (vI x)) → 0 ≤ x ∧ x ≤ 1 := fun h => by cases h
  have hct := hq9.1
  have hen : 0 ≤ T 100 (T 109 0 5 - 1) 5 ∧ T 100 (T 109 0 5 - 1) 5 ≤ 12 := bd_f hT 100 5 tl_0_5 (T 109 0 5 - 1)
  show J_ zX9_leastCut T (po_X9_leastCut_e T t) 1 4096 0 [some (vR 109 0), some (vI t), none, none, none, none, none] [] T
  have c_16 : ∀ (b : Int) (T1 : Zt), (fr_ [(109, [15]), (190, []), (191, [0])] T T1) → (T1 109 0 15 = b + 1 ∧ T1 190 b (-2) = 4096 ∧ 0 ≤ b) → (lh_ T T1 ∧ T1 191 0 0 ≤ T 191 0 0 + 1) → (KPT_ T T1) → J_ zX9_leastCut T (po_X9_leastCut_e T t) 0 0 16 [some (vR 109 0), some (vI t), none, none, none, none, none] [] T1 := by
    intro b T1 hf_16 l1 h1 k1
    have c_72 : ∀ (nn : Nat) (o : Int) (g : Int) (j : Int) (T3 : Zt), ((4096 - j).toNat) ≤ nn → (fr_ [(109, [15]), (190, []), (191, [0])] T T3) → (0 ≤ o ∧ o ≤ 4095 ∧ 0 ≤ g ∧ g < 4096 ∧ 1 ≤ j) → (an_ g o = g) → (OB_ T (T 109 0 5 - 1) o) → (T3 109 0 15 = b + 1 ∧ T3 190 b (-2) = 4096 ∧ 0 ≤ b) → (lh_ T T3 ∧ T3 191 0 0 ≤ T 191 0 0 + 1) → (KPT_ T T3) → J_ zX9_leastCut T (po_X9_leastCut_e T t) 0 0 72 [some (vR 109 0), some (vI t), some (vI o), some (vI g), some (vI j), none, none] [] T3 := by
      intro nn
      induction nn using Nat.strongRecOn with
      | _ nn ih_72 =>
        intro o g j T3 hm_72 hf_72 i3 n3 obo l3 h3 k3
        replace hm_72 := fun (_ : Unit) => hm_72
        refine j_blx (F := fX9) tb_X9 (nn_ _) bk_X9_leastCut_e_72 bs_X9_leastCut_e_72 hz (fun K hK => ?_)
        refine And.intro (fun c1 => ?_) (fun c1 => ?_)
        · refine hK 161 _ [] T3 ?_
          refine j_blx (F := fX9) tb_X9 (nn_ _) bk_X9_leastCut_e_161 bs_X9_leastCut_e_161 hz (fun K hK => ?_)
          refine (show po_X9_leastCut_e T t T3 (some (vI 0)) from ?_)
          exact ⟨_, rfl, hf_72, by omega, fun _ => ⟨by rw [show T3 109 0 15 - 1 = b by omega]; exact l3.2.1, by omega⟩, k3, h3⟩
        · refine And.intro (fun c2 => ?_) (fun c2 => ?_)
          · refine hK 161 _ [] T3 ?_
            refine j_blx (F := fX9) tb_X9 (nn_ _) bk_X9_leastCut_e_161 bs_X9_leastCut_e_161 hz (fun K hK => ?_)
            refine (show po_X9_leastCut_e T t T3 (some (vI 0)) from ?_)
            exact ⟨_, rfl, hf_72, by omega, fun _ => ⟨by rw [show T3 109 0 15 - 1 = b by omega]; exact l3.2.1, by omega⟩, k3, h3⟩
          · refine rg_i (by omega) ?_
            intro w3 w3b
            obtain ⟨nx0, nx1, nxi⟩ := nx_1 (s := g) (o := o) (by omega) (by omega) n3 (by omega)
            refine hK 92 [some (vR 109 0), some (vI t), some (vI o), some (vI (an_ (g - o) o)), some (vI j), none, none] [vI (an_ (g - o) o)] T3 ?_
            refine j_callS (y := yJ6_numberOfTrailingZeros_0f7a4) (Yc := zJ6_numberOfTrailingZeros_0f7a4) (rest := []) [vI (an_ (g - o) o)] (ct_J6_numberOfTrailingZeros_0f7a4 (T := T3) (by omega)) cl_X9_168 (qd_c (by decide +kernel)) (nn_ _) rfl (rf_of rfl) (Nat.le_of_ble_eq_true rfl) (Nat.le_of_ble_eq_true rfl) (Nat.le_of_ble_eq_true rfl) rfl ?_
            rintro _ _ ⟨rfl, x4, rfl, hx4⟩
            have g5 := obo x4 hx4.1 hx4.2.1 (nx_b (by omega) (by omega) nxi ⟨by omega, by omega⟩ hx4.2.2)
            show J_ zX9_leastCut T (po_X9_leastCut_e T t) 0 0 95 _ [vI x4] T3
            refine j_blx (F := fX9) tb_X9 (nn_ _) bk_X9_leastCut_e_95 bs_X9_leastCut_e_95 hz (fun K hK => ?_)
            refine rg_i (by omega) ?_
            intro w5 w5b
            obtain ⟨-, ny0, ny1⟩ := an_1 (s := an_ (g - o) o) (by omega)
            refine And.intro (fun c6 => ?_) (fun c6 => ?_)
            · exact absurd c6 (by omega)
            · have z7 : T3 109 0 15 - 1 = b := by omega
              rw [z7]
              refine And.intro (fun c8 => ?_) (fun c8 => ?_)
              · exact absurd c8 (by omega)
              · have z9 : T3 109 0 15 - 1 = b := by omega
                rw [z9]
                refine ix_i (by omega) ?_
                intro b10 b10b
                have e12 : T3 109 0 5 = T 109 0 5 := hf_72 109 0 5 rfl
                refine And.intro (fun c11 => ?_) (fun c11 => ?_)
                · exact absurd c11 (by omega)
                · have z13 : T3 109 0 5 - 1 = (T 109 0 5 - 1) := by omega
                  rw [z13]
                  refine ix_i (by omega) ?_
                  intro b14 b14b
                  have e15 : T3 404 (T 109 0 5 - 1) x4 = T 404 (T 109 0 5 - 1) x4 := hf_72 404 (T 109 0 5 - 1) x4 rfl
                  rw [e15] at b14 b14b ⊢
                  refine ix_i (by omega) ?_
                  intro b16 b16b
                  have e17 : T3 591 0 (T 404 (T 109 0 5 - 1) x4) = T 591 0 (T 404 (T 109 0 5 - 1) x4) := hf_72 591 0 (T 404 (T 109 0 5 - 1) x4) rfl
                  rw [e17] at b16 b16b ⊢
                  intro w18 w18b
                  refine hK 138 [some (vR 109 0), some (vI t), some (vI o), some (vI (an_ (g - o) o)), some (vI j), some (vI x4), some (vI (an_ (an_ (g - o) o) ((an_ (g - o) o) - 1)))] [vI (an_ (an_ (g - o) o) ((an_ (g - o) o) - 1)), vI x4, vR 109 0, vI 2, vI (wr_ ((T3 190 b (an_ (an_ (g - o) o) ((an_ (g - o) o) - 1))) + (T 591 0 (T 404 (T 109 0 5 - 1) x4)))), vI (an_ (g - o) o), vR 190 b] T3 ?_
                  refine j_callV (y := yX9_openBetween) (Yc := zX9_openBetween) (rest := [vI 2, vI (wr_ ((T3 190 b (an_ (an_ (g - o) o) ((an_ (g - o) o) - 1))) + (T 591 0 (T 404 (T 109 0 5 - 1) x4)))), vI (an_ (g - o) o), vR 190 b]) [vI x4, vI (an_ (an_ (g - o) o) ((an_ (g - o) o) - 1))] (ct_X9_openBetween (T := T3) (by exact q9_f hq9 (show fr_ [(109, [15]), (190, []), (191, [0])] T T3 from fr_t (fr_0 _ _) (fr_s hf_72 rfl)) ⟨fun _ _ => rfl, fun _ => rfl, rfl, rfl, rfl, rfl, rfl⟩) (by exact KA__f hka (show fr_ [(109, [15]), (190, []), (191, [0])] T T3 from fr_t (fr_0 _ _) (fr_s hf_72 rfl)) ⟨fun _ => rfl, fun _ => rfl, rfl, rfl, trivial⟩)) cl_X9_173 (qd_c (by decide +kernel)) (nn_ _) rfl (rf_of rfl) (Nat.le_of_ble_eq_true rfl) (Nat.le_of_ble_eq_true rfl) (Nat.le_of_ble_eq_true rfl) rfl ?_
                  rintro _ _ ⟨rfl, x19, rfl, hx19⟩
                  show J_ zX9_leastCut T (po_X9_leastCut_e T t) 0 0 141 _ [vI x19, vI 2, vI (wr_ ((T3 190 b (an_ (an_ (g - o) o) ((an_ (g - o) o) - 1))) + (T 591 0 (T 404 (T 109 0 5 - 1) x4)))), vI (an_ (g - o) o), vR 190 b] T3
                  refine j_blx (F := fX9) tb_X9 (nn_ _) bk_X9_leastCut_e_141 bs_X9_leastCut_e_141 hz (fun K hK => ?_)
                  refine rg_i (by omega) ?_
                  intro w20 w20b
                  refine iy_i (by omega) (by omega) ?_
                  refine x_nm (fun U21 hU21 => ?_)
                  have e22 := up_f hU21
                  have e24 : U21 109 0 15 = T3 109 0 15 := up_k hU21 (by exact Nat.ne_of_beq_eq_false rfl) 0 15
                  refine And.intro (fun c23 => ?_) (fun c23 => ?_)
                  · exact absurd c23 (by omega)
                  · have z25 : U21 109 0 15 - 1 = b := by omega
                    rw [z25]
                    have y26 : U21 190 b (-2) = T3 190 b (-2) := up_g hU21 (fun z => by omega)
                    refine ix_i (by omega) ?_
                    intro b27 b27b
                    have e28 : U21 190 b (an_ (g - o) o) = wr_ ((wr_ ((T3 190 b (an_ (an_ (g - o) o) ((an_ (g - o) o) - 1))) + (T 591 0 (T 404 (T 109 0 5 - 1) x4)))) - (2 * x19)) := up_f hU21
                    rw [e28] at b27 b27b ⊢
                    refine And.intro (fun c29 => ?_) (fun c29 => ?_)
                    · refine hK 155 _ [] U21 ?_
                      refine j_blx (F := fX9) tb_X9 (nn_ _) bk_X9_leastCut_e_155 bs_X9_leastCut_e_155 hz (fun K hK => ?_)
                      refine rg_i (by omega) ?_
                      refine hK 72 [some (vR 109 0), some (vI t), some (vI o), some (vI (an_ (g - o) o)), some (vI (j + 1)), some (vI x4), some (vI (an_ (an_ (g - o) o) ((an_ (g - o) o) - 1)))] [] U21 ?_
                      refine j_drop [some (vR 109 0), some (vI t), some (vI o), some (vI (an_ (g - o) o)), some (vI (j + 1)), none, none] (fun k v hk => ?_) rfl ?_
                      · match k, hk with
                        | 0, hk => exact hk
                        | 1, hk => exact hk
                        | 2, hk => exact hk
                        | 3, hk => exact hk
                        | 4, hk => exact hk
                        | 5, hk => cases hk
                        | 6, hk => cases hk
                        | k + 7, hk => cases hk
                      have e30 : U21 109 0 15 = T3 109 0 15 := up_k hU21 (by exact Nat.ne_of_beq_eq_false rfl) 0 15
                      have e31 : U21 191 0 0 = T3 191 0 0 := up_k hU21 (by exact Nat.ne_of_beq_eq_false rfl) 0 0
                      refine ih_72 _ ?_ o (an_ (g - o) o) (j + 1) U21 (Nat.le_refl _) ?_ ?_ ?_ ?_ ?_ ?_ ?_
                      · have hm_72 := hm_72 (); omega
                      · exact fr_u (fr_t (fr_0 _ _) (fr_s hf_72 rfl)) hU21 rfl
                      · omega
                      · exact nxi
                      · exact obo
                      · exact ⟨(up_k hU21 (by exact Nat.ne_of_beq_eq_false rfl) _ _).trans l3.1, (up_g hU21 (fun z => by omega)).trans l3.2.1, l3.2.2⟩
                      · have y3 : U21 191 0 0 = T3 191 0 0 := up_k hU21 (by exact Nat.ne_of_beq_eq_false rfl) _ _
                        exact ⟨lh_t h3.1 ⟨fun x _ => up_g hU21 (fun z => by omega), by omega⟩, by have := h3.2; omega⟩
                      · exact ⟨fun x j hx hn => (up_g hU21 (fun z => by have y9 := k3.2; have y8 := z.2.1; have y7 := l3.1; omega)).trans (k3.1 x j hx hn), by have y1 : U21 109 0 15 = T3 109 0 15 := up_k hU21 (by exact Nat.ne_of_beq_eq_false rfl) _ _; have y3 : U21 191 0 0 = T3 191 0 0 := up_k hU21 (by exact Nat.ne_of_beq_eq_false rfl) _ _; have y9 := k3.2; omega⟩
                    · refine (show po_X9_leastCut_e T t U21 (some (vI (an_ (g - o) o))) from ?_)
                      have e32 : U21 109 0 15 = T3 109 0 15 := up_k hU21 (by exact Nat.ne_of_beq_eq_false rfl) 0 15
                      have e33 : U21 191 0 0 = T3 191 0 0 := up_k hU21 (by exact Nat.ne_of_beq_eq_false rfl) 0 0
                      have y1 : U21 109 0 15 = b + 1 := (up_k hU21 (by exact Nat.ne_of_beq_eq_false rfl) _ _).trans l3.1
                      have y2 : ∀ x, U21 190 x (-2) = T3 190 x (-2) := fun x => up_g hU21 (fun z => by omega)
                      have y3 : U21 191 0 0 = T3 191 0 0 := up_k hU21 (by exact Nat.ne_of_beq_eq_false rfl) _ _
                      have k4 : KPT_ T U21 := ⟨fun x j hx hn => (up_g hU21 (fun z => by have y9 := k3.2; have y8 := z.2.1; have y7 := l3.1; omega)).trans (k3.1 x j hx hn), by have y1 : U21 109 0 15 = T3 109 0 15 := up_k hU21 (by exact Nat.ne_of_beq_eq_false rfl) _ _; have y9 := k3.2; omega⟩
                      exact ⟨_, rfl, fr_u (fr_t (fr_0 _ _) (fr_s hf_72 rfl)) hU21 rfl, by omega, fun _ => ⟨by rw [show U21 109 0 15 - 1 = b by omega, y2]; exact l3.2.1, by omega⟩, k4, lh_t h3.1 ⟨fun x _ => y2 x, by omega⟩, by have := h3.2; omega⟩
    have c_27 : ∀ (nn : Nat) (o : Int) (k : Int) (T2 : Zt), ((12 - k).toNat) ≤ nn → (fr_ [(109, [15]), (190, []), (191, [0])] T T2) → (0 ≤ o ∧ o ≤ 4095 ∧ 0 ≤ k ∧ k ≤ 12) → (OB_ T (T 109 0 5 - 1) o) → (T2 109 0 15 = b + 1 ∧ T2 190 b (-2) = 4096 ∧ 0 ≤ b) → (lh_ T T2 ∧ T2 191 0 0 ≤ T 191 0 0 + 1) → (KPT_ T T2) → J_ zX9_leastCut T (po_X9_leastCut_e T t) 0 0 27 [some (vR 109 0), some (vI t), some (vI o), some (vI k), none, none, none] [] T2 := by
      intro nn
      induction nn using Nat.strongRecOn with
      | _ nn ih_27 =>
        intro o k T2 hm_27 hf_27 i2 ob2 l2 h2 k2
        replace hm_27 := fun (_ : Unit) => hm_27
        refine j_blx (F := fX9) tb_X9 (nn_ _) bk_X9_leastCut_e_27 bs_X9_leastCut_e_27 hz (fun K hK => ?_)
        have e35 : T2 109 0 5 = T 109 0 5 := hf_27 109 0 5 rfl
        refine And.intro (fun c34 => ?_) (fun c34 => ?_)
        · exact absurd c34 (by omega)
        · have z36 : T2 109 0 5 - 1 = (T 109 0 5 - 1) := by omega
          rw [z36]
          intro b37 b37b
          have e38 : T2 100 (T 109 0 5 - 1) 5 = T 100 (T 109 0 5 - 1) 5 := hf_27 100 (T 109 0 5 - 1) 5 rfl
          rw [e38] at b37 b37b ⊢
          refine And.intro (fun c39 => ?_) (fun c39 => ?_)
          · refine hK 67 _ [] T2 ?_
            refine j_blx (F := fX9) tb_X9 (nn_ _) bk_X9_leastCut_e_67 bs_X9_leastCut_e_67 hz (fun K hK => ?_)
            refine hK 72 [some (vR 109 0), some (vI t), some (vI o), some (vI 0), some (vI 1), none, none] [] T2 ?_
            refine c_72 _ o 0 1 T2 (Nat.le_refl _) ?_ ?_ ?_ ?_ ?_ ?_ ?_
            · exact fr_t (fr_0 _ _) (fr_s hf_27 rfl)
            · omega
            · exact (an_z (by omega) (by omega)).mpr (by simp)
            · exact ob2
            · exact l2
            · exact h2
            · exact k2
          · refine And.intro (fun c40 => ?_) (fun c40 => ?_)
            · refine hK 48 [some (vR 109 0), some (vI t), some (vI o), some (vI k), none, none, none] [vI o] T2 ?_
              refine j_blx (F := fX9) tb_X9 (nn_ _) bk_X9_leastCut_e_48 bs_X9_leastCut_e_48 hz (fun K hK => ?_)
              have e42 : T2 109 0 5 = T 109 0 5 := hf_27 109 0 5 rfl
              refine And.intro (fun c41 => ?_) (fun c41 => ?_)
              · exact absurd c41 (by omega)
              · have z43 : T2 109 0 5 - 1 = (T 109 0 5 - 1) := by omega
                rw [z43]
                refine ix_i (by omega) ?_
                intro b44 b44b
                have e45 : T2 403 (T 109 0 5 - 1) k = T 403 (T 109 0 5 - 1) k := hf_27 403 (T 109 0 5 - 1) k rfl
                rw [e45] at b44 b44b ⊢
                intro w46 w46b
                intro w47 w47b
                have y48 := or_b (x := o) (y := (sl_ 1 (T 403 (T 109 0 5 - 1) k))) (by omega) (sl_b (by omega))
                refine rg_i (by omega) ?_
                refine hK 27 [some (vR 109 0), some (vI t), some (vI (or_ o (sl_ 1 (T 403 (T 109 0 5 - 1) k)))), some (vI (k + 1)), none, none, none] [] T2 ?_
                refine ih_27 _ ?_ (or_ o (sl_ 1 (T 403 (T 109 0 5 - 1) k))) (k + 1) T2 (Nat.le_refl _) ?_ ?_ ?_ ?_ ?_ ?_
                · have hm_27 := hm_27 (); omega
                · exact fr_t (fr_0 _ _) (fr_s hf_27 rfl)
                · omega
                · exact ob_s ob2 (by omega) (by omega) (by rw [hke k (by omega) (by omega)]; omega)
                · exact l2
                · exact h2
                · exact k2
            · refine hK 59 _ [vI 0, vI o] T2 ?_
              refine j_blx (F := fX9) tb_X9 (nn_ _) bk_X9_leastCut_e_59 bs_X9_leastCut_e_59 hz (fun K hK => ?_)
              intro w49 w49b
              have y50 := or_0 (o := o) (by omega)
              refine rg_i (by omega) ?_
              refine hK 27 [some (vR 109 0), some (vI t), some (vI (or_ o 0)), some (vI (k + 1)), none, none, none] [] T2 ?_
              refine ih_27 _ ?_ (or_ o 0) (k + 1) T2 (Nat.le_refl _) ?_ ?_ ?_ ?_ ?_ ?_
              · have hm_27 := hm_27 (); omega
              · exact fr_t (fr_0 _ _) (fr_s hf_27 rfl)
              · omega
              · rw [or_0 (by omega)]; exact ob2
              · exact l2
              · exact h2
              · exact k2
    refine j_blx (F := fX9) tb_X9 (nn_ _) bk_X9_leastCut_e_16 bs_X9_leastCut_e_16 hz (fun K hK => ?_)
    refine And.intro (fun c51 => ?_) (fun c51 => ?_)
    · exact absurd c51 (by omega)
    · have z52 : T1 109 0 15 - 1 = b := by omega
      rw [z52]
      refine iy_i (by omega) (by omega) ?_
      refine x_nm (fun U53 hU53 => ?_)
      have e54 := up_f hU53
      refine hK 27 [some (vR 109 0), some (vI t), some (vI 0), some (vI 0), none, none, none] [] U53 ?_
      have e55 : U53 109 0 15 = T1 109 0 15 := up_k hU53 (by exact Nat.ne_of_beq_eq_false rfl) 0 15
      have e56 : U53 191 0 0 = T1 191 0 0 := up_k hU53 (by exact Nat.ne_of_beq_eq_false rfl) 0 0
      refine c_27 _ 0 0 U53 (Nat.le_refl _) ?_ ?_ ?_ ?_ ?_ ?_
      · exact fr_u (fr_t (fr_0 _ _) (fr_s hf_16 rfl)) hU53 rfl
      · omega
      · exact ob_0 _ _
      · exact ⟨(up_k hU53 (by exact Nat.ne_of_beq_eq_false rfl) _ _).trans l1.1, (up_g hU53 (fun z => by omega)).trans l1.2.1, l1.2.2⟩
      · have y3 : U53 191 0 0 = T1 191 0 0 := up_k hU53 (by exact Nat.ne_of_beq_eq_false rfl) _ _
        exact ⟨lh_t h1.1 ⟨fun x _ => up_g hU53 (fun z => by omega), by omega⟩, by have := h1.2; omega⟩
      · exact ⟨fun x j hx hn => (up_g hU53 (fun z => by have y9 := k1.2; have y8 := z.2.1; have y7 := l1.1; omega)).trans (k1.1 x j hx hn), by have y1 : U53 109 0 15 = T1 109 0 15 := up_k hU53 (by exact Nat.ne_of_beq_eq_false rfl) _ _; have y3 : U53 191 0 0 = T1 191 0 0 := up_k hU53 (by exact Nat.ne_of_beq_eq_false rfl) _ _; have y9 := k1.2; omega⟩
  refine j_blx (F := fX9) tb_X9 (nn_ _) bk_X9_leastCut_e_0 bs_X9_leastCut_e_0 hz (fun K hK => ?_)
  refine And.intro (fun c57 => ?_) (fun c57 => ?_)
  · refine hK 11 _ [vI 4096, vR 109 0] T ?_
    refine j_newL (bc' := 0) (bs' := 0) (pc := 11) (by decide) (by omega) (by omega) (by omega) (by decide +kernel) (lwq_1 (dqc_m (dqc_m (dqa_m (List.mem_of_getElem? (i := 0) rfl)))) rfl : Cond.arrayClass .int ∈ lw_g) ?_
    refine j_nm (fun U58 hU58 => ?_)
    have fU58 := nv_fr hU58
    have aU58 := nv_t9 hU58
    have lU58 := nv_tl hU58
    have oU58 := nv_to hU58
    show J_ zX9_leastCut T (po_X9_leastCut_e T t) 0 0 13 _ [vR 190 (T 191 0 0), vR 109 0] U58
    refine j_putR (pc := 13) (ci := 9) (j := 15) (by decide) fr5_X9_165 rfl (by decide +kernel) (by omega) (by omega) (by omega) ?_
    refine j_nm (fun U59 hU59 => ?_)
    have e60 := up_f hU59
    show J_ zX9_leastCut T (po_X9_leastCut_e T t) 0 0 16 _ [] U59
    refine j_mono (bc' := 0) (bs' := 0) (by omega) (by omega) ?_
    have e61 : U59 109 0 15 = (T 191 0 0) + 1 := up_f hU59
    have e62 : U59 191 0 0 = U58 191 0 0 := up_k hU59 (by exact Nat.ne_of_beq_eq_false rfl) 0 0
    refine c_16 (T 191 0 0) U59 ?_ ?_ ?_ ?_
    · exact fr_u (fr_t (fr_0 _ _) (fr_s fU58 rfl)) hU59 rfl
    · exact ⟨up_f hU59, (up_k hU59 (by exact Nat.ne_of_beq_eq_false rfl) _ _).trans lU58, by omega⟩
    · have y3 : U59 191 0 0 = U58 191 0 0 := up_k hU59 (by exact Nat.ne_of_beq_eq_false rfl) _ _
      exact ⟨⟨fun x hx => (up_k hU59 (by exact Nat.ne_of_beq_eq_false rfl) _ _).trans (oU58 x (-2) (by omega)), by omega⟩, by omega⟩
    · exact ⟨fun x j hx hn => (up_k hU59 (by exact Nat.ne_of_beq_eq_false rfl) _ _).trans (oU58 x j (by omega)), Or.inr ⟨up_f hU59, by have y3 : U59 191 0 0 = U58 191 0 0 := up_k hU59 (by exact Nat.ne_of_beq_eq_false rfl) _ _; omega⟩⟩
  · refine hK 16 _ [] T ?_
    refine j_mono (bc' := 0) (bs' := 0) (by omega) (by omega) ?_
    refine c_16 (T 109 0 15 - 1) T ?_ ?_ ?_ ?_
    · exact fr_0 _ _
    · exact ⟨by omega, (hsl (by omega)).1, by have := (hsl (by omega)).2; omega⟩
    · exact ⟨lh_r, by omega⟩
    · exact kpt_r
theorem bk_X9_ask_e_94 : ck_ fX9 (some .int) cX9_ask 94 [.aload 0, .iload 2] 96 = true := qck_r (nn_ _) (by decide +kernel)
theorem bs_X9_ask_e_94 {P : Zt → Option Zv → Prop} (K : Int → Zl → List Zv → Zt → Prop) : sx_ K P [.aload 0, .iload 2] 96 = x_aload 0 (x_iload 2 (K 96)) := ((xe_aload 0).trans (congrArg (x_aload 0) ((xe_iload 2).trans (congrArg (x_iload 2) xe_nil))))
theorem bk_X9_ask_e_99 : ck_ fX9 (some .int) cX9_ask 99 [.iload 3, .ifCond .eq 144, .aload 0, .iload 2] 105 = true := qck_r (nn_ _) (by decide +kernel)
theorem bs_X9_ask_e_99 {P : Zt → Option Zv → Prop} (K : Int → Zl → List Zv → Zt → Prop) : sx_ K P [.iload 3, .ifCond .eq 144, .aload 0, .iload 2] 105 = x_iload 3 (x_ifCond .eq 144 K (x_aload 0 (x_iload 2 (K 105)))) := ((xe_iload 3).trans (congrArg (x_iload 3) ((xe_ifCond .eq 144).trans (congrArg (x_ifCond .eq 144 K) ((xe_aload 0).trans (congrArg (x_aload 0) ((xe_iload 2).trans (congrArg (x_iload 2) xe_nil))))))))
theorem bk_X9_ask_e_144 : ck_ fX9 (some .int) cX9_ask 144 [.aload 0, .aload 0, .iload 2] 147 = true := qck_r (nn_ _) (by decide +kernel)
theorem bs_X9_ask_e_144 {P : Zt → Option Zv → Prop} (K : Int → Zl → List Zv → Zt → Prop) : sx_ K P [.aload 0, .aload 0, .iload 2] 147 = x_aload 0 (x_aload 0 (x_iload 2 (K 147))) := ((xe_aload 0).trans (congrArg (x_aload 0) ((xe_aload 0).trans (congrArg (x_aload 0) ((xe_iload 2).trans (congrArg (x_iload 2) xe_nil))))))
theorem bk_X9_ask_e_150 : ck_ fX9 (some .int) cX9_ask 150 [.ifCond .eq 165, .aload 0, .iconst 0] 155 = true := qck_r (nn_ _) (by decide +kernel)
theorem bs_X9_ask_e_150 {P : Zt → Option Zv → Prop} (K : Int → Zl → List Zv → Zt → Prop) : sx_ K P [.ifCond .eq 165, .aload 0, .iconst 0] 155 = x_ifCond .eq 165 K (x_aload 0 (x_iconst 0 (K 155))) := ((xe_ifCond .eq 165).trans (congrArg (x_ifCond .eq 165 K) ((xe_aload 0).trans (congrArg (x_aload 0) ((xe_iconst 0).trans (congrArg (x_iconst 0) xe_nil))))))
theorem bk_X9_ask_e_165 : ck_ fX9 (some .int) cX9_ask 165 [.iconst 0, .tableswitch 1 9 2 #[], .aload 0, .tableswitch 0 9 2 #[], .ireturn] 174 = true := qck_r (nn_ _) (by decide +kernel)
theorem bs_X9_ask_e_165 {P : Zt → Option Zv → Prop} (K : Int → Zl → List Zv → Zt → Prop) : sx_ K P [.iconst 0, .tableswitch 1 9 2 #[], .aload 0, .tableswitch 0 9 2 #[], .ireturn] 174 = x_iconst 0 (x_p 109 2 (-1) 2 (x_aload 0 (x_g0 109 2 (-1) 2 (x_ireturn P)))) := ((xe_iconst 0).trans (congrArg (x_iconst 0) ((xe_p (kk := 109) rfl tl_9_2).trans (congrArg (x_p 109 2 (-1) 2) ((xe_aload 0).trans (congrArg (x_aload 0) ((xe_g0 (kk := 109) rfl tl_9_2).trans (congrArg (x_g0 109 2 (-1) 2) (xe_ireturn)))))))))
theorem bk_X9_ask_e_158 : ck_ fX9 (some .int) cX9_ask 158 [.ifCond .eq 165, .iconst 1, .goto 166] 165 = true := qck_r (nn_ _) (by decide +kernel)
theorem bs_X9_ask_e_158 {P : Zt → Option Zv → Prop} (K : Int → Zl → List Zv → Zt → Prop) : sx_ K P [.ifCond .eq 165, .iconst 1, .goto 166] 165 = x_ifCond .eq 165 K (x_iconst 1 (x_goto 166 K)) := ((xe_ifCond .eq 165).trans (congrArg (x_ifCond .eq 165 K) ((xe_iconst 1).trans (congrArg (x_iconst 1) (xe_goto 166)))))
theorem bk_X9_ask_e_166 : ck_ fX9 (some .int) cX9_ask 166 [.tableswitch 1 9 2 #[], .aload 0, .tableswitch 0 9 2 #[], .ireturn] 174 = true := qck_r (nn_ _) (by decide +kernel)
theorem bs_X9_ask_e_166 {P : Zt → Option Zv → Prop} (K : Int → Zl → List Zv → Zt → Prop) : sx_ K P [.tableswitch 1 9 2 #[], .aload 0, .tableswitch 0 9 2 #[], .ireturn] 174 = x_p 109 2 (-1) 2 (x_aload 0 (x_g0 109 2 (-1) 2 (x_ireturn P))) := ((xe_p (kk := 109) rfl tl_9_2).trans (congrArg (x_p 109 2 (-1) 2) ((xe_aload 0).trans (congrArg (x_aload 0) ((xe_g0 (kk := 109) rfl tl_9_2).trans (congrArg (x_g0 109 2 (-1) 2) (xe_ireturn)))))))
theorem bk_X9_ask_e_108 : ck_ fX9 (some .int) cX9_ask 108 [.aload 0, .aload 0, .iload 2] 111 = true := qck_r (nn_ _) (by decide +kernel)
theorem bs_X9_ask_e_108 {P : Zt → Option Zv → Prop} (K : Int → Zl → List Zv → Zt → Prop) : sx_ K P [.aload 0, .aload 0, .iload 2] 111 = x_aload 0 (x_aload 0 (x_iload 2 (K 111))) := ((xe_aload 0).trans (congrArg (x_aload 0) ((xe_aload 0).trans (congrArg (x_aload 0) ((xe_iload 2).trans (congrArg (x_iload 2) xe_nil))))))
theorem bk_X9_ask_e_114 : ck_ fX9 (some .int) cX9_ask 114 [.ifCond .eq 121, .iconst 1, .goto 122] 121 = true := qck_r (nn_ _) (by decide +kernel)
theorem bs_X9_ask_e_114 {P : Zt → Option Zv → Prop} (K : Int → Zl → List Zv → Zt → Prop) : sx_ K P [.ifCond .eq 121, .iconst 1, .goto 122] 121 = x_ifCond .eq 121 K (x_iconst 1 (x_goto 122 K)) := ((xe_ifCond .eq 121).trans (congrArg (x_ifCond .eq 121 K) ((xe_iconst 1).trans (congrArg (x_iconst 1) (xe_goto 122)))))
theorem bk_X9_ask_e_121 : ck_ fX9 (some .int) cX9_ask 121 [.iconst 0, .tableswitch 1 9 2 #[], .aload 0, .tableswitch 0 9 2 #[], .ifCond .ne 169, .aload 0, .aload 0, .iload 2] 135 = true := qck_r (nn_ _) (by decide +kernel)
theorem bs_X9_ask_e_121 {P : Zt → Option Zv → Prop} (K : Int → Zl → List Zv → Zt → Prop) : sx_ K P [.iconst 0, .tableswitch 1 9 2 #[], .aload 0, .tableswitch 0 9 2 #[], .ifCond .ne 169, .aload 0, .aload 0, .iload 2] 135 = x_iconst 0 (x_p 109 2 (-1) 2 (x_aload 0 (x_g0 109 2 (-1) 2 (x_ifCond .ne 169 K (x_aload 0 (x_aload 0 (x_iload 2 (K 135)))))))) := ((xe_iconst 0).trans (congrArg (x_iconst 0) ((xe_p (kk := 109) rfl tl_9_2).trans (congrArg (x_p 109 2 (-1) 2) ((xe_aload 0).trans (congrArg (x_aload 0) ((xe_g0 (kk := 109) rfl tl_9_2).trans (congrArg (x_g0 109 2 (-1) 2) ((xe_ifCond .ne 169).trans (congrArg (x_ifCond .ne 169 K) ((xe_aload 0).trans (congrArg (x_aload 0) ((xe_aload 0).trans (congrArg (x_aload 0) ((xe_iload 2).trans (congrArg (x_iload 2) xe_nil))))))))))))))))
theorem bk_X9_ask_e_169 : ck_ fX9 (some .int) cX9_ask 169 [.aload 0, .tableswitch 0 9 2 #[], .ireturn] 174 = true := qck_r (nn_ _) (by decide +kernel)
theorem bs_X9_ask_e_169 {P : Zt → Option Zv → Prop} (K : Int → Zl → List Zv → Zt → Prop) : sx_ K P [.aload 0, .tableswitch 0 9 2 #[], .ireturn] 174 = x_aload 0 (x_g0 109 2 (-1) 2 (x_ireturn P)) := ((xe_aload 0).trans (congrArg (x_aload 0) ((xe_g0 (kk := 109) rfl tl_9_2).trans (congrArg (x_g0 109 2 (-1) 2) (xe_ireturn)))))
theorem bk_X9_ask_e_138 : ck_ fX9 (some .int) cX9_ask 138 [.tableswitch 1 9 3 #[], .goto 169] 144 = true := qck_r (nn_ _) (by decide +kernel)
theorem bs_X9_ask_e_138 {P : Zt → Option Zv → Prop} (K : Int → Zl → List Zv → Zt → Prop) : sx_ K P [.tableswitch 1 9 3 #[], .goto 169] 144 = x_p 109 3 0 4095 (x_goto 169 K) := ((xe_p (kk := 109) rfl tl_9_3).trans (congrArg (x_p 109 3 0 4095) (xe_goto 169)))
theorem bk_X9_ask_e_122 : ck_ fX9 (some .int) cX9_ask 122 [.tableswitch 1 9 2 #[], .aload 0, .tableswitch 0 9 2 #[], .ifCond .ne 169, .aload 0, .aload 0, .iload 2] 135 = true := qck_r (nn_ _) (by decide +kernel)
theorem bs_X9_ask_e_122 {P : Zt → Option Zv → Prop} (K : Int → Zl → List Zv → Zt → Prop) : sx_ K P [.tableswitch 1 9 2 #[], .aload 0, .tableswitch 0 9 2 #[], .ifCond .ne 169, .aload 0, .aload 0, .iload 2] 135 = x_p 109 2 (-1) 2 (x_aload 0 (x_g0 109 2 (-1) 2 (x_ifCond .ne 169 K (x_aload 0 (x_aload 0 (x_iload 2 (K 135))))))) := ((xe_p (kk := 109) rfl tl_9_2).trans (congrArg (x_p 109 2 (-1) 2) ((xe_aload 0).trans (congrArg (x_aload 0) ((xe_g0 (kk := 109) rfl tl_9_2).trans (congrArg (x_g0 109 2 (-1) 2) ((xe_ifCond .ne 169).trans (congrArg (x_ifCond .ne 169 K) ((xe_aload 0).trans (congrArg (x_aload 0) ((xe_aload 0).trans (congrArg (x_aload 0) ((xe_iload 2).trans (congrArg (x_iload 2) xe_nil))))))))))))))
theorem bk_X9_ask_e_56 : ck_ fX9 (some .int) cX9_ask 56 [.istore 3, .aload 0, .aload 0, .tableswitch 0 9 5 #[], .tableswitch 0 0 3 #[], .iload 2, .iaload, .iload 3, .ifCond .eq 76, .iconst 40, .goto 78] 76 = true := qck_r (nn_ _) (by decide +kernel)
theorem bs_X9_ask_e_56 {P : Zt → Option Zv → Prop} (K : Int → Zl → List Zv → Zt → Prop) : sx_ K P [.istore 3, .aload 0, .aload 0, .tableswitch 0 9 5 #[], .tableswitch 0 0 3 #[], .iload 2, .iaload, .iload 3, .ifCond .eq 76, .iconst 40, .goto 78] 76 = x_istore 3 (x_aload 0 (x_aload 0 (x_g5 109 100 5 (x_g2 100 403 (x_iload 2 (x_iaload (x_iload 3 (x_ifCond .eq 76 K (x_iconst 40 (x_goto 78 K)))))))))) := ((xe_istore 3).trans (congrArg (x_istore 3) ((xe_aload 0).trans (congrArg (x_aload 0) ((xe_aload 0).trans (congrArg (x_aload 0) ((xe_g5 (kk := 109) rfl tl_9_5).trans (congrArg (x_g5 109 100 5) ((xe_g2 (kk := 100) rfl tl_0_3).trans (congrArg (x_g2 100 403) ((xe_iload 2).trans (congrArg (x_iload 2) ((xe_iaload).trans (congrArg (x_iaload) ((xe_iload 3).trans (congrArg (x_iload 3) ((xe_ifCond .eq 76).trans (congrArg (x_ifCond .eq 76 K) ((xe_iconst 40).trans (congrArg (x_iconst 40) (xe_goto 78)))))))))))))))))))))
theorem bk_X9_ask_e_76 : ck_ fX9 (some .int) cX9_ask 76 [.iconst 8] 78 = true := qck_r (nn_ _) (by decide +kernel)
theorem bs_X9_ask_e_76 {P : Zt → Option Zv → Prop} (K : Int → Zl → List Zv → Zt → Prop) : sx_ K P [.iconst 8] 78 = x_iconst 8 (K 78) := ((xe_iconst 8).trans (congrArg (x_iconst 8) xe_nil))
theorem bk_X9_ask_e_81 : ck_ fX9 (some .int) cX9_ask 81 [.ifCond .ne 94, .aload 0, .iconst 2, .tableswitch 1 9 2 #[], .aload 0, .tableswitch 0 9 2 #[], .ireturn] 94 = true := qck_r (nn_ _) (by decide +kernel)
theorem bs_X9_ask_e_81 {P : Zt → Option Zv → Prop} (K : Int → Zl → List Zv → Zt → Prop) : sx_ K P [.ifCond .ne 94, .aload 0, .iconst 2, .tableswitch 1 9 2 #[], .aload 0, .tableswitch 0 9 2 #[], .ireturn] 94 = x_ifCond .ne 94 K (x_aload 0 (x_iconst 2 (x_p 109 2 (-1) 2 (x_aload 0 (x_g0 109 2 (-1) 2 (x_ireturn P)))))) := ((xe_ifCond .ne 94).trans (congrArg (x_ifCond .ne 94 K) ((xe_aload 0).trans (congrArg (x_aload 0) ((xe_iconst 2).trans (congrArg (x_iconst 2) ((xe_p (kk := 109) rfl tl_9_2).trans (congrArg (x_p 109 2 (-1) 2) ((xe_aload 0).trans (congrArg (x_aload 0) ((xe_g0 (kk := 109) rfl tl_9_2).trans (congrArg (x_g0 109 2 (-1) 2) (xe_ireturn)))))))))))))
theorem bk_X9_ask_e_0 : ck_ fX9 (some .int) cX9_ask 0 [.aload 0, .aload 1] 2 = true := qck_r (nn_ _) (by decide +kernel)
theorem bs_X9_ask_e_0 {P : Zt → Option Zv → Prop} (K : Int → Zl → List Zv → Zt → Prop) : sx_ K P [.aload 0, .aload 1] 2 = x_aload 0 (x_aload 1 (K 2)) := ((xe_aload 0).trans (congrArg (x_aload 0) ((xe_aload 1).trans (congrArg (x_aload 1) xe_nil))))
theorem bk_X9_ask_e_5 : ck_ fX9 (some .int) cX9_ask 5 [.aload 0, .iconst 0, .tableswitch 1 9 3 #[], .aload 0, .tableswitch 0 9 4 #[], .iconst (-1)] 15 = true := qck_r (nn_ _) (by decide +kernel)
theorem bs_X9_ask_e_5 {P : Zt → Option Zv → Prop} (K : Int → Zl → List Zv → Zt → Prop) : sx_ K P [.aload 0, .iconst 0, .tableswitch 1 9 3 #[], .aload 0, .tableswitch 0 9 4 #[], .iconst (-1)] 15 = x_aload 0 (x_iconst 0 (x_p 109 3 0 4095 (x_aload 0 (x_g1 109 584 (x_iconst (-1) (K 15)))))) := ((xe_aload 0).trans (congrArg (x_aload 0) ((xe_iconst 0).trans (congrArg (x_iconst 0) ((xe_p (kk := 109) rfl tl_9_3).trans (congrArg (x_p 109 3 0 4095) ((xe_aload 0).trans (congrArg (x_aload 0) ((xe_g1 (kk := 109) rfl tl_9_4).trans (congrArg (x_g1 109 584) ((xe_iconst (-1)).trans (congrArg (x_iconst (-1)) xe_nil))))))))))))
theorem bk_X9_ask_e_18 : ck_ fX9 (some .int) cX9_ask 18 [.aload 0, .tableswitch 0 9 5 #[], .tableswitch 0 0 1 #[], .iconst 1, .iaload, .aload 0, .tableswitch 0 9 5 #[], .tableswitch 0 0 1 #[], .iconst 3, .iaload, .iadd, .iconst 2, .aload 0, .tableswitch 0 9 5 #[], .tableswitch 0 0 1 #[], .iconst 2, .iaload, .imul, .if_icmp .ne 55, .iconst 1, .goto 56] 55 = true := qck_r (nn_ _) (by decide +kernel)
theorem bs_X9_ask_e_18 {P : Zt → Option Zv → Prop} (K : Int → Zl → List Zv → Zt → Prop) : sx_ K P [.aload 0, .tableswitch 0 9 5 #[], .tableswitch 0 0 1 #[], .iconst 1, .iaload, .aload 0, .tableswitch 0 9 5 #[], .tableswitch 0 0 1 #[], .iconst 3, .iaload, .iadd, .iconst 2, .aload 0, .tableswitch 0 9 5 #[], .tableswitch 0 0 1 #[], .iconst 2, .iaload, .imul, .if_icmp .ne 55, .iconst 1, .goto 56] 55 = x_aload 0 (x_g5 109 100 5 (x_g2 100 401 (x_iconst 1 (x_iaload (x_aload 0 (x_g5 109 100 5 (x_g2 100 401 (x_iconst 3 (x_iaload (x_iadd (x_iconst 2 (x_aload 0 (x_g5 109 100 5 (x_g2 100 401 (x_iconst 2 (x_iaload (x_imul (x_if_icmp .ne 55 K (x_iconst 1 (x_goto 56 K)))))))))))))))))))) := ((xe_aload 0).trans (congrArg (x_aload 0) ((xe_g5 (kk := 109) rfl tl_9_5).trans (congrArg (x_g5 109 100 5) ((xe_g2 (kk := 100) rfl tl_0_1).trans (congrArg (x_g2 100 401) ((xe_iconst 1).trans (congrArg (x_iconst 1) ((xe_iaload).trans (congrArg (x_iaload) ((xe_aload 0).trans (congrArg (x_aload 0) ((xe_g5 (kk := 109) rfl tl_9_5).trans (congrArg (x_g5 109 100 5) ((xe_g2 (kk := 100) rfl tl_0_1).trans (congrArg (x_g2 100 401) ((xe_iconst 3).trans (congrArg (x_iconst 3) ((xe_iaload).trans (congrArg (x_iaload) ((xe_iadd).trans (congrArg (x_iadd) ((xe_iconst 2).trans (congrArg (x_iconst 2) ((xe_aload 0).trans (congrArg (x_aload 0) ((xe_g5 (kk := 109) rfl tl_9_5).trans (congrArg (x_g5 109 100 5) ((xe_g2 (kk := 100) rfl tl_0_1).trans (congrArg (x_g2 100 401) ((xe_iconst 2).trans (congrArg (x_iconst 2) ((xe_iaload).trans (congrArg (x_iaload) ((xe_imul).trans (congrArg (x_imul) ((xe_if_icmp .ne 55).trans (congrArg (x_if_icmp .ne 55 K) ((xe_iconst 1).trans (congrArg (x_iconst 1) (xe_goto 56)))))))))))))))))))))))))))))))))))))))))
theorem bk_X9_ask_e_55 : ck_ fX9 (some .int) cX9_ask 55 [.iconst 0] 56 = true := qck_r (nn_ _) (by decide +kernel)
theorem bs_X9_ask_e_55 {P : Zt → Option Zv → Prop} (K : Int → Zl → List Zv → Zt → Prop) : sx_ K P [.iconst 0] 56 = x_iconst 0 (K 56) := ((xe_iconst 0).trans (congrArg (x_iconst 0) xe_nil))
abbrev po_X9_ask_e (T : Zt) (c : Int) (t : Int) : Zt → Option Zv → Prop := fun T' r => ∃ x : Int, r = some (vI x) ∧ fr_ [(109, [5, 3, 9, 6, 2, 15]), (584, []), (588, []), (587, []), (591, []), (592, []), (590, []), (593, []), (594, []), (107, [1]), (542, []), (543, []), (544, []), (545, []), (546, []), (190, []), (191, [0])] T T' ∧ (T' 109 0 15 ≠ 0 → T' 190 (T' 109 0 15 - 1) (-2) = 4096 ∧ 1 ≤ T' 109 0 15) ∧ KPT_ T T' ∧ lh_ T T' ∧ T' 191 0 0 ≤ T 191 0 0 + 1
set_option maxHeartbeats 4000000 in
theorem ct_X9_ask_e {T : Zt} {c : Int} {t : Int} (hka : KA_ T) (hkm : KM_ T) (hkc : KC_ T) (hks : KS_ T) (hke : KE_ T) (hkw : KW_ T) (hsl : T 109 0 15 ≠ 0 → T 190 (T 109 0 15 - 1) (-2) = 4096 ∧ 1 ≤ T 109 0 15) (h9 : 0 ≤ T 191 0 0 ∧ T 191 0 0 ≤ 900000000) (hc : 0 ≤ c ∧ c < T 106 0 2) (ht : 0 ≤ t ∧ t ≤ 11) : Ct_ yX9_ask zX9_ask T [vR 109 0, vR 100 c, vI t] (po_X9_ask_e T c t) := by
  refine ct_of pn_9 rfl rfl (Nat.le_of_ble_eq_true rfl) (fun hT hav => ?_)
  have hr_t : -2147483648 ≤ t ∧ t ≤ 2147483647 := hav (vI t) (List.mem_cons_of_mem _ (List.mem_cons_of_mem _ List.mem_cons_self))
  have hz : zX9_ask.2.2.2.1 = some .boolean → ∀ (T' : Zt) (x : Int), po_X9_ask_e T c t T' (some (vI x)) → 0 ≤ x ∧ x ≤ 1 := fun h => by cases h
  have hw := hkw c hc.1 hc.2
  have hb_competitionCount : 0 ≤ T 106 0 2 ∧ T 106 0 2 ≤ 4 := bd_f hT 106 2 tl_6_2 0
  have hb7 : 0 ≤ T 100 c 7 ∧ T 100 c 7 ≤ 400 := bd_f hT 100 7 tl_0_7 c
  have hok0 := hT
  show J_ zX9_ask T (po_X9_ask_e T c t) 1 4096 0 [some (vR 109 0), some (vR 100 c), some (vI t), none] [] T
  have c_94 : ∀ (v : Int) (T2 : Zt), (fr_ [(109, [5, 3, 9]), (584, []), (588, [])] T T2) → (0 ≤ v ∧ v ≤ 1 ∧ (v = 1 → T 401 c 1 + T 401 c 3 = 2 * T 401 c 2)) → (T2 109 0 5 = c + 1) → (Q9_ T2) → J_ zX9_ask T (po_X9_ask_e T c t) 1 4096 94 [some (vR 109 0), some (vR 100 c), some (vI t), some (vI v)] [] T2 := by
    intro v T2 hf_94 iv2 t2 q2
    refine j_blx (F := fX9) tb_X9 (nn_ _) bk_X9_ask_e_94 bs_X9_ask_e_94 hz (fun K hK => ?_)
    refine hK 96 _ [vI t, vR 109 0] T2 ?_
    have e1 : T2 106 0 2 = T 106 0 2 := hf_94 106 0 2 rfl
    have e2 : T2 106 0 4 = T 106 0 4 := hf_94 106 0 4 rfl
    refine j_callV (y := yX9_takePoints) (Yc := zX9_takePoints) (rest := []) [vI t] (ct_X9_takePoints (T := T2) (KA__f hka (show fr_ [(109, [5, 3, 9, 6, 2, 15]), (584, []), (588, []), (587, []), (591, []), (592, []), (590, []), (593, []), (594, []), (107, [1]), (542, []), (543, []), (544, []), (545, []), (546, []), (190, []), (191, [0])] T T2 from fr_t (fr_0 _ _) (fr_s hf_94 rfl)) ⟨fun _ => rfl, fun _ => rfl, rfl, rfl, trivial⟩) (KC__f hkc (show fr_ [(109, [5, 3, 9, 6, 2, 15]), (584, []), (588, []), (587, []), (591, []), (592, []), (590, []), (593, []), (594, []), (107, [1]), (542, []), (543, []), (544, []), (545, []), (546, []), (190, []), (191, [0])] T T2 from fr_t (fr_0 _ _) (fr_s hf_94 rfl)) ⟨rfl, rfl, rfl, rfl, trivial⟩) (KS__f hks (show fr_ [(109, [5, 3, 9, 6, 2, 15]), (584, []), (588, []), (587, []), (591, []), (592, []), (590, []), (593, []), (594, []), (107, [1]), (542, []), (543, []), (544, []), (545, []), (546, []), (190, []), (191, [0])] T T2 from fr_t (fr_0 _ _) (fr_s hf_94 rfl)) ⟨fun _ => rfl, rfl, rfl, rfl, rfl, rfl, rfl, trivial⟩) (by omega) (by omega)) cl_X9_73 (qd_c (by decide +kernel)) (nn_ _) rfl (rf_of rfl) (Nat.le_of_ble_eq_true rfl) (Nat.le_of_ble_eq_true rfl) (Nat.le_of_ble_eq_true rfl) rfl ?_
    rintro U3 _ ⟨rfl, fU3, -⟩
    show J_ zX9_ask T (po_X9_ask_e T c t) 1 4096 99 _ [] U3
    refine j_blx (F := fX9) tb_X9 (nn_ _) bk_X9_ask_e_99 bs_X9_ask_e_99 hz (fun K hK => ?_)
    refine And.intro (fun c5 => ?_) (fun c5 => ?_)
    · refine hK 144 _ [] U3 ?_
      refine j_blx (F := fX9) tb_X9 (nn_ _) bk_X9_ask_e_144 bs_X9_ask_e_144 hz (fun K hK => ?_)
      refine hK 147 _ [vI t, vR 109 0, vR 109 0] U3 ?_
      have e6 : U3 109 0 5 = T2 109 0 5 := fU3 109 0 5 rfl
      have e7 : U3 106 0 2 = T 106 0 2 := (fU3 106 0 2 rfl).trans (hf_94 106 0 2 rfl)
      have e8 : U3 106 0 4 = T 106 0 4 := (fU3 106 0 4 rfl).trans (hf_94 106 0 4 rfl)
      refine j_callV (y := yX9_noneAbove) (Yc := zX9_noneAbove) (rest := [vR 109 0]) [vI t] (ct_X9_noneAbove (T := U3) (by omega)) cl_X9_88 (qd_c (by decide +kernel)) (nn_ _) rfl (rf_of rfl) (Nat.le_of_ble_eq_true rfl) (Nat.le_of_ble_eq_true rfl) (Nat.le_of_ble_eq_true rfl) rfl ?_
      rintro _ _ ⟨rfl, x9, rfl, hx9⟩
      show J_ zX9_ask T (po_X9_ask_e T c t) 1 4096 150 _ [vI x9, vR 109 0] U3
      refine j_blx (F := fX9) tb_X9 (nn_ _) bk_X9_ask_e_150 bs_X9_ask_e_150 hz (fun K hK => ?_)
      refine And.intro (fun c10 => ?_) (fun c10 => ?_)
      · refine hK 165 _ [vR 109 0] U3 ?_
        refine j_blx (F := fX9) tb_X9 (nn_ _) bk_X9_ask_e_165 bs_X9_ask_e_165 hz (fun K hK => ?_)
        refine bd_i (by omega) ?_
        refine x_nm (fun U11 hU11 => ?_)
        have e12 := up_f hU11
        intro b13 b13b
        have e14 : U11 109 0 2 = 0 := up_f hU11
        rw [e14] at b13 b13b ⊢
        refine (show po_X9_ask_e T c t U11 (some (vI 0)) from ?_)
        have e15 : U11 109 0 15 = T 109 0 15 := (up_j hU11 (by decide) 109 0).trans ((fU3 109 0 15 rfl).trans (hf_94 109 0 15 rfl))
        have e16 : U11 191 0 0 = T 191 0 0 := (up_k hU11 (by exact Nat.ne_of_beq_eq_false rfl) 0 0).trans ((fU3 191 0 0 rfl).trans (hf_94 191 0 0 rfl))
        have e17 : U11 109 0 15 = T 109 0 15 := (up_j hU11 (by decide) 109 0).trans ((fU3 109 0 15 rfl).trans (hf_94 109 0 15 rfl))
        have e18 : U11 191 0 0 = T 191 0 0 := (up_k hU11 (by exact Nat.ne_of_beq_eq_false rfl) 0 0).trans ((fU3 191 0 0 rfl).trans (hf_94 191 0 0 rfl))
        have e190 : ∀ x, U11 190 x (-2) = T 190 x (-2) := fun x => (up_k hU11 (by exact Nat.ne_of_beq_eq_false rfl) _ _).trans ((fU3 190 _ _ rfl).trans (hf_94 190 _ _ rfl))
        have f190 : ∀ x j, U11 190 x j = T 190 x j := fun x j => (up_k hU11 (by exact Nat.ne_of_beq_eq_false rfl) _ _).trans ((fU3 190 _ _ rfl).trans (hf_94 190 _ _ rfl))
        exact ⟨_, rfl, fr_u (fr_t (fr_t (fr_0 _ _) (fr_s hf_94 rfl)) (fr_s fU3 rfl)) hU11 rfl, by rw [e17, e190]; exact hsl, ⟨fun x j _ _ => f190 x j, by omega⟩, ⟨fun x _ => e190 x, by omega⟩, by omega⟩
      · refine hK 155 _ [vI 0, vR 109 0, vR 109 0] U3 ?_
        refine j_callV (y := yX9_search) (Yc := zX9_search_8) (rest := [vR 109 0]) [vI 0] (ct_X9_search_8 (T := U3) (q9_f q2 (show fr_ [(109, [3, 6, 2, 15]), (584, []), (587, []), (591, []), (592, []), (590, []), (593, []), (594, []), (107, [1]), (542, []), (543, []), (544, []), (545, []), (546, []), (190, []), (191, [0])] T2 U3 from fr_t (fr_0 _ _) (fr_s fU3 rfl)) ⟨fun _ _ => rfl, fun _ => rfl, rfl, rfl, rfl, rfl, rfl⟩) (KA__f hka (show fr_ [(109, [5, 3, 9, 6, 2, 15]), (584, []), (588, []), (587, []), (591, []), (592, []), (590, []), (593, []), (594, []), (107, [1]), (542, []), (543, []), (544, []), (545, []), (546, []), (190, []), (191, [0])] T U3 from fr_t (fr_t (fr_0 _ _) (fr_s hf_94 rfl)) (fr_s fU3 rfl)) ⟨fun _ => rfl, fun _ => rfl, rfl, rfl, trivial⟩) (by omega)) cl_X9_91_zX9_search_8 (qd_c (by decide +kernel)) (nn_ _) rfl (rf_of rfl) (Nat.le_of_ble_eq_true rfl) (Nat.le_of_ble_eq_true rfl) (Nat.le_of_ble_eq_true rfl) rfl ?_
        rintro U19 _ ⟨x20, rfl, fU19, hx20⟩
        show J_ zX9_ask T (po_X9_ask_e T c t) 1 4096 158 _ [vI x20, vR 109 0] U19
        refine j_blx (F := fX9) tb_X9 (nn_ _) bk_X9_ask_e_158 bs_X9_ask_e_158 hz (fun K hK => ?_)
        refine And.intro (fun c21 => ?_) (fun c21 => ?_)
        · refine hK 165 _ [vR 109 0] U19 ?_
          refine j_blx (F := fX9) tb_X9 (nn_ _) bk_X9_ask_e_165 bs_X9_ask_e_165 hz (fun K hK => ?_)
          refine bd_i (by omega) ?_
          refine x_nm (fun U22 hU22 => ?_)
          have e23 := up_f hU22
          intro b24 b24b
          have e25 : U22 109 0 2 = 0 := up_f hU22
          rw [e25] at b24 b24b ⊢
          refine (show po_X9_ask_e T c t U22 (some (vI 0)) from ?_)
          have e26 : U22 109 0 15 = T 109 0 15 := (up_j hU22 (by decide) 109 0).trans ((fU19 109 0 15 rfl).trans ((fU3 109 0 15 rfl).trans (hf_94 109 0 15 rfl)))
          have e27 : U22 191 0 0 = T 191 0 0 := (up_k hU22 (by exact Nat.ne_of_beq_eq_false rfl) 0 0).trans ((fU19 191 0 0 rfl).trans ((fU3 191 0 0 rfl).trans (hf_94 191 0 0 rfl)))
          have e28 : U22 109 0 15 = T 109 0 15 := (up_j hU22 (by decide) 109 0).trans ((fU19 109 0 15 rfl).trans ((fU3 109 0 15 rfl).trans (hf_94 109 0 15 rfl)))
          have e29 : U22 191 0 0 = T 191 0 0 := (up_k hU22 (by exact Nat.ne_of_beq_eq_false rfl) 0 0).trans ((fU19 191 0 0 rfl).trans ((fU3 191 0 0 rfl).trans (hf_94 191 0 0 rfl)))
          have e190 : ∀ x, U22 190 x (-2) = T 190 x (-2) := fun x => (up_k hU22 (by exact Nat.ne_of_beq_eq_false rfl) _ _).trans ((fU19 190 _ _ rfl).trans ((fU3 190 _ _ rfl).trans (hf_94 190 _ _ rfl)))
          have f190 : ∀ x j, U22 190 x j = T 190 x j := fun x j => (up_k hU22 (by exact Nat.ne_of_beq_eq_false rfl) _ _).trans ((fU19 190 _ _ rfl).trans ((fU3 190 _ _ rfl).trans (hf_94 190 _ _ rfl)))
          exact ⟨_, rfl, fr_u (fr_t (fr_t (fr_t (fr_0 _ _) (fr_s hf_94 rfl)) (fr_s fU3 rfl)) (fr_s fU19 rfl)) hU22 rfl, by rw [e28, e190]; exact hsl, ⟨fun x j _ _ => f190 x j, by omega⟩, ⟨fun x _ => e190 x, by omega⟩, by omega⟩
        · refine hK 166 _ [vI 1, vR 109 0] U19 ?_
          refine j_blx (F := fX9) tb_X9 (nn_ _) bk_X9_ask_e_166 bs_X9_ask_e_166 hz (fun K hK => ?_)
          refine bd_i (by omega) ?_
          refine x_nm (fun U30 hU30 => ?_)
          have e31 := up_f hU30
          intro b32 b32b
          have e33 : U30 109 0 2 = 1 := up_f hU30
          rw [e33] at b32 b32b ⊢
          refine (show po_X9_ask_e T c t U30 (some (vI 1)) from ?_)
          have e34 : U30 109 0 15 = T 109 0 15 := (up_j hU30 (by decide) 109 0).trans ((fU19 109 0 15 rfl).trans ((fU3 109 0 15 rfl).trans (hf_94 109 0 15 rfl)))
          have e35 : U30 191 0 0 = T 191 0 0 := (up_k hU30 (by exact Nat.ne_of_beq_eq_false rfl) 0 0).trans ((fU19 191 0 0 rfl).trans ((fU3 191 0 0 rfl).trans (hf_94 191 0 0 rfl)))
          have e36 : U30 109 0 15 = T 109 0 15 := (up_j hU30 (by decide) 109 0).trans ((fU19 109 0 15 rfl).trans ((fU3 109 0 15 rfl).trans (hf_94 109 0 15 rfl)))
          have e37 : U30 191 0 0 = T 191 0 0 := (up_k hU30 (by exact Nat.ne_of_beq_eq_false rfl) 0 0).trans ((fU19 191 0 0 rfl).trans ((fU3 191 0 0 rfl).trans (hf_94 191 0 0 rfl)))
          have e190 : ∀ x, U30 190 x (-2) = T 190 x (-2) := fun x => (up_k hU30 (by exact Nat.ne_of_beq_eq_false rfl) _ _).trans ((fU19 190 _ _ rfl).trans ((fU3 190 _ _ rfl).trans (hf_94 190 _ _ rfl)))
          have f190 : ∀ x j, U30 190 x j = T 190 x j := fun x j => (up_k hU30 (by exact Nat.ne_of_beq_eq_false rfl) _ _).trans ((fU19 190 _ _ rfl).trans ((fU3 190 _ _ rfl).trans (hf_94 190 _ _ rfl)))
          exact ⟨_, rfl, fr_u (fr_t (fr_t (fr_t (fr_0 _ _) (fr_s hf_94 rfl)) (fr_s fU3 rfl)) (fr_s fU19 rfl)) hU30 rfl, by rw [e36, e190]; exact hsl, ⟨fun x j _ _ => f190 x j, by omega⟩, ⟨fun x _ => e190 x, by omega⟩, by omega⟩
    · refine hK 105 _ [vI t, vR 109 0] U3 ?_
      have e38 : U3 109 0 5 = T2 109 0 5 := fU3 109 0 5 rfl
      have e39 : U3 106 0 2 = T 106 0 2 := (fU3 106 0 2 rfl).trans (hf_94 106 0 2 rfl)
      have e40 : U3 106 0 4 = T 106 0 4 := (fU3 106 0 4 rfl).trans (hf_94 106 0 4 rfl)
      have e41 : U3 401 c 1 = T 401 c 1 := (fU3 401 c 1 rfl).trans (hf_94 401 c 1 rfl)
      have e42 : U3 401 c 2 = T 401 c 2 := (fU3 401 c 2 rfl).trans (hf_94 401 c 2 rfl)
      have yc : (U3 109 0 5 - 1) = c := by omega
      refine j_callV (y := yX9_setCaps) (Yc := zX9_setCaps) (rest := []) [vI t] (ct_X9_setCaps (T := U3) (q9_f q2 (show fr_ [(109, [3, 6, 2, 15]), (584, []), (587, []), (591, []), (592, []), (590, []), (593, []), (594, []), (107, [1]), (542, []), (543, []), (544, []), (545, []), (546, []), (190, []), (191, [0])] T2 U3 from fr_t (fr_0 _ _) (fr_s fU3 rfl)) ⟨fun _ _ => rfl, fun _ => rfl, rfl, rfl, rfl, rfl, rfl⟩) (KA__f hka (show fr_ [(109, [5, 3, 9, 6, 2, 15]), (584, []), (588, []), (587, []), (591, []), (592, []), (590, []), (593, []), (594, []), (107, [1]), (542, []), (543, []), (544, []), (545, []), (546, []), (190, []), (191, [0])] T U3 from fr_t (fr_t (fr_0 _ _) (fr_s hf_94 rfl)) (fr_s fU3 rfl)) ⟨fun _ => rfl, fun _ => rfl, rfl, rfl, trivial⟩) (by rw [yc]; omega) (by omega)) cl_X9_77 (qd_c (by decide +kernel)) (nn_ _) rfl (rf_of rfl) (Nat.le_of_ble_eq_true rfl) (Nat.le_of_ble_eq_true rfl) (Nat.le_of_ble_eq_true rfl) rfl ?_
      rintro U43 _ ⟨rfl, fU43, -⟩
      show J_ zX9_ask T (po_X9_ask_e T c t) 1 4096 108 _ [] U43
      refine j_blx (F := fX9) tb_X9 (nn_ _) bk_X9_ask_e_108 bs_X9_ask_e_108 hz (fun K hK => ?_)
      refine hK 111 _ [vI t, vR 109 0, vR 109 0] U43 ?_
      refine j_callV (y := yX9_spreadParts) (Yc := zX9_spreadParts) (rest := [vR 109 0]) [vI t] (ct_X9_spreadParts (T := U43) (q9_f q2 (show fr_ [(109, [3, 6, 2, 15]), (584, []), (587, []), (591, []), (592, []), (590, []), (593, []), (594, []), (107, [1]), (542, []), (543, []), (544, []), (545, []), (546, []), (190, []), (191, [0])] T2 U43 from fr_t (fr_t (fr_0 _ _) (fr_s fU3 rfl)) (fr_s fU43 rfl)) ⟨fun _ _ => rfl, fun _ => rfl, rfl, rfl, rfl, rfl, rfl⟩) (KA__f hka (show fr_ [(109, [5, 3, 9, 6, 2, 15]), (584, []), (588, []), (587, []), (591, []), (592, []), (590, []), (593, []), (594, []), (107, [1]), (542, []), (543, []), (544, []), (545, []), (546, []), (190, []), (191, [0])] T U43 from fr_t (fr_t (fr_t (fr_0 _ _) (fr_s hf_94 rfl)) (fr_s fU3 rfl)) (fr_s fU43 rfl)) ⟨fun _ => rfl, fun _ => rfl, rfl, rfl, trivial⟩) (by omega)) cl_X9_80 (qd_c (by decide +kernel)) (nn_ _) rfl (rf_of rfl) (Nat.le_of_ble_eq_true rfl) (Nat.le_of_ble_eq_true rfl) (Nat.le_of_ble_eq_true rfl) rfl ?_
      rintro U45 _ ⟨x46, rfl, fU45, hx46⟩
      show J_ zX9_ask T (po_X9_ask_e T c t) 1 4096 114 _ [vI x46, vR 109 0] U45
      refine j_blx (F := fX9) tb_X9 (nn_ _) bk_X9_ask_e_114 bs_X9_ask_e_114 hz (fun K hK => ?_)
      refine And.intro (fun c47 => ?_) (fun c47 => ?_)
      · refine hK 121 _ [vR 109 0] U45 ?_
        refine j_blx (F := fX9) tb_X9 (nn_ _) bk_X9_ask_e_121 bs_X9_ask_e_121 hz (fun K hK => ?_)
        refine bd_i (by omega) ?_
        refine x_nm (fun U48 hU48 => ?_)
        have e49 := up_f hU48
        intro b50 b50b
        have e51 : U48 109 0 2 = 0 := up_f hU48
        rw [e51] at b50 b50b ⊢
        refine And.intro (fun c52 => ?_) (fun c52 => ?_)
        · refine hK 169 _ [] U48 ?_
          refine j_blx (F := fX9) tb_X9 (nn_ _) bk_X9_ask_e_169 bs_X9_ask_e_169 hz (fun K hK => ?_)
          intro b53 b53b
          have e54 : U48 109 0 2 = 0 := up_f hU48
          rw [e54] at b53 b53b ⊢
          refine (show po_X9_ask_e T c t U48 (some (vI 0)) from ?_)
          have e55 : U48 109 0 15 = T 109 0 15 := (up_j hU48 (by decide) 109 0).trans ((fU45 109 0 15 rfl).trans ((fU43 109 0 15 rfl).trans ((fU3 109 0 15 rfl).trans (hf_94 109 0 15 rfl))))
          have e56 : U48 191 0 0 = T 191 0 0 := (up_k hU48 (by exact Nat.ne_of_beq_eq_false rfl) 0 0).trans ((fU45 191 0 0 rfl).trans ((fU43 191 0 0 rfl).trans ((fU3 191 0 0 rfl).trans (hf_94 191 0 0 rfl))))
          have e57 : U48 109 0 15 = T 109 0 15 := (up_j hU48 (by decide) 109 0).trans ((fU45 109 0 15 rfl).trans ((fU43 109 0 15 rfl).trans ((fU3 109 0 15 rfl).trans (hf_94 109 0 15 rfl))))
          have e58 : U48 191 0 0 = T 191 0 0 := (up_k hU48 (by exact Nat.ne_of_beq_eq_false rfl) 0 0).trans ((fU45 191 0 0 rfl).trans ((fU43 191 0 0 rfl).trans ((fU3 191 0 0 rfl).trans (hf_94 191 0 0 rfl))))
          have e190 : ∀ x, U48 190 x (-2) = T 190 x (-2) := fun x => (up_k hU48 (by exact Nat.ne_of_beq_eq_false rfl) _ _).trans ((fU45 190 _ _ rfl).trans ((fU43 190 _ _ rfl).trans ((fU3 190 _ _ rfl).trans (hf_94 190 _ _ rfl))))
          have f190 : ∀ x j, U48 190 x j = T 190 x j := fun x j => (up_k hU48 (by exact Nat.ne_of_beq_eq_false rfl) _ _).trans ((fU45 190 _ _ rfl).trans ((fU43 190 _ _ rfl).trans ((fU3 190 _ _ rfl).trans (hf_94 190 _ _ rfl))))
          exact ⟨_, rfl, fr_u (fr_t (fr_t (fr_t (fr_t (fr_0 _ _) (fr_s hf_94 rfl)) (fr_s fU3 rfl)) (fr_s fU43 rfl)) (fr_s fU45 rfl)) hU48 rfl, by rw [e57, e190]; exact hsl, ⟨fun x j _ _ => f190 x j, by omega⟩, ⟨fun x _ => e190 x, by omega⟩, by omega⟩
        · refine hK 135 _ [vI t, vR 109 0, vR 109 0] U48 ?_
          have e59 : U48 109 0 5 = T2 109 0 5 := (up_j hU48 (by decide) 109 0).trans ((fU45 109 0 5 rfl).trans ((fU43 109 0 5 rfl).trans (fU3 109 0 5 rfl)))
          have e60 : U48 106 0 2 = T 106 0 2 := (up_k hU48 (by exact Nat.ne_of_beq_eq_false rfl) 0 2).trans ((fU45 106 0 2 rfl).trans ((fU43 106 0 2 rfl).trans ((fU3 106 0 2 rfl).trans (hf_94 106 0 2 rfl))))
          have e61 : U48 106 0 4 = T 106 0 4 := (up_k hU48 (by exact Nat.ne_of_beq_eq_false rfl) 0 4).trans ((fU45 106 0 4 rfl).trans ((fU43 106 0 4 rfl).trans ((fU3 106 0 4 rfl).trans (hf_94 106 0 4 rfl))))
          have e62 : U48 109 0 15 = T 109 0 15 := (up_j hU48 (by decide) 109 0).trans ((fU45 109 0 15 rfl).trans ((fU43 109 0 15 rfl).trans ((fU3 109 0 15 rfl).trans (hf_94 109 0 15 rfl))))
          have e63 : U48 191 0 0 = T 191 0 0 := (up_k hU48 (by exact Nat.ne_of_beq_eq_false rfl) 0 0).trans ((fU45 191 0 0 rfl).trans ((fU43 191 0 0 rfl).trans ((fU3 191 0 0 rfl).trans (hf_94 191 0 0 rfl))))
          have yd : (U48 109 0 5 - 1) = c := by omega
          refine j_callV (y := yX9_leastCut) (Yc := zX9_leastCut) (rest := [vR 109 0]) [vI t] (ct_X9_leastCut_e (T := U48) (q9_f q2 (show fr_ [(109, [3, 6, 2, 15]), (584, []), (587, []), (591, []), (592, []), (590, []), (593, []), (594, []), (107, [1]), (542, []), (543, []), (544, []), (545, []), (546, []), (190, []), (191, [0])] T2 U48 from fr_u (fr_t (fr_t (fr_t (fr_0 _ _) (fr_s fU3 rfl)) (fr_s fU43 rfl)) (fr_s fU45 rfl)) hU48 rfl) ⟨fun _ _ => rfl, fun _ => rfl, rfl, rfl, rfl, rfl, rfl⟩) (KA__f hka (show fr_ [(109, [5, 3, 9, 6, 2, 15]), (584, []), (588, []), (587, []), (591, []), (592, []), (590, []), (593, []), (594, []), (107, [1]), (542, []), (543, []), (544, []), (545, []), (546, []), (190, []), (191, [0])] T U48 from fr_u (fr_t (fr_t (fr_t (fr_t (fr_0 _ _) (fr_s hf_94 rfl)) (fr_s fU3 rfl)) (fr_s fU43 rfl)) (fr_s fU45 rfl)) hU48 rfl) ⟨fun _ => rfl, fun _ => rfl, rfl, rfl, trivial⟩) (by rw [yd]; exact KEc_f (hke c (by omega) (by omega)) (show fr_ [(109, [5, 3, 9, 6, 2, 15]), (584, []), (588, []), (587, []), (591, []), (592, []), (590, []), (593, []), (594, []), (107, [1]), (542, []), (543, []), (544, []), (545, []), (546, []), (190, []), (191, [0])] T U48 from fr_u (fr_t (fr_t (fr_t (fr_t (fr_0 _ _) (fr_s hf_94 rfl)) (fr_s fU3 rfl)) (fr_s fU43 rfl)) (fr_s fU45 rfl)) hU48 rfl) ⟨rfl, fun _ => rfl, fun _ => rfl⟩) (by rw [e62, show ∀ x, U48 190 x (-2) = T 190 x (-2) from fun x => (up_k hU48 (by exact Nat.ne_of_beq_eq_false rfl) _ _).trans ((fU45 190 _ _ rfl).trans ((fU43 190 _ _ rfl).trans ((fU3 190 _ _ rfl).trans (hf_94 190 _ _ rfl))))]; exact hsl) (by omega)) cl_X9_84 (qd_c (by decide +kernel)) (nn_ _) rfl (rf_of rfl) (Nat.le_of_ble_eq_true rfl) (Nat.le_of_ble_eq_true rfl) (Nat.le_of_ble_eq_true rfl) rfl ?_
          rintro U64 _ ⟨x65, rfl, fU64, hx65, slU64, kpU64, lhU64, mU64⟩
          show J_ zX9_ask T (po_X9_ask_e T c t) 0 0 138 _ [vI x65, vR 109 0] U64
          refine j_blx (F := fX9) tb_X9 (nn_ _) bk_X9_ask_e_138 bs_X9_ask_e_138 hz (fun K hK => ?_)
          refine bd_i (by omega) ?_
          refine x_nm (fun U66 hU66 => ?_)
          have e67 := up_f hU66
          refine hK 169 _ [] U66 ?_
          refine j_blx (F := fX9) tb_X9 (nn_ _) bk_X9_ask_e_169 bs_X9_ask_e_169 hz (fun K hK => ?_)
          intro b68 b68b
          have e69 : U66 109 0 2 = 0 := (up_j hU66 (by decide) 109 0).trans ((fU64 109 0 2 rfl).trans (up_f hU48))
          rw [e69] at b68 b68b ⊢
          refine (show po_X9_ask_e T c t U66 (some (vI 0)) from ?_)
          have e70 : U66 109 0 15 = U64 109 0 15 := up_j hU66 (by decide) 109 0
          have e71 : U66 191 0 0 = U64 191 0 0 := up_k hU66 (by exact Nat.ne_of_beq_eq_false rfl) 0 0
          have e190 : ∀ x, U66 190 x (-2) = U64 190 x (-2) := fun x => up_k hU66 (by exact Nat.ne_of_beq_eq_false rfl) _ _
          have e15 : U66 109 0 15 = U64 109 0 15 := up_j hU66 (by decide) _ _
          have e91 : U66 191 0 0 = U64 191 0 0 := up_k hU66 (by exact Nat.ne_of_beq_eq_false rfl) _ _
          have e92 : U48 191 0 0 = T 191 0 0 := (up_k hU48 (by exact Nat.ne_of_beq_eq_false rfl) _ _).trans ((fU45 191 _ _ rfl).trans ((fU43 191 _ _ rfl).trans ((fU3 191 _ _ rfl).trans (hf_94 191 _ _ rfl))))
          have e93 : ∀ x, U48 190 x (-2) = T 190 x (-2) := fun x => (up_k hU48 (by exact Nat.ne_of_beq_eq_false rfl) _ _).trans ((fU45 190 _ _ rfl).trans ((fU43 190 _ _ rfl).trans ((fU3 190 _ _ rfl).trans (hf_94 190 _ _ rfl))))
          have f190 : ∀ x j, U66 190 x j = U64 190 x j := fun x j => up_k hU66 (by exact Nat.ne_of_beq_eq_false rfl) _ _
          have f193 : ∀ x j, U48 190 x j = T 190 x j := fun x j => (up_k hU48 (by exact Nat.ne_of_beq_eq_false rfl) _ _).trans ((fU45 190 _ _ rfl).trans ((fU43 190 _ _ rfl).trans ((fU3 190 _ _ rfl).trans (hf_94 190 _ _ rfl))))
          have e94 : U48 109 0 15 = T 109 0 15 := (up_j hU48 (by decide) _ _).trans ((fU45 109 _ _ rfl).trans ((fU43 109 _ _ rfl).trans ((fU3 109 _ _ rfl).trans (hf_94 109 _ _ rfl))))
          have kp9 : KPT_ T U66 := ⟨fun x j hx hn => (f190 x j).trans ((kpU64.1 x j (by omega) (by omega)).trans (f193 x j)), by have y6 := kpU64.2; omega⟩
          exact ⟨_, rfl, fr_u (fr_t (fr_u (fr_t (fr_t (fr_t (fr_t (fr_0 _ _) (fr_s hf_94 rfl)) (fr_s fU3 rfl)) (fr_s fU43 rfl)) (fr_s fU45 rfl)) hU48 rfl) (fr_s fU64 rfl)) hU66 rfl, by rw [e15, e190]; exact slU64, kp9, lh_t (lh_t ⟨fun x _ => e93 x, by omega⟩ lhU64) ⟨fun x _ => e190 x, by omega⟩, by have := mU64; omega⟩
      · refine hK 122 _ [vI 1, vR 109 0] U45 ?_
        refine j_blx (F := fX9) tb_X9 (nn_ _) bk_X9_ask_e_122 bs_X9_ask_e_122 hz (fun K hK => ?_)
        refine bd_i (by omega) ?_
        refine x_nm (fun U72 hU72 => ?_)
        have e73 := up_f hU72
        intro b74 b74b
        have e75 : U72 109 0 2 = 1 := up_f hU72
        rw [e75] at b74 b74b ⊢
        refine And.intro (fun c76 => ?_) (fun c76 => ?_)
        · refine hK 169 _ [] U72 ?_
          refine j_blx (F := fX9) tb_X9 (nn_ _) bk_X9_ask_e_169 bs_X9_ask_e_169 hz (fun K hK => ?_)
          intro b77 b77b
          have e78 : U72 109 0 2 = 1 := up_f hU72
          rw [e78] at b77 b77b ⊢
          refine (show po_X9_ask_e T c t U72 (some (vI 1)) from ?_)
          have e79 : U72 109 0 15 = T 109 0 15 := (up_j hU72 (by decide) 109 0).trans ((fU45 109 0 15 rfl).trans ((fU43 109 0 15 rfl).trans ((fU3 109 0 15 rfl).trans (hf_94 109 0 15 rfl))))
          have e80 : U72 191 0 0 = T 191 0 0 := (up_k hU72 (by exact Nat.ne_of_beq_eq_false rfl) 0 0).trans ((fU45 191 0 0 rfl).trans ((fU43 191 0 0 rfl).trans ((fU3 191 0 0 rfl).trans (hf_94 191 0 0 rfl))))
          have e81 : U72 109 0 15 = T 109 0 15 := (up_j hU72 (by decide) 109 0).trans ((fU45 109 0 15 rfl).trans ((fU43 109 0 15 rfl).trans ((fU3 109 0 15 rfl).trans (hf_94 109 0 15 rfl))))
          have e82 : U72 191 0 0 = T 191 0 0 := (up_k hU72 (by exact Nat.ne_of_beq_eq_false rfl) 0 0).trans ((fU45 191 0 0 rfl).trans ((fU43 191 0 0 rfl).trans ((fU3 191 0 0 rfl).trans (hf_94 191 0 0 rfl))))
          have e190 : ∀ x, U72 190 x (-2) = T 190 x (-2) := fun x => (up_k hU72 (by exact Nat.ne_of_beq_eq_false rfl) _ _).trans ((fU45 190 _ _ rfl).trans ((fU43 190 _ _ rfl).trans ((fU3 190 _ _ rfl).trans (hf_94 190 _ _ rfl))))
          have f190 : ∀ x j, U72 190 x j = T 190 x j := fun x j => (up_k hU72 (by exact Nat.ne_of_beq_eq_false rfl) _ _).trans ((fU45 190 _ _ rfl).trans ((fU43 190 _ _ rfl).trans ((fU3 190 _ _ rfl).trans (hf_94 190 _ _ rfl))))
          exact ⟨_, rfl, fr_u (fr_t (fr_t (fr_t (fr_t (fr_0 _ _) (fr_s hf_94 rfl)) (fr_s fU3 rfl)) (fr_s fU43 rfl)) (fr_s fU45 rfl)) hU72 rfl, by rw [e81, e190]; exact hsl, ⟨fun x j _ _ => f190 x j, by omega⟩, ⟨fun x _ => e190 x, by omega⟩, by omega⟩
        · refine hK 135 _ [vI t, vR 109 0, vR 109 0] U72 ?_
          have e83 : U72 109 0 5 = T2 109 0 5 := (up_j hU72 (by decide) 109 0).trans ((fU45 109 0 5 rfl).trans ((fU43 109 0 5 rfl).trans (fU3 109 0 5 rfl)))
          have e84 : U72 106 0 2 = T 106 0 2 := (up_k hU72 (by exact Nat.ne_of_beq_eq_false rfl) 0 2).trans ((fU45 106 0 2 rfl).trans ((fU43 106 0 2 rfl).trans ((fU3 106 0 2 rfl).trans (hf_94 106 0 2 rfl))))
          have e85 : U72 106 0 4 = T 106 0 4 := (up_k hU72 (by exact Nat.ne_of_beq_eq_false rfl) 0 4).trans ((fU45 106 0 4 rfl).trans ((fU43 106 0 4 rfl).trans ((fU3 106 0 4 rfl).trans (hf_94 106 0 4 rfl))))
          have e86 : U72 109 0 15 = T 109 0 15 := (up_j hU72 (by decide) 109 0).trans ((fU45 109 0 15 rfl).trans ((fU43 109 0 15 rfl).trans ((fU3 109 0 15 rfl).trans (hf_94 109 0 15 rfl))))
          have e87 : U72 191 0 0 = T 191 0 0 := (up_k hU72 (by exact Nat.ne_of_beq_eq_false rfl) 0 0).trans ((fU45 191 0 0 rfl).trans ((fU43 191 0 0 rfl).trans ((fU3 191 0 0 rfl).trans (hf_94 191 0 0 rfl))))
          have yd : (U72 109 0 5 - 1) = c := by omega
          refine j_callV (y := yX9_leastCut) (Yc := zX9_leastCut) (rest := [vR 109 0]) [vI t] (ct_X9_leastCut_e (T := U72) (q9_f q2 (show fr_ [(109, [3, 6, 2, 15]), (584, []), (587, []), (591, []), (592, []), (590, []), (593, []), (594, []), (107, [1]), (542, []), (543, []), (544, []), (545, []), (546, []), (190, []), (191, [0])] T2 U72 from fr_u (fr_t (fr_t (fr_t (fr_0 _ _) (fr_s fU3 rfl)) (fr_s fU43 rfl)) (fr_s fU45 rfl)) hU72 rfl) ⟨fun _ _ => rfl, fun _ => rfl, rfl, rfl, rfl, rfl, rfl⟩) (KA__f hka (show fr_ [(109, [5, 3, 9, 6, 2, 15]), (584, []), (588, []), (587, []), (591, []), (592, []), (590, []), (593, []), (594, []), (107, [1]), (542, []), (543, []), (544, []), (545, []), (546, []), (190, []), (191, [0])] T U72 from fr_u (fr_t (fr_t (fr_t (fr_t (fr_0 _ _) (fr_s hf_94 rfl)) (fr_s fU3 rfl)) (fr_s fU43 rfl)) (fr_s fU45 rfl)) hU72 rfl) ⟨fun _ => rfl, fun _ => rfl, rfl, rfl, trivial⟩) (by rw [yd]; exact KEc_f (hke c (by omega) (by omega)) (show fr_ [(109, [5, 3, 9, 6, 2, 15]), (584, []), (588, []), (587, []), (591, []), (592, []), (590, []), (593, []), (594, []), (107, [1]), (542, []), (543, []), (544, []), (545, []), (546, []), (190, []), (191, [0])] T U72 from fr_u (fr_t (fr_t (fr_t (fr_t (fr_0 _ _) (fr_s hf_94 rfl)) (fr_s fU3 rfl)) (fr_s fU43 rfl)) (fr_s fU45 rfl)) hU72 rfl) ⟨rfl, fun _ => rfl, fun _ => rfl⟩) (by rw [e86, show ∀ x, U72 190 x (-2) = T 190 x (-2) from fun x => (up_k hU72 (by exact Nat.ne_of_beq_eq_false rfl) _ _).trans ((fU45 190 _ _ rfl).trans ((fU43 190 _ _ rfl).trans ((fU3 190 _ _ rfl).trans (hf_94 190 _ _ rfl))))]; exact hsl) (by omega)) cl_X9_84 (qd_c (by decide +kernel)) (nn_ _) rfl (rf_of rfl) (Nat.le_of_ble_eq_true rfl) (Nat.le_of_ble_eq_true rfl) (Nat.le_of_ble_eq_true rfl) rfl ?_
          rintro U88 _ ⟨x89, rfl, fU88, hx89, slU88, kpU88, lhU88, mU88⟩
          show J_ zX9_ask T (po_X9_ask_e T c t) 0 0 138 _ [vI x89, vR 109 0] U88
          refine j_blx (F := fX9) tb_X9 (nn_ _) bk_X9_ask_e_138 bs_X9_ask_e_138 hz (fun K hK => ?_)
          refine bd_i (by omega) ?_
          refine x_nm (fun U90 hU90 => ?_)
          have e91 := up_f hU90
          refine hK 169 _ [] U90 ?_
          refine j_blx (F := fX9) tb_X9 (nn_ _) bk_X9_ask_e_169 bs_X9_ask_e_169 hz (fun K hK => ?_)
          intro b92 b92b
          have e93 : U90 109 0 2 = 1 := (up_j hU90 (by decide) 109 0).trans ((fU88 109 0 2 rfl).trans (up_f hU72))
          rw [e93] at b92 b92b ⊢
          refine (show po_X9_ask_e T c t U90 (some (vI 1)) from ?_)
          have e94 : U90 109 0 15 = U88 109 0 15 := up_j hU90 (by decide) 109 0
          have e95 : U90 191 0 0 = U88 191 0 0 := up_k hU90 (by exact Nat.ne_of_beq_eq_false rfl) 0 0
          have e190 : ∀ x, U90 190 x (-2) = U88 190 x (-2) := fun x => up_k hU90 (by exact Nat.ne_of_beq_eq_false rfl) _ _
          have e15 : U90 109 0 15 = U88 109 0 15 := up_j hU90 (by decide) _ _
          have e91 : U90 191 0 0 = U88 191 0 0 := up_k hU90 (by exact Nat.ne_of_beq_eq_false rfl) _ _
          have e92 : U72 191 0 0 = T 191 0 0 := (up_k hU72 (by exact Nat.ne_of_beq_eq_false rfl) _ _).trans ((fU45 191 _ _ rfl).trans ((fU43 191 _ _ rfl).trans ((fU3 191 _ _ rfl).trans (hf_94 191 _ _ rfl))))
          have e93 : ∀ x, U72 190 x (-2) = T 190 x (-2) := fun x => (up_k hU72 (by exact Nat.ne_of_beq_eq_false rfl) _ _).trans ((fU45 190 _ _ rfl).trans ((fU43 190 _ _ rfl).trans ((fU3 190 _ _ rfl).trans (hf_94 190 _ _ rfl))))
          have f190 : ∀ x j, U90 190 x j = U88 190 x j := fun x j => up_k hU90 (by exact Nat.ne_of_beq_eq_false rfl) _ _
          have f193 : ∀ x j, U72 190 x j = T 190 x j := fun x j => (up_k hU72 (by exact Nat.ne_of_beq_eq_false rfl) _ _).trans ((fU45 190 _ _ rfl).trans ((fU43 190 _ _ rfl).trans ((fU3 190 _ _ rfl).trans (hf_94 190 _ _ rfl))))
          have e94 : U72 109 0 15 = T 109 0 15 := (up_j hU72 (by decide) _ _).trans ((fU45 109 _ _ rfl).trans ((fU43 109 _ _ rfl).trans ((fU3 109 _ _ rfl).trans (hf_94 109 _ _ rfl))))
          have kp9 : KPT_ T U90 := ⟨fun x j hx hn => (f190 x j).trans ((kpU88.1 x j (by omega) (by omega)).trans (f193 x j)), by have y6 := kpU88.2; omega⟩
          exact ⟨_, rfl, fr_u (fr_t (fr_u (fr_t (fr_t (fr_t (fr_t (fr_0 _ _) (fr_s hf_94 rfl)) (fr_s fU3 rfl)) (fr_s fU43 rfl)) (fr_s fU45 rfl)) hU72 rfl) (fr_s fU88 rfl)) hU90 rfl, by rw [e15, e190]; exact slU88, kp9, lh_t (lh_t ⟨fun x _ => e93 x, by omega⟩ lhU88) ⟨fun x _ => e190 x, by omega⟩, by have := mU88; omega⟩
  have c_56 : ∀ (v : Int) (T1 : Zt), (fr_ [(109, [5, 3]), (584, [])] T T1) → (0 ≤ v ∧ v ≤ 1 ∧ (v = 1 → T 401 c 1 + T 401 c 3 = 2 * T 401 c 2)) → (T1 109 0 5 = c + 1) → J_ zX9_ask T (po_X9_ask_e T c t) 1 4096 56 [some (vR 109 0), some (vR 100 c), some (vI t), none] [vI v] T1 := by
    intro v T1 hf_56 iv1 t1
    refine j_blx (F := fX9) tb_X9 (nn_ _) bk_X9_ask_e_56 bs_X9_ask_e_56 hz (fun K hK => ?_)
    refine And.intro (fun c96 => ?_) (fun c96 => ?_)
    · exact absurd c96 (by omega)
    · have z97 : T1 109 0 5 - 1 = c := by omega
      rw [z97]
      refine ix_i (by omega) ?_
      intro b98 b98b
      have e99 : T1 403 c t = T 403 c t := hf_56 403 c t rfl
      rw [e99] at b98 b98b ⊢
      refine And.intro (fun c100 => ?_) (fun c100 => ?_)
      · refine hK 76 [some (vR 109 0), some (vR 100 c), some (vI t), some (vI v)] [vI (T 403 c t), vR 109 0] T1 ?_
        refine j_blx (F := fX9) tb_X9 (nn_ _) bk_X9_ask_e_76 bs_X9_ask_e_76 hz (fun K hK => ?_)
        refine hK 78 _ [vI 8, vI (T 403 c t), vR 109 0] T1 ?_
        have e101 : T1 106 0 2 = T 106 0 2 := hf_56 106 0 2 rfl
        have e102 : T1 106 0 4 = T 106 0 4 := hf_56 106 0 4 rfl
        refine j_callV (y := yX9_listOpen) (Yc := zX9_listOpen) (rest := []) [vI (T 403 c t), vI 8] (ct_X9_listOpen (T := T1) (KA__f hka (show fr_ [(109, [5, 3, 9, 6, 2, 15]), (584, []), (588, []), (587, []), (591, []), (592, []), (590, []), (593, []), (594, []), (107, [1]), (542, []), (543, []), (544, []), (545, []), (546, []), (190, []), (191, [0])] T T1 from fr_t (fr_0 _ _) (fr_s hf_56 rfl)) ⟨fun _ => rfl, fun _ => rfl, rfl, rfl, trivial⟩) (KM__f hkm (show fr_ [(109, [5, 3, 9, 6, 2, 15]), (584, []), (588, []), (587, []), (591, []), (592, []), (590, []), (593, []), (594, []), (107, [1]), (542, []), (543, []), (544, []), (545, []), (546, []), (190, []), (191, [0])] T T1 from fr_t (fr_0 _ _) (fr_s hf_56 rfl)) ⟨rfl, rfl, rfl, rfl, trivial⟩) (KC__f hkc (show fr_ [(109, [5, 3, 9, 6, 2, 15]), (584, []), (588, []), (587, []), (591, []), (592, []), (590, []), (593, []), (594, []), (107, [1]), (542, []), (543, []), (544, []), (545, []), (546, []), (190, []), (191, [0])] T T1 from fr_t (fr_0 _ _) (fr_s hf_56 rfl)) ⟨rfl, rfl, rfl, rfl, trivial⟩) (by omega) (by omega)) cl_X9_69 (qd_c (by decide +kernel)) (nn_ _) rfl (rf_of rfl) (Nat.le_of_ble_eq_true rfl) (Nat.le_of_ble_eq_true rfl) (Nat.le_of_ble_eq_true rfl) rfl ?_
        rintro U103 _ ⟨x104, rfl, fU103, hx104, olU103⟩
        show J_ zX9_ask T (po_X9_ask_e T c t) 1 4096 81 _ [vI x104] U103
        refine j_blx (F := fX9) tb_X9 (nn_ _) bk_X9_ask_e_81 bs_X9_ask_e_81 hz (fun K hK => ?_)
        refine And.intro (fun c105 => ?_) (fun c105 => ?_)
        · refine hK 94 _ [] U103 ?_
          refine j_ok (fun gok _ => ?_)
          have q5x : U103 109 0 5 = c + 1 := (fU103 109 _ _ rfl).trans t1
          have e106 : U103 109 0 5 = T1 109 0 5 := fU103 109 0 5 rfl
          refine c_94 v U103 ?_ ?_ ?_ ?_
          · exact fr_t (fr_t (fr_0 _ _) (fr_s hf_56 rfl)) (fr_s fU103 rfl)
          · omega
          · exact q5x
          · exact q9_of gok hks hkc (by omega) q5x hb7.1 (fun j a b => by have y := olU103 j a b; rw [show (T1 109 0 5 - 1) = c by omega, show T1 100 c 7 = T 100 c 7 from hf_56 100 _ _ rfl, show T1 100 c 8 = T 100 c 8 from hf_56 100 _ _ rfl] at y; exact y) (fun i j => (fU103 102 _ _ rfl).trans (hf_56 102 _ _ rfl)) (fun i j => (fU103 404 _ _ rfl).trans (hf_56 404 _ _ rfl)) ((fU103 106 _ _ rfl).trans (hf_56 106 _ _ rfl))
        · refine bd_i (by omega) ?_
          refine x_nm (fun U107 hU107 => ?_)
          have e108 := up_f hU107
          intro b109 b109b
          have e110 : U107 109 0 2 = 2 := up_f hU107
          rw [e110] at b109 b109b ⊢
          refine (show po_X9_ask_e T c t U107 (some (vI 2)) from ?_)
          have e111 : U107 109 0 15 = T 109 0 15 := (up_j hU107 (by decide) 109 0).trans ((fU103 109 0 15 rfl).trans (hf_56 109 0 15 rfl))
          have e112 : U107 191 0 0 = T 191 0 0 := (up_k hU107 (by exact Nat.ne_of_beq_eq_false rfl) 0 0).trans ((fU103 191 0 0 rfl).trans (hf_56 191 0 0 rfl))
          have e113 : U107 109 0 15 = T 109 0 15 := (up_j hU107 (by decide) 109 0).trans ((fU103 109 0 15 rfl).trans (hf_56 109 0 15 rfl))
          have e114 : U107 191 0 0 = T 191 0 0 := (up_k hU107 (by exact Nat.ne_of_beq_eq_false rfl) 0 0).trans ((fU103 191 0 0 rfl).trans (hf_56 191 0 0 rfl))
          have e190 : ∀ x, U107 190 x (-2) = T 190 x (-2) := fun x => (up_k hU107 (by exact Nat.ne_of_beq_eq_false rfl) _ _).trans ((fU103 190 _ _ rfl).trans (hf_56 190 _ _ rfl))
          have f190 : ∀ x j, U107 190 x j = T 190 x j := fun x j => (up_k hU107 (by exact Nat.ne_of_beq_eq_false rfl) _ _).trans ((fU103 190 _ _ rfl).trans (hf_56 190 _ _ rfl))
          exact ⟨_, rfl, fr_u (fr_t (fr_t (fr_0 _ _) (fr_s hf_56 rfl)) (fr_s fU103 rfl)) hU107 rfl, by rw [e113, e190]; exact hsl, ⟨fun x j _ _ => f190 x j, by omega⟩, ⟨fun x _ => e190 x, by omega⟩, by omega⟩
      · refine hK 78 _ [vI 40, vI (T 403 c t), vR 109 0] T1 ?_
        have e115 : T1 106 0 2 = T 106 0 2 := hf_56 106 0 2 rfl
        have e116 : T1 106 0 4 = T 106 0 4 := hf_56 106 0 4 rfl
        refine j_callV (y := yX9_listOpen) (Yc := zX9_listOpen) (rest := []) [vI (T 403 c t), vI 40] (ct_X9_listOpen (T := T1) (KA__f hka (show fr_ [(109, [5, 3, 9, 6, 2, 15]), (584, []), (588, []), (587, []), (591, []), (592, []), (590, []), (593, []), (594, []), (107, [1]), (542, []), (543, []), (544, []), (545, []), (546, []), (190, []), (191, [0])] T T1 from fr_t (fr_0 _ _) (fr_s hf_56 rfl)) ⟨fun _ => rfl, fun _ => rfl, rfl, rfl, trivial⟩) (KM__f hkm (show fr_ [(109, [5, 3, 9, 6, 2, 15]), (584, []), (588, []), (587, []), (591, []), (592, []), (590, []), (593, []), (594, []), (107, [1]), (542, []), (543, []), (544, []), (545, []), (546, []), (190, []), (191, [0])] T T1 from fr_t (fr_0 _ _) (fr_s hf_56 rfl)) ⟨rfl, rfl, rfl, rfl, trivial⟩) (KC__f hkc (show fr_ [(109, [5, 3, 9, 6, 2, 15]), (584, []), (588, []), (587, []), (591, []), (592, []), (590, []), (593, []), (594, []), (107, [1]), (542, []), (543, []), (544, []), (545, []), (546, []), (190, []), (191, [0])] T T1 from fr_t (fr_0 _ _) (fr_s hf_56 rfl)) ⟨rfl, rfl, rfl, rfl, trivial⟩) (by omega) (by omega)) cl_X9_69 (qd_c (by decide +kernel)) (nn_ _) rfl (rf_of rfl) (Nat.le_of_ble_eq_true rfl) (Nat.le_of_ble_eq_true rfl) (Nat.le_of_ble_eq_true rfl) rfl ?_
        rintro U117 _ ⟨x118, rfl, fU117, hx118, olU117⟩
        show J_ zX9_ask T (po_X9_ask_e T c t) 1 4096 81 _ [vI x118] U117
        refine j_blx (F := fX9) tb_X9 (nn_ _) bk_X9_ask_e_81 bs_X9_ask_e_81 hz (fun K hK => ?_)
        refine And.intro (fun c119 => ?_) (fun c119 => ?_)
        · refine hK 94 _ [] U117 ?_
          refine j_ok (fun gok _ => ?_)
          have q5x : U117 109 0 5 = c + 1 := (fU117 109 _ _ rfl).trans t1
          have e120 : U117 109 0 5 = T1 109 0 5 := fU117 109 0 5 rfl
          refine c_94 v U117 ?_ ?_ ?_ ?_
          · exact fr_t (fr_t (fr_0 _ _) (fr_s hf_56 rfl)) (fr_s fU117 rfl)
          · omega
          · exact q5x
          · exact q9_of gok hks hkc (by omega) q5x hb7.1 (fun j a b => by have y := olU117 j a b; rw [show (T1 109 0 5 - 1) = c by omega, show T1 100 c 7 = T 100 c 7 from hf_56 100 _ _ rfl, show T1 100 c 8 = T 100 c 8 from hf_56 100 _ _ rfl] at y; exact y) (fun i j => (fU117 102 _ _ rfl).trans (hf_56 102 _ _ rfl)) (fun i j => (fU117 404 _ _ rfl).trans (hf_56 404 _ _ rfl)) ((fU117 106 _ _ rfl).trans (hf_56 106 _ _ rfl))
        · refine bd_i (by omega) ?_
          refine x_nm (fun U121 hU121 => ?_)
          have e122 := up_f hU121
          intro b123 b123b
          have e124 : U121 109 0 2 = 2 := up_f hU121
          rw [e124] at b123 b123b ⊢
          refine (show po_X9_ask_e T c t U121 (some (vI 2)) from ?_)
          have e125 : U121 109 0 15 = T 109 0 15 := (up_j hU121 (by decide) 109 0).trans ((fU117 109 0 15 rfl).trans (hf_56 109 0 15 rfl))
          have e126 : U121 191 0 0 = T 191 0 0 := (up_k hU121 (by exact Nat.ne_of_beq_eq_false rfl) 0 0).trans ((fU117 191 0 0 rfl).trans (hf_56 191 0 0 rfl))
          have e127 : U121 109 0 15 = T 109 0 15 := (up_j hU121 (by decide) 109 0).trans ((fU117 109 0 15 rfl).trans (hf_56 109 0 15 rfl))
          have e128 : U121 191 0 0 = T 191 0 0 := (up_k hU121 (by exact Nat.ne_of_beq_eq_false rfl) 0 0).trans ((fU117 191 0 0 rfl).trans (hf_56 191 0 0 rfl))
          have e190 : ∀ x, U121 190 x (-2) = T 190 x (-2) := fun x => (up_k hU121 (by exact Nat.ne_of_beq_eq_false rfl) _ _).trans ((fU117 190 _ _ rfl).trans (hf_56 190 _ _ rfl))
          have f190 : ∀ x j, U121 190 x j = T 190 x j := fun x j => (up_k hU121 (by exact Nat.ne_of_beq_eq_false rfl) _ _).trans ((fU117 190 _ _ rfl).trans (hf_56 190 _ _ rfl))
          exact ⟨_, rfl, fr_u (fr_t (fr_t (fr_0 _ _) (fr_s hf_56 rfl)) (fr_s fU117 rfl)) hU121 rfl, by rw [e127, e190]; exact hsl, ⟨fun x j _ _ => f190 x j, by omega⟩, ⟨fun x _ => e190 x, by omega⟩, by omega⟩
  refine j_blx (F := fX9) tb_X9 (nn_ _) bk_X9_ask_e_0 bs_X9_ask_e_0 hz (fun K hK => ?_)
  refine hK 2 _ [vR 100 c, vR 109 0] T ?_
  refine j_putR (pc := 2) (ci := 9) (j := 5) (by decide) fr5_X9_54 rfl (by decide +kernel) (by omega) (by omega) (by omega) ?_
  refine j_nm (fun U129 hU129 => ?_)
  have e130 := up_f hU129
  show J_ zX9_ask T (po_X9_ask_e T c t) 1 4096 5 _ [] U129
  refine j_blx (F := fX9) tb_X9 (nn_ _) bk_X9_ask_e_5 bs_X9_ask_e_5 hz (fun K hK => ?_)
  refine bd_i (by omega) ?_
  refine x_nm (fun U131 hU131 => ?_)
  have e132 := up_f hU131
  refine hK 15 _ [vI (-1), vR 584 0] U131 ?_
  refine j_callS (y := yJ7_fill_53178) (Yc := zJ7_fill_53178) (rest := []) [vR 584 0, vI (-1)] (ct_J7_fill_584 (T := U131) (by omega)) cl_X9_48 (qd_c (by decide +kernel)) (nn_ _) rfl (rf_of rfl) (Nat.le_of_ble_eq_true rfl) (Nat.le_of_ble_eq_true rfl) (Nat.le_of_ble_eq_true rfl) rfl ?_
  rintro U133 _ ⟨rfl, fU133, qU133o, qU133⟩
  show J_ zX9_ask T (po_X9_ask_e T c t) 1 4096 18 _ [] U133
  refine j_blx (F := fX9) tb_X9 (nn_ _) bk_X9_ask_e_18 bs_X9_ask_e_18 hz (fun K hK => ?_)
  have e135 : U133 109 0 5 = c + 1 := (fU133 109 0 5 rfl).trans ((up_j hU131 (by decide) 109 0).trans (up_f hU129))
  refine And.intro (fun c134 => ?_) (fun c134 => ?_)
  · exact absurd c134 (by omega)
  · have z136 : U133 109 0 5 - 1 = c := by omega
    rw [z136]
    refine ix_i (by omega) ?_
    intro b137 b137b
    have e138 : U133 401 c 1 = T 401 c 1 := (fU133 401 c 1 rfl).trans ((up_k hU131 (by exact Nat.ne_of_beq_eq_false rfl) c 1).trans (up_k hU129 (by exact Nat.ne_of_beq_eq_false rfl) c 1))
    rw [e138] at b137 b137b ⊢
    have e140 : U133 109 0 5 = c + 1 := (fU133 109 0 5 rfl).trans ((up_j hU131 (by decide) 109 0).trans (up_f hU129))
    refine And.intro (fun c139 => ?_) (fun c139 => ?_)
    · exact absurd c139 (by omega)
    · have z141 : U133 109 0 5 - 1 = c := by omega
      rw [z141]
      refine ix_i (by omega) ?_
      intro b142 b142b
      have e143 : U133 401 c 3 = T 401 c 3 := (fU133 401 c 3 rfl).trans ((up_k hU131 (by exact Nat.ne_of_beq_eq_false rfl) c 3).trans (up_k hU129 (by exact Nat.ne_of_beq_eq_false rfl) c 3))
      rw [e143] at b142 b142b ⊢
      refine rg_i (by omega) ?_
      have e145 : U133 109 0 5 = c + 1 := (fU133 109 0 5 rfl).trans ((up_j hU131 (by decide) 109 0).trans (up_f hU129))
      refine And.intro (fun c144 => ?_) (fun c144 => ?_)
      · exact absurd c144 (by omega)
      · have z146 : U133 109 0 5 - 1 = c := by omega
        rw [z146]
        refine ix_i (by omega) ?_
        intro b147 b147b
        have e148 : U133 401 c 2 = T 401 c 2 := (fU133 401 c 2 rfl).trans ((up_k hU131 (by exact Nat.ne_of_beq_eq_false rfl) c 2).trans (up_k hU129 (by exact Nat.ne_of_beq_eq_false rfl) c 2))
        rw [e148] at b147 b147b ⊢
        refine rg_i (by omega) ?_
        refine And.intro (fun c149 => ?_) (fun c149 => ?_)
        · refine hK 55 _ [] U133 ?_
          refine j_blx (F := fX9) tb_X9 (nn_ _) bk_X9_ask_e_55 bs_X9_ask_e_55 hz (fun K hK => ?_)
          refine hK 56 _ [vI 0] U133 ?_
          have e150 : U133 109 0 5 = c + 1 := (fU133 109 0 5 rfl).trans ((up_j hU131 (by decide) 109 0).trans (up_f hU129))
          refine c_56 0 U133 ?_ ?_ ?_
          · exact fr_t (fr_u (fr_u (fr_0 _ _) hU129 rfl) hU131 rfl) (fr_s fU133 rfl)
          · omega
          · exact ((fU133 109 _ _ rfl).trans (up_j hU131 (by decide) _ _)).trans (up_f hU129)
        · refine hK 56 _ [vI 1] U133 ?_
          have e151 : U133 109 0 5 = c + 1 := (fU133 109 0 5 rfl).trans ((up_j hU131 (by decide) 109 0).trans (up_f hU129))
          refine c_56 1 U133 ?_ ?_ ?_
          · exact fr_t (fr_u (fr_u (fr_0 _ _) hU129 rfl) hU131 rfl) (fr_s fU133 rfl)
          · omega
          · exact ((fU133 109 _ _ rfl).trans (up_j hU131 (by decide) _ _)).trans (up_f hU129)
theorem bk_X10_can_e_0 : ck_ fX10 (some .int) cX10_can 0 [.aload 0, .iload 1] 2 = true := qck_r (nn_ _) (by decide +kernel)
theorem bs_X10_can_e_0 {P : Zt → Option Zv → Prop} (K : Int → Zl → List Zv → Zt → Prop) : sx_ K P [.aload 0, .iload 1] 2 = x_aload 0 (x_iload 1 (K 2)) := ((xe_aload 0).trans (congrArg (x_aload 0) ((xe_iload 1).trans (congrArg (x_iload 1) xe_nil))))
theorem bk_X10_can_e_5 : ck_ fX10 (some .int) cX10_can 5 [.ifCond .eq 16, .aload 0, .iload 2] 10 = true := qck_r (nn_ _) (by decide +kernel)
theorem bs_X10_can_e_5 {P : Zt → Option Zv → Prop} (K : Int → Zl → List Zv → Zt → Prop) : sx_ K P [.ifCond .eq 16, .aload 0, .iload 2] 10 = x_ifCond .eq 16 K (x_aload 0 (x_iload 2 (K 10))) := ((xe_ifCond .eq 16).trans (congrArg (x_ifCond .eq 16 K) ((xe_aload 0).trans (congrArg (x_aload 0) ((xe_iload 2).trans (congrArg (x_iload 2) xe_nil))))))
theorem bk_X10_can_e_16 : ck_ fX10 (some .int) cX10_can 16 [.iconst (-2), .ireturn] 19 = true := qck_r (nn_ _) (by decide +kernel)
theorem bs_X10_can_e_16 {P : Zt → Option Zv → Prop} (K : Int → Zl → List Zv → Zt → Prop) : sx_ K P [.iconst (-2), .ireturn] 19 = x_iconst (-2) (x_ireturn P) := ((xe_iconst (-2)).trans (congrArg (x_iconst (-2)) (xe_ireturn)))
theorem bk_X10_can_e_13 : ck_ fX10 (some .int) cX10_can 13 [.ifCond .ne 19, .iconst (-2), .ireturn] 19 = true := qck_r (nn_ _) (by decide +kernel)
theorem bs_X10_can_e_13 {P : Zt → Option Zv → Prop} (K : Int → Zl → List Zv → Zt → Prop) : sx_ K P [.ifCond .ne 19, .iconst (-2), .ireturn] 19 = x_ifCond .ne 19 K (x_iconst (-2) (x_ireturn P)) := ((xe_ifCond .ne 19).trans (congrArg (x_ifCond .ne 19 K) ((xe_iconst (-2)).trans (congrArg (x_iconst (-2)) (xe_ireturn)))))
theorem bk_X10_can_e_19 : ck_ fX10 (some .int) cX10_can 19 [.aload 0, .tableswitch 0 10 2 #[], .tableswitch 0 6 1 #[], .iload 1, .aaload, .astore 3, .aload 3, .tableswitch 0 0 4 #[], .iload 2, .iaload, .iconst (-1), .if_icmp .eq 46, .aload 3, .tableswitch 0 0 6 #[], .ifCond .ne 49, .iconst (-4), .ireturn] 49 = true := qck_r (nn_ _) (by decide +kernel)
theorem bs_X10_can_e_19 {P : Zt → Option Zv → Prop} (K : Int → Zl → List Zv → Zt → Prop) : sx_ K P [.aload 0, .tableswitch 0 10 2 #[], .tableswitch 0 6 1 #[], .iload 1, .aaload, .astore 3, .aload 3, .tableswitch 0 0 4 #[], .iload 2, .iaload, .iconst (-1), .if_icmp .eq 46, .aload 3, .tableswitch 0 0 6 #[], .ifCond .ne 49, .iconst (-4), .ireturn] 49 = x_aload 0 (x_g1 110 106 (x_g1 106 521 (x_iload 1 (x_aaload (x_astore 3 (x_aload 3 (x_g2 100 404 (x_iload 2 (x_iaload (x_iconst (-1) (x_if_icmp .eq 46 K (x_aload 3 (x_g0 100 6 0 1 (x_ifCond .ne 49 K (x_iconst (-4) (x_ireturn P)))))))))))))))) := ((xe_aload 0).trans (congrArg (x_aload 0) ((xe_g1 (kk := 110) rfl tl_10_2).trans (congrArg (x_g1 110 106) ((xe_g1 (kk := 106) rfl tl_6_1).trans (congrArg (x_g1 106 521) ((xe_iload 1).trans (congrArg (x_iload 1) ((xe_aaload).trans (congrArg (x_aaload) ((xe_astore 3).trans (congrArg (x_astore 3) ((xe_aload 3).trans (congrArg (x_aload 3) ((xe_g2 (kk := 100) rfl tl_0_4).trans (congrArg (x_g2 100 404) ((xe_iload 2).trans (congrArg (x_iload 2) ((xe_iaload).trans (congrArg (x_iaload) ((xe_iconst (-1)).trans (congrArg (x_iconst (-1)) ((xe_if_icmp .eq 46).trans (congrArg (x_if_icmp .eq 46 K) ((xe_aload 3).trans (congrArg (x_aload 3) ((xe_g0 (kk := 100) rfl tl_0_6).trans (congrArg (x_g0 100 6 0 1) ((xe_ifCond .ne 49).trans (congrArg (x_ifCond .ne 49 K) ((xe_iconst (-4)).trans (congrArg (x_iconst (-4)) (xe_ireturn)))))))))))))))))))))))))))))))))
theorem bk_X10_can_e_46 : ck_ fX10 (some .int) cX10_can 46 [.iconst (-4), .ireturn] 49 = true := qck_r (nn_ _) (by decide +kernel)
theorem bs_X10_can_e_46 {P : Zt → Option Zv → Prop} (K : Int → Zl → List Zv → Zt → Prop) : sx_ K P [.iconst (-4), .ireturn] 49 = x_iconst (-4) (x_ireturn P) := ((xe_iconst (-4)).trans (congrArg (x_iconst (-4)) (xe_ireturn)))
theorem bk_X10_can_e_49 : ck_ fX10 (some .int) cX10_can 49 [.aload 0, .tableswitch 0 10 4 #[], .aload 3, .aload 3, .tableswitch 0 0 4 #[], .iload 2, .iaload] 60 = true := qck_r (nn_ _) (by decide +kernel)
theorem bs_X10_can_e_49 {P : Zt → Option Zv → Prop} (K : Int → Zl → List Zv → Zt → Prop) : sx_ K P [.aload 0, .tableswitch 0 10 4 #[], .aload 3, .aload 3, .tableswitch 0 0 4 #[], .iload 2, .iaload] 60 = x_aload 0 (x_g1 110 109 (x_aload 3 (x_aload 3 (x_g2 100 404 (x_iload 2 (x_iaload (K 60))))))) := ((xe_aload 0).trans (congrArg (x_aload 0) ((xe_g1 (kk := 110) rfl tl_10_4).trans (congrArg (x_g1 110 109) ((xe_aload 3).trans (congrArg (x_aload 3) ((xe_aload 3).trans (congrArg (x_aload 3) ((xe_g2 (kk := 100) rfl tl_0_4).trans (congrArg (x_g2 100 404) ((xe_iload 2).trans (congrArg (x_iload 2) ((xe_iaload).trans (congrArg (x_iaload) xe_nil))))))))))))))
theorem bk_X10_can_e_63 : ck_ fX10 (some .int) cX10_can 63 [.ireturn] 64 = true := qck_r (nn_ _) (by decide +kernel)
theorem bs_X10_can_e_63 {P : Zt → Option Zv → Prop} (K : Int → Zl → List Zv → Zt → Prop) : sx_ K P [.ireturn] 64 = x_ireturn P := (xe_ireturn)
abbrev po_X10_can_e (T : Zt) (c b : Int) : Zt → Option Zv → Prop := fun T' r => ∃ x : Int, r = some (vI x) ∧ fr_ [(109, [5, 3, 9, 6, 2, 15]), (584, []), (588, []), (587, []), (591, []), (592, []), (590, []), (593, []), (594, []), (107, [1]), (542, []), (543, []), (544, []), (545, []), (546, []), (190, []), (191, [0])] T T' ∧ (T' 109 0 15 ≠ 0 → T' 190 (T' 109 0 15 - 1) (-2) = 4096 ∧ 1 ≤ T' 109 0 15) ∧ KPT_ T T' ∧ lh_ T T' ∧ T' 191 0 0 ≤ T 191 0 0 + 1
set_option maxHeartbeats 4000000 in
theorem ct_X10_can_e {T : Zt} {c b : Int} (hka : KA_ T) (hkm : KM_ T) (hkc : KC_ T) (hks : KS_ T) (hke : KE_ T) (hkw : KW_ T) (hsl : T 109 0 15 ≠ 0 → T 190 (T 109 0 15 - 1) (-2) = 4096 ∧ 1 ≤ T 109 0 15) (h9 : 0 ≤ T 191 0 0 ∧ T 191 0 0 ≤ 900000000) : Ct_ yX10_can zX10_can T [vR 110 0, vI c, vI b] (po_X10_can_e T c b) := by
  refine ct_of pn_10 rfl rfl (Nat.le_of_ble_eq_true rfl) (fun hT hav => ?_)
  have hr_c : -2147483648 ≤ c ∧ c ≤ 2147483647 := hav (vI c) (List.mem_cons_of_mem _ List.mem_cons_self)
  have hr_b : -2147483648 ≤ b ∧ b ≤ 2147483647 := hav (vI b) (List.mem_cons_of_mem _ (List.mem_cons_of_mem _ List.mem_cons_self))
  have hz : zX10_can.2.2.2.1 = some .boolean → ∀ (T' : Zt) (x : Int), po_X10_can_e T c b T' (some (vI x)) → 0 ≤ x ∧ x ≤ 1 := fun h => by cases h
  have hb_competitionCount : 0 ≤ T 106 0 2 ∧ T 106 0 2 ≤ 4 := bd_f hT 106 2 tl_6_2 0
  have hb_clubs : 0 ≤ T 108 0 2 ∧ T 108 0 2 ≤ 12 := bd_f hT 108 2 tl_8_2 0
  show J_ zX10_can T (po_X10_can_e T c b) 1 4096 0 [some (vR 110 0), some (vI c), some (vI b), none] [] T
  refine j_blx (F := fX10) tb_X10 (nn_ _) bk_X10_can_e_0 bs_X10_can_e_0 hz (fun K hK => ?_)
  refine hK 2 _ [vI c, vR 110 0] T ?_
  refine j_callV (y := yX10_isCompetition) (Yc := zX10_isCompetition) (rest := []) [vI c] (ct_X10_isCompetition (T := T)) cl_X10_107 (qd_c (by decide +kernel)) (nn_ _) rfl (rf_of rfl) (Nat.le_of_ble_eq_true rfl) (Nat.le_of_ble_eq_true rfl) (Nat.le_of_ble_eq_true rfl) rfl ?_
  rintro _ _ ⟨rfl, x1, rfl, hx1⟩
  show J_ zX10_can T (po_X10_can_e T c b) 1 4096 5 _ [vI x1] T
  refine j_blx (F := fX10) tb_X10 (nn_ _) bk_X10_can_e_5 bs_X10_can_e_5 hz (fun K hK => ?_)
  refine And.intro (fun c2 => ?_) (fun c2 => ?_)
  · replace hx1 := hx1.resolve_left (fun z => absurd (c2.symm.trans z.1) (by decide))
    clear c2
    refine hK 16 _ [] T ?_
    refine j_blx (F := fX10) tb_X10 (nn_ _) bk_X10_can_e_16 bs_X10_can_e_16 hz (fun K hK => ?_)
    refine (show po_X10_can_e T c b T (some (vI (-2))) from ?_)
    exact ⟨_, rfl, fr_0 _ _, hsl, kpt_r, lh_r, by omega⟩
  · replace hx1 := hx1.resolve_right (fun z => c2 z.1)
    clear c2
    refine hK 10 _ [vI b, vR 110 0] T ?_
    refine j_callV (y := yX10_isClub) (Yc := zX10_isClub) (rest := []) [vI b] (ct_X10_isClub (T := T)) cl_X10_137 (qd_c (by decide +kernel)) (nn_ _) rfl (rf_of rfl) (Nat.le_of_ble_eq_true rfl) (Nat.le_of_ble_eq_true rfl) (Nat.le_of_ble_eq_true rfl) rfl ?_
    rintro _ _ ⟨rfl, x3, rfl, hx3⟩
    show J_ zX10_can T (po_X10_can_e T c b) 1 4096 13 _ [vI x3] T
    refine j_blx (F := fX10) tb_X10 (nn_ _) bk_X10_can_e_13 bs_X10_can_e_13 hz (fun K hK => ?_)
    refine And.intro (fun c4 => ?_) (fun c4 => ?_)
    · replace hx3 := hx3.resolve_right (fun z => c4 z.1)
      clear c4
      refine hK 19 _ [] T ?_
      refine j_blx (F := fX10) tb_X10 (nn_ _) bk_X10_can_e_19 bs_X10_can_e_19 hz (fun K hK => ?_)
      refine ix_i (by omega) ?_
      refine And.intro (fun c5 => ?_) (fun c5 => ?_)
      · exact absurd (show T 521 0 c = 0 by omega) (hka.1 _ (by omega) (by omega))
      · refine ix_i (by omega) ?_
        intro b6 b6b
        refine And.intro (fun c7 => ?_) (fun c7 => ?_)
        · refine hK 46 [some (vR 110 0), some (vI c), some (vI b), some (vR 100 c)] [] T ?_
          refine j_blx (F := fX10) tb_X10 (nn_ _) bk_X10_can_e_46 bs_X10_can_e_46 hz (fun K hK => ?_)
          refine (show po_X10_can_e T c b T (some (vI (-4))) from ?_)
          exact ⟨_, rfl, fr_0 _ _, hsl, kpt_r, lh_r, by omega⟩
        · intro b8 b8b
          refine And.intro (fun c9 => ?_) (fun c9 => ?_)
          · refine hK 49 _ [] T ?_
            refine j_blx (F := fX10) tb_X10 (nn_ _) bk_X10_can_e_49 bs_X10_can_e_49 hz (fun K hK => ?_)
            refine ix_i (by omega) ?_
            intro b10 b10b
            refine hK 60 _ [vI (T 404 c b), vR 100 c, vR 109 0] T ?_
            refine j_callV (y := yX9_ask) (Yc := zX9_ask) (rest := []) [vR 100 c, vI (T 404 c b)] (ct_X9_ask_e (T := T) hka hkm hkc hks hke hkw hsl h9 (by omega) (by omega)) cl_X10_365 (qd_c (by decide +kernel)) (nn_ _) rfl (rf_of rfl) (Nat.le_of_ble_eq_true rfl) (Nat.le_of_ble_eq_true rfl) (Nat.le_of_ble_eq_true rfl) rfl ?_
            rintro U11 _ ⟨x12, rfl, fU11, slU11, kpU11, lhU11, mU11⟩
            show J_ zX10_can T (po_X10_can_e T c b) 0 0 63 _ [vI x12] U11
            refine j_blx (F := fX10) tb_X10 (nn_ _) bk_X10_can_e_63 bs_X10_can_e_63 hz (fun K hK => ?_)
            refine (show po_X10_can_e T c b U11 (some (vI x12)) from ?_)
            exact ⟨_, rfl, fU11, slU11, kpU11, lhU11, mU11⟩
          · refine (show po_X10_can_e T c b T (some (vI (-4))) from ?_)
            exact ⟨_, rfl, fr_0 _ _, hsl, kpt_r, lh_r, by omega⟩
    · replace hx3 := hx3.resolve_left (fun z => absurd (c4.symm.trans z.1) (by decide))
      clear c4
      refine (show po_X10_can_e T c b T (some (vI (-2))) from ?_)
      exact ⟨_, rfl, fr_0 _ _, hsl, kpt_r, lh_r, by omega⟩

