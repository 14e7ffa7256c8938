abbrev cX11_laySlack : ByteArray := prog_13_method_101_code
def yX11_laySlack : MethodName := ⟨RX11, "laySlack", "(I)I"⟩
def zX11_laySlack : Zm := (RX11, cX11_laySlack, 7, (some .int), { frames := 0, cells := 0, slots := 0, locals := 0 })
theorem bk_X11_laySlack_76 : ck_ fX11 (some .int) cX11_laySlack 76 [.iload 6, .iconst 12, .if_icmp .ge 123, .iload 5, .iload 3, .iload 6, .ishr, .iconst 1, .iand, .iconst 1, .if_icmp .ne 113, .iconst 2, .aload 0, .tableswitch 0 11 94 #[], .iconst 12, .iload 4, .imul, .iload 6, .iadd, .iaload, .imul, .goto 114] 113 = true := qck_r (nn_ _) (by decide +kernel)
theorem bs_X11_laySlack_76 {P : Zt → Option Zv → Prop} (K : Int → Zl → List Zv → Zt → Prop) : sx_ K P [.iload 6, .iconst 12, .if_icmp .ge 123, .iload 5, .iload 3, .iload 6, .ishr, .iconst 1, .iand, .iconst 1, .if_icmp .ne 113, .iconst 2, .aload 0, .tableswitch 0 11 94 #[], .iconst 12, .iload 4, .imul, .iload 6, .iadd, .iaload, .imul, .goto 114] 113 = x_iload 6 (x_iconst 12 (x_if_icmp .ge 123 K (x_iload 5 (x_iload 3 (x_iload 6 (x_ishr (x_iconst 1 (x_iand (x_iconst 1 (x_if_icmp .ne 113 K (x_iconst 2 (x_aload 0 (x_g1 111 294 (x_iconst 12 (x_iload 4 (x_imul (x_iload 6 (x_iadd (x_iaload (x_imul (x_goto 114 K))))))))))))))))))))) := ((xe_iload 6).trans (congrArg (x_iload 6) ((xe_iconst 12).trans (congrArg (x_iconst 12) ((xe_if_icmp .ge 123).trans (congrArg (x_if_icmp .ge 123 K) ((xe_iload 5).trans (congrArg (x_iload 5) ((xe_iload 3).trans (congrArg (x_iload 3) ((xe_iload 6).trans (congrArg (x_iload 6) ((xe_ishr).trans (congrArg (x_ishr) ((xe_iconst 1).trans (congrArg (x_iconst 1) ((xe_iand).trans (congrArg (x_iand) ((xe_iconst 1).trans (congrArg (x_iconst 1) ((xe_if_icmp .ne 113).trans (congrArg (x_if_icmp .ne 113 K) ((xe_iconst 2).trans (congrArg (x_iconst 2) ((xe_aload 0).trans (congrArg (x_aload 0) ((xe_g1 (kk := 111) rfl tl_11_94).trans (congrArg (x_g1 111 294) ((xe_iconst 12).trans (congrArg (x_iconst 12) ((xe_iload 4).trans (congrArg (x_iload 4) ((xe_imul).trans (congrArg (x_imul) ((xe_iload 6).trans (congrArg (x_iload 6) ((xe_iadd).trans (congrArg (x_iadd) ((xe_iaload).trans (congrArg (x_iaload) ((xe_imul).trans (congrArg (x_imul) (xe_goto 114)))))))))))))))))))))))))))))))))))))))))))
theorem bk_X11_laySlack_123 : ck_ fX11 (some .int) cX11_laySlack 123 [.aload 0, .tableswitch 0 11 96 #[], .iload 3, .iload 5, .iastore, .iload 2, .ifCond .ne 144, .iload 5, .ifCond .ge 144, .iload 3, .goto 145] 144 = true := qck_r (nn_ _) (by decide +kernel)
theorem bs_X11_laySlack_123 {P : Zt → Option Zv → Prop} (K : Int → Zl → List Zv → Zt → Prop) : sx_ K P [.aload 0, .tableswitch 0 11 96 #[], .iload 3, .iload 5, .iastore, .iload 2, .ifCond .ne 144, .iload 5, .ifCond .ge 144, .iload 3, .goto 145] 144 = x_aload 0 (x_g1 111 296 (x_iload 3 (x_iload 5 (x_iastore (x_iload 2 (x_ifCond .ne 144 K (x_iload 5 (x_ifCond .ge 144 K (x_iload 3 (x_goto 145 K)))))))))) := ((xe_aload 0).trans (congrArg (x_aload 0) ((xe_g1 (kk := 111) rfl tl_11_96).trans (congrArg (x_g1 111 296) ((xe_iload 3).trans (congrArg (x_iload 3) ((xe_iload 5).trans (congrArg (x_iload 5) ((xe_iastore).trans (congrArg (x_iastore) ((xe_iload 2).trans (congrArg (x_iload 2) ((xe_ifCond .ne 144).trans (congrArg (x_ifCond .ne 144 K) ((xe_iload 5).trans (congrArg (x_iload 5) ((xe_ifCond .ge 144).trans (congrArg (x_ifCond .ge 144 K) ((xe_iload 3).trans (congrArg (x_iload 3) (xe_goto 145)))))))))))))))))))))
theorem bk_X11_laySlack_144 : ck_ fX11 (some .int) cX11_laySlack 144 [.iload 2, .istore 2, .iinc 3 1, .goto 11] 152 = true := qck_r (nn_ _) (by decide +kernel)
theorem bs_X11_laySlack_144 {P : Zt → Option Zv → Prop} (K : Int → Zl → List Zv → Zt → Prop) : sx_ K P [.iload 2, .istore 2, .iinc 3 1, .goto 11] 152 = x_iload 2 (x_istore 2 (x_iinc 3 1 (x_goto 11 K))) := ((xe_iload 2).trans (congrArg (x_iload 2) ((xe_istore 2).trans (congrArg (x_istore 2) ((xe_iinc 3 1).trans (congrArg (x_iinc 3 1) (xe_goto 11)))))))
theorem bk_X11_laySlack_145 : ck_ fX11 (some .int) cX11_laySlack 145 [.istore 2, .iinc 3 1, .goto 11] 152 = true := qck_r (nn_ _) (by decide +kernel)
theorem bs_X11_laySlack_145 {P : Zt → Option Zv → Prop} (K : Int → Zl → List Zv → Zt → Prop) : sx_ K P [.istore 2, .iinc 3 1, .goto 11] 152 = x_istore 2 (x_iinc 3 1 (x_goto 11 K)) := ((xe_istore 2).trans (congrArg (x_istore 2) ((xe_iinc 3 1).trans (congrArg (x_iinc 3 1) (xe_goto 11)))))
theorem bk_X11_laySlack_113 : ck_ fX11 (some .int) cX11_laySlack 113 [.iconst 0, .isub, .istore 5, .iinc 6 1, .goto 76] 123 = true := qck_r (nn_ _) (by decide +kernel)
theorem bs_X11_laySlack_113 {P : Zt → Option Zv → Prop} (K : Int → Zl → List Zv → Zt → Prop) : sx_ K P [.iconst 0, .isub, .istore 5, .iinc 6 1, .goto 76] 123 = x_iconst 0 (x_isub (x_istore 5 (x_iinc 6 1 (x_goto 76 K)))) := ((xe_iconst 0).trans (congrArg (x_iconst 0) ((xe_isub).trans (congrArg (x_isub) ((xe_istore 5).trans (congrArg (x_istore 5) ((xe_iinc 6 1).trans (congrArg (x_iinc 6 1) (xe_goto 76)))))))))
theorem bk_X11_laySlack_114 : ck_ fX11 (some .int) cX11_laySlack 114 [.isub, .istore 5, .iinc 6 1, .goto 76] 123 = true := qck_r (nn_ _) (by decide +kernel)
theorem bs_X11_laySlack_114 {P : Zt → Option Zv → Prop} (K : Int → Zl → List Zv → Zt → Prop) : sx_ K P [.isub, .istore 5, .iinc 6 1, .goto 76] 123 = x_isub (x_istore 5 (x_iinc 6 1 (x_goto 76 K))) := ((xe_isub).trans (congrArg (x_isub) ((xe_istore 5).trans (congrArg (x_istore 5) ((xe_iinc 6 1).trans (congrArg (x_iinc 6 1) (xe_goto 76)))))))
theorem bk_X11_laySlack_35 : ck_ fX11 (some .int) cX11_laySlack 35 [.iload 3, .iload 4, .ishr, .iconst 1, .iand, .ifCond .ne 50, .iinc 4 1, .goto 35] 50 = true := qck_r (nn_ _) (by decide +kernel)
theorem bs_X11_laySlack_35 {P : Zt → Option Zv → Prop} (K : Int → Zl → List Zv → Zt → Prop) : sx_ K P [.iload 3, .iload 4, .ishr, .iconst 1, .iand, .ifCond .ne 50, .iinc 4 1, .goto 35] 50 = x_iload 3 (x_iload 4 (x_ishr (x_iconst 1 (x_iand (x_ifCond .ne 50 K (x_iinc 4 1 (x_goto 35 K))))))) := ((xe_iload 3).trans (congrArg (x_iload 3) ((xe_iload 4).trans (congrArg (x_iload 4) ((xe_ishr).trans (congrArg (x_ishr) ((xe_iconst 1).trans (congrArg (x_iconst 1) ((xe_iand).trans (congrArg (x_iand) ((xe_ifCond .ne 50).trans (congrArg (x_ifCond .ne 50 K) ((xe_iinc 4 1).trans (congrArg (x_iinc 4 1) (xe_goto 35)))))))))))))))
theorem bk_X11_laySlack_50 : ck_ fX11 (some .int) cX11_laySlack 50 [.aload 0, .tableswitch 0 11 96 #[], .iload 3, .iload 3, .iconst 1, .isub, .iand, .iaload, .aload 0, .tableswitch 0 11 93 #[], .iload 4, .iaload, .iadd, .istore 5, .iload 4, .iconst 1, .iadd, .istore 6] 76 = true := qck_r (nn_ _) (by decide +kernel)
theorem bs_X11_laySlack_50 {P : Zt → Option Zv → Prop} (K : Int → Zl → List Zv → Zt → Prop) : sx_ K P [.aload 0, .tableswitch 0 11 96 #[], .iload 3, .iload 3, .iconst 1, .isub, .iand, .iaload, .aload 0, .tableswitch 0 11 93 #[], .iload 4, .iaload, .iadd, .istore 5, .iload 4, .iconst 1, .iadd, .istore 6] 76 = x_aload 0 (x_g1 111 296 (x_iload 3 (x_iload 3 (x_iconst 1 (x_isub (x_iand (x_iaload (x_aload 0 (x_g1 111 293 (x_iload 4 (x_iaload (x_iadd (x_istore 5 (x_iload 4 (x_iconst 1 (x_iadd (x_istore 6 (K 76)))))))))))))))))) := ((xe_aload 0).trans (congrArg (x_aload 0) ((xe_g1 (kk := 111) rfl tl_11_96).trans (congrArg (x_g1 111 296) ((xe_iload 3).trans (congrArg (x_iload 3) ((xe_iload 3).trans (congrArg (x_iload 3) ((xe_iconst 1).trans (congrArg (x_iconst 1) ((xe_isub).trans (congrArg (x_isub) ((xe_iand).trans (congrArg (x_iand) ((xe_iaload).trans (congrArg (x_iaload) ((xe_aload 0).trans (congrArg (x_aload 0) ((xe_g1 (kk := 111) rfl tl_11_93).trans (congrArg (x_g1 111 293) ((xe_iload 4).trans (congrArg (x_iload 4) ((xe_iaload).trans (congrArg (x_iaload) ((xe_iadd).trans (congrArg (x_iadd) ((xe_istore 5).trans (congrArg (x_istore 5) ((xe_iload 4).trans (congrArg (x_iload 4) ((xe_iconst 1).trans (congrArg (x_iconst 1) ((xe_iadd).trans (congrArg (x_iadd) ((xe_istore 6).trans (congrArg (x_istore 6) xe_nil))))))))))))))))))))))))))))))))))))
theorem bk_X11_laySlack_11 : ck_ fX11 (some .int) cX11_laySlack 11 [.iload 3, .iconst 4096, .if_icmp .ge 152, .aload 0, .tableswitch 0 11 96 #[], .iload 3, .iconst 0, .iastore, .iload 3, .iload 1, .iand, .iload 3, .if_icmp .ne 146, .iconst 0, .istore 4] 35 = true := qck_r (nn_ _) (by decide +kernel)
theorem bs_X11_laySlack_11 {P : Zt → Option Zv → Prop} (K : Int → Zl → List Zv → Zt → Prop) : sx_ K P [.iload 3, .iconst 4096, .if_icmp .ge 152, .aload 0, .tableswitch 0 11 96 #[], .iload 3, .iconst 0, .iastore, .iload 3, .iload 1, .iand, .iload 3, .if_icmp .ne 146, .iconst 0, .istore 4] 35 = x_iload 3 (x_iconst 4096 (x_if_icmp .ge 152 K (x_aload 0 (x_g1 111 296 (x_iload 3 (x_iconst 0 (x_iastore (x_iload 3 (x_iload 1 (x_iand (x_iload 3 (x_if_icmp .ne 146 K (x_iconst 0 (x_istore 4 (K 35))))))))))))))) := ((xe_iload 3).trans (congrArg (x_iload 3) ((xe_iconst 4096).trans (congrArg (x_iconst 4096) ((xe_if_icmp .ge 152).trans (congrArg (x_if_icmp .ge 152 K) ((xe_aload 0).trans (congrArg (x_aload 0) ((xe_g1 (kk := 111) rfl tl_11_96).trans (congrArg (x_g1 111 296) ((xe_iload 3).trans (congrArg (x_iload 3) ((xe_iconst 0).trans (congrArg (x_iconst 0) ((xe_iastore).trans (congrArg (x_iastore) ((xe_iload 3).trans (congrArg (x_iload 3) ((xe_iload 1).trans (congrArg (x_iload 1) ((xe_iand).trans (congrArg (x_iand) ((xe_iload 3).trans (congrArg (x_iload 3) ((xe_if_icmp .ne 146).trans (congrArg (x_if_icmp .ne 146 K) ((xe_iconst 0).trans (congrArg (x_iconst 0) ((xe_istore 4).trans (congrArg (x_istore 4) xe_nil))))))))))))))))))))))))))))))
theorem bk_X11_laySlack_152 : ck_ fX11 (some .int) cX11_laySlack 152 [.iload 2, .ireturn] 154 = true := qck_r (nn_ _) (by decide +kernel)
theorem bs_X11_laySlack_152 {P : Zt → Option Zv → Prop} (K : Int → Zl → List Zv → Zt → Prop) : sx_ K P [.iload 2, .ireturn] 154 = x_iload 2 (x_ireturn P) := ((xe_iload 2).trans (congrArg (x_iload 2) (xe_ireturn)))
theorem bk_X11_laySlack_146 : ck_ fX11 (some .int) cX11_laySlack 146 [.iinc 3 1, .goto 11] 152 = true := qck_r (nn_ _) (by decide +kernel)
theorem bs_X11_laySlack_146 {P : Zt → Option Zv → Prop} (K : Int → Zl → List Zv → Zt → Prop) : sx_ K P [.iinc 3 1, .goto 11] 152 = x_iinc 3 1 (x_goto 11 K) := ((xe_iinc 3 1).trans (congrArg (x_iinc 3 1) (xe_goto 11)))
theorem bk_X11_laySlack_0 : ck_ fX11 (some .int) cX11_laySlack 0 [.aload 0, .tableswitch 0 11 96 #[], .iconst 0, .iconst 0, .iastore, .iconst 0, .istore 2, .iconst 1, .istore 3] 11 = true := qck_r (nn_ _) (by decide +kernel)
theorem bs_X11_laySlack_0 {P : Zt → Option Zv → Prop} (K : Int → Zl → List Zv → Zt → Prop) : sx_ K P [.aload 0, .tableswitch 0 11 96 #[], .iconst 0, .iconst 0, .iastore, .iconst 0, .istore 2, .iconst 1, .istore 3] 11 = x_aload 0 (x_g1 111 296 (x_iconst 0 (x_iconst 0 (x_iastore (x_iconst 0 (x_istore 2 (x_iconst 1 (x_istore 3 (K 11))))))))) := ((xe_aload 0).trans (congrArg (x_aload 0) ((xe_g1 (kk := 111) rfl tl_11_96).trans (congrArg (x_g1 111 296) ((xe_iconst 0).trans (congrArg (x_iconst 0) ((xe_iconst 0).trans (congrArg (x_iconst 0) ((xe_iastore).trans (congrArg (x_iastore) ((xe_iconst 0).trans (congrArg (x_iconst 0) ((xe_istore 2).trans (congrArg (x_istore 2) ((xe_iconst 1).trans (congrArg (x_iconst 1) ((xe_istore 3).trans (congrArg (x_istore 3) xe_nil))))))))))))))))))
abbrev po_X11_laySlack (T : Zt) (l : List (Nat × Nat)) (o : Int) : Zt → Option Zv → Prop := fun T' r => ∃ x : Int, r = some (vI x) ∧ fr_ [(296, [])] T T' ∧ ((0 ≤ x ∧ x ≤ 4095) ∧ (x = 0 → SVE_ T' o l))
set_option maxHeartbeats 4000000 in
theorem ct_X11_laySlack {T : Zt} {l : List (Nat × Nat)} {o : Int} (hO : 0 ≤ o ∧ o ≤ 4095) (hl : ∀ p ∈ l, p.1 ≠ p.2 ∧ p.1 < 12 ∧ p.2 < 12) (hln : (l.length : Int) ≤ 400) (hbw : BW_ T l) (hsp : ∀ k : Int, 0 ≤ k → k < 12 → -20000000 ≤ T 293 0 k ∧ T 293 0 k ≤ 20000000) : Ct_ yX11_laySlack zX11_laySlack T [vR 111 0, vI o] (po_X11_laySlack T l o) := by
  refine ct_of pn_11 rfl rfl (Nat.le_of_ble_eq_true rfl) (fun hT hav => ?_)
  have hr_o : -2147483648 ≤ o ∧ o ≤ 2147483647 := hav (vI o) (List.mem_cons_of_mem _ List.mem_cons_self)
  have hz : zX11_laySlack.2.2.2.1 = some .boolean → ∀ (T' : Zt) (x : Int), po_X11_laySlack T l o T' (some (vI x)) → 0 ≤ x ∧ x ≤ 1 := fun h => by cases h
  show J_ zX11_laySlack T (po_X11_laySlack T l o) 0 0 0 [some (vR 111 0), some (vI o), none, none, none, none, none] [] T
  have c_11 : ∀ (nn : Nat) (cu : Int) (s : Int) (T1 : Zt), ((4096 - s).toNat) ≤ nn → (fr_ [(296, [])] T T1) → (1 ≤ s ∧ s ≤ 4096 ∧ 0 ≤ cu ∧ cu ≤ 4095) → (SV_ T1 o s l (fun k : Nat => T 293 0 (k : Int))) → (cu = 0 → ∀ t, 0 ≤ t → t < s → an_ t o = t → 0 ≤ T1 296 0 t) → J_ zX11_laySlack T (po_X11_laySlack T l o) 0 0 11 [some (vR 111 0), some (vI o), some (vI cu), some (vI s), none, none, none] [] T1 := by
    intro nn
    induction nn using Nat.strongRecOn with
    | _ nn ih_11 =>
      intro cu s T1 hm_11 hf_11 i1 sv1 nn1
      replace hm_11 := fun (_ : Unit) => hm_11
      have c_35 : ∀ (nn : Nat) (lo : Int) (T2 : Zt), ((12 - lo).toNat) ≤ nn → (fr_ [(296, [])] T1 T2) → (0 ≤ lo ∧ s < 4096) → (an_ s o = s) → (∀ j, j ≠ s → T2 296 0 j = T1 296 0 j) → (∀ j, 0 ≤ j → j < lo → an_ (sr_ s j) 1 = 0) → J_ zX11_laySlack T (po_X11_laySlack T l o) 0 0 35 [some (vR 111 0), some (vI o), some (vI cu), some (vI s), some (vI lo), none, none] [] T2 := by
        intro nn
        induction nn using Nat.strongRecOn with
        | _ nn ih_35 =>
          intro lo T2 hm_35 hf_35 j1 hsub e2 lo1
          replace hm_35 := fun (_ : Unit) => hm_35
          have hl12 := lo_lt (by omega) (by omega) lo1
          have c_76 : ∀ (nn : Nat) (u : Int) (k : Int), ((12 - k).toNat) ≤ nn → (lo + 1 ≤ k ∧ k ≤ 12) → (an_ (sr_ s lo) 1 ≠ 0) → (u = vs_ (fun k : Nat => T 293 0 (k : Int)) l (s.toNat &&& (s.toNat - 1)) + T 293 0 lo - 2 * su_ (fun k => cb_ lo.toNat k l) s.toNat (lo.toNat + 1) k.toNat) → J_ zX11_laySlack T (po_X11_laySlack T l o) 0 0 76 [some (vR 111 0), some (vI o), some (vI cu), some (vI s), some (vI lo), some (vI u), some (vI k)] [] T2 := by
            intro nn
            induction nn using Nat.strongRecOn with
            | _ nn ih_76 =>
              intro u k hm_76 k1 nz sm
              replace hm_76 := fun (_ : Unit) => hm_76
              have ha1 := an_1 (s := s) (by omega)
              have hb1 := bt_n (x := s) (k := lo) (by omega) (by omega)
              have hb2 := bt_01 s.toNat lo.toNat
              have hlow := vs_low (f := (fun k : Nat => T 293 0 (k : Int))) (l := l) (s := s.toNat) (lo := lo.toNat) (by omega) (fun j hj => by have := lo1 (j : Int) (by omega) (by omega); rw [bt_n (by omega) (by omega), Int.toNat_natCast] at this; exact this) (by omega) hl
              have hvb := vs_b (f := (fun k : Nat => T 293 0 (k : Int))) (l := l) (F := 20000000) (by decide) (fun k hk => hsp (k : Int) (by omega) (by omega)) (s.toNat &&& (s.toNat - 1))
              have hva := (e2 (an_ s (s - 1)) (by omega)).trans (sv1 (an_ s (s - 1)) (by omega) (by omega) (an_2 hO (by omega) hsub))
              rw [show (an_ s (s - 1)).toNat = s.toNat &&& (s.toNat - 1) by omega] at hva
              rw [show ((lo.toNat : Nat) : Int) = lo by omega] at hlow
              have hs9 := hsp lo (by omega) (by omega)
              refine j_blx (F := fX11) tb_X11 (nn_ _) bk_X11_laySlack_76 bs_X11_laySlack_76 hz (fun K hK => ?_)
              refine And.intro (fun c1 => ?_) (fun c1 => ?_)
              · have hsum : u = vs_ (fun k : Nat => T 293 0 (k : Int)) l (s.toNat &&& (s.toNat - 1)) + T 293 0 lo - 2 * su_ (fun k => cb_ lo.toNat k l) s.toNat (lo.toNat + 1) 12 := by rw [sm, show k = 12 by omega]; rfl
                have hvb2 := vs_b (f := (fun k : Nat => T 293 0 (k : Int))) (l := l) (F := 20000000) (by decide) (fun k hk => hsp (k : Int) (by omega) (by omega)) s.toNat
                refine hK 123 _ [] T2 ?_
                refine j_blx (F := fX11) tb_X11 (nn_ _) bk_X11_laySlack_123 bs_X11_laySlack_123 hz (fun K hK => ?_)
                refine iy_i (by omega) (by omega) ?_
                refine x_nm (fun U2 hU2 => ?_)
                have e3 := up_f hU2
                refine And.intro (fun c4 => ?_) (fun c4 => ?_)
                · refine hK 144 _ [] U2 ?_
                  refine j_blx (F := fX11) tb_X11 (nn_ _) bk_X11_laySlack_144 bs_X11_laySlack_144 hz (fun K hK => ?_)
                  refine rg_i (by omega) ?_
                  refine hK 11 [some (vR 111 0), some (vI o), some (vI cu), some (vI (s + 1)), some (vI lo), some (vI u), some (vI k)] [] U2 ?_
                  refine j_drop [some (vR 111 0), some (vI o), some (vI cu), some (vI (s + 1)), none, none, none] (fun k v hk => ?_) rfl ?_
                  · match k, hk with
                    | 0, hk => exact hk
                    | 1, hk => exact hk
                    | 2, hk => exact hk
                    | 3, hk => exact hk
                    | 4, hk => cases hk
                    | 5, hk => cases hk
                    | 6, hk => cases hk
                    | k + 7, hk => cases hk
                  refine ih_11 _ ?_ cu (s + 1) U2 (Nat.le_refl _) ?_ ?_ ?_ ?_
                  · have hm_11 := hm_11 (); omega
                  · exact fr_u (fr_t (fr_t (fr_0 _ _) (fr_s hf_11 rfl)) (fr_s hf_35 rfl)) hU2 rfl
                  · omega
                  · intro t a b d
                    by_cases z : t = s
                    · rw [z, up_f hU2, hsum]
                      exact hlow.symm
                    · exact (up_g hU2 (fun q => z q.2.2)).trans ((e2 t z).trans (sv1 t a (by omega) d))
                  · intro h9 t a b d
                    by_cases z : t = s
                    · rw [z, up_f hU2]; omega
                    · rw [up_g hU2 (fun q => z q.2.2), e2 t z]; exact nn1 (by omega) t a (by omega) d
                · refine And.intro (fun c5 => ?_) (fun c5 => ?_)
                  · refine hK 144 [some (vR 111 0), some (vI o), some (vI cu), some (vI s), some (vI lo), some (vI u), some (vI k)] [] U2 ?_
                    refine j_blx (F := fX11) tb_X11 (nn_ _) bk_X11_laySlack_144 bs_X11_laySlack_144 hz (fun K hK => ?_)
                    refine rg_i (by omega) ?_
                    refine hK 11 [some (vR 111 0), some (vI o), some (vI cu), some (vI (s + 1)), some (vI lo), some (vI u), some (vI k)] [] U2 ?_
                    refine j_drop [some (vR 111 0), some (vI o), some (vI cu), some (vI (s + 1)), none, none, none] (fun k v hk => ?_) rfl ?_
                    · match k, hk with
                      | 0, hk => exact hk
                      | 1, hk => exact hk
                      | 2, hk => exact hk
                      | 3, hk => exact hk
                      | 4, hk => cases hk
                      | 5, hk => cases hk
                      | 6, hk => cases hk
                      | k + 7, hk => cases hk
                    refine ih_11 _ ?_ cu (s + 1) U2 (Nat.le_refl _) ?_ ?_ ?_ ?_
                    · have hm_11 := hm_11 (); omega
                    · exact fr_u (fr_t (fr_t (fr_0 _ _) (fr_s hf_11 rfl)) (fr_s hf_35 rfl)) hU2 rfl
                    · omega
                    · intro t a b d
                      by_cases z : t = s
                      · rw [z, up_f hU2, hsum]
                        exact hlow.symm
                      · exact (up_g hU2 (fun q => z q.2.2)).trans ((e2 t z).trans (sv1 t a (by omega) d))
                    · intro h9 t a b d
                      by_cases z : t = s
                      · rw [z, up_f hU2]; omega
                      · rw [up_g hU2 (fun q => z q.2.2), e2 t z]; exact nn1 (by omega) t a (by omega) d
                  · refine hK 145 [some (vR 111 0), some (vI o), some (vI cu), some (vI s), some (vI lo), some (vI u), some (vI k)] [vI s] U2 ?_
                    refine j_blx (F := fX11) tb_X11 (nn_ _) bk_X11_laySlack_145 bs_X11_laySlack_145 hz (fun K hK => ?_)
                    refine rg_i (by omega) ?_
                    refine hK 11 [some (vR 111 0), some (vI o), some (vI s), some (vI (s + 1)), some (vI lo), some (vI u), some (vI k)] [] U2 ?_
                    refine j_drop [some (vR 111 0), some (vI o), some (vI s), some (vI (s + 1)), none, none, none] (fun k v hk => ?_) rfl ?_
                    · match k, hk with
                      | 0, hk => exact hk
                      | 1, hk => exact hk
                      | 2, hk => exact hk
                      | 3, hk => exact hk
                      | 4, hk => cases hk
                      | 5, hk => cases hk
                      | 6, hk => cases hk
                      | k + 7, hk => cases hk
                    refine ih_11 _ ?_ s (s + 1) U2 (Nat.le_refl _) ?_ ?_ ?_ ?_
                    · have hm_11 := hm_11 (); omega
                    · exact fr_u (fr_t (fr_t (fr_0 _ _) (fr_s hf_11 rfl)) (fr_s hf_35 rfl)) hU2 rfl
                    · omega
                    · intro t a b d
                      by_cases z : t = s
                      · rw [z, up_f hU2, hsum]
                        exact hlow.symm
                      · exact (up_g hU2 (fun q => z q.2.2)).trans ((e2 t z).trans (sv1 t a (by omega) d))
                    · intro h9 t a b d
                      by_cases z : t = s
                      · rw [z, up_f hU2]; omega
                      · rw [up_g hU2 (fun q => z q.2.2), e2 t z]; exact nn1 (by omega) t a (by omega) d
              · have hbk := bt_n (x := s) (k := k) (by omega) (by omega)
                have hb3 := bt_01 s.toNat k.toNat
                rw [← hbk] at hb3
                have hwb := hbw lo k (by omega) (by omega) (by omega) (by omega) (by omega)
                have hcb := cb_b lo.toNat k.toNat l
                have hsu := su_b (g := fun k => cb_ lo.toNat k l) (s := s.toNat) (lo := lo.toNat + 1) (B := 400) (by decide) (fun k => by have := cb_b lo.toNat k l; omega) k.toNat
                have hkt : ((k.toNat : Nat) : Int) * 400 ≤ 4800 := by omega
                intro w6 w6b
                intro w7 w7b
                refine And.intro (fun c8 => ?_) (fun c8 => ?_)
                · refine hK 113 _ [vI u] T2 ?_
                  refine j_blx (F := fX11) tb_X11 (nn_ _) bk_X11_laySlack_113 bs_X11_laySlack_113 hz (fun K hK => ?_)
                  refine rg_i (by omega) ?_
                  refine rg_i (by omega) ?_
                  refine hK 76 [some (vR 111 0), some (vI o), some (vI cu), some (vI s), some (vI lo), some (vI (u - 0)), some (vI (k + 1))] [] T2 ?_
                  refine ih_76 _ ?_ (u - 0) (k + 1) (Nat.le_refl _) ?_ ?_ ?_
                  · have hm_76 := hm_76 (); omega
                  · omega
                  · first
                    | exact nz
                    | omega
                  · rw [show (k + 1).toNat = k.toNat + 1 by omega]
                    show _ = _ - 2 * (su_ _ _ _ _ + _)
                    rw [if_pos (by omega), ← hbk]
                    dsimp only
                    first
                    | (rw [hcm, hwb]; omega)
                    | (rw [show an_ (sr_ s k) 1 = 0 by omega]; omega)
                · have hcm : an_ (sr_ s k) 1 = 1 := by omega
                  refine rg_i (by omega) ?_
                  refine rg_i (by omega) ?_
                  refine ix_i (by omega) ?_
                  intro b9 b9b
                  have e10 : T2 294 0 ((12 * lo) + k) = T 294 0 ((12 * lo) + k) := (hf_35 294 0 ((12 * lo) + k) rfl).trans (hf_11 294 0 ((12 * lo) + k) rfl)
                  rw [e10] at b9 b9b ⊢
                  refine rg_i (by omega) ?_
                  refine hK 114 [some (vR 111 0), some (vI o), some (vI cu), some (vI s), some (vI lo), some (vI u), some (vI k)] [vI (2 * (T 294 0 ((12 * lo) + k))), vI u] T2 ?_
                  refine j_blx (F := fX11) tb_X11 (nn_ _) bk_X11_laySlack_114 bs_X11_laySlack_114 hz (fun K hK => ?_)
                  refine rg_i (by omega) ?_
                  refine rg_i (by omega) ?_
                  refine hK 76 [some (vR 111 0), some (vI o), some (vI cu), some (vI s), some (vI lo), some (vI (u - (2 * (T 294 0 ((12 * lo) + k))))), some (vI (k + 1))] [] T2 ?_
                  refine ih_76 _ ?_ (u - (2 * (T 294 0 ((12 * lo) + k)))) (k + 1) (Nat.le_refl _) ?_ ?_ ?_
                  · have hm_76 := hm_76 (); omega
                  · omega
                  · first
                    | exact nz
                    | omega
                  · rw [show (k + 1).toNat = k.toNat + 1 by omega]
                    show _ = _ - 2 * (su_ _ _ _ _ + _)
                    rw [if_pos (by omega), ← hbk]
                    dsimp only
                    first
                    | (rw [hcm, hwb]; omega)
                    | (rw [show an_ (sr_ s k) 1 = 0 by omega]; omega)
          refine j_blx (F := fX11) tb_X11 (nn_ _) bk_X11_laySlack_35 bs_X11_laySlack_35 hz (fun K hK => ?_)
          intro w11 w11b
          intro w12 w12b
          refine And.intro (fun c13 => ?_) (fun c13 => ?_)
          · refine hK 50 _ [] T2 ?_
            have ha1 := an_1 (s := s) (by omega)
            have hb1 := bt_n (x := s) (k := lo) (by omega) (by omega)
            have hb2 := bt_01 s.toNat lo.toNat
            have hlow := vs_low (f := (fun k : Nat => T 293 0 (k : Int))) (l := l) (s := s.toNat) (lo := lo.toNat) (by omega) (fun j hj => by have := lo1 (j : Int) (by omega) (by omega); rw [bt_n (by omega) (by omega), Int.toNat_natCast] at this; exact this) (by omega) hl
            have hvb := vs_b (f := (fun k : Nat => T 293 0 (k : Int))) (l := l) (F := 20000000) (by decide) (fun k hk => hsp (k : Int) (by omega) (by omega)) (s.toNat &&& (s.toNat - 1))
            have hva := (e2 (an_ s (s - 1)) (by omega)).trans (sv1 (an_ s (s - 1)) (by omega) (by omega) (an_2 hO (by omega) hsub))
            rw [show (an_ s (s - 1)).toNat = s.toNat &&& (s.toNat - 1) by omega] at hva
            rw [show ((lo.toNat : Nat) : Int) = lo by omega] at hlow
            have hs9 := hsp lo (by omega) (by omega)
            refine j_blx (F := fX11) tb_X11 (nn_ _) bk_X11_laySlack_50 bs_X11_laySlack_50 hz (fun K hK => ?_)
            refine rg_i (by omega) ?_
            intro w14 w14b
            refine ix_i (by omega) ?_
            intro b15 b15b
            refine ix_i (by omega) ?_
            intro b16 b16b
            have e17 : T2 293 0 lo = T 293 0 lo := (hf_35 293 0 lo rfl).trans (hf_11 293 0 lo rfl)
            rw [e17] at b16 b16b ⊢
            refine rg_i (by omega) ?_
            refine rg_i (by omega) ?_
            refine hK 76 [some (vR 111 0), some (vI o), some (vI cu), some (vI s), some (vI lo), some (vI ((T2 296 0 (an_ s (s - 1))) + (T 293 0 lo))), some (vI (lo + 1))] [] T2 ?_
            refine c_76 _ ((T2 296 0 (an_ s (s - 1))) + (T 293 0 lo)) (lo + 1) (Nat.le_refl _) ?_ ?_ ?_
            · omega
            · first
              | exact nz
              | omega
            · rw [su_n _ (by omega), hva]; omega
          · refine rg_i (by omega) ?_
            refine hK 35 [some (vR 111 0), some (vI o), some (vI cu), some (vI s), some (vI (lo + 1)), none, none] [] T2 ?_
            refine ih_35 _ ?_ (lo + 1) T2 (Nat.le_refl _) ?_ ?_ ?_ ?_ ?_
            · have hm_35 := hm_35 (); omega
            · exact fr_t (fr_0 _ _) (fr_s hf_35 rfl)
            · omega
            · first
              | exact hsub
              | omega
            · exact e2
            · intro j a b
              by_cases z : j = lo
              · rw [z]; omega
              · exact lo1 j a (by omega)
      refine j_blx (F := fX11) tb_X11 (nn_ _) bk_X11_laySlack_11 bs_X11_laySlack_11 hz (fun K hK => ?_)
      refine And.intro (fun c18 => ?_) (fun c18 => ?_)
      · refine hK 152 _ [] T1 ?_
        refine j_blx (F := fX11) tb_X11 (nn_ _) bk_X11_laySlack_152 bs_X11_laySlack_152 hz (fun K hK => ?_)
        refine (show po_X11_laySlack T l o T1 (some (vI cu)) from ?_)
        refine ⟨_, rfl, fr_t (fr_0 _ _) (fr_s hf_11 rfl), by omega, fun z => ⟨(fun k : Nat => T 293 0 (k : Int)), fun t a b d => ⟨sv1 t a (by omega) d, nn1 z t a (by omega) d, ?_⟩⟩⟩
        rw [sv1 t a (by omega) d]
        have hvb := vs_b (f := (fun k : Nat => T 293 0 (k : Int))) (l := l) (F := 20000000) (by decide) (fun k hk => hsp (k : Int) (by omega) (by omega)) t.toNat
        omega
      · refine iy_i (by omega) (by omega) ?_
        refine x_nm (fun U19 hU19 => ?_)
        have e20 := up_f hU19
        intro w21 w21b
        refine And.intro (fun c22 => ?_) (fun c22 => ?_)
        · refine hK 146 _ [] U19 ?_
          refine j_blx (F := fX11) tb_X11 (nn_ _) bk_X11_laySlack_146 bs_X11_laySlack_146 hz (fun K hK => ?_)
          refine rg_i (by omega) ?_
          refine hK 11 [some (vR 111 0), some (vI o), some (vI cu), some (vI (s + 1)), none, none, none] [] U19 ?_
          refine ih_11 _ ?_ cu (s + 1) U19 (Nat.le_refl _) ?_ ?_ ?_ ?_
          · have hm_11 := hm_11 (); omega
          · exact fr_u (fr_t (fr_0 _ _) (fr_s hf_11 rfl)) hU19 rfl
          · omega
          · intro t a b d
            by_cases z : t = s
            · exact absurd (z ▸ d) (by omega)
            · exact (up_g hU19 (fun q => z q.2.2)).trans (sv1 t a (by omega) d)
          · intro h9 t a b d
            by_cases z : t = s
            · exact absurd (z ▸ d) (by omega)
            · rw [up_g hU19 (fun q => z q.2.2)]; exact nn1 h9 t a (by omega) d
        · refine hK 35 [some (vR 111 0), some (vI o), some (vI cu), some (vI s), some (vI 0), none, none] [] U19 ?_
          refine c_35 _ 0 U19 (Nat.le_refl _) ?_ ?_ ?_ ?_ ?_
          · exact fr_u (fr_0 _ _) hU19 rfl
          · omega
          · first
            | exact hsub
            | omega
          · exact fun j hj => up_g hU19 (fun q => hj q.2.2)
          · intro j a b; omega
  refine j_blx (F := fX11) tb_X11 (nn_ _) bk_X11_laySlack_0 bs_X11_laySlack_0 hz (fun K hK => ?_)
  refine iy_i (by omega) (by omega) ?_
  refine x_nm (fun U23 hU23 => ?_)
  have e24 := up_f hU23
  refine hK 11 [some (vR 111 0), some (vI o), some (vI 0), some (vI 1), none, none, none] [] U23 ?_
  refine c_11 _ 0 1 U23 (Nat.le_refl _) ?_ ?_ ?_ ?_
  · exact fr_u (fr_0 _ _) hU23 rfl
  · omega
  · intro t a b _
    rw [show t = 0 by omega]
    exact (up_f hU23).trans (vs_0 _ _).symm
  · intro _ t a b _
    rw [show t = 0 by omega, up_f hU23]; decide
