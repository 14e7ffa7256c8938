theorem bk_X11_turnSides_e_0 : ck_ fX11 none cX11_turnSides 0 [.aload 0, .iload 1, .iconst 3, .iconst 0] 4 = true := qck_r (nn_ _) (by decide +kernel)
theorem bs_X11_turnSides_e_0 {P : Zt → Option Zv → Prop} (K : Int → Zl → List Zv → Zt → Prop) : sx_ K P [.aload 0, .iload 1, .iconst 3, .iconst 0] 4 = x_aload 0 (x_iload 1 (x_iconst 3 (x_iconst 0 (K 4)))) := ((xe_aload 0).trans (congrArg (x_aload 0) ((xe_iload 1).trans (congrArg (x_iload 1) ((xe_iconst 3).trans (congrArg (x_iconst 3) ((xe_iconst 0).trans (congrArg (x_iconst 0) xe_nil))))))))
theorem bk_X11_turnSides_e_7 : ck_ fX11 none cX11_turnSides 7 [.aload 0, .iload 1, .iconst 4, .iconst 0] 11 = true := qck_r (nn_ _) (by decide +kernel)
theorem bs_X11_turnSides_e_7 {P : Zt → Option Zv → Prop} (K : Int → Zl → List Zv → Zt → Prop) : sx_ K P [.aload 0, .iload 1, .iconst 4, .iconst 0] 11 = x_aload 0 (x_iload 1 (x_iconst 4 (x_iconst 0 (K 11)))) := ((xe_aload 0).trans (congrArg (x_aload 0) ((xe_iload 1).trans (congrArg (x_iload 1) ((xe_iconst 4).trans (congrArg (x_iconst 4) ((xe_iconst 0).trans (congrArg (x_iconst 0) xe_nil))))))))
theorem bk_X11_turnSides_e_14 : ck_ fX11 none cX11_turnSides 14 [.aload 0, .aload 0, .tableswitch 0 11 30 #[], .iload 1, .iaload, .iconst 11] 23 = true := qck_r (nn_ _) (by decide +kernel)
theorem bs_X11_turnSides_e_14 {P : Zt → Option Zv → Prop} (K : Int → Zl → List Zv → Zt → Prop) : sx_ K P [.aload 0, .aload 0, .tableswitch 0 11 30 #[], .iload 1, .iaload, .iconst 11] 23 = x_aload 0 (x_aload 0 (x_g1 111 230 (x_iload 1 (x_iaload (x_iconst 11 (K 23)))))) := ((xe_aload 0).trans (congrArg (x_aload 0) ((xe_aload 0).trans (congrArg (x_aload 0) ((xe_g1 (kk := 111) rfl tl_11_30).trans (congrArg (x_g1 111 230) ((xe_iload 1).trans (congrArg (x_iload 1) ((xe_iaload).trans (congrArg (x_iaload) ((xe_iconst 11).trans (congrArg (x_iconst 11) xe_nil))))))))))))
theorem bk_X11_turnSides_e_26 : ck_ fX11 none cX11_turnSides 26 [.iconst 1, .fsub, .istore 2, .aload 0, .iload 1, .iconst 0] 32 = true := qck_r (nn_ _) (by decide +kernel)
theorem bs_X11_turnSides_e_26 {P : Zt → Option Zv → Prop} (K : Int → Zl → List Zv → Zt → Prop) : sx_ K P [.iconst 1, .fsub, .istore 2, .aload 0, .iload 1, .iconst 0] 32 = x_iconst 1 (x_fsub (x_istore 2 (x_aload 0 (x_iload 1 (x_iconst 0 (K 32)))))) := ((xe_iconst 1).trans (congrArg (x_iconst 1) ((xe_fsub).trans (congrArg (x_fsub) ((xe_istore 2).trans (congrArg (x_istore 2) ((xe_aload 0).trans (congrArg (x_aload 0) ((xe_iload 1).trans (congrArg (x_iload 1) ((xe_iconst 0).trans (congrArg (x_iconst 0) xe_nil))))))))))))
theorem bk_X11_turnSides_e_35 : ck_ fX11 none cX11_turnSides 35 [.istore 3, .aload 0, .iload 1, .iconst 5] 39 = true := qck_r (nn_ _) (by decide +kernel)
theorem bs_X11_turnSides_e_35 {P : Zt → Option Zv → Prop} (K : Int → Zl → List Zv → Zt → Prop) : sx_ K P [.istore 3, .aload 0, .iload 1, .iconst 5] 39 = x_istore 3 (x_aload 0 (x_iload 1 (x_iconst 5 (K 39)))) := ((xe_istore 3).trans (congrArg (x_istore 3) ((xe_aload 0).trans (congrArg (x_aload 0) ((xe_iload 1).trans (congrArg (x_iload 1) ((xe_iconst 5).trans (congrArg (x_iconst 5) xe_nil))))))))
theorem bk_X11_turnSides_e_42 : ck_ fX11 none cX11_turnSides 42 [.iconst 1, .if_icmp .ne 86, .iload 3, .iload 2, .if_icmp .lt 76, .aload 0, .tableswitch 0 11 36 #[], .iload 1, .iaload, .aload 0, .tableswitch 0 11 37 #[], .iload 1, .iaload, .if_icmp .le 76, .aload 0, .tableswitch 0 11 35 #[], .iload 1, .iconst 2, .iastore, .goto 140] 76 = true := qck_r (nn_ _) (by decide +kernel)
theorem bs_X11_turnSides_e_42 {P : Zt → Option Zv → Prop} (K : Int → Zl → List Zv → Zt → Prop) : sx_ K P [.iconst 1, .if_icmp .ne 86, .iload 3, .iload 2, .if_icmp .lt 76, .aload 0, .tableswitch 0 11 36 #[], .iload 1, .iaload, .aload 0, .tableswitch 0 11 37 #[], .iload 1, .iaload, .if_icmp .le 76, .aload 0, .tableswitch 0 11 35 #[], .iload 1, .iconst 2, .iastore, .goto 140] 76 = x_iconst 1 (x_if_icmp .ne 86 K (x_iload 3 (x_iload 2 (x_if_icmp .lt 76 K (x_aload 0 (x_g1 111 236 (x_iload 1 (x_iaload (x_aload 0 (x_g1 111 237 (x_iload 1 (x_iaload (x_if_icmp .le 76 K (x_aload 0 (x_g1 111 235 (x_iload 1 (x_iconst 2 (x_iastore (x_goto 140 K))))))))))))))))))) := ((xe_iconst 1).trans (congrArg (x_iconst 1) ((xe_if_icmp .ne 86).trans (congrArg (x_if_icmp .ne 86 K) ((xe_iload 3).trans (congrArg (x_iload 3) ((xe_iload 2).trans (congrArg (x_iload 2) ((xe_if_icmp .lt 76).trans (congrArg (x_if_icmp .lt 76 K) ((xe_aload 0).trans (congrArg (x_aload 0) ((xe_g1 (kk := 111) rfl tl_11_36).trans (congrArg (x_g1 111 236) ((xe_iload 1).trans (congrArg (x_iload 1) ((xe_iaload).trans (congrArg (x_iaload) ((xe_aload 0).trans (congrArg (x_aload 0) ((xe_g1 (kk := 111) rfl tl_11_37).trans (congrArg (x_g1 111 237) ((xe_iload 1).trans (congrArg (x_iload 1) ((xe_iaload).trans (congrArg (x_iaload) ((xe_if_icmp .le 76).trans (congrArg (x_if_icmp .le 76 K) ((xe_aload 0).trans (congrArg (x_aload 0) ((xe_g1 (kk := 111) rfl tl_11_35).trans (congrArg (x_g1 111 235) ((xe_iload 1).trans (congrArg (x_iload 1) ((xe_iconst 2).trans (congrArg (x_iconst 2) ((xe_iastore).trans (congrArg (x_iastore) (xe_goto 140)))))))))))))))))))))))))))))))))))))))
theorem bk_X11_turnSides_e_86 : ck_ fX11 none cX11_turnSides 86 [.iload 3, .iload 2, .if_icmp .lt 106, .aload 0, .tableswitch 0 11 36 #[], .iload 1, .iaload, .aload 0, .tableswitch 0 11 37 #[], .iload 1, .iaload, .if_icmp .ne 114, .iload 3, .iload 2, .iconst 20, .fadd, .if_icmp .ne 124, .aload 0, .tableswitch 0 11 35 #[], .iload 1, .iconst 2, .iastore, .goto 140] 124 = true := qck_r (nn_ _) (by decide +kernel)
theorem bs_X11_turnSides_e_86 {P : Zt → Option Zv → Prop} (K : Int → Zl → List Zv → Zt → Prop) : sx_ K P [.iload 3, .iload 2, .if_icmp .lt 106, .aload 0, .tableswitch 0 11 36 #[], .iload 1, .iaload, .aload 0, .tableswitch 0 11 37 #[], .iload 1, .iaload, .if_icmp .ne 114, .iload 3, .iload 2, .iconst 20, .fadd, .if_icmp .ne 124, .aload 0, .tableswitch 0 11 35 #[], .iload 1, .iconst 2, .iastore, .goto 140] 124 = x_iload 3 (x_iload 2 (x_if_icmp .lt 106 K (x_aload 0 (x_g1 111 236 (x_iload 1 (x_iaload (x_aload 0 (x_g1 111 237 (x_iload 1 (x_iaload (x_if_icmp .ne 114 K (x_iload 3 (x_iload 2 (x_iconst 20 (x_fadd (x_if_icmp .ne 124 K (x_aload 0 (x_g1 111 235 (x_iload 1 (x_iconst 2 (x_iastore (x_goto 140 K)))))))))))))))))))))) := ((xe_iload 3).trans (congrArg (x_iload 3) ((xe_iload 2).trans (congrArg (x_iload 2) ((xe_if_icmp .lt 106).trans (congrArg (x_if_icmp .lt 106 K) ((xe_aload 0).trans (congrArg (x_aload 0) ((xe_g1 (kk := 111) rfl tl_11_36).trans (congrArg (x_g1 111 236) ((xe_iload 1).trans (congrArg (x_iload 1) ((xe_iaload).trans (congrArg (x_iaload) ((xe_aload 0).trans (congrArg (x_aload 0) ((xe_g1 (kk := 111) rfl tl_11_37).trans (congrArg (x_g1 111 237) ((xe_iload 1).trans (congrArg (x_iload 1) ((xe_iaload).trans (congrArg (x_iaload) ((xe_if_icmp .ne 114).trans (congrArg (x_if_icmp .ne 114 K) ((xe_iload 3).trans (congrArg (x_iload 3) ((xe_iload 2).trans (congrArg (x_iload 2) ((xe_iconst 20).trans (congrArg (x_iconst 20) ((xe_fadd).trans (congrArg (x_fadd) ((xe_if_icmp .ne 124).trans (congrArg (x_if_icmp .ne 124 K) ((xe_aload 0).trans (congrArg (x_aload 0) ((xe_g1 (kk := 111) rfl tl_11_35).trans (congrArg (x_g1 111 235) ((xe_iload 1).trans (congrArg (x_iload 1) ((xe_iconst 2).trans (congrArg (x_iconst 2) ((xe_iastore).trans (congrArg (x_iastore) (xe_goto 140)))))))))))))))))))))))))))))))))))))))))))))
theorem bk_X11_turnSides_e_106 : ck_ fX11 none cX11_turnSides 106 [.iload 3, .iload 2, .iconst 20, .fadd, .if_icmp .ne 124, .aload 0, .tableswitch 0 11 35 #[], .iload 1, .iconst 2, .iastore, .goto 140] 124 = true := qck_r (nn_ _) (by decide +kernel)
theorem bs_X11_turnSides_e_106 {P : Zt → Option Zv → Prop} (K : Int → Zl → List Zv → Zt → Prop) : sx_ K P [.iload 3, .iload 2, .iconst 20, .fadd, .if_icmp .ne 124, .aload 0, .tableswitch 0 11 35 #[], .iload 1, .iconst 2, .iastore, .goto 140] 124 = x_iload 3 (x_iload 2 (x_iconst 20 (x_fadd (x_if_icmp .ne 124 K (x_aload 0 (x_g1 111 235 (x_iload 1 (x_iconst 2 (x_iastore (x_goto 140 K)))))))))) := ((xe_iload 3).trans (congrArg (x_iload 3) ((xe_iload 2).trans (congrArg (x_iload 2) ((xe_iconst 20).trans (congrArg (x_iconst 20) ((xe_fadd).trans (congrArg (x_fadd) ((xe_if_icmp .ne 124).trans (congrArg (x_if_icmp .ne 124 K) ((xe_aload 0).trans (congrArg (x_aload 0) ((xe_g1 (kk := 111) rfl tl_11_35).trans (congrArg (x_g1 111 235) ((xe_iload 1).trans (congrArg (x_iload 1) ((xe_iconst 2).trans (congrArg (x_iconst 2) ((xe_iastore).trans (congrArg (x_iastore) (xe_goto 140)))))))))))))))))))))
theorem bk_X11_turnSides_e_124 : ck_ fX11 none cX11_turnSides 124 [.aload 0, .iload 1, .iconst 0, .iload 3, .iconst 1, .fadd] 130 = true := qck_r (nn_ _) (by decide +kernel)
theorem bs_X11_turnSides_e_124 {P : Zt → Option Zv → Prop} (K : Int → Zl → List Zv → Zt → Prop) : sx_ K P [.aload 0, .iload 1, .iconst 0, .iload 3, .iconst 1, .fadd] 130 = x_aload 0 (x_iload 1 (x_iconst 0 (x_iload 3 (x_iconst 1 (x_fadd (K 130)))))) := ((xe_aload 0).trans (congrArg (x_aload 0) ((xe_iload 1).trans (congrArg (x_iload 1) ((xe_iconst 0).trans (congrArg (x_iconst 0) ((xe_iload 3).trans (congrArg (x_iload 3) ((xe_iconst 1).trans (congrArg (x_iconst 1) ((xe_fadd).trans (congrArg (x_fadd) xe_nil))))))))))))
theorem bk_X11_turnSides_e_133 : ck_ fX11 none cX11_turnSides 133 [.aload 0, .iload 1, .iconst 5, .iconst 1] 137 = true := qck_r (nn_ _) (by decide +kernel)
theorem bs_X11_turnSides_e_133 {P : Zt → Option Zv → Prop} (K : Int → Zl → List Zv → Zt → Prop) : sx_ K P [.aload 0, .iload 1, .iconst 5, .iconst 1] 137 = x_aload 0 (x_iload 1 (x_iconst 5 (x_iconst 1 (K 137)))) := ((xe_aload 0).trans (congrArg (x_aload 0) ((xe_iload 1).trans (congrArg (x_iload 1) ((xe_iconst 5).trans (congrArg (x_iconst 5) ((xe_iconst 1).trans (congrArg (x_iconst 1) xe_nil))))))))
theorem bk_X11_turnSides_e_140 : ck_ fX11 none cX11_turnSides 140 [.return_] 141 = true := qck_r (nn_ _) (by decide +kernel)
theorem bs_X11_turnSides_e_140 {P : Zt → Option Zv → Prop} (K : Int → Zl → List Zv → Zt → Prop) : sx_ K P [.return_] 141 = x_return_ P := (xe_return_)
theorem bk_X11_turnSides_e_114 : ck_ fX11 none cX11_turnSides 114 [.aload 0, .tableswitch 0 11 35 #[], .iload 1, .iconst 2, .iastore, .goto 140] 124 = true := qck_r (nn_ _) (by decide +kernel)
theorem bs_X11_turnSides_e_114 {P : Zt → Option Zv → Prop} (K : Int → Zl → List Zv → Zt → Prop) : sx_ K P [.aload 0, .tableswitch 0 11 35 #[], .iload 1, .iconst 2, .iastore, .goto 140] 124 = x_aload 0 (x_g1 111 235 (x_iload 1 (x_iconst 2 (x_iastore (x_goto 140 K))))) := ((xe_aload 0).trans (congrArg (x_aload 0) ((xe_g1 (kk := 111) rfl tl_11_35).trans (congrArg (x_g1 111 235) ((xe_iload 1).trans (congrArg (x_iload 1) ((xe_iconst 2).trans (congrArg (x_iconst 2) ((xe_iastore).trans (congrArg (x_iastore) (xe_goto 140)))))))))))
theorem bk_X11_turnSides_e_76 : ck_ fX11 none cX11_turnSides 76 [.aload 0, .iload 1, .iconst 5, .iconst 0] 80 = true := qck_r (nn_ _) (by decide +kernel)
theorem bs_X11_turnSides_e_76 {P : Zt → Option Zv → Prop} (K : Int → Zl → List Zv → Zt → Prop) : sx_ K P [.aload 0, .iload 1, .iconst 5, .iconst 0] 80 = x_aload 0 (x_iload 1 (x_iconst 5 (x_iconst 0 (K 80)))) := ((xe_aload 0).trans (congrArg (x_aload 0) ((xe_iload 1).trans (congrArg (x_iload 1) ((xe_iconst 5).trans (congrArg (x_iconst 5) ((xe_iconst 0).trans (congrArg (x_iconst 0) xe_nil))))))))
theorem bk_X11_turnSides_e_83 : ck_ fX11 none cX11_turnSides 83 [.goto 140] 86 = true := qck_r (nn_ _) (by decide +kernel)
theorem bs_X11_turnSides_e_83 {P : Zt → Option Zv → Prop} (K : Int → Zl → List Zv → Zt → Prop) : sx_ K P [.goto 140] 86 = x_goto 140 K := (xe_goto 140)
abbrev po_X11_turnSides_e (T : Zt) (ru : Int → Int) (m : Int) : Zt → Option Zv → Prop := fun T' r => r = none ∧ fr_ [(246, []), (235, [])] T T' ∧ (FM_ T' ∧ ro9_ T T' m ∧ rp9_ T' m = tsR_ ru (rp9_ T m))
set_option maxHeartbeats 4000000 in
theorem ct_X11_turnSides_e {T : Zt} {ru : Int → Int} {m : Int} (h1 : 0 ≤ m ∧ m < 400) (hfm : FM_ T) (hrl : RLR_ T m ru) : Ct_ yX11_turnSides zX11_turnSides T [vR 111 0, vI m] (po_X11_turnSides_e T ru m) := by
  refine ct_of pn_11 rfl rfl (Nat.le_of_ble_eq_true rfl) (fun hT hav => ?_)
  have hr_m : -2147483648 ≤ m ∧ m ≤ 2147483647 := hav (vI m) (List.mem_cons_of_mem _ List.mem_cons_self)
  have hz : zX11_turnSides.2.2.2.1 = some .boolean → ∀ (T' : Zt) (x : Int), po_X11_turnSides_e T ru m T' (some (vI x)) → 0 ≤ x ∧ x ≤ 1 := fun h => by cases h
  have z103_0 : rp9_ T m 103 4 = T 246 0 (8 * m + 0) := rp_v rfl rfl (by show 8 * m = _; omega)
  have z103_1 : rp9_ T m 103 5 = T 246 0 (8 * m + 5) := rp_v rfl rfl (by show 8 * m + 5 = _; omega)
  have z467_2 : rp9_ T m 467 0 = T 246 0 (8 * m + 3) := rp_v (dm_467 (by omega)) rfl (by show 8 * m + 3 + 0 = _; omega)
  have z468_3 : rp9_ T m 468 0 = T 236 0 m := rp_v rfl rfl (by show m = _; omega)
  have z468_4 : rp9_ T m 468 1 = T 237 0 m := rp_v rfl rfl (by show m = _; omega)
  have hru11 := hrl 11 (by omega) (by omega)
  show J_ zX11_turnSides T (po_X11_turnSides_e T ru m) 0 0 0 [some (vR 111 0), some (vI m), none, none] [] T
  refine j_blx (F := fX11) tb_X11 (nn_ _) bk_X11_turnSides_e_0 bs_X11_turnSides_e_0 hz (fun K hK => ?_)
  refine hK 4 _ [vI 0, vI 3, vI m, vR 111 0] T ?_
  refine j_callV (y := yX11_setLive) (Yc := zX11_setLive) (rest := []) [vI m, vI 3, vI 0] (ct_X11_setLive_e (T := T) (by omega) (by omega)) cl_X11_410 (qd_c (by decide +kernel)) (nn_ _) rfl (rf_of rfl) (Nat.le_of_ble_eq_true rfl) (Nat.le_of_ble_eq_true rfl) (Nat.le_of_ble_eq_true rfl) rfl ?_
  rintro U1 _ ⟨rfl, hU1⟩
  show J_ zX11_turnSides T (po_X11_turnSides_e T ru m) 0 0 7 _ [] U1
  refine j_blx (F := fX11) tb_X11 (nn_ _) bk_X11_turnSides_e_7 bs_X11_turnSides_e_7 hz (fun K hK => ?_)
  refine hK 11 _ [vI 0, vI 4, vI m, vR 111 0] U1 ?_
  refine j_callV (y := yX11_setLive) (Yc := zX11_setLive) (rest := []) [vI m, vI 4, vI 0] (ct_X11_setLive_e (T := U1) (by omega) (by omega)) cl_X11_410 (qd_c (by decide +kernel)) (nn_ _) rfl (rf_of rfl) (Nat.le_of_ble_eq_true rfl) (Nat.le_of_ble_eq_true rfl) (Nat.le_of_ble_eq_true rfl) rfl ?_
  rintro U2 _ ⟨rfl, hU2⟩
  show J_ zX11_turnSides T (po_X11_turnSides_e T ru m) 0 0 14 _ [] U2
  refine j_blx (F := fX11) tb_X11 (nn_ _) bk_X11_turnSides_e_14 bs_X11_turnSides_e_14 hz (fun K hK => ?_)
  refine ix_i (by omega) ?_
  intro b3 b3b
  have e4 : U2 230 0 m = T 230 0 m := (up_k hU2 (by exact Nat.ne_of_beq_eq_false rfl) 0 m).trans (up_k hU1 (by exact Nat.ne_of_beq_eq_false rfl) 0 m)
  rw [e4] at b3 b3b ⊢
  refine hK 23 _ [vI 11, vI (T 230 0 m), vR 111 0] U2 ?_
  refine j_callV (y := yX11_rule0) (Yc := zX11_rule0) (rest := []) [vI (T 230 0 m), vI 11] (ct_X11_rule0 (T := U2) (by omega) (by omega)) cl_X11_321 (qd_c (by decide +kernel)) (nn_ _) rfl (rf_of rfl) (Nat.le_of_ble_eq_true rfl) (Nat.le_of_ble_eq_true rfl) (Nat.le_of_ble_eq_true rfl) rfl ?_
  rintro _ _ ⟨rfl, rfl⟩
  have e5 : U2 205 0 (23 * (T 230 0 m) + 11) = T 205 0 (23 * (T 230 0 m) + 11) := (up_k hU2 (by exact Nat.ne_of_beq_eq_false rfl) 0 (23 * (T 230 0 m) + 11)).trans (up_k hU1 (by exact Nat.ne_of_beq_eq_false rfl) 0 (23 * (T 230 0 m) + 11))
  rw [e5]
  show J_ zX11_turnSides T (po_X11_turnSides_e T ru m) 0 0 26 _ [vI (T 205 0 (23 * (T 230 0 m) + 11))] U2
  refine j_blx (F := fX11) tb_X11 (nn_ _) bk_X11_turnSides_e_26 bs_X11_turnSides_e_26 hz (fun K hK => ?_)
  intro w6 w6b
  refine hK 32 [some (vR 111 0), some (vI m), some (vI (wr_ ((T 205 0 (23 * (T 230 0 m) + 11)) - 1))), none] [vI 0, vI m, vR 111 0] U2 ?_
  refine j_callV (y := yX11_liveOf) (Yc := zX11_liveOf) (rest := []) [vI m, vI 0] (ct_X11_liveOf (T := U2) (by omega) (by omega)) cl_X11_400 (qd_c (by decide +kernel)) (nn_ _) rfl (rf_of rfl) (Nat.le_of_ble_eq_true rfl) (Nat.le_of_ble_eq_true rfl) (Nat.le_of_ble_eq_true rfl) rfl ?_
  rintro _ _ ⟨rfl, rfl⟩
  have e7 : U2 246 0 (8 * m + 0) = T 246 0 (8 * m + 0) := (up_g hU2 (by omega)).trans (up_g hU1 (by omega))
  rw [e7]
  show J_ zX11_turnSides T (po_X11_turnSides_e T ru m) 0 0 35 _ [vI (T 246 0 (8 * m + 0))] U2
  refine j_blx (F := fX11) tb_X11 (nn_ _) bk_X11_turnSides_e_35 bs_X11_turnSides_e_35 hz (fun K hK => ?_)
  refine hK 39 [some (vR 111 0), some (vI m), some (vI (wr_ ((T 205 0 (23 * (T 230 0 m) + 11)) - 1))), some (vI (T 246 0 (8 * m + 0)))] [vI 5, vI m, vR 111 0] U2 ?_
  refine j_callV (y := yX11_liveOf) (Yc := zX11_liveOf) (rest := []) [vI m, vI 5] (ct_X11_liveOf (T := U2) (by omega) (by omega)) cl_X11_400 (qd_c (by decide +kernel)) (nn_ _) rfl (rf_of rfl) (Nat.le_of_ble_eq_true rfl) (Nat.le_of_ble_eq_true rfl) (Nat.le_of_ble_eq_true rfl) rfl ?_
  rintro _ _ ⟨rfl, rfl⟩
  have e8 : U2 246 0 (8 * m + 5) = T 246 0 (8 * m + 5) := (up_g hU2 (by omega)).trans (up_g hU1 (by omega))
  rw [e8]
  show J_ zX11_turnSides T (po_X11_turnSides_e T ru m) 0 0 42 _ [vI (T 246 0 (8 * m + 5))] U2
  refine j_blx (F := fX11) tb_X11 (nn_ _) bk_X11_turnSides_e_42 bs_X11_turnSides_e_42 hz (fun K hK => ?_)
  refine And.intro (fun c9 => ?_) (fun c9 => ?_)
  · refine hK 86 _ [] U2 ?_
    refine j_blx (F := fX11) tb_X11 (nn_ _) bk_X11_turnSides_e_86 bs_X11_turnSides_e_86 hz (fun K hK => ?_)
    refine And.intro (fun c10 => ?_) (fun c10 => ?_)
    · refine hK 106 _ [] U2 ?_
      refine j_blx (F := fX11) tb_X11 (nn_ _) bk_X11_turnSides_e_106 bs_X11_turnSides_e_106 hz (fun K hK => ?_)
      intro w11 w11b
      refine And.intro (fun c12 => ?_) (fun c12 => ?_)
      · refine hK 124 _ [] U2 ?_
        refine j_blx (F := fX11) tb_X11 (nn_ _) bk_X11_turnSides_e_124 bs_X11_turnSides_e_124 hz (fun K hK => ?_)
        intro w13 w13b
        refine hK 130 _ [vI (wr_ ((T 246 0 (8 * m + 0)) + 1)), vI 0, vI m, vR 111 0] U2 ?_
        refine j_callV (y := yX11_setLive) (Yc := zX11_setLive) (rest := []) [vI m, vI 0, vI (wr_ ((T 246 0 (8 * m + 0)) + 1))] (ct_X11_setLive_e (T := U2) (by omega) (by omega)) cl_X11_410 (qd_c (by decide +kernel)) (nn_ _) rfl (rf_of rfl) (Nat.le_of_ble_eq_true rfl) (Nat.le_of_ble_eq_true rfl) (Nat.le_of_ble_eq_true rfl) rfl ?_
        rintro U14 _ ⟨rfl, hU14⟩
        show J_ zX11_turnSides T (po_X11_turnSides_e T ru m) 0 0 133 _ [] U14
        refine j_blx (F := fX11) tb_X11 (nn_ _) bk_X11_turnSides_e_133 bs_X11_turnSides_e_133 hz (fun K hK => ?_)
        refine hK 137 _ [vI 1, vI 5, vI m, vR 111 0] U14 ?_
        refine j_callV (y := yX11_setLive) (Yc := zX11_setLive) (rest := []) [vI m, vI 5, vI 1] (ct_X11_setLive_e (T := U14) (by omega) (by omega)) cl_X11_410 (qd_c (by decide +kernel)) (nn_ _) rfl (rf_of rfl) (Nat.le_of_ble_eq_true rfl) (Nat.le_of_ble_eq_true rfl) (Nat.le_of_ble_eq_true rfl) rfl ?_
        rintro U15 _ ⟨rfl, hU15⟩
        show J_ zX11_turnSides T (po_X11_turnSides_e T ru m) 0 0 140 _ [] U15
        refine j_blx (F := fX11) tb_X11 (nn_ _) bk_X11_turnSides_e_140 bs_X11_turnSides_e_140 hz (fun K hK => ?_)
        refine (show po_X11_turnSides_e T ru m U15 (none) from ?_)
        have rU1 : rp9_ U1 m = u2_ (rp9_ T m) 467 0 0 := by rw [rp_u (m := m) (k := 467) (j := 0) hU1 (dm_467 (by omega)) rfl (by show 8 * m + 3 + 0 = _; omega)]
        have rU2 : rp9_ U2 m = u2_ (u2_ (rp9_ T m) 467 0 0) 467 1 0 := by rw [rp_u (m := m) (k := 467) (j := 1) hU2 (dm_467 (by omega)) rfl (by show 8 * m + 3 + 1 = _; omega), rU1]
        have rU14 : rp9_ U14 m = u2_ (u2_ (u2_ (rp9_ T m) 467 0 0) 467 1 0) 103 4 (wr_ ((T 246 0 (8 * m + 0)) + 1)) := by rw [rp_u (m := m) (k := 103) (j := 4) hU14 rfl rfl (by show 8 * m = _; omega), rU2]
        have rU15 : rp9_ U15 m = u2_ (u2_ (u2_ (u2_ (rp9_ T m) 467 0 0) 467 1 0) 103 4 (wr_ ((T 246 0 (8 * m + 0)) + 1))) 103 5 1 := by rw [rp_u (m := m) (k := 103) (j := 5) hU15 rfl rfl (by show 8 * m + 5 = _; omega), rU14]
        refine ⟨rfl, fr_u (fr_u (fr_u (fr_u (fr_0 _ _) hU1 rfl) hU2 rfl) hU14 rfl) hU15 rfl, FM__f (ws := [(246, [])]) (FM__f (ws := [(246, [])]) (FM__f (ws := [(246, [])]) (FM__f (ws := [(246, [])]) (hfm) (fr_u (fr_0 _ _) hU1 rfl) ⟨fun _ => rfl, fun _ => rfl, trivial⟩) (fr_u (fr_0 _ _) hU2 rfl) ⟨fun _ => rfl, fun _ => rfl, trivial⟩) (fr_u (fr_0 _ _) hU14 rfl) ⟨fun _ => rfl, fun _ => rfl, trivial⟩) (fr_u (fr_0 _ _) hU15 rfl) ⟨fun _ => rfl, fun _ => rfl, trivial⟩, ro_u (m := m) (k := 103) (j := 5) (ro_u (m := m) (k := 103) (j := 4) (ro_u (m := m) (k := 467) (j := 1) (ro_u (m := m) (k := 467) (j := 0) (ro_r) hU1 (dm_467 (by omega)) rfl (by show 8 * m + 3 + 0 = _; omega)) hU2 (dm_467 (by omega)) rfl (by show 8 * m + 3 + 1 = _; omega)) hU14 rfl rfl (by show 8 * m = _; omega)) hU15 rfl rfl (by show 8 * m + 5 = _; omega), ?_⟩
        exact Eq.trans rU15 (Eq.symm (by have g9 := tsR__4 (r := ru) (a := rp9_ T m) (show ¬ ((rp9_ T m) 103 5 = 1) by (try simp only [z103_0, z103_1, z467_2, z468_3, z468_4, ← hru11]); omega) (show ¬ ((wr_ (ru 11 - 1) ≤ (rp9_ T m) 103 4 ∧ (rp9_ T m) 468 0 ≠ (rp9_ T m) 468 1) ∨ (rp9_ T m) 103 4 = wr_ (wr_ (ru 11 - 1) + 20)) by (try simp only [z103_0, z103_1, z467_2, z468_3, z468_4, ← hru11]); omega); (try simp only [z103_0, z103_1, z467_2, z468_3, z468_4, ← hru11] at g9); exact g9))
      · refine iy_i (by omega) (by omega) ?_
        refine x_nm (fun U16 hU16 => ?_)
        have e17 := up_f hU16
        refine hK 140 _ [] U16 ?_
        refine j_blx (F := fX11) tb_X11 (nn_ _) bk_X11_turnSides_e_140 bs_X11_turnSides_e_140 hz (fun K hK => ?_)
        refine (show po_X11_turnSides_e T ru m U16 (none) from ?_)
        have rU1 : rp9_ U1 m = u2_ (rp9_ T m) 467 0 0 := by rw [rp_u (m := m) (k := 467) (j := 0) hU1 (dm_467 (by omega)) rfl (by show 8 * m + 3 + 0 = _; omega)]
        have rU2 : rp9_ U2 m = u2_ (u2_ (rp9_ T m) 467 0 0) 467 1 0 := by rw [rp_u (m := m) (k := 467) (j := 1) hU2 (dm_467 (by omega)) rfl (by show 8 * m + 3 + 1 = _; omega), rU1]
        have rU16 : rp9_ U16 m = u2_ (u2_ (u2_ (rp9_ T m) 467 0 0) 467 1 0) 103 3 2 := by rw [rp_u (m := m) (k := 103) (j := 3) hU16 rfl rfl (by show m = _; omega), rU2]
        refine ⟨rfl, fr_u (fr_u (fr_u (fr_0 _ _) hU1 rfl) hU2 rfl) hU16 rfl, fm_w (FM__f (ws := [(246, [])]) (FM__f (ws := [(246, [])]) (hfm) (fr_u (fr_0 _ _) hU1 rfl) ⟨fun _ => rfl, fun _ => rfl, trivial⟩) (fr_u (fr_0 _ _) hU2 rfl) ⟨fun _ => rfl, fun _ => rfl, trivial⟩) hU16 (by decide), ro_u (m := m) (k := 103) (j := 3) (ro_u (m := m) (k := 467) (j := 1) (ro_u (m := m) (k := 467) (j := 0) (ro_r) hU1 (dm_467 (by omega)) rfl (by show 8 * m + 3 + 0 = _; omega)) hU2 (dm_467 (by omega)) rfl (by show 8 * m + 3 + 1 = _; omega)) hU16 rfl rfl (by show m = _; omega), ?_⟩
        first
        | exact Eq.trans rU16 (Eq.symm (by have g9 := tsR__1 (r := ru) (a := rp9_ T m) (show (rp9_ T m) 103 5 = 1 by (try simp only [z103_0, z103_1, z467_2, z468_3, z468_4, ← hru11]); omega) (show wr_ (ru 11 - 1) ≤ (rp9_ T m) 103 4 ∧ (rp9_ T m) 468 1 < (rp9_ T m) 468 0 by (try simp only [z103_0, z103_1, z467_2, z468_3, z468_4, ← hru11]); omega); (try simp only [z103_0, z103_1, z467_2, z468_3, z468_4, ← hru11] at g9); exact g9))
        | exact Eq.trans rU16 (Eq.symm (by have g9 := tsR__3 (r := ru) (a := rp9_ T m) (show ¬ ((rp9_ T m) 103 5 = 1) by (try simp only [z103_0, z103_1, z467_2, z468_3, z468_4, ← hru11]); omega) (show (wr_ (ru 11 - 1) ≤ (rp9_ T m) 103 4 ∧ (rp9_ T m) 468 0 ≠ (rp9_ T m) 468 1) ∨ (rp9_ T m) 103 4 = wr_ (wr_ (ru 11 - 1) + 20) by (try simp only [z103_0, z103_1, z467_2, z468_3, z468_4, ← hru11]); omega); (try simp only [z103_0, z103_1, z467_2, z468_3, z468_4, ← hru11] at g9); exact g9))
        | (exfalso; omega)
    · refine ix_i (by omega) ?_
      intro b18 b18b
      have e19 : U2 236 0 m = T 236 0 m := (up_k hU2 (by exact Nat.ne_of_beq_eq_false rfl) 0 m).trans (up_k hU1 (by exact Nat.ne_of_beq_eq_false rfl) 0 m)
      rw [e19] at b18 b18b ⊢
      refine ix_i (by omega) ?_
      intro b20 b20b
      have e21 : U2 237 0 m = T 237 0 m := (up_k hU2 (by exact Nat.ne_of_beq_eq_false rfl) 0 m).trans (up_k hU1 (by exact Nat.ne_of_beq_eq_false rfl) 0 m)
      rw [e21] at b20 b20b ⊢
      refine And.intro (fun c22 => ?_) (fun c22 => ?_)
      · refine hK 114 _ [] U2 ?_
        refine j_blx (F := fX11) tb_X11 (nn_ _) bk_X11_turnSides_e_114 bs_X11_turnSides_e_114 hz (fun K hK => ?_)
        refine iy_i (by omega) (by omega) ?_
        refine x_nm (fun U23 hU23 => ?_)
        have e24 := up_f hU23
        refine hK 140 _ [] U23 ?_
        refine j_blx (F := fX11) tb_X11 (nn_ _) bk_X11_turnSides_e_140 bs_X11_turnSides_e_140 hz (fun K hK => ?_)
        refine (show po_X11_turnSides_e T ru m U23 (none) from ?_)
        have rU1 : rp9_ U1 m = u2_ (rp9_ T m) 467 0 0 := by rw [rp_u (m := m) (k := 467) (j := 0) hU1 (dm_467 (by omega)) rfl (by show 8 * m + 3 + 0 = _; omega)]
        have rU2 : rp9_ U2 m = u2_ (u2_ (rp9_ T m) 467 0 0) 467 1 0 := by rw [rp_u (m := m) (k := 467) (j := 1) hU2 (dm_467 (by omega)) rfl (by show 8 * m + 3 + 1 = _; omega), rU1]
        have rU23 : rp9_ U23 m = u2_ (u2_ (u2_ (rp9_ T m) 467 0 0) 467 1 0) 103 3 2 := by rw [rp_u (m := m) (k := 103) (j := 3) hU23 rfl rfl (by show m = _; omega), rU2]
        refine ⟨rfl, fr_u (fr_u (fr_u (fr_0 _ _) hU1 rfl) hU2 rfl) hU23 rfl, fm_w (FM__f (ws := [(246, [])]) (FM__f (ws := [(246, [])]) (hfm) (fr_u (fr_0 _ _) hU1 rfl) ⟨fun _ => rfl, fun _ => rfl, trivial⟩) (fr_u (fr_0 _ _) hU2 rfl) ⟨fun _ => rfl, fun _ => rfl, trivial⟩) hU23 (by decide), ro_u (m := m) (k := 103) (j := 3) (ro_u (m := m) (k := 467) (j := 1) (ro_u (m := m) (k := 467) (j := 0) (ro_r) hU1 (dm_467 (by omega)) rfl (by show 8 * m + 3 + 0 = _; omega)) hU2 (dm_467 (by omega)) rfl (by show 8 * m + 3 + 1 = _; omega)) hU23 rfl rfl (by show m = _; omega), ?_⟩
        first
        | exact Eq.trans rU23 (Eq.symm (by have g9 := tsR__1 (r := ru) (a := rp9_ T m) (show (rp9_ T m) 103 5 = 1 by (try simp only [z103_0, z103_1, z467_2, z468_3, z468_4, ← hru11]); omega) (show wr_ (ru 11 - 1) ≤ (rp9_ T m) 103 4 ∧ (rp9_ T m) 468 1 < (rp9_ T m) 468 0 by (try simp only [z103_0, z103_1, z467_2, z468_3, z468_4, ← hru11]); omega); (try simp only [z103_0, z103_1, z467_2, z468_3, z468_4, ← hru11] at g9); exact g9))
        | exact Eq.trans rU23 (Eq.symm (by have g9 := tsR__3 (r := ru) (a := rp9_ T m) (show ¬ ((rp9_ T m) 103 5 = 1) by (try simp only [z103_0, z103_1, z467_2, z468_3, z468_4, ← hru11]); omega) (show (wr_ (ru 11 - 1) ≤ (rp9_ T m) 103 4 ∧ (rp9_ T m) 468 0 ≠ (rp9_ T m) 468 1) ∨ (rp9_ T m) 103 4 = wr_ (wr_ (ru 11 - 1) + 20) by (try simp only [z103_0, z103_1, z467_2, z468_3, z468_4, ← hru11]); omega); (try simp only [z103_0, z103_1, z467_2, z468_3, z468_4, ← hru11] at g9); exact g9))
        | (exfalso; omega)
      · intro w25 w25b
        refine And.intro (fun c26 => ?_) (fun c26 => ?_)
        · refine hK 124 _ [] U2 ?_
          refine j_blx (F := fX11) tb_X11 (nn_ _) bk_X11_turnSides_e_124 bs_X11_turnSides_e_124 hz (fun K hK => ?_)
          intro w27 w27b
          refine hK 130 _ [vI (wr_ ((T 246 0 (8 * m + 0)) + 1)), vI 0, vI m, vR 111 0] U2 ?_
          refine j_callV (y := yX11_setLive) (Yc := zX11_setLive) (rest := []) [vI m, vI 0, vI (wr_ ((T 246 0 (8 * m + 0)) + 1))] (ct_X11_setLive_e (T := U2) (by omega) (by omega)) cl_X11_410 (qd_c (by decide +kernel)) (nn_ _) rfl (rf_of rfl) (Nat.le_of_ble_eq_true rfl) (Nat.le_of_ble_eq_true rfl) (Nat.le_of_ble_eq_true rfl) rfl ?_
          rintro U28 _ ⟨rfl, hU28⟩
          show J_ zX11_turnSides T (po_X11_turnSides_e T ru m) 0 0 133 _ [] U28
          refine j_blx (F := fX11) tb_X11 (nn_ _) bk_X11_turnSides_e_133 bs_X11_turnSides_e_133 hz (fun K hK => ?_)
          refine hK 137 _ [vI 1, vI 5, vI m, vR 111 0] U28 ?_
          refine j_callV (y := yX11_setLive) (Yc := zX11_setLive) (rest := []) [vI m, vI 5, vI 1] (ct_X11_setLive_e (T := U28) (by omega) (by omega)) cl_X11_410 (qd_c (by decide +kernel)) (nn_ _) rfl (rf_of rfl) (Nat.le_of_ble_eq_true rfl) (Nat.le_of_ble_eq_true rfl) (Nat.le_of_ble_eq_true rfl) rfl ?_
          rintro U29 _ ⟨rfl, hU29⟩
          show J_ zX11_turnSides T (po_X11_turnSides_e T ru m) 0 0 140 _ [] U29
          refine j_blx (F := fX11) tb_X11 (nn_ _) bk_X11_turnSides_e_140 bs_X11_turnSides_e_140 hz (fun K hK => ?_)
          refine (show po_X11_turnSides_e T ru m U29 (none) from ?_)
          have rU1 : rp9_ U1 m = u2_ (rp9_ T m) 467 0 0 := by rw [rp_u (m := m) (k := 467) (j := 0) hU1 (dm_467 (by omega)) rfl (by show 8 * m + 3 + 0 = _; omega)]
          have rU2 : rp9_ U2 m = u2_ (u2_ (rp9_ T m) 467 0 0) 467 1 0 := by rw [rp_u (m := m) (k := 467) (j := 1) hU2 (dm_467 (by omega)) rfl (by show 8 * m + 3 + 1 = _; omega), rU1]
          have rU28 : rp9_ U28 m = u2_ (u2_ (u2_ (rp9_ T m) 467 0 0) 467 1 0) 103 4 (wr_ ((T 246 0 (8 * m + 0)) + 1)) := by rw [rp_u (m := m) (k := 103) (j := 4) hU28 rfl rfl (by show 8 * m = _; omega), rU2]
          have rU29 : rp9_ U29 m = u2_ (u2_ (u2_ (u2_ (rp9_ T m) 467 0 0) 467 1 0) 103 4 (wr_ ((T 246 0 (8 * m + 0)) + 1))) 103 5 1 := by rw [rp_u (m := m) (k := 103) (j := 5) hU29 rfl rfl (by show 8 * m + 5 = _; omega), rU28]
          refine ⟨rfl, fr_u (fr_u (fr_u (fr_u (fr_0 _ _) hU1 rfl) hU2 rfl) hU28 rfl) hU29 rfl, FM__f (ws := [(246, [])]) (FM__f (ws := [(246, [])]) (FM__f (ws := [(246, [])]) (FM__f (ws := [(246, [])]) (hfm) (fr_u (fr_0 _ _) hU1 rfl) ⟨fun _ => rfl, fun _ => rfl, trivial⟩) (fr_u (fr_0 _ _) hU2 rfl) ⟨fun _ => rfl, fun _ => rfl, trivial⟩) (fr_u (fr_0 _ _) hU28 rfl) ⟨fun _ => rfl, fun _ => rfl, trivial⟩) (fr_u (fr_0 _ _) hU29 rfl) ⟨fun _ => rfl, fun _ => rfl, trivial⟩, ro_u (m := m) (k := 103) (j := 5) (ro_u (m := m) (k := 103) (j := 4) (ro_u (m := m) (k := 467) (j := 1) (ro_u (m := m) (k := 467) (j := 0) (ro_r) hU1 (dm_467 (by omega)) rfl (by show 8 * m + 3 + 0 = _; omega)) hU2 (dm_467 (by omega)) rfl (by show 8 * m + 3 + 1 = _; omega)) hU28 rfl rfl (by show 8 * m = _; omega)) hU29 rfl rfl (by show 8 * m + 5 = _; omega), ?_⟩
          exact Eq.trans rU29 (Eq.symm (by have g9 := tsR__4 (r := ru) (a := rp9_ T m) (show ¬ ((rp9_ T m) 103 5 = 1) by (try simp only [z103_0, z103_1, z467_2, z468_3, z468_4, ← hru11]); omega) (show ¬ ((wr_ (ru 11 - 1) ≤ (rp9_ T m) 103 4 ∧ (rp9_ T m) 468 0 ≠ (rp9_ T m) 468 1) ∨ (rp9_ T m) 103 4 = wr_ (wr_ (ru 11 - 1) + 20)) by (try simp only [z103_0, z103_1, z467_2, z468_3, z468_4, ← hru11]); omega); (try simp only [z103_0, z103_1, z467_2, z468_3, z468_4, ← hru11] at g9); exact g9))
        · refine iy_i (by omega) (by omega) ?_
          refine x_nm (fun U30 hU30 => ?_)
          have e31 := up_f hU30
          refine hK 140 _ [] U30 ?_
          refine j_blx (F := fX11) tb_X11 (nn_ _) bk_X11_turnSides_e_140 bs_X11_turnSides_e_140 hz (fun K hK => ?_)
          refine (show po_X11_turnSides_e T ru m U30 (none) from ?_)
          have rU1 : rp9_ U1 m = u2_ (rp9_ T m) 467 0 0 := by rw [rp_u (m := m) (k := 467) (j := 0) hU1 (dm_467 (by omega)) rfl (by show 8 * m + 3 + 0 = _; omega)]
          have rU2 : rp9_ U2 m = u2_ (u2_ (rp9_ T m) 467 0 0) 467 1 0 := by rw [rp_u (m := m) (k := 467) (j := 1) hU2 (dm_467 (by omega)) rfl (by show 8 * m + 3 + 1 = _; omega), rU1]
          have rU30 : rp9_ U30 m = u2_ (u2_ (u2_ (rp9_ T m) 467 0 0) 467 1 0) 103 3 2 := by rw [rp_u (m := m) (k := 103) (j := 3) hU30 rfl rfl (by show m = _; omega), rU2]
          refine ⟨rfl, fr_u (fr_u (fr_u (fr_0 _ _) hU1 rfl) hU2 rfl) hU30 rfl, fm_w (FM__f (ws := [(246, [])]) (FM__f (ws := [(246, [])]) (hfm) (fr_u (fr_0 _ _) hU1 rfl) ⟨fun _ => rfl, fun _ => rfl, trivial⟩) (fr_u (fr_0 _ _) hU2 rfl) ⟨fun _ => rfl, fun _ => rfl, trivial⟩) hU30 (by decide), ro_u (m := m) (k := 103) (j := 3) (ro_u (m := m) (k := 467) (j := 1) (ro_u (m := m) (k := 467) (j := 0) (ro_r) hU1 (dm_467 (by omega)) rfl (by show 8 * m + 3 + 0 = _; omega)) hU2 (dm_467 (by omega)) rfl (by show 8 * m + 3 + 1 = _; omega)) hU30 rfl rfl (by show m = _; omega), ?_⟩
          first
          | exact Eq.trans rU30 (Eq.symm (by have g9 := tsR__1 (r := ru) (a := rp9_ T m) (show (rp9_ T m) 103 5 = 1 by (try simp only [z103_0, z103_1, z467_2, z468_3, z468_4, ← hru11]); omega) (show wr_ (ru 11 - 1) ≤ (rp9_ T m) 103 4 ∧ (rp9_ T m) 468 1 < (rp9_ T m) 468 0 by (try simp only [z103_0, z103_1, z467_2, z468_3, z468_4, ← hru11]); omega); (try simp only [z103_0, z103_1, z467_2, z468_3, z468_4, ← hru11] at g9); exact g9))
          | exact Eq.trans rU30 (Eq.symm (by have g9 := tsR__3 (r := ru) (a := rp9_ T m) (show ¬ ((rp9_ T m) 103 5 = 1) by (try simp only [z103_0, z103_1, z467_2, z468_3, z468_4, ← hru11]); omega) (show (wr_ (ru 11 - 1) ≤ (rp9_ T m) 103 4 ∧ (rp9_ T m) 468 0 ≠ (rp9_ T m) 468 1) ∨ (rp9_ T m) 103 4 = wr_ (wr_ (ru 11 - 1) + 20) by (try simp only [z103_0, z103_1, z467_2, z468_3, z468_4, ← hru11]); omega); (try simp only [z103_0, z103_1, z467_2, z468_3, z468_4, ← hru11] at g9); exact g9))
          | (exfalso; omega)
  · refine And.intro (fun c32 => ?_) (fun c32 => ?_)
    · refine hK 76 _ [] U2 ?_
      refine j_blx (F := fX11) tb_X11 (nn_ _) bk_X11_turnSides_e_76 bs_X11_turnSides_e_76 hz (fun K hK => ?_)
      refine hK 80 _ [vI 0, vI 5, vI m, vR 111 0] U2 ?_
      refine j_callV (y := yX11_setLive) (Yc := zX11_setLive) (rest := []) [vI m, vI 5, vI 0] (ct_X11_setLive_e (T := U2) (by omega) (by omega)) cl_X11_410 (qd_c (by decide +kernel)) (nn_ _) rfl (rf_of rfl) (Nat.le_of_ble_eq_true rfl) (Nat.le_of_ble_eq_true rfl) (Nat.le_of_ble_eq_true rfl) rfl ?_
      rintro U33 _ ⟨rfl, hU33⟩
      show J_ zX11_turnSides T (po_X11_turnSides_e T ru m) 0 0 83 _ [] U33
      refine j_blx (F := fX11) tb_X11 (nn_ _) bk_X11_turnSides_e_83 bs_X11_turnSides_e_83 hz (fun K hK => ?_)
      refine hK 140 _ [] U33 ?_
      refine j_blx (F := fX11) tb_X11 (nn_ _) bk_X11_turnSides_e_140 bs_X11_turnSides_e_140 hz (fun K hK => ?_)
      refine (show po_X11_turnSides_e T ru m U33 (none) from ?_)
      have rU1 : rp9_ U1 m = u2_ (rp9_ T m) 467 0 0 := by rw [rp_u (m := m) (k := 467) (j := 0) hU1 (dm_467 (by omega)) rfl (by show 8 * m + 3 + 0 = _; omega)]
      have rU2 : rp9_ U2 m = u2_ (u2_ (rp9_ T m) 467 0 0) 467 1 0 := by rw [rp_u (m := m) (k := 467) (j := 1) hU2 (dm_467 (by omega)) rfl (by show 8 * m + 3 + 1 = _; omega), rU1]
      have rU33 : rp9_ U33 m = u2_ (u2_ (u2_ (rp9_ T m) 467 0 0) 467 1 0) 103 5 0 := by rw [rp_u (m := m) (k := 103) (j := 5) hU33 rfl rfl (by show 8 * m + 5 = _; omega), rU2]
      refine ⟨rfl, fr_u (fr_u (fr_u (fr_0 _ _) hU1 rfl) hU2 rfl) hU33 rfl, FM__f (ws := [(246, [])]) (FM__f (ws := [(246, [])]) (FM__f (ws := [(246, [])]) (hfm) (fr_u (fr_0 _ _) hU1 rfl) ⟨fun _ => rfl, fun _ => rfl, trivial⟩) (fr_u (fr_0 _ _) hU2 rfl) ⟨fun _ => rfl, fun _ => rfl, trivial⟩) (fr_u (fr_0 _ _) hU33 rfl) ⟨fun _ => rfl, fun _ => rfl, trivial⟩, ro_u (m := m) (k := 103) (j := 5) (ro_u (m := m) (k := 467) (j := 1) (ro_u (m := m) (k := 467) (j := 0) (ro_r) hU1 (dm_467 (by omega)) rfl (by show 8 * m + 3 + 0 = _; omega)) hU2 (dm_467 (by omega)) rfl (by show 8 * m + 3 + 1 = _; omega)) hU33 rfl rfl (by show 8 * m + 5 = _; omega), ?_⟩
      exact Eq.trans rU33 (Eq.symm (by have g9 := tsR__2 (r := ru) (a := rp9_ T m) (show (rp9_ T m) 103 5 = 1 by (try simp only [z103_0, z103_1, z467_2, z468_3, z468_4, ← hru11]); omega) (show ¬ (wr_ (ru 11 - 1) ≤ (rp9_ T m) 103 4 ∧ (rp9_ T m) 468 1 < (rp9_ T m) 468 0) by (try simp only [z103_0, z103_1, z467_2, z468_3, z468_4, ← hru11]); omega); (try simp only [z103_0, z103_1, z467_2, z468_3, z468_4, ← hru11] at g9); exact g9))
    · refine ix_i (by omega) ?_
      intro b34 b34b
      have e35 : U2 236 0 m = T 236 0 m := (up_k hU2 (by exact Nat.ne_of_beq_eq_false rfl) 0 m).trans (up_k hU1 (by exact Nat.ne_of_beq_eq_false rfl) 0 m)
      rw [e35] at b34 b34b ⊢
      refine ix_i (by omega) ?_
      intro b36 b36b
      have e37 : U2 237 0 m = T 237 0 m := (up_k hU2 (by exact Nat.ne_of_beq_eq_false rfl) 0 m).trans (up_k hU1 (by exact Nat.ne_of_beq_eq_false rfl) 0 m)
      rw [e37] at b36 b36b ⊢
      refine And.intro (fun c38 => ?_) (fun c38 => ?_)
      · refine hK 76 _ [] U2 ?_
        refine j_blx (F := fX11) tb_X11 (nn_ _) bk_X11_turnSides_e_76 bs_X11_turnSides_e_76 hz (fun K hK => ?_)
        refine hK 80 _ [vI 0, vI 5, vI m, vR 111 0] U2 ?_
        refine j_callV (y := yX11_setLive) (Yc := zX11_setLive) (rest := []) [vI m, vI 5, vI 0] (ct_X11_setLive_e (T := U2) (by omega) (by omega)) cl_X11_410 (qd_c (by decide +kernel)) (nn_ _) rfl (rf_of rfl) (Nat.le_of_ble_eq_true rfl) (Nat.le_of_ble_eq_true rfl) (Nat.le_of_ble_eq_true rfl) rfl ?_
        rintro U39 _ ⟨rfl, hU39⟩
        show J_ zX11_turnSides T (po_X11_turnSides_e T ru m) 0 0 83 _ [] U39
        refine j_blx (F := fX11) tb_X11 (nn_ _) bk_X11_turnSides_e_83 bs_X11_turnSides_e_83 hz (fun K hK => ?_)
        refine hK 140 _ [] U39 ?_
        refine j_blx (F := fX11) tb_X11 (nn_ _) bk_X11_turnSides_e_140 bs_X11_turnSides_e_140 hz (fun K hK => ?_)
        refine (show po_X11_turnSides_e T ru m U39 (none) from ?_)
        have rU1 : rp9_ U1 m = u2_ (rp9_ T m) 467 0 0 := by rw [rp_u (m := m) (k := 467) (j := 0) hU1 (dm_467 (by omega)) rfl (by show 8 * m + 3 + 0 = _; omega)]
        have rU2 : rp9_ U2 m = u2_ (u2_ (rp9_ T m) 467 0 0) 467 1 0 := by rw [rp_u (m := m) (k := 467) (j := 1) hU2 (dm_467 (by omega)) rfl (by show 8 * m + 3 + 1 = _; omega), rU1]
        have rU39 : rp9_ U39 m = u2_ (u2_ (u2_ (rp9_ T m) 467 0 0) 467 1 0) 103 5 0 := by rw [rp_u (m := m) (k := 103) (j := 5) hU39 rfl rfl (by show 8 * m + 5 = _; omega), rU2]
        refine ⟨rfl, fr_u (fr_u (fr_u (fr_0 _ _) hU1 rfl) hU2 rfl) hU39 rfl, FM__f (ws := [(246, [])]) (FM__f (ws := [(246, [])]) (FM__f (ws := [(246, [])]) (hfm) (fr_u (fr_0 _ _) hU1 rfl) ⟨fun _ => rfl, fun _ => rfl, trivial⟩) (fr_u (fr_0 _ _) hU2 rfl) ⟨fun _ => rfl, fun _ => rfl, trivial⟩) (fr_u (fr_0 _ _) hU39 rfl) ⟨fun _ => rfl, fun _ => rfl, trivial⟩, ro_u (m := m) (k := 103) (j := 5) (ro_u (m := m) (k := 467) (j := 1) (ro_u (m := m) (k := 467) (j := 0) (ro_r) hU1 (dm_467 (by omega)) rfl (by show 8 * m + 3 + 0 = _; omega)) hU2 (dm_467 (by omega)) rfl (by show 8 * m + 3 + 1 = _; omega)) hU39 rfl rfl (by show 8 * m + 5 = _; omega), ?_⟩
        exact Eq.trans rU39 (Eq.symm (by have g9 := tsR__2 (r := ru) (a := rp9_ T m) (show (rp9_ T m) 103 5 = 1 by (try simp only [z103_0, z103_1, z467_2, z468_3, z468_4, ← hru11]); omega) (show ¬ (wr_ (ru 11 - 1) ≤ (rp9_ T m) 103 4 ∧ (rp9_ T m) 468 1 < (rp9_ T m) 468 0) by (try simp only [z103_0, z103_1, z467_2, z468_3, z468_4, ← hru11]); omega); (try simp only [z103_0, z103_1, z467_2, z468_3, z468_4, ← hru11] at g9); exact g9))
      · refine iy_i (by omega) (by omega) ?_
        refine x_nm (fun U40 hU40 => ?_)
        have e41 := up_f hU40
        refine hK 140 _ [] U40 ?_
        refine j_blx (F := fX11) tb_X11 (nn_ _) bk_X11_turnSides_e_140 bs_X11_turnSides_e_140 hz (fun K hK => ?_)
        refine (show po_X11_turnSides_e T ru m U40 (none) from ?_)
        have rU1 : rp9_ U1 m = u2_ (rp9_ T m) 467 0 0 := by rw [rp_u (m := m) (k := 467) (j := 0) hU1 (dm_467 (by omega)) rfl (by show 8 * m + 3 + 0 = _; omega)]
        have rU2 : rp9_ U2 m = u2_ (u2_ (rp9_ T m) 467 0 0) 467 1 0 := by rw [rp_u (m := m) (k := 467) (j := 1) hU2 (dm_467 (by omega)) rfl (by show 8 * m + 3 + 1 = _; omega), rU1]
        have rU40 : rp9_ U40 m = u2_ (u2_ (u2_ (rp9_ T m) 467 0 0) 467 1 0) 103 3 2 := by rw [rp_u (m := m) (k := 103) (j := 3) hU40 rfl rfl (by show m = _; omega), rU2]
        refine ⟨rfl, fr_u (fr_u (fr_u (fr_0 _ _) hU1 rfl) hU2 rfl) hU40 rfl, fm_w (FM__f (ws := [(246, [])]) (FM__f (ws := [(246, [])]) (hfm) (fr_u (fr_0 _ _) hU1 rfl) ⟨fun _ => rfl, fun _ => rfl, trivial⟩) (fr_u (fr_0 _ _) hU2 rfl) ⟨fun _ => rfl, fun _ => rfl, trivial⟩) hU40 (by decide), ro_u (m := m) (k := 103) (j := 3) (ro_u (m := m) (k := 467) (j := 1) (ro_u (m := m) (k := 467) (j := 0) (ro_r) hU1 (dm_467 (by omega)) rfl (by show 8 * m + 3 + 0 = _; omega)) hU2 (dm_467 (by omega)) rfl (by show 8 * m + 3 + 1 = _; omega)) hU40 rfl rfl (by show m = _; omega), ?_⟩
        first
        | exact Eq.trans rU40 (Eq.symm (by have g9 := tsR__1 (r := ru) (a := rp9_ T m) (show (rp9_ T m) 103 5 = 1 by (try simp only [z103_0, z103_1, z467_2, z468_3, z468_4, ← hru11]); omega) (show wr_ (ru 11 - 1) ≤ (rp9_ T m) 103 4 ∧ (rp9_ T m) 468 1 < (rp9_ T m) 468 0 by (try simp only [z103_0, z103_1, z467_2, z468_3, z468_4, ← hru11]); omega); (try simp only [z103_0, z103_1, z467_2, z468_3, z468_4, ← hru11] at g9); exact g9))
        | exact Eq.trans rU40 (Eq.symm (by have g9 := tsR__3 (r := ru) (a := rp9_ T m) (show ¬ ((rp9_ T m) 103 5 = 1) by (try simp only [z103_0, z103_1, z467_2, z468_3, z468_4, ← hru11]); omega) (show (wr_ (ru 11 - 1) ≤ (rp9_ T m) 103 4 ∧ (rp9_ T m) 468 0 ≠ (rp9_ T m) 468 1) ∨ (rp9_ T m) 103 4 = wr_ (wr_ (ru 11 - 1) + 20) by (try simp only [z103_0, z103_1, z467_2, z468_3, z468_4, ← hru11]); omega); (try simp only [z103_0, z103_1, z467_2, z468_3, z468_4, ← hru11] at g9); exact g9))
        | (exfalso; omega)
theorem bk_X11_out_e_0 : ck_ fX11 none cX11_out 0 [.aload 0, .iload 1, .iconst 1, .iconst 0] 4 = true := qck_r (nn_ _) (by decide +kernel)
theorem bs_X11_out_e_0 {P : Zt → Option Zv → Prop} (K : Int → Zl → List Zv → Zt → Prop) : sx_ K P [.aload 0, .iload 1, .iconst 1, .iconst 0] 4 = x_aload 0 (x_iload 1 (x_iconst 1 (x_iconst 0 (K 4)))) := ((xe_aload 0).trans (congrArg (x_aload 0) ((xe_iload 1).trans (congrArg (x_iload 1) ((xe_iconst 1).trans (congrArg (x_iconst 1) ((xe_iconst 0).trans (congrArg (x_iconst 0) xe_nil))))))))
theorem bk_X11_out_e_7 : ck_ fX11 none cX11_out 7 [.aload 0, .iload 1, .iconst 2, .iconst 0] 11 = true := qck_r (nn_ _) (by decide +kernel)
theorem bs_X11_out_e_7 {P : Zt → Option Zv → Prop} (K : Int → Zl → List Zv → Zt → Prop) : sx_ K P [.aload 0, .iload 1, .iconst 2, .iconst 0] 11 = x_aload 0 (x_iload 1 (x_iconst 2 (x_iconst 0 (K 11)))) := ((xe_aload 0).trans (congrArg (x_aload 0) ((xe_iload 1).trans (congrArg (x_iload 1) ((xe_iconst 2).trans (congrArg (x_iconst 2) ((xe_iconst 0).trans (congrArg (x_iconst 0) xe_nil))))))))
theorem bk_X11_out_e_14 : ck_ fX11 none cX11_out 14 [.aload 0, .iload 1, .iconst 3, .aload 0, .iload 1, .iconst 3] 20 = true := qck_r (nn_ _) (by decide +kernel)
theorem bs_X11_out_e_14 {P : Zt → Option Zv → Prop} (K : Int → Zl → List Zv → Zt → Prop) : sx_ K P [.aload 0, .iload 1, .iconst 3, .aload 0, .iload 1, .iconst 3] 20 = x_aload 0 (x_iload 1 (x_iconst 3 (x_aload 0 (x_iload 1 (x_iconst 3 (K 20)))))) := ((xe_aload 0).trans (congrArg (x_aload 0) ((xe_iload 1).trans (congrArg (x_iload 1) ((xe_iconst 3).trans (congrArg (x_iconst 3) ((xe_aload 0).trans (congrArg (x_aload 0) ((xe_iload 1).trans (congrArg (x_iload 1) ((xe_iconst 3).trans (congrArg (x_iconst 3) xe_nil))))))))))))
theorem bk_X11_out_e_23 : ck_ fX11 none cX11_out 23 [.iconst 1, .fadd] 25 = true := qck_r (nn_ _) (by decide +kernel)
theorem bs_X11_out_e_23 {P : Zt → Option Zv → Prop} (K : Int → Zl → List Zv → Zt → Prop) : sx_ K P [.iconst 1, .fadd] 25 = x_iconst 1 (x_fadd (K 25)) := ((xe_iconst 1).trans (congrArg (x_iconst 1) ((xe_fadd).trans (congrArg (x_fadd) xe_nil))))
theorem bk_X11_out_e_28 : ck_ fX11 none cX11_out 28 [.aload 0, .iload 1, .iconst 3] 31 = true := qck_r (nn_ _) (by decide +kernel)
theorem bs_X11_out_e_28 {P : Zt → Option Zv → Prop} (K : Int → Zl → List Zv → Zt → Prop) : sx_ K P [.aload 0, .iload 1, .iconst 3] 31 = x_aload 0 (x_iload 1 (x_iconst 3 (K 31))) := ((xe_aload 0).trans (congrArg (x_aload 0) ((xe_iload 1).trans (congrArg (x_iload 1) ((xe_iconst 3).trans (congrArg (x_iconst 3) xe_nil))))))
theorem bk_X11_out_e_34 : ck_ fX11 none cX11_out 34 [.iconst 3, .if_icmp .ne 43, .aload 0, .iload 1] 40 = true := qck_r (nn_ _) (by decide +kernel)
theorem bs_X11_out_e_34 {P : Zt → Option Zv → Prop} (K : Int → Zl → List Zv → Zt → Prop) : sx_ K P [.iconst 3, .if_icmp .ne 43, .aload 0, .iload 1] 40 = x_iconst 3 (x_if_icmp .ne 43 K (x_aload 0 (x_iload 1 (K 40)))) := ((xe_iconst 3).trans (congrArg (x_iconst 3) ((xe_if_icmp .ne 43).trans (congrArg (x_if_icmp .ne 43 K) ((xe_aload 0).trans (congrArg (x_aload 0) ((xe_iload 1).trans (congrArg (x_iload 1) xe_nil))))))))
theorem bk_X11_out_e_43 : ck_ fX11 none cX11_out 43 [.return_] 44 = true := qck_r (nn_ _) (by decide +kernel)
theorem bs_X11_out_e_43 {P : Zt → Option Zv → Prop} (K : Int → Zl → List Zv → Zt → Prop) : sx_ K P [.return_] 44 = x_return_ P := (xe_return_)
abbrev po_X11_out_e (T : Zt) (ru : Int → Int) (m : Int) : Zt → Option Zv → Prop := fun T' r => r = none ∧ fr_ [(246, []), (235, [])] T T' ∧ (FM_ T' ∧ ro9_ T T' m ∧ rp9_ T' m = otR_ ru (rp9_ T m))
set_option maxHeartbeats 4000000 in
theorem ct_X11_out_e {T : Zt} {ru : Int → Int} {m : Int} (h1 : 0 ≤ m ∧ m < 400) (hfm : FM_ T) (hrl : RLR_ T m ru) : Ct_ yX11_out zX11_out T [vR 111 0, vI m] (po_X11_out_e T ru m) := by
  refine ct_of pn_11 rfl rfl (Nat.le_of_ble_eq_true rfl) (fun hT hav => ?_)
  have hr_m : -2147483648 ≤ m ∧ m ≤ 2147483647 := hav (vI m) (List.mem_cons_of_mem _ List.mem_cons_self)
  have hz : zX11_out.2.2.2.1 = some .boolean → ∀ (T' : Zt) (x : Int), po_X11_out_e T ru m T' (some (vI x)) → 0 ≤ x ∧ x ≤ 1 := fun h => by cases h
  have z466_0 : rp9_ T m 466 0 = T 246 0 (8 * m + 1) := rp_v (dm_466 (by omega)) rfl (by show 8 * m + 1 + 0 = _; omega)
  have z467_1 : rp9_ T m 467 0 = T 246 0 (8 * m + 3) := rp_v (dm_467 (by omega)) rfl (by show 8 * m + 3 + 0 = _; omega)
  show J_ zX11_out T (po_X11_out_e T ru m) 0 0 0 [some (vR 111 0), some (vI m)] [] T
  refine j_blx (F := fX11) tb_X11 (nn_ _) bk_X11_out_e_0 bs_X11_out_e_0 hz (fun K hK => ?_)
  refine hK 4 _ [vI 0, vI 1, vI m, vR 111 0] T ?_
  refine j_callV (y := yX11_setLive) (Yc := zX11_setLive) (rest := []) [vI m, vI 1, vI 0] (ct_X11_setLive_e (T := T) (by omega) (by omega)) cl_X11_410 (qd_c (by decide +kernel)) (nn_ _) rfl (rf_of rfl) (Nat.le_of_ble_eq_true rfl) (Nat.le_of_ble_eq_true rfl) (Nat.le_of_ble_eq_true rfl) rfl ?_
  rintro U1 _ ⟨rfl, hU1⟩
  show J_ zX11_out T (po_X11_out_e T ru m) 0 0 7 _ [] U1
  refine j_blx (F := fX11) tb_X11 (nn_ _) bk_X11_out_e_7 bs_X11_out_e_7 hz (fun K hK => ?_)
  refine hK 11 _ [vI 0, vI 2, vI m, vR 111 0] U1 ?_
  refine j_callV (y := yX11_setLive) (Yc := zX11_setLive) (rest := []) [vI m, vI 2, vI 0] (ct_X11_setLive_e (T := U1) (by omega) (by omega)) cl_X11_410 (qd_c (by decide +kernel)) (nn_ _) rfl (rf_of rfl) (Nat.le_of_ble_eq_true rfl) (Nat.le_of_ble_eq_true rfl) (Nat.le_of_ble_eq_true rfl) rfl ?_
  rintro U2 _ ⟨rfl, hU2⟩
  show J_ zX11_out T (po_X11_out_e T ru m) 0 0 14 _ [] U2
  refine j_blx (F := fX11) tb_X11 (nn_ _) bk_X11_out_e_14 bs_X11_out_e_14 hz (fun K hK => ?_)
  refine hK 20 _ [vI 3, vI m, vR 111 0, vI 3, vI m, vR 111 0] U2 ?_
  refine j_callV (y := yX11_liveOf) (Yc := zX11_liveOf) (rest := [vI 3, vI m, vR 111 0]) [vI m, vI 3] (ct_X11_liveOf (T := U2) (by omega) (by omega)) cl_X11_400 (qd_c (by decide +kernel)) (nn_ _) rfl (rf_of rfl) (Nat.le_of_ble_eq_true rfl) (Nat.le_of_ble_eq_true rfl) (Nat.le_of_ble_eq_true rfl) rfl ?_
  rintro _ _ ⟨rfl, rfl⟩
  have e3 : U2 246 0 (8 * m + 3) = T 246 0 (8 * m + 3) := (up_g hU2 (by omega)).trans (up_g hU1 (by omega))
  rw [e3]
  show J_ zX11_out T (po_X11_out_e T ru m) 0 0 23 _ [vI (T 246 0 (8 * m + 3)), vI 3, vI m, vR 111 0] U2
  refine j_blx (F := fX11) tb_X11 (nn_ _) bk_X11_out_e_23 bs_X11_out_e_23 hz (fun K hK => ?_)
  intro w4 w4b
  refine hK 25 _ [vI (wr_ ((T 246 0 (8 * m + 3)) + 1)), vI 3, vI m, vR 111 0] U2 ?_
  refine j_callV (y := yX11_setLive) (Yc := zX11_setLive) (rest := []) [vI m, vI 3, vI (wr_ ((T 246 0 (8 * m + 3)) + 1))] (ct_X11_setLive_e (T := U2) (by omega) (by omega)) cl_X11_410 (qd_c (by decide +kernel)) (nn_ _) rfl (rf_of rfl) (Nat.le_of_ble_eq_true rfl) (Nat.le_of_ble_eq_true rfl) (Nat.le_of_ble_eq_true rfl) rfl ?_
  rintro U5 _ ⟨rfl, hU5⟩
  show J_ zX11_out T (po_X11_out_e T ru m) 0 0 28 _ [] U5
  refine j_blx (F := fX11) tb_X11 (nn_ _) bk_X11_out_e_28 bs_X11_out_e_28 hz (fun K hK => ?_)
  refine hK 31 _ [vI 3, vI m, vR 111 0] U5 ?_
  refine j_callV (y := yX11_liveOf) (Yc := zX11_liveOf) (rest := []) [vI m, vI 3] (ct_X11_liveOf (T := U5) (by omega) (by omega)) cl_X11_400 (qd_c (by decide +kernel)) (nn_ _) rfl (rf_of rfl) (Nat.le_of_ble_eq_true rfl) (Nat.le_of_ble_eq_true rfl) (Nat.le_of_ble_eq_true rfl) rfl ?_
  rintro _ _ ⟨rfl, rfl⟩
  have e6 : U5 246 0 (8 * m + 3) = wr_ ((T 246 0 (8 * m + 3)) + 1) := up_f hU5
  rw [e6]
  show J_ zX11_out T (po_X11_out_e T ru m) 0 0 34 _ [vI (wr_ ((T 246 0 (8 * m + 3)) + 1))] U5
  refine j_blx (F := fX11) tb_X11 (nn_ _) bk_X11_out_e_34 bs_X11_out_e_34 hz (fun K hK => ?_)
  refine And.intro (fun c7 => ?_) (fun c7 => ?_)
  · refine hK 43 _ [] U5 ?_
    refine j_blx (F := fX11) tb_X11 (nn_ _) bk_X11_out_e_43 bs_X11_out_e_43 hz (fun K hK => ?_)
    refine (show po_X11_out_e T ru m U5 (none) from ?_)
    have rU1 : rp9_ U1 m = u2_ (rp9_ T m) 466 0 0 := by rw [rp_u (m := m) (k := 466) (j := 0) hU1 (dm_466 (by omega)) rfl (by show 8 * m + 1 + 0 = _; omega)]
    have rU2 : rp9_ U2 m = u2_ (u2_ (rp9_ T m) 466 0 0) 466 1 0 := by rw [rp_u (m := m) (k := 466) (j := 1) hU2 (dm_466 (by omega)) rfl (by show 8 * m + 1 + 1 = _; omega), rU1]
    have rU5 : rp9_ U5 m = u2_ (u2_ (u2_ (rp9_ T m) 466 0 0) 466 1 0) 467 0 (wr_ ((T 246 0 (8 * m + 3)) + 1)) := by rw [rp_u (m := m) (k := 467) (j := 0) hU5 (dm_467 (by omega)) rfl (by show 8 * m + 3 + 0 = _; omega), rU2]
    refine ⟨rfl, fr_u (fr_u (fr_u (fr_0 _ _) hU1 rfl) hU2 rfl) hU5 rfl, FM__f (ws := [(246, [])]) (FM__f (ws := [(246, [])]) (FM__f (ws := [(246, [])]) (hfm) (fr_u (fr_0 _ _) hU1 rfl) ⟨fun _ => rfl, fun _ => rfl, trivial⟩) (fr_u (fr_0 _ _) hU2 rfl) ⟨fun _ => rfl, fun _ => rfl, trivial⟩) (fr_u (fr_0 _ _) hU5 rfl) ⟨fun _ => rfl, fun _ => rfl, trivial⟩, ro_u (m := m) (k := 467) (j := 0) (ro_u (m := m) (k := 466) (j := 1) (ro_u (m := m) (k := 466) (j := 0) (ro_r) hU1 (dm_466 (by omega)) rfl (by show 8 * m + 1 + 0 = _; omega)) hU2 (dm_466 (by omega)) rfl (by show 8 * m + 1 + 1 = _; omega)) hU5 (dm_467 (by omega)) rfl (by show 8 * m + 3 + 0 = _; omega), ?_⟩
    exact Eq.trans rU5 (Eq.symm (by have g9 := otR__2 (r := ru) (a := rp9_ T m) (show ¬ (wr_ ((rp9_ T m) 467 0 + 1) = 3) by (try simp only [z466_0, z467_1]); omega); (try simp only [z466_0, z467_1] at g9); exact g9))
  · refine hK 40 _ [vI m, vR 111 0] U5 ?_
    refine j_callV (y := yX11_turnSides) (Yc := zX11_turnSides) (rest := []) [vI m] (ct_X11_turnSides_e (T := U5) (ru := ru) (by omega) (FM__f (ws := [(246, [])]) (FM__f (ws := [(246, [])]) (FM__f (ws := [(246, [])]) (hfm) (fr_u (fr_0 _ _) hU1 rfl) ⟨fun _ => rfl, fun _ => rfl, trivial⟩) (fr_u (fr_0 _ _) hU2 rfl) ⟨fun _ => rfl, fun _ => rfl, trivial⟩) (fr_u (fr_0 _ _) hU5 rfl) ⟨fun _ => rfl, fun _ => rfl, trivial⟩) (rlr_f (ws := [(246, [])]) hrl (fr_u (fr_u (fr_u (fr_0 _ _) hU1 rfl) hU2 rfl) hU5 rfl) (fun _ => rfl) (fun _ => rfl))) cl_X11_429 (qd_c (by decide +kernel)) (nn_ _) rfl (rf_of rfl) (Nat.le_of_ble_eq_true rfl) (Nat.le_of_ble_eq_true rfl) (Nat.le_of_ble_eq_true rfl) rfl ?_
    rintro U8 _ ⟨rfl, fU8, ⟨qU8, qU8p, qU8e⟩⟩
    show J_ zX11_out T (po_X11_out_e T ru m) 0 0 43 _ [] U8
    refine j_blx (F := fX11) tb_X11 (nn_ _) bk_X11_out_e_43 bs_X11_out_e_43 hz (fun K hK => ?_)
    refine (show po_X11_out_e T ru m U8 (none) from ?_)
    have rU1 : rp9_ U1 m = u2_ (rp9_ T m) 466 0 0 := by rw [rp_u (m := m) (k := 466) (j := 0) hU1 (dm_466 (by omega)) rfl (by show 8 * m + 1 + 0 = _; omega)]
    have rU2 : rp9_ U2 m = u2_ (u2_ (rp9_ T m) 466 0 0) 466 1 0 := by rw [rp_u (m := m) (k := 466) (j := 1) hU2 (dm_466 (by omega)) rfl (by show 8 * m + 1 + 1 = _; omega), rU1]
    have rU5 : rp9_ U5 m = u2_ (u2_ (u2_ (rp9_ T m) 466 0 0) 466 1 0) 467 0 (wr_ ((T 246 0 (8 * m + 3)) + 1)) := by rw [rp_u (m := m) (k := 467) (j := 0) hU5 (dm_467 (by omega)) rfl (by show 8 * m + 3 + 0 = _; omega), rU2]
    have rU8 : rp9_ U8 m = tsR_ ru (u2_ (u2_ (u2_ (rp9_ T m) 466 0 0) 466 1 0) 467 0 (wr_ ((T 246 0 (8 * m + 3)) + 1))) := by rw [qU8e, rU5]
    refine ⟨rfl, fr_t (fr_u (fr_u (fr_u (fr_0 _ _) hU1 rfl) hU2 rfl) hU5 rfl) (fr_s fU8 rfl), qU8, ro_t (ro_u (m := m) (k := 467) (j := 0) (ro_u (m := m) (k := 466) (j := 1) (ro_u (m := m) (k := 466) (j := 0) (ro_r) hU1 (dm_466 (by omega)) rfl (by show 8 * m + 1 + 0 = _; omega)) hU2 (dm_466 (by omega)) rfl (by show 8 * m + 1 + 1 = _; omega)) hU5 (dm_467 (by omega)) rfl (by show 8 * m + 3 + 0 = _; omega)) qU8p, ?_⟩
    exact Eq.trans rU8 (Eq.symm (by have g9 := otR__1 (r := ru) (a := rp9_ T m) (show wr_ ((rp9_ T m) 467 0 + 1) = 3 by (try simp only [z466_0, z467_1]); omega); (try simp only [z466_0, z467_1] at g9); exact g9))
theorem bk_X11_advance_e_0 : ck_ fX11 none cX11_advance 0 [.aload 0, .iload 1, .iconst 1, .iconst 0] 4 = true := qck_r (nn_ _) (by decide +kernel)
theorem bs_X11_advance_e_0 {P : Zt → Option Zv → Prop} (K : Int → Zl → List Zv → Zt → Prop) : sx_ K P [.aload 0, .iload 1, .iconst 1, .iconst 0] 4 = x_aload 0 (x_iload 1 (x_iconst 1 (x_iconst 0 (K 4)))) := ((xe_aload 0).trans (congrArg (x_aload 0) ((xe_iload 1).trans (congrArg (x_iload 1) ((xe_iconst 1).trans (congrArg (x_iconst 1) ((xe_iconst 0).trans (congrArg (x_iconst 0) xe_nil))))))))
theorem bk_X11_advance_e_7 : ck_ fX11 none cX11_advance 7 [.aload 0, .iload 1, .iconst 2, .iconst 0] 11 = true := qck_r (nn_ _) (by decide +kernel)
theorem bs_X11_advance_e_7 {P : Zt → Option Zv → Prop} (K : Int → Zl → List Zv → Zt → Prop) : sx_ K P [.aload 0, .iload 1, .iconst 2, .iconst 0] 11 = x_aload 0 (x_iload 1 (x_iconst 2 (x_iconst 0 (K 11)))) := ((xe_aload 0).trans (congrArg (x_aload 0) ((xe_iload 1).trans (congrArg (x_iload 1) ((xe_iconst 2).trans (congrArg (x_iconst 2) ((xe_iconst 0).trans (congrArg (x_iconst 0) xe_nil))))))))
theorem bk_X11_advance_e_14 : ck_ fX11 none cX11_advance 14 [.aload 0, .iload 1, .iconst 4, .iload 3] 18 = true := qck_r (nn_ _) (by decide +kernel)
theorem bs_X11_advance_e_14 {P : Zt → Option Zv → Prop} (K : Int → Zl → List Zv → Zt → Prop) : sx_ K P [.aload 0, .iload 1, .iconst 4, .iload 3] 18 = x_aload 0 (x_iload 1 (x_iconst 4 (x_iload 3 (K 18)))) := ((xe_aload 0).trans (congrArg (x_aload 0) ((xe_iload 1).trans (congrArg (x_iload 1) ((xe_iconst 4).trans (congrArg (x_iconst 4) ((xe_iload 3).trans (congrArg (x_iload 3) xe_nil))))))))
theorem bk_X11_advance_e_21 : ck_ fX11 none cX11_advance 21 [.aload 0, .iload 1, .iload 2, .iload 4] 26 = true := qck_r (nn_ _) (by decide +kernel)
theorem bs_X11_advance_e_21 {P : Zt → Option Zv → Prop} (K : Int → Zl → List Zv → Zt → Prop) : sx_ K P [.aload 0, .iload 1, .iload 2, .iload 4] 26 = x_aload 0 (x_iload 1 (x_iload 2 (x_iload 4 (K 26)))) := ((xe_aload 0).trans (congrArg (x_aload 0) ((xe_iload 1).trans (congrArg (x_iload 1) ((xe_iload 2).trans (congrArg (x_iload 2) ((xe_iload 4).trans (congrArg (x_iload 4) xe_nil))))))))
theorem bk_X11_advance_e_29 : ck_ fX11 none cX11_advance 29 [.iload 2, .ifCond .ne 78, .aload 0, .iload 1, .iconst 0] 36 = true := qck_r (nn_ _) (by decide +kernel)
theorem bs_X11_advance_e_29 {P : Zt → Option Zv → Prop} (K : Int → Zl → List Zv → Zt → Prop) : sx_ K P [.iload 2, .ifCond .ne 78, .aload 0, .iload 1, .iconst 0] 36 = x_iload 2 (x_ifCond .ne 78 K (x_aload 0 (x_iload 1 (x_iconst 0 (K 36))))) := ((xe_iload 2).trans (congrArg (x_iload 2) ((xe_ifCond .ne 78).trans (congrArg (x_ifCond .ne 78 K) ((xe_aload 0).trans (congrArg (x_aload 0) ((xe_iload 1).trans (congrArg (x_iload 1) ((xe_iconst 0).trans (congrArg (x_iconst 0) xe_nil))))))))))
theorem bk_X11_advance_e_78 : ck_ fX11 none cX11_advance 78 [.return_] 79 = true := qck_r (nn_ _) (by decide +kernel)
theorem bs_X11_advance_e_78 {P : Zt → Option Zv → Prop} (K : Int → Zl → List Zv → Zt → Prop) : sx_ K P [.return_] 79 = x_return_ P := (xe_return_)
theorem bk_X11_advance_e_39 : ck_ fX11 none cX11_advance 39 [.aload 0, .aload 0, .tableswitch 0 11 30 #[], .iload 1, .iaload, .iconst 11] 48 = true := qck_r (nn_ _) (by decide +kernel)
theorem bs_X11_advance_e_39 {P : Zt → Option Zv → Prop} (K : Int → Zl → List Zv → Zt → Prop) : sx_ K P [.aload 0, .aload 0, .tableswitch 0 11 30 #[], .iload 1, .iaload, .iconst 11] 48 = x_aload 0 (x_aload 0 (x_g1 111 230 (x_iload 1 (x_iaload (x_iconst 11 (K 48)))))) := ((xe_aload 0).trans (congrArg (x_aload 0) ((xe_aload 0).trans (congrArg (x_aload 0) ((xe_g1 (kk := 111) rfl tl_11_30).trans (congrArg (x_g1 111 230) ((xe_iload 1).trans (congrArg (x_iload 1) ((xe_iaload).trans (congrArg (x_iaload) ((xe_iconst 11).trans (congrArg (x_iconst 11) xe_nil))))))))))))
theorem bk_X11_advance_e_51 : ck_ fX11 none cX11_advance 51 [.iconst 1, .fsub, .if_icmp .lt 78, .aload 0, .tableswitch 0 11 36 #[], .iload 1, .iaload, .aload 0, .tableswitch 0 11 37 #[], .iload 1, .iaload, .if_icmp .le 78, .aload 0, .tableswitch 0 11 35 #[], .iload 1, .iconst 2, .iastore, .return_] 79 = true := qck_r (nn_ _) (by decide +kernel)
theorem bs_X11_advance_e_51 {P : Zt → Option Zv → Prop} (K : Int → Zl → List Zv → Zt → Prop) : sx_ K P [.iconst 1, .fsub, .if_icmp .lt 78, .aload 0, .tableswitch 0 11 36 #[], .iload 1, .iaload, .aload 0, .tableswitch 0 11 37 #[], .iload 1, .iaload, .if_icmp .le 78, .aload 0, .tableswitch 0 11 35 #[], .iload 1, .iconst 2, .iastore, .return_] 79 = x_iconst 1 (x_fsub (x_if_icmp .lt 78 K (x_aload 0 (x_g1 111 236 (x_iload 1 (x_iaload (x_aload 0 (x_g1 111 237 (x_iload 1 (x_iaload (x_if_icmp .le 78 K (x_aload 0 (x_g1 111 235 (x_iload 1 (x_iconst 2 (x_iastore (x_return_ P))))))))))))))))) := ((xe_iconst 1).trans (congrArg (x_iconst 1) ((xe_fsub).trans (congrArg (x_fsub) ((xe_if_icmp .lt 78).trans (congrArg (x_if_icmp .lt 78 K) ((xe_aload 0).trans (congrArg (x_aload 0) ((xe_g1 (kk := 111) rfl tl_11_36).trans (congrArg (x_g1 111 236) ((xe_iload 1).trans (congrArg (x_iload 1) ((xe_iaload).trans (congrArg (x_iaload) ((xe_aload 0).trans (congrArg (x_aload 0) ((xe_g1 (kk := 111) rfl tl_11_37).trans (congrArg (x_g1 111 237) ((xe_iload 1).trans (congrArg (x_iload 1) ((xe_iaload).trans (congrArg (x_iaload) ((xe_if_icmp .le 78).trans (congrArg (x_if_icmp .le 78 K) ((xe_aload 0).trans (congrArg (x_aload 0) ((xe_g1 (kk := 111) rfl tl_11_35).trans (congrArg (x_g1 111 235) ((xe_iload 1).trans (congrArg (x_iload 1) ((xe_iconst 2).trans (congrArg (x_iconst 2) ((xe_iastore).trans (congrArg (x_iastore) (xe_return_)))))))))))))))))))))))))))))))))))
abbrev po_X11_advance_e (T : Zt) (ru : Int → Int) (bu : Int) (m s b v : Int) : Zt → Option Zv → Prop := fun T' r => r = none ∧ fr_ [(246, []), (236, []), (237, []), (235, [])] T T' ∧ (FM_ T' ∧ SO_ T T' m ∧ SB1_ T' m (bu + 4) ∧ ro9_ T T' m ∧ rp9_ T' m = avR_ ru (rp9_ T m) s b v)
set_option maxHeartbeats 4000000 in
theorem ct_X11_advance_e {T : Zt} {ru : Int → Int} {bu : Int} {m s b v : Int} (h1 : 0 ≤ m ∧ m < 400) (hfm : FM_ T) (hv : 0 ≤ v ∧ v ≤ 4) (hrl : RLR_ T m ru) (hbu : 9 ≤ bu ∧ bu ≤ 19000) (hsb : SB1_ T m bu) : Ct_ yX11_advance zX11_advance T [vR 111 0, vI m, vI s, vI b, vI v] (po_X11_advance_e T ru bu m s b v) := by
  refine ct_of pn_11 rfl rfl (Nat.le_of_ble_eq_true rfl) (fun hT hav => ?_)
  have hr_m : -2147483648 ≤ m ∧ m ≤ 2147483647 := hav (vI m) (List.mem_cons_of_mem _ List.mem_cons_self)
  have hr_s : -2147483648 ≤ s ∧ s ≤ 2147483647 := hav (vI s) (List.mem_cons_of_mem _ (List.mem_cons_of_mem _ List.mem_cons_self))
  have hr_b : -2147483648 ≤ b ∧ b ≤ 2147483647 := hav (vI b) (List.mem_cons_of_mem _ (List.mem_cons_of_mem _ (List.mem_cons_of_mem _ List.mem_cons_self)))
  have hr_v : -2147483648 ≤ v ∧ v ≤ 2147483647 := hav (vI v) (List.mem_cons_of_mem _ (List.mem_cons_of_mem _ (List.mem_cons_of_mem _ (List.mem_cons_of_mem _ List.mem_cons_self))))
  have hz : zX11_advance.2.2.2.1 = some .boolean → ∀ (T' : Zt) (x : Int), po_X11_advance_e T ru bu m s b v T' (some (vI x)) → 0 ≤ x ∧ x ≤ 1 := fun h => by cases h
  have z103_0 : rp9_ T m 103 4 = T 246 0 (8 * m + 0) := rp_v rfl rfl (by show 8 * m = _; omega)
  have z466_1 : rp9_ T m 466 0 = T 246 0 (8 * m + 1) := rp_v (dm_466 (by omega)) rfl (by show 8 * m + 1 + 0 = _; omega)
  have z468_2 : rp9_ T m 468 0 = T 236 0 m := rp_v rfl rfl (by show m = _; omega)
  have z468_3 : rp9_ T m 468 1 = T 237 0 m := rp_v rfl rfl (by show m = _; omega)
  have hru11 := hrl 11 (by omega) (by omega)
  show J_ zX11_advance T (po_X11_advance_e T ru bu m s b v) 0 0 0 [some (vR 111 0), some (vI m), some (vI s), some (vI b), some (vI v)] [] T
  refine j_blx (F := fX11) tb_X11 (nn_ _) bk_X11_advance_e_0 bs_X11_advance_e_0 hz (fun K hK => ?_)
  refine hK 4 _ [vI 0, vI 1, vI m, vR 111 0] T ?_
  refine j_callV (y := yX11_setLive) (Yc := zX11_setLive) (rest := []) [vI m, vI 1, vI 0] (ct_X11_setLive_e (T := T) (by omega) (by omega)) cl_X11_410 (qd_c (by decide +kernel)) (nn_ _) rfl (rf_of rfl) (Nat.le_of_ble_eq_true rfl) (Nat.le_of_ble_eq_true rfl) (Nat.le_of_ble_eq_true rfl) rfl ?_
  rintro U1 _ ⟨rfl, hU1⟩
  show J_ zX11_advance T (po_X11_advance_e T ru bu m s b v) 0 0 7 _ [] U1
  refine j_blx (F := fX11) tb_X11 (nn_ _) bk_X11_advance_e_7 bs_X11_advance_e_7 hz (fun K hK => ?_)
  refine hK 11 _ [vI 0, vI 2, vI m, vR 111 0] U1 ?_
  refine j_callV (y := yX11_setLive) (Yc := zX11_setLive) (rest := []) [vI m, vI 2, vI 0] (ct_X11_setLive_e (T := U1) (by omega) (by omega)) cl_X11_410 (qd_c (by decide +kernel)) (nn_ _) rfl (rf_of rfl) (Nat.le_of_ble_eq_true rfl) (Nat.le_of_ble_eq_true rfl) (Nat.le_of_ble_eq_true rfl) rfl ?_
  rintro U2 _ ⟨rfl, hU2⟩
  show J_ zX11_advance T (po_X11_advance_e T ru bu m s b v) 0 0 14 _ [] U2
  refine j_blx (F := fX11) tb_X11 (nn_ _) bk_X11_advance_e_14 bs_X11_advance_e_14 hz (fun K hK => ?_)
  refine hK 18 _ [vI b, vI 4, vI m, vR 111 0] U2 ?_
  refine j_callV (y := yX11_setLive) (Yc := zX11_setLive) (rest := []) [vI m, vI 4, vI b] (ct_X11_setLive_e (T := U2) (by omega) (by omega)) cl_X11_410 (qd_c (by decide +kernel)) (nn_ _) rfl (rf_of rfl) (Nat.le_of_ble_eq_true rfl) (Nat.le_of_ble_eq_true rfl) (Nat.le_of_ble_eq_true rfl) rfl ?_
  rintro U3 _ ⟨rfl, hU3⟩
  show J_ zX11_advance T (po_X11_advance_e T ru bu m s b v) 0 0 21 _ [] U3
  refine j_blx (F := fX11) tb_X11 (nn_ _) bk_X11_advance_e_21 bs_X11_advance_e_21 hz (fun K hK => ?_)
  refine hK 26 _ [vI v, vI s, vI m, vR 111 0] U3 ?_
  refine j_callV (y := yX11_addScore) (Yc := zX11_addScore) (rest := []) [vI m, vI s, vI v] (ct_X11_addScore_e (T := U3) (bu := bu) (by omega) (by omega) (by omega) (sb1_f (ws := [(246, [])]) (sb1_f (ws := [(246, [])]) (sb1_f (ws := [(246, [])]) (hsb) (fr_u (fr_0 _ _) hU1 rfl) ⟨fun _ => rfl, fun _ => rfl, fun _ => rfl⟩) (fr_u (fr_0 _ _) hU2 rfl) ⟨fun _ => rfl, fun _ => rfl, fun _ => rfl⟩) (fr_u (fr_0 _ _) hU3 rfl) ⟨fun _ => rfl, fun _ => rfl, fun _ => rfl⟩)) cl_X11_413 (qd_c (by decide +kernel)) (nn_ _) rfl (rf_of rfl) (Nat.le_of_ble_eq_true rfl) (Nat.le_of_ble_eq_true rfl) (Nat.le_of_ble_eq_true rfl) rfl ?_
  rintro U4 _ ⟨rfl, fU4, ⟨qU4o, qU4b, qU4f, qU4p, qU4e⟩⟩
  have e5 : U3 236 0 m = T 236 0 m := (up_k hU3 (by exact Nat.ne_of_beq_eq_false rfl) 0 m).trans ((up_k hU2 (by exact Nat.ne_of_beq_eq_false rfl) 0 m).trans (up_k hU1 (by exact Nat.ne_of_beq_eq_false rfl) 0 m))
  rw [e5] at qU4f
  have e6 : U3 237 0 m = T 237 0 m := (up_k hU3 (by exact Nat.ne_of_beq_eq_false rfl) 0 m).trans ((up_k hU2 (by exact Nat.ne_of_beq_eq_false rfl) 0 m).trans (up_k hU1 (by exact Nat.ne_of_beq_eq_false rfl) 0 m))
  rw [e6] at qU4f
  show J_ zX11_advance T (po_X11_advance_e T ru bu m s b v) 0 0 29 _ [] U4
  refine j_blx (F := fX11) tb_X11 (nn_ _) bk_X11_advance_e_29 bs_X11_advance_e_29 hz (fun K hK => ?_)
  refine And.intro (fun c7 => ?_) (fun c7 => ?_)
  · refine hK 78 _ [] U4 ?_
    refine j_blx (F := fX11) tb_X11 (nn_ _) bk_X11_advance_e_78 bs_X11_advance_e_78 hz (fun K hK => ?_)
    refine (show po_X11_advance_e T ru bu m s b v U4 (none) from ?_)
    have rU1 : rp9_ U1 m = u2_ (rp9_ T m) 466 0 0 := by rw [rp_u (m := m) (k := 466) (j := 0) hU1 (dm_466 (by omega)) rfl (by show 8 * m + 1 + 0 = _; omega)]
    have rU2 : rp9_ U2 m = u2_ (u2_ (rp9_ T m) 466 0 0) 466 1 0 := by rw [rp_u (m := m) (k := 466) (j := 1) hU2 (dm_466 (by omega)) rfl (by show 8 * m + 1 + 1 = _; omega), rU1]
    have rU3 : rp9_ U3 m = u2_ (u2_ (u2_ (rp9_ T m) 466 0 0) 466 1 0) 467 1 b := by rw [rp_u (m := m) (k := 467) (j := 1) hU3 (dm_467 (by omega)) rfl (by show 8 * m + 3 + 1 = _; omega), rU2]
    have rU4 : rp9_ U4 m = adR_ (u2_ (u2_ (u2_ (rp9_ T m) 466 0 0) 466 1 0) 467 1 b) s v := by rw [qU4e, rU3]
    refine ⟨rfl, fr_t (fr_u (fr_u (fr_u (fr_0 _ _) hU1 rfl) hU2 rfl) hU3 rfl) (fr_s fU4 rfl), FM__f (ws := [(236, []), (237, [])]) (FM__f (ws := [(246, [])]) (FM__f (ws := [(246, [])]) (FM__f (ws := [(246, [])]) (hfm) (fr_u (fr_0 _ _) hU1 rfl) ⟨fun _ => rfl, fun _ => rfl, trivial⟩) (fr_u (fr_0 _ _) hU2 rfl) ⟨fun _ => rfl, fun _ => rfl, trivial⟩) (fr_u (fr_0 _ _) hU3 rfl) ⟨fun _ => rfl, fun _ => rfl, trivial⟩) fU4 ⟨fun _ => rfl, fun _ => rfl, trivial⟩, so_t (so_f (ws := [(246, [])]) (so_f (ws := [(246, [])]) (so_f (ws := [(246, [])]) (so_r) (fr_u (fr_0 _ _) hU1 rfl) ⟨fun _ => rfl, fun _ => rfl, fun _ => rfl⟩) (fr_u (fr_0 _ _) hU2 rfl) ⟨fun _ => rfl, fun _ => rfl, fun _ => rfl⟩) (fr_u (fr_0 _ _) hU3 rfl) ⟨fun _ => rfl, fun _ => rfl, fun _ => rfl⟩) qU4o (fun j => (up_k hU3 (by exact Nat.ne_of_beq_eq_false rfl) 0 j).trans ((up_k hU2 (by exact Nat.ne_of_beq_eq_false rfl) 0 j).trans (up_k hU1 (by exact Nat.ne_of_beq_eq_false rfl) 0 j))), qU4b, ro_t (ro_u (m := m) (k := 467) (j := 1) (ro_u (m := m) (k := 466) (j := 1) (ro_u (m := m) (k := 466) (j := 0) (ro_r) hU1 (dm_466 (by omega)) rfl (by show 8 * m + 1 + 0 = _; omega)) hU2 (dm_466 (by omega)) rfl (by show 8 * m + 1 + 1 = _; omega)) hU3 (dm_467 (by omega)) rfl (by show 8 * m + 3 + 1 = _; omega)) qU4p, ?_⟩
    exact Eq.trans rU4 (Eq.symm (by have g9 := avR__2 (r := ru) (a := rp9_ T m) (s := s) (b := b) (v := v) (show ¬ (s = 0 ∧ wr_ (ru 11 - 1) ≤ (rp9_ T m) 103 4 ∧ wr_ ((rp9_ T m) 468 1 + 0) < wr_ ((rp9_ T m) 468 0 + v)) by (try simp only [z103_0, z466_1, z468_2, z468_3, ← hru11]); omega); (try simp only [z103_0, z466_1, z468_2, z468_3, ← hru11] at g9); exact g9))
  · refine hK 36 _ [vI 0, vI m, vR 111 0] U4 ?_
    refine j_callV (y := yX11_liveOf) (Yc := zX11_liveOf) (rest := []) [vI m, vI 0] (ct_X11_liveOf (T := U4) (by omega) (by omega)) cl_X11_400 (qd_c (by decide +kernel)) (nn_ _) rfl (rf_of rfl) (Nat.le_of_ble_eq_true rfl) (Nat.le_of_ble_eq_true rfl) (Nat.le_of_ble_eq_true rfl) rfl ?_
    rintro _ _ ⟨rfl, rfl⟩
    have e8 : U4 246 0 (8 * m + 0) = T 246 0 (8 * m + 0) := (fU4 246 0 (8 * m + 0) rfl).trans ((up_g hU3 (by omega)).trans ((up_g hU2 (by omega)).trans (up_g hU1 (by omega))))
    rw [e8]
    show J_ zX11_advance T (po_X11_advance_e T ru bu m s b v) 0 0 39 _ [vI (T 246 0 (8 * m + 0))] U4
    refine j_blx (F := fX11) tb_X11 (nn_ _) bk_X11_advance_e_39 bs_X11_advance_e_39 hz (fun K hK => ?_)
    refine ix_i (by omega) ?_
    intro b9 b9b
    have e10 : U4 230 0 m = T 230 0 m := (fU4 230 0 m rfl).trans ((up_k hU3 (by exact Nat.ne_of_beq_eq_false rfl) 0 m).trans ((up_k hU2 (by exact Nat.ne_of_beq_eq_false rfl) 0 m).trans (up_k hU1 (by exact Nat.ne_of_beq_eq_false rfl) 0 m)))
    rw [e10] at b9 b9b ⊢
    refine hK 48 _ [vI 11, vI (T 230 0 m), vR 111 0, vI (T 246 0 (8 * m + 0))] U4 ?_
    refine j_callV (y := yX11_rule0) (Yc := zX11_rule0) (rest := [vI (T 246 0 (8 * m + 0))]) [vI (T 230 0 m), vI 11] (ct_X11_rule0 (T := U4) (by omega) (by omega)) cl_X11_321 (qd_c (by decide +kernel)) (nn_ _) rfl (rf_of rfl) (Nat.le_of_ble_eq_true rfl) (Nat.le_of_ble_eq_true rfl) (Nat.le_of_ble_eq_true rfl) rfl ?_
    rintro _ _ ⟨rfl, rfl⟩
    have e11 : U4 205 0 (23 * (T 230 0 m) + 11) = T 205 0 (23 * (T 230 0 m) + 11) := (fU4 205 0 (23 * (T 230 0 m) + 11) rfl).trans ((up_k hU3 (by exact Nat.ne_of_beq_eq_false rfl) 0 (23 * (T 230 0 m) + 11)).trans ((up_k hU2 (by exact Nat.ne_of_beq_eq_false rfl) 0 (23 * (T 230 0 m) + 11)).trans (up_k hU1 (by exact Nat.ne_of_beq_eq_false rfl) 0 (23 * (T 230 0 m) + 11))))
    rw [e11]
    show J_ zX11_advance T (po_X11_advance_e T ru bu m s b v) 0 0 51 _ [vI (T 205 0 (23 * (T 230 0 m) + 11)), vI (T 246 0 (8 * m + 0))] U4
    refine j_blx (F := fX11) tb_X11 (nn_ _) bk_X11_advance_e_51 bs_X11_advance_e_51 hz (fun K hK => ?_)
    intro w12 w12b
    refine And.intro (fun c13 => ?_) (fun c13 => ?_)
    · refine hK 78 _ [] U4 ?_
      refine j_blx (F := fX11) tb_X11 (nn_ _) bk_X11_advance_e_78 bs_X11_advance_e_78 hz (fun K hK => ?_)
      refine (show po_X11_advance_e T ru bu m s b v U4 (none) from ?_)
      have rU1 : rp9_ U1 m = u2_ (rp9_ T m) 466 0 0 := by rw [rp_u (m := m) (k := 466) (j := 0) hU1 (dm_466 (by omega)) rfl (by show 8 * m + 1 + 0 = _; omega)]
      have rU2 : rp9_ U2 m = u2_ (u2_ (rp9_ T m) 466 0 0) 466 1 0 := by rw [rp_u (m := m) (k := 466) (j := 1) hU2 (dm_466 (by omega)) rfl (by show 8 * m + 1 + 1 = _; omega), rU1]
      have rU3 : rp9_ U3 m = u2_ (u2_ (u2_ (rp9_ T m) 466 0 0) 466 1 0) 467 1 b := by rw [rp_u (m := m) (k := 467) (j := 1) hU3 (dm_467 (by omega)) rfl (by show 8 * m + 3 + 1 = _; omega), rU2]
      have rU4 : rp9_ U4 m = adR_ (u2_ (u2_ (u2_ (rp9_ T m) 466 0 0) 466 1 0) 467 1 b) s v := by rw [qU4e, rU3]
      refine ⟨rfl, fr_t (fr_u (fr_u (fr_u (fr_0 _ _) hU1 rfl) hU2 rfl) hU3 rfl) (fr_s fU4 rfl), FM__f (ws := [(236, []), (237, [])]) (FM__f (ws := [(246, [])]) (FM__f (ws := [(246, [])]) (FM__f (ws := [(246, [])]) (hfm) (fr_u (fr_0 _ _) hU1 rfl) ⟨fun _ => rfl, fun _ => rfl, trivial⟩) (fr_u (fr_0 _ _) hU2 rfl) ⟨fun _ => rfl, fun _ => rfl, trivial⟩) (fr_u (fr_0 _ _) hU3 rfl) ⟨fun _ => rfl, fun _ => rfl, trivial⟩) fU4 ⟨fun _ => rfl, fun _ => rfl, trivial⟩, so_t (so_f (ws := [(246, [])]) (so_f (ws := [(246, [])]) (so_f (ws := [(246, [])]) (so_r) (fr_u (fr_0 _ _) hU1 rfl) ⟨fun _ => rfl, fun _ => rfl, fun _ => rfl⟩) (fr_u (fr_0 _ _) hU2 rfl) ⟨fun _ => rfl, fun _ => rfl, fun _ => rfl⟩) (fr_u (fr_0 _ _) hU3 rfl) ⟨fun _ => rfl, fun _ => rfl, fun _ => rfl⟩) qU4o (fun j => (up_k hU3 (by exact Nat.ne_of_beq_eq_false rfl) 0 j).trans ((up_k hU2 (by exact Nat.ne_of_beq_eq_false rfl) 0 j).trans (up_k hU1 (by exact Nat.ne_of_beq_eq_false rfl) 0 j))), qU4b, ro_t (ro_u (m := m) (k := 467) (j := 1) (ro_u (m := m) (k := 466) (j := 1) (ro_u (m := m) (k := 466) (j := 0) (ro_r) hU1 (dm_466 (by omega)) rfl (by show 8 * m + 1 + 0 = _; omega)) hU2 (dm_466 (by omega)) rfl (by show 8 * m + 1 + 1 = _; omega)) hU3 (dm_467 (by omega)) rfl (by show 8 * m + 3 + 1 = _; omega)) qU4p, ?_⟩
      exact Eq.trans rU4 (Eq.symm (by have g9 := avR__2 (r := ru) (a := rp9_ T m) (s := s) (b := b) (v := v) (show ¬ (s = 0 ∧ wr_ (ru 11 - 1) ≤ (rp9_ T m) 103 4 ∧ wr_ ((rp9_ T m) 468 1 + 0) < wr_ ((rp9_ T m) 468 0 + v)) by (try simp only [z103_0, z466_1, z468_2, z468_3, ← hru11]); omega); (try simp only [z103_0, z466_1, z468_2, z468_3, ← hru11] at g9); exact g9))
    · refine ix_i (by omega) ?_
      intro b14 b14b
      refine ix_i (by omega) ?_
      intro b15 b15b
      refine And.intro (fun c16 => ?_) (fun c16 => ?_)
      · refine hK 78 _ [] U4 ?_
        refine j_blx (F := fX11) tb_X11 (nn_ _) bk_X11_advance_e_78 bs_X11_advance_e_78 hz (fun K hK => ?_)
        refine (show po_X11_advance_e T ru bu m s b v U4 (none) from ?_)
        have rU1 : rp9_ U1 m = u2_ (rp9_ T m) 466 0 0 := by rw [rp_u (m := m) (k := 466) (j := 0) hU1 (dm_466 (by omega)) rfl (by show 8 * m + 1 + 0 = _; omega)]
        have rU2 : rp9_ U2 m = u2_ (u2_ (rp9_ T m) 466 0 0) 466 1 0 := by rw [rp_u (m := m) (k := 466) (j := 1) hU2 (dm_466 (by omega)) rfl (by show 8 * m + 1 + 1 = _; omega), rU1]
        have rU3 : rp9_ U3 m = u2_ (u2_ (u2_ (rp9_ T m) 466 0 0) 466 1 0) 467 1 b := by rw [rp_u (m := m) (k := 467) (j := 1) hU3 (dm_467 (by omega)) rfl (by show 8 * m + 3 + 1 = _; omega), rU2]
        have rU4 : rp9_ U4 m = adR_ (u2_ (u2_ (u2_ (rp9_ T m) 466 0 0) 466 1 0) 467 1 b) s v := by rw [qU4e, rU3]
        refine ⟨rfl, fr_t (fr_u (fr_u (fr_u (fr_0 _ _) hU1 rfl) hU2 rfl) hU3 rfl) (fr_s fU4 rfl), FM__f (ws := [(236, []), (237, [])]) (FM__f (ws := [(246, [])]) (FM__f (ws := [(246, [])]) (FM__f (ws := [(246, [])]) (hfm) (fr_u (fr_0 _ _) hU1 rfl) ⟨fun _ => rfl, fun _ => rfl, trivial⟩) (fr_u (fr_0 _ _) hU2 rfl) ⟨fun _ => rfl, fun _ => rfl, trivial⟩) (fr_u (fr_0 _ _) hU3 rfl) ⟨fun _ => rfl, fun _ => rfl, trivial⟩) fU4 ⟨fun _ => rfl, fun _ => rfl, trivial⟩, so_t (so_f (ws := [(246, [])]) (so_f (ws := [(246, [])]) (so_f (ws := [(246, [])]) (so_r) (fr_u (fr_0 _ _) hU1 rfl) ⟨fun _ => rfl, fun _ => rfl, fun _ => rfl⟩) (fr_u (fr_0 _ _) hU2 rfl) ⟨fun _ => rfl, fun _ => rfl, fun _ => rfl⟩) (fr_u (fr_0 _ _) hU3 rfl) ⟨fun _ => rfl, fun _ => rfl, fun _ => rfl⟩) qU4o (fun j => (up_k hU3 (by exact Nat.ne_of_beq_eq_false rfl) 0 j).trans ((up_k hU2 (by exact Nat.ne_of_beq_eq_false rfl) 0 j).trans (up_k hU1 (by exact Nat.ne_of_beq_eq_false rfl) 0 j))), qU4b, ro_t (ro_u (m := m) (k := 467) (j := 1) (ro_u (m := m) (k := 466) (j := 1) (ro_u (m := m) (k := 466) (j := 0) (ro_r) hU1 (dm_466 (by omega)) rfl (by show 8 * m + 1 + 0 = _; omega)) hU2 (dm_466 (by omega)) rfl (by show 8 * m + 1 + 1 = _; omega)) hU3 (dm_467 (by omega)) rfl (by show 8 * m + 3 + 1 = _; omega)) qU4p, ?_⟩
        exact Eq.trans rU4 (Eq.symm (by have g9 := avR__2 (r := ru) (a := rp9_ T m) (s := s) (b := b) (v := v) (show ¬ (s = 0 ∧ wr_ (ru 11 - 1) ≤ (rp9_ T m) 103 4 ∧ wr_ ((rp9_ T m) 468 1 + 0) < wr_ ((rp9_ T m) 468 0 + v)) by (try simp only [z103_0, z466_1, z468_2, z468_3, ← hru11]); omega); (try simp only [z103_0, z466_1, z468_2, z468_3, ← hru11] at g9); exact g9))
      · refine iy_i (by omega) (by omega) ?_
        refine x_nm (fun U17 hU17 => ?_)
        have e18 := up_f hU17
        refine (show po_X11_advance_e T ru bu m s b v U17 (none) from ?_)
        have rU1 : rp9_ U1 m = u2_ (rp9_ T m) 466 0 0 := by rw [rp_u (m := m) (k := 466) (j := 0) hU1 (dm_466 (by omega)) rfl (by show 8 * m + 1 + 0 = _; omega)]
        have rU2 : rp9_ U2 m = u2_ (u2_ (rp9_ T m) 466 0 0) 466 1 0 := by rw [rp_u (m := m) (k := 466) (j := 1) hU2 (dm_466 (by omega)) rfl (by show 8 * m + 1 + 1 = _; omega), rU1]
        have rU3 : rp9_ U3 m = u2_ (u2_ (u2_ (rp9_ T m) 466 0 0) 466 1 0) 467 1 b := by rw [rp_u (m := m) (k := 467) (j := 1) hU3 (dm_467 (by omega)) rfl (by show 8 * m + 3 + 1 = _; omega), rU2]
        have rU4 : rp9_ U4 m = adR_ (u2_ (u2_ (u2_ (rp9_ T m) 466 0 0) 466 1 0) 467 1 b) s v := by rw [qU4e, rU3]
        have rU17 : rp9_ U17 m = u2_ (adR_ (u2_ (u2_ (u2_ (rp9_ T m) 466 0 0) 466 1 0) 467 1 b) s v) 103 3 2 := by rw [rp_u (m := m) (k := 103) (j := 3) hU17 rfl rfl (by show m = _; omega), rU4]
        refine ⟨rfl, fr_u (fr_t (fr_u (fr_u (fr_u (fr_0 _ _) hU1 rfl) hU2 rfl) hU3 rfl) (fr_s fU4 rfl)) hU17 rfl, fm_w (FM__f (ws := [(236, []), (237, [])]) (FM__f (ws := [(246, [])]) (FM__f (ws := [(246, [])]) (FM__f (ws := [(246, [])]) (hfm) (fr_u (fr_0 _ _) hU1 rfl) ⟨fun _ => rfl, fun _ => rfl, trivial⟩) (fr_u (fr_0 _ _) hU2 rfl) ⟨fun _ => rfl, fun _ => rfl, trivial⟩) (fr_u (fr_0 _ _) hU3 rfl) ⟨fun _ => rfl, fun _ => rfl, trivial⟩) fU4 ⟨fun _ => rfl, fun _ => rfl, trivial⟩) hU17 (by decide), so_f (ws := [(235, [])]) (so_t (so_f (ws := [(246, [])]) (so_f (ws := [(246, [])]) (so_f (ws := [(246, [])]) (so_r) (fr_u (fr_0 _ _) hU1 rfl) ⟨fun _ => rfl, fun _ => rfl, fun _ => rfl⟩) (fr_u (fr_0 _ _) hU2 rfl) ⟨fun _ => rfl, fun _ => rfl, fun _ => rfl⟩) (fr_u (fr_0 _ _) hU3 rfl) ⟨fun _ => rfl, fun _ => rfl, fun _ => rfl⟩) qU4o (fun j => (up_k hU3 (by exact Nat.ne_of_beq_eq_false rfl) 0 j).trans ((up_k hU2 (by exact Nat.ne_of_beq_eq_false rfl) 0 j).trans (up_k hU1 (by exact Nat.ne_of_beq_eq_false rfl) 0 j)))) (fr_u (fr_0 _ _) hU17 rfl) ⟨fun _ => rfl, fun _ => rfl, fun _ => rfl⟩, sb1_f (ws := [(235, [])]) (qU4b) (fr_u (fr_0 _ _) hU17 rfl) ⟨fun _ => rfl, fun _ => rfl, fun _ => rfl⟩, ro_u (m := m) (k := 103) (j := 3) (ro_t (ro_u (m := m) (k := 467) (j := 1) (ro_u (m := m) (k := 466) (j := 1) (ro_u (m := m) (k := 466) (j := 0) (ro_r) hU1 (dm_466 (by omega)) rfl (by show 8 * m + 1 + 0 = _; omega)) hU2 (dm_466 (by omega)) rfl (by show 8 * m + 1 + 1 = _; omega)) hU3 (dm_467 (by omega)) rfl (by show 8 * m + 3 + 1 = _; omega)) qU4p) hU17 rfl rfl (by show m = _; omega), ?_⟩
        exact Eq.trans rU17 (Eq.symm (by have g9 := avR__1 (r := ru) (a := rp9_ T m) (s := s) (b := b) (v := v) (show s = 0 ∧ wr_ (ru 11 - 1) ≤ (rp9_ T m) 103 4 ∧ wr_ ((rp9_ T m) 468 1 + 0) < wr_ ((rp9_ T m) 468 0 + v) by (try simp only [z103_0, z466_1, z468_2, z468_3, ← hru11]); omega); (try simp only [z103_0, z466_1, z468_2, z468_3, ← hru11] at g9); exact g9))
theorem bk_X11_hit_e_81 : ck_ fX11 none cX11_hit 81 [.iinc 6 1, .goto 9] 87 = true := qck_r (nn_ _) (by decide +kernel)
theorem bs_X11_hit_e_81 {P : Zt → Option Zv → Prop} (K : Int → Zl → List Zv → Zt → Prop) : sx_ K P [.iinc 6 1, .goto 9] 87 = x_iinc 6 1 (x_goto 9 K) := ((xe_iinc 6 1).trans (congrArg (x_iinc 6 1) (xe_goto 9)))
theorem bk_X11_hit_e_42 : ck_ fX11 none cX11_hit 42 [.istore 7, .iload 7, .ifCond .eq 63, .iload 6, .iload 3, .fadd, .iconst 3, .if_icmp .le 63, .iinc 5 1, .goto 81] 63 = true := qck_r (nn_ _) (by decide +kernel)
theorem bs_X11_hit_e_42 {P : Zt → Option Zv → Prop} (K : Int → Zl → List Zv → Zt → Prop) : sx_ K P [.istore 7, .iload 7, .ifCond .eq 63, .iload 6, .iload 3, .fadd, .iconst 3, .if_icmp .le 63, .iinc 5 1, .goto 81] 63 = x_istore 7 (x_iload 7 (x_ifCond .eq 63 K (x_iload 6 (x_iload 3 (x_fadd (x_iconst 3 (x_if_icmp .le 63 K (x_iinc 5 1 (x_goto 81 K))))))))) := ((xe_istore 7).trans (congrArg (x_istore 7) ((xe_iload 7).trans (congrArg (x_iload 7) ((xe_ifCond .eq 63).trans (congrArg (x_ifCond .eq 63 K) ((xe_iload 6).trans (congrArg (x_iload 6) ((xe_iload 3).trans (congrArg (x_iload 3) ((xe_fadd).trans (congrArg (x_fadd) ((xe_iconst 3).trans (congrArg (x_iconst 3) ((xe_if_icmp .le 63).trans (congrArg (x_if_icmp .le 63 K) ((xe_iinc 5 1).trans (congrArg (x_iinc 5 1) (xe_goto 81)))))))))))))))))))
theorem bk_X11_hit_e_63 : ck_ fX11 none cX11_hit 63 [.iload 7, .ifCond .eq 81, .iload 4, .iconst 1, .iload 6, .iload 3, .fadd, .iconst 1, .fsub, .ishl, .ior, .istore 4] 81 = true := qck_r (nn_ _) (by decide +kernel)
theorem bs_X11_hit_e_63 {P : Zt → Option Zv → Prop} (K : Int → Zl → List Zv → Zt → Prop) : sx_ K P [.iload 7, .ifCond .eq 81, .iload 4, .iconst 1, .iload 6, .iload 3, .fadd, .iconst 1, .fsub, .ishl, .ior, .istore 4] 81 = x_iload 7 (x_ifCond .eq 81 K (x_iload 4 (x_iconst 1 (x_iload 6 (x_iload 3 (x_fadd (x_iconst 1 (x_fsub (x_ishl (x_ior (x_istore 4 (K 81)))))))))))) := ((xe_iload 7).trans (congrArg (x_iload 7) ((xe_ifCond .eq 81).trans (congrArg (x_ifCond .eq 81 K) ((xe_iload 4).trans (congrArg (x_iload 4) ((xe_iconst 1).trans (congrArg (x_iconst 1) ((xe_iload 6).trans (congrArg (x_iload 6) ((xe_iload 3).trans (congrArg (x_iload 3) ((xe_fadd).trans (congrArg (x_fadd) ((xe_iconst 1).trans (congrArg (x_iconst 1) ((xe_fsub).trans (congrArg (x_fsub) ((xe_ishl).trans (congrArg (x_ishl) ((xe_ior).trans (congrArg (x_ior) ((xe_istore 4).trans (congrArg (x_istore 4) xe_nil))))))))))))))))))))))))
theorem bk_X11_hit_e_9 : ck_ fX11 none cX11_hit 9 [.iload 6, .iconst 3, .if_icmp .gt 87, .iload 6, .ifCond .eq 37, .aload 0, .iload 1, .iconst 4] 23 = true := qck_r (nn_ _) (by decide +kernel)
theorem bs_X11_hit_e_9 {P : Zt → Option Zv → Prop} (K : Int → Zl → List Zv → Zt → Prop) : sx_ K P [.iload 6, .iconst 3, .if_icmp .gt 87, .iload 6, .ifCond .eq 37, .aload 0, .iload 1, .iconst 4] 23 = x_iload 6 (x_iconst 3 (x_if_icmp .gt 87 K (x_iload 6 (x_ifCond .eq 37 K (x_aload 0 (x_iload 1 (x_iconst 4 (K 23)))))))) := ((xe_iload 6).trans (congrArg (x_iload 6) ((xe_iconst 3).trans (congrArg (x_iconst 3) ((xe_if_icmp .gt 87).trans (congrArg (x_if_icmp .gt 87 K) ((xe_iload 6).trans (congrArg (x_iload 6) ((xe_ifCond .eq 37).trans (congrArg (x_ifCond .eq 37 K) ((xe_aload 0).trans (congrArg (x_aload 0) ((xe_iload 1).trans (congrArg (x_iload 1) ((xe_iconst 4).trans (congrArg (x_iconst 4) xe_nil))))))))))))))))
theorem bk_X11_hit_e_87 : ck_ fX11 none cX11_hit 87 [.aload 0, .iload 1, .iload 2, .iload 4, .iload 5] 94 = true := qck_r (nn_ _) (by decide +kernel)
theorem bs_X11_hit_e_87 {P : Zt → Option Zv → Prop} (K : Int → Zl → List Zv → Zt → Prop) : sx_ K P [.aload 0, .iload 1, .iload 2, .iload 4, .iload 5] 94 = x_aload 0 (x_iload 1 (x_iload 2 (x_iload 4 (x_iload 5 (K 94))))) := ((xe_aload 0).trans (congrArg (x_aload 0) ((xe_iload 1).trans (congrArg (x_iload 1) ((xe_iload 2).trans (congrArg (x_iload 2) ((xe_iload 4).trans (congrArg (x_iload 4) ((xe_iload 5).trans (congrArg (x_iload 5) xe_nil))))))))))
theorem bk_X11_hit_e_97 : ck_ fX11 none cX11_hit 97 [.return_] 98 = true := qck_r (nn_ _) (by decide +kernel)
theorem bs_X11_hit_e_97 {P : Zt → Option Zv → Prop} (K : Int → Zl → List Zv → Zt → Prop) : sx_ K P [.return_] 98 = x_return_ P := (xe_return_)
theorem bk_X11_hit_e_37 : ck_ fX11 none cX11_hit 37 [.iconst 1, .goto 42] 41 = true := qck_r (nn_ _) (by decide +kernel)
theorem bs_X11_hit_e_37 {P : Zt → Option Zv → Prop} (K : Int → Zl → List Zv → Zt → Prop) : sx_ K P [.iconst 1, .goto 42] 41 = x_iconst 1 (x_goto 42 K) := ((xe_iconst 1).trans (congrArg (x_iconst 1) (xe_goto 42)))
theorem bk_X11_hit_e_26 : ck_ fX11 none cX11_hit 26 [.iload 6, .iconst 1, .isub, .ishr, .iconst 1, .iand, .iconst 1, .if_icmp .ne 41, .iconst 1, .goto 42] 41 = true := qck_r (nn_ _) (by decide +kernel)
theorem bs_X11_hit_e_26 {P : Zt → Option Zv → Prop} (K : Int → Zl → List Zv → Zt → Prop) : sx_ K P [.iload 6, .iconst 1, .isub, .ishr, .iconst 1, .iand, .iconst 1, .if_icmp .ne 41, .iconst 1, .goto 42] 41 = x_iload 6 (x_iconst 1 (x_isub (x_ishr (x_iconst 1 (x_iand (x_iconst 1 (x_if_icmp .ne 41 K (x_iconst 1 (x_goto 42 K))))))))) := ((xe_iload 6).trans (congrArg (x_iload 6) ((xe_iconst 1).trans (congrArg (x_iconst 1) ((xe_isub).trans (congrArg (x_isub) ((xe_ishr).trans (congrArg (x_ishr) ((xe_iconst 1).trans (congrArg (x_iconst 1) ((xe_iand).trans (congrArg (x_iand) ((xe_iconst 1).trans (congrArg (x_iconst 1) ((xe_if_icmp .ne 41).trans (congrArg (x_if_icmp .ne 41 K) ((xe_iconst 1).trans (congrArg (x_iconst 1) (xe_goto 42)))))))))))))))))))
theorem bk_X11_hit_e_41 : ck_ fX11 none cX11_hit 41 [.iconst 0] 42 = true := qck_r (nn_ _) (by decide +kernel)
theorem bs_X11_hit_e_41 {P : Zt → Option Zv → Prop} (K : Int → Zl → List Zv → Zt → Prop) : sx_ K P [.iconst 0] 42 = x_iconst 0 (K 42) := ((xe_iconst 0).trans (congrArg (x_iconst 0) xe_nil))
theorem bk_X11_hit_e_0 : ck_ fX11 none cX11_hit 0 [.iconst 0, .istore 4, .iconst 0, .istore 5, .iconst 0, .istore 6] 9 = true := qck_r (nn_ _) (by decide +kernel)
theorem bs_X11_hit_e_0 {P : Zt → Option Zv → Prop} (K : Int → Zl → List Zv → Zt → Prop) : sx_ K P [.iconst 0, .istore 4, .iconst 0, .istore 5, .iconst 0, .istore 6] 9 = x_iconst 0 (x_istore 4 (x_iconst 0 (x_istore 5 (x_iconst 0 (x_istore 6 (K 9)))))) := ((xe_iconst 0).trans (congrArg (x_iconst 0) ((xe_istore 4).trans (congrArg (x_istore 4) ((xe_iconst 0).trans (congrArg (x_iconst 0) ((xe_istore 5).trans (congrArg (x_istore 5) ((xe_iconst 0).trans (congrArg (x_iconst 0) ((xe_istore 6).trans (congrArg (x_istore 6) xe_nil))))))))))))
abbrev po_X11_hit_e (T : Zt) (ru : Int → Int) (bu : Int) (m s v : Int) : Zt → Option Zv → Prop := fun T' r => r = none ∧ fr_ [(246, []), (236, []), (237, []), (235, [])] T T' ∧ (FM_ T' ∧ SO_ T T' m ∧ SB1_ T' m (bu + 4) ∧ ro9_ T T' m ∧ rp9_ T' m = htR_ ru (rp9_ T m) s v)
set_option maxHeartbeats 4000000 in
theorem ct_X11_hit_e {T : Zt} {ru : Int → Int} {bu : Int} {m s v : Int} (h1 : 0 ≤ m ∧ m < 400) (hfm : FM_ T) (hrl : RLR_ T m ru) (hbu : 9 ≤ bu ∧ bu ≤ 19000) (hsb : SB1_ T m bu) : Ct_ yX11_hit zX11_hit T [vR 111 0, vI m, vI s, vI v] (po_X11_hit_e T ru bu m s v) := by
  refine ct_of pn_11 rfl rfl (Nat.le_of_ble_eq_true rfl) (fun hT hav => ?_)
  have hr_m : -2147483648 ≤ m ∧ m ≤ 2147483647 := hav (vI m) (List.mem_cons_of_mem _ List.mem_cons_self)
  have hr_s : -2147483648 ≤ s ∧ s ≤ 2147483647 := hav (vI s) (List.mem_cons_of_mem _ (List.mem_cons_of_mem _ List.mem_cons_self))
  have hr_v : -2147483648 ≤ v ∧ v ≤ 2147483647 := hav (vI v) (List.mem_cons_of_mem _ (List.mem_cons_of_mem _ (List.mem_cons_of_mem _ List.mem_cons_self)))
  have hz : zX11_hit.2.2.2.1 = some .boolean → ∀ (T' : Zt) (x : Int), po_X11_hit_e T ru bu m s v T' (some (vI x)) → 0 ≤ x ∧ x ≤ 1 := fun h => by cases h
  have z467_0 : rp9_ T m 467 1 = T 246 0 (8 * m + 4) := rp_v (dm_467 (by omega)) rfl (by show 8 * m + 3 + 1 = _; omega)
  show J_ zX11_hit T (po_X11_hit_e T ru bu m s v) 0 0 0 [some (vR 111 0), some (vI m), some (vI s), some (vI v), none, none, none, none] [] T
  have c_9 : ∀ (nn : Nat) (b : Int) (u : Int) (i : Int), ((4 - i).toNat) ≤ nn → (0 ≤ i ∧ i ≤ 4 ∧ 0 ≤ u ∧ u ≤ i) → (b = (hbR_ (T 246 0 (8 * m + 4)) v i.toNat).1) → (u = (hbR_ (T 246 0 (8 * m + 4)) v i.toNat).2) → J_ zX11_hit T (po_X11_hit_e T ru bu m s v) 0 0 9 [some (vR 111 0), some (vI m), some (vI s), some (vI v), some (vI b), some (vI u), some (vI i), none] [] T := by
    intro nn
    induction nn using Nat.strongRecOn with
    | _ nn ih_9 =>
      intro b u i hm_9 i1 e1 e2
      replace hm_9 := fun (_ : Unit) => hm_9
      have c_81 : ∀ (b2 : Int) (u2 : Int), (i ≤ 3 ∧ 0 ≤ u2 ∧ u2 ≤ i + 1) → (b2 = (hbR_ (T 246 0 (8 * m + 4)) v (i + 1).toNat).1) → (u2 = (hbR_ (T 246 0 (8 * m + 4)) v (i + 1).toNat).2) → J_ zX11_hit T (po_X11_hit_e T ru bu m s v) 0 0 81 [some (vR 111 0), some (vI m), some (vI s), some (vI v), some (vI b2), some (vI u2), some (vI i), none] [] T := by
        intro b2 u2 i2 g1 g2
        refine j_blx (F := fX11) tb_X11 (nn_ _) bk_X11_hit_e_81 bs_X11_hit_e_81 hz (fun K hK => ?_)
        refine rg_i (by omega) ?_
        refine hK 9 [some (vR 111 0), some (vI m), some (vI s), some (vI v), some (vI b2), some (vI u2), some (vI (i + 1)), none] [] T ?_
        refine ih_9 _ ?_ b2 u2 (i + 1) (Nat.le_refl _) ?_ ?_ ?_
        · have hm_9 := hm_9 (); omega
        · omega
        · exact g1
        · exact g2
      have c_42 : ∀ (w : Int), (i ≤ 3) → ((w = 1 ∧ (i = 0 ∨ an_ (sr_ (T 246 0 (8 * m + 4)) (i - 1)) 1 = 1)) ∨ (w = 0 ∧ ¬ (i = 0 ∨ an_ (sr_ (T 246 0 (8 * m + 4)) (i - 1)) 1 = 1))) → J_ zX11_hit T (po_X11_hit_e T ru bu m s v) 0 0 42 [some (vR 111 0), some (vI m), some (vI s), some (vI v), some (vI b), some (vI u), some (vI i), none] [vI w] T := by
        intro w i3 w1
        refine j_blx (F := fX11) tb_X11 (nn_ _) bk_X11_hit_e_42 bs_X11_hit_e_42 hz (fun K hK => ?_)
        refine And.intro (fun c1 => ?_) (fun c1 => ?_)
        · refine hK 63 [some (vR 111 0), some (vI m), some (vI s), some (vI v), some (vI b), some (vI u), some (vI i), some (vI w)] [] T ?_
          refine j_blx (F := fX11) tb_X11 (nn_ _) bk_X11_hit_e_63 bs_X11_hit_e_63 hz (fun K hK => ?_)
          refine And.intro (fun c2 => ?_) (fun c2 => ?_)
          · refine hK 81 _ [] T ?_
            refine j_drq [some (vR 111 0), some (vI m), some (vI s), some (vI v), some (vI b), some (vI u), some (vI i), none] (drq_s (drq_s (drq_s (drq_s (drq_s (drq_s (drq_s (drq_n drq_0)))))))) ?_
            refine c_81 b u ?_ ?_ ?_
            · omega
            · have ez : ((i.toNat : Nat) : Int) = i := by omega
              rw [show (i + 1).toNat = i.toNat + 1 by omega, hbR_s, ez, if_neg (by omega)]
              exact e1
            · have ez : ((i.toNat : Nat) : Int) = i := by omega
              rw [show (i + 1).toNat = i.toNat + 1 by omega, hbR_s, ez, if_neg (by omega)]
              exact e2
          · intro w3 w3b
            intro w4 w4b
            intro w5 w5b
            intro w6 w6b
            refine hK 81 [some (vR 111 0), some (vI m), some (vI s), some (vI v), some (vI (or_ b (sl_ 1 (wr_ ((wr_ (i + v)) - 1))))), some (vI u), some (vI i), some (vI w)] [] T ?_
            refine j_drq [some (vR 111 0), some (vI m), some (vI s), some (vI v), some (vI (or_ b (sl_ 1 (wr_ ((wr_ (i + v)) - 1))))), some (vI u), some (vI i), none] (drq_s (drq_s (drq_s (drq_s (drq_s (drq_s (drq_s (drq_n drq_0)))))))) ?_
            refine c_81 (or_ b (sl_ 1 (wr_ ((wr_ (i + v)) - 1)))) u ?_ ?_ ?_
            · omega
            · have ez : ((i.toNat : Nat) : Int) = i := by omega
              rw [show (i + 1).toNat = i.toNat + 1 by omega, hbR_s, ez, if_pos (by omega), if_neg (by omega)]
              show _ = or_ (hbR_ (T 246 0 (8 * m + 4)) v i.toNat).1 _
              rw [← e1]
            · have ez : ((i.toNat : Nat) : Int) = i := by omega
              rw [show (i + 1).toNat = i.toNat + 1 by omega, hbR_s, ez, if_pos (by omega), if_neg (by omega)]
              show u = (hbR_ (T 246 0 (8 * m + 4)) v i.toNat).2
              exact e2
        · intro w7 w7b
          refine And.intro (fun c8 => ?_) (fun c8 => ?_)
          · refine hK 63 _ [] T ?_
            refine j_blx (F := fX11) tb_X11 (nn_ _) bk_X11_hit_e_63 bs_X11_hit_e_63 hz (fun K hK => ?_)
            refine And.intro (fun c9 => ?_) (fun c9 => ?_)
            · refine hK 81 _ [] T ?_
              refine j_drq [some (vR 111 0), some (vI m), some (vI s), some (vI v), some (vI b), some (vI u), some (vI i), none] (drq_s (drq_s (drq_s (drq_s (drq_s (drq_s (drq_s (drq_n drq_0)))))))) ?_
              refine c_81 b u ?_ ?_ ?_
              · omega
              · have ez : ((i.toNat : Nat) : Int) = i := by omega
                rw [show (i + 1).toNat = i.toNat + 1 by omega, hbR_s, ez, if_neg (by omega)]
                exact e1
              · have ez : ((i.toNat : Nat) : Int) = i := by omega
                rw [show (i + 1).toNat = i.toNat + 1 by omega, hbR_s, ez, if_neg (by omega)]
                exact e2
            · intro w10 w10b
              intro w11 w11b
              intro w12 w12b
              intro w13 w13b
              refine hK 81 [some (vR 111 0), some (vI m), some (vI s), some (vI v), some (vI (or_ b (sl_ 1 (wr_ ((wr_ (i + v)) - 1))))), some (vI u), some (vI i), some (vI w)] [] T ?_
              refine j_drq [some (vR 111 0), some (vI m), some (vI s), some (vI v), some (vI (or_ b (sl_ 1 (wr_ ((wr_ (i + v)) - 1))))), some (vI u), some (vI i), none] (drq_s (drq_s (drq_s (drq_s (drq_s (drq_s (drq_s (drq_n drq_0)))))))) ?_
              refine c_81 (or_ b (sl_ 1 (wr_ ((wr_ (i + v)) - 1)))) u ?_ ?_ ?_
              · omega
              · have ez : ((i.toNat : Nat) : Int) = i := by omega
                rw [show (i + 1).toNat = i.toNat + 1 by omega, hbR_s, ez, if_pos (by omega), if_neg (by omega)]
                show _ = or_ (hbR_ (T 246 0 (8 * m + 4)) v i.toNat).1 _
                rw [← e1]
              · have ez : ((i.toNat : Nat) : Int) = i := by omega
                rw [show (i + 1).toNat = i.toNat + 1 by omega, hbR_s, ez, if_pos (by omega), if_neg (by omega)]
                show u = (hbR_ (T 246 0 (8 * m + 4)) v i.toNat).2
                exact e2
          · refine rg_i (by omega) ?_
            refine hK 81 [some (vR 111 0), some (vI m), some (vI s), some (vI v), some (vI b), some (vI (u + 1)), some (vI i), some (vI w)] [] T ?_
            refine j_drq [some (vR 111 0), some (vI m), some (vI s), some (vI v), some (vI b), some (vI (u + 1)), some (vI i), none] (drq_s (drq_s (drq_s (drq_s (drq_s (drq_s (drq_s (drq_n drq_0)))))))) ?_
            refine c_81 b (u + 1) ?_ ?_ ?_
            · omega
            · have ez : ((i.toNat : Nat) : Int) = i := by omega
              rw [show (i + 1).toNat = i.toNat + 1 by omega, hbR_s, ez, if_pos (by omega), if_pos (by omega)]
              show b = (hbR_ (T 246 0 (8 * m + 4)) v i.toNat).1
              exact e1
            · have ez : ((i.toNat : Nat) : Int) = i := by omega
              rw [show (i + 1).toNat = i.toNat + 1 by omega, hbR_s, ez, if_pos (by omega), if_pos (by omega)]
              show u + 1 = (hbR_ (T 246 0 (8 * m + 4)) v i.toNat).2 + 1
              omega
      refine j_blx (F := fX11) tb_X11 (nn_ _) bk_X11_hit_e_9 bs_X11_hit_e_9 hz (fun K hK => ?_)
      refine And.intro (fun c14 => ?_) (fun c14 => ?_)
      · refine hK 87 _ [] T ?_
        refine j_blx (F := fX11) tb_X11 (nn_ _) bk_X11_hit_e_87 bs_X11_hit_e_87 hz (fun K hK => ?_)
        refine hK 94 _ [vI u, vI b, vI s, vI m, vR 111 0] T ?_
        refine j_callV (y := yX11_advance) (Yc := zX11_advance) (rest := []) [vI m, vI s, vI b, vI u] (ct_X11_advance_e (T := T) (ru := ru) (bu := bu) (by omega) (hfm) (by omega) (hrl) (by omega) (hsb)) cl_X11_432 (qd_c (by decide +kernel)) (nn_ _) rfl (rf_of rfl) (Nat.le_of_ble_eq_true rfl) (Nat.le_of_ble_eq_true rfl) (Nat.le_of_ble_eq_true rfl) rfl ?_
        rintro U15 _ ⟨rfl, fU15, ⟨qU15, qU15o, qU15b, qU15p, qU15e⟩⟩
        show J_ zX11_hit T (po_X11_hit_e T ru bu m s v) 0 0 97 _ [] U15
        refine j_blx (F := fX11) tb_X11 (nn_ _) bk_X11_hit_e_97 bs_X11_hit_e_97 hz (fun K hK => ?_)
        refine (show po_X11_hit_e T ru bu m s v U15 (none) from ?_)
        have z9 : i.toNat = 4 := by omega
        rw [z9] at e1 e2
        have rU15 : rp9_ U15 m = avR_ ru (rp9_ T m) s b u := qU15e
        refine ⟨rfl, fr_t (fr_0 _ _) (fr_s fU15 rfl), qU15, so_t (so_r) qU15o (fun j => rfl), qU15b, ro_t (ro_r) qU15p, ?_⟩
        exact Eq.trans rU15 (Eq.symm (by have g9 := htR__1 (r := ru) (a := rp9_ T m) (s := s) (v := v); (try simp only [z467_0, ← e1, ← e2] at g9); exact g9))
      · refine And.intro (fun c16 => ?_) (fun c16 => ?_)
        · refine hK 37 _ [] T ?_
          refine j_blx (F := fX11) tb_X11 (nn_ _) bk_X11_hit_e_37 bs_X11_hit_e_37 hz (fun K hK => ?_)
          refine hK 42 _ [vI 1] T ?_
          refine c_42 1 ?_ ?_
          · omega
          · omega
        · refine hK 23 _ [vI 4, vI m, vR 111 0] T ?_
          refine j_callV (y := yX11_liveOf) (Yc := zX11_liveOf) (rest := []) [vI m, vI 4] (ct_X11_liveOf (T := T) (by omega) (by omega)) cl_X11_400 (qd_c (by decide +kernel)) (nn_ _) rfl (rf_of rfl) (Nat.le_of_ble_eq_true rfl) (Nat.le_of_ble_eq_true rfl) (Nat.le_of_ble_eq_true rfl) rfl ?_
          rintro _ _ ⟨rfl, rfl⟩
          show J_ zX11_hit T (po_X11_hit_e T ru bu m s v) 0 0 26 _ [vI (T 246 0 (8 * m + 4))] T
          refine j_blx (F := fX11) tb_X11 (nn_ _) bk_X11_hit_e_26 bs_X11_hit_e_26 hz (fun K hK => ?_)
          refine rg_i (by omega) ?_
          intro w17 w17b
          intro w18 w18b
          refine And.intro (fun c19 => ?_) (fun c19 => ?_)
          · refine hK 41 _ [] T ?_
            refine j_blx (F := fX11) tb_X11 (nn_ _) bk_X11_hit_e_41 bs_X11_hit_e_41 hz (fun K hK => ?_)
            refine hK 42 _ [vI 0] T ?_
            refine c_42 0 ?_ ?_
            · omega
            · omega
          · refine hK 42 _ [vI 1] T ?_
            refine c_42 1 ?_ ?_
            · omega
            · omega
  refine j_blx (F := fX11) tb_X11 (nn_ _) bk_X11_hit_e_0 bs_X11_hit_e_0 hz (fun K hK => ?_)
  refine hK 9 [some (vR 111 0), some (vI m), some (vI s), some (vI v), some (vI 0), some (vI 0), some (vI 0), none] [] T ?_
  refine c_9 _ 0 0 0 (Nat.le_refl _) ?_ ?_ ?_
  · omega
  · rfl
  · rfl
theorem bk_X11_walk_e_0 : ck_ fX11 none cX11_walk 0 [.aload 0, .iload 1, .iconst 4] 3 = true := qck_r (nn_ _) (by decide +kernel)
theorem bs_X11_walk_e_0 {P : Zt → Option Zv → Prop} (K : Int → Zl → List Zv → Zt → Prop) : sx_ K P [.aload 0, .iload 1, .iconst 4] 3 = x_aload 0 (x_iload 1 (x_iconst 4 (K 3))) := ((xe_aload 0).trans (congrArg (x_aload 0) ((xe_iload 1).trans (congrArg (x_iload 1) ((xe_iconst 4).trans (congrArg (x_iconst 4) xe_nil))))))
theorem bk_X11_walk_e_6 : ck_ fX11 none cX11_walk 6 [.istore 3, .iconst 0, .istore 4, .iload 3, .iconst 1, .iand, .ifCond .ne 23, .iload 3, .iconst 1, .ior, .istore 3, .goto 52] 23 = true := qck_r (nn_ _) (by decide +kernel)
theorem bs_X11_walk_e_6 {P : Zt → Option Zv → Prop} (K : Int → Zl → List Zv → Zt → Prop) : sx_ K P [.istore 3, .iconst 0, .istore 4, .iload 3, .iconst 1, .iand, .ifCond .ne 23, .iload 3, .iconst 1, .ior, .istore 3, .goto 52] 23 = x_istore 3 (x_iconst 0 (x_istore 4 (x_iload 3 (x_iconst 1 (x_iand (x_ifCond .ne 23 K (x_iload 3 (x_iconst 1 (x_ior (x_istore 3 (x_goto 52 K))))))))))) := ((xe_istore 3).trans (congrArg (x_istore 3) ((xe_iconst 0).trans (congrArg (x_iconst 0) ((xe_istore 4).trans (congrArg (x_istore 4) ((xe_iload 3).trans (congrArg (x_iload 3) ((xe_iconst 1).trans (congrArg (x_iconst 1) ((xe_iand).trans (congrArg (x_iand) ((xe_ifCond .ne 23).trans (congrArg (x_ifCond .ne 23 K) ((xe_iload 3).trans (congrArg (x_iload 3) ((xe_iconst 1).trans (congrArg (x_iconst 1) ((xe_ior).trans (congrArg (x_ior) ((xe_istore 3).trans (congrArg (x_istore 3) (xe_goto 52)))))))))))))))))))))))
theorem bk_X11_walk_e_23 : ck_ fX11 none cX11_walk 23 [.iload 3, .iconst 2, .iand, .ifCond .ne 36, .iload 3, .iconst 2, .ior, .istore 3, .goto 52] 36 = true := qck_r (nn_ _) (by decide +kernel)
theorem bs_X11_walk_e_23 {P : Zt → Option Zv → Prop} (K : Int → Zl → List Zv → Zt → Prop) : sx_ K P [.iload 3, .iconst 2, .iand, .ifCond .ne 36, .iload 3, .iconst 2, .ior, .istore 3, .goto 52] 36 = x_iload 3 (x_iconst 2 (x_iand (x_ifCond .ne 36 K (x_iload 3 (x_iconst 2 (x_ior (x_istore 3 (x_goto 52 K)))))))) := ((xe_iload 3).trans (congrArg (x_iload 3) ((xe_iconst 2).trans (congrArg (x_iconst 2) ((xe_iand).trans (congrArg (x_iand) ((xe_ifCond .ne 36).trans (congrArg (x_ifCond .ne 36 K) ((xe_iload 3).trans (congrArg (x_iload 3) ((xe_iconst 2).trans (congrArg (x_iconst 2) ((xe_ior).trans (congrArg (x_ior) ((xe_istore 3).trans (congrArg (x_istore 3) (xe_goto 52)))))))))))))))))
theorem bk_X11_walk_e_36 : ck_ fX11 none cX11_walk 36 [.iload 3, .iconst 4, .iand, .ifCond .ne 49, .iload 3, .iconst 4, .ior, .istore 3, .goto 52] 49 = true := qck_r (nn_ _) (by decide +kernel)
theorem bs_X11_walk_e_36 {P : Zt → Option Zv → Prop} (K : Int → Zl → List Zv → Zt → Prop) : sx_ K P [.iload 3, .iconst 4, .iand, .ifCond .ne 49, .iload 3, .iconst 4, .ior, .istore 3, .goto 52] 49 = x_iload 3 (x_iconst 4 (x_iand (x_ifCond .ne 49 K (x_iload 3 (x_iconst 4 (x_ior (x_istore 3 (x_goto 52 K)))))))) := ((xe_iload 3).trans (congrArg (x_iload 3) ((xe_iconst 4).trans (congrArg (x_iconst 4) ((xe_iand).trans (congrArg (x_iand) ((xe_ifCond .ne 49).trans (congrArg (x_ifCond .ne 49 K) ((xe_iload 3).trans (congrArg (x_iload 3) ((xe_iconst 4).trans (congrArg (x_iconst 4) ((xe_ior).trans (congrArg (x_ior) ((xe_istore 3).trans (congrArg (x_istore 3) (xe_goto 52)))))))))))))))))
theorem bk_X11_walk_e_49 : ck_ fX11 none cX11_walk 49 [.iconst 1, .istore 4, .aload 0, .iload 1, .iload 2, .iload 3, .iload 4] 58 = true := qck_r (nn_ _) (by decide +kernel)
theorem bs_X11_walk_e_49 {P : Zt → Option Zv → Prop} (K : Int → Zl → List Zv → Zt → Prop) : sx_ K P [.iconst 1, .istore 4, .aload 0, .iload 1, .iload 2, .iload 3, .iload 4] 58 = x_iconst 1 (x_istore 4 (x_aload 0 (x_iload 1 (x_iload 2 (x_iload 3 (x_iload 4 (K 58))))))) := ((xe_iconst 1).trans (congrArg (x_iconst 1) ((xe_istore 4).trans (congrArg (x_istore 4) ((xe_aload 0).trans (congrArg (x_aload 0) ((xe_iload 1).trans (congrArg (x_iload 1) ((xe_iload 2).trans (congrArg (x_iload 2) ((xe_iload 3).trans (congrArg (x_iload 3) ((xe_iload 4).trans (congrArg (x_iload 4) xe_nil))))))))))))))
theorem bk_X11_walk_e_61 : ck_ fX11 none cX11_walk 61 [.return_] 62 = true := qck_r (nn_ _) (by decide +kernel)
theorem bs_X11_walk_e_61 {P : Zt → Option Zv → Prop} (K : Int → Zl → List Zv → Zt → Prop) : sx_ K P [.return_] 62 = x_return_ P := (xe_return_)
theorem bk_X11_walk_e_52 : ck_ fX11 none cX11_walk 52 [.aload 0, .iload 1, .iload 2, .iload 3, .iload 4] 58 = true := qck_r (nn_ _) (by decide +kernel)
theorem bs_X11_walk_e_52 {P : Zt → Option Zv → Prop} (K : Int → Zl → List Zv → Zt → Prop) : sx_ K P [.aload 0, .iload 1, .iload 2, .iload 3, .iload 4] 58 = x_aload 0 (x_iload 1 (x_iload 2 (x_iload 3 (x_iload 4 (K 58))))) := ((xe_aload 0).trans (congrArg (x_aload 0) ((xe_iload 1).trans (congrArg (x_iload 1) ((xe_iload 2).trans (congrArg (x_iload 2) ((xe_iload 3).trans (congrArg (x_iload 3) ((xe_iload 4).trans (congrArg (x_iload 4) xe_nil))))))))))
abbrev po_X11_walk_e (T : Zt) (ru : Int → Int) (bu : Int) (m s : Int) : Zt → Option Zv → Prop := fun T' r => r = none ∧ fr_ [(246, []), (236, []), (237, []), (235, [])] T T' ∧ (FM_ T' ∧ SO_ T T' m ∧ SB1_ T' m (bu + 4) ∧ ro9_ T T' m ∧ rp9_ T' m = wkR_ ru (rp9_ T m) s)
set_option maxHeartbeats 4000000 in
theorem ct_X11_walk_e {T : Zt} {ru : Int → Int} {bu : Int} {m s : Int} (h1 : 0 ≤ m ∧ m < 400) (hfm : FM_ T) (hrl : RLR_ T m ru) (hbu : 9 ≤ bu ∧ bu ≤ 19000) (hsb : SB1_ T m bu) : Ct_ yX11_walk zX11_walk T [vR 111 0, vI m, vI s] (po_X11_walk_e T ru bu m s) := by
  refine ct_of pn_11 rfl rfl (Nat.le_of_ble_eq_true rfl) (fun hT hav => ?_)
  have hr_m : -2147483648 ≤ m ∧ m ≤ 2147483647 := hav (vI m) (List.mem_cons_of_mem _ List.mem_cons_self)
  have hr_s : -2147483648 ≤ s ∧ s ≤ 2147483647 := hav (vI s) (List.mem_cons_of_mem _ (List.mem_cons_of_mem _ List.mem_cons_self))
  have hz : zX11_walk.2.2.2.1 = some .boolean → ∀ (T' : Zt) (x : Int), po_X11_walk_e T ru bu m s T' (some (vI x)) → 0 ≤ x ∧ x ≤ 1 := fun h => by cases h
  have z467_0 : rp9_ T m 467 1 = T 246 0 (8 * m + 4) := rp_v (dm_467 (by omega)) rfl (by show 8 * m + 3 + 1 = _; omega)
  show J_ zX11_walk T (po_X11_walk_e T ru bu m s) 0 0 0 [some (vR 111 0), some (vI m), some (vI s), none, none] [] T
  refine j_blx (F := fX11) tb_X11 (nn_ _) bk_X11_walk_e_0 bs_X11_walk_e_0 hz (fun K hK => ?_)
  refine hK 3 _ [vI 4, vI m, vR 111 0] T ?_
  refine j_callV (y := yX11_liveOf) (Yc := zX11_liveOf) (rest := []) [vI m, vI 4] (ct_X11_liveOf (T := T) (by omega) (by omega)) cl_X11_400 (qd_c (by decide +kernel)) (nn_ _) rfl (rf_of rfl) (Nat.le_of_ble_eq_true rfl) (Nat.le_of_ble_eq_true rfl) (Nat.le_of_ble_eq_true rfl) rfl ?_
  rintro _ _ ⟨rfl, rfl⟩
  show J_ zX11_walk T (po_X11_walk_e T ru bu m s) 0 0 6 _ [vI (T 246 0 (8 * m + 4))] T
  refine j_blx (F := fX11) tb_X11 (nn_ _) bk_X11_walk_e_6 bs_X11_walk_e_6 hz (fun K hK => ?_)
  intro w1 w1b
  refine And.intro (fun c2 => ?_) (fun c2 => ?_)
  · refine hK 23 [some (vR 111 0), some (vI m), some (vI s), some (vI (T 246 0 (8 * m + 4))), some (vI 0)] [] T ?_
    refine j_blx (F := fX11) tb_X11 (nn_ _) bk_X11_walk_e_23 bs_X11_walk_e_23 hz (fun K hK => ?_)
    intro w3 w3b
    refine And.intro (fun c4 => ?_) (fun c4 => ?_)
    · refine hK 36 _ [] T ?_
      refine j_blx (F := fX11) tb_X11 (nn_ _) bk_X11_walk_e_36 bs_X11_walk_e_36 hz (fun K hK => ?_)
      intro w5 w5b
      refine And.intro (fun c6 => ?_) (fun c6 => ?_)
      · refine hK 49 _ [] T ?_
        refine j_blx (F := fX11) tb_X11 (nn_ _) bk_X11_walk_e_49 bs_X11_walk_e_49 hz (fun K hK => ?_)
        refine hK 58 [some (vR 111 0), some (vI m), some (vI s), some (vI (T 246 0 (8 * m + 4))), some (vI 1)] [vI 1, vI (T 246 0 (8 * m + 4)), vI s, vI m, vR 111 0] T ?_
        refine j_callV (y := yX11_advance) (Yc := zX11_advance) (rest := []) [vI m, vI s, vI (T 246 0 (8 * m + 4)), vI 1] (ct_X11_advance_e (T := T) (ru := ru) (bu := bu) (by omega) (hfm) (by omega) (hrl) (by omega) (hsb)) cl_X11_432 (qd_c (by decide +kernel)) (nn_ _) rfl (rf_of rfl) (Nat.le_of_ble_eq_true rfl) (Nat.le_of_ble_eq_true rfl) (Nat.le_of_ble_eq_true rfl) rfl ?_
        rintro U7 _ ⟨rfl, fU7, ⟨qU7, qU7o, qU7b, qU7p, qU7e⟩⟩
        show J_ zX11_walk T (po_X11_walk_e T ru bu m s) 0 0 61 _ [] U7
        refine j_blx (F := fX11) tb_X11 (nn_ _) bk_X11_walk_e_61 bs_X11_walk_e_61 hz (fun K hK => ?_)
        refine (show po_X11_walk_e T ru bu m s U7 (none) from ?_)
        have rU7 : rp9_ U7 m = avR_ ru (rp9_ T m) s (T 246 0 (8 * m + 4)) 1 := qU7e
        refine ⟨rfl, fr_t (fr_0 _ _) (fr_s fU7 rfl), qU7, so_t (so_r) qU7o (fun j => rfl), qU7b, ro_t (ro_r) qU7p, ?_⟩
        first
        | exact Eq.trans rU7 (Eq.symm (by have g9 := wkR__1 (r := ru) (a := rp9_ T m) (s := s) (show an_ ((rp9_ T m) 467 1) 1 = 0 by (try simp only [z467_0]); omega); (try simp only [z467_0] at g9); exact g9))
        | exact Eq.trans rU7 (Eq.symm (by have g9 := wkR__2 (r := ru) (a := rp9_ T m) (s := s) (show ¬ (an_ ((rp9_ T m) 467 1) 1 = 0) by (try simp only [z467_0]); omega) (show an_ ((rp9_ T m) 467 1) 2 = 0 by (try simp only [z467_0]); omega); (try simp only [z467_0] at g9); exact g9))
        | exact Eq.trans rU7 (Eq.symm (by have g9 := wkR__3 (r := ru) (a := rp9_ T m) (s := s) (show ¬ (an_ ((rp9_ T m) 467 1) 1 = 0) by (try simp only [z467_0]); omega) (show ¬ (an_ ((rp9_ T m) 467 1) 2 = 0) by (try simp only [z467_0]); omega) (show an_ ((rp9_ T m) 467 1) 4 = 0 by (try simp only [z467_0]); omega); (try simp only [z467_0] at g9); exact g9))
        | exact Eq.trans rU7 (Eq.symm (by have g9 := wkR__4 (r := ru) (a := rp9_ T m) (s := s) (show ¬ (an_ ((rp9_ T m) 467 1) 1 = 0) by (try simp only [z467_0]); omega) (show ¬ (an_ ((rp9_ T m) 467 1) 2 = 0) by (try simp only [z467_0]); omega) (show ¬ (an_ ((rp9_ T m) 467 1) 4 = 0) by (try simp only [z467_0]); omega); (try simp only [z467_0] at g9); exact g9))
        | (exfalso; omega)
      · intro w8 w8b
        refine hK 52 [some (vR 111 0), some (vI m), some (vI s), some (vI (or_ (T 246 0 (8 * m + 4)) 4)), some (vI 0)] [] T ?_
        refine j_blx (F := fX11) tb_X11 (nn_ _) bk_X11_walk_e_52 bs_X11_walk_e_52 hz (fun K hK => ?_)
        refine hK 58 _ [vI 0, vI (or_ (T 246 0 (8 * m + 4)) 4), vI s, vI m, vR 111 0] T ?_
        refine j_callV (y := yX11_advance) (Yc := zX11_advance) (rest := []) [vI m, vI s, vI (or_ (T 246 0 (8 * m + 4)) 4), vI 0] (ct_X11_advance_e (T := T) (ru := ru) (bu := bu) (by omega) (hfm) (by omega) (hrl) (by omega) (hsb)) cl_X11_432 (qd_c (by decide +kernel)) (nn_ _) rfl (rf_of rfl) (Nat.le_of_ble_eq_true rfl) (Nat.le_of_ble_eq_true rfl) (Nat.le_of_ble_eq_true rfl) rfl ?_
        rintro U9 _ ⟨rfl, fU9, ⟨qU9, qU9o, qU9b, qU9p, qU9e⟩⟩
        show J_ zX11_walk T (po_X11_walk_e T ru bu m s) 0 0 61 _ [] U9
        refine j_blx (F := fX11) tb_X11 (nn_ _) bk_X11_walk_e_61 bs_X11_walk_e_61 hz (fun K hK => ?_)
        refine (show po_X11_walk_e T ru bu m s U9 (none) from ?_)
        have rU9 : rp9_ U9 m = avR_ ru (rp9_ T m) s (or_ (T 246 0 (8 * m + 4)) 4) 0 := qU9e
        refine ⟨rfl, fr_t (fr_0 _ _) (fr_s fU9 rfl), qU9, so_t (so_r) qU9o (fun j => rfl), qU9b, ro_t (ro_r) qU9p, ?_⟩
        first
        | exact Eq.trans rU9 (Eq.symm (by have g9 := wkR__1 (r := ru) (a := rp9_ T m) (s := s) (show an_ ((rp9_ T m) 467 1) 1 = 0 by (try simp only [z467_0]); omega); (try simp only [z467_0] at g9); exact g9))
        | exact Eq.trans rU9 (Eq.symm (by have g9 := wkR__2 (r := ru) (a := rp9_ T m) (s := s) (show ¬ (an_ ((rp9_ T m) 467 1) 1 = 0) by (try simp only [z467_0]); omega) (show an_ ((rp9_ T m) 467 1) 2 = 0 by (try simp only [z467_0]); omega); (try simp only [z467_0] at g9); exact g9))
        | exact Eq.trans rU9 (Eq.symm (by have g9 := wkR__3 (r := ru) (a := rp9_ T m) (s := s) (show ¬ (an_ ((rp9_ T m) 467 1) 1 = 0) by (try simp only [z467_0]); omega) (show ¬ (an_ ((rp9_ T m) 467 1) 2 = 0) by (try simp only [z467_0]); omega) (show an_ ((rp9_ T m) 467 1) 4 = 0 by (try simp only [z467_0]); omega); (try simp only [z467_0] at g9); exact g9))
        | exact Eq.trans rU9 (Eq.symm (by have g9 := wkR__4 (r := ru) (a := rp9_ T m) (s := s) (show ¬ (an_ ((rp9_ T m) 467 1) 1 = 0) by (try simp only [z467_0]); omega) (show ¬ (an_ ((rp9_ T m) 467 1) 2 = 0) by (try simp only [z467_0]); omega) (show ¬ (an_ ((rp9_ T m) 467 1) 4 = 0) by (try simp only [z467_0]); omega); (try simp only [z467_0] at g9); exact g9))
        | (exfalso; omega)
    · intro w10 w10b
      refine hK 52 [some (vR 111 0), some (vI m), some (vI s), some (vI (or_ (T 246 0 (8 * m + 4)) 2)), some (vI 0)] [] T ?_
      refine j_blx (F := fX11) tb_X11 (nn_ _) bk_X11_walk_e_52 bs_X11_walk_e_52 hz (fun K hK => ?_)
      refine hK 58 _ [vI 0, vI (or_ (T 246 0 (8 * m + 4)) 2), vI s, vI m, vR 111 0] T ?_
      refine j_callV (y := yX11_advance) (Yc := zX11_advance) (rest := []) [vI m, vI s, vI (or_ (T 246 0 (8 * m + 4)) 2), vI 0] (ct_X11_advance_e (T := T) (ru := ru) (bu := bu) (by omega) (hfm) (by omega) (hrl) (by omega) (hsb)) cl_X11_432 (qd_c (by decide +kernel)) (nn_ _) rfl (rf_of rfl) (Nat.le_of_ble_eq_true rfl) (Nat.le_of_ble_eq_true rfl) (Nat.le_of_ble_eq_true rfl) rfl ?_
      rintro U11 _ ⟨rfl, fU11, ⟨qU11, qU11o, qU11b, qU11p, qU11e⟩⟩
      show J_ zX11_walk T (po_X11_walk_e T ru bu m s) 0 0 61 _ [] U11
      refine j_blx (F := fX11) tb_X11 (nn_ _) bk_X11_walk_e_61 bs_X11_walk_e_61 hz (fun K hK => ?_)
      refine (show po_X11_walk_e T ru bu m s U11 (none) from ?_)
      have rU11 : rp9_ U11 m = avR_ ru (rp9_ T m) s (or_ (T 246 0 (8 * m + 4)) 2) 0 := qU11e
      refine ⟨rfl, fr_t (fr_0 _ _) (fr_s fU11 rfl), qU11, so_t (so_r) qU11o (fun j => rfl), qU11b, ro_t (ro_r) qU11p, ?_⟩
      first
      | exact Eq.trans rU11 (Eq.symm (by have g9 := wkR__1 (r := ru) (a := rp9_ T m) (s := s) (show an_ ((rp9_ T m) 467 1) 1 = 0 by (try simp only [z467_0]); omega); (try simp only [z467_0] at g9); exact g9))
      | exact Eq.trans rU11 (Eq.symm (by have g9 := wkR__2 (r := ru) (a := rp9_ T m) (s := s) (show ¬ (an_ ((rp9_ T m) 467 1) 1 = 0) by (try simp only [z467_0]); omega) (show an_ ((rp9_ T m) 467 1) 2 = 0 by (try simp only [z467_0]); omega); (try simp only [z467_0] at g9); exact g9))
      | exact Eq.trans rU11 (Eq.symm (by have g9 := wkR__3 (r := ru) (a := rp9_ T m) (s := s) (show ¬ (an_ ((rp9_ T m) 467 1) 1 = 0) by (try simp only [z467_0]); omega) (show ¬ (an_ ((rp9_ T m) 467 1) 2 = 0) by (try simp only [z467_0]); omega) (show an_ ((rp9_ T m) 467 1) 4 = 0 by (try simp only [z467_0]); omega); (try simp only [z467_0] at g9); exact g9))
      | exact Eq.trans rU11 (Eq.symm (by have g9 := wkR__4 (r := ru) (a := rp9_ T m) (s := s) (show ¬ (an_ ((rp9_ T m) 467 1) 1 = 0) by (try simp only [z467_0]); omega) (show ¬ (an_ ((rp9_ T m) 467 1) 2 = 0) by (try simp only [z467_0]); omega) (show ¬ (an_ ((rp9_ T m) 467 1) 4 = 0) by (try simp only [z467_0]); omega); (try simp only [z467_0] at g9); exact g9))
      | (exfalso; omega)
  · intro w12 w12b
    refine hK 52 [some (vR 111 0), some (vI m), some (vI s), some (vI (or_ (T 246 0 (8 * m + 4)) 1)), some (vI 0)] [] T ?_
    refine j_blx (F := fX11) tb_X11 (nn_ _) bk_X11_walk_e_52 bs_X11_walk_e_52 hz (fun K hK => ?_)
    refine hK 58 _ [vI 0, vI (or_ (T 246 0 (8 * m + 4)) 1), vI s, vI m, vR 111 0] T ?_
    refine j_callV (y := yX11_advance) (Yc := zX11_advance) (rest := []) [vI m, vI s, vI (or_ (T 246 0 (8 * m + 4)) 1), vI 0] (ct_X11_advance_e (T := T) (ru := ru) (bu := bu) (by omega) (hfm) (by omega) (hrl) (by omega) (hsb)) cl_X11_432 (qd_c (by decide +kernel)) (nn_ _) rfl (rf_of rfl) (Nat.le_of_ble_eq_true rfl) (Nat.le_of_ble_eq_true rfl) (Nat.le_of_ble_eq_true rfl) rfl ?_
    rintro U13 _ ⟨rfl, fU13, ⟨qU13, qU13o, qU13b, qU13p, qU13e⟩⟩
    show J_ zX11_walk T (po_X11_walk_e T ru bu m s) 0 0 61 _ [] U13
    refine j_blx (F := fX11) tb_X11 (nn_ _) bk_X11_walk_e_61 bs_X11_walk_e_61 hz (fun K hK => ?_)
    refine (show po_X11_walk_e T ru bu m s U13 (none) from ?_)
    have rU13 : rp9_ U13 m = avR_ ru (rp9_ T m) s (or_ (T 246 0 (8 * m + 4)) 1) 0 := qU13e
    refine ⟨rfl, fr_t (fr_0 _ _) (fr_s fU13 rfl), qU13, so_t (so_r) qU13o (fun j => rfl), qU13b, ro_t (ro_r) qU13p, ?_⟩
    first
    | exact Eq.trans rU13 (Eq.symm (by have g9 := wkR__1 (r := ru) (a := rp9_ T m) (s := s) (show an_ ((rp9_ T m) 467 1) 1 = 0 by (try simp only [z467_0]); omega); (try simp only [z467_0] at g9); exact g9))
    | exact Eq.trans rU13 (Eq.symm (by have g9 := wkR__2 (r := ru) (a := rp9_ T m) (s := s) (show ¬ (an_ ((rp9_ T m) 467 1) 1 = 0) by (try simp only [z467_0]); omega) (show an_ ((rp9_ T m) 467 1) 2 = 0 by (try simp only [z467_0]); omega); (try simp only [z467_0] at g9); exact g9))
    | exact Eq.trans rU13 (Eq.symm (by have g9 := wkR__3 (r := ru) (a := rp9_ T m) (s := s) (show ¬ (an_ ((rp9_ T m) 467 1) 1 = 0) by (try simp only [z467_0]); omega) (show ¬ (an_ ((rp9_ T m) 467 1) 2 = 0) by (try simp only [z467_0]); omega) (show an_ ((rp9_ T m) 467 1) 4 = 0 by (try simp only [z467_0]); omega); (try simp only [z467_0] at g9); exact g9))
    | exact Eq.trans rU13 (Eq.symm (by have g9 := wkR__4 (r := ru) (a := rp9_ T m) (s := s) (show ¬ (an_ ((rp9_ T m) 467 1) 1 = 0) by (try simp only [z467_0]); omega) (show ¬ (an_ ((rp9_ T m) 467 1) 2 = 0) by (try simp only [z467_0]); omega) (show ¬ (an_ ((rp9_ T m) 467 1) 4 = 0) by (try simp only [z467_0]); omega); (try simp only [z467_0] at g9); exact g9))
    | (exfalso; omega)
theorem bk_X11_playBaseball_e_0 : ck_ fX11 none cX11_playBaseball 0 [.iload 2] 1 = true := qck_r (nn_ _) (by decide +kernel)
theorem bs_X11_playBaseball_e_0 {P : Zt → Option Zv → Prop} (K : Int → Zl → List Zv → Zt → Prop) : sx_ K P [.iload 2] 1 = x_iload 2 (K 1) := ((xe_iload 2).trans (congrArg (x_iload 2) xe_nil))
theorem bk_X11_playBaseball_e_28 : ck_ fX11 none cX11_playBaseball 28 [.aload 0, .iload 1, .iload 3, .iload 4] 33 = true := qck_r (nn_ _) (by decide +kernel)
theorem bs_X11_playBaseball_e_28 {P : Zt → Option Zv → Prop} (K : Int → Zl → List Zv → Zt → Prop) : sx_ K P [.aload 0, .iload 1, .iload 3, .iload 4] 33 = x_aload 0 (x_iload 1 (x_iload 3 (x_iload 4 (K 33)))) := ((xe_aload 0).trans (congrArg (x_aload 0) ((xe_iload 1).trans (congrArg (x_iload 1) ((xe_iload 3).trans (congrArg (x_iload 3) ((xe_iload 4).trans (congrArg (x_iload 4) xe_nil))))))))
theorem bk_X11_playBaseball_e_36 : ck_ fX11 none cX11_playBaseball 36 [.goto 109] 39 = true := qck_r (nn_ _) (by decide +kernel)
theorem bs_X11_playBaseball_e_36 {P : Zt → Option Zv → Prop} (K : Int → Zl → List Zv → Zt → Prop) : sx_ K P [.goto 109] 39 = x_goto 109 K := (xe_goto 109)
theorem bk_X11_playBaseball_e_109 : ck_ fX11 none cX11_playBaseball 109 [.return_] 110 = true := qck_r (nn_ _) (by decide +kernel)
theorem bs_X11_playBaseball_e_109 {P : Zt → Option Zv → Prop} (K : Int → Zl → List Zv → Zt → Prop) : sx_ K P [.return_] 110 = x_return_ P := (xe_return_)
theorem bk_X11_playBaseball_e_39 : ck_ fX11 none cX11_playBaseball 39 [.aload 0, .iload 1, .iconst 1, .aload 0, .iload 1, .iconst 1] 45 = true := qck_r (nn_ _) (by decide +kernel)
theorem bs_X11_playBaseball_e_39 {P : Zt → Option Zv → Prop} (K : Int → Zl → List Zv → Zt → Prop) : sx_ K P [.aload 0, .iload 1, .iconst 1, .aload 0, .iload 1, .iconst 1] 45 = x_aload 0 (x_iload 1 (x_iconst 1 (x_aload 0 (x_iload 1 (x_iconst 1 (K 45)))))) := ((xe_aload 0).trans (congrArg (x_aload 0) ((xe_iload 1).trans (congrArg (x_iload 1) ((xe_iconst 1).trans (congrArg (x_iconst 1) ((xe_aload 0).trans (congrArg (x_aload 0) ((xe_iload 1).trans (congrArg (x_iload 1) ((xe_iconst 1).trans (congrArg (x_iconst 1) xe_nil))))))))))))
theorem bk_X11_playBaseball_e_48 : ck_ fX11 none cX11_playBaseball 48 [.iconst 1, .fadd] 50 = true := qck_r (nn_ _) (by decide +kernel)
theorem bs_X11_playBaseball_e_48 {P : Zt → Option Zv → Prop} (K : Int → Zl → List Zv → Zt → Prop) : sx_ K P [.iconst 1, .fadd] 50 = x_iconst 1 (x_fadd (K 50)) := ((xe_iconst 1).trans (congrArg (x_iconst 1) ((xe_fadd).trans (congrArg (x_fadd) xe_nil))))
theorem bk_X11_playBaseball_e_53 : ck_ fX11 none cX11_playBaseball 53 [.aload 0, .iload 1, .iconst 1] 56 = true := qck_r (nn_ _) (by decide +kernel)
theorem bs_X11_playBaseball_e_53 {P : Zt → Option Zv → Prop} (K : Int → Zl → List Zv → Zt → Prop) : sx_ K P [.aload 0, .iload 1, .iconst 1] 56 = x_aload 0 (x_iload 1 (x_iconst 1 (K 56))) := ((xe_aload 0).trans (congrArg (x_aload 0) ((xe_iload 1).trans (congrArg (x_iload 1) ((xe_iconst 1).trans (congrArg (x_iconst 1) xe_nil))))))
theorem bk_X11_playBaseball_e_59 : ck_ fX11 none cX11_playBaseball 59 [.iconst 4, .if_icmp .ne 109, .aload 0, .iload 1, .iload 3] 66 = true := qck_r (nn_ _) (by decide +kernel)
theorem bs_X11_playBaseball_e_59 {P : Zt → Option Zv → Prop} (K : Int → Zl → List Zv → Zt → Prop) : sx_ K P [.iconst 4, .if_icmp .ne 109, .aload 0, .iload 1, .iload 3] 66 = x_iconst 4 (x_if_icmp .ne 109 K (x_aload 0 (x_iload 1 (x_iload 3 (K 66))))) := ((xe_iconst 4).trans (congrArg (x_iconst 4) ((xe_if_icmp .ne 109).trans (congrArg (x_if_icmp .ne 109 K) ((xe_aload 0).trans (congrArg (x_aload 0) ((xe_iload 1).trans (congrArg (x_iload 1) ((xe_iload 3).trans (congrArg (x_iload 3) xe_nil))))))))))
theorem bk_X11_playBaseball_e_69 : ck_ fX11 none cX11_playBaseball 69 [.goto 109] 72 = true := qck_r (nn_ _) (by decide +kernel)
theorem bs_X11_playBaseball_e_69 {P : Zt → Option Zv → Prop} (K : Int → Zl → List Zv → Zt → Prop) : sx_ K P [.goto 109] 72 = x_goto 109 K := (xe_goto 109)
theorem bk_X11_playBaseball_e_72 : ck_ fX11 none cX11_playBaseball 72 [.aload 0, .iload 1, .iconst 2, .aload 0, .iload 1, .iconst 2] 78 = true := qck_r (nn_ _) (by decide +kernel)
theorem bs_X11_playBaseball_e_72 {P : Zt → Option Zv → Prop} (K : Int → Zl → List Zv → Zt → Prop) : sx_ K P [.aload 0, .iload 1, .iconst 2, .aload 0, .iload 1, .iconst 2] 78 = x_aload 0 (x_iload 1 (x_iconst 2 (x_aload 0 (x_iload 1 (x_iconst 2 (K 78)))))) := ((xe_aload 0).trans (congrArg (x_aload 0) ((xe_iload 1).trans (congrArg (x_iload 1) ((xe_iconst 2).trans (congrArg (x_iconst 2) ((xe_aload 0).trans (congrArg (x_aload 0) ((xe_iload 1).trans (congrArg (x_iload 1) ((xe_iconst 2).trans (congrArg (x_iconst 2) xe_nil))))))))))))
theorem bk_X11_playBaseball_e_81 : ck_ fX11 none cX11_playBaseball 81 [.iconst 1, .fadd] 83 = true := qck_r (nn_ _) (by decide +kernel)
theorem bs_X11_playBaseball_e_81 {P : Zt → Option Zv → Prop} (K : Int → Zl → List Zv → Zt → Prop) : sx_ K P [.iconst 1, .fadd] 83 = x_iconst 1 (x_fadd (K 83)) := ((xe_iconst 1).trans (congrArg (x_iconst 1) ((xe_fadd).trans (congrArg (x_fadd) xe_nil))))
theorem bk_X11_playBaseball_e_86 : ck_ fX11 none cX11_playBaseball 86 [.aload 0, .iload 1, .iconst 2] 89 = true := qck_r (nn_ _) (by decide +kernel)
theorem bs_X11_playBaseball_e_86 {P : Zt → Option Zv → Prop} (K : Int → Zl → List Zv → Zt → Prop) : sx_ K P [.aload 0, .iload 1, .iconst 2] 89 = x_aload 0 (x_iload 1 (x_iconst 2 (K 89))) := ((xe_aload 0).trans (congrArg (x_aload 0) ((xe_iload 1).trans (congrArg (x_iload 1) ((xe_iconst 2).trans (congrArg (x_iconst 2) xe_nil))))))
theorem bk_X11_playBaseball_e_92 : ck_ fX11 none cX11_playBaseball 92 [.iconst 3, .if_icmp .ne 109, .aload 0, .iload 1] 98 = true := qck_r (nn_ _) (by decide +kernel)
theorem bs_X11_playBaseball_e_92 {P : Zt → Option Zv → Prop} (K : Int → Zl → List Zv → Zt → Prop) : sx_ K P [.iconst 3, .if_icmp .ne 109, .aload 0, .iload 1] 98 = x_iconst 3 (x_if_icmp .ne 109 K (x_aload 0 (x_iload 1 (K 98)))) := ((xe_iconst 3).trans (congrArg (x_iconst 3) ((xe_if_icmp .ne 109).trans (congrArg (x_if_icmp .ne 109 K) ((xe_aload 0).trans (congrArg (x_aload 0) ((xe_iload 1).trans (congrArg (x_iload 1) xe_nil))))))))
theorem bk_X11_playBaseball_e_101 : ck_ fX11 none cX11_playBaseball 101 [.goto 109] 104 = true := qck_r (nn_ _) (by decide +kernel)
theorem bs_X11_playBaseball_e_101 {P : Zt → Option Zv → Prop} (K : Int → Zl → List Zv → Zt → Prop) : sx_ K P [.goto 109] 104 = x_goto 109 K := (xe_goto 109)
theorem bk_X11_playBaseball_e_104 : ck_ fX11 none cX11_playBaseball 104 [.aload 0, .iload 1] 106 = true := qck_r (nn_ _) (by decide +kernel)
theorem bs_X11_playBaseball_e_104 {P : Zt → Option Zv → Prop} (K : Int → Zl → List Zv → Zt → Prop) : sx_ K P [.aload 0, .iload 1] 106 = x_aload 0 (x_iload 1 (K 106)) := ((xe_aload 0).trans (congrArg (x_aload 0) ((xe_iload 1).trans (congrArg (x_iload 1) xe_nil))))
abbrev po_X11_playBaseball_e (T : Zt) (ru : Int → Int) (bu : Int) (m k s v : Int) : Zt → Option Zv → Prop := fun T' r => r = none ∧ fr_ [(246, []), (236, []), (237, []), (235, [])] T T' ∧ (FM_ T' ∧ SO_ T T' m ∧ SB1_ T' m (bu + 4) ∧ ro9_ T T' m ∧ rp9_ T' m = pbR_ ru (rp9_ T m) k s v)
set_option maxHeartbeats 4000000 in
theorem ct_X11_playBaseball_e {T : Zt} {ru : Int → Int} {bu : Int} {m k s v : Int} (h1 : 0 ≤ m ∧ m < 400) (hfm : FM_ T) (hrl : RLR_ T m ru) (hbu : 9 ≤ bu ∧ bu ≤ 19000) (hsb : SB1_ T m bu) : Ct_ yX11_playBaseball zX11_playBaseball T [vR 111 0, vI m, vI k, vI s, vI v] (po_X11_playBaseball_e T ru bu m k s v) := by
  refine ct_of pn_11 rfl rfl (Nat.le_of_ble_eq_true rfl) (fun hT hav => ?_)
  have hr_m : -2147483648 ≤ m ∧ m ≤ 2147483647 := hav (vI m) (List.mem_cons_of_mem _ List.mem_cons_self)
  have hr_k : -2147483648 ≤ k ∧ k ≤ 2147483647 := hav (vI k) (List.mem_cons_of_mem _ (List.mem_cons_of_mem _ List.mem_cons_self))
  have hr_s : -2147483648 ≤ s ∧ s ≤ 2147483647 := hav (vI s) (List.mem_cons_of_mem _ (List.mem_cons_of_mem _ (List.mem_cons_of_mem _ List.mem_cons_self)))
  have hr_v : -2147483648 ≤ v ∧ v ≤ 2147483647 := hav (vI v) (List.mem_cons_of_mem _ (List.mem_cons_of_mem _ (List.mem_cons_of_mem _ (List.mem_cons_of_mem _ List.mem_cons_self))))
  have hz : zX11_playBaseball.2.2.2.1 = some .boolean → ∀ (T' : Zt) (x : Int), po_X11_playBaseball_e T ru bu m k s v T' (some (vI x)) → 0 ≤ x ∧ x ≤ 1 := fun h => by cases h
  have z466_0 : rp9_ T m 466 0 = T 246 0 (8 * m + 1) := rp_v (dm_466 (by omega)) rfl (by show 8 * m + 1 + 0 = _; omega)
  have z466_1 : rp9_ T m 466 1 = T 246 0 (8 * m + 2) := rp_v (dm_466 (by omega)) rfl (by show 8 * m + 1 + 1 = _; omega)
  show J_ zX11_playBaseball T (po_X11_playBaseball_e T ru bu m k s v) 0 0 0 [some (vR 111 0), some (vI m), some (vI k), some (vI s), some (vI v)] [] T
  refine j_blx (F := fX11) tb_X11 (nn_ _) bk_X11_playBaseball_e_0 bs_X11_playBaseball_e_0 hz (fun K hK => ?_)
  refine hK 1 _ [vI k] T ?_
  by_cases z1_0 : k = 1
  · refine j_tsI (pc := 1) 0 (off := 27) (tgt := 28) (by decide) ds_X11_playBaseball_1 (by omega) (by decide) rfl (by decide) (by decide) ?_
    refine j_blx (F := fX11) tb_X11 (nn_ _) bk_X11_playBaseball_e_28 bs_X11_playBaseball_e_28 hz (fun K hK => ?_)
    refine hK 33 _ [vI v, vI s, vI m, vR 111 0] T ?_
    refine j_callV (y := yX11_hit) (Yc := zX11_hit) (rest := []) [vI m, vI s, vI v] (ct_X11_hit_e (T := T) (ru := ru) (bu := bu) (by omega) (hfm) (hrl) (by omega) (hsb)) cl_X11_435 (qd_c (by decide +kernel)) (nn_ _) rfl (rf_of rfl) (Nat.le_of_ble_eq_true rfl) (Nat.le_of_ble_eq_true rfl) (Nat.le_of_ble_eq_true rfl) rfl ?_
    rintro U2 _ ⟨rfl, fU2, ⟨qU2, qU2o, qU2b, qU2p, qU2e⟩⟩
    show J_ zX11_playBaseball T (po_X11_playBaseball_e T ru bu m k s v) 0 0 36 _ [] U2
    refine j_blx (F := fX11) tb_X11 (nn_ _) bk_X11_playBaseball_e_36 bs_X11_playBaseball_e_36 hz (fun K hK => ?_)
    refine hK 109 _ [] U2 ?_
    refine j_blx (F := fX11) tb_X11 (nn_ _) bk_X11_playBaseball_e_109 bs_X11_playBaseball_e_109 hz (fun K hK => ?_)
    refine (show po_X11_playBaseball_e T ru bu m k s v U2 (none) from ?_)
    have rU2 : rp9_ U2 m = htR_ ru (rp9_ T m) s v := qU2e
    refine ⟨rfl, fr_t (fr_0 _ _) (fr_s fU2 rfl), qU2, so_t (so_r) qU2o (fun j => rfl), qU2b, ro_t (ro_r) qU2p, ?_⟩
    exact Eq.trans rU2 (Eq.symm (by have g9 := pbR__1 (r := ru) (a := rp9_ T m) (k := k) (s := s) (v := v) (show k = 1 by (try simp only [z466_0, z466_1]); omega); (try simp only [z466_0, z466_1] at g9); exact g9))
  by_cases z1_1 : k = 2
  · refine j_tsI (pc := 1) 1 (off := 38) (tgt := 39) (by decide) ds_X11_playBaseball_1 (by omega) (by decide) rfl (by decide) (by decide) ?_
    refine j_blx (F := fX11) tb_X11 (nn_ _) bk_X11_playBaseball_e_39 bs_X11_playBaseball_e_39 hz (fun K hK => ?_)
    refine hK 45 _ [vI 1, vI m, vR 111 0, vI 1, vI m, vR 111 0] T ?_
    refine j_callV (y := yX11_liveOf) (Yc := zX11_liveOf) (rest := [vI 1, vI m, vR 111 0]) [vI m, vI 1] (ct_X11_liveOf (T := T) (by omega) (by omega)) cl_X11_400 (qd_c (by decide +kernel)) (nn_ _) rfl (rf_of rfl) (Nat.le_of_ble_eq_true rfl) (Nat.le_of_ble_eq_true rfl) (Nat.le_of_ble_eq_true rfl) rfl ?_
    rintro _ _ ⟨rfl, rfl⟩
    show J_ zX11_playBaseball T (po_X11_playBaseball_e T ru bu m k s v) 0 0 48 _ [vI (T 246 0 (8 * m + 1)), vI 1, vI m, vR 111 0] T
    refine j_blx (F := fX11) tb_X11 (nn_ _) bk_X11_playBaseball_e_48 bs_X11_playBaseball_e_48 hz (fun K hK => ?_)
    intro w3 w3b
    refine hK 50 _ [vI (wr_ ((T 246 0 (8 * m + 1)) + 1)), vI 1, vI m, vR 111 0] T ?_
    refine j_callV (y := yX11_setLive) (Yc := zX11_setLive) (rest := []) [vI m, vI 1, vI (wr_ ((T 246 0 (8 * m + 1)) + 1))] (ct_X11_setLive_e (T := T) (by omega) (by omega)) cl_X11_410 (qd_c (by decide +kernel)) (nn_ _) rfl (rf_of rfl) (Nat.le_of_ble_eq_true rfl) (Nat.le_of_ble_eq_true rfl) (Nat.le_of_ble_eq_true rfl) rfl ?_
    rintro U4 _ ⟨rfl, hU4⟩
    show J_ zX11_playBaseball T (po_X11_playBaseball_e T ru bu m k s v) 0 0 53 _ [] U4
    refine j_blx (F := fX11) tb_X11 (nn_ _) bk_X11_playBaseball_e_53 bs_X11_playBaseball_e_53 hz (fun K hK => ?_)
    refine hK 56 _ [vI 1, vI m, vR 111 0] U4 ?_
    refine j_callV (y := yX11_liveOf) (Yc := zX11_liveOf) (rest := []) [vI m, vI 1] (ct_X11_liveOf (T := U4) (by omega) (by omega)) cl_X11_400 (qd_c (by decide +kernel)) (nn_ _) rfl (rf_of rfl) (Nat.le_of_ble_eq_true rfl) (Nat.le_of_ble_eq_true rfl) (Nat.le_of_ble_eq_true rfl) rfl ?_
    rintro _ _ ⟨rfl, rfl⟩
    have e5 : U4 246 0 (8 * m + 1) = wr_ ((T 246 0 (8 * m + 1)) + 1) := up_f hU4
    rw [e5]
    show J_ zX11_playBaseball T (po_X11_playBaseball_e T ru bu m k s v) 0 0 59 _ [vI (wr_ ((T 246 0 (8 * m + 1)) + 1))] U4
    refine j_blx (F := fX11) tb_X11 (nn_ _) bk_X11_playBaseball_e_59 bs_X11_playBaseball_e_59 hz (fun K hK => ?_)
    refine And.intro (fun c6 => ?_) (fun c6 => ?_)
    · refine hK 109 _ [] U4 ?_
      refine j_blx (F := fX11) tb_X11 (nn_ _) bk_X11_playBaseball_e_109 bs_X11_playBaseball_e_109 hz (fun K hK => ?_)
      refine (show po_X11_playBaseball_e T ru bu m k s v U4 (none) from ?_)
      have rU4 : rp9_ U4 m = u2_ (rp9_ T m) 466 0 (wr_ ((T 246 0 (8 * m + 1)) + 1)) := by rw [rp_u (m := m) (k := 466) (j := 0) hU4 (dm_466 (by omega)) rfl (by show 8 * m + 1 + 0 = _; omega)]
      refine ⟨rfl, fr_u (fr_0 _ _) hU4 rfl, FM__f (ws := [(246, [])]) (hfm) (fr_u (fr_0 _ _) hU4 rfl) ⟨fun _ => rfl, fun _ => rfl, trivial⟩, so_f (ws := [(246, [])]) (so_r) (fr_u (fr_0 _ _) hU4 rfl) ⟨fun _ => rfl, fun _ => rfl, fun _ => rfl⟩, sb1_f (ws := [(246, [])]) (sb1_m (c := bu + 4) hsb (by omega)) (fr_u (fr_0 _ _) hU4 rfl) ⟨fun _ => rfl, fun _ => rfl, fun _ => rfl⟩, ro_u (m := m) (k := 466) (j := 0) (ro_r) hU4 (dm_466 (by omega)) rfl (by show 8 * m + 1 + 0 = _; omega), ?_⟩
      first
      | exact Eq.trans rU4 (Eq.symm (by have g9 := pbR__3 (r := ru) (a := rp9_ T m) (k := k) (s := s) (v := v) (show ¬ (k = 1) by (try simp only [z466_0, z466_1]); omega) (show k = 2 by (try simp only [z466_0, z466_1]); omega) (show ¬ (wr_ ((rp9_ T m) 466 0 + 1) = 4) by (try simp only [z466_0, z466_1]); omega); (try simp only [z466_0, z466_1] at g9); exact g9))
      | exact Eq.trans rU4 (Eq.symm (by have g9 := pbR__5 (r := ru) (a := rp9_ T m) (k := k) (s := s) (v := v) (show ¬ (k = 1) by (try simp only [z466_0, z466_1]); omega) (show ¬ (k = 2) by (try simp only [z466_0, z466_1]); omega) (show k = 3 by (try simp only [z466_0, z466_1]); omega) (show ¬ (wr_ ((rp9_ T m) 466 1 + 1) = 3) by (try simp only [z466_0, z466_1]); omega); (try simp only [z466_0, z466_1] at g9); exact g9))
      | (exfalso; omega)
    · refine hK 66 _ [vI s, vI m, vR 111 0] U4 ?_
      refine j_callV (y := yX11_walk) (Yc := zX11_walk) (rest := []) [vI m, vI s] (ct_X11_walk_e (T := U4) (ru := ru) (bu := bu) (by omega) (FM__f (ws := [(246, [])]) (hfm) (fr_u (fr_0 _ _) hU4 rfl) ⟨fun _ => rfl, fun _ => rfl, trivial⟩) (rlr_f (ws := [(246, [])]) hrl (fr_u (fr_0 _ _) hU4 rfl) (fun _ => rfl) (fun _ => rfl)) (by omega) (sb1_f (ws := [(246, [])]) (hsb) (fr_u (fr_0 _ _) hU4 rfl) ⟨fun _ => rfl, fun _ => rfl, fun _ => rfl⟩)) cl_X11_438 (qd_c (by decide +kernel)) (nn_ _) rfl (rf_of rfl) (Nat.le_of_ble_eq_true rfl) (Nat.le_of_ble_eq_true rfl) (Nat.le_of_ble_eq_true rfl) rfl ?_
      rintro U7 _ ⟨rfl, fU7, ⟨qU7, qU7o, qU7b, qU7p, qU7e⟩⟩
      show J_ zX11_playBaseball T (po_X11_playBaseball_e T ru bu m k s v) 0 0 69 _ [] U7
      refine j_blx (F := fX11) tb_X11 (nn_ _) bk_X11_playBaseball_e_69 bs_X11_playBaseball_e_69 hz (fun K hK => ?_)
      refine hK 109 _ [] U7 ?_
      refine j_blx (F := fX11) tb_X11 (nn_ _) bk_X11_playBaseball_e_109 bs_X11_playBaseball_e_109 hz (fun K hK => ?_)
      refine (show po_X11_playBaseball_e T ru bu m k s v U7 (none) from ?_)
      have rU4 : rp9_ U4 m = u2_ (rp9_ T m) 466 0 (wr_ ((T 246 0 (8 * m + 1)) + 1)) := by rw [rp_u (m := m) (k := 466) (j := 0) hU4 (dm_466 (by omega)) rfl (by show 8 * m + 1 + 0 = _; omega)]
      have rU7 : rp9_ U7 m = wkR_ ru (u2_ (rp9_ T m) 466 0 (wr_ ((T 246 0 (8 * m + 1)) + 1))) s := by rw [qU7e, rU4]
      refine ⟨rfl, fr_t (fr_u (fr_0 _ _) hU4 rfl) (fr_s fU7 rfl), qU7, so_t (so_f (ws := [(246, [])]) (so_r) (fr_u (fr_0 _ _) hU4 rfl) ⟨fun _ => rfl, fun _ => rfl, fun _ => rfl⟩) qU7o (fun j => up_k hU4 (by exact Nat.ne_of_beq_eq_false rfl) 0 j), qU7b, ro_t (ro_u (m := m) (k := 466) (j := 0) (ro_r) hU4 (dm_466 (by omega)) rfl (by show 8 * m + 1 + 0 = _; omega)) qU7p, ?_⟩
      exact Eq.trans rU7 (Eq.symm (by have g9 := pbR__2 (r := ru) (a := rp9_ T m) (k := k) (s := s) (v := v) (show ¬ (k = 1) by (try simp only [z466_0, z466_1]); omega) (show k = 2 by (try simp only [z466_0, z466_1]); omega) (show wr_ ((rp9_ T m) 466 0 + 1) = 4 by (try simp only [z466_0, z466_1]); omega); (try simp only [z466_0, z466_1] at g9); exact g9))
  by_cases z1_2 : k = 3
  · refine j_tsI (pc := 1) 2 (off := 71) (tgt := 72) (by decide) ds_X11_playBaseball_1 (by omega) (by decide) rfl (by decide) (by decide) ?_
    refine j_blx (F := fX11) tb_X11 (nn_ _) bk_X11_playBaseball_e_72 bs_X11_playBaseball_e_72 hz (fun K hK => ?_)
    refine hK 78 _ [vI 2, vI m, vR 111 0, vI 2, vI m, vR 111 0] T ?_
    refine j_callV (y := yX11_liveOf) (Yc := zX11_liveOf) (rest := [vI 2, vI m, vR 111 0]) [vI m, vI 2] (ct_X11_liveOf (T := T) (by omega) (by omega)) cl_X11_400 (qd_c (by decide +kernel)) (nn_ _) rfl (rf_of rfl) (Nat.le_of_ble_eq_true rfl) (Nat.le_of_ble_eq_true rfl) (Nat.le_of_ble_eq_true rfl) rfl ?_
    rintro _ _ ⟨rfl, rfl⟩
    show J_ zX11_playBaseball T (po_X11_playBaseball_e T ru bu m k s v) 0 0 81 _ [vI (T 246 0 (8 * m + 2)), vI 2, vI m, vR 111 0] T
    refine j_blx (F := fX11) tb_X11 (nn_ _) bk_X11_playBaseball_e_81 bs_X11_playBaseball_e_81 hz (fun K hK => ?_)
    intro w8 w8b
    refine hK 83 _ [vI (wr_ ((T 246 0 (8 * m + 2)) + 1)), vI 2, vI m, vR 111 0] T ?_
    refine j_callV (y := yX11_setLive) (Yc := zX11_setLive) (rest := []) [vI m, vI 2, vI (wr_ ((T 246 0 (8 * m + 2)) + 1))] (ct_X11_setLive_e (T := T) (by omega) (by omega)) cl_X11_410 (qd_c (by decide +kernel)) (nn_ _) rfl (rf_of rfl) (Nat.le_of_ble_eq_true rfl) (Nat.le_of_ble_eq_true rfl) (Nat.le_of_ble_eq_true rfl) rfl ?_
    rintro U9 _ ⟨rfl, hU9⟩
    show J_ zX11_playBaseball T (po_X11_playBaseball_e T ru bu m k s v) 0 0 86 _ [] U9
    refine j_blx (F := fX11) tb_X11 (nn_ _) bk_X11_playBaseball_e_86 bs_X11_playBaseball_e_86 hz (fun K hK => ?_)
    refine hK 89 _ [vI 2, vI m, vR 111 0] U9 ?_
    refine j_callV (y := yX11_liveOf) (Yc := zX11_liveOf) (rest := []) [vI m, vI 2] (ct_X11_liveOf (T := U9) (by omega) (by omega)) cl_X11_400 (qd_c (by decide +kernel)) (nn_ _) rfl (rf_of rfl) (Nat.le_of_ble_eq_true rfl) (Nat.le_of_ble_eq_true rfl) (Nat.le_of_ble_eq_true rfl) rfl ?_
    rintro _ _ ⟨rfl, rfl⟩
    have e10 : U9 246 0 (8 * m + 2) = wr_ ((T 246 0 (8 * m + 2)) + 1) := up_f hU9
    rw [e10]
    show J_ zX11_playBaseball T (po_X11_playBaseball_e T ru bu m k s v) 0 0 92 _ [vI (wr_ ((T 246 0 (8 * m + 2)) + 1))] U9
    refine j_blx (F := fX11) tb_X11 (nn_ _) bk_X11_playBaseball_e_92 bs_X11_playBaseball_e_92 hz (fun K hK => ?_)
    refine And.intro (fun c11 => ?_) (fun c11 => ?_)
    · refine hK 109 _ [] U9 ?_
      refine j_blx (F := fX11) tb_X11 (nn_ _) bk_X11_playBaseball_e_109 bs_X11_playBaseball_e_109 hz (fun K hK => ?_)
      refine (show po_X11_playBaseball_e T ru bu m k s v U9 (none) from ?_)
      have rU9 : rp9_ U9 m = u2_ (rp9_ T m) 466 1 (wr_ ((T 246 0 (8 * m + 2)) + 1)) := by rw [rp_u (m := m) (k := 466) (j := 1) hU9 (dm_466 (by omega)) rfl (by show 8 * m + 1 + 1 = _; omega)]
      refine ⟨rfl, fr_u (fr_0 _ _) hU9 rfl, FM__f (ws := [(246, [])]) (hfm) (fr_u (fr_0 _ _) hU9 rfl) ⟨fun _ => rfl, fun _ => rfl, trivial⟩, so_f (ws := [(246, [])]) (so_r) (fr_u (fr_0 _ _) hU9 rfl) ⟨fun _ => rfl, fun _ => rfl, fun _ => rfl⟩, sb1_f (ws := [(246, [])]) (sb1_m (c := bu + 4) hsb (by omega)) (fr_u (fr_0 _ _) hU9 rfl) ⟨fun _ => rfl, fun _ => rfl, fun _ => rfl⟩, ro_u (m := m) (k := 466) (j := 1) (ro_r) hU9 (dm_466 (by omega)) rfl (by show 8 * m + 1 + 1 = _; omega), ?_⟩
      first
      | exact Eq.trans rU9 (Eq.symm (by have g9 := pbR__3 (r := ru) (a := rp9_ T m) (k := k) (s := s) (v := v) (show ¬ (k = 1) by (try simp only [z466_0, z466_1]); omega) (show k = 2 by (try simp only [z466_0, z466_1]); omega) (show ¬ (wr_ ((rp9_ T m) 466 0 + 1) = 4) by (try simp only [z466_0, z466_1]); omega); (try simp only [z466_0, z466_1] at g9); exact g9))
      | exact Eq.trans rU9 (Eq.symm (by have g9 := pbR__5 (r := ru) (a := rp9_ T m) (k := k) (s := s) (v := v) (show ¬ (k = 1) by (try simp only [z466_0, z466_1]); omega) (show ¬ (k = 2) by (try simp only [z466_0, z466_1]); omega) (show k = 3 by (try simp only [z466_0, z466_1]); omega) (show ¬ (wr_ ((rp9_ T m) 466 1 + 1) = 3) by (try simp only [z466_0, z466_1]); omega); (try simp only [z466_0, z466_1] at g9); exact g9))
      | (exfalso; omega)
    · refine hK 98 _ [vI m, vR 111 0] U9 ?_
      refine j_callV (y := yX11_out) (Yc := zX11_out) (rest := []) [vI m] (ct_X11_out_e (T := U9) (ru := ru) (by omega) (FM__f (ws := [(246, [])]) (hfm) (fr_u (fr_0 _ _) hU9 rfl) ⟨fun _ => rfl, fun _ => rfl, trivial⟩) (rlr_f (ws := [(246, [])]) hrl (fr_u (fr_0 _ _) hU9 rfl) (fun _ => rfl) (fun _ => rfl))) cl_X11_441 (qd_c (by decide +kernel)) (nn_ _) rfl (rf_of rfl) (Nat.le_of_ble_eq_true rfl) (Nat.le_of_ble_eq_true rfl) (Nat.le_of_ble_eq_true rfl) rfl ?_
      rintro U12 _ ⟨rfl, fU12, ⟨qU12, qU12p, qU12e⟩⟩
      show J_ zX11_playBaseball T (po_X11_playBaseball_e T ru bu m k s v) 0 0 101 _ [] U12
      refine j_blx (F := fX11) tb_X11 (nn_ _) bk_X11_playBaseball_e_101 bs_X11_playBaseball_e_101 hz (fun K hK => ?_)
      refine hK 109 _ [] U12 ?_
      refine j_blx (F := fX11) tb_X11 (nn_ _) bk_X11_playBaseball_e_109 bs_X11_playBaseball_e_109 hz (fun K hK => ?_)
      refine (show po_X11_playBaseball_e T ru bu m k s v U12 (none) from ?_)
      have rU9 : rp9_ U9 m = u2_ (rp9_ T m) 466 1 (wr_ ((T 246 0 (8 * m + 2)) + 1)) := by rw [rp_u (m := m) (k := 466) (j := 1) hU9 (dm_466 (by omega)) rfl (by show 8 * m + 1 + 1 = _; omega)]
      have rU12 : rp9_ U12 m = otR_ ru (u2_ (rp9_ T m) 466 1 (wr_ ((T 246 0 (8 * m + 2)) + 1))) := by rw [qU12e, rU9]
      refine ⟨rfl, fr_t (fr_u (fr_0 _ _) hU9 rfl) (fr_s fU12 rfl), qU12, so_f (ws := [(246, []), (235, [])]) (so_f (ws := [(246, [])]) (so_r) (fr_u (fr_0 _ _) hU9 rfl) ⟨fun _ => rfl, fun _ => rfl, fun _ => rfl⟩) fU12 ⟨fun _ => rfl, fun _ => rfl, fun _ => rfl⟩, sb1_f (ws := [(246, []), (235, [])]) (sb1_f (ws := [(246, [])]) (sb1_m (c := bu + 4) hsb (by omega)) (fr_u (fr_0 _ _) hU9 rfl) ⟨fun _ => rfl, fun _ => rfl, fun _ => rfl⟩) fU12 ⟨fun _ => rfl, fun _ => rfl, fun _ => rfl⟩, ro_t (ro_u (m := m) (k := 466) (j := 1) (ro_r) hU9 (dm_466 (by omega)) rfl (by show 8 * m + 1 + 1 = _; omega)) qU12p, ?_⟩
      exact Eq.trans rU12 (Eq.symm (by have g9 := pbR__4 (r := ru) (a := rp9_ T m) (k := k) (s := s) (v := v) (show ¬ (k = 1) by (try simp only [z466_0, z466_1]); omega) (show ¬ (k = 2) by (try simp only [z466_0, z466_1]); omega) (show k = 3 by (try simp only [z466_0, z466_1]); omega) (show wr_ ((rp9_ T m) 466 1 + 1) = 3 by (try simp only [z466_0, z466_1]); omega); (try simp only [z466_0, z466_1] at g9); exact g9))
  refine j_tsO (pc := 1) (tgt := 104) (by decide) ds_X11_playBaseball_1 (by omega) (by decide) (by decide) ?_
  refine j_blx (F := fX11) tb_X11 (nn_ _) bk_X11_playBaseball_e_104 bs_X11_playBaseball_e_104 hz (fun K hK => ?_)
  refine hK 106 _ [vI m, vR 111 0] T ?_
  refine j_callV (y := yX11_out) (Yc := zX11_out) (rest := []) [vI m] (ct_X11_out_e (T := T) (ru := ru) (by omega) (hfm) (hrl)) cl_X11_441 (qd_c (by decide +kernel)) (nn_ _) rfl (rf_of rfl) (Nat.le_of_ble_eq_true rfl) (Nat.le_of_ble_eq_true rfl) (Nat.le_of_ble_eq_true rfl) rfl ?_
  rintro U13 _ ⟨rfl, fU13, ⟨qU13, qU13p, qU13e⟩⟩
  show J_ zX11_playBaseball T (po_X11_playBaseball_e T ru bu m k s v) 0 0 109 _ [] U13
  refine j_blx (F := fX11) tb_X11 (nn_ _) bk_X11_playBaseball_e_109 bs_X11_playBaseball_e_109 hz (fun K hK => ?_)
  refine (show po_X11_playBaseball_e T ru bu m k s v U13 (none) from ?_)
  have rU13 : rp9_ U13 m = otR_ ru (rp9_ T m) := qU13e
  refine ⟨rfl, fr_t (fr_0 _ _) (fr_s fU13 rfl), qU13, so_f (ws := [(246, []), (235, [])]) (so_r) fU13 ⟨fun _ => rfl, fun _ => rfl, fun _ => rfl⟩, sb1_f (ws := [(246, []), (235, [])]) (sb1_m (c := bu + 4) hsb (by omega)) fU13 ⟨fun _ => rfl, fun _ => rfl, fun _ => rfl⟩, ro_t (ro_r) qU13p, ?_⟩
  exact Eq.trans rU13 (Eq.symm (by have g9 := pbR__6 (r := ru) (a := rp9_ T m) (k := k) (s := s) (v := v) (show ¬ (k = 1) by (try simp only [z466_0, z466_1]); omega) (show ¬ (k = 2) by (try simp only [z466_0, z466_1]); omega) (show ¬ (k = 3) by (try simp only [z466_0, z466_1]); omega); (try simp only [z466_0, z466_1] at g9); exact g9))
theorem bk_X11_play_e_0 : ck_ fX11 none cX11_play 0 [.aload 0, .aload 0, .tableswitch 0 11 30 #[], .iload 1, .iaload, .iconst 0] 8 = true := qck_r (nn_ _) (by decide +kernel)
theorem bs_X11_play_e_0 {P : Zt → Option Zv → Prop} (K : Int → Zl → List Zv → Zt → Prop) : sx_ K P [.aload 0, .aload 0, .tableswitch 0 11 30 #[], .iload 1, .iaload, .iconst 0] 8 = x_aload 0 (x_aload 0 (x_g1 111 230 (x_iload 1 (x_iaload (x_iconst 0 (K 8)))))) := ((xe_aload 0).trans (congrArg (x_aload 0) ((xe_aload 0).trans (congrArg (x_aload 0) ((xe_g1 (kk := 111) rfl tl_11_30).trans (congrArg (x_g1 111 230) ((xe_iload 1).trans (congrArg (x_iload 1) ((xe_iaload).trans (congrArg (x_iaload) ((xe_iconst 0).trans (congrArg (x_iconst 0) xe_nil))))))))))))
theorem bk_X11_play_e_36 : ck_ fX11 none cX11_play 36 [.aload 0, .iload 1, .iload 2, .iload 3, .iload 4, .iload 5] 44 = true := qck_r (nn_ _) (by decide +kernel)
theorem bs_X11_play_e_36 {P : Zt → Option Zv → Prop} (K : Int → Zl → List Zv → Zt → Prop) : sx_ K P [.aload 0, .iload 1, .iload 2, .iload 3, .iload 4, .iload 5] 44 = x_aload 0 (x_iload 1 (x_iload 2 (x_iload 3 (x_iload 4 (x_iload 5 (K 44)))))) := ((xe_aload 0).trans (congrArg (x_aload 0) ((xe_iload 1).trans (congrArg (x_iload 1) ((xe_iload 2).trans (congrArg (x_iload 2) ((xe_iload 3).trans (congrArg (x_iload 3) ((xe_iload 4).trans (congrArg (x_iload 4) ((xe_iload 5).trans (congrArg (x_iload 5) xe_nil))))))))))))
theorem bk_X11_play_e_47 : ck_ fX11 none cX11_play 47 [.goto 83] 50 = true := qck_r (nn_ _) (by decide +kernel)
theorem bs_X11_play_e_47 {P : Zt → Option Zv → Prop} (K : Int → Zl → List Zv → Zt → Prop) : sx_ K P [.goto 83] 50 = x_goto 83 K := (xe_goto 83)
theorem bk_X11_play_e_83 : ck_ fX11 none cX11_play 83 [.return_] 84 = true := qck_r (nn_ _) (by decide +kernel)
theorem bs_X11_play_e_83 {P : Zt → Option Zv → Prop} (K : Int → Zl → List Zv → Zt → Prop) : sx_ K P [.return_] 84 = x_return_ P := (xe_return_)
theorem bk_X11_play_e_50 : ck_ fX11 none cX11_play 50 [.aload 0, .iload 1, .iload 2, .iload 3, .iload 4, .iload 5] 58 = true := qck_r (nn_ _) (by decide +kernel)
theorem bs_X11_play_e_50 {P : Zt → Option Zv → Prop} (K : Int → Zl → List Zv → Zt → Prop) : sx_ K P [.aload 0, .iload 1, .iload 2, .iload 3, .iload 4, .iload 5] 58 = x_aload 0 (x_iload 1 (x_iload 2 (x_iload 3 (x_iload 4 (x_iload 5 (K 58)))))) := ((xe_aload 0).trans (congrArg (x_aload 0) ((xe_iload 1).trans (congrArg (x_iload 1) ((xe_iload 2).trans (congrArg (x_iload 2) ((xe_iload 3).trans (congrArg (x_iload 3) ((xe_iload 4).trans (congrArg (x_iload 4) ((xe_iload 5).trans (congrArg (x_iload 5) xe_nil))))))))))))
theorem bk_X11_play_e_61 : ck_ fX11 none cX11_play 61 [.goto 83] 64 = true := qck_r (nn_ _) (by decide +kernel)
theorem bs_X11_play_e_61 {P : Zt → Option Zv → Prop} (K : Int → Zl → List Zv → Zt → Prop) : sx_ K P [.goto 83] 64 = x_goto 83 K := (xe_goto 83)
theorem bk_X11_play_e_64 : ck_ fX11 none cX11_play 64 [.aload 0, .iload 1, .iload 2, .iload 3] 68 = true := qck_r (nn_ _) (by decide +kernel)
theorem bs_X11_play_e_64 {P : Zt → Option Zv → Prop} (K : Int → Zl → List Zv → Zt → Prop) : sx_ K P [.aload 0, .iload 1, .iload 2, .iload 3] 68 = x_aload 0 (x_iload 1 (x_iload 2 (x_iload 3 (K 68)))) := ((xe_aload 0).trans (congrArg (x_aload 0) ((xe_iload 1).trans (congrArg (x_iload 1) ((xe_iload 2).trans (congrArg (x_iload 2) ((xe_iload 3).trans (congrArg (x_iload 3) xe_nil))))))))
theorem bk_X11_play_e_71 : ck_ fX11 none cX11_play 71 [.goto 83] 74 = true := qck_r (nn_ _) (by decide +kernel)
theorem bs_X11_play_e_71 {P : Zt → Option Zv → Prop} (K : Int → Zl → List Zv → Zt → Prop) : sx_ K P [.goto 83] 74 = x_goto 83 K := (xe_goto 83)
theorem bk_X11_play_e_74 : ck_ fX11 none cX11_play 74 [.aload 0, .iload 1, .iload 2, .iload 3, .iload 5] 80 = true := qck_r (nn_ _) (by decide +kernel)
theorem bs_X11_play_e_74 {P : Zt → Option Zv → Prop} (K : Int → Zl → List Zv → Zt → Prop) : sx_ K P [.aload 0, .iload 1, .iload 2, .iload 3, .iload 5] 80 = x_aload 0 (x_iload 1 (x_iload 2 (x_iload 3 (x_iload 5 (K 80))))) := ((xe_aload 0).trans (congrArg (x_aload 0) ((xe_iload 1).trans (congrArg (x_iload 1) ((xe_iload 2).trans (congrArg (x_iload 2) ((xe_iload 3).trans (congrArg (x_iload 3) ((xe_iload 5).trans (congrArg (x_iload 5) xe_nil))))))))))
abbrev po_X11_play_e (T : Zt) (ru : Int → Int) (bu : Int) (m k s p q : Int) : Zt → Option Zv → Prop := fun T' r => r = none ∧ fr_ [(244, []), (241, []), (242, []), (243, []), (245, []), (246, []), (236, []), (237, []), (235, [])] T T' ∧ (FM_ T' ∧ SO_ T T' m ∧ SB1_ T' m (bu + 4) ∧ ro9_ T T' m ∧ rp9_ T' m = plR_ ru (rp9_ T m) m k s p q)
set_option maxHeartbeats 4000000 in
theorem ct_X11_play_e {T : Zt} {ru : Int → Int} {bu : Int} {m k s p q : Int} (h1 : 0 ≤ m ∧ m < T 111 0 29) (hmc : MC_ T) (hri : RI_ T) (hfm : FM_ T) (hl : LW_ T m k s p q) (hrl : RLR_ T m ru) (hbu : 9 ≤ bu ∧ bu ≤ 19000) (hsb : SB1_ T m bu) : Ct_ yX11_play zX11_play T [vR 111 0, vI m, vI k, vI s, vI p, vI q] (po_X11_play_e T ru bu m k s p q) := by
  refine ct_of pn_11 rfl rfl (Nat.le_of_ble_eq_true rfl) (fun hT hav => ?_)
  have hr_m : -2147483648 ≤ m ∧ m ≤ 2147483647 := hav (vI m) (List.mem_cons_of_mem _ List.mem_cons_self)
  have hr_k : -2147483648 ≤ k ∧ k ≤ 2147483647 := hav (vI k) (List.mem_cons_of_mem _ (List.mem_cons_of_mem _ List.mem_cons_self))
  have hr_s : -2147483648 ≤ s ∧ s ≤ 2147483647 := hav (vI s) (List.mem_cons_of_mem _ (List.mem_cons_of_mem _ (List.mem_cons_of_mem _ List.mem_cons_self)))
  have hr_p : -2147483648 ≤ p ∧ p ≤ 2147483647 := hav (vI p) (List.mem_cons_of_mem _ (List.mem_cons_of_mem _ (List.mem_cons_of_mem _ (List.mem_cons_of_mem _ List.mem_cons_self))))
  have hr_q : -2147483648 ≤ q ∧ q ≤ 2147483647 := hav (vI q) (List.mem_cons_of_mem _ (List.mem_cons_of_mem _ (List.mem_cons_of_mem _ (List.mem_cons_of_mem _ (List.mem_cons_of_mem _ List.mem_cons_self)))))
  have hz : zX11_play.2.2.2.1 = some .boolean → ∀ (T' : Zt) (x : Int), po_X11_play_e T ru bu m k s p q T' (some (vI x)) → 0 ≤ x ∧ x ≤ 1 := fun h => by cases h
  have hb_29 : 0 ≤ T 111 0 29 ∧ T 111 0 29 ≤ 400 := bd_f hT 111 29 tl_11_29 0
  have hcb : 0 ≤ T 230 0 m ∧ T 230 0 m ≤ 3 := bd_a hT 230 (by decide +kernel : ta_ 230 = some (1, some 400, 0, 3)) 0 (by omega)
  obtain ⟨hgo, l0, l1, l2⟩ := hl
  have hcm := hmc m (by omega) (by omega)
  have hr0 : (0 : Int) ≤ T 205 0 (23 * T 230 0 m + 0) ∧ T 205 0 (23 * T 230 0 m + 0) ≤ (3 : Int) := hri (T 230 0 m) 0 (by omega) (by omega) (by omega) (by omega)
  have hru0 := hrl 0 (by omega) (by omega)
  show J_ zX11_play T (po_X11_play_e T ru bu m k s p q) 0 0 0 [some (vR 111 0), some (vI m), some (vI k), some (vI s), some (vI p), some (vI q)] [] T
  refine j_blx (F := fX11) tb_X11 (nn_ _) bk_X11_play_e_0 bs_X11_play_e_0 hz (fun K hK => ?_)
  refine ix_i (by omega) ?_
  intro b1 b1b
  refine hK 8 _ [vI 0, vI (T 230 0 m), vR 111 0] T ?_
  refine j_callV (y := yX11_rule0) (Yc := zX11_rule0) (rest := []) [vI (T 230 0 m), vI 0] (ct_X11_rule0 (T := T) (by omega) (by omega)) cl_X11_321 (qd_c (by decide +kernel)) (nn_ _) rfl (rf_of rfl) (Nat.le_of_ble_eq_true rfl) (Nat.le_of_ble_eq_true rfl) (Nat.le_of_ble_eq_true rfl) rfl ?_
  rintro _ _ ⟨rfl, rfl⟩
  show J_ zX11_play T (po_X11_play_e T ru bu m k s p q) 0 0 11 _ [vI (T 205 0 (23 * (T 230 0 m) + 0))] T
  by_cases z2_0 : (T 205 0 (23 * (T 230 0 m) + 0)) = 0
  · refine j_tsI (pc := 11) 0 (off := 25) (tgt := 36) (by decide) ds_X11_play_11 (by omega) (by decide) rfl (by decide) (by decide) ?_
    refine j_blx (F := fX11) tb_X11 (nn_ _) bk_X11_play_e_36 bs_X11_play_e_36 hz (fun K hK => ?_)
    refine hK 44 _ [vI q, vI p, vI s, vI k, vI m, vR 111 0] T ?_
    refine j_callV (y := yX11_playFootball) (Yc := zX11_playFootball) (rest := []) [vI m, vI k, vI s, vI p, vI q] (ct_X11_playFootball_e (T := T) (ru := ru) (bu := bu) (by omega) (by exact hmc) (by exact hri) (by exact hfm) (by exact hgo) (by exact ⟨(l0 (by omega)).1, (l0 (by omega)).2.1⟩) (by exact (l0 (by omega)).2.2.1.imp id (fun y => ⟨y.1, y.2.1⟩)) (by exact (l0 (by omega)).2.2.1.imp id (fun y => y.2.2)) (by exact (l0 (by omega)).2.2.2) (hrl) (by omega) (hsb)) cl_X11_444 (qd_c (by decide +kernel)) (nn_ _) rfl (rf_of rfl) (Nat.le_of_ble_eq_true rfl) (Nat.le_of_ble_eq_true rfl) (Nat.le_of_ble_eq_true rfl) rfl ?_
    rintro U3 _ ⟨rfl, fU3, ⟨qU3, qU3o, qU3b, qU3p, qU3e⟩⟩
    show J_ zX11_play T (po_X11_play_e T ru bu m k s p q) 0 0 47 _ [] U3
    refine j_blx (F := fX11) tb_X11 (nn_ _) bk_X11_play_e_47 bs_X11_play_e_47 hz (fun K hK => ?_)
    refine hK 83 _ [] U3 ?_
    refine j_blx (F := fX11) tb_X11 (nn_ _) bk_X11_play_e_83 bs_X11_play_e_83 hz (fun K hK => ?_)
    refine (show po_X11_play_e T ru bu m k s p q U3 (none) from ?_)
    have rU3 : rp9_ U3 m = pfR_ ru (rp9_ T m) m k s p q := qU3e
    refine ⟨rfl, fr_t (fr_0 _ _) (fr_s fU3 rfl), qU3, so_t (so_r) qU3o (fun j => rfl), qU3b, ro_t (ro_r) qU3p, ?_⟩
    exact Eq.trans rU3 (Eq.symm (by have g9 := plR__1 (r := ru) (a := rp9_ T m) (m := m) (k := k) (s := s) (q := p) (o := q) (show ru 0 = 0 by (try simp only [← hru0]); omega); (try simp only [← hru0] at g9); exact g9))
  by_cases z2_1 : (T 205 0 (23 * (T 230 0 m) + 0)) = 1
  · refine j_tsI (pc := 11) 1 (off := 39) (tgt := 50) (by decide) ds_X11_play_11 (by omega) (by decide) rfl (by decide) (by decide) ?_
    refine j_blx (F := fX11) tb_X11 (nn_ _) bk_X11_play_e_50 bs_X11_play_e_50 hz (fun K hK => ?_)
    refine hK 58 _ [vI q, vI p, vI s, vI k, vI m, vR 111 0] T ?_
    refine j_callV (y := yX11_playVolleyball) (Yc := zX11_playVolleyball) (rest := []) [vI m, vI k, vI s, vI p, vI q] (ct_X11_playVolleyball_e (T := T) (ru := ru) (bu := bu) (by omega) (by exact hmc) (by exact hri) (by exact hfm) (by exact hgo) (by exact (l1 (by omega)).1) (by exact ⟨(l1 (by omega)).2.1, (l1 (by omega)).2.2.1⟩) (by exact (l1 (by omega)).2.2.2) (hrl) (by omega) (hsb)) cl_X11_447 (qd_c (by decide +kernel)) (nn_ _) rfl (rf_of rfl) (Nat.le_of_ble_eq_true rfl) (Nat.le_of_ble_eq_true rfl) (Nat.le_of_ble_eq_true rfl) rfl ?_
    rintro U4 _ ⟨rfl, fU4, ⟨qU4, qU4o, qU4b, qU4p, qU4e⟩⟩
    show J_ zX11_play T (po_X11_play_e T ru bu m k s p q) 0 0 61 _ [] U4
    refine j_blx (F := fX11) tb_X11 (nn_ _) bk_X11_play_e_61 bs_X11_play_e_61 hz (fun K hK => ?_)
    refine hK 83 _ [] U4 ?_
    refine j_blx (F := fX11) tb_X11 (nn_ _) bk_X11_play_e_83 bs_X11_play_e_83 hz (fun K hK => ?_)
    refine (show po_X11_play_e T ru bu m k s p q U4 (none) from ?_)
    have rU4 : rp9_ U4 m = pvR_ ru (rp9_ T m) m k s p q := qU4e
    refine ⟨rfl, fr_t (fr_0 _ _) (fr_s fU4 rfl), qU4, so_t (so_r) qU4o (fun j => rfl), qU4b, ro_t (ro_r) qU4p, ?_⟩
    exact Eq.trans rU4 (Eq.symm (by have g9 := plR__2 (r := ru) (a := rp9_ T m) (m := m) (k := k) (s := s) (q := p) (o := q) (show ¬ (ru 0 = 0) by (try simp only [← hru0]); omega) (show ru 0 = 1 by (try simp only [← hru0]); omega); (try simp only [← hru0] at g9); exact g9))
  by_cases z2_2 : (T 205 0 (23 * (T 230 0 m) + 0)) = 2
  · refine j_tsI (pc := 11) 2 (off := 53) (tgt := 64) (by decide) ds_X11_play_11 (by omega) (by decide) rfl (by decide) (by decide) ?_
    refine j_blx (F := fX11) tb_X11 (nn_ _) bk_X11_play_e_64 bs_X11_play_e_64 hz (fun K hK => ?_)
    refine hK 68 _ [vI s, vI k, vI m, vR 111 0] T ?_
    refine j_callV (y := yX11_playTennis) (Yc := zX11_playTennis) (rest := []) [vI m, vI k, vI s] (ct_X11_playTennis_e (T := T) (ru := ru) (bu := bu) (by omega) (by exact l2 (by omega)) (by exact hfm) (hrl) (by omega) (hsb)) cl_X11_450 (qd_c (by decide +kernel)) (nn_ _) rfl (rf_of rfl) (Nat.le_of_ble_eq_true rfl) (Nat.le_of_ble_eq_true rfl) (Nat.le_of_ble_eq_true rfl) rfl ?_
    rintro U5 _ ⟨rfl, fU5, ⟨qU5, qU5o, qU5b, qU5p, qU5e⟩⟩
    show J_ zX11_play T (po_X11_play_e T ru bu m k s p q) 0 0 71 _ [] U5
    refine j_blx (F := fX11) tb_X11 (nn_ _) bk_X11_play_e_71 bs_X11_play_e_71 hz (fun K hK => ?_)
    refine hK 83 _ [] U5 ?_
    refine j_blx (F := fX11) tb_X11 (nn_ _) bk_X11_play_e_83 bs_X11_play_e_83 hz (fun K hK => ?_)
    refine (show po_X11_play_e T ru bu m k s p q U5 (none) from ?_)
    have rU5 : rp9_ U5 m = ptR_ ru (rp9_ T m) k s := qU5e
    refine ⟨rfl, fr_t (fr_0 _ _) (fr_s fU5 rfl), qU5, so_t (so_r) qU5o (fun j => rfl), qU5b, ro_t (ro_r) qU5p, ?_⟩
    exact Eq.trans rU5 (Eq.symm (by have g9 := plR__3 (r := ru) (a := rp9_ T m) (m := m) (k := k) (s := s) (q := p) (o := q) (show ¬ (ru 0 = 0) by (try simp only [← hru0]); omega) (show ¬ (ru 0 = 1) by (try simp only [← hru0]); omega) (show ru 0 = 2 by (try simp only [← hru0]); omega); (try simp only [← hru0] at g9); exact g9))
  refine j_tsO (pc := 11) (tgt := 74) (by decide) ds_X11_play_11 (by omega) (by decide) (by decide) ?_
  refine j_blx (F := fX11) tb_X11 (nn_ _) bk_X11_play_e_74 bs_X11_play_e_74 hz (fun K hK => ?_)
  refine hK 80 _ [vI q, vI s, vI k, vI m, vR 111 0] T ?_
  refine j_callV (y := yX11_playBaseball) (Yc := zX11_playBaseball) (rest := []) [vI m, vI k, vI s, vI q] (ct_X11_playBaseball_e (T := T) (ru := ru) (bu := bu) (by omega) (by exact hfm) (hrl) (by omega) (hsb)) cl_X11_453 (qd_c (by decide +kernel)) (nn_ _) rfl (rf_of rfl) (Nat.le_of_ble_eq_true rfl) (Nat.le_of_ble_eq_true rfl) (Nat.le_of_ble_eq_true rfl) rfl ?_
  rintro U6 _ ⟨rfl, fU6, ⟨qU6, qU6o, qU6b, qU6p, qU6e⟩⟩
  show J_ zX11_play T (po_X11_play_e T ru bu m k s p q) 0 0 83 _ [] U6
  refine j_blx (F := fX11) tb_X11 (nn_ _) bk_X11_play_e_83 bs_X11_play_e_83 hz (fun K hK => ?_)
  refine (show po_X11_play_e T ru bu m k s p q U6 (none) from ?_)
  have rU6 : rp9_ U6 m = pbR_ ru (rp9_ T m) k s q := qU6e
  refine ⟨rfl, fr_t (fr_0 _ _) (fr_s fU6 rfl), qU6, so_t (so_r) qU6o (fun j => rfl), qU6b, ro_t (ro_r) qU6p, ?_⟩
  exact Eq.trans rU6 (Eq.symm (by have g9 := plR__4 (r := ru) (a := rp9_ T m) (m := m) (k := k) (s := s) (q := p) (o := q) (show ¬ (ru 0 = 0) by (try simp only [← hru0]); omega) (show ¬ (ru 0 = 1) by (try simp only [← hru0]); omega) (show ¬ (ru 0 = 2) by (try simp only [← hru0]); omega); (try simp only [← hru0] at g9); exact g9))
/-- kinds and sides as told -/
def lfT_ (T : Zt) (m k s : Int) : Prop := ((T 205 0 (23 * T 230 0 m + 0) = 0 ∧ 0 ≤ k ∧ k ≤ 5) ∨ (T 205 0 (23 * T 230 0 m + 0) = 1 ∧ (k = 1 ∨ k = 5)) ∨ (T 205 0 (23 * T 230 0 m + 0) = 2 ∧ (k = 1 ∨ k = 6)) ∨ (¬ T 205 0 (23 * T 230 0 m + 0) = 0 ∧ ¬ T 205 0 (23 * T 230 0 m + 0) = 1 ∧ ¬ T 205 0 (23 * T 230 0 m + 0) = 2 ∧ 1 ≤ k ∧ k ≤ 4)) ∧ ((T 205 0 (23 * T 230 0 m + 0) = 0 ∧ k = 0) ∨ (0 ≤ s ∧ s ≤ 1))
/-- no row is wanting, no other side serves -/
def lfN_ (T : Zt) (m k s : Int) : Prop := ¬ ((T 205 0 (23 * T 230 0 m + 0) = 0 ∧ (k = 1 ∨ k = 2) ∧ T 246 0 (8 * m + 0) = 1) ∨ (T 205 0 (23 * T 230 0 m + 0) = 3 ∧ T 246 0 (8 * m + 5) ≠ s))
/-- a person is wanted -/
def lfW_ (T : Zt) (m k : Int) : Prop := (T 205 0 (23 * T 230 0 m + 0) = 0 ∧ 0 < k) ∨ (T 205 0 (23 * T 230 0 m + 0) = 1 ∧ k = 5)
theorem lf_s {T : Zt} {m k s : Int} (t : lfT_ T m k s) (w : lfW_ T m k) : 0 ≤ s ∧ s ≤ 1 := by
  unfold lfW_ at w
  rcases t.2 with z | z
  · omega
  · exact z
theorem bk_X11_lawOf_e_200 : ck_ fX11 (some .int) cX11_lawOf 200 [.iload 6, .iload 2, .iload 5] 205 = true := qck_r (nn_ _) (by decide +kernel)
theorem bs_X11_lawOf_e_200 {P : Zt → Option Zv → Prop} (K : Int → Zl → List Zv → Zt → Prop) : sx_ K P [.iload 6, .iload 2, .iload 5] 205 = x_iload 6 (x_iload 2 (x_iload 5 (K 205))) := ((xe_iload 6).trans (congrArg (x_iload 6) ((xe_iload 2).trans (congrArg (x_iload 2) ((xe_iload 5).trans (congrArg (x_iload 5) xe_nil))))))
theorem bk_X11_lawOf_e_208 : ck_ fX11 (some .int) cX11_lawOf 208 [.ifCond .eq 215, .iconst 0, .goto 217] 215 = true := qck_r (nn_ _) (by decide +kernel)
theorem bs_X11_lawOf_e_208 {P : Zt → Option Zv → Prop} (K : Int → Zl → List Zv → Zt → Prop) : sx_ K P [.ifCond .eq 215, .iconst 0, .goto 217] 215 = x_ifCond .eq 215 K (x_iconst 0 (x_goto 217 K)) := ((xe_ifCond .eq 215).trans (congrArg (x_ifCond .eq 215 K) ((xe_iconst 0).trans (congrArg (x_iconst 0) (xe_goto 217)))))
theorem bk_X11_lawOf_e_215 : ck_ fX11 (some .int) cX11_lawOf 215 [.iconst 7, .ireturn] 218 = true := qck_r (nn_ _) (by decide +kernel)
theorem bs_X11_lawOf_e_215 {P : Zt → Option Zv → Prop} (K : Int → Zl → List Zv → Zt → Prop) : sx_ K P [.iconst 7, .ireturn] 218 = x_iconst 7 (x_ireturn P) := ((xe_iconst 7).trans (congrArg (x_iconst 7) (xe_ireturn)))
theorem bk_X11_lawOf_e_217 : ck_ fX11 (some .int) cX11_lawOf 217 [.ireturn] 218 = true := qck_r (nn_ _) (by decide +kernel)
theorem bs_X11_lawOf_e_217 {P : Zt → Option Zv → Prop} (K : Int → Zl → List Zv → Zt → Prop) : sx_ K P [.ireturn] 218 = x_ireturn P := (xe_ireturn)
theorem bk_X11_lawOf_e_163 : ck_ fX11 (some .int) cX11_lawOf 163 [.iload 8, .ifCond .eq 200, .iload 2, .iconst 5, .if_icmp .ne 200, .aload 0, .iload 1, .iconst 6, .iload 3, .iadd] 179 = true := qck_r (nn_ _) (by decide +kernel)
theorem bs_X11_lawOf_e_163 {P : Zt → Option Zv → Prop} (K : Int → Zl → List Zv → Zt → Prop) : sx_ K P [.iload 8, .ifCond .eq 200, .iload 2, .iconst 5, .if_icmp .ne 200, .aload 0, .iload 1, .iconst 6, .iload 3, .iadd] 179 = x_iload 8 (x_ifCond .eq 200 K (x_iload 2 (x_iconst 5 (x_if_icmp .ne 200 K (x_aload 0 (x_iload 1 (x_iconst 6 (x_iload 3 (x_iadd (K 179)))))))))) := ((xe_iload 8).trans (congrArg (x_iload 8) ((xe_ifCond .eq 200).trans (congrArg (x_ifCond .eq 200 K) ((xe_iload 2).trans (congrArg (x_iload 2) ((xe_iconst 5).trans (congrArg (x_iconst 5) ((xe_if_icmp .ne 200).trans (congrArg (x_if_icmp .ne 200 K) ((xe_aload 0).trans (congrArg (x_aload 0) ((xe_iload 1).trans (congrArg (x_iload 1) ((xe_iconst 6).trans (congrArg (x_iconst 6) ((xe_iload 3).trans (congrArg (x_iload 3) ((xe_iadd).trans (congrArg (x_iadd) xe_nil))))))))))))))))))))
theorem bk_X11_lawOf_e_182 : ck_ fX11 (some .int) cX11_lawOf 182 [.aload 0, .aload 0, .tableswitch 0 11 30 #[], .iload 1, .iaload, .iconst 10] 191 = true := qck_r (nn_ _) (by decide +kernel)
theorem bs_X11_lawOf_e_182 {P : Zt → Option Zv → Prop} (K : Int → Zl → List Zv → Zt → Prop) : sx_ K P [.aload 0, .aload 0, .tableswitch 0 11 30 #[], .iload 1, .iaload, .iconst 10] 191 = x_aload 0 (x_aload 0 (x_g1 111 230 (x_iload 1 (x_iaload (x_iconst 10 (K 191)))))) := ((xe_aload 0).trans (congrArg (x_aload 0) ((xe_aload 0).trans (congrArg (x_aload 0) ((xe_g1 (kk := 111) rfl tl_11_30).trans (congrArg (x_g1 111 230) ((xe_iload 1).trans (congrArg (x_iload 1) ((xe_iaload).trans (congrArg (x_iaload) ((xe_iconst 10).trans (congrArg (x_iconst 10) xe_nil))))))))))))
theorem bk_X11_lawOf_e_194 : ck_ fX11 (some .int) cX11_lawOf 194 [.if_icmp .ne 200, .iconst 6, .ireturn] 200 = true := qck_r (nn_ _) (by decide +kernel)
theorem bs_X11_lawOf_e_194 {P : Zt → Option Zv → Prop} (K : Int → Zl → List Zv → Zt → Prop) : sx_ K P [.if_icmp .ne 200, .iconst 6, .ireturn] 200 = x_if_icmp .ne 200 K (x_iconst 6 (x_ireturn P)) := ((xe_if_icmp .ne 200).trans (congrArg (x_if_icmp .ne 200 K) ((xe_iconst 6).trans (congrArg (x_iconst 6) (xe_ireturn)))))
theorem bk_X11_lawOf_e_139 : ck_ fX11 (some .int) cX11_lawOf 139 [.iload 8, .ifCond .eq 163, .iload 2, .iconst 5, .if_icmp .ne 163, .aload 0, .iload 1, .iload 3, .iload 5, .iconst 0] 155 = true := qck_r (nn_ _) (by decide +kernel)
theorem bs_X11_lawOf_e_139 {P : Zt → Option Zv → Prop} (K : Int → Zl → List Zv → Zt → Prop) : sx_ K P [.iload 8, .ifCond .eq 163, .iload 2, .iconst 5, .if_icmp .ne 163, .aload 0, .iload 1, .iload 3, .iload 5, .iconst 0] 155 = x_iload 8 (x_ifCond .eq 163 K (x_iload 2 (x_iconst 5 (x_if_icmp .ne 163 K (x_aload 0 (x_iload 1 (x_iload 3 (x_iload 5 (x_iconst 0 (K 155)))))))))) := ((xe_iload 8).trans (congrArg (x_iload 8) ((xe_ifCond .eq 163).trans (congrArg (x_ifCond .eq 163 K) ((xe_iload 2).trans (congrArg (x_iload 2) ((xe_iconst 5).trans (congrArg (x_iconst 5) ((xe_if_icmp .ne 163).trans (congrArg (x_if_icmp .ne 163 K) ((xe_aload 0).trans (congrArg (x_aload 0) ((xe_iload 1).trans (congrArg (x_iload 1) ((xe_iload 3).trans (congrArg (x_iload 3) ((xe_iload 5).trans (congrArg (x_iload 5) ((xe_iconst 0).trans (congrArg (x_iconst 0) xe_nil))))))))))))))))))))
theorem bk_X11_lawOf_e_158 : ck_ fX11 (some .int) cX11_lawOf 158 [.ifCond .ne 163, .iconst 5, .ireturn] 163 = true := qck_r (nn_ _) (by decide +kernel)
theorem bs_X11_lawOf_e_158 {P : Zt → Option Zv → Prop} (K : Int → Zl → List Zv → Zt → Prop) : sx_ K P [.ifCond .ne 163, .iconst 5, .ireturn] 163 = x_ifCond .ne 163 K (x_iconst 5 (x_ireturn P)) := ((xe_ifCond .ne 163).trans (congrArg (x_ifCond .ne 163 K) ((xe_iconst 5).trans (congrArg (x_iconst 5) (xe_ireturn)))))
theorem bk_X11_lawOf_e_118 : ck_ fX11 (some .int) cX11_lawOf 118 [.istore 8, .iload 8, .ifCond .eq 139, .aload 0, .iload 1, .iload 3, .iload 4, .iconst 1] 131 = true := qck_r (nn_ _) (by decide +kernel)
theorem bs_X11_lawOf_e_118 {P : Zt → Option Zv → Prop} (K : Int → Zl → List Zv → Zt → Prop) : sx_ K P [.istore 8, .iload 8, .ifCond .eq 139, .aload 0, .iload 1, .iload 3, .iload 4, .iconst 1] 131 = x_istore 8 (x_iload 8 (x_ifCond .eq 139 K (x_aload 0 (x_iload 1 (x_iload 3 (x_iload 4 (x_iconst 1 (K 131)))))))) := ((xe_istore 8).trans (congrArg (x_istore 8) ((xe_iload 8).trans (congrArg (x_iload 8) ((xe_ifCond .eq 139).trans (congrArg (x_ifCond .eq 139 K) ((xe_aload 0).trans (congrArg (x_aload 0) ((xe_iload 1).trans (congrArg (x_iload 1) ((xe_iload 3).trans (congrArg (x_iload 3) ((xe_iload 4).trans (congrArg (x_iload 4) ((xe_iconst 1).trans (congrArg (x_iconst 1) xe_nil))))))))))))))))
theorem bk_X11_lawOf_e_134 : ck_ fX11 (some .int) cX11_lawOf 134 [.ifCond .ne 139, .iconst 4, .ireturn] 139 = true := qck_r (nn_ _) (by decide +kernel)
theorem bs_X11_lawOf_e_134 {P : Zt → Option Zv → Prop} (K : Int → Zl → List Zv → Zt → Prop) : sx_ K P [.ifCond .ne 139, .iconst 4, .ireturn] 139 = x_ifCond .ne 139 K (x_iconst 4 (x_ireturn P)) := ((xe_ifCond .ne 139).trans (congrArg (x_ifCond .ne 139 K) ((xe_iconst 4).trans (congrArg (x_iconst 4) (xe_ireturn)))))
theorem bk_X11_lawOf_e_68 : ck_ fX11 (some .int) cX11_lawOf 68 [.istore 7, .iload 7, .ifCond .ne 91, .iload 6, .iconst 3, .if_icmp .ne 93, .aload 0, .iload 1, .iconst 5] 84 = true := qck_r (nn_ _) (by decide +kernel)
theorem bs_X11_lawOf_e_68 {P : Zt → Option Zv → Prop} (K : Int → Zl → List Zv → Zt → Prop) : sx_ K P [.istore 7, .iload 7, .ifCond .ne 91, .iload 6, .iconst 3, .if_icmp .ne 93, .aload 0, .iload 1, .iconst 5] 84 = x_istore 7 (x_iload 7 (x_ifCond .ne 91 K (x_iload 6 (x_iconst 3 (x_if_icmp .ne 93 K (x_aload 0 (x_iload 1 (x_iconst 5 (K 84))))))))) := ((xe_istore 7).trans (congrArg (x_istore 7) ((xe_iload 7).trans (congrArg (x_iload 7) ((xe_ifCond .ne 91).trans (congrArg (x_ifCond .ne 91 K) ((xe_iload 6).trans (congrArg (x_iload 6) ((xe_iconst 3).trans (congrArg (x_iconst 3) ((xe_if_icmp .ne 93).trans (congrArg (x_if_icmp .ne 93 K) ((xe_aload 0).trans (congrArg (x_aload 0) ((xe_iload 1).trans (congrArg (x_iload 1) ((xe_iconst 5).trans (congrArg (x_iconst 5) xe_nil))))))))))))))))))
theorem bk_X11_lawOf_e_91 : ck_ fX11 (some .int) cX11_lawOf 91 [.iconst 3, .ireturn] 93 = true := qck_r (nn_ _) (by decide +kernel)
theorem bs_X11_lawOf_e_91 {P : Zt → Option Zv → Prop} (K : Int → Zl → List Zv → Zt → Prop) : sx_ K P [.iconst 3, .ireturn] 93 = x_iconst 3 (x_ireturn P) := ((xe_iconst 3).trans (congrArg (x_iconst 3) (xe_ireturn)))
theorem bk_X11_lawOf_e_93 : ck_ fX11 (some .int) cX11_lawOf 93 [.iload 6, .ifCond .ne 102, .iload 2, .ifCond .gt 113, .iload 6, .iconst 1, .if_icmp .ne 117, .iload 2, .iconst 5, .if_icmp .ne 117, .iconst 1, .goto 118] 117 = true := qck_r (nn_ _) (by decide +kernel)
theorem bs_X11_lawOf_e_93 {P : Zt → Option Zv → Prop} (K : Int → Zl → List Zv → Zt → Prop) : sx_ K P [.iload 6, .ifCond .ne 102, .iload 2, .ifCond .gt 113, .iload 6, .iconst 1, .if_icmp .ne 117, .iload 2, .iconst 5, .if_icmp .ne 117, .iconst 1, .goto 118] 117 = x_iload 6 (x_ifCond .ne 102 K (x_iload 2 (x_ifCond .gt 113 K (x_iload 6 (x_iconst 1 (x_if_icmp .ne 117 K (x_iload 2 (x_iconst 5 (x_if_icmp .ne 117 K (x_iconst 1 (x_goto 118 K))))))))))) := ((xe_iload 6).trans (congrArg (x_iload 6) ((xe_ifCond .ne 102).trans (congrArg (x_ifCond .ne 102 K) ((xe_iload 2).trans (congrArg (x_iload 2) ((xe_ifCond .gt 113).trans (congrArg (x_ifCond .gt 113 K) ((xe_iload 6).trans (congrArg (x_iload 6) ((xe_iconst 1).trans (congrArg (x_iconst 1) ((xe_if_icmp .ne 117).trans (congrArg (x_if_icmp .ne 117 K) ((xe_iload 2).trans (congrArg (x_iload 2) ((xe_iconst 5).trans (congrArg (x_iconst 5) ((xe_if_icmp .ne 117).trans (congrArg (x_if_icmp .ne 117 K) ((xe_iconst 1).trans (congrArg (x_iconst 1) (xe_goto 118)))))))))))))))))))))))
theorem bk_X11_lawOf_e_102 : ck_ fX11 (some .int) cX11_lawOf 102 [.iload 6, .iconst 1, .if_icmp .ne 117, .iload 2, .iconst 5, .if_icmp .ne 117, .iconst 1, .goto 118] 117 = true := qck_r (nn_ _) (by decide +kernel)
theorem bs_X11_lawOf_e_102 {P : Zt → Option Zv → Prop} (K : Int → Zl → List Zv → Zt → Prop) : sx_ K P [.iload 6, .iconst 1, .if_icmp .ne 117, .iload 2, .iconst 5, .if_icmp .ne 117, .iconst 1, .goto 118] 117 = x_iload 6 (x_iconst 1 (x_if_icmp .ne 117 K (x_iload 2 (x_iconst 5 (x_if_icmp .ne 117 K (x_iconst 1 (x_goto 118 K))))))) := ((xe_iload 6).trans (congrArg (x_iload 6) ((xe_iconst 1).trans (congrArg (x_iconst 1) ((xe_if_icmp .ne 117).trans (congrArg (x_if_icmp .ne 117 K) ((xe_iload 2).trans (congrArg (x_iload 2) ((xe_iconst 5).trans (congrArg (x_iconst 5) ((xe_if_icmp .ne 117).trans (congrArg (x_if_icmp .ne 117 K) ((xe_iconst 1).trans (congrArg (x_iconst 1) (xe_goto 118)))))))))))))))
theorem bk_X11_lawOf_e_117 : ck_ fX11 (some .int) cX11_lawOf 117 [.iconst 0] 118 = true := qck_r (nn_ _) (by decide +kernel)
theorem bs_X11_lawOf_e_117 {P : Zt → Option Zv → Prop} (K : Int → Zl → List Zv → Zt → Prop) : sx_ K P [.iconst 0] 118 = x_iconst 0 (K 118) := ((xe_iconst 0).trans (congrArg (x_iconst 0) xe_nil))
theorem bk_X11_lawOf_e_113 : ck_ fX11 (some .int) cX11_lawOf 113 [.iconst 1, .goto 118] 117 = true := qck_r (nn_ _) (by decide +kernel)
theorem bs_X11_lawOf_e_113 {P : Zt → Option Zv → Prop} (K : Int → Zl → List Zv → Zt → Prop) : sx_ K P [.iconst 1, .goto 118] 117 = x_iconst 1 (x_goto 118 K) := ((xe_iconst 1).trans (congrArg (x_iconst 1) (xe_goto 118)))
theorem bk_X11_lawOf_e_87 : ck_ fX11 (some .int) cX11_lawOf 87 [.iload 3, .if_icmp .eq 93, .iconst 3, .ireturn] 93 = true := qck_r (nn_ _) (by decide +kernel)
theorem bs_X11_lawOf_e_87 {P : Zt → Option Zv → Prop} (K : Int → Zl → List Zv → Zt → Prop) : sx_ K P [.iload 3, .if_icmp .eq 93, .iconst 3, .ireturn] 93 = x_iload 3 (x_if_icmp .eq 93 K (x_iconst 3 (x_ireturn P))) := ((xe_iload 3).trans (congrArg (x_iload 3) ((xe_if_icmp .eq 93).trans (congrArg (x_if_icmp .eq 93 K) ((xe_iconst 3).trans (congrArg (x_iconst 3) (xe_ireturn)))))))
theorem bk_X11_lawOf_e_0 : ck_ fX11 (some .int) cX11_lawOf 0 [.aload 0, .aload 0, .tableswitch 0 11 30 #[], .iload 1, .iaload, .iconst 0] 8 = true := qck_r (nn_ _) (by decide +kernel)
theorem bs_X11_lawOf_e_0 {P : Zt → Option Zv → Prop} (K : Int → Zl → List Zv → Zt → Prop) : sx_ K P [.aload 0, .aload 0, .tableswitch 0 11 30 #[], .iload 1, .iaload, .iconst 0] 8 = x_aload 0 (x_aload 0 (x_g1 111 230 (x_iload 1 (x_iaload (x_iconst 0 (K 8)))))) := ((xe_aload 0).trans (congrArg (x_aload 0) ((xe_aload 0).trans (congrArg (x_aload 0) ((xe_g1 (kk := 111) rfl tl_11_30).trans (congrArg (x_g1 111 230) ((xe_iload 1).trans (congrArg (x_iload 1) ((xe_iaload).trans (congrArg (x_iaload) ((xe_iconst 0).trans (congrArg (x_iconst 0) xe_nil))))))))))))
theorem bk_X11_lawOf_e_11 : ck_ fX11 (some .int) cX11_lawOf 11 [.istore 6, .aload 0, .tableswitch 0 11 35 #[], .iload 1, .iaload, .iconst 1, .if_icmp .eq 25, .iconst 1, .ireturn] 25 = true := qck_r (nn_ _) (by decide +kernel)
theorem bs_X11_lawOf_e_11 {P : Zt → Option Zv → Prop} (K : Int → Zl → List Zv → Zt → Prop) : sx_ K P [.istore 6, .aload 0, .tableswitch 0 11 35 #[], .iload 1, .iaload, .iconst 1, .if_icmp .eq 25, .iconst 1, .ireturn] 25 = x_istore 6 (x_aload 0 (x_g1 111 235 (x_iload 1 (x_iaload (x_iconst 1 (x_if_icmp .eq 25 K (x_iconst 1 (x_ireturn P)))))))) := ((xe_istore 6).trans (congrArg (x_istore 6) ((xe_aload 0).trans (congrArg (x_aload 0) ((xe_g1 (kk := 111) rfl tl_11_35).trans (congrArg (x_g1 111 235) ((xe_iload 1).trans (congrArg (x_iload 1) ((xe_iaload).trans (congrArg (x_iaload) ((xe_iconst 1).trans (congrArg (x_iconst 1) ((xe_if_icmp .eq 25).trans (congrArg (x_if_icmp .eq 25 K) ((xe_iconst 1).trans (congrArg (x_iconst 1) (xe_ireturn)))))))))))))))))
theorem bk_X11_lawOf_e_25 : ck_ fX11 (some .int) cX11_lawOf 25 [.aload 0, .iload 6, .iload 2, .iload 3] 30 = true := qck_r (nn_ _) (by decide +kernel)
theorem bs_X11_lawOf_e_25 {P : Zt → Option Zv → Prop} (K : Int → Zl → List Zv → Zt → Prop) : sx_ K P [.aload 0, .iload 6, .iload 2, .iload 3] 30 = x_aload 0 (x_iload 6 (x_iload 2 (x_iload 3 (K 30)))) := ((xe_aload 0).trans (congrArg (x_aload 0) ((xe_iload 6).trans (congrArg (x_iload 6) ((xe_iload 2).trans (congrArg (x_iload 2) ((xe_iload 3).trans (congrArg (x_iload 3) xe_nil))))))))
theorem bk_X11_lawOf_e_33 : ck_ fX11 (some .int) cX11_lawOf 33 [.ifCond .ne 38, .iconst 2, .ireturn] 38 = true := qck_r (nn_ _) (by decide +kernel)
theorem bs_X11_lawOf_e_33 {P : Zt → Option Zv → Prop} (K : Int → Zl → List Zv → Zt → Prop) : sx_ K P [.ifCond .ne 38, .iconst 2, .ireturn] 38 = x_ifCond .ne 38 K (x_iconst 2 (x_ireturn P)) := ((xe_ifCond .ne 38).trans (congrArg (x_ifCond .ne 38 K) ((xe_iconst 2).trans (congrArg (x_iconst 2) (xe_ireturn)))))
theorem bk_X11_lawOf_e_38 : ck_ fX11 (some .int) cX11_lawOf 38 [.iload 6, .ifCond .ne 67, .iload 2, .iconst 1, .if_icmp .eq 53, .iload 2, .iconst 2, .if_icmp .ne 67, .aload 0, .iload 1, .iconst 0] 56 = true := qck_r (nn_ _) (by decide +kernel)
theorem bs_X11_lawOf_e_38 {P : Zt → Option Zv → Prop} (K : Int → Zl → List Zv → Zt → Prop) : sx_ K P [.iload 6, .ifCond .ne 67, .iload 2, .iconst 1, .if_icmp .eq 53, .iload 2, .iconst 2, .if_icmp .ne 67, .aload 0, .iload 1, .iconst 0] 56 = x_iload 6 (x_ifCond .ne 67 K (x_iload 2 (x_iconst 1 (x_if_icmp .eq 53 K (x_iload 2 (x_iconst 2 (x_if_icmp .ne 67 K (x_aload 0 (x_iload 1 (x_iconst 0 (K 56))))))))))) := ((xe_iload 6).trans (congrArg (x_iload 6) ((xe_ifCond .ne 67).trans (congrArg (x_ifCond .ne 67 K) ((xe_iload 2).trans (congrArg (x_iload 2) ((xe_iconst 1).trans (congrArg (x_iconst 1) ((xe_if_icmp .eq 53).trans (congrArg (x_if_icmp .eq 53 K) ((xe_iload 2).trans (congrArg (x_iload 2) ((xe_iconst 2).trans (congrArg (x_iconst 2) ((xe_if_icmp .ne 67).trans (congrArg (x_if_icmp .ne 67 K) ((xe_aload 0).trans (congrArg (x_aload 0) ((xe_iload 1).trans (congrArg (x_iload 1) ((xe_iconst 0).trans (congrArg (x_iconst 0) xe_nil))))))))))))))))))))))
theorem bk_X11_lawOf_e_67 : ck_ fX11 (some .int) cX11_lawOf 67 [.iconst 0] 68 = true := qck_r (nn_ _) (by decide +kernel)
theorem bs_X11_lawOf_e_67 {P : Zt → Option Zv → Prop} (K : Int → Zl → List Zv → Zt → Prop) : sx_ K P [.iconst 0] 68 = x_iconst 0 (K 68) := ((xe_iconst 0).trans (congrArg (x_iconst 0) xe_nil))
theorem bk_X11_lawOf_e_53 : ck_ fX11 (some .int) cX11_lawOf 53 [.aload 0, .iload 1, .iconst 0] 56 = true := qck_r (nn_ _) (by decide +kernel)
theorem bs_X11_lawOf_e_53 {P : Zt → Option Zv → Prop} (K : Int → Zl → List Zv → Zt → Prop) : sx_ K P [.aload 0, .iload 1, .iconst 0] 56 = x_aload 0 (x_iload 1 (x_iconst 0 (K 56))) := ((xe_aload 0).trans (congrArg (x_aload 0) ((xe_iload 1).trans (congrArg (x_iload 1) ((xe_iconst 0).trans (congrArg (x_iconst 0) xe_nil))))))
theorem bk_X11_lawOf_e_59 : ck_ fX11 (some .int) cX11_lawOf 59 [.iconst 1, .if_icmp .ne 67, .iconst 1, .goto 68] 67 = true := qck_r (nn_ _) (by decide +kernel)
theorem bs_X11_lawOf_e_59 {P : Zt → Option Zv → Prop} (K : Int → Zl → List Zv → Zt → Prop) : sx_ K P [.iconst 1, .if_icmp .ne 67, .iconst 1, .goto 68] 67 = x_iconst 1 (x_if_icmp .ne 67 K (x_iconst 1 (x_goto 68 K))) := ((xe_iconst 1).trans (congrArg (x_iconst 1) ((xe_if_icmp .ne 67).trans (congrArg (x_if_icmp .ne 67 K) ((xe_iconst 1).trans (congrArg (x_iconst 1) (xe_goto 68)))))))
abbrev po_X11_lawOf_e (T : Zt) (ru : Int → Int) (m k s p q : Int) : Zt → Option Zv → Prop := fun T' r => T = T' ∧ ∃ x : Int, r = some (vI x) ∧ ((0 ≤ x ∧ x ≤ 7) ∧ (x = 0 → LW_ T m k s p q) ∧ x = lwR_ ru (rp9_ T m) k s p q)
set_option maxHeartbeats 4000000 in
theorem ct_X11_lawOf_e {T : Zt} {ru : Int → Int} {m k s p q : Int} (h1 : 0 ≤ m ∧ m < 400) (hrl : RLR_ T m ru) : Ct_ yX11_lawOf zX11_lawOf T [vR 111 0, vI m, vI k, vI s, vI p, vI q] (po_X11_lawOf_e T ru m k s p q) := by
  refine ct_of pn_11 rfl rfl (Nat.le_of_ble_eq_true rfl) (fun hT hav => ?_)
  have hr_m : -2147483648 ≤ m ∧ m ≤ 2147483647 := hav (vI m) (List.mem_cons_of_mem _ List.mem_cons_self)
  have hr_k : -2147483648 ≤ k ∧ k ≤ 2147483647 := hav (vI k) (List.mem_cons_of_mem _ (List.mem_cons_of_mem _ List.mem_cons_self))
  have hr_s : -2147483648 ≤ s ∧ s ≤ 2147483647 := hav (vI s) (List.mem_cons_of_mem _ (List.mem_cons_of_mem _ (List.mem_cons_of_mem _ List.mem_cons_self)))
  have hr_p : -2147483648 ≤ p ∧ p ≤ 2147483647 := hav (vI p) (List.mem_cons_of_mem _ (List.mem_cons_of_mem _ (List.mem_cons_of_mem _ (List.mem_cons_of_mem _ List.mem_cons_self))))
  have hr_q : -2147483648 ≤ q ∧ q ≤ 2147483647 := hav (vI q) (List.mem_cons_of_mem _ (List.mem_cons_of_mem _ (List.mem_cons_of_mem _ (List.mem_cons_of_mem _ (List.mem_cons_of_mem _ List.mem_cons_self)))))
  have hz : zX11_lawOf.2.2.2.1 = some .boolean → ∀ (T' : Zt) (x : Int), po_X11_lawOf_e T ru m k s p q T' (some (vI x)) → 0 ≤ x ∧ x ≤ 1 := fun h => by cases h
  have z103_0 : rp9_ T m 103 3 = T 235 0 m := rp_v rfl rfl (by show m = _; omega)
  have z103_1 : rp9_ T m 103 4 = T 246 0 (8 * m + 0) := rp_v rfl rfl (by show 8 * m = _; omega)
  have z103_2 : rp9_ T m 103 5 = T 246 0 (8 * m + 5) := rp_v rfl rfl (by show 8 * m + 5 = _; omega)
  have hru0 := hrl 0 (by omega) (by omega)
  have hru10 := hrl 10 (by omega) (by omega)
  have hcb : 0 ≤ T 230 0 m ∧ T 230 0 m ≤ 3 := bd_a hT 230 (by decide +kernel : ta_ 230 = some (1, some 400, 0, 3)) 0 (by omega)
  show J_ zX11_lawOf T (po_X11_lawOf_e T ru m k s p q) 0 0 0 [some (vR 111 0), some (vI m), some (vI k), some (vI s), some (vI p), some (vI q), none, none, none] [] T
  have c_200 : ∀ (v : Int), (T 235 0 m = 1) → (lfT_ T m k s) → (lfN_ T m k s) → ((v = 1 ∧ lfW_ T m k) ∨ (v = 0 ∧ ¬ lfW_ T m k)) → (v = 1 → SL_ T (2 * m + s) p) → (v = 1 → slR_ (rp9_ T m) s p ≠ -1 ∧ rp9_ T m 472 (slR_ (rp9_ T m) s p) = 1) → (v = 1 → k = 5 → SL_ T (2 * m + s) q) → (v = 1 → k = 5 → slR_ (rp9_ T m) s q ≠ -1 ∧ rp9_ T m 472 (slR_ (rp9_ T m) s q) = 0) → (v = 1 → k = 5 → T 246 0 (8 * m + (6 + s)) ≠ T 205 0 (23 * T 230 0 m + 10)) → J_ zX11_lawOf T (po_X11_lawOf_e T ru m k s p q) 0 0 200 [some (vR 111 0), some (vI m), some (vI k), some (vI s), some (vI p), some (vI q), some (vI (T 205 0 (23 * T 230 0 m + 0))), none, some (vI v)] [] T := by
    intro v t1 t2 n3 v1 s1 q1 s2 q2 q6
    refine j_blx (F := fX11) tb_X11 (nn_ _) bk_X11_lawOf_e_200 bs_X11_lawOf_e_200 hz (fun K hK => ?_)
    refine hK 205 _ [vI q, vI k, vI (T 205 0 (23 * T 230 0 m + 0))] T ?_
    refine j_callS (y := yX11_isBounded) (Yc := zX11_isBounded) (rest := []) [vI (T 205 0 (23 * T 230 0 m + 0)), vI k, vI q] (ct_X11_isBounded_e (T := T)) cl_X11_407 (qd_c (by decide +kernel)) (nn_ _) rfl (rf_of rfl) (Nat.le_of_ble_eq_true rfl) (Nat.le_of_ble_eq_true rfl) (Nat.le_of_ble_eq_true rfl) rfl ?_
    rintro _ _ ⟨rfl, x1, rfl, hx1⟩
    show J_ zX11_lawOf T (po_X11_lawOf_e T ru m k s p q) 0 0 208 _ [vI x1] T
    refine j_blx (F := fX11) tb_X11 (nn_ _) bk_X11_lawOf_e_208 bs_X11_lawOf_e_208 hz (fun K hK => ?_)
    refine And.intro (fun c2 => ?_) (fun c2 => ?_)
    · replace hx1 := hx1.resolve_left (fun z => absurd (c2.symm.trans z.1) (by decide))
      clear c2
      refine hK 215 _ [] T ?_
      refine j_blx (F := fX11) tb_X11 (nn_ _) bk_X11_lawOf_e_215 bs_X11_lawOf_e_215 hz (fun K hK => ?_)
      refine (show po_X11_lawOf_e T ru m k s p q T (some (vI 7)) from ?_)
      by_cases d1 : v = 1
      · have q1z := q1 d1
        by_cases d2 : k = 5
        · have q2z := q2 d1 d2
          have q6z := q6 d1 d2
          have sb9 := lf_s t2 (v1.resolve_right (fun z => absurd (d1.symm.trans z.1) (by decide))).2
          have z469 : rp9_ T m 469 s = T 246 0 (8 * m + (6 + s)) := rp_v (dm_469 sb9) rfl (by show 8 * m + 6 + s = _; omega)
          have w9 := (v1.resolve_right (fun z => absurd (d1.symm.trans z.1) (by decide))).2
          unfold lfW_ at w9
          exfalso; omega
        · have w9 := (v1.resolve_right (fun z => absurd (d1.symm.trans z.1) (by decide))).2
          unfold lfW_ at w9
          exfalso; omega
      · exact ⟨rfl, _, rfl, by decide, fun z => absurd z (by decide), (lwR__12 (r := ru) (a := rp9_ T m) (k := k) (s := s) (q := p) (o := q) (fun z => z (z103_0.trans t1)) (fun z => z (by rw [← hru0]; exact t2)) (show ¬ ((ru 0 = 0 ∧ (k = 1 ∨ k = 2) ∧ (rp9_ T m) 103 4 = 1) ∨ (ru 0 = 3 ∧ (rp9_ T m) 103 5 ≠ s)) by rw [z103_1, z103_2, ← hru0]; exact n3) (show ¬ ((ru 0 = 0 ∧ 0 < k) ∨ (ru 0 = 1 ∧ k = 5)) from (by rw [← hru0]; exact (v1.resolve_left (fun z => d1 z.1)).2)) (show ¬ (ru 0 ≠ 3 ∨ k ≠ 1 ∨ (1 ≤ q ∧ q ≤ 4)) by (try simp only [z103_0, z103_1, z103_2, ← hru0, ← hru10]); omega)).symm⟩
    · refine hK 217 _ [vI 0] T ?_
      refine j_blx (F := fX11) tb_X11 (nn_ _) bk_X11_lawOf_e_217 bs_X11_lawOf_e_217 hz (fun K hK => ?_)
      refine (show po_X11_lawOf_e T ru m k s p q T (some (vI 0)) from ?_)
      have lw9 : LW_ T m k s p q := by
        clear n3 hx1
        have y2 := t2
        have y1 := v1
        unfold lfT_ at y2
        unfold lfW_ at y1
        refine ⟨t1, fun a => ⟨by clear y1; omega, by clear y1; omega, ?_, fun b => s2 (by clear y2; omega) b⟩, fun a => ⟨by clear y1; omega, by clear y1; omega, by clear y1; omega, fun b => ⟨s1 (by clear y2; omega), s2 (by clear y2; omega) b⟩⟩, fun a => by clear y1; omega⟩
        have k0 : 0 ≤ k := by clear y1; omega
        by_cases b : k = 0
        · exact Or.inl b
        · exact Or.inr ⟨by clear y1; omega, by clear y1; omega, s1 (by clear y2; omega)⟩
      by_cases d1 : v = 1
      · have q1z := q1 d1
        by_cases d2 : k = 5
        · have q2z := q2 d1 d2
          have q6z := q6 d1 d2
          have sb9 := lf_s t2 (v1.resolve_right (fun z => absurd (d1.symm.trans z.1) (by decide))).2
          have z469 : rp9_ T m 469 s = T 246 0 (8 * m + (6 + s)) := rp_v (dm_469 sb9) rfl (by show 8 * m + 6 + s = _; omega)
          exact ⟨rfl, _, rfl, by decide, fun _ => lw9, (lwR__7 (r := ru) (a := rp9_ T m) (k := k) (s := s) (q := p) (o := q) (fun z => z (z103_0.trans t1)) (fun z => z (by rw [← hru0]; exact t2)) (show ¬ ((ru 0 = 0 ∧ (k = 1 ∨ k = 2) ∧ (rp9_ T m) 103 4 = 1) ∨ (ru 0 = 3 ∧ (rp9_ T m) 103 5 ≠ s)) by rw [z103_1, z103_2, ← hru0]; exact n3) (show (ru 0 = 0 ∧ 0 < k) ∨ (ru 0 = 1 ∧ k = 5) from (by rw [← hru0]; exact (v1.resolve_right (fun z => absurd (d1.symm.trans z.1) (by decide))).2)) (show ¬ (¬ (slR_ (rp9_ T m) s p ≠ -1 ∧ (rp9_ T m) 472 (slR_ (rp9_ T m) s p) = 1)) by (try simp only [z103_0, z103_1, z103_2, ← hru0, ← hru10, z469]); omega) (show k = 5 by (try simp only [z103_0, z103_1, z103_2, ← hru0, ← hru10, z469]); omega) (show ¬ (¬ (slR_ (rp9_ T m) s q ≠ -1 ∧ (rp9_ T m) 472 (slR_ (rp9_ T m) s q) = 0)) by (try simp only [z103_0, z103_1, z103_2, ← hru0, ← hru10, z469]); omega) (show ¬ ((rp9_ T m) 469 s = ru 10) by (try simp only [z103_0, z103_1, z103_2, ← hru0, ← hru10, z469]); omega) (show ru 0 ≠ 3 ∨ k ≠ 1 ∨ (1 ≤ q ∧ q ≤ 4) by (try simp only [z103_0, z103_1, z103_2, ← hru0, ← hru10, z469]); omega)).symm⟩
        · exact ⟨rfl, _, rfl, by decide, fun _ => lw9, (lwR__9 (r := ru) (a := rp9_ T m) (k := k) (s := s) (q := p) (o := q) (fun z => z (z103_0.trans t1)) (fun z => z (by rw [← hru0]; exact t2)) (show ¬ ((ru 0 = 0 ∧ (k = 1 ∨ k = 2) ∧ (rp9_ T m) 103 4 = 1) ∨ (ru 0 = 3 ∧ (rp9_ T m) 103 5 ≠ s)) by rw [z103_1, z103_2, ← hru0]; exact n3) (show (ru 0 = 0 ∧ 0 < k) ∨ (ru 0 = 1 ∧ k = 5) from (by rw [← hru0]; exact (v1.resolve_right (fun z => absurd (d1.symm.trans z.1) (by decide))).2)) (show ¬ (¬ (slR_ (rp9_ T m) s p ≠ -1 ∧ (rp9_ T m) 472 (slR_ (rp9_ T m) s p) = 1)) by (try simp only [z103_0, z103_1, z103_2, ← hru0, ← hru10]); omega) (show ¬ (k = 5) by (try simp only [z103_0, z103_1, z103_2, ← hru0, ← hru10]); omega) (show ru 0 ≠ 3 ∨ k ≠ 1 ∨ (1 ≤ q ∧ q ≤ 4) by (try simp only [z103_0, z103_1, z103_2, ← hru0, ← hru10]); omega)).symm⟩
      · exact ⟨rfl, _, rfl, by decide, fun _ => lw9, (lwR__11 (r := ru) (a := rp9_ T m) (k := k) (s := s) (q := p) (o := q) (fun z => z (z103_0.trans t1)) (fun z => z (by rw [← hru0]; exact t2)) (show ¬ ((ru 0 = 0 ∧ (k = 1 ∨ k = 2) ∧ (rp9_ T m) 103 4 = 1) ∨ (ru 0 = 3 ∧ (rp9_ T m) 103 5 ≠ s)) by rw [z103_1, z103_2, ← hru0]; exact n3) (show ¬ ((ru 0 = 0 ∧ 0 < k) ∨ (ru 0 = 1 ∧ k = 5)) from (by rw [← hru0]; exact (v1.resolve_left (fun z => d1 z.1)).2)) (show ru 0 ≠ 3 ∨ k ≠ 1 ∨ (1 ≤ q ∧ q ≤ 4) by (try simp only [z103_0, z103_1, z103_2, ← hru0, ← hru10]); omega)).symm⟩
  have c_163 : ∀ (v : Int), (T 235 0 m = 1) → (lfT_ T m k s) → (lfN_ T m k s) → ((v = 1 ∧ lfW_ T m k) ∨ (v = 0 ∧ ¬ lfW_ T m k)) → (v = 1 → SL_ T (2 * m + s) p) → (v = 1 → slR_ (rp9_ T m) s p ≠ -1 ∧ rp9_ T m 472 (slR_ (rp9_ T m) s p) = 1) → (v = 1 → k = 5 → SL_ T (2 * m + s) q) → (v = 1 → k = 5 → slR_ (rp9_ T m) s q ≠ -1 ∧ rp9_ T m 472 (slR_ (rp9_ T m) s q) = 0) → J_ zX11_lawOf T (po_X11_lawOf_e T ru m k s p q) 0 0 163 [some (vR 111 0), some (vI m), some (vI k), some (vI s), some (vI p), some (vI q), some (vI (T 205 0 (23 * T 230 0 m + 0))), none, some (vI v)] [] T := by
    intro v t1 t2 n3 v1 s1 q1 s2 q2
    refine j_blx (F := fX11) tb_X11 (nn_ _) bk_X11_lawOf_e_163 bs_X11_lawOf_e_163 hz (fun K hK => ?_)
    refine And.intro (fun c3 => ?_) (fun c3 => ?_)
    · refine hK 200 _ [] T ?_
      refine c_200 v ?_ ?_ ?_ ?_ ?_ ?_ ?_ ?_ ?_
      · first
        | exact t1
        | omega
      · exact t2
      · exact n3
      · exact v1
      · intro z
        first
        | exact sl1
        | exact s1 z
        | (exfalso; omega)
      · intro z
        first
        | exact st1
        | exact q1 z
        | (exfalso; omega)
      · intro z y
        first
        | exact sl2
        | exact s2 z y
        | (exfalso; omega)
      · intro z y
        first
        | exact st2
        | exact q2 z y
        | (exfalso; omega)
      · intro z y
        first
        | exact q6 z y
        | omega
    · have sb9 := lf_s t2 (v1.resolve_right (fun z => absurd z.1 c3)).2
      refine And.intro (fun c4 => ?_) (fun c4 => ?_)
      · refine hK 200 _ [] T ?_
        refine c_200 v ?_ ?_ ?_ ?_ ?_ ?_ ?_ ?_ ?_
        · first
          | exact t1
          | omega
        · exact t2
        · exact n3
        · exact v1
        · intro z
          first
          | exact sl1
          | exact s1 z
          | (exfalso; omega)
        · intro z
          first
          | exact st1
          | exact q1 z
          | (exfalso; omega)
        · intro z y
          first
          | exact sl2
          | exact s2 z y
          | (exfalso; omega)
        · intro z y
          first
          | exact st2
          | exact q2 z y
          | (exfalso; omega)
        · intro z y
          first
          | exact q6 z y
          | omega
      · refine rg_i (by omega) ?_
        refine hK 179 _ [vI (6 + s), vI m, vR 111 0] T ?_
        refine j_callV (y := yX11_liveOf) (Yc := zX11_liveOf) (rest := []) [vI m, vI (6 + s)] (ct_X11_liveOf (T := T) (by omega) (by omega)) cl_X11_400 (qd_c (by decide +kernel)) (nn_ _) rfl (rf_of rfl) (Nat.le_of_ble_eq_true rfl) (Nat.le_of_ble_eq_true rfl) (Nat.le_of_ble_eq_true rfl) rfl ?_
        rintro _ _ ⟨rfl, rfl⟩
        show J_ zX11_lawOf T (po_X11_lawOf_e T ru m k s p q) 0 0 182 _ [vI (T 246 0 (8 * m + (6 + s)))] T
        refine j_blx (F := fX11) tb_X11 (nn_ _) bk_X11_lawOf_e_182 bs_X11_lawOf_e_182 hz (fun K hK => ?_)
        refine ix_i (by omega) ?_
        intro b5 b5b
        refine hK 191 _ [vI 10, vI (T 230 0 m), vR 111 0, vI (T 246 0 (8 * m + (6 + s)))] T ?_
        refine j_callV (y := yX11_rule0) (Yc := zX11_rule0) (rest := [vI (T 246 0 (8 * m + (6 + s)))]) [vI (T 230 0 m), vI 10] (ct_X11_rule0 (T := T) (by omega) (by omega)) cl_X11_321 (qd_c (by decide +kernel)) (nn_ _) rfl (rf_of rfl) (Nat.le_of_ble_eq_true rfl) (Nat.le_of_ble_eq_true rfl) (Nat.le_of_ble_eq_true rfl) rfl ?_
        rintro _ _ ⟨rfl, rfl⟩
        show J_ zX11_lawOf T (po_X11_lawOf_e T ru m k s p q) 0 0 194 _ [vI (T 205 0 (23 * (T 230 0 m) + 10)), vI (T 246 0 (8 * m + (6 + s)))] T
        refine j_blx (F := fX11) tb_X11 (nn_ _) bk_X11_lawOf_e_194 bs_X11_lawOf_e_194 hz (fun K hK => ?_)
        refine And.intro (fun c6 => ?_) (fun c6 => ?_)
        · refine hK 200 _ [] T ?_
          refine c_200 v ?_ ?_ ?_ ?_ ?_ ?_ ?_ ?_ ?_
          · first
            | exact t1
            | omega
          · exact t2
          · exact n3
          · exact v1
          · intro z
            first
            | exact sl1
            | exact s1 z
            | (exfalso; omega)
          · intro z
            first
            | exact st1
            | exact q1 z
            | (exfalso; omega)
          · intro z y
            first
            | exact sl2
            | exact s2 z y
            | (exfalso; omega)
          · intro z y
            first
            | exact st2
            | exact q2 z y
            | (exfalso; omega)
          · intro z y
            first
            | exact q6 z y
            | omega
        · refine (show po_X11_lawOf_e T ru m k s p q T (some (vI 6)) from ?_)
          have z469 : rp9_ T m 469 s = T 246 0 (8 * m + (6 + s)) := rp_v (dm_469 sb9) rfl (by show 8 * m + 6 + s = _; omega)
          exact ⟨rfl, _, rfl, by decide, fun z => absurd z (by decide), (lwR__6 (r := ru) (a := rp9_ T m) (k := k) (s := s) (q := p) (o := q) (fun z => z (z103_0.trans t1)) (fun z => z (by rw [← hru0]; exact t2)) (show ¬ ((ru 0 = 0 ∧ (k = 1 ∨ k = 2) ∧ (rp9_ T m) 103 4 = 1) ∨ (ru 0 = 3 ∧ (rp9_ T m) 103 5 ≠ s)) by rw [z103_1, z103_2, ← hru0]; exact n3) (show (ru 0 = 0 ∧ 0 < k) ∨ (ru 0 = 1 ∧ k = 5) from (by rw [← hru0]; exact (v1.resolve_right (fun z => absurd z.1 c3)).2)) (show ¬ (¬ (slR_ (rp9_ T m) s p ≠ -1 ∧ (rp9_ T m) 472 (slR_ (rp9_ T m) s p) = 1)) by (try simp only [z103_0, z103_1, z103_2, ← hru0, ← hru10, z469]); omega) (show k = 5 by (try simp only [z103_0, z103_1, z103_2, ← hru0, ← hru10, z469]); omega) (show ¬ (¬ (slR_ (rp9_ T m) s q ≠ -1 ∧ (rp9_ T m) 472 (slR_ (rp9_ T m) s q) = 0)) by (try simp only [z103_0, z103_1, z103_2, ← hru0, ← hru10, z469]); omega) (show (rp9_ T m) 469 s = ru 10 by (try simp only [z103_0, z103_1, z103_2, ← hru0, ← hru10, z469]); omega)).symm⟩
  have c_139 : ∀ (v : Int), (T 235 0 m = 1) → (lfT_ T m k s) → (lfN_ T m k s) → ((v = 1 ∧ lfW_ T m k) ∨ (v = 0 ∧ ¬ lfW_ T m k)) → (v = 1 → SL_ T (2 * m + s) p) → (v = 1 → slR_ (rp9_ T m) s p ≠ -1 ∧ rp9_ T m 472 (slR_ (rp9_ T m) s p) = 1) → J_ zX11_lawOf T (po_X11_lawOf_e T ru m k s p q) 0 0 139 [some (vR 111 0), some (vI m), some (vI k), some (vI s), some (vI p), some (vI q), some (vI (T 205 0 (23 * T 230 0 m + 0))), none, some (vI v)] [] T := by
    intro v t1 t2 n3 v1 s1 q1
    refine j_blx (F := fX11) tb_X11 (nn_ _) bk_X11_lawOf_e_139 bs_X11_lawOf_e_139 hz (fun K hK => ?_)
    refine And.intro (fun c7 => ?_) (fun c7 => ?_)
    · refine hK 163 _ [] T ?_
      refine c_163 v ?_ ?_ ?_ ?_ ?_ ?_ ?_ ?_
      · first
        | exact t1
        | omega
      · exact t2
      · exact n3
      · exact v1
      · intro z
        first
        | exact sl1
        | exact s1 z
        | (exfalso; omega)
      · intro z
        first
        | exact st1
        | exact q1 z
        | (exfalso; omega)
      · intro z y
        first
        | exact sl2
        | exact s2 z y
        | (exfalso; omega)
      · intro z y
        first
        | exact st2
        | exact q2 z y
        | (exfalso; omega)
    · have sb9 := lf_s t2 (v1.resolve_right (fun z => absurd z.1 c7)).2
      refine And.intro (fun c8 => ?_) (fun c8 => ?_)
      · refine hK 163 _ [] T ?_
        refine c_163 v ?_ ?_ ?_ ?_ ?_ ?_ ?_ ?_
        · first
          | exact t1
          | omega
        · exact t2
        · exact n3
        · exact v1
        · intro z
          first
          | exact sl1
          | exact s1 z
          | (exfalso; omega)
        · intro z
          first
          | exact st1
          | exact q1 z
          | (exfalso; omega)
        · intro z y
          first
          | exact sl2
          | exact s2 z y
          | (exfalso; omega)
        · intro z y
          first
          | exact st2
          | exact q2 z y
          | (exfalso; omega)
      · refine hK 155 _ [vI 0, vI q, vI s, vI m, vR 111 0] T ?_
        refine j_callV (y := yX11_stands) (Yc := zX11_stands) (rest := []) [vI m, vI s, vI q, vI 0] (ct_X11_stands_e (T := T) (by omega) (by omega)) cl_X11_403 (qd_c (by decide +kernel)) (nn_ _) rfl (rf_of rfl) (Nat.le_of_ble_eq_true rfl) (Nat.le_of_ble_eq_true rfl) (Nat.le_of_ble_eq_true rfl) rfl ?_
        rintro _ _ ⟨rfl, x9, rfl, hx9⟩
        show J_ zX11_lawOf T (po_X11_lawOf_e T ru m k s p q) 0 0 158 _ [vI x9] T
        refine j_blx (F := fX11) tb_X11 (nn_ _) bk_X11_lawOf_e_158 bs_X11_lawOf_e_158 hz (fun K hK => ?_)
        refine And.intro (fun c10 => ?_) (fun c10 => ?_)
        · have sl2 : SL_ T (2 * m + s) q := by
            rcases hx9 with z | z
            · exact z.2.1
            · omega
          have st2 : slR_ (rp9_ T m) s q ≠ -1 ∧ rp9_ T m 472 (slR_ (rp9_ T m) s q) = 0 := by
            rcases hx9 with z | z
            · exact z.2.2
            · omega
          refine hK 163 _ [] T ?_
          refine c_163 v ?_ ?_ ?_ ?_ ?_ ?_ ?_ ?_
          · first
            | exact t1
            | omega
          · exact t2
          · exact n3
          · exact v1
          · intro z
            first
            | exact sl1
            | exact s1 z
            | (exfalso; omega)
          · intro z
            first
            | exact st1
            | exact q1 z
            | (exfalso; omega)
          · intro z y
            first
            | exact sl2
            | exact s2 z y
            | (exfalso; omega)
          · intro z y
            first
            | exact st2
            | exact q2 z y
            | (exfalso; omega)
        · have ns2 : ¬ (slR_ (rp9_ T m) s q ≠ -1 ∧ rp9_ T m 472 (slR_ (rp9_ T m) s q) = 0) := by
            rcases hx9 with z | z
            · omega
            · exact z.2
          refine (show po_X11_lawOf_e T ru m k s p q T (some (vI 5)) from ?_)
          exact ⟨rfl, _, rfl, by decide, fun z => absurd z (by decide), (lwR__5 (r := ru) (a := rp9_ T m) (k := k) (s := s) (q := p) (o := q) (fun z => z (z103_0.trans t1)) (fun z => z (by rw [← hru0]; exact t2)) (show ¬ ((ru 0 = 0 ∧ (k = 1 ∨ k = 2) ∧ (rp9_ T m) 103 4 = 1) ∨ (ru 0 = 3 ∧ (rp9_ T m) 103 5 ≠ s)) by rw [z103_1, z103_2, ← hru0]; exact n3) (show (ru 0 = 0 ∧ 0 < k) ∨ (ru 0 = 1 ∧ k = 5) from (by rw [← hru0]; exact (v1.resolve_right (fun z => absurd z.1 c7)).2)) (show ¬ (¬ (slR_ (rp9_ T m) s p ≠ -1 ∧ (rp9_ T m) 472 (slR_ (rp9_ T m) s p) = 1)) by (try simp only [z103_0, z103_1, z103_2, ← hru0, ← hru10]); omega) (show k = 5 by (try simp only [z103_0, z103_1, z103_2, ← hru0, ← hru10]); omega) (show ¬ (slR_ (rp9_ T m) s q ≠ -1 ∧ (rp9_ T m) 472 (slR_ (rp9_ T m) s q) = 0) by (try simp only [z103_0, z103_1, z103_2, ← hru0, ← hru10]); omega)).symm⟩
  have c_118 : ∀ (v : Int), (T 235 0 m = 1) → (lfT_ T m k s) → (lfN_ T m k s) → ((v = 1 ∧ lfW_ T m k) ∨ (v = 0 ∧ ¬ lfW_ T m k)) → J_ zX11_lawOf T (po_X11_lawOf_e T ru m k s p q) 0 0 118 [some (vR 111 0), some (vI m), some (vI k), some (vI s), some (vI p), some (vI q), some (vI (T 205 0 (23 * T 230 0 m + 0))), none, none] [vI v] T := by
    intro v t1 t2 n3 v1
    refine j_blx (F := fX11) tb_X11 (nn_ _) bk_X11_lawOf_e_118 bs_X11_lawOf_e_118 hz (fun K hK => ?_)
    refine And.intro (fun c11 => ?_) (fun c11 => ?_)
    · refine hK 139 [some (vR 111 0), some (vI m), some (vI k), some (vI s), some (vI p), some (vI q), some (vI (T 205 0 (23 * T 230 0 m + 0))), none, some (vI v)] [] T ?_
      refine c_139 v ?_ ?_ ?_ ?_ ?_ ?_
      · first
        | exact t1
        | omega
      · exact t2
      · exact n3
      · exact v1
      · intro z
        first
        | exact sl1
        | exact s1 z
        | (exfalso; omega)
      · intro z
        first
        | exact st1
        | exact q1 z
        | (exfalso; omega)
    · have sb9 := lf_s t2 (v1.resolve_right (fun z => absurd z.1 c11)).2
      refine hK 131 _ [vI 1, vI p, vI s, vI m, vR 111 0] T ?_
      refine j_callV (y := yX11_stands) (Yc := zX11_stands) (rest := []) [vI m, vI s, vI p, vI 1] (ct_X11_stands_e (T := T) (by omega) (by omega)) cl_X11_403 (qd_c (by decide +kernel)) (nn_ _) rfl (rf_of rfl) (Nat.le_of_ble_eq_true rfl) (Nat.le_of_ble_eq_true rfl) (Nat.le_of_ble_eq_true rfl) rfl ?_
      rintro _ _ ⟨rfl, x12, rfl, hx12⟩
      show J_ zX11_lawOf T (po_X11_lawOf_e T ru m k s p q) 0 0 134 _ [vI x12] T
      refine j_blx (F := fX11) tb_X11 (nn_ _) bk_X11_lawOf_e_134 bs_X11_lawOf_e_134 hz (fun K hK => ?_)
      refine And.intro (fun c13 => ?_) (fun c13 => ?_)
      · have sl1 : SL_ T (2 * m + s) p := by
          rcases hx12 with z | z
          · exact z.2.1
          · omega
        have st1 : slR_ (rp9_ T m) s p ≠ -1 ∧ rp9_ T m 472 (slR_ (rp9_ T m) s p) = 1 := by
          rcases hx12 with z | z
          · exact z.2.2
          · omega
        refine hK 139 _ [] T ?_
        refine c_139 v ?_ ?_ ?_ ?_ ?_ ?_
        · first
          | exact t1
          | omega
        · exact t2
        · exact n3
        · exact v1
        · intro z
          first
          | exact sl1
          | exact s1 z
          | (exfalso; omega)
        · intro z
          first
          | exact st1
          | exact q1 z
          | (exfalso; omega)
      · have ns1 : ¬ (slR_ (rp9_ T m) s p ≠ -1 ∧ rp9_ T m 472 (slR_ (rp9_ T m) s p) = 1) := by
          rcases hx12 with z | z
          · omega
          · exact z.2
        refine (show po_X11_lawOf_e T ru m k s p q T (some (vI 4)) from ?_)
        exact ⟨rfl, _, rfl, by decide, fun z => absurd z (by decide), (lwR__4 (r := ru) (a := rp9_ T m) (k := k) (s := s) (q := p) (o := q) (fun z => z (z103_0.trans t1)) (fun z => z (by rw [← hru0]; exact t2)) (show ¬ ((ru 0 = 0 ∧ (k = 1 ∨ k = 2) ∧ (rp9_ T m) 103 4 = 1) ∨ (ru 0 = 3 ∧ (rp9_ T m) 103 5 ≠ s)) by rw [z103_1, z103_2, ← hru0]; exact n3) (show (ru 0 = 0 ∧ 0 < k) ∨ (ru 0 = 1 ∧ k = 5) from (by rw [← hru0]; exact (v1.resolve_right (fun z => absurd z.1 c11)).2)) (show ¬ (slR_ (rp9_ T m) s p ≠ -1 ∧ (rp9_ T m) 472 (slR_ (rp9_ T m) s p) = 1) by (try simp only [z103_0, z103_1, z103_2, ← hru0, ← hru10]); omega)).symm⟩
  have c_68 : ∀ (v : Int), (T 235 0 m = 1) → (lfT_ T m k s) → ((v = 1 ∧ (T 205 0 (23 * T 230 0 m + 0) = 0 ∧ (k = 1 ∨ k = 2) ∧ T 246 0 (8 * m + 0) = 1)) ∨ (v = 0 ∧ ¬ (T 205 0 (23 * T 230 0 m + 0) = 0 ∧ (k = 1 ∨ k = 2) ∧ T 246 0 (8 * m + 0) = 1))) → J_ zX11_lawOf T (po_X11_lawOf_e T ru m k s p q) 0 0 68 [some (vR 111 0), some (vI m), some (vI k), some (vI s), some (vI p), some (vI q), some (vI (T 205 0 (23 * T 230 0 m + 0))), none, none] [vI v] T := by
    intro v t1 t2 v0
    refine j_blx (F := fX11) tb_X11 (nn_ _) bk_X11_lawOf_e_68 bs_X11_lawOf_e_68 hz (fun K hK => ?_)
    refine And.intro (fun c14 => ?_) (fun c14 => ?_)
    · refine hK 91 [some (vR 111 0), some (vI m), some (vI k), some (vI s), some (vI p), some (vI q), some (vI (T 205 0 (23 * T 230 0 m + 0))), some (vI v), none] [] T ?_
      refine j_blx (F := fX11) tb_X11 (nn_ _) bk_X11_lawOf_e_91 bs_X11_lawOf_e_91 hz (fun K hK => ?_)
      refine (show po_X11_lawOf_e T ru m k s p q T (some (vI 3)) from ?_)
      exact ⟨rfl, _, rfl, by decide, fun z => absurd z (by decide), (lwR__3 (r := ru) (a := rp9_ T m) (k := k) (s := s) (q := p) (o := q) (fun z => z (z103_0.trans t1)) (fun z => z (by rw [← hru0]; exact t2)) (show (ru 0 = 0 ∧ (k = 1 ∨ k = 2) ∧ (rp9_ T m) 103 4 = 1) ∨ (ru 0 = 3 ∧ (rp9_ T m) 103 5 ≠ s) by (try simp only [z103_0, z103_1, z103_2, ← hru0, ← hru10]); omega)).symm⟩
    · refine And.intro (fun c15 => ?_) (fun c15 => ?_)
      · refine hK 93 _ [] T ?_
        refine j_blx (F := fX11) tb_X11 (nn_ _) bk_X11_lawOf_e_93 bs_X11_lawOf_e_93 hz (fun K hK => ?_)
        refine And.intro (fun c16 => ?_) (fun c16 => ?_)
        · refine hK 102 _ [] T ?_
          refine j_blx (F := fX11) tb_X11 (nn_ _) bk_X11_lawOf_e_102 bs_X11_lawOf_e_102 hz (fun K hK => ?_)
          refine And.intro (fun c17 => ?_) (fun c17 => ?_)
          · refine hK 117 _ [] T ?_
            refine j_blx (F := fX11) tb_X11 (nn_ _) bk_X11_lawOf_e_117 bs_X11_lawOf_e_117 hz (fun K hK => ?_)
            refine hK 118 _ [vI 0] T ?_
            refine j_drq [some (vR 111 0), some (vI m), some (vI k), some (vI s), some (vI p), some (vI q), some (vI (T 205 0 (23 * T 230 0 m + 0))), none, none] (drq_s (drq_s (drq_s (drq_s (drq_s (drq_s (drq_s (drq_n (drq_n drq_0))))))))) ?_
            refine c_118 0 ?_ ?_ ?_ ?_
            · first
              | exact t1
              | omega
            · exact t2
            · unfold lfN_
              omega
            · exact Or.inr ⟨rfl, by unfold lfW_; omega⟩
          · refine And.intro (fun c18 => ?_) (fun c18 => ?_)
            · refine hK 117 [some (vR 111 0), some (vI m), some (vI k), some (vI s), some (vI p), some (vI q), some (vI (T 205 0 (23 * T 230 0 m + 0))), some (vI v), none] [] T ?_
              refine j_blx (F := fX11) tb_X11 (nn_ _) bk_X11_lawOf_e_117 bs_X11_lawOf_e_117 hz (fun K hK => ?_)
              refine hK 118 _ [vI 0] T ?_
              refine j_drq [some (vR 111 0), some (vI m), some (vI k), some (vI s), some (vI p), some (vI q), some (vI (T 205 0 (23 * T 230 0 m + 0))), none, none] (drq_s (drq_s (drq_s (drq_s (drq_s (drq_s (drq_s (drq_n (drq_n drq_0))))))))) ?_
              refine c_118 0 ?_ ?_ ?_ ?_
              · first
                | exact t1
                | omega
              · exact t2
              · unfold lfN_
                omega
              · exact Or.inr ⟨rfl, by unfold lfW_; omega⟩
            · refine hK 118 [some (vR 111 0), some (vI m), some (vI k), some (vI s), some (vI p), some (vI q), some (vI (T 205 0 (23 * T 230 0 m + 0))), some (vI v), none] [vI 1] T ?_
              refine j_drq [some (vR 111 0), some (vI m), some (vI k), some (vI s), some (vI p), some (vI q), some (vI (T 205 0 (23 * T 230 0 m + 0))), none, none] (drq_s (drq_s (drq_s (drq_s (drq_s (drq_s (drq_s (drq_n (drq_n drq_0))))))))) ?_
              refine c_118 1 ?_ ?_ ?_ ?_
              · first
                | exact t1
                | omega
              · exact t2
              · unfold lfN_
                omega
              · exact Or.inl ⟨rfl, by unfold lfW_; omega⟩
        · refine And.intro (fun c19 => ?_) (fun c19 => ?_)
          · refine hK 113 _ [] T ?_
            refine j_blx (F := fX11) tb_X11 (nn_ _) bk_X11_lawOf_e_113 bs_X11_lawOf_e_113 hz (fun K hK => ?_)
            refine hK 118 _ [vI 1] T ?_
            refine j_drq [some (vR 111 0), some (vI m), some (vI k), some (vI s), some (vI p), some (vI q), some (vI (T 205 0 (23 * T 230 0 m + 0))), none, none] (drq_s (drq_s (drq_s (drq_s (drq_s (drq_s (drq_s (drq_n (drq_n drq_0))))))))) ?_
            refine c_118 1 ?_ ?_ ?_ ?_
            · first
              | exact t1
              | omega
            · exact t2
            · unfold lfN_
              omega
            · exact Or.inl ⟨rfl, by unfold lfW_; omega⟩
          · refine And.intro (fun c20 => ?_) (fun c20 => ?_)
            · refine hK 117 [some (vR 111 0), some (vI m), some (vI k), some (vI s), some (vI p), some (vI q), some (vI (T 205 0 (23 * T 230 0 m + 0))), some (vI v), none] [] T ?_
              refine j_blx (F := fX11) tb_X11 (nn_ _) bk_X11_lawOf_e_117 bs_X11_lawOf_e_117 hz (fun K hK => ?_)
              refine hK 118 _ [vI 0] T ?_
              refine j_drq [some (vR 111 0), some (vI m), some (vI k), some (vI s), some (vI p), some (vI q), some (vI (T 205 0 (23 * T 230 0 m + 0))), none, none] (drq_s (drq_s (drq_s (drq_s (drq_s (drq_s (drq_s (drq_n (drq_n drq_0))))))))) ?_
              refine c_118 0 ?_ ?_ ?_ ?_
              · first
                | exact t1
                | omega
              · exact t2
              · unfold lfN_
                omega
              · exact Or.inr ⟨rfl, by unfold lfW_; omega⟩
            · refine And.intro (fun c21 => ?_) (fun c21 => ?_)
              · refine hK 117 [some (vR 111 0), some (vI m), some (vI k), some (vI s), some (vI p), some (vI q), some (vI (T 205 0 (23 * T 230 0 m + 0))), some (vI v), none] [] T ?_
                refine j_blx (F := fX11) tb_X11 (nn_ _) bk_X11_lawOf_e_117 bs_X11_lawOf_e_117 hz (fun K hK => ?_)
                refine hK 118 _ [vI 0] T ?_
                refine j_drq [some (vR 111 0), some (vI m), some (vI k), some (vI s), some (vI p), some (vI q), some (vI (T 205 0 (23 * T 230 0 m + 0))), none, none] (drq_s (drq_s (drq_s (drq_s (drq_s (drq_s (drq_s (drq_n (drq_n drq_0))))))))) ?_
                refine c_118 0 ?_ ?_ ?_ ?_
                · first
                  | exact t1
                  | omega
                · exact t2
                · unfold lfN_
                  omega
                · exact Or.inr ⟨rfl, by unfold lfW_; omega⟩
              · refine hK 118 [some (vR 111 0), some (vI m), some (vI k), some (vI s), some (vI p), some (vI q), some (vI (T 205 0 (23 * T 230 0 m + 0))), some (vI v), none] [vI 1] T ?_
                refine j_drq [some (vR 111 0), some (vI m), some (vI k), some (vI s), some (vI p), some (vI q), some (vI (T 205 0 (23 * T 230 0 m + 0))), none, none] (drq_s (drq_s (drq_s (drq_s (drq_s (drq_s (drq_s (drq_n (drq_n drq_0))))))))) ?_
                refine c_118 1 ?_ ?_ ?_ ?_
                · first
                  | exact t1
                  | omega
                · exact t2
                · unfold lfN_
                  omega
                · exact Or.inl ⟨rfl, by unfold lfW_; omega⟩
      · refine hK 84 _ [vI 5, vI m, vR 111 0] T ?_
        refine j_callV (y := yX11_liveOf) (Yc := zX11_liveOf) (rest := []) [vI m, vI 5] (ct_X11_liveOf (T := T) (by omega) (by omega)) cl_X11_400 (qd_c (by decide +kernel)) (nn_ _) rfl (rf_of rfl) (Nat.le_of_ble_eq_true rfl) (Nat.le_of_ble_eq_true rfl) (Nat.le_of_ble_eq_true rfl) rfl ?_
        rintro _ _ ⟨rfl, rfl⟩
        show J_ zX11_lawOf T (po_X11_lawOf_e T ru m k s p q) 0 0 87 _ [vI (T 246 0 (8 * m + 5))] T
        refine j_blx (F := fX11) tb_X11 (nn_ _) bk_X11_lawOf_e_87 bs_X11_lawOf_e_87 hz (fun K hK => ?_)
        refine And.intro (fun c22 => ?_) (fun c22 => ?_)
        · refine hK 93 _ [] T ?_
          refine j_blx (F := fX11) tb_X11 (nn_ _) bk_X11_lawOf_e_93 bs_X11_lawOf_e_93 hz (fun K hK => ?_)
          refine And.intro (fun c23 => ?_) (fun c23 => ?_)
          · refine hK 102 _ [] T ?_
            refine j_blx (F := fX11) tb_X11 (nn_ _) bk_X11_lawOf_e_102 bs_X11_lawOf_e_102 hz (fun K hK => ?_)
            refine And.intro (fun c24 => ?_) (fun c24 => ?_)
            · refine hK 117 _ [] T ?_
              refine j_blx (F := fX11) tb_X11 (nn_ _) bk_X11_lawOf_e_117 bs_X11_lawOf_e_117 hz (fun K hK => ?_)
              refine hK 118 _ [vI 0] T ?_
              refine j_drq [some (vR 111 0), some (vI m), some (vI k), some (vI s), some (vI p), some (vI q), some (vI (T 205 0 (23 * T 230 0 m + 0))), none, none] (drq_s (drq_s (drq_s (drq_s (drq_s (drq_s (drq_s (drq_n (drq_n drq_0))))))))) ?_
              refine c_118 0 ?_ ?_ ?_ ?_
              · first
                | exact t1
                | omega
              · exact t2
              · unfold lfN_
                omega
              · exact Or.inr ⟨rfl, by unfold lfW_; omega⟩
            · refine And.intro (fun c25 => ?_) (fun c25 => ?_)
              · refine hK 117 [some (vR 111 0), some (vI m), some (vI k), some (vI s), some (vI p), some (vI q), some (vI (T 205 0 (23 * T 230 0 m + 0))), some (vI v), none] [] T ?_
                refine j_blx (F := fX11) tb_X11 (nn_ _) bk_X11_lawOf_e_117 bs_X11_lawOf_e_117 hz (fun K hK => ?_)
                refine hK 118 _ [vI 0] T ?_
                refine j_drq [some (vR 111 0), some (vI m), some (vI k), some (vI s), some (vI p), some (vI q), some (vI (T 205 0 (23 * T 230 0 m + 0))), none, none] (drq_s (drq_s (drq_s (drq_s (drq_s (drq_s (drq_s (drq_n (drq_n drq_0))))))))) ?_
                refine c_118 0 ?_ ?_ ?_ ?_
                · first
                  | exact t1
                  | omega
                · exact t2
                · unfold lfN_
                  omega
                · exact Or.inr ⟨rfl, by unfold lfW_; omega⟩
              · refine hK 118 [some (vR 111 0), some (vI m), some (vI k), some (vI s), some (vI p), some (vI q), some (vI (T 205 0 (23 * T 230 0 m + 0))), some (vI v), none] [vI 1] T ?_
                refine j_drq [some (vR 111 0), some (vI m), some (vI k), some (vI s), some (vI p), some (vI q), some (vI (T 205 0 (23 * T 230 0 m + 0))), none, none] (drq_s (drq_s (drq_s (drq_s (drq_s (drq_s (drq_s (drq_n (drq_n drq_0))))))))) ?_
                refine c_118 1 ?_ ?_ ?_ ?_
                · first
                  | exact t1
                  | omega
                · exact t2
                · unfold lfN_
                  omega
                · exact Or.inl ⟨rfl, by unfold lfW_; omega⟩
          · refine And.intro (fun c26 => ?_) (fun c26 => ?_)
            · refine hK 113 _ [] T ?_
              refine j_blx (F := fX11) tb_X11 (nn_ _) bk_X11_lawOf_e_113 bs_X11_lawOf_e_113 hz (fun K hK => ?_)
              refine hK 118 _ [vI 1] T ?_
              refine j_drq [some (vR 111 0), some (vI m), some (vI k), some (vI s), some (vI p), some (vI q), some (vI (T 205 0 (23 * T 230 0 m + 0))), none, none] (drq_s (drq_s (drq_s (drq_s (drq_s (drq_s (drq_s (drq_n (drq_n drq_0))))))))) ?_
              refine c_118 1 ?_ ?_ ?_ ?_
              · first
                | exact t1
                | omega
              · exact t2
              · unfold lfN_
                omega
              · exact Or.inl ⟨rfl, by unfold lfW_; omega⟩
            · refine And.intro (fun c27 => ?_) (fun c27 => ?_)
              · refine hK 117 [some (vR 111 0), some (vI m), some (vI k), some (vI s), some (vI p), some (vI q), some (vI (T 205 0 (23 * T 230 0 m + 0))), some (vI v), none] [] T ?_
                refine j_blx (F := fX11) tb_X11 (nn_ _) bk_X11_lawOf_e_117 bs_X11_lawOf_e_117 hz (fun K hK => ?_)
                refine hK 118 _ [vI 0] T ?_
                refine j_drq [some (vR 111 0), some (vI m), some (vI k), some (vI s), some (vI p), some (vI q), some (vI (T 205 0 (23 * T 230 0 m + 0))), none, none] (drq_s (drq_s (drq_s (drq_s (drq_s (drq_s (drq_s (drq_n (drq_n drq_0))))))))) ?_
                refine c_118 0 ?_ ?_ ?_ ?_
                · first
                  | exact t1
                  | omega
                · exact t2
                · unfold lfN_
                  omega
                · exact Or.inr ⟨rfl, by unfold lfW_; omega⟩
              · refine And.intro (fun c28 => ?_) (fun c28 => ?_)
                · refine hK 117 [some (vR 111 0), some (vI m), some (vI k), some (vI s), some (vI p), some (vI q), some (vI (T 205 0 (23 * T 230 0 m + 0))), some (vI v), none] [] T ?_
                  refine j_blx (F := fX11) tb_X11 (nn_ _) bk_X11_lawOf_e_117 bs_X11_lawOf_e_117 hz (fun K hK => ?_)
                  refine hK 118 _ [vI 0] T ?_
                  refine j_drq [some (vR 111 0), some (vI m), some (vI k), some (vI s), some (vI p), some (vI q), some (vI (T 205 0 (23 * T 230 0 m + 0))), none, none] (drq_s (drq_s (drq_s (drq_s (drq_s (drq_s (drq_s (drq_n (drq_n drq_0))))))))) ?_
                  refine c_118 0 ?_ ?_ ?_ ?_
                  · first
                    | exact t1
                    | omega
                  · exact t2
                  · unfold lfN_
                    omega
                  · exact Or.inr ⟨rfl, by unfold lfW_; omega⟩
                · refine hK 118 [some (vR 111 0), some (vI m), some (vI k), some (vI s), some (vI p), some (vI q), some (vI (T 205 0 (23 * T 230 0 m + 0))), some (vI v), none] [vI 1] T ?_
                  refine j_drq [some (vR 111 0), some (vI m), some (vI k), some (vI s), some (vI p), some (vI q), some (vI (T 205 0 (23 * T 230 0 m + 0))), none, none] (drq_s (drq_s (drq_s (drq_s (drq_s (drq_s (drq_s (drq_n (drq_n drq_0))))))))) ?_
                  refine c_118 1 ?_ ?_ ?_ ?_
                  · first
                    | exact t1
                    | omega
                  · exact t2
                  · unfold lfN_
                    omega
                  · exact Or.inl ⟨rfl, by unfold lfW_; omega⟩
        · refine (show po_X11_lawOf_e T ru m k s p q T (some (vI 3)) from ?_)
          exact ⟨rfl, _, rfl, by decide, fun z => absurd z (by decide), (lwR__3 (r := ru) (a := rp9_ T m) (k := k) (s := s) (q := p) (o := q) (fun z => z (z103_0.trans t1)) (fun z => z (by rw [← hru0]; exact t2)) (show (ru 0 = 0 ∧ (k = 1 ∨ k = 2) ∧ (rp9_ T m) 103 4 = 1) ∨ (ru 0 = 3 ∧ (rp9_ T m) 103 5 ≠ s) by (try simp only [z103_0, z103_1, z103_2, ← hru0, ← hru10]); omega)).symm⟩
  refine j_blx (F := fX11) tb_X11 (nn_ _) bk_X11_lawOf_e_0 bs_X11_lawOf_e_0 hz (fun K hK => ?_)
  refine ix_i (by omega) ?_
  intro b29 b29b
  refine hK 8 _ [vI 0, vI (T 230 0 m), vR 111 0] T ?_
  refine j_callV (y := yX11_rule0) (Yc := zX11_rule0) (rest := []) [vI (T 230 0 m), vI 0] (ct_X11_rule0 (T := T) (by omega) (by omega)) cl_X11_321 (qd_c (by decide +kernel)) (nn_ _) rfl (rf_of rfl) (Nat.le_of_ble_eq_true rfl) (Nat.le_of_ble_eq_true rfl) (Nat.le_of_ble_eq_true rfl) rfl ?_
  rintro _ _ ⟨rfl, rfl⟩
  show J_ zX11_lawOf T (po_X11_lawOf_e T ru m k s p q) 0 0 11 _ [vI (T 205 0 (23 * (T 230 0 m) + 0))] T
  refine j_blx (F := fX11) tb_X11 (nn_ _) bk_X11_lawOf_e_11 bs_X11_lawOf_e_11 hz (fun K hK => ?_)
  refine ix_i (by omega) ?_
  intro b30 b30b
  refine And.intro (fun c31 => ?_) (fun c31 => ?_)
  · refine hK 25 [some (vR 111 0), some (vI m), some (vI k), some (vI s), some (vI p), some (vI q), some (vI (T 205 0 (23 * (T 230 0 m) + 0))), none, none] [] T ?_
    refine j_blx (F := fX11) tb_X11 (nn_ _) bk_X11_lawOf_e_25 bs_X11_lawOf_e_25 hz (fun K hK => ?_)
    refine hK 30 _ [vI s, vI k, vI (T 205 0 (23 * (T 230 0 m) + 0)), vR 111 0] T ?_
    refine j_callV (y := yX11_isTold) (Yc := zX11_isTold) (rest := []) [vI (T 205 0 (23 * (T 230 0 m) + 0)), vI k, vI s] (ct_X11_isTold_e (T := T)) cl_X11_397 (qd_c (by decide +kernel)) (nn_ _) rfl (rf_of rfl) (Nat.le_of_ble_eq_true rfl) (Nat.le_of_ble_eq_true rfl) (Nat.le_of_ble_eq_true rfl) rfl ?_
    rintro _ _ ⟨rfl, x32, rfl, hx32⟩
    show J_ zX11_lawOf T (po_X11_lawOf_e T ru m k s p q) 0 0 33 _ [vI x32] T
    refine j_blx (F := fX11) tb_X11 (nn_ _) bk_X11_lawOf_e_33 bs_X11_lawOf_e_33 hz (fun K hK => ?_)
    refine And.intro (fun c33 => ?_) (fun c33 => ?_)
    · refine hK 38 _ [] T ?_
      have t2 : lfT_ T m k s := (hx32.resolve_right (fun z => absurd z.1 c33)).2
      clear hx32
      refine j_blx (F := fX11) tb_X11 (nn_ _) bk_X11_lawOf_e_38 bs_X11_lawOf_e_38 hz (fun K hK => ?_)
      refine And.intro (fun c34 => ?_) (fun c34 => ?_)
      · refine hK 67 _ [] T ?_
        refine j_blx (F := fX11) tb_X11 (nn_ _) bk_X11_lawOf_e_67 bs_X11_lawOf_e_67 hz (fun K hK => ?_)
        refine hK 68 _ [vI 0] T ?_
        refine c_68 0 ?_ ?_ ?_
        · first
          | exact t1
          | omega
        · exact t2
        · exact Or.inr ⟨rfl, by omega⟩
      · refine And.intro (fun c35 => ?_) (fun c35 => ?_)
        · refine hK 53 _ [] T ?_
          refine j_blx (F := fX11) tb_X11 (nn_ _) bk_X11_lawOf_e_53 bs_X11_lawOf_e_53 hz (fun K hK => ?_)
          refine hK 56 _ [vI 0, vI m, vR 111 0] T ?_
          refine j_callV (y := yX11_liveOf) (Yc := zX11_liveOf) (rest := []) [vI m, vI 0] (ct_X11_liveOf (T := T) (by omega) (by omega)) cl_X11_400 (qd_c (by decide +kernel)) (nn_ _) rfl (rf_of rfl) (Nat.le_of_ble_eq_true rfl) (Nat.le_of_ble_eq_true rfl) (Nat.le_of_ble_eq_true rfl) rfl ?_
          rintro _ _ ⟨rfl, rfl⟩
          show J_ zX11_lawOf T (po_X11_lawOf_e T ru m k s p q) 0 0 59 _ [vI (T 246 0 (8 * m + 0))] T
          refine j_blx (F := fX11) tb_X11 (nn_ _) bk_X11_lawOf_e_59 bs_X11_lawOf_e_59 hz (fun K hK => ?_)
          refine And.intro (fun c36 => ?_) (fun c36 => ?_)
          · refine hK 67 _ [] T ?_
            refine j_blx (F := fX11) tb_X11 (nn_ _) bk_X11_lawOf_e_67 bs_X11_lawOf_e_67 hz (fun K hK => ?_)
            refine hK 68 _ [vI 0] T ?_
            refine c_68 0 ?_ ?_ ?_
            · first
              | exact t1
              | omega
            · exact t2
            · exact Or.inr ⟨rfl, by omega⟩
          · refine hK 68 _ [vI 1] T ?_
            refine c_68 1 ?_ ?_ ?_
            · first
              | exact t1
              | omega
            · exact t2
            · exact Or.inl ⟨rfl, by omega⟩
        · refine And.intro (fun c37 => ?_) (fun c37 => ?_)
          · refine hK 67 _ [] T ?_
            refine j_blx (F := fX11) tb_X11 (nn_ _) bk_X11_lawOf_e_67 bs_X11_lawOf_e_67 hz (fun K hK => ?_)
            refine hK 68 _ [vI 0] T ?_
            refine c_68 0 ?_ ?_ ?_
            · first
              | exact t1
              | omega
            · exact t2
            · exact Or.inr ⟨rfl, by omega⟩
          · refine hK 56 _ [vI 0, vI m, vR 111 0] T ?_
            refine j_callV (y := yX11_liveOf) (Yc := zX11_liveOf) (rest := []) [vI m, vI 0] (ct_X11_liveOf (T := T) (by omega) (by omega)) cl_X11_400 (qd_c (by decide +kernel)) (nn_ _) rfl (rf_of rfl) (Nat.le_of_ble_eq_true rfl) (Nat.le_of_ble_eq_true rfl) (Nat.le_of_ble_eq_true rfl) rfl ?_
            rintro _ _ ⟨rfl, rfl⟩
            show J_ zX11_lawOf T (po_X11_lawOf_e T ru m k s p q) 0 0 59 _ [vI (T 246 0 (8 * m + 0))] T
            refine j_blx (F := fX11) tb_X11 (nn_ _) bk_X11_lawOf_e_59 bs_X11_lawOf_e_59 hz (fun K hK => ?_)
            refine And.intro (fun c38 => ?_) (fun c38 => ?_)
            · refine hK 67 _ [] T ?_
              refine j_blx (F := fX11) tb_X11 (nn_ _) bk_X11_lawOf_e_67 bs_X11_lawOf_e_67 hz (fun K hK => ?_)
              refine hK 68 _ [vI 0] T ?_
              refine c_68 0 ?_ ?_ ?_
              · first
                | exact t1
                | omega
              · exact t2
              · exact Or.inr ⟨rfl, by omega⟩
            · refine hK 68 _ [vI 1] T ?_
              refine c_68 1 ?_ ?_ ?_
              · first
                | exact t1
                | omega
              · exact t2
              · exact Or.inl ⟨rfl, by omega⟩
    · refine (show po_X11_lawOf_e T ru m k s p q T (some (vI 2)) from ?_)
      have nt2 : ¬ lfT_ T m k s := (hx32.resolve_left (fun z => absurd (c33.symm.trans z.1) (by decide))).2
      exact ⟨rfl, _, rfl, by decide, fun z => absurd z (by decide), (lwR__2 (r := ru) (a := rp9_ T m) (k := k) (s := s) (q := p) (o := q) (fun z => z (z103_0.trans (by omega))) (show ¬ (((ru 0 = 0 ∧ 0 ≤ k ∧ k ≤ 5) ∨ (ru 0 = 1 ∧ (k = 1 ∨ k = 5)) ∨ (ru 0 = 2 ∧ (k = 1 ∨ k = 6)) ∨ (¬ ru 0 = 0 ∧ ¬ ru 0 = 1 ∧ ¬ ru 0 = 2 ∧ 1 ≤ k ∧ k ≤ 4)) ∧ ((ru 0 = 0 ∧ k = 0) ∨ (0 ≤ s ∧ s ≤ 1))) by rw [← hru0]; exact nt2)).symm⟩
  · refine (show po_X11_lawOf_e T ru m k s p q T (some (vI 1)) from ?_)
    exact ⟨rfl, _, rfl, by decide, fun z => absurd z (by decide), (lwR__1 (r := ru) (a := rp9_ T m) (k := k) (s := s) (q := p) (o := q) (show (rp9_ T m) 103 3 ≠ 1 by (try simp only [z103_0, z103_1, z103_2, ← hru0, ← hru10]); omega)).symm⟩
