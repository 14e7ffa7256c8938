abbrev cX11_readSport : ByteArray := prog_13_method_15_code
def yX11_readSport : MethodName := ⟨RX11, "readSport", "()V"⟩
def zX11_readSport : Zm := (RX11, cX11_readSport, 2, none, { frames := 3, cells := 0, slots := 0, locals := 63 })
theorem bk_X11_readSport_69 : ck_ fX11 none cX11_readSport 69 [.aload 0, .tableswitch 0 11 62 #[], .ifCond .ne 83, .aload 0, .tableswitch 0 11 4 #[], .iconst 0, .iload 1, .iastore, .return_] 84 = true := qck_r (nn_ _) (by decide +kernel)
theorem bs_X11_readSport_69 {P : Zt → Option Zv → Prop} (K : Int → Zl → List Zv → Zt → Prop) : sx_ K P [.aload 0, .tableswitch 0 11 62 #[], .ifCond .ne 83, .aload 0, .tableswitch 0 11 4 #[], .iconst 0, .iload 1, .iastore, .return_] 84 = x_aload 0 (x_g0 111 62 0 5 (x_ifCond .ne 83 K (x_aload 0 (x_g1 111 204 (x_iconst 0 (x_iload 1 (x_iastore (x_return_ P)))))))) := ((xe_aload 0).trans (congrArg (x_aload 0) ((xe_g0 (kk := 111) rfl tl_11_62).trans (congrArg (x_g0 111 62 0 5) ((xe_ifCond .ne 83).trans (congrArg (x_ifCond .ne 83 K) ((xe_aload 0).trans (congrArg (x_aload 0) ((xe_g1 (kk := 111) rfl tl_11_4).trans (congrArg (x_g1 111 204) ((xe_iconst 0).trans (congrArg (x_iconst 0) ((xe_iload 1).trans (congrArg (x_iload 1) ((xe_iastore).trans (congrArg (x_iastore) (xe_return_)))))))))))))))))
theorem bk_X11_readSport_83 : ck_ fX11 none cX11_readSport 83 [.return_] 84 = true := qck_r (nn_ _) (by decide +kernel)
theorem bs_X11_readSport_83 {P : Zt → Option Zv → Prop} (K : Int → Zl → List Zv → Zt → Prop) : sx_ K P [.return_] 84 = x_return_ P := (xe_return_)
theorem bk_X11_readSport_47 : ck_ fX11 none cX11_readSport 47 [.istore 1, .aload 0, .tableswitch 0 11 62 #[], .ifCond .ne 69, .iload 1, .iconst (-1), .if_icmp .ne 69, .aload 0, .iconst 3, .aload 0, .tableswitch 0 11 59 #[]] 66 = true := qck_r (nn_ _) (by decide +kernel)
theorem bs_X11_readSport_47 {P : Zt → Option Zv → Prop} (K : Int → Zl → List Zv → Zt → Prop) : sx_ K P [.istore 1, .aload 0, .tableswitch 0 11 62 #[], .ifCond .ne 69, .iload 1, .iconst (-1), .if_icmp .ne 69, .aload 0, .iconst 3, .aload 0, .tableswitch 0 11 59 #[]] 66 = x_istore 1 (x_aload 0 (x_g0 111 62 0 5 (x_ifCond .ne 69 K (x_iload 1 (x_iconst (-1) (x_if_icmp .ne 69 K (x_aload 0 (x_iconst 3 (x_aload 0 (x_g0 111 59 0 400 (K 66))))))))))) := ((xe_istore 1).trans (congrArg (x_istore 1) ((xe_aload 0).trans (congrArg (x_aload 0) ((xe_g0 (kk := 111) rfl tl_11_62).trans (congrArg (x_g0 111 62 0 5) ((xe_ifCond .ne 69).trans (congrArg (x_ifCond .ne 69 K) ((xe_iload 1).trans (congrArg (x_iload 1) ((xe_iconst (-1)).trans (congrArg (x_iconst (-1)) ((xe_if_icmp .ne 69).trans (congrArg (x_if_icmp .ne 69 K) ((xe_aload 0).trans (congrArg (x_aload 0) ((xe_iconst 3).trans (congrArg (x_iconst 3) ((xe_aload 0).trans (congrArg (x_aload 0) ((xe_g0 (kk := 111) rfl tl_11_59).trans (congrArg (x_g0 111 59 0 400) xe_nil))))))))))))))))))))))
theorem bk_X11_readSport_28 : ck_ fX11 none cX11_readSport 28 [.aload 0, .tableswitch 0 11 62 #[], .ifCond .ne 46, .aload 0, .aload 0, .tableswitch 0 11 65 #[]] 40 = true := qck_r (nn_ _) (by decide +kernel)
theorem bs_X11_readSport_28 {P : Zt → Option Zv → Prop} (K : Int → Zl → List Zv → Zt → Prop) : sx_ K P [.aload 0, .tableswitch 0 11 62 #[], .ifCond .ne 46, .aload 0, .aload 0, .tableswitch 0 11 65 #[]] 40 = x_aload 0 (x_g0 111 62 0 5 (x_ifCond .ne 46 K (x_aload 0 (x_aload 0 (x_g1 111 265 (K 40)))))) := ((xe_aload 0).trans (congrArg (x_aload 0) ((xe_g0 (kk := 111) rfl tl_11_62).trans (congrArg (x_g0 111 62 0 5) ((xe_ifCond .ne 46).trans (congrArg (x_ifCond .ne 46 K) ((xe_aload 0).trans (congrArg (x_aload 0) ((xe_aload 0).trans (congrArg (x_aload 0) ((xe_g1 (kk := 111) rfl tl_11_65).trans (congrArg (x_g1 111 265) xe_nil))))))))))))
theorem bk_X11_readSport_46 : ck_ fX11 none cX11_readSport 46 [.iconst (-1)] 47 = true := qck_r (nn_ _) (by decide +kernel)
theorem bs_X11_readSport_46 {P : Zt → Option Zv → Prop} (K : Int → Zl → List Zv → Zt → Prop) : sx_ K P [.iconst (-1)] 47 = x_iconst (-1) (K 47) := ((xe_iconst (-1)).trans (congrArg (x_iconst (-1)) xe_nil))
set_option maxRecDepth 100000 in
theorem cl_X11_294 : cv_ RX11 294 yX11_whichOf zX11_whichOf 11 1 := ⟨gi_V (lw_b8 128 (by decide +kernel) rfl : Cond.methodLink RX11 294 yX11_whichOf ∈ lw_g) (lw_b8 130 (by decide +kernel) rfl : Cond.instanceMethod yX11_whichOf ∈ lw_g) (lw_sel 79 rfl : Cond.selects yX11_whichOf.cls yX11_whichOf yX11_whichOf ∈ lw_g) (lw_b1 10 (by decide +kernel) rfl : Cond.initialized yX11_whichOf.cls ∈ lw_g) (lw_b8 131 rfl rfl : Cond.code yX11_whichOf cX11_whichOf 7 (some .int) ∈ lw_g), ⟨by decide, by decide, by decide +kernel⟩, ⟨_, _, rfl⟩⟩
theorem bk_X11_readSport_43 : ck_ fX11 none cX11_readSport 43 [.goto 47] 46 = true := qck_r (nn_ _) (by decide +kernel)
theorem bs_X11_readSport_43 {P : Zt → Option Zv → Prop} (K : Int → Zl → List Zv → Zt → Prop) : sx_ K P [.goto 47] 46 = x_goto 47 K := (xe_goto 47)
theorem bk_X11_readSport_0 : ck_ fX11 none cX11_readSport 0 [.aload 0] 1 = true := qck_r (nn_ _) (by decide +kernel)
theorem bs_X11_readSport_0 {P : Zt → Option Zv → Prop} (K : Int → Zl → List Zv → Zt → Prop) : sx_ K P [.aload 0] 1 = x_aload 0 (K 1) := ((xe_aload 0).trans (congrArg (x_aload 0) xe_nil))
theorem bk_X11_readSport_4 : ck_ fX11 none cX11_readSport 4 [.aload 0, .tableswitch 0 11 62 #[], .ifCond .ne 28, .aload 0, .tableswitch 0 11 58 #[], .iconst 1, .if_icmp .eq 28, .aload 0, .iconst 2, .aload 0, .tableswitch 0 11 59 #[]] 25 = true := qck_r (nn_ _) (by decide +kernel)
theorem bs_X11_readSport_4 {P : Zt → Option Zv → Prop} (K : Int → Zl → List Zv → Zt → Prop) : sx_ K P [.aload 0, .tableswitch 0 11 62 #[], .ifCond .ne 28, .aload 0, .tableswitch 0 11 58 #[], .iconst 1, .if_icmp .eq 28, .aload 0, .iconst 2, .aload 0, .tableswitch 0 11 59 #[]] 25 = x_aload 0 (x_g0 111 62 0 5 (x_ifCond .ne 28 K (x_aload 0 (x_g0 111 58 0 4 (x_iconst 1 (x_if_icmp .eq 28 K (x_aload 0 (x_iconst 2 (x_aload 0 (x_g0 111 59 0 400 (K 25))))))))))) := ((xe_aload 0).trans (congrArg (x_aload 0) ((xe_g0 (kk := 111) rfl tl_11_62).trans (congrArg (x_g0 111 62 0 5) ((xe_ifCond .ne 28).trans (congrArg (x_ifCond .ne 28 K) ((xe_aload 0).trans (congrArg (x_aload 0) ((xe_g0 (kk := 111) rfl tl_11_58).trans (congrArg (x_g0 111 58 0 4) ((xe_iconst 1).trans (congrArg (x_iconst 1) ((xe_if_icmp .eq 28).trans (congrArg (x_if_icmp .eq 28 K) ((xe_aload 0).trans (congrArg (x_aload 0) ((xe_iconst 2).trans (congrArg (x_iconst 2) ((xe_aload 0).trans (congrArg (x_aload 0) ((xe_g0 (kk := 111) rfl tl_11_59).trans (congrArg (x_g0 111 59 0 400) xe_nil))))))))))))))))))))))
abbrev po_X11_readSport (T : Zt) : Zt → Option Zv → Prop := fun T' r => r = none ∧ fr_ [(111, [57, 58, 59, 60, 61, 62, 63]), (204, [])] T T' ∧ (T' 111 0 57 ≤ T 111 0 1 ∧ T 111 0 57 ≤ T' 111 0 57 ∧ (T' 204 0 0 = T 204 0 0 ∨ 0 ≤ T' 204 0 0 ∧ T' 204 0 0 ≤ 3) ∧ (∀ j, j ≠ 0 → T' 204 0 j = T 204 0 j) ∧ (T' 111 0 62 = 0 → T 111 0 62 = 0))
set_option maxHeartbeats 4000000 in
theorem ct_X11_readSport {T : Zt} (h1 : T 111 0 57 ≤ T 111 0 1) (hC : CW_ T) : Ct_ yX11_readSport zX11_readSport T [vR 111 0] (po_X11_readSport T) := by
  refine ct_of pn_11 rfl rfl (Nat.le_of_ble_eq_true rfl) (fun hT hav => ?_)
  have hz : zX11_readSport.2.2.2.1 = some .boolean → ∀ (T' : Zt) (x : Int), po_X11_readSport T T' (some (vI x)) → 0 ≤ x ∧ x ≤ 1 := fun h => by cases h
  have hb_1 : 0 ≤ T 111 0 1 ∧ T 111 0 1 ≤ 400 := bd_f hT 111 1 (by decide +kernel : (tf_ 111)[1]? = some (0, 0, 0, 400)) 0
  show J_ zX11_readSport T (po_X11_readSport T) 0 0 0 [some (vR 111 0), none] [] T
  have c_47 : ∀ (v : Int) (T2 : Zt), (fr_ [(111, [57, 58, 59, 60, 61, 62, 63])] T T2) → (T2 111 0 57 ≤ T 111 0 1 ∧ T 111 0 57 ≤ T2 111 0 57 ∧ (T2 111 0 62 = 0 → T 111 0 62 = 0) ∧ -1 ≤ v ∧ v < 4) → J_ zX11_readSport T (po_X11_readSport T) 0 0 47 [some (vR 111 0), none] [vI v] T2 := by
    intro v T2 hf_47 i2
    have c_69 : ∀ (T3 : Zt), (fr_ [(111, [57, 58, 59, 60, 61, 62, 63])] T T3) → (T3 111 0 57 ≤ T 111 0 1 ∧ T 111 0 57 ≤ T3 111 0 57 ∧ (T3 111 0 62 = 0 → T 111 0 62 = 0) ∧ (T3 111 0 62 = 0 → v ≠ -1)) → J_ zX11_readSport T (po_X11_readSport T) 0 0 69 [some (vR 111 0), some (vI v)] [] T3 := by
      intro T3 hf_69 i3
      refine j_blx (F := fX11) tb_X11 (nn_ _) bk_X11_readSport_69 bs_X11_readSport_69 hz (fun K hK => ?_)
      intro b1 b1b
      refine And.intro (fun c2 => ?_) (fun c2 => ?_)
      · refine hK 83 _ [] T3 ?_
        refine j_blx (F := fX11) tb_X11 (nn_ _) bk_X11_readSport_83 bs_X11_readSport_83 hz (fun K hK => ?_)
        refine (show po_X11_readSport T T3 (none) from ?_)
        have e3 : T3 204 0 0 = T 204 0 0 := hf_69 204 0 0 rfl
        have e4 : T3 204 0 0 = T 204 0 0 := hf_69 204 0 0 rfl
        exact ⟨rfl, fr_t (fr_0 _ _) (fr_s hf_69 rfl), by omega, by omega, Or.inl (by omega), fun j hj => hf_69 204 0 j rfl, by omega⟩
      · refine iy_i (by omega) (by omega) ?_
        refine x_nm (fun U5 hU5 => ?_)
        have e6 := up_f hU5
        refine (show po_X11_readSport T U5 (none) from ?_)
        have e7 : U5 111 0 57 = T3 111 0 57 := up_k hU5 (by exact Nat.ne_of_beq_eq_false rfl) 0 57
        have e8 : U5 204 0 0 = v := up_f hU5
        have e9 : U5 111 0 62 = T3 111 0 62 := up_k hU5 (by exact Nat.ne_of_beq_eq_false rfl) 0 62
        refine ⟨rfl, fr_u (fr_t (fr_0 _ _) (fr_s hf_69 rfl)) hU5 rfl, by omega, by omega, Or.inr (by omega), fun j hj => ?_, by omega⟩
        rw [up_g hU5 (fun z => hj z.2.2)]
        exact hf_69 204 0 j rfl
    refine j_blx (F := fX11) tb_X11 (nn_ _) bk_X11_readSport_47 bs_X11_readSport_47 hz (fun K hK => ?_)
    intro b10 b10b
    refine And.intro (fun c11 => ?_) (fun c11 => ?_)
    · refine hK 69 [some (vR 111 0), some (vI v)] [] T2 ?_
      refine c_69 T2 ?_ ?_
      · exact fr_t (fr_0 _ _) (fr_s hf_47 rfl)
      · omega
    · refine And.intro (fun c12 => ?_) (fun c12 => ?_)
      · refine hK 69 _ [] T2 ?_
        refine c_69 T2 ?_ ?_
        · exact fr_t (fr_0 _ _) (fr_s hf_47 rfl)
        · omega
      · intro b13 b13b
        refine hK 66 _ [vI (T2 111 0 59), vI 3, vR 111 0] T2 ?_
        refine j_callV (y := yX11_bad) (Yc := zX11_bad) (rest := []) [vI 3, vI (T2 111 0 59)] (ct_X11_bad (T := T2) (by omega) (by omega)) cl_X11_281 (qd_c (by decide +kernel)) (nn_ _) rfl (rf_of rfl) (Nat.le_of_ble_eq_true rfl) (Nat.le_of_ble_eq_true rfl) (Nat.le_of_ble_eq_true rfl) rfl ?_
        rintro U14 _ ⟨rfl, fU14, qU14⟩
        show J_ zX11_readSport T (po_X11_readSport T) 0 0 69 _ [] U14
        have e15 : U14 111 0 57 = T2 111 0 57 := fU14 111 0 57 rfl
        refine c_69 U14 ?_ ?_
        · exact fr_t (fr_t (fr_0 _ _) (fr_s hf_47 rfl)) (fr_s fU14 rfl)
        · omega
  have c_28 : ∀ (T1 : Zt), (fr_ [(111, [57, 58, 59, 60, 61, 62, 63])] T T1) → (T1 111 0 57 ≤ T 111 0 1 ∧ T 111 0 57 ≤ T1 111 0 57 ∧ (T1 111 0 62 = 0 → T 111 0 62 = 0) ∧ T1 111 0 59 ≤ T1 111 0 60 ∧ T1 111 0 60 ≤ 400) → J_ zX11_readSport T (po_X11_readSport T) 0 0 28 [some (vR 111 0), none] [] T1 := by
    intro T1 hf_28 i1
    refine j_blx (F := fX11) tb_X11 (nn_ _) bk_X11_readSport_28 bs_X11_readSport_28 hz (fun K hK => ?_)
    intro b16 b16b
    refine And.intro (fun c17 => ?_) (fun c17 => ?_)
    · refine hK 46 _ [] T1 ?_
      refine j_blx (F := fX11) tb_X11 (nn_ _) bk_X11_readSport_46 bs_X11_readSport_46 hz (fun K hK => ?_)
      refine hK 47 _ [vI (-1)] T1 ?_
      refine c_47 (-1) T1 ?_ ?_
      · exact fr_t (fr_0 _ _) (fr_s hf_28 rfl)
      · omega
    · refine hK 40 _ [vR 265 0, vR 111 0] T1 ?_
      refine j_callV (y := yX11_whichOf) (Yc := zX11_whichOf) (rest := []) [vR 265 0] (ct_X11_whichOf_265 (T := T1) (by omega) (by exact CX_f (ws := [(111, [57, 58, 59, 60, 61, 62, 63])]) hC (fr_t (fr_0 _ _) (fr_s hf_28 rfl)) ⟨fun _ => rfl, fun _ => rfl, fun _ => rfl, fun _ => rfl, fun _ => rfl, trivial⟩)) cl_X11_294 (qd_c (by decide +kernel)) (nn_ _) rfl (rf_of rfl) (Nat.le_of_ble_eq_true rfl) (Nat.le_of_ble_eq_true rfl) (Nat.le_of_ble_eq_true rfl) rfl ?_
      rintro _ _ ⟨rfl, x18, rfl, hx18⟩
      show J_ zX11_readSport T (po_X11_readSport T) 0 0 43 _ [vI x18] T1
      refine j_blx (F := fX11) tb_X11 (nn_ _) bk_X11_readSport_43 bs_X11_readSport_43 hz (fun K hK => ?_)
      refine hK 47 _ [vI x18] T1 ?_
      refine c_47 x18 T1 ?_ ?_
      · exact fr_t (fr_0 _ _) (fr_s hf_28 rfl)
      · omega
  refine j_blx (F := fX11) tb_X11 (nn_ _) bk_X11_readSport_0 bs_X11_readSport_0 hz (fun K hK => ?_)
  refine hK 1 _ [vR 111 0] T ?_
  refine j_callV (y := yX11_take) (Yc := zX11_take) (rest := []) [] (ct_X11_take (T := T) (by omega)) cl_X11_291 (qd_c (by decide +kernel)) (nn_ _) rfl (rf_of rfl) (Nat.le_of_ble_eq_true rfl) (Nat.le_of_ble_eq_true rfl) (Nat.le_of_ble_eq_true rfl) rfl ?_
  rintro U19 _ ⟨rfl, fU19, qU19⟩
  show J_ zX11_readSport T (po_X11_readSport T) 0 0 4 _ [] U19
  refine j_blx (F := fX11) tb_X11 (nn_ _) bk_X11_readSport_4 bs_X11_readSport_4 hz (fun K hK => ?_)
  intro b20 b20b
  refine And.intro (fun c21 => ?_) (fun c21 => ?_)
  · refine hK 28 _ [] U19 ?_
    refine c_28 U19 ?_ ?_
    · exact fr_t (fr_0 _ _) (fr_s fU19 rfl)
    · omega
  · intro b22 b22b
    refine And.intro (fun c23 => ?_) (fun c23 => ?_)
    · refine hK 28 _ [] U19 ?_
      refine c_28 U19 ?_ ?_
      · exact fr_t (fr_0 _ _) (fr_s fU19 rfl)
      · omega
    · intro b24 b24b
      refine hK 25 _ [vI (U19 111 0 59), vI 2, vR 111 0] U19 ?_
      refine j_callV (y := yX11_bad) (Yc := zX11_bad) (rest := []) [vI 2, vI (U19 111 0 59)] (ct_X11_bad (T := U19) (by omega) (by omega)) cl_X11_281 (qd_c (by decide +kernel)) (nn_ _) rfl (rf_of rfl) (Nat.le_of_ble_eq_true rfl) (Nat.le_of_ble_eq_true rfl) (Nat.le_of_ble_eq_true rfl) rfl ?_
      rintro U25 _ ⟨rfl, fU25, qU25⟩
      show J_ zX11_readSport T (po_X11_readSport T) 0 0 28 _ [] U25
      have e26 : U25 111 0 57 = U19 111 0 57 := fU25 111 0 57 rfl
      have e27 : U25 111 0 59 = U19 111 0 59 := fU25 111 0 59 rfl
      have e28 : U25 111 0 60 = U19 111 0 60 := fU25 111 0 60 rfl
      refine c_28 U25 ?_ ?_
      · exact fr_t (fr_t (fr_0 _ _) (fr_s fU19 rfl)) (fr_s fU25 rfl)
      · omega
abbrev cX11_readOrder : ByteArray := prog_13_method_16_code
def yX11_readOrder : MethodName := ⟨RX11, "readOrder", "()V"⟩
def zX11_readOrder : Zm := (RX11, cX11_readOrder, 3, none, { frames := 3, cells := 0, slots := 0, locals := 63 })
theorem bk_X11_readOrder_220 : ck_ fX11 none cX11_readOrder 220 [.aload 0, .tableswitch 0 11 58 #[], .iconst 4, .if_icmp .ne 232, .iconst 1, .goto 233] 232 = true := qck_r (nn_ _) (by decide +kernel)
theorem bs_X11_readOrder_220 {P : Zt → Option Zv → Prop} (K : Int → Zl → List Zv → Zt → Prop) : sx_ K P [.aload 0, .tableswitch 0 11 58 #[], .iconst 4, .if_icmp .ne 232, .iconst 1, .goto 233] 232 = x_aload 0 (x_g0 111 58 0 4 (x_iconst 4 (x_if_icmp .ne 232 K (x_iconst 1 (x_goto 233 K))))) := ((xe_aload 0).trans (congrArg (x_aload 0) ((xe_g0 (kk := 111) rfl tl_11_58).trans (congrArg (x_g0 111 58 0 4) ((xe_iconst 4).trans (congrArg (x_iconst 4) ((xe_if_icmp .ne 232).trans (congrArg (x_if_icmp .ne 232 K) ((xe_iconst 1).trans (congrArg (x_iconst 1) (xe_goto 233)))))))))))
theorem bk_X11_readOrder_232 : ck_ fX11 none cX11_readOrder 232 [.iconst 0, .istore 1, .goto 40] 237 = true := qck_r (nn_ _) (by decide +kernel)
theorem bs_X11_readOrder_232 {P : Zt → Option Zv → Prop} (K : Int → Zl → List Zv → Zt → Prop) : sx_ K P [.iconst 0, .istore 1, .goto 40] 237 = x_iconst 0 (x_istore 1 (x_goto 40 K)) := ((xe_iconst 0).trans (congrArg (x_iconst 0) ((xe_istore 1).trans (congrArg (x_istore 1) (xe_goto 40)))))
theorem bk_X11_readOrder_233 : ck_ fX11 none cX11_readOrder 233 [.istore 1, .goto 40] 237 = true := qck_r (nn_ _) (by decide +kernel)
theorem bs_X11_readOrder_233 {P : Zt → Option Zv → Prop} (K : Int → Zl → List Zv → Zt → Prop) : sx_ K P [.istore 1, .goto 40] 237 = x_istore 1 (x_goto 40 K) := ((xe_istore 1).trans (congrArg (x_istore 1) (xe_goto 40)))
theorem bk_X11_readOrder_145 : ck_ fX11 none cX11_readOrder 145 [.aload 0, .tableswitch 0 11 62 #[], .ifCond .ne 234, .aload 0, .tableswitch 0 11 70 #[], .iload 2, .iconst 1, .bastore, .aload 0, .tableswitch 0 11 4 #[], .iconst 16, .aload 0, .tableswitch 0 11 4 #[], .iconst 4, .iaload, .iadd, .iload 2, .iastore, .aload 0, .tableswitch 0 11 4 #[], .iconst 4, .dup2, .iaload, .iconst 1, .iadd, .iastore, .aload 0] 185 = true := qck_r (nn_ _) (by decide +kernel)
theorem bs_X11_readOrder_145 {P : Zt → Option Zv → Prop} (K : Int → Zl → List Zv → Zt → Prop) : sx_ K P [.aload 0, .tableswitch 0 11 62 #[], .ifCond .ne 234, .aload 0, .tableswitch 0 11 70 #[], .iload 2, .iconst 1, .bastore, .aload 0, .tableswitch 0 11 4 #[], .iconst 16, .aload 0, .tableswitch 0 11 4 #[], .iconst 4, .iaload, .iadd, .iload 2, .iastore, .aload 0, .tableswitch 0 11 4 #[], .iconst 4, .dup2, .iaload, .iconst 1, .iadd, .iastore, .aload 0] 185 = x_aload 0 (x_g0 111 62 0 5 (x_ifCond .ne 234 K (x_aload 0 (x_g1 111 270 (x_iload 2 (x_iconst 1 (x_bastore (x_aload 0 (x_g1 111 204 (x_iconst 16 (x_aload 0 (x_g1 111 204 (x_iconst 4 (x_iaload (x_iadd (x_iload 2 (x_iastore (x_aload 0 (x_g1 111 204 (x_iconst 4 (x_dup2 (x_iaload (x_iconst 1 (x_iadd (x_iastore (x_aload 0 (K 185))))))))))))))))))))))))))) := ((xe_aload 0).trans (congrArg (x_aload 0) ((xe_g0 (kk := 111) rfl tl_11_62).trans (congrArg (x_g0 111 62 0 5) ((xe_ifCond .ne 234).trans (congrArg (x_ifCond .ne 234 K) ((xe_aload 0).trans (congrArg (x_aload 0) ((xe_g1 (kk := 111) rfl tl_11_70).trans (congrArg (x_g1 111 270) ((xe_iload 2).trans (congrArg (x_iload 2) ((xe_iconst 1).trans (congrArg (x_iconst 1) ((xe_bastore).trans (congrArg (x_bastore) ((xe_aload 0).trans (congrArg (x_aload 0) ((xe_g1 (kk := 111) rfl tl_11_4).trans (congrArg (x_g1 111 204) ((xe_iconst 16).trans (congrArg (x_iconst 16) ((xe_aload 0).trans (congrArg (x_aload 0) ((xe_g1 (kk := 111) rfl tl_11_4).trans (congrArg (x_g1 111 204) ((xe_iconst 4).trans (congrArg (x_iconst 4) ((xe_iaload).trans (congrArg (x_iaload) ((xe_iadd).trans (congrArg (x_iadd) ((xe_iload 2).trans (congrArg (x_iload 2) ((xe_iastore).trans (congrArg (x_iastore) ((xe_aload 0).trans (congrArg (x_aload 0) ((xe_g1 (kk := 111) rfl tl_11_4).trans (congrArg (x_g1 111 204) ((xe_iconst 4).trans (congrArg (x_iconst 4) ((xe_dup2).trans (congrArg (x_dup2) ((xe_iaload).trans (congrArg (x_iaload) ((xe_iconst 1).trans (congrArg (x_iconst 1) ((xe_iadd).trans (congrArg (x_iadd) ((xe_iastore).trans (congrArg (x_iastore) ((xe_aload 0).trans (congrArg (x_aload 0) xe_nil))))))))))))))))))))))))))))))))))))))))))))))))))))))
theorem bk_X11_readOrder_234 : ck_ fX11 none cX11_readOrder 234 [.goto 40] 237 = true := qck_r (nn_ _) (by decide +kernel)
theorem bs_X11_readOrder_234 {P : Zt → Option Zv → Prop} (K : Int → Zl → List Zv → Zt → Prop) : sx_ K P [.goto 40] 237 = x_goto 40 K := (xe_goto 40)
theorem bk_X11_readOrder_188 : ck_ fX11 none cX11_readOrder 188 [.aload 0, .tableswitch 0 11 62 #[], .ifCond .ne 220, .aload 0, .tableswitch 0 11 58 #[], .iconst 3, .if_icmp .eq 220, .aload 0, .tableswitch 0 11 58 #[], .iconst 4, .if_icmp .eq 220, .aload 0, .iconst 2, .aload 0, .tableswitch 0 11 59 #[]] 217 = true := qck_r (nn_ _) (by decide +kernel)
theorem bs_X11_readOrder_188 {P : Zt → Option Zv → Prop} (K : Int → Zl → List Zv → Zt → Prop) : sx_ K P [.aload 0, .tableswitch 0 11 62 #[], .ifCond .ne 220, .aload 0, .tableswitch 0 11 58 #[], .iconst 3, .if_icmp .eq 220, .aload 0, .tableswitch 0 11 58 #[], .iconst 4, .if_icmp .eq 220, .aload 0, .iconst 2, .aload 0, .tableswitch 0 11 59 #[]] 217 = x_aload 0 (x_g0 111 62 0 5 (x_ifCond .ne 220 K (x_aload 0 (x_g0 111 58 0 4 (x_iconst 3 (x_if_icmp .eq 220 K (x_aload 0 (x_g0 111 58 0 4 (x_iconst 4 (x_if_icmp .eq 220 K (x_aload 0 (x_iconst 2 (x_aload 0 (x_g0 111 59 0 400 (K 217))))))))))))))) := ((xe_aload 0).trans (congrArg (x_aload 0) ((xe_g0 (kk := 111) rfl tl_11_62).trans (congrArg (x_g0 111 62 0 5) ((xe_ifCond .ne 220).trans (congrArg (x_ifCond .ne 220 K) ((xe_aload 0).trans (congrArg (x_aload 0) ((xe_g0 (kk := 111) rfl tl_11_58).trans (congrArg (x_g0 111 58 0 4) ((xe_iconst 3).trans (congrArg (x_iconst 3) ((xe_if_icmp .eq 220).trans (congrArg (x_if_icmp .eq 220 K) ((xe_aload 0).trans (congrArg (x_aload 0) ((xe_g0 (kk := 111) rfl tl_11_58).trans (congrArg (x_g0 111 58 0 4) ((xe_iconst 4).trans (congrArg (x_iconst 4) ((xe_if_icmp .eq 220).trans (congrArg (x_if_icmp .eq 220 K) ((xe_aload 0).trans (congrArg (x_aload 0) ((xe_iconst 2).trans (congrArg (x_iconst 2) ((xe_aload 0).trans (congrArg (x_aload 0) ((xe_g0 (kk := 111) rfl tl_11_59).trans (congrArg (x_g0 111 59 0 400) xe_nil))))))))))))))))))))))))))))))
theorem bk_X11_readOrder_120 : ck_ fX11 none cX11_readOrder 120 [.aload 0, .tableswitch 0 11 62 #[], .ifCond .ne 145, .aload 0, .tableswitch 0 11 70 #[], .iload 2, .baload, .ifCond .eq 145, .aload 0, .iconst 5, .aload 0, .tableswitch 0 11 59 #[]] 142 = true := qck_r (nn_ _) (by decide +kernel)
theorem bs_X11_readOrder_120 {P : Zt → Option Zv → Prop} (K : Int → Zl → List Zv → Zt → Prop) : sx_ K P [.aload 0, .tableswitch 0 11 62 #[], .ifCond .ne 145, .aload 0, .tableswitch 0 11 70 #[], .iload 2, .baload, .ifCond .eq 145, .aload 0, .iconst 5, .aload 0, .tableswitch 0 11 59 #[]] 142 = x_aload 0 (x_g0 111 62 0 5 (x_ifCond .ne 145 K (x_aload 0 (x_g1 111 270 (x_iload 2 (x_baload (x_ifCond .eq 145 K (x_aload 0 (x_iconst 5 (x_aload 0 (x_g0 111 59 0 400 (K 142)))))))))))) := ((xe_aload 0).trans (congrArg (x_aload 0) ((xe_g0 (kk := 111) rfl tl_11_62).trans (congrArg (x_g0 111 62 0 5) ((xe_ifCond .ne 145).trans (congrArg (x_ifCond .ne 145 K) ((xe_aload 0).trans (congrArg (x_aload 0) ((xe_g1 (kk := 111) rfl tl_11_70).trans (congrArg (x_g1 111 270) ((xe_iload 2).trans (congrArg (x_iload 2) ((xe_baload).trans (congrArg (x_baload) ((xe_ifCond .eq 145).trans (congrArg (x_ifCond .eq 145 K) ((xe_aload 0).trans (congrArg (x_aload 0) ((xe_iconst 5).trans (congrArg (x_iconst 5) ((xe_aload 0).trans (congrArg (x_aload 0) ((xe_g0 (kk := 111) rfl tl_11_59).trans (congrArg (x_g0 111 59 0 400) xe_nil))))))))))))))))))))))))
theorem bk_X11_readOrder_98 : ck_ fX11 none cX11_readOrder 98 [.istore 2, .aload 0, .tableswitch 0 11 62 #[], .ifCond .ne 120, .iload 2, .iconst (-1), .if_icmp .ne 120, .aload 0, .iconst 3, .aload 0, .tableswitch 0 11 59 #[]] 117 = true := qck_r (nn_ _) (by decide +kernel)
theorem bs_X11_readOrder_98 {P : Zt → Option Zv → Prop} (K : Int → Zl → List Zv → Zt → Prop) : sx_ K P [.istore 2, .aload 0, .tableswitch 0 11 62 #[], .ifCond .ne 120, .iload 2, .iconst (-1), .if_icmp .ne 120, .aload 0, .iconst 3, .aload 0, .tableswitch 0 11 59 #[]] 117 = x_istore 2 (x_aload 0 (x_g0 111 62 0 5 (x_ifCond .ne 120 K (x_iload 2 (x_iconst (-1) (x_if_icmp .ne 120 K (x_aload 0 (x_iconst 3 (x_aload 0 (x_g0 111 59 0 400 (K 117))))))))))) := ((xe_istore 2).trans (congrArg (x_istore 2) ((xe_aload 0).trans (congrArg (x_aload 0) ((xe_g0 (kk := 111) rfl tl_11_62).trans (congrArg (x_g0 111 62 0 5) ((xe_ifCond .ne 120).trans (congrArg (x_ifCond .ne 120 K) ((xe_iload 2).trans (congrArg (x_iload 2) ((xe_iconst (-1)).trans (congrArg (x_iconst (-1)) ((xe_if_icmp .ne 120).trans (congrArg (x_if_icmp .ne 120 K) ((xe_aload 0).trans (congrArg (x_aload 0) ((xe_iconst 3).trans (congrArg (x_iconst 3) ((xe_aload 0).trans (congrArg (x_aload 0) ((xe_g0 (kk := 111) rfl tl_11_59).trans (congrArg (x_g0 111 59 0 400) xe_nil))))))))))))))))))))))
theorem bk_X11_readOrder_79 : ck_ fX11 none cX11_readOrder 79 [.aload 0, .tableswitch 0 11 62 #[], .ifCond .ne 97, .aload 0, .aload 0, .tableswitch 0 11 66 #[]] 91 = true := qck_r (nn_ _) (by decide +kernel)
theorem bs_X11_readOrder_79 {P : Zt → Option Zv → Prop} (K : Int → Zl → List Zv → Zt → Prop) : sx_ K P [.aload 0, .tableswitch 0 11 62 #[], .ifCond .ne 97, .aload 0, .aload 0, .tableswitch 0 11 66 #[]] 91 = x_aload 0 (x_g0 111 62 0 5 (x_ifCond .ne 97 K (x_aload 0 (x_aload 0 (x_g1 111 266 (K 91)))))) := ((xe_aload 0).trans (congrArg (x_aload 0) ((xe_g0 (kk := 111) rfl tl_11_62).trans (congrArg (x_g0 111 62 0 5) ((xe_ifCond .ne 97).trans (congrArg (x_ifCond .ne 97 K) ((xe_aload 0).trans (congrArg (x_aload 0) ((xe_aload 0).trans (congrArg (x_aload 0) ((xe_g1 (kk := 111) rfl tl_11_66).trans (congrArg (x_g1 111 266) xe_nil))))))))))))
theorem bk_X11_readOrder_97 : ck_ fX11 none cX11_readOrder 97 [.iconst (-1)] 98 = true := qck_r (nn_ _) (by decide +kernel)
theorem bs_X11_readOrder_97 {P : Zt → Option Zv → Prop} (K : Int → Zl → List Zv → Zt → Prop) : sx_ K P [.iconst (-1)] 98 = x_iconst (-1) (K 98) := ((xe_iconst (-1)).trans (congrArg (x_iconst (-1)) xe_nil))
theorem bk_X11_readOrder_94 : ck_ fX11 none cX11_readOrder 94 [.goto 98] 97 = true := qck_r (nn_ _) (by decide +kernel)
theorem bs_X11_readOrder_94 {P : Zt → Option Zv → Prop} (K : Int → Zl → List Zv → Zt → Prop) : sx_ K P [.goto 98] 97 = x_goto 98 K := (xe_goto 98)
theorem bk_X11_readOrder_40 : ck_ fX11 none cX11_readOrder 40 [.iload 1, .ifCond .eq 237, .aload 0, .tableswitch 0 11 62 #[], .ifCond .ne 237, .aload 0] 52 = true := qck_r (nn_ _) (by decide +kernel)
theorem bs_X11_readOrder_40 {P : Zt → Option Zv → Prop} (K : Int → Zl → List Zv → Zt → Prop) : sx_ K P [.iload 1, .ifCond .eq 237, .aload 0, .tableswitch 0 11 62 #[], .ifCond .ne 237, .aload 0] 52 = x_iload 1 (x_ifCond .eq 237 K (x_aload 0 (x_g0 111 62 0 5 (x_ifCond .ne 237 K (x_aload 0 (K 52)))))) := ((xe_iload 1).trans (congrArg (x_iload 1) ((xe_ifCond .eq 237).trans (congrArg (x_ifCond .eq 237 K) ((xe_aload 0).trans (congrArg (x_aload 0) ((xe_g0 (kk := 111) rfl tl_11_62).trans (congrArg (x_g0 111 62 0 5) ((xe_ifCond .ne 237).trans (congrArg (x_ifCond .ne 237 K) ((xe_aload 0).trans (congrArg (x_aload 0) xe_nil))))))))))))
theorem bk_X11_readOrder_237 : ck_ fX11 none cX11_readOrder 237 [.return_] 238 = true := qck_r (nn_ _) (by decide +kernel)
theorem bs_X11_readOrder_237 {P : Zt → Option Zv → Prop} (K : Int → Zl → List Zv → Zt → Prop) : sx_ K P [.return_] 238 = x_return_ P := (xe_return_)
theorem bk_X11_readOrder_55 : ck_ fX11 none cX11_readOrder 55 [.aload 0, .tableswitch 0 11 62 #[], .ifCond .ne 79, .aload 0, .tableswitch 0 11 58 #[], .iconst 1, .if_icmp .eq 79, .aload 0, .iconst 2, .aload 0, .tableswitch 0 11 59 #[]] 76 = true := qck_r (nn_ _) (by decide +kernel)
theorem bs_X11_readOrder_55 {P : Zt → Option Zv → Prop} (K : Int → Zl → List Zv → Zt → Prop) : sx_ K P [.aload 0, .tableswitch 0 11 62 #[], .ifCond .ne 79, .aload 0, .tableswitch 0 11 58 #[], .iconst 1, .if_icmp .eq 79, .aload 0, .iconst 2, .aload 0, .tableswitch 0 11 59 #[]] 76 = x_aload 0 (x_g0 111 62 0 5 (x_ifCond .ne 79 K (x_aload 0 (x_g0 111 58 0 4 (x_iconst 1 (x_if_icmp .eq 79 K (x_aload 0 (x_iconst 2 (x_aload 0 (x_g0 111 59 0 400 (K 76))))))))))) := ((xe_aload 0).trans (congrArg (x_aload 0) ((xe_g0 (kk := 111) rfl tl_11_62).trans (congrArg (x_g0 111 62 0 5) ((xe_ifCond .ne 79).trans (congrArg (x_ifCond .ne 79 K) ((xe_aload 0).trans (congrArg (x_aload 0) ((xe_g0 (kk := 111) rfl tl_11_58).trans (congrArg (x_g0 111 58 0 4) ((xe_iconst 1).trans (congrArg (x_iconst 1) ((xe_if_icmp .eq 79).trans (congrArg (x_if_icmp .eq 79 K) ((xe_aload 0).trans (congrArg (x_aload 0) ((xe_iconst 2).trans (congrArg (x_iconst 2) ((xe_aload 0).trans (congrArg (x_aload 0) ((xe_g0 (kk := 111) rfl tl_11_59).trans (congrArg (x_g0 111 59 0 400) xe_nil))))))))))))))))))))))
theorem bk_X11_readOrder_2 : ck_ fX11 none cX11_readOrder 2 [.iload 1, .iconst 7, .if_icmp .ge 31, .aload 0, .tableswitch 0 11 70 #[], .iload 1, .iconst 0, .bastore, .aload 0, .tableswitch 0 11 4 #[], .iconst 16, .iload 1, .iadd, .iconst (-1), .iastore, .iinc 1 1, .goto 2] 31 = true := qck_r (nn_ _) (by decide +kernel)
theorem bs_X11_readOrder_2 {P : Zt → Option Zv → Prop} (K : Int → Zl → List Zv → Zt → Prop) : sx_ K P [.iload 1, .iconst 7, .if_icmp .ge 31, .aload 0, .tableswitch 0 11 70 #[], .iload 1, .iconst 0, .bastore, .aload 0, .tableswitch 0 11 4 #[], .iconst 16, .iload 1, .iadd, .iconst (-1), .iastore, .iinc 1 1, .goto 2] 31 = x_iload 1 (x_iconst 7 (x_if_icmp .ge 31 K (x_aload 0 (x_g1 111 270 (x_iload 1 (x_iconst 0 (x_bastore (x_aload 0 (x_g1 111 204 (x_iconst 16 (x_iload 1 (x_iadd (x_iconst (-1) (x_iastore (x_iinc 1 1 (x_goto 2 K)))))))))))))))) := ((xe_iload 1).trans (congrArg (x_iload 1) ((xe_iconst 7).trans (congrArg (x_iconst 7) ((xe_if_icmp .ge 31).trans (congrArg (x_if_icmp .ge 31 K) ((xe_aload 0).trans (congrArg (x_aload 0) ((xe_g1 (kk := 111) rfl tl_11_70).trans (congrArg (x_g1 111 270) ((xe_iload 1).trans (congrArg (x_iload 1) ((xe_iconst 0).trans (congrArg (x_iconst 0) ((xe_bastore).trans (congrArg (x_bastore) ((xe_aload 0).trans (congrArg (x_aload 0) ((xe_g1 (kk := 111) rfl tl_11_4).trans (congrArg (x_g1 111 204) ((xe_iconst 16).trans (congrArg (x_iconst 16) ((xe_iload 1).trans (congrArg (x_iload 1) ((xe_iadd).trans (congrArg (x_iadd) ((xe_iconst (-1)).trans (congrArg (x_iconst (-1)) ((xe_iastore).trans (congrArg (x_iastore) ((xe_iinc 1 1).trans (congrArg (x_iinc 1 1) (xe_goto 2)))))))))))))))))))))))))))))))))
theorem bk_X11_readOrder_31 : ck_ fX11 none cX11_readOrder 31 [.aload 0, .tableswitch 0 11 4 #[], .iconst 4, .iconst 0, .iastore, .iconst 1, .istore 1] 40 = true := qck_r (nn_ _) (by decide +kernel)
theorem bs_X11_readOrder_31 {P : Zt → Option Zv → Prop} (K : Int → Zl → List Zv → Zt → Prop) : sx_ K P [.aload 0, .tableswitch 0 11 4 #[], .iconst 4, .iconst 0, .iastore, .iconst 1, .istore 1] 40 = x_aload 0 (x_g1 111 204 (x_iconst 4 (x_iconst 0 (x_iastore (x_iconst 1 (x_istore 1 (K 40))))))) := ((xe_aload 0).trans (congrArg (x_aload 0) ((xe_g1 (kk := 111) rfl tl_11_4).trans (congrArg (x_g1 111 204) ((xe_iconst 4).trans (congrArg (x_iconst 4) ((xe_iconst 0).trans (congrArg (x_iconst 0) ((xe_iastore).trans (congrArg (x_iastore) ((xe_iconst 1).trans (congrArg (x_iconst 1) ((xe_istore 1).trans (congrArg (x_istore 1) xe_nil))))))))))))))
theorem bk_X11_readOrder_0 : ck_ fX11 none cX11_readOrder 0 [.iconst 0, .istore 1] 2 = true := qck_r (nn_ _) (by decide +kernel)
theorem bs_X11_readOrder_0 {P : Zt → Option Zv → Prop} (K : Int → Zl → List Zv → Zt → Prop) : sx_ K P [.iconst 0, .istore 1] 2 = x_iconst 0 (x_istore 1 (K 2)) := ((xe_iconst 0).trans (congrArg (x_iconst 0) ((xe_istore 1).trans (congrArg (x_istore 1) xe_nil))))
abbrev po_X11_readOrder (T : Zt) : Zt → Option Zv → Prop := fun T' r => r = none ∧ fr_ [(111, [57, 58, 59, 60, 61, 62, 63]), (204, []), (270, [])] T T' ∧ (T' 111 0 57 ≤ T 111 0 1 ∧ T 111 0 57 ≤ T' 111 0 57 ∧ (0 ≤ T' 204 0 4 ∧ T' 204 0 4 ≤ 7) ∧ (∀ j, j < 16 → j ≠ 4 → T' 204 0 j = T 204 0 j) ∧ (∀ j, 16 ≤ j → j < 23 → -1 ≤ T' 204 0 j ∧ T' 204 0 j ≤ 6) ∧ (T' 111 0 62 = 0 → T 111 0 62 = 0))
set_option maxHeartbeats 4000000 in
theorem ct_X11_readOrder {T : Zt} (h1 : T 111 0 57 ≤ T 111 0 1) (hC : CW_ T) (hFI : FI_ T) : Ct_ yX11_readOrder zX11_readOrder T [vR 111 0] (po_X11_readOrder T) := by
  refine ct_of pn_11 rfl rfl (Nat.le_of_ble_eq_true rfl) (fun hT hav => ?_)
  have hz : zX11_readOrder.2.2.2.1 = some .boolean → ∀ (T' : Zt) (x : Int), po_X11_readOrder T T' (some (vI x)) → 0 ≤ x ∧ x ≤ 1 := fun h => by cases h
  have hb_1 : 0 ≤ T 111 0 1 ∧ T 111 0 1 ≤ 400 := bd_f hT 111 1 (by decide +kernel : (tf_ 111)[1]? = some (0, 0, 0, 400)) 0
  have hrb : ∀ j : Int, 16 ≤ j → j < 23 → rb_ j = (-1, 6) := fun j a b => by
    rcases (by omega : j = 16 ∨ j = 17 ∨ j = 18 ∨ j = 19 ∨ j = 20 ∨ j = 21 ∨ j = 22) with rfl | rfl | rfl | rfl | rfl | rfl | rfl <;> rfl
  show J_ zX11_readOrder T (po_X11_readOrder T) 0 0 0 [some (vR 111 0), none, none] [] T
  have c_2 : ∀ (nn : Nat) (k : Int) (T1 : Zt), ((7 - k).toNat) ≤ nn → (fr_ [(204, []), (270, [])] T T1) → (0 ≤ k ∧ k ≤ 7) → (∀ j : Int, 0 ≤ j → j < k → T1 270 0 j = 0) → ((∀ j, j < 16 → j ≠ 4 → T1 204 0 j = T 204 0 j) ∧ (∀ j, 16 ≤ j → j < 23 → -1 ≤ T1 204 0 j ∧ T1 204 0 j ≤ 6)) → J_ zX11_readOrder T (po_X11_readOrder T) 0 0 2 [some (vR 111 0), some (vI k), none] [] T1 := by
    intro nn
    induction nn using Nat.strongRecOn with
    | _ nn ih_2 =>
      intro k T1 hm_2 hf_2 k1 l1 l2
      have c_40 : ∀ (nn : Nat) (mo : Int) (T2 : Zt), ((6 * (T 111 0 1 - T2 111 0 57) + 5 - T2 111 0 62).toNat) ≤ nn → (fr_ [(111, [57, 58, 59, 60, 61, 62, 63]), (204, []), (270, [])] T T2) → (T2 111 0 57 ≤ T 111 0 1 ∧ T 111 0 57 ≤ T2 111 0 57 ∧ (T2 111 0 62 = 0 → T 111 0 62 = 0)) → (T2 270 0 0 + T2 270 0 1 + T2 270 0 2 + T2 270 0 3 + T2 270 0 4 + T2 270 0 5 + T2 270 0 6 = T2 204 0 4 ∧ 0 ≤ T2 204 0 4 ∧ T2 204 0 4 ≤ 7) → ((∀ j, j < 16 → j ≠ 4 → T2 204 0 j = T 204 0 j) ∧ (∀ j, 16 ≤ j → j < 23 → -1 ≤ T2 204 0 j ∧ T2 204 0 j ≤ 6)) → J_ zX11_readOrder T (po_X11_readOrder T) 0 0 40 [some (vR 111 0), some (vI mo), none] [] T2 := by
        intro nn
        induction nn using Nat.strongRecOn with
        | _ nn ih_40 =>
          intro mo T2 hm_40 hf_40 a2 s2 u2
          refine j_ok (fun hT2 _ => ?_)
          have hb2_62 : 0 ≤ T2 111 0 62 ∧ T2 111 0 62 ≤ 5 := bd_f hT2 111 62 (by decide +kernel : (tf_ 111)[62]? = some (0, 0, 0, 5)) 0
          have kb0 : 0 ≤ T2 270 0 0 ∧ T2 270 0 0 ≤ 1 := bd_a hT2 270 (by decide +kernel : ta_ 270 = some (2, some 7, 0, 1)) 0 (by decide)
          have kb1 : 0 ≤ T2 270 0 1 ∧ T2 270 0 1 ≤ 1 := bd_a hT2 270 (by decide +kernel : ta_ 270 = some (2, some 7, 0, 1)) 0 (by decide)
          have kb2 : 0 ≤ T2 270 0 2 ∧ T2 270 0 2 ≤ 1 := bd_a hT2 270 (by decide +kernel : ta_ 270 = some (2, some 7, 0, 1)) 0 (by decide)
          have kb3 : 0 ≤ T2 270 0 3 ∧ T2 270 0 3 ≤ 1 := bd_a hT2 270 (by decide +kernel : ta_ 270 = some (2, some 7, 0, 1)) 0 (by decide)
          have kb4 : 0 ≤ T2 270 0 4 ∧ T2 270 0 4 ≤ 1 := bd_a hT2 270 (by decide +kernel : ta_ 270 = some (2, some 7, 0, 1)) 0 (by decide)
          have kb5 : 0 ≤ T2 270 0 5 ∧ T2 270 0 5 ≤ 1 := bd_a hT2 270 (by decide +kernel : ta_ 270 = some (2, some 7, 0, 1)) 0 (by decide)
          have kb6 : 0 ≤ T2 270 0 6 ∧ T2 270 0 6 ≤ 1 := bd_a hT2 270 (by decide +kernel : ta_ 270 = some (2, some 7, 0, 1)) 0 (by decide)
          have c_98 : ∀ (v : Int) (T4 : Zt), (fr_ [(111, [57, 58, 59, 60, 61, 62, 63])] T2 T4) → (T4 111 0 57 ≤ T 111 0 1 ∧ T2 111 0 57 ≤ T4 111 0 57 ∧ (T4 111 0 62 = 0 → T 111 0 62 = 0) ∧ (T4 111 0 62 = 0 → T2 111 0 57 < T4 111 0 57) ∧ T2 111 0 62 = 0 ∧ -1 ≤ v ∧ v < 7) → J_ zX11_readOrder T (po_X11_readOrder T) 0 0 98 [some (vR 111 0), some (vI mo), none] [vI v] T4 := by
            intro v T4 hf_98 a4
            have c_145 : ∀ (T6 : Zt), (fr_ [(111, [57, 58, 59, 60, 61, 62, 63])] T2 T6) → (T6 111 0 57 ≤ T 111 0 1 ∧ T2 111 0 57 ≤ T6 111 0 57 ∧ (T6 111 0 62 = 0 → T 111 0 62 = 0) ∧ (T6 111 0 62 = 0 → T2 111 0 57 < T6 111 0 57 ∧ v ≠ -1 ∧ T2 270 0 v = 0)) → J_ zX11_readOrder T (po_X11_readOrder T) 0 0 145 [some (vR 111 0), some (vI mo), some (vI v)] [] T6 := by
              intro T6 hf_145 a6
              have c_220 : ∀ (T7 : Zt), (fr_ [(111, [57, 58, 59, 60, 61, 62, 63]), (204, []), (270, [])] T2 T7) → (T7 111 0 57 ≤ T 111 0 1 ∧ T2 111 0 57 ≤ T7 111 0 57 ∧ (T7 111 0 62 = 0 → T 111 0 62 = 0) ∧ T2 111 0 57 < T7 111 0 57) → (T7 270 0 0 + T7 270 0 1 + T7 270 0 2 + T7 270 0 3 + T7 270 0 4 + T7 270 0 5 + T7 270 0 6 = T7 204 0 4 ∧ 0 ≤ T7 204 0 4 ∧ T7 204 0 4 ≤ 7) → ((∀ j, j < 16 → j ≠ 4 → T7 204 0 j = T 204 0 j) ∧ (∀ j, 16 ≤ j → j < 23 → -1 ≤ T7 204 0 j ∧ T7 204 0 j ≤ 6)) → J_ zX11_readOrder T (po_X11_readOrder T) 0 0 220 [some (vR 111 0), some (vI mo), none] [] T7 := by
                intro T7 hf_220 a7 s7 u7
                refine j_ok (fun hT7 _ => ?_)
                have hb7_62 : 0 ≤ T7 111 0 62 ∧ T7 111 0 62 ≤ 5 := bd_f hT7 111 62 (by decide +kernel : (tf_ 111)[62]? = some (0, 0, 0, 5)) 0
                refine j_blx (F := fX11) tb_X11 (nn_ _) bk_X11_readOrder_220 bs_X11_readOrder_220 hz (fun K hK => ?_)
                intro b1 b1b
                refine And.intro (fun c2 => ?_) (fun c2 => ?_)
                · refine hK 232 _ [] T7 ?_
                  refine j_blx (F := fX11) tb_X11 (nn_ _) bk_X11_readOrder_232 bs_X11_readOrder_232 hz (fun K hK => ?_)
                  refine hK 40 [some (vR 111 0), some (vI 0), none] [] T7 ?_
                  refine ih_40 _ ?_ 0 T7 (Nat.le_refl _) ?_ ?_ ?_ ?_
                  · omega
                  · exact fr_t (fr_t (fr_0 _ _) (fr_s hf_40 rfl)) (fr_s hf_220 rfl)
                  · omega
                  · exact s7
                  · exact u7
                · refine hK 233 [some (vR 111 0), some (vI mo), none] [vI 1] T7 ?_
                  refine j_blx (F := fX11) tb_X11 (nn_ _) bk_X11_readOrder_233 bs_X11_readOrder_233 hz (fun K hK => ?_)
                  refine hK 40 [some (vR 111 0), some (vI 1), none] [] T7 ?_
                  refine ih_40 _ ?_ 1 T7 (Nat.le_refl _) ?_ ?_ ?_ ?_
                  · omega
                  · exact fr_t (fr_t (fr_0 _ _) (fr_s hf_40 rfl)) (fr_s hf_220 rfl)
                  · omega
                  · exact s7
                  · exact u7
              refine j_blx (F := fX11) tb_X11 (nn_ _) bk_X11_readOrder_145 bs_X11_readOrder_145 hz (fun K hK => ?_)
              intro b3 b3b
              refine And.intro (fun c4 => ?_) (fun c4 => ?_)
              · refine hK 234 _ [] T6 ?_
                refine j_blx (F := fX11) tb_X11 (nn_ _) bk_X11_readOrder_234 bs_X11_readOrder_234 hz (fun K hK => ?_)
                refine hK 40 _ [] T6 ?_
                refine j_drop [some (vR 111 0), some (vI mo), none] (fun k v hk => ?_) rfl ?_
                · match k, hk with
                  | 0, hk => exact hk
                  | 1, hk => exact hk
                  | 2, hk => cases hk
                  | k + 3, hk => cases hk
                have e5 : T6 270 0 0 = T2 270 0 0 := hf_145 270 0 0 rfl
                have e6 : T6 270 0 1 = T2 270 0 1 := hf_145 270 0 1 rfl
                have e7 : T6 270 0 2 = T2 270 0 2 := hf_145 270 0 2 rfl
                have e8 : T6 270 0 3 = T2 270 0 3 := hf_145 270 0 3 rfl
                have e9 : T6 270 0 4 = T2 270 0 4 := hf_145 270 0 4 rfl
                have e10 : T6 270 0 5 = T2 270 0 5 := hf_145 270 0 5 rfl
                have e11 : T6 270 0 6 = T2 270 0 6 := hf_145 270 0 6 rfl
                have e12 : T6 204 0 4 = T2 204 0 4 := hf_145 204 0 4 rfl
                refine ih_40 _ ?_ mo T6 (Nat.le_refl _) ?_ ?_ ?_ ?_
                · omega
                · exact fr_t (fr_t (fr_0 _ _) (fr_s hf_40 rfl)) (fr_s hf_145 rfl)
                · omega
                have e13 : T6 270 0 0 = T2 270 0 0 := hf_145 270 0 0 rfl
                have e14 : T6 270 0 1 = T2 270 0 1 := hf_145 270 0 1 rfl
                have e15 : T6 270 0 2 = T2 270 0 2 := hf_145 270 0 2 rfl
                have e16 : T6 270 0 3 = T2 270 0 3 := hf_145 270 0 3 rfl
                have e17 : T6 270 0 4 = T2 270 0 4 := hf_145 270 0 4 rfl
                have e18 : T6 270 0 5 = T2 270 0 5 := hf_145 270 0 5 rfl
                have e19 : T6 270 0 6 = T2 270 0 6 := hf_145 270 0 6 rfl
                have e20 : T6 204 0 4 = T2 204 0 4 := hf_145 204 0 4 rfl
                · omega
                · exact ⟨fun j a b => by rw [hf_145 204 0 j rfl]; exact u2.1 j a b, fun j a b => by rw [hf_145 204 0 j rfl]; exact u2.2 j a b⟩
              · have hv7 : v = 0 ∨ v = 1 ∨ v = 2 ∨ v = 3 ∨ v = 4 ∨ v = 5 ∨ v = 6 := by omega
                have hlt : T2 204 0 4 < 7 := by rcases hv7 with rfl | rfl | rfl | rfl | rfl | rfl | rfl <;> omega
                refine iy_i (by omega) (by omega) ?_
                refine x_nm (fun U21 hU21 => ?_)
                have e22 := up_f hU21
                refine ix_i (by omega) ?_
                intro b23 b23b
                have e24 : U21 204 0 4 = T2 204 0 4 := (up_k hU21 (by exact Nat.ne_of_beq_eq_false rfl) 0 4).trans (hf_145 204 0 4 rfl)
                rw [e24] at b23 b23b ⊢
                refine rg_i (by omega) ?_
                refine iy_i (by omega) (by omega) ?_
                refine x_nm (fun U25 hU25 => ?_)
                have e26 := up_f hU25
                have ek4 : U25 204 0 4 = U21 204 0 4 := up_g hU25 (by omega)
                refine ix_i (by omega) ?_
                intro b27 b27b
                refine rg_i (by omega) ?_
                refine iy_i (by omega) (by omega) ?_
                refine x_nm (fun U28 hU28 => ?_)
                have e29 := up_f hU28
                refine hK 185 [some (vR 111 0), some (vI mo), some (vI v)] [vR 111 0] U28 ?_
                have e30 : U28 111 0 57 = T6 111 0 57 := (up_k hU28 (by exact Nat.ne_of_beq_eq_false rfl) 0 57).trans ((up_k hU25 (by exact Nat.ne_of_beq_eq_false rfl) 0 57).trans (up_k hU21 (by exact Nat.ne_of_beq_eq_false rfl) 0 57))
                have e31 : U28 111 0 1 = T 111 0 1 := (up_k hU28 (by exact Nat.ne_of_beq_eq_false rfl) 0 1).trans ((up_k hU25 (by exact Nat.ne_of_beq_eq_false rfl) 0 1).trans ((up_k hU21 (by exact Nat.ne_of_beq_eq_false rfl) 0 1).trans ((hf_145 111 0 1 rfl).trans (hf_40 111 0 1 rfl))))
                refine j_callV (y := yX11_take) (Yc := zX11_take) (rest := []) [] (ct_X11_take (T := U28) (by omega)) cl_X11_291 (qd_c (by decide +kernel)) (nn_ _) rfl (rf_of rfl) (Nat.le_of_ble_eq_true rfl) (Nat.le_of_ble_eq_true rfl) (Nat.le_of_ble_eq_true rfl) rfl ?_
                rintro U32 _ ⟨rfl, fU32, qU32⟩
                show J_ zX11_readOrder T (po_X11_readOrder T) 0 0 188 _ [] U32
                refine j_blx (F := fX11) tb_X11 (nn_ _) bk_X11_readOrder_188 bs_X11_readOrder_188 hz (fun K hK => ?_)
                intro b33 b33b
                refine And.intro (fun c34 => ?_) (fun c34 => ?_)
                · refine hK 220 _ [] U32 ?_
                  refine j_drop [some (vR 111 0), some (vI mo), none] (fun k v hk => ?_) rfl ?_
                  · match k, hk with
                    | 0, hk => exact hk
                    | 1, hk => exact hk
                    | 2, hk => cases hk
                    | k + 3, hk => cases hk
                  have e35 : U32 270 0 0 = U21 270 0 0 := (fU32 270 0 0 rfl).trans ((up_k hU28 (by exact Nat.ne_of_beq_eq_false rfl) 0 0).trans (up_k hU25 (by exact Nat.ne_of_beq_eq_false rfl) 0 0))
                  have e36 : U32 270 0 1 = U21 270 0 1 := (fU32 270 0 1 rfl).trans ((up_k hU28 (by exact Nat.ne_of_beq_eq_false rfl) 0 1).trans (up_k hU25 (by exact Nat.ne_of_beq_eq_false rfl) 0 1))
                  have e37 : U32 270 0 2 = U21 270 0 2 := (fU32 270 0 2 rfl).trans ((up_k hU28 (by exact Nat.ne_of_beq_eq_false rfl) 0 2).trans (up_k hU25 (by exact Nat.ne_of_beq_eq_false rfl) 0 2))
                  have e38 : U32 270 0 3 = U21 270 0 3 := (fU32 270 0 3 rfl).trans ((up_k hU28 (by exact Nat.ne_of_beq_eq_false rfl) 0 3).trans (up_k hU25 (by exact Nat.ne_of_beq_eq_false rfl) 0 3))
                  have e39 : U32 270 0 4 = U21 270 0 4 := (fU32 270 0 4 rfl).trans ((up_k hU28 (by exact Nat.ne_of_beq_eq_false rfl) 0 4).trans (up_k hU25 (by exact Nat.ne_of_beq_eq_false rfl) 0 4))
                  have e40 : U32 270 0 5 = U21 270 0 5 := (fU32 270 0 5 rfl).trans ((up_k hU28 (by exact Nat.ne_of_beq_eq_false rfl) 0 5).trans (up_k hU25 (by exact Nat.ne_of_beq_eq_false rfl) 0 5))
                  have e41 : U32 270 0 6 = U21 270 0 6 := (fU32 270 0 6 rfl).trans ((up_k hU28 (by exact Nat.ne_of_beq_eq_false rfl) 0 6).trans (up_k hU25 (by exact Nat.ne_of_beq_eq_false rfl) 0 6))
                  have e42 : U32 204 0 4 = (U25 204 0 4) + 1 := (fU32 204 0 4 rfl).trans (up_f hU28)
                  refine c_220 U32 ?_ ?_ ?_ ?_
                  · exact fr_t (fr_u (fr_u (fr_u (fr_t (fr_0 _ _) (fr_s hf_145 rfl)) hU21 rfl) hU25 rfl) hU28 rfl) (fr_s fU32 rfl)
                  · omega
                  have e43 : U32 270 0 0 = U21 270 0 0 := (fU32 270 0 0 rfl).trans ((up_k hU28 (by exact Nat.ne_of_beq_eq_false rfl) 0 0).trans (up_k hU25 (by exact Nat.ne_of_beq_eq_false rfl) 0 0))
                  have e44 : U32 270 0 1 = U21 270 0 1 := (fU32 270 0 1 rfl).trans ((up_k hU28 (by exact Nat.ne_of_beq_eq_false rfl) 0 1).trans (up_k hU25 (by exact Nat.ne_of_beq_eq_false rfl) 0 1))
                  have e45 : U32 270 0 2 = U21 270 0 2 := (fU32 270 0 2 rfl).trans ((up_k hU28 (by exact Nat.ne_of_beq_eq_false rfl) 0 2).trans (up_k hU25 (by exact Nat.ne_of_beq_eq_false rfl) 0 2))
                  have e46 : U32 270 0 3 = U21 270 0 3 := (fU32 270 0 3 rfl).trans ((up_k hU28 (by exact Nat.ne_of_beq_eq_false rfl) 0 3).trans (up_k hU25 (by exact Nat.ne_of_beq_eq_false rfl) 0 3))
                  have e47 : U32 270 0 4 = U21 270 0 4 := (fU32 270 0 4 rfl).trans ((up_k hU28 (by exact Nat.ne_of_beq_eq_false rfl) 0 4).trans (up_k hU25 (by exact Nat.ne_of_beq_eq_false rfl) 0 4))
                  have e48 : U32 270 0 5 = U21 270 0 5 := (fU32 270 0 5 rfl).trans ((up_k hU28 (by exact Nat.ne_of_beq_eq_false rfl) 0 5).trans (up_k hU25 (by exact Nat.ne_of_beq_eq_false rfl) 0 5))
                  have e49 : U32 270 0 6 = U21 270 0 6 := (fU32 270 0 6 rfl).trans ((up_k hU28 (by exact Nat.ne_of_beq_eq_false rfl) 0 6).trans (up_k hU25 (by exact Nat.ne_of_beq_eq_false rfl) 0 6))
                  have e50 : U32 204 0 4 = (U25 204 0 4) + 1 := (fU32 204 0 4 rfl).trans (up_f hU28)
                  · have y0 : T2 204 0 4 = T2 204 0 4 := rfl
                    have hv7 : v = 0 ∨ v = 1 ∨ v = 2 ∨ v = 3 ∨ v = 4 ∨ v = 5 ∨ v = 6 := by omega
                    have w0 : U21 270 0 0 = if v = 0 then 1 else T2 270 0 0 := by
                      rw [show U21 270 0 0 = U21 270 0 0 from rfl]
                      split
                      · rename_i z; subst z; exact up_f hU21
                      · rw [up_g hU21 (by omega)]; exact hf_145 270 0 0 rfl
                    have w1 : U21 270 0 1 = if v = 1 then 1 else T2 270 0 1 := by
                      rw [show U21 270 0 1 = U21 270 0 1 from rfl]
                      split
                      · rename_i z; subst z; exact up_f hU21
                      · rw [up_g hU21 (by omega)]; exact hf_145 270 0 1 rfl
                    have w2 : U21 270 0 2 = if v = 2 then 1 else T2 270 0 2 := by
                      rw [show U21 270 0 2 = U21 270 0 2 from rfl]
                      split
                      · rename_i z; subst z; exact up_f hU21
                      · rw [up_g hU21 (by omega)]; exact hf_145 270 0 2 rfl
                    have w3 : U21 270 0 3 = if v = 3 then 1 else T2 270 0 3 := by
                      rw [show U21 270 0 3 = U21 270 0 3 from rfl]
                      split
                      · rename_i z; subst z; exact up_f hU21
                      · rw [up_g hU21 (by omega)]; exact hf_145 270 0 3 rfl
                    have w4 : U21 270 0 4 = if v = 4 then 1 else T2 270 0 4 := by
                      rw [show U21 270 0 4 = U21 270 0 4 from rfl]
                      split
                      · rename_i z; subst z; exact up_f hU21
                      · rw [up_g hU21 (by omega)]; exact hf_145 270 0 4 rfl
                    have w5 : U21 270 0 5 = if v = 5 then 1 else T2 270 0 5 := by
                      rw [show U21 270 0 5 = U21 270 0 5 from rfl]
                      split
                      · rename_i z; subst z; exact up_f hU21
                      · rw [up_g hU21 (by omega)]; exact hf_145 270 0 5 rfl
                    have w6 : U21 270 0 6 = if v = 6 then 1 else T2 270 0 6 := by
                      rw [show U21 270 0 6 = U21 270 0 6 from rfl]
                      split
                      · rename_i z; subst z; exact up_f hU21
                      · rw [up_g hU21 (by omega)]; exact hf_145 270 0 6 rfl
                    rcases hv7 with rfl | rfl | rfl | rfl | rfl | rfl | rfl <;> simp at w0 w1 w2 w3 w4 w5 w6 <;> omega
                  · have gf : ∀ j, U32 204 0 j = U28 204 0 j := fun j => (show fr_ [(111, [57, 58, 59, 60, 61, 62, 63])] U28 U32 from (fr_t (fr_0 _ _) (fr_s fU32 rfl))) 204 0 j rfl
                    refine ⟨fun j a b => ?_, fun j a b => ?_⟩
                    · rw [gf j, up_g hU28 (by omega), up_g hU25 (by omega), up_k hU21 (by exact Nat.ne_of_beq_eq_false rfl), hf_145 204 0 j rfl]; exact u2.1 j a b
                    · rw [gf j, up_g hU28 (by omega)]
                      by_cases z : j = 16 + (T2 204 0 4)
                      · rw [z, up_f hU25]; omega
                      · rw [up_g hU25 (by omega), up_k hU21 (by exact Nat.ne_of_beq_eq_false rfl), hf_145 204 0 j rfl]; exact u2.2 j a b
                · intro b51 b51b
                  refine And.intro (fun c52 => ?_) (fun c52 => ?_)
                  · refine hK 220 [some (vR 111 0), some (vI mo), some (vI v)] [] U32 ?_
                    refine j_drop [some (vR 111 0), some (vI mo), none] (fun k v hk => ?_) rfl ?_
                    · match k, hk with
                      | 0, hk => exact hk
                      | 1, hk => exact hk
                      | 2, hk => cases hk
                      | k + 3, hk => cases hk
                    have e53 : U32 270 0 0 = U21 270 0 0 := (fU32 270 0 0 rfl).trans ((up_k hU28 (by exact Nat.ne_of_beq_eq_false rfl) 0 0).trans (up_k hU25 (by exact Nat.ne_of_beq_eq_false rfl) 0 0))
                    have e54 : U32 270 0 1 = U21 270 0 1 := (fU32 270 0 1 rfl).trans ((up_k hU28 (by exact Nat.ne_of_beq_eq_false rfl) 0 1).trans (up_k hU25 (by exact Nat.ne_of_beq_eq_false rfl) 0 1))
                    have e55 : U32 270 0 2 = U21 270 0 2 := (fU32 270 0 2 rfl).trans ((up_k hU28 (by exact Nat.ne_of_beq_eq_false rfl) 0 2).trans (up_k hU25 (by exact Nat.ne_of_beq_eq_false rfl) 0 2))
                    have e56 : U32 270 0 3 = U21 270 0 3 := (fU32 270 0 3 rfl).trans ((up_k hU28 (by exact Nat.ne_of_beq_eq_false rfl) 0 3).trans (up_k hU25 (by exact Nat.ne_of_beq_eq_false rfl) 0 3))
                    have e57 : U32 270 0 4 = U21 270 0 4 := (fU32 270 0 4 rfl).trans ((up_k hU28 (by exact Nat.ne_of_beq_eq_false rfl) 0 4).trans (up_k hU25 (by exact Nat.ne_of_beq_eq_false rfl) 0 4))
                    have e58 : U32 270 0 5 = U21 270 0 5 := (fU32 270 0 5 rfl).trans ((up_k hU28 (by exact Nat.ne_of_beq_eq_false rfl) 0 5).trans (up_k hU25 (by exact Nat.ne_of_beq_eq_false rfl) 0 5))
                    have e59 : U32 270 0 6 = U21 270 0 6 := (fU32 270 0 6 rfl).trans ((up_k hU28 (by exact Nat.ne_of_beq_eq_false rfl) 0 6).trans (up_k hU25 (by exact Nat.ne_of_beq_eq_false rfl) 0 6))
                    have e60 : U32 204 0 4 = (U25 204 0 4) + 1 := (fU32 204 0 4 rfl).trans (up_f hU28)
                    refine c_220 U32 ?_ ?_ ?_ ?_
                    · exact fr_t (fr_u (fr_u (fr_u (fr_t (fr_0 _ _) (fr_s hf_145 rfl)) hU21 rfl) hU25 rfl) hU28 rfl) (fr_s fU32 rfl)
                    · omega
                    have e61 : U32 270 0 0 = U21 270 0 0 := (fU32 270 0 0 rfl).trans ((up_k hU28 (by exact Nat.ne_of_beq_eq_false rfl) 0 0).trans (up_k hU25 (by exact Nat.ne_of_beq_eq_false rfl) 0 0))
                    have e62 : U32 270 0 1 = U21 270 0 1 := (fU32 270 0 1 rfl).trans ((up_k hU28 (by exact Nat.ne_of_beq_eq_false rfl) 0 1).trans (up_k hU25 (by exact Nat.ne_of_beq_eq_false rfl) 0 1))
                    have e63 : U32 270 0 2 = U21 270 0 2 := (fU32 270 0 2 rfl).trans ((up_k hU28 (by exact Nat.ne_of_beq_eq_false rfl) 0 2).trans (up_k hU25 (by exact Nat.ne_of_beq_eq_false rfl) 0 2))
                    have e64 : U32 270 0 3 = U21 270 0 3 := (fU32 270 0 3 rfl).trans ((up_k hU28 (by exact Nat.ne_of_beq_eq_false rfl) 0 3).trans (up_k hU25 (by exact Nat.ne_of_beq_eq_false rfl) 0 3))
                    have e65 : U32 270 0 4 = U21 270 0 4 := (fU32 270 0 4 rfl).trans ((up_k hU28 (by exact Nat.ne_of_beq_eq_false rfl) 0 4).trans (up_k hU25 (by exact Nat.ne_of_beq_eq_false rfl) 0 4))
                    have e66 : U32 270 0 5 = U21 270 0 5 := (fU32 270 0 5 rfl).trans ((up_k hU28 (by exact Nat.ne_of_beq_eq_false rfl) 0 5).trans (up_k hU25 (by exact Nat.ne_of_beq_eq_false rfl) 0 5))
                    have e67 : U32 270 0 6 = U21 270 0 6 := (fU32 270 0 6 rfl).trans ((up_k hU28 (by exact Nat.ne_of_beq_eq_false rfl) 0 6).trans (up_k hU25 (by exact Nat.ne_of_beq_eq_false rfl) 0 6))
                    have e68 : U32 204 0 4 = (U25 204 0 4) + 1 := (fU32 204 0 4 rfl).trans (up_f hU28)
                    · have y0 : T2 204 0 4 = T2 204 0 4 := rfl
                      have hv7 : v = 0 ∨ v = 1 ∨ v = 2 ∨ v = 3 ∨ v = 4 ∨ v = 5 ∨ v = 6 := by omega
                      have w0 : U21 270 0 0 = if v = 0 then 1 else T2 270 0 0 := by
                        rw [show U21 270 0 0 = U21 270 0 0 from rfl]
                        split
                        · rename_i z; subst z; exact up_f hU21
                        · rw [up_g hU21 (by omega)]; exact hf_145 270 0 0 rfl
                      have w1 : U21 270 0 1 = if v = 1 then 1 else T2 270 0 1 := by
                        rw [show U21 270 0 1 = U21 270 0 1 from rfl]
                        split
                        · rename_i z; subst z; exact up_f hU21
                        · rw [up_g hU21 (by omega)]; exact hf_145 270 0 1 rfl
                      have w2 : U21 270 0 2 = if v = 2 then 1 else T2 270 0 2 := by
                        rw [show U21 270 0 2 = U21 270 0 2 from rfl]
                        split
                        · rename_i z; subst z; exact up_f hU21
                        · rw [up_g hU21 (by omega)]; exact hf_145 270 0 2 rfl
                      have w3 : U21 270 0 3 = if v = 3 then 1 else T2 270 0 3 := by
                        rw [show U21 270 0 3 = U21 270 0 3 from rfl]
                        split
                        · rename_i z; subst z; exact up_f hU21
                        · rw [up_g hU21 (by omega)]; exact hf_145 270 0 3 rfl
                      have w4 : U21 270 0 4 = if v = 4 then 1 else T2 270 0 4 := by
                        rw [show U21 270 0 4 = U21 270 0 4 from rfl]
                        split
                        · rename_i z; subst z; exact up_f hU21
                        · rw [up_g hU21 (by omega)]; exact hf_145 270 0 4 rfl
                      have w5 : U21 270 0 5 = if v = 5 then 1 else T2 270 0 5 := by
                        rw [show U21 270 0 5 = U21 270 0 5 from rfl]
                        split
                        · rename_i z; subst z; exact up_f hU21
                        · rw [up_g hU21 (by omega)]; exact hf_145 270 0 5 rfl
                      have w6 : U21 270 0 6 = if v = 6 then 1 else T2 270 0 6 := by
                        rw [show U21 270 0 6 = U21 270 0 6 from rfl]
                        split
                        · rename_i z; subst z; exact up_f hU21
                        · rw [up_g hU21 (by omega)]; exact hf_145 270 0 6 rfl
                      rcases hv7 with rfl | rfl | rfl | rfl | rfl | rfl | rfl <;> simp at w0 w1 w2 w3 w4 w5 w6 <;> omega
                    · have gf : ∀ j, U32 204 0 j = U28 204 0 j := fun j => (show fr_ [(111, [57, 58, 59, 60, 61, 62, 63])] U28 U32 from (fr_t (fr_0 _ _) (fr_s fU32 rfl))) 204 0 j rfl
                      refine ⟨fun j a b => ?_, fun j a b => ?_⟩
                      · rw [gf j, up_g hU28 (by omega), up_g hU25 (by omega), up_k hU21 (by exact Nat.ne_of_beq_eq_false rfl), hf_145 204 0 j rfl]; exact u2.1 j a b
                      · rw [gf j, up_g hU28 (by omega)]
                        by_cases z : j = 16 + (T2 204 0 4)
                        · rw [z, up_f hU25]; omega
                        · rw [up_g hU25 (by omega), up_k hU21 (by exact Nat.ne_of_beq_eq_false rfl), hf_145 204 0 j rfl]; exact u2.2 j a b
                  · intro b69 b69b
                    refine And.intro (fun c70 => ?_) (fun c70 => ?_)
                    · refine hK 220 [some (vR 111 0), some (vI mo), some (vI v)] [] U32 ?_
                      refine j_drop [some (vR 111 0), some (vI mo), none] (fun k v hk => ?_) rfl ?_
                      · match k, hk with
                        | 0, hk => exact hk
                        | 1, hk => exact hk
                        | 2, hk => cases hk
                        | k + 3, hk => cases hk
                      have e71 : U32 270 0 0 = U21 270 0 0 := (fU32 270 0 0 rfl).trans ((up_k hU28 (by exact Nat.ne_of_beq_eq_false rfl) 0 0).trans (up_k hU25 (by exact Nat.ne_of_beq_eq_false rfl) 0 0))
                      have e72 : U32 270 0 1 = U21 270 0 1 := (fU32 270 0 1 rfl).trans ((up_k hU28 (by exact Nat.ne_of_beq_eq_false rfl) 0 1).trans (up_k hU25 (by exact Nat.ne_of_beq_eq_false rfl) 0 1))
                      have e73 : U32 270 0 2 = U21 270 0 2 := (fU32 270 0 2 rfl).trans ((up_k hU28 (by exact Nat.ne_of_beq_eq_false rfl) 0 2).trans (up_k hU25 (by exact Nat.ne_of_beq_eq_false rfl) 0 2))
                      have e74 : U32 270 0 3 = U21 270 0 3 := (fU32 270 0 3 rfl).trans ((up_k hU28 (by exact Nat.ne_of_beq_eq_false rfl) 0 3).trans (up_k hU25 (by exact Nat.ne_of_beq_eq_false rfl) 0 3))
                      have e75 : U32 270 0 4 = U21 270 0 4 := (fU32 270 0 4 rfl).trans ((up_k hU28 (by exact Nat.ne_of_beq_eq_false rfl) 0 4).trans (up_k hU25 (by exact Nat.ne_of_beq_eq_false rfl) 0 4))
                      have e76 : U32 270 0 5 = U21 270 0 5 := (fU32 270 0 5 rfl).trans ((up_k hU28 (by exact Nat.ne_of_beq_eq_false rfl) 0 5).trans (up_k hU25 (by exact Nat.ne_of_beq_eq_false rfl) 0 5))
                      have e77 : U32 270 0 6 = U21 270 0 6 := (fU32 270 0 6 rfl).trans ((up_k hU28 (by exact Nat.ne_of_beq_eq_false rfl) 0 6).trans (up_k hU25 (by exact Nat.ne_of_beq_eq_false rfl) 0 6))
                      have e78 : U32 204 0 4 = (U25 204 0 4) + 1 := (fU32 204 0 4 rfl).trans (up_f hU28)
                      refine c_220 U32 ?_ ?_ ?_ ?_
                      · exact fr_t (fr_u (fr_u (fr_u (fr_t (fr_0 _ _) (fr_s hf_145 rfl)) hU21 rfl) hU25 rfl) hU28 rfl) (fr_s fU32 rfl)
                      · omega
                      have e79 : U32 270 0 0 = U21 270 0 0 := (fU32 270 0 0 rfl).trans ((up_k hU28 (by exact Nat.ne_of_beq_eq_false rfl) 0 0).trans (up_k hU25 (by exact Nat.ne_of_beq_eq_false rfl) 0 0))
                      have e80 : U32 270 0 1 = U21 270 0 1 := (fU32 270 0 1 rfl).trans ((up_k hU28 (by exact Nat.ne_of_beq_eq_false rfl) 0 1).trans (up_k hU25 (by exact Nat.ne_of_beq_eq_false rfl) 0 1))
                      have e81 : U32 270 0 2 = U21 270 0 2 := (fU32 270 0 2 rfl).trans ((up_k hU28 (by exact Nat.ne_of_beq_eq_false rfl) 0 2).trans (up_k hU25 (by exact Nat.ne_of_beq_eq_false rfl) 0 2))
                      have e82 : U32 270 0 3 = U21 270 0 3 := (fU32 270 0 3 rfl).trans ((up_k hU28 (by exact Nat.ne_of_beq_eq_false rfl) 0 3).trans (up_k hU25 (by exact Nat.ne_of_beq_eq_false rfl) 0 3))
                      have e83 : U32 270 0 4 = U21 270 0 4 := (fU32 270 0 4 rfl).trans ((up_k hU28 (by exact Nat.ne_of_beq_eq_false rfl) 0 4).trans (up_k hU25 (by exact Nat.ne_of_beq_eq_false rfl) 0 4))
                      have e84 : U32 270 0 5 = U21 270 0 5 := (fU32 270 0 5 rfl).trans ((up_k hU28 (by exact Nat.ne_of_beq_eq_false rfl) 0 5).trans (up_k hU25 (by exact Nat.ne_of_beq_eq_false rfl) 0 5))
                      have e85 : U32 270 0 6 = U21 270 0 6 := (fU32 270 0 6 rfl).trans ((up_k hU28 (by exact Nat.ne_of_beq_eq_false rfl) 0 6).trans (up_k hU25 (by exact Nat.ne_of_beq_eq_false rfl) 0 6))
                      have e86 : U32 204 0 4 = (U25 204 0 4) + 1 := (fU32 204 0 4 rfl).trans (up_f hU28)
                      · have y0 : T2 204 0 4 = T2 204 0 4 := rfl
                        have hv7 : v = 0 ∨ v = 1 ∨ v = 2 ∨ v = 3 ∨ v = 4 ∨ v = 5 ∨ v = 6 := by omega
                        have w0 : U21 270 0 0 = if v = 0 then 1 else T2 270 0 0 := by
                          rw [show U21 270 0 0 = U21 270 0 0 from rfl]
                          split
                          · rename_i z; subst z; exact up_f hU21
                          · rw [up_g hU21 (by omega)]; exact hf_145 270 0 0 rfl
                        have w1 : U21 270 0 1 = if v = 1 then 1 else T2 270 0 1 := by
                          rw [show U21 270 0 1 = U21 270 0 1 from rfl]
                          split
                          · rename_i z; subst z; exact up_f hU21
                          · rw [up_g hU21 (by omega)]; exact hf_145 270 0 1 rfl
                        have w2 : U21 270 0 2 = if v = 2 then 1 else T2 270 0 2 := by
                          rw [show U21 270 0 2 = U21 270 0 2 from rfl]
                          split
                          · rename_i z; subst z; exact up_f hU21
                          · rw [up_g hU21 (by omega)]; exact hf_145 270 0 2 rfl
                        have w3 : U21 270 0 3 = if v = 3 then 1 else T2 270 0 3 := by
                          rw [show U21 270 0 3 = U21 270 0 3 from rfl]
                          split
                          · rename_i z; subst z; exact up_f hU21
                          · rw [up_g hU21 (by omega)]; exact hf_145 270 0 3 rfl
                        have w4 : U21 270 0 4 = if v = 4 then 1 else T2 270 0 4 := by
                          rw [show U21 270 0 4 = U21 270 0 4 from rfl]
                          split
                          · rename_i z; subst z; exact up_f hU21
                          · rw [up_g hU21 (by omega)]; exact hf_145 270 0 4 rfl
                        have w5 : U21 270 0 5 = if v = 5 then 1 else T2 270 0 5 := by
                          rw [show U21 270 0 5 = U21 270 0 5 from rfl]
                          split
                          · rename_i z; subst z; exact up_f hU21
                          · rw [up_g hU21 (by omega)]; exact hf_145 270 0 5 rfl
                        have w6 : U21 270 0 6 = if v = 6 then 1 else T2 270 0 6 := by
                          rw [show U21 270 0 6 = U21 270 0 6 from rfl]
                          split
                          · rename_i z; subst z; exact up_f hU21
                          · rw [up_g hU21 (by omega)]; exact hf_145 270 0 6 rfl
                        rcases hv7 with rfl | rfl | rfl | rfl | rfl | rfl | rfl <;> simp at w0 w1 w2 w3 w4 w5 w6 <;> omega
                      · have gf : ∀ j, U32 204 0 j = U28 204 0 j := fun j => (show fr_ [(111, [57, 58, 59, 60, 61, 62, 63])] U28 U32 from (fr_t (fr_0 _ _) (fr_s fU32 rfl))) 204 0 j rfl
                        refine ⟨fun j a b => ?_, fun j a b => ?_⟩
                        · rw [gf j, up_g hU28 (by omega), up_g hU25 (by omega), up_k hU21 (by exact Nat.ne_of_beq_eq_false rfl), hf_145 204 0 j rfl]; exact u2.1 j a b
                        · rw [gf j, up_g hU28 (by omega)]
                          by_cases z : j = 16 + (T2 204 0 4)
                          · rw [z, up_f hU25]; omega
                          · rw [up_g hU25 (by omega), up_k hU21 (by exact Nat.ne_of_beq_eq_false rfl), hf_145 204 0 j rfl]; exact u2.2 j a b
                    · intro b87 b87b
                      refine hK 217 [some (vR 111 0), some (vI mo), some (vI v)] [vI (U32 111 0 59), vI 2, vR 111 0] U32 ?_
                      refine j_callV (y := yX11_bad) (Yc := zX11_bad) (rest := []) [vI 2, vI (U32 111 0 59)] (ct_X11_bad (T := U32) (by omega) (by omega)) cl_X11_281 (qd_c (by decide +kernel)) (nn_ _) rfl (rf_of rfl) (Nat.le_of_ble_eq_true rfl) (Nat.le_of_ble_eq_true rfl) (Nat.le_of_ble_eq_true rfl) rfl ?_
                      rintro U88 _ ⟨rfl, fU88, qU88⟩
                      show J_ zX11_readOrder T (po_X11_readOrder T) 0 0 220 _ [] U88
                      refine j_drop [some (vR 111 0), some (vI mo), none] (fun k v hk => ?_) rfl ?_
                      · match k, hk with
                        | 0, hk => exact hk
                        | 1, hk => exact hk
                        | 2, hk => cases hk
                        | k + 3, hk => cases hk
                      have e89 : U88 111 0 57 = U32 111 0 57 := fU88 111 0 57 rfl
                      have e90 : U88 270 0 0 = U21 270 0 0 := (fU88 270 0 0 rfl).trans ((fU32 270 0 0 rfl).trans ((up_k hU28 (by exact Nat.ne_of_beq_eq_false rfl) 0 0).trans (up_k hU25 (by exact Nat.ne_of_beq_eq_false rfl) 0 0)))
                      have e91 : U88 270 0 1 = U21 270 0 1 := (fU88 270 0 1 rfl).trans ((fU32 270 0 1 rfl).trans ((up_k hU28 (by exact Nat.ne_of_beq_eq_false rfl) 0 1).trans (up_k hU25 (by exact Nat.ne_of_beq_eq_false rfl) 0 1)))
                      have e92 : U88 270 0 2 = U21 270 0 2 := (fU88 270 0 2 rfl).trans ((fU32 270 0 2 rfl).trans ((up_k hU28 (by exact Nat.ne_of_beq_eq_false rfl) 0 2).trans (up_k hU25 (by exact Nat.ne_of_beq_eq_false rfl) 0 2)))
                      have e93 : U88 270 0 3 = U21 270 0 3 := (fU88 270 0 3 rfl).trans ((fU32 270 0 3 rfl).trans ((up_k hU28 (by exact Nat.ne_of_beq_eq_false rfl) 0 3).trans (up_k hU25 (by exact Nat.ne_of_beq_eq_false rfl) 0 3)))
                      have e94 : U88 270 0 4 = U21 270 0 4 := (fU88 270 0 4 rfl).trans ((fU32 270 0 4 rfl).trans ((up_k hU28 (by exact Nat.ne_of_beq_eq_false rfl) 0 4).trans (up_k hU25 (by exact Nat.ne_of_beq_eq_false rfl) 0 4)))
                      have e95 : U88 270 0 5 = U21 270 0 5 := (fU88 270 0 5 rfl).trans ((fU32 270 0 5 rfl).trans ((up_k hU28 (by exact Nat.ne_of_beq_eq_false rfl) 0 5).trans (up_k hU25 (by exact Nat.ne_of_beq_eq_false rfl) 0 5)))
                      have e96 : U88 270 0 6 = U21 270 0 6 := (fU88 270 0 6 rfl).trans ((fU32 270 0 6 rfl).trans ((up_k hU28 (by exact Nat.ne_of_beq_eq_false rfl) 0 6).trans (up_k hU25 (by exact Nat.ne_of_beq_eq_false rfl) 0 6)))
                      have e97 : U88 204 0 4 = (U25 204 0 4) + 1 := (fU88 204 0 4 rfl).trans ((fU32 204 0 4 rfl).trans (up_f hU28))
                      refine c_220 U88 ?_ ?_ ?_ ?_
                      · exact fr_t (fr_t (fr_u (fr_u (fr_u (fr_t (fr_0 _ _) (fr_s hf_145 rfl)) hU21 rfl) hU25 rfl) hU28 rfl) (fr_s fU32 rfl)) (fr_s fU88 rfl)
                      · omega
                      have e98 : U88 270 0 0 = U21 270 0 0 := (fU88 270 0 0 rfl).trans ((fU32 270 0 0 rfl).trans ((up_k hU28 (by exact Nat.ne_of_beq_eq_false rfl) 0 0).trans (up_k hU25 (by exact Nat.ne_of_beq_eq_false rfl) 0 0)))
                      have e99 : U88 270 0 1 = U21 270 0 1 := (fU88 270 0 1 rfl).trans ((fU32 270 0 1 rfl).trans ((up_k hU28 (by exact Nat.ne_of_beq_eq_false rfl) 0 1).trans (up_k hU25 (by exact Nat.ne_of_beq_eq_false rfl) 0 1)))
                      have e100 : U88 270 0 2 = U21 270 0 2 := (fU88 270 0 2 rfl).trans ((fU32 270 0 2 rfl).trans ((up_k hU28 (by exact Nat.ne_of_beq_eq_false rfl) 0 2).trans (up_k hU25 (by exact Nat.ne_of_beq_eq_false rfl) 0 2)))
                      have e101 : U88 270 0 3 = U21 270 0 3 := (fU88 270 0 3 rfl).trans ((fU32 270 0 3 rfl).trans ((up_k hU28 (by exact Nat.ne_of_beq_eq_false rfl) 0 3).trans (up_k hU25 (by exact Nat.ne_of_beq_eq_false rfl) 0 3)))
                      have e102 : U88 270 0 4 = U21 270 0 4 := (fU88 270 0 4 rfl).trans ((fU32 270 0 4 rfl).trans ((up_k hU28 (by exact Nat.ne_of_beq_eq_false rfl) 0 4).trans (up_k hU25 (by exact Nat.ne_of_beq_eq_false rfl) 0 4)))
                      have e103 : U88 270 0 5 = U21 270 0 5 := (fU88 270 0 5 rfl).trans ((fU32 270 0 5 rfl).trans ((up_k hU28 (by exact Nat.ne_of_beq_eq_false rfl) 0 5).trans (up_k hU25 (by exact Nat.ne_of_beq_eq_false rfl) 0 5)))
                      have e104 : U88 270 0 6 = U21 270 0 6 := (fU88 270 0 6 rfl).trans ((fU32 270 0 6 rfl).trans ((up_k hU28 (by exact Nat.ne_of_beq_eq_false rfl) 0 6).trans (up_k hU25 (by exact Nat.ne_of_beq_eq_false rfl) 0 6)))
                      have e105 : U88 204 0 4 = (U25 204 0 4) + 1 := (fU88 204 0 4 rfl).trans ((fU32 204 0 4 rfl).trans (up_f hU28))
                      · have y0 : T2 204 0 4 = T2 204 0 4 := rfl
                        have hv7 : v = 0 ∨ v = 1 ∨ v = 2 ∨ v = 3 ∨ v = 4 ∨ v = 5 ∨ v = 6 := by omega
                        have w0 : U21 270 0 0 = if v = 0 then 1 else T2 270 0 0 := by
                          rw [show U21 270 0 0 = U21 270 0 0 from rfl]
                          split
                          · rename_i z; subst z; exact up_f hU21
                          · rw [up_g hU21 (by omega)]; exact hf_145 270 0 0 rfl
                        have w1 : U21 270 0 1 = if v = 1 then 1 else T2 270 0 1 := by
                          rw [show U21 270 0 1 = U21 270 0 1 from rfl]
                          split
                          · rename_i z; subst z; exact up_f hU21
                          · rw [up_g hU21 (by omega)]; exact hf_145 270 0 1 rfl
                        have w2 : U21 270 0 2 = if v = 2 then 1 else T2 270 0 2 := by
                          rw [show U21 270 0 2 = U21 270 0 2 from rfl]
                          split
                          · rename_i z; subst z; exact up_f hU21
                          · rw [up_g hU21 (by omega)]; exact hf_145 270 0 2 rfl
                        have w3 : U21 270 0 3 = if v = 3 then 1 else T2 270 0 3 := by
                          rw [show U21 270 0 3 = U21 270 0 3 from rfl]
                          split
                          · rename_i z; subst z; exact up_f hU21
                          · rw [up_g hU21 (by omega)]; exact hf_145 270 0 3 rfl
                        have w4 : U21 270 0 4 = if v = 4 then 1 else T2 270 0 4 := by
                          rw [show U21 270 0 4 = U21 270 0 4 from rfl]
                          split
                          · rename_i z; subst z; exact up_f hU21
                          · rw [up_g hU21 (by omega)]; exact hf_145 270 0 4 rfl
                        have w5 : U21 270 0 5 = if v = 5 then 1 else T2 270 0 5 := by
                          rw [show U21 270 0 5 = U21 270 0 5 from rfl]
                          split
                          · rename_i z; subst z; exact up_f hU21
                          · rw [up_g hU21 (by omega)]; exact hf_145 270 0 5 rfl
                        have w6 : U21 270 0 6 = if v = 6 then 1 else T2 270 0 6 := by
                          rw [show U21 270 0 6 = U21 270 0 6 from rfl]
                          split
                          · rename_i z; subst z; exact up_f hU21
                          · rw [up_g hU21 (by omega)]; exact hf_145 270 0 6 rfl
                        rcases hv7 with rfl | rfl | rfl | rfl | rfl | rfl | rfl <;> simp at w0 w1 w2 w3 w4 w5 w6 <;> omega
                      · have gf : ∀ j, U88 204 0 j = U28 204 0 j := fun j => (show fr_ [(111, [57, 58, 59, 60, 61, 62, 63])] U28 U88 from (fr_t (fr_t (fr_0 _ _) (fr_s fU32 rfl)) (fr_s fU88 rfl))) 204 0 j rfl
                        refine ⟨fun j a b => ?_, fun j a b => ?_⟩
                        · rw [gf j, up_g hU28 (by omega), up_g hU25 (by omega), up_k hU21 (by exact Nat.ne_of_beq_eq_false rfl), hf_145 204 0 j rfl]; exact u2.1 j a b
                        · rw [gf j, up_g hU28 (by omega)]
                          by_cases z : j = 16 + (T2 204 0 4)
                          · rw [z, up_f hU25]; omega
                          · rw [up_g hU25 (by omega), up_k hU21 (by exact Nat.ne_of_beq_eq_false rfl), hf_145 204 0 j rfl]; exact u2.2 j a b
            have c_120 : ∀ (T5 : Zt), (fr_ [(111, [57, 58, 59, 60, 61, 62, 63])] T2 T5) → (T5 111 0 57 ≤ T 111 0 1 ∧ T2 111 0 57 ≤ T5 111 0 57 ∧ (T5 111 0 62 = 0 → T 111 0 62 = 0) ∧ (T5 111 0 62 = 0 → T2 111 0 57 < T5 111 0 57 ∧ v ≠ -1)) → J_ zX11_readOrder T (po_X11_readOrder T) 0 0 120 [some (vR 111 0), some (vI mo), some (vI v)] [] T5 := by
              intro T5 hf_120 a5
              refine j_blx (F := fX11) tb_X11 (nn_ _) bk_X11_readOrder_120 bs_X11_readOrder_120 hz (fun K hK => ?_)
              intro b106 b106b
              refine And.intro (fun c107 => ?_) (fun c107 => ?_)
              · refine hK 145 _ [] T5 ?_
                refine c_145 T5 ?_ ?_
                · exact fr_t (fr_0 _ _) (fr_s hf_120 rfl)
                · omega
              · refine ix_i (by omega) ?_
                intro b108 b108b
                have e109 : T5 270 0 v = T2 270 0 v := hf_120 270 0 v rfl
                rw [e109] at b108 b108b ⊢
                refine And.intro (fun c110 => ?_) (fun c110 => ?_)
                · refine hK 145 _ [] T5 ?_
                  refine c_145 T5 ?_ ?_
                  · exact fr_t (fr_0 _ _) (fr_s hf_120 rfl)
                  · omega
                · intro b111 b111b
                  refine hK 142 _ [vI (T5 111 0 59), vI 5, vR 111 0] T5 ?_
                  refine j_callV (y := yX11_bad) (Yc := zX11_bad) (rest := []) [vI 5, vI (T5 111 0 59)] (ct_X11_bad (T := T5) (by omega) (by omega)) cl_X11_281 (qd_c (by decide +kernel)) (nn_ _) rfl (rf_of rfl) (Nat.le_of_ble_eq_true rfl) (Nat.le_of_ble_eq_true rfl) (Nat.le_of_ble_eq_true rfl) rfl ?_
                  rintro U112 _ ⟨rfl, fU112, qU112⟩
                  show J_ zX11_readOrder T (po_X11_readOrder T) 0 0 145 _ [] U112
                  have e113 : U112 111 0 57 = T5 111 0 57 := fU112 111 0 57 rfl
                  refine c_145 U112 ?_ ?_
                  · exact fr_t (fr_t (fr_0 _ _) (fr_s hf_120 rfl)) (fr_s fU112 rfl)
                  · omega
            refine j_blx (F := fX11) tb_X11 (nn_ _) bk_X11_readOrder_98 bs_X11_readOrder_98 hz (fun K hK => ?_)
            intro b114 b114b
            refine And.intro (fun c115 => ?_) (fun c115 => ?_)
            · refine hK 120 [some (vR 111 0), some (vI mo), some (vI v)] [] T4 ?_
              refine c_120 T4 ?_ ?_
              · exact fr_t (fr_0 _ _) (fr_s hf_98 rfl)
              · omega
            · refine And.intro (fun c116 => ?_) (fun c116 => ?_)
              · refine hK 120 _ [] T4 ?_
                refine c_120 T4 ?_ ?_
                · exact fr_t (fr_0 _ _) (fr_s hf_98 rfl)
                · omega
              · intro b117 b117b
                refine hK 117 _ [vI (T4 111 0 59), vI 3, vR 111 0] T4 ?_
                refine j_callV (y := yX11_bad) (Yc := zX11_bad) (rest := []) [vI 3, vI (T4 111 0 59)] (ct_X11_bad (T := T4) (by omega) (by omega)) cl_X11_281 (qd_c (by decide +kernel)) (nn_ _) rfl (rf_of rfl) (Nat.le_of_ble_eq_true rfl) (Nat.le_of_ble_eq_true rfl) (Nat.le_of_ble_eq_true rfl) rfl ?_
                rintro U118 _ ⟨rfl, fU118, qU118⟩
                show J_ zX11_readOrder T (po_X11_readOrder T) 0 0 120 _ [] U118
                have e119 : U118 111 0 57 = T4 111 0 57 := fU118 111 0 57 rfl
                refine c_120 U118 ?_ ?_
                · exact fr_t (fr_t (fr_0 _ _) (fr_s hf_98 rfl)) (fr_s fU118 rfl)
                · omega
          have c_79 : ∀ (T3 : Zt), (fr_ [(111, [57, 58, 59, 60, 61, 62, 63])] T2 T3) → (T3 111 0 57 ≤ T 111 0 1 ∧ T2 111 0 57 ≤ T3 111 0 57 ∧ (T3 111 0 62 = 0 → T 111 0 62 = 0) ∧ (T3 111 0 62 = 0 → T2 111 0 57 < T3 111 0 57) ∧ T3 111 0 59 ≤ T3 111 0 60 ∧ T3 111 0 60 ≤ 400 ∧ T2 111 0 62 = 0) → (mo = mo) → J_ zX11_readOrder T (po_X11_readOrder T) 0 0 79 [some (vR 111 0), some (vI mo), none] [] T3 := by
            intro T3 hf_79 a3 z3
            refine j_blx (F := fX11) tb_X11 (nn_ _) bk_X11_readOrder_79 bs_X11_readOrder_79 hz (fun K hK => ?_)
            intro b120 b120b
            refine And.intro (fun c121 => ?_) (fun c121 => ?_)
            · refine hK 97 _ [] T3 ?_
              refine j_blx (F := fX11) tb_X11 (nn_ _) bk_X11_readOrder_97 bs_X11_readOrder_97 hz (fun K hK => ?_)
              refine hK 98 _ [vI (-1)] T3 ?_
              refine c_98 (-1) T3 ?_ ?_
              · exact fr_t (fr_0 _ _) (fr_s hf_79 rfl)
              · omega
            · refine hK 91 _ [vR 266 0, vR 111 0] T3 ?_
              refine j_callV (y := yX11_whichOf) (Yc := zX11_whichOf) (rest := []) [vR 266 0] (ct_X11_whichOf_266 (T := T3) (by omega) (by exact CX_f (ws := [(111, [57, 58, 59, 60, 61, 62, 63]), (204, []), (270, [])]) hC (fr_t (fr_t (fr_0 _ _) (fr_s hf_40 rfl)) (fr_s hf_79 rfl)) ⟨fun _ => rfl, fun _ => rfl, fun _ => rfl, fun _ => rfl, fun _ => rfl, trivial⟩)) cl_X11_294 (qd_c (by decide +kernel)) (nn_ _) rfl (rf_of rfl) (Nat.le_of_ble_eq_true rfl) (Nat.le_of_ble_eq_true rfl) (Nat.le_of_ble_eq_true rfl) rfl ?_
              rintro _ _ ⟨rfl, x122, rfl, hx122⟩
              show J_ zX11_readOrder T (po_X11_readOrder T) 0 0 94 _ [vI x122] T3
              refine j_blx (F := fX11) tb_X11 (nn_ _) bk_X11_readOrder_94 bs_X11_readOrder_94 hz (fun K hK => ?_)
              refine hK 98 _ [vI x122] T3 ?_
              refine c_98 x122 T3 ?_ ?_
              · exact fr_t (fr_0 _ _) (fr_s hf_79 rfl)
              · omega
          refine j_blx (F := fX11) tb_X11 (nn_ _) bk_X11_readOrder_40 bs_X11_readOrder_40 hz (fun K hK => ?_)
          refine And.intro (fun c123 => ?_) (fun c123 => ?_)
          · refine hK 237 _ [] T2 ?_
            refine j_blx (F := fX11) tb_X11 (nn_ _) bk_X11_readOrder_237 bs_X11_readOrder_237 hz (fun K hK => ?_)
            refine (show po_X11_readOrder T T2 (none) from ?_)
            exact ⟨rfl, fr_t (fr_0 _ _) (fr_s hf_40 rfl), by omega, by omega, by omega, u2.1, u2.2, by omega⟩
          · intro b124 b124b
            refine And.intro (fun c125 => ?_) (fun c125 => ?_)
            · refine hK 237 _ [] T2 ?_
              refine j_blx (F := fX11) tb_X11 (nn_ _) bk_X11_readOrder_237 bs_X11_readOrder_237 hz (fun K hK => ?_)
              refine (show po_X11_readOrder T T2 (none) from ?_)
              exact ⟨rfl, fr_t (fr_0 _ _) (fr_s hf_40 rfl), by omega, by omega, by omega, u2.1, u2.2, by omega⟩
            · refine hK 52 _ [vR 111 0] T2 ?_
              have e126 : T2 111 0 1 = T 111 0 1 := hf_40 111 0 1 rfl
              refine j_callV (y := yX11_take) (Yc := zX11_take) (rest := []) [] (ct_X11_take (T := T2) (by omega)) cl_X11_291 (qd_c (by decide +kernel)) (nn_ _) rfl (rf_of rfl) (Nat.le_of_ble_eq_true rfl) (Nat.le_of_ble_eq_true rfl) (Nat.le_of_ble_eq_true rfl) rfl ?_
              rintro U127 _ ⟨rfl, fU127, qU127⟩
              show J_ zX11_readOrder T (po_X11_readOrder T) 0 0 55 _ [] U127
              refine j_blx (F := fX11) tb_X11 (nn_ _) bk_X11_readOrder_55 bs_X11_readOrder_55 hz (fun K hK => ?_)
              intro b128 b128b
              refine And.intro (fun c129 => ?_) (fun c129 => ?_)
              · refine hK 79 _ [] U127 ?_
                refine c_79 U127 ?_ ?_ ?_
                · exact fr_t (fr_0 _ _) (fr_s fU127 rfl)
                · omega
                · rfl
              · intro b130 b130b
                refine And.intro (fun c131 => ?_) (fun c131 => ?_)
                · refine hK 79 _ [] U127 ?_
                  refine c_79 U127 ?_ ?_ ?_
                  · exact fr_t (fr_0 _ _) (fr_s fU127 rfl)
                  · omega
                  · rfl
                · intro b132 b132b
                  refine hK 76 _ [vI (U127 111 0 59), vI 2, vR 111 0] U127 ?_
                  refine j_callV (y := yX11_bad) (Yc := zX11_bad) (rest := []) [vI 2, vI (U127 111 0 59)] (ct_X11_bad (T := U127) (by omega) (by omega)) cl_X11_281 (qd_c (by decide +kernel)) (nn_ _) rfl (rf_of rfl) (Nat.le_of_ble_eq_true rfl) (Nat.le_of_ble_eq_true rfl) (Nat.le_of_ble_eq_true rfl) rfl ?_
                  rintro U133 _ ⟨rfl, fU133, qU133⟩
                  show J_ zX11_readOrder T (po_X11_readOrder T) 0 0 79 _ [] U133
                  have e134 : U133 111 0 57 = U127 111 0 57 := fU133 111 0 57 rfl
                  have e135 : U133 111 0 59 = U127 111 0 59 := fU133 111 0 59 rfl
                  have e136 : U133 111 0 60 = U127 111 0 60 := fU133 111 0 60 rfl
                  refine c_79 U133 ?_ ?_ ?_
                  · exact fr_t (fr_t (fr_0 _ _) (fr_s fU127 rfl)) (fr_s fU133 rfl)
                  · omega
                  · rfl
      refine j_blx (F := fX11) tb_X11 (nn_ _) bk_X11_readOrder_2 bs_X11_readOrder_2 hz (fun K hK => ?_)
      refine And.intro (fun c137 => ?_) (fun c137 => ?_)
      · refine hK 31 _ [] T1 ?_
        refine j_blx (F := fX11) tb_X11 (nn_ _) bk_X11_readOrder_31 bs_X11_readOrder_31 hz (fun K hK => ?_)
        refine iy_i (by omega) (by omega) ?_
        refine x_nm (fun U138 hU138 => ?_)
        have e139 := up_f hU138
        refine hK 40 [some (vR 111 0), some (vI 1), none] [] U138 ?_
        have e140 : U138 111 0 57 = T 111 0 57 := (up_k hU138 (by exact Nat.ne_of_beq_eq_false rfl) 0 57).trans (hf_2 111 0 57 rfl)
        have e141 : U138 111 0 62 = T 111 0 62 := (up_k hU138 (by exact Nat.ne_of_beq_eq_false rfl) 0 62).trans (hf_2 111 0 62 rfl)
        have e142 : U138 270 0 0 = T1 270 0 0 := up_k hU138 (by exact Nat.ne_of_beq_eq_false rfl) 0 0
        have e143 : U138 270 0 1 = T1 270 0 1 := up_k hU138 (by exact Nat.ne_of_beq_eq_false rfl) 0 1
        have e144 : U138 270 0 2 = T1 270 0 2 := up_k hU138 (by exact Nat.ne_of_beq_eq_false rfl) 0 2
        have e145 : U138 270 0 3 = T1 270 0 3 := up_k hU138 (by exact Nat.ne_of_beq_eq_false rfl) 0 3
        have e146 : U138 270 0 4 = T1 270 0 4 := up_k hU138 (by exact Nat.ne_of_beq_eq_false rfl) 0 4
        have e147 : U138 270 0 5 = T1 270 0 5 := up_k hU138 (by exact Nat.ne_of_beq_eq_false rfl) 0 5
        have e148 : U138 270 0 6 = T1 270 0 6 := up_k hU138 (by exact Nat.ne_of_beq_eq_false rfl) 0 6
        have e149 : U138 204 0 4 = 0 := up_f hU138
        refine c_40 _ 1 U138 (Nat.le_refl _) ?_ ?_ ?_ ?_
        · exact fr_u (fr_t (fr_0 _ _) (fr_s hf_2 rfl)) hU138 rfl
        · omega
        have e150 : U138 270 0 0 = T1 270 0 0 := up_k hU138 (by exact Nat.ne_of_beq_eq_false rfl) 0 0
        have e151 : U138 270 0 1 = T1 270 0 1 := up_k hU138 (by exact Nat.ne_of_beq_eq_false rfl) 0 1
        have e152 : U138 270 0 2 = T1 270 0 2 := up_k hU138 (by exact Nat.ne_of_beq_eq_false rfl) 0 2
        have e153 : U138 270 0 3 = T1 270 0 3 := up_k hU138 (by exact Nat.ne_of_beq_eq_false rfl) 0 3
        have e154 : U138 270 0 4 = T1 270 0 4 := up_k hU138 (by exact Nat.ne_of_beq_eq_false rfl) 0 4
        have e155 : U138 270 0 5 = T1 270 0 5 := up_k hU138 (by exact Nat.ne_of_beq_eq_false rfl) 0 5
        have e156 : U138 270 0 6 = T1 270 0 6 := up_k hU138 (by exact Nat.ne_of_beq_eq_false rfl) 0 6
        have e157 : U138 204 0 4 = 0 := up_f hU138
        · have z0 := l1 0 (by omega) (by omega)
          have z1 := l1 1 (by omega) (by omega)
          have z2 := l1 2 (by omega) (by omega)
          have z3 := l1 3 (by omega) (by omega)
          have z4 := l1 4 (by omega) (by omega)
          have z5 := l1 5 (by omega) (by omega)
          have z6 := l1 6 (by omega) (by omega)
          omega
        · exact ⟨fun j a b => by rw [up_g hU138 (by omega)]; exact l2.1 j a b, fun j a b => by rw [up_g hU138 (by omega)]; exact l2.2 j a b⟩
      · refine iy_i (by omega) (by omega) ?_
        refine x_nm (fun U158 hU158 => ?_)
        have e159 := up_f hU158
        refine rg_i (by omega) ?_
        refine iy_i (by omega) (by omega) ?_
        refine x_nm (fun U160 hU160 => ?_)
        have e161 := up_f hU160
        refine rg_i (by omega) ?_
        refine hK 2 [some (vR 111 0), some (vI (k + 1)), none] [] U160 ?_
        refine ih_2 _ ?_ (k + 1) U160 (Nat.le_refl _) ?_ ?_ ?_ ?_
        · omega
        · exact fr_u (fr_u (fr_t (fr_0 _ _) (fr_s hf_2 rfl)) hU158 rfl) hU160 rfl
        · omega
        · intro j a b
          rw [up_k hU160 (by exact Nat.ne_of_beq_eq_false rfl)]
          by_cases z : j = k
          · subst z; exact up_f hU158
          · rw [up_g hU158 (by omega)]; exact l1 j a (by omega)
        · refine ⟨fun j a b => ?_, fun j a b => ?_⟩
          · rw [up_g hU160 (by omega), up_k hU158 (by exact Nat.ne_of_beq_eq_false rfl)]; exact l2.1 j a b
          · by_cases z : j = 16 + k
            · subst z; rw [up_f hU160]; omega
            · rw [up_g hU160 (by omega), up_k hU158 (by exact Nat.ne_of_beq_eq_false rfl)]; exact l2.2 j a b
  refine j_blx (F := fX11) tb_X11 (nn_ _) bk_X11_readOrder_0 bs_X11_readOrder_0 hz (fun K hK => ?_)
  refine hK 2 [some (vR 111 0), some (vI 0), none] [] T ?_
  refine c_2 _ 0 T (Nat.le_refl _) ?_ ?_ ?_ ?_
  · exact fr_0 _ _
  · omega
  · intro j a b; omega
  · exact ⟨fun j a b => rfl, fun j a b => by have z := hFI j (by omega) b; rw [hrb j a b] at z; exact z⟩

