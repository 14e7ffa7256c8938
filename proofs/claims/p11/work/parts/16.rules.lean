def rb_l : List (Int × Int) := [(0, 3), (0, 9), (0, 9), (0, 9), (0, 7), (0, 1), (1, 4), (1, 30), (1, 9), (1, 6), (0, 5), (2, 25), (1, 9), (1, 9), (1, 9), (0, 999), ((-1), 6), ((-1), 6), ((-1), 6), ((-1), 6), ((-1), 6), ((-1), 6), ((-1), 6)]
/-- the bounds of a rule -/
def rb_ (w : Int) : Int × Int := rb_l.getD w.toNat (-1, 999)
def FI_ (T : Zt) : Prop := ∀ w : Int, 0 ≤ w → w < 23 → (rb_ w).1 ≤ T 204 0 w ∧ T 204 0 w ≤ (rb_ w).2
theorem FI__f {ws : List (Nat × List Int)} {T T' : Zt} (h : FI_ T) (f : fr_ ws T T') (w : (∀ j, fw_ ws 204 j = false) ∧ True) : FI_ T' := by
  have e0 : ∀ i j, T' 204 i j = T 204 i j := fun i j => f 204 i j (w.1 j)
  simp only [FI_, e0] at h ⊢
  exact h
def RI_ (T : Zt) : Prop := ∀ c w : Int, 0 ≤ c → c < T 111 0 6 → 0 ≤ w → w < 23 → (rb_ w).1 ≤ T 205 0 (23 * c + w) ∧ T 205 0 (23 * c + w) ≤ (rb_ w).2
theorem RI__f {ws : List (Nat × List Int)} {T T' : Zt} (h : RI_ T) (f : fr_ ws T T') (w : (∀ j, fw_ ws 205 j = false) ∧ fw_ ws 111 6 = false ∧ True) : RI_ T' := by
  have e0 : ∀ i j, T' 205 i j = T 205 i j := fun i j => f 205 i j (w.1 j)
  have e1 : ∀ i, T' 111 i 6 = T 111 i 6 := fun i => f 111 i 6 w.2.1
  simp only [RI_, e0, e1] at h ⊢
  exact h
def RW_ (T : Zt) : Prop := ∀ c : Int, 0 ≤ c → c < T 111 0 6 → T 205 0 (23 * c + 2) ≤ T 205 0 (23 * c + 1) ∧ T 205 0 (23 * c + 3) ≤ T 205 0 (23 * c + 2)
theorem RW__f {ws : List (Nat × List Int)} {T T' : Zt} (h : RW_ T) (f : fr_ ws T T') (w : (∀ j, fw_ ws 205 j = false) ∧ fw_ ws 111 6 = false ∧ True) : RW_ T' := by
  have e0 : ∀ i j, T' 205 i j = T 205 i j := fun i j => f 205 i j (w.1 j)
  have e1 : ∀ i, T' 111 i 6 = T 111 i 6 := fun i => f 111 i 6 w.2.1
  simp only [RW_, e0, e1] at h ⊢
  exact h
theorem CX_f {ws : List (Nat × List Int)} {T T' : Zt} (h : CW_ T) (f : fr_ ws T T') (w : (∀ j, fw_ ws 264 j = false) ∧ (∀ j, fw_ ws 265 j = false) ∧ (∀ j, fw_ ws 266 j = false) ∧ (∀ j, fw_ ws 267 j = false) ∧ (∀ j, fw_ ws 268 j = false) ∧ True) : CW_ T' := CW_f h f ⟨w.1, w.2.1, w.2.2.1, w.2.2.2.1, w.2.2.2.2.1⟩
theorem rb_all : ∀ w : Int, 0 ≤ w → w < 23 → -1 ≤ (rb_ w).1 ∧ (rb_ w).2 ≤ 999 := by
  have h : ∀ n : Nat, n < 23 → -1 ≤ (rb_ n).1 ∧ (rb_ n).2 ≤ 999 := by decide +kernel
  intro w h1 h2
  have := h w.toNat (by omega)
  rwa [show ((w.toNat : Nat) : Int) = w by omega] at this
abbrev cX11_layDefaults : ByteArray := prog_13_method_13_code
def yX11_layDefaults : MethodName := ⟨RX11, "layDefaults", "()V"⟩
def zX11_layDefaults : Zm := (RX11, cX11_layDefaults, 2, none, { frames := 0, cells := 0, slots := 0, locals := 0 })
theorem bk_X11_layDefaults_143 : ck_ fX11 none cX11_layDefaults 143 [.iload 1, .iconst 14, .if_icmp .ge 162, .aload 0, .tableswitch 0 11 69 #[], .iload 1, .iconst 0, .bastore, .iinc 1 1, .goto 143] 162 = true := qck_r (nn_ _) (by decide +kernel)
theorem bs_X11_layDefaults_143 {P : Zt → Option Zv → Prop} (K : Int → Zl → List Zv → Zt → Prop) : sx_ K P [.iload 1, .iconst 14, .if_icmp .ge 162, .aload 0, .tableswitch 0 11 69 #[], .iload 1, .iconst 0, .bastore, .iinc 1 1, .goto 143] 162 = x_iload 1 (x_iconst 14 (x_if_icmp .ge 162 K (x_aload 0 (x_g1 111 269 (x_iload 1 (x_iconst 0 (x_bastore (x_iinc 1 1 (x_goto 143 K))))))))) := ((xe_iload 1).trans (congrArg (x_iload 1) ((xe_iconst 14).trans (congrArg (x_iconst 14) ((xe_if_icmp .ge 162).trans (congrArg (x_if_icmp .ge 162 K) ((xe_aload 0).trans (congrArg (x_aload 0) ((xe_g1 (kk := 111) rfl tl_11_69).trans (congrArg (x_g1 111 269) ((xe_iload 1).trans (congrArg (x_iload 1) ((xe_iconst 0).trans (congrArg (x_iconst 0) ((xe_bastore).trans (congrArg (x_bastore) ((xe_iinc 1 1).trans (congrArg (x_iinc 1 1) (xe_goto 143)))))))))))))))))))
theorem bk_X11_layDefaults_162 : ck_ fX11 none cX11_layDefaults 162 [.return_] 163 = true := qck_r (nn_ _) (by decide +kernel)
theorem bs_X11_layDefaults_162 {P : Zt → Option Zv → Prop} (K : Int → Zl → List Zv → Zt → Prop) : sx_ K P [.return_] 163 = x_return_ P := (xe_return_)
theorem bk_X11_layDefaults_2 : ck_ fX11 none cX11_layDefaults 2 [.iload 1, .iconst 23, .if_icmp .ge 31, .aload 0, .tableswitch 0 11 4 #[], .iload 1, .iload 1, .iconst 15, .if_icmp .le 23, .iconst (-1), .goto 24] 23 = true := qck_r (nn_ _) (by decide +kernel)
theorem bs_X11_layDefaults_2 {P : Zt → Option Zv → Prop} (K : Int → Zl → List Zv → Zt → Prop) : sx_ K P [.iload 1, .iconst 23, .if_icmp .ge 31, .aload 0, .tableswitch 0 11 4 #[], .iload 1, .iload 1, .iconst 15, .if_icmp .le 23, .iconst (-1), .goto 24] 23 = x_iload 1 (x_iconst 23 (x_if_icmp .ge 31 K (x_aload 0 (x_g1 111 204 (x_iload 1 (x_iload 1 (x_iconst 15 (x_if_icmp .le 23 K (x_iconst (-1) (x_goto 24 K)))))))))) := ((xe_iload 1).trans (congrArg (x_iload 1) ((xe_iconst 23).trans (congrArg (x_iconst 23) ((xe_if_icmp .ge 31).trans (congrArg (x_if_icmp .ge 31 K) ((xe_aload 0).trans (congrArg (x_aload 0) ((xe_g1 (kk := 111) rfl tl_11_4).trans (congrArg (x_g1 111 204) ((xe_iload 1).trans (congrArg (x_iload 1) ((xe_iload 1).trans (congrArg (x_iload 1) ((xe_iconst 15).trans (congrArg (x_iconst 15) ((xe_if_icmp .le 23).trans (congrArg (x_if_icmp .le 23 K) ((xe_iconst (-1)).trans (congrArg (x_iconst (-1)) (xe_goto 24)))))))))))))))))))))
theorem bk_X11_layDefaults_31 : ck_ fX11 none cX11_layDefaults 31 [.aload 0, .tableswitch 0 11 4 #[], .iconst 1, .iconst 3, .iastore, .aload 0, .tableswitch 0 11 4 #[], .iconst 2, .iconst 1, .iastore, .aload 0, .tableswitch 0 11 4 #[], .iconst 4, .iconst 2, .iastore, .aload 0, .tableswitch 0 11 4 #[], .iconst 6, .iconst 1, .iastore, .aload 0, .tableswitch 0 11 4 #[], .iconst 7, .iconst 7, .iastore, .aload 0, .tableswitch 0 11 4 #[], .iconst 8, .iconst 1, .iastore, .aload 0, .tableswitch 0 11 4 #[], .iconst 9, .iconst 2, .iastore, .aload 0, .tableswitch 0 11 4 #[], .iconst 10, .iconst 2, .iastore, .aload 0, .tableswitch 0 11 4 #[], .iconst 11, .iconst 3, .iastore, .aload 0, .tableswitch 0 11 4 #[], .iconst 12, .iconst 3, .iastore, .aload 0, .tableswitch 0 11 4 #[], .iconst 13, .iconst 3, .iastore, .aload 0, .tableswitch 0 11 4 #[], .iconst 14, .iconst 1, .iastore, .aload 0, .tableswitch 0 11 4 #[], .iconst 16, .iconst 0, .iastore, .aload 0, .tableswitch 0 11 4 #[], .iconst 17, .iconst 1, .iastore, .iconst 0, .istore 1] 143 = true := qck_r (nn_ _) (by decide +kernel)
theorem bs_X11_layDefaults_31 {P : Zt → Option Zv → Prop} (K : Int → Zl → List Zv → Zt → Prop) : sx_ K P [.aload 0, .tableswitch 0 11 4 #[], .iconst 1, .iconst 3, .iastore, .aload 0, .tableswitch 0 11 4 #[], .iconst 2, .iconst 1, .iastore, .aload 0, .tableswitch 0 11 4 #[], .iconst 4, .iconst 2, .iastore, .aload 0, .tableswitch 0 11 4 #[], .iconst 6, .iconst 1, .iastore, .aload 0, .tableswitch 0 11 4 #[], .iconst 7, .iconst 7, .iastore, .aload 0, .tableswitch 0 11 4 #[], .iconst 8, .iconst 1, .iastore, .aload 0, .tableswitch 0 11 4 #[], .iconst 9, .iconst 2, .iastore, .aload 0, .tableswitch 0 11 4 #[], .iconst 10, .iconst 2, .iastore, .aload 0, .tableswitch 0 11 4 #[], .iconst 11, .iconst 3, .iastore, .aload 0, .tableswitch 0 11 4 #[], .iconst 12, .iconst 3, .iastore, .aload 0, .tableswitch 0 11 4 #[], .iconst 13, .iconst 3, .iastore, .aload 0, .tableswitch 0 11 4 #[], .iconst 14, .iconst 1, .iastore, .aload 0, .tableswitch 0 11 4 #[], .iconst 16, .iconst 0, .iastore, .aload 0, .tableswitch 0 11 4 #[], .iconst 17, .iconst 1, .iastore, .iconst 0, .istore 1] 143 = x_aload 0 (x_g1 111 204 (x_iconst 1 (x_iconst 3 (x_iastore (x_aload 0 (x_g1 111 204 (x_iconst 2 (x_iconst 1 (x_iastore (x_aload 0 (x_g1 111 204 (x_iconst 4 (x_iconst 2 (x_iastore (x_aload 0 (x_g1 111 204 (x_iconst 6 (x_iconst 1 (x_iastore (x_aload 0 (x_g1 111 204 (x_iconst 7 (x_iconst 7 (x_iastore (x_aload 0 (x_g1 111 204 (x_iconst 8 (x_iconst 1 (x_iastore (x_aload 0 (x_g1 111 204 (x_iconst 9 (x_iconst 2 (x_iastore (x_aload 0 (x_g1 111 204 (x_iconst 10 (x_iconst 2 (x_iastore (x_aload 0 (x_g1 111 204 (x_iconst 11 (x_iconst 3 (x_iastore (x_aload 0 (x_g1 111 204 (x_iconst 12 (x_iconst 3 (x_iastore (x_aload 0 (x_g1 111 204 (x_iconst 13 (x_iconst 3 (x_iastore (x_aload 0 (x_g1 111 204 (x_iconst 14 (x_iconst 1 (x_iastore (x_aload 0 (x_g1 111 204 (x_iconst 16 (x_iconst 0 (x_iastore (x_aload 0 (x_g1 111 204 (x_iconst 17 (x_iconst 1 (x_iastore (x_iconst 0 (x_istore 1 (K 143)))))))))))))))))))))))))))))))))))))))))))))))))))))))))))))))))))))))) := ((xe_aload 0).trans (congrArg (x_aload 0) ((xe_g1 (kk := 111) rfl tl_11_4).trans (congrArg (x_g1 111 204) ((xe_iconst 1).trans (congrArg (x_iconst 1) ((xe_iconst 3).trans (congrArg (x_iconst 3) ((xe_iastore).trans (congrArg (x_iastore) ((xe_aload 0).trans (congrArg (x_aload 0) ((xe_g1 (kk := 111) rfl tl_11_4).trans (congrArg (x_g1 111 204) ((xe_iconst 2).trans (congrArg (x_iconst 2) ((xe_iconst 1).trans (congrArg (x_iconst 1) ((xe_iastore).trans (congrArg (x_iastore) ((xe_aload 0).trans (congrArg (x_aload 0) ((xe_g1 (kk := 111) rfl tl_11_4).trans (congrArg (x_g1 111 204) ((xe_iconst 4).trans (congrArg (x_iconst 4) ((xe_iconst 2).trans (congrArg (x_iconst 2) ((xe_iastore).trans (congrArg (x_iastore) ((xe_aload 0).trans (congrArg (x_aload 0) ((xe_g1 (kk := 111) rfl tl_11_4).trans (congrArg (x_g1 111 204) ((xe_iconst 6).trans (congrArg (x_iconst 6) ((xe_iconst 1).trans (congrArg (x_iconst 1) ((xe_iastore).trans (congrArg (x_iastore) ((xe_aload 0).trans (congrArg (x_aload 0) ((xe_g1 (kk := 111) rfl tl_11_4).trans (congrArg (x_g1 111 204) ((xe_iconst 7).trans (congrArg (x_iconst 7) ((xe_iconst 7).trans (congrArg (x_iconst 7) ((xe_iastore).trans (congrArg (x_iastore) ((xe_aload 0).trans (congrArg (x_aload 0) ((xe_g1 (kk := 111) rfl tl_11_4).trans (congrArg (x_g1 111 204) ((xe_iconst 8).trans (congrArg (x_iconst 8) ((xe_iconst 1).trans (congrArg (x_iconst 1) ((xe_iastore).trans (congrArg (x_iastore) ((xe_aload 0).trans (congrArg (x_aload 0) ((xe_g1 (kk := 111) rfl tl_11_4).trans (congrArg (x_g1 111 204) ((xe_iconst 9).trans (congrArg (x_iconst 9) ((xe_iconst 2).trans (congrArg (x_iconst 2) ((xe_iastore).trans (congrArg (x_iastore) ((xe_aload 0).trans (congrArg (x_aload 0) ((xe_g1 (kk := 111) rfl tl_11_4).trans (congrArg (x_g1 111 204) ((xe_iconst 10).trans (congrArg (x_iconst 10) ((xe_iconst 2).trans (congrArg (x_iconst 2) ((xe_iastore).trans (congrArg (x_iastore) ((xe_aload 0).trans (congrArg (x_aload 0) ((xe_g1 (kk := 111) rfl tl_11_4).trans (congrArg (x_g1 111 204) ((xe_iconst 11).trans (congrArg (x_iconst 11) ((xe_iconst 3).trans (congrArg (x_iconst 3) ((xe_iastore).trans (congrArg (x_iastore) ((xe_aload 0).trans (congrArg (x_aload 0) ((xe_g1 (kk := 111) rfl tl_11_4).trans (congrArg (x_g1 111 204) ((xe_iconst 12).trans (congrArg (x_iconst 12) ((xe_iconst 3).trans (congrArg (x_iconst 3) ((xe_iastore).trans (congrArg (x_iastore) ((xe_aload 0).trans (congrArg (x_aload 0) ((xe_g1 (kk := 111) rfl tl_11_4).trans (congrArg (x_g1 111 204) ((xe_iconst 13).trans (congrArg (x_iconst 13) ((xe_iconst 3).trans (congrArg (x_iconst 3) ((xe_iastore).trans (congrArg (x_iastore) ((xe_aload 0).trans (congrArg (x_aload 0) ((xe_g1 (kk := 111) rfl tl_11_4).trans (congrArg (x_g1 111 204) ((xe_iconst 14).trans (congrArg (x_iconst 14) ((xe_iconst 1).trans (congrArg (x_iconst 1) ((xe_iastore).trans (congrArg (x_iastore) ((xe_aload 0).trans (congrArg (x_aload 0) ((xe_g1 (kk := 111) rfl tl_11_4).trans (congrArg (x_g1 111 204) ((xe_iconst 16).trans (congrArg (x_iconst 16) ((xe_iconst 0).trans (congrArg (x_iconst 0) ((xe_iastore).trans (congrArg (x_iastore) ((xe_aload 0).trans (congrArg (x_aload 0) ((xe_g1 (kk := 111) rfl tl_11_4).trans (congrArg (x_g1 111 204) ((xe_iconst 17).trans (congrArg (x_iconst 17) ((xe_iconst 1).trans (congrArg (x_iconst 1) ((xe_iastore).trans (congrArg (x_iastore) ((xe_iconst 0).trans (congrArg (x_iconst 0) ((xe_istore 1).trans (congrArg (x_istore 1) xe_nil))))))))))))))))))))))))))))))))))))))))))))))))))))))))))))))))))))))))))))))))))))))))))))))))))))))))))))))))))))))))))))))))))))))))))))))))
theorem bk_X11_layDefaults_23 : ck_ fX11 none cX11_layDefaults 23 [.iconst 0, .iastore, .iinc 1 1, .goto 2] 31 = true := qck_r (nn_ _) (by decide +kernel)
theorem bs_X11_layDefaults_23 {P : Zt → Option Zv → Prop} (K : Int → Zl → List Zv → Zt → Prop) : sx_ K P [.iconst 0, .iastore, .iinc 1 1, .goto 2] 31 = x_iconst 0 (x_iastore (x_iinc 1 1 (x_goto 2 K))) := ((xe_iconst 0).trans (congrArg (x_iconst 0) ((xe_iastore).trans (congrArg (x_iastore) ((xe_iinc 1 1).trans (congrArg (x_iinc 1 1) (xe_goto 2)))))))
theorem bk_X11_layDefaults_24 : ck_ fX11 none cX11_layDefaults 24 [.iastore, .iinc 1 1, .goto 2] 31 = true := qck_r (nn_ _) (by decide +kernel)
theorem bs_X11_layDefaults_24 {P : Zt → Option Zv → Prop} (K : Int → Zl → List Zv → Zt → Prop) : sx_ K P [.iastore, .iinc 1 1, .goto 2] 31 = x_iastore (x_iinc 1 1 (x_goto 2 K)) := ((xe_iastore).trans (congrArg (x_iastore) ((xe_iinc 1 1).trans (congrArg (x_iinc 1 1) (xe_goto 2)))))
theorem bk_X11_layDefaults_0 : ck_ fX11 none cX11_layDefaults 0 [.iconst 0, .istore 1] 2 = true := qck_r (nn_ _) (by decide +kernel)
theorem bs_X11_layDefaults_0 {P : Zt → Option Zv → Prop} (K : Int → Zl → List Zv → Zt → Prop) : sx_ K P [.iconst 0, .istore 1] 2 = x_iconst 0 (x_istore 1 (K 2)) := ((xe_iconst 0).trans (congrArg (x_iconst 0) ((xe_istore 1).trans (congrArg (x_istore 1) xe_nil))))
abbrev po_X11_layDefaults (T : Zt) : Zt → Option Zv → Prop := fun T' r => r = none ∧ fr_ [(204, []), (269, [])] T T' ∧ (FI_ T' ∧ T' 204 0 2 ≤ T' 204 0 1 ∧ T' 204 0 3 ≤ T' 204 0 2)
set_option maxHeartbeats 4000000 in
theorem ct_X11_layDefaults {T : Zt} : Ct_ yX11_layDefaults zX11_layDefaults T [vR 111 0] (po_X11_layDefaults T) := by
  refine ct_of pn_11 rfl rfl (Nat.le_of_ble_eq_true rfl) (fun hT hav => ?_)
  have hz : zX11_layDefaults.2.2.2.1 = some .boolean → ∀ (T' : Zt) (x : Int), po_X11_layDefaults T T' (some (vI x)) → 0 ≤ x ∧ x ≤ 1 := fun h => by cases h
  show J_ zX11_layDefaults T (po_X11_layDefaults T) 0 0 0 [some (vR 111 0), none] [] T
  have c_2 : ∀ (nn : Nat) (k : Int) (T1 : Zt), ((23 - k).toNat) ≤ nn → (fr_ [(204, []), (269, [])] T T1) → (0 ≤ k ∧ k ≤ 23) → (∀ j : Int, 0 ≤ j → j < k → (j ≤ 15 → T1 204 0 j = 0)) → (∀ j : Int, 0 ≤ j → j < k → (15 < j → T1 204 0 j = -1)) → J_ zX11_layDefaults T (po_X11_layDefaults T) 0 0 2 [some (vR 111 0), some (vI k)] [] T1 := by
    intro nn
    induction nn using Nat.strongRecOn with
    | _ nn ih_2 =>
      intro k T1 hm_2 hf_2 k1 l1 l2
      have c_143 : ∀ (nn : Nat) (k : Int) (T2 : Zt), ((14 - k).toNat) ≤ nn → (fr_ [(204, []), (269, [])] T T2) → (0 ≤ k ∧ k ≤ 14) → (FI_ T2) → (T2 204 0 2 ≤ T2 204 0 1 ∧ T2 204 0 3 ≤ T2 204 0 2) → J_ zX11_layDefaults T (po_X11_layDefaults T) 0 0 143 [some (vR 111 0), some (vI k)] [] T2 := by
        intro nn
        induction nn using Nat.strongRecOn with
        | _ nn ih_143 =>
          intro k T2 hm_143 hf_143 k1 f1 f2
          refine j_blx (F := fX11) tb_X11 (nn_ _) bk_X11_layDefaults_143 bs_X11_layDefaults_143 hz (fun K hK => ?_)
          refine And.intro (fun c1 => ?_) (fun c1 => ?_)
          · refine hK 162 _ [] T2 ?_
            refine j_blx (F := fX11) tb_X11 (nn_ _) bk_X11_layDefaults_162 bs_X11_layDefaults_162 hz (fun K hK => ?_)
            refine (show po_X11_layDefaults T T2 (none) from ?_)
            exact ⟨rfl, fr_t (fr_0 _ _) (fr_s hf_143 rfl), f1, f2⟩
          · refine iy_i (by omega) (by omega) ?_
            refine x_nm (fun U2 hU2 => ?_)
            have e3 := up_f hU2
            refine rg_i (by omega) ?_
            refine hK 143 [some (vR 111 0), some (vI (k + 1))] [] U2 ?_
            have e4 : U2 204 0 2 = T2 204 0 2 := up_k hU2 (by exact Nat.ne_of_beq_eq_false rfl) 0 2
            have e5 : U2 204 0 1 = T2 204 0 1 := up_k hU2 (by exact Nat.ne_of_beq_eq_false rfl) 0 1
            have e6 : U2 204 0 3 = T2 204 0 3 := up_k hU2 (by exact Nat.ne_of_beq_eq_false rfl) 0 3
            refine ih_143 _ ?_ (k + 1) U2 (Nat.le_refl _) ?_ ?_ ?_ ?_
            · omega
            · exact fr_u (fr_t (fr_0 _ _) (fr_s hf_143 rfl)) hU2 rfl
            · omega
            · exact FI__f (ws := [(269, [])]) f1 (fr_u (fr_0 _ _) hU2 rfl) ⟨fun _ => rfl, trivial⟩
            · omega
      refine j_blx (F := fX11) tb_X11 (nn_ _) bk_X11_layDefaults_2 bs_X11_layDefaults_2 hz (fun K hK => ?_)
      refine And.intro (fun c7 => ?_) (fun c7 => ?_)
      · refine hK 31 _ [] T1 ?_
        refine j_blx (F := fX11) tb_X11 (nn_ _) bk_X11_layDefaults_31 bs_X11_layDefaults_31 hz (fun K hK => ?_)
        refine iy_i (by omega) (by omega) ?_
        refine x_nm (fun U8 hU8 => ?_)
        have e9 := up_f hU8
        refine iy_i (by omega) (by omega) ?_
        refine x_nm (fun U10 hU10 => ?_)
        have e11 := up_f hU10
        refine iy_i (by omega) (by omega) ?_
        refine x_nm (fun U12 hU12 => ?_)
        have e13 := up_f hU12
        refine iy_i (by omega) (by omega) ?_
        refine x_nm (fun U14 hU14 => ?_)
        have e15 := up_f hU14
        refine iy_i (by omega) (by omega) ?_
        refine x_nm (fun U16 hU16 => ?_)
        have e17 := up_f hU16
        refine iy_i (by omega) (by omega) ?_
        refine x_nm (fun U18 hU18 => ?_)
        have e19 := up_f hU18
        refine iy_i (by omega) (by omega) ?_
        refine x_nm (fun U20 hU20 => ?_)
        have e21 := up_f hU20
        refine iy_i (by omega) (by omega) ?_
        refine x_nm (fun U22 hU22 => ?_)
        have e23 := up_f hU22
        refine iy_i (by omega) (by omega) ?_
        refine x_nm (fun U24 hU24 => ?_)
        have e25 := up_f hU24
        refine iy_i (by omega) (by omega) ?_
        refine x_nm (fun U26 hU26 => ?_)
        have e27 := up_f hU26
        refine iy_i (by omega) (by omega) ?_
        refine x_nm (fun U28 hU28 => ?_)
        have e29 := up_f hU28
        refine iy_i (by omega) (by omega) ?_
        refine x_nm (fun U30 hU30 => ?_)
        have e31 := up_f hU30
        refine iy_i (by omega) (by omega) ?_
        refine x_nm (fun U32 hU32 => ?_)
        have e33 := up_f hU32
        refine iy_i (by omega) (by omega) ?_
        refine x_nm (fun U34 hU34 => ?_)
        have e35 := up_f hU34
        refine hK 143 [some (vR 111 0), some (vI 0)] [] U34 ?_
        have e36 : U34 204 0 2 = 1 := (up_j hU34 (by exact ni_ rfl) 204 0).trans ((up_j hU32 (by exact ni_ rfl) 204 0).trans ((up_j hU30 (by exact ni_ rfl) 204 0).trans ((up_j hU28 (by exact ni_ rfl) 204 0).trans ((up_j hU26 (by exact ni_ rfl) 204 0).trans ((up_j hU24 (by exact ni_ rfl) 204 0).trans ((up_j hU22 (by exact ni_ rfl) 204 0).trans ((up_j hU20 (by exact ni_ rfl) 204 0).trans ((up_j hU18 (by exact ni_ rfl) 204 0).trans ((up_j hU16 (by exact ni_ rfl) 204 0).trans ((up_j hU14 (by exact ni_ rfl) 204 0).trans ((up_j hU12 (by exact ni_ rfl) 204 0).trans (up_f hU10))))))))))))
        have e37 : U34 204 0 1 = 3 := (up_j hU34 (by exact ni_ rfl) 204 0).trans ((up_j hU32 (by exact ni_ rfl) 204 0).trans ((up_j hU30 (by exact ni_ rfl) 204 0).trans ((up_j hU28 (by exact ni_ rfl) 204 0).trans ((up_j hU26 (by exact ni_ rfl) 204 0).trans ((up_j hU24 (by exact ni_ rfl) 204 0).trans ((up_j hU22 (by exact ni_ rfl) 204 0).trans ((up_j hU20 (by exact ni_ rfl) 204 0).trans ((up_j hU18 (by exact ni_ rfl) 204 0).trans ((up_j hU16 (by exact ni_ rfl) 204 0).trans ((up_j hU14 (by exact ni_ rfl) 204 0).trans ((up_j hU12 (by exact ni_ rfl) 204 0).trans ((up_j hU10 (by exact ni_ rfl) 204 0).trans (up_f hU8)))))))))))))
        have e38 : U34 204 0 3 = T1 204 0 3 := (up_j hU34 (by exact ni_ rfl) 204 0).trans ((up_j hU32 (by exact ni_ rfl) 204 0).trans ((up_j hU30 (by exact ni_ rfl) 204 0).trans ((up_j hU28 (by exact ni_ rfl) 204 0).trans ((up_j hU26 (by exact ni_ rfl) 204 0).trans ((up_j hU24 (by exact ni_ rfl) 204 0).trans ((up_j hU22 (by exact ni_ rfl) 204 0).trans ((up_j hU20 (by exact ni_ rfl) 204 0).trans ((up_j hU18 (by exact ni_ rfl) 204 0).trans ((up_j hU16 (by exact ni_ rfl) 204 0).trans ((up_j hU14 (by exact ni_ rfl) 204 0).trans ((up_j hU12 (by exact ni_ rfl) 204 0).trans ((up_j hU10 (by exact ni_ rfl) 204 0).trans (up_j hU8 (by exact ni_ rfl) 204 0)))))))))))))
        refine c_143 _ 0 U34 (Nat.le_refl _) ?_ ?_ ?_ ?_
        · exact fr_u (fr_u (fr_u (fr_u (fr_u (fr_u (fr_u (fr_u (fr_u (fr_u (fr_u (fr_u (fr_u (fr_u (fr_t (fr_0 _ _) (fr_s hf_2 rfl)) hU8 rfl) hU10 rfl) hU12 rfl) hU14 rfl) hU16 rfl) hU18 rfl) hU20 rfl) hU22 rfl) hU24 rfl) hU26 rfl) hU28 rfl) hU30 rfl) hU32 rfl) hU34 rfl
        · omega
        have e39 : U34 204 0 0 = T1 204 0 0 := (up_j hU34 (by exact ni_ rfl) 204 0).trans ((up_j hU32 (by exact ni_ rfl) 204 0).trans ((up_j hU30 (by exact ni_ rfl) 204 0).trans ((up_j hU28 (by exact ni_ rfl) 204 0).trans ((up_j hU26 (by exact ni_ rfl) 204 0).trans ((up_j hU24 (by exact ni_ rfl) 204 0).trans ((up_j hU22 (by exact ni_ rfl) 204 0).trans ((up_j hU20 (by exact ni_ rfl) 204 0).trans ((up_j hU18 (by exact ni_ rfl) 204 0).trans ((up_j hU16 (by exact ni_ rfl) 204 0).trans ((up_j hU14 (by exact ni_ rfl) 204 0).trans ((up_j hU12 (by exact ni_ rfl) 204 0).trans ((up_j hU10 (by exact ni_ rfl) 204 0).trans (up_j hU8 (by exact ni_ rfl) 204 0)))))))))))))
        have e40 : U34 204 0 1 = 3 := (up_j hU34 (by exact ni_ rfl) 204 0).trans ((up_j hU32 (by exact ni_ rfl) 204 0).trans ((up_j hU30 (by exact ni_ rfl) 204 0).trans ((up_j hU28 (by exact ni_ rfl) 204 0).trans ((up_j hU26 (by exact ni_ rfl) 204 0).trans ((up_j hU24 (by exact ni_ rfl) 204 0).trans ((up_j hU22 (by exact ni_ rfl) 204 0).trans ((up_j hU20 (by exact ni_ rfl) 204 0).trans ((up_j hU18 (by exact ni_ rfl) 204 0).trans ((up_j hU16 (by exact ni_ rfl) 204 0).trans ((up_j hU14 (by exact ni_ rfl) 204 0).trans ((up_j hU12 (by exact ni_ rfl) 204 0).trans ((up_j hU10 (by exact ni_ rfl) 204 0).trans (up_f hU8)))))))))))))
        have e41 : U34 204 0 2 = 1 := (up_j hU34 (by exact ni_ rfl) 204 0).trans ((up_j hU32 (by exact ni_ rfl) 204 0).trans ((up_j hU30 (by exact ni_ rfl) 204 0).trans ((up_j hU28 (by exact ni_ rfl) 204 0).trans ((up_j hU26 (by exact ni_ rfl) 204 0).trans ((up_j hU24 (by exact ni_ rfl) 204 0).trans ((up_j hU22 (by exact ni_ rfl) 204 0).trans ((up_j hU20 (by exact ni_ rfl) 204 0).trans ((up_j hU18 (by exact ni_ rfl) 204 0).trans ((up_j hU16 (by exact ni_ rfl) 204 0).trans ((up_j hU14 (by exact ni_ rfl) 204 0).trans ((up_j hU12 (by exact ni_ rfl) 204 0).trans (up_f hU10))))))))))))
        have e42 : U34 204 0 3 = T1 204 0 3 := (up_j hU34 (by exact ni_ rfl) 204 0).trans ((up_j hU32 (by exact ni_ rfl) 204 0).trans ((up_j hU30 (by exact ni_ rfl) 204 0).trans ((up_j hU28 (by exact ni_ rfl) 204 0).trans ((up_j hU26 (by exact ni_ rfl) 204 0).trans ((up_j hU24 (by exact ni_ rfl) 204 0).trans ((up_j hU22 (by exact ni_ rfl) 204 0).trans ((up_j hU20 (by exact ni_ rfl) 204 0).trans ((up_j hU18 (by exact ni_ rfl) 204 0).trans ((up_j hU16 (by exact ni_ rfl) 204 0).trans ((up_j hU14 (by exact ni_ rfl) 204 0).trans ((up_j hU12 (by exact ni_ rfl) 204 0).trans ((up_j hU10 (by exact ni_ rfl) 204 0).trans (up_j hU8 (by exact ni_ rfl) 204 0)))))))))))))
        have e43 : U34 204 0 4 = 2 := (up_j hU34 (by exact ni_ rfl) 204 0).trans ((up_j hU32 (by exact ni_ rfl) 204 0).trans ((up_j hU30 (by exact ni_ rfl) 204 0).trans ((up_j hU28 (by exact ni_ rfl) 204 0).trans ((up_j hU26 (by exact ni_ rfl) 204 0).trans ((up_j hU24 (by exact ni_ rfl) 204 0).trans ((up_j hU22 (by exact ni_ rfl) 204 0).trans ((up_j hU20 (by exact ni_ rfl) 204 0).trans ((up_j hU18 (by exact ni_ rfl) 204 0).trans ((up_j hU16 (by exact ni_ rfl) 204 0).trans ((up_j hU14 (by exact ni_ rfl) 204 0).trans (up_f hU12)))))))))))
        have e44 : U34 204 0 5 = T1 204 0 5 := (up_j hU34 (by exact ni_ rfl) 204 0).trans ((up_j hU32 (by exact ni_ rfl) 204 0).trans ((up_j hU30 (by exact ni_ rfl) 204 0).trans ((up_j hU28 (by exact ni_ rfl) 204 0).trans ((up_j hU26 (by exact ni_ rfl) 204 0).trans ((up_j hU24 (by exact ni_ rfl) 204 0).trans ((up_j hU22 (by exact ni_ rfl) 204 0).trans ((up_j hU20 (by exact ni_ rfl) 204 0).trans ((up_j hU18 (by exact ni_ rfl) 204 0).trans ((up_j hU16 (by exact ni_ rfl) 204 0).trans ((up_j hU14 (by exact ni_ rfl) 204 0).trans ((up_j hU12 (by exact ni_ rfl) 204 0).trans ((up_j hU10 (by exact ni_ rfl) 204 0).trans (up_j hU8 (by exact ni_ rfl) 204 0)))))))))))))
        have e45 : U34 204 0 6 = 1 := (up_j hU34 (by exact ni_ rfl) 204 0).trans ((up_j hU32 (by exact ni_ rfl) 204 0).trans ((up_j hU30 (by exact ni_ rfl) 204 0).trans ((up_j hU28 (by exact ni_ rfl) 204 0).trans ((up_j hU26 (by exact ni_ rfl) 204 0).trans ((up_j hU24 (by exact ni_ rfl) 204 0).trans ((up_j hU22 (by exact ni_ rfl) 204 0).trans ((up_j hU20 (by exact ni_ rfl) 204 0).trans ((up_j hU18 (by exact ni_ rfl) 204 0).trans ((up_j hU16 (by exact ni_ rfl) 204 0).trans (up_f hU14))))))))))
        have e46 : U34 204 0 7 = 7 := (up_j hU34 (by exact ni_ rfl) 204 0).trans ((up_j hU32 (by exact ni_ rfl) 204 0).trans ((up_j hU30 (by exact ni_ rfl) 204 0).trans ((up_j hU28 (by exact ni_ rfl) 204 0).trans ((up_j hU26 (by exact ni_ rfl) 204 0).trans ((up_j hU24 (by exact ni_ rfl) 204 0).trans ((up_j hU22 (by exact ni_ rfl) 204 0).trans ((up_j hU20 (by exact ni_ rfl) 204 0).trans ((up_j hU18 (by exact ni_ rfl) 204 0).trans (up_f hU16)))))))))
        have e47 : U34 204 0 8 = 1 := (up_j hU34 (by exact ni_ rfl) 204 0).trans ((up_j hU32 (by exact ni_ rfl) 204 0).trans ((up_j hU30 (by exact ni_ rfl) 204 0).trans ((up_j hU28 (by exact ni_ rfl) 204 0).trans ((up_j hU26 (by exact ni_ rfl) 204 0).trans ((up_j hU24 (by exact ni_ rfl) 204 0).trans ((up_j hU22 (by exact ni_ rfl) 204 0).trans ((up_j hU20 (by exact ni_ rfl) 204 0).trans (up_f hU18))))))))
        have e48 : U34 204 0 9 = 2 := (up_j hU34 (by exact ni_ rfl) 204 0).trans ((up_j hU32 (by exact ni_ rfl) 204 0).trans ((up_j hU30 (by exact ni_ rfl) 204 0).trans ((up_j hU28 (by exact ni_ rfl) 204 0).trans ((up_j hU26 (by exact ni_ rfl) 204 0).trans ((up_j hU24 (by exact ni_ rfl) 204 0).trans ((up_j hU22 (by exact ni_ rfl) 204 0).trans (up_f hU20)))))))
        have e49 : U34 204 0 10 = 2 := (up_j hU34 (by exact ni_ rfl) 204 0).trans ((up_j hU32 (by exact ni_ rfl) 204 0).trans ((up_j hU30 (by exact ni_ rfl) 204 0).trans ((up_j hU28 (by exact ni_ rfl) 204 0).trans ((up_j hU26 (by exact ni_ rfl) 204 0).trans ((up_j hU24 (by exact ni_ rfl) 204 0).trans (up_f hU22))))))
        have e50 : U34 204 0 11 = 3 := (up_j hU34 (by exact ni_ rfl) 204 0).trans ((up_j hU32 (by exact ni_ rfl) 204 0).trans ((up_j hU30 (by exact ni_ rfl) 204 0).trans ((up_j hU28 (by exact ni_ rfl) 204 0).trans ((up_j hU26 (by exact ni_ rfl) 204 0).trans (up_f hU24)))))
        have e51 : U34 204 0 12 = 3 := (up_j hU34 (by exact ni_ rfl) 204 0).trans ((up_j hU32 (by exact ni_ rfl) 204 0).trans ((up_j hU30 (by exact ni_ rfl) 204 0).trans ((up_j hU28 (by exact ni_ rfl) 204 0).trans (up_f hU26))))
        have e52 : U34 204 0 13 = 3 := (up_j hU34 (by exact ni_ rfl) 204 0).trans ((up_j hU32 (by exact ni_ rfl) 204 0).trans ((up_j hU30 (by exact ni_ rfl) 204 0).trans (up_f hU28)))
        have e53 : U34 204 0 14 = 1 := (up_j hU34 (by exact ni_ rfl) 204 0).trans ((up_j hU32 (by exact ni_ rfl) 204 0).trans (up_f hU30))
        have e54 : U34 204 0 15 = T1 204 0 15 := (up_j hU34 (by exact ni_ rfl) 204 0).trans ((up_j hU32 (by exact ni_ rfl) 204 0).trans ((up_j hU30 (by exact ni_ rfl) 204 0).trans ((up_j hU28 (by exact ni_ rfl) 204 0).trans ((up_j hU26 (by exact ni_ rfl) 204 0).trans ((up_j hU24 (by exact ni_ rfl) 204 0).trans ((up_j hU22 (by exact ni_ rfl) 204 0).trans ((up_j hU20 (by exact ni_ rfl) 204 0).trans ((up_j hU18 (by exact ni_ rfl) 204 0).trans ((up_j hU16 (by exact ni_ rfl) 204 0).trans ((up_j hU14 (by exact ni_ rfl) 204 0).trans ((up_j hU12 (by exact ni_ rfl) 204 0).trans ((up_j hU10 (by exact ni_ rfl) 204 0).trans (up_j hU8 (by exact ni_ rfl) 204 0)))))))))))))
        have e55 : U34 204 0 16 = 0 := (up_j hU34 (by exact ni_ rfl) 204 0).trans (up_f hU32)
        have e56 : U34 204 0 17 = 1 := up_f hU34
        have e57 : U34 204 0 18 = T1 204 0 18 := (up_j hU34 (by exact ni_ rfl) 204 0).trans ((up_j hU32 (by exact ni_ rfl) 204 0).trans ((up_j hU30 (by exact ni_ rfl) 204 0).trans ((up_j hU28 (by exact ni_ rfl) 204 0).trans ((up_j hU26 (by exact ni_ rfl) 204 0).trans ((up_j hU24 (by exact ni_ rfl) 204 0).trans ((up_j hU22 (by exact ni_ rfl) 204 0).trans ((up_j hU20 (by exact ni_ rfl) 204 0).trans ((up_j hU18 (by exact ni_ rfl) 204 0).trans ((up_j hU16 (by exact ni_ rfl) 204 0).trans ((up_j hU14 (by exact ni_ rfl) 204 0).trans ((up_j hU12 (by exact ni_ rfl) 204 0).trans ((up_j hU10 (by exact ni_ rfl) 204 0).trans (up_j hU8 (by exact ni_ rfl) 204 0)))))))))))))
        have e58 : U34 204 0 19 = T1 204 0 19 := (up_j hU34 (by exact ni_ rfl) 204 0).trans ((up_j hU32 (by exact ni_ rfl) 204 0).trans ((up_j hU30 (by exact ni_ rfl) 204 0).trans ((up_j hU28 (by exact ni_ rfl) 204 0).trans ((up_j hU26 (by exact ni_ rfl) 204 0).trans ((up_j hU24 (by exact ni_ rfl) 204 0).trans ((up_j hU22 (by exact ni_ rfl) 204 0).trans ((up_j hU20 (by exact ni_ rfl) 204 0).trans ((up_j hU18 (by exact ni_ rfl) 204 0).trans ((up_j hU16 (by exact ni_ rfl) 204 0).trans ((up_j hU14 (by exact ni_ rfl) 204 0).trans ((up_j hU12 (by exact ni_ rfl) 204 0).trans ((up_j hU10 (by exact ni_ rfl) 204 0).trans (up_j hU8 (by exact ni_ rfl) 204 0)))))))))))))
        have e59 : U34 204 0 20 = T1 204 0 20 := (up_j hU34 (by exact ni_ rfl) 204 0).trans ((up_j hU32 (by exact ni_ rfl) 204 0).trans ((up_j hU30 (by exact ni_ rfl) 204 0).trans ((up_j hU28 (by exact ni_ rfl) 204 0).trans ((up_j hU26 (by exact ni_ rfl) 204 0).trans ((up_j hU24 (by exact ni_ rfl) 204 0).trans ((up_j hU22 (by exact ni_ rfl) 204 0).trans ((up_j hU20 (by exact ni_ rfl) 204 0).trans ((up_j hU18 (by exact ni_ rfl) 204 0).trans ((up_j hU16 (by exact ni_ rfl) 204 0).trans ((up_j hU14 (by exact ni_ rfl) 204 0).trans ((up_j hU12 (by exact ni_ rfl) 204 0).trans ((up_j hU10 (by exact ni_ rfl) 204 0).trans (up_j hU8 (by exact ni_ rfl) 204 0)))))))))))))
        have e60 : U34 204 0 21 = T1 204 0 21 := (up_j hU34 (by exact ni_ rfl) 204 0).trans ((up_j hU32 (by exact ni_ rfl) 204 0).trans ((up_j hU30 (by exact ni_ rfl) 204 0).trans ((up_j hU28 (by exact ni_ rfl) 204 0).trans ((up_j hU26 (by exact ni_ rfl) 204 0).trans ((up_j hU24 (by exact ni_ rfl) 204 0).trans ((up_j hU22 (by exact ni_ rfl) 204 0).trans ((up_j hU20 (by exact ni_ rfl) 204 0).trans ((up_j hU18 (by exact ni_ rfl) 204 0).trans ((up_j hU16 (by exact ni_ rfl) 204 0).trans ((up_j hU14 (by exact ni_ rfl) 204 0).trans ((up_j hU12 (by exact ni_ rfl) 204 0).trans ((up_j hU10 (by exact ni_ rfl) 204 0).trans (up_j hU8 (by exact ni_ rfl) 204 0)))))))))))))
        have e61 : U34 204 0 22 = T1 204 0 22 := (up_j hU34 (by exact ni_ rfl) 204 0).trans ((up_j hU32 (by exact ni_ rfl) 204 0).trans ((up_j hU30 (by exact ni_ rfl) 204 0).trans ((up_j hU28 (by exact ni_ rfl) 204 0).trans ((up_j hU26 (by exact ni_ rfl) 204 0).trans ((up_j hU24 (by exact ni_ rfl) 204 0).trans ((up_j hU22 (by exact ni_ rfl) 204 0).trans ((up_j hU20 (by exact ni_ rfl) 204 0).trans ((up_j hU18 (by exact ni_ rfl) 204 0).trans ((up_j hU16 (by exact ni_ rfl) 204 0).trans ((up_j hU14 (by exact ni_ rfl) 204 0).trans ((up_j hU12 (by exact ni_ rfl) 204 0).trans ((up_j hU10 (by exact ni_ rfl) 204 0).trans (up_j hU8 (by exact ni_ rfl) 204 0)))))))))))))
        · intro w h1 h2
          rcases (by omega : w = 0 ∨ w = 1 ∨ w = 2 ∨ w = 3 ∨ w = 4 ∨ w = 5 ∨ w = 6 ∨ w = 7 ∨ w = 8 ∨ w = 9 ∨ w = 10 ∨ w = 11 ∨ w = 12 ∨ w = 13 ∨ w = 14 ∨ w = 15 ∨ w = 16 ∨ w = 17 ∨ w = 18 ∨ w = 19 ∨ w = 20 ∨ w = 21 ∨ w = 22) with rfl | rfl | rfl | rfl | rfl | rfl | rfl | rfl | rfl | rfl | rfl | rfl | rfl | rfl | rfl | rfl | rfl | rfl | rfl | rfl | rfl | rfl | rfl
          · show (0 : Int) ≤ _ ∧ _ ≤ (3 : Int)
            have z := l1 0 (by omega) (by omega)
            have z2 := l2 0 (by omega) (by omega)
            omega
          · show (0 : Int) ≤ _ ∧ _ ≤ (9 : Int)
            have z := l1 1 (by omega) (by omega)
            have z2 := l2 1 (by omega) (by omega)
            omega
          · show (0 : Int) ≤ _ ∧ _ ≤ (9 : Int)
            have z := l1 2 (by omega) (by omega)
            have z2 := l2 2 (by omega) (by omega)
            omega
          · show (0 : Int) ≤ _ ∧ _ ≤ (9 : Int)
            have z := l1 3 (by omega) (by omega)
            have z2 := l2 3 (by omega) (by omega)
            omega
          · show (0 : Int) ≤ _ ∧ _ ≤ (7 : Int)
            have z := l1 4 (by omega) (by omega)
            have z2 := l2 4 (by omega) (by omega)
            omega
          · show (0 : Int) ≤ _ ∧ _ ≤ (1 : Int)
            have z := l1 5 (by omega) (by omega)
            have z2 := l2 5 (by omega) (by omega)
            omega
          · show (1 : Int) ≤ _ ∧ _ ≤ (4 : Int)
            have z := l1 6 (by omega) (by omega)
            have z2 := l2 6 (by omega) (by omega)
            omega
          · show (1 : Int) ≤ _ ∧ _ ≤ (30 : Int)
            have z := l1 7 (by omega) (by omega)
            have z2 := l2 7 (by omega) (by omega)
            omega
          · show (1 : Int) ≤ _ ∧ _ ≤ (9 : Int)
            have z := l1 8 (by omega) (by omega)
            have z2 := l2 8 (by omega) (by omega)
            omega
          · show (1 : Int) ≤ _ ∧ _ ≤ (6 : Int)
            have z := l1 9 (by omega) (by omega)
            have z2 := l2 9 (by omega) (by omega)
            omega
          · show (0 : Int) ≤ _ ∧ _ ≤ (5 : Int)
            have z := l1 10 (by omega) (by omega)
            have z2 := l2 10 (by omega) (by omega)
            omega
          · show (2 : Int) ≤ _ ∧ _ ≤ (25 : Int)
            have z := l1 11 (by omega) (by omega)
            have z2 := l2 11 (by omega) (by omega)
            omega
          · show (1 : Int) ≤ _ ∧ _ ≤ (9 : Int)
            have z := l1 12 (by omega) (by omega)
            have z2 := l2 12 (by omega) (by omega)
            omega
          · show (1 : Int) ≤ _ ∧ _ ≤ (9 : Int)
            have z := l1 13 (by omega) (by omega)
            have z2 := l2 13 (by omega) (by omega)
            omega
          · show (1 : Int) ≤ _ ∧ _ ≤ (9 : Int)
            have z := l1 14 (by omega) (by omega)
            have z2 := l2 14 (by omega) (by omega)
            omega
          · show (0 : Int) ≤ _ ∧ _ ≤ (999 : Int)
            have z := l1 15 (by omega) (by omega)
            have z2 := l2 15 (by omega) (by omega)
            omega
          · show ((-1) : Int) ≤ _ ∧ _ ≤ (6 : Int)
            have z := l1 16 (by omega) (by omega)
            have z2 := l2 16 (by omega) (by omega)
            omega
          · show ((-1) : Int) ≤ _ ∧ _ ≤ (6 : Int)
            have z := l1 17 (by omega) (by omega)
            have z2 := l2 17 (by omega) (by omega)
            omega
          · show ((-1) : Int) ≤ _ ∧ _ ≤ (6 : Int)
            have z := l1 18 (by omega) (by omega)
            have z2 := l2 18 (by omega) (by omega)
            omega
          · show ((-1) : Int) ≤ _ ∧ _ ≤ (6 : Int)
            have z := l1 19 (by omega) (by omega)
            have z2 := l2 19 (by omega) (by omega)
            omega
          · show ((-1) : Int) ≤ _ ∧ _ ≤ (6 : Int)
            have z := l1 20 (by omega) (by omega)
            have z2 := l2 20 (by omega) (by omega)
            omega
          · show ((-1) : Int) ≤ _ ∧ _ ≤ (6 : Int)
            have z := l1 21 (by omega) (by omega)
            have z2 := l2 21 (by omega) (by omega)
            omega
          · show ((-1) : Int) ≤ _ ∧ _ ≤ (6 : Int)
            have z := l1 22 (by omega) (by omega)
            have z2 := l2 22 (by omega) (by omega)
            omega
        · have z3 := l1 3 (by omega) (by omega)
          have z4 := z3 (by omega)
          omega
      · refine And.intro (fun c62 => ?_) (fun c62 => ?_)
        · refine hK 23 [some (vR 111 0), some (vI k)] [vI k, vR 204 0] T1 ?_
          refine j_blx (F := fX11) tb_X11 (nn_ _) bk_X11_layDefaults_23 bs_X11_layDefaults_23 hz (fun K hK => ?_)
          refine iy_i (by omega) (by omega) ?_
          refine x_nm (fun U63 hU63 => ?_)
          have e64 := up_f hU63
          refine rg_i (by omega) ?_
          refine hK 2 [some (vR 111 0), some (vI (k + 1))] [] U63 ?_
          refine ih_2 _ ?_ (k + 1) U63 (Nat.le_refl _) ?_ ?_ ?_ ?_
          · omega
          · exact fr_u (fr_t (fr_0 _ _) (fr_s hf_2 rfl)) hU63 rfl
          · omega
          · intro j a b
            by_cases z : j = k
            · subst z; rw [up_f hU63]; omega
            · rw [up_g hU63 (by omega)]; exact l1 j a (by omega)
          · intro j a b
            by_cases z : j = k
            · subst z; rw [up_f hU63]; omega
            · rw [up_g hU63 (by omega)]; exact l2 j a (by omega)
        · refine hK 24 [some (vR 111 0), some (vI k)] [vI (-1), vI k, vR 204 0] T1 ?_
          refine j_blx (F := fX11) tb_X11 (nn_ _) bk_X11_layDefaults_24 bs_X11_layDefaults_24 hz (fun K hK => ?_)
          refine iy_i (by omega) (by omega) ?_
          refine x_nm (fun U65 hU65 => ?_)
          have e66 := up_f hU65
          refine rg_i (by omega) ?_
          refine hK 2 [some (vR 111 0), some (vI (k + 1))] [] U65 ?_
          refine ih_2 _ ?_ (k + 1) U65 (Nat.le_refl _) ?_ ?_ ?_ ?_
          · omega
          · exact fr_u (fr_t (fr_0 _ _) (fr_s hf_2 rfl)) hU65 rfl
          · omega
          · intro j a b
            by_cases z : j = k
            · subst z; rw [up_f hU65]; omega
            · rw [up_g hU65 (by omega)]; exact l1 j a (by omega)
          · intro j a b
            by_cases z : j = k
            · subst z; rw [up_f hU65]; omega
            · rw [up_g hU65 (by omega)]; exact l2 j a (by omega)
  refine j_blx (F := fX11) tb_X11 (nn_ _) bk_X11_layDefaults_0 bs_X11_layDefaults_0 hz (fun K hK => ?_)
  refine hK 2 [some (vR 111 0), some (vI 0)] [] T ?_
  refine c_2 _ 0 T (Nat.le_refl _) ?_ ?_ ?_ ?_
  · exact fr_0 _ _
  · omega
  · intro j a b; omega
  · intro j a b; omega
abbrev cX11_wantNumber : ByteArray := prog_13_method_14_code
def yX11_wantNumber : MethodName := ⟨RX11, "wantNumber", "(III)V"⟩
def zX11_wantNumber : Zm := (RX11, cX11_wantNumber, 4, none, { frames := 3, cells := 0, slots := 0, locals := 63 })
theorem bk_X11_wantNumber_64 : ck_ fX11 none cX11_wantNumber 64 [.aload 0, .tableswitch 0 11 62 #[], .ifCond .ne 81, .aload 0, .tableswitch 0 11 4 #[], .iload 3, .aload 0, .tableswitch 0 11 61 #[], .iastore, .return_] 82 = true := qck_r (nn_ _) (by decide +kernel)
theorem bs_X11_wantNumber_64 {P : Zt → Option Zv → Prop} (K : Int → Zl → List Zv → Zt → Prop) : sx_ K P [.aload 0, .tableswitch 0 11 62 #[], .ifCond .ne 81, .aload 0, .tableswitch 0 11 4 #[], .iload 3, .aload 0, .tableswitch 0 11 61 #[], .iastore, .return_] 82 = x_aload 0 (x_g0 111 62 0 5 (x_ifCond .ne 81 K (x_aload 0 (x_g1 111 204 (x_iload 3 (x_aload 0 (x_g0 111 61 (-2147483648) 2147483647 (x_iastore (x_return_ P))))))))) := ((xe_aload 0).trans (congrArg (x_aload 0) ((xe_g0 (kk := 111) rfl tl_11_62).trans (congrArg (x_g0 111 62 0 5) ((xe_ifCond .ne 81).trans (congrArg (x_ifCond .ne 81 K) ((xe_aload 0).trans (congrArg (x_aload 0) ((xe_g1 (kk := 111) rfl tl_11_4).trans (congrArg (x_g1 111 204) ((xe_iload 3).trans (congrArg (x_iload 3) ((xe_aload 0).trans (congrArg (x_aload 0) ((xe_g0 (kk := 111) rfl tl_11_61).trans (congrArg (x_g0 111 61 (-2147483648) 2147483647) ((xe_iastore).trans (congrArg (x_iastore) (xe_return_)))))))))))))))))))
theorem bk_X11_wantNumber_81 : ck_ fX11 none cX11_wantNumber 81 [.return_] 82 = true := qck_r (nn_ _) (by decide +kernel)
theorem bs_X11_wantNumber_81 {P : Zt → Option Zv → Prop} (K : Int → Zl → List Zv → Zt → Prop) : sx_ K P [.return_] 82 = x_return_ P := (xe_return_)
theorem bk_X11_wantNumber_36 : ck_ fX11 none cX11_wantNumber 36 [.aload 0, .tableswitch 0 11 62 #[], .ifCond .ne 64, .aload 0, .tableswitch 0 11 61 #[], .iload 1, .iload 2] 49 = true := qck_r (nn_ _) (by decide +kernel)
theorem bs_X11_wantNumber_36 {P : Zt → Option Zv → Prop} (K : Int → Zl → List Zv → Zt → Prop) : sx_ K P [.aload 0, .tableswitch 0 11 62 #[], .ifCond .ne 64, .aload 0, .tableswitch 0 11 61 #[], .iload 1, .iload 2] 49 = x_aload 0 (x_g0 111 62 0 5 (x_ifCond .ne 64 K (x_aload 0 (x_g0 111 61 (-2147483648) 2147483647 (x_iload 1 (x_iload 2 (K 49))))))) := ((xe_aload 0).trans (congrArg (x_aload 0) ((xe_g0 (kk := 111) rfl tl_11_62).trans (congrArg (x_g0 111 62 0 5) ((xe_ifCond .ne 64).trans (congrArg (x_ifCond .ne 64 K) ((xe_aload 0).trans (congrArg (x_aload 0) ((xe_g0 (kk := 111) rfl tl_11_61).trans (congrArg (x_g0 111 61 (-2147483648) 2147483647) ((xe_iload 1).trans (congrArg (x_iload 1) ((xe_iload 2).trans (congrArg (x_iload 2) xe_nil))))))))))))))
theorem bk_X11_wantNumber_52 : ck_ fX11 none cX11_wantNumber 52 [.ifCond .ne 64, .aload 0, .iconst 4, .aload 0, .tableswitch 0 11 59 #[]] 61 = true := qck_r (nn_ _) (by decide +kernel)
theorem bs_X11_wantNumber_52 {P : Zt → Option Zv → Prop} (K : Int → Zl → List Zv → Zt → Prop) : sx_ K P [.ifCond .ne 64, .aload 0, .iconst 4, .aload 0, .tableswitch 0 11 59 #[]] 61 = x_ifCond .ne 64 K (x_aload 0 (x_iconst 4 (x_aload 0 (x_g0 111 59 0 400 (K 61))))) := ((xe_ifCond .ne 64).trans (congrArg (x_ifCond .ne 64 K) ((xe_aload 0).trans (congrArg (x_aload 0) ((xe_iconst 4).trans (congrArg (x_iconst 4) ((xe_aload 0).trans (congrArg (x_aload 0) ((xe_g0 (kk := 111) rfl tl_11_59).trans (congrArg (x_g0 111 59 0 400) xe_nil))))))))))
theorem bk_X11_wantNumber_0 : ck_ fX11 none cX11_wantNumber 0 [.aload 0, .tableswitch 0 11 62 #[], .ifCond .eq 8, .return_] 8 = true := qck_r (nn_ _) (by decide +kernel)
theorem bs_X11_wantNumber_0 {P : Zt → Option Zv → Prop} (K : Int → Zl → List Zv → Zt → Prop) : sx_ K P [.aload 0, .tableswitch 0 11 62 #[], .ifCond .eq 8, .return_] 8 = x_aload 0 (x_g0 111 62 0 5 (x_ifCond .eq 8 K (x_return_ P))) := ((xe_aload 0).trans (congrArg (x_aload 0) ((xe_g0 (kk := 111) rfl tl_11_62).trans (congrArg (x_g0 111 62 0 5) ((xe_ifCond .eq 8).trans (congrArg (x_ifCond .eq 8 K) (xe_return_)))))))
theorem bk_X11_wantNumber_8 : ck_ fX11 none cX11_wantNumber 8 [.aload 0] 9 = true := qck_r (nn_ _) (by decide +kernel)
theorem bs_X11_wantNumber_8 {P : Zt → Option Zv → Prop} (K : Int → Zl → List Zv → Zt → Prop) : sx_ K P [.aload 0] 9 = x_aload 0 (K 9) := ((xe_aload 0).trans (congrArg (x_aload 0) xe_nil))
set_option maxRecDepth 100000 in
theorem cl_X11_291 : cv_ RX11 291 yX11_take zX11_take 11 0 := ⟨gi_V (lw_b8 110 (by decide +kernel) rfl : Cond.methodLink RX11 291 yX11_take ∈ lw_g) (lw_b8 112 (by decide +kernel) rfl : Cond.instanceMethod yX11_take ∈ lw_g) (lw_sel 72 rfl : Cond.selects yX11_take.cls yX11_take yX11_take ∈ lw_g) (lw_b1 10 (by decide +kernel) rfl : Cond.initialized yX11_take.cls ∈ lw_g) (lw_b8 113 rfl rfl : Cond.code yX11_take cX11_take 2 none ∈ lw_g), ⟨by decide, by decide, by decide +kernel⟩, ⟨_, _, rfl⟩⟩
theorem bk_X11_wantNumber_12 : ck_ fX11 none cX11_wantNumber 12 [.aload 0, .tableswitch 0 11 62 #[], .ifCond .ne 36, .aload 0, .tableswitch 0 11 58 #[], .iconst 2, .if_icmp .eq 36, .aload 0, .iconst 2, .aload 0, .tableswitch 0 11 59 #[]] 33 = true := qck_r (nn_ _) (by decide +kernel)
theorem bs_X11_wantNumber_12 {P : Zt → Option Zv → Prop} (K : Int → Zl → List Zv → Zt → Prop) : sx_ K P [.aload 0, .tableswitch 0 11 62 #[], .ifCond .ne 36, .aload 0, .tableswitch 0 11 58 #[], .iconst 2, .if_icmp .eq 36, .aload 0, .iconst 2, .aload 0, .tableswitch 0 11 59 #[]] 33 = x_aload 0 (x_g0 111 62 0 5 (x_ifCond .ne 36 K (x_aload 0 (x_g0 111 58 0 4 (x_iconst 2 (x_if_icmp .eq 36 K (x_aload 0 (x_iconst 2 (x_aload 0 (x_g0 111 59 0 400 (K 33))))))))))) := ((xe_aload 0).trans (congrArg (x_aload 0) ((xe_g0 (kk := 111) rfl tl_11_62).trans (congrArg (x_g0 111 62 0 5) ((xe_ifCond .ne 36).trans (congrArg (x_ifCond .ne 36 K) ((xe_aload 0).trans (congrArg (x_aload 0) ((xe_g0 (kk := 111) rfl tl_11_58).trans (congrArg (x_g0 111 58 0 4) ((xe_iconst 2).trans (congrArg (x_iconst 2) ((xe_if_icmp .eq 36).trans (congrArg (x_if_icmp .eq 36 K) ((xe_aload 0).trans (congrArg (x_aload 0) ((xe_iconst 2).trans (congrArg (x_iconst 2) ((xe_aload 0).trans (congrArg (x_aload 0) ((xe_g0 (kk := 111) rfl tl_11_59).trans (congrArg (x_g0 111 59 0 400) xe_nil))))))))))))))))))))))
abbrev po_X11_wantNumber (T : Zt) (least most rule : Int) : Zt → Option Zv → Prop := fun T' r => r = none ∧ fr_ [(111, [57, 58, 59, 60, 61, 62, 63]), (204, [])] T T' ∧ (T' 111 0 57 ≤ T 111 0 1 ∧ T 111 0 57 ≤ T' 111 0 57 ∧ (T' 111 0 62 = 0 → T 111 0 62 = 0 ∧ least ≤ T' 204 0 rule ∧ T' 204 0 rule ≤ most) ∧ (T' 204 0 rule = T 204 0 rule ∨ least ≤ T' 204 0 rule ∧ T' 204 0 rule ≤ most) ∧ (∀ j, j ≠ rule → T' 204 0 j = T 204 0 j))
set_option maxHeartbeats 4000000 in
theorem ct_X11_wantNumber {T : Zt} {least most rule : Int} (h1 : T 111 0 57 ≤ T 111 0 1) (h2 : 0 ≤ rule ∧ rule < 23) (h3 : -1 ≤ least ∧ most ≤ 999) : Ct_ yX11_wantNumber zX11_wantNumber T [vR 111 0, vI least, vI most, vI rule] (po_X11_wantNumber T least most rule) := by
  refine ct_of pn_11 rfl rfl (Nat.le_of_ble_eq_true rfl) (fun hT hav => ?_)
  have hr_least : -2147483648 ≤ least ∧ least ≤ 2147483647 := hav (vI least) (by simp)
  have hr_most : -2147483648 ≤ most ∧ most ≤ 2147483647 := hav (vI most) (by simp)
  have hr_rule : -2147483648 ≤ rule ∧ rule ≤ 2147483647 := hav (vI rule) (by simp)
  have hz : zX11_wantNumber.2.2.2.1 = some .boolean → ∀ (T' : Zt) (x : Int), po_X11_wantNumber T least most rule T' (some (vI x)) → 0 ≤ x ∧ x ≤ 1 := fun h => by cases h
  show J_ zX11_wantNumber T (po_X11_wantNumber T least most rule) 0 0 0 [some (vR 111 0), some (vI least), some (vI most), some (vI rule)] [] T
  have c_64 : ∀ (T2 : Zt), (fr_ [(111, [57, 58, 59, 60, 61, 62, 63])] T T2) → (T 111 0 62 = 0 ∧ T2 111 0 57 ≤ T 111 0 1 ∧ T 111 0 57 ≤ T2 111 0 57 ∧ (T2 111 0 62 = 0 → least ≤ T2 111 0 61 ∧ T2 111 0 61 ≤ most)) → J_ zX11_wantNumber T (po_X11_wantNumber T least most rule) 0 0 64 [some (vR 111 0), some (vI least), some (vI most), some (vI rule)] [] T2 := by
    intro T2 hf_64 i2
    refine j_blx (F := fX11) tb_X11 (nn_ _) bk_X11_wantNumber_64 bs_X11_wantNumber_64 hz (fun K hK => ?_)
    intro b1 b1b
    refine And.intro (fun c2 => ?_) (fun c2 => ?_)
    · refine hK 81 _ [] T2 ?_
      refine j_blx (F := fX11) tb_X11 (nn_ _) bk_X11_wantNumber_81 bs_X11_wantNumber_81 hz (fun K hK => ?_)
      refine (show po_X11_wantNumber T least most rule T2 (none) from ?_)
      have e3 : T2 204 0 rule = T 204 0 rule := hf_64 204 0 rule rfl
      have e4 : T2 204 0 rule = T 204 0 rule := hf_64 204 0 rule rfl
      exact ⟨rfl, fr_t (fr_0 _ _) (fr_s hf_64 rfl), by omega, by omega, fun _ => by omega, Or.inl (by omega), fun j hj => hf_64 204 0 j rfl⟩
    · intro b5 b5b
      refine iy_i (by omega) (by omega) ?_
      refine x_nm (fun U6 hU6 => ?_)
      have e7 := up_f hU6
      refine (show po_X11_wantNumber T least most rule U6 (none) from ?_)
      have e8 : U6 111 0 57 = T2 111 0 57 := up_k hU6 (by exact Nat.ne_of_beq_eq_false rfl) 0 57
      have e9 : U6 111 0 62 = T2 111 0 62 := up_k hU6 (by exact Nat.ne_of_beq_eq_false rfl) 0 62
      have e10 : U6 204 0 rule = T2 111 0 61 := up_f hU6
      refine ⟨rfl, fr_u (fr_t (fr_0 _ _) (fr_s hf_64 rfl)) hU6 rfl, by omega, by omega, fun _ => by omega, Or.inr (by omega), fun j hj => ?_⟩
      rw [up_g hU6 (fun z => hj z.2.2)]
      exact (hf_64 204 0 j rfl)
  have c_36 : ∀ (T1 : Zt), (fr_ [(111, [57, 58, 59, 60, 61, 62, 63])] T T1) → (T1 111 0 57 ≤ T 111 0 1 ∧ T 111 0 57 ≤ T1 111 0 57 ∧ T 111 0 62 = 0) → J_ zX11_wantNumber T (po_X11_wantNumber T least most rule) 0 0 36 [some (vR 111 0), some (vI least), some (vI most), some (vI rule)] [] T1 := by
    intro T1 hf_36 i1
    refine j_blx (F := fX11) tb_X11 (nn_ _) bk_X11_wantNumber_36 bs_X11_wantNumber_36 hz (fun K hK => ?_)
    intro b11 b11b
    refine And.intro (fun c12 => ?_) (fun c12 => ?_)
    · refine hK 64 _ [] T1 ?_
      refine c_64 T1 ?_ ?_
      · exact fr_t (fr_0 _ _) (fr_s hf_36 rfl)
      · omega
    · intro b13 b13b
      refine hK 49 _ [vI most, vI least, vI (T1 111 0 61)] T1 ?_
      refine j_callS (y := yX11_in) (Yc := zX11_in) (rest := []) [vI (T1 111 0 61), vI least, vI most] (ct_X11_in (T := T1)) cl_X11_255 (qd_c (by decide +kernel)) (nn_ _) rfl (rf_of rfl) (Nat.le_of_ble_eq_true rfl) (Nat.le_of_ble_eq_true rfl) (Nat.le_of_ble_eq_true rfl) rfl ?_
      rintro _ _ ⟨rfl, x14, rfl, hx14⟩
      show J_ zX11_wantNumber T (po_X11_wantNumber T least most rule) 0 0 52 _ [vI x14] T1
      refine j_blx (F := fX11) tb_X11 (nn_ _) bk_X11_wantNumber_52 bs_X11_wantNumber_52 hz (fun K hK => ?_)
      refine And.intro (fun c15 => ?_) (fun c15 => ?_)
      · refine hK 64 _ [] T1 ?_
        refine c_64 T1 ?_ ?_
        · exact fr_t (fr_0 _ _) (fr_s hf_36 rfl)
        · omega
      · intro b16 b16b
        refine hK 61 _ [vI (T1 111 0 59), vI 4, vR 111 0] T1 ?_
        refine j_callV (y := yX11_bad) (Yc := zX11_bad) (rest := []) [vI 4, vI (T1 111 0 59)] (ct_X11_bad (T := T1) (by omega) (by omega)) cl_X11_281 (qd_c (by decide +kernel)) (nn_ _) rfl (rf_of rfl) (Nat.le_of_ble_eq_true rfl) (Nat.le_of_ble_eq_true rfl) (Nat.le_of_ble_eq_true rfl) rfl ?_
        rintro U17 _ ⟨rfl, fU17, qU17⟩
        show J_ zX11_wantNumber T (po_X11_wantNumber T least most rule) 0 0 64 _ [] U17
        have e18 : U17 111 0 57 = T1 111 0 57 := fU17 111 0 57 rfl
        have e19 : U17 111 0 61 = T1 111 0 61 := fU17 111 0 61 rfl
        refine c_64 U17 ?_ ?_
        · exact fr_t (fr_t (fr_0 _ _) (fr_s hf_36 rfl)) (fr_s fU17 rfl)
        · omega
  refine j_blx (F := fX11) tb_X11 (nn_ _) bk_X11_wantNumber_0 bs_X11_wantNumber_0 hz (fun K hK => ?_)
  intro b20 b20b
  refine And.intro (fun c21 => ?_) (fun c21 => ?_)
  · refine hK 8 _ [] T ?_
    refine j_blx (F := fX11) tb_X11 (nn_ _) bk_X11_wantNumber_8 bs_X11_wantNumber_8 hz (fun K hK => ?_)
    refine hK 9 _ [vR 111 0] T ?_
    refine j_callV (y := yX11_take) (Yc := zX11_take) (rest := []) [] (ct_X11_take (T := T) (by omega)) cl_X11_291 (qd_c (by decide +kernel)) (nn_ _) rfl (rf_of rfl) (Nat.le_of_ble_eq_true rfl) (Nat.le_of_ble_eq_true rfl) (Nat.le_of_ble_eq_true rfl) rfl ?_
    rintro U22 _ ⟨rfl, fU22, qU22⟩
    show J_ zX11_wantNumber T (po_X11_wantNumber T least most rule) 0 0 12 _ [] U22
    refine j_blx (F := fX11) tb_X11 (nn_ _) bk_X11_wantNumber_12 bs_X11_wantNumber_12 hz (fun K hK => ?_)
    intro b23 b23b
    refine And.intro (fun c24 => ?_) (fun c24 => ?_)
    · refine hK 36 _ [] U22 ?_
      refine c_36 U22 ?_ ?_
      · exact fr_t (fr_0 _ _) (fr_s fU22 rfl)
      · omega
    · intro b25 b25b
      refine And.intro (fun c26 => ?_) (fun c26 => ?_)
      · refine hK 36 _ [] U22 ?_
        refine c_36 U22 ?_ ?_
        · exact fr_t (fr_0 _ _) (fr_s fU22 rfl)
        · omega
      · intro b27 b27b
        refine hK 33 _ [vI (U22 111 0 59), vI 2, vR 111 0] U22 ?_
        refine j_callV (y := yX11_bad) (Yc := zX11_bad) (rest := []) [vI 2, vI (U22 111 0 59)] (ct_X11_bad (T := U22) (by omega) (by omega)) cl_X11_281 (qd_c (by decide +kernel)) (nn_ _) rfl (rf_of rfl) (Nat.le_of_ble_eq_true rfl) (Nat.le_of_ble_eq_true rfl) (Nat.le_of_ble_eq_true rfl) rfl ?_
        rintro U28 _ ⟨rfl, fU28, qU28⟩
        show J_ zX11_wantNumber T (po_X11_wantNumber T least most rule) 0 0 36 _ [] U28
        have e29 : U28 111 0 57 = U22 111 0 57 := fU28 111 0 57 rfl
        refine c_36 U28 ?_ ?_
        · exact fr_t (fr_t (fr_0 _ _) (fr_s fU22 rfl)) (fr_s fU28 rfl)
        · omega
  · refine (show po_X11_wantNumber T least most rule T (none) from ?_)
    exact ⟨rfl, fr_0 _ _, by omega, by omega, fun _ => by omega, Or.inl (by omega), fun j hj => rfl⟩

