theorem bk_X11_sendOff_e_27 : ck_ fX11 none cX11_sendOff 27 [.iload 6, .aload 0, .tableswitch 0 11 44 #[], .iload 4, .iaload, .if_icmp .ge 91, .aload 0, .tableswitch 0 11 45 #[], .iconst 6, .iload 4, .imul, .iload 6, .iadd, .iaload, .iload 3, .if_icmp .eq 85, .aload 0, .tableswitch 0 11 45 #[], .iconst 6, .iload 4, .imul, .iload 5, .iadd, .aload 0, .tableswitch 0 11 45 #[], .iconst 6, .iload 4, .imul, .iload 6, .iadd, .iaload, .iastore, .iinc 5 1, .iinc 6 1, .goto 27] 91 = true := by decide +kernel
theorem bk_X11_sendOff_e_91 : ck_ fX11 none cX11_sendOff 91 [.aload 0, .tableswitch 0 11 44 #[], .iload 4, .iload 5, .iastore, .iconst 2, .iload 5, .imul, .aload 0, .aload 0, .tableswitch 0 11 30 #[], .iload 1, .iaload, .iconst 9] 113 = true := by decide +kernel
theorem bk_X11_sendOff_e_116 : ck_ fX11 none cX11_sendOff 116 [.if_icmp .ge 178, .aload 0, .tableswitch 0 11 35 #[], .iload 1, .iconst 2, .iastore, .aload 0, .tableswitch 0 11 36 #[], .iload 1, .iload 2, .ifCond .ne 139, .iconst 0, .goto 151] 139 = true := by decide +kernel
theorem bk_X11_sendOff_e_178 : ck_ fX11 none cX11_sendOff 178 [.return_] 179 = true := by decide +kernel
theorem bk_X11_sendOff_e_139 : ck_ fX11 none cX11_sendOff 139 [.aload 0, .aload 0, .tableswitch 0 11 30 #[], .iload 1, .iaload, .iconst 12] 148 = true := by decide +kernel
theorem bk_X11_sendOff_e_151 : ck_ fX11 none cX11_sendOff 151 [.iastore, .aload 0, .tableswitch 0 11 37 #[], .iload 1, .iload 2, .ifCond .ne 176, .aload 0, .aload 0, .tableswitch 0 11 30 #[], .iload 1, .iaload, .iconst 12] 170 = true := by decide +kernel
theorem bk_X11_sendOff_e_176 : ck_ fX11 none cX11_sendOff 176 [.iconst 0, .iastore, .return_] 179 = true := by decide +kernel
theorem bk_X11_sendOff_e_173 : ck_ fX11 none cX11_sendOff 173 [.goto 177] 176 = true := by decide +kernel
theorem bk_X11_sendOff_e_177 : ck_ fX11 none cX11_sendOff 177 [.iastore, .return_] 179 = true := by decide +kernel
theorem bk_X11_sendOff_e_85 : ck_ fX11 none cX11_sendOff 85 [.iinc 6 1, .goto 27] 91 = true := by decide +kernel
theorem bk_X11_sendOff_e_0 : ck_ fX11 none cX11_sendOff 0 [.iconst 2, .iload 1, .imul, .iload 2, .iadd, .istore 4, .aload 0, .tableswitch 0 11 43 #[], .iload 3, .iconst 1, .bastore, .aload 0, .tableswitch 0 11 41 #[], .iload 3, .iconst 2, .iastore, .iconst 0, .istore 5, .iconst 0, .istore 6] 27 = true := by decide +kernel
abbrev po_X11_sendOff_e (T : Zt) (ru : Int → Int) (bu : Int) (m s sl : Int) : Zt → Option Zv → Prop := fun T' r => r = none ∧ fr_ [(243, []), (241, []), (245, []), (244, []), (235, []), (236, []), (237, [])] T T' ∧ (FM_ T' ∧ SO_ T T' m ∧ SB1_ T' m (bu) ∧ ro9_ T T' m ∧ rp9_ T' m = soR_ ru (rp9_ T m) m s sl)
set_option maxHeartbeats 4000000 in
theorem ct_X11_sendOff_e {T : Zt} {ru : Int → Int} {bu : Int} {m s sl : Int} (h1 : 0 ≤ m ∧ m < T 111 0 29) (hs : 0 ≤ s ∧ s ≤ 1) (h3 : 0 ≤ sl ∧ sl < 8000 ∧ 20 * m ≤ sl ∧ sl < 20 * m + 20) (hmc : MC_ T) (hri : RI_ T) (hfm : FM_ T) (hrl : RLR_ T m ru) (hbu : 9 ≤ bu) (hsb : SB1_ T m bu) : Ct_ yX11_sendOff zX11_sendOff T [vR 111 0, vI m, vI s, vI sl] (po_X11_sendOff_e T ru bu m s sl) := by
  refine ct_of (by decide) rfl rfl (Nat.le_of_ble_eq_true rfl) (fun hT hav => ?_)
  have hr_m : -2147483648 ≤ m ∧ m ≤ 2147483647 := hav (vI m) (by simp)
  have hr_s : -2147483648 ≤ s ∧ s ≤ 2147483647 := hav (vI s) (by simp)
  have hr_sl : -2147483648 ≤ sl ∧ sl ≤ 2147483647 := hav (vI sl) (by simp)
  have hz : zX11_sendOff.2.2.2.1 = some .boolean → ∀ (T' : Zt) (x : Int), po_X11_sendOff_e T ru bu m s sl T' (some (vI x)) → 0 ≤ x ∧ x ≤ 1 := fun h => by cases h
  have hb_29 : 0 ≤ T 111 0 29 ∧ T 111 0 29 ≤ 400 := bd_f hT 111 29 (by decide +kernel : (tf_ 111)[29]? = some (0, 0, 0, 400)) 0
  have hb_6 : 0 ≤ T 111 0 6 ∧ T 111 0 6 ≤ 4 := bd_f hT 111 6 (by decide +kernel : (tf_ 111)[6]? = some (0, 0, 0, 4)) 0
  have hcm := hmc m (by omega) (by omega)
  have hcb : 0 ≤ T 230 0 m ∧ T 230 0 m ≤ 3 := bd_a hT 230 (by decide +kernel : ta_ 230 = some (1, some 400, 0, 3)) 0 (by omega)
  have hr9 : (1 : Int) ≤ T 205 0 (23 * T 230 0 m + 9) ∧ T 205 0 (23 * T 230 0 m + 9) ≤ (6 : Int) := hri (T 230 0 m) 9 (by omega) (by omega) (by omega) (by omega)
  have hr12 : (1 : Int) ≤ T 205 0 (23 * T 230 0 m + 12) ∧ T 205 0 (23 * T 230 0 m + 12) ≤ (9 : Int) := hri (T 230 0 m) 12 (by omega) (by omega) (by omega) (by omega)
  have hfb : 0 ≤ T 244 0 (2 * m + s) ∧ T 244 0 (2 * m + s) ≤ 6 := bd_a hT 244 (by decide +kernel : ta_ 244 = some (1, some 800, 0, 6)) 0 (by omega)
  have hru12 := hrl 12 (by omega) (by omega)
  have hru9 := hrl 9 (by omega) (by omega)
  show J_ zX11_sendOff T (po_X11_sendOff_e T ru bu m s sl) 0 0 0 [some (vR 111 0), some (vI m), some (vI s), some (vI sl), none, none, none] [] T
  have c_27 : ∀ (nn : Nat) (kp : Int) (i : Int) (T1 : Zt), ((6 - i).toNat) ≤ nn → (fr_ [(243, []), (241, []), (245, [])] T T1) → (0 ≤ kp ∧ kp ≤ i ∧ i ≤ T 244 0 (2 * m + s)) → (ro9_ T T1 m) → (rp9_ T1 m = (cpR_ (u2_ (u2_ (rp9_ T m) 474 (sl - 20 * m) 1) 472 (sl - 20 * m) 2) s sl i.toNat).1) → (kp = (cpR_ (u2_ (u2_ (rp9_ T m) 474 (sl - 20 * m) 1) 472 (sl - 20 * m) 2) s sl i.toNat).2) → J_ zX11_sendOff T (po_X11_sendOff_e T ru bu m s sl) 0 0 27 [some (vR 111 0), some (vI m), some (vI s), some (vI sl), some (vI (2 * m + s)), some (vI kp), some (vI i)] [] T1 := by
    intro nn
    induction nn using Nat.strongRecOn with
    | _ nn ih_27 =>
      intro kp i T1 hm_27 hf_27 i1 ro1 rc rk
      refine j_blk (F := fX11) tb_X11 (by decide) bk_X11_sendOff_e_27 hz (fun K hK => ?_)
      refine ix_i (by omega) ?_
      intro b1 b1b
      have e2 : T1 244 0 (2 * m + s) = T 244 0 (2 * m + s) := hf_27 244 0 (2 * m + s) rfl
      rw [e2] at b1 b1b ⊢
      refine And.intro (fun c3 => ?_) (fun c3 => ?_)
      · refine hK 91 [some (vR 111 0), some (vI m), some (vI s), some (vI sl), some (vI (2 * m + s)), some (vI kp), some (vI i)] [] T1 ?_
        refine j_blk (F := fX11) tb_X11 (by decide) bk_X11_sendOff_e_91 hz (fun K hK => ?_)
        refine iy_i (by omega) (by omega) ?_
        refine sx_nm (fun U4 hU4 => ?_)
        have e5 := up_f hU4
        refine rg_i (by omega) ?_
        refine ix_i (by omega) ?_
        intro b6 b6b
        have e7 : U4 230 0 m = T 230 0 m := (up_k hU4 (by decide) 0 m).trans (hf_27 230 0 m rfl)
        rw [e7] at b6 b6b ⊢
        refine hK 113 [some (vR 111 0), some (vI m), some (vI s), some (vI sl), some (vI (2 * m + s)), some (vI kp), some (vI i)] [vI 9, vI (T 230 0 m), vR 111 0, vI (2 * kp)] U4 ?_
        refine j_callV (y := yX11_rule0) (Yc := zX11_rule0) (rest := [vI (2 * kp)]) [vI (T 230 0 m), vI 9] (ct_X11_rule0 (T := U4) (by omega) (by omega)) cl_X11_321 (by decide +kernel) (by decide) rfl (by decide +kernel) (Nat.le_of_ble_eq_true rfl) (by decide) (by decide) rfl ?_
        rintro _ _ ⟨rfl, rfl⟩
        have e8 : U4 205 0 (23 * (T 230 0 m) + 9) = T 205 0 (23 * (T 230 0 m) + 9) := (up_k hU4 (by decide) 0 (23 * (T 230 0 m) + 9)).trans (hf_27 205 0 (23 * (T 230 0 m) + 9) rfl)
        rw [e8]
        show J_ zX11_sendOff T (po_X11_sendOff_e T ru bu m s sl) 0 0 116 [some (vR 111 0), some (vI m), some (vI s), some (vI sl), some (vI (2 * m + s)), some (vI kp), some (vI i)] [vI (T 205 0 (23 * (T 230 0 m) + 9)), vI (2 * kp)] U4
        refine j_blk (F := fX11) tb_X11 (by decide) bk_X11_sendOff_e_116 hz (fun K hK => ?_)
        refine And.intro (fun c9 => ?_) (fun c9 => ?_)
        · refine hK 178 [some (vR 111 0), some (vI m), some (vI s), some (vI sl), some (vI (2 * m + s)), some (vI kp), some (vI i)] [] U4 ?_
          refine j_blk (F := fX11) tb_X11 (by decide) bk_X11_sendOff_e_178 hz (fun K hK => ?_)
          refine (show po_X11_sendOff_e T ru bu m s sl U4 (none) from ?_)
          have z470 : rp9_ T m 470 s = i := (rp_v (K := 244) (x := 2 * m + s) (dm_470 (by omega)) rfl rfl).trans (by omega)
          have rU4 : rp9_ U4 m = u2_ ((cpR_ (u2_ (u2_ (rp9_ T m) 474 (sl - 20 * m) 1) 472 (sl - 20 * m) 2) s sl i.toNat).1) 470 s kp := by rw [rp_u (m := m) (k := 470) (j := s) hU4 (dm_470 (by omega)) rfl (by show 2 * m + s = _; omega), rc]
          refine ⟨rfl, fr_u (fr_t (fr_0 _ _) (fr_s hf_27 rfl)) hU4 rfl, fm_f (FM__f (ws := [(243, []), (241, []), (245, [])]) (hfm) hf_27 ⟨fun _ => rfl, fun _ => rfl, trivial⟩) hU4 (by omega), so_f (ws := [(244, [])]) (so_f (ws := [(243, []), (241, []), (245, [])]) (so_r) hf_27 ⟨fun _ => rfl, fun _ => rfl, fun _ => rfl⟩) (fr_u (fr_0 _ _) hU4 rfl) ⟨fun _ => rfl, fun _ => rfl, fun _ => rfl⟩, sb1_f (ws := [(244, [])]) (sb1_f (ws := [(243, []), (241, []), (245, [])]) (hsb) hf_27 ⟨fun _ => rfl, fun _ => rfl, fun _ => rfl⟩) (fr_u (fr_0 _ _) hU4 rfl) ⟨fun _ => rfl, fun _ => rfl, fun _ => rfl⟩, ro_u (m := m) (k := 470) (j := s) (ro1) hU4 (dm_470 (by omega)) rfl (by show 2 * m + s = _; omega), ?_⟩
          exact Eq.trans rU4 (Eq.symm (by have g9 := soR__3 (r := ru) (a := rp9_ T m) (m := m) (s := s) (x := sl) (show ¬ (2 * (cpR_ (u2_ (u2_ (rp9_ T m) 474 (sl - 20 * m) 1) 472 (sl - 20 * m) 2) s sl ((rp9_ T m) 470 s).toNat).2 < ru 9) by (try simp only [← hru12, ← hru9, z470, ← rk]); omega); (try simp only [← hru12, ← hru9, z470, ← rk] at g9); exact g9))
        · refine iy_i (by omega) (by omega) ?_
          refine sx_nm (fun U10 hU10 => ?_)
          have e11 := up_f hU10
          refine And.intro (fun c12 => ?_) (fun c12 => ?_)
          · refine hK 139 [some (vR 111 0), some (vI m), some (vI s), some (vI sl), some (vI (2 * m + s)), some (vI kp), some (vI i)] [vI m, vR 236 0] U10 ?_
            refine j_blk (F := fX11) tb_X11 (by decide) bk_X11_sendOff_e_139 hz (fun K hK => ?_)
            refine ix_i (by omega) ?_
            intro b13 b13b
            have e14 : U10 230 0 m = T 230 0 m := (up_k hU10 (by decide) 0 m).trans ((up_k hU4 (by decide) 0 m).trans (hf_27 230 0 m rfl))
            rw [e14] at b13 b13b ⊢
            refine hK 148 [some (vR 111 0), some (vI m), some (vI s), some (vI sl), some (vI (2 * m + s)), some (vI kp), some (vI i)] [vI 12, vI (T 230 0 m), vR 111 0, vI m, vR 236 0] U10 ?_
            refine j_callV (y := yX11_rule0) (Yc := zX11_rule0) (rest := [vI m, vR 236 0]) [vI (T 230 0 m), vI 12] (ct_X11_rule0 (T := U10) (by omega) (by omega)) cl_X11_321 (by decide +kernel) (by decide) rfl (by decide +kernel) (Nat.le_of_ble_eq_true rfl) (by decide) (by decide) rfl ?_
            rintro _ _ ⟨rfl, rfl⟩
            have e15 : U10 205 0 (23 * (T 230 0 m) + 12) = T 205 0 (23 * (T 230 0 m) + 12) := (up_k hU10 (by decide) 0 (23 * (T 230 0 m) + 12)).trans ((up_k hU4 (by decide) 0 (23 * (T 230 0 m) + 12)).trans (hf_27 205 0 (23 * (T 230 0 m) + 12) rfl))
            rw [e15]
            show J_ zX11_sendOff T (po_X11_sendOff_e T ru bu m s sl) 0 0 151 [some (vR 111 0), some (vI m), some (vI s), some (vI sl), some (vI (2 * m + s)), some (vI kp), some (vI i)] [vI (T 205 0 (23 * (T 230 0 m) + 12)), vI m, vR 236 0] U10
            refine j_blk (F := fX11) tb_X11 (by decide) bk_X11_sendOff_e_151 hz (fun K hK => ?_)
            refine iy_i (by omega) (by omega) ?_
            refine sx_nm (fun U16 hU16 => ?_)
            have e17 := up_f hU16
            refine And.intro (fun c18 => ?_) (fun c18 => ?_)
            · refine hK 176 [some (vR 111 0), some (vI m), some (vI s), some (vI sl), some (vI (2 * m + s)), some (vI kp), some (vI i)] [vI m, vR 237 0] U16 ?_
              refine j_blk (F := fX11) tb_X11 (by decide) bk_X11_sendOff_e_176 hz (fun K hK => ?_)
              refine iy_i (by omega) (by omega) ?_
              refine sx_nm (fun U19 hU19 => ?_)
              have e20 := up_f hU19
              refine (show po_X11_sendOff_e T ru bu m s sl U19 (none) from ?_)
              have z470 : rp9_ T m 470 s = i := (rp_v (K := 244) (x := 2 * m + s) (dm_470 (by omega)) rfl rfl).trans (by omega)
              have rU4 : rp9_ U4 m = u2_ ((cpR_ (u2_ (u2_ (rp9_ T m) 474 (sl - 20 * m) 1) 472 (sl - 20 * m) 2) s sl i.toNat).1) 470 s kp := by rw [rp_u (m := m) (k := 470) (j := s) hU4 (dm_470 (by omega)) rfl (by show 2 * m + s = _; omega), rc]
              have rU10 : rp9_ U10 m = u2_ (u2_ ((cpR_ (u2_ (u2_ (rp9_ T m) 474 (sl - 20 * m) 1) 472 (sl - 20 * m) 2) s sl i.toNat).1) 470 s kp) 103 3 2 := by rw [rp_u (m := m) (k := 103) (j := 3) hU10 rfl rfl (by show m = _; omega), rU4]
              have rU16 : rp9_ U16 m = u2_ (u2_ (u2_ ((cpR_ (u2_ (u2_ (rp9_ T m) 474 (sl - 20 * m) 1) 472 (sl - 20 * m) 2) s sl i.toNat).1) 470 s kp) 103 3 2) 468 0 (T 205 0 (23 * (T 230 0 m) + 12)) := by rw [rp_u (m := m) (k := 468) (j := 0) hU16 rfl rfl (by show m = _; omega), rU10]
              have rU19 : rp9_ U19 m = u2_ (u2_ (u2_ (u2_ ((cpR_ (u2_ (u2_ (rp9_ T m) 474 (sl - 20 * m) 1) 472 (sl - 20 * m) 2) s sl i.toNat).1) 470 s kp) 103 3 2) 468 0 (T 205 0 (23 * (T 230 0 m) + 12))) 468 1 0 := by rw [rp_u (m := m) (k := 468) (j := 1) hU19 rfl rfl (by show m = _; omega), rU16]
              have e8 : U19 235 0 m = 2 := ((up_k hU19 (by decide) 0 m).trans (up_k hU16 (by decide) 0 m)).trans (up_f hU10)
              refine ⟨rfl, fr_u (fr_u (fr_u (fr_u (fr_t (fr_0 _ _) (fr_s hf_27 rfl)) hU4 rfl) hU10 rfl) hU16 rfl) hU19 rfl, fm_3 hfm hs (fun j hj => (up_k hU19 (by decide) 0 j).trans ((up_k hU16 (by decide) 0 j).trans ((up_g hU10 (fun z => hj z.2.2)).trans ((up_k hU4 (by decide) 0 j).trans (hf_27 235 0 j rfl))))) (fun j hj => (up_k hU19 (by decide) 0 j).trans ((up_k hU16 (by decide) 0 j).trans ((up_k hU10 (by decide) 0 j).trans ((up_g hU4 (fun z => hj z.2.2)).trans (hf_27 244 0 j rfl))))) (by omega), so_1 (so_0 (so_f (ws := [(235, [])]) (so_f (ws := [(244, [])]) (so_f (ws := [(243, []), (241, []), (245, [])]) (so_r) hf_27 ⟨fun _ => rfl, fun _ => rfl, fun _ => rfl⟩) (fr_u (fr_0 _ _) hU4 rfl) ⟨fun _ => rfl, fun _ => rfl, fun _ => rfl⟩) (fr_u (fr_0 _ _) hU10 rfl) ⟨fun _ => rfl, fun _ => rfl, fun _ => rfl⟩) hU16) hU19, sb1_1 (sb1_0 (sb1_f (ws := [(235, [])]) (sb1_f (ws := [(244, [])]) (sb1_f (ws := [(243, []), (241, []), (245, [])]) (hsb) hf_27 ⟨fun _ => rfl, fun _ => rfl, fun _ => rfl⟩) (fr_u (fr_0 _ _) hU4 rfl) ⟨fun _ => rfl, fun _ => rfl, fun _ => rfl⟩) (fr_u (fr_0 _ _) hU10 rfl) ⟨fun _ => rfl, fun _ => rfl, fun _ => rfl⟩) hU16 (by omega)) hU19 (by omega), ro_u (m := m) (k := 468) (j := 1) (ro_u (m := m) (k := 468) (j := 0) (ro_u (m := m) (k := 103) (j := 3) (ro_u (m := m) (k := 470) (j := s) (ro1) hU4 (dm_470 (by omega)) rfl (by show 2 * m + s = _; omega)) hU10 rfl rfl (by show m = _; omega)) hU16 rfl rfl (by show m = _; omega)) hU19 rfl rfl (by show m = _; omega), ?_⟩
              first
              | exact Eq.trans rU19 (Eq.symm (by have g9 := soR__1 (r := ru) (a := rp9_ T m) (m := m) (s := s) (x := sl) (show 2 * (cpR_ (u2_ (u2_ (rp9_ T m) 474 (sl - 20 * m) 1) 472 (sl - 20 * m) 2) s sl ((rp9_ T m) 470 s).toNat).2 < ru 9 by (try simp only [← hru12, ← hru9, z470, ← rk]); omega) (show s = 0 by (try simp only [← hru12, ← hru9, z470, ← rk]); omega); (try simp only [← hru12, ← hru9, z470, ← rk] at g9); exact g9))
              | exact Eq.trans rU19 (Eq.symm (by have g9 := soR__2 (r := ru) (a := rp9_ T m) (m := m) (s := s) (x := sl) (show 2 * (cpR_ (u2_ (u2_ (rp9_ T m) 474 (sl - 20 * m) 1) 472 (sl - 20 * m) 2) s sl ((rp9_ T m) 470 s).toNat).2 < ru 9 by (try simp only [← hru12, ← hru9, z470, ← rk]); omega) (show ¬ (s = 0) by (try simp only [← hru12, ← hru9, z470, ← rk]); omega); (try simp only [← hru12, ← hru9, z470, ← rk] at g9); exact g9))
              | (exfalso; omega)
            · refine ix_i (by omega) ?_
              intro b21 b21b
              have e22 : U16 230 0 m = T 230 0 m := (up_k hU16 (by decide) 0 m).trans ((up_k hU10 (by decide) 0 m).trans ((up_k hU4 (by decide) 0 m).trans (hf_27 230 0 m rfl)))
              rw [e22] at b21 b21b ⊢
              refine hK 170 [some (vR 111 0), some (vI m), some (vI s), some (vI sl), some (vI (2 * m + s)), some (vI kp), some (vI i)] [vI 12, vI (T 230 0 m), vR 111 0, vI m, vR 237 0] U16 ?_
              refine j_callV (y := yX11_rule0) (Yc := zX11_rule0) (rest := [vI m, vR 237 0]) [vI (T 230 0 m), vI 12] (ct_X11_rule0 (T := U16) (by omega) (by omega)) cl_X11_321 (by decide +kernel) (by decide) rfl (by decide +kernel) (Nat.le_of_ble_eq_true rfl) (by decide) (by decide) rfl ?_
              rintro _ _ ⟨rfl, rfl⟩
              have e23 : U16 205 0 (23 * (T 230 0 m) + 12) = T 205 0 (23 * (T 230 0 m) + 12) := (up_k hU16 (by decide) 0 (23 * (T 230 0 m) + 12)).trans ((up_k hU10 (by decide) 0 (23 * (T 230 0 m) + 12)).trans ((up_k hU4 (by decide) 0 (23 * (T 230 0 m) + 12)).trans (hf_27 205 0 (23 * (T 230 0 m) + 12) rfl)))
              rw [e23]
              show J_ zX11_sendOff T (po_X11_sendOff_e T ru bu m s sl) 0 0 173 [some (vR 111 0), some (vI m), some (vI s), some (vI sl), some (vI (2 * m + s)), some (vI kp), some (vI i)] [vI (T 205 0 (23 * (T 230 0 m) + 12)), vI m, vR 237 0] U16
              refine j_blk (F := fX11) tb_X11 (by decide) bk_X11_sendOff_e_173 hz (fun K hK => ?_)
              refine hK 177 [some (vR 111 0), some (vI m), some (vI s), some (vI sl), some (vI (2 * m + s)), some (vI kp), some (vI i)] [vI (T 205 0 (23 * (T 230 0 m) + 12)), vI m, vR 237 0] U16 ?_
              refine j_blk (F := fX11) tb_X11 (by decide) bk_X11_sendOff_e_177 hz (fun K hK => ?_)
              refine iy_i (by omega) (by omega) ?_
              refine sx_nm (fun U24 hU24 => ?_)
              have e25 := up_f hU24
              refine (show po_X11_sendOff_e T ru bu m s sl U24 (none) from ?_)
              have z470 : rp9_ T m 470 s = i := (rp_v (K := 244) (x := 2 * m + s) (dm_470 (by omega)) rfl rfl).trans (by omega)
              have rU4 : rp9_ U4 m = u2_ ((cpR_ (u2_ (u2_ (rp9_ T m) 474 (sl - 20 * m) 1) 472 (sl - 20 * m) 2) s sl i.toNat).1) 470 s kp := by rw [rp_u (m := m) (k := 470) (j := s) hU4 (dm_470 (by omega)) rfl (by show 2 * m + s = _; omega), rc]
              have rU10 : rp9_ U10 m = u2_ (u2_ ((cpR_ (u2_ (u2_ (rp9_ T m) 474 (sl - 20 * m) 1) 472 (sl - 20 * m) 2) s sl i.toNat).1) 470 s kp) 103 3 2 := by rw [rp_u (m := m) (k := 103) (j := 3) hU10 rfl rfl (by show m = _; omega), rU4]
              have rU16 : rp9_ U16 m = u2_ (u2_ (u2_ ((cpR_ (u2_ (u2_ (rp9_ T m) 474 (sl - 20 * m) 1) 472 (sl - 20 * m) 2) s sl i.toNat).1) 470 s kp) 103 3 2) 468 0 (T 205 0 (23 * (T 230 0 m) + 12)) := by rw [rp_u (m := m) (k := 468) (j := 0) hU16 rfl rfl (by show m = _; omega), rU10]
              have rU24 : rp9_ U24 m = u2_ (u2_ (u2_ (u2_ ((cpR_ (u2_ (u2_ (rp9_ T m) 474 (sl - 20 * m) 1) 472 (sl - 20 * m) 2) s sl i.toNat).1) 470 s kp) 103 3 2) 468 0 (T 205 0 (23 * (T 230 0 m) + 12))) 468 1 (T 205 0 (23 * (T 230 0 m) + 12)) := by rw [rp_u (m := m) (k := 468) (j := 1) hU24 rfl rfl (by show m = _; omega), rU16]
              have e8 : U24 235 0 m = 2 := ((up_k hU24 (by decide) 0 m).trans (up_k hU16 (by decide) 0 m)).trans (up_f hU10)
              refine ⟨rfl, fr_u (fr_u (fr_u (fr_u (fr_t (fr_0 _ _) (fr_s hf_27 rfl)) hU4 rfl) hU10 rfl) hU16 rfl) hU24 rfl, fm_3 hfm hs (fun j hj => (up_k hU24 (by decide) 0 j).trans ((up_k hU16 (by decide) 0 j).trans ((up_g hU10 (fun z => hj z.2.2)).trans ((up_k hU4 (by decide) 0 j).trans (hf_27 235 0 j rfl))))) (fun j hj => (up_k hU24 (by decide) 0 j).trans ((up_k hU16 (by decide) 0 j).trans ((up_k hU10 (by decide) 0 j).trans ((up_g hU4 (fun z => hj z.2.2)).trans (hf_27 244 0 j rfl))))) (by omega), so_1 (so_0 (so_f (ws := [(235, [])]) (so_f (ws := [(244, [])]) (so_f (ws := [(243, []), (241, []), (245, [])]) (so_r) hf_27 ⟨fun _ => rfl, fun _ => rfl, fun _ => rfl⟩) (fr_u (fr_0 _ _) hU4 rfl) ⟨fun _ => rfl, fun _ => rfl, fun _ => rfl⟩) (fr_u (fr_0 _ _) hU10 rfl) ⟨fun _ => rfl, fun _ => rfl, fun _ => rfl⟩) hU16) hU24, sb1_1 (sb1_0 (sb1_f (ws := [(235, [])]) (sb1_f (ws := [(244, [])]) (sb1_f (ws := [(243, []), (241, []), (245, [])]) (hsb) hf_27 ⟨fun _ => rfl, fun _ => rfl, fun _ => rfl⟩) (fr_u (fr_0 _ _) hU4 rfl) ⟨fun _ => rfl, fun _ => rfl, fun _ => rfl⟩) (fr_u (fr_0 _ _) hU10 rfl) ⟨fun _ => rfl, fun _ => rfl, fun _ => rfl⟩) hU16 (by omega)) hU24 (by omega), ro_u (m := m) (k := 468) (j := 1) (ro_u (m := m) (k := 468) (j := 0) (ro_u (m := m) (k := 103) (j := 3) (ro_u (m := m) (k := 470) (j := s) (ro1) hU4 (dm_470 (by omega)) rfl (by show 2 * m + s = _; omega)) hU10 rfl rfl (by show m = _; omega)) hU16 rfl rfl (by show m = _; omega)) hU24 rfl rfl (by show m = _; omega), ?_⟩
              first
              | exact Eq.trans rU24 (Eq.symm (by have g9 := soR__1 (r := ru) (a := rp9_ T m) (m := m) (s := s) (x := sl) (show 2 * (cpR_ (u2_ (u2_ (rp9_ T m) 474 (sl - 20 * m) 1) 472 (sl - 20 * m) 2) s sl ((rp9_ T m) 470 s).toNat).2 < ru 9 by (try simp only [← hru12, ← hru9, z470, ← rk]); omega) (show s = 0 by (try simp only [← hru12, ← hru9, z470, ← rk]); omega); (try simp only [← hru12, ← hru9, z470, ← rk] at g9); exact g9))
              | exact Eq.trans rU24 (Eq.symm (by have g9 := soR__2 (r := ru) (a := rp9_ T m) (m := m) (s := s) (x := sl) (show 2 * (cpR_ (u2_ (u2_ (rp9_ T m) 474 (sl - 20 * m) 1) 472 (sl - 20 * m) 2) s sl ((rp9_ T m) 470 s).toNat).2 < ru 9 by (try simp only [← hru12, ← hru9, z470, ← rk]); omega) (show ¬ (s = 0) by (try simp only [← hru12, ← hru9, z470, ← rk]); omega); (try simp only [← hru12, ← hru9, z470, ← rk] at g9); exact g9))
              | (exfalso; omega)
          · refine hK 151 [some (vR 111 0), some (vI m), some (vI s), some (vI sl), some (vI (2 * m + s)), some (vI kp), some (vI i)] [vI 0, vI m, vR 236 0] U10 ?_
            refine j_blk (F := fX11) tb_X11 (by decide) bk_X11_sendOff_e_151 hz (fun K hK => ?_)
            refine iy_i (by omega) (by omega) ?_
            refine sx_nm (fun U26 hU26 => ?_)
            have e27 := up_f hU26
            refine And.intro (fun c28 => ?_) (fun c28 => ?_)
            · refine hK 176 [some (vR 111 0), some (vI m), some (vI s), some (vI sl), some (vI (2 * m + s)), some (vI kp), some (vI i)] [vI m, vR 237 0] U26 ?_
              refine j_blk (F := fX11) tb_X11 (by decide) bk_X11_sendOff_e_176 hz (fun K hK => ?_)
              refine iy_i (by omega) (by omega) ?_
              refine sx_nm (fun U29 hU29 => ?_)
              have e30 := up_f hU29
              refine (show po_X11_sendOff_e T ru bu m s sl U29 (none) from ?_)
              have z470 : rp9_ T m 470 s = i := (rp_v (K := 244) (x := 2 * m + s) (dm_470 (by omega)) rfl rfl).trans (by omega)
              have rU4 : rp9_ U4 m = u2_ ((cpR_ (u2_ (u2_ (rp9_ T m) 474 (sl - 20 * m) 1) 472 (sl - 20 * m) 2) s sl i.toNat).1) 470 s kp := by rw [rp_u (m := m) (k := 470) (j := s) hU4 (dm_470 (by omega)) rfl (by show 2 * m + s = _; omega), rc]
              have rU10 : rp9_ U10 m = u2_ (u2_ ((cpR_ (u2_ (u2_ (rp9_ T m) 474 (sl - 20 * m) 1) 472 (sl - 20 * m) 2) s sl i.toNat).1) 470 s kp) 103 3 2 := by rw [rp_u (m := m) (k := 103) (j := 3) hU10 rfl rfl (by show m = _; omega), rU4]
              have rU26 : rp9_ U26 m = u2_ (u2_ (u2_ ((cpR_ (u2_ (u2_ (rp9_ T m) 474 (sl - 20 * m) 1) 472 (sl - 20 * m) 2) s sl i.toNat).1) 470 s kp) 103 3 2) 468 0 0 := by rw [rp_u (m := m) (k := 468) (j := 0) hU26 rfl rfl (by show m = _; omega), rU10]
              have rU29 : rp9_ U29 m = u2_ (u2_ (u2_ (u2_ ((cpR_ (u2_ (u2_ (rp9_ T m) 474 (sl - 20 * m) 1) 472 (sl - 20 * m) 2) s sl i.toNat).1) 470 s kp) 103 3 2) 468 0 0) 468 1 0 := by rw [rp_u (m := m) (k := 468) (j := 1) hU29 rfl rfl (by show m = _; omega), rU26]
              have e8 : U29 235 0 m = 2 := ((up_k hU29 (by decide) 0 m).trans (up_k hU26 (by decide) 0 m)).trans (up_f hU10)
              refine ⟨rfl, fr_u (fr_u (fr_u (fr_u (fr_t (fr_0 _ _) (fr_s hf_27 rfl)) hU4 rfl) hU10 rfl) hU26 rfl) hU29 rfl, fm_3 hfm hs (fun j hj => (up_k hU29 (by decide) 0 j).trans ((up_k hU26 (by decide) 0 j).trans ((up_g hU10 (fun z => hj z.2.2)).trans ((up_k hU4 (by decide) 0 j).trans (hf_27 235 0 j rfl))))) (fun j hj => (up_k hU29 (by decide) 0 j).trans ((up_k hU26 (by decide) 0 j).trans ((up_k hU10 (by decide) 0 j).trans ((up_g hU4 (fun z => hj z.2.2)).trans (hf_27 244 0 j rfl))))) (by omega), so_1 (so_0 (so_f (ws := [(235, [])]) (so_f (ws := [(244, [])]) (so_f (ws := [(243, []), (241, []), (245, [])]) (so_r) hf_27 ⟨fun _ => rfl, fun _ => rfl, fun _ => rfl⟩) (fr_u (fr_0 _ _) hU4 rfl) ⟨fun _ => rfl, fun _ => rfl, fun _ => rfl⟩) (fr_u (fr_0 _ _) hU10 rfl) ⟨fun _ => rfl, fun _ => rfl, fun _ => rfl⟩) hU26) hU29, sb1_1 (sb1_0 (sb1_f (ws := [(235, [])]) (sb1_f (ws := [(244, [])]) (sb1_f (ws := [(243, []), (241, []), (245, [])]) (hsb) hf_27 ⟨fun _ => rfl, fun _ => rfl, fun _ => rfl⟩) (fr_u (fr_0 _ _) hU4 rfl) ⟨fun _ => rfl, fun _ => rfl, fun _ => rfl⟩) (fr_u (fr_0 _ _) hU10 rfl) ⟨fun _ => rfl, fun _ => rfl, fun _ => rfl⟩) hU26 (by omega)) hU29 (by omega), ro_u (m := m) (k := 468) (j := 1) (ro_u (m := m) (k := 468) (j := 0) (ro_u (m := m) (k := 103) (j := 3) (ro_u (m := m) (k := 470) (j := s) (ro1) hU4 (dm_470 (by omega)) rfl (by show 2 * m + s = _; omega)) hU10 rfl rfl (by show m = _; omega)) hU26 rfl rfl (by show m = _; omega)) hU29 rfl rfl (by show m = _; omega), ?_⟩
              first
              | exact Eq.trans rU29 (Eq.symm (by have g9 := soR__1 (r := ru) (a := rp9_ T m) (m := m) (s := s) (x := sl) (show 2 * (cpR_ (u2_ (u2_ (rp9_ T m) 474 (sl - 20 * m) 1) 472 (sl - 20 * m) 2) s sl ((rp9_ T m) 470 s).toNat).2 < ru 9 by (try simp only [← hru12, ← hru9, z470, ← rk]); omega) (show s = 0 by (try simp only [← hru12, ← hru9, z470, ← rk]); omega); (try simp only [← hru12, ← hru9, z470, ← rk] at g9); exact g9))
              | exact Eq.trans rU29 (Eq.symm (by have g9 := soR__2 (r := ru) (a := rp9_ T m) (m := m) (s := s) (x := sl) (show 2 * (cpR_ (u2_ (u2_ (rp9_ T m) 474 (sl - 20 * m) 1) 472 (sl - 20 * m) 2) s sl ((rp9_ T m) 470 s).toNat).2 < ru 9 by (try simp only [← hru12, ← hru9, z470, ← rk]); omega) (show ¬ (s = 0) by (try simp only [← hru12, ← hru9, z470, ← rk]); omega); (try simp only [← hru12, ← hru9, z470, ← rk] at g9); exact g9))
              | (exfalso; omega)
            · refine ix_i (by omega) ?_
              intro b31 b31b
              have e32 : U26 230 0 m = T 230 0 m := (up_k hU26 (by decide) 0 m).trans ((up_k hU10 (by decide) 0 m).trans ((up_k hU4 (by decide) 0 m).trans (hf_27 230 0 m rfl)))
              rw [e32] at b31 b31b ⊢
              refine hK 170 [some (vR 111 0), some (vI m), some (vI s), some (vI sl), some (vI (2 * m + s)), some (vI kp), some (vI i)] [vI 12, vI (T 230 0 m), vR 111 0, vI m, vR 237 0] U26 ?_
              refine j_callV (y := yX11_rule0) (Yc := zX11_rule0) (rest := [vI m, vR 237 0]) [vI (T 230 0 m), vI 12] (ct_X11_rule0 (T := U26) (by omega) (by omega)) cl_X11_321 (by decide +kernel) (by decide) rfl (by decide +kernel) (Nat.le_of_ble_eq_true rfl) (by decide) (by decide) rfl ?_
              rintro _ _ ⟨rfl, rfl⟩
              have e33 : U26 205 0 (23 * (T 230 0 m) + 12) = T 205 0 (23 * (T 230 0 m) + 12) := (up_k hU26 (by decide) 0 (23 * (T 230 0 m) + 12)).trans ((up_k hU10 (by decide) 0 (23 * (T 230 0 m) + 12)).trans ((up_k hU4 (by decide) 0 (23 * (T 230 0 m) + 12)).trans (hf_27 205 0 (23 * (T 230 0 m) + 12) rfl)))
              rw [e33]
              show J_ zX11_sendOff T (po_X11_sendOff_e T ru bu m s sl) 0 0 173 [some (vR 111 0), some (vI m), some (vI s), some (vI sl), some (vI (2 * m + s)), some (vI kp), some (vI i)] [vI (T 205 0 (23 * (T 230 0 m) + 12)), vI m, vR 237 0] U26
              refine j_blk (F := fX11) tb_X11 (by decide) bk_X11_sendOff_e_173 hz (fun K hK => ?_)
              refine hK 177 [some (vR 111 0), some (vI m), some (vI s), some (vI sl), some (vI (2 * m + s)), some (vI kp), some (vI i)] [vI (T 205 0 (23 * (T 230 0 m) + 12)), vI m, vR 237 0] U26 ?_
              refine j_blk (F := fX11) tb_X11 (by decide) bk_X11_sendOff_e_177 hz (fun K hK => ?_)
              refine iy_i (by omega) (by omega) ?_
              refine sx_nm (fun U34 hU34 => ?_)
              have e35 := up_f hU34
              refine (show po_X11_sendOff_e T ru bu m s sl U34 (none) from ?_)
              have z470 : rp9_ T m 470 s = i := (rp_v (K := 244) (x := 2 * m + s) (dm_470 (by omega)) rfl rfl).trans (by omega)
              have rU4 : rp9_ U4 m = u2_ ((cpR_ (u2_ (u2_ (rp9_ T m) 474 (sl - 20 * m) 1) 472 (sl - 20 * m) 2) s sl i.toNat).1) 470 s kp := by rw [rp_u (m := m) (k := 470) (j := s) hU4 (dm_470 (by omega)) rfl (by show 2 * m + s = _; omega), rc]
              have rU10 : rp9_ U10 m = u2_ (u2_ ((cpR_ (u2_ (u2_ (rp9_ T m) 474 (sl - 20 * m) 1) 472 (sl - 20 * m) 2) s sl i.toNat).1) 470 s kp) 103 3 2 := by rw [rp_u (m := m) (k := 103) (j := 3) hU10 rfl rfl (by show m = _; omega), rU4]
              have rU26 : rp9_ U26 m = u2_ (u2_ (u2_ ((cpR_ (u2_ (u2_ (rp9_ T m) 474 (sl - 20 * m) 1) 472 (sl - 20 * m) 2) s sl i.toNat).1) 470 s kp) 103 3 2) 468 0 0 := by rw [rp_u (m := m) (k := 468) (j := 0) hU26 rfl rfl (by show m = _; omega), rU10]
              have rU34 : rp9_ U34 m = u2_ (u2_ (u2_ (u2_ ((cpR_ (u2_ (u2_ (rp9_ T m) 474 (sl - 20 * m) 1) 472 (sl - 20 * m) 2) s sl i.toNat).1) 470 s kp) 103 3 2) 468 0 0) 468 1 (T 205 0 (23 * (T 230 0 m) + 12)) := by rw [rp_u (m := m) (k := 468) (j := 1) hU34 rfl rfl (by show m = _; omega), rU26]
              have e8 : U34 235 0 m = 2 := ((up_k hU34 (by decide) 0 m).trans (up_k hU26 (by decide) 0 m)).trans (up_f hU10)
              refine ⟨rfl, fr_u (fr_u (fr_u (fr_u (fr_t (fr_0 _ _) (fr_s hf_27 rfl)) hU4 rfl) hU10 rfl) hU26 rfl) hU34 rfl, fm_3 hfm hs (fun j hj => (up_k hU34 (by decide) 0 j).trans ((up_k hU26 (by decide) 0 j).trans ((up_g hU10 (fun z => hj z.2.2)).trans ((up_k hU4 (by decide) 0 j).trans (hf_27 235 0 j rfl))))) (fun j hj => (up_k hU34 (by decide) 0 j).trans ((up_k hU26 (by decide) 0 j).trans ((up_k hU10 (by decide) 0 j).trans ((up_g hU4 (fun z => hj z.2.2)).trans (hf_27 244 0 j rfl))))) (by omega), so_1 (so_0 (so_f (ws := [(235, [])]) (so_f (ws := [(244, [])]) (so_f (ws := [(243, []), (241, []), (245, [])]) (so_r) hf_27 ⟨fun _ => rfl, fun _ => rfl, fun _ => rfl⟩) (fr_u (fr_0 _ _) hU4 rfl) ⟨fun _ => rfl, fun _ => rfl, fun _ => rfl⟩) (fr_u (fr_0 _ _) hU10 rfl) ⟨fun _ => rfl, fun _ => rfl, fun _ => rfl⟩) hU26) hU34, sb1_1 (sb1_0 (sb1_f (ws := [(235, [])]) (sb1_f (ws := [(244, [])]) (sb1_f (ws := [(243, []), (241, []), (245, [])]) (hsb) hf_27 ⟨fun _ => rfl, fun _ => rfl, fun _ => rfl⟩) (fr_u (fr_0 _ _) hU4 rfl) ⟨fun _ => rfl, fun _ => rfl, fun _ => rfl⟩) (fr_u (fr_0 _ _) hU10 rfl) ⟨fun _ => rfl, fun _ => rfl, fun _ => rfl⟩) hU26 (by omega)) hU34 (by omega), ro_u (m := m) (k := 468) (j := 1) (ro_u (m := m) (k := 468) (j := 0) (ro_u (m := m) (k := 103) (j := 3) (ro_u (m := m) (k := 470) (j := s) (ro1) hU4 (dm_470 (by omega)) rfl (by show 2 * m + s = _; omega)) hU10 rfl rfl (by show m = _; omega)) hU26 rfl rfl (by show m = _; omega)) hU34 rfl rfl (by show m = _; omega), ?_⟩
              first
              | exact Eq.trans rU34 (Eq.symm (by have g9 := soR__1 (r := ru) (a := rp9_ T m) (m := m) (s := s) (x := sl) (show 2 * (cpR_ (u2_ (u2_ (rp9_ T m) 474 (sl - 20 * m) 1) 472 (sl - 20 * m) 2) s sl ((rp9_ T m) 470 s).toNat).2 < ru 9 by (try simp only [← hru12, ← hru9, z470, ← rk]); omega) (show s = 0 by (try simp only [← hru12, ← hru9, z470, ← rk]); omega); (try simp only [← hru12, ← hru9, z470, ← rk] at g9); exact g9))
              | exact Eq.trans rU34 (Eq.symm (by have g9 := soR__2 (r := ru) (a := rp9_ T m) (m := m) (s := s) (x := sl) (show 2 * (cpR_ (u2_ (u2_ (rp9_ T m) 474 (sl - 20 * m) 1) 472 (sl - 20 * m) 2) s sl ((rp9_ T m) 470 s).toNat).2 < ru 9 by (try simp only [← hru12, ← hru9, z470, ← rk]); omega) (show ¬ (s = 0) by (try simp only [← hru12, ← hru9, z470, ← rk]); omega); (try simp only [← hru12, ← hru9, z470, ← rk] at g9); exact g9))
              | (exfalso; omega)
      · refine rg_i (by omega) ?_
        refine rg_i (by omega) ?_
        refine ix_i (by omega) ?_
        intro b36 b36b
        refine And.intro (fun c37 => ?_) (fun c37 => ?_)
        · refine hK 85 [some (vR 111 0), some (vI m), some (vI s), some (vI sl), some (vI (2 * m + s)), some (vI kp), some (vI i)] [] T1 ?_
          refine j_blk (F := fX11) tb_X11 (by decide) bk_X11_sendOff_e_85 hz (fun K hK => ?_)
          refine rg_i (by omega) ?_
          refine hK 27 [some (vR 111 0), some (vI m), some (vI s), some (vI sl), some (vI (2 * m + s)), some (vI kp), some (vI (i + 1))] [] T1 ?_
          refine ih_27 _ ?_ kp (i + 1) T1 (Nat.le_refl _) ?_ ?_ ?_ ?_ ?_
          · omega
          · exact fr_t (fr_0 _ _) (fr_s hf_27 rfl)
          · omega
          · exact ro1
          · have z9 : (cpR_ (u2_ (u2_ (rp9_ T m) 474 (sl - 20 * m) 1) 472 (sl - 20 * m) 2) s sl i.toNat).1 471 (6 * s + ((i.toNat : Nat) : Int)) = T1 245 0 (6 * (2 * m + s) + i) := by
              rw [← rc, show ((i.toNat : Nat) : Int) = i by omega]
              exact rp_v (dm_471 (by omega)) rfl (by show 12 * m + (6 * s + i) = _; omega)
            rw [show (i + 1).toNat = i.toNat + 1 by omega]
            rw [cpR_t (z9.trans (by omega))]
            exact rc
          · have z9 : (cpR_ (u2_ (u2_ (rp9_ T m) 474 (sl - 20 * m) 1) 472 (sl - 20 * m) 2) s sl i.toNat).1 471 (6 * s + ((i.toNat : Nat) : Int)) = T1 245 0 (6 * (2 * m + s) + i) := by
              rw [← rc, show ((i.toNat : Nat) : Int) = i by omega]
              exact rp_v (dm_471 (by omega)) rfl (by show 12 * m + (6 * s + i) = _; omega)
            rw [show (i + 1).toNat = i.toNat + 1 by omega]
            rw [cpR_t (z9.trans (by omega))]
            exact rk
        · refine rg_i (by omega) ?_
          refine rg_i (by omega) ?_
          refine rg_i (by omega) ?_
          refine rg_i (by omega) ?_
          refine ix_i (by omega) ?_
          intro b38 b38b
          refine iy_i (by omega) (by omega) ?_
          refine sx_nm (fun U39 hU39 => ?_)
          have e40 := up_f hU39
          refine rg_i (by omega) ?_
          refine rg_i (by omega) ?_
          refine hK 27 [some (vR 111 0), some (vI m), some (vI s), some (vI sl), some (vI (2 * m + s)), some (vI (kp + 1)), some (vI (i + 1))] [] U39 ?_
          refine ih_27 _ ?_ (kp + 1) (i + 1) U39 (Nat.le_refl _) ?_ ?_ ?_ ?_ ?_
          · omega
          · exact fr_u (fr_t (fr_0 _ _) (fr_s hf_27 rfl)) hU39 rfl
          · omega
          · exact ro_u (m := m) (k := 471) (j := 6 * s + kp) (ro1) hU39 (dm_471 (by omega)) rfl (by show 12 * m + (6 * s + kp) = _; omega)
          · have z9 : (cpR_ (u2_ (u2_ (rp9_ T m) 474 (sl - 20 * m) 1) 472 (sl - 20 * m) 2) s sl i.toNat).1 471 (6 * s + ((i.toNat : Nat) : Int)) = T1 245 0 (6 * (2 * m + s) + i) := by
              rw [← rc, show ((i.toNat : Nat) : Int) = i by omega]
              exact rp_v (dm_471 (by omega)) rfl (by show 12 * m + (6 * s + i) = _; omega)
            rw [show (i + 1).toNat = i.toNat + 1 by omega]
            rw [cpR_f (fun y => by omega)]
            show rp9_ U39 m = u2_ (cpR_ (u2_ (u2_ (rp9_ T m) 474 (sl - 20 * m) 1) 472 (sl - 20 * m) 2) s sl i.toNat).1 471 (6 * s + (cpR_ (u2_ (u2_ (rp9_ T m) 474 (sl - 20 * m) 1) 472 (sl - 20 * m) 2) s sl i.toNat).2) ((cpR_ (u2_ (u2_ (rp9_ T m) 474 (sl - 20 * m) 1) 472 (sl - 20 * m) 2) s sl i.toNat).1 471 (6 * s + ((i.toNat : Nat) : Int)))
            rw [z9, ← rk, ← rc]
            exact rp_u (m := m) (k := 471) (j := 6 * s + kp) hU39 (dm_471 (by omega)) rfl (by show 12 * m + (6 * s + kp) = _; omega)
          · have z9 : (cpR_ (u2_ (u2_ (rp9_ T m) 474 (sl - 20 * m) 1) 472 (sl - 20 * m) 2) s sl i.toNat).1 471 (6 * s + ((i.toNat : Nat) : Int)) = T1 245 0 (6 * (2 * m + s) + i) := by
              rw [← rc, show ((i.toNat : Nat) : Int) = i by omega]
              exact rp_v (dm_471 (by omega)) rfl (by show 12 * m + (6 * s + i) = _; omega)
            rw [show (i + 1).toNat = i.toNat + 1 by omega]
            rw [cpR_f (fun y => by omega)]
            show kp + 1 = (cpR_ (u2_ (u2_ (rp9_ T m) 474 (sl - 20 * m) 1) 472 (sl - 20 * m) 2) s sl i.toNat).2 + 1
            omega
  refine j_blk (F := fX11) tb_X11 (by decide) bk_X11_sendOff_e_0 hz (fun K hK => ?_)
  refine rg_i (by omega) ?_
  refine rg_i (by omega) ?_
  refine iy_i (by omega) (by omega) ?_
  refine sx_nm (fun U41 hU41 => ?_)
  have e42 := up_f hU41
  refine iy_i (by omega) (by omega) ?_
  refine sx_nm (fun U43 hU43 => ?_)
  have e44 := up_f hU43
  refine hK 27 [some (vR 111 0), some (vI m), some (vI s), some (vI sl), some (vI ((2 * m) + s)), some (vI 0), some (vI 0)] [] U43 ?_
  refine c_27 _ 0 0 U43 (Nat.le_refl _) ?_ ?_ ?_ ?_ ?_
  · exact fr_u (fr_u (fr_0 _ _) hU41 rfl) hU43 rfl
  · omega
  · exact ro_u (m := m) (k := 472) (j := sl - 20 * m) (ro_u (m := m) (k := 474) (j := sl - 20 * m) (ro_r) hU41 (dm_474 (by omega)) rfl (by show 20 * m + (sl - 20 * m) = _; omega)) hU43 (dm_472 (by omega)) rfl (by show 20 * m + (sl - 20 * m) = _; omega)
  have rU41 : rp9_ U41 m = u2_ (rp9_ T m) 474 (sl - 20 * m) 1 := by rw [rp_u (m := m) (k := 474) (j := sl - 20 * m) hU41 (dm_474 (by omega)) rfl (by show 20 * m + (sl - 20 * m) = _; omega)]
  have rU43 : rp9_ U43 m = u2_ (u2_ (rp9_ T m) 474 (sl - 20 * m) 1) 472 (sl - 20 * m) 2 := by rw [rp_u (m := m) (k := 472) (j := sl - 20 * m) hU43 (dm_472 (by omega)) rfl (by show 20 * m + (sl - 20 * m) = _; omega), rU41]
  · exact rU43
  · rfl
theorem bk_X11_substitute_e_29 : ck_ fX11 none cX11_substitute 29 [.iload 8, .aload 0, .tableswitch 0 11 44 #[], .iload 5, .iaload, .if_icmp .ge 96, .aload 0, .tableswitch 0 11 45 #[], .iconst 6, .iload 5, .imul, .iload 8, .iadd, .aload 0, .tableswitch 0 11 45 #[], .iconst 6, .iload 5, .imul, .iload 8, .iadd, .iaload, .iload 6, .if_icmp .ne 76, .iload 7, .goto 89] 76 = true := by decide +kernel
theorem bk_X11_substitute_e_96 : ck_ fX11 none cX11_substitute 96 [.aload 0, .tableswitch 0 11 41 #[], .iload 6, .iconst 2, .iastore, .aload 0, .tableswitch 0 11 41 #[], .iload 7, .iconst 1, .iastore, .aload 0, .iload 1, .iconst 6, .iload 2, .iadd, .aload 0, .iload 1, .iconst 6, .iload 2, .iadd] 124 = true := by decide +kernel
theorem bk_X11_substitute_e_127 : ck_ fX11 none cX11_substitute 127 [.iconst 1, .fadd] 129 = true := by decide +kernel
theorem bk_X11_substitute_e_132 : ck_ fX11 none cX11_substitute 132 [.return_] 133 = true := by decide +kernel
theorem bk_X11_substitute_e_76 : ck_ fX11 none cX11_substitute 76 [.aload 0, .tableswitch 0 11 45 #[], .iconst 6, .iload 5, .imul, .iload 8, .iadd, .iaload, .iastore, .iinc 8 1, .goto 29] 96 = true := by decide +kernel
theorem bk_X11_substitute_e_89 : ck_ fX11 none cX11_substitute 89 [.iastore, .iinc 8 1, .goto 29] 96 = true := by decide +kernel
theorem bk_X11_substitute_e_0 : ck_ fX11 none cX11_substitute 0 [.iconst 2, .iload 1, .imul, .iload 2, .iadd, .istore 5, .aload 0, .iload 5, .iload 3] 11 = true := by decide +kernel
theorem bk_X11_substitute_e_14 : ck_ fX11 none cX11_substitute 14 [.istore 6, .aload 0, .iload 5, .iload 4] 21 = true := by decide +kernel
theorem bk_X11_substitute_e_24 : ck_ fX11 none cX11_substitute 24 [.istore 7, .iconst 0, .istore 8] 29 = true := by decide +kernel
abbrev po_X11_substitute_e (T : Zt) (m s p q : Int) : Zt → Option Zv → Prop := fun T' r => r = none ∧ fr_ [(245, []), (241, []), (246, [])] T T' ∧ (ro9_ T T' m ∧ rp9_ T' m = suR_ (rp9_ T m) m s p q)
set_option maxHeartbeats 4000000 in
theorem ct_X11_substitute_e {T : Zt} {m s p q : Int} (h1 : 0 ≤ m ∧ m < 400) (hs : 0 ≤ s ∧ s ≤ 1) (hs1 : SL_ T (2 * m + s) p) (hs2 : SL_ T (2 * m + s) q) : Ct_ yX11_substitute zX11_substitute T [vR 111 0, vI m, vI s, vI p, vI q] (po_X11_substitute_e T m s p q) := by
  refine ct_of (by decide) rfl rfl (Nat.le_of_ble_eq_true rfl) (fun hT hav => ?_)
  have hr_m : -2147483648 ≤ m ∧ m ≤ 2147483647 := hav (vI m) (by simp)
  have hr_s : -2147483648 ≤ s ∧ s ≤ 2147483647 := hav (vI s) (by simp)
  have hr_p : -2147483648 ≤ p ∧ p ≤ 2147483647 := hav (vI p) (by simp)
  have hr_q : -2147483648 ≤ q ∧ q ≤ 2147483647 := hav (vI q) (by simp)
  have hz : zX11_substitute.2.2.2.1 = some .boolean → ∀ (T' : Zt) (x : Int), po_X11_substitute_e T m s p q T' (some (vI x)) → 0 ≤ x ∧ x ≤ 1 := fun h => by cases h
  have hsb : 0 ≤ T 239 0 (2 * m + s) ∧ T 239 0 (2 * m + s) ≤ 10 := bd_a hT 239 (by decide +kernel : ta_ 239 = some (1, some 800, 0, 10)) 0 (by omega)
  have hfb : 0 ≤ T 244 0 (2 * m + s) ∧ T 244 0 (2 * m + s) ≤ 6 := bd_a hT 244 (by decide +kernel : ta_ 244 = some (1, some 800, 0, 6)) 0 (by omega)
  have z469_0 : rp9_ T m 469 s = T 246 0 (8 * m + (6 + s)) := rp_v (dm_469 (by omega)) rfl (by show 8 * m + 6 + s = _; omega)
  show J_ zX11_substitute T (po_X11_substitute_e T m s p q) 0 0 0 [some (vR 111 0), some (vI m), some (vI s), some (vI p), some (vI q), none, none, none, none] [] T
  have c_29 : ∀ (nn : Nat) (sa : Int) (sb : Int) (i : Int) (T1 : Zt), ((6 - i).toNat) ≤ nn → (fr_ [(245, [])] T T1) → (0 ≤ i ∧ 10 * (2 * m + s) ≤ sa ∧ sa < 10 * (2 * m + s) + 10 ∧ 10 * (2 * m + s) ≤ sb ∧ sb < 10 * (2 * m + s) + 10 ∧ i ≤ T 244 0 (2 * m + s)) → (sa = ab9_ m (slR_ (rp9_ T m) s p)) → (sb = ab9_ m (slR_ (rp9_ T m) s q)) → (ro9_ T T1 m) → (rp9_ T1 m = mpR_ (rp9_ T m) s sa sb i.toNat) → J_ zX11_substitute T (po_X11_substitute_e T m s p q) 0 0 29 [some (vR 111 0), some (vI m), some (vI s), some (vI p), some (vI q), some (vI (2 * m + s)), some (vI sa), some (vI sb), some (vI i)] [] T1 := by
    intro nn
    induction nn using Nat.strongRecOn with
    | _ nn ih_29 =>
      intro sa sb i T1 hm_29 hf_29 i1 ea eb ro1 rc
      refine j_blk (F := fX11) tb_X11 (by decide) bk_X11_substitute_e_29 hz (fun K hK => ?_)
      refine ix_i (by omega) ?_
      intro b1 b1b
      have e2 : T1 244 0 (2 * m + s) = T 244 0 (2 * m + s) := hf_29 244 0 (2 * m + s) rfl
      rw [e2] at b1 b1b ⊢
      refine And.intro (fun c3 => ?_) (fun c3 => ?_)
      · refine hK 96 [some (vR 111 0), some (vI m), some (vI s), some (vI p), some (vI q), some (vI (2 * m + s)), some (vI sa), some (vI sb), some (vI i)] [] T1 ?_
        refine j_blk (F := fX11) tb_X11 (by decide) bk_X11_substitute_e_96 hz (fun K hK => ?_)
        refine iy_i (by omega) (by omega) ?_
        refine sx_nm (fun U4 hU4 => ?_)
        have e5 := up_f hU4
        refine iy_i (by omega) (by omega) ?_
        refine sx_nm (fun U6 hU6 => ?_)
        have e7 := up_f hU6
        refine rg_i (by omega) ?_
        refine rg_i (by omega) ?_
        refine hK 124 [some (vR 111 0), some (vI m), some (vI s), some (vI p), some (vI q), some (vI (2 * m + s)), some (vI sa), some (vI sb), some (vI i)] [vI (6 + s), vI m, vR 111 0, vI (6 + s), vI m, vR 111 0] U6 ?_
        refine j_callV (y := yX11_liveOf) (Yc := zX11_liveOf) (rest := [vI (6 + s), vI m, vR 111 0]) [vI m, vI (6 + s)] (ct_X11_liveOf (T := U6) (by omega) (by omega)) cl_X11_400 (by decide +kernel) (by decide) rfl (by decide +kernel) (Nat.le_of_ble_eq_true rfl) (by decide) (by decide) rfl ?_
        rintro _ _ ⟨rfl, rfl⟩
        have e8 : U6 246 0 (8 * m + (6 + s)) = T 246 0 (8 * m + (6 + s)) := (up_k hU6 (by decide) 0 (8 * m + (6 + s))).trans ((up_k hU4 (by decide) 0 (8 * m + (6 + s))).trans (hf_29 246 0 (8 * m + (6 + s)) rfl))
        rw [e8]
        show J_ zX11_substitute T (po_X11_substitute_e T m s p q) 0 0 127 [some (vR 111 0), some (vI m), some (vI s), some (vI p), some (vI q), some (vI (2 * m + s)), some (vI sa), some (vI sb), some (vI i)] [vI (T 246 0 (8 * m + (6 + s))), vI (6 + s), vI m, vR 111 0] U6
        refine j_blk (F := fX11) tb_X11 (by decide) bk_X11_substitute_e_127 hz (fun K hK => ?_)
        intro w9 w9b
        refine hK 129 [some (vR 111 0), some (vI m), some (vI s), some (vI p), some (vI q), some (vI (2 * m + s)), some (vI sa), some (vI sb), some (vI i)] [vI (wr_ ((T 246 0 (8 * m + (6 + s))) + 1)), vI (6 + s), vI m, vR 111 0] U6 ?_
        refine j_callV (y := yX11_setLive) (Yc := zX11_setLive) (rest := []) [vI m, vI (6 + s), vI (wr_ ((T 246 0 (8 * m + (6 + s))) + 1))] (ct_X11_setLive_e (T := U6) (by omega) (by omega)) cl_X11_410 (by decide +kernel) (by decide) rfl (by decide +kernel) (Nat.le_of_ble_eq_true rfl) (by decide) (by decide) rfl ?_
        rintro U10 _ ⟨rfl, hU10⟩
        show J_ zX11_substitute T (po_X11_substitute_e T m s p q) 0 0 132 [some (vR 111 0), some (vI m), some (vI s), some (vI p), some (vI q), some (vI (2 * m + s)), some (vI sa), some (vI sb), some (vI i)] [] U10
        refine j_blk (F := fX11) tb_X11 (by decide) bk_X11_substitute_e_132 hz (fun K hK => ?_)
        refine (show po_X11_substitute_e T m s p q U10 (none) from ?_)
        have z470 : rp9_ T m 470 s = i := (rp_v (K := 244) (x := 2 * m + s) (dm_470 (by omega)) rfl rfl).trans (by omega)
        have rU4 : rp9_ U4 m = u2_ (mpR_ (rp9_ T m) s sa sb i.toNat) 472 (sa - 20 * m) 2 := by rw [rp_u (m := m) (k := 472) (j := sa - 20 * m) hU4 (dm_472 (by omega)) rfl (by show 20 * m + (sa - 20 * m) = _; omega), rc]
        have rU6 : rp9_ U6 m = u2_ (u2_ (mpR_ (rp9_ T m) s sa sb i.toNat) 472 (sa - 20 * m) 2) 472 (sb - 20 * m) 1 := by rw [rp_u (m := m) (k := 472) (j := sb - 20 * m) hU6 (dm_472 (by omega)) rfl (by show 20 * m + (sb - 20 * m) = _; omega), rU4]
        have rU10 : rp9_ U10 m = u2_ (u2_ (u2_ (mpR_ (rp9_ T m) s sa sb i.toNat) 472 (sa - 20 * m) 2) 472 (sb - 20 * m) 1) 469 s (wr_ ((T 246 0 (8 * m + (6 + s))) + 1)) := by rw [rp_u (m := m) (k := 469) (j := s) hU10 (dm_469 (by omega)) rfl (by show 8 * m + 6 + s = _; omega), rU6]
        refine ⟨rfl, fr_u (fr_u (fr_u (fr_t (fr_0 _ _) (fr_s hf_29 rfl)) hU4 rfl) hU6 rfl) hU10 rfl, ro_u (m := m) (k := 469) (j := s) (ro_u (m := m) (k := 472) (j := sb - 20 * m) (ro_u (m := m) (k := 472) (j := sa - 20 * m) (ro1) hU4 (dm_472 (by omega)) rfl (by show 20 * m + (sa - 20 * m) = _; omega)) hU6 (dm_472 (by omega)) rfl (by show 20 * m + (sb - 20 * m) = _; omega)) hU10 (dm_469 (by omega)) rfl (by show 8 * m + 6 + s = _; omega), ?_⟩
        exact Eq.trans rU10 (Eq.symm (by have g9 := suR__1 (a := rp9_ T m) (m := m) (s := s) (q := p) (o := q); (try simp only [z469_0, z470, ← ea, ← eb] at g9); exact g9))
      · refine rg_i (by omega) ?_
        refine rg_i (by omega) ?_
        refine rg_i (by omega) ?_
        refine rg_i (by omega) ?_
        refine ix_i (by omega) ?_
        intro b11 b11b
        refine And.intro (fun c12 => ?_) (fun c12 => ?_)
        · refine hK 76 [some (vR 111 0), some (vI m), some (vI s), some (vI p), some (vI q), some (vI (2 * m + s)), some (vI sa), some (vI sb), some (vI i)] [vI ((6 * (2 * m + s)) + i), vR 245 0] T1 ?_
          refine j_blk (F := fX11) tb_X11 (by decide) bk_X11_substitute_e_76 hz (fun K hK => ?_)
          refine rg_i (by omega) ?_
          refine rg_i (by omega) ?_
          refine ix_i (by omega) ?_
          intro b13 b13b
          refine iy_i (by omega) (by omega) ?_
          refine sx_nm (fun U14 hU14 => ?_)
          have e15 := up_f hU14
          refine rg_i (by omega) ?_
          refine hK 29 [some (vR 111 0), some (vI m), some (vI s), some (vI p), some (vI q), some (vI (2 * m + s)), some (vI sa), some (vI sb), some (vI (i + 1))] [] U14 ?_
          refine ih_29 _ ?_ sa sb (i + 1) U14 (Nat.le_refl _) ?_ ?_ ?_ ?_ ?_ ?_
          · omega
          · exact fr_u (fr_t (fr_0 _ _) (fr_s hf_29 rfl)) hU14 rfl
          · omega
          · exact ea
          · exact eb
          · exact ro_u (m := m) (k := 471) (j := 6 * s + i) (ro1) hU14 (dm_471 (by omega)) rfl (by show 12 * m + (6 * s + i) = _; omega)
          · have z9 : mpR_ (rp9_ T m) s sa sb i.toNat 471 (6 * s + ((i.toNat : Nat) : Int)) = T1 245 0 (6 * (2 * m + s) + i) := by
              rw [← rc, show ((i.toNat : Nat) : Int) = i by omega]
              exact rp_v (dm_471 (by omega)) rfl (by show 12 * m + (6 * s + i) = _; omega)
            rw [show (i + 1).toNat = i.toNat + 1 by omega]
            show rp9_ U14 m = u2_ (mpR_ (rp9_ T m) s sa sb i.toNat) 471 (6 * s + ((i.toNat : Nat) : Int)) (cz_ (mpR_ (rp9_ T m) s sa sb i.toNat 471 (6 * s + ((i.toNat : Nat) : Int)) = sa) sb (mpR_ (rp9_ T m) s sa sb i.toNat 471 (6 * s + ((i.toNat : Nat) : Int))))
            rw [z9, cz_f (by omega), ← rc, show ((i.toNat : Nat) : Int) = i by omega]
            exact rp_u (m := m) (k := 471) (j := 6 * s + i) hU14 (dm_471 (by omega)) rfl (by show 12 * m + (6 * s + i) = _; omega)
        · refine hK 89 [some (vR 111 0), some (vI m), some (vI s), some (vI p), some (vI q), some (vI (2 * m + s)), some (vI sa), some (vI sb), some (vI i)] [vI sb, vI ((6 * (2 * m + s)) + i), vR 245 0] T1 ?_
          refine j_blk (F := fX11) tb_X11 (by decide) bk_X11_substitute_e_89 hz (fun K hK => ?_)
          refine iy_i (by omega) (by omega) ?_
          refine sx_nm (fun U16 hU16 => ?_)
          have e17 := up_f hU16
          refine rg_i (by omega) ?_
          refine hK 29 [some (vR 111 0), some (vI m), some (vI s), some (vI p), some (vI q), some (vI (2 * m + s)), some (vI sa), some (vI sb), some (vI (i + 1))] [] U16 ?_
          refine ih_29 _ ?_ sa sb (i + 1) U16 (Nat.le_refl _) ?_ ?_ ?_ ?_ ?_ ?_
          · omega
          · exact fr_u (fr_t (fr_0 _ _) (fr_s hf_29 rfl)) hU16 rfl
          · omega
          · exact ea
          · exact eb
          · exact ro_u (m := m) (k := 471) (j := 6 * s + i) (ro1) hU16 (dm_471 (by omega)) rfl (by show 12 * m + (6 * s + i) = _; omega)
          · have z9 : mpR_ (rp9_ T m) s sa sb i.toNat 471 (6 * s + ((i.toNat : Nat) : Int)) = T1 245 0 (6 * (2 * m + s) + i) := by
              rw [← rc, show ((i.toNat : Nat) : Int) = i by omega]
              exact rp_v (dm_471 (by omega)) rfl (by show 12 * m + (6 * s + i) = _; omega)
            rw [show (i + 1).toNat = i.toNat + 1 by omega]
            show rp9_ U16 m = u2_ (mpR_ (rp9_ T m) s sa sb i.toNat) 471 (6 * s + ((i.toNat : Nat) : Int)) (cz_ (mpR_ (rp9_ T m) s sa sb i.toNat 471 (6 * s + ((i.toNat : Nat) : Int)) = sa) sb (mpR_ (rp9_ T m) s sa sb i.toNat 471 (6 * s + ((i.toNat : Nat) : Int))))
            rw [z9, cz_t (by omega), ← rc, show ((i.toNat : Nat) : Int) = i by omega]
            exact rp_u (m := m) (k := 471) (j := 6 * s + i) hU16 (dm_471 (by omega)) rfl (by show 12 * m + (6 * s + i) = _; omega)
  refine j_blk (F := fX11) tb_X11 (by decide) bk_X11_substitute_e_0 hz (fun K hK => ?_)
  refine rg_i (by omega) ?_
  refine rg_i (by omega) ?_
  refine hK 11 [some (vR 111 0), some (vI m), some (vI s), some (vI p), some (vI q), some (vI ((2 * m) + s)), none, none, none] [vI p, vI ((2 * m) + s), vR 111 0] T ?_
  refine j_callV (y := yX11_slotOf) (Yc := zX11_slotOf) (rest := []) [vI ((2 * m) + s), vI p] (ct_X11_slotOf_e (T := T) (m := m) (s := s) (by omega) ⟨rfl, by omega, by omega⟩) cl_X11_378 (by decide +kernel) (by decide) rfl (by decide +kernel) (Nat.le_of_ble_eq_true rfl) (by decide) (by decide) rfl ?_
  rintro _ _ ⟨rfl, x18, rfl, hx18, hx18e⟩
  have hx18c := ab_c hx18e
  show J_ zX11_substitute T (po_X11_substitute_e T m s p q) 0 0 14 [some (vR 111 0), some (vI m), some (vI s), some (vI p), some (vI q), some (vI ((2 * m) + s)), none, none, none] [vI x18] T
  refine j_blk (F := fX11) tb_X11 (by decide) bk_X11_substitute_e_14 hz (fun K hK => ?_)
  refine hK 21 [some (vR 111 0), some (vI m), some (vI s), some (vI p), some (vI q), some (vI ((2 * m) + s)), some (vI x18), none, none] [vI q, vI ((2 * m) + s), vR 111 0] T ?_
  refine j_callV (pc := 21) (y := yX11_slotOf) (Yc := zX11_slotOf) (rest := []) [vI ((2 * m) + s), vI q] (ct_X11_slotOf_e (T := T) (m := m) (s := s) (by omega) ⟨rfl, by omega, by omega⟩) cl_X11_378 (by show decode cX11_substitute (Int.toNat 21) = _; decide +kernel) (by decide) rfl rfl (Nat.le_of_ble_eq_true rfl) (by first | decide | (simp only [zX11_slotOf]; omega)) (by first | decide | (simp only [zX11_slotOf]; omega)) rfl ?_
  rintro _ _ ⟨rfl, x19, rfl, hx19, hx19e⟩
  have hx19c := ab_c hx19e
  show J_ zX11_substitute T (po_X11_substitute_e T m s p q) 0 0 24 [some (vR 111 0), some (vI m), some (vI s), some (vI p), some (vI q), some (vI ((2 * m) + s)), some (vI x18), none, none] [vI x19] T
  have y1 : 10 * (2 * m + s) ≤ x18 ∧ x18 < 10 * (2 * m + s) + 10 := by
    rcases hx18 with z | z
    · exact absurd hs1 z.2
    · exact ⟨z.1, z.2.1⟩
  have y2 : 10 * (2 * m + s) ≤ x19 ∧ x19 < 10 * (2 * m + s) + 10 := by
    rcases hx19 with z | z
    · exact absurd hs2 z.2
    · exact ⟨z.1, z.2.1⟩
  refine j_blk (F := fX11) tb_X11 (by decide) bk_X11_substitute_e_24 hz (fun K hK => ?_)
  refine hK 29 [some (vR 111 0), some (vI m), some (vI s), some (vI p), some (vI q), some (vI ((2 * m) + s)), some (vI x18), some (vI x19), some (vI 0)] [] T ?_
  refine c_29 _ x18 x19 0 T (Nat.le_refl _) ?_ ?_ ?_ ?_ ?_ ?_
  · exact fr_0 _ _
  · omega
  · exact hx18e
  · exact hx19e
  · exact ro_r
  · rfl
theorem bk_X11_rotate_e_20 : ck_ fX11 none cX11_rotate 20 [.iload 4, .iconst 1, .iadd, .iload 2, .if_icmp .ge 60, .aload 0, .tableswitch 0 11 45 #[], .iconst 6, .iload 1, .imul, .iload 4, .iadd, .aload 0, .tableswitch 0 11 45 #[], .iconst 6, .iload 1, .imul, .iload 4, .iadd, .iconst 1, .iadd, .iaload, .iastore, .iinc 4 1, .goto 20] 60 = true := by decide +kernel
theorem bk_X11_rotate_e_60 : ck_ fX11 none cX11_rotate 60 [.aload 0, .tableswitch 0 11 45 #[], .iconst 6, .iload 1, .imul, .iload 2, .iadd, .iconst 1, .isub, .iload 3, .iastore, .return_] 75 = true := by decide +kernel
theorem bk_X11_rotate_e_0 : ck_ fX11 none cX11_rotate 0 [.aload 0, .tableswitch 0 11 44 #[], .iload 1, .iaload, .istore 2, .aload 0, .tableswitch 0 11 45 #[], .iconst 6, .iload 1, .imul, .iaload, .istore 3, .iconst 0, .istore 4] 20 = true := by decide +kernel
abbrev po_X11_rotate_e (T : Zt) (m : Int) (s : Int) (sh : Int) : Zt → Option Zv → Prop := fun T' r => r = none ∧ fr_ [(245, [])] T T' ∧ (ro9_ T T' m ∧ rp9_ T' m = rtR_ (rp9_ T m) s)
set_option maxHeartbeats 4000000 in
theorem ct_X11_rotate_e {T : Zt} {m : Int} {s : Int} {sh : Int} (h1 : 0 ≤ sh ∧ sh < 800) (h2 : 1 ≤ T 244 0 sh) (hsh : sh = 2 * m + s ∧ 0 ≤ s ∧ s ≤ 1) : Ct_ yX11_rotate zX11_rotate T [vR 111 0, vI sh] (po_X11_rotate_e T m s sh) := by
  refine ct_of (by decide) rfl rfl (Nat.le_of_ble_eq_true rfl) (fun hT hav => ?_)
  have hr_sh : -2147483648 ≤ sh ∧ sh ≤ 2147483647 := hav (vI sh) (by simp)
  have hz : zX11_rotate.2.2.2.1 = some .boolean → ∀ (T' : Zt) (x : Int), po_X11_rotate_e T m s sh T' (some (vI x)) → 0 ≤ x ∧ x ≤ 1 := fun h => by cases h
  have hfb : 0 ≤ T 244 0 sh ∧ T 244 0 sh ≤ 6 := bd_a hT 244 (by decide +kernel : ta_ 244 = some (1, some 800, 0, 6)) 0 (by omega)
  have hsb : 0 ≤ T 245 0 (6 * sh) ∧ T 245 0 (6 * sh) ≤ 7999 := bd_a hT 245 (by decide +kernel : ta_ 245 = some (1, some 4800, 0, 7999)) 0 (by omega)
  show J_ zX11_rotate T (po_X11_rotate_e T m s sh) 0 0 0 [some (vR 111 0), some (vI sh), none, none, none] [] T
  have c_20 : ∀ (nn : Nat) (i : Int) (T1 : Zt), ((6 - i).toNat) ≤ nn → (fr_ [(245, [])] T T1) → (0 ≤ i ∧ i + 1 ≤ T 244 0 sh) → (ro9_ T T1 m) → (rp9_ T1 m = shR_ (rp9_ T m) s i.toNat) → J_ zX11_rotate T (po_X11_rotate_e T m s sh) 0 0 20 [some (vR 111 0), some (vI sh), some (vI (T 244 0 sh)), some (vI (T 245 0 (6 * sh))), some (vI i)] [] T1 := by
    intro nn
    induction nn using Nat.strongRecOn with
    | _ nn ih_20 =>
      intro i T1 hm_20 hf_20 i1 ro1 rc
      refine j_blk (F := fX11) tb_X11 (by decide) bk_X11_rotate_e_20 hz (fun K hK => ?_)
      refine rg_i (by omega) ?_
      refine And.intro (fun c1 => ?_) (fun c1 => ?_)
      · refine hK 60 [some (vR 111 0), some (vI sh), some (vI (T 244 0 sh)), some (vI (T 245 0 (6 * sh))), some (vI i)] [] T1 ?_
        refine j_blk (F := fX11) tb_X11 (by decide) bk_X11_rotate_e_60 hz (fun K hK => ?_)
        refine rg_i (by omega) ?_
        refine rg_i (by omega) ?_
        refine rg_i (by omega) ?_
        refine iy_i (by omega) (by omega) ?_
        refine sx_nm (fun U2 hU2 => ?_)
        have e3 := up_f hU2
        refine (show po_X11_rotate_e T m s sh U2 (none) from ?_)
        have z470 : rp9_ T m 470 s = T 244 0 sh := rp_v (dm_470 (by omega)) rfl (by show 2 * m + s = _; omega)
        have z471 : rp9_ T m 471 (6 * s) = T 245 0 (6 * sh) := rp_v (dm_471 (by omega)) rfl (by show 12 * m + 6 * s = _; omega)
        have ei : T 244 0 sh - 1 = i := by omega
        have r9 := rp_u (m := m) (k := 471) (j := 6 * s + T 244 0 sh - 1) hU2 (dm_471 (by omega)) rfl (by show 12 * m + (6 * s + T 244 0 sh - 1) = _; omega)
        rw [rc] at r9
        refine ⟨rfl, fr_u (fr_t (fr_0 _ _) (fr_s hf_20 rfl)) hU2 rfl, ro_u (m := m) (k := 471) (j := 6 * s + T 244 0 sh - 1) (ro1) hU2 (dm_471 (by omega)) rfl (by show 12 * m + (6 * s + T 244 0 sh - 1) = _; omega), ?_⟩
        show rp9_ U2 m = u2_ (shR_ (rp9_ T m) s (rp9_ T m 470 s - 1).toNat) 471 (6 * s + rp9_ T m 470 s - 1) (rp9_ T m 471 (6 * s))
        rw [z470, z471, ei]
        exact r9
      · refine rg_i (by omega) ?_
        refine rg_i (by omega) ?_
        refine rg_i (by omega) ?_
        refine rg_i (by omega) ?_
        refine rg_i (by omega) ?_
        refine ix_i (by omega) ?_
        intro b4 b4b
        refine iy_i (by omega) (by omega) ?_
        refine sx_nm (fun U5 hU5 => ?_)
        have e6 := up_f hU5
        refine rg_i (by omega) ?_
        refine hK 20 [some (vR 111 0), some (vI sh), some (vI (T 244 0 sh)), some (vI (T 245 0 (6 * sh))), some (vI (i + 1))] [] U5 ?_
        refine ih_20 _ ?_ (i + 1) U5 (Nat.le_refl _) ?_ ?_ ?_ ?_
        · omega
        · exact fr_u (fr_t (fr_0 _ _) (fr_s hf_20 rfl)) hU5 rfl
        · omega
        · exact ro_u (m := m) (k := 471) (j := 6 * s + i) ro1 hU5 (dm_471 (by omega)) rfl (by show 12 * m + (6 * s + i) = _; omega)
        · have z9 : shR_ (rp9_ T m) s i.toNat 471 (6 * s + ((i.toNat : Nat) : Int) + 1) = T1 245 0 (6 * sh + i + 1) := by
            rw [← rc, show ((i.toNat : Nat) : Int) = i by omega]
            exact rp_v (dm_471 (by omega)) rfl (by show 12 * m + (6 * s + i + 1) = _; omega)
          rw [show (i + 1).toNat = i.toNat + 1 by omega]
          show rp9_ U5 m = u2_ (shR_ (rp9_ T m) s i.toNat) 471 (6 * s + ((i.toNat : Nat) : Int)) (shR_ (rp9_ T m) s i.toNat 471 (6 * s + ((i.toNat : Nat) : Int) + 1))
          rw [z9, ← rc, show ((i.toNat : Nat) : Int) = i by omega]
          exact rp_u (m := m) (k := 471) (j := 6 * s + i) hU5 (dm_471 (by omega)) rfl (by show 12 * m + (6 * s + i) = _; omega)
  refine j_blk (F := fX11) tb_X11 (by decide) bk_X11_rotate_e_0 hz (fun K hK => ?_)
  refine ix_i (by omega) ?_
  intro b7 b7b
  refine rg_i (by omega) ?_
  refine ix_i (by omega) ?_
  intro b8 b8b
  refine hK 20 [some (vR 111 0), some (vI sh), some (vI (T 244 0 sh)), some (vI (T 245 0 (6 * sh))), some (vI 0)] [] T ?_
  refine c_20 _ 0 T (Nat.le_refl _) ?_ ?_ ?_ ?_
  · exact fr_0 _ _
  · omega
  · exact ro_r
  · rfl
