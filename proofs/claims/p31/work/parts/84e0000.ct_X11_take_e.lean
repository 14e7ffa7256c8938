-- the reference's token
def nv9_ (b : Int → Int) (s : Int) : Nat → Int
  | 0 => 0
  | m + 1 => 10 * nv9_ b s m + b (s + m) - 48
theorem nv9_s {b : Int → Int} {s e v : Int} (h0 : s ≤ e) (h : v = 10 * nv9_ b s (e - s).toNat + b e - 48) : v = nv9_ b s (e + 1 - s).toNat := by
  rw [show (e + 1 - s).toNat = (e - s).toNat + 1 by omega, h]
  show _ = 10 * nv9_ b s (e - s).toNat + b (s + ((e - s).toNat : Nat)) - 48
  rw [show s + ((e - s).toNat : Int) = e by omega]
/-- what the reference's take leaves, when nothing was bad before -/
def TM9_ (b : Int → Int) (n a s t k v bn ba ba0 : Int) : Prop := ∃ e k9, TK9_ b n a s e k9 ∧ ((k9 ≠ 5 ∧ t = e ∧ k = k9 ∧ bn = 0 ∧ ba = ba0 ∧ (k9 = 2 → v = nv9_ b s (e - s).toNat)) ∨ (k9 = 5 ∧ bn = 1 ∧ ba = s))
theorem tm9_0 {b : Int → Int} {n a s s' t k v bn ba ba0 : Int} (h : SK9_ b n a s) (e1 : s' = s) (h1 : ¬ s < n) (h2 : t = s) (h3 : k = 0) (h4 : bn = 0) (h5 : ba = ba0) : TM9_ b n a s' t k v bn ba ba0 := ⟨s, 0, tk9_0 h e1 h1 rfl rfl, Or.inl ⟨by omega, h2, h3, h4, h5, fun z => by omega⟩⟩
theorem tm9_1 {b : Int → Int} {n a s s' t k v bn ba ba0 : Int} (h : SK9_ b n a s) (e1 : s' = s) (h1 : s < n) (h2 : lt9_ (b s)) (h3 : RN9_ b n 97 122 s t) (h4 : (t - s ≤ 12 ∧ k = 1 ∧ bn = 0 ∧ ba = ba0) ∨ (12 < t - s ∧ bn = 1 ∧ ba = s)) : TM9_ b n a s' t k v bn ba ba0 := by
  rcases h4 with ⟨g1, g2, g3, g4⟩ | ⟨g1, g2, g3⟩
  · exact ⟨t, 1, tk9_1 h e1 h1 h2 h3 (Or.inl ⟨g1, rfl⟩), Or.inl ⟨by omega, rfl, g2, g3, g4, fun z => by omega⟩⟩
  · exact ⟨t, 5, tk9_1 h e1 h1 h2 h3 (Or.inr ⟨g1, rfl⟩), Or.inr ⟨rfl, g2, by omega⟩⟩
theorem tm9_2 {b : Int → Int} {n a s s' t k v bn ba ba0 : Int} (h : SK9_ b n a s) (e1 : s' = s) (h1 : s < n) (h2 : dg9_ (b s)) (h3 : RN9_ b n 48 57 s t) (hv : t - s ≤ 3 → v = nv9_ b s (t - s).toNat) (h4 : (t - s ≤ 3 ∧ k = 2 ∧ bn = 0 ∧ ba = ba0) ∨ (3 < t - s ∧ bn = 1 ∧ ba = s)) : TM9_ b n a s' t k v bn ba ba0 := by
  subst e1
  rcases h4 with ⟨g1, g2, g3, g4⟩ | ⟨g1, g2, g3⟩
  · exact ⟨t, 2, tk9_2 h rfl h1 h2 h3 (Or.inl ⟨g1, rfl⟩), Or.inl ⟨by omega, rfl, g2, g3, g4, fun _ => hv g1⟩⟩
  · exact ⟨t, 5, tk9_2 h rfl h1 h2 h3 (Or.inr ⟨g1, rfl⟩), Or.inr ⟨rfl, g2, g3⟩⟩
theorem tm9_3 {b : Int → Int} {n a s s' t k v bn ba ba0 : Int} (h : SK9_ b n a s) (e1 : s' = s) (h1 : s < n) (h2 : ¬ lt9_ (b s)) (h3 : ¬ dg9_ (b s)) (h5 : (b s = 59 ∧ k = 3 ∧ t = s + 1 ∧ bn = 0 ∧ ba = ba0) ∨ (b s = 44 ∧ k = 4 ∧ t = s + 1 ∧ bn = 0 ∧ ba = ba0) ∨ (b s ≠ 59 ∧ b s ≠ 44 ∧ bn = 1 ∧ ba = s)) : TM9_ b n a s' t k v bn ba ba0 := by
  rcases h5 with ⟨g1, g2, g3, g4, g5⟩ | ⟨g1, g2, g3, g4, g5⟩ | ⟨g1, g2, g3, g4⟩
  · exact ⟨s + 1, 3, tk9_3 h e1 h1 h2 h3 rfl (Or.inl ⟨g1, rfl⟩), Or.inl ⟨by omega, g3, g2, g4, g5, fun z => by omega⟩⟩
  · exact ⟨s + 1, 4, tk9_3 h e1 h1 h2 h3 rfl (Or.inr (Or.inl ⟨g1, rfl⟩)), Or.inl ⟨by omega, g3, g2, g4, g5, fun z => by omega⟩⟩
  · exact ⟨s + 1, 5, tk9_3 h e1 h1 h2 h3 rfl (Or.inr (Or.inr ⟨g1, g2, rfl⟩)), Or.inr ⟨rfl, g3, by omega⟩⟩
abbrev po_X11_bad_e (T : Zt) (number place : Int) : Zt → Option Zv → Prop := fun T' r => r = none ∧ fr_ [(111, [62, 63])] T T' ∧ ((T 111 0 62 = 0 ∧ T' 111 0 62 = number ∧ T' 111 0 63 = place) ∨ (T 111 0 62 ≠ 0 ∧ T' 111 0 62 = T 111 0 62 ∧ T' 111 0 63 = T 111 0 63))
set_option maxHeartbeats 4000000 in
theorem ct_X11_bad_e {T : Zt} {number place : Int} (h1 : 1 ≤ number ∧ number ≤ 5) (h2 : -1 ≤ place ∧ place ≤ 400) : Ct_ yX11_bad zX11_bad T [vR 111 0, vI number, vI place] (po_X11_bad_e T number place) := by
  refine ct_of pn_11 rfl rfl (Nat.le_of_ble_eq_true rfl) (fun hT hav => ?_)
  have hr_number : -2147483648 ≤ number ∧ number ≤ 2147483647 := hav (vI number) (List.mem_cons_of_mem _ List.mem_cons_self)
  have hr_place : -2147483648 ≤ place ∧ place ≤ 2147483647 := hav (vI place) (List.mem_cons_of_mem _ (List.mem_cons_of_mem _ List.mem_cons_self))
  have hz : zX11_bad.2.2.2.1 = some .boolean → ∀ (T' : Zt) (x : Int), po_X11_bad_e T number place T' (some (vI x)) → 0 ≤ x ∧ x ≤ 1 := fun h => by cases h
  show J_ zX11_bad T (po_X11_bad_e T number place) 0 0 0 [some (vR 111 0), some (vI number), some (vI place)] [] T
  refine j_blx (F := fX11) tb_X11 (nn_ _) bk_X11_bad_0 bs_X11_bad_0 hz (fun K hK => ?_)
  intro b1 b1b
  refine And.intro (fun c2 => ?_) (fun c2 => ?_)
  · refine hK 17 _ [] T ?_
    refine j_blx (F := fX11) tb_X11 (nn_ _) bk_X11_bad_17 bs_X11_bad_17 hz (fun K hK => ?_)
    refine (show po_X11_bad_e T number place T (none) from ?_)
    exact ⟨rfl, fr_0 _ _, by omega⟩
  · refine bd_i (by omega) ?_
    refine x_nm (fun U3 hU3 => ?_)
    have e4 := up_f hU3
    refine bd_i (by omega) ?_
    refine x_nm (fun U5 hU5 => ?_)
    have e6 := up_f hU5
    refine (show po_X11_bad_e T number place U5 (none) from ?_)
    have e7 : U5 111 0 62 = number := (up_j hU5 (by decide) 111 0).trans (up_f hU3)
    have e8 : U5 111 0 63 = place := up_f hU5
    exact ⟨rfl, fr_u (fr_u (fr_0 _ _) hU3 rfl) hU5 rfl, by omega⟩
theorem bk_X11_take_e_346 : ck_ fX11 none cX11_take 346 [.aload 0, .aload 0, .tableswitch 0 11 60 #[], .tableswitch 1 11 57 #[], .return_] 355 = true := qck_r (nn_ _) (by decide +kernel)
theorem bs_X11_take_e_346 {P : Zt → Option Zv → Prop} (K : Int → Zl → List Zv → Zt → Prop) : sx_ K P [.aload 0, .aload 0, .tableswitch 0 11 60 #[], .tableswitch 1 11 57 #[], .return_] 355 = x_aload 0 (x_aload 0 (x_g0 111 60 0 400 (x_p 111 57 0 400 (x_return_ P)))) := ((xe_aload 0).trans (congrArg (x_aload 0) ((xe_aload 0).trans (congrArg (x_aload 0) ((xe_g0 (kk := 111) rfl tl_11_60).trans (congrArg (x_g0 111 60 0 400) ((xe_p (kk := 111) rfl tl_11_57).trans (congrArg (x_p 111 57 0 400) (xe_return_)))))))))
theorem bk_X11_take_e_102 : ck_ fX11 none cX11_take 102 [.aload 0, .tableswitch 0 11 60 #[], .aload 0, .tableswitch 0 11 1 #[], .if_icmp .ge 141, .aload 0, .tableswitch 0 11 0 #[], .aload 0, .tableswitch 0 11 60 #[], .iaload] 122 = true := qck_r (nn_ _) (by decide +kernel)
theorem bs_X11_take_e_102 {P : Zt → Option Zv → Prop} (K : Int → Zl → List Zv → Zt → Prop) : sx_ K P [.aload 0, .tableswitch 0 11 60 #[], .aload 0, .tableswitch 0 11 1 #[], .if_icmp .ge 141, .aload 0, .tableswitch 0 11 0 #[], .aload 0, .tableswitch 0 11 60 #[], .iaload] 122 = x_aload 0 (x_g0 111 60 0 400 (x_aload 0 (x_g0 111 1 0 400 (x_if_icmp .ge 141 K (x_aload 0 (x_g1 111 200 (x_aload 0 (x_g0 111 60 0 400 (x_iaload (K 122)))))))))) := ((xe_aload 0).trans (congrArg (x_aload 0) ((xe_g0 (kk := 111) rfl tl_11_60).trans (congrArg (x_g0 111 60 0 400) ((xe_aload 0).trans (congrArg (x_aload 0) ((xe_g0 (kk := 111) rfl tl_11_1).trans (congrArg (x_g0 111 1 0 400) ((xe_if_icmp .ge 141).trans (congrArg (x_if_icmp .ge 141 K) ((xe_aload 0).trans (congrArg (x_aload 0) ((xe_g1 (kk := 111) rfl tl_11_0).trans (congrArg (x_g1 111 200) ((xe_aload 0).trans (congrArg (x_aload 0) ((xe_g0 (kk := 111) rfl tl_11_60).trans (congrArg (x_g0 111 60 0 400) ((xe_iaload).trans (congrArg (x_iaload) xe_nil))))))))))))))))))))
theorem bk_X11_take_e_141 : ck_ fX11 none cX11_take 141 [.aload 0, .iconst 1, .tableswitch 1 11 58 #[], .aload 0, .tableswitch 0 11 60 #[], .aload 0, .tableswitch 0 11 59 #[], .isub, .iconst 12, .if_icmp .le 346, .aload 0, .iconst 1, .aload 0, .tableswitch 0 11 59 #[]] 166 = true := qck_r (nn_ _) (by decide +kernel)
theorem bs_X11_take_e_141 {P : Zt → Option Zv → Prop} (K : Int → Zl → List Zv → Zt → Prop) : sx_ K P [.aload 0, .iconst 1, .tableswitch 1 11 58 #[], .aload 0, .tableswitch 0 11 60 #[], .aload 0, .tableswitch 0 11 59 #[], .isub, .iconst 12, .if_icmp .le 346, .aload 0, .iconst 1, .aload 0, .tableswitch 0 11 59 #[]] 166 = x_aload 0 (x_iconst 1 (x_p 111 58 0 4 (x_aload 0 (x_g0 111 60 0 400 (x_aload 0 (x_g0 111 59 0 400 (x_isub (x_iconst 12 (x_if_icmp .le 346 K (x_aload 0 (x_iconst 1 (x_aload 0 (x_g0 111 59 0 400 (K 166)))))))))))))) := ((xe_aload 0).trans (congrArg (x_aload 0) ((xe_iconst 1).trans (congrArg (x_iconst 1) ((xe_p (kk := 111) rfl tl_11_58).trans (congrArg (x_p 111 58 0 4) ((xe_aload 0).trans (congrArg (x_aload 0) ((xe_g0 (kk := 111) rfl tl_11_60).trans (congrArg (x_g0 111 60 0 400) ((xe_aload 0).trans (congrArg (x_aload 0) ((xe_g0 (kk := 111) rfl tl_11_59).trans (congrArg (x_g0 111 59 0 400) ((xe_isub).trans (congrArg (x_isub) ((xe_iconst 12).trans (congrArg (x_iconst 12) ((xe_if_icmp .le 346).trans (congrArg (x_if_icmp .le 346 K) ((xe_aload 0).trans (congrArg (x_aload 0) ((xe_iconst 1).trans (congrArg (x_iconst 1) ((xe_aload 0).trans (congrArg (x_aload 0) ((xe_g0 (kk := 111) rfl tl_11_59).trans (congrArg (x_g0 111 59 0 400) xe_nil))))))))))))))))))))))))))))
theorem bk_X11_take_e_169 : ck_ fX11 none cX11_take 169 [.goto 346] 172 = true := qck_r (nn_ _) (by decide +kernel)
theorem bs_X11_take_e_169 {P : Zt → Option Zv → Prop} (K : Int → Zl → List Zv → Zt → Prop) : sx_ K P [.goto 346] 172 = x_goto 346 K := (xe_goto 346)
theorem bk_X11_take_e_125 : ck_ fX11 none cX11_take 125 [.ifCond .eq 141, .aload 0, .dup, .tableswitch 0 11 60 #[], .iconst 1, .iadd, .tableswitch 1 11 60 #[], .goto 102] 141 = true := qck_r (nn_ _) (by decide +kernel)
theorem bs_X11_take_e_125 {P : Zt → Option Zv → Prop} (K : Int → Zl → List Zv → Zt → Prop) : sx_ K P [.ifCond .eq 141, .aload 0, .dup, .tableswitch 0 11 60 #[], .iconst 1, .iadd, .tableswitch 1 11 60 #[], .goto 102] 141 = x_ifCond .eq 141 K (x_aload 0 (x_dup (x_g0 111 60 0 400 (x_iconst 1 (x_iadd (x_p 111 60 0 400 (x_goto 102 K))))))) := ((xe_ifCond .eq 141).trans (congrArg (x_ifCond .eq 141 K) ((xe_aload 0).trans (congrArg (x_aload 0) ((xe_dup).trans (congrArg (x_dup) ((xe_g0 (kk := 111) rfl tl_11_60).trans (congrArg (x_g0 111 60 0 400) ((xe_iconst 1).trans (congrArg (x_iconst 1) ((xe_iadd).trans (congrArg (x_iadd) ((xe_p (kk := 111) rfl tl_11_60).trans (congrArg (x_p 111 60 0 400) (xe_goto 102)))))))))))))))
theorem bk_X11_take_e_251 : ck_ fX11 none cX11_take 251 [.tableswitch 1 11 61 #[], .aload 0, .dup, .tableswitch 0 11 60 #[], .iconst 1, .iadd, .tableswitch 1 11 60 #[], .goto 184] 267 = true := qck_r (nn_ _) (by decide +kernel)
theorem bs_X11_take_e_251 {P : Zt → Option Zv → Prop} (K : Int → Zl → List Zv → Zt → Prop) : sx_ K P [.tableswitch 1 11 61 #[], .aload 0, .dup, .tableswitch 0 11 60 #[], .iconst 1, .iadd, .tableswitch 1 11 60 #[], .goto 184] 267 = x_p 111 61 (-2147483648) 2147483647 (x_aload 0 (x_dup (x_g0 111 60 0 400 (x_iconst 1 (x_iadd (x_p 111 60 0 400 (x_goto 184 K))))))) := ((xe_p (kk := 111) rfl tl_11_61).trans (congrArg (x_p 111 61 (-2147483648) 2147483647) ((xe_aload 0).trans (congrArg (x_aload 0) ((xe_dup).trans (congrArg (x_dup) ((xe_g0 (kk := 111) rfl tl_11_60).trans (congrArg (x_g0 111 60 0 400) ((xe_iconst 1).trans (congrArg (x_iconst 1) ((xe_iadd).trans (congrArg (x_iadd) ((xe_p (kk := 111) rfl tl_11_60).trans (congrArg (x_p 111 60 0 400) (xe_goto 184)))))))))))))))
theorem bk_X11_take_e_184 : ck_ fX11 none cX11_take 184 [.aload 0, .tableswitch 0 11 60 #[], .aload 0, .tableswitch 0 11 1 #[], .if_icmp .ge 267, .aload 0, .tableswitch 0 11 0 #[], .aload 0, .tableswitch 0 11 60 #[], .iaload] 204 = true := qck_r (nn_ _) (by decide +kernel)
theorem bs_X11_take_e_184 {P : Zt → Option Zv → Prop} (K : Int → Zl → List Zv → Zt → Prop) : sx_ K P [.aload 0, .tableswitch 0 11 60 #[], .aload 0, .tableswitch 0 11 1 #[], .if_icmp .ge 267, .aload 0, .tableswitch 0 11 0 #[], .aload 0, .tableswitch 0 11 60 #[], .iaload] 204 = x_aload 0 (x_g0 111 60 0 400 (x_aload 0 (x_g0 111 1 0 400 (x_if_icmp .ge 267 K (x_aload 0 (x_g1 111 200 (x_aload 0 (x_g0 111 60 0 400 (x_iaload (K 204)))))))))) := ((xe_aload 0).trans (congrArg (x_aload 0) ((xe_g0 (kk := 111) rfl tl_11_60).trans (congrArg (x_g0 111 60 0 400) ((xe_aload 0).trans (congrArg (x_aload 0) ((xe_g0 (kk := 111) rfl tl_11_1).trans (congrArg (x_g0 111 1 0 400) ((xe_if_icmp .ge 267).trans (congrArg (x_if_icmp .ge 267 K) ((xe_aload 0).trans (congrArg (x_aload 0) ((xe_g1 (kk := 111) rfl tl_11_0).trans (congrArg (x_g1 111 200) ((xe_aload 0).trans (congrArg (x_aload 0) ((xe_g0 (kk := 111) rfl tl_11_60).trans (congrArg (x_g0 111 60 0 400) ((xe_iaload).trans (congrArg (x_iaload) xe_nil))))))))))))))))))))
theorem bk_X11_take_e_267 : ck_ fX11 none cX11_take 267 [.aload 0, .iconst 2, .tableswitch 1 11 58 #[], .aload 0, .tableswitch 0 11 60 #[], .aload 0, .tableswitch 0 11 59 #[], .isub, .iconst 3, .if_icmp .le 346, .aload 0, .iconst 1, .aload 0, .tableswitch 0 11 59 #[]] 291 = true := qck_r (nn_ _) (by decide +kernel)
theorem bs_X11_take_e_267 {P : Zt → Option Zv → Prop} (K : Int → Zl → List Zv → Zt → Prop) : sx_ K P [.aload 0, .iconst 2, .tableswitch 1 11 58 #[], .aload 0, .tableswitch 0 11 60 #[], .aload 0, .tableswitch 0 11 59 #[], .isub, .iconst 3, .if_icmp .le 346, .aload 0, .iconst 1, .aload 0, .tableswitch 0 11 59 #[]] 291 = x_aload 0 (x_iconst 2 (x_p 111 58 0 4 (x_aload 0 (x_g0 111 60 0 400 (x_aload 0 (x_g0 111 59 0 400 (x_isub (x_iconst 3 (x_if_icmp .le 346 K (x_aload 0 (x_iconst 1 (x_aload 0 (x_g0 111 59 0 400 (K 291)))))))))))))) := ((xe_aload 0).trans (congrArg (x_aload 0) ((xe_iconst 2).trans (congrArg (x_iconst 2) ((xe_p (kk := 111) rfl tl_11_58).trans (congrArg (x_p 111 58 0 4) ((xe_aload 0).trans (congrArg (x_aload 0) ((xe_g0 (kk := 111) rfl tl_11_60).trans (congrArg (x_g0 111 60 0 400) ((xe_aload 0).trans (congrArg (x_aload 0) ((xe_g0 (kk := 111) rfl tl_11_59).trans (congrArg (x_g0 111 59 0 400) ((xe_isub).trans (congrArg (x_isub) ((xe_iconst 3).trans (congrArg (x_iconst 3) ((xe_if_icmp .le 346).trans (congrArg (x_if_icmp .le 346 K) ((xe_aload 0).trans (congrArg (x_aload 0) ((xe_iconst 1).trans (congrArg (x_iconst 1) ((xe_aload 0).trans (congrArg (x_aload 0) ((xe_g0 (kk := 111) rfl tl_11_59).trans (congrArg (x_g0 111 59 0 400) xe_nil))))))))))))))))))))))))))))
theorem bk_X11_take_e_294 : ck_ fX11 none cX11_take 294 [.goto 346] 297 = true := qck_r (nn_ _) (by decide +kernel)
theorem bs_X11_take_e_294 {P : Zt → Option Zv → Prop} (K : Int → Zl → List Zv → Zt → Prop) : sx_ K P [.goto 346] 297 = x_goto 346 K := (xe_goto 346)
theorem bk_X11_take_e_207 : ck_ fX11 none cX11_take 207 [.ifCond .eq 267, .aload 0, .aload 0, .tableswitch 0 11 60 #[], .aload 0, .tableswitch 0 11 59 #[], .isub, .iconst 3, .if_icmp .ge 247, .iconst 10, .aload 0, .tableswitch 0 11 61 #[], .imul, .aload 0, .tableswitch 0 11 0 #[], .aload 0, .tableswitch 0 11 60 #[], .iaload, .iadd, .iconst 48, .isub, .goto 251] 247 = true := qck_r (nn_ _) (by decide +kernel)
theorem bs_X11_take_e_207 {P : Zt → Option Zv → Prop} (K : Int → Zl → List Zv → Zt → Prop) : sx_ K P [.ifCond .eq 267, .aload 0, .aload 0, .tableswitch 0 11 60 #[], .aload 0, .tableswitch 0 11 59 #[], .isub, .iconst 3, .if_icmp .ge 247, .iconst 10, .aload 0, .tableswitch 0 11 61 #[], .imul, .aload 0, .tableswitch 0 11 0 #[], .aload 0, .tableswitch 0 11 60 #[], .iaload, .iadd, .iconst 48, .isub, .goto 251] 247 = x_ifCond .eq 267 K (x_aload 0 (x_aload 0 (x_g0 111 60 0 400 (x_aload 0 (x_g0 111 59 0 400 (x_isub (x_iconst 3 (x_if_icmp .ge 247 K (x_iconst 10 (x_aload 0 (x_g0 111 61 (-2147483648) 2147483647 (x_imul (x_aload 0 (x_g1 111 200 (x_aload 0 (x_g0 111 60 0 400 (x_iaload (x_iadd (x_iconst 48 (x_isub (x_goto 251 K))))))))))))))))))))) := ((xe_ifCond .eq 267).trans (congrArg (x_ifCond .eq 267 K) ((xe_aload 0).trans (congrArg (x_aload 0) ((xe_aload 0).trans (congrArg (x_aload 0) ((xe_g0 (kk := 111) rfl tl_11_60).trans (congrArg (x_g0 111 60 0 400) ((xe_aload 0).trans (congrArg (x_aload 0) ((xe_g0 (kk := 111) rfl tl_11_59).trans (congrArg (x_g0 111 59 0 400) ((xe_isub).trans (congrArg (x_isub) ((xe_iconst 3).trans (congrArg (x_iconst 3) ((xe_if_icmp .ge 247).trans (congrArg (x_if_icmp .ge 247 K) ((xe_iconst 10).trans (congrArg (x_iconst 10) ((xe_aload 0).trans (congrArg (x_aload 0) ((xe_g0 (kk := 111) rfl tl_11_61).trans (congrArg (x_g0 111 61 (-2147483648) 2147483647) ((xe_imul).trans (congrArg (x_imul) ((xe_aload 0).trans (congrArg (x_aload 0) ((xe_g1 (kk := 111) rfl tl_11_0).trans (congrArg (x_g1 111 200) ((xe_aload 0).trans (congrArg (x_aload 0) ((xe_g0 (kk := 111) rfl tl_11_60).trans (congrArg (x_g0 111 60 0 400) ((xe_iaload).trans (congrArg (x_iaload) ((xe_iadd).trans (congrArg (x_iadd) ((xe_iconst 48).trans (congrArg (x_iconst 48) ((xe_isub).trans (congrArg (x_isub) (xe_goto 251)))))))))))))))))))))))))))))))))))))))))))
theorem bk_X11_take_e_247 : ck_ fX11 none cX11_take 247 [.aload 0, .tableswitch 0 11 61 #[]] 251 = true := qck_r (nn_ _) (by decide +kernel)
theorem bs_X11_take_e_247 {P : Zt → Option Zv → Prop} (K : Int → Zl → List Zv → Zt → Prop) : sx_ K P [.aload 0, .tableswitch 0 11 61 #[]] 251 = x_aload 0 (x_g0 111 61 (-2147483648) 2147483647 (K 251)) := ((xe_aload 0).trans (congrArg (x_aload 0) ((xe_g0 (kk := 111) rfl tl_11_61).trans (congrArg (x_g0 111 61 (-2147483648) 2147483647) xe_nil))))
theorem bk_X11_take_e_52 : ck_ fX11 none cX11_take 52 [.aload 0, .aload 0, .tableswitch 0 11 57 #[], .tableswitch 1 11 59 #[], .aload 0, .aload 0, .tableswitch 0 11 57 #[], .tableswitch 1 11 60 #[], .aload 0, .iconst 0, .tableswitch 1 11 58 #[], .aload 0, .tableswitch 0 11 57 #[], .aload 0, .tableswitch 0 11 1 #[], .if_icmp .ne 85, .return_] 85 = true := qck_r (nn_ _) (by decide +kernel)
theorem bs_X11_take_e_52 {P : Zt → Option Zv → Prop} (K : Int → Zl → List Zv → Zt → Prop) : sx_ K P [.aload 0, .aload 0, .tableswitch 0 11 57 #[], .tableswitch 1 11 59 #[], .aload 0, .aload 0, .tableswitch 0 11 57 #[], .tableswitch 1 11 60 #[], .aload 0, .iconst 0, .tableswitch 1 11 58 #[], .aload 0, .tableswitch 0 11 57 #[], .aload 0, .tableswitch 0 11 1 #[], .if_icmp .ne 85, .return_] 85 = x_aload 0 (x_aload 0 (x_g0 111 57 0 400 (x_p 111 59 0 400 (x_aload 0 (x_aload 0 (x_g0 111 57 0 400 (x_p 111 60 0 400 (x_aload 0 (x_iconst 0 (x_p 111 58 0 4 (x_aload 0 (x_g0 111 57 0 400 (x_aload 0 (x_g0 111 1 0 400 (x_if_icmp .ne 85 K (x_return_ P)))))))))))))))) := ((xe_aload 0).trans (congrArg (x_aload 0) ((xe_aload 0).trans (congrArg (x_aload 0) ((xe_g0 (kk := 111) rfl tl_11_57).trans (congrArg (x_g0 111 57 0 400) ((xe_p (kk := 111) rfl tl_11_59).trans (congrArg (x_p 111 59 0 400) ((xe_aload 0).trans (congrArg (x_aload 0) ((xe_aload 0).trans (congrArg (x_aload 0) ((xe_g0 (kk := 111) rfl tl_11_57).trans (congrArg (x_g0 111 57 0 400) ((xe_p (kk := 111) rfl tl_11_60).trans (congrArg (x_p 111 60 0 400) ((xe_aload 0).trans (congrArg (x_aload 0) ((xe_iconst 0).trans (congrArg (x_iconst 0) ((xe_p (kk := 111) rfl tl_11_58).trans (congrArg (x_p 111 58 0 4) ((xe_aload 0).trans (congrArg (x_aload 0) ((xe_g0 (kk := 111) rfl tl_11_57).trans (congrArg (x_g0 111 57 0 400) ((xe_aload 0).trans (congrArg (x_aload 0) ((xe_g0 (kk := 111) rfl tl_11_1).trans (congrArg (x_g0 111 1 0 400) ((xe_if_icmp .ne 85).trans (congrArg (x_if_icmp .ne 85 K) (xe_return_)))))))))))))))))))))))))))))))))
theorem bk_X11_take_e_85 : ck_ fX11 none cX11_take 85 [.aload 0, .tableswitch 0 11 0 #[], .aload 0, .tableswitch 0 11 57 #[], .iaload, .istore 1, .iload 1] 96 = true := qck_r (nn_ _) (by decide +kernel)
theorem bs_X11_take_e_85 {P : Zt → Option Zv → Prop} (K : Int → Zl → List Zv → Zt → Prop) : sx_ K P [.aload 0, .tableswitch 0 11 0 #[], .aload 0, .tableswitch 0 11 57 #[], .iaload, .istore 1, .iload 1] 96 = x_aload 0 (x_g1 111 200 (x_aload 0 (x_g0 111 57 0 400 (x_iaload (x_istore 1 (x_iload 1 (K 96))))))) := ((xe_aload 0).trans (congrArg (x_aload 0) ((xe_g1 (kk := 111) rfl tl_11_0).trans (congrArg (x_g1 111 200) ((xe_aload 0).trans (congrArg (x_aload 0) ((xe_g0 (kk := 111) rfl tl_11_57).trans (congrArg (x_g0 111 57 0 400) ((xe_iaload).trans (congrArg (x_iaload) ((xe_istore 1).trans (congrArg (x_istore 1) ((xe_iload 1).trans (congrArg (x_iload 1) xe_nil))))))))))))))
theorem bk_X11_take_e_99 : ck_ fX11 none cX11_take 99 [.ifCond .eq 172] 102 = true := qck_r (nn_ _) (by decide +kernel)
theorem bs_X11_take_e_99 {P : Zt → Option Zv → Prop} (K : Int → Zl → List Zv → Zt → Prop) : sx_ K P [.ifCond .eq 172] 102 = x_ifCond .eq 172 K (K 102) := ((xe_ifCond .eq 172).trans (congrArg (x_ifCond .eq 172 K) xe_nil))
theorem bk_X11_take_e_172 : ck_ fX11 none cX11_take 172 [.iload 1] 173 = true := qck_r (nn_ _) (by decide +kernel)
theorem bs_X11_take_e_172 {P : Zt → Option Zv → Prop} (K : Int → Zl → List Zv → Zt → Prop) : sx_ K P [.iload 1] 173 = x_iload 1 (K 173) := ((xe_iload 1).trans (congrArg (x_iload 1) xe_nil))
theorem bk_X11_take_e_176 : ck_ fX11 none cX11_take 176 [.ifCond .eq 297, .aload 0, .iconst 0, .tableswitch 1 11 61 #[]] 184 = true := qck_r (nn_ _) (by decide +kernel)
theorem bs_X11_take_e_176 {P : Zt → Option Zv → Prop} (K : Int → Zl → List Zv → Zt → Prop) : sx_ K P [.ifCond .eq 297, .aload 0, .iconst 0, .tableswitch 1 11 61 #[]] 184 = x_ifCond .eq 297 K (x_aload 0 (x_iconst 0 (x_p 111 61 (-2147483648) 2147483647 (K 184)))) := ((xe_ifCond .eq 297).trans (congrArg (x_ifCond .eq 297 K) ((xe_aload 0).trans (congrArg (x_aload 0) ((xe_iconst 0).trans (congrArg (x_iconst 0) ((xe_p (kk := 111) rfl tl_11_61).trans (congrArg (x_p 111 61 (-2147483648) 2147483647) xe_nil))))))))
theorem bk_X11_take_e_297 : ck_ fX11 none cX11_take 297 [.iload 1, .iconst 59, .if_icmp .eq 309, .iload 1, .iconst 44, .if_icmp .ne 337, .aload 0, .iload 1, .iconst 59, .if_icmp .ne 320, .iconst 3, .goto 321] 320 = true := qck_r (nn_ _) (by decide +kernel)
theorem bs_X11_take_e_297 {P : Zt → Option Zv → Prop} (K : Int → Zl → List Zv → Zt → Prop) : sx_ K P [.iload 1, .iconst 59, .if_icmp .eq 309, .iload 1, .iconst 44, .if_icmp .ne 337, .aload 0, .iload 1, .iconst 59, .if_icmp .ne 320, .iconst 3, .goto 321] 320 = x_iload 1 (x_iconst 59 (x_if_icmp .eq 309 K (x_iload 1 (x_iconst 44 (x_if_icmp .ne 337 K (x_aload 0 (x_iload 1 (x_iconst 59 (x_if_icmp .ne 320 K (x_iconst 3 (x_goto 321 K))))))))))) := ((xe_iload 1).trans (congrArg (x_iload 1) ((xe_iconst 59).trans (congrArg (x_iconst 59) ((xe_if_icmp .eq 309).trans (congrArg (x_if_icmp .eq 309 K) ((xe_iload 1).trans (congrArg (x_iload 1) ((xe_iconst 44).trans (congrArg (x_iconst 44) ((xe_if_icmp .ne 337).trans (congrArg (x_if_icmp .ne 337 K) ((xe_aload 0).trans (congrArg (x_aload 0) ((xe_iload 1).trans (congrArg (x_iload 1) ((xe_iconst 59).trans (congrArg (x_iconst 59) ((xe_if_icmp .ne 320).trans (congrArg (x_if_icmp .ne 320 K) ((xe_iconst 3).trans (congrArg (x_iconst 3) (xe_goto 321)))))))))))))))))))))))
theorem bk_X11_take_e_309 : ck_ fX11 none cX11_take 309 [.aload 0, .iload 1, .iconst 59, .if_icmp .ne 320, .iconst 3, .goto 321] 320 = true := qck_r (nn_ _) (by decide +kernel)
theorem bs_X11_take_e_309 {P : Zt → Option Zv → Prop} (K : Int → Zl → List Zv → Zt → Prop) : sx_ K P [.aload 0, .iload 1, .iconst 59, .if_icmp .ne 320, .iconst 3, .goto 321] 320 = x_aload 0 (x_iload 1 (x_iconst 59 (x_if_icmp .ne 320 K (x_iconst 3 (x_goto 321 K))))) := ((xe_aload 0).trans (congrArg (x_aload 0) ((xe_iload 1).trans (congrArg (x_iload 1) ((xe_iconst 59).trans (congrArg (x_iconst 59) ((xe_if_icmp .ne 320).trans (congrArg (x_if_icmp .ne 320 K) ((xe_iconst 3).trans (congrArg (x_iconst 3) (xe_goto 321)))))))))))
theorem bk_X11_take_e_320 : ck_ fX11 none cX11_take 320 [.iconst 4, .tableswitch 1 11 58 #[], .aload 0, .dup, .tableswitch 0 11 60 #[], .iconst 1, .iadd, .tableswitch 1 11 60 #[], .goto 346] 337 = true := qck_r (nn_ _) (by decide +kernel)
theorem bs_X11_take_e_320 {P : Zt → Option Zv → Prop} (K : Int → Zl → List Zv → Zt → Prop) : sx_ K P [.iconst 4, .tableswitch 1 11 58 #[], .aload 0, .dup, .tableswitch 0 11 60 #[], .iconst 1, .iadd, .tableswitch 1 11 60 #[], .goto 346] 337 = x_iconst 4 (x_p 111 58 0 4 (x_aload 0 (x_dup (x_g0 111 60 0 400 (x_iconst 1 (x_iadd (x_p 111 60 0 400 (x_goto 346 K)))))))) := ((xe_iconst 4).trans (congrArg (x_iconst 4) ((xe_p (kk := 111) rfl tl_11_58).trans (congrArg (x_p 111 58 0 4) ((xe_aload 0).trans (congrArg (x_aload 0) ((xe_dup).trans (congrArg (x_dup) ((xe_g0 (kk := 111) rfl tl_11_60).trans (congrArg (x_g0 111 60 0 400) ((xe_iconst 1).trans (congrArg (x_iconst 1) ((xe_iadd).trans (congrArg (x_iadd) ((xe_p (kk := 111) rfl tl_11_60).trans (congrArg (x_p 111 60 0 400) (xe_goto 346)))))))))))))))))
theorem bk_X11_take_e_321 : ck_ fX11 none cX11_take 321 [.tableswitch 1 11 58 #[], .aload 0, .dup, .tableswitch 0 11 60 #[], .iconst 1, .iadd, .tableswitch 1 11 60 #[], .goto 346] 337 = true := qck_r (nn_ _) (by decide +kernel)
theorem bs_X11_take_e_321 {P : Zt → Option Zv → Prop} (K : Int → Zl → List Zv → Zt → Prop) : sx_ K P [.tableswitch 1 11 58 #[], .aload 0, .dup, .tableswitch 0 11 60 #[], .iconst 1, .iadd, .tableswitch 1 11 60 #[], .goto 346] 337 = x_p 111 58 0 4 (x_aload 0 (x_dup (x_g0 111 60 0 400 (x_iconst 1 (x_iadd (x_p 111 60 0 400 (x_goto 346 K))))))) := ((xe_p (kk := 111) rfl tl_11_58).trans (congrArg (x_p 111 58 0 4) ((xe_aload 0).trans (congrArg (x_aload 0) ((xe_dup).trans (congrArg (x_dup) ((xe_g0 (kk := 111) rfl tl_11_60).trans (congrArg (x_g0 111 60 0 400) ((xe_iconst 1).trans (congrArg (x_iconst 1) ((xe_iadd).trans (congrArg (x_iadd) ((xe_p (kk := 111) rfl tl_11_60).trans (congrArg (x_p 111 60 0 400) (xe_goto 346)))))))))))))))
theorem bk_X11_take_e_337 : ck_ fX11 none cX11_take 337 [.aload 0, .iconst 1, .aload 0, .tableswitch 0 11 59 #[]] 343 = true := qck_r (nn_ _) (by decide +kernel)
theorem bs_X11_take_e_337 {P : Zt → Option Zv → Prop} (K : Int → Zl → List Zv → Zt → Prop) : sx_ K P [.aload 0, .iconst 1, .aload 0, .tableswitch 0 11 59 #[]] 343 = x_aload 0 (x_iconst 1 (x_aload 0 (x_g0 111 59 0 400 (K 343)))) := ((xe_aload 0).trans (congrArg (x_aload 0) ((xe_iconst 1).trans (congrArg (x_iconst 1) ((xe_aload 0).trans (congrArg (x_aload 0) ((xe_g0 (kk := 111) rfl tl_11_59).trans (congrArg (x_g0 111 59 0 400) xe_nil))))))))
theorem bk_X11_take_e_0 : ck_ fX11 none cX11_take 0 [.aload 0, .tableswitch 0 11 57 #[], .aload 0, .tableswitch 0 11 1 #[], .if_icmp .ge 52, .aload 0, .tableswitch 0 11 0 #[], .aload 0, .tableswitch 0 11 57 #[], .iaload, .iconst 10, .if_icmp .eq 39, .aload 0, .tableswitch 0 11 0 #[], .aload 0, .tableswitch 0 11 57 #[], .iaload, .iconst 32, .if_icmp .ne 52, .aload 0, .dup, .tableswitch 0 11 57 #[], .iconst 1, .iadd, .tableswitch 1 11 57 #[], .goto 0] 52 = true := qck_r (nn_ _) (by decide +kernel)
theorem bs_X11_take_e_0 {P : Zt → Option Zv → Prop} (K : Int → Zl → List Zv → Zt → Prop) : sx_ K P [.aload 0, .tableswitch 0 11 57 #[], .aload 0, .tableswitch 0 11 1 #[], .if_icmp .ge 52, .aload 0, .tableswitch 0 11 0 #[], .aload 0, .tableswitch 0 11 57 #[], .iaload, .iconst 10, .if_icmp .eq 39, .aload 0, .tableswitch 0 11 0 #[], .aload 0, .tableswitch 0 11 57 #[], .iaload, .iconst 32, .if_icmp .ne 52, .aload 0, .dup, .tableswitch 0 11 57 #[], .iconst 1, .iadd, .tableswitch 1 11 57 #[], .goto 0] 52 = x_aload 0 (x_g0 111 57 0 400 (x_aload 0 (x_g0 111 1 0 400 (x_if_icmp .ge 52 K (x_aload 0 (x_g1 111 200 (x_aload 0 (x_g0 111 57 0 400 (x_iaload (x_iconst 10 (x_if_icmp .eq 39 K (x_aload 0 (x_g1 111 200 (x_aload 0 (x_g0 111 57 0 400 (x_iaload (x_iconst 32 (x_if_icmp .ne 52 K (x_aload 0 (x_dup (x_g0 111 57 0 400 (x_iconst 1 (x_iadd (x_p 111 57 0 400 (x_goto 0 K))))))))))))))))))))))))) := ((xe_aload 0).trans (congrArg (x_aload 0) ((xe_g0 (kk := 111) rfl tl_11_57).trans (congrArg (x_g0 111 57 0 400) ((xe_aload 0).trans (congrArg (x_aload 0) ((xe_g0 (kk := 111) rfl tl_11_1).trans (congrArg (x_g0 111 1 0 400) ((xe_if_icmp .ge 52).trans (congrArg (x_if_icmp .ge 52 K) ((xe_aload 0).trans (congrArg (x_aload 0) ((xe_g1 (kk := 111) rfl tl_11_0).trans (congrArg (x_g1 111 200) ((xe_aload 0).trans (congrArg (x_aload 0) ((xe_g0 (kk := 111) rfl tl_11_57).trans (congrArg (x_g0 111 57 0 400) ((xe_iaload).trans (congrArg (x_iaload) ((xe_iconst 10).trans (congrArg (x_iconst 10) ((xe_if_icmp .eq 39).trans (congrArg (x_if_icmp .eq 39 K) ((xe_aload 0).trans (congrArg (x_aload 0) ((xe_g1 (kk := 111) rfl tl_11_0).trans (congrArg (x_g1 111 200) ((xe_aload 0).trans (congrArg (x_aload 0) ((xe_g0 (kk := 111) rfl tl_11_57).trans (congrArg (x_g0 111 57 0 400) ((xe_iaload).trans (congrArg (x_iaload) ((xe_iconst 32).trans (congrArg (x_iconst 32) ((xe_if_icmp .ne 52).trans (congrArg (x_if_icmp .ne 52 K) ((xe_aload 0).trans (congrArg (x_aload 0) ((xe_dup).trans (congrArg (x_dup) ((xe_g0 (kk := 111) rfl tl_11_57).trans (congrArg (x_g0 111 57 0 400) ((xe_iconst 1).trans (congrArg (x_iconst 1) ((xe_iadd).trans (congrArg (x_iadd) ((xe_p (kk := 111) rfl tl_11_57).trans (congrArg (x_p 111 57 0 400) (xe_goto 0)))))))))))))))))))))))))))))))))))))))))))))))))))
theorem bk_X11_take_e_39 : ck_ fX11 none cX11_take 39 [.aload 0, .dup, .tableswitch 0 11 57 #[], .iconst 1, .iadd, .tableswitch 1 11 57 #[], .goto 0] 52 = true := qck_r (nn_ _) (by decide +kernel)
theorem bs_X11_take_e_39 {P : Zt → Option Zv → Prop} (K : Int → Zl → List Zv → Zt → Prop) : sx_ K P [.aload 0, .dup, .tableswitch 0 11 57 #[], .iconst 1, .iadd, .tableswitch 1 11 57 #[], .goto 0] 52 = x_aload 0 (x_dup (x_g0 111 57 0 400 (x_iconst 1 (x_iadd (x_p 111 57 0 400 (x_goto 0 K)))))) := ((xe_aload 0).trans (congrArg (x_aload 0) ((xe_dup).trans (congrArg (x_dup) ((xe_g0 (kk := 111) rfl tl_11_57).trans (congrArg (x_g0 111 57 0 400) ((xe_iconst 1).trans (congrArg (x_iconst 1) ((xe_iadd).trans (congrArg (x_iadd) ((xe_p (kk := 111) rfl tl_11_57).trans (congrArg (x_p 111 57 0 400) (xe_goto 0)))))))))))))
abbrev po_X11_take_e (T : Zt) : Zt → Option Zv → Prop := fun T' r => r = none ∧ fr_ [(111, [57, 58, 59, 60, 61, 62, 63])] T T' ∧ (T' 111 0 57 = T' 111 0 60 ∧ TM9_ (fun j => T 200 0 j) (T 111 0 1) (T 111 0 57) (T' 111 0 59) (T' 111 0 60) (T' 111 0 58) (T' 111 0 61) (T' 111 0 62) (T' 111 0 63) (T 111 0 63))
set_option maxHeartbeats 4000000 in
theorem ct_X11_take_e {T : Zt} (h1 : T 111 0 57 ≤ T 111 0 1) (h62 : T 111 0 62 = 0) : Ct_ yX11_take zX11_take T [vR 111 0] (po_X11_take_e T) := by
  refine ct_of pn_11 rfl rfl (Nat.le_of_ble_eq_true rfl) (fun hT hav => ?_)
  have hz : zX11_take.2.2.2.1 = some .boolean → ∀ (T' : Zt) (x : Int), po_X11_take_e T T' (some (vI x)) → 0 ≤ x ∧ x ≤ 1 := fun h => by cases h
  have hb_1 : 0 ≤ T 111 0 1 ∧ T 111 0 1 ≤ 400 := bd_f hT 111 1 tl_11_1 0
  have hb_57 : 0 ≤ T 111 0 57 ∧ T 111 0 57 ≤ 400 := bd_f hT 111 57 tl_11_57 0
  show J_ zX11_take T (po_X11_take_e T) 0 0 0 [some (vR 111 0), none] [] T
  have c_0 : ∀ (nn : Nat) (T1 : Zt), ((T 111 0 1 - T1 111 0 57).toNat) ≤ nn → (fr_ [(111, [57])] T T1) → (T 111 0 57 ≤ T1 111 0 57 ∧ T1 111 0 57 ≤ T 111 0 1) → (BP9_ (fun j => T 200 0 j) (T 111 0 57) (T1 111 0 57)) → J_ zX11_take T (po_X11_take_e T) 0 0 0 [some (vR 111 0), none] [] T1 := by
    intro nn
    induction nn using Nat.strongRecOn with
    | _ nn ih_0 =>
      intro T1 hm_0 hf_0 i1 i2
      replace hm_0 := fun (_ : Unit) => hm_0
      have c_52 : (SK9_ (fun j => T 200 0 j) (T 111 0 1) (T 111 0 57) (T1 111 0 57)) → J_ zX11_take T (po_X11_take_e T) 0 0 52 [some (vR 111 0), none] [] T1 := by
        intro  sk
        have c_346 : ∀ (T3 : Zt), (fr_ [(111, [57, 58, 59, 60, 61, 62, 63])] T T3) → (0 ≤ T3 111 0 60 ∧ T3 111 0 60 ≤ T 111 0 1) → (TM9_ (fun j => T 200 0 j) (T 111 0 1) (T 111 0 57) (T3 111 0 59) (T3 111 0 60) (T3 111 0 58) (T3 111 0 61) (T3 111 0 62) (T3 111 0 63) (T 111 0 63)) → J_ zX11_take T (po_X11_take_e T) 0 0 346 [some (vR 111 0), none] [] T3 := by
          intro T3 hf_346 j1 j2
          refine j_blx (F := fX11) tb_X11 (nn_ _) bk_X11_take_e_346 bs_X11_take_e_346 hz (fun K hK => ?_)
          intro b1 b1b
          refine bd_i (by omega) ?_
          refine x_nm (fun U2 hU2 => ?_)
          have e3 := up_f hU2
          refine (show po_X11_take_e T U2 (none) from ?_)
          have e4 : U2 111 0 57 = T3 111 0 60 := up_f hU2
          have e5 : U2 111 0 60 = T3 111 0 60 := up_j hU2 (by decide) 111 0
          have e6 : U2 111 0 59 = T3 111 0 59 := up_j hU2 (by decide) 111 0
          have e7 : U2 111 0 58 = T3 111 0 58 := up_j hU2 (by decide) 111 0
          have e8 : U2 111 0 61 = T3 111 0 61 := up_j hU2 (by decide) 111 0
          have e9 : U2 111 0 62 = T3 111 0 62 := up_j hU2 (by decide) 111 0
          have e10 : U2 111 0 63 = T3 111 0 63 := up_j hU2 (by decide) 111 0
          have w0 := up_f hU2
          have w58 : U2 111 0 58 = T3 111 0 58 := up_j hU2 (by decide) 111 0
          have w59 : U2 111 0 59 = T3 111 0 59 := up_j hU2 (by decide) 111 0
          have w60 : U2 111 0 60 = T3 111 0 60 := up_j hU2 (by decide) 111 0
          have w61 : U2 111 0 61 = T3 111 0 61 := up_j hU2 (by decide) 111 0
          have w62 : U2 111 0 62 = T3 111 0 62 := up_j hU2 (by decide) 111 0
          have w63 : U2 111 0 63 = T3 111 0 63 := up_j hU2 (by decide) 111 0
          refine ⟨rfl, fr_u (fr_t (fr_0 _ _) (fr_s hf_346 rfl)) hU2 rfl, by omega, ?_⟩
          rw [w58, w59, w60, w61, w62, w63]
          exact j2
        have c_102 : ∀ (nn : Nat) (T2 : Zt), ((T 111 0 1 - T2 111 0 60).toNat) ≤ nn → (fr_ [(111, [57, 58, 59, 60, 61, 62, 63])] T T2) → (T2 111 0 59 = T1 111 0 57 ∧ T1 111 0 57 ≤ T2 111 0 60 ∧ T2 111 0 60 ≤ T 111 0 1 ∧ T1 111 0 57 < T 111 0 1 ∧ T2 111 0 62 = 0 ∧ T2 111 0 63 = T 111 0 63) → (97 ≤ T 200 0 (T1 111 0 57) ∧ T 200 0 (T1 111 0 57) ≤ 122) → (RP9_ (fun j => T 200 0 j) 97 122 (T1 111 0 57) (T2 111 0 60)) → J_ zX11_take T (po_X11_take_e T) 0 0 102 [some (vR 111 0), none] [] T2 := by
          intro nn
          induction nn using Nat.strongRecOn with
          | _ nn ih_102 =>
            intro T2 hm_102 hf_102 k1 k2 kr
            replace hm_102 := fun (_ : Unit) => hm_102
            have cg : T2 111 0 60 = T1 111 0 57 → T 200 0 (T2 111 0 60) = T 200 0 (T1 111 0 57) := fun z => by rw [z]
            refine j_blx (F := fX11) tb_X11 (nn_ _) bk_X11_take_e_102 bs_X11_take_e_102 hz (fun K hK => ?_)
            intro b11 b11b
            intro b12 b12b
            have e13 : T2 111 0 1 = T 111 0 1 := hf_102 111 0 1 rfl
            rw [e13] at b12 b12b ⊢
            refine And.intro (fun c14 => ?_) (fun c14 => ?_)
            · refine hK 141 _ [] T2 ?_
              refine j_blx (F := fX11) tb_X11 (nn_ _) bk_X11_take_e_141 bs_X11_take_e_141 hz (fun K hK => ?_)
              refine bd_i (by omega) ?_
              refine x_nm (fun U15 hU15 => ?_)
              have e16 := up_f hU15
              intro b17 b17b
              have e18 : U15 111 0 60 = T2 111 0 60 := up_j hU15 (by decide) 111 0
              rw [e18] at b17 b17b ⊢
              intro b19 b19b
              have e20 : U15 111 0 59 = T2 111 0 59 := up_j hU15 (by decide) 111 0
              rw [e20] at b19 b19b ⊢
              refine rg_i (by omega) ?_
              refine And.intro (fun c21 => ?_) (fun c21 => ?_)
              · refine hK 346 _ [] U15 ?_
                have e22 : U15 111 0 60 = T2 111 0 60 := up_j hU15 (by decide) 111 0
                have e23 : U15 111 0 59 = T2 111 0 59 := up_j hU15 (by decide) 111 0
                have e24 : U15 111 0 58 = 1 := up_f hU15
                have e25 : U15 111 0 61 = T2 111 0 61 := up_j hU15 (by decide) 111 0
                have e26 : U15 111 0 62 = T2 111 0 62 := up_j hU15 (by decide) 111 0
                have e27 : U15 111 0 63 = T2 111 0 63 := up_j hU15 (by decide) 111 0
                refine c_346 U15 ?_ ?_ ?_
                · exact fr_u (fr_t (fr_0 _ _) (fr_s hf_102 rfl)) hU15 rfl
                · omega
                · exact tm9_1 sk (by omega) (by omega) (show 97 ≤ T 200 0 (T1 111 0 57) ∧ T 200 0 (T1 111 0 57) ≤ 122 by omega) (by rw [show U15 111 0 60 = T2 111 0 60 by omega]; exact ⟨by omega, by omega, kr, fun g => (show ¬ (97 ≤ T 200 0 (T2 111 0 60) ∧ T 200 0 (T2 111 0 60) ≤ 122) by omega)⟩) (by omega)
              · intro b28 b28b
                have e29 : U15 111 0 59 = T2 111 0 59 := up_j hU15 (by decide) 111 0
                rw [e29] at b28 b28b ⊢
                refine hK 166 _ [vI (T2 111 0 59), vI 1, vR 111 0] U15 ?_
                have e30 : U15 111 0 62 = T2 111 0 62 := up_j hU15 (by decide) 111 0
                refine j_callV (y := yX11_bad) (Yc := zX11_bad) (rest := []) [vI 1, vI (T2 111 0 59)] (ct_X11_bad_e (T := U15) (by omega) (by omega)) cl_X11_281 (qd_c (by decide +kernel)) (nn_ _) rfl (rf_of rfl) (Nat.le_of_ble_eq_true rfl) (Nat.le_of_ble_eq_true rfl) (Nat.le_of_ble_eq_true rfl) rfl ?_
                rintro U31 _ ⟨rfl, fU31, qU31⟩
                show J_ zX11_take T (po_X11_take_e T) 0 0 169 _ [] U31
                refine j_blx (F := fX11) tb_X11 (nn_ _) bk_X11_take_e_169 bs_X11_take_e_169 hz (fun K hK => ?_)
                refine hK 346 _ [] U31 ?_
                have e32 : U31 111 0 60 = T2 111 0 60 := (fU31 111 0 60 rfl).trans (up_j hU15 (by decide) 111 0)
                have e33 : U31 111 0 59 = T2 111 0 59 := (fU31 111 0 59 rfl).trans (up_j hU15 (by decide) 111 0)
                have e34 : U31 111 0 58 = 1 := (fU31 111 0 58 rfl).trans (up_f hU15)
                have e35 : U31 111 0 61 = T2 111 0 61 := (fU31 111 0 61 rfl).trans (up_j hU15 (by decide) 111 0)
                refine c_346 U31 ?_ ?_ ?_
                · exact fr_t (fr_u (fr_t (fr_0 _ _) (fr_s hf_102 rfl)) hU15 rfl) (fr_s fU31 rfl)
                · omega
                · exact tm9_1 sk (by omega) (by omega) (show 97 ≤ T 200 0 (T1 111 0 57) ∧ T 200 0 (T1 111 0 57) ≤ 122 by omega) (by rw [show U31 111 0 60 = T2 111 0 60 by omega]; exact ⟨by omega, by omega, kr, fun g => (show ¬ (97 ≤ T 200 0 (T2 111 0 60) ∧ T 200 0 (T2 111 0 60) ≤ 122) by omega)⟩) (by omega)
            · intro b36 b36b
              refine ix_i (by omega) ?_
              intro b37 b37b
              have e38 : T2 200 0 (T2 111 0 60) = T 200 0 (T2 111 0 60) := hf_102 200 0 (T2 111 0 60) rfl
              rw [e38] at b37 b37b ⊢
              refine hK 122 _ [vI (T 200 0 (T2 111 0 60))] T2 ?_
              refine j_callS (y := yX11_isLetter) (Yc := zX11_isLetter) (rest := []) [vI (T 200 0 (T2 111 0 60))] (ct_X11_isLetter (T := T2)) cl_X11_277 (qd_c (by decide +kernel)) (nn_ _) rfl (rf_of rfl) (Nat.le_of_ble_eq_true rfl) (Nat.le_of_ble_eq_true rfl) (Nat.le_of_ble_eq_true rfl) rfl ?_
              rintro _ _ ⟨rfl, x39, rfl, hx39⟩
              show J_ zX11_take T (po_X11_take_e T) 0 0 125 _ [vI x39] T2
              refine j_blx (F := fX11) tb_X11 (nn_ _) bk_X11_take_e_125 bs_X11_take_e_125 hz (fun K hK => ?_)
              refine And.intro (fun c40 => ?_) (fun c40 => ?_)
              · replace hx39 := hx39.resolve_left (fun z => absurd (c40.symm.trans z.1) (by decide))
                clear c40
                refine hK 141 _ [] T2 ?_
                refine j_blx (F := fX11) tb_X11 (nn_ _) bk_X11_take_e_141 bs_X11_take_e_141 hz (fun K hK => ?_)
                refine bd_i (by omega) ?_
                refine x_nm (fun U41 hU41 => ?_)
                have e42 := up_f hU41
                intro b43 b43b
                have e44 : U41 111 0 60 = T2 111 0 60 := up_j hU41 (by decide) 111 0
                rw [e44] at b43 b43b ⊢
                intro b45 b45b
                have e46 : U41 111 0 59 = T2 111 0 59 := up_j hU41 (by decide) 111 0
                rw [e46] at b45 b45b ⊢
                refine rg_i (by omega) ?_
                refine And.intro (fun c47 => ?_) (fun c47 => ?_)
                · refine hK 346 _ [] U41 ?_
                  have e48 : U41 111 0 60 = T2 111 0 60 := up_j hU41 (by decide) 111 0
                  have e49 : U41 111 0 59 = T2 111 0 59 := up_j hU41 (by decide) 111 0
                  have e50 : U41 111 0 58 = 1 := up_f hU41
                  have e51 : U41 111 0 61 = T2 111 0 61 := up_j hU41 (by decide) 111 0
                  have e52 : U41 111 0 62 = T2 111 0 62 := up_j hU41 (by decide) 111 0
                  have e53 : U41 111 0 63 = T2 111 0 63 := up_j hU41 (by decide) 111 0
                  refine c_346 U41 ?_ ?_ ?_
                  · exact fr_u (fr_t (fr_0 _ _) (fr_s hf_102 rfl)) hU41 rfl
                  · omega
                  · exact tm9_1 sk (by omega) (by omega) (show 97 ≤ T 200 0 (T1 111 0 57) ∧ T 200 0 (T1 111 0 57) ≤ 122 by omega) (by rw [show U41 111 0 60 = T2 111 0 60 by omega]; exact ⟨by omega, by omega, kr, fun g => (show ¬ (97 ≤ T 200 0 (T2 111 0 60) ∧ T 200 0 (T2 111 0 60) ≤ 122) by omega)⟩) (by omega)
                · intro b54 b54b
                  have e55 : U41 111 0 59 = T2 111 0 59 := up_j hU41 (by decide) 111 0
                  rw [e55] at b54 b54b ⊢
                  refine hK 166 _ [vI (T2 111 0 59), vI 1, vR 111 0] U41 ?_
                  have e56 : U41 111 0 62 = T2 111 0 62 := up_j hU41 (by decide) 111 0
                  refine j_callV (y := yX11_bad) (Yc := zX11_bad) (rest := []) [vI 1, vI (T2 111 0 59)] (ct_X11_bad_e (T := U41) (by omega) (by omega)) cl_X11_281 (qd_c (by decide +kernel)) (nn_ _) rfl (rf_of rfl) (Nat.le_of_ble_eq_true rfl) (Nat.le_of_ble_eq_true rfl) (Nat.le_of_ble_eq_true rfl) rfl ?_
                  rintro U57 _ ⟨rfl, fU57, qU57⟩
                  show J_ zX11_take T (po_X11_take_e T) 0 0 169 _ [] U57
                  refine j_blx (F := fX11) tb_X11 (nn_ _) bk_X11_take_e_169 bs_X11_take_e_169 hz (fun K hK => ?_)
                  refine hK 346 _ [] U57 ?_
                  have e58 : U57 111 0 60 = T2 111 0 60 := (fU57 111 0 60 rfl).trans (up_j hU41 (by decide) 111 0)
                  have e59 : U57 111 0 59 = T2 111 0 59 := (fU57 111 0 59 rfl).trans (up_j hU41 (by decide) 111 0)
                  have e60 : U57 111 0 58 = 1 := (fU57 111 0 58 rfl).trans (up_f hU41)
                  have e61 : U57 111 0 61 = T2 111 0 61 := (fU57 111 0 61 rfl).trans (up_j hU41 (by decide) 111 0)
                  refine c_346 U57 ?_ ?_ ?_
                  · exact fr_t (fr_u (fr_t (fr_0 _ _) (fr_s hf_102 rfl)) hU41 rfl) (fr_s fU57 rfl)
                  · omega
                  · exact tm9_1 sk (by omega) (by omega) (show 97 ≤ T 200 0 (T1 111 0 57) ∧ T 200 0 (T1 111 0 57) ≤ 122 by omega) (by rw [show U57 111 0 60 = T2 111 0 60 by omega]; exact ⟨by omega, by omega, kr, fun g => (show ¬ (97 ≤ T 200 0 (T2 111 0 60) ∧ T 200 0 (T2 111 0 60) ≤ 122) by omega)⟩) (by omega)
              · replace hx39 := hx39.resolve_right (fun z => c40 z.1)
                clear c40
                intro b62 b62b
                refine rg_i (by omega) ?_
                refine bd_i (by omega) ?_
                refine x_nm (fun U63 hU63 => ?_)
                have e64 := up_f hU63
                refine hK 102 _ [] U63 ?_
                have e65 : U63 111 0 59 = T2 111 0 59 := up_j hU63 (by decide) 111 0
                have e66 : U63 111 0 60 = (T2 111 0 60) + 1 := up_f hU63
                have e67 : U63 111 0 62 = T2 111 0 62 := up_j hU63 (by decide) 111 0
                have e68 : U63 111 0 63 = T2 111 0 63 := up_j hU63 (by decide) 111 0
                refine ih_102 _ ?_ U63 (Nat.le_refl _) ?_ ?_ ?_ ?_
                · have hm_102 := hm_102 (); omega
                · exact fr_u (fr_t (fr_0 _ _) (fr_s hf_102 rfl)) hU63 rfl
                · omega
                · omega
                · rw [show U63 111 0 60 = T2 111 0 60 + 1 by omega]
                  exact rp9_s kr (show _ ≤ T 200 0 (T2 111 0 60) ∧ T 200 0 (T2 111 0 60) ≤ _ by omega)
        have c_184 : ∀ (nn : Nat) (T2 : Zt), ((T 111 0 1 - T2 111 0 60).toNat) ≤ nn → (fr_ [(111, [57, 58, 59, 60, 61, 62, 63])] T T2) → (T2 111 0 59 = T1 111 0 57 ∧ T1 111 0 57 ≤ T2 111 0 60 ∧ T2 111 0 60 ≤ T 111 0 1 ∧ T1 111 0 57 < T 111 0 1 ∧ T2 111 0 62 = 0 ∧ T2 111 0 63 = T 111 0 63) → (48 ≤ T 200 0 (T1 111 0 57) ∧ T 200 0 (T1 111 0 57) ≤ 57) → (RP9_ (fun j => T 200 0 j) 48 57 (T1 111 0 57) (T2 111 0 60)) → (0 ≤ T2 111 0 61 ∧ T2 111 0 61 ≤ 999 ∧ (T2 111 0 60 = T1 111 0 57 → T2 111 0 61 = 0) ∧ (T2 111 0 60 = T1 111 0 57 + 1 → T2 111 0 61 ≤ 9) ∧ (T2 111 0 60 = T1 111 0 57 + 2 → T2 111 0 61 ≤ 99)) → (T2 111 0 60 - T1 111 0 57 ≤ 3 → T2 111 0 61 = nv9_ (fun j => T 200 0 j) (T1 111 0 57) (T2 111 0 60 - T1 111 0 57).toNat) → J_ zX11_take T (po_X11_take_e T) 0 0 184 [some (vR 111 0), none] [] T2 := by
          intro nn
          induction nn using Nat.strongRecOn with
          | _ nn ih_184 =>
            intro T2 hm_184 hf_184 k1 k2 kr kb kv
            replace hm_184 := fun (_ : Unit) => hm_184
            have cg : T2 111 0 60 = T1 111 0 57 → T 200 0 (T2 111 0 60) = T 200 0 (T1 111 0 57) := fun z => by rw [z]
            have c_251 : ∀ (v : Int), (0 ≤ v ∧ v ≤ 999) → (T2 111 0 60 < T 111 0 1 ∧ T 111 0 1 ≤ 400) → ((T2 111 0 60 - T1 111 0 57 < 3 → v = 10 * T2 111 0 61 + T 200 0 (T2 111 0 60) - 48) ∧ (¬ T2 111 0 60 - T1 111 0 57 < 3 → v = T2 111 0 61)) → (48 ≤ T 200 0 (T2 111 0 60) ∧ T 200 0 (T2 111 0 60) ≤ 57) → J_ zX11_take T (po_X11_take_e T) 0 0 251 [some (vR 111 0), none] [vI v, vR 111 0] T2 := by
              intro v v1 v2 v3 v4
              refine j_blx (F := fX11) tb_X11 (nn_ _) bk_X11_take_e_251 bs_X11_take_e_251 hz (fun K hK => ?_)
              refine bd_i (by omega) ?_
              refine x_nm (fun U69 hU69 => ?_)
              have e70 := up_f hU69
              intro b71 b71b
              have e72 : U69 111 0 60 = T2 111 0 60 := up_j hU69 (by decide) 111 0
              rw [e72] at b71 b71b ⊢
              refine rg_i (by omega) ?_
              refine bd_i (by omega) ?_
              refine x_nm (fun U73 hU73 => ?_)
              have e74 := up_f hU73
              refine hK 184 _ [] U73 ?_
              have e75 : U73 111 0 59 = T2 111 0 59 := (up_j hU73 (by decide) 111 0).trans (up_j hU69 (by decide) 111 0)
              have e76 : U73 111 0 60 = (T2 111 0 60) + 1 := up_f hU73
              have e77 : U73 111 0 62 = T2 111 0 62 := (up_j hU73 (by decide) 111 0).trans (up_j hU69 (by decide) 111 0)
              have e78 : U73 111 0 63 = T2 111 0 63 := (up_j hU73 (by decide) 111 0).trans (up_j hU69 (by decide) 111 0)
              have e79 : U73 111 0 61 = v := (up_j hU73 (by decide) 111 0).trans (up_f hU69)
              refine ih_184 _ ?_ U73 (Nat.le_refl _) ?_ ?_ ?_ ?_ ?_ ?_
              · have hm_184 := hm_184 (); omega
              · exact fr_u (fr_u (fr_t (fr_0 _ _) (fr_s hf_184 rfl)) hU69 rfl) hU73 rfl
              · omega
              · omega
              · rw [show U73 111 0 60 = T2 111 0 60 + 1 by omega]
                exact rp9_s kr (show _ ≤ T 200 0 (T2 111 0 60) ∧ T 200 0 (T2 111 0 60) ≤ _ by omega)
              · omega
              · intro z
                rw [show U73 111 0 60 = T2 111 0 60 + 1 by omega]
                refine nv9_s (by omega) ?_
                rw [← kv (by omega)]
                show U73 111 0 61 = 10 * T2 111 0 61 + T 200 0 (T2 111 0 60) - 48
                omega
            refine j_blx (F := fX11) tb_X11 (nn_ _) bk_X11_take_e_184 bs_X11_take_e_184 hz (fun K hK => ?_)
            intro b80 b80b
            intro b81 b81b
            have e82 : T2 111 0 1 = T 111 0 1 := hf_184 111 0 1 rfl
            rw [e82] at b81 b81b ⊢
            refine And.intro (fun c83 => ?_) (fun c83 => ?_)
            · refine hK 267 _ [] T2 ?_
              refine j_blx (F := fX11) tb_X11 (nn_ _) bk_X11_take_e_267 bs_X11_take_e_267 hz (fun K hK => ?_)
              refine bd_i (by omega) ?_
              refine x_nm (fun U84 hU84 => ?_)
              have e85 := up_f hU84
              intro b86 b86b
              have e87 : U84 111 0 60 = T2 111 0 60 := up_j hU84 (by decide) 111 0
              rw [e87] at b86 b86b ⊢
              intro b88 b88b
              have e89 : U84 111 0 59 = T2 111 0 59 := up_j hU84 (by decide) 111 0
              rw [e89] at b88 b88b ⊢
              refine rg_i (by omega) ?_
              refine And.intro (fun c90 => ?_) (fun c90 => ?_)
              · refine hK 346 _ [] U84 ?_
                have e91 : U84 111 0 60 = T2 111 0 60 := up_j hU84 (by decide) 111 0
                have e92 : U84 111 0 59 = T2 111 0 59 := up_j hU84 (by decide) 111 0
                have e93 : U84 111 0 58 = 2 := up_f hU84
                have e94 : U84 111 0 61 = T2 111 0 61 := up_j hU84 (by decide) 111 0
                have e95 : U84 111 0 62 = T2 111 0 62 := up_j hU84 (by decide) 111 0
                have e96 : U84 111 0 63 = T2 111 0 63 := up_j hU84 (by decide) 111 0
                refine c_346 U84 ?_ ?_ ?_
                · exact fr_u (fr_t (fr_0 _ _) (fr_s hf_184 rfl)) hU84 rfl
                · omega
                · exact tm9_2 sk (by omega) (by omega) (show 48 ≤ T 200 0 (T1 111 0 57) ∧ T 200 0 (T1 111 0 57) ≤ 57 by omega) (by rw [show U84 111 0 60 = T2 111 0 60 by omega]; exact ⟨by omega, by omega, kr, fun g => (show ¬ (48 ≤ T 200 0 (T2 111 0 60) ∧ T 200 0 (T2 111 0 60) ≤ 57) by omega)⟩) (fun z => by rw [show U84 111 0 61 = T2 111 0 61 by omega, show U84 111 0 60 = T2 111 0 60 by omega]; exact kv (by omega)) (by omega)
              · intro b97 b97b
                have e98 : U84 111 0 59 = T2 111 0 59 := up_j hU84 (by decide) 111 0
                rw [e98] at b97 b97b ⊢
                refine hK 291 _ [vI (T2 111 0 59), vI 1, vR 111 0] U84 ?_
                have e99 : U84 111 0 62 = T2 111 0 62 := up_j hU84 (by decide) 111 0
                refine j_callV (y := yX11_bad) (Yc := zX11_bad) (rest := []) [vI 1, vI (T2 111 0 59)] (ct_X11_bad_e (T := U84) (by omega) (by omega)) cl_X11_281 (qd_c (by decide +kernel)) (nn_ _) rfl (rf_of rfl) (Nat.le_of_ble_eq_true rfl) (Nat.le_of_ble_eq_true rfl) (Nat.le_of_ble_eq_true rfl) rfl ?_
                rintro U100 _ ⟨rfl, fU100, qU100⟩
                show J_ zX11_take T (po_X11_take_e T) 0 0 294 _ [] U100
                refine j_blx (F := fX11) tb_X11 (nn_ _) bk_X11_take_e_294 bs_X11_take_e_294 hz (fun K hK => ?_)
                refine hK 346 _ [] U100 ?_
                have e101 : U100 111 0 60 = T2 111 0 60 := (fU100 111 0 60 rfl).trans (up_j hU84 (by decide) 111 0)
                have e102 : U100 111 0 59 = T2 111 0 59 := (fU100 111 0 59 rfl).trans (up_j hU84 (by decide) 111 0)
                have e103 : U100 111 0 58 = 2 := (fU100 111 0 58 rfl).trans (up_f hU84)
                have e104 : U100 111 0 61 = T2 111 0 61 := (fU100 111 0 61 rfl).trans (up_j hU84 (by decide) 111 0)
                refine c_346 U100 ?_ ?_ ?_
                · exact fr_t (fr_u (fr_t (fr_0 _ _) (fr_s hf_184 rfl)) hU84 rfl) (fr_s fU100 rfl)
                · omega
                · exact tm9_2 sk (by omega) (by omega) (show 48 ≤ T 200 0 (T1 111 0 57) ∧ T 200 0 (T1 111 0 57) ≤ 57 by omega) (by rw [show U100 111 0 60 = T2 111 0 60 by omega]; exact ⟨by omega, by omega, kr, fun g => (show ¬ (48 ≤ T 200 0 (T2 111 0 60) ∧ T 200 0 (T2 111 0 60) ≤ 57) by omega)⟩) (fun z => by rw [show U100 111 0 61 = T2 111 0 61 by omega, show U100 111 0 60 = T2 111 0 60 by omega]; exact kv (by omega)) (by omega)
            · intro b105 b105b
              refine ix_i (by omega) ?_
              intro b106 b106b
              have e107 : T2 200 0 (T2 111 0 60) = T 200 0 (T2 111 0 60) := hf_184 200 0 (T2 111 0 60) rfl
              rw [e107] at b106 b106b ⊢
              refine hK 204 _ [vI (T 200 0 (T2 111 0 60))] T2 ?_
              refine j_callS (y := yX11_isDigit) (Yc := zX11_isDigit) (rest := []) [vI (T 200 0 (T2 111 0 60))] (ct_X11_isDigit (T := T2)) cl_X11_285 (qd_c (by decide +kernel)) (nn_ _) rfl (rf_of rfl) (Nat.le_of_ble_eq_true rfl) (Nat.le_of_ble_eq_true rfl) (Nat.le_of_ble_eq_true rfl) rfl ?_
              rintro _ _ ⟨rfl, x108, rfl, hx108⟩
              show J_ zX11_take T (po_X11_take_e T) 0 0 207 _ [vI x108] T2
              refine j_blx (F := fX11) tb_X11 (nn_ _) bk_X11_take_e_207 bs_X11_take_e_207 hz (fun K hK => ?_)
              refine And.intro (fun c109 => ?_) (fun c109 => ?_)
              · replace hx108 := hx108.resolve_left (fun z => absurd (c109.symm.trans z.1) (by decide))
                clear c109
                refine hK 267 _ [] T2 ?_
                refine j_blx (F := fX11) tb_X11 (nn_ _) bk_X11_take_e_267 bs_X11_take_e_267 hz (fun K hK => ?_)
                refine bd_i (by omega) ?_
                refine x_nm (fun U110 hU110 => ?_)
                have e111 := up_f hU110
                intro b112 b112b
                have e113 : U110 111 0 60 = T2 111 0 60 := up_j hU110 (by decide) 111 0
                rw [e113] at b112 b112b ⊢
                intro b114 b114b
                have e115 : U110 111 0 59 = T2 111 0 59 := up_j hU110 (by decide) 111 0
                rw [e115] at b114 b114b ⊢
                refine rg_i (by omega) ?_
                refine And.intro (fun c116 => ?_) (fun c116 => ?_)
                · refine hK 346 _ [] U110 ?_
                  have e117 : U110 111 0 60 = T2 111 0 60 := up_j hU110 (by decide) 111 0
                  have e118 : U110 111 0 59 = T2 111 0 59 := up_j hU110 (by decide) 111 0
                  have e119 : U110 111 0 58 = 2 := up_f hU110
                  have e120 : U110 111 0 61 = T2 111 0 61 := up_j hU110 (by decide) 111 0
                  have e121 : U110 111 0 62 = T2 111 0 62 := up_j hU110 (by decide) 111 0
                  have e122 : U110 111 0 63 = T2 111 0 63 := up_j hU110 (by decide) 111 0
                  refine c_346 U110 ?_ ?_ ?_
                  · exact fr_u (fr_t (fr_0 _ _) (fr_s hf_184 rfl)) hU110 rfl
                  · omega
                  · exact tm9_2 sk (by omega) (by omega) (show 48 ≤ T 200 0 (T1 111 0 57) ∧ T 200 0 (T1 111 0 57) ≤ 57 by omega) (by rw [show U110 111 0 60 = T2 111 0 60 by omega]; exact ⟨by omega, by omega, kr, fun g => (show ¬ (48 ≤ T 200 0 (T2 111 0 60) ∧ T 200 0 (T2 111 0 60) ≤ 57) by omega)⟩) (fun z => by rw [show U110 111 0 61 = T2 111 0 61 by omega, show U110 111 0 60 = T2 111 0 60 by omega]; exact kv (by omega)) (by omega)
                · intro b123 b123b
                  have e124 : U110 111 0 59 = T2 111 0 59 := up_j hU110 (by decide) 111 0
                  rw [e124] at b123 b123b ⊢
                  refine hK 291 _ [vI (T2 111 0 59), vI 1, vR 111 0] U110 ?_
                  have e125 : U110 111 0 62 = T2 111 0 62 := up_j hU110 (by decide) 111 0
                  refine j_callV (y := yX11_bad) (Yc := zX11_bad) (rest := []) [vI 1, vI (T2 111 0 59)] (ct_X11_bad_e (T := U110) (by omega) (by omega)) cl_X11_281 (qd_c (by decide +kernel)) (nn_ _) rfl (rf_of rfl) (Nat.le_of_ble_eq_true rfl) (Nat.le_of_ble_eq_true rfl) (Nat.le_of_ble_eq_true rfl) rfl ?_
                  rintro U126 _ ⟨rfl, fU126, qU126⟩
                  show J_ zX11_take T (po_X11_take_e T) 0 0 294 _ [] U126
                  refine j_blx (F := fX11) tb_X11 (nn_ _) bk_X11_take_e_294 bs_X11_take_e_294 hz (fun K hK => ?_)
                  refine hK 346 _ [] U126 ?_
                  have e127 : U126 111 0 60 = T2 111 0 60 := (fU126 111 0 60 rfl).trans (up_j hU110 (by decide) 111 0)
                  have e128 : U126 111 0 59 = T2 111 0 59 := (fU126 111 0 59 rfl).trans (up_j hU110 (by decide) 111 0)
                  have e129 : U126 111 0 58 = 2 := (fU126 111 0 58 rfl).trans (up_f hU110)
                  have e130 : U126 111 0 61 = T2 111 0 61 := (fU126 111 0 61 rfl).trans (up_j hU110 (by decide) 111 0)
                  refine c_346 U126 ?_ ?_ ?_
                  · exact fr_t (fr_u (fr_t (fr_0 _ _) (fr_s hf_184 rfl)) hU110 rfl) (fr_s fU126 rfl)
                  · omega
                  · exact tm9_2 sk (by omega) (by omega) (show 48 ≤ T 200 0 (T1 111 0 57) ∧ T 200 0 (T1 111 0 57) ≤ 57 by omega) (by rw [show U126 111 0 60 = T2 111 0 60 by omega]; exact ⟨by omega, by omega, kr, fun g => (show ¬ (48 ≤ T 200 0 (T2 111 0 60) ∧ T 200 0 (T2 111 0 60) ≤ 57) by omega)⟩) (fun z => by rw [show U126 111 0 61 = T2 111 0 61 by omega, show U126 111 0 60 = T2 111 0 60 by omega]; exact kv (by omega)) (by omega)
              · replace hx108 := hx108.resolve_right (fun z => c109 z.1)
                clear c109
                intro b131 b131b
                intro b132 b132b
                refine rg_i (by omega) ?_
                refine And.intro (fun c133 => ?_) (fun c133 => ?_)
                · refine hK 247 _ [vR 111 0] T2 ?_
                  refine j_blx (F := fX11) tb_X11 (nn_ _) bk_X11_take_e_247 bs_X11_take_e_247 hz (fun K hK => ?_)
                  intro b134 b134b
                  refine hK 251 _ [vI (T2 111 0 61), vR 111 0] T2 ?_
                  refine c_251 (T2 111 0 61) ?_ ?_ ?_ ?_
                  · omega
                  · omega
                  · omega
                  · omega
                · intro b135 b135b
                  refine rg_i (by show -2147483648 ≤ 10 * T2 111 0 61 ∧ 10 * T2 111 0 61 ≤ 2147483647; omega) ?_
                  intro b136 b136b
                  refine ix_i (by omega) ?_
                  intro b137 b137b
                  have e138 : T2 200 0 (T2 111 0 60) = T 200 0 (T2 111 0 60) := hf_184 200 0 (T2 111 0 60) rfl
                  rw [e138] at b137 b137b ⊢
                  refine rg_i (by omega) ?_
                  refine rg_i (by omega) ?_
                  refine hK 251 _ [vI (((10 * (T2 111 0 61)) + (T 200 0 (T2 111 0 60))) - 48), vR 111 0] T2 ?_
                  refine c_251 (((10 * (T2 111 0 61)) + (T 200 0 (T2 111 0 60))) - 48) ?_ ?_ ?_ ?_
                  · omega
                  · omega
                  · omega
                  · omega
        refine j_blx (F := fX11) tb_X11 (nn_ _) bk_X11_take_e_52 bs_X11_take_e_52 hz (fun K hK => ?_)
        intro b139 b139b
        refine bd_i (by omega) ?_
        refine x_nm (fun U140 hU140 => ?_)
        have e141 := up_f hU140
        intro b142 b142b
        have e143 : U140 111 0 57 = T1 111 0 57 := up_j hU140 (by decide) 111 0
        rw [e143] at b142 b142b ⊢
        refine bd_i (by omega) ?_
        refine x_nm (fun U144 hU144 => ?_)
        have e145 := up_f hU144
        refine bd_i (by omega) ?_
        refine x_nm (fun U146 hU146 => ?_)
        have e147 := up_f hU146
        intro b148 b148b
        have e149 : U146 111 0 57 = T1 111 0 57 := (up_j hU146 (by decide) 111 0).trans ((up_j hU144 (by decide) 111 0).trans (up_j hU140 (by decide) 111 0))
        rw [e149] at b148 b148b ⊢
        intro b150 b150b
        have e151 : U146 111 0 1 = T 111 0 1 := (up_j hU146 (by decide) 111 0).trans ((up_j hU144 (by decide) 111 0).trans ((up_j hU140 (by decide) 111 0).trans (hf_0 111 0 1 rfl)))
        rw [e151] at b150 b150b ⊢
        refine And.intro (fun c152 => ?_) (fun c152 => ?_)
        · refine hK 85 _ [] U146 ?_
          refine j_blx (F := fX11) tb_X11 (nn_ _) bk_X11_take_e_85 bs_X11_take_e_85 hz (fun K hK => ?_)
          intro b153 b153b
          have e154 : U146 111 0 57 = T1 111 0 57 := (up_j hU146 (by decide) 111 0).trans ((up_j hU144 (by decide) 111 0).trans (up_j hU140 (by decide) 111 0))
          rw [e154] at b153 b153b ⊢
          refine ix_i (by omega) ?_
          intro b155 b155b
          have e156 : U146 200 0 (T1 111 0 57) = T 200 0 (T1 111 0 57) := (up_k hU146 (by exact Nat.ne_of_beq_eq_false rfl) 0 (T1 111 0 57)).trans ((up_k hU144 (by exact Nat.ne_of_beq_eq_false rfl) 0 (T1 111 0 57)).trans ((up_k hU140 (by exact Nat.ne_of_beq_eq_false rfl) 0 (T1 111 0 57)).trans (hf_0 200 0 (T1 111 0 57) rfl)))
          rw [e156] at b155 b155b ⊢
          refine hK 96 [some (vR 111 0), some (vI (T 200 0 (T1 111 0 57)))] [vI (T 200 0 (T1 111 0 57))] U146 ?_
          refine j_callS (y := yX11_isLetter) (Yc := zX11_isLetter) (rest := []) [vI (T 200 0 (T1 111 0 57))] (ct_X11_isLetter (T := U146)) cl_X11_277 (qd_c (by decide +kernel)) (nn_ _) rfl (rf_of rfl) (Nat.le_of_ble_eq_true rfl) (Nat.le_of_ble_eq_true rfl) (Nat.le_of_ble_eq_true rfl) rfl ?_
          rintro _ _ ⟨rfl, x157, rfl, hx157⟩
          show J_ zX11_take T (po_X11_take_e T) 0 0 99 _ [vI x157] U146
          refine j_blx (F := fX11) tb_X11 (nn_ _) bk_X11_take_e_99 bs_X11_take_e_99 hz (fun K hK => ?_)
          refine And.intro (fun c158 => ?_) (fun c158 => ?_)
          · replace hx157 := hx157.resolve_left (fun z => absurd (c158.symm.trans z.1) (by decide))
            clear c158
            refine hK 172 _ [] U146 ?_
            refine j_blx (F := fX11) tb_X11 (nn_ _) bk_X11_take_e_172 bs_X11_take_e_172 hz (fun K hK => ?_)
            refine hK 173 _ [vI (T 200 0 (T1 111 0 57))] U146 ?_
            refine j_callS (y := yX11_isDigit) (Yc := zX11_isDigit) (rest := []) [vI (T 200 0 (T1 111 0 57))] (ct_X11_isDigit (T := U146)) cl_X11_285 (qd_c (by decide +kernel)) (nn_ _) rfl (rf_of rfl) (Nat.le_of_ble_eq_true rfl) (Nat.le_of_ble_eq_true rfl) (Nat.le_of_ble_eq_true rfl) rfl ?_
            rintro _ _ ⟨rfl, x159, rfl, hx159⟩
            show J_ zX11_take T (po_X11_take_e T) 0 0 176 _ [vI x159] U146
            refine j_blx (F := fX11) tb_X11 (nn_ _) bk_X11_take_e_176 bs_X11_take_e_176 hz (fun K hK => ?_)
            refine And.intro (fun c160 => ?_) (fun c160 => ?_)
            · replace hx159 := hx159.resolve_left (fun z => absurd (c160.symm.trans z.1) (by decide))
              clear c160
              refine hK 297 _ [] U146 ?_
              refine j_blx (F := fX11) tb_X11 (nn_ _) bk_X11_take_e_297 bs_X11_take_e_297 hz (fun K hK => ?_)
              refine And.intro (fun c161 => ?_) (fun c161 => ?_)
              · refine hK 309 _ [] U146 ?_
                refine j_blx (F := fX11) tb_X11 (nn_ _) bk_X11_take_e_309 bs_X11_take_e_309 hz (fun K hK => ?_)
                refine And.intro (fun c162 => ?_) (fun c162 => ?_)
                · refine hK 320 _ [vR 111 0] U146 ?_
                  refine j_blx (F := fX11) tb_X11 (nn_ _) bk_X11_take_e_320 bs_X11_take_e_320 hz (fun K hK => ?_)
                  refine bd_i (by omega) ?_
                  refine x_nm (fun U163 hU163 => ?_)
                  have e164 := up_f hU163
                  intro b165 b165b
                  have e166 : U163 111 0 60 = T1 111 0 57 := (up_j hU163 (by decide) 111 0).trans ((up_j hU146 (by decide) 111 0).trans (up_f hU144))
                  rw [e166] at b165 b165b ⊢
                  refine rg_i (by omega) ?_
                  refine bd_i (by omega) ?_
                  refine x_nm (fun U167 hU167 => ?_)
                  have e168 := up_f hU167
                  refine hK 346 _ [] U167 ?_
                  refine j_drop [some (vR 111 0), none] (fun k v hk => ?_) rfl ?_
                  · match k, hk with
                    | 0, hk => exact hk
                    | 1, hk => cases hk
                    | k + 2, hk => cases hk
                  have e169 : U167 111 0 60 = (T1 111 0 57) + 1 := up_f hU167
                  have e170 : U167 111 0 59 = T1 111 0 57 := (up_j hU167 (by decide) 111 0).trans ((up_j hU163 (by decide) 111 0).trans ((up_j hU146 (by decide) 111 0).trans ((up_j hU144 (by decide) 111 0).trans (up_f hU140))))
                  have e171 : U167 111 0 58 = 4 := (up_j hU167 (by decide) 111 0).trans (up_f hU163)
                  have e172 : U167 111 0 61 = T 111 0 61 := (up_j hU167 (by decide) 111 0).trans ((up_j hU163 (by decide) 111 0).trans ((up_j hU146 (by decide) 111 0).trans ((up_j hU144 (by decide) 111 0).trans ((up_j hU140 (by decide) 111 0).trans (hf_0 111 0 61 rfl)))))
                  have e173 : U167 111 0 62 = T 111 0 62 := (up_j hU167 (by decide) 111 0).trans ((up_j hU163 (by decide) 111 0).trans ((up_j hU146 (by decide) 111 0).trans ((up_j hU144 (by decide) 111 0).trans ((up_j hU140 (by decide) 111 0).trans (hf_0 111 0 62 rfl)))))
                  have e174 : U167 111 0 63 = T 111 0 63 := (up_j hU167 (by decide) 111 0).trans ((up_j hU163 (by decide) 111 0).trans ((up_j hU146 (by decide) 111 0).trans ((up_j hU144 (by decide) 111 0).trans ((up_j hU140 (by decide) 111 0).trans (hf_0 111 0 63 rfl)))))
                  refine c_346 U167 ?_ ?_ ?_
                  · exact fr_u (fr_u (fr_u (fr_u (fr_u (fr_t (fr_0 _ _) (fr_s hf_0 rfl)) hU140 rfl) hU144 rfl) hU146 rfl) hU163 rfl) hU167 rfl
                  · omega
                  · exact tm9_3 sk (by omega) (by omega) (show ¬ (97 ≤ T 200 0 (T1 111 0 57) ∧ T 200 0 (T1 111 0 57) ≤ 122) by omega) (show ¬ (48 ≤ T 200 0 (T1 111 0 57) ∧ T 200 0 (T1 111 0 57) ≤ 57) by omega) (Or.inr (Or.inl ⟨(show T 200 0 (T1 111 0 57) = 44 by omega), by omega, by omega, by omega, by omega⟩))
                · refine hK 321 [some (vR 111 0), some (vI (T 200 0 (T1 111 0 57)))] [vI 3, vR 111 0] U146 ?_
                  refine j_blx (F := fX11) tb_X11 (nn_ _) bk_X11_take_e_321 bs_X11_take_e_321 hz (fun K hK => ?_)
                  refine bd_i (by omega) ?_
                  refine x_nm (fun U175 hU175 => ?_)
                  have e176 := up_f hU175
                  intro b177 b177b
                  have e178 : U175 111 0 60 = T1 111 0 57 := (up_j hU175 (by decide) 111 0).trans ((up_j hU146 (by decide) 111 0).trans (up_f hU144))
                  rw [e178] at b177 b177b ⊢
                  refine rg_i (by omega) ?_
                  refine bd_i (by omega) ?_
                  refine x_nm (fun U179 hU179 => ?_)
                  have e180 := up_f hU179
                  refine hK 346 _ [] U179 ?_
                  refine j_drop [some (vR 111 0), none] (fun k v hk => ?_) rfl ?_
                  · match k, hk with
                    | 0, hk => exact hk
                    | 1, hk => cases hk
                    | k + 2, hk => cases hk
                  have e181 : U179 111 0 60 = (T1 111 0 57) + 1 := up_f hU179
                  have e182 : U179 111 0 59 = T1 111 0 57 := (up_j hU179 (by decide) 111 0).trans ((up_j hU175 (by decide) 111 0).trans ((up_j hU146 (by decide) 111 0).trans ((up_j hU144 (by decide) 111 0).trans (up_f hU140))))
                  have e183 : U179 111 0 58 = 3 := (up_j hU179 (by decide) 111 0).trans (up_f hU175)
                  have e184 : U179 111 0 61 = T 111 0 61 := (up_j hU179 (by decide) 111 0).trans ((up_j hU175 (by decide) 111 0).trans ((up_j hU146 (by decide) 111 0).trans ((up_j hU144 (by decide) 111 0).trans ((up_j hU140 (by decide) 111 0).trans (hf_0 111 0 61 rfl)))))
                  have e185 : U179 111 0 62 = T 111 0 62 := (up_j hU179 (by decide) 111 0).trans ((up_j hU175 (by decide) 111 0).trans ((up_j hU146 (by decide) 111 0).trans ((up_j hU144 (by decide) 111 0).trans ((up_j hU140 (by decide) 111 0).trans (hf_0 111 0 62 rfl)))))
                  have e186 : U179 111 0 63 = T 111 0 63 := (up_j hU179 (by decide) 111 0).trans ((up_j hU175 (by decide) 111 0).trans ((up_j hU146 (by decide) 111 0).trans ((up_j hU144 (by decide) 111 0).trans ((up_j hU140 (by decide) 111 0).trans (hf_0 111 0 63 rfl)))))
                  refine c_346 U179 ?_ ?_ ?_
                  · exact fr_u (fr_u (fr_u (fr_u (fr_u (fr_t (fr_0 _ _) (fr_s hf_0 rfl)) hU140 rfl) hU144 rfl) hU146 rfl) hU175 rfl) hU179 rfl
                  · omega
                  · exact tm9_3 sk (by omega) (by omega) (show ¬ (97 ≤ T 200 0 (T1 111 0 57) ∧ T 200 0 (T1 111 0 57) ≤ 122) by omega) (show ¬ (48 ≤ T 200 0 (T1 111 0 57) ∧ T 200 0 (T1 111 0 57) ≤ 57) by omega) (Or.inl ⟨(show T 200 0 (T1 111 0 57) = 59 by omega), by omega, by omega, by omega, by omega⟩)
              · refine And.intro (fun c187 => ?_) (fun c187 => ?_)
                · refine hK 337 _ [] U146 ?_
                  refine j_blx (F := fX11) tb_X11 (nn_ _) bk_X11_take_e_337 bs_X11_take_e_337 hz (fun K hK => ?_)
                  intro b188 b188b
                  have e189 : U146 111 0 59 = T1 111 0 57 := (up_j hU146 (by decide) 111 0).trans ((up_j hU144 (by decide) 111 0).trans (up_f hU140))
                  rw [e189] at b188 b188b ⊢
                  refine hK 343 _ [vI (T1 111 0 57), vI 1, vR 111 0] U146 ?_
                  have e190 : U146 111 0 62 = T 111 0 62 := (up_j hU146 (by decide) 111 0).trans ((up_j hU144 (by decide) 111 0).trans ((up_j hU140 (by decide) 111 0).trans (hf_0 111 0 62 rfl)))
                  refine j_callV (y := yX11_bad) (Yc := zX11_bad) (rest := []) [vI 1, vI (T1 111 0 57)] (ct_X11_bad_e (T := U146) (by omega) (by omega)) cl_X11_281 (qd_c (by decide +kernel)) (nn_ _) rfl (rf_of rfl) (Nat.le_of_ble_eq_true rfl) (Nat.le_of_ble_eq_true rfl) (Nat.le_of_ble_eq_true rfl) rfl ?_
                  rintro U191 _ ⟨rfl, fU191, qU191⟩
                  show J_ zX11_take T (po_X11_take_e T) 0 0 346 _ [] U191
                  refine j_drop [some (vR 111 0), none] (fun k v hk => ?_) rfl ?_
                  · match k, hk with
                    | 0, hk => exact hk
                    | 1, hk => cases hk
                    | k + 2, hk => cases hk
                  have e192 : U191 111 0 60 = T1 111 0 57 := (fU191 111 0 60 rfl).trans ((up_j hU146 (by decide) 111 0).trans (up_f hU144))
                  have e193 : U191 111 0 59 = T1 111 0 57 := (fU191 111 0 59 rfl).trans ((up_j hU146 (by decide) 111 0).trans ((up_j hU144 (by decide) 111 0).trans (up_f hU140)))
                  have e194 : U191 111 0 58 = 0 := (fU191 111 0 58 rfl).trans (up_f hU146)
                  have e195 : U191 111 0 61 = T 111 0 61 := (fU191 111 0 61 rfl).trans ((up_j hU146 (by decide) 111 0).trans ((up_j hU144 (by decide) 111 0).trans ((up_j hU140 (by decide) 111 0).trans (hf_0 111 0 61 rfl))))
                  refine c_346 U191 ?_ ?_ ?_
                  · exact fr_t (fr_u (fr_u (fr_u (fr_t (fr_0 _ _) (fr_s hf_0 rfl)) hU140 rfl) hU144 rfl) hU146 rfl) (fr_s fU191 rfl)
                  · omega
                  · exact tm9_3 sk (by omega) (by omega) (show ¬ (97 ≤ T 200 0 (T1 111 0 57) ∧ T 200 0 (T1 111 0 57) ≤ 122) by omega) (show ¬ (48 ≤ T 200 0 (T1 111 0 57) ∧ T 200 0 (T1 111 0 57) ≤ 57) by omega) (Or.inr (Or.inr ⟨(show T 200 0 (T1 111 0 57) ≠ 59 by omega), (show T 200 0 (T1 111 0 57) ≠ 44 by omega), by omega, by omega⟩))
                · refine And.intro (fun c196 => ?_) (fun c196 => ?_)
                  · refine hK 320 [some (vR 111 0), some (vI (T 200 0 (T1 111 0 57)))] [vR 111 0] U146 ?_
                    refine j_blx (F := fX11) tb_X11 (nn_ _) bk_X11_take_e_320 bs_X11_take_e_320 hz (fun K hK => ?_)
                    refine bd_i (by omega) ?_
                    refine x_nm (fun U197 hU197 => ?_)
                    have e198 := up_f hU197
                    intro b199 b199b
                    have e200 : U197 111 0 60 = T1 111 0 57 := (up_j hU197 (by decide) 111 0).trans ((up_j hU146 (by decide) 111 0).trans (up_f hU144))
                    rw [e200] at b199 b199b ⊢
                    refine rg_i (by omega) ?_
                    refine bd_i (by omega) ?_
                    refine x_nm (fun U201 hU201 => ?_)
                    have e202 := up_f hU201
                    refine hK 346 _ [] U201 ?_
                    refine j_drop [some (vR 111 0), none] (fun k v hk => ?_) rfl ?_
                    · match k, hk with
                      | 0, hk => exact hk
                      | 1, hk => cases hk
                      | k + 2, hk => cases hk
                    have e203 : U201 111 0 60 = (T1 111 0 57) + 1 := up_f hU201
                    have e204 : U201 111 0 59 = T1 111 0 57 := (up_j hU201 (by decide) 111 0).trans ((up_j hU197 (by decide) 111 0).trans ((up_j hU146 (by decide) 111 0).trans ((up_j hU144 (by decide) 111 0).trans (up_f hU140))))
                    have e205 : U201 111 0 58 = 4 := (up_j hU201 (by decide) 111 0).trans (up_f hU197)
                    have e206 : U201 111 0 61 = T 111 0 61 := (up_j hU201 (by decide) 111 0).trans ((up_j hU197 (by decide) 111 0).trans ((up_j hU146 (by decide) 111 0).trans ((up_j hU144 (by decide) 111 0).trans ((up_j hU140 (by decide) 111 0).trans (hf_0 111 0 61 rfl)))))
                    have e207 : U201 111 0 62 = T 111 0 62 := (up_j hU201 (by decide) 111 0).trans ((up_j hU197 (by decide) 111 0).trans ((up_j hU146 (by decide) 111 0).trans ((up_j hU144 (by decide) 111 0).trans ((up_j hU140 (by decide) 111 0).trans (hf_0 111 0 62 rfl)))))
                    have e208 : U201 111 0 63 = T 111 0 63 := (up_j hU201 (by decide) 111 0).trans ((up_j hU197 (by decide) 111 0).trans ((up_j hU146 (by decide) 111 0).trans ((up_j hU144 (by decide) 111 0).trans ((up_j hU140 (by decide) 111 0).trans (hf_0 111 0 63 rfl)))))
                    refine c_346 U201 ?_ ?_ ?_
                    · exact fr_u (fr_u (fr_u (fr_u (fr_u (fr_t (fr_0 _ _) (fr_s hf_0 rfl)) hU140 rfl) hU144 rfl) hU146 rfl) hU197 rfl) hU201 rfl
                    · omega
                    · exact tm9_3 sk (by omega) (by omega) (show ¬ (97 ≤ T 200 0 (T1 111 0 57) ∧ T 200 0 (T1 111 0 57) ≤ 122) by omega) (show ¬ (48 ≤ T 200 0 (T1 111 0 57) ∧ T 200 0 (T1 111 0 57) ≤ 57) by omega) (Or.inr (Or.inl ⟨(show T 200 0 (T1 111 0 57) = 44 by omega), by omega, by omega, by omega, by omega⟩))
                  · refine hK 321 [some (vR 111 0), some (vI (T 200 0 (T1 111 0 57)))] [vI 3, vR 111 0] U146 ?_
                    refine j_blx (F := fX11) tb_X11 (nn_ _) bk_X11_take_e_321 bs_X11_take_e_321 hz (fun K hK => ?_)
                    refine bd_i (by omega) ?_
                    refine x_nm (fun U209 hU209 => ?_)
                    have e210 := up_f hU209
                    intro b211 b211b
                    have e212 : U209 111 0 60 = T1 111 0 57 := (up_j hU209 (by decide) 111 0).trans ((up_j hU146 (by decide) 111 0).trans (up_f hU144))
                    rw [e212] at b211 b211b ⊢
                    refine rg_i (by omega) ?_
                    refine bd_i (by omega) ?_
                    refine x_nm (fun U213 hU213 => ?_)
                    have e214 := up_f hU213
                    refine hK 346 _ [] U213 ?_
                    refine j_drop [some (vR 111 0), none] (fun k v hk => ?_) rfl ?_
                    · match k, hk with
                      | 0, hk => exact hk
                      | 1, hk => cases hk
                      | k + 2, hk => cases hk
                    have e215 : U213 111 0 60 = (T1 111 0 57) + 1 := up_f hU213
                    have e216 : U213 111 0 59 = T1 111 0 57 := (up_j hU213 (by decide) 111 0).trans ((up_j hU209 (by decide) 111 0).trans ((up_j hU146 (by decide) 111 0).trans ((up_j hU144 (by decide) 111 0).trans (up_f hU140))))
                    have e217 : U213 111 0 58 = 3 := (up_j hU213 (by decide) 111 0).trans (up_f hU209)
                    have e218 : U213 111 0 61 = T 111 0 61 := (up_j hU213 (by decide) 111 0).trans ((up_j hU209 (by decide) 111 0).trans ((up_j hU146 (by decide) 111 0).trans ((up_j hU144 (by decide) 111 0).trans ((up_j hU140 (by decide) 111 0).trans (hf_0 111 0 61 rfl)))))
                    have e219 : U213 111 0 62 = T 111 0 62 := (up_j hU213 (by decide) 111 0).trans ((up_j hU209 (by decide) 111 0).trans ((up_j hU146 (by decide) 111 0).trans ((up_j hU144 (by decide) 111 0).trans ((up_j hU140 (by decide) 111 0).trans (hf_0 111 0 62 rfl)))))
                    have e220 : U213 111 0 63 = T 111 0 63 := (up_j hU213 (by decide) 111 0).trans ((up_j hU209 (by decide) 111 0).trans ((up_j hU146 (by decide) 111 0).trans ((up_j hU144 (by decide) 111 0).trans ((up_j hU140 (by decide) 111 0).trans (hf_0 111 0 63 rfl)))))
                    refine c_346 U213 ?_ ?_ ?_
                    · exact fr_u (fr_u (fr_u (fr_u (fr_u (fr_t (fr_0 _ _) (fr_s hf_0 rfl)) hU140 rfl) hU144 rfl) hU146 rfl) hU209 rfl) hU213 rfl
                    · omega
                    · exact tm9_3 sk (by omega) (by omega) (show ¬ (97 ≤ T 200 0 (T1 111 0 57) ∧ T 200 0 (T1 111 0 57) ≤ 122) by omega) (show ¬ (48 ≤ T 200 0 (T1 111 0 57) ∧ T 200 0 (T1 111 0 57) ≤ 57) by omega) (Or.inl ⟨(show T 200 0 (T1 111 0 57) = 59 by omega), by omega, by omega, by omega, by omega⟩)
            · replace hx159 := hx159.resolve_right (fun z => c160 z.1)
              clear c160
              refine bd_i (by omega) ?_
              refine x_nm (fun U221 hU221 => ?_)
              have e222 := up_f hU221
              refine hK 184 _ [] U221 ?_
              refine j_drop [some (vR 111 0), none] (fun k v hk => ?_) rfl ?_
              · match k, hk with
                | 0, hk => exact hk
                | 1, hk => cases hk
                | k + 2, hk => cases hk
              have e223 : U221 111 0 59 = T1 111 0 57 := (up_j hU221 (by decide) 111 0).trans ((up_j hU146 (by decide) 111 0).trans ((up_j hU144 (by decide) 111 0).trans (up_f hU140)))
              have e224 : U221 111 0 60 = T1 111 0 57 := (up_j hU221 (by decide) 111 0).trans ((up_j hU146 (by decide) 111 0).trans (up_f hU144))
              have e225 : U221 111 0 62 = T 111 0 62 := (up_j hU221 (by decide) 111 0).trans ((up_j hU146 (by decide) 111 0).trans ((up_j hU144 (by decide) 111 0).trans ((up_j hU140 (by decide) 111 0).trans (hf_0 111 0 62 rfl))))
              have e226 : U221 111 0 63 = T 111 0 63 := (up_j hU221 (by decide) 111 0).trans ((up_j hU146 (by decide) 111 0).trans ((up_j hU144 (by decide) 111 0).trans ((up_j hU140 (by decide) 111 0).trans (hf_0 111 0 63 rfl))))
              have e227 : U221 111 0 61 = 0 := up_f hU221
              refine c_184 _ U221 (Nat.le_refl _) ?_ ?_ ?_ ?_ ?_ ?_
              · exact fr_u (fr_u (fr_u (fr_u (fr_t (fr_0 _ _) (fr_s hf_0 rfl)) hU140 rfl) hU144 rfl) hU146 rfl) hU221 rfl
              · omega
              · omega
              · rw [show U221 111 0 60 = T1 111 0 57 by omega]
                exact rp9_z
              · omega
              · intro _
                rw [show U221 111 0 60 = T1 111 0 57 by omega, show T1 111 0 57 - T1 111 0 57 = 0 by omega, show U221 111 0 61 = 0 by omega]
                rfl
          · replace hx157 := hx157.resolve_right (fun z => c158 z.1)
            clear c158
            refine hK 102 _ [] U146 ?_
            refine j_drop [some (vR 111 0), none] (fun k v hk => ?_) rfl ?_
            · match k, hk with
              | 0, hk => exact hk
              | 1, hk => cases hk
              | k + 2, hk => cases hk
            have e228 : U146 111 0 59 = T1 111 0 57 := (up_j hU146 (by decide) 111 0).trans ((up_j hU144 (by decide) 111 0).trans (up_f hU140))
            have e229 : U146 111 0 60 = T1 111 0 57 := (up_j hU146 (by decide) 111 0).trans (up_f hU144)
            have e230 : U146 111 0 62 = T 111 0 62 := (up_j hU146 (by decide) 111 0).trans ((up_j hU144 (by decide) 111 0).trans ((up_j hU140 (by decide) 111 0).trans (hf_0 111 0 62 rfl)))
            have e231 : U146 111 0 63 = T 111 0 63 := (up_j hU146 (by decide) 111 0).trans ((up_j hU144 (by decide) 111 0).trans ((up_j hU140 (by decide) 111 0).trans (hf_0 111 0 63 rfl)))
            refine c_102 _ U146 (Nat.le_refl _) ?_ ?_ ?_ ?_
            · exact fr_u (fr_u (fr_u (fr_t (fr_0 _ _) (fr_s hf_0 rfl)) hU140 rfl) hU144 rfl) hU146 rfl
            · omega
            · omega
            · rw [show U146 111 0 60 = T1 111 0 57 by omega]
              exact rp9_z
        · refine (show po_X11_take_e T U146 (none) from ?_)
          have e232 : U146 111 0 57 = T1 111 0 57 := (up_j hU146 (by decide) 111 0).trans ((up_j hU144 (by decide) 111 0).trans (up_j hU140 (by decide) 111 0))
          have e233 : U146 111 0 60 = T1 111 0 57 := (up_j hU146 (by decide) 111 0).trans (up_f hU144)
          have e234 : U146 111 0 59 = T1 111 0 57 := (up_j hU146 (by decide) 111 0).trans ((up_j hU144 (by decide) 111 0).trans (up_f hU140))
          have e235 : U146 111 0 58 = 0 := up_f hU146
          have e236 : U146 111 0 61 = T 111 0 61 := (up_j hU146 (by decide) 111 0).trans ((up_j hU144 (by decide) 111 0).trans ((up_j hU140 (by decide) 111 0).trans (hf_0 111 0 61 rfl)))
          have e237 : U146 111 0 62 = T 111 0 62 := (up_j hU146 (by decide) 111 0).trans ((up_j hU144 (by decide) 111 0).trans ((up_j hU140 (by decide) 111 0).trans (hf_0 111 0 62 rfl)))
          have e238 : U146 111 0 63 = T 111 0 63 := (up_j hU146 (by decide) 111 0).trans ((up_j hU144 (by decide) 111 0).trans ((up_j hU140 (by decide) 111 0).trans (hf_0 111 0 63 rfl)))
          exact ⟨rfl, fr_u (fr_u (fr_u (fr_t (fr_0 _ _) (fr_s hf_0 rfl)) hU140 rfl) hU144 rfl) hU146 rfl, by omega, tm9_0 sk (by omega) (by omega) (by omega) (by omega) (by omega) (by omega)⟩
      refine j_blx (F := fX11) tb_X11 (nn_ _) bk_X11_take_e_0 bs_X11_take_e_0 hz (fun K hK => ?_)
      intro b239 b239b
      intro b240 b240b
      have e241 : T1 111 0 1 = T 111 0 1 := hf_0 111 0 1 rfl
      rw [e241] at b240 b240b ⊢
      refine And.intro (fun c242 => ?_) (fun c242 => ?_)
      · refine hK 52 _ [] T1 ?_
        refine c_52  ?_
        · exact ⟨i1.1, i1.2, i2, fun g => (show ¬ (T 200 0 (T1 111 0 57) = 10 ∨ T 200 0 (T1 111 0 57) = 32) by omega)⟩
      · intro b243 b243b
        refine ix_i (by omega) ?_
        intro b244 b244b
        have e245 : T1 200 0 (T1 111 0 57) = T 200 0 (T1 111 0 57) := hf_0 200 0 (T1 111 0 57) rfl
        rw [e245] at b244 b244b ⊢
        refine And.intro (fun c246 => ?_) (fun c246 => ?_)
        · refine hK 39 _ [] T1 ?_
          refine j_blx (F := fX11) tb_X11 (nn_ _) bk_X11_take_e_39 bs_X11_take_e_39 hz (fun K hK => ?_)
          intro b247 b247b
          refine rg_i (by omega) ?_
          refine bd_i (by omega) ?_
          refine x_nm (fun U248 hU248 => ?_)
          have e249 := up_f hU248
          refine hK 0 _ [] U248 ?_
          have e250 : U248 111 0 57 = (T1 111 0 57) + 1 := up_f hU248
          refine ih_0 _ ?_ U248 (Nat.le_refl _) ?_ ?_ ?_
          · have hm_0 := hm_0 (); omega
          · exact fr_u (fr_t (fr_0 _ _) (fr_s hf_0 rfl)) hU248 rfl
          · omega
          · rw [up_f hU248]
            exact bp9_s i2 (show T 200 0 (T1 111 0 57) = 10 ∨ T 200 0 (T1 111 0 57) = 32 by omega)
        · intro b251 b251b
          refine ix_i (by omega) ?_
          intro b252 b252b
          have e253 : T1 200 0 (T1 111 0 57) = T 200 0 (T1 111 0 57) := hf_0 200 0 (T1 111 0 57) rfl
          rw [e253] at b252 b252b ⊢
          refine And.intro (fun c254 => ?_) (fun c254 => ?_)
          · refine hK 52 _ [] T1 ?_
            refine c_52  ?_
            · exact ⟨i1.1, i1.2, i2, fun g => (show ¬ (T 200 0 (T1 111 0 57) = 10 ∨ T 200 0 (T1 111 0 57) = 32) by omega)⟩
          · intro b255 b255b
            refine rg_i (by omega) ?_
            refine bd_i (by omega) ?_
            refine x_nm (fun U256 hU256 => ?_)
            have e257 := up_f hU256
            refine hK 0 _ [] U256 ?_
            have e258 : U256 111 0 57 = (T1 111 0 57) + 1 := up_f hU256
            refine ih_0 _ ?_ U256 (Nat.le_refl _) ?_ ?_ ?_
            · have hm_0 := hm_0 (); omega
            · exact fr_u (fr_t (fr_0 _ _) (fr_s hf_0 rfl)) hU256 rfl
            · omega
            · rw [up_f hU256]
              exact bp9_s i2 (show T 200 0 (T1 111 0 57) = 10 ∨ T 200 0 (T1 111 0 57) = 32 by omega)
  refine c_0 _ T (Nat.le_refl _) ?_ ?_ ?_
  · exact fr_0 _ _
  · omega
  · exact bp9_z
