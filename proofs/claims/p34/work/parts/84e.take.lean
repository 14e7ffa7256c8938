-- the reference's token
def nv9_ (b : Int → Int) (s : Int) : Nat → Int
  | 0 => 0
  | m + 1 => 10 * nv9_ b s m + b (s + m) - 48
theorem nv9_s {b : Int → Int} {s e v : Int} (h0 : s ≤ e) (h : v = 10 * nv9_ b s (e - s).toNat + b e - 48) : v = nv9_ b s (e + 1 - s).toNat := by
  rw [show (e + 1 - s).toNat = (e - s).toNat + 1 by omega, h]
  show _ = 10 * nv9_ b s (e - s).toNat + b (s + ((e - s).toNat : Nat)) - 48
  rw [show s + ((e - s).toNat : Int) = e by omega]
/-- what the reference's take leaves, when nothing was bad before -/
def TM9_ (b : Int → Int) (n a s t k v bn ba ba0 : Int) : Prop := ∃ e k9, TK9_ b n a s e k9 ∧ ((k9 ≠ 5 ∧ t = e ∧ k = k9 ∧ bn = 0 ∧ ba = ba0 ∧ (k9 = 2 → v = nv9_ b s (e - s).toNat)) ∨ (k9 = 5 ∧ bn = 1 ∧ ba = s))
theorem tm9_0 {b : Int → Int} {n a s s' t k v bn ba ba0 : Int} (h : SK9_ b n a s) (e1 : s' = s) (h1 : ¬ s < n) (h2 : t = s) (h3 : k = 0) (h4 : bn = 0) (h5 : ba = ba0) : TM9_ b n a s' t k v bn ba ba0 := ⟨s, 0, tk9_0 h e1 h1 rfl rfl, Or.inl ⟨by omega, h2, h3, h4, h5, fun z => by omega⟩⟩
theorem tm9_1 {b : Int → Int} {n a s s' t k v bn ba ba0 : Int} (h : SK9_ b n a s) (e1 : s' = s) (h1 : s < n) (h2 : lt9_ (b s)) (h3 : RN9_ b n 97 122 s t) (h4 : (t - s ≤ 12 ∧ k = 1 ∧ bn = 0 ∧ ba = ba0) ∨ (12 < t - s ∧ bn = 1 ∧ ba = s)) : TM9_ b n a s' t k v bn ba ba0 := by
  rcases h4 with ⟨g1, g2, g3, g4⟩ | ⟨g1, g2, g3⟩
  · exact ⟨t, 1, tk9_1 h e1 h1 h2 h3 (Or.inl ⟨g1, rfl⟩), Or.inl ⟨by omega, rfl, g2, g3, g4, fun z => by omega⟩⟩
  · exact ⟨t, 5, tk9_1 h e1 h1 h2 h3 (Or.inr ⟨g1, rfl⟩), Or.inr ⟨rfl, g2, by omega⟩⟩
theorem tm9_2 {b : Int → Int} {n a s s' t k v bn ba ba0 : Int} (h : SK9_ b n a s) (e1 : s' = s) (h1 : s < n) (h2 : dg9_ (b s)) (h3 : RN9_ b n 48 57 s t) (hv : t - s ≤ 3 → v = nv9_ b s (t - s).toNat) (h4 : (t - s ≤ 3 ∧ k = 2 ∧ bn = 0 ∧ ba = ba0) ∨ (3 < t - s ∧ bn = 1 ∧ ba = s)) : TM9_ b n a s' t k v bn ba ba0 := by
  subst e1
  rcases h4 with ⟨g1, g2, g3, g4⟩ | ⟨g1, g2, g3⟩
  · exact ⟨t, 2, tk9_2 h rfl h1 h2 h3 (Or.inl ⟨g1, rfl⟩), Or.inl ⟨by omega, rfl, g2, g3, g4, fun _ => hv g1⟩⟩
  · exact ⟨t, 5, tk9_2 h rfl h1 h2 h3 (Or.inr ⟨g1, rfl⟩), Or.inr ⟨rfl, g2, g3⟩⟩
theorem tm9_3 {b : Int → Int} {n a s s' t k v bn ba ba0 : Int} (h : SK9_ b n a s) (e1 : s' = s) (h1 : s < n) (h2 : ¬ lt9_ (b s)) (h3 : ¬ dg9_ (b s)) (h5 : (b s = 59 ∧ k = 3 ∧ t = s + 1 ∧ bn = 0 ∧ ba = ba0) ∨ (b s = 44 ∧ k = 4 ∧ t = s + 1 ∧ bn = 0 ∧ ba = ba0) ∨ (b s ≠ 59 ∧ b s ≠ 44 ∧ bn = 1 ∧ ba = s)) : TM9_ b n a s' t k v bn ba ba0 := by
  rcases h5 with ⟨g1, g2, g3, g4, g5⟩ | ⟨g1, g2, g3, g4, g5⟩ | ⟨g1, g2, g3, g4⟩
  · exact ⟨s + 1, 3, tk9_3 h e1 h1 h2 h3 rfl (Or.inl ⟨g1, rfl⟩), Or.inl ⟨by omega, g3, g2, g4, g5, fun z => by omega⟩⟩
  · exact ⟨s + 1, 4, tk9_3 h e1 h1 h2 h3 rfl (Or.inr (Or.inl ⟨g1, rfl⟩)), Or.inl ⟨by omega, g3, g2, g4, g5, fun z => by omega⟩⟩
  · exact ⟨s + 1, 5, tk9_3 h e1 h1 h2 h3 rfl (Or.inr (Or.inr ⟨g1, g2, rfl⟩)), Or.inr ⟨rfl, g3, by omega⟩⟩
abbrev po_X11_bad_e (T : Zt) (number place : Int) : Zt → Option Zv → Prop := fun T' r => r = none ∧ fr_ [(111, [62, 63])] T T' ∧ ((T 111 0 62 = 0 ∧ T' 111 0 62 = number ∧ T' 111 0 63 = place) ∨ (T 111 0 62 ≠ 0 ∧ T' 111 0 62 = T 111 0 62 ∧ T' 111 0 63 = T 111 0 63))
set_option maxHeartbeats 4000000 in
theorem ct_X11_bad_e {T : Zt} {number place : Int} (h1 : 1 ≤ number ∧ number ≤ 5) (h2 : -1 ≤ place ∧ place ≤ 400) : Ct_ yX11_bad zX11_bad T [vR 111 0, vI number, vI place] (po_X11_bad_e T number place) := by
  refine ct_of pn_11 rfl rfl (Nat.le_of_ble_eq_true rfl) (fun hT hav => ?_)
  have hr_number : -2147483648 ≤ number ∧ number ≤ 2147483647 := hav (vI number) (List.mem_cons_of_mem _ List.mem_cons_self)
  have hr_place : -2147483648 ≤ place ∧ place ≤ 2147483647 := hav (vI place) (List.mem_cons_of_mem _ (List.mem_cons_of_mem _ List.mem_cons_self))
  have hz : zX11_bad.2.2.2.1 = some .boolean → ∀ (T' : Zt) (x : Int), po_X11_bad_e T number place T' (some (vI x)) → 0 ≤ x ∧ x ≤ 1 := fun h => by cases h
  show J_ zX11_bad T (po_X11_bad_e T number place) 0 0 0 [some (vR 111 0), some (vI number), some (vI place)] [] T
  refine j_blx (F := fX11) tb_X11 (nn_ _) bk_X11_bad_0 bs_X11_bad_0 hz (fun K hK => ?_)
  intro b1 b1b
  refine And.intro (fun c2 => ?_) (fun c2 => ?_)
  · refine hK 17 _ [] T ?_
    refine j_blx (F := fX11) tb_X11 (nn_ _) bk_X11_bad_17 bs_X11_bad_17 hz (fun K hK => ?_)
    refine (show po_X11_bad_e T number place T (none) from ?_)
    exact ⟨rfl, fr_0 _ _, by omega⟩
  · refine bd_i (by omega) ?_
    refine x_nm (fun U3 hU3 => ?_)
    have e4 := up_f hU3
    refine bd_i (by omega) ?_
    refine x_nm (fun U5 hU5 => ?_)
    have e6 := up_f hU5
    refine (show po_X11_bad_e T number place U5 (none) from ?_)
    have e7 : U5 111 0 62 = number := (up_j hU5 (by decide) 111 0).trans (up_f hU3)
    have e8 : U5 111 0 63 = place := up_f hU5
    exact ⟨rfl, fr_u (fr_u (fr_0 _ _) hU3 rfl) hU5 rfl, by omega⟩
theorem bk_X11_take_e_346 : ck_ fX11 none cX11_take 346 [.aload 0, .aload 0, .tableswitch 0 11 60 #[], .tableswitch 1 11 57 #[], .return_] 355 = true := qck_r (nn_ _) (by decide +kernel)
theorem bs_X11_take_e_346 {P : Zt → Option Zv → Prop} (K : Int → Zl → List Zv → Zt → Prop) : sx_ K P [.aload 0, .aload 0, .tableswitch 0 11 60 #[], .tableswitch 1 11 57 #[], .return_] 355 = x_aload 0 (x_aload 0 (x_g0 111 60 0 400 (x_p 111 57 0 400 (x_return_ P)))) := ((xe_aload 0).trans (congrArg (x_aload 0) ((xe_aload 0).trans (congrArg (x_aload 0) ((xe_g0 (kk := 111) rfl tl_11_60).trans (congrArg (x_g0 111 60 0 400) ((xe_p (kk := 111) rfl tl_11_57).trans (congrArg (x_p 111 57 0 400) (xe_return_)))))))))
theorem bk_X11_take_e_102 : ck_ fX11 none cX11_take 102 [.aload 0, .tableswitch 0 11 60 #[], .aload 0, .tableswitch 0 11 1 #[], .if_icmp .ge 141, .aload 0, .tableswitch 0 11 0 #[], .aload 0, .tableswitch 0 11 60 #[], .iaload] 122 = true := qck_r (nn_ _) (by decide +kernel)
theorem bs_X11_take_e_102 {P : Zt → Option Zv → Prop} (K : Int → Zl → List Zv → Zt → Prop) : sx_ K P [.aload 0, .tableswitch 0 11 60 #[], .aload 0, .tableswitch 0 11 1 #[], .if_icmp .ge 141, .aload 0, .tableswitch 0 11 0 #[], .aload 0, .tableswitch 0 11 60 #[], .iaload] 122 = x_aload 0 (x_g0 111 60 0 400 (x_aload 0 (x_g0 111 1 0 400 (x_if_icmp .ge 141 K (x_aload 0 (x_g1 111 200 (x_aload 0 (x_g0 111 60 0 400 (x_iaload (K 122)))))))))) := ((xe_aload 0).trans (congrArg (x_aload 0) ((xe_g0 (kk := 111) rfl tl_11_60).trans (congrArg (x_g0 111 60 0 400) ((xe_aload 0).trans (congrArg (x_aload 0) ((xe_g0 (kk := 111) rfl tl_11_1).trans (congrArg (x_g0 111 1 0 400) ((xe_if_icmp .ge 141).trans (congrArg (x_if_icmp .ge 141 K) ((xe_aload 0).trans (congrArg (x_aload 0) ((xe_g1 (kk := 111) rfl tl_11_0).trans (congrArg (x_g1 111 200) ((xe_aload 0).trans (congrArg (x_aload 0) ((xe_g0 (kk := 111) rfl tl_11_60).trans (congrArg (x_g0 111 60 0 400) ((xe_iaload).trans (congrArg (x_iaload) xe_nil))))))))))))))))))))
theorem bk_X11_take_e_141 : ck_ fX11 none cX11_take 141 [.aload 0, .iconst 1, .tableswitch 1 11 58 #[], .aload 0, .tableswitch 0 11 60 #[], .aload 0, .tableswitch 0 11 59 #[], .isub, .iconst 12, .if_icmp .le 346, .aload 0, .iconst 1, .aload 0, .tableswitch 0 11 59 #[]] 166 = true := qck_r (nn_ _) (by decide +kernel)
theorem bs_X11_take_e_141 {P : Zt → Option Zv → Prop} (K : Int → Zl → List Zv → Zt → Prop) : sx_ K P [.aload 0, .iconst 1, .tableswitch 1 11 58 #[], .aload 0, .tableswitch 0 11 60 #[], .aload 0, .tableswitch 0 11 59 #[], .isub, .iconst 12, .if_icmp .le 346, .aload 0, .iconst 1, .aload 0, .tableswitch 0 11 59 #[]] 166 = x_aload 0 (x_iconst 1 (x_p 111 58 0 4 (x_aload 0 (x_g0 111 60 0 400 (x_aload 0 (x_g0 111 59 0 400 (x_isub (x_iconst 12 (x_if_icmp .le 346 K (x_aload 0 (x_iconst 1 (x_aload 0 (x_g0 111 59 0 400 (K 166)))))))))))))) := ((xe_aload 0).trans (congrArg (x_aload 0) ((xe_iconst 1).trans (congrArg (x_iconst 1) ((xe_p (kk := 111) rfl tl_11_58).trans (congrArg (x_p 111 58 0 4) ((xe_aload 0).trans (congrArg (x_aload 0) ((xe_g0 (kk := 111) rfl tl_11_60).trans (congrArg (x_g0 111 60 0 400) ((xe_aload 0).trans (congrArg (x_aload 0) ((xe_g0 (kk := 111) rfl tl_11_59).trans (congrArg (x_g0 111 59 0 400) ((xe_isub).trans (congrArg (x_isub) ((xe_iconst 12).trans (congrArg (x_iconst 12) ((xe_if_icmp .le 346).trans (congrArg (x_if_icmp .le 346 K) ((xe_aload 0).trans (congrArg (x_aload 0) ((xe_iconst 1).trans (congrArg (x_iconst 1) ((xe_aload 0).trans (congrArg (x_aload 0) ((xe_g0 (kk := 111) rfl tl_11_59).trans (congrArg (x_g0 111 59 0 400) xe_nil))))))))))))))))))))))))))))
theorem bk_X11_take_e_169 : ck_ fX11 none cX11_take 169 [.goto 346] 172 = true := qck_r (nn_ _) (by decide +kernel)
theorem bs_X11_take_e_169 {P : Zt → Option Zv → Prop} (K : Int → Zl → List Zv → Zt → Prop) : sx_ K P [.goto 346] 172 = x_goto 346 K := (xe_goto 346)
theorem bk_X11_take_e_125 : ck_ fX11 none cX11_take 125 [.ifCond .eq 141, .aload 0, .dup, .tableswitch 0 11 60 #[], .iconst 1, .iadd, .tableswitch 1 11 60 #[], .goto 102] 141 = true := qck_r (nn_ _) (by decide +kernel)
theorem bs_X11_take_e_125 {P : Zt → Option Zv → Prop} (K : Int → Zl → List Zv → Zt → Prop) : sx_ K P [.ifCond .eq 141, .aload 0, .dup, .tableswitch 0 11 60 #[], .iconst 1, .iadd, .tableswitch 1 11 60 #[], .goto 102] 141 = x_ifCond .eq 141 K (x_aload 0 (x_dup (x_g0 111 60 0 400 (x_iconst 1 (x_iadd (x_p 111 60 0 400 (x_goto 102 K))))))) := ((xe_ifCond .eq 141).trans (congrArg (x_ifCond .eq 141 K) ((xe_aload 0).trans (congrArg (x_aload 0) ((xe_dup).trans (congrArg (x_dup) ((xe_g0 (kk := 111) rfl tl_11_60).trans (congrArg (x_g0 111 60 0 400) ((xe_iconst 1).trans (congrArg (x_iconst 1) ((xe_iadd).trans (congrArg (x_iadd) ((xe_p (kk := 111) rfl tl_11_60).trans (congrArg (x_p 111 60 0 400) (xe_goto 102)))))))))))))))
theorem bk_X11_take_e_251 : ck_ fX11 none cX11_take 251 [.tableswitch 1 11 61 #[], .aload 0, .dup, .tableswitch 0 11 60 #[], .iconst 1, .iadd, .tableswitch 1 11 60 #[], .goto 184] 267 = true := qck_r (nn_ _) (by decide +kernel)
theorem bs_X11_take_e_251 {P : Zt → Option Zv → Prop} (K : Int → Zl → List Zv → Zt → Prop) : sx_ K P [.tableswitch 1 11 61 #[], .aload 0, .dup, .tableswitch 0 11 60 #[], .iconst 1, .iadd, .tableswitch 1 11 60 #[], .goto 184] 267 = x_p 111 61 (-2147483648) 2147483647 (x_aload 0 (x_dup (x_g0 111 60 0 400 (x_iconst 1 (x_iadd (x_p 111 60 0 400 (x_goto 184 K))))))) := ((xe_p (kk := 111) rfl tl_11_61).trans (congrArg (x_p 111 61 (-2147483648) 2147483647) ((xe_aload 0).trans (congrArg (x_aload 0) ((xe_dup).trans (congrArg (x_dup) ((xe_g0 (kk := 111) rfl tl_11_60).trans (congrArg (x_g0 111 60 0 400) ((xe_iconst 1).trans (congrArg (x_iconst 1) ((xe_iadd).trans (congrArg (x_iadd) ((xe_p (kk := 111) rfl tl_11_60).trans (congrArg (x_p 111 60 0 400) (xe_goto 184)))))))))))))))
theorem bk_X11_take_e_184 : ck_ fX11 none cX11_take 184 [.aload 0, .tableswitch 0 11 60 #[], .aload 0, .tableswitch 0 11 1 #[], .if_icmp .ge 267, .aload 0, .tableswitch 0 11 0 #[], .aload 0, .tableswitch 0 11 60 #[], .iaload] 204 = true := qck_r (nn_ _) (by decide +kernel)
theorem bs_X11_take_e_184 {P : Zt → Option Zv → Prop} (K : Int → Zl → List Zv → Zt → Prop) : sx_ K P [.aload 0, .tableswitch 0 11 60 #[], .aload 0, .tableswitch 0 11 1 #[], .if_icmp .ge 267, .aload 0, .tableswitch 0 11 0 #[], .aload 0, .tableswitch 0 11 60 #[], .iaload] 204 = x_aload 0 (x_g0 111 60 0 400 (x_aload 0 (x_g0 111 1 0 400 (x_if_icmp .ge 267 K (x_aload 0 (x_g1 111 200 (x_aload 0 (x_g0 111 60 0 400 (x_iaload (K 204)))))))))) := ((xe_aload 0).trans (congrArg (x_aload 0) ((xe_g0 (kk := 111) rfl tl_11_60).trans (congrArg (x_g0 111 60 0 400) ((xe_aload 0).trans (congrArg (x_aload 0) ((xe_g0 (kk := 111) rfl tl_11_1).trans (congrArg (x_g0 111 1 0 400) ((xe_if_icmp .ge 267).trans (congrArg (x_if_icmp .ge 267 K) ((xe_aload 0).trans (congrArg (x_aload 0) ((xe_g1 (kk := 111) rfl tl_11_0).trans (congrArg (x_g1 111 200) ((xe_aload 0).trans (congrArg (x_aload 0) ((xe_g0 (kk := 111) rfl tl_11_60).trans (congrArg (x_g0 111 60 0 400) ((xe_iaload).trans (congrArg (x_iaload) xe_nil))))))))))))))))))))
theorem bk_X11_take_e_267 : ck_ fX11 none cX11_take 267 [.aload 0, .iconst 2, .tableswitch 1 11 58 #[], .aload 0, .tableswitch 0 11 60 #[], .aload 0, .tableswitch 0 11 59 #[], .isub, .iconst 3, .if_icmp .le 346, .aload 0, .iconst 1, .aload 0, .tableswitch 0 11 59 #[]] 291 = true := qck_r (nn_ _) (by decide +kernel)
theorem bs_X11_take_e_267 {P : Zt → Option Zv → Prop} (K : Int → Zl → List Zv → Zt → Prop) : sx_ K P [.aload 0, .iconst 2, .tableswitch 1 11 58 #[], .aload 0, .tableswitch 0 11 60 #[], .aload 0, .tableswitch 0 11 59 #[], .isub, .iconst 3, .if_icmp .le 346, .aload 0, .iconst 1, .aload 0, .tableswitch 0 11 59 #[]] 291 = x_aload 0 (x_iconst 2 (x_p 111 58 0 4 (x_aload 0 (x_g0 111 60 0 400 (x_aload 0 (x_g0 111 59 0 400 (x_isub (x_iconst 3 (x_if_icmp .le 346 K (x_aload 0 (x_iconst 1 (x_aload 0 (x_g0 111 59 0 400 (K 291)))))))))))))) := ((xe_aload 0).trans (congrArg (x_aload 0) ((xe_iconst 2).trans (congrArg (x_iconst 2) ((xe_p (kk := 111) rfl tl_11_58).trans (congrArg (x_p 111 58 0 4) ((xe_aload 0).trans (congrArg (x_aload 0) ((xe_g0 (kk := 111) rfl tl_11_60).trans (congrArg (x_g0 111 60 0 400) ((xe_aload 0).trans (congrArg (x_aload 0) ((xe_g0 (kk := 111) rfl tl_11_59).trans (congrArg (x_g0 111 59 0 400) ((xe_isub).trans (congrArg (x_isub) ((xe_iconst 3).trans (congrArg (x_iconst 3) ((xe_if_icmp .le 346).trans (congrArg (x_if_icmp .le 346 K) ((xe_aload 0).trans (congrArg (x_aload 0) ((xe_iconst 1).trans (congrArg (x_iconst 1) ((xe_aload 0).trans (congrArg (x_aload 0) ((xe_g0 (kk := 111) rfl tl_11_59).trans (congrArg (x_g0 111 59 0 400) xe_nil))))))))))))))))))))))))))))
theorem bk_X11_take_e_294 : ck_ fX11 none cX11_take 294 [.goto 346] 297 = true := qck_r (nn_ _) (by decide +kernel)
theorem bs_X11_take_e_294 {P : Zt → Option Zv → Prop} (K : Int → Zl → List Zv → Zt → Prop) : sx_ K P [.goto 346] 297 = x_goto 346 K := (xe_goto 346)
theorem bk_X11_take_e_207 : ck_ fX11 none cX11_take 207 [.ifCond .eq 267, .aload 0, .aload 0, .tableswitch 0 11 60 #[], .aload 0, .tableswitch 0 11 59 #[], .isub, .iconst 3, .if_icmp .ge 247, .iconst 10, .aload 0, .tableswitch 0 11 61 #[], .imul, .aload 0, .tableswitch 0 11 0 #[], .aload 0, .tableswitch 0 11 60 #[], .iaload, .iadd, .iconst 48, .isub, .goto 251] 247 = true := qck_r (nn_ _) (by decide +kernel)
theorem bs_X11_take_e_207 {P : Zt → Option Zv → Prop} (K : Int → Zl → List Zv → Zt → Prop) : sx_ K P [.ifCond .eq 267, .aload 0, .aload 0, .tableswitch 0 11 60 #[], .aload 0, .tableswitch 0 11 59 #[], .isub, .iconst 3, .if_icmp .ge 247, .iconst 10, .aload 0, .tableswitch 0 11 61 #[], .imul, .aload 0, .tableswitch 0 11 0 #[], .aload 0, .tableswitch 0 11 60 #[], .iaload, .iadd, .iconst 48, .isub, .goto 251] 247 = x_ifCond .eq 267 K (x_aload 0 (x_aload 0 (x_g0 111 60 0 400 (x_aload 0 (x_g0 111 59 0 400 (x_isub (x_iconst 3 (x_if_icmp .ge 247 K (x_iconst 10 (x_aload 0 (x_g0 111 61 (-2147483648) 2147483647 (x_imul (x_aload 0 (x_g1 111 200 (x_aload 0 (x_g0 111 60 0 400 (x_iaload (x_iadd (x_iconst 48 (x_isub (x_goto 251 K))))))))))))))))))))) := ((xe_ifCond .eq 267).trans (congrArg (x_ifCond .eq 267 K) ((xe_aload 0).trans (congrArg (x_aload 0) ((xe_aload 0).trans (congrArg (x_aload 0) ((xe_g0 (kk := 111) rfl tl_11_60).trans (congrArg (x_g0 111 60 0 400) ((xe_aload 0).trans (congrArg (x_aload 0) ((xe_g0 (kk := 111) rfl tl_11_59).trans (congrArg (x_g0 111 59 0 400) ((xe_isub).trans (congrArg (x_isub) ((xe_iconst 3).trans (congrArg (x_iconst 3) ((xe_if_icmp .ge 247).trans (congrArg (x_if_icmp .ge 247 K) ((xe_iconst 10).trans (congrArg (x_iconst 10) ((xe_aload 0).trans (congrArg (x_aload 0) ((xe_g0 (kk := 111) rfl tl_11_61).trans (congrArg (x_g0 111 61 (-2147483648) 2147483647) ((xe_imul).trans (congrArg (x_imul) ((xe_aload 0).trans (congrArg (x_aload 0) ((xe_g1 (kk := 111) rfl tl_11_0).trans (congrArg (x_g1 111 200) ((xe_aload 0).trans (congrArg (x_aload 0) ((xe_g0 (kk := 111) rfl tl_11_60).trans (congrArg (x_g0 111 60 0 400) ((xe_iaload).trans (congrArg (x_iaload) ((xe_iadd).trans (congrArg (x_iadd) ((xe_iconst 48).trans (congrArg (x_iconst 48) ((xe_isub).trans (congrArg (x_isub) (xe_goto 251)))))))))))))))))))))))))))))))))))))))))))
theorem bk_X11_take_e_247 : ck_ fX11 none cX11_take 247 [.aload 0, .tableswitch 0 11 61 #[]] 251 = true := qck_r (nn_ _) (by decide +kernel)
theorem bs_X11_take_e_247 {P : Zt → Option Zv → Prop} (K : Int → Zl → List Zv → Zt → Prop) : sx_ K P [.aload 0, .tableswitch 0 11 61 #[]] 251 = x_aload 0 (x_g0 111 61 (-2147483648) 2147483647 (K 251)) := ((xe_aload 0).trans (congrArg (x_aload 0) ((xe_g0 (kk := 111) rfl tl_11_61).trans (congrArg (x_g0 111 61 (-2147483648) 2147483647) xe_nil))))
theorem bk_X11_take_e_52 : ck_ fX11 none cX11_take 52 [.aload 0, .aload 0, .tableswitch 0 11 57 #[], .tableswitch 1 11 59 #[], .aload 0, .aload 0, .tableswitch 0 11 57 #[], .tableswitch 1 11 60 #[], .aload 0, .iconst 0, .tableswitch 1 11 58 #[], .aload 0, .tableswitch 0 11 57 #[], .aload 0, .tableswitch 0 11 1 #[], .if_icmp .ne 85, .return_] 85 = true := qck_r (nn_ _) (by decide +kernel)
theorem bs_X11_take_e_52 {P : Zt → Option Zv → Prop} (K : Int → Zl → List Zv → Zt → Prop) : sx_ K P [.aload 0, .aload 0, .tableswitch 0 11 57 #[], .tableswitch 1 11 59 #[], .aload 0, .aload 0, .tableswitch 0 11 57 #[], .tableswitch 1 11 60 #[], .aload 0, .iconst 0, .tableswitch 1 11 58 #[], .aload 0, .tableswitch 0 11 57 #[], .aload 0, .tableswitch 0 11 1 #[], .if_icmp .ne 85, .return_] 85 = x_aload 0 (x_aload 0 (x_g0 111 57 0 400 (x_p 111 59 0 400 (x_aload 0 (x_aload 0 (x_g0 111 57 0 400 (x_p 111 60 0 400 (x_aload 0 (x_iconst 0 (x_p 111 58 0 4 (x_aload 0 (x_g0 111 57 0 400 (x_aload 0 (x_g0 111 1 0 400 (x_if_icmp .ne 85 K (x_return_ P)))))))))))))))) := ((xe_aload 0).trans (congrArg (x_aload 0) ((xe_aload 0).trans (congrArg (x_aload 0) ((xe_g0 (kk := 111) rfl tl_11_57).trans (congrArg (x_g0 111 57 0 400) ((xe_p (kk := 111) rfl tl_11_59).trans (congrArg (x_p 111 59 0 400) ((xe_aload 0).trans (congrArg (x_aload 0) ((xe_aload 0).trans (congrArg (x_aload 0) ((xe_g0 (kk := 111) rfl tl_11_57).trans (congrArg (x_g0 111 57 0 400) ((xe_p (kk := 111) rfl tl_11_60).trans (congrArg (x_p 111 60 0 400) ((xe_aload 0).trans (congrArg (x_aload 0) ((xe_iconst 0).trans (congrArg (x_iconst 0) ((xe_p (kk := 111) rfl tl_11_58).trans (congrArg (x_p 111 58 0 4) ((xe_aload 0).trans (congrArg (x_aload 0) ((xe_g0 (kk := 111) rfl tl_11_57).trans (congrArg (x_g0 111 57 0 400) ((xe_aload 0).trans (congrArg (x_aload 0) ((xe_g0 (kk := 111) rfl tl_11_1).trans (congrArg (x_g0 111 1 0 400) ((xe_if_icmp .ne 85).trans (congrArg (x_if_icmp .ne 85 K) (xe_return_)))))))))))))))))))))))))))))))))
theorem bk_X11_take_e_85 : ck_ fX11 none cX11_take 85 [.aload 0, .tableswitch 0 11 0 #[], .aload 0, .tableswitch 0 11 57 #[], .iaload, .istore 1, .iload 1] 96 = true := qck_r (nn_ _) (by decide +kernel)
theorem bs_X11_take_e_85 {P : Zt → Option Zv → Prop} (K : Int → Zl → List Zv → Zt → Prop) : sx_ K P [.aload 0, .tableswitch 0 11 0 #[], .aload 0, .tableswitch 0 11 57 #[], .iaload, .istore 1, .iload 1] 96 = x_aload 0 (x_g1 111 200 (x_aload 0 (x_g0 111 57 0 400 (x_iaload (x_istore 1 (x_iload 1 (K 96))))))) := ((xe_aload 0).trans (congrArg (x_aload 0) ((xe_g1 (kk := 111) rfl tl_11_0).trans (congrArg (x_g1 111 200) ((xe_aload 0).trans (congrArg (x_aload 0) ((xe_g0 (kk := 111) rfl tl_11_57).trans (congrArg (x_g0 111 57 0 400) ((xe_iaload).trans (congrArg (x_iaload) ((xe_istore 1).trans (congrArg (x_istore 1) ((xe_iload 1).trans (congrArg (x_iload 1) xe_nil))))))))))))))
theorem bk_X11_take_e_99 : ck_ fX11 none cX11_take 99 [.ifCond .eq 172] 102 = true := qck_r (nn_ _) (by decide +kernel)
theorem bs_X11_take_e_99 {P : Zt → Option Zv → Prop} (K : Int → Zl → List Zv → Zt → Prop) : sx_ K P [.ifCond .eq 172] 102 = x_ifCond .eq 172 K (K 102) := ((xe_ifCond .eq 172).trans (congrArg (x_ifCond .eq 172 K) xe_nil))
theorem bk_X11_take_e_172 : ck_ fX11 none cX11_take 172 [.iload 1] 173 = true := qck_r (nn_ _) (by decide +kernel)
theorem bs_X11_take_e_172 {P : Zt → Option Zv → Prop} (K : Int → Zl → List Zv → Zt → Prop) : sx_ K P [.iload 1] 173 = x_iload 1 (K 173) := ((xe_iload 1).trans (congrArg (x_iload 1) xe_nil))
theorem bk_X11_take_e_176 : ck_ fX11 none cX11_take 176 [.ifCond .eq 297, .aload 0, .iconst 0, .tableswitch 1 11 61 #[]] 184 = true := qck_r (nn_ _) (by decide +kernel)
theorem bs_X11_take_e_176 {P : Zt → Option Zv → Prop} (K : Int → Zl → List Zv → Zt → Prop) : sx_ K P [.ifCond .eq 297, .aload 0, .iconst 0, .tableswitch 1 11 61 #[]] 184 = x_ifCond .eq 297 K (x_aload 0 (x_iconst 0 (x_p 111 61 (-2147483648) 2147483647 (K 184)))) := ((xe_ifCond .eq 297).trans (congrArg (x_ifCond .eq 297 K) ((xe_aload 0).trans (congrArg (x_aload 0) ((xe_iconst 0).trans (congrArg (x_iconst 0) ((xe_p (kk := 111) rfl tl_11_61).trans (congrArg (x_p 111 61 (-2147483648) 2147483647) xe_nil))))))))
theorem bk_X11_take_e_297 : ck_ fX11 none cX11_take 297 [.iload 1, .iconst 59, .if_icmp .eq 309, .iload 1, .iconst 44, .if_icmp .ne 337, .aload 0, .iload 1, .iconst 59, .if_icmp .ne 320, .iconst 3, .goto 321] 320 = true := qck_r (nn_ _) (by decide +kernel)
theorem bs_X11_take_e_297 {P : Zt → Option Zv → Prop} (K : Int → Zl → List Zv → Zt → Prop) : sx_ K P [.iload 1, .iconst 59, .if_icmp .eq 309, .iload 1, .iconst 44, .if_icmp .ne 337, .aload 0, .iload 1, .iconst 59, .if_icmp .ne 320, .iconst 3, .goto 321] 320 = x_iload 1 (x_iconst 59 (x_if_icmp .eq 309 K (x_iload 1 (x_iconst 44 (x_if_icmp .ne 337 K (x_aload 0 (x_iload 1 (x_iconst 59 (x_if_icmp .ne 320 K (x_iconst 3 (x_goto 321 K))))))))))) := ((xe_iload 1).trans (congrArg (x_iload 1) ((xe_iconst 59).trans (congrArg (x_iconst 59) ((xe_if_icmp .eq 309).trans (congrArg (x_if_icmp .eq 309 K) ((xe_iload 1).trans (congrArg (x_iload 1) ((xe_iconst 44).trans (congrArg (x_iconst 44) ((xe_if_icmp .ne 337).trans (congrArg (x_if_icmp .ne 337 K) ((xe_aload 0).trans (congrArg (x_aload 0) ((xe_iload 1).trans (congrArg (x_iload 1) ((xe_iconst 59).trans (congrArg (x_iconst 59) ((xe_if_icmp .ne 320).trans (congrArg (x_if_icmp .ne 320 K) ((xe_iconst 3).trans (congrArg (x_iconst 3) (xe_goto 321)))))))))))))))))))))))
theorem bk_X11_take_e_309 : ck_ fX11 none cX11_take 309 [.aload 0, .iload 1, .iconst 59, .if_icmp .ne 320, .iconst 3, .goto 321] 320 = true := qck_r (nn_ _) (by decide +kernel)
theorem bs_X11_take_e_309 {P : Zt → Option Zv → Prop} (K : Int → Zl → List Zv → Zt → Prop) : sx_ K P [.aload 0, .iload 1, .iconst 59, .if_icmp .ne 320, .iconst 3, .goto 321] 320 = x_aload 0 (x_iload 1 (x_iconst 59 (x_if_icmp .ne 320 K (x_iconst 3 (x_goto 321 K))))) := ((xe_aload 0).trans (congrArg (x_aload 0) ((xe_iload 1).trans (congrArg (x_iload 1) ((xe_iconst 59).trans (congrArg (x_iconst 59) ((xe_if_icmp .ne 320).trans (congrArg (x_if_icmp .ne 320 K) ((xe_iconst 3).trans (congrArg (x_iconst 3) (xe_goto 321)))))))))))
theorem bk_X11_take_e_320 : ck_ fX11 none cX11_take 320 [.iconst 4, .tableswitch 1 11 58 #[], .aload 0, .dup, .tableswitch 0 11 60 #[], .iconst 1, .iadd, .tableswitch 1 11 60 #[], .goto 346] 337 = true := qck_r (nn_ _) (by decide +kernel)
theorem bs_X11_take_e_320 {P : Zt → Option Zv → Prop} (K : Int → Zl → List Zv → Zt → Prop) : sx_ K P [.iconst 4, .tableswitch 1 11 58 #[], .aload 0, .dup, .tableswitch 0 11 60 #[], .iconst 1, .iadd, .tableswitch 1 11 60 #[], .goto 346] 337 = x_iconst 4 (x_p 111 58 0 4 (x_aload 0 (x_dup (x_g0 111 60 0 400 (x_iconst 1 (x_iadd (x_p 111 60 0 400 (x_goto 346 K)))))))) := ((xe_iconst 4).trans (congrArg (x_iconst 4) ((xe_p (kk := 111) rfl tl_11_58).trans (congrArg (x_p 111 58 0 4) ((xe_aload 0).trans (congrArg (x_aload 0) ((xe_dup).trans (congrArg (x_dup) ((xe_g0 (kk := 111) rfl tl_11_60).trans (congrArg (x_g0 111 60 0 400) ((xe_iconst 1).trans (congrArg (x_iconst 1) ((xe_iadd).trans (congrArg (x_iadd) ((xe_p (kk := 111) rfl tl_11_60).trans (congrArg (x_p 111 60 0 400) (xe_goto 346)))))))))))))))))
theorem bk_X11_take_e_321 : ck_ fX11 none cX11_take 321 [.tableswitch 1 11 58 #[], .aload 0, .dup, .tableswitch 0 11 60 #[], .iconst 1, .iadd, .tableswitch 1 11 60 #[], .goto 346] 337 = true := qck_r (nn_ _) (by decide +kernel)
theorem bs_X11_take_e_321 {P : Zt → Option Zv → Prop} (K : Int → Zl → List Zv → Zt → Prop) : sx_ K P [.tableswitch 1 11 58 #[], .aload 0, .dup, .tableswitch 0 11 60 #[], .iconst 1, .iadd, .tableswitch 1 11 60 #[], .goto 346] 337 = x_p 111 58 0 4 (x_aload 0 (x_dup (x_g0 111 60 0 400 (x_iconst 1 (x_iadd (x_p 111 60 0 400 (x_goto 346 K))))))) := ((xe_p (kk := 111) rfl tl_11_58).trans (congrArg (x_p 111 58 0 4) ((xe_aload 0).trans (congrArg (x_aload 0) ((xe_dup).trans (congrArg (x_dup) ((xe_g0 (kk := 111) rfl tl_11_60).trans (congrArg (x_g0 111 60 0 400) ((xe_iconst 1).trans (congrArg (x_iconst 1) ((xe_iadd).trans (congrArg (x_iadd) ((xe_p (kk := 111) rfl tl_11_60).trans (congrArg (x_p 111 60 0 400) (xe_goto 346)))))))))))))))
theorem bk_X11_take_e_337 : ck_ fX11 none cX11_take 337 [.aload 0, .iconst 1, .aload 0, .tableswitch 0 11 59 #[]] 343 = true := qck_r (nn_ _) (by decide +kernel)
theorem bs_X11_take_e_337 {P : Zt → Option Zv → Prop} (K : Int → Zl → List Zv → Zt → Prop) : sx_ K P [.aload 0, .iconst 1, .aload 0, .tableswitch 0 11 59 #[]] 343 = x_aload 0 (x_iconst 1 (x_aload 0 (x_g0 111 59 0 400 (K 343)))) := ((xe_aload 0).trans (congrArg (x_aload 0) ((xe_iconst 1).trans (congrArg (x_iconst 1) ((xe_aload 0).trans (congrArg (x_aload 0) ((xe_g0 (kk := 111) rfl tl_11_59).trans (congrArg (x_g0 111 59 0 400) xe_nil))))))))
theorem bk_X11_take_e_0 : ck_ fX11 none cX11_take 0 [.aload 0, .tableswitch 0 11 57 #[], .aload 0, .tableswitch 0 11 1 #[], .if_icmp .ge 52, .aload 0, .tableswitch 0 11 0 #[], .aload 0, .tableswitch 0 11 57 #[], .iaload, .iconst 10, .if_icmp .eq 39, .aload 0, .tableswitch 0 11 0 #[], .aload 0, .tableswitch 0 11 57 #[], .iaload, .iconst 32, .if_icmp .ne 52, .aload 0, .dup, .tableswitch 0 11 57 #[], .iconst 1, .iadd, .tableswitch 1 11 57 #[], .goto 0] 52 = true := qck_r (nn_ _) (by decide +kernel)
theorem bs_X11_take_e_0 {P : Zt → Option Zv → Prop} (K : Int → Zl → List Zv → Zt → Prop) : sx_ K P [.aload 0, .tableswitch 0 11 57 #[], .aload 0, .tableswitch 0 11 1 #[], .if_icmp .ge 52, .aload 0, .tableswitch 0 11 0 #[], .aload 0, .tableswitch 0 11 57 #[], .iaload, .iconst 10, .if_icmp .eq 39, .aload 0, .tableswitch 0 11 0 #[], .aload 0, .tableswitch 0 11 57 #[], .iaload, .iconst 32, .if_icmp .ne 52, .aload 0, .dup, .tableswitch 0 11 57 #[], .iconst 1, .iadd, .tableswitch 1 11 57 #[], .goto 0] 52 = x_aload 0 (x_g0 111 57 0 400 (x_aload 0 (x_g0 111 1 0 400 (x_if_icmp .ge 52 K (x_aload 0 (x_g1 111 200 (x_aload 0 (x_g0 111 57 0 400 (x_iaload (x_iconst 10 (x_if_icmp .eq 39 K (x_aload 0 (x_g1 111 200 (x_aload 0 (x_g0 111 57 0 400 (x_iaload (x_iconst 32 (x_if_icmp .ne 52 K (x_aload 0 (x_dup (x_g0 111 57 0 400 (x_iconst 1 (x_iadd (x_p 111 57 0 400 (x_goto 0 K))))))))))))))))))))))))) := ((xe_aload 0).trans (congrArg (x_aload 0) ((xe_g0 (kk := 111) rfl tl_11_57).trans (congrArg (x_g0 111 57 0 400) ((xe_aload 0).trans (congrArg (x_aload 0) ((xe_g0 (kk := 111) rfl tl_11_1).trans (congrArg (x_g0 111 1 0 400) ((xe_if_icmp .ge 52).trans (congrArg (x_if_icmp .ge 52 K) ((xe_aload 0).trans (congrArg (x_aload 0) ((xe_g1 (kk := 111) rfl tl_11_0).trans (congrArg (x_g1 111 200) ((xe_aload 0).trans (congrArg (x_aload 0) ((xe_g0 (kk := 111) rfl tl_11_57).trans (congrArg (x_g0 111 57 0 400) ((xe_iaload).trans (congrArg (x_iaload) ((xe_iconst 10).trans (congrArg (x_iconst 10) ((xe_if_icmp .eq 39).trans (congrArg (x_if_icmp .eq 39 K) ((xe_aload 0).trans (congrArg (x_aload 0) ((xe_g1 (kk := 111) rfl tl_11_0).trans (congrArg (x_g1 111 200) ((xe_aload 0).trans (congrArg (x_aload 0) ((xe_g0 (kk := 111) rfl tl_11_57).trans (congrArg (x_g0 111 57 0 400) ((xe_iaload).trans (congrArg (x_iaload) ((xe_iconst 32).trans (congrArg (x_iconst 32) ((xe_if_icmp .ne 52).trans (congrArg (x_if_icmp .ne 52 K) ((xe_aload 0).trans (congrArg (x_aload 0) ((xe_dup).trans (congrArg (x_dup) ((xe_g0 (kk := 111) rfl tl_11_57).trans (congrArg (x_g0 111 57 0 400) ((xe_iconst 1).trans (congrArg (x_iconst 1) ((xe_iadd).trans (congrArg (x_iadd) ((xe_p (kk := 111) rfl tl_11_57).trans (congrArg (x_p 111 57 0 400) (xe_goto 0)))))))))))))))))))))))))))))))))))))))))))))))))))
theorem bk_X11_take_e_39 : ck_ fX11 none cX11_take 39 [.aload 0, .dup, .tableswitch 0 11 57 #[], .iconst 1, .iadd, .tableswitch 1 11 57 #[], .goto 0] 52 = true := qck_r (nn_ _) (by decide +kernel)
theorem bs_X11_take_e_39 {P : Zt → Option Zv → Prop} (K : Int → Zl → List Zv → Zt → Prop) : sx_ K P [.aload 0, .dup, .tableswitch 0 11 57 #[], .iconst 1, .iadd, .tableswitch 1 11 57 #[], .goto 0] 52 = x_aload 0 (x_dup (x_g0 111 57 0 400 (x_iconst 1 (x_iadd (x_p 111 57 0 400 (x_goto 0 K)))))) := ((xe_aload 0).trans (congrArg (x_aload 0) ((xe_dup).trans (congrArg (x_dup) ((xe_g0 (kk := 111) rfl tl_11_57).trans (congrArg (x_g0 111 57 0 400) ((xe_iconst 1).trans (congrArg (x_iconst 1) ((xe_iadd).trans (congrArg (x_iadd) ((xe_p (kk := 111) rfl tl_11_57).trans (congrArg (x_p 111 57 0 400) (xe_goto 0)))))))))))))
abbrev po_X11_take_e (T : Zt) : Zt → Option Zv → Prop := fun T' r => r = none ∧ fr_ [(111, [57, 58, 59, 60, 61, 62, 63])] T T' ∧ (T' 111 0 57 = T' 111 0 60 ∧ TM9_ (fun j => T 200 0 j) (T 111 0 1) (T 111 0 57) (T' 111 0 59) (T' 111 0 60) (T' 111 0 58) (T' 111 0 61) (T' 111 0 62) (T' 111 0 63) (T 111 0 63))
set_option maxHeartbeats 4000000 in
theorem ct_X11_take_e {T : Zt} (h1 : T 111 0 57 ≤ T 111 0 1) (h62 : T 111 0 62 = 0) : Ct_ yX11_take zX11_take T [vR 111 0] (po_X11_take_e T) := by
  refine ct_of pn_11 rfl rfl (Nat.le_of_ble_eq_true rfl) (fun hT hav => ?_)
  have hz : zX11_take.2.2.2.1 = some .boolean → ∀ (T' : Zt) (x : Int), po_X11_take_e T T' (some (vI x)) → 0 ≤ x ∧ x ≤ 1 := fun h => by cases h
  have hb_1 : 0 ≤ T 111 0 1 ∧ T 111 0 1 ≤ 400 := bd_f hT 111 1 tl_11_1 0
  have hb_57 : 0 ≤ T 111 0 57 ∧ T 111 0 57 ≤ 400 := bd_f hT 111 57 tl_11_57 0
  show J_ zX11_take T (po_X11_take_e T) 0 0 0 [some (vR 111 0), none] [] T
  have c_0 : ∀ (nn : Nat) (T1 : Zt), ((T 111 0 1 - T1 111 0 57).toNat) ≤ nn → (fr_ [(111, [57])] T T1) → (T 111 0 57 ≤ T1 111 0 57 ∧ T1 111 0 57 ≤ T 111 0 1) → (BP9_ (fun j => T 200 0 j) (T 111 0 57) (T1 111 0 57)) → J_ zX11_take T (po_X11_take_e T) 0 0 0 [some (vR 111 0), none] [] T1 := by
    intro nn
    induction nn using Nat.strongRecOn with
    | _ nn ih_0 =>
      intro T1 hm_0 hf_0 i1 i2
      replace hm_0 := fun (_ : Unit) => hm_0
      have c_52 : (SK9_ (fun j => T 200 0 j) (T 111 0 1) (T 111 0 57) (T1 111 0 57)) → J_ zX11_take T (po_X11_take_e T) 0 0 52 [some (vR 111 0), none] [] T1 := by
        intro  sk
        have c_346 : ∀ (T3 : Zt), (fr_ [(111, [57, 58, 59, 60, 61, 62, 63])] T T3) → (0 ≤ T3 111 0 60 ∧ T3 111 0 60 ≤ T 111 0 1) → (TM9_ (fun j => T 200 0 j) (T 111 0 1) (T 111 0 57) (T3 111 0 59) (T3 111 0 60) (T3 111 0 58) (T3 111 0 61) (T3 111 0 62) (T3 111 0 63) (T 111 0 63)) → J_ zX11_take T (po_X11_take_e T) 0 0 346 [some (vR 111 0), none] [] T3 := by
          intro T3 hf_346 j1 j2
          refine j_blx (F := fX11) tb_X11 (nn_ _) bk_X11_take_e_346 bs_X11_take_e_346 hz (fun K hK => ?_)
          intro b1 b1b
          refine bd_i (by omega) ?_
          refine x_nm (fun U2 hU2 => ?_)
          have e3 := up_f hU2
          refine (show po_X11_take_e T U2 (none) from ?_)
          have e4 : U2 111 0 57 = T3 111 0 60 := up_f hU2
          have e5 : U2 111 0 60 = T3 111 0 60 := up_j hU2 (by decide) 111 0
          have e6 : U2 111 0 59 = T3 111 0 59 := up_j hU2 (by decide) 111 0
          have e7 : U2 111 0 58 = T3 111 0 58 := up_j hU2 (by decide) 111 0
          have e8 : U2 111 0 61 = T3 111 0 61 := up_j hU2 (by decide) 111 0
          have e9 : U2 111 0 62 = T3 111 0 62 := up_j hU2 (by decide) 111 0
          have e10 : U2 111 0 63 = T3 111 0 63 := up_j hU2 (by decide) 111 0
          have w0 := up_f hU2
          have w58 : U2 111 0 58 = T3 111 0 58 := up_j hU2 (by decide) 111 0
          have w59 : U2 111 0 59 = T3 111 0 59 := up_j hU2 (by decide) 111 0
          have w60 : U2 111 0 60 = T3 111 0 60 := up_j hU2 (by decide) 111 0
          have w61 : U2 111 0 61 = T3 111 0 61 := up_j hU2 (by decide) 111 0
          have w62 : U2 111 0 62 = T3 111 0 62 := up_j hU2 (by decide) 111 0
          have w63 : U2 111 0 63 = T3 111 0 63 := up_j hU2 (by decide) 111 0
          refine ⟨rfl, fr_u (fr_t (fr_0 _ _) (fr_s hf_346 rfl)) hU2 rfl, by omega, ?_⟩
          rw [w58, w59, w60, w61, w62, w63]
          exact j2
        have c_102 : ∀ (nn : Nat) (T2 : Zt), ((T 111 0 1 - T2 111 0 60).toNat) ≤ nn → (fr_ [(111, [57, 58, 59, 60, 61, 62, 63])] T T2) → (T2 111 0 59 = T1 111 0 57 ∧ T1 111 0 57 ≤ T2 111 0 60 ∧ T2 111 0 60 ≤ T 111 0 1 ∧ T1 111 0 57 < T 111 0 1 ∧ T2 111 0 62 = 0 ∧ T2 111 0 63 = T 111 0 63) → (97 ≤ T 200 0 (T1 111 0 57) ∧ T 200 0 (T1 111 0 57) ≤ 122) → (RP9_ (fun j => T 200 0 j) 97 122 (T1 111 0 57) (T2 111 0 60)) → J_ zX11_take T (po_X11_take_e T) 0 0 102 [some (vR 111 0), none] [] T2 := by
          intro nn
          induction nn using Nat.strongRecOn with
          | _ nn ih_102 =>
            intro T2 hm_102 hf_102 k1 k2 kr
            replace hm_102 := fun (_ : Unit) => hm_102
            have cg : T2 111 0 60 = T1 111 0 57 → T 200 0 (T2 111 0 60) = T 200 0 (T1 111 0 57) := fun z => by rw [z]
            refine j_blx (F := fX11) tb_X11 (nn_ _) bk_X11_take_e_102 bs_X11_take_e_102 hz (fun K hK => ?_)
            intro b11 b11b
            intro b12 b12b
            have e13 : T2 111 0 1 = T 111 0 1 := hf_102 111 0 1 rfl
            rw [e13] at b12 b12b ⊢
            refine And.intro (fun c14 => ?_) (fun c14 => ?_)
            · refine hK 141 _ [] T2 ?_
              refine j_blx (F := fX11) tb_X11 (nn_ _) bk_X11_take_e_141 bs_X11_take_e_141 hz (fun K hK => ?_)
              refine bd_i (by omega) ?_
              refine x_nm (fun U15 hU15 => ?_)
              have e16 := up_f hU15
              intro b17 b17b
              have e18 : U15 111 0 60 = T2 111 0 60 := up_j hU15 (by decide) 111 0
              rw [e18] at b17 b17b ⊢
              intro b19 b19b
              have e20 : U15 111 0 59 = T2 111 0 59 := up_j hU15 (by decide) 111 0
              rw [e20] at b19 b19b ⊢
              refine rg_i (by omega) ?_
              refine And.intro (fun c21 => ?_) (fun c21 => ?_)
              · refine hK 346 _ [] U15 ?_
                have e22 : U15 111 0 60 = T2 111 0 60 := up_j hU15 (by decide) 111 0
                have e23 : U15 111 0 59 = T2 111 0 59 := up_j hU15 (by decide) 111 0
                have e24 : U15 111 0 58 = 1 := up_f hU15
                have e25 : U15 111 0 61 = T2 111 0 61 := up_j hU15 (by decide) 111 0
                have e26 : U15 111 0 62 = T2 111 0 62 := up_j hU15 (by decide) 111 0
                have e27 : U15 111 0 63 = T2 111 0 63 := up_j hU15 (by decide) 111 0
                refine c_346 U15 ?_ ?_ ?_
                · exact fr_u (fr_t (fr_0 _ _) (fr_s hf_102 rfl)) hU15 rfl
                · omega
                · exact tm9_1 sk (by omega) (by omega) (show 97 ≤ T 200 0 (T1 111 0 57) ∧ T 200 0 (T1 111 0 57) ≤ 122 by omega) (by rw [show U15 111 0 60 = T2 111 0 60 by omega]; exact ⟨by omega, by omega, kr, fun g => (show ¬ (97 ≤ T 200 0 (T2 111 0 60) ∧ T 200 0 (T2 111 0 60) ≤ 122) by omega)⟩) (by omega)
              · intro b28 b28b
                have e29 : U15 111 0 59 = T2 111 0 59 := up_j hU15 (by decide) 111 0
                rw [e29] at b28 b28b ⊢
                refine hK 166 _ [vI (T2 111 0 59), vI 1, vR 111 0] U15 ?_
                have e30 : U15 111 0 62 = T2 111 0 62 := up_j hU15 (by decide) 111 0
                refine j_callV (y := yX11_bad) (Yc := zX11_bad) (rest := []) [vI 1, vI (T2 111 0 59)] (ct_X11_bad_e (T := U15) (by omega) (by omega)) cl_X11_281 (qd_c (by decide +kernel)) (nn_ _) rfl (rf_of rfl) (Nat.le_of_ble_eq_true rfl) (Nat.le_of_ble_eq_true rfl) (Nat.le_of_ble_eq_true rfl) rfl ?_
                rintro U31 _ ⟨rfl, fU31, qU31⟩
                show J_ zX11_take T (po_X11_take_e T) 0 0 169 _ [] U31
                refine j_blx (F := fX11) tb_X11 (nn_ _) bk_X11_take_e_169 bs_X11_take_e_169 hz (fun K hK => ?_)
                refine hK 346 _ [] U31 ?_
                have e32 : U31 111 0 60 = T2 111 0 60 := (fU31 111 0 60 rfl).trans (up_j hU15 (by decide) 111 0)
                have e33 : U31 111 0 59 = T2 111 0 59 := (fU31 111 0 59 rfl).trans (up_j hU15 (by decide) 111 0)
                have e34 : U31 111 0 58 = 1 := (fU31 111 0 58 rfl).trans (up_f hU15)
                have e35 : U31 111 0 61 = T2 111 0 61 := (fU31 111 0 61 rfl).trans (up_j hU15 (by decide) 111 0)
                refine c_346 U31 ?_ ?_ ?_
                · exact fr_t (fr_u (fr_t (fr_0 _ _) (fr_s hf_102 rfl)) hU15 rfl) (fr_s fU31 rfl)
                · omega
                · exact tm9_1 sk (by omega) (by omega) (show 97 ≤ T 200 0 (T1 111 0 57) ∧ T 200 0 (T1 111 0 57) ≤ 122 by omega) (by rw [show U31 111 0 60 = T2 111 0 60 by omega]; exact ⟨by omega, by omega, kr, fun g => (show ¬ (97 ≤ T 200 0 (T2 111 0 60) ∧ T 200 0 (T2 111 0 60) ≤ 122) by omega)⟩) (by omega)
            · intro b36 b36b
              refine ix_i (by omega) ?_
              intro b37 b37b
              have e38 : T2 200 0 (T2 111 0 60) = T 200 0 (T2 111 0 60) := hf_102 200 0 (T2 111 0 60) rfl
              rw [e38] at b37 b37b ⊢
              refine hK 122 _ [vI (T 200 0 (T2 111 0 60))] T2 ?_
              refine j_callS (y := yX11_isLetter) (Yc := zX11_isLetter) (rest := []) [vI (T 200 0 (T2 111 0 60))] (ct_X11_isLetter (T := T2)) cl_X11_277 (qd_c (by decide +kernel)) (nn_ _) rfl (rf_of rfl) (Nat.le_of_ble_eq_true rfl) (Nat.le_of_ble_eq_true rfl) (Nat.le_of_ble_eq_true rfl) rfl ?_
              rintro _ _ ⟨rfl, x39, rfl, hx39⟩
              show J_ zX11_take T (po_X11_take_e T) 0 0 125 _ [vI x39] T2
              refine j_blx (F := fX11) tb_X11 (nn_ _) bk_X11_take_e_125 bs_X11_take_e_125 hz (fun K hK => ?_)
              refine And.intro (fun c40 => ?_) (fun c40 => ?_)
              · replace hx39 := hx39.resolve_left (fun z => absurd (c40.symm.trans z.1) (by decide))
                clear c40
                refine hK 141 _ [] T2 ?_
                refine j_blx (F := fX11) tb_X11 (nn_ _) bk_X11_take_e_141 bs_X11_take_e_141 hz (fun K hK => ?_)
                refine bd_i (by omega) ?_
                refine x_nm (fun U41 hU41 => ?_)
                have e42 := up_f hU41
                intro b43 b43b
                have e44 : U41 111 0 60 = T2 111 0 60 := up_j hU41 (by decide) 111 0
                rw [e44] at b43 b43b ⊢
                intro b45 b45b
                have e46 : U41 111 0 59 = T2 111 0 59 := up_j hU41 (by decide) 111 0
                rw [e46] at b45 b45b ⊢
                refine rg_i (by omega) ?_
                refine And.intro (fun c47 => ?_) (fun c47 => ?_)
                · refine hK 346 _ [] U41 ?_
                  have e48 : U41 111 0 60 = T2 111 0 60 := up_j hU41 (by decide) 111 0
                  have e49 : U41 111 0 59 = T2 111 0 59 := up_j hU41 (by decide) 111 0
                  have e50 : U41 111 0 58 = 1 := up_f hU41
                  have e51 : U41 111 0 61 = T2 111 0 61 := up_j hU41 (by decide) 111 0
                  have e52 : U41 111 0 62 = T2 111 0 62 := up_j hU41 (by decide) 111 0
                  have e53 : U41 111 0 63 = T2 111 0 63 := up_j hU41 (by decide) 111 0
                  refine c_346 U41 ?_ ?_ ?_
                  · exact fr_u (fr_t (fr_0 _ _) (fr_s hf_102 rfl)) hU41 rfl
                  · omega
                  · exact tm9_1 sk (by omega) (by omega) (show 97 ≤ T 200 0 (T1 111 0 57) ∧ T 200 0 (T1 111 0 57) ≤ 122 by omega) (by rw [show U41 111 0 60 = T2 111 0 60 by omega]; exact ⟨by omega, by omega, kr, fun g => (show ¬ (97 ≤ T 200 0 (T2 111 0 60) ∧ T 200 0 (T2 111 0 60) ≤ 122) by omega)⟩) (by omega)
                · intro b54 b54b
                  have e55 : U41 111 0 59 = T2 111 0 59 := up_j hU41 (by decide) 111 0
                  rw [e55] at b54 b54b ⊢
                  refine hK 166 _ [vI (T2 111 0 59), vI 1, vR 111 0] U41 ?_
                  have e56 : U41 111 0 62 = T2 111 0 62 := up_j hU41 (by decide) 111 0
                  refine j_callV (y := yX11_bad) (Yc := zX11_bad) (rest := []) [vI 1, vI (T2 111 0 59)] (ct_X11_bad_e (T := U41) (by omega) (by omega)) cl_X11_281 (qd_c (by decide +kernel)) (nn_ _) rfl (rf_of rfl) (Nat.le_of_ble_eq_true rfl) (Nat.le_of_ble_eq_true rfl) (Nat.le_of_ble_eq_true rfl) rfl ?_
                  rintro U57 _ ⟨rfl, fU57, qU57⟩
                  show J_ zX11_take T (po_X11_take_e T) 0 0 169 _ [] U57
                  refine j_blx (F := fX11) tb_X11 (nn_ _) bk_X11_take_e_169 bs_X11_take_e_169 hz (fun K hK => ?_)
                  refine hK 346 _ [] U57 ?_
                  have e58 : U57 111 0 60 = T2 111 0 60 := (fU57 111 0 60 rfl).trans (up_j hU41 (by decide) 111 0)
                  have e59 : U57 111 0 59 = T2 111 0 59 := (fU57 111 0 59 rfl).trans (up_j hU41 (by decide) 111 0)
                  have e60 : U57 111 0 58 = 1 := (fU57 111 0 58 rfl).trans (up_f hU41)
                  have e61 : U57 111 0 61 = T2 111 0 61 := (fU57 111 0 61 rfl).trans (up_j hU41 (by decide) 111 0)
                  refine c_346 U57 ?_ ?_ ?_
                  · exact fr_t (fr_u (fr_t (fr_0 _ _) (fr_s hf_102 rfl)) hU41 rfl) (fr_s fU57 rfl)
                  · omega
                  · exact tm9_1 sk (by omega) (by omega) (show 97 ≤ T 200 0 (T1 111 0 57) ∧ T 200 0 (T1 111 0 57) ≤ 122 by omega) (by rw [show U57 111 0 60 = T2 111 0 60 by omega]; exact ⟨by omega, by omega, kr, fun g => (show ¬ (97 ≤ T 200 0 (T2 111 0 60) ∧ T 200 0 (T2 111 0 60) ≤ 122) by omega)⟩) (by omega)
              · replace hx39 := hx39.resolve_right (fun z => c40 z.1)
                clear c40
                intro b62 b62b
                refine rg_i (by omega) ?_
                refine bd_i (by omega) ?_
                refine x_nm (fun U63 hU63 => ?_)
                have e64 := up_f hU63
                refine hK 102 _ [] U63 ?_
                have e65 : U63 111 0 59 = T2 111 0 59 := up_j hU63 (by decide) 111 0
                have e66 : U63 111 0 60 = (T2 111 0 60) + 1 := up_f hU63
                have e67 : U63 111 0 62 = T2 111 0 62 := up_j hU63 (by decide) 111 0
                have e68 : U63 111 0 63 = T2 111 0 63 := up_j hU63 (by decide) 111 0
                refine ih_102 _ ?_ U63 (Nat.le_refl _) ?_ ?_ ?_ ?_
                · have hm_102 := hm_102 (); omega
                · exact fr_u (fr_t (fr_0 _ _) (fr_s hf_102 rfl)) hU63 rfl
                · omega
                · omega
                · rw [show U63 111 0 60 = T2 111 0 60 + 1 by omega]
                  exact rp9_s kr (show _ ≤ T 200 0 (T2 111 0 60) ∧ T 200 0 (T2 111 0 60) ≤ _ by omega)
        have c_184 : ∀ (nn : Nat) (T2 : Zt), ((T 111 0 1 - T2 111 0 60).toNat) ≤ nn → (fr_ [(111, [57, 58, 59, 60, 61, 62, 63])] T T2) → (T2 111 0 59 = T1 111 0 57 ∧ T1 111 0 57 ≤ T2 111 0 60 ∧ T2 111 0 60 ≤ T 111 0 1 ∧ T1 111 0 57 < T 111 0 1 ∧ T2 111 0 62 = 0 ∧ T2 111 0 63 = T 111 0 63) → (48 ≤ T 200 0 (T1 111 0 57) ∧ T 200 0 (T1 111 0 57) ≤ 57) → (RP9_ (fun j => T 200 0 j) 48 57 (T1 111 0 57) (T2 111 0 60)) → (0 ≤ T2 111 0 61 ∧ T2 111 0 61 ≤ 999 ∧ (T2 111 0 60 = T1 111 0 57 → T2 111 0 61 = 0) ∧ (T2 111 0 60 = T1 111 0 57 + 1 → T2 111 0 61 ≤ 9) ∧ (T2 111 0 60 = T1 111 0 57 + 2 → T2 111 0 61 ≤ 99)) → (T2 111 0 60 - T1 111 0 57 ≤ 3 → T2 111 0 61 = nv9_ (fun j => T 200 0 j) (T1 111 0 57) (T2 111 0 60 - T1 111 0 57).toNat) → J_ zX11_take T (po_X11_take_e T) 0 0 184 [some (vR 111 0), none] [] T2 := by
          intro nn
          induction nn using Nat.strongRecOn with
          | _ nn ih_184 =>
            intro T2 hm_184 hf_184 k1 k2 kr kb kv
            replace hm_184 := fun (_ : Unit) => hm_184
            have cg : T2 111 0 60 = T1 111 0 57 → T 200 0 (T2 111 0 60) = T 200 0 (T1 111 0 57) := fun z => by rw [z]
            have c_251 : ∀ (v : Int), (0 ≤ v ∧ v ≤ 999) → (T2 111 0 60 < T 111 0 1 ∧ T 111 0 1 ≤ 400) → ((T2 111 0 60 - T1 111 0 57 < 3 → v = 10 * T2 111 0 61 + T 200 0 (T2 111 0 60) - 48) ∧ (¬ T2 111 0 60 - T1 111 0 57 < 3 → v = T2 111 0 61)) → (48 ≤ T 200 0 (T2 111 0 60) ∧ T 200 0 (T2 111 0 60) ≤ 57) → J_ zX11_take T (po_X11_take_e T) 0 0 251 [some (vR 111 0), none] [vI v, vR 111 0] T2 := by
              intro v v1 v2 v3 v4
              refine j_blx (F := fX11) tb_X11 (nn_ _) bk_X11_take_e_251 bs_X11_take_e_251 hz (fun K hK => ?_)
              refine bd_i (by omega) ?_
              refine x_nm (fun U69 hU69 => ?_)
              have e70 := up_f hU69
              intro b71 b71b
              have e72 : U69 111 0 60 = T2 111 0 60 := up_j hU69 (by decide) 111 0
              rw [e72] at b71 b71b ⊢
              refine rg_i (by omega) ?_
              refine bd_i (by omega) ?_
              refine x_nm (fun U73 hU73 => ?_)
              have e74 := up_f hU73
              refine hK 184 _ [] U73 ?_
              have e75 : U73 111 0 59 = T2 111 0 59 := (up_j hU73 (by decide) 111 0).trans (up_j hU69 (by decide) 111 0)
              have e76 : U73 111 0 60 = (T2 111 0 60) + 1 := up_f hU73
              have e77 : U73 111 0 62 = T2 111 0 62 := (up_j hU73 (by decide) 111 0).trans (up_j hU69 (by decide) 111 0)
              have e78 : U73 111 0 63 = T2 111 0 63 := (up_j hU73 (by decide) 111 0).trans (up_j hU69 (by decide) 111 0)
              have e79 : U73 111 0 61 = v := (up_j hU73 (by decide) 111 0).trans (up_f hU69)
              refine ih_184 _ ?_ U73 (Nat.le_refl _) ?_ ?_ ?_ ?_ ?_ ?_
              · have hm_184 := hm_184 (); omega
              · exact fr_u (fr_u (fr_t (fr_0 _ _) (fr_s hf_184 rfl)) hU69 rfl) hU73 rfl
              · omega
              · omega
              · rw [show U73 111 0 60 = T2 111 0 60 + 1 by omega]
                exact rp9_s kr (show _ ≤ T 200 0 (T2 111 0 60) ∧ T 200 0 (T2 111 0 60) ≤ _ by omega)
              · omega
              · intro z
                rw [show U73 111 0 60 = T2 111 0 60 + 1 by omega]
                refine nv9_s (by omega) ?_
                rw [← kv (by omega)]
                show U73 111 0 61 = 10 * T2 111 0 61 + T 200 0 (T2 111 0 60) - 48
                omega
            refine j_blx (F := fX11) tb_X11 (nn_ _) bk_X11_take_e_184 bs_X11_take_e_184 hz (fun K hK => ?_)
            intro b80 b80b
            intro b81 b81b
            have e82 : T2 111 0 1 = T 111 0 1 := hf_184 111 0 1 rfl
            rw [e82] at b81 b81b ⊢
            refine And.intro (fun c83 => ?_) (fun c83 => ?_)
            · refine hK 267 _ [] T2 ?_
              refine j_blx (F := fX11) tb_X11 (nn_ _) bk_X11_take_e_267 bs_X11_take_e_267 hz (fun K hK => ?_)
              refine bd_i (by omega) ?_
              refine x_nm (fun U84 hU84 => ?_)
              have e85 := up_f hU84
              intro b86 b86b
              have e87 : U84 111 0 60 = T2 111 0 60 := up_j hU84 (by decide) 111 0
              rw [e87] at b86 b86b ⊢
              intro b88 b88b
              have e89 : U84 111 0 59 = T2 111 0 59 := up_j hU84 (by decide) 111 0
              rw [e89] at b88 b88b ⊢
              refine rg_i (by omega) ?_
              refine And.intro (fun c90 => ?_) (fun c90 => ?_)
              · refine hK 346 _ [] U84 ?_
                have e91 : U84 111 0 60 = T2 111 0 60 := up_j hU84 (by decide) 111 0
                have e92 : U84 111 0 59 = T2 111 0 59 := up_j hU84 (by decide) 111 0
                have e93 : U84 111 0 58 = 2 := up_f hU84
                have e94 : U84 111 0 61 = T2 111 0 61 := up_j hU84 (by decide) 111 0
                have e95 : U84 111 0 62 = T2 111 0 62 := up_j hU84 (by decide) 111 0
                have e96 : U84 111 0 63 = T2 111 0 63 := up_j hU84 (by decide) 111 0
                refine c_346 U84 ?_ ?_ ?_
                · exact fr_u (fr_t (fr_0 _ _) (fr_s hf_184 rfl)) hU84 rfl
                · omega
                · exact tm9_2 sk (by omega) (by omega) (show 48 ≤ T 200 0 (T1 111 0 57) ∧ T 200 0 (T1 111 0 57) ≤ 57 by omega) (by rw [show U84 111 0 60 = T2 111 0 60 by omega]; exact ⟨by omega, by omega, kr, fun g => (show ¬ (48 ≤ T 200 0 (T2 111 0 60) ∧ T 200 0 (T2 111 0 60) ≤ 57) by omega)⟩) (fun z => by rw [show U84 111 0 61 = T2 111 0 61 by omega, show U84 111 0 60 = T2 111 0 60 by omega]; exact kv (by omega)) (by omega)
              · intro b97 b97b
                have e98 : U84 111 0 59 = T2 111 0 59 := up_j hU84 (by decide) 111 0
                rw [e98] at b97 b97b ⊢
                refine hK 291 _ [vI (T2 111 0 59), vI 1, vR 111 0] U84 ?_
                have e99 : U84 111 0 62 = T2 111 0 62 := up_j hU84 (by decide) 111 0
                refine j_callV (y := yX11_bad) (Yc := zX11_bad) (rest := []) [vI 1, vI (T2 111 0 59)] (ct_X11_bad_e (T := U84) (by omega) (by omega)) cl_X11_281 (qd_c (by decide +kernel)) (nn_ _) rfl (rf_of rfl) (Nat.le_of_ble_eq_true rfl) (Nat.le_of_ble_eq_true rfl) (Nat.le_of_ble_eq_true rfl) rfl ?_
                rintro U100 _ ⟨rfl, fU100, qU100⟩
                show J_ zX11_take T (po_X11_take_e T) 0 0 294 _ [] U100
                refine j_blx (F := fX11) tb_X11 (nn_ _) bk_X11_take_e_294 bs_X11_take_e_294 hz (fun K hK => ?_)
                refine hK 346 _ [] U100 ?_
                have e101 : U100 111 0 60 = T2 111 0 60 := (fU100 111 0 60 rfl).trans (up_j hU84 (by decide) 111 0)
                have e102 : U100 111 0 59 = T2 111 0 59 := (fU100 111 0 59 rfl).trans (up_j hU84 (by decide) 111 0)
                have e103 : U100 111 0 58 = 2 := (fU100 111 0 58 rfl).trans (up_f hU84)
                have e104 : U100 111 0 61 = T2 111 0 61 := (fU100 111 0 61 rfl).trans (up_j hU84 (by decide) 111 0)
                refine c_346 U100 ?_ ?_ ?_
                · exact fr_t (fr_u (fr_t (fr_0 _ _) (fr_s hf_184 rfl)) hU84 rfl) (fr_s fU100 rfl)
                · omega
                · exact tm9_2 sk (by omega) (by omega) (show 48 ≤ T 200 0 (T1 111 0 57) ∧ T 200 0 (T1 111 0 57) ≤ 57 by omega) (by rw [show U100 111 0 60 = T2 111 0 60 by omega]; exact ⟨by omega, by omega, kr, fun g => (show ¬ (48 ≤ T 200 0 (T2 111 0 60) ∧ T 200 0 (T2 111 0 60) ≤ 57) by omega)⟩) (fun z => by rw [show U100 111 0 61 = T2 111 0 61 by omega, show U100 111 0 60 = T2 111 0 60 by omega]; exact kv (by omega)) (by omega)
            · intro b105 b105b
              refine ix_i (by omega) ?_
              intro b106 b106b
              have e107 : T2 200 0 (T2 111 0 60) = T 200 0 (T2 111 0 60) := hf_184 200 0 (T2 111 0 60) rfl
              rw [e107] at b106 b106b ⊢
              refine hK 204 _ [vI (T 200 0 (T2 111 0 60))] T2 ?_
              refine j_callS (y := yX11_isDigit) (Yc := zX11_isDigit) (rest := []) [vI (T 200 0 (T2 111 0 60))] (ct_X11_isDigit (T := T2)) cl_X11_285 (qd_c (by decide +kernel)) (nn_ _) rfl (rf_of rfl) (Nat.le_of_ble_eq_true rfl) (Nat.le_of_ble_eq_true rfl) (Nat.le_of_ble_eq_true rfl) rfl ?_
              rintro _ _ ⟨rfl, x108, rfl, hx108⟩
              show J_ zX11_take T (po_X11_take_e T) 0 0 207 _ [vI x108] T2
              refine j_blx (F := fX11) tb_X11 (nn_ _) bk_X11_take_e_207 bs_X11_take_e_207 hz (fun K hK => ?_)
              refine And.intro (fun c109 => ?_) (fun c109 => ?_)
              · replace hx108 := hx108.resolve_left (fun z => absurd (c109.symm.trans z.1) (by decide))
                clear c109
                refine hK 267 _ [] T2 ?_
                refine j_blx (F := fX11) tb_X11 (nn_ _) bk_X11_take_e_267 bs_X11_take_e_267 hz (fun K hK => ?_)
                refine bd_i (by omega) ?_
                refine x_nm (fun U110 hU110 => ?_)
                have e111 := up_f hU110
                intro b112 b112b
                have e113 : U110 111 0 60 = T2 111 0 60 := up_j hU110 (by decide) 111 0
                rw [e113] at b112 b112b ⊢
                intro b114 b114b
                have e115 : U110 111 0 59 = T2 111 0 59 := up_j hU110 (by decide) 111 0
                rw [e115] at b114 b114b ⊢
                refine rg_i (by omega) ?_
                refine And.intro (fun c116 => ?_) (fun c116 => ?_)
                · refine hK 346 _ [] U110 ?_
                  have e117 : U110 111 0 60 = T2 111 0 60 := up_j hU110 (by decide) 111 0
                  have e118 : U110 111 0 59 = T2 111 0 59 := up_j hU110 (by decide) 111 0
                  have e119 : U110 111 0 58 = 2 := up_f hU110
                  have e120 : U110 111 0 61 = T2 111 0 61 := up_j hU110 (by decide) 111 0
                  have e121 : U110 111 0 62 = T2 111 0 62 := up_j hU110 (by decide) 111 0
                  have e122 : U110 111 0 63 = T2 111 0 63 := up_j hU110 (by decide) 111 0
                  refine c_346 U110 ?_ ?_ ?_
                  · exact fr_u (fr_t (fr_0 _ _) (fr_s hf_184 rfl)) hU110 rfl
                  · omega
                  · exact tm9_2 sk (by omega) (by omega) (show 48 ≤ T 200 0 (T1 111 0 57) ∧ T 200 0 (T1 111 0 57) ≤ 57 by omega) (by rw [show U110 111 0 60 = T2 111 0 60 by omega]; exact ⟨by omega, by omega, kr, fun g => (show ¬ (48 ≤ T 200 0 (T2 111 0 60) ∧ T 200 0 (T2 111 0 60) ≤ 57) by omega)⟩) (fun z => by rw [show U110 111 0 61 = T2 111 0 61 by omega, show U110 111 0 60 = T2 111 0 60 by omega]; exact kv (by omega)) (by omega)
                · intro b123 b123b
                  have e124 : U110 111 0 59 = T2 111 0 59 := up_j hU110 (by decide) 111 0
                  rw [e124] at b123 b123b ⊢
                  refine hK 291 _ [vI (T2 111 0 59), vI 1, vR 111 0] U110 ?_
                  have e125 : U110 111 0 62 = T2 111 0 62 := up_j hU110 (by decide) 111 0
                  refine j_callV (y := yX11_bad) (Yc := zX11_bad) (rest := []) [vI 1, vI (T2 111 0 59)] (ct_X11_bad_e (T := U110) (by omega) (by omega)) cl_X11_281 (qd_c (by decide +kernel)) (nn_ _) rfl (rf_of rfl) (Nat.le_of_ble_eq_true rfl) (Nat.le_of_ble_eq_true rfl) (Nat.le_of_ble_eq_true rfl) rfl ?_
                  rintro U126 _ ⟨rfl, fU126, qU126⟩
                  show J_ zX11_take T (po_X11_take_e T) 0 0 294 _ [] U126
                  refine j_blx (F := fX11) tb_X11 (nn_ _) bk_X11_take_e_294 bs_X11_take_e_294 hz (fun K hK => ?_)
                  refine hK 346 _ [] U126 ?_
                  have e127 : U126 111 0 60 = T2 111 0 60 := (fU126 111 0 60 rfl).trans (up_j hU110 (by decide) 111 0)
                  have e128 : U126 111 0 59 = T2 111 0 59 := (fU126 111 0 59 rfl).trans (up_j hU110 (by decide) 111 0)
                  have e129 : U126 111 0 58 = 2 := (fU126 111 0 58 rfl).trans (up_f hU110)
                  have e130 : U126 111 0 61 = T2 111 0 61 := (fU126 111 0 61 rfl).trans (up_j hU110 (by decide) 111 0)
                  refine c_346 U126 ?_ ?_ ?_
                  · exact fr_t (fr_u (fr_t (fr_0 _ _) (fr_s hf_184 rfl)) hU110 rfl) (fr_s fU126 rfl)
                  · omega
                  · exact tm9_2 sk (by omega) (by omega) (show 48 ≤ T 200 0 (T1 111 0 57) ∧ T 200 0 (T1 111 0 57) ≤ 57 by omega) (by rw [show U126 111 0 60 = T2 111 0 60 by omega]; exact ⟨by omega, by omega, kr, fun g => (show ¬ (48 ≤ T 200 0 (T2 111 0 60) ∧ T 200 0 (T2 111 0 60) ≤ 57) by omega)⟩) (fun z => by rw [show U126 111 0 61 = T2 111 0 61 by omega, show U126 111 0 60 = T2 111 0 60 by omega]; exact kv (by omega)) (by omega)
              · replace hx108 := hx108.resolve_right (fun z => c109 z.1)
                clear c109
                intro b131 b131b
                intro b132 b132b
                refine rg_i (by omega) ?_
                refine And.intro (fun c133 => ?_) (fun c133 => ?_)
                · refine hK 247 _ [vR 111 0] T2 ?_
                  refine j_blx (F := fX11) tb_X11 (nn_ _) bk_X11_take_e_247 bs_X11_take_e_247 hz (fun K hK => ?_)
                  intro b134 b134b
                  refine hK 251 _ [vI (T2 111 0 61), vR 111 0] T2 ?_
                  refine c_251 (T2 111 0 61) ?_ ?_ ?_ ?_
                  · omega
                  · omega
                  · omega
                  · omega
                · intro b135 b135b
                  refine rg_i (by show -2147483648 ≤ 10 * T2 111 0 61 ∧ 10 * T2 111 0 61 ≤ 2147483647; omega) ?_
                  intro b136 b136b
                  refine ix_i (by omega) ?_
                  intro b137 b137b
                  have e138 : T2 200 0 (T2 111 0 60) = T 200 0 (T2 111 0 60) := hf_184 200 0 (T2 111 0 60) rfl
                  rw [e138] at b137 b137b ⊢
                  refine rg_i (by omega) ?_
                  refine rg_i (by omega) ?_
                  refine hK 251 _ [vI (((10 * (T2 111 0 61)) + (T 200 0 (T2 111 0 60))) - 48), vR 111 0] T2 ?_
                  refine c_251 (((10 * (T2 111 0 61)) + (T 200 0 (T2 111 0 60))) - 48) ?_ ?_ ?_ ?_
                  · omega
                  · omega
                  · omega
                  · omega
        refine j_blx (F := fX11) tb_X11 (nn_ _) bk_X11_take_e_52 bs_X11_take_e_52 hz (fun K hK => ?_)
        intro b139 b139b
        refine bd_i (by omega) ?_
        refine x_nm (fun U140 hU140 => ?_)
        have e141 := up_f hU140
        intro b142 b142b
        have e143 : U140 111 0 57 = T1 111 0 57 := up_j hU140 (by decide) 111 0
        rw [e143] at b142 b142b ⊢
        refine bd_i (by omega) ?_
        refine x_nm (fun U144 hU144 => ?_)
        have e145 := up_f hU144
        refine bd_i (by omega) ?_
        refine x_nm (fun U146 hU146 => ?_)
        have e147 := up_f hU146
        intro b148 b148b
        have e149 : U146 111 0 57 = T1 111 0 57 := (up_j hU146 (by decide) 111 0).trans ((up_j hU144 (by decide) 111 0).trans (up_j hU140 (by decide) 111 0))
        rw [e149] at b148 b148b ⊢
        intro b150 b150b
        have e151 : U146 111 0 1 = T 111 0 1 := (up_j hU146 (by decide) 111 0).trans ((up_j hU144 (by decide) 111 0).trans ((up_j hU140 (by decide) 111 0).trans (hf_0 111 0 1 rfl)))
        rw [e151] at b150 b150b ⊢
        refine And.intro (fun c152 => ?_) (fun c152 => ?_)
        · refine hK 85 _ [] U146 ?_
          refine j_blx (F := fX11) tb_X11 (nn_ _) bk_X11_take_e_85 bs_X11_take_e_85 hz (fun K hK => ?_)
          intro b153 b153b
          have e154 : U146 111 0 57 = T1 111 0 57 := (up_j hU146 (by decide) 111 0).trans ((up_j hU144 (by decide) 111 0).trans (up_j hU140 (by decide) 111 0))
          rw [e154] at b153 b153b ⊢
          refine ix_i (by omega) ?_
          intro b155 b155b
          have e156 : U146 200 0 (T1 111 0 57) = T 200 0 (T1 111 0 57) := (up_k hU146 (by exact Nat.ne_of_beq_eq_false rfl) 0 (T1 111 0 57)).trans ((up_k hU144 (by exact Nat.ne_of_beq_eq_false rfl) 0 (T1 111 0 57)).trans ((up_k hU140 (by exact Nat.ne_of_beq_eq_false rfl) 0 (T1 111 0 57)).trans (hf_0 200 0 (T1 111 0 57) rfl)))
          rw [e156] at b155 b155b ⊢
          refine hK 96 [some (vR 111 0), some (vI (T 200 0 (T1 111 0 57)))] [vI (T 200 0 (T1 111 0 57))] U146 ?_
          refine j_callS (y := yX11_isLetter) (Yc := zX11_isLetter) (rest := []) [vI (T 200 0 (T1 111 0 57))] (ct_X11_isLetter (T := U146)) cl_X11_277 (qd_c (by decide +kernel)) (nn_ _) rfl (rf_of rfl) (Nat.le_of_ble_eq_true rfl) (Nat.le_of_ble_eq_true rfl) (Nat.le_of_ble_eq_true rfl) rfl ?_
          rintro _ _ ⟨rfl, x157, rfl, hx157⟩
          show J_ zX11_take T (po_X11_take_e T) 0 0 99 _ [vI x157] U146
          refine j_blx (F := fX11) tb_X11 (nn_ _) bk_X11_take_e_99 bs_X11_take_e_99 hz (fun K hK => ?_)
          refine And.intro (fun c158 => ?_) (fun c158 => ?_)
          · replace hx157 := hx157.resolve_left (fun z => absurd (c158.symm.trans z.1) (by decide))
            clear c158
            refine hK 172 _ [] U146 ?_
            refine j_blx (F := fX11) tb_X11 (nn_ _) bk_X11_take_e_172 bs_X11_take_e_172 hz (fun K hK => ?_)
            refine hK 173 _ [vI (T 200 0 (T1 111 0 57))] U146 ?_
            refine j_callS (y := yX11_isDigit) (Yc := zX11_isDigit) (rest := []) [vI (T 200 0 (T1 111 0 57))] (ct_X11_isDigit (T := U146)) cl_X11_285 (qd_c (by decide +kernel)) (nn_ _) rfl (rf_of rfl) (Nat.le_of_ble_eq_true rfl) (Nat.le_of_ble_eq_true rfl) (Nat.le_of_ble_eq_true rfl) rfl ?_
            rintro _ _ ⟨rfl, x159, rfl, hx159⟩
            show J_ zX11_take T (po_X11_take_e T) 0 0 176 _ [vI x159] U146
            refine j_blx (F := fX11) tb_X11 (nn_ _) bk_X11_take_e_176 bs_X11_take_e_176 hz (fun K hK => ?_)
            refine And.intro (fun c160 => ?_) (fun c160 => ?_)
            · replace hx159 := hx159.resolve_left (fun z => absurd (c160.symm.trans z.1) (by decide))
              clear c160
              refine hK 297 _ [] U146 ?_
              refine j_blx (F := fX11) tb_X11 (nn_ _) bk_X11_take_e_297 bs_X11_take_e_297 hz (fun K hK => ?_)
              refine And.intro (fun c161 => ?_) (fun c161 => ?_)
              · refine hK 309 _ [] U146 ?_
                refine j_blx (F := fX11) tb_X11 (nn_ _) bk_X11_take_e_309 bs_X11_take_e_309 hz (fun K hK => ?_)
                refine And.intro (fun c162 => ?_) (fun c162 => ?_)
                · refine hK 320 _ [vR 111 0] U146 ?_
                  refine j_blx (F := fX11) tb_X11 (nn_ _) bk_X11_take_e_320 bs_X11_take_e_320 hz (fun K hK => ?_)
                  refine bd_i (by omega) ?_
                  refine x_nm (fun U163 hU163 => ?_)
                  have e164 := up_f hU163
                  intro b165 b165b
                  have e166 : U163 111 0 60 = T1 111 0 57 := (up_j hU163 (by decide) 111 0).trans ((up_j hU146 (by decide) 111 0).trans (up_f hU144))
                  rw [e166] at b165 b165b ⊢
                  refine rg_i (by omega) ?_
                  refine bd_i (by omega) ?_
                  refine x_nm (fun U167 hU167 => ?_)
                  have e168 := up_f hU167
                  refine hK 346 _ [] U167 ?_
                  refine j_drq [some (vR 111 0), none] (drq_s (drq_n drq_0)) ?_
                  have e169 : U167 111 0 60 = (T1 111 0 57) + 1 := up_f hU167
                  have e170 : U167 111 0 59 = T1 111 0 57 := (up_j hU167 (by decide) 111 0).trans ((up_j hU163 (by decide) 111 0).trans ((up_j hU146 (by decide) 111 0).trans ((up_j hU144 (by decide) 111 0).trans (up_f hU140))))
                  have e171 : U167 111 0 58 = 4 := (up_j hU167 (by decide) 111 0).trans (up_f hU163)
                  have e172 : U167 111 0 61 = T 111 0 61 := (up_j hU167 (by decide) 111 0).trans ((up_j hU163 (by decide) 111 0).trans ((up_j hU146 (by decide) 111 0).trans ((up_j hU144 (by decide) 111 0).trans ((up_j hU140 (by decide) 111 0).trans (hf_0 111 0 61 rfl)))))
                  have e173 : U167 111 0 62 = T 111 0 62 := (up_j hU167 (by decide) 111 0).trans ((up_j hU163 (by decide) 111 0).trans ((up_j hU146 (by decide) 111 0).trans ((up_j hU144 (by decide) 111 0).trans ((up_j hU140 (by decide) 111 0).trans (hf_0 111 0 62 rfl)))))
                  have e174 : U167 111 0 63 = T 111 0 63 := (up_j hU167 (by decide) 111 0).trans ((up_j hU163 (by decide) 111 0).trans ((up_j hU146 (by decide) 111 0).trans ((up_j hU144 (by decide) 111 0).trans ((up_j hU140 (by decide) 111 0).trans (hf_0 111 0 63 rfl)))))
                  refine c_346 U167 ?_ ?_ ?_
                  · exact fr_u (fr_u (fr_u (fr_u (fr_u (fr_t (fr_0 _ _) (fr_s hf_0 rfl)) hU140 rfl) hU144 rfl) hU146 rfl) hU163 rfl) hU167 rfl
                  · omega
                  · exact tm9_3 sk (by omega) (by omega) (show ¬ (97 ≤ T 200 0 (T1 111 0 57) ∧ T 200 0 (T1 111 0 57) ≤ 122) by omega) (show ¬ (48 ≤ T 200 0 (T1 111 0 57) ∧ T 200 0 (T1 111 0 57) ≤ 57) by omega) (Or.inr (Or.inl ⟨(show T 200 0 (T1 111 0 57) = 44 by omega), by omega, by omega, by omega, by omega⟩))
                · refine hK 321 [some (vR 111 0), some (vI (T 200 0 (T1 111 0 57)))] [vI 3, vR 111 0] U146 ?_
                  refine j_blx (F := fX11) tb_X11 (nn_ _) bk_X11_take_e_321 bs_X11_take_e_321 hz (fun K hK => ?_)
                  refine bd_i (by omega) ?_
                  refine x_nm (fun U175 hU175 => ?_)
                  have e176 := up_f hU175
                  intro b177 b177b
                  have e178 : U175 111 0 60 = T1 111 0 57 := (up_j hU175 (by decide) 111 0).trans ((up_j hU146 (by decide) 111 0).trans (up_f hU144))
                  rw [e178] at b177 b177b ⊢
                  refine rg_i (by omega) ?_
                  refine bd_i (by omega) ?_
                  refine x_nm (fun U179 hU179 => ?_)
                  have e180 := up_f hU179
                  refine hK 346 _ [] U179 ?_
                  refine j_drq [some (vR 111 0), none] (drq_s (drq_n drq_0)) ?_
                  have e181 : U179 111 0 60 = (T1 111 0 57) + 1 := up_f hU179
                  have e182 : U179 111 0 59 = T1 111 0 57 := (up_j hU179 (by decide) 111 0).trans ((up_j hU175 (by decide) 111 0).trans ((up_j hU146 (by decide) 111 0).trans ((up_j hU144 (by decide) 111 0).trans (up_f hU140))))
                  have e183 : U179 111 0 58 = 3 := (up_j hU179 (by decide) 111 0).trans (up_f hU175)
                  have e184 : U179 111 0 61 = T 111 0 61 := (up_j hU179 (by decide) 111 0).trans ((up_j hU175 (by decide) 111 0).trans ((up_j hU146 (by decide) 111 0).trans ((up_j hU144 (by decide) 111 0).trans ((up_j hU140 (by decide) 111 0).trans (hf_0 111 0 61 rfl)))))
                  have e185 : U179 111 0 62 = T 111 0 62 := (up_j hU179 (by decide) 111 0).trans ((up_j hU175 (by decide) 111 0).trans ((up_j hU146 (by decide) 111 0).trans ((up_j hU144 (by decide) 111 0).trans ((up_j hU140 (by decide) 111 0).trans (hf_0 111 0 62 rfl)))))
                  have e186 : U179 111 0 63 = T 111 0 63 := (up_j hU179 (by decide) 111 0).trans ((up_j hU175 (by decide) 111 0).trans ((up_j hU146 (by decide) 111 0).trans ((up_j hU144 (by decide) 111 0).trans ((up_j hU140 (by decide) 111 0).trans (hf_0 111 0 63 rfl)))))
                  refine c_346 U179 ?_ ?_ ?_
                  · exact fr_u (fr_u (fr_u (fr_u (fr_u (fr_t (fr_0 _ _) (fr_s hf_0 rfl)) hU140 rfl) hU144 rfl) hU146 rfl) hU175 rfl) hU179 rfl
                  · omega
                  · exact tm9_3 sk (by omega) (by omega) (show ¬ (97 ≤ T 200 0 (T1 111 0 57) ∧ T 200 0 (T1 111 0 57) ≤ 122) by omega) (show ¬ (48 ≤ T 200 0 (T1 111 0 57) ∧ T 200 0 (T1 111 0 57) ≤ 57) by omega) (Or.inl ⟨(show T 200 0 (T1 111 0 57) = 59 by omega), by omega, by omega, by omega, by omega⟩)
              · refine And.intro (fun c187 => ?_) (fun c187 => ?_)
                · refine hK 337 _ [] U146 ?_
                  refine j_blx (F := fX11) tb_X11 (nn_ _) bk_X11_take_e_337 bs_X11_take_e_337 hz (fun K hK => ?_)
                  intro b188 b188b
                  have e189 : U146 111 0 59 = T1 111 0 57 := (up_j hU146 (by decide) 111 0).trans ((up_j hU144 (by decide) 111 0).trans (up_f hU140))
                  rw [e189] at b188 b188b ⊢
                  refine hK 343 _ [vI (T1 111 0 57), vI 1, vR 111 0] U146 ?_
                  have e190 : U146 111 0 62 = T 111 0 62 := (up_j hU146 (by decide) 111 0).trans ((up_j hU144 (by decide) 111 0).trans ((up_j hU140 (by decide) 111 0).trans (hf_0 111 0 62 rfl)))
                  refine j_callV (y := yX11_bad) (Yc := zX11_bad) (rest := []) [vI 1, vI (T1 111 0 57)] (ct_X11_bad_e (T := U146) (by omega) (by omega)) cl_X11_281 (qd_c (by decide +kernel)) (nn_ _) rfl (rf_of rfl) (Nat.le_of_ble_eq_true rfl) (Nat.le_of_ble_eq_true rfl) (Nat.le_of_ble_eq_true rfl) rfl ?_
                  rintro U191 _ ⟨rfl, fU191, qU191⟩
                  show J_ zX11_take T (po_X11_take_e T) 0 0 346 _ [] U191
                  refine j_drq [some (vR 111 0), none] (drq_s (drq_n drq_0)) ?_
                  have e192 : U191 111 0 60 = T1 111 0 57 := (fU191 111 0 60 rfl).trans ((up_j hU146 (by decide) 111 0).trans (up_f hU144))
                  have e193 : U191 111 0 59 = T1 111 0 57 := (fU191 111 0 59 rfl).trans ((up_j hU146 (by decide) 111 0).trans ((up_j hU144 (by decide) 111 0).trans (up_f hU140)))
                  have e194 : U191 111 0 58 = 0 := (fU191 111 0 58 rfl).trans (up_f hU146)
                  have e195 : U191 111 0 61 = T 111 0 61 := (fU191 111 0 61 rfl).trans ((up_j hU146 (by decide) 111 0).trans ((up_j hU144 (by decide) 111 0).trans ((up_j hU140 (by decide) 111 0).trans (hf_0 111 0 61 rfl))))
                  refine c_346 U191 ?_ ?_ ?_
                  · exact fr_t (fr_u (fr_u (fr_u (fr_t (fr_0 _ _) (fr_s hf_0 rfl)) hU140 rfl) hU144 rfl) hU146 rfl) (fr_s fU191 rfl)
                  · omega
                  · exact tm9_3 sk (by omega) (by omega) (show ¬ (97 ≤ T 200 0 (T1 111 0 57) ∧ T 200 0 (T1 111 0 57) ≤ 122) by omega) (show ¬ (48 ≤ T 200 0 (T1 111 0 57) ∧ T 200 0 (T1 111 0 57) ≤ 57) by omega) (Or.inr (Or.inr ⟨(show T 200 0 (T1 111 0 57) ≠ 59 by omega), (show T 200 0 (T1 111 0 57) ≠ 44 by omega), by omega, by omega⟩))
                · refine And.intro (fun c196 => ?_) (fun c196 => ?_)
                  · refine hK 320 [some (vR 111 0), some (vI (T 200 0 (T1 111 0 57)))] [vR 111 0] U146 ?_
                    refine j_blx (F := fX11) tb_X11 (nn_ _) bk_X11_take_e_320 bs_X11_take_e_320 hz (fun K hK => ?_)
                    refine bd_i (by omega) ?_
                    refine x_nm (fun U197 hU197 => ?_)
                    have e198 := up_f hU197
                    intro b199 b199b
                    have e200 : U197 111 0 60 = T1 111 0 57 := (up_j hU197 (by decide) 111 0).trans ((up_j hU146 (by decide) 111 0).trans (up_f hU144))
                    rw [e200] at b199 b199b ⊢
                    refine rg_i (by omega) ?_
                    refine bd_i (by omega) ?_
                    refine x_nm (fun U201 hU201 => ?_)
                    have e202 := up_f hU201
                    refine hK 346 _ [] U201 ?_
                    refine j_drq [some (vR 111 0), none] (drq_s (drq_n drq_0)) ?_
                    have e203 : U201 111 0 60 = (T1 111 0 57) + 1 := up_f hU201
                    have e204 : U201 111 0 59 = T1 111 0 57 := (up_j hU201 (by decide) 111 0).trans ((up_j hU197 (by decide) 111 0).trans ((up_j hU146 (by decide) 111 0).trans ((up_j hU144 (by decide) 111 0).trans (up_f hU140))))
                    have e205 : U201 111 0 58 = 4 := (up_j hU201 (by decide) 111 0).trans (up_f hU197)
                    have e206 : U201 111 0 61 = T 111 0 61 := (up_j hU201 (by decide) 111 0).trans ((up_j hU197 (by decide) 111 0).trans ((up_j hU146 (by decide) 111 0).trans ((up_j hU144 (by decide) 111 0).trans ((up_j hU140 (by decide) 111 0).trans (hf_0 111 0 61 rfl)))))
                    have e207 : U201 111 0 62 = T 111 0 62 := (up_j hU201 (by decide) 111 0).trans ((up_j hU197 (by decide) 111 0).trans ((up_j hU146 (by decide) 111 0).trans ((up_j hU144 (by decide) 111 0).trans ((up_j hU140 (by decide) 111 0).trans (hf_0 111 0 62 rfl)))))
                    have e208 : U201 111 0 63 = T 111 0 63 := (up_j hU201 (by decide) 111 0).trans ((up_j hU197 (by decide) 111 0).trans ((up_j hU146 (by decide) 111 0).trans ((up_j hU144 (by decide) 111 0).trans ((up_j hU140 (by decide) 111 0).trans (hf_0 111 0 63 rfl)))))
                    refine c_346 U201 ?_ ?_ ?_
                    · exact fr_u (fr_u (fr_u (fr_u (fr_u (fr_t (fr_0 _ _) (fr_s hf_0 rfl)) hU140 rfl) hU144 rfl) hU146 rfl) hU197 rfl) hU201 rfl
                    · omega
                    · exact tm9_3 sk (by omega) (by omega) (show ¬ (97 ≤ T 200 0 (T1 111 0 57) ∧ T 200 0 (T1 111 0 57) ≤ 122) by omega) (show ¬ (48 ≤ T 200 0 (T1 111 0 57) ∧ T 200 0 (T1 111 0 57) ≤ 57) by omega) (Or.inr (Or.inl ⟨(show T 200 0 (T1 111 0 57) = 44 by omega), by omega, by omega, by omega, by omega⟩))
                  · refine hK 321 [some (vR 111 0), some (vI (T 200 0 (T1 111 0 57)))] [vI 3, vR 111 0] U146 ?_
                    refine j_blx (F := fX11) tb_X11 (nn_ _) bk_X11_take_e_321 bs_X11_take_e_321 hz (fun K hK => ?_)
                    refine bd_i (by omega) ?_
                    refine x_nm (fun U209 hU209 => ?_)
                    have e210 := up_f hU209
                    intro b211 b211b
                    have e212 : U209 111 0 60 = T1 111 0 57 := (up_j hU209 (by decide) 111 0).trans ((up_j hU146 (by decide) 111 0).trans (up_f hU144))
                    rw [e212] at b211 b211b ⊢
                    refine rg_i (by omega) ?_
                    refine bd_i (by omega) ?_
                    refine x_nm (fun U213 hU213 => ?_)
                    have e214 := up_f hU213
                    refine hK 346 _ [] U213 ?_
                    refine j_drq [some (vR 111 0), none] (drq_s (drq_n drq_0)) ?_
                    have e215 : U213 111 0 60 = (T1 111 0 57) + 1 := up_f hU213
                    have e216 : U213 111 0 59 = T1 111 0 57 := (up_j hU213 (by decide) 111 0).trans ((up_j hU209 (by decide) 111 0).trans ((up_j hU146 (by decide) 111 0).trans ((up_j hU144 (by decide) 111 0).trans (up_f hU140))))
                    have e217 : U213 111 0 58 = 3 := (up_j hU213 (by decide) 111 0).trans (up_f hU209)
                    have e218 : U213 111 0 61 = T 111 0 61 := (up_j hU213 (by decide) 111 0).trans ((up_j hU209 (by decide) 111 0).trans ((up_j hU146 (by decide) 111 0).trans ((up_j hU144 (by decide) 111 0).trans ((up_j hU140 (by decide) 111 0).trans (hf_0 111 0 61 rfl)))))
                    have e219 : U213 111 0 62 = T 111 0 62 := (up_j hU213 (by decide) 111 0).trans ((up_j hU209 (by decide) 111 0).trans ((up_j hU146 (by decide) 111 0).trans ((up_j hU144 (by decide) 111 0).trans ((up_j hU140 (by decide) 111 0).trans (hf_0 111 0 62 rfl)))))
                    have e220 : U213 111 0 63 = T 111 0 63 := (up_j hU213 (by decide) 111 0).trans ((up_j hU209 (by decide) 111 0).trans ((up_j hU146 (by decide) 111 0).trans ((up_j hU144 (by decide) 111 0).trans ((up_j hU140 (by decide) 111 0).trans (hf_0 111 0 63 rfl)))))
                    refine c_346 U213 ?_ ?_ ?_
                    · exact fr_u (fr_u (fr_u (fr_u (fr_u (fr_t (fr_0 _ _) (fr_s hf_0 rfl)) hU140 rfl) hU144 rfl) hU146 rfl) hU209 rfl) hU213 rfl
                    · omega
                    · exact tm9_3 sk (by omega) (by omega) (show ¬ (97 ≤ T 200 0 (T1 111 0 57) ∧ T 200 0 (T1 111 0 57) ≤ 122) by omega) (show ¬ (48 ≤ T 200 0 (T1 111 0 57) ∧ T 200 0 (T1 111 0 57) ≤ 57) by omega) (Or.inl ⟨(show T 200 0 (T1 111 0 57) = 59 by omega), by omega, by omega, by omega, by omega⟩)
            · replace hx159 := hx159.resolve_right (fun z => c160 z.1)
              clear c160
              refine bd_i (by omega) ?_
              refine x_nm (fun U221 hU221 => ?_)
              have e222 := up_f hU221
              refine hK 184 _ [] U221 ?_
              refine j_drq [some (vR 111 0), none] (drq_s (drq_n drq_0)) ?_
              have e223 : U221 111 0 59 = T1 111 0 57 := (up_j hU221 (by decide) 111 0).trans ((up_j hU146 (by decide) 111 0).trans ((up_j hU144 (by decide) 111 0).trans (up_f hU140)))
              have e224 : U221 111 0 60 = T1 111 0 57 := (up_j hU221 (by decide) 111 0).trans ((up_j hU146 (by decide) 111 0).trans (up_f hU144))
              have e225 : U221 111 0 62 = T 111 0 62 := (up_j hU221 (by decide) 111 0).trans ((up_j hU146 (by decide) 111 0).trans ((up_j hU144 (by decide) 111 0).trans ((up_j hU140 (by decide) 111 0).trans (hf_0 111 0 62 rfl))))
              have e226 : U221 111 0 63 = T 111 0 63 := (up_j hU221 (by decide) 111 0).trans ((up_j hU146 (by decide) 111 0).trans ((up_j hU144 (by decide) 111 0).trans ((up_j hU140 (by decide) 111 0).trans (hf_0 111 0 63 rfl))))
              have e227 : U221 111 0 61 = 0 := up_f hU221
              refine c_184 _ U221 (Nat.le_refl _) ?_ ?_ ?_ ?_ ?_ ?_
              · exact fr_u (fr_u (fr_u (fr_u (fr_t (fr_0 _ _) (fr_s hf_0 rfl)) hU140 rfl) hU144 rfl) hU146 rfl) hU221 rfl
              · omega
              · omega
              · rw [show U221 111 0 60 = T1 111 0 57 by omega]
                exact rp9_z
              · omega
              · intro _
                rw [show U221 111 0 60 = T1 111 0 57 by omega, show T1 111 0 57 - T1 111 0 57 = 0 by omega, show U221 111 0 61 = 0 by omega]
                rfl
          · replace hx157 := hx157.resolve_right (fun z => c158 z.1)
            clear c158
            refine hK 102 _ [] U146 ?_
            refine j_drq [some (vR 111 0), none] (drq_s (drq_n drq_0)) ?_
            have e228 : U146 111 0 59 = T1 111 0 57 := (up_j hU146 (by decide) 111 0).trans ((up_j hU144 (by decide) 111 0).trans (up_f hU140))
            have e229 : U146 111 0 60 = T1 111 0 57 := (up_j hU146 (by decide) 111 0).trans (up_f hU144)
            have e230 : U146 111 0 62 = T 111 0 62 := (up_j hU146 (by decide) 111 0).trans ((up_j hU144 (by decide) 111 0).trans ((up_j hU140 (by decide) 111 0).trans (hf_0 111 0 62 rfl)))
            have e231 : U146 111 0 63 = T 111 0 63 := (up_j hU146 (by decide) 111 0).trans ((up_j hU144 (by decide) 111 0).trans ((up_j hU140 (by decide) 111 0).trans (hf_0 111 0 63 rfl)))
            refine c_102 _ U146 (Nat.le_refl _) ?_ ?_ ?_ ?_
            · exact fr_u (fr_u (fr_u (fr_t (fr_0 _ _) (fr_s hf_0 rfl)) hU140 rfl) hU144 rfl) hU146 rfl
            · omega
            · omega
            · rw [show U146 111 0 60 = T1 111 0 57 by omega]
              exact rp9_z
        · refine (show po_X11_take_e T U146 (none) from ?_)
          have e232 : U146 111 0 57 = T1 111 0 57 := (up_j hU146 (by decide) 111 0).trans ((up_j hU144 (by decide) 111 0).trans (up_j hU140 (by decide) 111 0))
          have e233 : U146 111 0 60 = T1 111 0 57 := (up_j hU146 (by decide) 111 0).trans (up_f hU144)
          have e234 : U146 111 0 59 = T1 111 0 57 := (up_j hU146 (by decide) 111 0).trans ((up_j hU144 (by decide) 111 0).trans (up_f hU140))
          have e235 : U146 111 0 58 = 0 := up_f hU146
          have e236 : U146 111 0 61 = T 111 0 61 := (up_j hU146 (by decide) 111 0).trans ((up_j hU144 (by decide) 111 0).trans ((up_j hU140 (by decide) 111 0).trans (hf_0 111 0 61 rfl)))
          have e237 : U146 111 0 62 = T 111 0 62 := (up_j hU146 (by decide) 111 0).trans ((up_j hU144 (by decide) 111 0).trans ((up_j hU140 (by decide) 111 0).trans (hf_0 111 0 62 rfl)))
          have e238 : U146 111 0 63 = T 111 0 63 := (up_j hU146 (by decide) 111 0).trans ((up_j hU144 (by decide) 111 0).trans ((up_j hU140 (by decide) 111 0).trans (hf_0 111 0 63 rfl)))
          exact ⟨rfl, fr_u (fr_u (fr_u (fr_t (fr_0 _ _) (fr_s hf_0 rfl)) hU140 rfl) hU144 rfl) hU146 rfl, by omega, tm9_0 sk (by omega) (by omega) (by omega) (by omega) (by omega) (by omega)⟩
      refine j_blx (F := fX11) tb_X11 (nn_ _) bk_X11_take_e_0 bs_X11_take_e_0 hz (fun K hK => ?_)
      intro b239 b239b
      intro b240 b240b
      have e241 : T1 111 0 1 = T 111 0 1 := hf_0 111 0 1 rfl
      rw [e241] at b240 b240b ⊢
      refine And.intro (fun c242 => ?_) (fun c242 => ?_)
      · refine hK 52 _ [] T1 ?_
        refine c_52  ?_
        · exact ⟨i1.1, i1.2, i2, fun g => (show ¬ (T 200 0 (T1 111 0 57) = 10 ∨ T 200 0 (T1 111 0 57) = 32) by omega)⟩
      · intro b243 b243b
        refine ix_i (by omega) ?_
        intro b244 b244b
        have e245 : T1 200 0 (T1 111 0 57) = T 200 0 (T1 111 0 57) := hf_0 200 0 (T1 111 0 57) rfl
        rw [e245] at b244 b244b ⊢
        refine And.intro (fun c246 => ?_) (fun c246 => ?_)
        · refine hK 39 _ [] T1 ?_
          refine j_blx (F := fX11) tb_X11 (nn_ _) bk_X11_take_e_39 bs_X11_take_e_39 hz (fun K hK => ?_)
          intro b247 b247b
          refine rg_i (by omega) ?_
          refine bd_i (by omega) ?_
          refine x_nm (fun U248 hU248 => ?_)
          have e249 := up_f hU248
          refine hK 0 _ [] U248 ?_
          have e250 : U248 111 0 57 = (T1 111 0 57) + 1 := up_f hU248
          refine ih_0 _ ?_ U248 (Nat.le_refl _) ?_ ?_ ?_
          · have hm_0 := hm_0 (); omega
          · exact fr_u (fr_t (fr_0 _ _) (fr_s hf_0 rfl)) hU248 rfl
          · omega
          · rw [up_f hU248]
            exact bp9_s i2 (show T 200 0 (T1 111 0 57) = 10 ∨ T 200 0 (T1 111 0 57) = 32 by omega)
        · intro b251 b251b
          refine ix_i (by omega) ?_
          intro b252 b252b
          have e253 : T1 200 0 (T1 111 0 57) = T 200 0 (T1 111 0 57) := hf_0 200 0 (T1 111 0 57) rfl
          rw [e253] at b252 b252b ⊢
          refine And.intro (fun c254 => ?_) (fun c254 => ?_)
          · refine hK 52 _ [] T1 ?_
            refine c_52  ?_
            · exact ⟨i1.1, i1.2, i2, fun g => (show ¬ (T 200 0 (T1 111 0 57) = 10 ∨ T 200 0 (T1 111 0 57) = 32) by omega)⟩
          · intro b255 b255b
            refine rg_i (by omega) ?_
            refine bd_i (by omega) ?_
            refine x_nm (fun U256 hU256 => ?_)
            have e257 := up_f hU256
            refine hK 0 _ [] U256 ?_
            have e258 : U256 111 0 57 = (T1 111 0 57) + 1 := up_f hU256
            refine ih_0 _ ?_ U256 (Nat.le_refl _) ?_ ?_ ?_
            · have hm_0 := hm_0 (); omega
            · exact fr_u (fr_t (fr_0 _ _) (fr_s hf_0 rfl)) hU256 rfl
            · omega
            · rw [up_f hU256]
              exact bp9_s i2 (show T 200 0 (T1 111 0 57) = 10 ∨ T 200 0 (T1 111 0 57) = 32 by omega)
  refine c_0 _ T (Nat.le_refl _) ?_ ?_ ?_
  · exact fr_0 _ _
  · omega
  · exact bp9_z
-- words: a token's place in a list of words
def PM9_ (w : List Int) (b : Int → Int) (s k0 m : Int) : Prop := ∀ j, 0 ≤ j → j < m → b (s + j) = w.getD (k0 + j).toNat 0
/-- the text from s to e is the word from k0 to e0 -/
def EW9_ (w : List Int) (b : Int → Int) (s e k0 e0 : Int) : Prop := e0 - k0 = e - s ∧ PM9_ w b s k0 (e - s)
/-- x is the number of the word that the text from s to e is, or -1 -/
def WD9_ (w : List Int) (ts : List (Int × Int × Int)) (b : Int → Int) (s e x : Int) : Prop := (∃ k0 e0, (k0, x, e0) ∈ ts ∧ EW9_ w b s e k0 e0) ∨ (x = -1 ∧ ∀ k0 n e0, (k0, n, e0) ∈ ts → ¬ EW9_ w b s e k0 e0)
def ds9_ (w : List Int) (ts : List (Int × Int × Int)) : Bool := ts.all fun q => decide (0 ≤ q.1) && ts.all fun z => q.2.1 == z.2.1 || (q.2.2 - q.1 != z.2.2 - z.1) || ((List.range (q.2.2 - q.1).toNat).any fun j => w.getD (q.1.toNat + j) 0 != w.getD (z.1.toNat + j) 0)
theorem ds9_0 : ds9_ wl_264 wt_264 = true := by decide +kernel
theorem ds9_1 : ds9_ wl_265 wt_265 = true := by decide +kernel
theorem ds9_2 : ds9_ wl_266 wt_266 = true := by decide +kernel
theorem wd9_u {w : List Int} {ts : List (Int × Int × Int)} {b : Int → Int} {s e x x' : Int} (hd : ds9_ w ts = true) (h : WD9_ w ts b s e x) (g : WD9_ w ts b s e x') : x = x' := by
  rcases h with ⟨k0, e0, hm, he⟩ | ⟨rfl, hn⟩
  · rcases g with ⟨k1, e1, gm, ge⟩ | ⟨rfl, gn⟩
    · have h2 := List.all_eq_true.mp hd _ hm
      have h3 := List.all_eq_true.mp hd _ gm
      rw [Bool.and_eq_true, decide_eq_true_eq] at h2 h3
      have p0 : 0 ≤ k0 := h2.1
      have p1 : 0 ≤ k1 := h3.1
      have h1 := List.all_eq_true.mp h2.2 _ gm
      simp only [Bool.or_eq_true, beq_iff_eq, bne_iff_ne, List.any_eq_true, List.mem_range] at h1
      rcases h1 with (h1 | h1) | ⟨j, hj, h1⟩
      · exact h1
      · exact absurd (he.1.trans ge.1.symm) h1
      · have l0 := he.1
        have a := he.2 j (by omega) (by omega)
        have c := ge.2 j (by omega) (by omega)
        rw [show (k0 + (j : Int)).toNat = k0.toNat + j by omega] at a
        rw [show (k1 + (j : Int)).toNat = k1.toNat + j by omega] at c
        exact absurd (a.symm.trans c) h1
    · exact absurd he (gn _ _ _ hm)
  · rcases g with ⟨k1, e1, gm, ge⟩ | ⟨rfl, _⟩
    · exact absurd ge (hn _ _ _ gm)
    · rfl
/-- how far the token goes along with the word from k0, seen up to k -/
def SM9_ (w : List Int) (b : Int → Int) (s e k0 k q : Int) : Prop := (q = k - k0 ∧ k - k0 ≤ e - s ∧ PM9_ w b s k0 (k - k0)) ∨ (q = -1 ∧ ¬ (k - k0 ≤ e - s ∧ PM9_ w b s k0 (k - k0)))
theorem sm9_z {w : List Int} {b : Int → Int} {s e k0 : Int} (h : s ≤ e) : SM9_ w b s e k0 k0 0 := Or.inl ⟨by omega, by omega, fun j h1 h2 => by omega⟩
theorem sm9_s {w : List Int} {b : Int → Int} {s e k0 k q : Int} (h : SM9_ w b s e k0 k q) (h0 : 0 ≤ q) (h1 : s + q < e) (h2 : b (s + q) = w.getD k.toNat 0) : SM9_ w b s e k0 (k + 1) (q + 1) := by
  rcases h with ⟨g1, g2, g3⟩ | ⟨g1, _⟩
  · refine Or.inl ⟨by omega, by omega, fun j a c => ?_⟩
    by_cases z : j = q
    · rw [z, h2, show (k0 + q).toNat = k.toNat by omega]
    · exact g3 j a (by omega)
  · omega
theorem sm9_n {w : List Int} {b : Int → Int} {s e k0 k q : Int} (h : SM9_ w b s e k0 k q) (hk : k0 ≤ k) (hn : ¬ (0 ≤ q ∧ s + q < e ∧ b (s + q) = w.getD k.toNat 0)) : SM9_ w b s e k0 (k + 1) (-1) := by
  refine Or.inr ⟨rfl, fun z => ?_⟩
  obtain ⟨z1, z2⟩ := z
  rcases h with ⟨g1, g2, g3⟩ | ⟨_, g2⟩
  · refine hn ⟨by omega, by omega, ?_⟩
    have a := z2 q (by omega) (by omega)
    rw [show (k0 + q).toNat = k.toNat by omega] at a
    exact a
  · exact g2 ⟨by omega, fun j a c => z2 j a (by omega)⟩
theorem sm9_e {w : List Int} {b : Int → Int} {s e k0 e0 q : Int} (h : SM9_ w b s e k0 e0 q) (hs : s ≤ e) (hq : q = e - s) : EW9_ w b s e k0 e0 := by
  rcases h with ⟨g1, g2, g3⟩ | ⟨g1, _⟩
  · refine ⟨by omega, ?_⟩
    rw [show e - s = e0 - k0 by omega]
    exact g3
  · omega
theorem sm9_f {w : List Int} {b : Int → Int} {s e k0 e0 q : Int} (h : SM9_ w b s e k0 e0 q) (hq : q ≠ e - s) : ¬ EW9_ w b s e k0 e0 := fun z => by
  obtain ⟨z1, z2⟩ := z
  rcases h with ⟨g1, g2, g3⟩ | ⟨_, g2⟩
  · omega
  · refine g2 ⟨by omega, ?_⟩
    rw [z1]
    exact z2
-- words: the house's walk along a text of words
def tbc9_ (w : List Int) (ts : List (Int × Int × Int)) (c : Int → Int) (L : Nat) (nW : Int) : Bool := (ts.all fun q => decide (0 ≤ q.2.1 ∧ q.2.1 < nW ∧ 0 ≤ q.1 ∧ q.1 ≤ q.2.2 ∧ q.2.2 < (L : Int) ∧ c q.2.2 = 59) && (((List.range L).all fun j => if q.1 ≤ (j : Int) ∧ (j : Int) < q.2.2 then decide (c (j : Int) = w.getD j 0 ∧ c (j : Int) ≠ 59) else true) && (((ts.any fun z => z.1 == q.2.2 + 1 && z.2.1 == q.2.1 + 1) || decide (q.2.2 + 1 = (L : Int) ∧ q.2.1 + 1 = nW)) && (ts.all fun z => if z.2.1 = q.2.1 then decide (z.1 = q.1 ∧ z.2.2 = q.2.2) else true)))) && (ts.any fun z => z.1 == 0 && z.2.1 == 0)
def TB9_ (w : List Int) (ts : List (Int × Int × Int)) (c : Int → Int) (L nW : Int) : Prop := (∀ k0 n e0, (k0, n, e0) ∈ ts → (0 ≤ n ∧ n < nW ∧ 0 ≤ k0 ∧ k0 ≤ e0 ∧ e0 < L ∧ c e0 = 59) ∧ (∀ k, k0 ≤ k → k < e0 → c k = w.getD k.toNat 0 ∧ c k ≠ 59) ∧ ((∃ e1, (e0 + 1, n + 1, e1) ∈ ts) ∨ (e0 + 1 = L ∧ n + 1 = nW)) ∧ ∀ k1 e1, (k1, n, e1) ∈ ts → k1 = k0 ∧ e1 = e0) ∧ ∃ e1, (0, 0, e1) ∈ ts
theorem tb9_c {w : List Int} {ts : List (Int × Int × Int)} {c : Int → Int} {L : Nat} {nW : Int} (h : tbc9_ w ts c L nW = true) : TB9_ w ts c (L : Int) nW := by
  unfold tbc9_ at h
  rw [Bool.and_eq_true] at h
  obtain ⟨h, g⟩ := h
  refine ⟨fun k0 n e0 hm => ?_, ?_⟩
  · have h1 := List.all_eq_true.mp h _ hm
    rw [Bool.and_eq_true, Bool.and_eq_true, Bool.and_eq_true, decide_eq_true_eq] at h1
    obtain ⟨h1, h2, h3, h4⟩ := h1
    have h1 : 0 ≤ n ∧ n < nW ∧ 0 ≤ k0 ∧ k0 ≤ e0 ∧ e0 < (L : Int) ∧ c e0 = 59 := h1
    refine ⟨h1, fun k a b => ?_, ?_, fun k1 e1 hm1 => ?_⟩
    · have h5 := List.all_eq_true.mp h2 k.toNat (List.mem_range.mpr (by have := h1.2.2.2.2.1; have := h1.2.2.1; omega))
      have ek : ((k.toNat : Nat) : Int) = k := by have := h1.2.2.1; omega
      rw [ek, if_pos ⟨a, b⟩, decide_eq_true_eq] at h5
      exact h5
    · rw [Bool.or_eq_true, List.any_eq_true, decide_eq_true_eq] at h3
      rcases h3 with ⟨⟨a, b, e1⟩, h5, h6⟩ | h3
      · rw [Bool.and_eq_true, beq_iff_eq, beq_iff_eq] at h6
        obtain ⟨rfl, rfl⟩ := h6
        exact Or.inl ⟨e1, h5⟩
      · exact Or.inr h3
    · have h5 := List.all_eq_true.mp h4 _ hm1
      rw [if_pos rfl, decide_eq_true_eq] at h5
      exact h5
  · rw [List.any_eq_true] at g
    obtain ⟨⟨a, b, e1⟩, h5, h6⟩ := g
    rw [Bool.and_eq_true, beq_iff_eq, beq_iff_eq] at h6
    obtain ⟨rfl, rfl⟩ := h6
    exact ⟨e1, h5⟩
theorem tb9_0 : TB9_ wl_264 wt_264 (cb8_ 0) 82 14 := tb9_c (L := 82) (by decide +kernel)
theorem tb9_1 : TB9_ wl_265 wt_265 (cb8_ 1) 36 4 := tb9_c (L := 36) (by decide +kernel)
theorem tb9_2 : TB9_ wl_266 wt_266 (cb8_ 2) 37 7 := tb9_c (L := 37) (by decide +kernel)
/-- the words before number p are other words; the token goes along with word p by q signs, seen up to k -/
def WI9_ (w : List Int) (ts : List (Int × Int × Int)) (b : Int → Int) (s e L nW p q k : Int) : Prop := (∀ k0 n e0, (k0, n, e0) ∈ ts → n < p → ¬ EW9_ w b s e k0 e0) ∧ ((∃ k0 e0, (k0, p, e0) ∈ ts ∧ k0 ≤ k ∧ k ≤ e0 ∧ SM9_ w b s e k0 k q) ∨ (k = L ∧ p = nW))
section WI9
variable {w : List Int} {ts : List (Int × Int × Int)} {c b : Int → Int} {s e L nW p q k : Int}
theorem wi9_0 (ht : TB9_ w ts c L nW) (hs : s ≤ e) : WI9_ w ts b s e L nW 0 0 0 := by
  obtain ⟨h1, e1, h2⟩ := ht
  refine ⟨fun k0 n e0 hm hn => ?_, Or.inl ⟨0, e1, h2, Int.le_refl _, ?_, sm9_z hs⟩⟩
  · have := (h1 _ _ _ hm).1.1
    omega
  · have := (h1 _ _ _ h2).1
    omega
theorem wi9_b (ht : TB9_ w ts c L nW) (h : WI9_ w ts b s e L nW p q k) (hk : k < L) : ∃ k0 e0, (k0, p, e0) ∈ ts ∧ k0 ≤ k ∧ k ≤ e0 ∧ SM9_ w b s e k0 k q := by
  rcases h.2 with h | h
  · exact h
  · omega
theorem wi9_m (ht : TB9_ w ts c L nW) (h : WI9_ w ts b s e L nW p q k) (hk : k < L) (hc : c k = 59) (hs : s ≤ e) (hq : q = e - s) : WD9_ w ts b s e p := by
  obtain ⟨k0, e0, hm, g1, g2, g3⟩ := wi9_b ht h hk
  have hz : k = e0 := Classical.byContradiction fun z => ((ht.1 _ _ _ hm).2.1 k g1 (by omega)).2 hc
  subst hz
  exact Or.inl ⟨k0, k, hm, sm9_e g3 hs hq⟩
theorem wi9_n (ht : TB9_ w ts c L nW) (h : WI9_ w ts b s e L nW p q k) (hk : k < L) (hc : c k = 59) (hs : s ≤ e) (hq : q ≠ e - s) : WI9_ w ts b s e L nW (p + 1) 0 (k + 1) := by
  obtain ⟨k0, e0, hm, g1, g2, g3⟩ := wi9_b ht h hk
  obtain ⟨t1, t2, t3, t4⟩ := ht.1 _ _ _ hm
  have hz : k = e0 := Classical.byContradiction fun z => (t2 k g1 (by omega)).2 hc
  subst hz
  refine ⟨fun k1 n e1 hm1 hn => ?_, ?_⟩
  · by_cases z : n = p
    · subst z
      obtain ⟨rfl, rfl⟩ := t4 _ _ hm1
      exact sm9_f g3 hq
    · exact h.1 _ _ _ hm1 (by omega)
  · rcases t3 with ⟨e1, t3⟩ | t3
    · have := (ht.1 _ _ _ t3).1
      exact Or.inl ⟨k + 1, e1, t3, Int.le_refl _, by omega, sm9_z hs⟩
    · exact Or.inr t3
theorem wi9_y (ht : TB9_ w ts c L nW) (h : WI9_ w ts b s e L nW p q k) (hk : k < L) (hc : c k ≠ 59) (h0 : 0 ≤ q) (h1 : s + q < e) (h2 : b (s + q) = c k) : WI9_ w ts b s e L nW p (q + 1) (k + 1) := by
  obtain ⟨k0, e0, hm, g1, g2, g3⟩ := wi9_b ht h hk
  obtain ⟨t1, t2, t3, t4⟩ := ht.1 _ _ _ hm
  have hz : k ≠ e0 := fun z => by
    subst z
    exact hc t1.2.2.2.2.2
  exact ⟨h.1, Or.inl ⟨k0, e0, hm, by omega, by omega, sm9_s g3 h0 h1 (h2.trans (t2 k g1 (by omega)).1)⟩⟩
theorem wi9_x (ht : TB9_ w ts c L nW) (h : WI9_ w ts b s e L nW p q k) (hk : k < L) (hc : c k ≠ 59) (hn : ¬ (0 ≤ q ∧ s + q < e ∧ b (s + q) = c k)) : WI9_ w ts b s e L nW p (-1) (k + 1) := by
  obtain ⟨k0, e0, hm, g1, g2, g3⟩ := wi9_b ht h hk
  obtain ⟨t1, t2, t3, t4⟩ := ht.1 _ _ _ hm
  have hz : k ≠ e0 := fun z => by
    subst z
    exact hc t1.2.2.2.2.2
  rw [(t2 k g1 (by omega)).1] at hn
  exact ⟨h.1, Or.inl ⟨k0, e0, hm, by omega, by omega, sm9_n g3 g1 hn⟩⟩
theorem wi9_e (ht : TB9_ w ts c L nW) (h : WI9_ w ts b s e L nW p q k) (hk : ¬ k < L) : WD9_ w ts b s e (-1) := by
  refine Or.inr ⟨rfl, fun k0 n e0 hm => ?_⟩
  rcases h.2 with ⟨k1, e1, hm1, g1, g2, -⟩ | ⟨g1, g2⟩
  · have := (ht.1 _ _ _ hm1).1
    omega
  · have := (ht.1 _ _ _ hm).1
    exact h.1 _ _ _ hm (by omega)
end WI9
-- wordOf of the house
abbrev po_X5_fail_e (T : Zt) (k : Int) : Zt → Option Zv → Prop := fun T' r => ∃ x : Int, r = some (vI x) ∧ fr_ [(105, [2, 3])] T T' ∧ (x = 0 ∧ T' 105 0 2 = k ∧ T' 105 0 3 = T 105 0 8)
set_option maxHeartbeats 4000000 in
theorem ct_X5_fail_e {T : Zt} {k : Int} (hk : 0 ≤ k ∧ k ≤ 5) : Ct_ yX5_fail zX5_fail T [vR 105 0, vI k] (po_X5_fail_e T k) := by
  refine ct_of pn_5 rfl rfl (Nat.le_of_ble_eq_true rfl) (fun hT hav => ?_)
  have hr_k : -2147483648 ≤ k ∧ k ≤ 2147483647 := hav (vI k) (List.mem_cons_of_mem _ List.mem_cons_self)
  have hz : zX5_fail.2.2.2.1 = some .boolean → ∀ (T' : Zt) (x : Int), po_X5_fail_e T k T' (some (vI x)) → 0 ≤ x ∧ x ≤ 1 := fun _ T' x h => by obtain ⟨y, e, -, hy, -⟩ := h; cases e; omega
  have hts : 0 ≤ T 105 0 8 ∧ T 105 0 8 ≤ 400 := bd_f hT 105 8 tl_5_8 0
  show J_ zX5_fail T (po_X5_fail_e T k) 0 0 0 [some (vR 105 0), some (vI k)] [] T
  refine j_blx (F := fX5) tb_X5 (nn_ _) bk_X5_fail_0 bs_X5_fail_0 hz (fun K hK => ?_)
  refine bd_i (by omega) ?_
  refine x_nm (fun U1 hU1 => ?_)
  have e2 := up_f hU1
  intro b3 b3b
  have e4 : U1 105 0 8 = T 105 0 8 := up_j hU1 (by decide) 105 0
  rw [e4] at b3 b3b ⊢
  refine bd_i (by omega) ?_
  refine x_nm (fun U5 hU5 => ?_)
  have e6 := up_f hU5
  refine (show po_X5_fail_e T k U5 (some (vI 0)) from ?_)
  have e7 : U5 105 0 2 = k := (up_j hU5 (by decide) 105 0).trans (up_f hU1)
  have e8 : U5 105 0 3 = T 105 0 8 := up_f hU5
  exact ⟨_, rfl, fr_u (fr_u (fr_0 _ _) hU1 rfl) hU5 rfl, by omega⟩
abbrev po_X5_isOfKind_e (T : Zt) (k : Int) : Zt → Option Zv → Prop := fun T' r => ∃ x : Int, r = some (vI x) ∧ fr_ [(105, [2, 3])] T T' ∧ ((T 105 0 7 = 5 ∧ x = 0 ∧ T' 105 0 2 = 1 ∧ T' 105 0 3 = T 105 0 8) ∨ (T 105 0 7 ≠ 5 ∧ T 105 0 7 = k ∧ x = 1 ∧ T' 105 0 2 = T 105 0 2 ∧ T' 105 0 3 = T 105 0 3) ∨ (T 105 0 7 ≠ 5 ∧ T 105 0 7 ≠ k ∧ x = 0 ∧ T' 105 0 2 = 2 ∧ T' 105 0 3 = T 105 0 8))
set_option maxHeartbeats 4000000 in
theorem ct_X5_isOfKind_e {T : Zt} {k : Int} : Ct_ yX5_isOfKind zX5_isOfKind T [vR 105 0, vI k] (po_X5_isOfKind_e T k) := by
  refine ct_of pn_5 rfl rfl (Nat.le_of_ble_eq_true rfl) (fun hT hav => ?_)
  have hr_k : -2147483648 ≤ k ∧ k ≤ 2147483647 := hav (vI k) (List.mem_cons_of_mem _ List.mem_cons_self)
  have hz : zX5_isOfKind.2.2.2.1 = some .boolean → ∀ (T' : Zt) (x : Int), po_X5_isOfKind_e T k T' (some (vI x)) → 0 ≤ x ∧ x ≤ 1 := fun _ T' x h => by obtain ⟨y, e, -, hy⟩ := h; cases e; omega
  show J_ zX5_isOfKind T (po_X5_isOfKind_e T k) 0 0 0 [some (vR 105 0), some (vI k)] [] T
  refine j_blx (F := fX5) tb_X5 (nn_ _) bk_X5_isOfKind_0 bs_X5_isOfKind_0 hz (fun K hK => ?_)
  intro b1 b1b
  refine And.intro (fun c2 => ?_) (fun c2 => ?_)
  · refine hK 14 _ [] T ?_
    refine j_blx (F := fX5) tb_X5 (nn_ _) bk_X5_isOfKind_14 bs_X5_isOfKind_14 hz (fun K hK => ?_)
    intro b3 b3b
    refine And.intro (fun c4 => ?_) (fun c4 => ?_)
    · refine hK 30 _ [] T ?_
      refine j_blx (F := fX5) tb_X5 (nn_ _) bk_X5_isOfKind_30 bs_X5_isOfKind_30 hz (fun K hK => ?_)
      refine hK 35 _ [vI 1] T ?_
      refine j_blx (F := fX5) tb_X5 (nn_ _) bk_X5_isOfKind_35 bs_X5_isOfKind_35 hz (fun K hK => ?_)
      refine (show po_X5_isOfKind_e T k T (some (vI 1)) from ?_)
      exact ⟨_, rfl, fr_0 _ _, by omega⟩
    · refine hK 24 _ [vI 2, vR 105 0] T ?_
      refine j_callV (y := yX5_fail) (Yc := zX5_fail) (rest := []) [vI 2] (ct_X5_fail_e (T := T) (by omega)) cl_X5_59 (qd_c (by decide +kernel)) (nn_ _) rfl (rf_of rfl) (Nat.le_of_ble_eq_true rfl) (Nat.le_of_ble_eq_true rfl) (Nat.le_of_ble_eq_true rfl) rfl ?_
      rintro U5 _ ⟨x6, rfl, fU5, qU5⟩
      show J_ zX5_isOfKind T (po_X5_isOfKind_e T k) 0 0 27 _ [vI x6] U5
      refine j_blx (F := fX5) tb_X5 (nn_ _) bk_X5_isOfKind_27 bs_X5_isOfKind_27 hz (fun K hK => ?_)
      refine And.intro (fun c7 => ?_) (fun c7 => ?_)
      · refine hK 34 _ [] U5 ?_
        refine j_blx (F := fX5) tb_X5 (nn_ _) bk_X5_isOfKind_34 bs_X5_isOfKind_34 hz (fun K hK => ?_)
        refine (show po_X5_isOfKind_e T k U5 (some (vI 0)) from ?_)
        exact ⟨_, rfl, fr_t (fr_0 _ _) (fr_s fU5 rfl), by omega⟩
      · refine hK 35 _ [vI 1] U5 ?_
        refine j_blx (F := fX5) tb_X5 (nn_ _) bk_X5_isOfKind_35 bs_X5_isOfKind_35 hz (fun K hK => ?_)
        refine (show po_X5_isOfKind_e T k U5 (some (vI 1)) from ?_)
        exact ⟨_, rfl, fr_t (fr_0 _ _) (fr_s fU5 rfl), by omega⟩
  · refine hK 10 _ [vI 1, vR 105 0] T ?_
    refine j_callV (y := yX5_fail) (Yc := zX5_fail) (rest := []) [vI 1] (ct_X5_fail_e (T := T) (by omega)) cl_X5_59 (qd_c (by decide +kernel)) (nn_ _) rfl (rf_of rfl) (Nat.le_of_ble_eq_true rfl) (Nat.le_of_ble_eq_true rfl) (Nat.le_of_ble_eq_true rfl) rfl ?_
    rintro U8 _ ⟨x9, rfl, fU8, qU8⟩
    show J_ zX5_isOfKind T (po_X5_isOfKind_e T k) 0 0 13 _ [vI x9] U8
    refine j_blx (F := fX5) tb_X5 (nn_ _) bk_X5_isOfKind_13 bs_X5_isOfKind_13 hz (fun K hK => ?_)
    refine (show po_X5_isOfKind_e T k U8 (some (vI x9)) from ?_)
    exact ⟨_, rfl, fr_t (fr_0 _ _) (fr_s fU8 rfl), by omega⟩
abbrev po_X5_wordOf_e0 (T : Zt) : Zt → Option Zv → Prop := fun T' r => ∃ x : Int, r = some (vI x) ∧ fr_ [(105, [2, 3])] T T' ∧ ((T 105 0 7 ≠ 1 ∧ x = -1 ∧ T' 105 0 2 = (if T 105 0 7 = 5 then 1 else 2) ∧ T' 105 0 3 = T 105 0 8) ∨ (T 105 0 7 = 1 ∧ (0 ≤ x ∧ x < 14) ∧ WD9_ wl_264 wt_264 (fun j => T 500 0 j) (T 105 0 8) (T 105 0 9) x ∧ T' 105 0 2 = T 105 0 2 ∧ T' 105 0 3 = T 105 0 3) ∨ (T 105 0 7 = 1 ∧ x = -1 ∧ WD9_ wl_264 wt_264 (fun j => T 500 0 j) (T 105 0 8) (T 105 0 9) (-1) ∧ T' 105 0 2 = 3 ∧ T' 105 0 3 = T 105 0 8))
set_option maxHeartbeats 4000000 in
theorem ct_X5_wordOf_e0 {T : Zt} (hse : T 105 0 8 ≤ T 105 0 9) : Ct_ yX5_wordOf zX5_wordOf T [vR 105 0, vR 82 0] (po_X5_wordOf_e0 T) := by
  refine ct_of pn_5 rfl rfl (Nat.le_of_ble_eq_true rfl) (fun hT hav => ?_)
  have hz : zX5_wordOf.2.2.2.1 = some .boolean → ∀ (T' : Zt) (x : Int), po_X5_wordOf_e0 T T' (some (vI x)) → 0 ≤ x ∧ x ≤ 1 := fun h => by cases h
  have hts : 0 ≤ T 105 0 8 ∧ T 105 0 8 ≤ 400 := bd_f hT 105 8 tl_5_8 0
  have hte : 0 ≤ T 105 0 9 ∧ T 105 0 9 ≤ 400 := bd_f hT 105 9 tl_5_9 0
  show J_ zX5_wordOf T (po_X5_wordOf_e0 T) 0 0 0 [some (vR 105 0), some (vR 82 0), none, none, none, none] [] T
  have c_17 : ∀ (nn : Nat) (p : Int) (q : Int) (k : Int) (T1 : Zt), ((82 - k).toNat) ≤ nn → (fr_ [(105, [2, 3])] T T1) → (0 ≤ p ∧ p ≤ k ∧ -1 ≤ q ∧ q ≤ k ∧ 0 ≤ k ∧ k ≤ 82) → (T 105 0 7 = 1) → (T1 105 0 2 = T 105 0 2 ∧ T1 105 0 3 = T 105 0 3) → (WI9_ wl_264 wt_264 (fun j => T 500 0 j) (T 105 0 8) (T 105 0 9) 82 14 p q k) → J_ zX5_wordOf T (po_X5_wordOf_e0 T) 0 0 17 [some (vR 105 0), some (vR 82 0), some (vI p), some (vI q), some (vI k), none] [] T1 := by
    intro nn
    induction nn using Nat.strongRecOn with
    | _ nn ih_17 =>
      intro p q k T1 hm_17 hf_17 i1 hkd it iw
      replace hm_17 := fun (_ : Unit) => hm_17
      have ip : k < 82 → p < 14 := fun z => by obtain ⟨k0, e0, hm, -⟩ := wi9_b tb9_0 iw z; have := (tb9_0.1 _ _ _ hm).1; omega
      refine j_blx (F := fX5) tb_X5 (nn_ _) bk_X5_wordOf_17 bs_X5_wordOf_17 hz (fun K hK => ?_)
      refine hK 20 _ [vR 82 0, vI k] T1 ?_
      refine j_callK (i := 0) (y := yJ0_length_8abf5) (Yc := zJ0_length_8abf5) (rest := [vI k]) [] (by decide) (ct_J0_length_0 (T := T1)) ck82_X5_92 (by decide +kernel) (by decide) rfl (by decide +kernel) (Nat.le_of_ble_eq_true rfl) (by decide) (by decide) rfl ?_
      rintro _ _ ⟨rfl, rfl⟩
      show J_ zX5_wordOf T (po_X5_wordOf_e0 T) 0 0 23 _ [vI 82, vI k] T1
      refine j_blx (F := fX5) tb_X5 (nn_ _) bk_X5_wordOf_23 bs_X5_wordOf_23 hz (fun K hK => ?_)
      refine And.intro (fun c1 => ?_) (fun c1 => ?_)
      · refine hK 111 _ [] T1 ?_
        refine j_blx (F := fX5) tb_X5 (nn_ _) bk_X5_wordOf_111 bs_X5_wordOf_111 hz (fun K hK => ?_)
        refine hK 113 _ [vI 3, vR 105 0] T1 ?_
        refine j_callV (y := yX5_fail) (Yc := zX5_fail) (rest := []) [vI 3] (ct_X5_fail_e (T := T1) (by omega)) cl_X5_59 (qd_c (by decide +kernel)) (nn_ _) rfl (rf_of rfl) (Nat.le_of_ble_eq_true rfl) (Nat.le_of_ble_eq_true rfl) (Nat.le_of_ble_eq_true rfl) rfl ?_
        rintro U2 _ ⟨x3, rfl, fU2, qU2⟩
        show J_ zX5_wordOf T (po_X5_wordOf_e0 T) 0 0 116 _ [vI x3] U2
        refine j_blx (F := fX5) tb_X5 (nn_ _) bk_X5_wordOf_116 bs_X5_wordOf_116 hz (fun K hK => ?_)
        refine (show po_X5_wordOf_e0 T U2 (some (vI (-1))) from ?_)
        have t8 := hf_17 105 0 8 rfl
        exact ⟨_, rfl, fr_t (fr_t (fr_0 _ _) (fr_s hf_17 rfl)) (fr_s fU2 rfl), Or.inr (Or.inr ⟨hkd, rfl, wi9_e tb9_0 iw (by omega), by omega, by omega⟩)⟩
      · refine hK 29 _ [vI k, vR 82 0] T1 ?_
        refine j_callK (i := 0) (y := yJ0_charAt_5068e) (Yc := zJ0_charAt_5068e) (rest := []) [vI k] (by decide) (ct_J0_charAt_0 (T := T1) (by omega)) ck82_X5_98 (by decide +kernel) (by decide) rfl (by decide +kernel) (Nat.le_of_ble_eq_true rfl) (by decide) (by decide) rfl ?_
        rintro _ _ ⟨rfl, rfl⟩
        show J_ zX5_wordOf T (po_X5_wordOf_e0 T) 0 0 32 _ [vI (cb8_ 0 k)] T1
        have hcb := cb8_b (i := 0) (by decide) k
        refine j_blx (F := fX5) tb_X5 (nn_ _) bk_X5_wordOf_32 bs_X5_wordOf_32 hz (fun K hK => ?_)
        refine And.intro (fun c4 => ?_) (fun c4 => ?_)
        · refine hK 64 [some (vR 105 0), some (vR 82 0), some (vI p), some (vI q), some (vI k), some (vI (cb8_ 0 k))] [] T1 ?_
          refine j_blx (F := fX5) tb_X5 (nn_ _) bk_X5_wordOf_64 bs_X5_wordOf_64 hz (fun K hK => ?_)
          refine And.intro (fun c5 => ?_) (fun c5 => ?_)
          · refine hK 103 _ [] T1 ?_
            refine j_blx (F := fX5) tb_X5 (nn_ _) bk_X5_wordOf_103 bs_X5_wordOf_103 hz (fun K hK => ?_)
            refine rg_i (by omega) ?_
            refine hK 17 [some (vR 105 0), some (vR 82 0), some (vI p), some (vI (-1)), some (vI (k + 1)), some (vI (cb8_ 0 k))] [] T1 ?_
            refine j_drq [some (vR 105 0), some (vR 82 0), some (vI p), some (vI (-1)), some (vI (k + 1)), none] (drq_s (drq_s (drq_s (drq_s (drq_s (drq_n drq_0)))))) ?_
            refine ih_17 _ ?_ p (-1) (k + 1) T1 (Nat.le_refl _) ?_ ?_ ?_ ?_ ?_
            · have hm_17 := hm_17 (); omega
            · exact fr_t (fr_0 _ _) (fr_s hf_17 rfl)
            · omega
            · omega
            · omega
            · exact wi9_x tb9_0 iw (by omega) (by omega) (show ¬ (0 ≤ q ∧ T 105 0 8 + q < T 105 0 9 ∧ T 500 0 (T 105 0 8 + q) = cb8_ 0 k) by omega)
          · intro b6 b6b
            have e7 : T1 105 0 8 = T 105 0 8 := hf_17 105 0 8 rfl
            rw [e7] at b6 b6b ⊢
            refine rg_i (by omega) ?_
            intro b8 b8b
            have e9 : T1 105 0 9 = T 105 0 9 := hf_17 105 0 9 rfl
            rw [e9] at b8 b8b ⊢
            refine And.intro (fun c10 => ?_) (fun c10 => ?_)
            · refine hK 103 [some (vR 105 0), some (vR 82 0), some (vI p), some (vI q), some (vI k), some (vI (cb8_ 0 k))] [] T1 ?_
              refine j_blx (F := fX5) tb_X5 (nn_ _) bk_X5_wordOf_103 bs_X5_wordOf_103 hz (fun K hK => ?_)
              refine rg_i (by omega) ?_
              refine hK 17 [some (vR 105 0), some (vR 82 0), some (vI p), some (vI (-1)), some (vI (k + 1)), some (vI (cb8_ 0 k))] [] T1 ?_
              refine j_drq [some (vR 105 0), some (vR 82 0), some (vI p), some (vI (-1)), some (vI (k + 1)), none] (drq_s (drq_s (drq_s (drq_s (drq_s (drq_n drq_0)))))) ?_
              refine ih_17 _ ?_ p (-1) (k + 1) T1 (Nat.le_refl _) ?_ ?_ ?_ ?_ ?_
              · have hm_17 := hm_17 (); omega
              · exact fr_t (fr_0 _ _) (fr_s hf_17 rfl)
              · omega
              · omega
              · omega
              · exact wi9_x tb9_0 iw (by omega) (by omega) (show ¬ (0 ≤ q ∧ T 105 0 8 + q < T 105 0 9 ∧ T 500 0 (T 105 0 8 + q) = cb8_ 0 k) by omega)
            · intro b11 b11b
              have e12 : T1 105 0 8 = T 105 0 8 := hf_17 105 0 8 rfl
              rw [e12] at b11 b11b ⊢
              refine rg_i (by omega) ?_
              refine ix_i (by omega) ?_
              intro b13 b13b
              have e14 : T1 500 0 ((T 105 0 8) + q) = T 500 0 ((T 105 0 8) + q) := hf_17 500 0 ((T 105 0 8) + q) rfl
              rw [e14] at b13 b13b ⊢
              refine And.intro (fun c15 => ?_) (fun c15 => ?_)
              · refine hK 103 [some (vR 105 0), some (vR 82 0), some (vI p), some (vI q), some (vI k), some (vI (cb8_ 0 k))] [] T1 ?_
                refine j_blx (F := fX5) tb_X5 (nn_ _) bk_X5_wordOf_103 bs_X5_wordOf_103 hz (fun K hK => ?_)
                refine rg_i (by omega) ?_
                refine hK 17 [some (vR 105 0), some (vR 82 0), some (vI p), some (vI (-1)), some (vI (k + 1)), some (vI (cb8_ 0 k))] [] T1 ?_
                refine j_drq [some (vR 105 0), some (vR 82 0), some (vI p), some (vI (-1)), some (vI (k + 1)), none] (drq_s (drq_s (drq_s (drq_s (drq_s (drq_n drq_0)))))) ?_
                refine ih_17 _ ?_ p (-1) (k + 1) T1 (Nat.le_refl _) ?_ ?_ ?_ ?_ ?_
                · have hm_17 := hm_17 (); omega
                · exact fr_t (fr_0 _ _) (fr_s hf_17 rfl)
                · omega
                · omega
                · omega
                · exact wi9_x tb9_0 iw (by omega) (by omega) (show ¬ (0 ≤ q ∧ T 105 0 8 + q < T 105 0 9 ∧ T 500 0 (T 105 0 8 + q) = cb8_ 0 k) by omega)
              · refine rg_i (by omega) ?_
                refine hK 105 [some (vR 105 0), some (vR 82 0), some (vI p), some (vI (q + 1)), some (vI k), some (vI (cb8_ 0 k))] [] T1 ?_
                refine j_blx (F := fX5) tb_X5 (nn_ _) bk_X5_wordOf_105 bs_X5_wordOf_105 hz (fun K hK => ?_)
                refine rg_i (by omega) ?_
                refine hK 17 [some (vR 105 0), some (vR 82 0), some (vI p), some (vI (q + 1)), some (vI (k + 1)), some (vI (cb8_ 0 k))] [] T1 ?_
                refine j_drq [some (vR 105 0), some (vR 82 0), some (vI p), some (vI (q + 1)), some (vI (k + 1)), none] (drq_s (drq_s (drq_s (drq_s (drq_s (drq_n drq_0)))))) ?_
                refine ih_17 _ ?_ p (q + 1) (k + 1) T1 (Nat.le_refl _) ?_ ?_ ?_ ?_ ?_
                · have hm_17 := hm_17 (); omega
                · exact fr_t (fr_0 _ _) (fr_s hf_17 rfl)
                · omega
                · omega
                · omega
                · exact wi9_y tb9_0 iw (by omega) (by omega) (by omega) (by omega) (show T 500 0 (T 105 0 8 + q) = cb8_ 0 k by omega)
        · intro b16 b16b
          have e17 : T1 105 0 9 = T 105 0 9 := hf_17 105 0 9 rfl
          rw [e17] at b16 b16b ⊢
          intro b18 b18b
          have e19 : T1 105 0 8 = T 105 0 8 := hf_17 105 0 8 rfl
          rw [e19] at b18 b18b ⊢
          refine rg_i (by omega) ?_
          refine And.intro (fun c20 => ?_) (fun c20 => ?_)
          · refine hK 56 _ [] T1 ?_
            refine j_blx (F := fX5) tb_X5 (nn_ _) bk_X5_wordOf_56 bs_X5_wordOf_56 hz (fun K hK => ?_)
            refine rg_i (by omega) ?_
            refine hK 105 [some (vR 105 0), some (vR 82 0), some (vI (p + 1)), some (vI 0), some (vI k), some (vI (cb8_ 0 k))] [] T1 ?_
            refine j_blx (F := fX5) tb_X5 (nn_ _) bk_X5_wordOf_105 bs_X5_wordOf_105 hz (fun K hK => ?_)
            refine rg_i (by omega) ?_
            refine hK 17 [some (vR 105 0), some (vR 82 0), some (vI (p + 1)), some (vI 0), some (vI (k + 1)), some (vI (cb8_ 0 k))] [] T1 ?_
            refine j_drq [some (vR 105 0), some (vR 82 0), some (vI (p + 1)), some (vI 0), some (vI (k + 1)), none] (drq_s (drq_s (drq_s (drq_s (drq_s (drq_n drq_0)))))) ?_
            refine ih_17 _ ?_ (p + 1) 0 (k + 1) T1 (Nat.le_refl _) ?_ ?_ ?_ ?_ ?_
            · have hm_17 := hm_17 (); omega
            · exact fr_t (fr_0 _ _) (fr_s hf_17 rfl)
            · omega
            · omega
            · omega
            · exact wi9_n tb9_0 iw (by omega) (by omega) (by omega) (by omega)
          · refine (show po_X5_wordOf_e0 T T1 (some (vI p)) from ?_)
            exact ⟨_, rfl, fr_t (fr_0 _ _) (fr_s hf_17 rfl), Or.inr (Or.inl ⟨hkd, by omega, wi9_m tb9_0 iw (by omega) (by omega) (by omega) (by omega), by omega, by omega⟩)⟩
  refine j_blx (F := fX5) tb_X5 (nn_ _) bk_X5_wordOf_0 bs_X5_wordOf_0 hz (fun K hK => ?_)
  refine hK 2 _ [vI 1, vR 105 0] T ?_
  refine j_callV (y := yX5_isOfKind) (Yc := zX5_isOfKind) (rest := []) [vI 1] (ct_X5_isOfKind_e (T := T)) cl_X5_79 (qd_c (by decide +kernel)) (nn_ _) rfl (rf_of rfl) (Nat.le_of_ble_eq_true rfl) (Nat.le_of_ble_eq_true rfl) (Nat.le_of_ble_eq_true rfl) rfl ?_
  rintro U21 _ ⟨x22, rfl, fU21, qU21⟩
  show J_ zX5_wordOf T (po_X5_wordOf_e0 T) 0 0 5 _ [vI x22] U21
  refine j_blx (F := fX5) tb_X5 (nn_ _) bk_X5_wordOf_5 bs_X5_wordOf_5 hz (fun K hK => ?_)
  refine And.intro (fun c23 => ?_) (fun c23 => ?_)
  · refine hK 10 _ [] U21 ?_
    refine j_blx (F := fX5) tb_X5 (nn_ _) bk_X5_wordOf_10 bs_X5_wordOf_10 hz (fun K hK => ?_)
    refine hK 17 [some (vR 105 0), some (vR 82 0), some (vI 0), some (vI 0), some (vI 0), none] [] U21 ?_
    refine c_17 _ 0 0 0 U21 (Nat.le_refl _) ?_ ?_ ?_ ?_ ?_
    · exact fr_t (fr_0 _ _) (fr_s fU21 rfl)
    · omega
    · omega
    · omega
    · exact wi9_0 tb9_0 (by omega)
  · refine (show po_X5_wordOf_e0 T U21 (some (vI (-1))) from ?_)
    refine ⟨_, rfl, fr_t (fr_0 _ _) (fr_s fU21 rfl), Or.inl ⟨by omega, rfl, ?_, by omega⟩⟩
    split <;> omega
abbrev po_X5_wordOf_e1 (T : Zt) : Zt → Option Zv → Prop := fun T' r => ∃ x : Int, r = some (vI x) ∧ fr_ [(105, [2, 3])] T T' ∧ ((T 105 0 7 ≠ 1 ∧ x = -1 ∧ T' 105 0 2 = (if T 105 0 7 = 5 then 1 else 2) ∧ T' 105 0 3 = T 105 0 8) ∨ (T 105 0 7 = 1 ∧ (0 ≤ x ∧ x < 4) ∧ WD9_ wl_265 wt_265 (fun j => T 500 0 j) (T 105 0 8) (T 105 0 9) x ∧ T' 105 0 2 = T 105 0 2 ∧ T' 105 0 3 = T 105 0 3) ∨ (T 105 0 7 = 1 ∧ x = -1 ∧ WD9_ wl_265 wt_265 (fun j => T 500 0 j) (T 105 0 8) (T 105 0 9) (-1) ∧ T' 105 0 2 = 3 ∧ T' 105 0 3 = T 105 0 8))
set_option maxHeartbeats 4000000 in
theorem ct_X5_wordOf_e1 {T : Zt} (hse : T 105 0 8 ≤ T 105 0 9) : Ct_ yX5_wordOf zX5_wordOf T [vR 105 0, vR 82 1] (po_X5_wordOf_e1 T) := by
  refine ct_of pn_5 rfl rfl (Nat.le_of_ble_eq_true rfl) (fun hT hav => ?_)
  have hz : zX5_wordOf.2.2.2.1 = some .boolean → ∀ (T' : Zt) (x : Int), po_X5_wordOf_e1 T T' (some (vI x)) → 0 ≤ x ∧ x ≤ 1 := fun h => by cases h
  have hts : 0 ≤ T 105 0 8 ∧ T 105 0 8 ≤ 400 := bd_f hT 105 8 tl_5_8 0
  have hte : 0 ≤ T 105 0 9 ∧ T 105 0 9 ≤ 400 := bd_f hT 105 9 tl_5_9 0
  show J_ zX5_wordOf T (po_X5_wordOf_e1 T) 0 0 0 [some (vR 105 0), some (vR 82 1), none, none, none, none] [] T
  have c_17 : ∀ (nn : Nat) (p : Int) (q : Int) (k : Int) (T1 : Zt), ((36 - k).toNat) ≤ nn → (fr_ [(105, [2, 3])] T T1) → (0 ≤ p ∧ p ≤ k ∧ -1 ≤ q ∧ q ≤ k ∧ 0 ≤ k ∧ k ≤ 36) → (T 105 0 7 = 1) → (T1 105 0 2 = T 105 0 2 ∧ T1 105 0 3 = T 105 0 3) → (WI9_ wl_265 wt_265 (fun j => T 500 0 j) (T 105 0 8) (T 105 0 9) 36 4 p q k) → J_ zX5_wordOf T (po_X5_wordOf_e1 T) 0 0 17 [some (vR 105 0), some (vR 82 1), some (vI p), some (vI q), some (vI k), none] [] T1 := by
    intro nn
    induction nn using Nat.strongRecOn with
    | _ nn ih_17 =>
      intro p q k T1 hm_17 hf_17 i1 hkd it iw
      replace hm_17 := fun (_ : Unit) => hm_17
      have ip : k < 36 → p < 4 := fun z => by obtain ⟨k0, e0, hm, -⟩ := wi9_b tb9_1 iw z; have := (tb9_1.1 _ _ _ hm).1; omega
      refine j_blx (F := fX5) tb_X5 (nn_ _) bk_X5_wordOf_17 bs_X5_wordOf_17 hz (fun K hK => ?_)
      refine hK 20 _ [vR 82 1, vI k] T1 ?_
      refine j_callK (i := 1) (y := yJ0_length_8abf5) (Yc := zJ0_length_8abf5) (rest := [vI k]) [] (by decide) (ct_J0_length_1 (T := T1)) ck82_X5_92 (by decide +kernel) (by decide) rfl (by decide +kernel) (Nat.le_of_ble_eq_true rfl) (by decide) (by decide) rfl ?_
      rintro _ _ ⟨rfl, rfl⟩
      show J_ zX5_wordOf T (po_X5_wordOf_e1 T) 0 0 23 _ [vI 36, vI k] T1
      refine j_blx (F := fX5) tb_X5 (nn_ _) bk_X5_wordOf_23 bs_X5_wordOf_23 hz (fun K hK => ?_)
      refine And.intro (fun c1 => ?_) (fun c1 => ?_)
      · refine hK 111 _ [] T1 ?_
        refine j_blx (F := fX5) tb_X5 (nn_ _) bk_X5_wordOf_111 bs_X5_wordOf_111 hz (fun K hK => ?_)
        refine hK 113 _ [vI 3, vR 105 0] T1 ?_
        refine j_callV (y := yX5_fail) (Yc := zX5_fail) (rest := []) [vI 3] (ct_X5_fail_e (T := T1) (by omega)) cl_X5_59 (qd_c (by decide +kernel)) (nn_ _) rfl (rf_of rfl) (Nat.le_of_ble_eq_true rfl) (Nat.le_of_ble_eq_true rfl) (Nat.le_of_ble_eq_true rfl) rfl ?_
        rintro U2 _ ⟨x3, rfl, fU2, qU2⟩
        show J_ zX5_wordOf T (po_X5_wordOf_e1 T) 0 0 116 _ [vI x3] U2
        refine j_blx (F := fX5) tb_X5 (nn_ _) bk_X5_wordOf_116 bs_X5_wordOf_116 hz (fun K hK => ?_)
        refine (show po_X5_wordOf_e1 T U2 (some (vI (-1))) from ?_)
        have t8 := hf_17 105 0 8 rfl
        exact ⟨_, rfl, fr_t (fr_t (fr_0 _ _) (fr_s hf_17 rfl)) (fr_s fU2 rfl), Or.inr (Or.inr ⟨hkd, rfl, wi9_e tb9_1 iw (by omega), by omega, by omega⟩)⟩
      · refine hK 29 _ [vI k, vR 82 1] T1 ?_
        refine j_callK (i := 1) (y := yJ0_charAt_5068e) (Yc := zJ0_charAt_5068e) (rest := []) [vI k] (by decide) (ct_J0_charAt_1 (T := T1) (by omega)) ck82_X5_98 (by decide +kernel) (by decide) rfl (by decide +kernel) (Nat.le_of_ble_eq_true rfl) (by decide) (by decide) rfl ?_
        rintro _ _ ⟨rfl, rfl⟩
        show J_ zX5_wordOf T (po_X5_wordOf_e1 T) 0 0 32 _ [vI (cb8_ 1 k)] T1
        have hcb := cb8_b (i := 1) (by decide) k
        refine j_blx (F := fX5) tb_X5 (nn_ _) bk_X5_wordOf_32 bs_X5_wordOf_32 hz (fun K hK => ?_)
        refine And.intro (fun c4 => ?_) (fun c4 => ?_)
        · refine hK 64 [some (vR 105 0), some (vR 82 1), some (vI p), some (vI q), some (vI k), some (vI (cb8_ 1 k))] [] T1 ?_
          refine j_blx (F := fX5) tb_X5 (nn_ _) bk_X5_wordOf_64 bs_X5_wordOf_64 hz (fun K hK => ?_)
          refine And.intro (fun c5 => ?_) (fun c5 => ?_)
          · refine hK 103 _ [] T1 ?_
            refine j_blx (F := fX5) tb_X5 (nn_ _) bk_X5_wordOf_103 bs_X5_wordOf_103 hz (fun K hK => ?_)
            refine rg_i (by omega) ?_
            refine hK 17 [some (vR 105 0), some (vR 82 1), some (vI p), some (vI (-1)), some (vI (k + 1)), some (vI (cb8_ 1 k))] [] T1 ?_
            refine j_drq [some (vR 105 0), some (vR 82 1), some (vI p), some (vI (-1)), some (vI (k + 1)), none] (drq_s (drq_s (drq_s (drq_s (drq_s (drq_n drq_0)))))) ?_
            refine ih_17 _ ?_ p (-1) (k + 1) T1 (Nat.le_refl _) ?_ ?_ ?_ ?_ ?_
            · have hm_17 := hm_17 (); omega
            · exact fr_t (fr_0 _ _) (fr_s hf_17 rfl)
            · omega
            · omega
            · omega
            · exact wi9_x tb9_1 iw (by omega) (by omega) (show ¬ (0 ≤ q ∧ T 105 0 8 + q < T 105 0 9 ∧ T 500 0 (T 105 0 8 + q) = cb8_ 1 k) by omega)
          · intro b6 b6b
            have e7 : T1 105 0 8 = T 105 0 8 := hf_17 105 0 8 rfl
            rw [e7] at b6 b6b ⊢
            refine rg_i (by omega) ?_
            intro b8 b8b
            have e9 : T1 105 0 9 = T 105 0 9 := hf_17 105 0 9 rfl
            rw [e9] at b8 b8b ⊢
            refine And.intro (fun c10 => ?_) (fun c10 => ?_)
            · refine hK 103 [some (vR 105 0), some (vR 82 1), some (vI p), some (vI q), some (vI k), some (vI (cb8_ 1 k))] [] T1 ?_
              refine j_blx (F := fX5) tb_X5 (nn_ _) bk_X5_wordOf_103 bs_X5_wordOf_103 hz (fun K hK => ?_)
              refine rg_i (by omega) ?_
              refine hK 17 [some (vR 105 0), some (vR 82 1), some (vI p), some (vI (-1)), some (vI (k + 1)), some (vI (cb8_ 1 k))] [] T1 ?_
              refine j_drq [some (vR 105 0), some (vR 82 1), some (vI p), some (vI (-1)), some (vI (k + 1)), none] (drq_s (drq_s (drq_s (drq_s (drq_s (drq_n drq_0)))))) ?_
              refine ih_17 _ ?_ p (-1) (k + 1) T1 (Nat.le_refl _) ?_ ?_ ?_ ?_ ?_
              · have hm_17 := hm_17 (); omega
              · exact fr_t (fr_0 _ _) (fr_s hf_17 rfl)
              · omega
              · omega
              · omega
              · exact wi9_x tb9_1 iw (by omega) (by omega) (show ¬ (0 ≤ q ∧ T 105 0 8 + q < T 105 0 9 ∧ T 500 0 (T 105 0 8 + q) = cb8_ 1 k) by omega)
            · intro b11 b11b
              have e12 : T1 105 0 8 = T 105 0 8 := hf_17 105 0 8 rfl
              rw [e12] at b11 b11b ⊢
              refine rg_i (by omega) ?_
              refine ix_i (by omega) ?_
              intro b13 b13b
              have e14 : T1 500 0 ((T 105 0 8) + q) = T 500 0 ((T 105 0 8) + q) := hf_17 500 0 ((T 105 0 8) + q) rfl
              rw [e14] at b13 b13b ⊢
              refine And.intro (fun c15 => ?_) (fun c15 => ?_)
              · refine hK 103 [some (vR 105 0), some (vR 82 1), some (vI p), some (vI q), some (vI k), some (vI (cb8_ 1 k))] [] T1 ?_
                refine j_blx (F := fX5) tb_X5 (nn_ _) bk_X5_wordOf_103 bs_X5_wordOf_103 hz (fun K hK => ?_)
                refine rg_i (by omega) ?_
                refine hK 17 [some (vR 105 0), some (vR 82 1), some (vI p), some (vI (-1)), some (vI (k + 1)), some (vI (cb8_ 1 k))] [] T1 ?_
                refine j_drq [some (vR 105 0), some (vR 82 1), some (vI p), some (vI (-1)), some (vI (k + 1)), none] (drq_s (drq_s (drq_s (drq_s (drq_s (drq_n drq_0)))))) ?_
                refine ih_17 _ ?_ p (-1) (k + 1) T1 (Nat.le_refl _) ?_ ?_ ?_ ?_ ?_
                · have hm_17 := hm_17 (); omega
                · exact fr_t (fr_0 _ _) (fr_s hf_17 rfl)
                · omega
                · omega
                · omega
                · exact wi9_x tb9_1 iw (by omega) (by omega) (show ¬ (0 ≤ q ∧ T 105 0 8 + q < T 105 0 9 ∧ T 500 0 (T 105 0 8 + q) = cb8_ 1 k) by omega)
              · refine rg_i (by omega) ?_
                refine hK 105 [some (vR 105 0), some (vR 82 1), some (vI p), some (vI (q + 1)), some (vI k), some (vI (cb8_ 1 k))] [] T1 ?_
                refine j_blx (F := fX5) tb_X5 (nn_ _) bk_X5_wordOf_105 bs_X5_wordOf_105 hz (fun K hK => ?_)
                refine rg_i (by omega) ?_
                refine hK 17 [some (vR 105 0), some (vR 82 1), some (vI p), some (vI (q + 1)), some (vI (k + 1)), some (vI (cb8_ 1 k))] [] T1 ?_
                refine j_drq [some (vR 105 0), some (vR 82 1), some (vI p), some (vI (q + 1)), some (vI (k + 1)), none] (drq_s (drq_s (drq_s (drq_s (drq_s (drq_n drq_0)))))) ?_
                refine ih_17 _ ?_ p (q + 1) (k + 1) T1 (Nat.le_refl _) ?_ ?_ ?_ ?_ ?_
                · have hm_17 := hm_17 (); omega
                · exact fr_t (fr_0 _ _) (fr_s hf_17 rfl)
                · omega
                · omega
                · omega
                · exact wi9_y tb9_1 iw (by omega) (by omega) (by omega) (by omega) (show T 500 0 (T 105 0 8 + q) = cb8_ 1 k by omega)
        · intro b16 b16b
          have e17 : T1 105 0 9 = T 105 0 9 := hf_17 105 0 9 rfl
          rw [e17] at b16 b16b ⊢
          intro b18 b18b
          have e19 : T1 105 0 8 = T 105 0 8 := hf_17 105 0 8 rfl
          rw [e19] at b18 b18b ⊢
          refine rg_i (by omega) ?_
          refine And.intro (fun c20 => ?_) (fun c20 => ?_)
          · refine hK 56 _ [] T1 ?_
            refine j_blx (F := fX5) tb_X5 (nn_ _) bk_X5_wordOf_56 bs_X5_wordOf_56 hz (fun K hK => ?_)
            refine rg_i (by omega) ?_
            refine hK 105 [some (vR 105 0), some (vR 82 1), some (vI (p + 1)), some (vI 0), some (vI k), some (vI (cb8_ 1 k))] [] T1 ?_
            refine j_blx (F := fX5) tb_X5 (nn_ _) bk_X5_wordOf_105 bs_X5_wordOf_105 hz (fun K hK => ?_)
            refine rg_i (by omega) ?_
            refine hK 17 [some (vR 105 0), some (vR 82 1), some (vI (p + 1)), some (vI 0), some (vI (k + 1)), some (vI (cb8_ 1 k))] [] T1 ?_
            refine j_drq [some (vR 105 0), some (vR 82 1), some (vI (p + 1)), some (vI 0), some (vI (k + 1)), none] (drq_s (drq_s (drq_s (drq_s (drq_s (drq_n drq_0)))))) ?_
            refine ih_17 _ ?_ (p + 1) 0 (k + 1) T1 (Nat.le_refl _) ?_ ?_ ?_ ?_ ?_
            · have hm_17 := hm_17 (); omega
            · exact fr_t (fr_0 _ _) (fr_s hf_17 rfl)
            · omega
            · omega
            · omega
            · exact wi9_n tb9_1 iw (by omega) (by omega) (by omega) (by omega)
          · refine (show po_X5_wordOf_e1 T T1 (some (vI p)) from ?_)
            exact ⟨_, rfl, fr_t (fr_0 _ _) (fr_s hf_17 rfl), Or.inr (Or.inl ⟨hkd, by omega, wi9_m tb9_1 iw (by omega) (by omega) (by omega) (by omega), by omega, by omega⟩)⟩
  refine j_blx (F := fX5) tb_X5 (nn_ _) bk_X5_wordOf_0 bs_X5_wordOf_0 hz (fun K hK => ?_)
  refine hK 2 _ [vI 1, vR 105 0] T ?_
  refine j_callV (y := yX5_isOfKind) (Yc := zX5_isOfKind) (rest := []) [vI 1] (ct_X5_isOfKind_e (T := T)) cl_X5_79 (qd_c (by decide +kernel)) (nn_ _) rfl (rf_of rfl) (Nat.le_of_ble_eq_true rfl) (Nat.le_of_ble_eq_true rfl) (Nat.le_of_ble_eq_true rfl) rfl ?_
  rintro U21 _ ⟨x22, rfl, fU21, qU21⟩
  show J_ zX5_wordOf T (po_X5_wordOf_e1 T) 0 0 5 _ [vI x22] U21
  refine j_blx (F := fX5) tb_X5 (nn_ _) bk_X5_wordOf_5 bs_X5_wordOf_5 hz (fun K hK => ?_)
  refine And.intro (fun c23 => ?_) (fun c23 => ?_)
  · refine hK 10 _ [] U21 ?_
    refine j_blx (F := fX5) tb_X5 (nn_ _) bk_X5_wordOf_10 bs_X5_wordOf_10 hz (fun K hK => ?_)
    refine hK 17 [some (vR 105 0), some (vR 82 1), some (vI 0), some (vI 0), some (vI 0), none] [] U21 ?_
    refine c_17 _ 0 0 0 U21 (Nat.le_refl _) ?_ ?_ ?_ ?_ ?_
    · exact fr_t (fr_0 _ _) (fr_s fU21 rfl)
    · omega
    · omega
    · omega
    · exact wi9_0 tb9_1 (by omega)
  · refine (show po_X5_wordOf_e1 T U21 (some (vI (-1))) from ?_)
    refine ⟨_, rfl, fr_t (fr_0 _ _) (fr_s fU21 rfl), Or.inl ⟨by omega, rfl, ?_, by omega⟩⟩
    split <;> omega
abbrev po_X5_wordOf_e2 (T : Zt) : Zt → Option Zv → Prop := fun T' r => ∃ x : Int, r = some (vI x) ∧ fr_ [(105, [2, 3])] T T' ∧ ((T 105 0 7 ≠ 1 ∧ x = -1 ∧ T' 105 0 2 = (if T 105 0 7 = 5 then 1 else 2) ∧ T' 105 0 3 = T 105 0 8) ∨ (T 105 0 7 = 1 ∧ (0 ≤ x ∧ x < 7) ∧ WD9_ wl_266 wt_266 (fun j => T 500 0 j) (T 105 0 8) (T 105 0 9) x ∧ T' 105 0 2 = T 105 0 2 ∧ T' 105 0 3 = T 105 0 3) ∨ (T 105 0 7 = 1 ∧ x = -1 ∧ WD9_ wl_266 wt_266 (fun j => T 500 0 j) (T 105 0 8) (T 105 0 9) (-1) ∧ T' 105 0 2 = 3 ∧ T' 105 0 3 = T 105 0 8))
set_option maxHeartbeats 4000000 in
theorem ct_X5_wordOf_e2 {T : Zt} (hse : T 105 0 8 ≤ T 105 0 9) : Ct_ yX5_wordOf zX5_wordOf T [vR 105 0, vR 82 2] (po_X5_wordOf_e2 T) := by
  refine ct_of pn_5 rfl rfl (Nat.le_of_ble_eq_true rfl) (fun hT hav => ?_)
  have hz : zX5_wordOf.2.2.2.1 = some .boolean → ∀ (T' : Zt) (x : Int), po_X5_wordOf_e2 T T' (some (vI x)) → 0 ≤ x ∧ x ≤ 1 := fun h => by cases h
  have hts : 0 ≤ T 105 0 8 ∧ T 105 0 8 ≤ 400 := bd_f hT 105 8 tl_5_8 0
  have hte : 0 ≤ T 105 0 9 ∧ T 105 0 9 ≤ 400 := bd_f hT 105 9 tl_5_9 0
  show J_ zX5_wordOf T (po_X5_wordOf_e2 T) 0 0 0 [some (vR 105 0), some (vR 82 2), none, none, none, none] [] T
  have c_17 : ∀ (nn : Nat) (p : Int) (q : Int) (k : Int) (T1 : Zt), ((37 - k).toNat) ≤ nn → (fr_ [(105, [2, 3])] T T1) → (0 ≤ p ∧ p ≤ k ∧ -1 ≤ q ∧ q ≤ k ∧ 0 ≤ k ∧ k ≤ 37) → (T 105 0 7 = 1) → (T1 105 0 2 = T 105 0 2 ∧ T1 105 0 3 = T 105 0 3) → (WI9_ wl_266 wt_266 (fun j => T 500 0 j) (T 105 0 8) (T 105 0 9) 37 7 p q k) → J_ zX5_wordOf T (po_X5_wordOf_e2 T) 0 0 17 [some (vR 105 0), some (vR 82 2), some (vI p), some (vI q), some (vI k), none] [] T1 := by
    intro nn
    induction nn using Nat.strongRecOn with
    | _ nn ih_17 =>
      intro p q k T1 hm_17 hf_17 i1 hkd it iw
      replace hm_17 := fun (_ : Unit) => hm_17
      have ip : k < 37 → p < 7 := fun z => by obtain ⟨k0, e0, hm, -⟩ := wi9_b tb9_2 iw z; have := (tb9_2.1 _ _ _ hm).1; omega
      refine j_blx (F := fX5) tb_X5 (nn_ _) bk_X5_wordOf_17 bs_X5_wordOf_17 hz (fun K hK => ?_)
      refine hK 20 _ [vR 82 2, vI k] T1 ?_
      refine j_callK (i := 2) (y := yJ0_length_8abf5) (Yc := zJ0_length_8abf5) (rest := [vI k]) [] (by decide) (ct_J0_length_2 (T := T1)) ck82_X5_92 (by decide +kernel) (by decide) rfl (by decide +kernel) (Nat.le_of_ble_eq_true rfl) (by decide) (by decide) rfl ?_
      rintro _ _ ⟨rfl, rfl⟩
      show J_ zX5_wordOf T (po_X5_wordOf_e2 T) 0 0 23 _ [vI 37, vI k] T1
      refine j_blx (F := fX5) tb_X5 (nn_ _) bk_X5_wordOf_23 bs_X5_wordOf_23 hz (fun K hK => ?_)
      refine And.intro (fun c1 => ?_) (fun c1 => ?_)
      · refine hK 111 _ [] T1 ?_
        refine j_blx (F := fX5) tb_X5 (nn_ _) bk_X5_wordOf_111 bs_X5_wordOf_111 hz (fun K hK => ?_)
        refine hK 113 _ [vI 3, vR 105 0] T1 ?_
        refine j_callV (y := yX5_fail) (Yc := zX5_fail) (rest := []) [vI 3] (ct_X5_fail_e (T := T1) (by omega)) cl_X5_59 (qd_c (by decide +kernel)) (nn_ _) rfl (rf_of rfl) (Nat.le_of_ble_eq_true rfl) (Nat.le_of_ble_eq_true rfl) (Nat.le_of_ble_eq_true rfl) rfl ?_
        rintro U2 _ ⟨x3, rfl, fU2, qU2⟩
        show J_ zX5_wordOf T (po_X5_wordOf_e2 T) 0 0 116 _ [vI x3] U2
        refine j_blx (F := fX5) tb_X5 (nn_ _) bk_X5_wordOf_116 bs_X5_wordOf_116 hz (fun K hK => ?_)
        refine (show po_X5_wordOf_e2 T U2 (some (vI (-1))) from ?_)
        have t8 := hf_17 105 0 8 rfl
        exact ⟨_, rfl, fr_t (fr_t (fr_0 _ _) (fr_s hf_17 rfl)) (fr_s fU2 rfl), Or.inr (Or.inr ⟨hkd, rfl, wi9_e tb9_2 iw (by omega), by omega, by omega⟩)⟩
      · refine hK 29 _ [vI k, vR 82 2] T1 ?_
        refine j_callK (i := 2) (y := yJ0_charAt_5068e) (Yc := zJ0_charAt_5068e) (rest := []) [vI k] (by decide) (ct_J0_charAt_2 (T := T1) (by omega)) ck82_X5_98 (by decide +kernel) (by decide) rfl (by decide +kernel) (Nat.le_of_ble_eq_true rfl) (by decide) (by decide) rfl ?_
        rintro _ _ ⟨rfl, rfl⟩
        show J_ zX5_wordOf T (po_X5_wordOf_e2 T) 0 0 32 _ [vI (cb8_ 2 k)] T1
        have hcb := cb8_b (i := 2) (by decide) k
        refine j_blx (F := fX5) tb_X5 (nn_ _) bk_X5_wordOf_32 bs_X5_wordOf_32 hz (fun K hK => ?_)
        refine And.intro (fun c4 => ?_) (fun c4 => ?_)
        · refine hK 64 [some (vR 105 0), some (vR 82 2), some (vI p), some (vI q), some (vI k), some (vI (cb8_ 2 k))] [] T1 ?_
          refine j_blx (F := fX5) tb_X5 (nn_ _) bk_X5_wordOf_64 bs_X5_wordOf_64 hz (fun K hK => ?_)
          refine And.intro (fun c5 => ?_) (fun c5 => ?_)
          · refine hK 103 _ [] T1 ?_
            refine j_blx (F := fX5) tb_X5 (nn_ _) bk_X5_wordOf_103 bs_X5_wordOf_103 hz (fun K hK => ?_)
            refine rg_i (by omega) ?_
            refine hK 17 [some (vR 105 0), some (vR 82 2), some (vI p), some (vI (-1)), some (vI (k + 1)), some (vI (cb8_ 2 k))] [] T1 ?_
            refine j_drq [some (vR 105 0), some (vR 82 2), some (vI p), some (vI (-1)), some (vI (k + 1)), none] (drq_s (drq_s (drq_s (drq_s (drq_s (drq_n drq_0)))))) ?_
            refine ih_17 _ ?_ p (-1) (k + 1) T1 (Nat.le_refl _) ?_ ?_ ?_ ?_ ?_
            · have hm_17 := hm_17 (); omega
            · exact fr_t (fr_0 _ _) (fr_s hf_17 rfl)
            · omega
            · omega
            · omega
            · exact wi9_x tb9_2 iw (by omega) (by omega) (show ¬ (0 ≤ q ∧ T 105 0 8 + q < T 105 0 9 ∧ T 500 0 (T 105 0 8 + q) = cb8_ 2 k) by omega)
          · intro b6 b6b
            have e7 : T1 105 0 8 = T 105 0 8 := hf_17 105 0 8 rfl
            rw [e7] at b6 b6b ⊢
            refine rg_i (by omega) ?_
            intro b8 b8b
            have e9 : T1 105 0 9 = T 105 0 9 := hf_17 105 0 9 rfl
            rw [e9] at b8 b8b ⊢
            refine And.intro (fun c10 => ?_) (fun c10 => ?_)
            · refine hK 103 [some (vR 105 0), some (vR 82 2), some (vI p), some (vI q), some (vI k), some (vI (cb8_ 2 k))] [] T1 ?_
              refine j_blx (F := fX5) tb_X5 (nn_ _) bk_X5_wordOf_103 bs_X5_wordOf_103 hz (fun K hK => ?_)
              refine rg_i (by omega) ?_
              refine hK 17 [some (vR 105 0), some (vR 82 2), some (vI p), some (vI (-1)), some (vI (k + 1)), some (vI (cb8_ 2 k))] [] T1 ?_
              refine j_drq [some (vR 105 0), some (vR 82 2), some (vI p), some (vI (-1)), some (vI (k + 1)), none] (drq_s (drq_s (drq_s (drq_s (drq_s (drq_n drq_0)))))) ?_
              refine ih_17 _ ?_ p (-1) (k + 1) T1 (Nat.le_refl _) ?_ ?_ ?_ ?_ ?_
              · have hm_17 := hm_17 (); omega
              · exact fr_t (fr_0 _ _) (fr_s hf_17 rfl)
              · omega
              · omega
              · omega
              · exact wi9_x tb9_2 iw (by omega) (by omega) (show ¬ (0 ≤ q ∧ T 105 0 8 + q < T 105 0 9 ∧ T 500 0 (T 105 0 8 + q) = cb8_ 2 k) by omega)
            · intro b11 b11b
              have e12 : T1 105 0 8 = T 105 0 8 := hf_17 105 0 8 rfl
              rw [e12] at b11 b11b ⊢
              refine rg_i (by omega) ?_
              refine ix_i (by omega) ?_
              intro b13 b13b
              have e14 : T1 500 0 ((T 105 0 8) + q) = T 500 0 ((T 105 0 8) + q) := hf_17 500 0 ((T 105 0 8) + q) rfl
              rw [e14] at b13 b13b ⊢
              refine And.intro (fun c15 => ?_) (fun c15 => ?_)
              · refine hK 103 [some (vR 105 0), some (vR 82 2), some (vI p), some (vI q), some (vI k), some (vI (cb8_ 2 k))] [] T1 ?_
                refine j_blx (F := fX5) tb_X5 (nn_ _) bk_X5_wordOf_103 bs_X5_wordOf_103 hz (fun K hK => ?_)
                refine rg_i (by omega) ?_
                refine hK 17 [some (vR 105 0), some (vR 82 2), some (vI p), some (vI (-1)), some (vI (k + 1)), some (vI (cb8_ 2 k))] [] T1 ?_
                refine j_drq [some (vR 105 0), some (vR 82 2), some (vI p), some (vI (-1)), some (vI (k + 1)), none] (drq_s (drq_s (drq_s (drq_s (drq_s (drq_n drq_0)))))) ?_
                refine ih_17 _ ?_ p (-1) (k + 1) T1 (Nat.le_refl _) ?_ ?_ ?_ ?_ ?_
                · have hm_17 := hm_17 (); omega
                · exact fr_t (fr_0 _ _) (fr_s hf_17 rfl)
                · omega
                · omega
                · omega
                · exact wi9_x tb9_2 iw (by omega) (by omega) (show ¬ (0 ≤ q ∧ T 105 0 8 + q < T 105 0 9 ∧ T 500 0 (T 105 0 8 + q) = cb8_ 2 k) by omega)
              · refine rg_i (by omega) ?_
                refine hK 105 [some (vR 105 0), some (vR 82 2), some (vI p), some (vI (q + 1)), some (vI k), some (vI (cb8_ 2 k))] [] T1 ?_
                refine j_blx (F := fX5) tb_X5 (nn_ _) bk_X5_wordOf_105 bs_X5_wordOf_105 hz (fun K hK => ?_)
                refine rg_i (by omega) ?_
                refine hK 17 [some (vR 105 0), some (vR 82 2), some (vI p), some (vI (q + 1)), some (vI (k + 1)), some (vI (cb8_ 2 k))] [] T1 ?_
                refine j_drq [some (vR 105 0), some (vR 82 2), some (vI p), some (vI (q + 1)), some (vI (k + 1)), none] (drq_s (drq_s (drq_s (drq_s (drq_s (drq_n drq_0)))))) ?_
                refine ih_17 _ ?_ p (q + 1) (k + 1) T1 (Nat.le_refl _) ?_ ?_ ?_ ?_ ?_
                · have hm_17 := hm_17 (); omega
                · exact fr_t (fr_0 _ _) (fr_s hf_17 rfl)
                · omega
                · omega
                · omega
                · exact wi9_y tb9_2 iw (by omega) (by omega) (by omega) (by omega) (show T 500 0 (T 105 0 8 + q) = cb8_ 2 k by omega)
        · intro b16 b16b
          have e17 : T1 105 0 9 = T 105 0 9 := hf_17 105 0 9 rfl
          rw [e17] at b16 b16b ⊢
          intro b18 b18b
          have e19 : T1 105 0 8 = T 105 0 8 := hf_17 105 0 8 rfl
          rw [e19] at b18 b18b ⊢
          refine rg_i (by omega) ?_
          refine And.intro (fun c20 => ?_) (fun c20 => ?_)
          · refine hK 56 _ [] T1 ?_
            refine j_blx (F := fX5) tb_X5 (nn_ _) bk_X5_wordOf_56 bs_X5_wordOf_56 hz (fun K hK => ?_)
            refine rg_i (by omega) ?_
            refine hK 105 [some (vR 105 0), some (vR 82 2), some (vI (p + 1)), some (vI 0), some (vI k), some (vI (cb8_ 2 k))] [] T1 ?_
            refine j_blx (F := fX5) tb_X5 (nn_ _) bk_X5_wordOf_105 bs_X5_wordOf_105 hz (fun K hK => ?_)
            refine rg_i (by omega) ?_
            refine hK 17 [some (vR 105 0), some (vR 82 2), some (vI (p + 1)), some (vI 0), some (vI (k + 1)), some (vI (cb8_ 2 k))] [] T1 ?_
            refine j_drq [some (vR 105 0), some (vR 82 2), some (vI (p + 1)), some (vI 0), some (vI (k + 1)), none] (drq_s (drq_s (drq_s (drq_s (drq_s (drq_n drq_0)))))) ?_
            refine ih_17 _ ?_ (p + 1) 0 (k + 1) T1 (Nat.le_refl _) ?_ ?_ ?_ ?_ ?_
            · have hm_17 := hm_17 (); omega
            · exact fr_t (fr_0 _ _) (fr_s hf_17 rfl)
            · omega
            · omega
            · omega
            · exact wi9_n tb9_2 iw (by omega) (by omega) (by omega) (by omega)
          · refine (show po_X5_wordOf_e2 T T1 (some (vI p)) from ?_)
            exact ⟨_, rfl, fr_t (fr_0 _ _) (fr_s hf_17 rfl), Or.inr (Or.inl ⟨hkd, by omega, wi9_m tb9_2 iw (by omega) (by omega) (by omega) (by omega), by omega, by omega⟩)⟩
  refine j_blx (F := fX5) tb_X5 (nn_ _) bk_X5_wordOf_0 bs_X5_wordOf_0 hz (fun K hK => ?_)
  refine hK 2 _ [vI 1, vR 105 0] T ?_
  refine j_callV (y := yX5_isOfKind) (Yc := zX5_isOfKind) (rest := []) [vI 1] (ct_X5_isOfKind_e (T := T)) cl_X5_79 (qd_c (by decide +kernel)) (nn_ _) rfl (rf_of rfl) (Nat.le_of_ble_eq_true rfl) (Nat.le_of_ble_eq_true rfl) (Nat.le_of_ble_eq_true rfl) rfl ?_
  rintro U21 _ ⟨x22, rfl, fU21, qU21⟩
  show J_ zX5_wordOf T (po_X5_wordOf_e2 T) 0 0 5 _ [vI x22] U21
  refine j_blx (F := fX5) tb_X5 (nn_ _) bk_X5_wordOf_5 bs_X5_wordOf_5 hz (fun K hK => ?_)
  refine And.intro (fun c23 => ?_) (fun c23 => ?_)
  · refine hK 10 _ [] U21 ?_
    refine j_blx (F := fX5) tb_X5 (nn_ _) bk_X5_wordOf_10 bs_X5_wordOf_10 hz (fun K hK => ?_)
    refine hK 17 [some (vR 105 0), some (vR 82 2), some (vI 0), some (vI 0), some (vI 0), none] [] U21 ?_
    refine c_17 _ 0 0 0 U21 (Nat.le_refl _) ?_ ?_ ?_ ?_ ?_
    · exact fr_t (fr_0 _ _) (fr_s fU21 rfl)
    · omega
    · omega
    · omega
    · exact wi9_0 tb9_2 (by omega)
  · refine (show po_X5_wordOf_e2 T U21 (some (vI (-1))) from ?_)
    refine ⟨_, rfl, fr_t (fr_0 _ _) (fr_s fU21 rfl), Or.inl ⟨by omega, rfl, ?_, by omega⟩⟩
    split <;> omega
-- whichOf of the reference
/-- whether the first n signs of the token are the word's, as 0 or 1 -/
def SB9_ (w : List Int) (b : Int → Int) (s e k n q : Int) : Prop := (q = 1 ∧ n ≤ e - s ∧ PM9_ w b s k n) ∨ (q = 0 ∧ ¬ (n ≤ e - s ∧ PM9_ w b s k n))
theorem sb9_z {w : List Int} {b : Int → Int} {s e k : Int} (h : s ≤ e) : SB9_ w b s e k 0 1 := Or.inl ⟨rfl, by omega, fun j h1 h2 => by omega⟩
theorem sb9_s {w : List Int} {b : Int → Int} {s e k n q : Int} (h : SB9_ w b s e k n q) (h0 : q = 1) (h1 : s + n < e) (h2 : b (s + n) = w.getD (k + n).toNat 0) : SB9_ w b s e k (n + 1) 1 := by
  rcases h with ⟨g1, g2, g3⟩ | ⟨g1, _⟩
  · refine Or.inl ⟨rfl, by omega, fun j a c => ?_⟩
    by_cases z : j = n
    · rw [z, h2]
    · exact g3 j a (by omega)
  · omega
theorem sb9_n {w : List Int} {b : Int → Int} {s e k n q : Int} (h : SB9_ w b s e k n q) (hn0 : 0 ≤ n) (hn : ¬ (q = 1 ∧ s + n < e ∧ b (s + n) = w.getD (k + n).toNat 0)) : SB9_ w b s e k (n + 1) 0 := by
  refine Or.inr ⟨rfl, fun z => ?_⟩
  obtain ⟨z1, z2⟩ := z
  rcases h with ⟨g1, g2, g3⟩ | ⟨_, g2⟩
  · exact hn ⟨g1, by omega, z2 n hn0 (by omega)⟩
  · exact g2 ⟨by omega, fun j a c => z2 j a (by omega)⟩
theorem sb9_e {w : List Int} {b : Int → Int} {s e k e0 n q : Int} (h : SB9_ w b s e k n q) (he : k + n = e0) (h1 : q = 1) (h2 : n = e - s) : EW9_ w b s e k e0 := by
  rcases h with ⟨g1, g2, g3⟩ | ⟨g1, _⟩
  · refine ⟨by omega, ?_⟩
    rw [← h2]
    exact g3
  · omega
theorem sb9_f {w : List Int} {b : Int → Int} {s e k e0 n q : Int} (h : SB9_ w b s e k n q) (he : k + n = e0) (hn : ¬ (q = 1 ∧ n = e - s)) : ¬ EW9_ w b s e k e0 := fun z => by
  obtain ⟨z1, z2⟩ := z
  rcases h with ⟨g1, g2, g3⟩ | ⟨_, g2⟩
  · omega
  · refine g2 ⟨by omega, ?_⟩
    rw [show n = e - s by omega]
    exact z2
/-- of the words before number nr: x is one that the token is, or -1 and it is none of them -/
def WN9_ (w : List Int) (ts : List (Int × Int × Int)) (b : Int → Int) (s e nr x : Int) : Prop := (∃ k0 e0, (k0, x, e0) ∈ ts ∧ EW9_ w b s e k0 e0) ∨ (x = -1 ∧ ∀ k0 n e0, (k0, n, e0) ∈ ts → n < nr → ¬ EW9_ w b s e k0 e0)
theorem wn9_z {w : List Int} {ts : List (Int × Int × Int)} {c b : Int → Int} {s e L nW : Int} (ht : TB9_ w ts c L nW) : WN9_ w ts b s e 0 (-1) := Or.inr ⟨rfl, fun k0 n e0 hm hn => by have := (ht.1 _ _ _ hm).1; omega⟩
theorem wn9_y {w : List Int} {ts : List (Int × Int × Int)} {b : Int → Int} {s e nr k e0 : Int} (hm : (k, nr, e0) ∈ ts) (he : EW9_ w b s e k e0) : WN9_ w ts b s e (nr + 1) nr := Or.inl ⟨k, e0, hm, he⟩
theorem wn9_n {w : List Int} {ts : List (Int × Int × Int)} {c b : Int → Int} {s e L nW nr x k e0 : Int} (ht : TB9_ w ts c L nW) (h : WN9_ w ts b s e nr x) (hm : (k, nr, e0) ∈ ts) (he : ¬ EW9_ w b s e k e0) : WN9_ w ts b s e (nr + 1) x := by
  rcases h with h | ⟨h1, h2⟩
  · exact Or.inl h
  · refine Or.inr ⟨h1, fun k1 n e1 hm1 hn => ?_⟩
    by_cases z : n = nr
    · subst z
      obtain ⟨rfl, rfl⟩ := (ht.1 _ _ _ hm).2.2.2 _ _ hm1
      exact he
    · exact h2 _ _ _ hm1 (by omega)
theorem wn9_e {w : List Int} {ts : List (Int × Int × Int)} {c b : Int → Int} {s e L nW x : Int} (ht : TB9_ w ts c L nW) (h : WN9_ w ts b s e nW x) : WD9_ w ts b s e x := by
  rcases h with h | ⟨h1, h2⟩
  · exact Or.inl h
  · exact Or.inr ⟨h1, fun k0 n e0 hm => h2 _ _ _ hm (ht.1 _ _ _ hm).1.2.1⟩
theorem ww9_264 {T : Zt} (hC : CW_ T) {k nr : Int} (h : wp_264 k nr) (hk : k < 82) : ∃ e, (k, nr, e) ∈ wt_264 ∧ 0 ≤ k ∧ k ≤ e ∧ e < 82 ∧ (∀ i, k ≤ i → i < e → T 264 0 i ≠ 32) ∧ T 264 0 e = 32 ∧ wp_264 (e + 1) (nr + 1) ∧ 0 ≤ nr ∧ nr < 14 := by
  rcases h with ⟨e, he⟩ | h
  · have h1 := List.all_eq_true.mp wc_264 _ he
    simp only [Bool.and_eq_true, decide_eq_true_eq, beq_iff_eq] at h1
    obtain ⟨⟨⟨⟨a0, a1⟩, a2⟩, a3⟩, a4⟩ := h1
    have a2 : e < 82 := a2
    have hn := wn_264 _ he
    refine ⟨e, he, a0, a1, a2, fun i hi1 hi2 => ?_, ?_, hn.2.2, hn.1, hn.2.1⟩
    · have h2 := List.all_eq_true.mp a3 i.toNat (List.mem_range.mpr (by show i.toNat < 82; omega))
      rw [if_pos ⟨by omega, by omega⟩] at h2
      rw [hC.1 i (by omega) (by omega)]
      simpa using h2
    · rw [hC.1 e (by omega) (by omega)]
      exact a4
  · omega
abbrev po_X11_whichOf_e0 (T : Zt) : Zt → Option Zv → Prop := fun T' r => T = T' ∧ ∃ x : Int, r = some (vI x) ∧ ((-1 ≤ x ∧ x < 14) ∧ WD9_ wl_264 wt_264 (fun j => T 200 0 j) (T 111 0 59) (T 111 0 60) x)
set_option maxHeartbeats 4000000 in
theorem ct_X11_whichOf_e0 {T : Zt} (h1 : T 111 0 59 ≤ T 111 0 60 ∧ T 111 0 60 ≤ 400) (hC : CW_ T) : Ct_ yX11_whichOf zX11_whichOf T [vR 111 0, vR 264 0] (po_X11_whichOf_e0 T) := by
  refine ct_of pn_11 rfl rfl (Nat.le_of_ble_eq_true rfl) (fun hT hav => ?_)
  have hz : zX11_whichOf.2.2.2.1 = some .boolean → ∀ (T' : Zt) (x : Int), po_X11_whichOf_e0 T T' (some (vI x)) → 0 ≤ x ∧ x ≤ 1 := fun h => by cases h
  show J_ zX11_whichOf T (po_X11_whichOf_e0 T) 0 0 0 [some (vR 111 0), some (vR 264 0), none, none, none, none, none] [] T
  have c_7 : ∀ (nn : Nat) (wh : Int) (nr : Int) (k : Int), ((82 - k).toNat) ≤ nn → (wp_264 k nr) → (-1 ≤ wh ∧ wh < 14) → (0 ≤ k ∧ k ≤ 82) → (WN9_ wl_264 wt_264 (fun j => T 200 0 j) (T 111 0 59) (T 111 0 60) nr wh) → J_ zX11_whichOf T (po_X11_whichOf_e0 T) 0 0 7 [some (vR 111 0), some (vR 264 0), some (vI wh), some (vI nr), some (vI k), none, none] [] T := by
    intro nn
    induction nn using Nat.strongRecOn with
    | _ nn ih_7 =>
      intro wh nr k hm_7 w1 w2 w3 w4
      replace hm_7 := fun (_ : Unit) => hm_7
      have hk9 : k = 82 ∨ k < 82 := by omega
      rcases hk9 with hk9 | hk9
      · refine j_blx (F := fX11) tb_X11 (nn_ _) bk_X11_whichOf_7 bs_X11_whichOf_7 hz (fun K hK => ?_)
        refine And.intro (fun c9 => ?_) (fun c9 => absurd c9 (by omega))
        refine hK 126 _ [] T ?_
        refine j_blx (F := fX11) tb_X11 (nn_ _) bk_X11_whichOf_126 bs_X11_whichOf_126 hz (fun K hK => ?_)
        refine (show po_X11_whichOf_e0 T T (some (vI wh)) from ?_)
        have hnr : nr = 14 := by
          rcases w1 with ⟨e1, he1⟩ | h9
          · have := (tb9_0.1 _ _ _ he1).1
            omega
          · exact h9.2
        rw [hnr] at w4
        exact ⟨rfl, _, rfl, by omega, wn9_e tb9_0 w4⟩
      obtain ⟨e, hmem, hk0, he0, he1, he2, he3, hnx, hn0, hn1⟩ := ww9_264 hC w1 hk9
      have c_20 : ∀ (nn : Nat) (n : Int) (b : Int), ((e - k - n).toNat) ≤ nn → (0 ≤ n ∧ k + n ≤ e ∧ 0 ≤ b ∧ b ≤ 1) → (SB9_ wl_264 (fun j => T 200 0 j) (T 111 0 59) (T 111 0 60) k n b) → J_ zX11_whichOf T (po_X11_whichOf_e0 T) 0 0 20 [some (vR 111 0), some (vR 264 0), some (vI wh), some (vI nr), some (vI k), some (vI n), some (vI b)] [] T := by
        intro nn
        induction nn using Nat.strongRecOn with
        | _ nn ih_20 =>
          intro n b hm_20 n1 n2
          replace hm_20 := fun (_ : Unit) => hm_20
          have c_78 : ∀ (v : Int), (0 ≤ v ∧ v ≤ 1) → (k + n < e) → (SB9_ wl_264 (fun j => T 200 0 j) (T 111 0 59) (T 111 0 60) k (n + 1) v) → J_ zX11_whichOf T (po_X11_whichOf_e0 T) 0 0 78 [some (vR 111 0), some (vR 264 0), some (vI wh), some (vI nr), some (vI k), some (vI n), some (vI b)] [vI v] T := by
            intro v v1 v2 v3
            refine j_blx (F := fX11) tb_X11 (nn_ _) bk_X11_whichOf_78 bs_X11_whichOf_78 hz (fun K hK => ?_)
            refine rg_i (by omega) ?_
            refine hK 20 [some (vR 111 0), some (vR 264 0), some (vI wh), some (vI nr), some (vI k), some (vI (n + 1)), some (vI v)] [] T ?_
            refine ih_20 _ ?_ (n + 1) v (Nat.le_refl _) ?_ ?_
            · have hm_20 := hm_20 (); omega
            · omega
            · exact v3
          have c_110 : ∀ (v : Int), (-1 ≤ v ∧ v < 14) → (k + n = e) → (WN9_ wl_264 wt_264 (fun j => T 200 0 j) (T 111 0 59) (T 111 0 60) (nr + 1) v) → J_ zX11_whichOf T (po_X11_whichOf_e0 T) 0 0 110 [some (vR 111 0), some (vR 264 0), some (vI wh), some (vI nr), some (vI k), some (vI n), some (vI b)] [vI v] T := by
            intro v v1 v2 v4
            refine j_blx (F := fX11) tb_X11 (nn_ _) bk_X11_whichOf_110 bs_X11_whichOf_110 hz (fun K hK => ?_)
            refine rg_i (by omega) ?_
            refine rg_i (by omega) ?_
            refine rg_i (by omega) ?_
            refine hK 7 [some (vR 111 0), some (vR 264 0), some (vI v), some (vI (nr + 1)), some (vI (k + (n + 1))), some (vI n), some (vI b)] [] T ?_
            refine j_drq [some (vR 111 0), some (vR 264 0), some (vI v), some (vI (nr + 1)), some (vI (k + (n + 1))), none, none] (drq_s (drq_s (drq_s (drq_s (drq_s (drq_n (drq_n drq_0))))))) ?_
            refine ih_7 _ ?_ v (nr + 1) (k + (n + 1)) (Nat.le_refl _) ?_ ?_ ?_ ?_
            · have hm_7 := hm_7 (); omega
            · (have hz9 : k + (n + 1) = e + 1 := by omega); rw [hz9]; exact hnx
            · omega
            · omega
            · exact v4
          refine j_blx (F := fX11) tb_X11 (nn_ _) bk_X11_whichOf_20 bs_X11_whichOf_20 hz (fun K hK => ?_)
          refine rg_i (by omega) ?_
          refine ix_i (by omega) ?_
          intro b1 b1b
          refine And.intro (fun c2 => ?_) (fun c2 => ?_)
          · have hke : k + n = e := Classical.byContradiction (fun z => he2 (k + n) (by omega) (by omega) c2)
            refine hK 86 _ [] T ?_
            refine j_blx (F := fX11) tb_X11 (nn_ _) bk_X11_whichOf_86 bs_X11_whichOf_86 hz (fun K hK => ?_)
            refine And.intro (fun c3 => ?_) (fun c3 => ?_)
            · refine hK 109 _ [] T ?_
              refine j_blx (F := fX11) tb_X11 (nn_ _) bk_X11_whichOf_109 bs_X11_whichOf_109 hz (fun K hK => ?_)
              refine hK 110 _ [vI wh] T ?_
              refine c_110 wh ?_ ?_ ?_
              · omega
              · omega
              · exact wn9_n tb9_0 w4 hmem (sb9_f n2 (by omega) (by omega))
            · intro b4 b4b
              intro b5 b5b
              refine rg_i (by omega) ?_
              refine And.intro (fun c6 => ?_) (fun c6 => ?_)
              · refine hK 109 _ [] T ?_
                refine j_blx (F := fX11) tb_X11 (nn_ _) bk_X11_whichOf_109 bs_X11_whichOf_109 hz (fun K hK => ?_)
                refine hK 110 _ [vI wh] T ?_
                refine c_110 wh ?_ ?_ ?_
                · omega
                · omega
                · exact wn9_n tb9_0 w4 hmem (sb9_f n2 (by omega) (by omega))
              · refine hK 110 _ [vI nr] T ?_
                refine c_110 nr ?_ ?_ ?_
                · omega
                · omega
                · exact wn9_y hmem (sb9_e n2 (by omega) (by omega) (by omega))
          · have hke : k + n ≠ e := fun z => c2 (by rw [z]; exact he3)
            have hwr := hC.1 (k + n) (by omega) (by omega)
            refine And.intro (fun c7 => ?_) (fun c7 => ?_)
            · refine hK 77 _ [] T ?_
              refine j_blx (F := fX11) tb_X11 (nn_ _) bk_X11_whichOf_77 bs_X11_whichOf_77 hz (fun K hK => ?_)
              refine hK 78 _ [vI 0] T ?_
              refine c_78 0 ?_ ?_ ?_
              · omega
              · omega
              · exact sb9_n n2 (by omega) (show ¬ (b = 1 ∧ T 111 0 59 + n < T 111 0 60 ∧ T 200 0 (T 111 0 59 + n) = wl_264.getD (k + n).toNat 0) by omega)
            · intro b8 b8b
              refine rg_i (by omega) ?_
              intro b9 b9b
              refine And.intro (fun c10 => ?_) (fun c10 => ?_)
              · refine hK 77 _ [] T ?_
                refine j_blx (F := fX11) tb_X11 (nn_ _) bk_X11_whichOf_77 bs_X11_whichOf_77 hz (fun K hK => ?_)
                refine hK 78 _ [vI 0] T ?_
                refine c_78 0 ?_ ?_ ?_
                · omega
                · omega
                · exact sb9_n n2 (by omega) (show ¬ (b = 1 ∧ T 111 0 59 + n < T 111 0 60 ∧ T 200 0 (T 111 0 59 + n) = wl_264.getD (k + n).toNat 0) by omega)
              · intro b11 b11b
                refine rg_i (by omega) ?_
                refine ix_i (by omega) ?_
                intro b12 b12b
                refine rg_i (by omega) ?_
                refine ix_i (by omega) ?_
                intro b13 b13b
                refine And.intro (fun c14 => ?_) (fun c14 => ?_)
                · refine hK 77 _ [] T ?_
                  refine j_blx (F := fX11) tb_X11 (nn_ _) bk_X11_whichOf_77 bs_X11_whichOf_77 hz (fun K hK => ?_)
                  refine hK 78 _ [vI 0] T ?_
                  refine c_78 0 ?_ ?_ ?_
                  · omega
                  · omega
                  · exact sb9_n n2 (by omega) (show ¬ (b = 1 ∧ T 111 0 59 + n < T 111 0 60 ∧ T 200 0 (T 111 0 59 + n) = wl_264.getD (k + n).toNat 0) by omega)
                · refine hK 78 _ [vI 1] T ?_
                  refine c_78 1 ?_ ?_ ?_
                  · omega
                  · omega
                  · exact sb9_s n2 (by omega) (by omega) (show T 200 0 (T 111 0 59 + n) = wl_264.getD (k + n).toNat 0 by omega)
      refine j_blx (F := fX11) tb_X11 (nn_ _) bk_X11_whichOf_7 bs_X11_whichOf_7 hz (fun K hK => ?_)
      refine And.intro (fun c15 => ?_) (fun c15 => ?_)
      · refine hK 126 _ [] T ?_
        refine j_blx (F := fX11) tb_X11 (nn_ _) bk_X11_whichOf_126 bs_X11_whichOf_126 hz (fun K hK => ?_)
        refine (show po_X11_whichOf_e0 T T (some (vI wh)) from ?_)
        have hnr : nr = 14 := by
          rcases w1 with ⟨e1, he1⟩ | h9
          · have := (tb9_0.1 _ _ _ he1).1
            omega
          · exact h9.2
        rw [hnr] at w4
        exact ⟨rfl, _, rfl, by omega, wn9_e tb9_0 w4⟩
      · refine hK 20 [some (vR 111 0), some (vR 264 0), some (vI wh), some (vI nr), some (vI k), some (vI 0), some (vI 1)] [] T ?_
        refine c_20 _ 0 1 (Nat.le_refl _) ?_ ?_
        · omega
        · exact sb9_z (by omega)
  refine j_blx (F := fX11) tb_X11 (nn_ _) bk_X11_whichOf_0 bs_X11_whichOf_0 hz (fun K hK => ?_)
  refine hK 7 [some (vR 111 0), some (vR 264 0), some (vI (-1)), some (vI 0), some (vI 0), none, none] [] T ?_
  refine c_7 _ (-1) 0 0 (Nat.le_refl _) ?_ ?_ ?_ ?_
  · exact Or.inl ⟨_, List.mem_cons_self⟩
  · omega
  · omega
  · exact wn9_z tb9_0
theorem ww9_265 {T : Zt} (hC : CW_ T) {k nr : Int} (h : wp_265 k nr) (hk : k < 36) : ∃ e, (k, nr, e) ∈ wt_265 ∧ 0 ≤ k ∧ k ≤ e ∧ e < 36 ∧ (∀ i, k ≤ i → i < e → T 265 0 i ≠ 32) ∧ T 265 0 e = 32 ∧ wp_265 (e + 1) (nr + 1) ∧ 0 ≤ nr ∧ nr < 4 := by
  rcases h with ⟨e, he⟩ | h
  · have h1 := List.all_eq_true.mp wc_265 _ he
    simp only [Bool.and_eq_true, decide_eq_true_eq, beq_iff_eq] at h1
    obtain ⟨⟨⟨⟨a0, a1⟩, a2⟩, a3⟩, a4⟩ := h1
    have a2 : e < 36 := a2
    have hn := wn_265 _ he
    refine ⟨e, he, a0, a1, a2, fun i hi1 hi2 => ?_, ?_, hn.2.2, hn.1, hn.2.1⟩
    · have h2 := List.all_eq_true.mp a3 i.toNat (List.mem_range.mpr (by show i.toNat < 36; omega))
      rw [if_pos ⟨by omega, by omega⟩] at h2
      rw [hC.2.1 i (by omega) (by omega)]
      simpa using h2
    · rw [hC.2.1 e (by omega) (by omega)]
      exact a4
  · omega
abbrev po_X11_whichOf_e1 (T : Zt) : Zt → Option Zv → Prop := fun T' r => T = T' ∧ ∃ x : Int, r = some (vI x) ∧ ((-1 ≤ x ∧ x < 4) ∧ WD9_ wl_265 wt_265 (fun j => T 200 0 j) (T 111 0 59) (T 111 0 60) x)
set_option maxHeartbeats 4000000 in
theorem ct_X11_whichOf_e1 {T : Zt} (h1 : T 111 0 59 ≤ T 111 0 60 ∧ T 111 0 60 ≤ 400) (hC : CW_ T) : Ct_ yX11_whichOf zX11_whichOf T [vR 111 0, vR 265 0] (po_X11_whichOf_e1 T) := by
  refine ct_of pn_11 rfl rfl (Nat.le_of_ble_eq_true rfl) (fun hT hav => ?_)
  have hz : zX11_whichOf.2.2.2.1 = some .boolean → ∀ (T' : Zt) (x : Int), po_X11_whichOf_e1 T T' (some (vI x)) → 0 ≤ x ∧ x ≤ 1 := fun h => by cases h
  show J_ zX11_whichOf T (po_X11_whichOf_e1 T) 0 0 0 [some (vR 111 0), some (vR 265 0), none, none, none, none, none] [] T
  have c_7 : ∀ (nn : Nat) (wh : Int) (nr : Int) (k : Int), ((36 - k).toNat) ≤ nn → (wp_265 k nr) → (-1 ≤ wh ∧ wh < 4) → (0 ≤ k ∧ k ≤ 36) → (WN9_ wl_265 wt_265 (fun j => T 200 0 j) (T 111 0 59) (T 111 0 60) nr wh) → J_ zX11_whichOf T (po_X11_whichOf_e1 T) 0 0 7 [some (vR 111 0), some (vR 265 0), some (vI wh), some (vI nr), some (vI k), none, none] [] T := by
    intro nn
    induction nn using Nat.strongRecOn with
    | _ nn ih_7 =>
      intro wh nr k hm_7 w1 w2 w3 w4
      replace hm_7 := fun (_ : Unit) => hm_7
      have hk9 : k = 36 ∨ k < 36 := by omega
      rcases hk9 with hk9 | hk9
      · refine j_blx (F := fX11) tb_X11 (nn_ _) bk_X11_whichOf_7 bs_X11_whichOf_7 hz (fun K hK => ?_)
        refine And.intro (fun c9 => ?_) (fun c9 => absurd c9 (by omega))
        refine hK 126 _ [] T ?_
        refine j_blx (F := fX11) tb_X11 (nn_ _) bk_X11_whichOf_126 bs_X11_whichOf_126 hz (fun K hK => ?_)
        refine (show po_X11_whichOf_e1 T T (some (vI wh)) from ?_)
        have hnr : nr = 4 := by
          rcases w1 with ⟨e1, he1⟩ | h9
          · have := (tb9_1.1 _ _ _ he1).1
            omega
          · exact h9.2
        rw [hnr] at w4
        exact ⟨rfl, _, rfl, by omega, wn9_e tb9_1 w4⟩
      obtain ⟨e, hmem, hk0, he0, he1, he2, he3, hnx, hn0, hn1⟩ := ww9_265 hC w1 hk9
      have c_20 : ∀ (nn : Nat) (n : Int) (b : Int), ((e - k - n).toNat) ≤ nn → (0 ≤ n ∧ k + n ≤ e ∧ 0 ≤ b ∧ b ≤ 1) → (SB9_ wl_265 (fun j => T 200 0 j) (T 111 0 59) (T 111 0 60) k n b) → J_ zX11_whichOf T (po_X11_whichOf_e1 T) 0 0 20 [some (vR 111 0), some (vR 265 0), some (vI wh), some (vI nr), some (vI k), some (vI n), some (vI b)] [] T := by
        intro nn
        induction nn using Nat.strongRecOn with
        | _ nn ih_20 =>
          intro n b hm_20 n1 n2
          replace hm_20 := fun (_ : Unit) => hm_20
          have c_78 : ∀ (v : Int), (0 ≤ v ∧ v ≤ 1) → (k + n < e) → (SB9_ wl_265 (fun j => T 200 0 j) (T 111 0 59) (T 111 0 60) k (n + 1) v) → J_ zX11_whichOf T (po_X11_whichOf_e1 T) 0 0 78 [some (vR 111 0), some (vR 265 0), some (vI wh), some (vI nr), some (vI k), some (vI n), some (vI b)] [vI v] T := by
            intro v v1 v2 v3
            refine j_blx (F := fX11) tb_X11 (nn_ _) bk_X11_whichOf_78 bs_X11_whichOf_78 hz (fun K hK => ?_)
            refine rg_i (by omega) ?_
            refine hK 20 [some (vR 111 0), some (vR 265 0), some (vI wh), some (vI nr), some (vI k), some (vI (n + 1)), some (vI v)] [] T ?_
            refine ih_20 _ ?_ (n + 1) v (Nat.le_refl _) ?_ ?_
            · have hm_20 := hm_20 (); omega
            · omega
            · exact v3
          have c_110 : ∀ (v : Int), (-1 ≤ v ∧ v < 4) → (k + n = e) → (WN9_ wl_265 wt_265 (fun j => T 200 0 j) (T 111 0 59) (T 111 0 60) (nr + 1) v) → J_ zX11_whichOf T (po_X11_whichOf_e1 T) 0 0 110 [some (vR 111 0), some (vR 265 0), some (vI wh), some (vI nr), some (vI k), some (vI n), some (vI b)] [vI v] T := by
            intro v v1 v2 v4
            refine j_blx (F := fX11) tb_X11 (nn_ _) bk_X11_whichOf_110 bs_X11_whichOf_110 hz (fun K hK => ?_)
            refine rg_i (by omega) ?_
            refine rg_i (by omega) ?_
            refine rg_i (by omega) ?_
            refine hK 7 [some (vR 111 0), some (vR 265 0), some (vI v), some (vI (nr + 1)), some (vI (k + (n + 1))), some (vI n), some (vI b)] [] T ?_
            refine j_drq [some (vR 111 0), some (vR 265 0), some (vI v), some (vI (nr + 1)), some (vI (k + (n + 1))), none, none] (drq_s (drq_s (drq_s (drq_s (drq_s (drq_n (drq_n drq_0))))))) ?_
            refine ih_7 _ ?_ v (nr + 1) (k + (n + 1)) (Nat.le_refl _) ?_ ?_ ?_ ?_
            · have hm_7 := hm_7 (); omega
            · (have hz9 : k + (n + 1) = e + 1 := by omega); rw [hz9]; exact hnx
            · omega
            · omega
            · exact v4
          refine j_blx (F := fX11) tb_X11 (nn_ _) bk_X11_whichOf_20 bs_X11_whichOf_20 hz (fun K hK => ?_)
          refine rg_i (by omega) ?_
          refine ix_i (by omega) ?_
          intro b1 b1b
          refine And.intro (fun c2 => ?_) (fun c2 => ?_)
          · have hke : k + n = e := Classical.byContradiction (fun z => he2 (k + n) (by omega) (by omega) c2)
            refine hK 86 _ [] T ?_
            refine j_blx (F := fX11) tb_X11 (nn_ _) bk_X11_whichOf_86 bs_X11_whichOf_86 hz (fun K hK => ?_)
            refine And.intro (fun c3 => ?_) (fun c3 => ?_)
            · refine hK 109 _ [] T ?_
              refine j_blx (F := fX11) tb_X11 (nn_ _) bk_X11_whichOf_109 bs_X11_whichOf_109 hz (fun K hK => ?_)
              refine hK 110 _ [vI wh] T ?_
              refine c_110 wh ?_ ?_ ?_
              · omega
              · omega
              · exact wn9_n tb9_1 w4 hmem (sb9_f n2 (by omega) (by omega))
            · intro b4 b4b
              intro b5 b5b
              refine rg_i (by omega) ?_
              refine And.intro (fun c6 => ?_) (fun c6 => ?_)
              · refine hK 109 _ [] T ?_
                refine j_blx (F := fX11) tb_X11 (nn_ _) bk_X11_whichOf_109 bs_X11_whichOf_109 hz (fun K hK => ?_)
                refine hK 110 _ [vI wh] T ?_
                refine c_110 wh ?_ ?_ ?_
                · omega
                · omega
                · exact wn9_n tb9_1 w4 hmem (sb9_f n2 (by omega) (by omega))
              · refine hK 110 _ [vI nr] T ?_
                refine c_110 nr ?_ ?_ ?_
                · omega
                · omega
                · exact wn9_y hmem (sb9_e n2 (by omega) (by omega) (by omega))
          · have hke : k + n ≠ e := fun z => c2 (by rw [z]; exact he3)
            have hwr := hC.2.1 (k + n) (by omega) (by omega)
            refine And.intro (fun c7 => ?_) (fun c7 => ?_)
            · refine hK 77 _ [] T ?_
              refine j_blx (F := fX11) tb_X11 (nn_ _) bk_X11_whichOf_77 bs_X11_whichOf_77 hz (fun K hK => ?_)
              refine hK 78 _ [vI 0] T ?_
              refine c_78 0 ?_ ?_ ?_
              · omega
              · omega
              · exact sb9_n n2 (by omega) (show ¬ (b = 1 ∧ T 111 0 59 + n < T 111 0 60 ∧ T 200 0 (T 111 0 59 + n) = wl_265.getD (k + n).toNat 0) by omega)
            · intro b8 b8b
              refine rg_i (by omega) ?_
              intro b9 b9b
              refine And.intro (fun c10 => ?_) (fun c10 => ?_)
              · refine hK 77 _ [] T ?_
                refine j_blx (F := fX11) tb_X11 (nn_ _) bk_X11_whichOf_77 bs_X11_whichOf_77 hz (fun K hK => ?_)
                refine hK 78 _ [vI 0] T ?_
                refine c_78 0 ?_ ?_ ?_
                · omega
                · omega
                · exact sb9_n n2 (by omega) (show ¬ (b = 1 ∧ T 111 0 59 + n < T 111 0 60 ∧ T 200 0 (T 111 0 59 + n) = wl_265.getD (k + n).toNat 0) by omega)
              · intro b11 b11b
                refine rg_i (by omega) ?_
                refine ix_i (by omega) ?_
                intro b12 b12b
                refine rg_i (by omega) ?_
                refine ix_i (by omega) ?_
                intro b13 b13b
                refine And.intro (fun c14 => ?_) (fun c14 => ?_)
                · refine hK 77 _ [] T ?_
                  refine j_blx (F := fX11) tb_X11 (nn_ _) bk_X11_whichOf_77 bs_X11_whichOf_77 hz (fun K hK => ?_)
                  refine hK 78 _ [vI 0] T ?_
                  refine c_78 0 ?_ ?_ ?_
                  · omega
                  · omega
                  · exact sb9_n n2 (by omega) (show ¬ (b = 1 ∧ T 111 0 59 + n < T 111 0 60 ∧ T 200 0 (T 111 0 59 + n) = wl_265.getD (k + n).toNat 0) by omega)
                · refine hK 78 _ [vI 1] T ?_
                  refine c_78 1 ?_ ?_ ?_
                  · omega
                  · omega
                  · exact sb9_s n2 (by omega) (by omega) (show T 200 0 (T 111 0 59 + n) = wl_265.getD (k + n).toNat 0 by omega)
      refine j_blx (F := fX11) tb_X11 (nn_ _) bk_X11_whichOf_7 bs_X11_whichOf_7 hz (fun K hK => ?_)
      refine And.intro (fun c15 => ?_) (fun c15 => ?_)
      · refine hK 126 _ [] T ?_
        refine j_blx (F := fX11) tb_X11 (nn_ _) bk_X11_whichOf_126 bs_X11_whichOf_126 hz (fun K hK => ?_)
        refine (show po_X11_whichOf_e1 T T (some (vI wh)) from ?_)
        have hnr : nr = 4 := by
          rcases w1 with ⟨e1, he1⟩ | h9
          · have := (tb9_1.1 _ _ _ he1).1
            omega
          · exact h9.2
        rw [hnr] at w4
        exact ⟨rfl, _, rfl, by omega, wn9_e tb9_1 w4⟩
      · refine hK 20 [some (vR 111 0), some (vR 265 0), some (vI wh), some (vI nr), some (vI k), some (vI 0), some (vI 1)] [] T ?_
        refine c_20 _ 0 1 (Nat.le_refl _) ?_ ?_
        · omega
        · exact sb9_z (by omega)
  refine j_blx (F := fX11) tb_X11 (nn_ _) bk_X11_whichOf_0 bs_X11_whichOf_0 hz (fun K hK => ?_)
  refine hK 7 [some (vR 111 0), some (vR 265 0), some (vI (-1)), some (vI 0), some (vI 0), none, none] [] T ?_
  refine c_7 _ (-1) 0 0 (Nat.le_refl _) ?_ ?_ ?_ ?_
  · exact Or.inl ⟨_, List.mem_cons_self⟩
  · omega
  · omega
  · exact wn9_z tb9_1
theorem ww9_266 {T : Zt} (hC : CW_ T) {k nr : Int} (h : wp_266 k nr) (hk : k < 37) : ∃ e, (k, nr, e) ∈ wt_266 ∧ 0 ≤ k ∧ k ≤ e ∧ e < 37 ∧ (∀ i, k ≤ i → i < e → T 266 0 i ≠ 32) ∧ T 266 0 e = 32 ∧ wp_266 (e + 1) (nr + 1) ∧ 0 ≤ nr ∧ nr < 7 := by
  rcases h with ⟨e, he⟩ | h
  · have h1 := List.all_eq_true.mp wc_266 _ he
    simp only [Bool.and_eq_true, decide_eq_true_eq, beq_iff_eq] at h1
    obtain ⟨⟨⟨⟨a0, a1⟩, a2⟩, a3⟩, a4⟩ := h1
    have a2 : e < 37 := a2
    have hn := wn_266 _ he
    refine ⟨e, he, a0, a1, a2, fun i hi1 hi2 => ?_, ?_, hn.2.2, hn.1, hn.2.1⟩
    · have h2 := List.all_eq_true.mp a3 i.toNat (List.mem_range.mpr (by show i.toNat < 37; omega))
      rw [if_pos ⟨by omega, by omega⟩] at h2
      rw [hC.2.2.1 i (by omega) (by omega)]
      simpa using h2
    · rw [hC.2.2.1 e (by omega) (by omega)]
      exact a4
  · omega
abbrev po_X11_whichOf_e2 (T : Zt) : Zt → Option Zv → Prop := fun T' r => T = T' ∧ ∃ x : Int, r = some (vI x) ∧ ((-1 ≤ x ∧ x < 7) ∧ WD9_ wl_266 wt_266 (fun j => T 200 0 j) (T 111 0 59) (T 111 0 60) x)
set_option maxHeartbeats 4000000 in
theorem ct_X11_whichOf_e2 {T : Zt} (h1 : T 111 0 59 ≤ T 111 0 60 ∧ T 111 0 60 ≤ 400) (hC : CW_ T) : Ct_ yX11_whichOf zX11_whichOf T [vR 111 0, vR 266 0] (po_X11_whichOf_e2 T) := by
  refine ct_of pn_11 rfl rfl (Nat.le_of_ble_eq_true rfl) (fun hT hav => ?_)
  have hz : zX11_whichOf.2.2.2.1 = some .boolean → ∀ (T' : Zt) (x : Int), po_X11_whichOf_e2 T T' (some (vI x)) → 0 ≤ x ∧ x ≤ 1 := fun h => by cases h
  show J_ zX11_whichOf T (po_X11_whichOf_e2 T) 0 0 0 [some (vR 111 0), some (vR 266 0), none, none, none, none, none] [] T
  have c_7 : ∀ (nn : Nat) (wh : Int) (nr : Int) (k : Int), ((37 - k).toNat) ≤ nn → (wp_266 k nr) → (-1 ≤ wh ∧ wh < 7) → (0 ≤ k ∧ k ≤ 37) → (WN9_ wl_266 wt_266 (fun j => T 200 0 j) (T 111 0 59) (T 111 0 60) nr wh) → J_ zX11_whichOf T (po_X11_whichOf_e2 T) 0 0 7 [some (vR 111 0), some (vR 266 0), some (vI wh), some (vI nr), some (vI k), none, none] [] T := by
    intro nn
    induction nn using Nat.strongRecOn with
    | _ nn ih_7 =>
      intro wh nr k hm_7 w1 w2 w3 w4
      replace hm_7 := fun (_ : Unit) => hm_7
      have hk9 : k = 37 ∨ k < 37 := by omega
      rcases hk9 with hk9 | hk9
      · refine j_blx (F := fX11) tb_X11 (nn_ _) bk_X11_whichOf_7 bs_X11_whichOf_7 hz (fun K hK => ?_)
        refine And.intro (fun c9 => ?_) (fun c9 => absurd c9 (by omega))
        refine hK 126 _ [] T ?_
        refine j_blx (F := fX11) tb_X11 (nn_ _) bk_X11_whichOf_126 bs_X11_whichOf_126 hz (fun K hK => ?_)
        refine (show po_X11_whichOf_e2 T T (some (vI wh)) from ?_)
        have hnr : nr = 7 := by
          rcases w1 with ⟨e1, he1⟩ | h9
          · have := (tb9_2.1 _ _ _ he1).1
            omega
          · exact h9.2
        rw [hnr] at w4
        exact ⟨rfl, _, rfl, by omega, wn9_e tb9_2 w4⟩
      obtain ⟨e, hmem, hk0, he0, he1, he2, he3, hnx, hn0, hn1⟩ := ww9_266 hC w1 hk9
      have c_20 : ∀ (nn : Nat) (n : Int) (b : Int), ((e - k - n).toNat) ≤ nn → (0 ≤ n ∧ k + n ≤ e ∧ 0 ≤ b ∧ b ≤ 1) → (SB9_ wl_266 (fun j => T 200 0 j) (T 111 0 59) (T 111 0 60) k n b) → J_ zX11_whichOf T (po_X11_whichOf_e2 T) 0 0 20 [some (vR 111 0), some (vR 266 0), some (vI wh), some (vI nr), some (vI k), some (vI n), some (vI b)] [] T := by
        intro nn
        induction nn using Nat.strongRecOn with
        | _ nn ih_20 =>
          intro n b hm_20 n1 n2
          replace hm_20 := fun (_ : Unit) => hm_20
          have c_78 : ∀ (v : Int), (0 ≤ v ∧ v ≤ 1) → (k + n < e) → (SB9_ wl_266 (fun j => T 200 0 j) (T 111 0 59) (T 111 0 60) k (n + 1) v) → J_ zX11_whichOf T (po_X11_whichOf_e2 T) 0 0 78 [some (vR 111 0), some (vR 266 0), some (vI wh), some (vI nr), some (vI k), some (vI n), some (vI b)] [vI v] T := by
            intro v v1 v2 v3
            refine j_blx (F := fX11) tb_X11 (nn_ _) bk_X11_whichOf_78 bs_X11_whichOf_78 hz (fun K hK => ?_)
            refine rg_i (by omega) ?_
            refine hK 20 [some (vR 111 0), some (vR 266 0), some (vI wh), some (vI nr), some (vI k), some (vI (n + 1)), some (vI v)] [] T ?_
            refine ih_20 _ ?_ (n + 1) v (Nat.le_refl _) ?_ ?_
            · have hm_20 := hm_20 (); omega
            · omega
            · exact v3
          have c_110 : ∀ (v : Int), (-1 ≤ v ∧ v < 7) → (k + n = e) → (WN9_ wl_266 wt_266 (fun j => T 200 0 j) (T 111 0 59) (T 111 0 60) (nr + 1) v) → J_ zX11_whichOf T (po_X11_whichOf_e2 T) 0 0 110 [some (vR 111 0), some (vR 266 0), some (vI wh), some (vI nr), some (vI k), some (vI n), some (vI b)] [vI v] T := by
            intro v v1 v2 v4
            refine j_blx (F := fX11) tb_X11 (nn_ _) bk_X11_whichOf_110 bs_X11_whichOf_110 hz (fun K hK => ?_)
            refine rg_i (by omega) ?_
            refine rg_i (by omega) ?_
            refine rg_i (by omega) ?_
            refine hK 7 [some (vR 111 0), some (vR 266 0), some (vI v), some (vI (nr + 1)), some (vI (k + (n + 1))), some (vI n), some (vI b)] [] T ?_
            refine j_drq [some (vR 111 0), some (vR 266 0), some (vI v), some (vI (nr + 1)), some (vI (k + (n + 1))), none, none] (drq_s (drq_s (drq_s (drq_s (drq_s (drq_n (drq_n drq_0))))))) ?_
            refine ih_7 _ ?_ v (nr + 1) (k + (n + 1)) (Nat.le_refl _) ?_ ?_ ?_ ?_
            · have hm_7 := hm_7 (); omega
            · (have hz9 : k + (n + 1) = e + 1 := by omega); rw [hz9]; exact hnx
            · omega
            · omega
            · exact v4
          refine j_blx (F := fX11) tb_X11 (nn_ _) bk_X11_whichOf_20 bs_X11_whichOf_20 hz (fun K hK => ?_)
          refine rg_i (by omega) ?_
          refine ix_i (by omega) ?_
          intro b1 b1b
          refine And.intro (fun c2 => ?_) (fun c2 => ?_)
          · have hke : k + n = e := Classical.byContradiction (fun z => he2 (k + n) (by omega) (by omega) c2)
            refine hK 86 _ [] T ?_
            refine j_blx (F := fX11) tb_X11 (nn_ _) bk_X11_whichOf_86 bs_X11_whichOf_86 hz (fun K hK => ?_)
            refine And.intro (fun c3 => ?_) (fun c3 => ?_)
            · refine hK 109 _ [] T ?_
              refine j_blx (F := fX11) tb_X11 (nn_ _) bk_X11_whichOf_109 bs_X11_whichOf_109 hz (fun K hK => ?_)
              refine hK 110 _ [vI wh] T ?_
              refine c_110 wh ?_ ?_ ?_
              · omega
              · omega
              · exact wn9_n tb9_2 w4 hmem (sb9_f n2 (by omega) (by omega))
            · intro b4 b4b
              intro b5 b5b
              refine rg_i (by omega) ?_
              refine And.intro (fun c6 => ?_) (fun c6 => ?_)
              · refine hK 109 _ [] T ?_
                refine j_blx (F := fX11) tb_X11 (nn_ _) bk_X11_whichOf_109 bs_X11_whichOf_109 hz (fun K hK => ?_)
                refine hK 110 _ [vI wh] T ?_
                refine c_110 wh ?_ ?_ ?_
                · omega
                · omega
                · exact wn9_n tb9_2 w4 hmem (sb9_f n2 (by omega) (by omega))
              · refine hK 110 _ [vI nr] T ?_
                refine c_110 nr ?_ ?_ ?_
                · omega
                · omega
                · exact wn9_y hmem (sb9_e n2 (by omega) (by omega) (by omega))
          · have hke : k + n ≠ e := fun z => c2 (by rw [z]; exact he3)
            have hwr := hC.2.2.1 (k + n) (by omega) (by omega)
            refine And.intro (fun c7 => ?_) (fun c7 => ?_)
            · refine hK 77 _ [] T ?_
              refine j_blx (F := fX11) tb_X11 (nn_ _) bk_X11_whichOf_77 bs_X11_whichOf_77 hz (fun K hK => ?_)
              refine hK 78 _ [vI 0] T ?_
              refine c_78 0 ?_ ?_ ?_
              · omega
              · omega
              · exact sb9_n n2 (by omega) (show ¬ (b = 1 ∧ T 111 0 59 + n < T 111 0 60 ∧ T 200 0 (T 111 0 59 + n) = wl_266.getD (k + n).toNat 0) by omega)
            · intro b8 b8b
              refine rg_i (by omega) ?_
              intro b9 b9b
              refine And.intro (fun c10 => ?_) (fun c10 => ?_)
              · refine hK 77 _ [] T ?_
                refine j_blx (F := fX11) tb_X11 (nn_ _) bk_X11_whichOf_77 bs_X11_whichOf_77 hz (fun K hK => ?_)
                refine hK 78 _ [vI 0] T ?_
                refine c_78 0 ?_ ?_ ?_
                · omega
                · omega
                · exact sb9_n n2 (by omega) (show ¬ (b = 1 ∧ T 111 0 59 + n < T 111 0 60 ∧ T 200 0 (T 111 0 59 + n) = wl_266.getD (k + n).toNat 0) by omega)
              · intro b11 b11b
                refine rg_i (by omega) ?_
                refine ix_i (by omega) ?_
                intro b12 b12b
                refine rg_i (by omega) ?_
                refine ix_i (by omega) ?_
                intro b13 b13b
                refine And.intro (fun c14 => ?_) (fun c14 => ?_)
                · refine hK 77 _ [] T ?_
                  refine j_blx (F := fX11) tb_X11 (nn_ _) bk_X11_whichOf_77 bs_X11_whichOf_77 hz (fun K hK => ?_)
                  refine hK 78 _ [vI 0] T ?_
                  refine c_78 0 ?_ ?_ ?_
                  · omega
                  · omega
                  · exact sb9_n n2 (by omega) (show ¬ (b = 1 ∧ T 111 0 59 + n < T 111 0 60 ∧ T 200 0 (T 111 0 59 + n) = wl_266.getD (k + n).toNat 0) by omega)
                · refine hK 78 _ [vI 1] T ?_
                  refine c_78 1 ?_ ?_ ?_
                  · omega
                  · omega
                  · exact sb9_s n2 (by omega) (by omega) (show T 200 0 (T 111 0 59 + n) = wl_266.getD (k + n).toNat 0 by omega)
      refine j_blx (F := fX11) tb_X11 (nn_ _) bk_X11_whichOf_7 bs_X11_whichOf_7 hz (fun K hK => ?_)
      refine And.intro (fun c15 => ?_) (fun c15 => ?_)
      · refine hK 126 _ [] T ?_
        refine j_blx (F := fX11) tb_X11 (nn_ _) bk_X11_whichOf_126 bs_X11_whichOf_126 hz (fun K hK => ?_)
        refine (show po_X11_whichOf_e2 T T (some (vI wh)) from ?_)
        have hnr : nr = 7 := by
          rcases w1 with ⟨e1, he1⟩ | h9
          · have := (tb9_2.1 _ _ _ he1).1
            omega
          · exact h9.2
        rw [hnr] at w4
        exact ⟨rfl, _, rfl, by omega, wn9_e tb9_2 w4⟩
      · refine hK 20 [some (vR 111 0), some (vR 266 0), some (vI wh), some (vI nr), some (vI k), some (vI 0), some (vI 1)] [] T ?_
        refine c_20 _ 0 1 (Nat.le_refl _) ?_ ?_
        · omega
        · exact sb9_z (by omega)
  refine j_blx (F := fX11) tb_X11 (nn_ _) bk_X11_whichOf_0 bs_X11_whichOf_0 hz (fun K hK => ?_)
  refine hK 7 [some (vR 111 0), some (vR 266 0), some (vI (-1)), some (vI 0), some (vI 0), none, none] [] T ?_
  refine c_7 _ (-1) 0 0 (Nat.le_refl _) ?_ ?_ ?_ ?_
  · exact Or.inl ⟨_, List.mem_cons_self⟩
  · omega
  · omega
  · exact wn9_z tb9_2
-- reading a text, as a function of it
/-- one place changed -/
def u9_ (v : Int → Int) (k x : Int) : Int → Int := fun j => if j = k then x else v j
theorem u9_e {v : Int → Int} {k x : Int} : u9_ v k x k = x := if_pos rfl
theorem u9_n {v : Int → Int} {k x j : Int} (h : j ≠ k) : u9_ v k x j = v j := if_neg h
/-- a text cut off at its length -/
def cl9_ (n : Int) (b : Int → Int) : Int → Int := fun j => if 0 ≤ j ∧ j < n then b j else 0
theorem cl9_i {n j : Int} {b : Int → Int} (h0 : 0 ≤ j) (h1 : j < n) : cl9_ n b j = b j := if_pos ⟨h0, h1⟩
theorem cl9_e {n : Int} {b c : Int → Int} (h : ∀ j, 0 ≤ j → j < n → b j = c j) : cl9_ n b = cl9_ n c := funext fun j => by
  by_cases z : 0 ≤ j ∧ j < n
  · rw [cl9_i z.1 z.2, cl9_i z.1 z.2]
    exact h j z.1 z.2
  · exact (if_neg z).trans (if_neg z).symm
theorem rn9_c {n lo hi s e : Int} {b : Int → Int} (h : RN9_ b n lo hi s e) (h0 : 0 ≤ s) : RN9_ (cl9_ n b) n lo hi s e := by
  obtain ⟨h1, h2, h3, h4⟩ := h
  refine ⟨h1, h2, fun i a c => ?_, fun g => ?_⟩
  · rw [cl9_i (b := b) (show 0 ≤ i by omega) (show i < n by omega)]
    exact h3 i a c
  · rw [cl9_i (b := b) (show 0 ≤ e by omega) g]
    exact h4 g
theorem tk9_c {n a s e k : Int} {b : Int → Int} (h : TK9_ b n a s e k) (h0 : 0 ≤ a) : TK9_ (cl9_ n b) n a s e k := by
  obtain ⟨⟨h1, h2, h3, h4⟩, h5⟩ := h
  refine ⟨⟨h1, h2, fun i c d => ?_, fun g => ?_⟩, ?_⟩
  · rw [cl9_i (b := b) (show 0 ≤ i by omega) (show i < n by omega)]
    exact h3 i c d
  · rw [cl9_i (b := b) (show 0 ≤ s by omega) g]
    exact h4 g
  · by_cases z : s < n
    · rw [cl9_i (b := b) (show 0 ≤ s by omega) z]
      rcases h5 with h5 | ⟨c1, c2, c3, c4⟩ | ⟨c1, c2, c3, c4⟩ | h5
      · exact Or.inl h5
      · exact Or.inr (Or.inl ⟨c1, c2, rn9_c c3 (by omega), c4⟩)
      · exact Or.inr (Or.inr (Or.inl ⟨c1, c2, rn9_c c3 (by omega), c4⟩))
      · exact Or.inr (Or.inr (Or.inr h5))
    · rcases h5 with h5 | h5 | h5 | h5
      · exact Or.inl h5
      · exact absurd h5.1 z
      · exact absurd h5.1 z
      · exact absurd h5.1 z
/-- where a token lies -/
theorem tk9_r {n a s e k : Int} {b : Int → Int} (h : TK9_ b n a s e k) : a ≤ s ∧ s ≤ e ∧ e ≤ n ∧ (k ≠ 0 → s < e) := by
  obtain ⟨⟨h1, h2, -, -⟩, h5⟩ := h
  rcases h5 with h5 | ⟨c1, c2, ⟨c3, c4, -, c5⟩, -⟩ | ⟨c1, c2, ⟨c3, c4, -, c5⟩, -⟩ | h5
  · omega
  · refine ⟨h1, c3, c4, fun _ => ?_⟩
    rcases Int.lt_or_eq_of_le c3 with z | z
    · exact z
    · subst z
      exact absurd c2 (c5 c1)
  · refine ⟨h1, c3, c4, fun _ => ?_⟩
    rcases Int.lt_or_eq_of_le c3 with z | z
    · exact z
    · subst z
      exact absurd c2 (c5 c1)
  · omega
/-- a number's signs are digits, at most three -/
theorem tk9_d {n a s e k : Int} {b : Int → Int} (h : TK9_ b n a s e k) (hk : k = 2) : e - s ≤ 3 ∧ RP9_ b 48 57 s e := by
  obtain ⟨-, h5⟩ := h
  rcases h5 with h5 | ⟨-, -, -, h5⟩ | ⟨-, -, h3, h5⟩ | ⟨-, -, -, -, h5⟩
  · exact absurd hk (by omega)
  · exact absurd hk (by omega)
  · exact ⟨by omega, h3.2.2.1⟩
  · exact absurd hk (by omega)
theorem nv9_c {b : Int → Int} {s n : Int} : ∀ m : Nat, 0 ≤ s → s + m ≤ n → nv9_ (cl9_ n b) s m = nv9_ b s m
  | 0, _, _ => rfl
  | m + 1, h0, h1 => by
      have i := nv9_c (b := b) (s := s) (n := n) m h0 (by omega)
      have z : cl9_ n b (s + m) = b (s + m) := cl9_i (by omega) (by omega)
      show 10 * nv9_ (cl9_ n b) s m + cl9_ n b (s + m) - 48 = 10 * nv9_ b s m + b (s + m) - 48
      rw [i, z]
theorem ew9_c {w : List Int} {b : Int → Int} {s e k0 e0 n : Int} (h0 : 0 ≤ s) (h1 : e ≤ n) : EW9_ w (cl9_ n b) s e k0 e0 ↔ EW9_ w b s e k0 e0 := by
  have g : ∀ j, 0 ≤ j → j < e - s → cl9_ n b (s + j) = b (s + j) := fun j a c => cl9_i (by omega) (by omega)
  constructor
  · intro h
    exact ⟨h.1, fun j a c => (g j a c).symm.trans (h.2 j a c)⟩
  · intro h
    exact ⟨h.1, fun j a c => (g j a c).trans (h.2 j a c)⟩
theorem wd9_c {w : List Int} {ts : List (Int × Int × Int)} {b : Int → Int} {s e x n : Int} (h : WD9_ w ts b s e x) (h0 : 0 ≤ s) (h1 : e ≤ n) : WD9_ w ts (cl9_ n b) s e x := by
  rcases h with ⟨k0, e0, hm, he⟩ | ⟨hx, hn⟩
  · exact Or.inl ⟨k0, e0, hm, (ew9_c h0 h1).mpr he⟩
  · exact Or.inr ⟨hx, fun k0 m e0 hm he => hn k0 m e0 hm ((ew9_c h0 h1).mp he)⟩
/-- the next token, as a function -/
noncomputable def tkf9_ (b : Int → Int) (n a : Int) : Int × Int × Int := Classical.epsilon fun p : Int × Int × Int => TK9_ b n a p.1 p.2.1 p.2.2
theorem tkf9_e {b : Int → Int} {n a s e k : Int} (h : TK9_ b n a s e k) (h0 : 0 ≤ a) : tkf9_ (cl9_ n b) n a = (s, e, k) := by
  have g : TK9_ (cl9_ n b) n a (tkf9_ (cl9_ n b) n a).1 (tkf9_ (cl9_ n b) n a).2.1 (tkf9_ (cl9_ n b) n a).2.2 := Classical.epsilon_spec (p := fun p : Int × Int × Int => TK9_ (cl9_ n b) n a p.1 p.2.1 p.2.2) ⟨(s, e, k), tk9_c h h0⟩
  have u := tk9_u g (tk9_c h h0)
  exact Prod.ext u.1 (Prod.ext u.2.1 u.2.2)
noncomputable def wdf9_ (w : List Int) (ts : List (Int × Int × Int)) (b : Int → Int) (s e : Int) : Int := Classical.epsilon fun x : Int => WD9_ w ts b s e x
theorem wdf9_e {w : List Int} {ts : List (Int × Int × Int)} {b : Int → Int} {s e x n : Int} (hd : ds9_ w ts = true) (h : WD9_ w ts b s e x) (h0 : 0 ≤ s) (h1 : e ≤ n) : wdf9_ w ts (cl9_ n b) s e = x :=
  wd9_u hd (Classical.epsilon_spec (p := fun x : Int => WD9_ w ts (cl9_ n b) s e x) ⟨x, wd9_c h h0 h1⟩) (wd9_c h h0 h1)
abbrev Qr9_ (α : Type) : Type := Sum (Int × Int) α
def bn9_ {α β : Type} (r : Qr9_ α) (f : α → Qr9_ β) : Qr9_ β := Sum.elim Sum.inl f r
theorem bn9_l {α β : Type} {r : Qr9_ α} {f : α → Qr9_ β} {p : Int × Int} (h : r = Sum.inl p) : bn9_ r f = Sum.inl p := by
  rw [h]
  rfl
theorem bn9_r {α β : Type} {r : Qr9_ α} {f : α → Qr9_ β} {q : α} (h : r = Sum.inr q) : bn9_ r f = f q := by
  rw [h]
  rfl
/-- the word from a on: its end and its number, or the fault -/
noncomputable def wof9_ (w : List Int) (ts : List (Int × Int × Int)) (b : Int → Int) (n a : Int) : Qr9_ (Int × Int) := if (tkf9_ b n a).2.2 = 5 then Sum.inl (1, (tkf9_ b n a).1) else if (tkf9_ b n a).2.2 = 1 then (if wdf9_ w ts b (tkf9_ b n a).1 (tkf9_ b n a).2.1 = -1 then Sum.inl (3, (tkf9_ b n a).1) else Sum.inr ((tkf9_ b n a).2.1, wdf9_ w ts b (tkf9_ b n a).1 (tkf9_ b n a).2.1)) else Sum.inl (2, (tkf9_ b n a).1)
section WOF9
variable {w : List Int} {ts : List (Int × Int × Int)} {b : Int → Int} {n a s e k x : Int}
theorem wof9_1 (h : TK9_ b n a s e k) (h0 : 0 ≤ a) (hk : k = 5) : wof9_ w ts (cl9_ n b) n a = Sum.inl (1, s) := by
  unfold wof9_
  rw [tkf9_e h h0]
  exact if_pos hk
theorem wof9_2 (h : TK9_ b n a s e k) (h0 : 0 ≤ a) (hk : k ≠ 5) (hj : k ≠ 1) : wof9_ w ts (cl9_ n b) n a = Sum.inl (2, s) := by
  unfold wof9_
  rw [tkf9_e h h0]
  exact (if_neg hk).trans (if_neg hj)
theorem wof9_3 (hd : ds9_ w ts = true) (h : TK9_ b n a s e k) (h0 : 0 ≤ a) (hk : k = 1) (hw : WD9_ w ts b s e (-1)) : wof9_ w ts (cl9_ n b) n a = Sum.inl (3, s) := by
  have r := tk9_r h
  unfold wof9_
  rw [tkf9_e h h0]
  exact (if_neg (show ¬ k = 5 by omega)).trans ((if_pos hk).trans (if_pos (wdf9_e hd hw (by omega) r.2.2.1)))
theorem wof9_0 (hd : ds9_ w ts = true) (h : TK9_ b n a s e k) (h0 : 0 ≤ a) (hk : k = 1) (hw : WD9_ w ts b s e x) (hx : x ≠ -1) : wof9_ w ts (cl9_ n b) n a = Sum.inr (e, x) := by
  have r := tk9_r h
  have ew : wdf9_ w ts (cl9_ n b) s e = x := wdf9_e hd hw (by omega) r.2.2.1
  unfold wof9_
  rw [tkf9_e h h0]
  refine (if_neg (show ¬ k = 5 by omega)).trans ((if_pos hk).trans ?_)
  show (if wdf9_ w ts (cl9_ n b) s e = -1 then Sum.inl (3, s) else Sum.inr (e, wdf9_ w ts (cl9_ n b) s e)) = Sum.inr (e, x)
  rw [ew]
  exact if_neg hx
end WOF9
/-- the house's answer of a word, as it is told -/
theorem wof9_h {w : List Int} {ts : List (Int × Int × Int)} {b : Int → Int} {n a s e k x N f2 f3 g2 g3 : Int} (hd : ds9_ w ts = true) (h : TK9_ b n a s e k) (h0 : 0 ≤ a) (q : (k ≠ 1 ∧ x = -1 ∧ g2 = (if k = 5 then 1 else 2) ∧ g3 = s) ∨ (k = 1 ∧ (0 ≤ x ∧ x < N) ∧ WD9_ w ts b s e x ∧ g2 = f2 ∧ g3 = f3) ∨ (k = 1 ∧ x = -1 ∧ WD9_ w ts b s e (-1) ∧ g2 = 3 ∧ g3 = s)) : (x = -1 ∧ wof9_ w ts (cl9_ n b) n a = Sum.inl (g2, g3)) ∨ ((0 ≤ x ∧ x < N) ∧ wof9_ w ts (cl9_ n b) n a = Sum.inr (e, x) ∧ g2 = f2 ∧ g3 = f3) := by
  rcases q with ⟨q1, q2, q3, q4⟩ | ⟨q1, q2, q3, q4, q5⟩ | ⟨q1, q2, q3, q4, q5⟩
  · refine Or.inl ⟨q2, ?_⟩
    by_cases z : k = 5
    · rw [if_pos z] at q3
      rw [q3, q4]
      exact wof9_1 h h0 z
    · rw [if_neg z] at q3
      rw [q3, q4]
      exact wof9_2 h h0 z q1
  · exact Or.inr ⟨q2, wof9_0 hd h h0 q1 q3 (by omega), q4, q5⟩
  · refine Or.inl ⟨q2, ?_⟩
    rw [q4, q5]
    exact wof9_3 hd h h0 q1 q3
/-- the semicolon from a on -/
noncomputable def smf9_ (b : Int → Int) (n a : Int) : Qr9_ Int := if (tkf9_ b n a).2.2 = 5 then Sum.inl (1, (tkf9_ b n a).1) else if (tkf9_ b n a).2.2 = 3 then Sum.inr (tkf9_ b n a).2.1 else Sum.inl (2, (tkf9_ b n a).1)
section SMF9
variable {b : Int → Int} {n a s e k : Int}
theorem smf9_1 (h : TK9_ b n a s e k) (h0 : 0 ≤ a) (hk : k = 5) : smf9_ (cl9_ n b) n a = Sum.inl (1, s) := by
  unfold smf9_
  rw [tkf9_e h h0]
  exact if_pos hk
theorem smf9_2 (h : TK9_ b n a s e k) (h0 : 0 ≤ a) (hk : k ≠ 5) (hj : k ≠ 3) : smf9_ (cl9_ n b) n a = Sum.inl (2, s) := by
  unfold smf9_
  rw [tkf9_e h h0]
  exact (if_neg hk).trans (if_neg hj)
theorem smf9_0 (h : TK9_ b n a s e k) (h0 : 0 ≤ a) (hk : k = 3) : smf9_ (cl9_ n b) n a = Sum.inr e := by
  unfold smf9_
  rw [tkf9_e h h0]
  exact (if_neg (show ¬ k = 5 by omega)).trans (if_pos hk)
end SMF9
theorem smf9_h {b : Int → Int} {n a s e k x f2 f3 g2 g3 : Int} (h : TK9_ b n a s e k) (h0 : 0 ≤ a) (q : (k = 5 ∧ x = 0 ∧ g2 = 1 ∧ g3 = s) ∨ (k ≠ 5 ∧ k = 3 ∧ x = 1 ∧ g2 = f2 ∧ g3 = f3) ∨ (k ≠ 5 ∧ k ≠ 3 ∧ x = 0 ∧ g2 = 2 ∧ g3 = s)) : (x = 0 ∧ smf9_ (cl9_ n b) n a = Sum.inl (g2, g3)) ∨ (x = 1 ∧ smf9_ (cl9_ n b) n a = Sum.inr e ∧ g2 = f2 ∧ g3 = f3) := by
  rcases q with ⟨q1, q2, q3, q4⟩ | ⟨q1, q2, q3, q4, q5⟩ | ⟨q1, q2, q3, q4, q5⟩
  · refine Or.inl ⟨q2, ?_⟩
    rw [q3, q4]
    exact smf9_1 h h0 q1
  · exact Or.inr ⟨q3, smf9_0 h h0 q2, q4, q5⟩
  · refine Or.inl ⟨q3, ?_⟩
    rw [q4, q5]
    exact smf9_2 h h0 q1 q2
/-- a number from a on, within bounds -/
noncomputable def nrf9_ (b : Int → Int) (n a lo mo : Int) : Qr9_ (Int × Int) := if (tkf9_ b n a).2.2 = 5 then Sum.inl (1, (tkf9_ b n a).1) else if (tkf9_ b n a).2.2 = 2 then (if lo ≤ nv9_ b (tkf9_ b n a).1 ((tkf9_ b n a).2.1 - (tkf9_ b n a).1).toNat ∧ nv9_ b (tkf9_ b n a).1 ((tkf9_ b n a).2.1 - (tkf9_ b n a).1).toNat ≤ mo then Sum.inr ((tkf9_ b n a).2.1, nv9_ b (tkf9_ b n a).1 ((tkf9_ b n a).2.1 - (tkf9_ b n a).1).toNat) else Sum.inl (4, (tkf9_ b n a).1)) else Sum.inl (2, (tkf9_ b n a).1)
section NRF9
variable {b : Int → Int} {n a s e k lo mo v : Int}
theorem nrf9_1 (h : TK9_ b n a s e k) (h0 : 0 ≤ a) (hk : k = 5) : nrf9_ (cl9_ n b) n a lo mo = Sum.inl (1, s) := by
  unfold nrf9_
  rw [tkf9_e h h0]
  exact if_pos hk
theorem nrf9_2 (h : TK9_ b n a s e k) (h0 : 0 ≤ a) (hk : k ≠ 5) (hj : k ≠ 2) : nrf9_ (cl9_ n b) n a lo mo = Sum.inl (2, s) := by
  unfold nrf9_
  rw [tkf9_e h h0]
  exact (if_neg hk).trans (if_neg hj)
theorem nrf9_v (h : TK9_ b n a s e k) (h0 : 0 ≤ a) (hk : k = 2) (hv : v = nv9_ b s (e - s).toNat) : nrf9_ (cl9_ n b) n a lo mo = if lo ≤ v ∧ v ≤ mo then Sum.inr (e, v) else Sum.inl (4, s) := by
  have r := tk9_r h
  have ev : nv9_ (cl9_ n b) s (e - s).toNat = v := by
    rw [hv]
    exact nv9_c _ (by omega) (by omega)
  unfold nrf9_
  rw [tkf9_e h h0]
  refine (if_neg (show ¬ k = 5 by omega)).trans ((if_pos hk).trans ?_)
  show (if lo ≤ nv9_ (cl9_ n b) s (e - s).toNat ∧ nv9_ (cl9_ n b) s (e - s).toNat ≤ mo then Sum.inr (e, nv9_ (cl9_ n b) s (e - s).toNat) else Sum.inl (4, s)) = _
  rw [ev]
theorem nrf9_4 (h : TK9_ b n a s e k) (h0 : 0 ≤ a) (hk : k = 2) (hv : v = nv9_ b s (e - s).toNat) (hn : ¬ (lo ≤ v ∧ v ≤ mo)) : nrf9_ (cl9_ n b) n a lo mo = Sum.inl (4, s) := (nrf9_v h h0 hk hv).trans (if_neg hn)
theorem nrf9_0 (h : TK9_ b n a s e k) (h0 : 0 ≤ a) (hk : k = 2) (hv : v = nv9_ b s (e - s).toNat) (hn : lo ≤ v ∧ v ≤ mo) : nrf9_ (cl9_ n b) n a lo mo = Sum.inr (e, v) := (nrf9_v h h0 hk hv).trans (if_pos hn)
end NRF9
theorem nrf9_h {b : Int → Int} {n a s e k x lo mo f2 f3 g2 g3 : Int} (h : TK9_ b n a s e k) (h0 : 0 ≤ a) (hx : x = 0) (q : (k = 5 ∧ x = 0 ∧ g2 = 1 ∧ g3 = s) ∨ (k ≠ 5 ∧ k = 2 ∧ x = 1 ∧ g2 = f2 ∧ g3 = f3) ∨ (k ≠ 5 ∧ k ≠ 2 ∧ x = 0 ∧ g2 = 2 ∧ g3 = s)) : nrf9_ (cl9_ n b) n a lo mo = Sum.inl (g2, g3) := by
  rcases q with ⟨q1, q2, q3, q4⟩ | ⟨q1, q2, q3, q4, q5⟩ | ⟨q1, q2, q3, q4, q5⟩
  · rw [q3, q4]
    exact nrf9_1 h h0 q1
  · omega
  · rw [q4, q5]
    exact nrf9_2 h h0 q1 q2
/-- the three points -/
noncomputable def pnf9_ (b : Int → Int) (n a : Int) : Qr9_ (Int × Int × Int × Int) := bn9_ (nrf9_ b n a 0 9) fun q => bn9_ (nrf9_ b n q.1 0 q.2) fun z => bn9_ (nrf9_ b n z.1 0 z.2) fun y => Sum.inr (y.1, q.2, z.2, y.2)
/-- the keys of an order, and the semicolon behind them -/
noncomputable def orf9_ : Nat → (Int → Int) → Int → Int → (Int → Int) → Int → (Int → Int) → Qr9_ (Int × (Int → Int))
  | 0, _, _, _, _, _, _ => Sum.inl (0, 0)
  | f + 1, b, n, a, t, c, v => bn9_ (wof9_ wl_266 wt_266 b n a) fun q => if t q.2 = 0 then (if (tkf9_ b n q.1).2.2 = 4 then orf9_ f b n (tkf9_ b n q.1).2.1 (u9_ t q.2 1) (c + 1) (u9_ (u9_ v (16 + c) q.2) 4 (c + 1)) else bn9_ (smf9_ b n q.1) fun e => Sum.inr (e, u9_ (u9_ v (16 + c) q.2) 4 (c + 1))) else Sum.inl (5, (tkf9_ b n a).1)
section ORF9
variable {f : Nat} {b : Int → Int} {n a c e x s s' e' k' k : Int} {t v : Int → Int} {p : Int × Int}
theorem orf9_w (h : wof9_ wl_266 wt_266 (cl9_ n b) n a = Sum.inl p) : orf9_ (f + 1) (cl9_ n b) n a t c v = Sum.inl p := bn9_l h
theorem orf9_5 (h : wof9_ wl_266 wt_266 (cl9_ n b) n a = Sum.inr (e, x)) (ht : TK9_ b n a s e' k) (h0 : 0 ≤ a) (hx : t x ≠ 0) : orf9_ (f + 1) (cl9_ n b) n a t c v = Sum.inl (5, s) := by
  refine (bn9_r h).trans ((if_neg hx).trans ?_)
  rw [tkf9_e ht h0]
theorem orf9_k (h : wof9_ wl_266 wt_266 (cl9_ n b) n a = Sum.inr (e, x)) (hx : t x = 0) (ht : TK9_ b n e s' e' k') (h0 : 0 ≤ e) (hk : k' = 4) : orf9_ (f + 1) (cl9_ n b) n a t c v = orf9_ f (cl9_ n b) n e' (u9_ t x 1) (c + 1) (u9_ (u9_ v (16 + c) x) 4 (c + 1)) := by
  refine (bn9_r h).trans ((if_pos hx).trans ?_)
  show (if (tkf9_ (cl9_ n b) n e).2.2 = 4 then orf9_ f (cl9_ n b) n (tkf9_ (cl9_ n b) n e).2.1 (u9_ t x 1) (c + 1) (u9_ (u9_ v (16 + c) x) 4 (c + 1)) else _) = _
  rw [tkf9_e ht h0]
  exact if_pos hk
theorem orf9_s (h : wof9_ wl_266 wt_266 (cl9_ n b) n a = Sum.inr (e, x)) (hx : t x = 0) (ht : TK9_ b n e s' e' k') (h0 : 0 ≤ e) (hk : k' ≠ 4) : orf9_ (f + 1) (cl9_ n b) n a t c v = bn9_ (smf9_ (cl9_ n b) n e) fun z => Sum.inr (z, u9_ (u9_ v (16 + c) x) 4 (c + 1)) := by
  refine (bn9_r h).trans ((if_pos hx).trans ?_)
  show (if (tkf9_ (cl9_ n b) n e).2.2 = 4 then _ else bn9_ (smf9_ (cl9_ n b) n e) fun z => Sum.inr (z, u9_ (u9_ v (16 + c) x) 4 (c + 1))) = _
  rw [tkf9_e ht h0]
  exact if_neg hk
end ORF9
/-- the rules before an order is read -/
def ov9_ (v : Int → Int) : Int → Int := fun j => if j = 4 then 0 else if 16 ≤ j then -1 else v j
/-- what stands behind the first word of a statement, but an order -/
noncomputable def bdf9_ (b : Int → Int) (n a x : Int) (v : Int → Int) : Qr9_ (Int × (Int → Int)) := if x = 0 then bn9_ (wof9_ wl_265 wt_265 b n a) fun q => Sum.inr (q.1, u9_ v 0 q.2) else if x = 1 then bn9_ (pnf9_ b n a) fun q => Sum.inr (q.1, u9_ (u9_ (u9_ v 1 q.2.1) 2 q.2.2.1) 3 q.2.2.2) else if x = 3 then Sum.inr (a, u9_ v 5 1) else bn9_ (nrf9_ b n a ((sa_ 1).getD (x + 2).toNat 0) ((sa_ 2).getD (x + 2).toNat 0)) fun q => Sum.inr (q.1, u9_ v (x + 2) q.2)
/-- a statement -/
noncomputable def stf9_ (b : Int → Int) (n a : Int) (t v : Int → Int) : Qr9_ (Int × (Int → Int) × (Int → Int)) := bn9_ (wof9_ wl_264 wt_264 b n a) fun q => if t q.2 = 0 then (if q.2 = 2 then bn9_ (orf9_ 9 b n q.1 (fun _ => 0) 0 (ov9_ v)) fun z => Sum.inr (z.1, u9_ t q.2 1, z.2) else bn9_ (bdf9_ b n q.1 q.2 v) fun z => bn9_ (smf9_ b n z.1) fun e => Sum.inr (e, u9_ t q.2 1, z.2)) else Sum.inl (5, (tkf9_ b n a).1)
section STF9
variable {b : Int → Int} {n a e x s e' k : Int} {t v : Int → Int} {p : Int × Int}
theorem stf9_w (h : wof9_ wl_264 wt_264 (cl9_ n b) n a = Sum.inl p) : stf9_ (cl9_ n b) n a t v = Sum.inl p := bn9_l h
theorem stf9_5 (h : wof9_ wl_264 wt_264 (cl9_ n b) n a = Sum.inr (e, x)) (ht : TK9_ b n a s e' k) (h0 : 0 ≤ a) (hx : t x ≠ 0) : stf9_ (cl9_ n b) n a t v = Sum.inl (5, s) := by
  refine (bn9_r h).trans ((if_neg hx).trans ?_)
  rw [tkf9_e ht h0]
theorem stf9_o (h : wof9_ wl_264 wt_264 (cl9_ n b) n a = Sum.inr (e, x)) (hx : t x = 0) (h2 : x = 2) : stf9_ (cl9_ n b) n a t v = bn9_ (orf9_ 9 (cl9_ n b) n e (fun _ => 0) 0 (ov9_ v)) fun z => Sum.inr (z.1, u9_ t x 1, z.2) := (bn9_r h).trans ((if_pos hx).trans (if_pos h2))
theorem stf9_b (h : wof9_ wl_264 wt_264 (cl9_ n b) n a = Sum.inr (e, x)) (hx : t x = 0) (h2 : x ≠ 2) : stf9_ (cl9_ n b) n a t v = bn9_ (bdf9_ (cl9_ n b) n e x v) fun z => bn9_ (smf9_ (cl9_ n b) n z.1) fun e => Sum.inr (e, u9_ t x 1, z.2) := (bn9_r h).trans ((if_pos hx).trans (if_neg h2))
theorem bdf9_0 (hx : x = 0) : bdf9_ b n a x v = bn9_ (wof9_ wl_265 wt_265 b n a) fun q => Sum.inr (q.1, u9_ v 0 q.2) := if_pos hx
theorem bdf9_1 (hx : x = 1) : bdf9_ b n a x v = bn9_ (pnf9_ b n a) fun q => Sum.inr (q.1, u9_ (u9_ (u9_ v 1 q.2.1) 2 q.2.2.1) 3 q.2.2.2) := (if_neg (by omega)).trans (if_pos hx)
theorem bdf9_3 (hx : x = 3) : bdf9_ b n a x v = Sum.inr (a, u9_ v 5 1) := (if_neg (by omega)).trans ((if_neg (by omega)).trans (if_pos hx))
theorem bdf9_4 (hx : 4 ≤ x) : bdf9_ b n a x v = bn9_ (nrf9_ b n a ((sa_ 1).getD (x + 2).toNat 0) ((sa_ 2).getD (x + 2).toNat 0)) fun q => Sum.inr (q.1, u9_ v (x + 2) q.2) := (if_neg (by omega)).trans ((if_neg (by omega)).trans (if_neg (by omega)))
end STF9
/-- the whole text -/
noncomputable def rdf9_ : Nat → (Int → Int) → Int → Int → (Int → Int) → (Int → Int) → Qr9_ (Int → Int)
  | 0, _, _, _, _, _ => Sum.inl (0, 0)
  | f + 1, b, n, a, t, v => if (tkf9_ b n a).2.2 = 0 then Sum.inr v else bn9_ (stf9_ b n a t v) fun z => rdf9_ f b n z.1 z.2.1 z.2.2
section RDF9
variable {f : Nat} {b : Int → Int} {n a s e k : Int} {t v : Int → Int}
theorem rdf9_z (h : TK9_ b n a s e k) (h0 : 0 ≤ a) (hk : k = 0) : rdf9_ (f + 1) (cl9_ n b) n a t v = Sum.inr v := by
  show (if (tkf9_ (cl9_ n b) n a).2.2 = 0 then Sum.inr v else _) = _
  rw [tkf9_e h h0]
  exact if_pos hk
theorem rdf9_s (h : TK9_ b n a s e k) (h0 : 0 ≤ a) (hk : k ≠ 0) : rdf9_ (f + 1) (cl9_ n b) n a t v = bn9_ (stf9_ (cl9_ n b) n a t v) fun z => rdf9_ f (cl9_ n b) n z.1 z.2.1 z.2.2 := by
  show (if (tkf9_ (cl9_ n b) n a).2.2 = 0 then _ else bn9_ (stf9_ (cl9_ n b) n a t v) fun z => rdf9_ f (cl9_ n b) n z.1 z.2.1 z.2.2) = _
  rw [tkf9_e h h0]
  exact if_neg hk
end RDF9
/-- the rules at first -/
def dv9_ : Int → Int := fun j => if j = 16 then 0 else if j = 17 then 1 else if 16 ≤ j then -1 else (sa_ 0).getD j.toNat 0
-- bits that say what was told
def BT9_ (n : Int) (t : Int → Int) : Prop := (0 ≤ n ∧ n < 16384) ∧ ∀ s, 0 ≤ s → s < 14 → an_ (sr_ n s) 1 = t s
theorem sl9_n : ∀ k : Nat, k < 14 → sl_ 1 (k : Int) = ((2 ^ k : Nat) : Int) := by decide +kernel
theorem bt9_0 : BT9_ 0 (fun _ => 0) := by
  refine ⟨⟨by decide, by decide⟩, fun s h0 h1 => ?_⟩
  have e : Nat.testBit 0 s.toNat = false := Nat.zero_testBit _
  rw [bt_n ⟨by decide, by decide⟩ ⟨h0, by omega⟩]
  show (if Nat.testBit 0 s.toNat then (1 : Int) else 0) = 0
  exact if_neg (fun z => by rw [e] at z; cases z)
theorem bt9_u {n s : Int} {t : Int → Int} (h : BT9_ n t) (h0 : 0 ≤ s) (h1 : s < 14) : BT9_ (or_ n (sl_ 1 s)) (u9_ t s 1) := by
  obtain ⟨⟨a, b⟩, c⟩ := h
  obtain ⟨p, hp⟩ : ∃ p : Nat, p = 2 ^ s.toNat := ⟨_, rfl⟩
  have l1 : p < 2 ^ 14 := by
    rw [hp]
    exact Nat.pow_lt_pow_right (by omega) (by omega)
  have e1 : sl_ 1 s = (p : Int) := by
    have z := sl9_n s.toNat (by omega)
    rw [show ((s.toNat : Nat) : Int) = s by omega, ← hp] at z
    exact z
  have e2 : or_ n (sl_ 1 s) = ((n.toNat ||| p : Nat) : Int) := by
    rw [e1, or_n ⟨a, by omega⟩ ⟨by omega, by omega⟩, show ((p : Int)).toNat = p by omega]
  have l2 : n.toNat ||| p < 2 ^ 14 := Nat.or_lt_two_pow (by omega) l1
  rw [e2]
  refine ⟨⟨by omega, by omega⟩, fun j g0 g1 => ?_⟩
  have cj := c j g0 g1
  rw [bt_n ⟨a, by omega⟩ ⟨g0, by omega⟩] at cj
  rw [bt_n ⟨by omega, by omega⟩ ⟨g0, by omega⟩, show (((n.toNat ||| p : Nat) : Int)).toNat = n.toNat ||| p by omega]
  by_cases z : j = s
  · have e : (n.toNat ||| p).testBit j.toNat = true := by rw [Nat.testBit_or, hp, z, Nat.testBit_two_pow_self, Bool.or_true]
    show (if (n.toNat ||| p).testBit j.toNat then (1 : Int) else 0) = if j = s then 1 else t j
    rw [if_pos e, if_pos z]
  · have e : (n.toNat ||| p).testBit j.toNat = n.toNat.testBit j.toNat := by rw [Nat.testBit_or, hp, Nat.testBit_two_pow_of_ne (by omega), Bool.or_false]
    show (if (n.toNat ||| p).testBit j.toNat then (1 : Int) else 0) = if j = s then 1 else t j
    rw [if_neg z, e]
    exact cj
-- the rules as both sides keep them
def VH9_ (T : Zt) (v : Int → Int) : Prop := (∀ j, 0 ≤ j → j < 16 → T 504 0 j = v j) ∧ ∀ k, 0 ≤ k → k < v 4 → T 505 0 k = v (16 + k)
theorem VH9_f {ws : List (Nat × List Int)} {T T' : Zt} {v : Int → Int} (h : VH9_ T v) (f : fr_ ws T T') (w1 : ∀ j, fw_ ws 504 j = false) (w2 : ∀ j, fw_ ws 505 j = false) : VH9_ T' v := ⟨fun j a b => (f 504 0 j (w1 j)).trans (h.1 j a b), fun k a b => (f 505 0 k (w2 k)).trans (h.2 k a b)⟩
theorem VH9_u {T T' : Zt} {v : Int → Int} {s x : Int} (h : VH9_ T v) (ho : ∀ j, j ≠ s → T' 504 0 j = T 504 0 j) (hk : ∀ j, T' 505 0 j = T 505 0 j) (hx : T' 504 0 s = x) (h4 : s ≠ 4) (h16 : s < 16) : VH9_ T' (u9_ v s x) := by
  refine ⟨fun j a b => ?_, fun k a b => ?_⟩
  · by_cases z : j = s
    · rw [z, u9_e]
      exact hx
    · rw [u9_n z, ho j z]
      exact h.1 j a b
  · rw [u9_n (fun q => h4 q.symm)] at b
    rw [u9_n (show 16 + k ≠ s by omega), hk k]
    exact h.2 k a b
theorem ov9_i {v : Int → Int} {j : Int} (h : j ≠ 4) (g : j < 16) : ov9_ v j = v j := by
  unfold ov9_
  rw [if_neg h, if_neg (show ¬ 16 ≤ j by omega)]
theorem ov9_k {v : Int → Int} {j : Int} (g : 16 ≤ j) : ov9_ v j = -1 := by
  unfold ov9_
  rw [if_neg (show ¬ j = 4 by omega), if_pos g]
theorem ov9_4 {v : Int → Int} : ov9_ v 4 = 0 := if_pos rfl
/-- the house's rules while k keys of an order are read -/
def VO9_ (T : Zt) (v : Int → Int) (k : Int) : Prop := (∀ j, 0 ≤ j → j < 16 → j ≠ 4 → T 504 0 j = v j) ∧ (0 < k → T 504 0 4 = k) ∧ v 4 = k ∧ ∀ i, 0 ≤ i → i < k → T 505 0 i = v (16 + i)
theorem vo9_0 {T : Zt} {v : Int → Int} (h : VH9_ T v) : VO9_ T (ov9_ v) 0 := by
  refine ⟨fun j a b c => ?_, fun z => absurd z (by decide), ov9_4, fun i a b => absurd a (by omega)⟩
  rw [ov9_i c b]
  exact h.1 j a b
theorem VO9_f {ws : List (Nat × List Int)} {T T' : Zt} {v : Int → Int} {k : Int} (h : VO9_ T v k) (f : fr_ ws T T') (w1 : ∀ j, fw_ ws 504 j = false) (w2 : ∀ j, fw_ ws 505 j = false) : VO9_ T' v k := ⟨fun j a b c => (f 504 0 j (w1 j)).trans (h.1 j a b c), fun z => (f 504 0 4 (w1 4)).trans (h.2.1 z), h.2.2.1, fun i a b => (f 505 0 i (w2 i)).trans (h.2.2.2 i a b)⟩
theorem vo9_s {T T' : Zt} {v : Int → Int} {k x : Int} (h : VO9_ T v k) (hk : 0 ≤ k) (o1 : ∀ j, j ≠ 4 → T' 504 0 j = T 504 0 j) (o2 : T' 504 0 4 = k + 1) (o3 : ∀ j, j ≠ k → T' 505 0 j = T 505 0 j) (o4 : T' 505 0 k = x) : VO9_ T' (u9_ (u9_ v (16 + k) x) 4 (k + 1)) (k + 1) := by
  obtain ⟨h1, h2, h3, h4⟩ := h
  refine ⟨fun j a b c => ?_, fun _ => o2, u9_e, fun i a b => ?_⟩
  · rw [u9_n c, u9_n (show j ≠ 16 + k by omega), o1 j c]
    exact h1 j a b c
  · rw [u9_n (show 16 + i ≠ 4 by omega)]
    by_cases z : i = k
    · rw [z, u9_e]
      exact o4
    · rw [u9_n (show 16 + i ≠ 16 + k by omega), o3 i z]
      exact h4 i a (by omega)
theorem vo9_e {T : Zt} {v : Int → Int} {k : Int} (h : VO9_ T v k) (hk : 0 < k) : VH9_ T v := by
  obtain ⟨h1, h2, h3, h4⟩ := h
  refine ⟨fun j a b => ?_, fun i a b => h4 i a (by omega)⟩
  by_cases z : j = 4
  · rw [z, h3]
    exact h2 hk
  · exact h1 j a b z
def VR9_ (T : Zt) (v : Int → Int) : Prop := ∀ j, 0 ≤ j → j < 23 → T 204 0 j = v j
theorem VR9_f {ws : List (Nat × List Int)} {T T' : Zt} {v : Int → Int} (h : VR9_ T v) (f : fr_ ws T T') (w : ∀ j, fw_ ws 204 j = false) : VR9_ T' v := fun j a b => (f 204 0 j (w j)).trans (h j a b)
theorem VR9_u {T T' : Zt} {v : Int → Int} {s x : Int} (h : VR9_ T v) (ho : ∀ j, j ≠ s → T' 204 0 j = T 204 0 j) (hx : T' 204 0 s = x) : VR9_ T' (u9_ v s x) := fun j a b => by
  by_cases z : j = s
  · rw [z, u9_e]
    exact hx
  · rw [u9_n z, ho j z]
    exact h j a b
/-- c of the seven keys are told -/
def KS9_ (t : Int → Int) (c : Int) : Prop := (∀ j, 0 ≤ j → j < 7 → t j = 0 ∨ t j = 1) ∧ t 0 + t 1 + t 2 + t 3 + t 4 + t 5 + t 6 = c
theorem ks9_0 : KS9_ (fun _ => 0) 0 := ⟨fun _ _ _ => Or.inl rfl, rfl⟩
theorem ks9_b {t : Int → Int} {c : Int} (h : KS9_ t c) : 0 ≤ c ∧ c ≤ 7 := by
  have a0 := h.1 0 (by omega) (by omega)
  have a1 := h.1 1 (by omega) (by omega)
  have a2 := h.1 2 (by omega) (by omega)
  have a3 := h.1 3 (by omega) (by omega)
  have a4 := h.1 4 (by omega) (by omega)
  have a5 := h.1 5 (by omega) (by omega)
  have a6 := h.1 6 (by omega) (by omega)
  have e := h.2
  omega
theorem ks9_7 {t : Int → Int} {c x : Int} (h : KS9_ t c) (hc : 7 ≤ c) (h0 : 0 ≤ x) (h1 : x < 7) : t x ≠ 0 := by
  have a0 := h.1 0 (by omega) (by omega)
  have a1 := h.1 1 (by omega) (by omega)
  have a2 := h.1 2 (by omega) (by omega)
  have a3 := h.1 3 (by omega) (by omega)
  have a4 := h.1 4 (by omega) (by omega)
  have a5 := h.1 5 (by omega) (by omega)
  have a6 := h.1 6 (by omega) (by omega)
  have e := h.2
  rcases (by omega : x = 0 ∨ x = 1 ∨ x = 2 ∨ x = 3 ∨ x = 4 ∨ x = 5 ∨ x = 6) with rfl | rfl | rfl | rfl | rfl | rfl | rfl <;> omega
theorem ks9_s {t : Int → Int} {c x : Int} (h : KS9_ t c) (h0 : 0 ≤ x) (h1 : x < 7) (hx : t x = 0) : KS9_ (u9_ t x 1) (c + 1) := by
  have d : ∀ j, (j = x → u9_ t x 1 j = 1) ∧ (j ≠ x → u9_ t x 1 j = t j) := fun j => ⟨fun z => by rw [z, u9_e], fun z => u9_n z⟩
  refine ⟨fun j a b => ?_, ?_⟩
  · by_cases z : j = x
    · exact Or.inr ((d j).1 z)
    · rw [(d j).2 z]
      exact h.1 j a b
  · have e := h.2
    have d0 := d 0
    have d1 := d 1
    have d2 := d 2
    have d3 := d 3
    have d4 := d 4
    have d5 := d 5
    have d6 := d 6
    clear d
    rcases (by omega : x = 0 ∨ x = 1 ∨ x = 2 ∨ x = 3 ∨ x = 4 ∨ x = 5 ∨ x = 6) with rfl | rfl | rfl | rfl | rfl | rfl | rfl <;> omega
-- readRule, readPoints, readSport of the house
theorem bk_X5_readRule_e_22 : ck_ fX5 (some .boolean) cX5_readRule 22 [.iload 4, .aload 0, .tableswitch 0 5 9 #[], .if_icmp .ge 53, .iload 3, .iconst 10, .imul, .aload 0, .tableswitch 0 5 0 #[], .iload 4, .iaload, .iadd, .iconst 48, .isub, .istore 3, .iinc 4 1, .goto 22] 53 = true := qck_r (nn_ _) (by decide +kernel)
theorem bs_X5_readRule_e_22 {P : Zt → Option Zv → Prop} (K : Int → Zl → List Zv → Zt → Prop) : sx_ K P [.iload 4, .aload 0, .tableswitch 0 5 9 #[], .if_icmp .ge 53, .iload 3, .iconst 10, .imul, .aload 0, .tableswitch 0 5 0 #[], .iload 4, .iaload, .iadd, .iconst 48, .isub, .istore 3, .iinc 4 1, .goto 22] 53 = x_iload 4 (x_aload 0 (x_g0 105 9 0 400 (x_if_icmp .ge 53 K (x_iload 3 (x_iconst 10 (x_imul (x_aload 0 (x_g1 105 500 (x_iload 4 (x_iaload (x_iadd (x_iconst 48 (x_isub (x_istore 3 (x_iinc 4 1 (x_goto 22 K)))))))))))))))) := ((xe_iload 4).trans (congrArg (x_iload 4) ((xe_aload 0).trans (congrArg (x_aload 0) ((xe_g0 (kk := 105) rfl tl_5_9).trans (congrArg (x_g0 105 9 0 400) ((xe_if_icmp .ge 53).trans (congrArg (x_if_icmp .ge 53 K) ((xe_iload 3).trans (congrArg (x_iload 3) ((xe_iconst 10).trans (congrArg (x_iconst 10) ((xe_imul).trans (congrArg (x_imul) ((xe_aload 0).trans (congrArg (x_aload 0) ((xe_g1 (kk := 105) rfl tl_5_0).trans (congrArg (x_g1 105 500) ((xe_iload 4).trans (congrArg (x_iload 4) ((xe_iaload).trans (congrArg (x_iaload) ((xe_iadd).trans (congrArg (x_iadd) ((xe_iconst 48).trans (congrArg (x_iconst 48) ((xe_isub).trans (congrArg (x_isub) ((xe_istore 3).trans (congrArg (x_istore 3) ((xe_iinc 4 1).trans (congrArg (x_iinc 4 1) (xe_goto 22)))))))))))))))))))))))))))))))))
theorem bk_X5_readRule_e_53 : ck_ fX5 (some .boolean) cX5_readRule 53 [.iload 3] 54 = true := qck_r (nn_ _) (by decide +kernel)
theorem bs_X5_readRule_e_53 {P : Zt → Option Zv → Prop} (K : Int → Zl → List Zv → Zt → Prop) : sx_ K P [.iload 3] 54 = x_iload 3 (K 54) := ((xe_iload 3).trans (congrArg (x_iload 3) xe_nil))
theorem bk_X5_readRule_e_57 : ck_ fX5 (some .boolean) cX5_readRule 57 [.iload 1] 58 = true := qck_r (nn_ _) (by decide +kernel)
theorem bs_X5_readRule_e_57 {P : Zt → Option Zv → Prop} (K : Int → Zl → List Zv → Zt → Prop) : sx_ K P [.iload 1] 58 = x_iload 1 (K 58) := ((xe_iload 1).trans (congrArg (x_iload 1) xe_nil))
theorem bk_X5_readRule_e_59 : ck_ fX5 (some .boolean) cX5_readRule 59 [.if_icmp .lt 67, .iload 3, .iload 2, .if_icmp .le 73, .aload 0, .iconst 4] 69 = true := qck_r (nn_ _) (by decide +kernel)
theorem bs_X5_readRule_e_59 {P : Zt → Option Zv → Prop} (K : Int → Zl → List Zv → Zt → Prop) : sx_ K P [.if_icmp .lt 67, .iload 3, .iload 2, .if_icmp .le 73, .aload 0, .iconst 4] 69 = x_if_icmp .lt 67 K (x_iload 3 (x_iload 2 (x_if_icmp .le 73 K (x_aload 0 (x_iconst 4 (K 69)))))) := ((xe_if_icmp .lt 67).trans (congrArg (x_if_icmp .lt 67 K) ((xe_iload 3).trans (congrArg (x_iload 3) ((xe_iload 2).trans (congrArg (x_iload 2) ((xe_if_icmp .le 73).trans (congrArg (x_if_icmp .le 73 K) ((xe_aload 0).trans (congrArg (x_aload 0) ((xe_iconst 4).trans (congrArg (x_iconst 4) xe_nil))))))))))))
theorem bk_X5_readRule_e_67 : ck_ fX5 (some .boolean) cX5_readRule 67 [.aload 0, .iconst 4] 69 = true := qck_r (nn_ _) (by decide +kernel)
theorem bs_X5_readRule_e_67 {P : Zt → Option Zv → Prop} (K : Int → Zl → List Zv → Zt → Prop) : sx_ K P [.aload 0, .iconst 4] 69 = x_aload 0 (x_iconst 4 (K 69)) := ((xe_aload 0).trans (congrArg (x_aload 0) ((xe_iconst 4).trans (congrArg (x_iconst 4) xe_nil))))
theorem bk_X5_readRule_e_72 : ck_ fX5 (some .boolean) cX5_readRule 72 [.ireturn] 73 = true := qck_r (nn_ _) (by decide +kernel)
theorem bs_X5_readRule_e_72 {P : Zt → Option Zv → Prop} (K : Int → Zl → List Zv → Zt → Prop) : sx_ K P [.ireturn] 73 = x_ireturn P := (xe_ireturn)
theorem bk_X5_readRule_e_73 : ck_ fX5 (some .boolean) cX5_readRule 73 [.aload 0, .tableswitch 0 5 4 #[], .iload 1, .iload 3, .iastore, .iconst 1, .ireturn] 82 = true := qck_r (nn_ _) (by decide +kernel)
theorem bs_X5_readRule_e_73 {P : Zt → Option Zv → Prop} (K : Int → Zl → List Zv → Zt → Prop) : sx_ K P [.aload 0, .tableswitch 0 5 4 #[], .iload 1, .iload 3, .iastore, .iconst 1, .ireturn] 82 = x_aload 0 (x_g1 105 504 (x_iload 1 (x_iload 3 (x_iastore (x_iconst 1 (x_ireturn P)))))) := ((xe_aload 0).trans (congrArg (x_aload 0) ((xe_g1 (kk := 105) rfl tl_5_4).trans (congrArg (x_g1 105 504) ((xe_iload 1).trans (congrArg (x_iload 1) ((xe_iload 3).trans (congrArg (x_iload 3) ((xe_iastore).trans (congrArg (x_iastore) ((xe_iconst 1).trans (congrArg (x_iconst 1) (xe_ireturn)))))))))))))
theorem bk_X5_readRule_e_0 : ck_ fX5 (some .boolean) cX5_readRule 0 [.aload 0] 1 = true := qck_r (nn_ _) (by decide +kernel)
theorem bs_X5_readRule_e_0 {P : Zt → Option Zv → Prop} (K : Int → Zl → List Zv → Zt → Prop) : sx_ K P [.aload 0] 1 = x_aload 0 (K 1) := ((xe_aload 0).trans (congrArg (x_aload 0) xe_nil))
theorem bk_X5_readRule_e_4 : ck_ fX5 (some .boolean) cX5_readRule 4 [.aload 0, .iconst 2] 6 = true := qck_r (nn_ _) (by decide +kernel)
theorem bs_X5_readRule_e_4 {P : Zt → Option Zv → Prop} (K : Int → Zl → List Zv → Zt → Prop) : sx_ K P [.aload 0, .iconst 2] 6 = x_aload 0 (x_iconst 2 (K 6)) := ((xe_aload 0).trans (congrArg (x_aload 0) ((xe_iconst 2).trans (congrArg (x_iconst 2) xe_nil))))
theorem bk_X5_readRule_e_9 : ck_ fX5 (some .boolean) cX5_readRule 9 [.ifCond .ne 14, .iconst 0, .ireturn] 14 = true := qck_r (nn_ _) (by decide +kernel)
theorem bs_X5_readRule_e_9 {P : Zt → Option Zv → Prop} (K : Int → Zl → List Zv → Zt → Prop) : sx_ K P [.ifCond .ne 14, .iconst 0, .ireturn] 14 = x_ifCond .ne 14 K (x_iconst 0 (x_ireturn P)) := ((xe_ifCond .ne 14).trans (congrArg (x_ifCond .ne 14 K) ((xe_iconst 0).trans (congrArg (x_iconst 0) (xe_ireturn)))))
theorem bk_X5_readRule_e_14 : ck_ fX5 (some .boolean) cX5_readRule 14 [.iconst 0, .istore 3, .aload 0, .tableswitch 0 5 8 #[], .istore 4] 22 = true := qck_r (nn_ _) (by decide +kernel)
theorem bs_X5_readRule_e_14 {P : Zt → Option Zv → Prop} (K : Int → Zl → List Zv → Zt → Prop) : sx_ K P [.iconst 0, .istore 3, .aload 0, .tableswitch 0 5 8 #[], .istore 4] 22 = x_iconst 0 (x_istore 3 (x_aload 0 (x_g0 105 8 0 400 (x_istore 4 (K 22))))) := ((xe_iconst 0).trans (congrArg (x_iconst 0) ((xe_istore 3).trans (congrArg (x_istore 3) ((xe_aload 0).trans (congrArg (x_aload 0) ((xe_g0 (kk := 105) rfl tl_5_8).trans (congrArg (x_g0 105 8 0 400) ((xe_istore 4).trans (congrArg (x_istore 4) xe_nil))))))))))
abbrev po_X5_readRule_e (T : Zt) (s m : Int) : Zt → Option Zv → Prop := fun T' r => ∃ x : Int, r = some (vI x) ∧ fr_ [(105, [7, 8, 9, 2, 3]), (504, [])] T T' ∧ (((x = 0 ∧ nrf9_ (cl9_ (T 105 0 1) (fun j => T 500 0 j)) (T 105 0 1) (T 105 0 9) ((sa_ 1).getD s.toNat 0) m = Sum.inl (T' 105 0 2, T' 105 0 3)) ∨ (x = 1 ∧ nrf9_ (cl9_ (T 105 0 1) (fun j => T 500 0 j)) (T 105 0 1) (T 105 0 9) ((sa_ 1).getD s.toNat 0) m = Sum.inr (T' 105 0 9, T' 504 0 s) ∧ T' 105 0 2 = T 105 0 2 ∧ T' 105 0 3 = T 105 0 3 ∧ T 105 0 9 ≤ T' 105 0 9 ∧ T' 105 0 9 ≤ T 105 0 1)) ∧ ∀ j, j ≠ s → T' 504 0 j = T 504 0 j)
set_option maxHeartbeats 4000000 in
theorem ct_X5_readRule_e {T : Zt} {s m : Int} (hs : 0 ≤ s ∧ s < 16) (h9 : T 105 0 9 ≤ T 105 0 1) : Ct_ yX5_readRule zX5_readRule T [vR 105 0, vI s, vI m] (po_X5_readRule_e T s m) := by
  refine ct_of pn_5 rfl rfl (Nat.le_of_ble_eq_true rfl) (fun hT hav => ?_)
  have hr_s : -2147483648 ≤ s ∧ s ≤ 2147483647 := hav (vI s) (List.mem_cons_of_mem _ List.mem_cons_self)
  have hr_m : -2147483648 ≤ m ∧ m ≤ 2147483647 := hav (vI m) (List.mem_cons_of_mem _ (List.mem_cons_of_mem _ List.mem_cons_self))
  have hz : zX5_readRule.2.2.2.1 = some .boolean → ∀ (T' : Zt) (x : Int), po_X5_readRule_e T s m T' (some (vI x)) → 0 ≤ x ∧ x ≤ 1 := fun _ T' x h => by obtain ⟨y, e, -, hy, -⟩ := h; cases e; omega
  have hln : 0 ≤ T 105 0 1 ∧ T 105 0 1 ≤ 400 := bd_f hT 105 1 tl_5_1 0
  have hte : 0 ≤ T 105 0 9 ∧ T 105 0 9 ≤ 400 := bd_f hT 105 9 tl_5_9 0
  have hb1 := sa_b 1 (by decide) s.toNat (by omega)
  show J_ zX5_readRule T (po_X5_readRule_e T s m) 0 0 0 [some (vR 105 0), some (vI s), some (vI m), none, none] [] T
  have c_22 : ∀ (nn : Nat) (n : Int) (k : Int) (T1 : Zt), ((T1 105 0 9 - k).toNat) ≤ nn → (fr_ [(105, [7, 8, 9, 2, 3])] T T1) → (T1 105 0 8 ≤ k ∧ k ≤ T1 105 0 9 ∧ T1 105 0 7 = 2 ∧ T1 105 0 2 = T 105 0 2 ∧ T1 105 0 3 = T 105 0 3) → (TK9_ (fun j => T 500 0 j) (T 105 0 1) (T 105 0 9) (T1 105 0 8) (T1 105 0 9) (T1 105 0 7)) → (0 ≤ n ∧ n ≤ 999 ∧ (k - T1 105 0 8 = 0 → n = 0) ∧ (k - T1 105 0 8 = 1 → n ≤ 9) ∧ (k - T1 105 0 8 = 2 → n ≤ 99)) → (n = nv9_ (fun j => T 500 0 j) (T1 105 0 8) (k - T1 105 0 8).toNat) → J_ zX5_readRule T (po_X5_readRule_e T s m) 0 0 22 [some (vR 105 0), some (vI s), some (vI m), some (vI n), some (vI k)] [] T1 := by
    intro nn
    induction nn using Nat.strongRecOn with
    | _ nn ih_22 =>
      intro n k T1 hm_22 hf_22 i1 tk nb nv
      replace hm_22 := fun (_ : Unit) => hm_22
      have tr := tk9_r tk
      have td := tk9_d tk (by omega)
      refine j_blx (F := fX5) tb_X5 (nn_ _) bk_X5_readRule_e_22 bs_X5_readRule_e_22 hz (fun K hK => ?_)
      intro b1 b1b
      refine And.intro (fun c2 => ?_) (fun c2 => ?_)
      · refine hK 53 _ [] T1 ?_
        refine j_blx (F := fX5) tb_X5 (nn_ _) bk_X5_readRule_e_53 bs_X5_readRule_e_53 hz (fun K hK => ?_)
        refine hK 54 _ [vI n] T1 ?_
        refine j_gs81 (pc := 54) (i := 1) (by decide) (by decide) (lwq_3 (dqc_m (dqa_m (dqa_m (dqa_m (List.mem_of_getElem? (i := 2) rfl))))) rfl : Cond.fieldLink RX5 87 "SportsHouse$RuleText" (sn_ 1) "[I" ∈ lw_g) (by decide +kernel) ?_
        show J_ zX5_readRule T (po_X5_readRule_e T s m) 0 0 57 _ [vR 81 1, vI n] T1
        refine j_blx (F := fX5) tb_X5 (nn_ _) bk_X5_readRule_e_57 bs_X5_readRule_e_57 hz (fun K hK => ?_)
        refine hK 58 _ [vI s, vR 81 1, vI n] T1 ?_
        refine j_ld81 (pc := 58) (i := 1) (by decide) (by decide) (by omega) (by omega) (by decide +kernel) ?_
        have y3 := sa_b 1 (by decide) s.toNat (by omega)
        show J_ zX5_readRule T (po_X5_readRule_e T s m) 0 0 59 _ [vI ((sa_ 1).getD s.toNat 0), vI n] T1
        refine j_blx (F := fX5) tb_X5 (nn_ _) bk_X5_readRule_e_59 bs_X5_readRule_e_59 hz (fun K hK => ?_)
        refine And.intro (fun c4 => ?_) (fun c4 => ?_)
        · refine hK 67 _ [] T1 ?_
          refine j_blx (F := fX5) tb_X5 (nn_ _) bk_X5_readRule_e_67 bs_X5_readRule_e_67 hz (fun K hK => ?_)
          refine hK 69 _ [vI 4, vR 105 0] T1 ?_
          refine j_callV (y := yX5_fail) (Yc := zX5_fail) (rest := []) [vI 4] (ct_X5_fail_e (T := T1) (by omega)) cl_X5_59 (qd_c (by decide +kernel)) (nn_ _) rfl (rf_of rfl) (Nat.le_of_ble_eq_true rfl) (Nat.le_of_ble_eq_true rfl) (Nat.le_of_ble_eq_true rfl) rfl ?_
          rintro U5 _ ⟨x6, rfl, fU5, qU5⟩
          show J_ zX5_readRule T (po_X5_readRule_e T s m) 0 0 72 _ [vI x6] U5
          refine j_blx (F := fX5) tb_X5 (nn_ _) bk_X5_readRule_e_72 bs_X5_readRule_e_72 hz (fun K hK => ?_)
          refine (show po_X5_readRule_e T s m U5 (some (vI x6)) from ?_)
          have e7 : U5 105 0 9 = T1 105 0 9 := fU5 105 0 9 rfl
          have e8 : U5 504 0 s = T 504 0 s := (fU5 504 0 s rfl).trans (hf_22 504 0 s rfl)
          have ek : k = T1 105 0 9 := by omega
          rw [ek] at nv
          refine ⟨_, rfl, fr_t (fr_t (fr_0 _ _) (fr_s hf_22 rfl)) (fr_s fU5 rfl), Or.inl ⟨by omega, ?_⟩, fun j _ => (show fr_ [(105, [2, 3, 7, 8, 9])] T U5 from fr_t (fr_t (fr_0 _ _) (fr_s hf_22 rfl)) (fr_s fU5 rfl)) 504 0 j rfl⟩
          rw [show U5 105 0 2 = 4 by omega, show U5 105 0 3 = T1 105 0 8 by omega]
          exact nrf9_4 tk (by omega) (by omega) nv (by omega)
        · refine And.intro (fun c9 => ?_) (fun c9 => ?_)
          · refine hK 73 _ [] T1 ?_
            refine j_blx (F := fX5) tb_X5 (nn_ _) bk_X5_readRule_e_73 bs_X5_readRule_e_73 hz (fun K hK => ?_)
            refine iy_i (by omega) (by omega) ?_
            refine x_nm (fun U10 hU10 => ?_)
            have e11 := up_f hU10
            refine (show po_X5_readRule_e T s m U10 (some (vI 1)) from ?_)
            have e12 : U10 105 0 2 = T1 105 0 2 := up_k hU10 (by exact Nat.ne_of_beq_eq_false rfl) 0 2
            have e13 : U10 105 0 3 = T1 105 0 3 := up_k hU10 (by exact Nat.ne_of_beq_eq_false rfl) 0 3
            have e14 : U10 105 0 9 = T1 105 0 9 := up_k hU10 (by exact Nat.ne_of_beq_eq_false rfl) 0 9
            have e15 : U10 504 0 s = n := up_f hU10
            have ek : k = T1 105 0 9 := by omega
            rw [ek] at nv
            have w2 : U10 105 0 2 = T1 105 0 2 := up_k hU10 (by exact Nat.ne_of_beq_eq_false rfl) 0 2
            have w3 : U10 105 0 3 = T1 105 0 3 := up_k hU10 (by exact Nat.ne_of_beq_eq_false rfl) 0 3
            have w9 : U10 105 0 9 = T1 105 0 9 := up_k hU10 (by exact Nat.ne_of_beq_eq_false rfl) 0 9
            refine ⟨_, rfl, fr_u (fr_t (fr_0 _ _) (fr_s hf_22 rfl)) hU10 rfl, Or.inr ⟨rfl, ?_, by omega, by omega, by omega, by omega⟩, fun j hj => (up_g hU10 (fun z => hj z.2.2)).trans (hf_22 504 0 j rfl)⟩
            rw [w9, up_f hU10]
            exact nrf9_0 tk (by omega) (by omega) nv (by omega)
          · refine hK 69 _ [vI 4, vR 105 0] T1 ?_
            refine j_callV (y := yX5_fail) (Yc := zX5_fail) (rest := []) [vI 4] (ct_X5_fail_e (T := T1) (by omega)) cl_X5_59 (qd_c (by decide +kernel)) (nn_ _) rfl (rf_of rfl) (Nat.le_of_ble_eq_true rfl) (Nat.le_of_ble_eq_true rfl) (Nat.le_of_ble_eq_true rfl) rfl ?_
            rintro U16 _ ⟨x17, rfl, fU16, qU16⟩
            show J_ zX5_readRule T (po_X5_readRule_e T s m) 0 0 72 _ [vI x17] U16
            refine j_blx (F := fX5) tb_X5 (nn_ _) bk_X5_readRule_e_72 bs_X5_readRule_e_72 hz (fun K hK => ?_)
            refine (show po_X5_readRule_e T s m U16 (some (vI x17)) from ?_)
            have e18 : U16 105 0 9 = T1 105 0 9 := fU16 105 0 9 rfl
            have e19 : U16 504 0 s = T 504 0 s := (fU16 504 0 s rfl).trans (hf_22 504 0 s rfl)
            have ek : k = T1 105 0 9 := by omega
            rw [ek] at nv
            refine ⟨_, rfl, fr_t (fr_t (fr_0 _ _) (fr_s hf_22 rfl)) (fr_s fU16 rfl), Or.inl ⟨by omega, ?_⟩, fun j _ => (show fr_ [(105, [2, 3, 7, 8, 9])] T U16 from fr_t (fr_t (fr_0 _ _) (fr_s hf_22 rfl)) (fr_s fU16 rfl)) 504 0 j rfl⟩
            rw [show U16 105 0 2 = 4 by omega, show U16 105 0 3 = T1 105 0 8 by omega]
            exact nrf9_4 tk (by omega) (by omega) nv (by omega)
      · refine rg_i (by omega) ?_
        refine ix_i (by omega) ?_
        intro b20 b20b
        have e21 : T1 500 0 k = T 500 0 k := hf_22 500 0 k rfl
        rw [e21] at b20 b20b ⊢
        have dg := td.2 k (by omega) (by omega)
        have dg1 : 48 ≤ T 500 0 k ∧ T 500 0 k ≤ 57 := dg
        refine rg_i (by omega) ?_
        refine rg_i (by omega) ?_
        refine rg_i (by omega) ?_
        refine hK 22 [some (vR 105 0), some (vI s), some (vI m), some (vI (((n * 10) + (T 500 0 k)) - 48)), some (vI (k + 1))] [] T1 ?_
        refine ih_22 _ ?_ (((n * 10) + (T 500 0 k)) - 48) (k + 1) T1 (Nat.le_refl _) ?_ ?_ ?_ ?_ ?_
        · have hm_22 := hm_22 (); omega
        · exact fr_t (fr_0 _ _) (fr_s hf_22 rfl)
        · omega
        · exact tk
        · omega
        · refine nv9_s (b := (fun j => T 500 0 j)) (by omega) ?_
          rw [← nv]
          show _ = 10 * n + T 500 0 k - 48
          omega
  refine j_blx (F := fX5) tb_X5 (nn_ _) bk_X5_readRule_e_0 bs_X5_readRule_e_0 hz (fun K hK => ?_)
  refine hK 1 _ [vR 105 0] T ?_
  refine j_callV (y := yX5_nextToken) (Yc := zX5_nextToken) (rest := []) [] (ct_X5_nextToken_e (T := T) (by omega)) cl_X5_43 (qd_c (by decide +kernel)) (nn_ _) rfl (rf_of rfl) (Nat.le_of_ble_eq_true rfl) (Nat.le_of_ble_eq_true rfl) (Nat.le_of_ble_eq_true rfl) rfl ?_
  rintro U22 _ ⟨rfl, fU22, qU22⟩
  show J_ zX5_readRule T (po_X5_readRule_e T s m) 0 0 4 _ [] U22
  refine j_blx (F := fX5) tb_X5 (nn_ _) bk_X5_readRule_e_4 bs_X5_readRule_e_4 hz (fun K hK => ?_)
  refine hK 6 _ [vI 2, vR 105 0] U22 ?_
  refine j_callV (y := yX5_isOfKind) (Yc := zX5_isOfKind) (rest := []) [vI 2] (ct_X5_isOfKind_e (T := U22)) cl_X5_79 (qd_c (by decide +kernel)) (nn_ _) rfl (rf_of rfl) (Nat.le_of_ble_eq_true rfl) (Nat.le_of_ble_eq_true rfl) (Nat.le_of_ble_eq_true rfl) rfl ?_
  rintro U23 _ ⟨x24, rfl, fU23, qU23⟩
  show J_ zX5_readRule T (po_X5_readRule_e T s m) 0 0 9 _ [vI x24] U23
  refine j_blx (F := fX5) tb_X5 (nn_ _) bk_X5_readRule_e_9 bs_X5_readRule_e_9 hz (fun K hK => ?_)
  refine And.intro (fun c25 => ?_) (fun c25 => ?_)
  · refine hK 14 _ [] U23 ?_
    refine j_blx (F := fX5) tb_X5 (nn_ _) bk_X5_readRule_e_14 bs_X5_readRule_e_14 hz (fun K hK => ?_)
    intro b26 b26b
    have e27 : U23 105 0 8 = U22 105 0 8 := fU23 105 0 8 rfl
    rw [e27] at b26 b26b ⊢
    refine hK 22 [some (vR 105 0), some (vI s), some (vI m), some (vI 0), some (vI (U22 105 0 8))] [] U23 ?_
    have e28 : U23 105 0 8 = U22 105 0 8 := fU23 105 0 8 rfl
    have e29 : U23 105 0 9 = U22 105 0 9 := fU23 105 0 9 rfl
    have e30 : U23 105 0 7 = U22 105 0 7 := fU23 105 0 7 rfl
    refine c_22 _ 0 (U22 105 0 8) U23 (Nat.le_refl _) ?_ ?_ ?_ ?_ ?_
    · exact fr_t (fr_t (fr_0 _ _) (fr_s fU22 rfl)) (fr_s fU23 rfl)
    · have tr := tk9_r qU22
      have y2 := fU22 105 0 2 rfl
      have y3 := fU22 105 0 3 rfl
      omega
    · rw [fU23 105 0 8 rfl, fU23 105 0 9 rfl, fU23 105 0 7 rfl]
      exact qU22
    · omega
    · rw [show (U22 105 0 8 - U23 105 0 8 : Int) = 0 by omega]
      rfl
  · refine (show po_X5_readRule_e T s m U23 (some (vI 0)) from ?_)
    have e31 : U23 105 0 9 = U22 105 0 9 := fU23 105 0 9 rfl
    have e32 : U23 504 0 s = T 504 0 s := (fU23 504 0 s rfl).trans (fU22 504 0 s rfl)
    exact ⟨_, rfl, fr_t (fr_t (fr_0 _ _) (fr_s fU22 rfl)) (fr_s fU23 rfl), Or.inl ⟨rfl, nrf9_h qU22 (by omega) (by omega) qU23⟩, fun j _ => (show fr_ [(105, [2, 3, 7, 8, 9])] T U23 from fr_t (fr_t (fr_0 _ _) (fr_s fU22 rfl)) (fr_s fU23 rfl)) 504 0 j rfl⟩
theorem bk_X5_readPoints_e_0 : ck_ fX5 (some .boolean) cX5_readPoints 0 [.aload 0, .iconst 1] 2 = true := qck_r (nn_ _) (by decide +kernel)
theorem bs_X5_readPoints_e_0 {P : Zt → Option Zv → Prop} (K : Int → Zl → List Zv → Zt → Prop) : sx_ K P [.aload 0, .iconst 1] 2 = x_aload 0 (x_iconst 1 (K 2)) := ((xe_aload 0).trans (congrArg (x_aload 0) ((xe_iconst 1).trans (congrArg (x_iconst 1) xe_nil))))
theorem bk_X5_readPoints_e_5 : ck_ fX5 (some .boolean) cX5_readPoints 5 [.iconst 1] 6 = true := qck_r (nn_ _) (by decide +kernel)
theorem bs_X5_readPoints_e_5 {P : Zt → Option Zv → Prop} (K : Int → Zl → List Zv → Zt → Prop) : sx_ K P [.iconst 1] 6 = x_iconst 1 (K 6) := ((xe_iconst 1).trans (congrArg (x_iconst 1) xe_nil))
theorem bk_X5_readPoints_e_10 : ck_ fX5 (some .boolean) cX5_readPoints 10 [.ifCond .eq 45, .aload 0, .iconst 2, .aload 0, .tableswitch 0 5 4 #[], .iconst 1, .iaload] 21 = true := qck_r (nn_ _) (by decide +kernel)
theorem bs_X5_readPoints_e_10 {P : Zt → Option Zv → Prop} (K : Int → Zl → List Zv → Zt → Prop) : sx_ K P [.ifCond .eq 45, .aload 0, .iconst 2, .aload 0, .tableswitch 0 5 4 #[], .iconst 1, .iaload] 21 = x_ifCond .eq 45 K (x_aload 0 (x_iconst 2 (x_aload 0 (x_g1 105 504 (x_iconst 1 (x_iaload (K 21))))))) := ((xe_ifCond .eq 45).trans (congrArg (x_ifCond .eq 45 K) ((xe_aload 0).trans (congrArg (x_aload 0) ((xe_iconst 2).trans (congrArg (x_iconst 2) ((xe_aload 0).trans (congrArg (x_aload 0) ((xe_g1 (kk := 105) rfl tl_5_4).trans (congrArg (x_g1 105 504) ((xe_iconst 1).trans (congrArg (x_iconst 1) ((xe_iaload).trans (congrArg (x_iaload) xe_nil))))))))))))))
theorem bk_X5_readPoints_e_45 : ck_ fX5 (some .boolean) cX5_readPoints 45 [.iconst 0, .ireturn] 47 = true := qck_r (nn_ _) (by decide +kernel)
theorem bs_X5_readPoints_e_45 {P : Zt → Option Zv → Prop} (K : Int → Zl → List Zv → Zt → Prop) : sx_ K P [.iconst 0, .ireturn] 47 = x_iconst 0 (x_ireturn P) := ((xe_iconst 0).trans (congrArg (x_iconst 0) (xe_ireturn)))
theorem bk_X5_readPoints_e_24 : ck_ fX5 (some .boolean) cX5_readPoints 24 [.ifCond .eq 45, .aload 0, .iconst 3, .aload 0, .tableswitch 0 5 4 #[], .iconst 2, .iaload] 35 = true := qck_r (nn_ _) (by decide +kernel)
theorem bs_X5_readPoints_e_24 {P : Zt → Option Zv → Prop} (K : Int → Zl → List Zv → Zt → Prop) : sx_ K P [.ifCond .eq 45, .aload 0, .iconst 3, .aload 0, .tableswitch 0 5 4 #[], .iconst 2, .iaload] 35 = x_ifCond .eq 45 K (x_aload 0 (x_iconst 3 (x_aload 0 (x_g1 105 504 (x_iconst 2 (x_iaload (K 35))))))) := ((xe_ifCond .eq 45).trans (congrArg (x_ifCond .eq 45 K) ((xe_aload 0).trans (congrArg (x_aload 0) ((xe_iconst 3).trans (congrArg (x_iconst 3) ((xe_aload 0).trans (congrArg (x_aload 0) ((xe_g1 (kk := 105) rfl tl_5_4).trans (congrArg (x_g1 105 504) ((xe_iconst 2).trans (congrArg (x_iconst 2) ((xe_iaload).trans (congrArg (x_iaload) xe_nil))))))))))))))
theorem bk_X5_readPoints_e_38 : ck_ fX5 (some .boolean) cX5_readPoints 38 [.ifCond .eq 45, .iconst 1, .goto 46] 45 = true := qck_r (nn_ _) (by decide +kernel)
theorem bs_X5_readPoints_e_38 {P : Zt → Option Zv → Prop} (K : Int → Zl → List Zv → Zt → Prop) : sx_ K P [.ifCond .eq 45, .iconst 1, .goto 46] 45 = x_ifCond .eq 45 K (x_iconst 1 (x_goto 46 K)) := ((xe_ifCond .eq 45).trans (congrArg (x_ifCond .eq 45 K) ((xe_iconst 1).trans (congrArg (x_iconst 1) (xe_goto 46)))))
theorem bk_X5_readPoints_e_46 : ck_ fX5 (some .boolean) cX5_readPoints 46 [.ireturn] 47 = true := qck_r (nn_ _) (by decide +kernel)
theorem bs_X5_readPoints_e_46 {P : Zt → Option Zv → Prop} (K : Int → Zl → List Zv → Zt → Prop) : sx_ K P [.ireturn] 47 = x_ireturn P := (xe_ireturn)
abbrev po_X5_readPoints_e (T : Zt) : Zt → Option Zv → Prop := fun T' r => ∃ x : Int, r = some (vI x) ∧ fr_ [(105, [7, 8, 9, 2, 3]), (504, [])] T T' ∧ (((x = 0 ∧ pnf9_ (cl9_ (T 105 0 1) (fun j => T 500 0 j)) (T 105 0 1) (T 105 0 9) = Sum.inl (T' 105 0 2, T' 105 0 3)) ∨ (x = 1 ∧ pnf9_ (cl9_ (T 105 0 1) (fun j => T 500 0 j)) (T 105 0 1) (T 105 0 9) = Sum.inr (T' 105 0 9, T' 504 0 1, T' 504 0 2, T' 504 0 3) ∧ T' 105 0 2 = T 105 0 2 ∧ T' 105 0 3 = T 105 0 3 ∧ T 105 0 9 ≤ T' 105 0 9 ∧ T' 105 0 9 ≤ T 105 0 1)) ∧ ∀ j, j ≠ 1 → j ≠ 2 → j ≠ 3 → T' 504 0 j = T 504 0 j)
set_option maxHeartbeats 4000000 in
theorem ct_X5_readPoints_e {T : Zt} (h9 : T 105 0 9 ≤ T 105 0 1) : Ct_ yX5_readPoints zX5_readPoints T [vR 105 0] (po_X5_readPoints_e T) := by
  refine ct_of pn_5 rfl rfl (Nat.le_of_ble_eq_true rfl) (fun hT hav => ?_)
  have hz : zX5_readPoints.2.2.2.1 = some .boolean → ∀ (T' : Zt) (x : Int), po_X5_readPoints_e T T' (some (vI x)) → 0 ≤ x ∧ x ≤ 1 := fun _ T' x h => by obtain ⟨y, e, -, hy, -⟩ := h; cases e; omega
  have hln : 0 ≤ T 105 0 1 ∧ T 105 0 1 ≤ 400 := bd_f hT 105 1 tl_5_1 0
  have hte : 0 ≤ T 105 0 9 ∧ T 105 0 9 ≤ 400 := bd_f hT 105 9 tl_5_9 0
  show J_ zX5_readPoints T (po_X5_readPoints_e T) 0 0 0 [some (vR 105 0)] [] T
  refine j_blx (F := fX5) tb_X5 (nn_ _) bk_X5_readPoints_e_0 bs_X5_readPoints_e_0 hz (fun K hK => ?_)
  refine hK 2 _ [vI 1, vR 105 0] T ?_
  refine j_gs81 (pc := 2) (i := 2) (by decide) (by decide) (lwq_3 (dqc_m (dqa_m (dqa_m (List.mem_of_getElem? (i := 4) rfl)))) rfl : Cond.fieldLink RX5 72 "SportsHouse$RuleText" (sn_ 2) "[I" ∈ lw_g) (by decide +kernel) ?_
  show J_ zX5_readPoints T (po_X5_readPoints_e T) 0 0 5 _ [vR 81 2, vI 1, vR 105 0] T
  refine j_blx (F := fX5) tb_X5 (nn_ _) bk_X5_readPoints_e_5 bs_X5_readPoints_e_5 hz (fun K hK => ?_)
  refine hK 6 _ [vI 1, vR 81 2, vI 1, vR 105 0] T ?_
  refine j_ld81 (pc := 6) (i := 2) (by decide) (by decide) (by omega) (by omega) (by decide +kernel) ?_
  have y1 := sa_b 2 (by decide) (1 : Int).toNat (by omega)
  show J_ zX5_readPoints T (po_X5_readPoints_e T) 0 0 7 _ [vI ((sa_ 2).getD (1 : Int).toNat 0), vI 1, vR 105 0] T
  refine j_callV (y := yX5_readRule) (Yc := zX5_readRule) (rest := []) [vI 1, vI ((sa_ 2).getD (1 : Int).toNat 0)] (ct_X5_readRule_e (T := T) (by omega) (by omega)) cl_X5_75 (qd_c (by decide +kernel)) (nn_ _) rfl (rf_of rfl) (Nat.le_of_ble_eq_true rfl) (Nat.le_of_ble_eq_true rfl) (Nat.le_of_ble_eq_true rfl) rfl ?_
  rintro U2 _ ⟨x3, rfl, fU2, qU2, oU2⟩
  show J_ zX5_readPoints T (po_X5_readPoints_e T) 0 0 10 _ [vI x3] U2
  refine j_blx (F := fX5) tb_X5 (nn_ _) bk_X5_readPoints_e_10 bs_X5_readPoints_e_10 hz (fun K hK => ?_)
  refine And.intro (fun c4 => ?_) (fun c4 => ?_)
  · refine hK 45 _ [] U2 ?_
    refine j_blx (F := fX5) tb_X5 (nn_ _) bk_X5_readPoints_e_45 bs_X5_readPoints_e_45 hz (fun K hK => ?_)
    refine (show po_X5_readPoints_e T U2 (some (vI 0)) from ?_)
    have g0 := qU2
    rw [show (sa_ 1).getD (Int.toNat 1) 0 = 0 by decide, show (sa_ 2).getD (Int.toNat 1) 0 = 9 by decide] at g0
    have b0 := (g0.resolve_right (fun z => by omega)).2
    exact ⟨_, rfl, fr_t (fr_0 _ _) (fr_s fU2 rfl), Or.inl ⟨rfl, bn9_l b0⟩, fun j h1 h2 h3 => oU2 j h1⟩
  · refine ix_i (by omega) ?_
    intro b5 b5b
    refine hK 21 _ [vI (U2 504 0 1), vI 2, vR 105 0] U2 ?_
    have e6 : U2 105 0 1 = T 105 0 1 := (show fr_ [(105, [7, 8, 9, 2, 3]), (504, [])] T U2 from fr_t (fr_0 _ _) (fr_s fU2 rfl)) 105 0 1 rfl
    have y7 := (qU2.resolve_left (fun z => by omega)).2.2
    have e8 : U2 105 0 1 = T 105 0 1 := fU2 105 0 1 rfl
    refine j_callV (y := yX5_readRule) (Yc := zX5_readRule) (rest := []) [vI 2, vI (U2 504 0 1)] (ct_X5_readRule_e (T := U2) (by omega) (by omega)) cl_X5_75 (qd_c (by decide +kernel)) (nn_ _) rfl (rf_of rfl) (Nat.le_of_ble_eq_true rfl) (Nat.le_of_ble_eq_true rfl) (Nat.le_of_ble_eq_true rfl) rfl ?_
    rintro U9 _ ⟨x10, rfl, fU9, qU9, oU9⟩
    show J_ zX5_readPoints T (po_X5_readPoints_e T) 0 0 24 _ [vI x10] U9
    refine j_blx (F := fX5) tb_X5 (nn_ _) bk_X5_readPoints_e_24 bs_X5_readPoints_e_24 hz (fun K hK => ?_)
    refine And.intro (fun c11 => ?_) (fun c11 => ?_)
    · refine hK 45 _ [] U9 ?_
      refine j_blx (F := fX5) tb_X5 (nn_ _) bk_X5_readPoints_e_45 bs_X5_readPoints_e_45 hz (fun K hK => ?_)
      refine (show po_X5_readPoints_e T U9 (some (vI 0)) from ?_)
      have g0 := qU2
      rw [show (sa_ 1).getD (Int.toNat 1) 0 = 0 by decide, show (sa_ 2).getD (Int.toNat 1) 0 = 9 by decide] at g0
      have fb12 : fr_ [(105, [7, 8, 9, 2, 3]), (504, [])] T U2 := fr_t (fr_0 _ _) (fr_s fU2 rfl)
      have g1 := qU9
      rw [show (sa_ 1).getD (Int.toNat 2) 0 = 0 by decide, show (fun j => U2 500 0 j) = fun j => T 500 0 j from funext fun j => fb12 500 0 j rfl, show U2 105 0 1 = T 105 0 1 from fb12 105 0 1 rfl] at g1
      have b0 := (g0.resolve_left (fun z => by omega)).2.1
      have b1 := (g1.resolve_right (fun z => by omega)).2
      exact ⟨_, rfl, fr_t (fr_t (fr_0 _ _) (fr_s fU2 rfl)) (fr_s fU9 rfl), Or.inl ⟨rfl, (bn9_r b0).trans (bn9_l b1)⟩, fun j h1 h2 h3 => (oU9 j h2).trans (oU2 j h1)⟩
    · refine ix_i (by omega) ?_
      intro b13 b13b
      refine hK 35 _ [vI (U9 504 0 2), vI 3, vR 105 0] U9 ?_
      have e14 : U9 105 0 1 = T 105 0 1 := (show fr_ [(105, [7, 8, 9, 2, 3]), (504, [])] T U9 from fr_t (fr_t (fr_0 _ _) (fr_s fU2 rfl)) (fr_s fU9 rfl)) 105 0 1 rfl
      have y15 := (qU9.resolve_left (fun z => by omega)).2.2
      have e16 : U9 105 0 1 = T 105 0 1 := (fU9 105 0 1 rfl).trans (fU2 105 0 1 rfl)
      refine j_callV (y := yX5_readRule) (Yc := zX5_readRule) (rest := []) [vI 3, vI (U9 504 0 2)] (ct_X5_readRule_e (T := U9) (by omega) (by omega)) cl_X5_75 (qd_c (by decide +kernel)) (nn_ _) rfl (rf_of rfl) (Nat.le_of_ble_eq_true rfl) (Nat.le_of_ble_eq_true rfl) (Nat.le_of_ble_eq_true rfl) rfl ?_
      rintro U17 _ ⟨x18, rfl, fU17, qU17, oU17⟩
      show J_ zX5_readPoints T (po_X5_readPoints_e T) 0 0 38 _ [vI x18] U17
      refine j_blx (F := fX5) tb_X5 (nn_ _) bk_X5_readPoints_e_38 bs_X5_readPoints_e_38 hz (fun K hK => ?_)
      refine And.intro (fun c19 => ?_) (fun c19 => ?_)
      · refine hK 45 _ [] U17 ?_
        refine j_blx (F := fX5) tb_X5 (nn_ _) bk_X5_readPoints_e_45 bs_X5_readPoints_e_45 hz (fun K hK => ?_)
        refine (show po_X5_readPoints_e T U17 (some (vI 0)) from ?_)
        have g0 := qU2
        rw [show (sa_ 1).getD (Int.toNat 1) 0 = 0 by decide, show (sa_ 2).getD (Int.toNat 1) 0 = 9 by decide] at g0
        have fb20 : fr_ [(105, [7, 8, 9, 2, 3]), (504, [])] T U2 := fr_t (fr_0 _ _) (fr_s fU2 rfl)
        have g1 := qU9
        rw [show (sa_ 1).getD (Int.toNat 2) 0 = 0 by decide, show (fun j => U2 500 0 j) = fun j => T 500 0 j from funext fun j => fb20 500 0 j rfl, show U2 105 0 1 = T 105 0 1 from fb20 105 0 1 rfl] at g1
        have fb21 : fr_ [(105, [7, 8, 9, 2, 3]), (504, [])] T U9 := fr_t (fr_t (fr_0 _ _) (fr_s fU2 rfl)) (fr_s fU9 rfl)
        have g2 := qU17
        rw [show (sa_ 1).getD (Int.toNat 3) 0 = 0 by decide, show (fun j => U9 500 0 j) = fun j => T 500 0 j from funext fun j => fb21 500 0 j rfl, show U9 105 0 1 = T 105 0 1 from fb21 105 0 1 rfl] at g2
        have b0 := (g0.resolve_left (fun z => by omega)).2.1
        have b1 := (g1.resolve_left (fun z => by omega)).2.1
        have b2 := (g2.resolve_right (fun z => by omega)).2
        exact ⟨_, rfl, fr_t (fr_t (fr_t (fr_0 _ _) (fr_s fU2 rfl)) (fr_s fU9 rfl)) (fr_s fU17 rfl), Or.inl ⟨rfl, (bn9_r b0).trans ((bn9_r b1).trans (bn9_l b2))⟩, fun j h1 h2 h3 => (oU17 j h3).trans ((oU9 j h2).trans (oU2 j h1))⟩
      · refine hK 46 _ [vI 1] U17 ?_
        refine j_blx (F := fX5) tb_X5 (nn_ _) bk_X5_readPoints_e_46 bs_X5_readPoints_e_46 hz (fun K hK => ?_)
        refine (show po_X5_readPoints_e T U17 (some (vI 1)) from ?_)
        have g0 := qU2
        rw [show (sa_ 1).getD (Int.toNat 1) 0 = 0 by decide, show (sa_ 2).getD (Int.toNat 1) 0 = 9 by decide] at g0
        have fb22 : fr_ [(105, [7, 8, 9, 2, 3]), (504, [])] T U2 := fr_t (fr_0 _ _) (fr_s fU2 rfl)
        have g1 := qU9
        rw [show (sa_ 1).getD (Int.toNat 2) 0 = 0 by decide, show (fun j => U2 500 0 j) = fun j => T 500 0 j from funext fun j => fb22 500 0 j rfl, show U2 105 0 1 = T 105 0 1 from fb22 105 0 1 rfl] at g1
        have fb23 : fr_ [(105, [7, 8, 9, 2, 3]), (504, [])] T U9 := fr_t (fr_t (fr_0 _ _) (fr_s fU2 rfl)) (fr_s fU9 rfl)
        have g2 := qU17
        rw [show (sa_ 1).getD (Int.toNat 3) 0 = 0 by decide, show (fun j => U9 500 0 j) = fun j => T 500 0 j from funext fun j => fb23 500 0 j rfl, show U9 105 0 1 = T 105 0 1 from fb23 105 0 1 rfl] at g2
        have b0 := (g0.resolve_left (fun z => by omega)).2
        have b1 := (g1.resolve_left (fun z => by omega)).2
        have b2 := (g2.resolve_left (fun z => by omega)).2
        have w1 : U17 504 0 1 = U2 504 0 1 := (oU17 1 (by decide)).trans (oU9 1 (by decide))
        have w2 : U17 504 0 2 = U9 504 0 2 := oU17 2 (by decide)
        refine ⟨_, rfl, fr_t (fr_t (fr_t (fr_0 _ _) (fr_s fU2 rfl)) (fr_s fU9 rfl)) (fr_s fU17 rfl), Or.inr ⟨rfl, ?_, by omega, by omega, by omega, by omega⟩, fun j h1 h2 h3 => (oU17 j h3).trans ((oU9 j h2).trans (oU2 j h1))⟩
        rw [w1, w2]
        exact (bn9_r b0.1).trans ((bn9_r b1.1).trans (bn9_r b2.1))
theorem bk_X5_readSport_e_0 : ck_ fX5 (some .boolean) cX5_readSport 0 [.aload 0] 1 = true := qck_r (nn_ _) (by decide +kernel)
theorem bs_X5_readSport_e_0 {P : Zt → Option Zv → Prop} (K : Int → Zl → List Zv → Zt → Prop) : sx_ K P [.aload 0] 1 = x_aload 0 (K 1) := ((xe_aload 0).trans (congrArg (x_aload 0) xe_nil))
theorem bk_X5_readSport_e_4 : ck_ fX5 (some .boolean) cX5_readSport 4 [.aload 0] 5 = true := qck_r (nn_ _) (by decide +kernel)
theorem bs_X5_readSport_e_4 {P : Zt → Option Zv → Prop} (K : Int → Zl → List Zv → Zt → Prop) : sx_ K P [.aload 0] 5 = x_aload 0 (K 5) := ((xe_aload 0).trans (congrArg (x_aload 0) xe_nil))
theorem bk_X5_readSport_e_10 : ck_ fX5 (some .boolean) cX5_readSport 10 [.istore 1, .iload 1, .iconst (-1), .if_icmp .ne 18, .iconst 0, .ireturn] 18 = true := qck_r (nn_ _) (by decide +kernel)
theorem bs_X5_readSport_e_10 {P : Zt → Option Zv → Prop} (K : Int → Zl → List Zv → Zt → Prop) : sx_ K P [.istore 1, .iload 1, .iconst (-1), .if_icmp .ne 18, .iconst 0, .ireturn] 18 = x_istore 1 (x_iload 1 (x_iconst (-1) (x_if_icmp .ne 18 K (x_iconst 0 (x_ireturn P))))) := ((xe_istore 1).trans (congrArg (x_istore 1) ((xe_iload 1).trans (congrArg (x_iload 1) ((xe_iconst (-1)).trans (congrArg (x_iconst (-1)) ((xe_if_icmp .ne 18).trans (congrArg (x_if_icmp .ne 18 K) ((xe_iconst 0).trans (congrArg (x_iconst 0) (xe_ireturn)))))))))))
theorem bk_X5_readSport_e_18 : ck_ fX5 (some .boolean) cX5_readSport 18 [.aload 0, .tableswitch 0 5 4 #[], .iconst 0, .iload 1, .iastore, .iconst 1, .ireturn] 27 = true := qck_r (nn_ _) (by decide +kernel)
theorem bs_X5_readSport_e_18 {P : Zt → Option Zv → Prop} (K : Int → Zl → List Zv → Zt → Prop) : sx_ K P [.aload 0, .tableswitch 0 5 4 #[], .iconst 0, .iload 1, .iastore, .iconst 1, .ireturn] 27 = x_aload 0 (x_g1 105 504 (x_iconst 0 (x_iload 1 (x_iastore (x_iconst 1 (x_ireturn P)))))) := ((xe_aload 0).trans (congrArg (x_aload 0) ((xe_g1 (kk := 105) rfl tl_5_4).trans (congrArg (x_g1 105 504) ((xe_iconst 0).trans (congrArg (x_iconst 0) ((xe_iload 1).trans (congrArg (x_iload 1) ((xe_iastore).trans (congrArg (x_iastore) ((xe_iconst 1).trans (congrArg (x_iconst 1) (xe_ireturn)))))))))))))
abbrev po_X5_readSport_e (T : Zt) : Zt → Option Zv → Prop := fun T' r => ∃ x : Int, r = some (vI x) ∧ fr_ [(105, [7, 8, 9, 2, 3]), (504, [])] T T' ∧ (((x = 0 ∧ wof9_ wl_265 wt_265 (cl9_ (T 105 0 1) (fun j => T 500 0 j)) (T 105 0 1) (T 105 0 9) = Sum.inl (T' 105 0 2, T' 105 0 3)) ∨ (x = 1 ∧ wof9_ wl_265 wt_265 (cl9_ (T 105 0 1) (fun j => T 500 0 j)) (T 105 0 1) (T 105 0 9) = Sum.inr (T' 105 0 9, T' 504 0 0) ∧ T' 105 0 2 = T 105 0 2 ∧ T' 105 0 3 = T 105 0 3 ∧ T 105 0 9 ≤ T' 105 0 9 ∧ T' 105 0 9 ≤ T 105 0 1)) ∧ ∀ j, j ≠ 0 → T' 504 0 j = T 504 0 j)
set_option maxHeartbeats 4000000 in
theorem ct_X5_readSport_e {T : Zt} (h9 : T 105 0 9 ≤ T 105 0 1) : Ct_ yX5_readSport zX5_readSport T [vR 105 0] (po_X5_readSport_e T) := by
  refine ct_of pn_5 rfl rfl (Nat.le_of_ble_eq_true rfl) (fun hT hav => ?_)
  have hz : zX5_readSport.2.2.2.1 = some .boolean → ∀ (T' : Zt) (x : Int), po_X5_readSport_e T T' (some (vI x)) → 0 ≤ x ∧ x ≤ 1 := fun _ T' x h => by obtain ⟨y, e, -, hy, -⟩ := h; cases e; omega
  have hln : 0 ≤ T 105 0 1 ∧ T 105 0 1 ≤ 400 := bd_f hT 105 1 tl_5_1 0
  have hte : 0 ≤ T 105 0 9 ∧ T 105 0 9 ≤ 400 := bd_f hT 105 9 tl_5_9 0
  show J_ zX5_readSport T (po_X5_readSport_e T) 0 0 0 [some (vR 105 0), none] [] T
  refine j_blx (F := fX5) tb_X5 (nn_ _) bk_X5_readSport_e_0 bs_X5_readSport_e_0 hz (fun K hK => ?_)
  refine hK 1 _ [vR 105 0] T ?_
  refine j_callV (y := yX5_nextToken) (Yc := zX5_nextToken) (rest := []) [] (ct_X5_nextToken_e (T := T) (by omega)) cl_X5_43 (qd_c (by decide +kernel)) (nn_ _) rfl (rf_of rfl) (Nat.le_of_ble_eq_true rfl) (Nat.le_of_ble_eq_true rfl) (Nat.le_of_ble_eq_true rfl) rfl ?_
  rintro U1 _ ⟨rfl, fU1, qU1⟩
  show J_ zX5_readSport T (po_X5_readSport_e T) 0 0 4 _ [] U1
  have toU1 := qU1
  have trU1 := tk9_r toU1
  refine j_blx (F := fX5) tb_X5 (nn_ _) bk_X5_readSport_e_4 bs_X5_readSport_e_4 hz (fun K hK => ?_)
  refine hK 5 _ [vR 105 0] U1 ?_
  refine j_ldcS (pc := 5) (i := 1) (by decide) rfl (by decide) rfl (by decide +kernel) ?_
  show J_ zX5_readSport T (po_X5_readSport_e T) 0 0 7 _ [vR 82 1, vR 105 0] U1
  refine j_callV (y := yX5_wordOf) (Yc := zX5_wordOf) (rest := []) [vR 82 1] (ct_X5_wordOf_e1 (T := U1) (by omega)) cl_X5_55 (qd_c (by decide +kernel)) (nn_ _) rfl (rf_of rfl) (Nat.le_of_ble_eq_true rfl) (Nat.le_of_ble_eq_true rfl) (Nat.le_of_ble_eq_true rfl) rfl ?_
  rintro U2 _ ⟨x3, rfl, fU2, qU2⟩
  show J_ zX5_readSport T (po_X5_readSport_e T) 0 0 10 _ [vI x3] U2
  refine j_blx (F := fX5) tb_X5 (nn_ _) bk_X5_readSport_e_10 bs_X5_readSport_e_10 hz (fun K hK => ?_)
  refine And.intro (fun c4 => ?_) (fun c4 => ?_)
  · refine hK 18 [some (vR 105 0), some (vI x3)] [] U2 ?_
    refine j_blx (F := fX5) tb_X5 (nn_ _) bk_X5_readSport_e_18 bs_X5_readSport_e_18 hz (fun K hK => ?_)
    refine iy_i (by omega) (by omega) ?_
    refine x_nm (fun U5 hU5 => ?_)
    have e6 := up_f hU5
    refine (show po_X5_readSport_e T U5 (some (vI 1)) from ?_)
    have e7 : U5 105 0 2 = U2 105 0 2 := up_k hU5 (by exact Nat.ne_of_beq_eq_false rfl) 0 2
    have e8 : U5 105 0 3 = U2 105 0 3 := up_k hU5 (by exact Nat.ne_of_beq_eq_false rfl) 0 3
    have e9 : U5 105 0 9 = U1 105 0 9 := (up_k hU5 (by exact Nat.ne_of_beq_eq_false rfl) 0 9).trans (fU2 105 0 9 rfl)
    have e10 : U5 504 0 0 = x3 := up_f hU5
    have hw := qU2
    have fb11 : fr_ [(105, [7, 8, 9])] T U1 := fr_t (fr_0 _ _) (fr_s fU1 rfl)
    rw [show (fun j => U1 500 0 j) = fun j => T 500 0 j from funext fun j => fb11 500 0 j rfl] at hw
    have hv := wof9_h ds9_1 toU1 (by omega) hw
    have b0 := (hv.resolve_left (fun z => by omega)).2
    have b1 := b0.2
    have w9 : U5 105 0 9 = U1 105 0 9 := (up_k hU5 (by exact Nat.ne_of_beq_eq_false rfl) 0 9).trans (fU2 105 0 9 rfl)
    have w2 : U5 105 0 2 = U2 105 0 2 := up_k hU5 (by exact Nat.ne_of_beq_eq_false rfl) 0 2
    have y2 : U1 105 0 2 = T 105 0 2 := fU1 105 0 2 rfl
    have w3 : U5 105 0 3 = U2 105 0 3 := up_k hU5 (by exact Nat.ne_of_beq_eq_false rfl) 0 3
    have y3 : U1 105 0 3 = T 105 0 3 := fU1 105 0 3 rfl
    refine ⟨_, rfl, fr_u (fr_t (fr_t (fr_0 _ _) (fr_s fU1 rfl)) (fr_s fU2 rfl)) hU5 rfl, Or.inr ⟨rfl, ?_, by omega, by omega, by omega, by omega⟩, fun j hj => (up_g hU5 (fun z => hj z.2.2)).trans ((show fr_ [(105, [2, 3, 7, 8, 9])] T U2 from fr_t (fr_t (fr_0 _ _) (fr_s fU1 rfl)) (fr_s fU2 rfl)) 504 0 j rfl)⟩
    rw [w9, up_f hU5]
    exact b0.1
  · refine (show po_X5_readSport_e T U2 (some (vI 0)) from ?_)
    have e12 : U2 105 0 9 = U1 105 0 9 := fU2 105 0 9 rfl
    have e13 : U2 504 0 0 = T 504 0 0 := (fU2 504 0 0 rfl).trans (fU1 504 0 0 rfl)
    have hw := qU2
    have fb14 : fr_ [(105, [7, 8, 9])] T U1 := fr_t (fr_0 _ _) (fr_s fU1 rfl)
    rw [show (fun j => U1 500 0 j) = fun j => T 500 0 j from funext fun j => fb14 500 0 j rfl] at hw
    have hv := wof9_h ds9_1 toU1 (by omega) hw
    exact ⟨_, rfl, fr_t (fr_t (fr_0 _ _) (fr_s fU1 rfl)) (fr_s fU2 rfl), Or.inl ⟨rfl, (hv.resolve_right (fun z => by omega)).2⟩, fun j _ => (show fr_ [(105, [2, 3, 7, 8, 9])] T U2 from fr_t (fr_t (fr_0 _ _) (fr_s fU1 rfl)) (fr_s fU2 rfl)) 504 0 j rfl⟩
-- readOrder of the house
/-- what was read stands in the house's rows -/
def HO9_ (r : Qr9_ (Int × (Int → Int))) (T : Zt) : Prop := ∃ v, r = Sum.inr (T 105 0 9, v) ∧ VH9_ T v
theorem bk_X5_readOrder_e_4 : ck_ fX5 (some .boolean) cX5_readOrder 4 [.iload 2, .iconst 7, .if_icmp .gt 94, .aload 0] 11 = true := qck_r (nn_ _) (by decide +kernel)
theorem bs_X5_readOrder_e_4 {P : Zt → Option Zv → Prop} (K : Int → Zl → List Zv → Zt → Prop) : sx_ K P [.iload 2, .iconst 7, .if_icmp .gt 94, .aload 0] 11 = x_iload 2 (x_iconst 7 (x_if_icmp .gt 94 K (x_aload 0 (K 11)))) := ((xe_iload 2).trans (congrArg (x_iload 2) ((xe_iconst 7).trans (congrArg (x_iconst 7) ((xe_if_icmp .gt 94).trans (congrArg (x_if_icmp .gt 94 K) ((xe_aload 0).trans (congrArg (x_aload 0) xe_nil))))))))
theorem bk_X5_readOrder_e_14 : ck_ fX5 (some .boolean) cX5_readOrder 14 [.aload 0] 15 = true := qck_r (nn_ _) (by decide +kernel)
theorem bs_X5_readOrder_e_14 {P : Zt → Option Zv → Prop} (K : Int → Zl → List Zv → Zt → Prop) : sx_ K P [.aload 0] 15 = x_aload 0 (K 15) := ((xe_aload 0).trans (congrArg (x_aload 0) xe_nil))
theorem bk_X5_readOrder_e_20 : ck_ fX5 (some .boolean) cX5_readOrder 20 [.istore 3, .iload 3, .iconst (-1), .if_icmp .ne 28, .iconst 0, .ireturn] 28 = true := qck_r (nn_ _) (by decide +kernel)
theorem bs_X5_readOrder_e_20 {P : Zt → Option Zv → Prop} (K : Int → Zl → List Zv → Zt → Prop) : sx_ K P [.istore 3, .iload 3, .iconst (-1), .if_icmp .ne 28, .iconst 0, .ireturn] 28 = x_istore 3 (x_iload 3 (x_iconst (-1) (x_if_icmp .ne 28 K (x_iconst 0 (x_ireturn P))))) := ((xe_istore 3).trans (congrArg (x_istore 3) ((xe_iload 3).trans (congrArg (x_iload 3) ((xe_iconst (-1)).trans (congrArg (x_iconst (-1)) ((xe_if_icmp .ne 28).trans (congrArg (x_if_icmp .ne 28 K) ((xe_iconst 0).trans (congrArg (x_iconst 0) (xe_ireturn)))))))))))
theorem bk_X5_readOrder_e_28 : ck_ fX5 (some .boolean) cX5_readOrder 28 [.iload 1, .iload 3, .ishr, .iconst 1, .iand, .ifCond .ne 42, .iload 2, .iconst 7, .if_icmp .lt 48, .aload 0, .iconst 5] 44 = true := qck_r (nn_ _) (by decide +kernel)
theorem bs_X5_readOrder_e_28 {P : Zt → Option Zv → Prop} (K : Int → Zl → List Zv → Zt → Prop) : sx_ K P [.iload 1, .iload 3, .ishr, .iconst 1, .iand, .ifCond .ne 42, .iload 2, .iconst 7, .if_icmp .lt 48, .aload 0, .iconst 5] 44 = x_iload 1 (x_iload 3 (x_ishr (x_iconst 1 (x_iand (x_ifCond .ne 42 K (x_iload 2 (x_iconst 7 (x_if_icmp .lt 48 K (x_aload 0 (x_iconst 5 (K 44))))))))))) := ((xe_iload 1).trans (congrArg (x_iload 1) ((xe_iload 3).trans (congrArg (x_iload 3) ((xe_ishr).trans (congrArg (x_ishr) ((xe_iconst 1).trans (congrArg (x_iconst 1) ((xe_iand).trans (congrArg (x_iand) ((xe_ifCond .ne 42).trans (congrArg (x_ifCond .ne 42 K) ((xe_iload 2).trans (congrArg (x_iload 2) ((xe_iconst 7).trans (congrArg (x_iconst 7) ((xe_if_icmp .lt 48).trans (congrArg (x_if_icmp .lt 48 K) ((xe_aload 0).trans (congrArg (x_aload 0) ((xe_iconst 5).trans (congrArg (x_iconst 5) xe_nil))))))))))))))))))))))
theorem bk_X5_readOrder_e_42 : ck_ fX5 (some .boolean) cX5_readOrder 42 [.aload 0, .iconst 5] 44 = true := qck_r (nn_ _) (by decide +kernel)
theorem bs_X5_readOrder_e_42 {P : Zt → Option Zv → Prop} (K : Int → Zl → List Zv → Zt → Prop) : sx_ K P [.aload 0, .iconst 5] 44 = x_aload 0 (x_iconst 5 (K 44)) := ((xe_aload 0).trans (congrArg (x_aload 0) ((xe_iconst 5).trans (congrArg (x_iconst 5) xe_nil))))
theorem bk_X5_readOrder_e_47 : ck_ fX5 (some .boolean) cX5_readOrder 47 [.ireturn] 48 = true := qck_r (nn_ _) (by decide +kernel)
theorem bs_X5_readOrder_e_47 {P : Zt → Option Zv → Prop} (K : Int → Zl → List Zv → Zt → Prop) : sx_ K P [.ireturn] 48 = x_ireturn P := (xe_ireturn)
theorem bk_X5_readOrder_e_48 : ck_ fX5 (some .boolean) cX5_readOrder 48 [.iload 1, .iconst 1, .iload 3, .ishl, .ior, .istore 1, .aload 0, .tableswitch 0 5 5 #[], .iload 2, .iload 3, .iastore, .aload 0, .tableswitch 0 5 4 #[], .iconst 4, .iload 2, .iconst 1, .iadd, .iastore, .aload 0] 71 = true := qck_r (nn_ _) (by decide +kernel)
theorem bs_X5_readOrder_e_48 {P : Zt → Option Zv → Prop} (K : Int → Zl → List Zv → Zt → Prop) : sx_ K P [.iload 1, .iconst 1, .iload 3, .ishl, .ior, .istore 1, .aload 0, .tableswitch 0 5 5 #[], .iload 2, .iload 3, .iastore, .aload 0, .tableswitch 0 5 4 #[], .iconst 4, .iload 2, .iconst 1, .iadd, .iastore, .aload 0] 71 = x_iload 1 (x_iconst 1 (x_iload 3 (x_ishl (x_ior (x_istore 1 (x_aload 0 (x_g1 105 505 (x_iload 2 (x_iload 3 (x_iastore (x_aload 0 (x_g1 105 504 (x_iconst 4 (x_iload 2 (x_iconst 1 (x_iadd (x_iastore (x_aload 0 (K 71))))))))))))))))))) := ((xe_iload 1).trans (congrArg (x_iload 1) ((xe_iconst 1).trans (congrArg (x_iconst 1) ((xe_iload 3).trans (congrArg (x_iload 3) ((xe_ishl).trans (congrArg (x_ishl) ((xe_ior).trans (congrArg (x_ior) ((xe_istore 1).trans (congrArg (x_istore 1) ((xe_aload 0).trans (congrArg (x_aload 0) ((xe_g1 (kk := 105) rfl tl_5_5).trans (congrArg (x_g1 105 505) ((xe_iload 2).trans (congrArg (x_iload 2) ((xe_iload 3).trans (congrArg (x_iload 3) ((xe_iastore).trans (congrArg (x_iastore) ((xe_aload 0).trans (congrArg (x_aload 0) ((xe_g1 (kk := 105) rfl tl_5_4).trans (congrArg (x_g1 105 504) ((xe_iconst 4).trans (congrArg (x_iconst 4) ((xe_iload 2).trans (congrArg (x_iload 2) ((xe_iconst 1).trans (congrArg (x_iconst 1) ((xe_iadd).trans (congrArg (x_iadd) ((xe_iastore).trans (congrArg (x_iastore) ((xe_aload 0).trans (congrArg (x_aload 0) xe_nil))))))))))))))))))))))))))))))))))))))
theorem bk_X5_readOrder_e_74 : ck_ fX5 (some .boolean) cX5_readOrder 74 [.aload 0, .tableswitch 0 5 7 #[], .iconst 4, .if_icmp .eq 88, .aload 0, .iconst 3] 84 = true := qck_r (nn_ _) (by decide +kernel)
theorem bs_X5_readOrder_e_74 {P : Zt → Option Zv → Prop} (K : Int → Zl → List Zv → Zt → Prop) : sx_ K P [.aload 0, .tableswitch 0 5 7 #[], .iconst 4, .if_icmp .eq 88, .aload 0, .iconst 3] 84 = x_aload 0 (x_g0 105 7 0 5 (x_iconst 4 (x_if_icmp .eq 88 K (x_aload 0 (x_iconst 3 (K 84)))))) := ((xe_aload 0).trans (congrArg (x_aload 0) ((xe_g0 (kk := 105) rfl tl_5_7).trans (congrArg (x_g0 105 7 0 5) ((xe_iconst 4).trans (congrArg (x_iconst 4) ((xe_if_icmp .eq 88).trans (congrArg (x_if_icmp .eq 88 K) ((xe_aload 0).trans (congrArg (x_aload 0) ((xe_iconst 3).trans (congrArg (x_iconst 3) xe_nil))))))))))))
theorem bk_X5_readOrder_e_88 : ck_ fX5 (some .boolean) cX5_readOrder 88 [.iinc 2 1, .goto 4] 94 = true := qck_r (nn_ _) (by decide +kernel)
theorem bs_X5_readOrder_e_88 {P : Zt → Option Zv → Prop} (K : Int → Zl → List Zv → Zt → Prop) : sx_ K P [.iinc 2 1, .goto 4] 94 = x_iinc 2 1 (x_goto 4 K) := ((xe_iinc 2 1).trans (congrArg (x_iinc 2 1) (xe_goto 4)))
theorem bk_X5_readOrder_e_87 : ck_ fX5 (some .boolean) cX5_readOrder 87 [.ireturn] 88 = true := qck_r (nn_ _) (by decide +kernel)
theorem bs_X5_readOrder_e_87 {P : Zt → Option Zv → Prop} (K : Int → Zl → List Zv → Zt → Prop) : sx_ K P [.ireturn] 88 = x_ireturn P := (xe_ireturn)
theorem bk_X5_readOrder_e_0 : ck_ fX5 (some .boolean) cX5_readOrder 0 [.iconst 0, .istore 1, .iconst 0, .istore 2] 4 = true := qck_r (nn_ _) (by decide +kernel)
theorem bs_X5_readOrder_e_0 {P : Zt → Option Zv → Prop} (K : Int → Zl → List Zv → Zt → Prop) : sx_ K P [.iconst 0, .istore 1, .iconst 0, .istore 2] 4 = x_iconst 0 (x_istore 1 (x_iconst 0 (x_istore 2 (K 4)))) := ((xe_iconst 0).trans (congrArg (x_iconst 0) ((xe_istore 1).trans (congrArg (x_istore 1) ((xe_iconst 0).trans (congrArg (x_iconst 0) ((xe_istore 2).trans (congrArg (x_istore 2) xe_nil))))))))
abbrev po_X5_readOrder_e (T : Zt) (v : Int → Int) : Zt → Option Zv → Prop := fun T' r => ∃ x : Int, r = some (vI x) ∧ fr_ [(105, [7, 8, 9, 2, 3]), (504, []), (505, [])] T T' ∧ ((x = 0 ∧ orf9_ 9 (cl9_ (T 105 0 1) (fun j => T 500 0 j)) (T 105 0 1) (T 105 0 9) (fun _ => 0) 0 (ov9_ v) = Sum.inl (T' 105 0 2, T' 105 0 3)) ∨ (x = 1 ∧ HO9_ (orf9_ 9 (cl9_ (T 105 0 1) (fun j => T 500 0 j)) (T 105 0 1) (T 105 0 9) (fun _ => 0) 0 (ov9_ v)) T' ∧ T' 105 0 2 = T 105 0 2 ∧ T' 105 0 3 = T 105 0 3 ∧ T 105 0 9 ≤ T' 105 0 9 ∧ T' 105 0 9 ≤ T 105 0 1))
set_option maxHeartbeats 4000000 in
theorem ct_X5_readOrder_e {T : Zt} {v : Int → Int} (h9 : T 105 0 9 ≤ T 105 0 1) (hv : VH9_ T v) : Ct_ yX5_readOrder zX5_readOrder T [vR 105 0] (po_X5_readOrder_e T v) := by
  refine ct_of pn_5 rfl rfl (Nat.le_of_ble_eq_true rfl) (fun hT hav => ?_)
  have hz : zX5_readOrder.2.2.2.1 = some .boolean → ∀ (T' : Zt) (x : Int), po_X5_readOrder_e T v T' (some (vI x)) → 0 ≤ x ∧ x ≤ 1 := fun _ T' x h => by obtain ⟨y, e, -, hy⟩ := h; cases e; omega
  have hln : 0 ≤ T 105 0 1 ∧ T 105 0 1 ≤ 400 := bd_f hT 105 1 tl_5_1 0
  have hte : 0 ≤ T 105 0 9 ∧ T 105 0 9 ≤ 400 := bd_f hT 105 9 tl_5_9 0
  show J_ zX5_readOrder T (po_X5_readOrder_e T v) 0 0 0 [some (vR 105 0), none, none, none] [] T
  have c_4 : ∀ (nn : Nat) (kb : Int) (k : Int) (t : Int → Int) (u : Int → Int) (T1 : Zt), ((8 - k).toNat) ≤ nn → (fr_ [(105, [7, 8, 9, 2, 3]), (504, []), (505, [])] T T1) → (0 ≤ k ∧ k ≤ 7 ∧ T1 105 0 9 ≤ T 105 0 1 ∧ T 105 0 9 ≤ T1 105 0 9 ∧ T1 105 0 2 = T 105 0 2 ∧ T1 105 0 3 = T 105 0 3) → (BT9_ kb t) → (KS9_ t k) → (VO9_ T1 u k) → (orf9_ 9 (cl9_ (T 105 0 1) (fun j => T 500 0 j)) (T 105 0 1) (T 105 0 9) (fun _ => 0) 0 (ov9_ v) = orf9_ ((8 - k).toNat + 1) (cl9_ (T 105 0 1) (fun j => T 500 0 j)) (T 105 0 1) (T1 105 0 9) t k u) → J_ zX5_readOrder T (po_X5_readOrder_e T v) 0 0 4 [some (vR 105 0), some (vI kb), some (vI k), none] [] T1 := by
    intro nn
    induction nn using Nat.strongRecOn with
    | _ nn ih_4 =>
      intro kb k t u T1 hm_4 hf_4 i1 ib ik io ir
      replace hm_4 := fun (_ : Unit) => hm_4
      refine j_blx (F := fX5) tb_X5 (nn_ _) bk_X5_readOrder_e_4 bs_X5_readOrder_e_4 hz (fun K hK => ?_)
      refine And.intro (fun c1 => ?_) (fun c1 => ?_)
      · exact absurd c1 (by omega)
      · refine hK 11 _ [vR 105 0] T1 ?_
        have e2 : T1 105 0 1 = T 105 0 1 := hf_4 105 0 1 rfl
        refine j_callV (y := yX5_nextToken) (Yc := zX5_nextToken) (rest := []) [] (ct_X5_nextToken_e (T := T1) (by omega)) cl_X5_43 (qd_c (by decide +kernel)) (nn_ _) rfl (rf_of rfl) (Nat.le_of_ble_eq_true rfl) (Nat.le_of_ble_eq_true rfl) (Nat.le_of_ble_eq_true rfl) rfl ?_
        rintro U3 _ ⟨rfl, fU3, qU3⟩
        show J_ zX5_readOrder T (po_X5_readOrder_e T v) 0 0 14 _ [] U3
        have fb4 : fr_ [(105, [7, 8, 9, 2, 3]), (504, []), (505, [])] T T1 := fr_t (fr_0 _ _) (fr_s hf_4 rfl)
        have toU3 := qU3
        rw [show (fun j => T1 500 0 j) = fun j => T 500 0 j from funext fun j => fb4 500 0 j rfl, show T1 105 0 1 = T 105 0 1 from fb4 105 0 1 rfl] at toU3
        have trU3 := tk9_r toU3
        refine j_blx (F := fX5) tb_X5 (nn_ _) bk_X5_readOrder_e_14 bs_X5_readOrder_e_14 hz (fun K hK => ?_)
        refine hK 15 _ [vR 105 0] U3 ?_
        refine j_ldcS (pc := 15) (i := 2) (by decide) rfl (by decide) rfl (by decide +kernel) ?_
        show J_ zX5_readOrder T (po_X5_readOrder_e T v) 0 0 17 _ [vR 82 2, vR 105 0] U3
        refine j_callV (y := yX5_wordOf) (Yc := zX5_wordOf) (rest := []) [vR 82 2] (ct_X5_wordOf_e2 (T := U3) (by omega)) cl_X5_55 (qd_c (by decide +kernel)) (nn_ _) rfl (rf_of rfl) (Nat.le_of_ble_eq_true rfl) (Nat.le_of_ble_eq_true rfl) (Nat.le_of_ble_eq_true rfl) rfl ?_
        rintro U5 _ ⟨x6, rfl, fU5, qU5⟩
        show J_ zX5_readOrder T (po_X5_readOrder_e T v) 0 0 20 _ [vI x6] U5
        refine j_blx (F := fX5) tb_X5 (nn_ _) bk_X5_readOrder_e_20 bs_X5_readOrder_e_20 hz (fun K hK => ?_)
        refine And.intro (fun c7 => ?_) (fun c7 => ?_)
        · refine hK 28 [some (vR 105 0), some (vI kb), some (vI k), some (vI x6)] [] U5 ?_
          have hw := qU5
          have fb8 : fr_ [(105, [7, 8, 9, 2, 3]), (504, []), (505, [])] T U3 := fr_t (fr_t (fr_0 _ _) (fr_s hf_4 rfl)) (fr_s fU3 rfl)
          rw [show (fun j => U3 500 0 j) = fun j => T 500 0 j from funext fun j => fb8 500 0 j rfl] at hw
          have hvw := wof9_h ds9_2 toU3 (by omega) hw
          have hwi := (hvw.resolve_left (fun z => by omega)).2.1
          have hwj := (hvw.resolve_left (fun z => by omega)).1
          have hbx := ib.2 x6 (by omega) (by omega)
          have hks := ks9_b ik
          refine j_blx (F := fX5) tb_X5 (nn_ _) bk_X5_readOrder_e_28 bs_X5_readOrder_e_28 hz (fun K hK => ?_)
          intro w9 w9b
          intro w10 w10b
          refine And.intro (fun c11 => ?_) (fun c11 => ?_)
          · refine hK 42 _ [] U5 ?_
            refine j_blx (F := fX5) tb_X5 (nn_ _) bk_X5_readOrder_e_42 bs_X5_readOrder_e_42 hz (fun K hK => ?_)
            refine hK 44 _ [vI 5, vR 105 0] U5 ?_
            refine j_callV (y := yX5_fail) (Yc := zX5_fail) (rest := []) [vI 5] (ct_X5_fail_e (T := U5) (by omega)) cl_X5_59 (qd_c (by decide +kernel)) (nn_ _) rfl (rf_of rfl) (Nat.le_of_ble_eq_true rfl) (Nat.le_of_ble_eq_true rfl) (Nat.le_of_ble_eq_true rfl) rfl ?_
            rintro U12 _ ⟨x13, rfl, fU12, qU12⟩
            show J_ zX5_readOrder T (po_X5_readOrder_e T v) 0 0 47 _ [vI x13] U12
            refine j_blx (F := fX5) tb_X5 (nn_ _) bk_X5_readOrder_e_47 bs_X5_readOrder_e_47 hz (fun K hK => ?_)
            refine (show po_X5_readOrder_e T v U12 (some (vI x13)) from ?_)
            have e14 : U12 105 0 9 = U3 105 0 9 := (fU12 105 0 9 rfl).trans (fU5 105 0 9 rfl)
            have e8U5 := fU5 105 0 8 rfl
            have hx1 : t x6 ≠ 0 := by first | omega | exact ks9_7 ik (by omega) (by omega) (by omega)
            refine ⟨_, rfl, fr_t (fr_t (fr_t (fr_t (fr_0 _ _) (fr_s hf_4 rfl)) (fr_s fU3 rfl)) (fr_s fU5 rfl)) (fr_s fU12 rfl), Or.inl ⟨by omega, ir.trans ?_⟩⟩
            rw [show U12 105 0 2 = 5 by omega, show U12 105 0 3 = U3 105 0 8 by omega]
            exact orf9_5 hwi toU3 (by omega) hx1
          · refine And.intro (fun c15 => ?_) (fun c15 => ?_)
            · refine hK 48 _ [] U5 ?_
              have hx0 : t x6 = 0 := by omega
              have hbu := bt9_u ib (s := x6) (by omega) (by omega)
              refine j_blx (F := fX5) tb_X5 (nn_ _) bk_X5_readOrder_e_48 bs_X5_readOrder_e_48 hz (fun K hK => ?_)
              intro w16 w16b
              intro w17 w17b
              refine iy_i (by omega) (by omega) ?_
              refine x_nm (fun U18 hU18 => ?_)
              have e19 := up_f hU18
              refine rg_i (by omega) ?_
              refine iy_i (by omega) (by omega) ?_
              refine x_nm (fun U20 hU20 => ?_)
              have e21 := up_f hU20
              refine hK 71 [some (vR 105 0), some (vI (or_ kb (sl_ 1 x6))), some (vI k), some (vI x6)] [vR 105 0] U20 ?_
              have vo := vo9_s (T' := U20) (x := x6) io (by omega) (fun j hj => (up_g hU20 (fun z => hj z.2.2)).trans ((up_k hU18 (by exact Nat.ne_of_beq_eq_false rfl) 0 j).trans ((show fr_ [(105, [2, 3, 7, 8, 9])] T1 U5 from fr_t (fr_t (fr_0 _ _) (fr_s fU3 rfl)) (fr_s fU5 rfl)) 504 0 j rfl))) (up_f hU20) (fun j hj => (up_k hU20 (by exact Nat.ne_of_beq_eq_false rfl) 0 j).trans ((up_g hU18 (fun z => hj z.2.2)).trans ((show fr_ [(105, [2, 3, 7, 8, 9])] T1 U5 from fr_t (fr_t (fr_0 _ _) (fr_s fU3 rfl)) (fr_s fU5 rfl)) 505 0 j rfl))) ((up_k hU20 (by exact Nat.ne_of_beq_eq_false rfl) 0 k).trans (up_f hU18))
              have e22 : U20 105 0 9 = U3 105 0 9 := (up_k hU20 (by exact Nat.ne_of_beq_eq_false rfl) 0 9).trans ((up_k hU18 (by exact Nat.ne_of_beq_eq_false rfl) 0 9).trans (fU5 105 0 9 rfl))
              have e23 : U20 105 0 1 = T 105 0 1 := (up_k hU20 (by exact Nat.ne_of_beq_eq_false rfl) 0 1).trans ((up_k hU18 (by exact Nat.ne_of_beq_eq_false rfl) 0 1).trans ((fU5 105 0 1 rfl).trans ((fU3 105 0 1 rfl).trans (hf_4 105 0 1 rfl))))
              refine j_callV (y := yX5_nextToken) (Yc := zX5_nextToken) (rest := []) [] (ct_X5_nextToken_e (T := U20) (by omega)) cl_X5_43 (qd_c (by decide +kernel)) (nn_ _) rfl (rf_of rfl) (Nat.le_of_ble_eq_true rfl) (Nat.le_of_ble_eq_true rfl) (Nat.le_of_ble_eq_true rfl) rfl ?_
              rintro U24 _ ⟨rfl, fU24, qU24⟩
              show J_ zX5_readOrder T (po_X5_readOrder_e T v) 0 0 74 _ [] U24
              have fb25 : fr_ [(504, []), (505, []), (105, [2, 3, 7, 8, 9])] T U20 := fr_u (fr_u (fr_t (fr_t (fr_t (fr_0 _ _) (fr_s hf_4 rfl)) (fr_s fU3 rfl)) (fr_s fU5 rfl)) hU18 rfl) hU20 rfl
              have toU24 := qU24
              rw [show (fun j => U20 500 0 j) = fun j => T 500 0 j from funext fun j => fb25 500 0 j rfl, show U20 105 0 1 = T 105 0 1 from fb25 105 0 1 rfl] at toU24
              have trU24 := tk9_r toU24
              have e9U24 : U20 105 0 9 = U3 105 0 9 := by omega
              rw [e9U24] at toU24
              refine j_blx (F := fX5) tb_X5 (nn_ _) bk_X5_readOrder_e_74 bs_X5_readOrder_e_74 hz (fun K hK => ?_)
              intro b26 b26b
              refine And.intro (fun c27 => ?_) (fun c27 => ?_)
              · refine hK 88 _ [] U24 ?_
                refine j_blx (F := fX5) tb_X5 (nn_ _) bk_X5_readOrder_e_88 bs_X5_readOrder_e_88 hz (fun K hK => ?_)
                refine rg_i (by omega) ?_
                refine hK 4 [some (vR 105 0), some (vI (or_ kb (sl_ 1 x6))), some (vI (k + 1)), some (vI x6)] [] U24 ?_
                refine j_drq [some (vR 105 0), some (vI (or_ kb (sl_ 1 x6))), some (vI (k + 1)), none] (drq_s (drq_s (drq_s (drq_n drq_0)))) ?_
                have e28 : U24 105 0 2 = U5 105 0 2 := (fU24 105 0 2 rfl).trans ((up_k hU20 (by exact Nat.ne_of_beq_eq_false rfl) 0 2).trans (up_k hU18 (by exact Nat.ne_of_beq_eq_false rfl) 0 2))
                have e29 : U24 105 0 3 = U5 105 0 3 := (fU24 105 0 3 rfl).trans ((up_k hU20 (by exact Nat.ne_of_beq_eq_false rfl) 0 3).trans (up_k hU18 (by exact Nat.ne_of_beq_eq_false rfl) 0 3))
                refine ih_4 _ ?_ (or_ kb (sl_ 1 x6)) (k + 1) (u9_ t x6 1) (u9_ (u9_ u (16 + k) x6) 4 (k + 1)) U24 (Nat.le_refl _) ?_ ?_ ?_ ?_ ?_ ?_
                · have hm_4 := hm_4 (); omega
                · exact fr_t (fr_u (fr_u (fr_t (fr_t (fr_t (fr_0 _ _) (fr_s hf_4 rfl)) (fr_s fU3 rfl)) (fr_s fU5 rfl)) hU18 rfl) hU20 rfl) (fr_s fU24 rfl)
                · have y2 : U24 105 0 2 = U5 105 0 2 := (fU24 105 0 2 rfl).trans ((up_k hU20 (by exact Nat.ne_of_beq_eq_false rfl) 0 2).trans (up_k hU18 (by exact Nat.ne_of_beq_eq_false rfl) 0 2))
                  have z2 : U3 105 0 2 = T1 105 0 2 := fU3 105 0 2 rfl
                  have y3 : U24 105 0 3 = U5 105 0 3 := (fU24 105 0 3 rfl).trans ((up_k hU20 (by exact Nat.ne_of_beq_eq_false rfl) 0 3).trans (up_k hU18 (by exact Nat.ne_of_beq_eq_false rfl) 0 3))
                  have z3 : U3 105 0 3 = T1 105 0 3 := fU3 105 0 3 rfl
                  have y1 := (hvw.resolve_left (fun z => by omega)).2.2
                  omega
                · exact bt9_u ib (by omega) (by omega)
                · exact ks9_s ik (by omega) (by omega) hx0
                · exact VO9_f vo fU24 (fun _ => rfl) (fun _ => rfl)
                · rw [ir, orf9_k hwi hx0 toU24 (by omega) (by omega), show (8 - k).toNat = (8 - (k + 1)).toNat + 1 by omega]
              · refine hK 84 [some (vR 105 0), some (vI (or_ kb (sl_ 1 x6))), some (vI k), some (vI x6)] [vI 3, vR 105 0] U24 ?_
                refine j_callV (y := yX5_isOfKind) (Yc := zX5_isOfKind) (rest := []) [vI 3] (ct_X5_isOfKind_e (T := U24)) cl_X5_79 (qd_c (by decide +kernel)) (nn_ _) rfl (rf_of rfl) (Nat.le_of_ble_eq_true rfl) (Nat.le_of_ble_eq_true rfl) (Nat.le_of_ble_eq_true rfl) rfl ?_
                rintro U30 _ ⟨x31, rfl, fU30, qU30⟩
                show J_ zX5_readOrder T (po_X5_readOrder_e T v) 0 0 87 _ [vI x31] U30
                refine j_blx (F := fX5) tb_X5 (nn_ _) bk_X5_readOrder_e_87 bs_X5_readOrder_e_87 hz (fun K hK => ?_)
                refine (show po_X5_readOrder_e T v U30 (some (vI x31)) from ?_)
                have e32 : U30 105 0 9 = U24 105 0 9 := fU30 105 0 9 rfl
                have hsm := smf9_h toU24 (by omega) qU30
                have os := orf9_s (c := k) (v := u) (f := (8 - k).toNat) hwi hx0 toU24 (by omega) (by omega)
                rcases hsm with ⟨z1, z2⟩ | ⟨z1, z2, z3, z4⟩
                · exact ⟨_, rfl, fr_t (fr_t (fr_u (fr_u (fr_t (fr_t (fr_t (fr_0 _ _) (fr_s hf_4 rfl)) (fr_s fU3 rfl)) (fr_s fU5 rfl)) hU18 rfl) hU20 rfl) (fr_s fU24 rfl)) (fr_s fU30 rfl), Or.inl ⟨z1, ir.trans (os.trans (bn9_l z2))⟩⟩
                · have w9 : U30 105 0 9 = U24 105 0 9 := fU30 105 0 9 rfl
                  have vh := vo9_e (VO9_f (VO9_f vo fU24 (fun _ => rfl) (fun _ => rfl)) fU30 (fun _ => rfl) (fun _ => rfl)) (by omega)
                  refine ⟨_, rfl, fr_t (fr_t (fr_u (fr_u (fr_t (fr_t (fr_t (fr_0 _ _) (fr_s hf_4 rfl)) (fr_s fU3 rfl)) (fr_s fU5 rfl)) hU18 rfl) hU20 rfl) (fr_s fU24 rfl)) (fr_s fU30 rfl), Or.inr ⟨z1, ⟨_, ?_, vh⟩, ?_, ?_, by omega, by omega⟩⟩
                  · rw [w9]
                    exact ir.trans (os.trans (bn9_r z2))
                  · have y0 : U24 105 0 2 = U5 105 0 2 := (fU24 105 0 2 rfl).trans ((up_k hU20 (by exact Nat.ne_of_beq_eq_false rfl) 0 2).trans (up_k hU18 (by exact Nat.ne_of_beq_eq_false rfl) 0 2))
                    have y1 := (hvw.resolve_left (fun z => by omega)).2.2
                    have y2 : U3 105 0 2 = T1 105 0 2 := fU3 105 0 2 rfl
                    omega
                  · have y0 : U24 105 0 3 = U5 105 0 3 := (fU24 105 0 3 rfl).trans ((up_k hU20 (by exact Nat.ne_of_beq_eq_false rfl) 0 3).trans (up_k hU18 (by exact Nat.ne_of_beq_eq_false rfl) 0 3))
                    have y1 := (hvw.resolve_left (fun z => by omega)).2.2
                    have y2 : U3 105 0 3 = T1 105 0 3 := fU3 105 0 3 rfl
                    omega
            · refine hK 44 [some (vR 105 0), some (vI kb), some (vI k), some (vI x6)] [vI 5, vR 105 0] U5 ?_
              refine j_callV (y := yX5_fail) (Yc := zX5_fail) (rest := []) [vI 5] (ct_X5_fail_e (T := U5) (by omega)) cl_X5_59 (qd_c (by decide +kernel)) (nn_ _) rfl (rf_of rfl) (Nat.le_of_ble_eq_true rfl) (Nat.le_of_ble_eq_true rfl) (Nat.le_of_ble_eq_true rfl) rfl ?_
              rintro U33 _ ⟨x34, rfl, fU33, qU33⟩
              show J_ zX5_readOrder T (po_X5_readOrder_e T v) 0 0 47 _ [vI x34] U33
              refine j_blx (F := fX5) tb_X5 (nn_ _) bk_X5_readOrder_e_47 bs_X5_readOrder_e_47 hz (fun K hK => ?_)
              refine (show po_X5_readOrder_e T v U33 (some (vI x34)) from ?_)
              have e35 : U33 105 0 9 = U3 105 0 9 := (fU33 105 0 9 rfl).trans (fU5 105 0 9 rfl)
              have e8U5 := fU5 105 0 8 rfl
              have hx1 : t x6 ≠ 0 := by first | omega | exact ks9_7 ik (by omega) (by omega) (by omega)
              refine ⟨_, rfl, fr_t (fr_t (fr_t (fr_t (fr_0 _ _) (fr_s hf_4 rfl)) (fr_s fU3 rfl)) (fr_s fU5 rfl)) (fr_s fU33 rfl), Or.inl ⟨by omega, ir.trans ?_⟩⟩
              rw [show U33 105 0 2 = 5 by omega, show U33 105 0 3 = U3 105 0 8 by omega]
              exact orf9_5 hwi toU3 (by omega) hx1
        · refine (show po_X5_readOrder_e T v U5 (some (vI 0)) from ?_)
          have e36 : U5 105 0 9 = U3 105 0 9 := fU5 105 0 9 rfl
          have hw := qU5
          have fb37 : fr_ [(105, [7, 8, 9, 2, 3]), (504, []), (505, [])] T U3 := fr_t (fr_t (fr_0 _ _) (fr_s hf_4 rfl)) (fr_s fU3 rfl)
          rw [show (fun j => U3 500 0 j) = fun j => T 500 0 j from funext fun j => fb37 500 0 j rfl] at hw
          have hvw := wof9_h ds9_2 toU3 (by omega) hw
          exact ⟨_, rfl, fr_t (fr_t (fr_t (fr_0 _ _) (fr_s hf_4 rfl)) (fr_s fU3 rfl)) (fr_s fU5 rfl), Or.inl ⟨rfl, ir.trans (orf9_w (hvw.resolve_right (fun z => by omega)).2)⟩⟩
  refine j_blx (F := fX5) tb_X5 (nn_ _) bk_X5_readOrder_e_0 bs_X5_readOrder_e_0 hz (fun K hK => ?_)
  refine hK 4 [some (vR 105 0), some (vI 0), some (vI 0), none] [] T ?_
  refine c_4 _ 0 0 (fun _ => 0) (ov9_ v) T (Nat.le_refl _) ?_ ?_ ?_ ?_ ?_ ?_
  · exact fr_0 _ _
  · omega
  · exact bt9_0
  · exact ks9_0
  · exact vo9_0 hv
  · rw [show (((8 : Int) - 0).toNat + 1) = 9 from rfl]
