-- the reference's token
def nv9_ (b : Int → Int) (s : Int) : Nat → Int
  | 0 => 0
  | m + 1 => 10 * nv9_ b s m + b (s + m) - 48
theorem nv9_s {b : Int → Int} {s e v : Int} (h0 : s ≤ e) (h : v = 10 * nv9_ b s (e - s).toNat + b e - 48) : v = nv9_ b s (e + 1 - s).toNat := by
  rw [show (e + 1 - s).toNat = (e - s).toNat + 1 by omega, h]
  show _ = 10 * nv9_ b s (e - s).toNat + b (s + ((e - s).toNat : Nat)) - 48
  rw [show s + ((e - s).toNat : Int) = e by omega]
/-- what the reference's take leaves, when nothing was bad before -/
def TM9_ (b : Int → Int) (n a s t k v bn ba ba0 : Int) : Prop := ∃ e k9, TK9_ b n a s e k9 ∧ ((k9 ≠ 5 ∧ t = e ∧ k = k9 ∧ bn = 0 ∧ ba = ba0 ∧ (k9 = 2 → v = nv9_ b s (e - s).toNat)) ∨ (k9 = 5 ∧ bn = 1 ∧ ba = s))
theorem tm9_0 {b : Int → Int} {n a s s' t k v bn ba ba0 : Int} (h : SK9_ b n a s) (e1 : s' = s) (h1 : ¬ s < n) (h2 : t = s) (h3 : k = 0) (h4 : bn = 0) (h5 : ba = ba0) : TM9_ b n a s' t k v bn ba ba0 := ⟨s, 0, tk9_0 h e1 h1 rfl rfl, Or.inl ⟨by omega, h2, h3, h4, h5, fun z => by omega⟩⟩
theorem tm9_1 {b : Int → Int} {n a s s' t k v bn ba ba0 : Int} (h : SK9_ b n a s) (e1 : s' = s) (h1 : s < n) (h2 : lt9_ (b s)) (h3 : RN9_ b n 97 122 s t) (h4 : (t - s ≤ 12 ∧ k = 1 ∧ bn = 0 ∧ ba = ba0) ∨ (12 < t - s ∧ bn = 1 ∧ ba = s)) : TM9_ b n a s' t k v bn ba ba0 := by
  rcases h4 with ⟨g1, g2, g3, g4⟩ | ⟨g1, g2, g3⟩
  · exact ⟨t, 1, tk9_1 h e1 h1 h2 h3 (Or.inl ⟨g1, rfl⟩), Or.inl ⟨by omega, rfl, g2, g3, g4, fun z => by omega⟩⟩
  · exact ⟨t, 5, tk9_1 h e1 h1 h2 h3 (Or.inr ⟨g1, rfl⟩), Or.inr ⟨rfl, g2, by omega⟩⟩
theorem tm9_2 {b : Int → Int} {n a s s' t k v bn ba ba0 : Int} (h : SK9_ b n a s) (e1 : s' = s) (h1 : s < n) (h2 : dg9_ (b s)) (h3 : RN9_ b n 48 57 s t) (hv : t - s ≤ 3 → v = nv9_ b s (t - s).toNat) (h4 : (t - s ≤ 3 ∧ k = 2 ∧ bn = 0 ∧ ba = ba0) ∨ (3 < t - s ∧ bn = 1 ∧ ba = s)) : TM9_ b n a s' t k v bn ba ba0 := by
  subst e1
  rcases h4 with ⟨g1, g2, g3, g4⟩ | ⟨g1, g2, g3⟩
  · exact ⟨t, 2, tk9_2 h rfl h1 h2 h3 (Or.inl ⟨g1, rfl⟩), Or.inl ⟨by omega, rfl, g2, g3, g4, fun _ => hv g1⟩⟩
  · exact ⟨t, 5, tk9_2 h rfl h1 h2 h3 (Or.inr ⟨g1, rfl⟩), Or.inr ⟨rfl, g2, g3⟩⟩
theorem tm9_3 {b : Int → Int} {n a s s' t k v bn ba ba0 : Int} (h : SK9_ b n a s) (e1 : s' = s) (h1 : s < n) (h2 : ¬ lt9_ (b s)) (h3 : ¬ dg9_ (b s)) (h5 : (b s = 59 ∧ k = 3 ∧ t = s + 1 ∧ bn = 0 ∧ ba = ba0) ∨ (b s = 44 ∧ k = 4 ∧ t = s + 1 ∧ bn = 0 ∧ ba = ba0) ∨ (b s ≠ 59 ∧ b s ≠ 44 ∧ bn = 1 ∧ ba = s)) : TM9_ b n a s' t k v bn ba ba0 := by
  rcases h5 with ⟨g1, g2, g3, g4, g5⟩ | ⟨g1, g2, g3, g4, g5⟩ | ⟨g1, g2, g3, g4⟩
  · exact ⟨s + 1, 3, tk9_3 h e1 h1 h2 h3 rfl (Or.inl ⟨g1, rfl⟩), Or.inl ⟨by omega, g3, g2, g4, g5, fun z => by omega⟩⟩
  · exact ⟨s + 1, 4, tk9_3 h e1 h1 h2 h3 rfl (Or.inr (Or.inl ⟨g1, rfl⟩)), Or.inl ⟨by omega, g3, g2, g4, g5, fun z => by omega⟩⟩
  · exact ⟨s + 1, 5, tk9_3 h e1 h1 h2 h3 rfl (Or.inr (Or.inr ⟨g1, g2, rfl⟩)), Or.inr ⟨rfl, g3, by omega⟩⟩
abbrev po_X11_bad_e (T : Zt) (number place : Int) : Zt → Option Zv → Prop := fun T' r => r = none ∧ fr_ [(111, [62, 63])] T T' ∧ ((T 111 0 62 = 0 ∧ T' 111 0 62 = number ∧ T' 111 0 63 = place) ∨ (T 111 0 62 ≠ 0 ∧ T' 111 0 62 = T 111 0 62 ∧ T' 111 0 63 = T 111 0 63))
set_option maxHeartbeats 4000000 in
theorem ct_X11_bad_e {T : Zt} {number place : Int} (h1 : 1 ≤ number ∧ number ≤ 5) (h2 : -1 ≤ place ∧ place ≤ 400) : Ct_ yX11_bad zX11_bad T [vR 111 0, vI number, vI place] (po_X11_bad_e T number place) := by
  refine ct_of pn_11 rfl rfl (Nat.le_of_ble_eq_true rfl) (fun hT hav => ?_)
  have hr_number : -2147483648 ≤ number ∧ number ≤ 2147483647 := hav (vI number) (List.mem_cons_of_mem _ List.mem_cons_self)
  have hr_place : -2147483648 ≤ place ∧ place ≤ 2147483647 := hav (vI place) (List.mem_cons_of_mem _ (List.mem_cons_of_mem _ List.mem_cons_self))
  have hz : zX11_bad.2.2.2.1 = some .boolean → ∀ (T' : Zt) (x : Int), po_X11_bad_e T number place T' (some (vI x)) → 0 ≤ x ∧ x ≤ 1 := fun h => by cases h
  show J_ zX11_bad T (po_X11_bad_e T number place) 0 0 0 [some (vR 111 0), some (vI number), some (vI place)] [] T
  refine j_blx (F := fX11) tb_X11 (nn_ _) bk_X11_bad_0 bs_X11_bad_0 hz (fun K hK => ?_)
  intro b1 b1b
  refine And.intro (fun c2 => ?_) (fun c2 => ?_)
  · refine hK 17 _ [] T ?_
    refine j_blx (F := fX11) tb_X11 (nn_ _) bk_X11_bad_17 bs_X11_bad_17 hz (fun K hK => ?_)
    refine (show po_X11_bad_e T number place T (none) from ?_)
    exact ⟨rfl, fr_0 _ _, by omega⟩
  · refine bd_i (by omega) ?_
    refine x_nm (fun U3 hU3 => ?_)
    have e4 := up_f hU3
    refine bd_i (by omega) ?_
    refine x_nm (fun U5 hU5 => ?_)
    have e6 := up_f hU5
    refine (show po_X11_bad_e T number place U5 (none) from ?_)
    have e7 : U5 111 0 62 = number := (up_j hU5 (by decide) 111 0).trans (up_f hU3)
    have e8 : U5 111 0 63 = place := up_f hU5
    exact ⟨rfl, fr_u (fr_u (fr_0 _ _) hU3 rfl) hU5 rfl, by omega⟩
