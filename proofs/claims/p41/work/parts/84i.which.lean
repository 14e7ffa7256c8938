-- whichOf of the reference
/-- whether the first n signs of the token are the word's, as 0 or 1 -/
def SB9_ (w : List Int) (b : Int → Int) (s e k n q : Int) : Prop := (q = 1 ∧ n ≤ e - s ∧ PM9_ w b s k n) ∨ (q = 0 ∧ ¬ (n ≤ e - s ∧ PM9_ w b s k n))
theorem sb9_z {w : List Int} {b : Int → Int} {s e k : Int} (h : s ≤ e) : SB9_ w b s e k 0 1 := Or.inl ⟨rfl, by omega, fun j h1 h2 => by omega⟩
theorem sb9_s {w : List Int} {b : Int → Int} {s e k n q : Int} (h : SB9_ w b s e k n q) (h0 : q = 1) (h1 : s + n < e) (h2 : b (s + n) = w.getD (k + n).toNat 0) : SB9_ w b s e k (n + 1) 1 := by
  rcases h with ⟨g1, g2, g3⟩ | ⟨g1, _⟩
  · refine Or.inl ⟨rfl, by omega, fun j a c => ?_⟩
    by_cases z : j = n
    · rw [z, h2]
    · exact g3 j a (by omega)
  · omega
theorem sb9_n {w : List Int} {b : Int → Int} {s e k n q : Int} (h : SB9_ w b s e k n q) (hn0 : 0 ≤ n) (hn : ¬ (q = 1 ∧ s + n < e ∧ b (s + n) = w.getD (k + n).toNat 0)) : SB9_ w b s e k (n + 1) 0 := by
  refine Or.inr ⟨rfl, fun z => ?_⟩
  obtain ⟨z1, z2⟩ := z
  rcases h with ⟨g1, g2, g3⟩ | ⟨_, g2⟩
  · exact hn ⟨g1, by omega, z2 n hn0 (by omega)⟩
  · exact g2 ⟨by omega, fun j a c => z2 j a (by omega)⟩
theorem sb9_e {w : List Int} {b : Int → Int} {s e k e0 n q : Int} (h : SB9_ w b s e k n q) (he : k + n = e0) (h1 : q = 1) (h2 : n = e - s) : EW9_ w b s e k e0 := by
  rcases h with ⟨g1, g2, g3⟩ | ⟨g1, _⟩
  · refine ⟨by omega, ?_⟩
    rw [← h2]
    exact g3
  · omega
theorem sb9_f {w : List Int} {b : Int → Int} {s e k e0 n q : Int} (h : SB9_ w b s e k n q) (he : k + n = e0) (hn : ¬ (q = 1 ∧ n = e - s)) : ¬ EW9_ w b s e k e0 := fun z => by
  obtain ⟨z1, z2⟩ := z
  rcases h with ⟨g1, g2, g3⟩ | ⟨_, g2⟩
  · omega
  · refine g2 ⟨by omega, ?_⟩
    rw [show n = e - s by omega]
    exact z2
/-- of the words before number nr: x is one that the token is, or -1 and it is none of them -/
def WN9_ (w : List Int) (ts : List (Int × Int × Int)) (b : Int → Int) (s e nr x : Int) : Prop := (∃ k0 e0, (k0, x, e0) ∈ ts ∧ EW9_ w b s e k0 e0) ∨ (x = -1 ∧ ∀ k0 n e0, (k0, n, e0) ∈ ts → n < nr → ¬ EW9_ w b s e k0 e0)
theorem wn9_z {w : List Int} {ts : List (Int × Int × Int)} {c b : Int → Int} {s e L nW : Int} (ht : TB9_ w ts c L nW) : WN9_ w ts b s e 0 (-1) := Or.inr ⟨rfl, fun k0 n e0 hm hn => by have := (ht.1 _ _ _ hm).1; omega⟩
theorem wn9_y {w : List Int} {ts : List (Int × Int × Int)} {b : Int → Int} {s e nr k e0 : Int} (hm : (k, nr, e0) ∈ ts) (he : EW9_ w b s e k e0) : WN9_ w ts b s e (nr + 1) nr := Or.inl ⟨k, e0, hm, he⟩
theorem wn9_n {w : List Int} {ts : List (Int × Int × Int)} {c b : Int → Int} {s e L nW nr x k e0 : Int} (ht : TB9_ w ts c L nW) (h : WN9_ w ts b s e nr x) (hm : (k, nr, e0) ∈ ts) (he : ¬ EW9_ w b s e k e0) : WN9_ w ts b s e (nr + 1) x := by
  rcases h with h | ⟨h1, h2⟩
  · exact Or.inl h
  · refine Or.inr ⟨h1, fun k1 n e1 hm1 hn => ?_⟩
    by_cases z : n = nr
    · subst z
      obtain ⟨rfl, rfl⟩ := (ht.1 _ _ _ hm).2.2.2 _ _ hm1
      exact he
    · exact h2 _ _ _ hm1 (by omega)
theorem wn9_e {w : List Int} {ts : List (Int × Int × Int)} {c b : Int → Int} {s e L nW x : Int} (ht : TB9_ w ts c L nW) (h : WN9_ w ts b s e nW x) : WD9_ w ts b s e x := by
  rcases h with h | ⟨h1, h2⟩
  · exact Or.inl h
  · exact Or.inr ⟨h1, fun k0 n e0 hm => h2 _ _ _ hm (ht.1 _ _ _ hm).1.2.1⟩
theorem ww9_264 {T : Zt} (hC : CW_ T) {k nr : Int} (h : wp_264 k nr) (hk : k < 82) : ∃ e, (k, nr, e) ∈ wt_264 ∧ 0 ≤ k ∧ k ≤ e ∧ e < 82 ∧ (∀ i, k ≤ i → i < e → T 264 0 i ≠ 32) ∧ T 264 0 e = 32 ∧ wp_264 (e + 1) (nr + 1) ∧ 0 ≤ nr ∧ nr < 14 := by
  rcases h with ⟨e, he⟩ | h
  · have h1 := List.all_eq_true.mp wc_264 _ he
    simp only [Bool.and_eq_true, decide_eq_true_eq, beq_iff_eq] at h1
    obtain ⟨⟨⟨⟨a0, a1⟩, a2⟩, a3⟩, a4⟩ := h1
    have a2 : e < 82 := a2
    have hn := wn_264 _ he
    refine ⟨e, he, a0, a1, a2, fun i hi1 hi2 => ?_, ?_, hn.2.2, hn.1, hn.2.1⟩
    · have h2 := List.all_eq_true.mp a3 i.toNat (List.mem_range.mpr (by show i.toNat < 82; omega))
      rw [if_pos ⟨by omega, by omega⟩] at h2
      rw [hC.1 i (by omega) (by omega)]
      simpa using h2
    · rw [hC.1 e (by omega) (by omega)]
      exact a4
  · omega
abbrev po_X11_whichOf_e0 (T : Zt) : Zt → Option Zv → Prop := fun T' r => T = T' ∧ ∃ x : Int, r = some (vI x) ∧ ((-1 ≤ x ∧ x < 14) ∧ WD9_ wl_264 wt_264 (fun j => T 200 0 j) (T 111 0 59) (T 111 0 60) x)
set_option maxHeartbeats 4000000 in
theorem ct_X11_whichOf_e0 {T : Zt} (h1 : T 111 0 59 ≤ T 111 0 60 ∧ T 111 0 60 ≤ 400) (hC : CW_ T) : Ct_ yX11_whichOf zX11_whichOf T [vR 111 0, vR 264 0] (po_X11_whichOf_e0 T) := by
  refine ct_of (by decide) rfl rfl (Nat.le_of_ble_eq_true rfl) (fun hT hav => ?_)
  have hz : zX11_whichOf.2.2.2.1 = some .boolean → ∀ (T' : Zt) (x : Int), po_X11_whichOf_e0 T T' (some (vI x)) → 0 ≤ x ∧ x ≤ 1 := fun h => by cases h
  show J_ zX11_whichOf T (po_X11_whichOf_e0 T) 0 0 0 [some (vR 111 0), some (vR 264 0), none, none, none, none, none] [] T
  have c_7 : ∀ (nn : Nat) (wh : Int) (nr : Int) (k : Int), ((82 - k).toNat) ≤ nn → (wp_264 k nr) → (-1 ≤ wh ∧ wh < 14) → (0 ≤ k ∧ k ≤ 82) → (WN9_ wl_264 wt_264 (fun j => T 200 0 j) (T 111 0 59) (T 111 0 60) nr wh) → J_ zX11_whichOf T (po_X11_whichOf_e0 T) 0 0 7 [some (vR 111 0), some (vR 264 0), some (vI wh), some (vI nr), some (vI k), none, none] [] T := by
    intro nn
    induction nn using Nat.strongRecOn with
    | _ nn ih_7 =>
      intro wh nr k hm_7 w1 w2 w3 w4
      have hk9 : k = 82 ∨ k < 82 := by omega
      rcases hk9 with hk9 | hk9
      · refine j_blx (F := fX11) tb_X11 (by decide) bk_X11_whichOf_7 bs_X11_whichOf_7 hz (fun K hK => ?_)
        refine And.intro (fun c9 => ?_) (fun c9 => absurd c9 (by omega))
        refine hK 126 [some (vR 111 0), some (vR 264 0), some (vI wh), some (vI nr), some (vI k), none, none] [] T ?_
        refine j_blx (F := fX11) tb_X11 (by decide) bk_X11_whichOf_126 bs_X11_whichOf_126 hz (fun K hK => ?_)
        refine (show po_X11_whichOf_e0 T T (some (vI wh)) from ?_)
        have hnr : nr = 14 := by
          rcases w1 with ⟨e1, he1⟩ | h9
          · have := (tb9_0.1 _ _ _ he1).1
            omega
          · exact h9.2
        rw [hnr] at w4
        exact ⟨rfl, _, rfl, by omega, wn9_e tb9_0 w4⟩
      obtain ⟨e, hmem, hk0, he0, he1, he2, he3, hnx, hn0, hn1⟩ := ww9_264 hC w1 hk9
      have c_20 : ∀ (nn : Nat) (n : Int) (b : Int), ((e - k - n).toNat) ≤ nn → (0 ≤ n ∧ k + n ≤ e ∧ 0 ≤ b ∧ b ≤ 1) → (SB9_ wl_264 (fun j => T 200 0 j) (T 111 0 59) (T 111 0 60) k n b) → J_ zX11_whichOf T (po_X11_whichOf_e0 T) 0 0 20 [some (vR 111 0), some (vR 264 0), some (vI wh), some (vI nr), some (vI k), some (vI n), some (vI b)] [] T := by
        intro nn
        induction nn using Nat.strongRecOn with
        | _ nn ih_20 =>
          intro n b hm_20 n1 n2
          have c_78 : ∀ (v : Int), (0 ≤ v ∧ v ≤ 1) → (k + n < e) → (SB9_ wl_264 (fun j => T 200 0 j) (T 111 0 59) (T 111 0 60) k (n + 1) v) → J_ zX11_whichOf T (po_X11_whichOf_e0 T) 0 0 78 [some (vR 111 0), some (vR 264 0), some (vI wh), some (vI nr), some (vI k), some (vI n), some (vI b)] [vI v] T := by
            intro v v1 v2 v3
            refine j_blx (F := fX11) tb_X11 (by decide) bk_X11_whichOf_78 bs_X11_whichOf_78 hz (fun K hK => ?_)
            refine rg_i (by omega) ?_
            refine hK 20 [some (vR 111 0), some (vR 264 0), some (vI wh), some (vI nr), some (vI k), some (vI (n + 1)), some (vI v)] [] T ?_
            refine ih_20 _ ?_ (n + 1) v (Nat.le_refl _) ?_ ?_
            · omega
            · omega
            · exact v3
          have c_110 : ∀ (v : Int), (-1 ≤ v ∧ v < 14) → (k + n = e) → (WN9_ wl_264 wt_264 (fun j => T 200 0 j) (T 111 0 59) (T 111 0 60) (nr + 1) v) → J_ zX11_whichOf T (po_X11_whichOf_e0 T) 0 0 110 [some (vR 111 0), some (vR 264 0), some (vI wh), some (vI nr), some (vI k), some (vI n), some (vI b)] [vI v] T := by
            intro v v1 v2 v4
            refine j_blx (F := fX11) tb_X11 (by decide) bk_X11_whichOf_110 bs_X11_whichOf_110 hz (fun K hK => ?_)
            refine rg_i (by omega) ?_
            refine rg_i (by omega) ?_
            refine rg_i (by omega) ?_
            refine hK 7 [some (vR 111 0), some (vR 264 0), some (vI v), some (vI (nr + 1)), some (vI (k + (n + 1))), some (vI n), some (vI b)] [] T ?_
            refine j_drop [some (vR 111 0), some (vR 264 0), some (vI v), some (vI (nr + 1)), some (vI (k + (n + 1))), none, none] (fun k v hk => ?_) rfl ?_
            · match k, hk with
              | 0, hk => exact hk
              | 1, hk => exact hk
              | 2, hk => exact hk
              | 3, hk => exact hk
              | 4, hk => exact hk
              | 5, hk => cases hk
              | 6, hk => cases hk
              | k + 7, hk => cases hk
            refine ih_7 _ ?_ v (nr + 1) (k + (n + 1)) (Nat.le_refl _) ?_ ?_ ?_ ?_
            · omega
            · (have hz9 : k + (n + 1) = e + 1 := by omega); rw [hz9]; exact hnx
            · omega
            · omega
            · exact v4
          refine j_blx (F := fX11) tb_X11 (by decide) bk_X11_whichOf_20 bs_X11_whichOf_20 hz (fun K hK => ?_)
          refine rg_i (by omega) ?_
          refine ix_i (by omega) ?_
          intro b1 b1b
          refine And.intro (fun c2 => ?_) (fun c2 => ?_)
          · have hke : k + n = e := Classical.byContradiction (fun z => he2 (k + n) (by omega) (by omega) c2)
            refine hK 86 [some (vR 111 0), some (vR 264 0), some (vI wh), some (vI nr), some (vI k), some (vI n), some (vI b)] [] T ?_
            refine j_blx (F := fX11) tb_X11 (by decide) bk_X11_whichOf_86 bs_X11_whichOf_86 hz (fun K hK => ?_)
            refine And.intro (fun c3 => ?_) (fun c3 => ?_)
            · refine hK 109 [some (vR 111 0), some (vR 264 0), some (vI wh), some (vI nr), some (vI k), some (vI n), some (vI b)] [] T ?_
              refine j_blx (F := fX11) tb_X11 (by decide) bk_X11_whichOf_109 bs_X11_whichOf_109 hz (fun K hK => ?_)
              refine hK 110 [some (vR 111 0), some (vR 264 0), some (vI wh), some (vI nr), some (vI k), some (vI n), some (vI b)] [vI wh] T ?_
              refine c_110 wh ?_ ?_ ?_
              · omega
              · omega
              · exact wn9_n tb9_0 w4 hmem (sb9_f n2 (by omega) (by omega))
            · intro b4 b4b
              intro b5 b5b
              refine rg_i (by omega) ?_
              refine And.intro (fun c6 => ?_) (fun c6 => ?_)
              · refine hK 109 [some (vR 111 0), some (vR 264 0), some (vI wh), some (vI nr), some (vI k), some (vI n), some (vI b)] [] T ?_
                refine j_blx (F := fX11) tb_X11 (by decide) bk_X11_whichOf_109 bs_X11_whichOf_109 hz (fun K hK => ?_)
                refine hK 110 [some (vR 111 0), some (vR 264 0), some (vI wh), some (vI nr), some (vI k), some (vI n), some (vI b)] [vI wh] T ?_
                refine c_110 wh ?_ ?_ ?_
                · omega
                · omega
                · exact wn9_n tb9_0 w4 hmem (sb9_f n2 (by omega) (by omega))
              · refine hK 110 [some (vR 111 0), some (vR 264 0), some (vI wh), some (vI nr), some (vI k), some (vI n), some (vI b)] [vI nr] T ?_
                refine c_110 nr ?_ ?_ ?_
                · omega
                · omega
                · exact wn9_y hmem (sb9_e n2 (by omega) (by omega) (by omega))
          · have hke : k + n ≠ e := fun z => c2 (by rw [z]; exact he3)
            have hwr := hC.1 (k + n) (by omega) (by omega)
            refine And.intro (fun c7 => ?_) (fun c7 => ?_)
            · refine hK 77 [some (vR 111 0), some (vR 264 0), some (vI wh), some (vI nr), some (vI k), some (vI n), some (vI b)] [] T ?_
              refine j_blx (F := fX11) tb_X11 (by decide) bk_X11_whichOf_77 bs_X11_whichOf_77 hz (fun K hK => ?_)
              refine hK 78 [some (vR 111 0), some (vR 264 0), some (vI wh), some (vI nr), some (vI k), some (vI n), some (vI b)] [vI 0] T ?_
              refine c_78 0 ?_ ?_ ?_
              · omega
              · omega
              · exact sb9_n n2 (by omega) (show ¬ (b = 1 ∧ T 111 0 59 + n < T 111 0 60 ∧ T 200 0 (T 111 0 59 + n) = wl_264.getD (k + n).toNat 0) by omega)
            · intro b8 b8b
              refine rg_i (by omega) ?_
              intro b9 b9b
              refine And.intro (fun c10 => ?_) (fun c10 => ?_)
              · refine hK 77 [some (vR 111 0), some (vR 264 0), some (vI wh), some (vI nr), some (vI k), some (vI n), some (vI b)] [] T ?_
                refine j_blx (F := fX11) tb_X11 (by decide) bk_X11_whichOf_77 bs_X11_whichOf_77 hz (fun K hK => ?_)
                refine hK 78 [some (vR 111 0), some (vR 264 0), some (vI wh), some (vI nr), some (vI k), some (vI n), some (vI b)] [vI 0] T ?_
                refine c_78 0 ?_ ?_ ?_
                · omega
                · omega
                · exact sb9_n n2 (by omega) (show ¬ (b = 1 ∧ T 111 0 59 + n < T 111 0 60 ∧ T 200 0 (T 111 0 59 + n) = wl_264.getD (k + n).toNat 0) by omega)
              · intro b11 b11b
                refine rg_i (by omega) ?_
                refine ix_i (by omega) ?_
                intro b12 b12b
                refine rg_i (by omega) ?_
                refine ix_i (by omega) ?_
                intro b13 b13b
                refine And.intro (fun c14 => ?_) (fun c14 => ?_)
                · refine hK 77 [some (vR 111 0), some (vR 264 0), some (vI wh), some (vI nr), some (vI k), some (vI n), some (vI b)] [] T ?_
                  refine j_blx (F := fX11) tb_X11 (by decide) bk_X11_whichOf_77 bs_X11_whichOf_77 hz (fun K hK => ?_)
                  refine hK 78 [some (vR 111 0), some (vR 264 0), some (vI wh), some (vI nr), some (vI k), some (vI n), some (vI b)] [vI 0] T ?_
                  refine c_78 0 ?_ ?_ ?_
                  · omega
                  · omega
                  · exact sb9_n n2 (by omega) (show ¬ (b = 1 ∧ T 111 0 59 + n < T 111 0 60 ∧ T 200 0 (T 111 0 59 + n) = wl_264.getD (k + n).toNat 0) by omega)
                · refine hK 78 [some (vR 111 0), some (vR 264 0), some (vI wh), some (vI nr), some (vI k), some (vI n), some (vI b)] [vI 1] T ?_
                  refine c_78 1 ?_ ?_ ?_
                  · omega
                  · omega
                  · exact sb9_s n2 (by omega) (by omega) (show T 200 0 (T 111 0 59 + n) = wl_264.getD (k + n).toNat 0 by omega)
      refine j_blx (F := fX11) tb_X11 (by decide) bk_X11_whichOf_7 bs_X11_whichOf_7 hz (fun K hK => ?_)
      refine And.intro (fun c15 => ?_) (fun c15 => ?_)
      · refine hK 126 [some (vR 111 0), some (vR 264 0), some (vI wh), some (vI nr), some (vI k), none, none] [] T ?_
        refine j_blx (F := fX11) tb_X11 (by decide) bk_X11_whichOf_126 bs_X11_whichOf_126 hz (fun K hK => ?_)
        refine (show po_X11_whichOf_e0 T T (some (vI wh)) from ?_)
        have hnr : nr = 14 := by
          rcases w1 with ⟨e1, he1⟩ | h9
          · have := (tb9_0.1 _ _ _ he1).1
            omega
          · exact h9.2
        rw [hnr] at w4
        exact ⟨rfl, _, rfl, by omega, wn9_e tb9_0 w4⟩
      · refine hK 20 [some (vR 111 0), some (vR 264 0), some (vI wh), some (vI nr), some (vI k), some (vI 0), some (vI 1)] [] T ?_
        refine c_20 _ 0 1 (Nat.le_refl _) ?_ ?_
        · omega
        · exact sb9_z (by omega)
  refine j_blx (F := fX11) tb_X11 (by decide) bk_X11_whichOf_0 bs_X11_whichOf_0 hz (fun K hK => ?_)
  refine hK 7 [some (vR 111 0), some (vR 264 0), some (vI (-1)), some (vI 0), some (vI 0), none, none] [] T ?_
  refine c_7 _ (-1) 0 0 (Nat.le_refl _) ?_ ?_ ?_ ?_
  · exact Or.inl ⟨_, List.mem_cons_self⟩
  · omega
  · omega
  · exact wn9_z tb9_0
theorem ww9_265 {T : Zt} (hC : CW_ T) {k nr : Int} (h : wp_265 k nr) (hk : k < 36) : ∃ e, (k, nr, e) ∈ wt_265 ∧ 0 ≤ k ∧ k ≤ e ∧ e < 36 ∧ (∀ i, k ≤ i → i < e → T 265 0 i ≠ 32) ∧ T 265 0 e = 32 ∧ wp_265 (e + 1) (nr + 1) ∧ 0 ≤ nr ∧ nr < 4 := by
  rcases h with ⟨e, he⟩ | h
  · have h1 := List.all_eq_true.mp wc_265 _ he
    simp only [Bool.and_eq_true, decide_eq_true_eq, beq_iff_eq] at h1
    obtain ⟨⟨⟨⟨a0, a1⟩, a2⟩, a3⟩, a4⟩ := h1
    have a2 : e < 36 := a2
    have hn := wn_265 _ he
    refine ⟨e, he, a0, a1, a2, fun i hi1 hi2 => ?_, ?_, hn.2.2, hn.1, hn.2.1⟩
    · have h2 := List.all_eq_true.mp a3 i.toNat (List.mem_range.mpr (by show i.toNat < 36; omega))
      rw [if_pos ⟨by omega, by omega⟩] at h2
      rw [hC.2.1 i (by omega) (by omega)]
      simpa using h2
    · rw [hC.2.1 e (by omega) (by omega)]
      exact a4
  · omega
abbrev po_X11_whichOf_e1 (T : Zt) : Zt → Option Zv → Prop := fun T' r => T = T' ∧ ∃ x : Int, r = some (vI x) ∧ ((-1 ≤ x ∧ x < 4) ∧ WD9_ wl_265 wt_265 (fun j => T 200 0 j) (T 111 0 59) (T 111 0 60) x)
set_option maxHeartbeats 4000000 in
theorem ct_X11_whichOf_e1 {T : Zt} (h1 : T 111 0 59 ≤ T 111 0 60 ∧ T 111 0 60 ≤ 400) (hC : CW_ T) : Ct_ yX11_whichOf zX11_whichOf T [vR 111 0, vR 265 0] (po_X11_whichOf_e1 T) := by
  refine ct_of (by decide) rfl rfl (Nat.le_of_ble_eq_true rfl) (fun hT hav => ?_)
  have hz : zX11_whichOf.2.2.2.1 = some .boolean → ∀ (T' : Zt) (x : Int), po_X11_whichOf_e1 T T' (some (vI x)) → 0 ≤ x ∧ x ≤ 1 := fun h => by cases h
  show J_ zX11_whichOf T (po_X11_whichOf_e1 T) 0 0 0 [some (vR 111 0), some (vR 265 0), none, none, none, none, none] [] T
  have c_7 : ∀ (nn : Nat) (wh : Int) (nr : Int) (k : Int), ((36 - k).toNat) ≤ nn → (wp_265 k nr) → (-1 ≤ wh ∧ wh < 4) → (0 ≤ k ∧ k ≤ 36) → (WN9_ wl_265 wt_265 (fun j => T 200 0 j) (T 111 0 59) (T 111 0 60) nr wh) → J_ zX11_whichOf T (po_X11_whichOf_e1 T) 0 0 7 [some (vR 111 0), some (vR 265 0), some (vI wh), some (vI nr), some (vI k), none, none] [] T := by
    intro nn
    induction nn using Nat.strongRecOn with
    | _ nn ih_7 =>
      intro wh nr k hm_7 w1 w2 w3 w4
      have hk9 : k = 36 ∨ k < 36 := by omega
      rcases hk9 with hk9 | hk9
      · refine j_blx (F := fX11) tb_X11 (by decide) bk_X11_whichOf_7 bs_X11_whichOf_7 hz (fun K hK => ?_)
        refine And.intro (fun c9 => ?_) (fun c9 => absurd c9 (by omega))
        refine hK 126 [some (vR 111 0), some (vR 265 0), some (vI wh), some (vI nr), some (vI k), none, none] [] T ?_
        refine j_blx (F := fX11) tb_X11 (by decide) bk_X11_whichOf_126 bs_X11_whichOf_126 hz (fun K hK => ?_)
        refine (show po_X11_whichOf_e1 T T (some (vI wh)) from ?_)
        have hnr : nr = 4 := by
          rcases w1 with ⟨e1, he1⟩ | h9
          · have := (tb9_1.1 _ _ _ he1).1
            omega
          · exact h9.2
        rw [hnr] at w4
        exact ⟨rfl, _, rfl, by omega, wn9_e tb9_1 w4⟩
      obtain ⟨e, hmem, hk0, he0, he1, he2, he3, hnx, hn0, hn1⟩ := ww9_265 hC w1 hk9
      have c_20 : ∀ (nn : Nat) (n : Int) (b : Int), ((e - k - n).toNat) ≤ nn → (0 ≤ n ∧ k + n ≤ e ∧ 0 ≤ b ∧ b ≤ 1) → (SB9_ wl_265 (fun j => T 200 0 j) (T 111 0 59) (T 111 0 60) k n b) → J_ zX11_whichOf T (po_X11_whichOf_e1 T) 0 0 20 [some (vR 111 0), some (vR 265 0), some (vI wh), some (vI nr), some (vI k), some (vI n), some (vI b)] [] T := by
        intro nn
        induction nn using Nat.strongRecOn with
        | _ nn ih_20 =>
          intro n b hm_20 n1 n2
          have c_78 : ∀ (v : Int), (0 ≤ v ∧ v ≤ 1) → (k + n < e) → (SB9_ wl_265 (fun j => T 200 0 j) (T 111 0 59) (T 111 0 60) k (n + 1) v) → J_ zX11_whichOf T (po_X11_whichOf_e1 T) 0 0 78 [some (vR 111 0), some (vR 265 0), some (vI wh), some (vI nr), some (vI k), some (vI n), some (vI b)] [vI v] T := by
            intro v v1 v2 v3
            refine j_blx (F := fX11) tb_X11 (by decide) bk_X11_whichOf_78 bs_X11_whichOf_78 hz (fun K hK => ?_)
            refine rg_i (by omega) ?_
            refine hK 20 [some (vR 111 0), some (vR 265 0), some (vI wh), some (vI nr), some (vI k), some (vI (n + 1)), some (vI v)] [] T ?_
            refine ih_20 _ ?_ (n + 1) v (Nat.le_refl _) ?_ ?_
            · omega
            · omega
            · exact v3
          have c_110 : ∀ (v : Int), (-1 ≤ v ∧ v < 4) → (k + n = e) → (WN9_ wl_265 wt_265 (fun j => T 200 0 j) (T 111 0 59) (T 111 0 60) (nr + 1) v) → J_ zX11_whichOf T (po_X11_whichOf_e1 T) 0 0 110 [some (vR 111 0), some (vR 265 0), some (vI wh), some (vI nr), some (vI k), some (vI n), some (vI b)] [vI v] T := by
            intro v v1 v2 v4
            refine j_blx (F := fX11) tb_X11 (by decide) bk_X11_whichOf_110 bs_X11_whichOf_110 hz (fun K hK => ?_)
            refine rg_i (by omega) ?_
            refine rg_i (by omega) ?_
            refine rg_i (by omega) ?_
            refine hK 7 [some (vR 111 0), some (vR 265 0), some (vI v), some (vI (nr + 1)), some (vI (k + (n + 1))), some (vI n), some (vI b)] [] T ?_
            refine j_drop [some (vR 111 0), some (vR 265 0), some (vI v), some (vI (nr + 1)), some (vI (k + (n + 1))), none, none] (fun k v hk => ?_) rfl ?_
            · match k, hk with
              | 0, hk => exact hk
              | 1, hk => exact hk
              | 2, hk => exact hk
              | 3, hk => exact hk
              | 4, hk => exact hk
              | 5, hk => cases hk
              | 6, hk => cases hk
              | k + 7, hk => cases hk
            refine ih_7 _ ?_ v (nr + 1) (k + (n + 1)) (Nat.le_refl _) ?_ ?_ ?_ ?_
            · omega
            · (have hz9 : k + (n + 1) = e + 1 := by omega); rw [hz9]; exact hnx
            · omega
            · omega
            · exact v4
          refine j_blx (F := fX11) tb_X11 (by decide) bk_X11_whichOf_20 bs_X11_whichOf_20 hz (fun K hK => ?_)
          refine rg_i (by omega) ?_
          refine ix_i (by omega) ?_
          intro b1 b1b
          refine And.intro (fun c2 => ?_) (fun c2 => ?_)
          · have hke : k + n = e := Classical.byContradiction (fun z => he2 (k + n) (by omega) (by omega) c2)
            refine hK 86 [some (vR 111 0), some (vR 265 0), some (vI wh), some (vI nr), some (vI k), some (vI n), some (vI b)] [] T ?_
            refine j_blx (F := fX11) tb_X11 (by decide) bk_X11_whichOf_86 bs_X11_whichOf_86 hz (fun K hK => ?_)
            refine And.intro (fun c3 => ?_) (fun c3 => ?_)
            · refine hK 109 [some (vR 111 0), some (vR 265 0), some (vI wh), some (vI nr), some (vI k), some (vI n), some (vI b)] [] T ?_
              refine j_blx (F := fX11) tb_X11 (by decide) bk_X11_whichOf_109 bs_X11_whichOf_109 hz (fun K hK => ?_)
              refine hK 110 [some (vR 111 0), some (vR 265 0), some (vI wh), some (vI nr), some (vI k), some (vI n), some (vI b)] [vI wh] T ?_
              refine c_110 wh ?_ ?_ ?_
              · omega
              · omega
              · exact wn9_n tb9_1 w4 hmem (sb9_f n2 (by omega) (by omega))
            · intro b4 b4b
              intro b5 b5b
              refine rg_i (by omega) ?_
              refine And.intro (fun c6 => ?_) (fun c6 => ?_)
              · refine hK 109 [some (vR 111 0), some (vR 265 0), some (vI wh), some (vI nr), some (vI k), some (vI n), some (vI b)] [] T ?_
                refine j_blx (F := fX11) tb_X11 (by decide) bk_X11_whichOf_109 bs_X11_whichOf_109 hz (fun K hK => ?_)
                refine hK 110 [some (vR 111 0), some (vR 265 0), some (vI wh), some (vI nr), some (vI k), some (vI n), some (vI b)] [vI wh] T ?_
                refine c_110 wh ?_ ?_ ?_
                · omega
                · omega
                · exact wn9_n tb9_1 w4 hmem (sb9_f n2 (by omega) (by omega))
              · refine hK 110 [some (vR 111 0), some (vR 265 0), some (vI wh), some (vI nr), some (vI k), some (vI n), some (vI b)] [vI nr] T ?_
                refine c_110 nr ?_ ?_ ?_
                · omega
                · omega
                · exact wn9_y hmem (sb9_e n2 (by omega) (by omega) (by omega))
          · have hke : k + n ≠ e := fun z => c2 (by rw [z]; exact he3)
            have hwr := hC.2.1 (k + n) (by omega) (by omega)
            refine And.intro (fun c7 => ?_) (fun c7 => ?_)
            · refine hK 77 [some (vR 111 0), some (vR 265 0), some (vI wh), some (vI nr), some (vI k), some (vI n), some (vI b)] [] T ?_
              refine j_blx (F := fX11) tb_X11 (by decide) bk_X11_whichOf_77 bs_X11_whichOf_77 hz (fun K hK => ?_)
              refine hK 78 [some (vR 111 0), some (vR 265 0), some (vI wh), some (vI nr), some (vI k), some (vI n), some (vI b)] [vI 0] T ?_
              refine c_78 0 ?_ ?_ ?_
              · omega
              · omega
              · exact sb9_n n2 (by omega) (show ¬ (b = 1 ∧ T 111 0 59 + n < T 111 0 60 ∧ T 200 0 (T 111 0 59 + n) = wl_265.getD (k + n).toNat 0) by omega)
            · intro b8 b8b
              refine rg_i (by omega) ?_
              intro b9 b9b
              refine And.intro (fun c10 => ?_) (fun c10 => ?_)
              · refine hK 77 [some (vR 111 0), some (vR 265 0), some (vI wh), some (vI nr), some (vI k), some (vI n), some (vI b)] [] T ?_
                refine j_blx (F := fX11) tb_X11 (by decide) bk_X11_whichOf_77 bs_X11_whichOf_77 hz (fun K hK => ?_)
                refine hK 78 [some (vR 111 0), some (vR 265 0), some (vI wh), some (vI nr), some (vI k), some (vI n), some (vI b)] [vI 0] T ?_
                refine c_78 0 ?_ ?_ ?_
                · omega
                · omega
                · exact sb9_n n2 (by omega) (show ¬ (b = 1 ∧ T 111 0 59 + n < T 111 0 60 ∧ T 200 0 (T 111 0 59 + n) = wl_265.getD (k + n).toNat 0) by omega)
              · intro b11 b11b
                refine rg_i (by omega) ?_
                refine ix_i (by omega) ?_
                intro b12 b12b
                refine rg_i (by omega) ?_
                refine ix_i (by omega) ?_
                intro b13 b13b
                refine And.intro (fun c14 => ?_) (fun c14 => ?_)
                · refine hK 77 [some (vR 111 0), some (vR 265 0), some (vI wh), some (vI nr), some (vI k), some (vI n), some (vI b)] [] T ?_
                  refine j_blx (F := fX11) tb_X11 (by decide) bk_X11_whichOf_77 bs_X11_whichOf_77 hz (fun K hK => ?_)
                  refine hK 78 [some (vR 111 0), some (vR 265 0), some (vI wh), some (vI nr), some (vI k), some (vI n), some (vI b)] [vI 0] T ?_
                  refine c_78 0 ?_ ?_ ?_
                  · omega
                  · omega
                  · exact sb9_n n2 (by omega) (show ¬ (b = 1 ∧ T 111 0 59 + n < T 111 0 60 ∧ T 200 0 (T 111 0 59 + n) = wl_265.getD (k + n).toNat 0) by omega)
                · refine hK 78 [some (vR 111 0), some (vR 265 0), some (vI wh), some (vI nr), some (vI k), some (vI n), some (vI b)] [vI 1] T ?_
                  refine c_78 1 ?_ ?_ ?_
                  · omega
                  · omega
                  · exact sb9_s n2 (by omega) (by omega) (show T 200 0 (T 111 0 59 + n) = wl_265.getD (k + n).toNat 0 by omega)
      refine j_blx (F := fX11) tb_X11 (by decide) bk_X11_whichOf_7 bs_X11_whichOf_7 hz (fun K hK => ?_)
      refine And.intro (fun c15 => ?_) (fun c15 => ?_)
      · refine hK 126 [some (vR 111 0), some (vR 265 0), some (vI wh), some (vI nr), some (vI k), none, none] [] T ?_
        refine j_blx (F := fX11) tb_X11 (by decide) bk_X11_whichOf_126 bs_X11_whichOf_126 hz (fun K hK => ?_)
        refine (show po_X11_whichOf_e1 T T (some (vI wh)) from ?_)
        have hnr : nr = 4 := by
          rcases w1 with ⟨e1, he1⟩ | h9
          · have := (tb9_1.1 _ _ _ he1).1
            omega
          · exact h9.2
        rw [hnr] at w4
        exact ⟨rfl, _, rfl, by omega, wn9_e tb9_1 w4⟩
      · refine hK 20 [some (vR 111 0), some (vR 265 0), some (vI wh), some (vI nr), some (vI k), some (vI 0), some (vI 1)] [] T ?_
        refine c_20 _ 0 1 (Nat.le_refl _) ?_ ?_
        · omega
        · exact sb9_z (by omega)
  refine j_blx (F := fX11) tb_X11 (by decide) bk_X11_whichOf_0 bs_X11_whichOf_0 hz (fun K hK => ?_)
  refine hK 7 [some (vR 111 0), some (vR 265 0), some (vI (-1)), some (vI 0), some (vI 0), none, none] [] T ?_
  refine c_7 _ (-1) 0 0 (Nat.le_refl _) ?_ ?_ ?_ ?_
  · exact Or.inl ⟨_, List.mem_cons_self⟩
  · omega
  · omega
  · exact wn9_z tb9_1
theorem ww9_266 {T : Zt} (hC : CW_ T) {k nr : Int} (h : wp_266 k nr) (hk : k < 37) : ∃ e, (k, nr, e) ∈ wt_266 ∧ 0 ≤ k ∧ k ≤ e ∧ e < 37 ∧ (∀ i, k ≤ i → i < e → T 266 0 i ≠ 32) ∧ T 266 0 e = 32 ∧ wp_266 (e + 1) (nr + 1) ∧ 0 ≤ nr ∧ nr < 7 := by
  rcases h with ⟨e, he⟩ | h
  · have h1 := List.all_eq_true.mp wc_266 _ he
    simp only [Bool.and_eq_true, decide_eq_true_eq, beq_iff_eq] at h1
    obtain ⟨⟨⟨⟨a0, a1⟩, a2⟩, a3⟩, a4⟩ := h1
    have a2 : e < 37 := a2
    have hn := wn_266 _ he
    refine ⟨e, he, a0, a1, a2, fun i hi1 hi2 => ?_, ?_, hn.2.2, hn.1, hn.2.1⟩
    · have h2 := List.all_eq_true.mp a3 i.toNat (List.mem_range.mpr (by show i.toNat < 37; omega))
      rw [if_pos ⟨by omega, by omega⟩] at h2
      rw [hC.2.2.1 i (by omega) (by omega)]
      simpa using h2
    · rw [hC.2.2.1 e (by omega) (by omega)]
      exact a4
  · omega
abbrev po_X11_whichOf_e2 (T : Zt) : Zt → Option Zv → Prop := fun T' r => T = T' ∧ ∃ x : Int, r = some (vI x) ∧ ((-1 ≤ x ∧ x < 7) ∧ WD9_ wl_266 wt_266 (fun j => T 200 0 j) (T 111 0 59) (T 111 0 60) x)
set_option maxHeartbeats 4000000 in
theorem ct_X11_whichOf_e2 {T : Zt} (h1 : T 111 0 59 ≤ T 111 0 60 ∧ T 111 0 60 ≤ 400) (hC : CW_ T) : Ct_ yX11_whichOf zX11_whichOf T [vR 111 0, vR 266 0] (po_X11_whichOf_e2 T) := by
  refine ct_of (by decide) rfl rfl (Nat.le_of_ble_eq_true rfl) (fun hT hav => ?_)
  have hz : zX11_whichOf.2.2.2.1 = some .boolean → ∀ (T' : Zt) (x : Int), po_X11_whichOf_e2 T T' (some (vI x)) → 0 ≤ x ∧ x ≤ 1 := fun h => by cases h
  show J_ zX11_whichOf T (po_X11_whichOf_e2 T) 0 0 0 [some (vR 111 0), some (vR 266 0), none, none, none, none, none] [] T
  have c_7 : ∀ (nn : Nat) (wh : Int) (nr : Int) (k : Int), ((37 - k).toNat) ≤ nn → (wp_266 k nr) → (-1 ≤ wh ∧ wh < 7) → (0 ≤ k ∧ k ≤ 37) → (WN9_ wl_266 wt_266 (fun j => T 200 0 j) (T 111 0 59) (T 111 0 60) nr wh) → J_ zX11_whichOf T (po_X11_whichOf_e2 T) 0 0 7 [some (vR 111 0), some (vR 266 0), some (vI wh), some (vI nr), some (vI k), none, none] [] T := by
    intro nn
    induction nn using Nat.strongRecOn with
    | _ nn ih_7 =>
      intro wh nr k hm_7 w1 w2 w3 w4
      have hk9 : k = 37 ∨ k < 37 := by omega
      rcases hk9 with hk9 | hk9
      · refine j_blx (F := fX11) tb_X11 (by decide) bk_X11_whichOf_7 bs_X11_whichOf_7 hz (fun K hK => ?_)
        refine And.intro (fun c9 => ?_) (fun c9 => absurd c9 (by omega))
        refine hK 126 [some (vR 111 0), some (vR 266 0), some (vI wh), some (vI nr), some (vI k), none, none] [] T ?_
        refine j_blx (F := fX11) tb_X11 (by decide) bk_X11_whichOf_126 bs_X11_whichOf_126 hz (fun K hK => ?_)
        refine (show po_X11_whichOf_e2 T T (some (vI wh)) from ?_)
        have hnr : nr = 7 := by
          rcases w1 with ⟨e1, he1⟩ | h9
          · have := (tb9_2.1 _ _ _ he1).1
            omega
          · exact h9.2
        rw [hnr] at w4
        exact ⟨rfl, _, rfl, by omega, wn9_e tb9_2 w4⟩
      obtain ⟨e, hmem, hk0, he0, he1, he2, he3, hnx, hn0, hn1⟩ := ww9_266 hC w1 hk9
      have c_20 : ∀ (nn : Nat) (n : Int) (b : Int), ((e - k - n).toNat) ≤ nn → (0 ≤ n ∧ k + n ≤ e ∧ 0 ≤ b ∧ b ≤ 1) → (SB9_ wl_266 (fun j => T 200 0 j) (T 111 0 59) (T 111 0 60) k n b) → J_ zX11_whichOf T (po_X11_whichOf_e2 T) 0 0 20 [some (vR 111 0), some (vR 266 0), some (vI wh), some (vI nr), some (vI k), some (vI n), some (vI b)] [] T := by
        intro nn
        induction nn using Nat.strongRecOn with
        | _ nn ih_20 =>
          intro n b hm_20 n1 n2
          have c_78 : ∀ (v : Int), (0 ≤ v ∧ v ≤ 1) → (k + n < e) → (SB9_ wl_266 (fun j => T 200 0 j) (T 111 0 59) (T 111 0 60) k (n + 1) v) → J_ zX11_whichOf T (po_X11_whichOf_e2 T) 0 0 78 [some (vR 111 0), some (vR 266 0), some (vI wh), some (vI nr), some (vI k), some (vI n), some (vI b)] [vI v] T := by
            intro v v1 v2 v3
            refine j_blx (F := fX11) tb_X11 (by decide) bk_X11_whichOf_78 bs_X11_whichOf_78 hz (fun K hK => ?_)
            refine rg_i (by omega) ?_
            refine hK 20 [some (vR 111 0), some (vR 266 0), some (vI wh), some (vI nr), some (vI k), some (vI (n + 1)), some (vI v)] [] T ?_
            refine ih_20 _ ?_ (n + 1) v (Nat.le_refl _) ?_ ?_
            · omega
            · omega
            · exact v3
          have c_110 : ∀ (v : Int), (-1 ≤ v ∧ v < 7) → (k + n = e) → (WN9_ wl_266 wt_266 (fun j => T 200 0 j) (T 111 0 59) (T 111 0 60) (nr + 1) v) → J_ zX11_whichOf T (po_X11_whichOf_e2 T) 0 0 110 [some (vR 111 0), some (vR 266 0), some (vI wh), some (vI nr), some (vI k), some (vI n), some (vI b)] [vI v] T := by
            intro v v1 v2 v4
            refine j_blx (F := fX11) tb_X11 (by decide) bk_X11_whichOf_110 bs_X11_whichOf_110 hz (fun K hK => ?_)
            refine rg_i (by omega) ?_
            refine rg_i (by omega) ?_
            refine rg_i (by omega) ?_
            refine hK 7 [some (vR 111 0), some (vR 266 0), some (vI v), some (vI (nr + 1)), some (vI (k + (n + 1))), some (vI n), some (vI b)] [] T ?_
            refine j_drop [some (vR 111 0), some (vR 266 0), some (vI v), some (vI (nr + 1)), some (vI (k + (n + 1))), none, none] (fun k v hk => ?_) rfl ?_
            · match k, hk with
              | 0, hk => exact hk
              | 1, hk => exact hk
              | 2, hk => exact hk
              | 3, hk => exact hk
              | 4, hk => exact hk
              | 5, hk => cases hk
              | 6, hk => cases hk
              | k + 7, hk => cases hk
            refine ih_7 _ ?_ v (nr + 1) (k + (n + 1)) (Nat.le_refl _) ?_ ?_ ?_ ?_
            · omega
            · (have hz9 : k + (n + 1) = e + 1 := by omega); rw [hz9]; exact hnx
            · omega
            · omega
            · exact v4
          refine j_blx (F := fX11) tb_X11 (by decide) bk_X11_whichOf_20 bs_X11_whichOf_20 hz (fun K hK => ?_)
          refine rg_i (by omega) ?_
          refine ix_i (by omega) ?_
          intro b1 b1b
          refine And.intro (fun c2 => ?_) (fun c2 => ?_)
          · have hke : k + n = e := Classical.byContradiction (fun z => he2 (k + n) (by omega) (by omega) c2)
            refine hK 86 [some (vR 111 0), some (vR 266 0), some (vI wh), some (vI nr), some (vI k), some (vI n), some (vI b)] [] T ?_
            refine j_blx (F := fX11) tb_X11 (by decide) bk_X11_whichOf_86 bs_X11_whichOf_86 hz (fun K hK => ?_)
            refine And.intro (fun c3 => ?_) (fun c3 => ?_)
            · refine hK 109 [some (vR 111 0), some (vR 266 0), some (vI wh), some (vI nr), some (vI k), some (vI n), some (vI b)] [] T ?_
              refine j_blx (F := fX11) tb_X11 (by decide) bk_X11_whichOf_109 bs_X11_whichOf_109 hz (fun K hK => ?_)
              refine hK 110 [some (vR 111 0), some (vR 266 0), some (vI wh), some (vI nr), some (vI k), some (vI n), some (vI b)] [vI wh] T ?_
              refine c_110 wh ?_ ?_ ?_
              · omega
              · omega
              · exact wn9_n tb9_2 w4 hmem (sb9_f n2 (by omega) (by omega))
            · intro b4 b4b
              intro b5 b5b
              refine rg_i (by omega) ?_
              refine And.intro (fun c6 => ?_) (fun c6 => ?_)
              · refine hK 109 [some (vR 111 0), some (vR 266 0), some (vI wh), some (vI nr), some (vI k), some (vI n), some (vI b)] [] T ?_
                refine j_blx (F := fX11) tb_X11 (by decide) bk_X11_whichOf_109 bs_X11_whichOf_109 hz (fun K hK => ?_)
                refine hK 110 [some (vR 111 0), some (vR 266 0), some (vI wh), some (vI nr), some (vI k), some (vI n), some (vI b)] [vI wh] T ?_
                refine c_110 wh ?_ ?_ ?_
                · omega
                · omega
                · exact wn9_n tb9_2 w4 hmem (sb9_f n2 (by omega) (by omega))
              · refine hK 110 [some (vR 111 0), some (vR 266 0), some (vI wh), some (vI nr), some (vI k), some (vI n), some (vI b)] [vI nr] T ?_
                refine c_110 nr ?_ ?_ ?_
                · omega
                · omega
                · exact wn9_y hmem (sb9_e n2 (by omega) (by omega) (by omega))
          · have hke : k + n ≠ e := fun z => c2 (by rw [z]; exact he3)
            have hwr := hC.2.2.1 (k + n) (by omega) (by omega)
            refine And.intro (fun c7 => ?_) (fun c7 => ?_)
            · refine hK 77 [some (vR 111 0), some (vR 266 0), some (vI wh), some (vI nr), some (vI k), some (vI n), some (vI b)] [] T ?_
              refine j_blx (F := fX11) tb_X11 (by decide) bk_X11_whichOf_77 bs_X11_whichOf_77 hz (fun K hK => ?_)
              refine hK 78 [some (vR 111 0), some (vR 266 0), some (vI wh), some (vI nr), some (vI k), some (vI n), some (vI b)] [vI 0] T ?_
              refine c_78 0 ?_ ?_ ?_
              · omega
              · omega
              · exact sb9_n n2 (by omega) (show ¬ (b = 1 ∧ T 111 0 59 + n < T 111 0 60 ∧ T 200 0 (T 111 0 59 + n) = wl_266.getD (k + n).toNat 0) by omega)
            · intro b8 b8b
              refine rg_i (by omega) ?_
              intro b9 b9b
              refine And.intro (fun c10 => ?_) (fun c10 => ?_)
              · refine hK 77 [some (vR 111 0), some (vR 266 0), some (vI wh), some (vI nr), some (vI k), some (vI n), some (vI b)] [] T ?_
                refine j_blx (F := fX11) tb_X11 (by decide) bk_X11_whichOf_77 bs_X11_whichOf_77 hz (fun K hK => ?_)
                refine hK 78 [some (vR 111 0), some (vR 266 0), some (vI wh), some (vI nr), some (vI k), some (vI n), some (vI b)] [vI 0] T ?_
                refine c_78 0 ?_ ?_ ?_
                · omega
                · omega
                · exact sb9_n n2 (by omega) (show ¬ (b = 1 ∧ T 111 0 59 + n < T 111 0 60 ∧ T 200 0 (T 111 0 59 + n) = wl_266.getD (k + n).toNat 0) by omega)
              · intro b11 b11b
                refine rg_i (by omega) ?_
                refine ix_i (by omega) ?_
                intro b12 b12b
                refine rg_i (by omega) ?_
                refine ix_i (by omega) ?_
                intro b13 b13b
                refine And.intro (fun c14 => ?_) (fun c14 => ?_)
                · refine hK 77 [some (vR 111 0), some (vR 266 0), some (vI wh), some (vI nr), some (vI k), some (vI n), some (vI b)] [] T ?_
                  refine j_blx (F := fX11) tb_X11 (by decide) bk_X11_whichOf_77 bs_X11_whichOf_77 hz (fun K hK => ?_)
                  refine hK 78 [some (vR 111 0), some (vR 266 0), some (vI wh), some (vI nr), some (vI k), some (vI n), some (vI b)] [vI 0] T ?_
                  refine c_78 0 ?_ ?_ ?_
                  · omega
                  · omega
                  · exact sb9_n n2 (by omega) (show ¬ (b = 1 ∧ T 111 0 59 + n < T 111 0 60 ∧ T 200 0 (T 111 0 59 + n) = wl_266.getD (k + n).toNat 0) by omega)
                · refine hK 78 [some (vR 111 0), some (vR 266 0), some (vI wh), some (vI nr), some (vI k), some (vI n), some (vI b)] [vI 1] T ?_
                  refine c_78 1 ?_ ?_ ?_
                  · omega
                  · omega
                  · exact sb9_s n2 (by omega) (by omega) (show T 200 0 (T 111 0 59 + n) = wl_266.getD (k + n).toNat 0 by omega)
      refine j_blx (F := fX11) tb_X11 (by decide) bk_X11_whichOf_7 bs_X11_whichOf_7 hz (fun K hK => ?_)
      refine And.intro (fun c15 => ?_) (fun c15 => ?_)
      · refine hK 126 [some (vR 111 0), some (vR 266 0), some (vI wh), some (vI nr), some (vI k), none, none] [] T ?_
        refine j_blx (F := fX11) tb_X11 (by decide) bk_X11_whichOf_126 bs_X11_whichOf_126 hz (fun K hK => ?_)
        refine (show po_X11_whichOf_e2 T T (some (vI wh)) from ?_)
        have hnr : nr = 7 := by
          rcases w1 with ⟨e1, he1⟩ | h9
          · have := (tb9_2.1 _ _ _ he1).1
            omega
          · exact h9.2
        rw [hnr] at w4
        exact ⟨rfl, _, rfl, by omega, wn9_e tb9_2 w4⟩
      · refine hK 20 [some (vR 111 0), some (vR 266 0), some (vI wh), some (vI nr), some (vI k), some (vI 0), some (vI 1)] [] T ?_
        refine c_20 _ 0 1 (Nat.le_refl _) ?_ ?_
        · omega
        · exact sb9_z (by omega)
  refine j_blx (F := fX11) tb_X11 (by decide) bk_X11_whichOf_0 bs_X11_whichOf_0 hz (fun K hK => ?_)
  refine hK 7 [some (vR 111 0), some (vR 266 0), some (vI (-1)), some (vI 0), some (vI 0), none, none] [] T ?_
  refine c_7 _ (-1) 0 0 (Nat.le_refl _) ?_ ?_ ?_ ?_
  · exact Or.inl ⟨_, List.mem_cons_self⟩
  · omega
  · omega
  · exact wn9_z tb9_2

