abbrev po_X11_postpone_f (T : Zt) (m d : Int) : Zt → Option Zv → Prop := fun T' r => ∃ x : Int, r = some (vI x) ∧ fr_ [(234, []), (271, []), (272, []), (111, [73, 75]), (274, [])] T T' ∧ ((x = -2 ∧ ¬ (0 ≤ m ∧ m < T 111 0 29) ∧ T = T') ∨ ((0 ≤ m ∧ m < T 111 0 29) ∧ ((x = -3 ∧ ¬ (T 111 0 3 < d ∧ d ≤ 999 ∧ 0 ≤ d) ∧ T = T') ∨ ((T 111 0 3 < d ∧ d ≤ 999 ∧ 0 ≤ d) ∧ ((x = -4 ∧ ¬ (T 235 0 m = 0 ∧ T 234 0 m ≠ d) ∧ T = T') ∨ ((T 235 0 m = 0 ∧ T 234 0 m ≠ d) ∧ PTQ_ T T' m d x))))))
set_option maxHeartbeats 4000000 in
theorem ct_X11_postpone_f {T : Zt} {m d : Int} : Ct_ yX11_postpone zX11_postpone T [vR 111 0, vI m, vI d] (po_X11_postpone_f T m d) := by
  refine ct_of pn_11 rfl rfl (Nat.le_of_ble_eq_true rfl) (fun hT hav => ?_)
  have hr_m : -2147483648 ≤ m ∧ m ≤ 2147483647 := hav (vI m) (List.mem_cons_of_mem _ List.mem_cons_self)
  have hr_d : -2147483648 ≤ d ∧ d ≤ 2147483647 := hav (vI d) (List.mem_cons_of_mem _ (List.mem_cons_of_mem _ List.mem_cons_self))
  have hz : zX11_postpone.2.2.2.1 = some .boolean → ∀ (T' : Zt) (x : Int), po_X11_postpone_f T m d T' (some (vI x)) → 0 ≤ x ∧ x ≤ 1 := fun h => by cases h
  have hb_29 : 0 ≤ T 111 0 29 ∧ T 111 0 29 ≤ 400 := bd_f hT 111 29 tl_11_29 0
  have hb_3 : 0 ≤ T 111 0 3 ∧ T 111 0 3 ≤ 999 := bd_f hT 111 3 tl_11_3 0
  show J_ zX11_postpone T (po_X11_postpone_f T m d) 0 0 0 [some (vR 111 0), some (vI m), some (vI d), none, none, none, none, none, none] [] T
  have c_80 : ∀ (nn : Nat) (go : Int) (k : Int) (T1 : Zt), ((400 - k).toNat) ≤ nn → (fr_ [(234, []), (271, []), (272, []), (111, [73])] T T1) → ((0 ≤ m ∧ m < T 111 0 29) ∧ 0 ≤ d ∧ d ≤ 999 ∧ T 111 0 3 < d ∧ T 235 0 m = 0 ∧ T 234 0 m ≠ d) → (0 ≤ k ∧ k ≤ T 111 0 29 ∧ 0 ≤ T1 111 0 73 ∧ T1 111 0 73 ≤ k ∧ 0 ≤ go ∧ go ≤ 1) → (∀ i, T1 234 0 i = u1_ (fun m => T 234 0 m) m d i) → (LHD_ (fun _ => 0) (AGR_ T m d) (fun j => T1 271 0 j) 0 k 400 (T1 111 0 73)) → (∀ j, 0 ≤ j → j < T1 111 0 73 → T1 272 0 j = T 234 0 (T1 271 0 j)) → ((go = 1 ∧ (∀ j, 0 ≤ j → j < k → AGR_ T m d j → TLR_ T j)) ∨ (go = 0 ∧ ¬ (∀ j, 0 ≤ j → j < T 111 0 29 → AGR_ T m d j → TLR_ T j))) → J_ zX11_postpone T (po_X11_postpone_f T m d) 0 0 80 [some (vR 111 0), some (vI m), some (vI d), some (vI (T 234 0 m)), some (vI go), some (vI k), none, none, none] [] T1 := by
    intro nn
    induction nn using Nat.strongRecOn with
    | _ nn ih_80 =>
      intro go k T1 hm_80 hf_80 p1 i1 dy1 lh1 wd1 go1
      replace hm_80 := fun (_ : Unit) => hm_80
      have c_244 : ∀ (go : Int) (T4 : Zt), (fr_ [(234, []), (271, []), (272, []), (111, [73])] T T4) → ((0 ≤ m ∧ m < T 111 0 29) ∧ 0 ≤ d ∧ d ≤ 999 ∧ T 111 0 3 < d ∧ T 235 0 m = 0 ∧ T 234 0 m ≠ d) → (0 ≤ go ∧ go ≤ 1) → (LHD_ (fun _ => 0) (AGR_ T m d) (fun j => T4 271 0 j) 0 (T 111 0 29) 400 (T4 111 0 73)) → (∀ j, 0 ≤ j → j < T4 111 0 73 → T4 272 0 j = T 234 0 (T4 271 0 j)) → (0 ≤ T4 111 0 73 ∧ T4 111 0 73 ≤ 400) → (RVR_ T T4 (fun j => T4 271 0 j) m (T4 111 0 73) 0) → ((go = 1 ∧ (∀ j, 0 ≤ j → j < T 111 0 29 → AGR_ T m d j → TLR_ T j) ∧ (mvR_ T m d (T 111 0 29)).2 = 1 ∧ ∀ i9, T4 234 0 i9 = (mvR_ T m d (T 111 0 29)).1 i9) ∨ (go = 0 ∧ (¬ ((∀ j, 0 ≤ j → j < T 111 0 29 → AGR_ T m d j → TLR_ T j) ∧ (mvR_ T m d (T 111 0 29)).2 = 1)))) → J_ zX11_postpone T (po_X11_postpone_f T m d) 0 0 244 [some (vR 111 0), some (vI m), some (vI d), some (vI (T 234 0 m)), some (vI go), none, none, none, none] [] T4 := by
        intro go T4 hf_244 p1 i4 lh4 wd4 gm4 rv4 st4
        have hdm : 0 ≤ T 234 0 m ∧ T 234 0 m ≤ 999 := bd_a hT 234 (by decide +kernel : ta_ 234 = some (1, some 400, 0, 999)) 0 (by omega)
        have c_259 : ∀ (nn : Nat) (i : Int) (T5 : Zt), ((400 - i).toNat) ≤ nn → (fr_ [(234, []), (271, []), (272, []), (111, [73])] T T5) → (0 ≤ i ∧ (i = 0 ∨ i ≤ T5 111 0 73)) → (LHD_ (fun _ => 0) (AGR_ T m d) (fun j => T5 271 0 j) 0 (T 111 0 29) 400 (T5 111 0 73)) → (∀ j, 0 ≤ j → j < T5 111 0 73 → T5 272 0 j = T 234 0 (T5 271 0 j)) → (0 ≤ T5 111 0 73 ∧ T5 111 0 73 ≤ 400) → (RVR_ T T5 (fun j => T5 271 0 j) m (T5 111 0 73) i) → (T5 234 0 m = T 234 0 m) → (¬ ((∀ j, 0 ≤ j → j < T 111 0 29 → AGR_ T m d j → TLR_ T j) ∧ (mvR_ T m d (T 111 0 29)).2 = 1)) → J_ zX11_postpone T (po_X11_postpone_f T m d) 0 0 259 [some (vR 111 0), some (vI m), some (vI d), some (vI (T 234 0 m)), some (vI go), some (vI i), none, none, none] [] T5 := by
          intro nn
          induction nn using Nat.strongRecOn with
          | _ nn ih_259 =>
            intro i T5 hm_259 hf_259 i5 lh5 wd5 gm5 rv5 m5 bad5
            replace hm_259 := fun (_ : Unit) => hm_259
            refine j_blx (F := fX11) tb_X11 (nn_ _) bk_X11_postpone_f_259 bs_X11_postpone_f_259 hz (fun K hK => ?_)
            intro b1 b1b
            refine And.intro (fun c2 => ?_) (fun c2 => ?_)
            · refine hK 293 _ [] T5 ?_
              refine j_blx (F := fX11) tb_X11 (nn_ _) bk_X11_postpone_f_293 bs_X11_postpone_f_293 hz (fun K hK => ?_)
              refine (show po_X11_postpone_f T m d T5 (some (vI (-4))) from ?_)
              have dz : ∀ j, T5 234 0 j = T 234 0 j := fun j => by
                by_cases z : j = m
                · rw [z]; exact m5
                · exact rv5 j z (fun t t1 t2 => by omega)
              exact ⟨_, rfl, fr_t (fr_0 _ _) (fr_s hf_259 rfl), Or.inr ⟨by omega, Or.inr ⟨by omega, Or.inr ⟨by omega, Or.inl ⟨rfl, bad5, dz, fun j => hf_259 274 0 j rfl, hf_259 111 0 75 rfl⟩⟩⟩⟩⟩
            · refine ix_i (by omega) ?_
              intro b3 b3b
              refine ix_i (by omega) ?_
              intro b4 b4b
              refine iy_i (by omega) (by omega) ?_
              refine x_nm (fun U5 hU5 => ?_)
              have e6 := up_f hU5
              refine rg_i (by omega) ?_
              refine hK 259 [some (vR 111 0), some (vI m), some (vI d), some (vI (T 234 0 m)), some (vI go), some (vI (i + 1)), none, none, none] [] U5 ?_
              have e7 : U5 111 0 73 = T5 111 0 73 := up_k hU5 (by exact Nat.ne_of_beq_eq_false rfl) 0 73
              refine ih_259 _ ?_ (i + 1) U5 (Nat.le_refl _) ?_ ?_ ?_ ?_ ?_ ?_ ?_ ?_
              · have hm_259 := hm_259 (); omega
              · exact fr_u (fr_t (fr_0 _ _) (fr_s hf_259 rfl)) hU5 rfl
              · omega
              · have y9 := lh5
                rw [up_k hU5 (by exact Nat.ne_of_beq_eq_false rfl) 0 73]
                exact lhd_e y9 (fun j _ _ => up_k hU5 (by exact Nat.ne_of_beq_eq_false rfl) 0 j)
              · intro j a b
                rw [up_k hU5 (by exact Nat.ne_of_beq_eq_false rfl) 0 73] at b
                rw [up_k hU5 (by exact Nat.ne_of_beq_eq_false rfl) 0 j, up_k hU5 (by exact Nat.ne_of_beq_eq_false rfl) 0 j]
                exact wd5 j a b
              · rw [up_k hU5 (by exact Nat.ne_of_beq_eq_false rfl) 0 73]
                exact gm5
              · intro x a b
                by_cases z : x = T5 271 0 i
                · rw [z, up_f hU5]; exact wd5 i (by omega) (by omega)
                · rw [up_g hU5 (fun q => z q.2.2)]
                  refine rv5 x a (fun j c e => ?_)
                  by_cases y : j = i
                  · rw [y]; exact fun w => z w.symm
                  · show T5 271 0 j ≠ x
                    rw [← up_k hU5 (by exact Nat.ne_of_beq_eq_false rfl) 0 j]
                    exact b j (by omega) (by rw [up_k hU5 (by exact Nat.ne_of_beq_eq_false rfl)]; exact e)
              · have y9 := lh5.1 i (by omega) (by omega)
                rw [up_g hU5 (fun z => y9.2.2.1.1 z.2.2)]
                exact m5
              · exact bad5
        have c_307 : ∀ (nn : Nat) (i : Int) (T6 : Zt), ((400 - i).toNat) ≤ nn → (fr_ [(234, []), (271, []), (272, []), (111, [73, 75]), (274, [])] T T6) → (0 ≤ i ∧ (i = 0 ∨ i ≤ T4 111 0 73) ∧ go = 1) → (∀ j, T6 234 0 j = T4 234 0 j) → (∀ j, T6 271 0 j = T4 271 0 j) → (T6 111 0 73 = T4 111 0 73) → (T6 111 0 75 = T4 111 0 73) → (∀ j, 0 ≤ j → j < i → T6 274 0 j = T4 271 0 j) → J_ zX11_postpone T (po_X11_postpone_f T m d) 0 0 307 [some (vR 111 0), some (vI m), some (vI d), some (vI (T 234 0 m)), some (vI go), some (vI i), none, none, none] [] T6 := by
          intro nn
          induction nn using Nat.strongRecOn with
          | _ nn ih_307 =>
            intro i T6 hm_307 hf_307 i6 dy6 gs6 gn6 mn6 mr6
            replace hm_307 := fun (_ : Unit) => hm_307
            refine j_blx (F := fX11) tb_X11 (nn_ _) bk_X11_postpone_f_307 bs_X11_postpone_f_307 hz (fun K hK => ?_)
            intro b8 b8b
            refine And.intro (fun c9 => ?_) (fun c9 => ?_)
            · refine hK 336 _ [] T6 ?_
              refine j_blx (F := fX11) tb_X11 (nn_ _) bk_X11_postpone_f_336 bs_X11_postpone_f_336 hz (fun K hK => ?_)
              intro b10 b10b
              refine (show po_X11_postpone_f T m d T6 (some (vI (T6 111 0 75))) from ?_)
              have z := (st4.resolve_right (fun y => by have := y.1; omega))
              have lm : LHD_ (fun _ => 0) (AGR_ T m d) (fun j => T6 274 0 j) 0 (T 111 0 29) 400 (T6 111 0 75) := by
                rw [mn6]
                exact lhd_e lh4 (fun j a b => mr6 j a (by omega))
              exact ⟨_, rfl, fr_t (fr_0 _ _) (fr_s hf_307 rfl), Or.inr ⟨by omega, Or.inr ⟨by omega, Or.inr ⟨by omega, Or.inr ⟨by omega, z.2.1, z.2.2.1, fun j => (dy6 j).trans (z.2.2.2 j), lm, rfl⟩⟩⟩⟩⟩
            · refine ix_i (by omega) ?_
              intro b11 b11b
              refine iy_i (by omega) (by omega) ?_
              refine x_nm (fun U12 hU12 => ?_)
              have e13 := up_f hU12
              refine rg_i (by omega) ?_
              refine hK 307 [some (vR 111 0), some (vI m), some (vI d), some (vI (T 234 0 m)), some (vI go), some (vI (i + 1)), none, none, none] [] U12 ?_
              have e14 : U12 111 0 73 = T6 111 0 73 := up_k hU12 (by exact Nat.ne_of_beq_eq_false rfl) 0 73
              have e15 : U12 111 0 75 = T6 111 0 75 := up_k hU12 (by exact Nat.ne_of_beq_eq_false rfl) 0 75
              refine ih_307 _ ?_ (i + 1) U12 (Nat.le_refl _) ?_ ?_ ?_ ?_ ?_ ?_ ?_
              · have hm_307 := hm_307 (); omega
              · exact fr_u (fr_t (fr_0 _ _) (fr_s hf_307 rfl)) hU12 rfl
              · omega
              · exact fun j => (up_k hU12 (by exact Nat.ne_of_beq_eq_false rfl) 0 j).trans (dy6 j)
              · exact fun j => (up_k hU12 (by exact Nat.ne_of_beq_eq_false rfl) 0 j).trans (gs6 j)
              · exact (up_k hU12 (by exact Nat.ne_of_beq_eq_false rfl) 0 73).trans gn6
              · exact (up_k hU12 (by exact Nat.ne_of_beq_eq_false rfl) 0 75).trans mn6
              · intro j a b
                by_cases z : j = i
                · rw [z, up_f hU12]; exact gs6 i
                · rw [up_g hU12 (fun q => z q.2.2)]; exact mr6 j a (by omega)
        refine j_blx (F := fX11) tb_X11 (nn_ _) bk_X11_postpone_f_244 bs_X11_postpone_f_244 hz (fun K hK => ?_)
        refine And.intro (fun c16 => ?_) (fun c16 => ?_)
        · refine hK 296 _ [] T4 ?_
          refine j_blx (F := fX11) tb_X11 (nn_ _) bk_X11_postpone_f_296 bs_X11_postpone_f_296 hz (fun K hK => ?_)
          intro b17 b17b
          refine bd_i (by omega) ?_
          refine x_nm (fun U18 hU18 => ?_)
          have e19 := up_f hU18
          refine hK 307 [some (vR 111 0), some (vI m), some (vI d), some (vI (T 234 0 m)), some (vI go), some (vI 0), none, none, none] [] U18 ?_
          have e20 : U18 111 0 73 = T4 111 0 73 := up_j hU18 (by decide) 111 0
          have e21 : U18 111 0 75 = T4 111 0 73 := up_f hU18
          refine c_307 _ 0 U18 (Nat.le_refl _) ?_ ?_ ?_ ?_ ?_ ?_ ?_
          · exact fr_u (fr_t (fr_0 _ _) (fr_s hf_244 rfl)) hU18 rfl
          · omega
          · exact fun j => up_k hU18 (by exact Nat.ne_of_beq_eq_false rfl) 0 j
          · exact fun j => up_k hU18 (by exact Nat.ne_of_beq_eq_false rfl) 0 j
          · exact up_j hU18 (by decide) 111 0
          · exact up_f hU18
          · intro j a b; omega
        · refine iy_i (by omega) (by omega) ?_
          refine x_nm (fun U22 hU22 => ?_)
          have e23 := up_f hU22
          refine hK 259 _ [] U22 ?_
          have e24 : U22 111 0 73 = T4 111 0 73 := up_k hU22 (by exact Nat.ne_of_beq_eq_false rfl) 0 73
          have e25 : U22 234 0 m = T 234 0 m := up_f hU22
          refine c_259 _ 0 U22 (Nat.le_refl _) ?_ ?_ ?_ ?_ ?_ ?_ ?_ ?_
          · exact fr_u (fr_t (fr_0 _ _) (fr_s hf_244 rfl)) hU22 rfl
          · omega
          · have y9 := lh4
            rw [up_k hU22 (by exact Nat.ne_of_beq_eq_false rfl) 0 73]
            exact lhd_e y9 (fun j _ _ => up_k hU22 (by exact Nat.ne_of_beq_eq_false rfl) 0 j)
          · intro j a b
            rw [up_k hU22 (by exact Nat.ne_of_beq_eq_false rfl) 0 73] at b
            rw [up_k hU22 (by exact Nat.ne_of_beq_eq_false rfl) 0 j, up_k hU22 (by exact Nat.ne_of_beq_eq_false rfl) 0 j]
            exact wd4 j a b
          · rw [up_k hU22 (by exact Nat.ne_of_beq_eq_false rfl) 0 73]
            exact gm4
          · intro x a b
            rw [up_g hU22 (fun z => a z.2.2)]
            exact rv4 x a (fun j c e => by show T4 271 0 j ≠ x; rw [← up_k hU22 (by exact Nat.ne_of_beq_eq_false rfl) 0 j]; exact b j c (by rw [up_k hU22 (by exact Nat.ne_of_beq_eq_false rfl)]; exact e))
          · exact up_f hU22
          · exact (st4.resolve_left (fun y => by have := y.1; omega)).2
      have c_167 : ∀ (nn : Nat) (go : Int) (i : Int) (T2 : Zt), ((400 - i).toNat) ≤ nn → (fr_ [(234, []), (271, []), (272, []), (111, [73])] T T2) → ((0 ≤ m ∧ m < T 111 0 29) ∧ 0 ≤ d ∧ d ≤ 999 ∧ T 111 0 3 < d ∧ T 235 0 m = 0 ∧ T 234 0 m ≠ d) → (0 ≤ i ∧ 0 ≤ go ∧ go ≤ 1 ∧ (i = 0 ∨ i ≤ T2 111 0 73)) → (LHD_ (fun _ => 0) (AGR_ T m d) (fun j => T2 271 0 j) 0 (T 111 0 29) 400 (T2 111 0 73)) → (∀ j, 0 ≤ j → j < T2 111 0 73 → T2 272 0 j = T 234 0 (T2 271 0 j)) → (0 ≤ T2 111 0 73 ∧ T2 111 0 73 ≤ 400) → (RVR_ T T2 (fun j => T2 271 0 j) m (T2 111 0 73) 0) → ((go = 1 ∧ (∀ j, 0 ≤ j → j < T 111 0 29 → AGR_ T m d j → TLR_ T j) ∧ ∀ K, KKG_ (fun j => T2 271 0 j) i (T2 111 0 73) (T 111 0 29) K → (mvR_ T m d K).2 = 1 ∧ ∀ i9, T2 234 0 i9 = (mvR_ T m d K).1 i9) ∨ (go = 0 ∧ (¬ ((∀ j, 0 ≤ j → j < T 111 0 29 → AGR_ T m d j → TLR_ T j) ∧ (mvR_ T m d (T 111 0 29)).2 = 1)))) → J_ zX11_postpone T (po_X11_postpone_f T m d) 0 0 167 [some (vR 111 0), some (vI m), some (vI d), some (vI (T 234 0 m)), some (vI go), some (vI i), none, none, none] [] T2 := by
        intro nn
        induction nn using Nat.strongRecOn with
        | _ nn ih_167 =>
          intro go i T2 hm_167 hf_167 p1 i2 lh2 wd2 gm2 rv2 st2
          replace hm_167 := fun (_ : Unit) => hm_167
          have c_198 : ∀ (nn : Nat) (g : Int) (to : Int) (fr : Int) (T3 : Zt), ((1000 - to).toNat) ≤ nn → (fr_ [(234, []), (271, []), (272, []), (111, [73])] T T3) → (0 ≤ g ∧ g < 400 ∧ d + 1 ≤ to ∧ (to = d + 1 ∨ to ≤ 1000) ∧ 0 ≤ fr ∧ fr ≤ 1 ∧ i < T2 111 0 73 ∧ go = 1) → (g = T2 271 0 i) → (∀ j, j ≠ g → T3 234 0 j = T2 234 0 j) → (∀ j, T3 271 0 j = T2 271 0 j) → (∀ j, T3 272 0 j = T2 272 0 j) → (T3 111 0 73 = T2 111 0 73) → ((fr = 0 ∧ ffd_ (BKR_ T (mvR_ T m d g).1 g) (999 - d).toNat (d + 1) = ffd_ (BKR_ T (mvR_ T m d g).1 g) (1000 - to).toNat to) ∨ (fr = 1 ∧ ffd_ (BKR_ T (mvR_ T m d g).1 g) (999 - d).toNat (d + 1) = to - 1 ∧ T3 234 0 g = to - 1)) → J_ zX11_postpone T (po_X11_postpone_f T m d) 0 0 198 [some (vR 111 0), some (vI m), some (vI d), some (vI (T 234 0 m)), some (vI go), some (vI i), some (vI g), some (vI to), some (vI fr)] [] T3 := by
            intro nn
            induction nn using Nat.strongRecOn with
            | _ nn ih_198 =>
              intro g to fr T3 hm_198 hf_198 i3 gl2 ot3 gs3 ws3 gn3 ff3
              replace hm_198 := fun (_ : Unit) => hm_198
              refine j_blx (F := fX11) tb_X11 (nn_ _) bk_X11_postpone_f_198 bs_X11_postpone_f_198 hz (fun K hK => ?_)
              refine And.intro (fun c26 => ?_) (fun c26 => ?_)
              · refine hK 234 _ [] T3 ?_
                refine j_blx (F := fX11) tb_X11 (nn_ _) bk_X11_postpone_f_234 bs_X11_postpone_f_234 hz (fun K hK => ?_)
                refine rg_i (by omega) ?_
                refine hK 167 [some (vR 111 0), some (vI m), some (vI d), some (vI (T 234 0 m)), some (vI fr), some (vI (i + 1)), some (vI g), some (vI to), some (vI fr)] [] T3 ?_
                have w9 := (st2.resolve_right (fun y => by have := y.1; omega)).2.2 g (Or.inl ⟨by omega, gl2⟩)
                have y9 := lh2.1 i (by omega) (by omega)
                have gl3 : T3 271 0 i = g := (gs3 i).trans gl2.symm
                have ya : AGR_ T m d g := by rw [gl2]; exact y9.2.2.1
                have yg : 0 ≤ g ∧ g < T 111 0 29 := by rw [gl2]; exact ⟨y9.1, by have h9 : T2 271 0 i < T 111 0 29 := (by have h8 := y9.2.1; dsimp only at h8; omega); exact h9⟩
                have st3 : (fr = 1 ∧ (∀ j, 0 ≤ j → j < T 111 0 29 → AGR_ T m d j → TLR_ T j) ∧ ∀ K, KKG_ (fun j => T3 271 0 j) (i + 1) (T3 111 0 73) (T 111 0 29) K → (mvR_ T m d K).2 = 1 ∧ ∀ i9, T3 234 0 i9 = (mvR_ T m d K).1 i9) ∨ (fr = 0 ∧ (¬ ((∀ j, 0 ≤ j → j < T 111 0 29 → AGR_ T m d j → TLR_ T j) ∧ (mvR_ T m d (T 111 0 29)).2 = 1))) := by
                  rcases ff3 with z | z
                  · refine Or.inr ⟨z.1, fun c => ?_⟩
                    have tz : 999 < to := by omega
                    have e := z.2
                    rw [show (1000 - to).toNat = 0 by omega] at e
                    exact mvR_x yg.1 w9.1 ya e yg.2 c.2
                  · refine Or.inl ⟨z.1, (st2.resolve_right (fun y => by have := y.1; omega)).2.1, fun K hK => ?_⟩
                    have e1 := mvR_y yg.1 w9.1 ya (by rw [z.2.1]; omega)
                    have hK2 : KKG_ (fun j => T2 271 0 j) (i + 1) (T2 111 0 73) (T 111 0 29) K := by
                      rcases hK with ⟨a, b⟩ | ⟨a, b⟩
                      · exact Or.inl ⟨by rw [← gn3]; exact a, b.trans (gs3 _)⟩
                      · exact Or.inr ⟨by rw [← gn3]; exact a, b⟩
                    have kl := kk_l lh2 (by omega) (by omega) hK2
                    have kl2 : g + 1 ≤ K := by rw [gl2]; exact kl
                    have e2 := mvR_i (T := T) (p := m) (d := d) (A := g + 1) (B := K) (by omega) kl2 (fun q a b => kk_s lh2 (by omega) (by omega) hK2 (by omega) q (by rw [gl2] at a; exact a) b (by have := kk_b lh2 (by omega) (by omega) hK2; omega))
                    rw [e2, e1]
                    refine ⟨rfl, fun i9 => ?_⟩
                    show T3 234 0 i9 = u1_ _ g _ i9
                    by_cases zi : i9 = g
                    · rw [zi, u1_s, z.2.2, z.2.1]
                    · rw [u1_n zi, ot3 i9 zi]; exact w9.2 i9
                refine j_drop [some (vR 111 0), some (vI m), some (vI d), some (vI (T 234 0 m)), some (vI fr), some (vI (i + 1)), none, none, none] (fun k v hk => ?_) rfl ?_
                · match k, hk with
                  | 0, hk => exact hk
                  | 1, hk => exact hk
                  | 2, hk => exact hk
                  | 3, hk => exact hk
                  | 4, hk => exact hk
                  | 5, hk => exact hk
                  | 6, hk => cases hk
                  | 7, hk => cases hk
                  | 8, hk => cases hk
                  | k + 9, hk => cases hk
                refine ih_167 _ ?_ fr (i + 1) T3 (Nat.le_refl _) ?_ ?_ ?_ ?_ ?_ ?_ ?_ ?_
                · have hm_167 := hm_167 (); omega
                · exact fr_t (fr_0 _ _) (fr_s hf_198 rfl)
                · omega
                · omega
                · rw [gn3]
                  exact lhd_e lh2 (fun j _ _ => gs3 j)
                · intro j a b
                  rw [gn3] at b
                  rw [ws3, gs3]
                  exact wd2 j a b
                · rw [gn3]; exact gm2
                · intro x a b
                  have nx : x ≠ g := fun u => b i (by omega) (by omega) (gl3.trans u.symm)
                  rw [ot3 x nx]
                  exact rv2 x a (fun j c e => by show T2 271 0 j ≠ x; rw [← gs3 j]; exact b j c (by rw [gn3]; exact e))
                · exact st3
              · refine And.intro (fun c27 => ?_) (fun c27 => ?_)
                · refine hK 234 [some (vR 111 0), some (vI m), some (vI d), some (vI (T 234 0 m)), some (vI go), some (vI i), some (vI g), some (vI to), some (vI fr)] [] T3 ?_
                  refine j_blx (F := fX11) tb_X11 (nn_ _) bk_X11_postpone_f_234 bs_X11_postpone_f_234 hz (fun K hK => ?_)
                  refine rg_i (by omega) ?_
                  refine hK 167 [some (vR 111 0), some (vI m), some (vI d), some (vI (T 234 0 m)), some (vI fr), some (vI (i + 1)), some (vI g), some (vI to), some (vI fr)] [] T3 ?_
                  have w9 := (st2.resolve_right (fun y => by have := y.1; omega)).2.2 g (Or.inl ⟨by omega, gl2⟩)
                  have y9 := lh2.1 i (by omega) (by omega)
                  have gl3 : T3 271 0 i = g := (gs3 i).trans gl2.symm
                  have ya : AGR_ T m d g := by rw [gl2]; exact y9.2.2.1
                  have yg : 0 ≤ g ∧ g < T 111 0 29 := by rw [gl2]; exact ⟨y9.1, by have h9 : T2 271 0 i < T 111 0 29 := (by have h8 := y9.2.1; dsimp only at h8; omega); exact h9⟩
                  have st3 : (fr = 1 ∧ (∀ j, 0 ≤ j → j < T 111 0 29 → AGR_ T m d j → TLR_ T j) ∧ ∀ K, KKG_ (fun j => T3 271 0 j) (i + 1) (T3 111 0 73) (T 111 0 29) K → (mvR_ T m d K).2 = 1 ∧ ∀ i9, T3 234 0 i9 = (mvR_ T m d K).1 i9) ∨ (fr = 0 ∧ (¬ ((∀ j, 0 ≤ j → j < T 111 0 29 → AGR_ T m d j → TLR_ T j) ∧ (mvR_ T m d (T 111 0 29)).2 = 1))) := by
                    rcases ff3 with z | z
                    · refine Or.inr ⟨z.1, fun c => ?_⟩
                      have tz : 999 < to := by omega
                      have e := z.2
                      rw [show (1000 - to).toNat = 0 by omega] at e
                      exact mvR_x yg.1 w9.1 ya e yg.2 c.2
                    · refine Or.inl ⟨z.1, (st2.resolve_right (fun y => by have := y.1; omega)).2.1, fun K hK => ?_⟩
                      have e1 := mvR_y yg.1 w9.1 ya (by rw [z.2.1]; omega)
                      have hK2 : KKG_ (fun j => T2 271 0 j) (i + 1) (T2 111 0 73) (T 111 0 29) K := by
                        rcases hK with ⟨a, b⟩ | ⟨a, b⟩
                        · exact Or.inl ⟨by rw [← gn3]; exact a, b.trans (gs3 _)⟩
                        · exact Or.inr ⟨by rw [← gn3]; exact a, b⟩
                      have kl := kk_l lh2 (by omega) (by omega) hK2
                      have kl2 : g + 1 ≤ K := by rw [gl2]; exact kl
                      have e2 := mvR_i (T := T) (p := m) (d := d) (A := g + 1) (B := K) (by omega) kl2 (fun q a b => kk_s lh2 (by omega) (by omega) hK2 (by omega) q (by rw [gl2] at a; exact a) b (by have := kk_b lh2 (by omega) (by omega) hK2; omega))
                      rw [e2, e1]
                      refine ⟨rfl, fun i9 => ?_⟩
                      show T3 234 0 i9 = u1_ _ g _ i9
                      by_cases zi : i9 = g
                      · rw [zi, u1_s, z.2.2, z.2.1]
                      · rw [u1_n zi, ot3 i9 zi]; exact w9.2 i9
                  refine j_drop [some (vR 111 0), some (vI m), some (vI d), some (vI (T 234 0 m)), some (vI fr), some (vI (i + 1)), none, none, none] (fun k v hk => ?_) rfl ?_
                  · match k, hk with
                    | 0, hk => exact hk
                    | 1, hk => exact hk
                    | 2, hk => exact hk
                    | 3, hk => exact hk
                    | 4, hk => exact hk
                    | 5, hk => exact hk
                    | 6, hk => cases hk
                    | 7, hk => cases hk
                    | 8, hk => cases hk
                    | k + 9, hk => cases hk
                  refine ih_167 _ ?_ fr (i + 1) T3 (Nat.le_refl _) ?_ ?_ ?_ ?_ ?_ ?_ ?_ ?_
                  · have hm_167 := hm_167 (); omega
                  · exact fr_t (fr_0 _ _) (fr_s hf_198 rfl)
                  · omega
                  · omega
                  · rw [gn3]
                    exact lhd_e lh2 (fun j _ _ => gs3 j)
                  · intro j a b
                    rw [gn3] at b
                    rw [ws3, gs3]
                    exact wd2 j a b
                  · rw [gn3]; exact gm2
                  · intro x a b
                    have nx : x ≠ g := fun u => b i (by omega) (by omega) (gl3.trans u.symm)
                    rw [ot3 x nx]
                    exact rv2 x a (fun j c e => by show T2 271 0 j ≠ x; rw [← gs3 j]; exact b j c (by rw [gn3]; exact e))
                  · exact st3
                · refine iy_i (by omega) (by omega) ?_
                  refine x_nm (fun U28 hU28 => ?_)
                  have e29 := up_f hU28
                  refine hK 223 [some (vR 111 0), some (vI m), some (vI d), some (vI (T 234 0 m)), some (vI go), some (vI i), some (vI g), some (vI to), some (vI fr)] [vI g, vR 111 0] U28 ?_
                  refine j_callV (y := yX11_nothingAgainst) (Yc := zX11_nothingAgainst) (rest := []) [vI g] (ct_X11_nothingAgainst_f (T := U28) (by omega)) cl_X11_359 (qd_c (by decide +kernel)) (nn_ _) rfl (rf_of rfl) (Nat.le_of_ble_eq_true rfl) (Nat.le_of_ble_eq_true rfl) (Nat.le_of_ble_eq_true rfl) rfl ?_
                  rintro _ _ ⟨rfl, x30, rfl, hx30⟩
                  have bx30 : 0 ≤ x30 ∧ x30 ≤ 1 := by rcases hx30 with z | z <;> (have := z.1; omega)
                  show J_ zX11_postpone T (po_X11_postpone_f T m d) 0 0 226 _ [vI x30] U28
                  refine j_blx (F := fX11) tb_X11 (nn_ _) bk_X11_postpone_f_226 bs_X11_postpone_f_226 hz (fun K hK => ?_)
                  refine rg_i (by omega) ?_
                  refine hK 198 [some (vR 111 0), some (vI m), some (vI d), some (vI (T 234 0 m)), some (vI go), some (vI i), some (vI g), some (vI (to + 1)), some (vI x30)] [] U28 ?_
                  have e31 : U28 111 0 73 = T3 111 0 73 := up_k hU28 (by exact Nat.ne_of_beq_eq_false rfl) 0 73
                  refine ih_198 _ ?_ g (to + 1) x30 U28 (Nat.le_refl _) ?_ ?_ ?_ ?_ ?_ ?_ ?_ ?_
                  · have hm_198 := hm_198 (); omega
                  · exact fr_u (fr_t (fr_0 _ _) (fr_s hf_198 rfl)) hU28 rfl
                  · omega
                  · exact gl2
                  · exact fun j hj => (up_g hU28 (fun z => hj z.2.2)).trans (ot3 j hj)
                  · exact fun j => (up_k hU28 (by exact Nat.ne_of_beq_eq_false rfl) 0 j).trans (gs3 j)
                  · exact fun j => (up_k hU28 (by exact Nat.ne_of_beq_eq_false rfl) 0 j).trans (ws3 j)
                  · exact (up_k hU28 (by exact Nat.ne_of_beq_eq_false rfl) 0 73).trans gn3
                  · have w9 := (st2.resolve_right (fun y => by have := y.1; omega)).2.2 g (Or.inl ⟨by omega, gl2⟩)
                    have e9 : BKR_ U28 (fun m => U28 234 0 m) g (U28 234 0 g) ↔ BKR_ T (mvR_ T m d g).1 g to := by
                      rw [bkr_k (kpr_f (ws := [(234, []), (271, []), (272, []), (111, [73])]) (fr_u (fr_t (fr_0 _ _) (fr_s hf_198 rfl)) hU28 rfl) ⟨fun _ => rfl, fun _ => rfl, fun _ => rfl, fun _ => rfl, fun _ => rfl, fun _ => rfl, rfl⟩), up_f hU28]
                      exact bkr_d (fun b hb => by show U28 234 0 b = _; rw [up_g hU28 (fun z => hb z.2.2), ot3 b hb]; exact w9.2 b)
                    have f9 := (ff3.resolve_right (fun y => by have := y.1; omega)).2
                    rw [show (1000 - to).toNat = (1000 - (to + 1)).toNat + 1 by omega] at f9
                    rcases hx30 with z | z
                    · refine Or.inr ⟨z.1, ?_, ?_⟩
                      · rw [f9, ffd_f (fun y => z.2 (e9.mpr y))]; omega
                      · rw [up_f hU28]; omega
                    · refine Or.inl ⟨z.1, ?_⟩
                      rw [f9, ffd_t (e9.mp z.2)]
          refine j_blx (F := fX11) tb_X11 (nn_ _) bk_X11_postpone_f_167 bs_X11_postpone_f_167 hz (fun K hK => ?_)
          intro b32 b32b
          refine And.intro (fun c33 => ?_) (fun c33 => ?_)
          · refine hK 244 _ [] T2 ?_
            refine j_drop [some (vR 111 0), some (vI m), some (vI d), some (vI (T 234 0 m)), some (vI go), none, none, none, none] (fun k v hk => ?_) rfl ?_
            · match k, hk with
              | 0, hk => exact hk
              | 1, hk => exact hk
              | 2, hk => exact hk
              | 3, hk => exact hk
              | 4, hk => exact hk
              | 5, hk => cases hk
              | 6, hk => cases hk
              | 7, hk => cases hk
              | 8, hk => cases hk
              | k + 9, hk => cases hk
            refine c_244 go T2 ?_ ?_ ?_ ?_ ?_ ?_ ?_ ?_
            · exact fr_t (fr_0 _ _) (fr_s hf_167 rfl)
            · omega
            · omega
            · have y9 := lh2
              exact y9
            · exact wd2
            · exact gm2
            · exact rv2
            · rcases st2 with z | z
              · have w := z.2.2 (T 111 0 29) (Or.inr ⟨by omega, rfl⟩)
                exact Or.inl ⟨z.1, z.2.1, w.1, w.2⟩
              · exact Or.inr z
          · refine And.intro (fun c34 => ?_) (fun c34 => ?_)
            · refine hK 244 [some (vR 111 0), some (vI m), some (vI d), some (vI (T 234 0 m)), some (vI go), some (vI i), none, none, none] [] T2 ?_
              refine j_drop [some (vR 111 0), some (vI m), some (vI d), some (vI (T 234 0 m)), some (vI go), none, none, none, none] (fun k v hk => ?_) rfl ?_
              · match k, hk with
                | 0, hk => exact hk
                | 1, hk => exact hk
                | 2, hk => exact hk
                | 3, hk => exact hk
                | 4, hk => exact hk
                | 5, hk => cases hk
                | 6, hk => cases hk
                | 7, hk => cases hk
                | 8, hk => cases hk
                | k + 9, hk => cases hk
              refine c_244 go T2 ?_ ?_ ?_ ?_ ?_ ?_ ?_ ?_
              · exact fr_t (fr_0 _ _) (fr_s hf_167 rfl)
              · omega
              · omega
              · have y9 := lh2
                exact y9
              · exact wd2
              · exact gm2
              · exact rv2
              · rcases st2 with z | z
                · have w := z.2.2 (T 111 0 29) (Or.inr ⟨by omega, rfl⟩)
                  exact Or.inl ⟨z.1, z.2.1, w.1, w.2⟩
                · exact Or.inr z
            · refine ix_i (by omega) ?_
              intro b35 b35b
              refine rg_i (by omega) ?_
              refine hK 198 [some (vR 111 0), some (vI m), some (vI d), some (vI (T 234 0 m)), some (vI go), some (vI i), some (vI (T2 271 0 i)), some (vI (d + 1)), some (vI 0)] [] T2 ?_
              refine c_198 _ (T2 271 0 i) (d + 1) 0 T2 (Nat.le_refl _) ?_ ?_ ?_ ?_ ?_ ?_ ?_ ?_
              · exact fr_t (fr_0 _ _) (fr_s hf_167 rfl)
              · omega
              · rfl
              · exact fun j _ => rfl
              · exact fun j => rfl
              · exact fun j => rfl
              · rfl
              · exact Or.inl ⟨rfl, by rw [show (1000 - (d + 1)).toNat = (999 - d).toNat by omega]⟩
      refine j_blx (F := fX11) tb_X11 (nn_ _) bk_X11_postpone_f_80 bs_X11_postpone_f_80 hz (fun K hK => ?_)
      intro b36 b36b
      have e37 : T1 111 0 29 = T 111 0 29 := hf_80 111 0 29 rfl
      rw [e37] at b36 b36b ⊢
      refine And.intro (fun c38 => ?_) (fun c38 => ?_)
      · refine hK 164 _ [] T1 ?_
        refine j_blx (F := fX11) tb_X11 (nn_ _) bk_X11_postpone_f_164 bs_X11_postpone_f_164 hz (fun K hK => ?_)
        refine hK 167 [some (vR 111 0), some (vI m), some (vI d), some (vI (T 234 0 m)), some (vI go), some (vI 0), none, none, none] [] T1 ?_
        refine c_167 _ go 0 T1 (Nat.le_refl _) ?_ ?_ ?_ ?_ ?_ ?_ ?_ ?_
        · exact fr_t (fr_0 _ _) (fr_s hf_80 rfl)
        · omega
        · omega
        · have y9 : LHD_ (fun _ => 0) (AGR_ T m d) (fun j => T1 271 0 j) 0 (T 111 0 29) 400 (T1 111 0 73) := by rw [show T 111 0 29 = k from Int.le_antisymm (by omega) (by omega)]; exact lh1
          exact y9
        · exact wd1
        · omega
        · exact fun x a _ => by rw [dy1 x, u1_n a]
        · rcases go1 with z | z
          · have al : ∀ j, 0 ≤ j → j < T 111 0 29 → AGR_ T m d j → TLR_ T j := fun j a b c => z.2 j a (by omega) c
            refine Or.inl ⟨z.1, al, fun K hK => ?_⟩
            have lh9 : LHD_ (fun _ => 0) (AGR_ T m d) (fun j => T1 271 0 j) 0 (T 111 0 29) 400 (T1 111 0 73) := by rw [show T 111 0 29 = k from Int.le_antisymm (by omega) (by omega)]; exact lh1
            have kb := kk_b lh9 (Int.le_refl 0) (by omega) hK
            have e := mvR_i (T := T) (p := m) (d := d) (A := 0) (B := K) (Int.le_refl 0) kb.1 (fun q a b => kk_0 lh9 hK (by omega) (by omega) q a b (by omega))
            rw [e]
            exact ⟨rfl, dy1⟩
          · exact Or.inr ⟨z.1, fun y => z.2 y.1⟩
      · refine hK 93 [some (vR 111 0), some (vI m), some (vI d), some (vI (T 234 0 m)), some (vI go), some (vI k), none, none, none] [vI k, vI m, vR 111 0] T1 ?_
        refine j_callV (y := yX11_standAgainst) (Yc := zX11_standAgainst) (rest := []) [vI m, vI k] (ct_X11_standAgainst_f (T := T1) (by omega) (by omega)) cl_X11_353 (qd_c (by decide +kernel)) (nn_ _) rfl (rf_of rfl) (Nat.le_of_ble_eq_true rfl) (Nat.le_of_ble_eq_true rfl) (Nat.le_of_ble_eq_true rfl) rfl ?_
        rintro _ _ ⟨rfl, x39, rfl, hx39⟩
        have bx39 : 0 ≤ x39 ∧ x39 ≤ 1 := by rcases hx39 with z | z <;> (have := z.1; omega)
        show J_ zX11_postpone T (po_X11_postpone_f T m d) 0 0 96 _ [vI x39] T1
        have ag9 : (x39 = 1 ∧ AGR_ T m d k) ∨ (x39 = 0 ∧ ¬ AGR_ T m d k) := by
          have e9 : SAR_ T1 (fun m => T1 234 0 m) m k (T1 234 0 m) ↔ AGR_ T m d k := by
            rw [sar_k (kpr_f (ws := [(234, []), (271, []), (272, []), (111, [73])]) (fr_t (fr_0 _ _) (fr_s hf_80 rfl)) ⟨fun _ => rfl, fun _ => rfl, fun _ => rfl, fun _ => rfl, fun _ => rfl, fun _ => rfl, rfl⟩), dy1 m, u1_s]
            exact sar_d (fun z => by show T1 234 0 k = T 234 0 k; rw [dy1 k, u1_n z])
          rcases hx39 with z | z
          · exact Or.inl ⟨z.1, e9.mp z.2⟩
          · exact Or.inr ⟨z.1, fun y => z.2 (e9.mpr y)⟩
        refine j_blx (F := fX11) tb_X11 (nn_ _) bk_X11_postpone_f_96 bs_X11_postpone_f_96 hz (fun K hK => ?_)
        refine And.intro (fun c40 => ?_) (fun c40 => ?_)
        · refine hK 158 _ [] T1 ?_
          refine j_blx (F := fX11) tb_X11 (nn_ _) bk_X11_postpone_f_158 bs_X11_postpone_f_158 hz (fun K hK => ?_)
          refine rg_i (by omega) ?_
          refine hK 80 [some (vR 111 0), some (vI m), some (vI d), some (vI (T 234 0 m)), some (vI go), some (vI (k + 1)), none, none, none] [] T1 ?_
          refine ih_80 _ ?_ go (k + 1) T1 (Nat.le_refl _) ?_ ?_ ?_ ?_ ?_ ?_ ?_
          · have hm_80 := hm_80 (); omega
          · exact fr_t (fr_0 _ _) (fr_s hf_80 rfl)
          · omega
          · omega
          · exact dy1
          · have y9 := lhd_n lh1 (fun z => by
              have z1 : AGR_ T m d (0 + k) := z.1
              rw [Int.zero_add] at z1
              rcases ag9 with y | y
              · omega
              · exact y.2 z1)
            exact y9
          · exact wd1
          · rcases go1 with z | z
            · refine Or.inl ⟨z.1, fun j a b c => ?_⟩
              by_cases y : j = k
              · rw [y] at c; exact absurd c (ag9.resolve_left (fun y => by have := y.1; omega)).2
              · exact z.2 j a (by omega) c
            · exact Or.inr z
        · intro b41 b41b
          refine iy_i (by omega) (by omega) ?_
          refine x_nm (fun U42 hU42 => ?_)
          have e43 := up_f hU42
          intro b44 b44b
          have e45 : U42 111 0 73 = T1 111 0 73 := up_k hU42 (by exact Nat.ne_of_beq_eq_false rfl) 0 73
          rw [e45] at b44 b44b ⊢
          refine ix_i (by omega) ?_
          intro b46 b46b
          have e47 : U42 234 0 k = T1 234 0 k := up_k hU42 (by exact Nat.ne_of_beq_eq_false rfl) 0 k
          rw [e47] at b46 b46b ⊢
          refine iy_i (by omega) (by omega) ?_
          refine x_nm (fun U48 hU48 => ?_)
          have e49 := up_f hU48
          intro b50 b50b
          have e51 : U48 111 0 73 = T1 111 0 73 := (up_k hU48 (by exact Nat.ne_of_beq_eq_false rfl) 0 73).trans (up_k hU42 (by exact Nat.ne_of_beq_eq_false rfl) 0 73)
          rw [e51] at b50 b50b ⊢
          refine rg_i (by omega) ?_
          refine bd_i (by omega) ?_
          refine x_nm (fun U52 hU52 => ?_)
          have e53 := up_f hU52
          refine And.intro (fun c54 => ?_) (fun c54 => ?_)
          · refine hK 155 [some (vR 111 0), some (vI m), some (vI d), some (vI (T 234 0 m)), some (vI go), some (vI k), none, none, none] [] U52 ?_
            refine j_blx (F := fX11) tb_X11 (nn_ _) bk_X11_postpone_f_155 bs_X11_postpone_f_155 hz (fun K hK => ?_)
            refine rg_i (by omega) ?_
            refine hK 80 [some (vR 111 0), some (vI m), some (vI d), some (vI (T 234 0 m)), some (vI 0), some (vI (k + 1)), none, none, none] [] U52 ?_
            have e55 : U52 111 0 73 = (T1 111 0 73) + 1 := up_f hU52
            refine ih_80 _ ?_ 0 (k + 1) U52 (Nat.le_refl _) ?_ ?_ ?_ ?_ ?_ ?_ ?_
            · have hm_80 := hm_80 (); omega
            · exact fr_u (fr_u (fr_u (fr_t (fr_0 _ _) (fr_s hf_80 rfl)) hU42 rfl) hU48 rfl) hU52 rfl
            · omega
            · omega
            · intro i
              rw [(up_k hU52 (by exact Nat.ne_of_beq_eq_false rfl) 0 i).trans ((up_k hU48 (by exact Nat.ne_of_beq_eq_false rfl) 0 i).trans (up_k hU42 (by exact Nat.ne_of_beq_eq_false rfl) 0 i))]
              exact dy1 i
            have e56 : U52 111 0 73 = (T1 111 0 73) + 1 := up_f hU52
            · rw [show U52 111 0 73 = T1 111 0 73 + 1 from Int.le_antisymm (by omega) (by omega)]
              exact lhd_i (t := T1 111 0 73) (m := k) lh1 (by omega) (by omega) (by omega) (by omega) (ag9.resolve_right (fun y => by have := y.1; omega)).2 (by show (0 : Int) * 400 + k < 400; omega) (by omega) (by omega) (fun j a b => by omega) (by first | exact Or.inl (by omega) | exact Or.inr (Int.le_refl _)) (fun j a b => ((up_k hU52 (by exact Nat.ne_of_beq_eq_false rfl) 0 j).trans (up_k hU48 (by exact Nat.ne_of_beq_eq_false rfl) 0 j)).trans (up_g hU42 (fun z => by omega))) (((up_k hU52 (by exact Nat.ne_of_beq_eq_false rfl) 0 (T1 111 0 73)).trans (up_k hU48 (by exact Nat.ne_of_beq_eq_false rfl) 0 (T1 111 0 73))).trans (up_f hU42)) (fun j a b => by omega)
            have e57 : U52 111 0 73 = (T1 111 0 73) + 1 := up_f hU52
            · intro j a b
              have g9 : U52 271 0 j = if j = T1 111 0 73 then k else T1 271 0 j := by
                rw [(up_k hU52 (by exact Nat.ne_of_beq_eq_false rfl) 0 j).trans (up_k hU48 (by exact Nat.ne_of_beq_eq_false rfl) 0 j)]
                by_cases z : j = T1 111 0 73
                · rw [if_pos z, z]; exact up_f hU42
                · rw [if_neg z]; exact (up_g hU42 (fun q => z q.2.2)).trans (rfl)
              have w9 : U52 272 0 j = if j = T1 111 0 73 then T1 234 0 k else T1 272 0 j := by
                rw [up_k hU52 (by exact Nat.ne_of_beq_eq_false rfl) 0 j]
                by_cases z : j = T1 111 0 73
                · rw [if_pos z, z, up_f hU48] <;> omega
                · rw [if_neg z]; exact (up_g hU48 (fun q => z q.2.2)).trans (up_k hU42 (by exact Nat.ne_of_beq_eq_false rfl) 0 j)
              by_cases z : j = T1 111 0 73
              · rw [if_pos z] at g9 w9
                have nk : k ≠ m := fun u => (ag9.resolve_right (fun y => by have := y.1; omega)).2.1 u.symm
                rw [w9, g9, dy1 k, u1_n nk]
              · rw [if_neg z] at g9 w9
                rw [w9, g9]
                exact wd1 j a (by omega)
            · first
              | exact Or.inr ⟨rfl, fun y => by have z := y k (by omega) (by omega) (ag9.resolve_right (fun y => by have := y.1; omega)).2; unfold TLR_ at z; omega⟩
              | exact Or.inr ⟨rfl, (go1.resolve_left (fun y => by have := y.1; omega)).2⟩
          · refine ix_i (by omega) ?_
            intro b58 b58b
            have e59 : U52 235 0 k = T 235 0 k := (up_k hU52 (by exact Nat.ne_of_beq_eq_false rfl) 0 k).trans ((up_k hU48 (by exact Nat.ne_of_beq_eq_false rfl) 0 k).trans ((up_k hU42 (by exact Nat.ne_of_beq_eq_false rfl) 0 k).trans (hf_80 235 0 k rfl)))
            rw [e59] at b58 b58b ⊢
            refine And.intro (fun c60 => ?_) (fun c60 => ?_)
            · refine hK 155 [some (vR 111 0), some (vI m), some (vI d), some (vI (T 234 0 m)), some (vI go), some (vI k), none, none, none] [] U52 ?_
              refine j_blx (F := fX11) tb_X11 (nn_ _) bk_X11_postpone_f_155 bs_X11_postpone_f_155 hz (fun K hK => ?_)
              refine rg_i (by omega) ?_
              refine hK 80 [some (vR 111 0), some (vI m), some (vI d), some (vI (T 234 0 m)), some (vI 0), some (vI (k + 1)), none, none, none] [] U52 ?_
              have e61 : U52 111 0 73 = (T1 111 0 73) + 1 := up_f hU52
              refine ih_80 _ ?_ 0 (k + 1) U52 (Nat.le_refl _) ?_ ?_ ?_ ?_ ?_ ?_ ?_
              · have hm_80 := hm_80 (); omega
              · exact fr_u (fr_u (fr_u (fr_t (fr_0 _ _) (fr_s hf_80 rfl)) hU42 rfl) hU48 rfl) hU52 rfl
              · omega
              · omega
              · intro i
                rw [(up_k hU52 (by exact Nat.ne_of_beq_eq_false rfl) 0 i).trans ((up_k hU48 (by exact Nat.ne_of_beq_eq_false rfl) 0 i).trans (up_k hU42 (by exact Nat.ne_of_beq_eq_false rfl) 0 i))]
                exact dy1 i
              have e62 : U52 111 0 73 = (T1 111 0 73) + 1 := up_f hU52
              · rw [show U52 111 0 73 = T1 111 0 73 + 1 from Int.le_antisymm (by omega) (by omega)]
                exact lhd_i (t := T1 111 0 73) (m := k) lh1 (by omega) (by omega) (by omega) (by omega) (ag9.resolve_right (fun y => by have := y.1; omega)).2 (by show (0 : Int) * 400 + k < 400; omega) (by omega) (by omega) (fun j a b => by omega) (by first | exact Or.inl (by omega) | exact Or.inr (Int.le_refl _)) (fun j a b => ((up_k hU52 (by exact Nat.ne_of_beq_eq_false rfl) 0 j).trans (up_k hU48 (by exact Nat.ne_of_beq_eq_false rfl) 0 j)).trans (up_g hU42 (fun z => by omega))) (((up_k hU52 (by exact Nat.ne_of_beq_eq_false rfl) 0 (T1 111 0 73)).trans (up_k hU48 (by exact Nat.ne_of_beq_eq_false rfl) 0 (T1 111 0 73))).trans (up_f hU42)) (fun j a b => by omega)
              have e63 : U52 111 0 73 = (T1 111 0 73) + 1 := up_f hU52
              · intro j a b
                have g9 : U52 271 0 j = if j = T1 111 0 73 then k else T1 271 0 j := by
                  rw [(up_k hU52 (by exact Nat.ne_of_beq_eq_false rfl) 0 j).trans (up_k hU48 (by exact Nat.ne_of_beq_eq_false rfl) 0 j)]
                  by_cases z : j = T1 111 0 73
                  · rw [if_pos z, z]; exact up_f hU42
                  · rw [if_neg z]; exact (up_g hU42 (fun q => z q.2.2)).trans (rfl)
                have w9 : U52 272 0 j = if j = T1 111 0 73 then T1 234 0 k else T1 272 0 j := by
                  rw [up_k hU52 (by exact Nat.ne_of_beq_eq_false rfl) 0 j]
                  by_cases z : j = T1 111 0 73
                  · rw [if_pos z, z, up_f hU48] <;> omega
                  · rw [if_neg z]; exact (up_g hU48 (fun q => z q.2.2)).trans (up_k hU42 (by exact Nat.ne_of_beq_eq_false rfl) 0 j)
                by_cases z : j = T1 111 0 73
                · rw [if_pos z] at g9 w9
                  have nk : k ≠ m := fun u => (ag9.resolve_right (fun y => by have := y.1; omega)).2.1 u.symm
                  rw [w9, g9, dy1 k, u1_n nk]
                · rw [if_neg z] at g9 w9
                  rw [w9, g9]
                  exact wd1 j a (by omega)
              · first
                | exact Or.inr ⟨rfl, fun y => by have z := y k (by omega) (by omega) (ag9.resolve_right (fun y => by have := y.1; omega)).2; unfold TLR_ at z; omega⟩
                | exact Or.inr ⟨rfl, (go1.resolve_left (fun y => by have := y.1; omega)).2⟩
            · refine hK 156 [some (vR 111 0), some (vI m), some (vI d), some (vI (T 234 0 m)), some (vI go), some (vI k), none, none, none] [vI 1] U52 ?_
              refine j_blx (F := fX11) tb_X11 (nn_ _) bk_X11_postpone_f_156 bs_X11_postpone_f_156 hz (fun K hK => ?_)
              refine rg_i (by omega) ?_
              refine hK 80 [some (vR 111 0), some (vI m), some (vI d), some (vI (T 234 0 m)), some (vI 1), some (vI (k + 1)), none, none, none] [] U52 ?_
              have e64 : U52 111 0 73 = (T1 111 0 73) + 1 := up_f hU52
              refine ih_80 _ ?_ 1 (k + 1) U52 (Nat.le_refl _) ?_ ?_ ?_ ?_ ?_ ?_ ?_
              · have hm_80 := hm_80 (); omega
              · exact fr_u (fr_u (fr_u (fr_t (fr_0 _ _) (fr_s hf_80 rfl)) hU42 rfl) hU48 rfl) hU52 rfl
              · omega
              · omega
              · intro i
                rw [(up_k hU52 (by exact Nat.ne_of_beq_eq_false rfl) 0 i).trans ((up_k hU48 (by exact Nat.ne_of_beq_eq_false rfl) 0 i).trans (up_k hU42 (by exact Nat.ne_of_beq_eq_false rfl) 0 i))]
                exact dy1 i
              have e65 : U52 111 0 73 = (T1 111 0 73) + 1 := up_f hU52
              · rw [show U52 111 0 73 = T1 111 0 73 + 1 from Int.le_antisymm (by omega) (by omega)]
                exact lhd_i (t := T1 111 0 73) (m := k) lh1 (by omega) (by omega) (by omega) (by omega) (ag9.resolve_right (fun y => by have := y.1; omega)).2 (by show (0 : Int) * 400 + k < 400; omega) (by omega) (by omega) (fun j a b => by omega) (by first | exact Or.inl (by omega) | exact Or.inr (Int.le_refl _)) (fun j a b => ((up_k hU52 (by exact Nat.ne_of_beq_eq_false rfl) 0 j).trans (up_k hU48 (by exact Nat.ne_of_beq_eq_false rfl) 0 j)).trans (up_g hU42 (fun z => by omega))) (((up_k hU52 (by exact Nat.ne_of_beq_eq_false rfl) 0 (T1 111 0 73)).trans (up_k hU48 (by exact Nat.ne_of_beq_eq_false rfl) 0 (T1 111 0 73))).trans (up_f hU42)) (fun j a b => by omega)
              have e66 : U52 111 0 73 = (T1 111 0 73) + 1 := up_f hU52
              · intro j a b
                have g9 : U52 271 0 j = if j = T1 111 0 73 then k else T1 271 0 j := by
                  rw [(up_k hU52 (by exact Nat.ne_of_beq_eq_false rfl) 0 j).trans (up_k hU48 (by exact Nat.ne_of_beq_eq_false rfl) 0 j)]
                  by_cases z : j = T1 111 0 73
                  · rw [if_pos z, z]; exact up_f hU42
                  · rw [if_neg z]; exact (up_g hU42 (fun q => z q.2.2)).trans (rfl)
                have w9 : U52 272 0 j = if j = T1 111 0 73 then T1 234 0 k else T1 272 0 j := by
                  rw [up_k hU52 (by exact Nat.ne_of_beq_eq_false rfl) 0 j]
                  by_cases z : j = T1 111 0 73
                  · rw [if_pos z, z, up_f hU48] <;> omega
                  · rw [if_neg z]; exact (up_g hU48 (fun q => z q.2.2)).trans (up_k hU42 (by exact Nat.ne_of_beq_eq_false rfl) 0 j)
                by_cases z : j = T1 111 0 73
                · rw [if_pos z] at g9 w9
                  have nk : k ≠ m := fun u => (ag9.resolve_right (fun y => by have := y.1; omega)).2.1 u.symm
                  rw [w9, g9, dy1 k, u1_n nk]
                · rw [if_neg z] at g9 w9
                  rw [w9, g9]
                  exact wd1 j a (by omega)
              · have z := go1.resolve_right (fun y => by have := y.1; omega)
                refine Or.inl ⟨rfl, fun j a b c => ?_⟩
                by_cases y : j = k
                · rw [y]; unfold TLR_; omega
                · exact z.2 j a (by omega) c
  refine j_blx (F := fX11) tb_X11 (nn_ _) bk_X11_postpone_f_0 bs_X11_postpone_f_0 hz (fun K hK => ?_)
  intro b67 b67b
  refine hK 5 _ [vI (T 111 0 29), vI m] T ?_
  refine j_callS (y := yX11_isOf) (Yc := zX11_isOf) (rest := []) [vI m, vI (T 111 0 29)] (ct_X11_isOf (T := T) (by omega)) cl_X11_317 (qd_c (by decide +kernel)) (nn_ _) rfl (rf_of rfl) (Nat.le_of_ble_eq_true rfl) (Nat.le_of_ble_eq_true rfl) (Nat.le_of_ble_eq_true rfl) rfl ?_
  rintro _ _ ⟨rfl, x68, rfl, hx68⟩
  show J_ zX11_postpone T (po_X11_postpone_f T m d) 0 0 8 _ [vI x68] T
  refine j_blx (F := fX11) tb_X11 (nn_ _) bk_X11_postpone_f_8 bs_X11_postpone_f_8 hz (fun K hK => ?_)
  refine And.intro (fun c69 => ?_) (fun c69 => ?_)
  · replace hx68 := hx68.resolve_right (fun z => c69 z.1)
    clear c69
    refine hK 14 _ [] T ?_
    refine j_blx (F := fX11) tb_X11 (nn_ _) bk_X11_postpone_f_14 bs_X11_postpone_f_14 hz (fun K hK => ?_)
    intro b70 b70b
    refine rg_i (by omega) ?_
    refine hK 24 _ [vI 999, vI ((T 111 0 3) + 1), vI d] T ?_
    refine j_callS (y := yX11_in) (Yc := zX11_in) (rest := []) [vI d, vI ((T 111 0 3) + 1), vI 999] (ct_X11_in (T := T)) cl_X11_255 (qd_c (by decide +kernel)) (nn_ _) rfl (rf_of rfl) (Nat.le_of_ble_eq_true rfl) (Nat.le_of_ble_eq_true rfl) (Nat.le_of_ble_eq_true rfl) rfl ?_
    rintro _ _ ⟨rfl, x71, rfl, hx71⟩
    show J_ zX11_postpone T (po_X11_postpone_f T m d) 0 0 27 _ [vI x71] T
    refine j_blx (F := fX11) tb_X11 (nn_ _) bk_X11_postpone_f_27 bs_X11_postpone_f_27 hz (fun K hK => ?_)
    refine And.intro (fun c72 => ?_) (fun c72 => ?_)
    · replace hx71 := hx71.resolve_right (fun z => c72 z.1)
      clear c72
      refine hK 33 _ [] T ?_
      refine j_blx (F := fX11) tb_X11 (nn_ _) bk_X11_postpone_f_33 bs_X11_postpone_f_33 hz (fun K hK => ?_)
      refine ix_i (by omega) ?_
      intro b73 b73b
      refine And.intro (fun c74 => ?_) (fun c74 => ?_)
      · refine hK 52 _ [] T ?_
        refine j_blx (F := fX11) tb_X11 (nn_ _) bk_X11_postpone_f_52 bs_X11_postpone_f_52 hz (fun K hK => ?_)
        refine (show po_X11_postpone_f T m d T (some (vI (-4))) from ?_)
        exact ⟨_, rfl, fr_0 _ _, Or.inr ⟨by omega, Or.inr ⟨by omega, Or.inl ⟨rfl, by omega, rfl⟩⟩⟩⟩
      · refine ix_i (by omega) ?_
        intro b75 b75b
        refine And.intro (fun c76 => ?_) (fun c76 => ?_)
        · refine hK 55 _ [] T ?_
          refine j_blx (F := fX11) tb_X11 (nn_ _) bk_X11_postpone_f_55 bs_X11_postpone_f_55 hz (fun K hK => ?_)
          refine ix_i (by omega) ?_
          intro b77 b77b
          refine iy_i (by omega) (by omega) ?_
          refine x_nm (fun U78 hU78 => ?_)
          have e79 := up_f hU78
          refine bd_i (by omega) ?_
          refine x_nm (fun U80 hU80 => ?_)
          have e81 := up_f hU80
          refine hK 80 [some (vR 111 0), some (vI m), some (vI d), some (vI (T 234 0 m)), some (vI 1), some (vI 0), none, none, none] [] U80 ?_
          have e82 : U80 111 0 73 = 0 := up_f hU80
          refine c_80 _ 1 0 U80 (Nat.le_refl _) ?_ ?_ ?_ ?_ ?_ ?_ ?_
          · exact fr_u (fr_u (fr_0 _ _) hU78 rfl) hU80 rfl
          · omega
          · omega
          · intro i
            rw [up_k hU80 (by exact Nat.ne_of_beq_eq_false rfl) 0 i]
            by_cases z : i = m
            · rw [z, u1_s]; exact up_f hU78
            · rw [u1_n z]; exact up_g hU78 (fun q => z q.2.2)
          · rw [up_f hU80]
            exact lhd_0
          · intro j a b; omega
          · exact Or.inl ⟨rfl, fun j a b => by omega⟩
        · refine (show po_X11_postpone_f T m d T (some (vI (-4))) from ?_)
          exact ⟨_, rfl, fr_0 _ _, Or.inr ⟨by omega, Or.inr ⟨by omega, Or.inl ⟨rfl, by omega, rfl⟩⟩⟩⟩
    · replace hx71 := hx71.resolve_left (fun z => absurd (c72.symm.trans z.1) (by decide))
      clear c72
      refine (show po_X11_postpone_f T m d T (some (vI (-3))) from ?_)
      exact ⟨_, rfl, fr_0 _ _, Or.inr ⟨by omega, Or.inl ⟨rfl, by omega, rfl⟩⟩⟩
  · replace hx68 := hx68.resolve_left (fun z => absurd (c69.symm.trans z.1) (by decide))
    clear c69
    refine (show po_X11_postpone_f T m d T (some (vI (-2))) from ?_)
    exact ⟨_, rfl, fr_0 _ _, Or.inl ⟨rfl, by omega, rfl⟩⟩
