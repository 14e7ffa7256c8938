abbrev po_X10_enter_k (T : Zt) (c b : Int) : Zt → Option Zv → Prop := fun T' r => ∃ x : Int, r = some (vI x) ∧ fr_ [(404, []), (403, []), (100, [5])] T T' ∧ (KE_ T' ∧ ∀ d z, 0 ≤ T 404 d z → 0 ≤ T' 404 d z)
abbrev po_X10_walkOver_k (T : Zt) (m d : Int) : Zt → Option Zv → Prop := fun T' r => ∃ x : Int, r = some (vI x) ∧ fr_ [(102, [6])] T T' ∧ (∀ i, T' 102 i 6 = T 102 i 6 ∨ T' 102 i 6 ≠ -1)
set_option maxHeartbeats 4000000 in
theorem ct_X10_walkOver_k {T : Zt} {m d : Int} (hka : KA_ T) : Ct_ yX10_walkOver zX10_walkOver T [vR 110 0, vI m, vI d] (po_X10_walkOver_k T m d) := by
  refine ct_of (by decide) rfl rfl (Nat.le_of_ble_eq_true rfl) (fun hT hav => ?_)
  have hr_m : -2147483648 ≤ m ∧ m ≤ 2147483647 := hav (vI m) (by simp)
  have hr_d : -2147483648 ≤ d ∧ d ≤ 2147483647 := hav (vI d) (by simp)
  have hz : zX10_walkOver.2.2.2.1 = some .boolean → ∀ (T' : Zt) (x : Int), po_X10_walkOver_k T m d T' (some (vI x)) → 0 ≤ x ∧ x ≤ 1 := fun h => by cases h
  have hb_matchCount : 0 ≤ T 106 0 4 ∧ T 106 0 4 ≤ 400 := bd_f hT 106 4 (by decide +kernel : (tf_ 106)[4]? = some (0, 0, 0, 400)) 0
  show J_ zX10_walkOver T (po_X10_walkOver_k T m d) 0 0 0 [some (vR 110 0), some (vI m), some (vI d), none] [] T
  refine j_blx (F := fX10) tb_X10 (by decide) bk_X10_walkOver_0 bs_X10_walkOver_0 hz (fun K hK => ?_)
  refine hK 2 [some (vR 110 0), some (vI m), some (vI d), none] [vI m, vR 110 0] T ?_
  refine j_callV (y := yX10_isMatch) (Yc := zX10_isMatch) (rest := []) [vI m] (ct_X10_isMatch (T := T)) cl_X10_195 (qd_c (by decide +kernel)) (by decide) rfl (by decide +kernel) (Nat.le_of_ble_eq_true rfl) (by decide) (by decide) rfl ?_
  rintro _ _ ⟨rfl, x1, rfl, hx1⟩
  show J_ zX10_walkOver T (po_X10_walkOver_k T m d) 0 0 5 [some (vR 110 0), some (vI m), some (vI d), none] [vI x1] T
  refine j_blx (F := fX10) tb_X10 (by decide) bk_X10_walkOver_5 bs_X10_walkOver_5 hz (fun K hK => ?_)
  refine And.intro (fun c2 => ?_) (fun c2 => ?_)
  · refine hK 11 [some (vR 110 0), some (vI m), some (vI d), none] [] T ?_
    refine j_blx (F := fX10) tb_X10 (by decide) bk_X10_walkOver_11 bs_X10_walkOver_11 hz (fun K hK => ?_)
    refine hK 12 [some (vR 110 0), some (vI m), some (vI d), none] [vI d] T ?_
    refine j_callS (y := yX10_isSide) (Yc := zX10_isSide) (rest := []) [vI d] (ct_X10_isSide (T := T)) cl_X10_251 (qd_c (by decide +kernel)) (by decide) rfl (by decide +kernel) (Nat.le_of_ble_eq_true rfl) (by decide) (by decide) rfl ?_
    rintro _ _ ⟨rfl, x3, rfl, hx3⟩
    show J_ zX10_walkOver T (po_X10_walkOver_k T m d) 0 0 15 [some (vR 110 0), some (vI m), some (vI d), none] [vI x3] T
    refine j_blx (F := fX10) tb_X10 (by decide) bk_X10_walkOver_15 bs_X10_walkOver_15 hz (fun K hK => ?_)
    refine And.intro (fun c4 => ?_) (fun c4 => ?_)
    · refine hK 21 [some (vR 110 0), some (vI m), some (vI d), none] [] T ?_
      refine j_blx (F := fX10) tb_X10 (by decide) bk_X10_walkOver_21 bs_X10_walkOver_21 hz (fun K hK => ?_)
      refine ix_i (by omega) ?_
      refine And.intro (fun c5 => ?_) (fun c5 => ?_)
      · exact absurd (show T 523 0 (m) = 0 by omega) (hka.2 _ (by omega) (by omega))
      · refine hK 32 [some (vR 110 0), some (vI m), some (vI d), some (vR 102 m)] [vR 102 m] T ?_
        refine j_callV (y := yX2_phaseOfLife) (Yc := zX2_phaseOfLife) (rest := []) [] (ct_X2_phaseOfLife (T := T)) cl_X10_223 (qd_c (by decide +kernel)) (by decide) rfl (by decide +kernel) (Nat.le_of_ble_eq_true rfl) (by decide) (by decide) rfl ?_
        rintro _ _ ⟨rfl, x6, rfl, hx6⟩
        show J_ zX10_walkOver T (po_X10_walkOver_k T m d) 0 0 35 [some (vR 110 0), some (vI m), some (vI d), some (vR 102 m)] [vI x6] T
        refine j_blx (F := fX10) tb_X10 (by decide) bk_X10_walkOver_35 bs_X10_walkOver_35 hz (fun K hK => ?_)
        refine And.intro (fun c7 => ?_) (fun c7 => ?_)
        · refine hK 52 [some (vR 110 0), some (vI m), some (vI d), some (vR 102 m)] [] T ?_
          refine j_blx (F := fX10) tb_X10 (by decide) bk_X10_walkOver_52 bs_X10_walkOver_52 hz (fun K hK => ?_)
          refine (show po_X10_walkOver_k T m d T (some (vI (-4))) from ?_)
          exact ⟨_, rfl, fr_0 _ _, fun _ => Or.inl rfl⟩
        · intro b8 b8b
          intro b9 b9b
          refine And.intro (fun c10 => ?_) (fun c10 => ?_)
          · refine hK 55 [some (vR 110 0), some (vI m), some (vI d), some (vR 102 m)] [] T ?_
            refine j_blx (F := fX10) tb_X10 (by decide) bk_X10_walkOver_55 bs_X10_walkOver_55 hz (fun K hK => ?_)
            refine bd_i (by omega) ?_
            refine x_nm (fun U11 hU11 => ?_)
            have e12 := up_f hU11
            refine (show po_X10_walkOver_k T m d U11 (some (vI 1)) from ?_)
            exact ⟨_, rfl, fr_u (fr_0 _ _) hU11 rfl, fun i => Classical.byCases (fun z : i = m => Or.inr (by rw [z, up_f hU11]; omega)) (fun z => Or.inl (up_g hU11 (fun q => z q.2.1)))⟩
          · refine (show po_X10_walkOver_k T m d T (some (vI (-4))) from ?_)
            exact ⟨_, rfl, fr_0 _ _, fun _ => Or.inl rfl⟩
    · refine (show po_X10_walkOver_k T m d T (some (vI (-3))) from ?_)
      exact ⟨_, rfl, fr_0 _ _, fun _ => Or.inl rfl⟩
  · refine (show po_X10_walkOver_k T m d T (some (vI (-2))) from ?_)
    exact ⟨_, rfl, fr_0 _ _, fun _ => Or.inl rfl⟩
/-- what holds of the house between the calls; N: how many there were -/
def IC_ (N : Int) (T : Zt) : Prop := (KA_ T ∧ KM_ T ∧ KC_ T ∧ KR_ T ∧ KS_ T ∧ KO_ T ∧ KE_ T ∧ KB_ T ∧ KP_ T ∧ KW_ T) ∧ DD_ T ∧ NA_ T ∧ LP_ N T ∧ (T 109 0 15 ≠ 0 → T 190 (T 109 0 15 - 1) (-2) = 4096 ∧ 1 ≤ T 109 0 15) ∧ 0 ≤ T 191 0 0 ∧ T 191 0 0 ≤ 1 + 600 * N
abbrev wt8_ (ws : List (Nat × List Int)) : Prop := ((∀ j, fw_ ws 521 j = false) ∧ (∀ j, fw_ ws 523 j = false) ∧ (∀ j, fw_ ws 401 j = false) ∧ (∀ j, fw_ ws 403 j = false) ∧ (∀ j, fw_ ws 404 j = false)) ∧ (fw_ ws 106 2 = false ∧ fw_ ws 106 4 = false) ∧ (fw_ ws 102 0 = false ∧ fw_ ws 102 1 = false ∧ fw_ ws 102 3 = false ∧ fw_ ws 102 4 = false) ∧ fw_ ws 100 5 = false ∧ fw_ ws 100 6 = false ∧ fw_ ws 100 7 = false ∧ fw_ ws 100 8 = false
theorem ic_t {ws : List (Nat × List Int)} {T T' : Zt} (h : KA_ T ∧ KM_ T ∧ KC_ T ∧ KR_ T ∧ KS_ T ∧ KO_ T ∧ KE_ T ∧ KB_ T ∧ KP_ T ∧ KW_ T) (f : fr_ ws T T') (w : wt8_ ws) : KA_ T' ∧ KM_ T' ∧ KC_ T' ∧ KR_ T' ∧ KS_ T' ∧ KO_ T' ∧ KE_ T' ∧ KB_ T' ∧ KP_ T' ∧ KW_ T' := by
  obtain ⟨k1, k2, k3, k4, k5, k6, k7, k8, k9, k10⟩ := h
  obtain ⟨⟨a1, a2, a3, a4, a5⟩, ⟨b1, b2⟩, ⟨c0, c1, c3, c4⟩, d5, d6, d7, d8⟩ := w
  exact ⟨KA__f k1 f ⟨a1, a2, b1, b2, trivial⟩, KM__f k2 f ⟨c1, c0, b2, b1, trivial⟩, KC__f k3 f ⟨d7, d8, b2, b1, trivial⟩, KR__f k4 f ⟨a3, b1, trivial⟩, KS__f k5 f ⟨a5, d7, d8, c0, c3, c4, b1, trivial⟩, KO__f k6 f ⟨a3, b1, trivial⟩, KE__f k7 f ⟨a4, a5, d5, b1, trivial⟩, KB__f k8 f ⟨a3, b1, trivial⟩, KP__f k9 f ⟨c0, d6, b2, trivial⟩, KW__f k10 f ⟨a3, b1, trivial⟩⟩
abbrev wn_ (ws : List (Nat × List Int)) : Prop := fw_ ws 150 (-1) = false ∧ fw_ ws 152 (-1) = false ∧ fw_ ws 153 (-1) = false ∧ fw_ ws 100 (-1) = false ∧ fw_ ws 102 (-1) = false ∧ fw_ ws 103 (-1) = false ∧ fw_ ws 102 10 = false ∧ fw_ ws 106 4 = false ∧ fw_ ws 106 2 = false
abbrev wl_ (ws : List (Nat × List Int)) : Prop := fw_ ws 106 4 = false ∧ fw_ ws 106 2 = false ∧ fw_ ws 102 10 = false ∧ fw_ ws 103 0 = false ∧ fw_ ws 103 3 = false ∧ fw_ ws 103 14 = false ∧ fw_ ws 103 15 = false ∧ fw_ ws 103 16 = false ∧ fw_ ws 103 17 = false ∧ fw_ ws 470 0 = false ∧ fw_ ws 470 1 = false
/-- a slack row that is there was counted -/
theorem sx_9 {T : Zt} (hT : ok_T T) (ha : al_ T 109 0) (h : T 109 0 15 ≠ 0) : T 109 0 15 - 1 < T 191 0 0 := by
  have h1 := hT.2.2.2.1 109 0 ha 15 5 190 (-2147483648) 2147483647 (by decide +kernel)
  have e : fv_ 5 190 (T 109 0 ((15 : Nat) : Int)) 0 = vR 190 (T 109 0 15 - 1) := by
    show (if T 109 0 15 = 0 then vN else vR 190 (T 109 0 15 - 1)) = _
    rw [if_neg h]
  rw [e] at h1
  have h2 : al_ T 190 (T 109 0 15 - 1) := ok_al (v := none) (by decide) h1
  by_cases z : T 191 0 0 ≤ T 109 0 15 - 1
  · exact absurd h2 (hT.2.2.2.2.2.2.2.2 _ z)
  · omega
theorem sk_l {T T' : Zt} (hT : ok_T T) (ha : al_ T 109 0) (h : T 109 0 15 ≠ 0 → T 190 (T 109 0 15 - 1) (-2) = 4096 ∧ 1 ≤ T 109 0 15) (l : lh_ T T') (e : T' 109 0 15 = T 109 0 15) : T' 109 0 15 ≠ 0 → T' 190 (T' 109 0 15 - 1) (-2) = 4096 ∧ 1 ≤ T' 109 0 15 := by
  rw [e]
  intro z
  rw [l.1 _ (sx_9 hT ha z)]
  exact h z
/-- a call that keeps away from all of it -/
theorem ic_f {N : Int} {ws : List (Nat × List Int)} {T T' : Zt} (h : IC_ N T) (f : fr_ ws T T') (w : wt8_ ws) (w2 : fw_ ws 102 5 = false ∧ fw_ ws 102 6 = false) (wn : wn_ ws) (wl : wl_ ws) (w9 : fw_ ws 109 15 = false ∧ fw_ ws 190 (-2) = false ∧ fw_ ws 191 0 = false) : IC_ (N + 1) T' := by
  obtain ⟨k, d, n, l, s, b1, b2⟩ := h
  have e9 := f 191 0 0 w9.2.2
  refine ⟨ic_t k f w, DD__f d f ⟨w.2.2.1.1, w.2.2.1.2.2.1, w2.1, w2.2, w.2.1.2, trivial⟩, NA_f n f wn, LP_f l (by omega) (lh_f lh_r f w9.2.1 w9.2.2) f wl, ?_, by omega, by omega⟩
  rw [f 109 0 15 w9.1, f 190 _ _ w9.2.1]
  exact s
theorem ic_e {N : Int} {T : Zt} (h : IC_ N T) : IC_ (N + 1) T := ic_f (ws := []) h (fr_0 _ _) ⟨⟨fun _ => rfl, fun _ => rfl, fun _ => rfl, fun _ => rfl, fun _ => rfl⟩, ⟨rfl, rfl⟩, ⟨rfl, rfl, rfl, rfl⟩, rfl, rfl, rfl, rfl⟩ ⟨rfl, rfl⟩ ⟨rfl, rfl, rfl, rfl, rfl, rfl, rfl, rfl, rfl⟩ ⟨rfl, rfl, rfl, rfl, rfl, rfl, rfl, rfl, rfl, rfl, rfl⟩ ⟨rfl, rfl, rfl⟩
theorem ic_person {N : Int} {T T' : Zt} {r : Option Zv} (h : IC_ N T) (q : po_X10_person T T' r) : IC_ (N + 1) T' := by
  obtain ⟨_, -, f, -⟩ := q
  exact ic_f h f ⟨⟨fun _ => rfl, fun _ => rfl, fun _ => rfl, fun _ => rfl, fun _ => rfl⟩, ⟨rfl, rfl⟩, ⟨rfl, rfl, rfl, rfl⟩, rfl, rfl, rfl, rfl⟩ ⟨rfl, rfl⟩ ⟨rfl, rfl, rfl, rfl, rfl, rfl, rfl, rfl, rfl⟩ ⟨rfl, rfl, rfl, rfl, rfl, rfl, rfl, rfl, rfl, rfl, rfl⟩ ⟨rfl, rfl, rfl⟩
theorem ic_club {N : Int} {T T' : Zt} {r : Option Zv} {s c : Int} (h : IC_ N T) (q : po_X10_club T s c T' r) : IC_ (N + 1) T' := by
  obtain ⟨_, -, f, -⟩ := q
  exact ic_f h f ⟨⟨fun _ => rfl, fun _ => rfl, fun _ => rfl, fun _ => rfl, fun _ => rfl⟩, ⟨rfl, rfl⟩, ⟨rfl, rfl, rfl, rfl⟩, rfl, rfl, rfl, rfl⟩ ⟨rfl, rfl⟩ ⟨rfl, rfl, rfl, rfl, rfl, rfl, rfl, rfl, rfl⟩ ⟨rfl, rfl, rfl, rfl, rfl, rfl, rfl, rfl, rfl, rfl, rfl⟩ ⟨rfl, rfl, rfl⟩
theorem ic_official {N : Int} {T T' : Zt} {r : Option Zv} {s c : Int} (h : IC_ N T) (q : po_X10_official T s c T' r) : IC_ (N + 1) T' := by
  obtain ⟨_, -, f, -⟩ := q
  exact ic_f h f ⟨⟨fun _ => rfl, fun _ => rfl, fun _ => rfl, fun _ => rfl, fun _ => rfl⟩, ⟨rfl, rfl⟩, ⟨rfl, rfl, rfl, rfl⟩, rfl, rfl, rfl, rfl⟩ ⟨rfl, rfl⟩ ⟨rfl, rfl, rfl, rfl, rfl, rfl, rfl, rfl, rfl⟩ ⟨rfl, rfl, rfl, rfl, rfl, rfl, rfl, rfl, rfl, rfl, rfl⟩ ⟨rfl, rfl, rfl⟩
theorem ic_day {N : Int} {T T' : Zt} {r : Option Zv} {d : Int} (h : IC_ N T) (q : po_X10_day T d T' r) : IC_ (N + 1) T' := by
  obtain ⟨_, -, f, -⟩ := q
  exact ic_f h f ⟨⟨fun _ => rfl, fun _ => rfl, fun _ => rfl, fun _ => rfl, fun _ => rfl⟩, ⟨rfl, rfl⟩, ⟨rfl, rfl, rfl, rfl⟩, rfl, rfl, rfl, rfl⟩ ⟨rfl, rfl⟩ ⟨rfl, rfl, rfl, rfl, rfl, rfl, rfl, rfl, rfl⟩ ⟨rfl, rfl, rfl, rfl, rfl, rfl, rfl, rfl, rfl, rfl, rfl⟩ ⟨rfl, rfl, rfl⟩
theorem ic_sign {N : Int} {T T' : Zt} {r : Option Zv} {c : Int} (h : IC_ N T) (q : po_X10_sign T c T' r) : IC_ (N + 1) T' := by
  obtain ⟨_, -, f, -⟩ := q
  exact ic_f h f ⟨⟨fun _ => rfl, fun _ => rfl, fun _ => rfl, fun _ => rfl, fun _ => rfl⟩, ⟨rfl, rfl⟩, ⟨rfl, rfl, rfl, rfl⟩, rfl, rfl, rfl, rfl⟩ ⟨rfl, rfl⟩ ⟨rfl, rfl, rfl, rfl, rfl, rfl, rfl, rfl, rfl⟩ ⟨rfl, rfl, rfl, rfl, rfl, rfl, rfl, rfl, rfl, rfl, rfl⟩ ⟨rfl, rfl, rfl⟩
theorem ic_wipe {N : Int} {T T' : Zt} {r : Option Zv} (h : IC_ N T) (q : po_X10_wipe T T' r) : IC_ (N + 1) T' := by
  obtain ⟨_, -, f, -⟩ := q
  exact ic_f h f ⟨⟨fun _ => rfl, fun _ => rfl, fun _ => rfl, fun _ => rfl, fun _ => rfl⟩, ⟨rfl, rfl⟩, ⟨rfl, rfl, rfl, rfl⟩, rfl, rfl, rfl, rfl⟩ ⟨rfl, rfl⟩ ⟨rfl, rfl, rfl, rfl, rfl, rfl, rfl, rfl, rfl⟩ ⟨rfl, rfl, rfl, rfl, rfl, rfl, rfl, rfl, rfl, rfl, rfl⟩ ⟨rfl, rfl, rfl⟩
theorem ic_register {N : Int} {T T' : Zt} {r : Option Zv} {p cl a b : Int} (h : IC_ N T) (q : po_X10_register T p cl a b T' r) : IC_ (N + 1) T' := by
  obtain ⟨_, -, f, -⟩ := q
  exact ic_f h f ⟨⟨fun _ => rfl, fun _ => rfl, fun _ => rfl, fun _ => rfl, fun _ => rfl⟩, ⟨rfl, rfl⟩, ⟨rfl, rfl, rfl, rfl⟩, rfl, rfl, rfl, rfl⟩ ⟨rfl, rfl⟩ ⟨rfl, rfl, rfl, rfl, rfl, rfl, rfl, rfl, rfl⟩ ⟨rfl, rfl, rfl, rfl, rfl, rfl, rfl, rfl, rfl, rfl, rfl⟩ ⟨rfl, rfl, rfl⟩
theorem ic_deduct {N : Int} {T T' : Zt} {r : Option Zv} {c cl p : Int} (h : IC_ N T) (q : po_X10_deduct T c cl p T' r) : IC_ (N + 1) T' := by
  obtain ⟨_, -, f, -⟩ := q
  exact ic_f h f ⟨⟨fun _ => rfl, fun _ => rfl, fun _ => rfl, fun _ => rfl, fun _ => rfl⟩, ⟨rfl, rfl⟩, ⟨rfl, rfl, rfl, rfl⟩, rfl, rfl, rfl, rfl⟩ ⟨rfl, rfl⟩ ⟨rfl, rfl, rfl, rfl, rfl, rfl, rfl, rfl, rfl⟩ ⟨rfl, rfl, rfl, rfl, rfl, rfl, rfl, rfl, rfl, rfl, rfl⟩ ⟨rfl, rfl, rfl⟩
theorem ic_eligible {N : Int} {T T' : Zt} {r : Option Zv} {q m d : Int} (h : IC_ N T) (q : po_X10_eligible T q m d T' r) : IC_ (N + 1) T' := by
  obtain ⟨_, -, f, -⟩ := q
  exact ic_f h f ⟨⟨fun _ => rfl, fun _ => rfl, fun _ => rfl, fun _ => rfl, fun _ => rfl⟩, ⟨rfl, rfl⟩, ⟨rfl, rfl, rfl, rfl⟩, rfl, rfl, rfl, rfl⟩ ⟨rfl, rfl⟩ ⟨rfl, rfl, rfl, rfl, rfl, rfl, rfl, rfl, rfl⟩ ⟨rfl, rfl, rfl, rfl, rfl, rfl, rfl, rfl, rfl, rfl, rfl⟩ ⟨rfl, rfl, rfl⟩
theorem ic_drawing {N : Int} {T T' : Zt} {r : Option Zv} {g l : Int} (h : IC_ N T) (q : po_X10_drawing T g l T' r) : IC_ (N + 1) T' := by
  obtain ⟨_, -, f, -⟩ := q
  exact ic_f h f ⟨⟨fun _ => rfl, fun _ => rfl, fun _ => rfl, fun _ => rfl, fun _ => rfl⟩, ⟨rfl, rfl⟩, ⟨rfl, rfl, rfl, rfl⟩, rfl, rfl, rfl, rfl⟩ ⟨rfl, rfl⟩ ⟨rfl, rfl, rfl, rfl, rfl, rfl, rfl, rfl, rfl⟩ ⟨rfl, rfl, rfl, rfl, rfl, rfl, rfl, rfl, rfl, rfl, rfl⟩ ⟨rfl, rfl, rfl⟩
theorem ic_pot {N : Int} {T T' : Zt} {r : Option Zv} {c k : Int} (h : IC_ N T) (q : po_X10_pot T c k T' r) : IC_ (N + 1) T' := by
  obtain ⟨_, -, f, -⟩ := q
  exact ic_f h f ⟨⟨fun _ => rfl, fun _ => rfl, fun _ => rfl, fun _ => rfl, fun _ => rfl⟩, ⟨rfl, rfl⟩, ⟨rfl, rfl, rfl, rfl⟩, rfl, rfl, rfl, rfl⟩ ⟨rfl, rfl⟩ ⟨rfl, rfl, rfl, rfl, rfl, rfl, rfl, rfl, rfl⟩ ⟨rfl, rfl, rfl, rfl, rfl, rfl, rfl, rfl, rfl, rfl, rfl⟩ ⟨rfl, rfl, rfl⟩
theorem ic_firsts {N : Int} {T T' : Zt} {r : Option Zv} {c b : Int} (h : IC_ N T) (q : po_X10_firsts T c b T' r) : IC_ (N + 1) T' := by
  obtain ⟨_, -, f, -⟩ := q
  exact ic_f h f ⟨⟨fun _ => rfl, fun _ => rfl, fun _ => rfl, fun _ => rfl, fun _ => rfl⟩, ⟨rfl, rfl⟩, ⟨rfl, rfl, rfl, rfl⟩, rfl, rfl, rfl, rfl⟩ ⟨rfl, rfl⟩ ⟨rfl, rfl, rfl, rfl, rfl, rfl, rfl, rfl, rfl⟩ ⟨rfl, rfl, rfl, rfl, rfl, rfl, rfl, rfl, rfl, rfl, rfl⟩ ⟨rfl, rfl, rfl⟩
theorem ic_table {N : Int} {T T' : Zt} {r : Option Zv} {c d b w : Int} (h : IC_ N T) (q : po_X10_table T c d b w T' r) : IC_ (N + 1) T' := by
  obtain ⟨_, -, f, -⟩ := q
  exact ic_f h f ⟨⟨fun _ => rfl, fun _ => rfl, fun _ => rfl, fun _ => rfl, fun _ => rfl⟩, ⟨rfl, rfl⟩, ⟨rfl, rfl, rfl, rfl⟩, rfl, rfl, rfl, rfl⟩ ⟨rfl, rfl⟩ ⟨rfl, rfl, rfl, rfl, rfl, rfl, rfl, rfl, rfl⟩ ⟨rfl, rfl, rfl, rfl, rfl, rfl, rfl, rfl, rfl, rfl, rfl⟩ ⟨rfl, rfl, rfl⟩
theorem ic_parted {N : Int} {T T' : Zt} {r : Option Zv} {c d k : Int} (h : IC_ N T) (q : po_X10_parted T c d k T' r) : IC_ (N + 1) T' := by
  obtain ⟨_, -, f, -⟩ := q
  exact ic_f h f ⟨⟨fun _ => rfl, fun _ => rfl, fun _ => rfl, fun _ => rfl, fun _ => rfl⟩, ⟨rfl, rfl⟩, ⟨rfl, rfl, rfl, rfl⟩, rfl, rfl, rfl, rfl⟩ ⟨rfl, rfl⟩ ⟨rfl, rfl, rfl, rfl, rfl, rfl, rfl, rfl, rfl⟩ ⟨rfl, rfl, rfl, rfl, rfl, rfl, rfl, rfl, rfl, rfl, rfl⟩ ⟨rfl, rfl, rfl⟩
theorem ic_standing {N : Int} {T T' : Zt} {r : Option Zv} {c d k : Int} (h : IC_ N T) (q : po_X10_standing T c d k T' r) : IC_ (N + 1) T' := by
  obtain ⟨_, -, f, -⟩ := q
  exact ic_f h f ⟨⟨fun _ => rfl, fun _ => rfl, fun _ => rfl, fun _ => rfl, fun _ => rfl⟩, ⟨rfl, rfl⟩, ⟨rfl, rfl, rfl, rfl⟩, rfl, rfl, rfl, rfl⟩ ⟨rfl, rfl⟩ ⟨rfl, rfl, rfl, rfl, rfl, rfl, rfl, rfl, rfl⟩ ⟨rfl, rfl, rfl, rfl, rfl, rfl, rfl, rfl, rfl, rfl, rfl⟩ ⟨rfl, rfl, rfl⟩
theorem ic_lineUp {N : Int} {T T' : Zt} {r : Option Zv} {q b s : Int} (h : IC_ N T) (q : po_X10_lineUp T q b s T' r) : IC_ (N + 1) T' := by
  obtain ⟨_, -, f, -⟩ := q
  exact ic_f h f ⟨⟨fun _ => rfl, fun _ => rfl, fun _ => rfl, fun _ => rfl, fun _ => rfl⟩, ⟨rfl, rfl⟩, ⟨rfl, rfl, rfl, rfl⟩, rfl, rfl, rfl, rfl⟩ ⟨rfl, rfl⟩ ⟨rfl, rfl, rfl, rfl, rfl, rfl, rfl, rfl, rfl⟩ ⟨rfl, rfl, rfl, rfl, rfl, rfl, rfl, rfl, rfl, rfl, rfl⟩ ⟨rfl, rfl, rfl⟩
theorem ic_ways {N : Int} {T T' : Zt} {r : Option Zv} (h : IC_ N T) (q : po_X10_ways T T' r) : IC_ (N + 1) T' := by
  obtain ⟨_, -, f, -⟩ := q
  exact ic_f h f ⟨⟨fun _ => rfl, fun _ => rfl, fun _ => rfl, fun _ => rfl, fun _ => rfl⟩, ⟨rfl, rfl⟩, ⟨rfl, rfl, rfl, rfl⟩, rfl, rfl, rfl, rfl⟩ ⟨rfl, rfl⟩ ⟨rfl, rfl, rfl, rfl, rfl, rfl, rfl, rfl, rfl⟩ ⟨rfl, rfl, rfl, rfl, rfl, rfl, rfl, rfl, rfl, rfl, rfl⟩ ⟨rfl, rfl, rfl⟩
theorem ic_chance {N : Int} {T T' : Zt} {r : Option Zv} {c g : Int} (h : IC_ N T) (q : po_X10_chance T c g T' r) : IC_ (N + 1) T' := by
  obtain ⟨_, -, f, -⟩ := q
  exact ic_f h f ⟨⟨fun _ => rfl, fun _ => rfl, fun _ => rfl, fun _ => rfl, fun _ => rfl⟩, ⟨rfl, rfl⟩, ⟨rfl, rfl, rfl, rfl⟩, rfl, rfl, rfl, rfl⟩ ⟨rfl, rfl⟩ ⟨rfl, rfl, rfl, rfl, rfl, rfl, rfl, rfl, rfl⟩ ⟨rfl, rfl, rfl, rfl, rfl, rfl, rfl, rfl, rfl, rfl, rfl⟩ ⟨rfl, rfl, rfl⟩
theorem ic_ball {N : Int} {T T' : Zt} {r : Option Zv} {s b : Int} (h : IC_ N T) (q : po_X10_ball T s b T' r) : IC_ (N + 1) T' := by
  obtain ⟨_, -, f, -⟩ := q
  exact ic_f h f ⟨⟨fun _ => rfl, fun _ => rfl, fun _ => rfl, fun _ => rfl, fun _ => rfl⟩, ⟨rfl, rfl⟩, ⟨rfl, rfl, rfl, rfl⟩, rfl, rfl, rfl, rfl⟩ ⟨rfl, rfl⟩ ⟨rfl, rfl, rfl, rfl, rfl, rfl, rfl, rfl, rfl⟩ ⟨rfl, rfl, rfl, rfl, rfl, rfl, rfl, rfl, rfl, rfl, rfl⟩ ⟨rfl, rfl, rfl⟩
theorem ic_event {N : Int} {T T' : Zt} {r : Option Zv} {m k s a b : Int} (hT : ok_T T) (ha : al_ T 109 0) (h : IC_ N T) (q : po_X10_event T N m k s a b T' r) : IC_ (N + 1) T' := by
  obtain ⟨k, d, n, l, s, b1, b2⟩ := h
  obtain ⟨_, -, f, q1, q2, q3⟩ := q
  have q4 := q2.2
  exact ⟨ic_t k f ⟨⟨fun _ => rfl, fun _ => rfl, fun _ => rfl, fun _ => rfl, fun _ => rfl⟩, ⟨rfl, rfl⟩, ⟨rfl, rfl, rfl, rfl⟩, rfl, rfl, rfl, rfl⟩, DD__f d f ⟨rfl, rfl, rfl, rfl, rfl, trivial⟩, NA_f n f ⟨rfl, rfl, rfl, rfl, rfl, rfl, rfl, rfl, rfl⟩, q1, sk_l hT ha s q2 (f 109 0 15 rfl), by omega, by omega⟩
theorem ic_review {N : Int} {T T' : Zt} {r : Option Zv} {m i k s a b : Int} (hT : ok_T T) (ha : al_ T 109 0) (h : IC_ N T) (q : po_X10_review T N m i k s a b T' r) : IC_ (N + 1) T' := by
  obtain ⟨k, d, n, l, s, b1, b2⟩ := h
  obtain ⟨_, -, f, q1, q2, q3⟩ := q
  have q4 := q2.2
  exact ⟨ic_t k f ⟨⟨fun _ => rfl, fun _ => rfl, fun _ => rfl, fun _ => rfl, fun _ => rfl⟩, ⟨rfl, rfl⟩, ⟨rfl, rfl, rfl, rfl⟩, rfl, rfl, rfl, rfl⟩, DD__f d f ⟨rfl, rfl, rfl, rfl, rfl, trivial⟩, NA_f n f ⟨rfl, rfl, rfl, rfl, rfl, rfl, rfl, rfl, rfl⟩, q1, sk_l hT ha s q2 (f 109 0 15 rfl), by omega, by omega⟩
theorem LP_m {N N2 : Int} {T : Zt} (h : LP_ N T) (g : N ≤ N2) : LP_ N2 T := LP_f (ws := []) h g lh_r (fr_0 _ _) ⟨rfl, rfl, rfl, rfl, rfl, rfl, rfl, rfl, rfl, rfl, rfl⟩
theorem ic_start {N : Int} {T T' : Zt} {r : Option Zv} {m : Int} (hT : ok_T T) (ha : al_ T 109 0) (h : IC_ N T) (q : po_X10_start T N m T' r) : IC_ (N + 1) T' := by
  obtain ⟨k, d, n, l, s, b1, b2⟩ := h
  obtain ⟨_, -, f, q1, q2, q3, q5, -⟩ := q
  have q4 := q2.2
  exact ⟨ic_t k f ⟨⟨fun _ => rfl, fun _ => rfl, fun _ => rfl, fun _ => rfl, fun _ => rfl⟩, ⟨rfl, rfl⟩, ⟨rfl, rfl, rfl, rfl⟩, rfl, rfl, rfl, rfl⟩, DD__f d f ⟨rfl, rfl, rfl, rfl, rfl, trivial⟩, q5, LP_m q1 (by omega), sk_l hT ha s q2 (f 109 0 15 rfl), by omega, by omega⟩
theorem ic_assign {N : Int} {T T' : Zt} {r : Option Zv} {d9 : Int} (hT : ok_T T) (ha : al_ T 109 0) (h : IC_ N T) (q : po_X10_assign T d9 T' r) : IC_ (N + 1) T' := by
  obtain ⟨k, d, n, l, s, b1, b2⟩ := h
  obtain ⟨_, -, f, q2, q3⟩ := q
  have q4 := q2.2
  exact ⟨ic_t k f ⟨⟨fun _ => rfl, fun _ => rfl, fun _ => rfl, fun _ => rfl, fun _ => rfl⟩, ⟨rfl, rfl⟩, ⟨rfl, rfl, rfl, rfl⟩, rfl, rfl, rfl, rfl⟩, DD__f d f ⟨rfl, rfl, rfl, rfl, rfl, trivial⟩, NA_f n f ⟨rfl, rfl, rfl, rfl, rfl, rfl, rfl, rfl, rfl⟩, LP_f l (by omega) q2 f ⟨rfl, rfl, rfl, rfl, rfl, rfl, rfl, rfl, rfl, rfl, rfl⟩, sk_l hT ha s q2 (f 109 0 15 rfl), by omega, by omega⟩
theorem ic_can {N : Int} {T T' : Zt} {r : Option Zv} {c b : Int} (hT : ok_T T) (ha : al_ T 109 0) (h : IC_ N T) (q : po_X10_can T c b T' r) : IC_ (N + 1) T' := by
  obtain ⟨k, d, n, l, s, b1, b2⟩ := h
  obtain ⟨_, -, f, q1, q2, q3⟩ := q
  have q4 := q2.2
  exact ⟨ic_t k f ⟨⟨fun _ => rfl, fun _ => rfl, fun _ => rfl, fun _ => rfl, fun _ => rfl⟩, ⟨rfl, rfl⟩, ⟨rfl, rfl, rfl, rfl⟩, rfl, rfl, rfl, rfl⟩, DD__f d f ⟨rfl, rfl, rfl, rfl, rfl, trivial⟩, NA_f n f ⟨rfl, rfl, rfl, rfl, rfl, rfl, rfl, rfl, rfl⟩, LP_f l (by omega) q2 f ⟨rfl, rfl, rfl, rfl, rfl, rfl, rfl, rfl, rfl, rfl, rfl⟩, q1, by omega, by omega⟩
theorem ic_postpone {N : Int} {T T' : Zt} {r : Option Zv} {m d9 : Int} (h : IC_ N T) (q : po_X10_postpone_k T m d9 T' r) : IC_ (N + 1) T' := by
  obtain ⟨k, d, n, l, s, b1, b2⟩ := h
  obtain ⟨_, -, f, q1⟩ := q
  have e9 := f 191 0 0 rfl
  refine ⟨ic_t k f ⟨⟨fun _ => rfl, fun _ => rfl, fun _ => rfl, fun _ => rfl, fun _ => rfl⟩, ⟨rfl, rfl⟩, ⟨rfl, rfl, rfl, rfl⟩, rfl, rfl, rfl, rfl⟩, q1, NA_f n f ⟨rfl, rfl, rfl, rfl, rfl, rfl, rfl, rfl, rfl⟩, LP_f l (by omega) (lh_f lh_r f rfl rfl) f ⟨rfl, rfl, rfl, rfl, rfl, rfl, rfl, rfl, rfl, rfl, rfl⟩, ?_, by omega, by omega⟩
  rw [f 109 0 15 rfl, f 190 _ _ rfl]
  exact s
theorem ic_walkOver {N : Int} {T T' : Zt} {r : Option Zv} {m d9 : Int} (h : IC_ N T) (q : po_X10_walkOver_k T m d9 T' r) : IC_ (N + 1) T' := by
  obtain ⟨k, d, n, l, s, b1, b2⟩ := h
  obtain ⟨_, -, f, q1⟩ := q
  have e9 := f 191 0 0 rfl
  refine ⟨ic_t k f ⟨⟨fun _ => rfl, fun _ => rfl, fun _ => rfl, fun _ => rfl, fun _ => rfl⟩, ⟨rfl, rfl⟩, ⟨rfl, rfl, rfl, rfl⟩, rfl, rfl, rfl, rfl⟩, fun i j a b c e1 e2 => ?_, NA_f n f ⟨rfl, rfl, rfl, rfl, rfl, rfl, rfl, rfl, rfl⟩, LP_f l (by omega) (lh_f lh_r f rfl rfl) f ⟨rfl, rfl, rfl, rfl, rfl, rfl, rfl, rfl, rfl, rfl, rfl⟩, ?_, by omega, by omega⟩
  · rw [f 106 0 4 rfl] at c
    rw [f 102 i 0 rfl, f 102 j 0 rfl, f 102 i 3 rfl, f 102 j 3 rfl, f 102 i 5 rfl, f 102 j 5 rfl]
    exact d i j a b c (by rcases q1 i with z | z <;> omega) (by rcases q1 j with z | z <;> omega)
  · rw [f 109 0 15 rfl, f 190 _ _ rfl]
    exact s
theorem ic_enter {N : Int} {T T' : Zt} {r : Option Zv} {c9 b9 : Int} (h : IC_ N T) (q : po_X10_enter_k T c9 b9 T' r) : IC_ (N + 1) T' := by
  obtain ⟨⟨k1, k2, k3, k4, k5, k6, k7, k8, k9, k10⟩, d, n, l, s, b1, b2⟩ := h
  obtain ⟨_, -, f, q1, q2⟩ := q
  have e9 := f 191 0 0 rfl
  refine ⟨⟨KA__f k1 f ⟨fun _ => rfl, fun _ => rfl, rfl, rfl, trivial⟩, KM__f k2 f ⟨rfl, rfl, rfl, rfl, trivial⟩, KC__f k3 f ⟨rfl, rfl, rfl, rfl, trivial⟩, KR__f k4 f ⟨fun _ => rfl, rfl, trivial⟩, fun c a b m p q => ?_, KO__f k6 f ⟨fun _ => rfl, rfl, trivial⟩, q1, KB__f k8 f ⟨fun _ => rfl, rfl, trivial⟩, KP__f k9 f ⟨rfl, rfl, rfl, trivial⟩, KW__f k10 f ⟨fun _ => rfl, rfl, trivial⟩⟩, DD__f d f ⟨rfl, rfl, rfl, rfl, rfl, trivial⟩, NA_f n f ⟨rfl, rfl, rfl, rfl, rfl, rfl, rfl, rfl, rfl⟩, LP_f l (by omega) (lh_f lh_r f rfl rfl) f ⟨rfl, rfl, rfl, rfl, rfl, rfl, rfl, rfl, rfl, rfl, rfl⟩, ?_, by omega, by omega⟩
  · rw [f 106 0 2 rfl] at b
    rw [f 100 c 7 rfl] at p
    rw [f 100 c 7 rfl, f 100 c 8 rfl] at q
    rw [f 102 m 0 rfl, f 102 m 3 rfl, f 102 m 4 rfl]
    have y := k5 c a b m p q
    exact ⟨y.1, q2 _ _ y.2.1, q2 _ _ y.2.2⟩
  · rw [f 109 0 15 rfl, f 190 _ _ rfl]
    exact s
theorem ic_plan {N : Int} {T T' : Zt} {r : Option Zv} {c b : Int} (hT : ok_T T) (h : IC_ N T) (q : po_X10_plan T c b T' r) : IC_ (N + 1) T' := by
  obtain ⟨_, -, q⟩ := q
  rcases q with q | q
  · rw [q]; exact ic_e h
  · obtain ⟨⟨k1, k2, k3, k4, k5, k6, k7, k8, k9, k10⟩, d, n, l, s, b1, b2⟩ := h
    have f := q.2.1
    obtain ⟨g1, g2, g3, g4, g5, g6, g7, g8⟩ := sc_ic q k1 k2 k3 k5 k9 d (LP_m l (show N ≤ N + 1 by omega)) (fun i => (bd_f hT 100 7 (by decide +kernel : (tf_ 100)[7]? = some (0, 0, 0, 400)) i).1) (bd_f hT 106 4 (by decide +kernel : (tf_ 106)[4]? = some (0, 0, 0, 400)) 0).1
    have e9 := f 191 0 0 rfl
    refine ⟨⟨g1, g2, g3, KR__f k4 f ⟨fun _ => rfl, rfl, trivial⟩, g4, KO__f k6 f ⟨fun _ => rfl, rfl, trivial⟩, KE__f k7 f ⟨fun _ => rfl, fun _ => rfl, rfl, rfl, trivial⟩, KB__f k8 f ⟨fun _ => rfl, rfl, trivial⟩, g5, KW__f k10 f ⟨fun _ => rfl, rfl, trivial⟩⟩, g6, g7, g8, ?_, by omega, by omega⟩
    rw [f 109 0 15 rfl, f 190 _ _ rfl]
    exact s
theorem ic_competition {N : Int} {T T' : Zt} {r : Option Zv} (hT : ok_T T) (h : IC_ N T) (q : po_X10_competition T T' r) : IC_ (N + 1) T' := by
  obtain ⟨_, -, q⟩ := q
  rcases q with f | ⟨f, ⟨e2, e4⟩, q1, q2, q3, ⟨z5, z6, z7, z8⟩, q4, q5, q6⟩
  · exact ic_f h f ⟨⟨fun _ => rfl, fun _ => rfl, fun _ => rfl, fun _ => rfl, fun _ => rfl⟩, ⟨rfl, rfl⟩, ⟨rfl, rfl, rfl, rfl⟩, rfl, rfl, rfl, rfl⟩ ⟨rfl, rfl⟩ ⟨rfl, rfl, rfl, rfl, rfl, rfl, rfl, rfl, rfl⟩ ⟨rfl, rfl, rfl, rfl, rfl, rfl, rfl, rfl, rfl, rfl, rfl⟩ ⟨rfl, rfl, rfl⟩
  · obtain ⟨⟨k1, k2, k3, k4, k5, k6, k7, k8, k9, k10⟩, d, n, l, s, b1, b2⟩ := h
    have e9 := f 191 0 0 rfl
    have em := f 106 0 4 rfl
    have hm : 0 ≤ T 106 0 4 := (bd_f hT 106 4 (by decide +kernel : (tf_ 106)[4]? = some (0, 0, 0, 400)) 0).1
    have hc : 0 ≤ T 106 0 2 := (bd_f hT 106 2 (by decide +kernel : (tf_ 106)[2]? = some (0, 0, 0, 4)) 0).1
    have o401 : ∀ c j, c ≠ T 106 0 2 → T' 401 c j = T 401 c j := fun c j h => q1 401 c j (Or.inr (Or.inr (Or.inl rfl))) h
    have o100 : ∀ c j, c ≠ T 106 0 2 → T' 100 c j = T 100 c j := fun c j h => q1 100 c j (Or.inl rfl) h
    have o403 : ∀ c j, c ≠ T 106 0 2 → T' 403 c j = T 403 c j := fun c j h => q1 403 c j (Or.inr (Or.inr (Or.inr (Or.inl rfl)))) h
    have o404 : ∀ c j, c ≠ T 106 0 2 → T' 404 c j = T 404 c j := fun c j h => q1 404 c j (Or.inr (Or.inr (Or.inr (Or.inr rfl)))) h
    have e02 : ∀ i j, T' 102 i j = T 102 i j := fun i j => f 102 i j rfl
    refine ⟨⟨⟨fun i a b => ?_, fun i a b => ?_⟩, fun m a b => ?_, fun c a b => ?_, fun c a b => ?_, fun c a b m p q => ?_, fun c a b => ?_, fun c a b j p q => ?_, fun c a b => ?_, fun m a b => ?_, fun c a b => ?_⟩, DD__f d f ⟨rfl, rfl, rfl, rfl, rfl, trivial⟩, q6, fun p a b g => ?_, ?_, by omega, by omega⟩
    · by_cases z : i = T 106 0 2
      · rw [z, q3]; decide
      · rw [q2 i z]; exact k1.1 i a (by omega)
    · rw [f 523 0 i rfl]; exact k1.2 i a (by omega)
    · have y := k2 m a (by omega)
      rw [e02, e02]
      omega
    · by_cases z : c = T 106 0 2
      · rw [z, z7, z8]; omega
      · rw [o100 c 7 z, o100 c 8 z, em]; exact k3 c a (by omega)
    · by_cases z : c = T 106 0 2
      · rw [z]; exact q4 9 (by omega) (by omega)
      · rw [o401 c 9 z]; exact k4 c a (by omega)
    · by_cases z : c = T 106 0 2
      · rw [z, z7] at p; rw [z, z7, z8] at q; omega
      · rw [o100 c 7 z] at p
        rw [o100 c 7 z, o100 c 8 z] at q
        rw [e02, e02, e02, o404 c _ z, o404 c _ z]
        exact k5 c a (by omega) m p q
    · by_cases z : c = T 106 0 2
      · rw [z]; exact (q4 4 (by omega) (by omega)).2
      · rw [o401 c 4 z]; exact k6 c a (by omega)
    · by_cases z : c = T 106 0 2
      · rw [z, z5] at q; omega
      · rw [o100 c 5 z] at q
        rw [o403 c j z, o404 c _ z]
        exact k7 c a (by omega) j p q
    · by_cases z : c = T 106 0 2
      · rw [z]
        have y6 := q4 6 (by omega) (by omega)
        have y7 := q4 7 (by omega) (by omega)
        have w1 : (sa_ 1).getD (Int.toNat 6) 0 = 1 := by decide
        have w2 : (sa_ 2).getD (Int.toNat 6) 0 = 4 := by decide
        have w3 : (sa_ 1).getD (Int.toNat 7) 0 = 1 := by decide
        have w4 : (sa_ 2).getD (Int.toNat 7) 0 = 30 := by decide
        omega
      · rw [o401 c 6 z, o401 c 7 z]; exact k8 c a (by omega)
    · have y := k2 m a (by omega)
      rw [e02, o100 _ 6 (by omega)]
      exact k9 m a (by omega)
    · by_cases z : c = T 106 0 2
      · rw [z]; exact q5
      · rw [o401 c 2 z, o401 c 1 z]; exact k10 c a (by omega)
    · rw [e02] at g
      exact Lp_o (l p a (by omega) g) (by omega) ⟨fun x _ => f 190 x _ rfl, by omega⟩ (by omega) ⟨f _ _ _ rfl, f _ _ _ rfl, f _ _ _ rfl, f _ _ _ rfl, f _ _ _ rfl, f _ _ _ rfl, f _ _ _ rfl, f _ _ _ rfl⟩
    · rw [f 109 0 15 rfl, f 190 _ _ rfl]
      exact s

