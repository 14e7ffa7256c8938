-- raw objects become things of the picture; references into rows; clones and copies
section JP
variable {Y Yc : Zm} {T0 T : Zt} {P : Zt → Option Zv → Prop} {bc bs bc' bs' : Nat} {pc : Int} {ls : Zl} {st rest : List Zv}
def cw_ (T : Zt) (k : Nat) (i : Int) (g : Int → Int) : Zt := fun k' i' j' => if k' = k ∧ i' = i then (if j' = -1 then 1 else g j') else if k' = k + 50 ∧ i' = i ∧ j' = -1 then 0 else T k' i' j'
theorem cw_s {k : Nat} {i : Int} {g : Int → Int} {j : Int} (h : 0 ≤ j) : cw_ T k i g k i j = g j := by
  unfold cw_
  rw [if_pos ⟨rfl, rfl⟩, if_neg (by omega)]
theorem cw_o {k k' : Nat} {i i' : Int} {g : Int → Int} (h : ¬ (k' = k ∧ i' = i)) (h2 : ¬ (k' = k + 50 ∧ i' = i)) : cw_ T k i g k' i' = T k' i' := by
  funext j
  unfold cw_
  rw [if_neg h, if_neg (fun z => h2 ⟨z.1, z.2.1⟩)]
theorem cw_n {k k' : Nat} {i i' j : Int} {g : Int → Int} (h : ¬ (k' = k ∧ i' = i)) (h2 : j ≠ -1) : cw_ T k i g k' i' j = T k' i' j := by
  unfold cw_
  rw [if_neg h, if_neg (fun z => h2 z.2.2)]
theorem al_cw {k : Nat} {i : Int} {g : Int → Int} (k' : Nat) (i' : Int) : al_ (cw_ T k i g) k' i' ↔ (k' = k ∧ i' = i) ∨ (al_ T k' i' ∧ ¬ (k' = k + 50 ∧ i' = i)) := by
  unfold al_ cw_
  by_cases h : k' = k ∧ i' = i
  · rw [if_pos h, if_pos rfl]
    simp [h]
  · rw [if_neg h]
    by_cases h2 : k' = k + 50 ∧ i' = i
    · rw [if_pos ⟨h2.1, h2.2, rfl⟩]
      simp [h, h2]
    · rw [if_neg (fun z => h2 ⟨z.1, z.2.1⟩)]
      simp [h, h2]
/-- no local and nothing on the stack is of a kind -/
def nk_ (k : Nat) : List (Option Zv) → Bool
  | [] => true
  | some (.inr (.inr (some (k', _)))) :: r => !(k' == k) && nk_ k r
  | _ :: r => nk_ k r
theorem nk_no {k : Nat} {i : Int} : ∀ {l : List (Option Zv)}, nk_ k l = true → some (vR k i) ∉ l
  | [], _ => by simp
  | none :: r, h => by
    intro q
    rcases List.mem_cons.mp q with q | q
    · cases q
    · exact nk_no (l := r) h q
  | some (.inl x) :: r, h => by
    intro q
    rcases List.mem_cons.mp q with q | q
    · cases q
    · exact nk_no (l := r) h q
  | some (.inr (.inl x)) :: r, h => by
    intro q
    rcases List.mem_cons.mp q with q | q
    · cases q
    · exact nk_no (l := r) h q
  | some (.inr (.inr none)) :: r, h => by
    intro q
    rcases List.mem_cons.mp q with q | q
    · cases q
    · exact nk_no (l := r) h q
  | some (.inr (.inr (some (k', i')))) :: r, h => by
    simp only [nk_, Bool.and_eq_true, Bool.not_eq_true', beq_eq_false_iff_ne] at h
    intro q
    rcases List.mem_cons.mp q with q | q
    · cases q
      exact h.1 rfl
    · exact nk_no (l := r) h.2 q
theorem fv_ky {k j c k' : Nat} {lo hi x i : Int} (h : (tf_ k)[j]? = some (c, k', lo, hi)) {k2 : Nat} {i2 : Int} (e : fv_ c k' x i = vR k2 i2) : ¬ (150 ≤ k2 ∧ k2 < 154) := by
  have h1 := tf_ky k (tf_lt h) _ (List.mem_of_getElem? h)
  have h2 : k2 = k' := by
    match c, e with
    | 0, e => cases e
    | 1, e => cases e; rfl
    | 2, e => cases e; rfl
    | 3, e => cases e; rfl
    | 4, e =>
      have e : (if x = 0 then vN else vR k' i) = vR k2 i2 := e
      split at e
      · cases e
      · cases e; rfl
    | 5, e =>
      have e : (if x = 0 then vN else vR k' (x - 1)) = vR k2 i2 := e
      split at e
      · cases e
      · cases e; rfl
    | c + 6, e => cases e
  rw [h2]
  exact h1
theorem j_conv {k : Nat} {i : Int} {g : Int → Int} (hk : k = 100 ∨ k = 102 ∨ k = 103) (hfr : ¬ al_ T k i) (h0 : ¬ al_ T0 (k + 50) i) (hg : ∀ (j c k1 : Nat) (lo hi : Int), (tf_ k)[j]? = some (c, k1, lo, hi) → ∃ c2 k2 lo2 hi2, (tf_ (k + 50))[j]? = some (c2, k2, lo2, hi2) ∧ fv_ c k1 (g j) i = fv_ c2 k2 (T (k + 50) i j) i ∧ lo ≤ g j ∧ g j ≤ hi) (hls : nk_ (k + 50) ls = true) (hst : nk_ (k + 50) (st.map some) = true) (kk : J_ Y T0 P bc bs pc ls (vR k i :: st) (cw_ T k i g)) : J_ Y T0 P bc bs pc ls (vR (k + 50) i :: st) T := by
  intro l p e s m args below meth c D cA ad0 A X ad H locs cells slots lsC hc hs hR hS hB hT hL hl hln
  have hraw : al_ T (k + 50) i := ok_al (v := none) (by omega) (ok_head hL)
  obtain ⟨ids, hids, hP, hD⟩ := rp_ids hR
  have hlen : (tf_ k).length = (tf_ (k + 50)).length := by
    rcases hk with rfl | rfl | rfl <;> decide +kernel
  have hce : ∀ ad2 : Nat → Int → Nat, ce_ cA ad2 (cw_ T k i g) k i = .inr (k - 100, (tf_ k).zipIdx.map fun q => en_v ad2 (fv_ q.1.1 q.1.2.1 (g (q.2 : Int)) i)) := fun ad2 => by
    have e1 : ((tf_ k).zipIdx.map fun q => en_v ad2 (fv_ q.1.1 q.1.2.1 (cw_ T k i g k i (q.2 : Int)) i)) = (tf_ k).zipIdx.map fun q => en_v ad2 (fv_ q.1.1 q.1.2.1 (g (q.2 : Int)) i) := by
      apply List.map_congr_left
      rintro ⟨q, j⟩ _
      rw [cw_s (by omega)]
    unfold ce_
    rw [tk_no _ (by omega), e1]
    simp only [kc_]
    rw [if_pos (by omega)]
  have hcr : ce_ cA ad T (k + 50) i = .inr (k - 100, (tf_ (k + 50)).zipIdx.map fun q => en_v ad (fv_ q.1.1 q.1.2.1 (T (k + 50) i (q.2 : Int)) i)) := by
    unfold ce_
    rw [tk_no _ (by omega)]
    simp only [kc_]
    rw [if_neg (by omega), show k + 50 - 150 = k - 100 by omega]
  have had : ∀ k' i', k' < 100 ∨ al_ T k' i' → aq_ ad k i (ad (k + 50) i) k' i' = ad k' i' := aq_e (by omega) hfr
  have hraws : ∀ (j c2 k2 : Nat) (lo2 hi2 : Int), (tf_ (k + 50))[j]? = some (c2, k2, lo2, hi2) → ok_v T (fv_ c2 k2 (T (k + 50) i j) i) := fun j c2 k2 lo2 hi2 h => hT.2.2.2.1 _ _ hraw j c2 k2 lo2 hi2 h
  have hfl : ((tf_ k).zipIdx.map fun q => en_v (aq_ ad k i (ad (k + 50) i)) (fv_ q.1.1 q.1.2.1 (g (q.2 : Int)) i)) = (tf_ (k + 50)).zipIdx.map fun q => en_v ad (fv_ q.1.1 q.1.2.1 (T (k + 50) i (q.2 : Int)) i) := by
    apply List.ext_getElem?
    intro n
    rw [List.getElem?_map, List.getElem?_map, List.getElem?_zipIdx, List.getElem?_zipIdx]
    cases hn : (tf_ k)[n]? with
    | none =>
      have : (tf_ (k + 50))[n]? = none := by
        rw [List.getElem?_eq_none_iff] at hn ⊢
        omega
      rw [this]
      rfl
    | some q =>
      obtain ⟨c1, k1, lo, hi⟩ := q
      obtain ⟨c2, k2, lo2, hi2, h2, e2, -, -⟩ := hg n c1 k1 lo hi hn
      rw [h2]
      simp only [Option.map_some, Nat.zero_add]
      rw [e2, en_congr had (hraws n c2 k2 lo2 hi2 h2)]
  have hw : wd_ cA (aq_ ad k i (ad (k + 50) i)) (cw_ T k i g) (ids.map fun q => if q = (k + 50, i) then (k, i) else q) = wd_ cA ad T ids := by
    unfold wd_
    rw [List.map_map]
    apply List.map_congr_left
    rintro ⟨k', i'⟩ hm
    have ha := (hids k' i').mpr hm
    by_cases ez : (k', i') = (k + 50, i)
    · cases ez
      show (aq_ ad k i (ad (k + 50) i) (if (k + 50, i) = (k + 50, i) then (k, i) else (k + 50, i)).1 (if (k + 50, i) = (k + 50, i) then (k, i) else (k + 50, i)).2, ce_ cA _ _ (if (k + 50, i) = (k + 50, i) then (k, i) else (k + 50, i)).1 (if (k + 50, i) = (k + 50, i) then (k, i) else (k + 50, i)).2) = _
      rw [if_pos rfl, aq_s, hce, hfl, ← hcr]
    · show (aq_ ad k i (ad (k + 50) i) (if (k', i') = (k + 50, i) then (k, i) else (k', i')).1 (if (k', i') = (k + 50, i) then (k, i) else (k', i')).2, ce_ cA _ _ (if (k', i') = (k + 50, i) then (k, i) else (k', i')).1 (if (k', i') = (k + 50, i) then (k, i) else (k', i')).2) = _
      rw [if_neg ez]
      have hne : ¬ (k' = k ∧ i' = i) := fun z => hfr (by rw [← z.1, ← z.2]; exact ha)
      have hne2 : ¬ (k' = k + 50 ∧ i' = i) := fun z => ez (by rw [z.1, z.2])
      rw [ce_congr (cw_o hne hne2), ce_ad hT had ha, aq_n hne]
  have hRp : Rp_ D cA (aq_ ad k i (ad (k + 50) i)) (cw_ T k i g) A H := by
    refine ⟨ids.map fun q => if q = (k + 50, i) then (k, i) else q, fun k' i' => ?_, by rw [hw]; exact hP, by rw [hw]; exact hD⟩
    rw [al_cw, List.mem_map]
    constructor
    · rintro (⟨rfl, rfl⟩ | ⟨h1, h2⟩)
      · exact ⟨(k' + 50, i'), (hids _ _).mp hraw, by rw [if_pos rfl]⟩
      · exact ⟨(k', i'), (hids _ _).mp h1, by rw [if_neg (fun z => h2 (by cases z; exact ⟨rfl, rfl⟩))]⟩
    · rintro ⟨⟨k9, i9⟩, h1, h2⟩
      by_cases ez : (k9, i9) = (k + 50, i)
      · rw [if_pos ez] at h2
        cases h2
        exact Or.inl ⟨rfl, rfl⟩
      · rw [if_neg ez] at h2
        cases h2
        exact Or.inr ⟨(hids _ _).mpr h1, fun z => ez (by rw [z.1, z.2])⟩
  have mo : ∀ k' i', al_ T k' i' → ¬ (k' = k + 50 ∧ i' = i) → al_ (cw_ T k i g) k' i' := fun k' i' h h2 => (al_cw k' i').mpr (Or.inr ⟨h, h2⟩)
  have mov : ∀ v : Zv, ok_v T v → v ≠ vR (k + 50) i → ok_v (cw_ T k i g) v := fun v hv hne => by
    rcases v with x | x | _ | ⟨k9, i9⟩
    · exact hv
    · exact hv
    · exact trivial
    · rcases hv with h | h
      · exact Or.inl h
      · exact Or.inr (mo _ _ h (fun z => hne (by rw [z.1, z.2])))
  have hok : ok_T (cw_ T k i g) := by
    obtain ⟨a1, a2, a3, a4, a5, a6, a7, a8, a9⟩ := hT
    refine ⟨fun k' t' n' lo' hi' h i' x' hx => ?_, fun k' j' c k'' lo' hi' h i' => ?_, fun i' => ?_, fun k' i' hl' j' c k'' lo' hi' h => ?_, fun i' x' hx h => ?_, fun i' x' hx h => ?_, fun k' i' h q => ?_, fun k' i' o h q => ?_, fun i' h q => ?_⟩
    · have := ta_ge h
      rw [cw_o (fun z => by omega) (fun z => by omega)]
      exact a1 k' t' n' lo' hi' h i' x' hx
    · by_cases ez : k' = k ∧ i' = i
      · obtain ⟨rfl, rfl⟩ := ez
        obtain ⟨-, -, -, -, -, -, b1, b2⟩ := hg j' c k'' lo' hi' h
        rw [cw_s (by omega)]
        exact ⟨b1, b2⟩
      · rw [cw_n ez (by omega)]
        exact a2 k' j' c k'' lo' hi' h i'
    · rw [cw_o (fun z => by omega) (fun z => by omega)]
      exact a3 i'
    · rcases (al_cw k' i').mp hl' with ⟨rfl, rfl⟩ | ⟨h1, h2⟩
      · obtain ⟨c2, k2, lo2, hi2, h2, e2, -, -⟩ := hg j' c k'' lo' hi' h
        rw [cw_s (by omega), e2]
        refine mov _ (hraws j' c2 k2 lo2 hi2 h2) (fun z => fv_ky h2 z (by omega))
      · by_cases ez : k' = k ∧ i' = i
        · obtain ⟨rfl, rfl⟩ := ez
          exact absurd h1 hfr
        · rw [cw_o ez h2]
          exact mov _ (a4 k' i' h1 j' c k'' lo' hi' h) (fun z => fv_ky h z (by omega))
    · rw [cw_o (fun z => by omega) (fun z => by omega)] at h
      exact mo _ _ (a5 i' x' hx h) (fun z => by omega)
    · rw [cw_o (fun z => by omega) (fun z => by omega)] at h
      exact mo _ _ (a6 i' x' hx h) (fun z => by omega)
    · rcases (al_cw k' i').mp q with z | ⟨h1, -⟩
      · omega
      · exact a7 k' i' h h1
    · rcases (al_cw k' i').mp q with z | ⟨h1, h2⟩
      · have : ow_ k' = none := by
          rw [z.1]
          rcases hk with rfl | rfl | rfl <;> decide
        rw [this] at h
        cases h
      · have hoo : o = 100 ∨ o = 102 ∨ o = 103 := by
          unfold ow_ at h
          split at h
          · cases h; exact Or.inl rfl
          · split at h
            · cases h; exact Or.inr (Or.inl rfl)
            · split at h
              · cases h; exact Or.inr (Or.inr rfl)
              · cases h
        rcases a8 k' i' o h h1 with z | z
        · exact Or.inl (mo _ _ z (fun w => by omega))
        · by_cases w : o + 50 = k + 50 ∧ i' = i
          · exact Or.inl ((al_cw o i').mpr (Or.inl ⟨by omega, w.2⟩))
          · exact Or.inr (mo _ _ z w)
    · rw [cw_o (fun z => by omega) (fun z => by omega)] at h
      rcases (al_cw 190 i').mp q with z | ⟨h1, -⟩
      · omega
      · exact a9 i' h h1
  have hlsn : ∀ (j : Nat) (v : Zv), ls[j]? = some (some v) → v ≠ vR (k + 50) i := fun j v hj z => nk_no hls (i := i) (by rw [← z]; exact List.mem_of_getElem? hj)
  have hstn : ∀ v ∈ st, v ≠ vR (k + 50) i := fun v hv z => nk_no hst (i := i) (by rw [← z]; exact List.mem_map.mpr ⟨v, hv, rfl⟩)
  have hee : ∀ v, ok_v T v → en_v (aq_ ad k i (ad (k + 50) i)) v = en_v ad v := fun v hv => en_congr had hv
  have el : lp_ (aq_ ad k i (ad (k + 50) i)) 0 ls = lp_ ad 0 ls := lp_congr (fun k v hk => hee v (hL.1 k v hk))
  have es : st.map (en_v (aq_ ad k i (ad (k + 50) i))) = st.map (en_v ad) := List.map_congr_left (fun v hv => hee v ((ok_tail hL).2 v hv))
  have k2 := kk l p e s m args below meth c D cA ad0 A X (aq_ ad k i (ad (k + 50) i)) H locs cells slots lsC hc hs hRp hS ⟨fun k' i' h => mo _ _ (hB.1 k' i' h) (fun z => h0 (by rw [← z.1, ← z.2]; exact h)), fun k' i' h => by rw [had k' i' (h.imp id (hB.1 k' i'))]; exact hB.2 k' i' h⟩ hok (ok_push (Or.inr ((al_cw k i).mpr (Or.inl ⟨rfl, rfl⟩))) ⟨fun j v hj => mov v (hL.1 j v hj) (hlsn j v hj), fun v hv => mov v ((ok_tail hL).2 v hv) (hstn v hv)⟩) (by rw [el]; exact hl) hln
  have e2 : (vR k i :: st).map (en_v (aq_ ad k i (ad (k + 50) i))) = (vR (k + 50) i :: st).map (en_v ad) := by
    rw [List.map_cons, List.map_cons, es]
    show Value.ref (aq_ ad k i (ad (k + 50) i) k i) :: _ = Value.ref (ad (k + 50) i) :: _
    rw [aq_s]
  rw [e2] at k2
  exact k2
end JP

