-- things are made: rows, objects, copies
section JN
variable {Y : Zm} {T0 T : Zt} {P : Zt → Option Zv → Prop} {bc bs bc' bs' : Nat} {pc pc' : Int} {ls : Zl} {st : List Zv}
def nu_ (T : Zt) (k : Nat) (i n : Int) (f : Int → Int) : Zt := fun k' i' j' => if k' = k ∧ i' = i then (if j' = -1 then 1 else if j' = -2 then n else f j') else T k' i' j'
def aq_ (ad : Nat → Int → Nat) (k : Nat) (i : Int) (q : Nat) : Nat → Int → Nat := fun k' i' => if k' = k ∧ i' = i then q else ad k' i'
theorem nu_o {k k' : Nat} {i i' n : Int} {f : Int → Int} (h : ¬ (k' = k ∧ i' = i)) : nu_ T k i n f k' i' = T k' i' := by
  funext j
  unfold nu_
  rw [if_neg h]
theorem nu_s {k : Nat} {i n : Int} {f : Int → Int} (j : Int) : nu_ T k i n f k i j = if j = -1 then 1 else if j = -2 then n else f j := by
  unfold nu_
  rw [if_pos ⟨rfl, rfl⟩]
theorem nu_p {k : Nat} {i n : Int} {f : Int → Int} {j : Int} (h : 0 ≤ j) : nu_ T k i n f k i j = f j := by
  rw [nu_s, if_neg (by omega), if_neg (by omega)]
theorem nu_l {k : Nat} {i n : Int} {f : Int → Int} : nu_ T k i n f k i (-2) = n := by
  rw [nu_s, if_neg (by omega), if_pos rfl]
theorem al_nu {k : Nat} {i n : Int} {f : Int → Int} (k' : Nat) (i' : Int) : al_ (nu_ T k i n f) k' i' ↔ (k' = k ∧ i' = i) ∨ al_ T k' i' := by
  unfold al_
  by_cases h : k' = k ∧ i' = i
  · obtain ⟨rfl, rfl⟩ := h
    rw [nu_s, if_pos rfl]
    simp
  · rw [nu_o h]
    simp [h]
theorem aq_s {ad : Nat → Int → Nat} {k q : Nat} {i : Int} : aq_ ad k i q k i = q := by
  unfold aq_
  rw [if_pos ⟨rfl, rfl⟩]
theorem aq_n {ad : Nat → Int → Nat} {k q k' : Nat} {i i' : Int} (h : ¬ (k' = k ∧ i' = i)) : aq_ ad k i q k' i' = ad k' i' := by
  unfold aq_
  rw [if_neg h]
theorem aq_e {ad : Nat → Int → Nat} {k q : Nat} {i : Int} (hk : 100 ≤ k) (hfr : ¬ al_ T k i) (k' : Nat) (i' : Int) (h : k' < 100 ∨ al_ T k' i') : aq_ ad k i q k' i' = ad k' i' := by
  refine aq_n (fun z => ?_)
  obtain ⟨rfl, rfl⟩ := z
  rcases h with h | h
  · omega
  · exact hfr h
theorem tf_ky : ∀ k, k < 154 → ∀ q ∈ tf_ k, ¬ (150 ≤ q.2.1 ∧ q.2.1 < 154) := by decide +kernel
theorem zi_at {k : Nat} {q : (Nat × Nat × Int × Int) × Nat} (h : q ∈ (tf_ k).zipIdx) : (tf_ k)[q.2]? = some q.1 := by
  obtain ⟨n, hn⟩ := List.getElem?_of_mem h
  rw [List.getElem?_zipIdx] at hn
  cases hz : (tf_ k)[n]? with
  | none => rw [hz] at hn; cases hn
  | some z =>
    rw [hz] at hn
    simp only [Option.map_some, Nat.zero_add, Option.some.injEq] at hn
    rw [← hn]
    exact hz
theorem ce_ad {cA : Nat → ClassId} {ad ad' : Nat → Int → Nat} (hT : ok_T T) (h : ∀ k i, k < 100 ∨ al_ T k i → ad' k i = ad k i) {k : Nat} {i : Int} (ha : al_ T k i) : ce_ cA ad' T k i = ce_ cA ad T k i := by
  unfold ce_
  cases hk : ta_ k with
  | none =>
    have e : ((tf_ k).zipIdx.map fun q => en_v ad' (fv_ q.1.1 q.1.2.1 (T k i (q.2 : Int)) i)) = (tf_ k).zipIdx.map fun q => en_v ad (fv_ q.1.1 q.1.2.1 (T k i (q.2 : Int)) i) := by
      apply List.map_congr_left
      rintro ⟨⟨c, k', lo, hi⟩, j⟩ hq
      exact en_congr h (hT.2.2.2.1 k i ha j c k' lo hi (zi_at hq))
    simp only [e]
  | some q =>
    obtain ⟨t, n, lo, hi⟩ := q
    have hc := tc_of hk
    have hlt : k < 640 := by
      by_cases z : k < 640
      · exact z
      · rw [ta_no (by omega)] at hk; cases hk
    match t, hk, hc with
    | 0, hk, hc => simp [tc_] at hc
    | 1, hk, hc => rfl
    | 2, hk, hc => rfl
    | 3, hk, hc => rfl
    | 4, hk, hc =>
      obtain rfl := ta_4_k k hlt n lo hi hk
      have e : (fun x : Nat => if T 521 i (x : Int) = 0 then none else some (ad' 100 x)) = fun x : Nat => if T 521 i (x : Int) = 0 then none else some (ad 100 x) := by
        funext x
        by_cases z : T 521 i (x : Int) = 0
        · rw [if_pos z, if_pos z]
        · rw [if_neg z, if_neg z, h 100 x (Or.inr (hT.2.2.2.2.1 i x (by omega) z))]
      simp only [e]
    | 5, hk, hc =>
      obtain rfl := ta_5_k k hlt n lo hi hk
      have e : (fun x : Nat => if T 523 i (x : Int) = 0 then none else some (ad' 102 x)) = fun x : Nat => if T 523 i (x : Int) = 0 then none else some (ad 102 x) := by
        funext x
        by_cases z : T 523 i (x : Int) = 0
        · rw [if_pos z, if_pos z]
        · rw [if_neg z, if_neg z, h 102 x (Or.inr (hT.2.2.2.2.2.1 i x (by omega) z))]
      simp only [e]
    | t + 6, hk, hc => simp [tc_] at hc
theorem ok_nu (hT : ok_T T) {k : Nat} {i n : Int} {f : Int → Int} (hk9 : k ≠ 190 ∧ k ≠ 191) (hk : 100 ≤ k) (hn : 0 ≤ n ∧ n ≤ 2147483647) (h1 : ∀ t m lo hi, ta_ k = some (t, m, lo, hi) → t ≤ 3 ∧ ∀ x, 0 ≤ x → lo ≤ f x ∧ f x ≤ hi) (h2 : ∀ (j c k' : Nat) (lo hi : Int), (tf_ k)[j]? = some (c, k', lo, hi) → lo ≤ f j ∧ f j ≤ hi ∧ ok_v T (fv_ c k' (f j) i)) (h3 : ∀ o, ow_ k = some o → al_ T o i ∨ al_ T (o + 50) i) : ok_T (nu_ T k i n f) := by
  obtain ⟨a1, a2, a3, a4, a5, a6, a7, a8, a9⟩ := hT
  have mo : ∀ k' i', al_ T k' i' → al_ (nu_ T k i n f) k' i' := fun k' i' h => (al_nu k' i').mpr (Or.inr h)
  refine ⟨fun k' t' n' lo' hi' h i' x' hx => ?_, fun k' j' c k'' lo' hi' h i' => ?_, fun i' => ?_, fun k' i' hl j' c k'' lo' hi' h => ?_, fun i' x' hx h => ?_, fun i' x' hx h => ?_, fun k' i' h q => ?_, fun k' i' o h q => ?_, fun i' h q => ?_⟩
  · by_cases e : k' = k ∧ i' = i
    · obtain ⟨rfl, rfl⟩ := e
      rw [nu_p hx]
      exact (h1 _ _ _ _ h).2 x' hx
    · rw [nu_o e]
      exact a1 k' t' n' lo' hi' h i' x' hx
  · by_cases e : k' = k ∧ i' = i
    · obtain ⟨rfl, rfl⟩ := e
      rw [nu_p (by omega)]
      exact ⟨(h2 _ _ _ _ _ h).1, (h2 _ _ _ _ _ h).2.1⟩
    · rw [nu_o e]
      exact a2 k' j' c k'' lo' hi' h i'
  · by_cases e : 190 = k ∧ i' = i
    · obtain ⟨rfl, rfl⟩ := e
      rw [nu_l]
      exact hn
    · rw [nu_o e]
      exact a3 i'
  · by_cases e : k' = k ∧ i' = i
    · obtain ⟨rfl, rfl⟩ := e
      rw [nu_p (by omega)]
      exact okv_mono mo (h2 _ _ _ _ _ h).2.2
    · rw [nu_o e]
      exact okv_mono mo (a4 k' i' (((al_nu k' i').mp hl).resolve_left e) j' c k'' lo' hi' h)
  · by_cases e : 521 = k ∧ i' = i
    · obtain ⟨rfl, rfl⟩ := e
      exact absurd (h1 _ _ _ _ ta_521).1 (by omega)
    · rw [nu_o e] at h
      exact mo _ _ (a5 i' x' hx h)
  · by_cases e : 523 = k ∧ i' = i
    · obtain ⟨rfl, rfl⟩ := e
      exact absurd (h1 _ _ _ _ ta_523).1 (by omega)
    · rw [nu_o e] at h
      exact mo _ _ (a6 i' x' hx h)
  · rcases (al_nu k' i').mp q with e | e
    · omega
    · exact a7 k' i' h e
  · rcases (al_nu k' i').mp q with e | e
    · obtain ⟨rfl, rfl⟩ := e
      exact (h3 o h).imp (mo _ _) (mo _ _)
    · exact (a8 k' i' o h e).imp (mo _ _) (mo _ _)
  · rw [nu_o (fun e => hk9.2 e.1.symm)] at h
    rcases (al_nu 190 i').mp q with e | e
    · exact hk9.1 e.1.symm
    · exact a9 i' h e
/-- a row of kind 190 is made, and counted -/
def nv_ (T : Zt) (n : Int) : Zt := up_ (nu_ T 190 (T 191 0 0) n (fun _ => 0)) 191 0 0 (T 191 0 0 + 1)
theorem nv_o {k' : Nat} {i' n : Int} (h : ¬ (k' = 190 ∧ i' = T 191 0 0)) (h2 : k' ≠ 191) : nv_ T n k' i' = T k' i' := by
  unfold nv_
  rw [up_o (fun e => h2 (Prod.mk.inj e).1), nu_o h]
theorem nv_9 {n : Int} : nv_ T n 191 0 0 = T 191 0 0 + 1 := up_s _ _ _ _ _
theorem nv_s {n : Int} : nv_ T n 190 (T 191 0 0) = nu_ T 190 (T 191 0 0) n (fun _ => 0) 190 (T 191 0 0) := by
  unfold nv_
  rw [up_o (fun e => absurd (Prod.mk.inj e).1 (by decide))]
theorem al_nv {n : Int} (k' : Nat) (i' : Int) : al_ (nv_ T n) k' i' ↔ (k' = 190 ∧ i' = T 191 0 0) ∨ al_ T k' i' := by
  unfold nv_
  rw [al_up (by omega), al_nu]
theorem ta_191 : ta_ 191 = none := by decide +kernel
theorem ok_nv (hT : ok_T T) {n : Int} (hn : 0 ≤ n ∧ n ≤ 2147483647) : ok_T (nv_ T n) := by
  obtain ⟨a1, a2, a3, a4, a5, a6, a7, a8, a9⟩ := hT
  have mo : ∀ k' i', al_ T k' i' → al_ (nv_ T n) k' i' := fun k' i' h => (al_nv k' i').mpr (Or.inr h)
  have hf : ∀ {k j : Nat} {q : Nat × Nat × Int × Int}, (tf_ k)[j]? = some q → k < 154 := fun h => tf_lt h
  refine ⟨fun k' t' n' lo' hi' h i' x' hx => ?_, fun k' j' c k'' lo' hi' h i' => ?_, fun i' => ?_, fun k' i' hl j' c k'' lo' hi' h => ?_, fun i' x' hx h => ?_, fun i' x' hx h => ?_, fun k' i' h q => ?_, fun k' i' o h q => ?_, fun i' h q => ?_⟩
  · by_cases e : k' = 190 ∧ i' = T 191 0 0
    · obtain ⟨rfl, rfl⟩ := e
      rw [nv_s, nu_p hx]
      rw [ta_190] at h
      cases h
      omega
    · rw [nv_o e (fun z => by rw [z, ta_191] at h; cases h)]
      exact a1 k' t' n' lo' hi' h i' x' hx
  · have := hf h
    rw [nv_o (fun e => by omega) (by omega)]
    exact a2 k' j' c k'' lo' hi' h i'
  · by_cases e : i' = T 191 0 0
    · subst e
      rw [nv_s, nu_l]
      exact hn
    · rw [nv_o (fun z => e z.2) (by omega)]
      exact a3 i'
  · have := hf h
    rw [nv_o (fun e => by omega) (by omega)]
    exact okv_mono mo (a4 k' i' (((al_nv k' i').mp hl).resolve_left (fun e => by omega)) j' c k'' lo' hi' h)
  · rw [nv_o (fun e => by omega) (by omega)] at h
    exact mo _ _ (a5 i' x' hx h)
  · rw [nv_o (fun e => by omega) (by omega)] at h
    exact mo _ _ (a6 i' x' hx h)
  · rcases (al_nv k' i').mp q with e | e
    · omega
    · exact a7 k' i' h e
  · rcases (al_nv k' i').mp q with e | e
    · rw [e.1] at h
      rw [show ow_ 190 = none by decide] at h
      cases h
    · exact (a8 k' i' o h e).imp (mo _ _) (mo _ _)
  · rw [nv_9] at h
    rcases (al_nv 190 i').mp q with e | e
    · omega
    · exact a9 i' (by omega) e
theorem no_191 {D : va_G} {cA : Nat → ClassId} {ad : Nat → Int → Nat} {A : Nat → Prop} {H : Heap} (h : Rp_ D cA ad T A H) (i : Int) : ¬ al_ T 191 i := fun ha => by
  obtain ⟨ids, q0, hq, -, hP, -⟩ := rp_at h ha
  have h1 := hP q0 _ (wd_get hq)
  unfold ce_ at h1
  rw [ta_191] at h1
  obtain ⟨r, hr, -⟩ := h1
  have e : vwCl[kc_ 191]? = none := by decide +kernel
  rw [show (kc_ 191) = (kc_ 191) from rfl, e] at hr
  cases hr
theorem rp_nu {D : va_G} {cA : Nat → ClassId} {ad : Nat → Int → Nat} {A : Nat → Prop} {H1 : Heap} (hT : ok_T T) {ids : List (Nat × Int)} (hids : ∀ k i, al_ T k i ↔ (k, i) ∈ ids) {k q : Nat} {i : Int} {T1 : Zt} {e : va_E} (hk : 100 ≤ k) (hfr : ¬ al_ T k i) (hs1 : ∀ k' i', al_ T k' i' → T1 k' i' = T k' i') (hal : ∀ k' i', al_ T1 k' i' ↔ (k' = k ∧ i' = i) ∨ al_ T k' i') (he : ce_ cA (aq_ ad k i q) T1 k i = e) (hP : va_P D vwCl (wd_ cA ad T ids ++ [(q, e)]) H1) (hD : va_D A (wd_ cA ad T ids ++ [(q, e)])) : Rp_ D cA (aq_ ad k i q) T1 A H1 := by
  have hw : wd_ cA (aq_ ad k i q) T1 (ids ++ [(k, i)]) = wd_ cA ad T ids ++ [(q, e)] := by
    unfold wd_
    rw [List.map_append]
    congr 1
    · apply List.map_congr_left
      rintro ⟨k', i'⟩ hm
      have ha := (hids k' i').mpr hm
      have hne : ¬ (k' = k ∧ i' = i) := fun z => hfr (by rw [← z.1, ← z.2]; exact ha)
      show (aq_ ad k i q k' i', ce_ cA (aq_ ad k i q) T1 k' i') = (ad k' i', ce_ cA ad T k' i')
      rw [ce_congr (hs1 k' i' ha), ce_ad hT (aq_e hk hfr) ha, aq_n hne]
    · show [(aq_ ad k i q k i, ce_ cA (aq_ ad k i q) T1 k i)] = _
      rw [he, aq_s]
  refine ⟨ids ++ [(k, i)], fun k' i' => ?_, by rw [hw]; exact hP, by rw [hw]; exact hD⟩
  rw [hal, hids, List.mem_append, List.mem_singleton, Prod.mk.injEq]
  exact or_comm
theorem j_nu {l : Launch} {p : Program} {e : Env} {s : State} {m : MethodId} {args : Array Value} {below : List Frame} {meth : Method} {c : Code} {D : va_G} {cA : Nat → ClassId} {ad0 : Nat → Int → Nat} {A : Nat → Prop} (X : Cx_ Y p s m args meth c D cA ad0 A) {ad : Nat → Int → Nat} {H1 : Heap} {locs : List Loc} {cells slots : Nat} {lsC : Array Slot} {k q : Nat} {i : Int} {T1 : Zt} {ev : va_E} {ids : List (Nat × Int)} (kk : J_ Y T0 P bc' bs' pc' ls (vR k i :: st) T1) (hc : cells + bc' ≤ Y.2.2.2.2.cells) (hs : slots + bs' ≤ Y.2.2.2.2.slots) (hk : 100 ≤ k) (hfr : ¬ al_ T k i) (hs1 : ∀ k' i', al_ T k' i' → T1 k' i' = T k' i') (hal : ∀ k' i', al_ T1 k' i' ↔ (k' = k ∧ i' = i) ∨ al_ T k' i') (hok : ok_T T1) (hids : ∀ k i, al_ T k i ↔ (k, i) ∈ ids) (he : ce_ cA (aq_ ad k i q) T1 k i = ev) (hP : va_P D vwCl (wd_ cA ad T ids ++ [(q, ev)]) H1) (hD : va_D A (wd_ cA ad T ids ++ [(q, ev)])) (hS : va_S A s.heap H1 locs) (hB : Sb_ ad0 ad T0 T) (hT : ok_T T) (hL : ok_l T ls st) (hl : lv_has lsC Y.2.2.1 (lp_ ad 0 ls)) (hn : ls.length = Y.2.2.1) :
    W p l e Y.2.2.2.2 s m args below meth c H1 locs cells slots (MQ below (Qc_ D cA ad0 T0 A P) args s Y.2.2.2.2.cells Y.2.2.2.2.slots A) (F0 m pc'.toNat lsC (.ref q :: st.map (en_v ad))) := by
  have mo : ∀ k' i', al_ T k' i' → al_ T1 k' i' := fun k' i' h => (hal k' i').mpr (Or.inr h)
  have hee : ∀ v, ok_v T v → en_v (aq_ ad k i q) v = en_v ad v := fun v hv => en_congr (aq_e hk hfr) hv
  have el : lp_ (aq_ ad k i q) 0 ls = lp_ ad 0 ls := lp_congr (fun k v hk => hee v (hL.1 k v hk))
  have es : st.map (en_v (aq_ ad k i q)) = st.map (en_v ad) := List.map_congr_left (fun v hv => hee v (hL.2 v hv))
  have k2 := kk l p e s m args below meth c D cA ad0 A X (aq_ ad k i q) H1 locs cells slots lsC hc hs (rp_nu hT hids hk hfr hs1 hal he hP hD) hS ⟨fun k' i' h => mo _ _ (hB.1 k' i' h), fun k' i' h => by rw [aq_e hk hfr k' i' (h.imp id (hB.1 k' i'))]; exact hB.2 k' i' h⟩ hok (ok_push (Or.inr ((hal k i).mpr (Or.inl ⟨rfl, rfl⟩))) ⟨fun k v hk => okv_mono mo (hL.1 k v hk), fun v hv => okv_mono mo (hL.2 v hv)⟩) (by rw [el]; exact hl) hn
  have e2 : (vR k i :: st).map (en_v (aq_ ad k i q)) = Value.ref q :: st.map (en_v ad) := by
    rw [List.map_cons, es]
    show Value.ref (aq_ ad k i q k i) :: _ = _
    rw [aq_s]
  rw [e2] at k2
  exact k2
theorem rp_ids {D : va_G} {cA : Nat → ClassId} {ad : Nat → Int → Nat} {A : Nat → Prop} {H : Heap} (h : Rp_ D cA ad T A H) : ∃ ids : List (Nat × Int), (∀ k i, al_ T k i ↔ (k, i) ∈ ids) ∧ va_P D vwCl (wd_ cA ad T ids) H ∧ va_D A (wd_ cA ad T ids) := h
theorem nu_a {k : Nat} {i n : Int} {f : Int → Int} (hfr : ¬ al_ T k i) (k' : Nat) (i' : Int) (h : al_ T k' i') : nu_ T k i n f k' i' = T k' i' := nu_o (fun z => hfr (by rw [← z.1, ← z.2]; exact h))
theorem ce_i {cA : Nat → ClassId} {ad : Nat → Int → Nat} {T1 : Zt} {k : Nat} {mo : Option Int} {lo hi i n : Int} (ha : ta_ k = some (1, mo, lo, hi)) (hmo : mo = none ∧ T1 k i (-2) = n ∨ mo = some n) : ce_ cA ad T1 k i = .inl (cA 0, n.toNat, .inl fun x => Int32.ofInt (T1 k i (x : Int))) := by
  unfold ce_ ln_
  rw [ha]
  rcases hmo with ⟨rfl, h⟩ | rfl
  · simp only [h]
  · rfl
theorem j_newX {k : Nat} {mo : Option Int} {lo hi i n : Int} {T1 : Zt} (hp : 0 ≤ pc) (ha : ta_ k = some (1, mo, lo, hi)) (hmo : mo = none ∧ T1 k i (-2) = n ∨ mo = some n) (hz : ∀ x : Nat, T1 k i (x : Int) = 0) (h0 : 0 ≤ n) (h1 : n ≤ 100000000) (hfr : ok_T T → ¬ al_ T k i) (hok : ok_T T → ok_T T1) (hs1 : (∀ i, ¬ al_ T 191 i) → ¬ al_ T k i → ∀ k' i', al_ T k' i' → T1 k' i' = T k' i') (hal : ∀ k' i', al_ T1 k' i' ↔ (k' = k ∧ i' = i) ∨ al_ T k' i') (hb : bc' + 1 ≤ bc) (hbs : bs' + n.toNat ≤ bs) (hd : decode Y.2.1 pc.toNat = .ok (.newarray .int, 2)) (hac : Cond.arrayClass .int ∈ lw_g) (kk : J_ Y T0 P bc' bs' (pc + 2) ls (vR k i :: st) T1) : J_ Y T0 P bc bs pc ls (vI n :: st) T := by
  intro l p e s m args below meth c D cA ad0 A X ad H locs cells slots lsC hc hs hR hS hB hT hL hl hln
  have hfr := hfr hT
  have hok := hok hT
  have hs1 := hs1 (no_191 hR) hfr
  obtain ⟨ids, hids, hP, hD⟩ := rp_ids hR
  have hk := ta_ge ha
  have hcl := i3_cl h0 (show n ≤ 2147483647 by omega)
  have hin := i3_in h0 (show n < n + 1 by omega) (show n ≤ 2147483647 by omega)
  refine va_newa (atype := .int) (ty := .int) (N' := n.toNat) (a0 := (n.toNat, .inl fun _ => 0)) X.1 X.2.1 (X.2.2.2.2.2.1 _ hac) rfl X.2.2.2.2.2.2.2.1 hP hD hS X.2.2.2.2.2.2.2.2.2.1 (fun _ => rfl) (fun z => hin (Or.inl z)) (by omega) (by show n.toNat * 4 ≤ _; omega) (by omega) (by omega) hd (fun q cN H1 hK1 hP1 hD1 hS1 => ?_)
  have ec : cN = cA 0 := by
    have q1 := va_nm_int (hK1.2 5 (cN, .int) rfl).2
    have q2 := va_nm_int (hK1.2 0 (cA 0, .int) rfl).2
    exact Option.some.inj (q1.symm.trans q2)
  subst ec
  have he : ce_ cA (aq_ ad k i q) T1 k i = .inl (cA 0, n.toNat, .inl fun _ => 0) := by
    rw [ce_i ha hmo]
    have e1 : (fun x : Nat => Int32.ofInt (T1 k i (x : Int))) = fun _ => 0 := by
      funext x
      rw [hz x]
      rfl
    rw [e1]
  have k2 := j_nu (l := l) (e := e) (below := below) (pc' := pc + 2) X kk (cells := cells + 1) (slots := slots + n.toNat) (by omega) (by omega) (by omega) hfr hs1 hal hok hids he hP1 hD1 hS1 hB hT (ok_tail hL) hl hln
  rw [show (pc + 2).toNat = pc.toNat + 2 by omega] at k2
  exact k2
/-- an int row of the tables is made -/
theorem j_newI {k : Nat} {lo hi i n : Int} (hp : 0 ≤ pc) (ha : ta_ k = some (1, some n, lo, hi)) (hl0 : lo ≤ 0 ∧ 0 ≤ hi) (hn : 0 ≤ n ∧ n ≤ 100000000) (hfr : ¬ al_ T k i) (hb : bc' + 1 ≤ bc) (hbs : bs' + n.toNat ≤ bs) (hd : decode Y.2.1 pc.toNat = .ok (.newarray .int, 2)) (hac : Cond.arrayClass .int ∈ lw_g) (how : ∀ o, ow_ k = some o → al_ T o i ∨ al_ T (o + 50) i) (kk : J_ Y T0 P bc' bs' (pc + 2) ls (vR k i :: st) (nu_ T k i n (fun _ => 0))) : J_ Y T0 P bc bs pc ls (vI n :: st) T := by
  refine j_newX hp ha (Or.inr rfl) (fun x => nu_p (by omega)) hn.1 hn.2 (fun _ => hfr) (fun hT => ok_nu hT ⟨fun z => ?_, fun z => ?_⟩ (by have := ta_ge ha; omega) ⟨hn.1, by omega⟩ (fun t m' lo' hi' h => by rw [ha] at h; cases h; exact ⟨by omega, fun x _ => hl0⟩) (fun j c k' lo' hi' h => by rw [ta_tf ha] at h; simp at h) how) (fun _ hfr => nu_a hfr) al_nu hb hbs hd hac kk
  · rw [z, ta_190] at ha; cases ha
  · rw [z, ta_191] at ha; cases ha
/-- an int row of any length is made -/
theorem j_newL {n : Int} (hp : 0 ≤ pc) (hn : 0 ≤ n ∧ n ≤ 100000000) (hb : bc' + 1 ≤ bc) (hbs : bs' + n.toNat ≤ bs) (hd : decode Y.2.1 pc.toNat = .ok (.newarray .int, 2)) (hac : Cond.arrayClass .int ∈ lw_g) (kk : J_ Y T0 P bc' bs' (pc + 2) ls (vR 190 (T 191 0 0) :: st) (nv_ T n)) : J_ Y T0 P bc bs pc ls (vI n :: st) T := by
  refine j_newX hp ta_190 (Or.inl ⟨rfl, by rw [nv_s, nu_l]⟩) (fun x => by rw [nv_s]; exact nu_p (by omega)) hn.1 hn.2 (fun hT => hT.2.2.2.2.2.2.2.2 _ (by omega)) (fun hT => ok_nv hT ⟨hn.1, by omega⟩) (fun h9 hfr k' i' h => nv_o (fun z => hfr (by rw [← z.1, ← z.2]; exact h)) (fun z => h9 i' (by rw [← z]; exact h))) al_nv hb hbs hd hac kk
/-- raw objects: what new makes, until its constructor has run -/
theorem ce_rw {cA : Nat → ClassId} {ad : Nat → Int → Nat} {ci : Nat} {i : Int} (h : ci < 4) : ce_ cA ad T (150 + ci) i = .inr (ci, (tf_ (150 + ci)).zipIdx.map fun q => en_v ad (fv_ q.1.1 q.1.2.1 (T (150 + ci) i (q.2 : Int)) i)) := by
  unfold ce_
  rw [tk_no _ (by omega)]
  simp only [kc_]
  rw [if_neg (by omega), Nat.add_sub_cancel_left]
theorem rw_ok {ci : Nat} (h : ci < 4) : ∀ q ∈ tf_ (150 + ci), q.2.2.1 ≤ 0 ∧ 0 ≤ q.2.2.2 ∧ (q.1 = 0 ∨ q.1 = 5) := by
  match ci, h with
  | 0, _ => decide +kernel
  | 1, _ => decide +kernel
  | 2, _ => decide +kernel
  | 3, _ => decide +kernel
def rw_fs (ci : Nat) (ad : Nat → Int → Nat) (i : Int) : List Value := (tf_ (150 + ci)).zipIdx.map fun q => en_v ad (fv_ q.1.1 q.1.2.1 0 i)
/-- an object is made -/
theorem j_newO {ci idx N : Nat} {C : String} {Tb : u_T} {ty0 : Nat → FieldType} {i : Int} (hp : 0 ≤ pc) (h4 : ci < 4) (hC : vwCl[ci]? = some (C, Tb, N)) (hty : ∀ k, k < N → parseFieldDescriptor (Tb k).2.2.1 = some (ty0 k)) (hfs : ∀ (ad : Nat → Int → Nat) (j : Nat), j < N → defaultValue (ty0 j) = vp_V (rw_fs ci ad i) j) (hcl : Cond.classLink Y.1 idx C ∈ lw_g) (hinst : Cond.instantiable C N ∈ lw_g) (hini : Cond.initialized C ∈ lw_g) (hfr : ¬ al_ T (150 + ci) i) (hb : bc' + 1 ≤ bc) (hbs : bs' + N ≤ bs) (hd : decode Y.2.1 pc.toNat = .ok (.new idx, 3)) (kk : J_ Y T0 P bc' bs' (pc + 3) ls (vR (150 + ci) i :: st) (nu_ T (150 + ci) i 0 (fun _ => 0))) : J_ Y T0 P bc bs pc ls st T := by
  intro l p e s m args below meth c D cA ad0 A X ad H locs cells slots lsC hc hs hR hS hB hT hL hl hln
  obtain ⟨ids, hids, hP, hD⟩ := rp_ids hR
  obtain ⟨hin, -, -⟩ := cl_in hC
  refine va_new (D := D) (ci := ci) (C := C) (T := Tb) (N := N) (own := Y.1) (index := idx) (fs := rw_fs ci ad i) X.1 X.2.1 X.2.2.2.2.2.1 hin ty0 hty X.2.2.2.2.2.2.1 (X.2.2.2.2.2.1 _ hcl) (X.2.2.2.2.2.1 _ hinst) (X.2.2.2.2.2.1 _ hini) X.2.2.2.2.2.2.2.1 hP hD hS X.2.2.2.2.2.2.2.2.2.1 hC (hfs ad) (by omega) (by omega) hd (fun q H1 hP1 hD1 hS1 => ?_)
  have hr := rw_ok h4
  have hv : ∀ (j c k' : Nat) (lo hi : Int), (tf_ (150 + ci))[j]? = some (c, k', lo, hi) → lo ≤ 0 ∧ 0 ≤ hi ∧ ok_v T (fv_ c k' 0 i) ∧ ∀ ad2 : Nat → Int → Nat, en_v ad2 (fv_ c k' 0 i) = en_v ad (fv_ c k' 0 i) := fun j c k' lo hi h => by
    obtain ⟨q1, q2, q3⟩ := hr _ (List.mem_of_getElem? h)
    refine ⟨q1, q2, ?_⟩
    rcases q3 with q3 | q3
    · have q4 : c = 0 := q3
      subst q4
      exact ⟨⟨by omega, by omega⟩, fun _ => rfl⟩
    · have q4 : c = 5 := q3
      subst q4
      exact ⟨trivial, fun _ => rfl⟩
  have hok : ok_T (nu_ T (150 + ci) i 0 (fun _ => 0)) := ok_nu hT ⟨by omega, by omega⟩ (by omega) ⟨by omega, by omega⟩ (fun t m' lo' hi' h => by rw [tk_no _ (by omega)] at h; cases h) (fun j c k' lo' hi' h => ⟨(hv j c k' lo' hi' h).1, (hv j c k' lo' hi' h).2.1, (hv j c k' lo' hi' h).2.2.1⟩) (fun o h => by
    have : ow_ (150 + ci) = none := by
      unfold ow_
      rw [if_neg (by omega), if_neg (by omega), if_neg (by omega)]
    rw [this] at h
    cases h)
  have he : ce_ cA (aq_ ad (150 + ci) i q) (nu_ T (150 + ci) i 0 (fun _ => 0)) (150 + ci) i = .inr (ci, rw_fs ci ad i) := by
    rw [ce_rw h4]
    unfold rw_fs
    have e2 : ((tf_ (150 + ci)).zipIdx.map fun z => en_v (aq_ ad (150 + ci) i q) (fv_ z.1.1 z.1.2.1 (nu_ T (150 + ci) i 0 (fun _ => 0) (150 + ci) i (z.2 : Int)) i)) = (tf_ (150 + ci)).zipIdx.map fun z => en_v ad (fv_ z.1.1 z.1.2.1 0 i) := by
      apply List.map_congr_left
      rintro ⟨⟨c, k', lo, hi⟩, j⟩ hq
      rw [nu_p (by omega)]
      exact (hv j c k' lo hi (zi_at hq)).2.2.2 _
    rw [e2]
  have k2 := j_nu (l := l) (e := e) (below := below) (pc' := pc + 3) X kk (cells := cells + 1) (slots := slots + N) (by omega) (by omega) (by omega) hfr (nu_a hfr) al_nu hok hids he hP1 hD1 hS1 hB hT hL hl hln
  rw [show (pc + 3).toNat = pc.toNat + 3 by omega] at k2
  exact k2
end JN

