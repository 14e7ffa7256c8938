section JQ2
variable {Y Yc : Zm} {T0 T : Zt} {P : Zt → Option Zv → Prop} {bc bs bc' bs' : Nat} {pc : Int} {ls : Zl} {st rest : List Zv}
/-- a clone of an int row of the tables -/
theorem j_clone2 {idx k k0 : Nat} {lo hi lo0 hi0 i i0 n : Int} (hp : 0 ≤ pc) (ha0 : ta_ k0 = some (1, some n, lo0, hi0)) (ha : ta_ k = some (1, some n, lo, hi)) (hlo : lo ≤ lo0 ∧ hi0 ≤ hi) (hn : 0 ≤ n ∧ n ≤ 100000000) (hfr : ¬ al_ T k i) (how : ∀ o, ow_ k = some o → al_ T o i ∨ al_ T (o + 50) i) (hml : Cond.methodLink Y.1 idx ⟨"[I", "clone", "()Ljava/lang/Object;"⟩ ∈ lw_g) (hsm : Cond.sameMethod "[I" "java/lang/Object" "clone" "()Ljava/lang/Object;" ∈ lw_g) (hna : Cond.native ⟨"java/lang/Object", "clone", "()Ljava/lang/Object;"⟩ ∈ lw_g) (hin : Cond.instanceMethod ⟨"java/lang/Object", "clone", "()Ljava/lang/Object;"⟩ ∈ lw_g) (hse : Cond.selects "[I" ⟨"[I", "clone", "()Ljava/lang/Object;"⟩ ⟨"java/lang/Object", "clone", "()Ljava/lang/Object;"⟩ ∈ lw_g) (hf : 1 ≤ Y.2.2.2.2.frames) (hlo2 : 30 ≤ Y.2.2.2.2.locals) (hrest : st.length ≤ 8) (hb : bc' + 1 ≤ bc) (hbs : bs' + n.toNat ≤ bs) (hd : decode Y.2.1 pc.toNat = .ok (.invokevirtual idx, 3)) (kk : J_ Y T0 P bc' bs' (pc + 3) ls (vR k i :: st) (nu_ T k i n (T k0 i0))) : J_ Y T0 P bc bs pc ls (vR k0 i0 :: st) T := by
  intro l p e s m args below meth c D cA ad0 A X ad H locs cells slots lsC hc hs hR hS hB hT hL hl hln
  have hal : al_ T k0 i0 := ok_al (v := none) (by have := ta_ge ha0; omega) (ok_head hL)
  obtain ⟨ids, q0, hq, hids, hP, hD⟩ := rp_at hR hal
  have hw := wd_get (cA := cA) (ad := ad) (T := T) hq
  rw [ce_i ha0 (Or.inr rfl)] at hw
  have sm := en_sum (ad := ad) st
  have w := X.2.2.2.2.2.1
  have hk := ta_ge ha
  have hok : ok_T (nu_ T k i n (T k0 i0)) := ok_nu hT ⟨fun z => (by rw [z, ta_190] at ha; cases ha), fun z => (by rw [z, ta_191] at ha; cases ha)⟩ (by omega) ⟨hn.1, by omega⟩ (fun t m' lo' hi' h => by
    rw [ha] at h; cases h
    exact ⟨by omega, fun x hx => by have := hT.1 _ _ _ _ _ ha0 i0 x hx; omega⟩) (fun j c k' lo' hi' h => by rw [ta_tf ha] at h; simp at h) how
  have he : ∀ q : Nat, ce_ cA (aq_ ad k i q) (nu_ T k i n (T k0 i0)) k i = .inl (cA 0, n.toNat, .inl fun x => Int32.ofInt (T k0 i0 (x : Int))) := fun q => by
    rw [ce_i ha (Or.inr rfl)]
    have e1 : (fun x : Nat => Int32.ofInt (nu_ T k i n (T k0 i0) k i (x : Int))) = fun x : Nat => Int32.ofInt (T k0 i0 (x : Int)) := by
      funext x
      rw [nu_p (by omega)]
    rw [e1]
  refine va_clone (ad := "[I") (ty := .int) X.1 X.2.1 (X.2.2.1.trans hl.1.symm) X.2.2.2.2.2.2.1 (w _ hml) (w _ hsm) (w _ hna) (w _ hin) (w _ hse) X.2.2.2.2.2.2.2.2.1.2.2.1 X.2.2.2.2.2.2.2.1 hP hD hS X.2.2.2.2.2.2.2.2.2.1 q0 0 hw rfl (va_nm_int (X.2.2.2.2.2.2.2.1.2 0 (cA 0, .int) rfl).2) (va_fit (fun _ _ => rfl)) hf (by omega) (by omega) (by show slots + n.toNat ≤ _; omega) hd (fun q H1 _ hP1 hD1 hS1 => ?_)
  have k2 := j_nu (l := l) (e := e) (below := below) (pc' := pc + 3) X kk (cells := cells + 1) (slots := slots + n.toNat) (by omega) (by omega) (by omega) hfr (nu_a hfr) al_nu hok hids (he q) hP1 hD1 hS1 hB hT (ok_tail hL) hl hln
  rw [show (pc + 3).toNat = pc.toNat + 3 by omega] at k2
  exact k2
end JQ2
theorem nu_tc {T U : Zt} {k : Nat} {i n : Int} {f : Int → Int} (h : U = nu_ T k i n f) (j : Int) (hj : 0 ≤ j) : U k i j = f j := by rw [h, nu_p hj]

/-- a competition is new -/
def nc_ (T T' : Zt) : Prop := fr_ [(105, [7, 8, 9, 2, 3, 6, 1]), (504, []), (505, []), (106, [2]), (521, []), (150, []), (100, []), (401, []), (402, []), (403, []), (404, [])] T T' ∧ (T' 106 0 2 = T 106 0 2 + 1 ∧ T 106 0 2 < 4) ∧ (∀ (k : Nat) (i j : Int), k = 100 ∨ k = 150 ∨ k = 401 ∨ k = 403 ∨ k = 404 → i ≠ T 106 0 2 → T' k i j = T k i j) ∧ (∀ j, j ≠ T 106 0 2 → T' 521 0 j = T 521 0 j) ∧ T' 521 0 (T 106 0 2) = 1 ∧ (T' 100 (T 106 0 2) 5 = 0 ∧ T' 100 (T 106 0 2) 6 = 0 ∧ T' 100 (T 106 0 2) 7 = 0 ∧ T' 100 (T 106 0 2) 8 = 0) ∧ (∀ j, 0 ≤ j → j < 16 → (sa_ 1).getD j.toNat 0 ≤ T' 401 (T 106 0 2) j ∧ T' 401 (T 106 0 2) j ≤ (sa_ 2).getD j.toNat 0) ∧ T' 401 (T 106 0 2) 2 ≤ T' 401 (T 106 0 2) 1 ∧ NA_ T'
abbrev cX10_competition : ByteArray := prog_1_method_4_code
def yX10_competition : MethodName := ⟨RX10, "competition", "()I"⟩
def zX10_competition : Zm := (RX10, cX10_competition, 3, (some .int), { frames := 8, cells := 5, slots := 57, locals := 176 })
set_option maxRecDepth 100000 in
theorem cl_X10_80 : cv_ RX10 80 yX5_read zX5_read 5 0 := ⟨gi_V (lw_b2 199 (by decide +kernel) rfl : Cond.methodLink RX10 80 yX5_read ∈ lw_g) (lw_b2 200 (by decide +kernel) rfl : Cond.instanceMethod yX5_read ∈ lw_g) (lw_b2 201 (by decide +kernel) rfl : Cond.selects yX5_read.cls yX5_read yX5_read ∈ lw_g) (lw_b1 2 (by decide +kernel) rfl : Cond.initialized yX5_read.cls ∈ lw_g) (lw_b2 202 rfl rfl : Cond.code yX5_read cX5_read 2 (some .boolean) ∈ lw_g), ⟨by decide, by decide, by decide +kernel⟩, ⟨_, _, rfl⟩⟩
set_option maxRecDepth 100000 in
theorem ci_X10_104 : ci_ RX10 104 yX0_init zX0_init 3 := ⟨gi_c (lw_b3 76 rfl rfl : Cond.code yX0_init cX0_init 4 none ∈ lw_g), (lw_b1 15 (by decide +kernel) rfl : Cond.initialized yX0_init.cls ∈ lw_g), (lw_b3 74 (by decide +kernel) rfl : Cond.methodLink RX10 104 yX0_init ∈ lw_g), (lw_b3 75 (by decide +kernel) rfl : Cond.instanceMethod yX0_init ∈ lw_g), rfl, rfl, ⟨by decide, by decide, by decide +kernel⟩⟩
abbrev po_X10_competition (T : Zt) : Zt → Option Zv → Prop := fun T' r => ∃ x : Int, r = some (vI x) ∧ (fr_ [(105, [7, 8, 9, 2, 3, 6, 1]), (504, []), (505, [])] T T' ∨ nc_ T T')
