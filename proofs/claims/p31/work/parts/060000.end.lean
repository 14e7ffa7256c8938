section JR
variable {Y : Zm} {T0 T : Zt} {P : Zt → Option Zv → Prop} {bc bs : Nat} {pc : Int} {ls : Zl} {st : List Zv}
theorem j_istore {i : Nat} {x : Int} (hp : 0 ≤ pc) (hd : decode Y.2.1 pc.toNat = .ok (.istore i, 2)) (hi : i < ls.length) (hw : ∀ (k0 : Nat) (x : Int), i = k0 + 1 → ls[k0]? ≠ some (some (vL x))) (k : J_ Y T0 P bc bs (pc + 2) (ls.set i (some (vI x))) st T) : J_ Y T0 P bc bs pc ls (vI x :: st) T := by
  intro l p e s m args below meth c D cA ad0 A X ad H locs cells slots lsC hc hs hR hS hB hT hL hl hn
  have k2 := fun lsC hl => k l p e s m args below meth c D cA ad0 A X ad H locs cells slots lsC hc hs hR hS hB hT (ok_set (fun w h => by cases h; exact ok_head hL) (ok_tail hL)) hl (by rw [List.length_set]; exact hn)
  rw [show (pc + 2).toNat = pc.toNat + 2 by omega] at k2
  exact lv_istore X.1 X.2.1 hd hl (by rw [← hn]; exact hi) rfl (fun ls' h' => k2 ls' (lp_set1 rfl hw h'))
theorem j_istore_n {i : Fin 4} {x : Int} (hp : 0 ≤ pc) (hd : decode Y.2.1 pc.toNat = .ok (.istore_n i, 1)) (hi : (i : Nat) < ls.length) (hw : ∀ (k0 : Nat) (x : Int), (i : Nat) = k0 + 1 → ls[k0]? ≠ some (some (vL x))) (k : J_ Y T0 P bc bs (pc + 1) (ls.set (i : Nat) (some (vI x))) st T) : J_ Y T0 P bc bs pc ls (vI x :: st) T := by
  intro l p e s m args below meth c D cA ad0 A X ad H locs cells slots lsC hc hs hR hS hB hT hL hl hn
  have k2 := fun lsC hl => k l p e s m args below meth c D cA ad0 A X ad H locs cells slots lsC hc hs hR hS hB hT (ok_set (fun w h => by cases h; exact ok_head hL) (ok_tail hL)) hl (by rw [List.length_set]; exact hn)
  rw [show (pc + 1).toNat = pc.toNat + 1 by omega] at k2
  exact lv_istore_n X.1 X.2.1 hd rfl hl (by rw [← hn]; exact hi) rfl (fun ls' h' => k2 ls' (lp_set1 rfl hw h'))
theorem j_astore {i : Nat} {q : Option (Nat × Int)} (hp : 0 ≤ pc) (hd : decode Y.2.1 pc.toNat = .ok (.astore i, 2)) (hi : i < ls.length) (hw : ∀ (k0 : Nat) (x : Int), i = k0 + 1 → ls[k0]? ≠ some (some (vL x))) (k : J_ Y T0 P bc bs (pc + 2) (ls.set i (some (.inr (.inr q)))) st T) : J_ Y T0 P bc bs pc ls (.inr (.inr q) :: st) T := by
  intro l p e s m args below meth c D cA ad0 A X ad H locs cells slots lsC hc hs hR hS hB hT hL hl hn
  have k2 := fun lsC hl => k l p e s m args below meth c D cA ad0 A X ad H locs cells slots lsC hc hs hR hS hB hT (ok_set (fun w h => by cases h; exact ok_head hL) (ok_tail hL)) hl (by rw [List.length_set]; exact hn)
  rw [show (pc + 2).toNat = pc.toNat + 2 by omega] at k2
  rcases q with _ | ⟨kk, ii⟩
  · exact lv_astoreN X.1 X.2.1 hd hl (by rw [← hn]; exact hi) rfl (fun ls' h' => k2 ls' (lp_set1 rfl hw h'))
  · exact lv_astore X.1 X.2.1 hd hl (by rw [← hn]; exact hi) rfl (fun ls' h' => k2 ls' (lp_set1 rfl hw h'))
theorem j_astore_n {i : Fin 4} {q : Option (Nat × Int)} (hp : 0 ≤ pc) (hd : decode Y.2.1 pc.toNat = .ok (.astore_n i, 1)) (hi : (i : Nat) < ls.length) (hw : ∀ (k0 : Nat) (x : Int), (i : Nat) = k0 + 1 → ls[k0]? ≠ some (some (vL x))) (k : J_ Y T0 P bc bs (pc + 1) (ls.set (i : Nat) (some (.inr (.inr q)))) st T) : J_ Y T0 P bc bs pc ls (.inr (.inr q) :: st) T := by
  intro l p e s m args below meth c D cA ad0 A X ad H locs cells slots lsC hc hs hR hS hB hT hL hl hn
  have k2 := fun lsC hl => k l p e s m args below meth c D cA ad0 A X ad H locs cells slots lsC hc hs hR hS hB hT (ok_set (fun w h => by cases h; exact ok_head hL) (ok_tail hL)) hl (by rw [List.length_set]; exact hn)
  rw [show (pc + 1).toNat = pc.toNat + 1 by omega] at k2
  rcases q with _ | ⟨kk, ii⟩
  · exact lv_astore_nN X.1 X.2.1 hd rfl hl (by rw [← hn]; exact hi) rfl (fun ls' h' => k2 ls' (lp_set1 rfl hw h'))
  · exact lv_astore_n X.1 X.2.1 hd rfl hl (by rw [← hn]; exact hi) rfl (fun ls' h' => k2 ls' (lp_set1 rfl hw h'))
theorem lp_set2 {ad : Nat → Int → Nat} {lsC : Array Slot} {nL : Nat} {ls : Zl} {k : Nat} {x : Int} (hn : ∀ (k0 : Nat) (x : Int), k = k0 + 1 → ls[k0]? ≠ some (some (vL x))) (h : lv_has lsC nL ((k, Value.long (Int64.ofInt x)) :: (lp_ ad 0 ls).filter (fun q => !(q.1 == k) && (!(q.1 == k + 1) && !(q.1 + 1 == k && q.2.category == 2))))) : lv_has lsC nL (lp_ ad 0 (((ls.set k none).set (k + 1) none).set k (some (vL x)))) := by
  refine ⟨h.1, h.2.1, fun q hq => ?_⟩
  obtain ⟨j, u, rfl, hu⟩ := lp_mem hq
  by_cases hj : k = j
  · subst hj
    have hu' : u = vL x := by
      rw [List.getElem?_set, if_pos rfl] at hu
      split at hu <;> simp at hu
      exact hu.symm
    subst hu'
    have := h.2.2 (k, Value.long (Int64.ofInt x)) List.mem_cons_self
    rw [Nat.zero_add]
    exact this
  · rw [List.getElem?_set_ne hj] at hu
    have hj1 : ¬ k + 1 = j := by
      intro a
      subst a
      rw [List.getElem?_set, if_pos rfl] at hu
      split at hu <;> simp at hu
    rw [List.getElem?_set_ne hj1, List.getElem?_set_ne hj] at hu
    refine h.2.2 _ (List.mem_cons_of_mem _ (List.mem_filter.mpr ⟨lp_get hu, ?_⟩))
    have h1 : ¬ (0 + j + 1 = k ∧ (en_v ad u).category = 2) := by
      rintro ⟨a, b⟩
      obtain ⟨x, rfl⟩ := en_cat.mp b
      exact hn j x (by omega) hu
    simp only [Bool.and_eq_true, Bool.not_eq_true', beq_eq_false_iff_ne, ne_eq, Bool.and_eq_false_iff]
    refine ⟨by omega, by omega, ?_⟩
    by_cases z : 0 + j + 1 = k
    · exact Or.inr (fun b => h1 ⟨z, b⟩)
    · exact Or.inl z
theorem j_lstore {i : Nat} {x : Int} (hp : 0 ≤ pc) (hd : decode Y.2.1 pc.toNat = .ok (.lstore i, 2)) (hi : i + 1 < ls.length) (hw : ∀ (k0 : Nat) (x : Int), i = k0 + 1 → ls[k0]? ≠ some (some (vL x))) (k : J_ Y T0 P bc bs (pc + 2) (((ls.set i none).set (i + 1) none).set i (some (vL x))) st T) : J_ Y T0 P bc bs pc ls (vL x :: st) T := by
  intro l p e s m args below meth c D cA ad0 A X ad H locs cells slots lsC hc hs hR hS hB hT hL hl hn
  have k2 := fun lsC hl => k l p e s m args below meth c D cA ad0 A X ad H locs cells slots lsC hc hs hR hS hB hT (ok_set (fun w h => by cases h; exact ok_head hL) (ok_set (fun w h => by cases h) (ok_set (fun w h => by cases h) (ok_tail hL)))) hl (by rw [List.length_set, List.length_set, List.length_set]; exact hn)
  rw [show (pc + 2).toNat = pc.toNat + 2 by omega] at k2
  exact lv_lstore X.1 X.2.1 hd hl (by rw [← hn]; exact hi) rfl (fun ls' h' => k2 ls' (lp_set2 hw h'))
theorem j_lstore_n {i : Fin 4} {x : Int} (hp : 0 ≤ pc) (hd : decode Y.2.1 pc.toNat = .ok (.lstore_n i, 1)) (hi : (i : Nat) + 1 < ls.length) (hw : ∀ (k0 : Nat) (x : Int), (i : Nat) = k0 + 1 → ls[k0]? ≠ some (some (vL x))) (k : J_ Y T0 P bc bs (pc + 1) (((ls.set (i : Nat) none).set ((i : Nat) + 1) none).set (i : Nat) (some (vL x))) st T) : J_ Y T0 P bc bs pc ls (vL x :: st) T := by
  intro l p e s m args below meth c D cA ad0 A X ad H locs cells slots lsC hc hs hR hS hB hT hL hl hn
  have k2 := fun lsC hl => k l p e s m args below meth c D cA ad0 A X ad H locs cells slots lsC hc hs hR hS hB hT (ok_set (fun w h => by cases h; exact ok_head hL) (ok_set (fun w h => by cases h) (ok_set (fun w h => by cases h) (ok_tail hL)))) hl (by rw [List.length_set, List.length_set, List.length_set]; exact hn)
  rw [show (pc + 1).toNat = pc.toNat + 1 by omega] at k2
  exact lv_lstore_n X.1 X.2.1 hd rfl hl (by rw [← hn]; exact hi) rfl (fun ls' h' => k2 ls' (lp_set2 hw h'))
theorem j_iinc {i : Nat} {n x : Int} (hp : 0 ≤ pc) (hd : decode Y.2.1 pc.toNat = .ok (.iinc i n, 3)) (hx : ls[i]? = some (some (vI x))) (h1 : -2147483648 ≤ x + n) (h2 : x + n ≤ 2147483647) (hw : ∀ (k0 : Nat) (x : Int), i = k0 + 1 → ls[k0]? ≠ some (some (vL x))) (k : J_ Y T0 P bc bs (pc + 3) (ls.set i (some (vI (x + n)))) st T) : J_ Y T0 P bc bs pc ls st T := by
  intro l p e s m args below meth c D cA ad0 A X ad H locs cells slots lsC hc hs hR hS hB hT hL hl hn
  have k2 := fun lsC hl => k l p e s m args below meth c D cA ad0 A X ad H locs cells slots lsC hc hs hR hS hB hT (ok_set (fun w h => by cases h; exact ⟨h1, h2⟩) hL) hl (by rw [List.length_set]; exact hn)
  rw [show (pc + 3).toNat = pc.toNat + 3 by omega] at k2
  have hi : i < ls.length := (List.getElem?_eq_some_iff.mp hx).1
  obtain ⟨kk, hkk⟩ := List.getElem?_of_mem (lp_get (ad := ad) (n := 0) hx)
  exact lv_iinc (k := kk) (x := Int32.ofInt x) X.1 X.2.1 hd hl (by rw [hkk, Nat.zero_add]; rfl) (by rw [← Int32.ofInt_add]) (by rw [← hn]; exact hi) rfl (fun ls' h' => k2 ls' (lp_set1 rfl hw h'))
theorem j_icmp_eq {x y off tgt : Int} (hp : 0 ≤ pc) (ht : 0 ≤ tgt) (e : pc + off = tgt) (hd : decode Y.2.1 pc.toNat = .ok (.if_icmp .eq off, 3)) (kt : x = y → J_ Y T0 P bc bs tgt ls st T) (kf : ¬ x = y → J_ Y T0 P bc bs (pc + 3) ls st T) : J_ Y T0 P bc bs pc ls (vI y :: vI x :: st) T := by
  intro l p e' s m args below meth c D cA ad0 A X ad H locs cells slots lsC hc hs hR hS hB hT hL hl hn
  have hL' := ok_tail (ok_tail hL)
  have ax : -2147483648 ≤ x ∧ x ≤ 2147483647 := ok_head (ok_tail hL)
  have ay : -2147483648 ≤ (y : Int) ∧ y ≤ 2147483647 := ok_head hL
  refine lv_icmp_eq (tgt := tgt.toNat) X.1 X.2.1 hd (by omega) (fun h => kt ((i3_eq ax ay).mp h) l p e' s m args below meth c D cA ad0 A X ad H locs cells slots lsC hc hs hR hS hB hT hL' hl hn) (fun h => ?_)
  have k2 := kf (fun q => h ((i3_eq ax ay).mpr q)) l p e' s m args below meth c D cA ad0 A X ad H locs cells slots lsC hc hs hR hS hB hT hL' hl hn
  rw [show (pc + 3).toNat = pc.toNat + 3 by omega] at k2
  exact k2
theorem j_icmp_ne {x y off tgt : Int} (hp : 0 ≤ pc) (ht : 0 ≤ tgt) (e : pc + off = tgt) (hd : decode Y.2.1 pc.toNat = .ok (.if_icmp .ne off, 3)) (kt : ¬ x = y → J_ Y T0 P bc bs tgt ls st T) (kf : x = y → J_ Y T0 P bc bs (pc + 3) ls st T) : J_ Y T0 P bc bs pc ls (vI y :: vI x :: st) T := by
  intro l p e' s m args below meth c D cA ad0 A X ad H locs cells slots lsC hc hs hR hS hB hT hL hl hn
  have hL' := ok_tail (ok_tail hL)
  have ax : -2147483648 ≤ x ∧ x ≤ 2147483647 := ok_head (ok_tail hL)
  have ay : -2147483648 ≤ (y : Int) ∧ y ≤ 2147483647 := ok_head hL
  refine lv_icmp_ne (tgt := tgt.toNat) X.1 X.2.1 hd (by omega) (fun h => kt (fun q => h ((i3_eq ax ay).mpr q)) l p e' s m args below meth c D cA ad0 A X ad H locs cells slots lsC hc hs hR hS hB hT hL' hl hn) (fun h => ?_)
  have k2 := kf ((i3_eq ax ay).mp h) l p e' s m args below meth c D cA ad0 A X ad H locs cells slots lsC hc hs hR hS hB hT hL' hl hn
  rw [show (pc + 3).toNat = pc.toNat + 3 by omega] at k2
  exact k2
theorem j_icmp_lt {x y off tgt : Int} (hp : 0 ≤ pc) (ht : 0 ≤ tgt) (e : pc + off = tgt) (hd : decode Y.2.1 pc.toNat = .ok (.if_icmp .lt off, 3)) (kt : x < y → J_ Y T0 P bc bs tgt ls st T) (kf : y ≤ x → J_ Y T0 P bc bs (pc + 3) ls st T) : J_ Y T0 P bc bs pc ls (vI y :: vI x :: st) T := by
  intro l p e' s m args below meth c D cA ad0 A X ad H locs cells slots lsC hc hs hR hS hB hT hL hl hn
  have hL' := ok_tail (ok_tail hL)
  have ax : -2147483648 ≤ x ∧ x ≤ 2147483647 := ok_head (ok_tail hL)
  have ay : -2147483648 ≤ (y : Int) ∧ y ≤ 2147483647 := ok_head hL
  refine lv_icmp_lt (tgt := tgt.toNat) X.1 X.2.1 hd (by omega) (fun h => kt ((i3_lt ax ay).mp h) l p e' s m args below meth c D cA ad0 A X ad H locs cells slots lsC hc hs hR hS hB hT hL' hl hn) (fun h => ?_)
  have k2 := kf (by have := mt (i3_lt ax ay).mpr h; omega) l p e' s m args below meth c D cA ad0 A X ad H locs cells slots lsC hc hs hR hS hB hT hL' hl hn
  rw [show (pc + 3).toNat = pc.toNat + 3 by omega] at k2
  exact k2
theorem j_icmp_ge {x y off tgt : Int} (hp : 0 ≤ pc) (ht : 0 ≤ tgt) (e : pc + off = tgt) (hd : decode Y.2.1 pc.toNat = .ok (.if_icmp .ge off, 3)) (kt : y ≤ x → J_ Y T0 P bc bs tgt ls st T) (kf : x < y → J_ Y T0 P bc bs (pc + 3) ls st T) : J_ Y T0 P bc bs pc ls (vI y :: vI x :: st) T := by
  intro l p e' s m args below meth c D cA ad0 A X ad H locs cells slots lsC hc hs hR hS hB hT hL hl hn
  have hL' := ok_tail (ok_tail hL)
  have ax : -2147483648 ≤ x ∧ x ≤ 2147483647 := ok_head (ok_tail hL)
  have ay : -2147483648 ≤ (y : Int) ∧ y ≤ 2147483647 := ok_head hL
  refine lv_icmp_ge (tgt := tgt.toNat) X.1 X.2.1 hd (by omega) (fun h => kt ((i3_le ay ax).mp h) l p e' s m args below meth c D cA ad0 A X ad H locs cells slots lsC hc hs hR hS hB hT hL' hl hn) (fun h => ?_)
  have k2 := kf (by have := mt (i3_le ay ax).mpr h; omega) l p e' s m args below meth c D cA ad0 A X ad H locs cells slots lsC hc hs hR hS hB hT hL' hl hn
  rw [show (pc + 3).toNat = pc.toNat + 3 by omega] at k2
  exact k2
theorem j_icmp_gt {x y off tgt : Int} (hp : 0 ≤ pc) (ht : 0 ≤ tgt) (e : pc + off = tgt) (hd : decode Y.2.1 pc.toNat = .ok (.if_icmp .gt off, 3)) (kt : y < x → J_ Y T0 P bc bs tgt ls st T) (kf : x ≤ y → J_ Y T0 P bc bs (pc + 3) ls st T) : J_ Y T0 P bc bs pc ls (vI y :: vI x :: st) T := by
  intro l p e' s m args below meth c D cA ad0 A X ad H locs cells slots lsC hc hs hR hS hB hT hL hl hn
  have hL' := ok_tail (ok_tail hL)
  have ax : -2147483648 ≤ x ∧ x ≤ 2147483647 := ok_head (ok_tail hL)
  have ay : -2147483648 ≤ (y : Int) ∧ y ≤ 2147483647 := ok_head hL
  refine lv_icmp_gt (tgt := tgt.toNat) X.1 X.2.1 hd (by omega) (fun h => kt ((i3_lt ay ax).mp h) l p e' s m args below meth c D cA ad0 A X ad H locs cells slots lsC hc hs hR hS hB hT hL' hl hn) (fun h => ?_)
  have k2 := kf (by have := mt (i3_lt ay ax).mpr h; omega) l p e' s m args below meth c D cA ad0 A X ad H locs cells slots lsC hc hs hR hS hB hT hL' hl hn
  rw [show (pc + 3).toNat = pc.toNat + 3 by omega] at k2
  exact k2
theorem j_icmp_le {x y off tgt : Int} (hp : 0 ≤ pc) (ht : 0 ≤ tgt) (e : pc + off = tgt) (hd : decode Y.2.1 pc.toNat = .ok (.if_icmp .le off, 3)) (kt : x ≤ y → J_ Y T0 P bc bs tgt ls st T) (kf : y < x → J_ Y T0 P bc bs (pc + 3) ls st T) : J_ Y T0 P bc bs pc ls (vI y :: vI x :: st) T := by
  intro l p e' s m args below meth c D cA ad0 A X ad H locs cells slots lsC hc hs hR hS hB hT hL hl hn
  have hL' := ok_tail (ok_tail hL)
  have ax : -2147483648 ≤ x ∧ x ≤ 2147483647 := ok_head (ok_tail hL)
  have ay : -2147483648 ≤ (y : Int) ∧ y ≤ 2147483647 := ok_head hL
  refine lv_icmp_le (tgt := tgt.toNat) X.1 X.2.1 hd (by omega) (fun h => kt ((i3_le ax ay).mp h) l p e' s m args below meth c D cA ad0 A X ad H locs cells slots lsC hc hs hR hS hB hT hL' hl hn) (fun h => ?_)
  have k2 := kf (by have := mt (i3_le ax ay).mpr h; omega) l p e' s m args below meth c D cA ad0 A X ad H locs cells slots lsC hc hs hR hS hB hT hL' hl hn
  rw [show (pc + 3).toNat = pc.toNat + 3 by omega] at k2
  exact k2
theorem j_if_eq {x off tgt : Int} (hp : 0 ≤ pc) (ht : 0 ≤ tgt) (e : pc + off = tgt) (hd : decode Y.2.1 pc.toNat = .ok (.ifCond .eq off, 3)) (kt : x = 0 → J_ Y T0 P bc bs tgt ls st T) (kf : ¬ x = 0 → J_ Y T0 P bc bs (pc + 3) ls st T) : J_ Y T0 P bc bs pc ls (vI x :: st) T := by
  intro l p e' s m args below meth c D cA ad0 A X ad H locs cells slots lsC hc hs hR hS hB hT hL hl hn
  have hL' := ok_tail hL
  have ax : -2147483648 ≤ x ∧ x ≤ 2147483647 := ok_head hL
  have ay : -2147483648 ≤ 0 ∧ (0 : Int) ≤ 2147483647 := by omega
  refine lv_if_eq (tgt := tgt.toNat) X.1 X.2.1 hd (by omega) (fun h => kt ((i3_eq (y := 0) ax ay).mp h) l p e' s m args below meth c D cA ad0 A X ad H locs cells slots lsC hc hs hR hS hB hT hL' hl hn) (fun h => ?_)
  have k2 := kf (fun q => h ((i3_eq (y := 0) ax ay).mpr q)) l p e' s m args below meth c D cA ad0 A X ad H locs cells slots lsC hc hs hR hS hB hT hL' hl hn
  rw [show (pc + 3).toNat = pc.toNat + 3 by omega] at k2
  exact k2
theorem j_if_ne {x off tgt : Int} (hp : 0 ≤ pc) (ht : 0 ≤ tgt) (e : pc + off = tgt) (hd : decode Y.2.1 pc.toNat = .ok (.ifCond .ne off, 3)) (kt : ¬ x = 0 → J_ Y T0 P bc bs tgt ls st T) (kf : x = 0 → J_ Y T0 P bc bs (pc + 3) ls st T) : J_ Y T0 P bc bs pc ls (vI x :: st) T := by
  intro l p e' s m args below meth c D cA ad0 A X ad H locs cells slots lsC hc hs hR hS hB hT hL hl hn
  have hL' := ok_tail hL
  have ax : -2147483648 ≤ x ∧ x ≤ 2147483647 := ok_head hL
  have ay : -2147483648 ≤ 0 ∧ (0 : Int) ≤ 2147483647 := by omega
  refine lv_if_ne (tgt := tgt.toNat) X.1 X.2.1 hd (by omega) (fun h => kt (fun q => h ((i3_eq (y := 0) ax ay).mpr q)) l p e' s m args below meth c D cA ad0 A X ad H locs cells slots lsC hc hs hR hS hB hT hL' hl hn) (fun h => ?_)
  have k2 := kf ((i3_eq (y := 0) ax ay).mp h) l p e' s m args below meth c D cA ad0 A X ad H locs cells slots lsC hc hs hR hS hB hT hL' hl hn
  rw [show (pc + 3).toNat = pc.toNat + 3 by omega] at k2
  exact k2
theorem j_if_lt {x off tgt : Int} (hp : 0 ≤ pc) (ht : 0 ≤ tgt) (e : pc + off = tgt) (hd : decode Y.2.1 pc.toNat = .ok (.ifCond .lt off, 3)) (kt : x < 0 → J_ Y T0 P bc bs tgt ls st T) (kf : 0 ≤ x → J_ Y T0 P bc bs (pc + 3) ls st T) : J_ Y T0 P bc bs pc ls (vI x :: st) T := by
  intro l p e' s m args below meth c D cA ad0 A X ad H locs cells slots lsC hc hs hR hS hB hT hL hl hn
  have hL' := ok_tail hL
  have ax : -2147483648 ≤ x ∧ x ≤ 2147483647 := ok_head hL
  have ay : -2147483648 ≤ 0 ∧ (0 : Int) ≤ 2147483647 := by omega
  refine lv_if_lt (tgt := tgt.toNat) X.1 X.2.1 hd (by omega) (fun h => kt ((i3_lt (y := 0) ax ay).mp h) l p e' s m args below meth c D cA ad0 A X ad H locs cells slots lsC hc hs hR hS hB hT hL' hl hn) (fun h => ?_)
  have k2 := kf (by have := mt (i3_lt (y := 0) ax ay).mpr h; omega) l p e' s m args below meth c D cA ad0 A X ad H locs cells slots lsC hc hs hR hS hB hT hL' hl hn
  rw [show (pc + 3).toNat = pc.toNat + 3 by omega] at k2
  exact k2
theorem j_if_ge {x off tgt : Int} (hp : 0 ≤ pc) (ht : 0 ≤ tgt) (e : pc + off = tgt) (hd : decode Y.2.1 pc.toNat = .ok (.ifCond .ge off, 3)) (kt : 0 ≤ x → J_ Y T0 P bc bs tgt ls st T) (kf : x < 0 → J_ Y T0 P bc bs (pc + 3) ls st T) : J_ Y T0 P bc bs pc ls (vI x :: st) T := by
  intro l p e' s m args below meth c D cA ad0 A X ad H locs cells slots lsC hc hs hR hS hB hT hL hl hn
  have hL' := ok_tail hL
  have ax : -2147483648 ≤ x ∧ x ≤ 2147483647 := ok_head hL
  have ay : -2147483648 ≤ 0 ∧ (0 : Int) ≤ 2147483647 := by omega
  refine lv_if_ge (tgt := tgt.toNat) X.1 X.2.1 hd (by omega) (fun h => kt ((i3_le (x := 0) ay ax).mp h) l p e' s m args below meth c D cA ad0 A X ad H locs cells slots lsC hc hs hR hS hB hT hL' hl hn) (fun h => ?_)
  have k2 := kf (by have := mt (i3_le (x := 0) ay ax).mpr h; omega) l p e' s m args below meth c D cA ad0 A X ad H locs cells slots lsC hc hs hR hS hB hT hL' hl hn
  rw [show (pc + 3).toNat = pc.toNat + 3 by omega] at k2
  exact k2
theorem j_if_gt {x off tgt : Int} (hp : 0 ≤ pc) (ht : 0 ≤ tgt) (e : pc + off = tgt) (hd : decode Y.2.1 pc.toNat = .ok (.ifCond .gt off, 3)) (kt : 0 < x → J_ Y T0 P bc bs tgt ls st T) (kf : x ≤ 0 → J_ Y T0 P bc bs (pc + 3) ls st T) : J_ Y T0 P bc bs pc ls (vI x :: st) T := by
  intro l p e' s m args below meth c D cA ad0 A X ad H locs cells slots lsC hc hs hR hS hB hT hL hl hn
  have hL' := ok_tail hL
  have ax : -2147483648 ≤ x ∧ x ≤ 2147483647 := ok_head hL
  have ay : -2147483648 ≤ 0 ∧ (0 : Int) ≤ 2147483647 := by omega
  refine lv_if_gt (tgt := tgt.toNat) X.1 X.2.1 hd (by omega) (fun h => kt ((i3_lt (x := 0) ay ax).mp h) l p e' s m args below meth c D cA ad0 A X ad H locs cells slots lsC hc hs hR hS hB hT hL' hl hn) (fun h => ?_)
  have k2 := kf (by have := mt (i3_lt (x := 0) ay ax).mpr h; omega) l p e' s m args below meth c D cA ad0 A X ad H locs cells slots lsC hc hs hR hS hB hT hL' hl hn
  rw [show (pc + 3).toNat = pc.toNat + 3 by omega] at k2
  exact k2
theorem j_if_le {x off tgt : Int} (hp : 0 ≤ pc) (ht : 0 ≤ tgt) (e : pc + off = tgt) (hd : decode Y.2.1 pc.toNat = .ok (.ifCond .le off, 3)) (kt : x ≤ 0 → J_ Y T0 P bc bs tgt ls st T) (kf : 0 < x → J_ Y T0 P bc bs (pc + 3) ls st T) : J_ Y T0 P bc bs pc ls (vI x :: st) T := by
  intro l p e' s m args below meth c D cA ad0 A X ad H locs cells slots lsC hc hs hR hS hB hT hL hl hn
  have hL' := ok_tail hL
  have ax : -2147483648 ≤ x ∧ x ≤ 2147483647 := ok_head hL
  have ay : -2147483648 ≤ 0 ∧ (0 : Int) ≤ 2147483647 := by omega
  refine lv_if_le (tgt := tgt.toNat) X.1 X.2.1 hd (by omega) (fun h => kt ((i3_le (y := 0) ax ay).mp h) l p e' s m args below meth c D cA ad0 A X ad H locs cells slots lsC hc hs hR hS hB hT hL' hl hn) (fun h => ?_)
  have k2 := kf (by have := mt (i3_le (y := 0) ax ay).mpr h; omega) l p e' s m args below meth c D cA ad0 A X ad H locs cells slots lsC hc hs hR hS hB hT hL' hl hn
  rw [show (pc + 3).toNat = pc.toNat + 3 by omega] at k2
  exact k2
theorem j_ifnull_N {off tgt : Int} (hp : 0 ≤ pc) (ht : 0 ≤ tgt) (e : pc + off = tgt) (hd : decode Y.2.1 pc.toNat = .ok (.ifnull off, 3)) (k : J_ Y T0 P bc bs tgt ls st T) : J_ Y T0 P bc bs pc ls (vN :: st) T := by
  intro l p e' s m args below meth c D cA ad0 A X ad H locs cells slots lsC hc hs hR hS hB hT hL hl hn
  exact lv_ifnullN (tgt := tgt.toNat) X.1 X.2.1 hd (by omega) (k l p e' s m args below meth c D cA ad0 A X ad H locs cells slots lsC hc hs hR hS hB hT (ok_tail hL) hl hn)
theorem j_ifnull_R {off : Int} {q : Nat × Int} (hp : 0 ≤ pc) (hd : decode Y.2.1 pc.toNat = .ok (.ifnull off, 3)) (k : J_ Y T0 P bc bs (pc + 3) ls st T) : J_ Y T0 P bc bs pc ls (.inr (.inr (some q)) :: st) T := by
  intro l p e' s m args below meth c D cA ad0 A X ad H locs cells slots lsC hc hs hR hS hB hT hL hl hn
  have k2 := k l p e' s m args below meth c D cA ad0 A X ad H locs cells slots lsC hc hs hR hS hB hT (ok_tail hL) hl hn
  rw [show (pc + 3).toNat = pc.toNat + 3 by omega] at k2
  obtain ⟨kk, ii⟩ := q
  exact lv_ifnull X.1 X.2.1 hd k2
theorem j_ifnonnull_N {off : Int} (hp : 0 ≤ pc) (hd : decode Y.2.1 pc.toNat = .ok (.ifnonnull off, 3)) (k : J_ Y T0 P bc bs (pc + 3) ls st T) : J_ Y T0 P bc bs pc ls (vN :: st) T := by
  intro l p e' s m args below meth c D cA ad0 A X ad H locs cells slots lsC hc hs hR hS hB hT hL hl hn
  have k2 := k l p e' s m args below meth c D cA ad0 A X ad H locs cells slots lsC hc hs hR hS hB hT (ok_tail hL) hl hn
  rw [show (pc + 3).toNat = pc.toNat + 3 by omega] at k2
  exact lv_ifnonnullN X.1 X.2.1 hd k2
theorem j_ifnonnull_R {off tgt : Int} {q : Nat × Int} (hp : 0 ≤ pc) (ht : 0 ≤ tgt) (e : pc + off = tgt) (hd : decode Y.2.1 pc.toNat = .ok (.ifnonnull off, 3)) (k : J_ Y T0 P bc bs tgt ls st T) : J_ Y T0 P bc bs pc ls (.inr (.inr (some q)) :: st) T := by
  intro l p e' s m args below meth c D cA ad0 A X ad H locs cells slots lsC hc hs hR hS hB hT hL hl hn
  obtain ⟨kk, ii⟩ := q
  exact lv_ifnonnull (tgt := tgt.toNat) X.1 X.2.1 hd (by omega) (k l p e' s m args below meth c D cA ad0 A X ad H locs cells slots lsC hc hs hR hS hB hT (ok_tail hL) hl hn)
/-- the ends -/
theorem j_ireturn {x : Int} (hr : Y.2.2.2.1 = some .int ∨ Y.2.2.2.1 = some .boolean ∧ 0 ≤ x ∧ x ≤ 1) (hd : decode Y.2.1 pc.toNat = .ok (.ireturn, 1)) (k : P T (some (vI x))) : J_ Y T0 P bc bs pc ls [vI x] T := by
  intro l p e' s m args below meth c D cA ad0 A X ad H locs cells slots lsC hc hs hR hS hB hT hL hl hn
  refine W.widen (k := Y.2.2.2.2.cells) (n := Y.2.2.2.2.slots) (by omega) (by omega) ?_
  have hq : ∀ t : State, t.heap = H → s.WarmedH t.vm → Qc_ D cA ad0 T0 A P args s (.returned (some (.int (Int32.ofInt x)))) t := fun t ht _ => ⟨⟨T, ad, some (vI x), rfl, k, hT, fun v hv => by cases hv; exact ok_head hL, by rw [ht]; exact hR, hB⟩, hS.F ht⟩
  rcases hr with hr | ⟨hr, h0, h1⟩
  · exact W.iret X.1 X.2.1 (X.2.2.2.1.trans hr) hq hS.2.2 hd X.2.2.2.2.1
  · refine W.zret (ty := .boolean) X.1 X.2.1 (X.2.2.2.1.trans hr) ?_ hq hS.2.2 hd X.2.2.2.2.1
    have : x = 0 ∨ x = 1 := by omega
    rcases this with rfl | rfl <;> decide
theorem j_lreturn {x : Int} (hr : Y.2.2.2.1 = some .long) (hd : decode Y.2.1 pc.toNat = .ok (.lreturn, 1)) (k : P T (some (vL x))) : J_ Y T0 P bc bs pc ls [vL x] T := by
  intro l p e' s m args below meth c D cA ad0 A X ad H locs cells slots lsC hc hs hR hS hB hT hL hl hn
  refine W.widen (k := Y.2.2.2.2.cells) (n := Y.2.2.2.2.slots) (by omega) (by omega) ?_
  exact W.lret X.1 X.2.1 (X.2.2.2.1.trans hr) (fun t ht _ => ⟨⟨T, ad, some (vL x), rfl, k, hT, fun v hv => by cases hv; exact ok_head hL, by rw [ht]; exact hR, hB⟩, hS.F ht⟩) hS.2.2 hd X.2.2.2.2.1
theorem j_return (hr : Y.2.2.2.1 = none) (hd : decode Y.2.1 pc.toNat = .ok (.return_, 1)) (k : P T none) : J_ Y T0 P bc bs pc ls [] T := by
  intro l p e' s m args below meth c D cA ad0 A X ad H locs cells slots lsC hc hs hR hS hB hT hL hl hn
  refine W.widen (k := Y.2.2.2.2.cells) (n := Y.2.2.2.2.slots) (by omega) (by omega) ?_
  exact W.vret X.1 X.2.1 (X.2.2.2.1.trans hr) (fun t ht _ => ⟨⟨T, ad, none, rfl, k, hT, (fun v hv => by cases hv), by rw [ht]; exact hR, hB⟩, hS.F ht⟩) hS.2.2 hd X.2.2.2.2.1
end JR
