-- what the Statement gives of the statics and the texts
abbrev GV_ : Cond := Jvm.Cond.and given_1 narrow_1
def tS_ (i : Nat) : Term := .string "SportsHouse$RuleText" (stx_ i).1
def tV_ (i : Nat) : Term := .field (tS_ i) "java/lang/String" "value" "[B"
def tA_ (i : Nat) : Term := .static "SportsHouse$RuleText" (sn_ i) "[I"
set_option maxRecDepth 100000 in
theorem gm_a : ∀ i : Nat, i < 3 → Cond.arrayOf (tA_ i) .int ∈ flatC GV_ ∧ Cond.eq (.length (tA_ i)) (.int 16) ∈ flatC GV_ ∧ ∀ j : Nat, j < 16 → Cond.eq (.elem (tA_ i) (.int (Int32.ofNat j))) (.int (Int32.ofInt ((sa_ i).getD j 0))) ∈ flatC GV_ := by decide +kernel
set_option maxRecDepth 100000 in
theorem gm_s : ∀ i : Nat, i < 3 → Cond.exactly (tS_ i) "java/lang/String" ∈ flatC GV_ ∧ Cond.eq (.field (tS_ i) "java/lang/String" "coder" "B") (.int 0) ∈ flatC GV_ ∧ Cond.arrayOf (tV_ i) .byte ∈ flatC GV_ ∧ Cond.eq (.length (tV_ i)) (.int (Int32.ofNat (sle_.getD i 0))) ∈ flatC GV_ := by decide +kernel
set_option maxRecDepth 100000 in
theorem gm_x : ∀ i : Nat, i < 3 → ∀ j : Nat, j < sle_.getD i 0 → (flatC GV_)[([70, 156, 197] : List Nat).getD i 0 + j]? = some (Cond.eq (.elem (tV_ i) (.int (Int32.ofNat j))) (.int ((sby_.getD i []).getD j 0))) := by decide +kernel
theorem gm_e : ∀ i : Nat, i < 3 → ∀ j : Nat, j < sle_.getD i 0 → Cond.eq (.elem (tV_ i) (.int (Int32.ofNat j))) (.int ((sby_.getD i []).getD j 0)) ∈ flatC GV_ := fun i hi j hj => List.mem_of_getElem? (gm_x i hi j hj)
set_option maxRecDepth 100000 in
theorem gm_n : ∀ i : Nat, i < 3 → ∀ j : Nat, j < 3 → i ≠ j → Cond.not (Cond.eq (tS_ i) (tS_ j)) ∈ flatC GV_ ∨ Cond.not (Cond.eq (tS_ j) (tS_ i)) ∈ flatC GV_ := by decide +kernel
set_option maxRecDepth 100000 in
theorem gm_c : Cond.eq (.static "java/lang/String" "COMPACT_STRINGS" "Z") (.int 1) ∈ flatC GV_ ∧ Cond.isRef (.static "jdk/internal/util/Preconditions" "SIOOBE_FORMATTER" "Ljava/util/function/BiFunction;") ∈ flatC GV_ := by decide +kernel
theorem lx_se {s : State} {b : Nat} (hts : ∀ w ∈ lw_tbl, w.before #[Value.ref b] s = true) (hgv : (Jvm.Cond.and given_1 narrow_1).before #[Value.ref b] s = true) : ∃ ad0 : Nat → Int → Nat, se_ ad0 (LA_ s) s := by
  have hs := flat_of_before _ hgv
  have hA : ∀ a : Nat, a < s.heap.size → ¬ LA_ s a := fun a h q => absurd h (Nat.not_lt.mpr q)
  have hl : ∀ i : Nat, i < 3 → Cond.laysStatic "SportsHouse$RuleText" (sn_ i) "[I" ∈ lw_tbl := fun i hi => by
    rcases (show i = 0 ∨ i = 1 ∨ i = 2 by omega) with rfl | rfl | rfl
    · exact lw_any 444 (by decide +kernel)
    · exact lw_any 539 (by decide +kernel)
    · exact lw_any 533 (by decide +kernel)
  have har : ∀ i : Nat, ∃ af : Nat, i < 3 → va_Z "SportsHouse$RuleText" (sn_ i) "[I" (.ref af) (LA_ s) s s.heap ∧ va_T .int af 16 (fun j => .int (Int32.ofInt ((sa_ i).getD j 0))) (LA_ s) s s.heap := fun i => by
    by_cases hi : i < 3
    · obtain ⟨g1, g2, g3⟩ := gm_a i hi
      obtain ⟨af, haf, hT⟩ := va_Tof (tm := tA_ i) (ty := .int) (N := 16) (f := fun j => .int (Int32.ofInt ((sa_ i).getD j 0))) (A := LA_ s) (by decide) (hs _ g1) (va_eqt (hs _ g2)) (fun j hj => va_eqt (hs _ (g3 j hj))) hA
      exact ⟨af, fun _ => ⟨va_Zref (hts _ (hl i hi)) (hts (Cond.initialized "SportsHouse$RuleText") (lw_any 2 (by decide +kernel))) haf hA, hT⟩⟩
    · exact ⟨0, fun h => absurd h hi⟩
  obtain ⟨af, haf⟩ := Classical.axiomOfChoice har
  obtain ⟨adK, adV, hS, hev⟩ := vk_Sof (args := #[Value.ref b]) (s := s) (N := 3) (tm := tS_) (len := sle_) (byt := sby_) (A := LA_ s) (by decide) (fun i hi => hs _ (gm_s i hi).1) (fun i hi => hs _ (gm_s i hi).2.1) (fun i hi => hs _ (gm_s i hi).2.2.1) (fun i hi => hs _ (gm_s i hi).2.2.2) (fun i hi j hj => hs _ (gm_e i hi j hj)) (fun i j hi hj hij => (gm_n i hi j hj hij).imp (hs _) (hs _)) hA
  have hsr : ∀ i : Nat, i < 3 → Cond.stringRef "SportsHouse$RuleText" (stx_ i).1 (stx_ i).2 ∈ lw_tbl := fun i hi => by
    rcases (show i = 0 ∨ i = 1 ∨ i = 2 by omega) with rfl | rfl | rfl
    · exact lw_any 462 (by decide +kernel)
    · exact lw_any 527 (by decide +kernel)
    · exact lw_any 544 (by decide +kernel)
  have hcs := va_Zof (A := LA_ s) (hts (Cond.laysStatic "java/lang/String" "COMPACT_STRINGS" "Z") (lw_any 484 (by decide +kernel))) (hts (Cond.initialized "java/lang/String") (lw_any 11 (by decide +kernel))) (va_eqt (hs _ gm_c.1)) hA
  obtain ⟨v, hv, hvr⟩ := Cond.isRef_spec (show (Cond.isRef (.static "jdk/internal/util/Preconditions" "SIOOBE_FORMATTER" "Ljava/util/function/BiFunction;")).before #[Value.ref b] s = true from hs _ gm_c.2)
  have hfo := va_Zof (A := LA_ s) (hts (Cond.laysStatic "jdk/internal/util/Preconditions" "SIOOBE_FORMATTER" "Ljava/util/function/BiFunction;") (lw_any 500 (by decide +kernel))) (hts (Cond.initialized "jdk/internal/util/Preconditions") (lw_any 13 (by decide +kernel))) hv hA
  refine ⟨fun k i => if k = 81 then af i.toNat else if k = 82 then adK i.toNat else if k = 83 then adV i.toNat else (match v with | .ref q => q | _ => 0), fun i hi => haf i hi, hS, fun i hi => vk_R.of (hts _ (hsr i hi)) (hev i hi), hcs, ?_⟩
  cases v with
  | null => exact Or.inl hfo
  | ref q => exact Or.inr hfo
  | _ => cases hvr

