-- a static call of the nest's host: SportsHouse.isSide, out of Play
section J4
variable {Y Yc : Zm} {T0 T : Zt} {P : Zt → Option Zv → Prop} {bc bs : Nat} {pc : Int} {ls : Zl} {rest : List Zv} {Qp : Zt → Option Zv → Prop}
abbrev yN_ : MethodName := ⟨"SportsHouse", "isSide", "(I)Z"⟩
def cn_ (Yc : Zm) (n : Nat) : Prop := GoodIn lw_g (.code yN_ Yc.2.1 Yc.2.2.1 Yc.2.2.2.1 :: lw_g) ∧ Cond.static yN_ ∈ lw_g ∧ Cond.initialized "SportsHouse" ∈ lw_g ∧ (yN_.cls ≠ "java/lang/invoke/MethodHandle" ∧ yN_.cls ≠ "java/lang/invoke/VarHandle" ∧ (parseMethodDescriptor yN_.desc).map (fun d => d.parameters.length) = some n)
theorem j_callN {n : Nat} (as : List Zv) (hY1 : Y.1 = "SportsHouse$Play") (hC : Ct_ yN_ Yc T as Qp) (hcv : cn_ Yc n) (hd : decode Y.2.1 pc.toNat = .ok (.invokestatic 89, 3)) (hp : 0 ≤ pc) (hn : as.length = n) (hrm : rf_ Yc Y = true) (hrest : rest.length ≤ 4) (hmc : Yc.2.2.2.2.cells ≤ bc) (hms : Yc.2.2.2.2.slots ≤ bs) {st0 : List Zv} (hst : st0 = as.reverse ++ rest) (kk : ∀ (T' : Zt) (r : Option Zv), Qp T' r → J_ Y T0 P (bc - Yc.2.2.2.2.cells) (bs - Yc.2.2.2.2.slots) (pc + 3) ls (r.toList ++ rest) T') : J_ Y T0 P bc bs pc ls st0 T := by
  subst hst
  intro l p e s m args below meth c D cA ad0 A X ad H locs cells slots lsC hc hs hR hS hB hT hL hl hln
  obtain ⟨hG, hst, hini, hdd⟩ := hcv
  simp only [rf_, Bool.and_eq_true, decide_eq_true_eq] at hrm
  have hLr : ok_l T ls rest := ⟨hL.1, fun v hv => hL.2 v (by simp [hv])⟩
  have hAA : ∀ q, A_ ad T H.size q → A q := by
    rintro q (⟨k, i, ha, rfl⟩ | h)
    · exact Rp_in hR ha
    · exact X.2.2.2.2.2.2.2.2.2.1 q (Nat.le_trans hS.1 h)
  have w := X.2.2.2.2.2.1
  have hN : va_Nw (.methodLinkNest Y.1 89 yN_ "SportsHouse") s := by
    rw [hY1]
    exact X.2.2.2.2.2.2.2.2.1.2.2.2.2.2
  refine j_back X hc hs hR hS hB hLr hl hln hp hmc hms (va_runSN (host := "SportsHouse") (As := as.map (en_v ad)) (rest := rest.map (en_v ad)) ⟨X.1, X.2.1, X.2.2.1, X.2.2.2.2.2.2.1, X.2.2.2.2.2.1⟩ (hC l D cA ad H.size) ⟨va_cnB n w hG rfl rfl rfl hN (w _ hini) hdd hrm, w _ hst, trivial⟩ ⟨pc_blind, fun U hU hW => ⟨rfl, by rw [hU], by rw [hU]; exact Rp_A hR (fun _ _ _ _ => trivial), va_K.moved hW.alike X.2.2.2.2.2.2.2.1, ex_warm hW X.2.2.2.2.2.2.2.2.1, se_call X.2.2.2.2.2.2.2.2.2.2.1 hS hAA hU hW (fun k i hk => hB.2 k i (Or.inl hk)), hT, fun v hv => hL.2 v (by simp [hv])⟩⟩ rfl (by rw [List.length_map]; exact hn) (hl.1) ?_ (lv_room ?_) hd ⟨by omega, by omega⟩) (fun T' r h => kk T' r h)
  · show List.map (en_v ad) (as.reverse ++ rest) = _
    rw [List.map_append, List.map_reverse]
  · have := en_sum (ad := ad) rest
    omega
end J4

