-- what a frame leaves of entries, fixtures, deductions
def kez_ (T T' : Zt) : Prop := ken_ T T' ∧ kem_ T T' ∧ ked_ T T' ∧ krn_ T T' ∧ krp_ T T' ∧ krd_ T T'
theorem kez_r {T : Zt} : kez_ T T := ⟨ken_r, kem_r, ked_r, krn_r, krp_r, krd_r⟩
theorem kez_t {T T1 T2 : Zt} (a : kez_ T T1) (b : kez_ T1 T2) : kez_ T T2 := ⟨ken_t a.1 b.1, kem_t a.2.1 b.2.1, ked_t a.2.2.1 b.2.2.1, krn_t a.2.2.2.1 b.2.2.2.1, krp_t a.2.2.2.2.1 b.2.2.2.2.1, krd_t a.2.2.2.2.2 b.2.2.2.2.2⟩
def ENA_ (T : Zt) : Prop := ENR_ T ∧ MAR_ T ∧ DER_ T
theorem ena_k {T T' : Zt} (h : ENA_ T) (e : T' 106 0 2 = T 106 0 2) (k : kez_ T T') : ENA_ T' := ⟨enr_k h.1 e k.1 k.2.2.2.1, mar_k h.2.1 k.2.1 k.2.2.2.2.1, der_k h.2.2 k.2.2.1 k.2.2.2.2.2⟩
def wen_ (ws : List (Nat × List Int)) : Prop := fw_ ws 100 5 = false ∧ fw_ ws 100 6 = false ∧ fw_ ws 100 7 = false ∧ fw_ ws 100 8 = false ∧ (∀ j, fw_ ws 403 j = false) ∧ ∀ j, fw_ ws 404 j = false
def wem_ (ws : List (Nat × List Int)) : Prop := fw_ ws 106 4 = false ∧ fw_ ws 102 0 = false ∧ fw_ ws 102 2 = false ∧ fw_ ws 102 3 = false ∧ fw_ ws 102 4 = false
def wed_ (ws : List (Nat × List Int)) : Prop := fw_ ws 106 6 = false ∧ (∀ j, fw_ ws 527 j = false) ∧ (∀ j, fw_ ws 528 j = false) ∧ (∀ j, fw_ ws 529 j = false) ∧ ∀ j, fw_ ws 530 j = false
def wrn_ (ws : List (Nat × List Int)) : Prop := (∀ j, fw_ ws 207 j = false) ∧ (∀ j, fw_ ws 208 j = false) ∧ (∀ j, fw_ ws 209 j = false) ∧ (∀ j, fw_ ws 210 j = false) ∧ ∀ j, fw_ ws 211 j = false
def wrp_ (ws : List (Nat × List Int)) : Prop := fw_ ws 111 29 = false ∧ (∀ j, fw_ ws 230 j = false) ∧ (∀ j, fw_ ws 231 j = false) ∧ (∀ j, fw_ ws 232 j = false) ∧ ∀ j, fw_ ws 233 j = false
def wrd_ (ws : List (Nat × List Int)) : Prop := fw_ ws 111 24 = false ∧ (∀ j, fw_ ws 225 j = false) ∧ (∀ j, fw_ ws 226 j = false) ∧ (∀ j, fw_ ws 227 j = false) ∧ ∀ j, fw_ ws 228 j = false
section WEZ
variable {ws : List (Nat × List Int)} {T T' : Zt}
theorem ken_s (f : fr_ ws T T') (w : wen_ ws) : ken_ T T' := ⟨fun c => ⟨f 100 c 5 w.1, f 100 c 6 w.2.1, f 100 c 7 w.2.2.1, f 100 c 8 w.2.2.2.1⟩, fun c j => f 403 c j (w.2.2.2.2.1 j), fun c j => f 404 c j (w.2.2.2.2.2 j)⟩
theorem kem_s (f : fr_ ws T T') (w : wem_ ws) : kem_ T T' := ⟨f 106 0 4 w.1, fun m => ⟨f 102 m 0 w.2.1, f 102 m 2 w.2.2.1, f 102 m 3 w.2.2.2.1, f 102 m 4 w.2.2.2.2⟩⟩
theorem ked_s (f : fr_ ws T T') (w : wed_ ws) : ked_ T T' := ⟨f 106 0 6 w.1, fun j => f 527 0 j (w.2.1 j), fun j => f 528 0 j (w.2.2.1 j), fun j => f 529 0 j (w.2.2.2.1 j), fun j => f 530 0 j (w.2.2.2.2 j)⟩
theorem krn_s (f : fr_ ws T T') (w : wrn_ ws) : krn_ T T' := ⟨fun j => f 207 0 j (w.1 j), fun j => ⟨f 208 0 j (w.2.1 j), f 209 0 j (w.2.2.1 j), f 210 0 j (w.2.2.2.1 j), f 211 0 j (w.2.2.2.2 j)⟩⟩
theorem krp_s (f : fr_ ws T T') (w : wrp_ ws) : krp_ T T' := ⟨f 111 0 29 w.1, fun j => ⟨f 230 0 j (w.2.1 j), f 231 0 j (w.2.2.1 j), f 232 0 j (w.2.2.2.1 j), f 233 0 j (w.2.2.2.2 j)⟩⟩
theorem krd_s (f : fr_ ws T T') (w : wrd_ ws) : krd_ T T' := ⟨f 111 0 24 w.1, fun j => f 225 0 j (w.2.1 j), fun j => f 226 0 j (w.2.2.1 j), fun j => f 227 0 j (w.2.2.2.1 j), fun j => f 228 0 j (w.2.2.2.2 j)⟩
end WEZ
theorem ch9_s {T T' : Zt} {x : Int} (h : CH9_ T T' x) (n : nc_ T T') (j : Int) (a : 0 ≤ j) (b : j < 12) : T' 404 (T 106 0 2) j = -1 := by
  have n1 := n.2.1
  rcases h with ⟨-, -, -, -, h⟩ | ⟨-, -, ⟨h, -⟩ | ⟨-, -, -, -, h, -⟩⟩
  · omega
  · omega
  · exact h j a b

