theorem ba_i {T U2 U3 T' : Zt} {s b x c : Int} (h2 : fr_ [(101, [5])] T U2) (hs : (b = 0 ∧ U2 101 0 5 = T 101 0 5) ∨ (b ≠ 0 ∧ U2 101 0 5 = s)) (qc : c = U2 432 0 (tb9_ (cpw_ U2 (U2 428 0 (U2 432 0 0)) (U2 101 0 13).toNat) (U2 101 0 5)).1) (q2 : U3 101 0 5 = (tb9_ (cpw_ U2 (U2 428 0 (U2 432 0 0)) (U2 101 0 13).toNat) (U2 101 0 5)).2) (q3 : 1 ≤ cpw_ U2 (U2 428 0 (U2 432 0 0)) (U2 101 0 13).toNat) (h3 : fr_ [(101, [5])] U2 U3) (p : PL9_ U3 T' c) (hx : x = 8 * c + T' 429 0 c) : BA9_ T T' s b x := by
  have e : cpw_ U2 (U2 428 0 (U2 432 0 0)) (U2 101 0 13).toNat = cpw_ T (T 428 0 (T 432 0 0)) (T 101 0 13).toNat := by
    unfold cpw_
    rw [h2 101 0 13 rfl, h2 432 0 0 rfl, h2 428 0 _ rfl, show (fun j => U2 428 0 (U2 432 0 j)) = (fun j => T 428 0 (T 432 0 j)) from funext (fun j => by rw [h2 432 0 j rfl, h2 428 0 _ rfl])]
  rw [e] at qc q2 q3
  rw [h2 432 0 _ rfl] at qc
  subst qc
  exact ⟨U2 101 0 5, _, U3, hs, rfl, q3, fr_t h2 h3, q2, p, hx⟩
