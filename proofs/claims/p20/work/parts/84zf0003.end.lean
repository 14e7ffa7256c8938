theorem ct_cf {d : Dr_} : ∀ (l : List Int) (n : Nat), l.length ≤ n → ∀ (T : Zt) (f : Int → Int) (k : Int), d = dh_ T → WL_ T l k → OCW_ T d.E d.C f → FZ_ T f l → 0 ≤ k → Ct_ yX1_countFrom (zX1_cf n) T [vR 101 0, vI k] (po_X1_cf T d l f)
  | [], n, _, T, f, k, _, hw, _, _, _ => ct_X1_cf_n (T := T) (d := d) (f := f) (n := n) (k := k) hw
  | y :: l, 0, h, _, _, _, _, _, _, _, _ => by rw [List.length_cons] at h; omega
  | y :: l, n + 1, h, T, f, k, hd, hw, ho, hz, hk => by
    obtain ⟨e, hw⟩ := hw
    subst e
    exact ct_X1_cf_s (T := T) (d := d) (l := l) (f := f) (n := n) (k := k) (fun T1 f1 k1 a b c e g => ct_cf l n (by rw [List.length_cons] at h; omega) T1 f1 k1 a b c e g) hd hw ho hz hk
