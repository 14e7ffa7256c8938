-- the reference's order, exactly: words
theorem mb_o {o q x : Int} (ho : 0 ≤ o ∧ o ≤ 4095) (hq : 0 ≤ q ∧ q ≤ 11) (hx : 0 ≤ x ∧ x ≤ 11) (h : mb9_ o x ∨ x = q) : mb9_ (or_ o (sl_ 1 q)) x := by
  have hb := sl_b hq
  have ho2 := or_b ho hb
  unfold mb9_ at h ⊢
  rw [bt_n (by omega) (by omega)] at h
  rw [bt_n (by omega) (by omega)]
  unfold bt_ at h ⊢
  rw [or_n (by omega) (by omega), Int.toNat_natCast, Nat.testBit_or, sl_q hq, Int.toNat_natCast, Nat.testBit_two_pow]
  by_cases z : o.toNat.testBit x.toNat = true
  · simp [z]
  · by_cases y : q.toNat = x.toNat
    · simp [y]
    · rcases h with h | h
      · rw [if_neg z] at h
        omega
      · omega
theorem bt_r {o : Int → Int} {f : Int} : ∀ n : Nat, (∀ k, f ≤ k → k < f + (n : Int) → 0 ≤ o k ∧ o k ≤ 11) → 0 ≤ bt9_ o f n ∧ bt9_ o f n ≤ 4095
  | 0, _ => ⟨Int.le_refl _, by show (0 : Int) ≤ 4095; decide⟩
  | n + 1, h => or_b (bt_r n (fun k a b => h k a (by omega))) (sl_b (h (f + (n : Int)) (by omega) (by omega)))
theorem bt_m {o : Int → Int} {f : Int} : ∀ n : Nat, (∀ k, f ≤ k → k < f + (n : Int) → 0 ≤ o k ∧ o k ≤ 11) → ∀ k, f ≤ k → k < f + (n : Int) → mb9_ (bt9_ o f n) (o k)
  | 0, _, k, a, b => by omega
  | n + 1, h, k, a, b => by
    have r := bt_r (o := o) (f := f) n (fun k a b => h k a (by omega))
    have c := h (f + (n : Int)) (by omega) (by omega)
    have d := h k a b
    show mb9_ (or_ (bt9_ o f n) (sl_ 1 (o (f + (n : Int))))) (o k)
    by_cases z : k = f + (n : Int)
    · exact mb_o r c d (Or.inr (by rw [z]))
    · exact mb_o r c d (Or.inl (bt_m n (fun k a b => h k a (by omega)) k a (by omega)))
theorem bt_i {o : Int → Int} {f x : Int} (hx : 0 ≤ x ∧ x ≤ 11) : ∀ n : Nat, (∀ k, f ≤ k → k < f + (n : Int) → 0 ≤ o k ∧ o k ≤ 11) → mb9_ (bt9_ o f n) x → ∃ k, f ≤ k ∧ k < f + (n : Int) ∧ o k = x
  | 0, _, h => by
    have e : an_ (sr_ 0 x) 1 = 0 := by
      rw [bt_n (by omega) (by omega)]
      unfold bt_
      simp
    have h' : an_ (sr_ 0 x) 1 = 1 := h
    omega
  | n + 1, g, h => by
    have r := bt_r (o := o) (f := f) n (fun k a b => g k a (by omega))
    have c := g (f + (n : Int)) (by omega) (by omega)
    rcases or_bit r c hx h with y | y
    · obtain ⟨k, k0, k1, k2⟩ := bt_i hx n (fun k a b => g k a (by omega)) y
      exact ⟨k, k0, by omega, k2⟩
    · exact ⟨f + (n : Int), by omega, by omega, y.symm⟩
theorem bt_c {o o' : Int → Int} {f : Int} : ∀ n : Nat, (∀ k, f ≤ k → k < f + (n : Int) → o k = o' k) → bt9_ o f n = bt9_ o' f n
  | 0, _ => rfl
  | n + 1, h => by
    show or_ (bt9_ o f n) (sl_ 1 (o (f + (n : Int)))) = or_ (bt9_ o' f n) (sl_ 1 (o' (f + (n : Int))))
    rw [bt_c n (fun k a b => h k a (by omega)), h (f + (n : Int)) (by omega) (by omega)]
/-- what stands below n alone -/
def mk9_ (n : Int) (o : Int → Int) : Int → Int := fun x => if 0 ≤ x ∧ x < n then o x else 0
theorem mk_v {n x : Int} {o : Int → Int} (h : 0 ≤ x ∧ x < n) : mk9_ n o x = o x := if_pos h
theorem mk_u {n j v : Int} {o : Int → Int} (h : 0 ≤ j ∧ j < n) : mk9_ n (ud9_ o j v) = ud9_ (mk9_ n o) j v := by
  funext x
  by_cases z : x = j
  · rw [z, mk_v h, ud_s, ud_s]
  · rw [ud_n z]
    unfold mk9_
    by_cases y : 0 ≤ x ∧ x < n
    · rw [if_pos y, if_pos y, ud_n z]
    · rw [if_neg y, if_neg y]
theorem mk_e {n : Int} {o o' : Int → Int} (h : ∀ x, 0 ≤ x → x < n → o x = o' x) : mk9_ n o = mk9_ n o' := by
  funext x
  unfold mk9_
  by_cases y : 0 ≤ x ∧ x < n
  · rw [if_pos y, if_pos y, h x y.1 y.2]
  · rw [if_neg y, if_neg y]
theorem in_mk {W : Int → Int} {f x N : Int} (hf : 0 ≤ f) : ∀ (n : Nat) (o : Int → Int), f + (n : Int) < N → mk9_ N (in9_ W f x n o) = in9_ W f x n (mk9_ N o)
  | 0, o, h => mk_u (by omega)
  | n + 1, o, h => by
    have e : mk9_ N o (f + (n : Int)) = o (f + (n : Int)) := mk_v (by omega)
    by_cases z : W (o (f + (n : Int))) < W x
    · rw [in_t z, in_t (o := mk9_ N o) (by rw [e]; exact z), in_mk hf n _ (by omega), mk_u (by omega), e]
    · rw [in_f z, in_f (o := mk9_ N o) (by rw [e]; exact z), mk_u (by omega)]
theorem so_mk {W : Int → Int} {f N : Int} (hf : 0 ≤ f) : ∀ (n : Nat) (o : Int → Int), f + (n : Int) < N → mk9_ N (som9_ W f n o) = som9_ W f n (mk9_ N o)
  | 0, o, _ => rfl
  | n + 1, o, h => by
    have i := so_mk (W := W) (N := N) hf n o (by omega)
    show mk9_ N (in9_ W f (som9_ W f n o (f + (n : Int) + 1)) (n + 1) (som9_ W f n o)) = in9_ W f (som9_ W f n (mk9_ N o) (f + (n : Int) + 1)) (n + 1) (som9_ W f n (mk9_ N o))
    rw [in_mk hf (n + 1) _ (by omega), i, ← i, mk_v (n := N) (x := f + (n : Int) + 1) (by omega)]
theorem gl_c {V V' : Int → Int} {f t key nx kc : Int} {p : Int → Int} {q : Pl_} : ∀ n : Nat, f + (n : Int) ≤ t → (∀ k, f ≤ k → k < t → V k = V' k) → gl9_ V f t key nx kc p q n = gl9_ V' f t key nx kc p q n
  | 0, _, _ => rfl
  | n + 1, h, e => by
    have i := gl_c (V := V) (V' := V') (f := f) (t := t) (key := key) (nx := nx) (kc := kc) (p := p) (q := q) n (by omega) e
    have c : (f + (n : Int) + 1 = t ∨ V (f + (n : Int) + 1) ≠ V (f + (n : Int))) ↔ (f + (n : Int) + 1 = t ∨ V' (f + (n : Int) + 1) ≠ V' (f + (n : Int))) := by
      by_cases y : f + (n : Int) + 1 = t
      · exact ⟨fun _ => Or.inl y, fun _ => Or.inl y⟩
      · rw [e (f + (n : Int) + 1) (by omega) (by omega), e (f + (n : Int)) (by omega) (by omega)]
    by_cases z : f + (n : Int) + 1 = t ∨ V (f + (n : Int) + 1) ≠ V (f + (n : Int))
    · rw [gl_t z, gl_t (c.1 z), i]
    · rw [gl_f z, gl_f (fun y => z (c.2 y)), i]
theorem gl_mk {V : Int → Int} {f t key nx kc N : Int} {p : Int → Int} {q : Pl_} (hf : 0 ≤ f) (ht : t ≤ N) : ∀ n : Nat, f + (n : Int) ≤ t → gl9_ V f t key nx kc (mk9_ N p) q n = ((gl9_ V f t key nx kc p q n).1, mk9_ N (gl9_ V f t key nx kc p q n).2.1, (gl9_ V f t key nx kc p q n).2.2)
  | 0, _ => rfl
  | n + 1, h => by
    have i := gl_mk (V := V) (f := f) (t := t) (key := key) (nx := nx) (kc := kc) (N := N) (p := p) (q := q) hf ht n (by omega)
    by_cases z : f + (n : Int) + 1 = t ∨ V (f + (n : Int) + 1) ≠ V (f + (n : Int))
    · rw [gl_t z, gl_t z, i]
      by_cases y : f + (n : Int) + 1 < t
      · rw [if_pos y, if_pos y]
        show (f + (n : Int) + 1, ud9_ (mk9_ N (gl9_ V f t key nx kc p q n).2.1) (f + (n : Int)) key, _) = (f + (n : Int) + 1, mk9_ N (ud9_ (gl9_ V f t key nx kc p q n).2.1 (f + (n : Int)) key), _)
        rw [mk_u (by omega)]
      · rw [if_neg y, if_neg y]
    · rw [gl_f z, gl_f z, i]
theorem sg_mk {WW : Int → Int → Int → Int} {rd kc f t key N : Int} {o p : Int → Int} {q : Pl_} (hf : 0 ≤ f ∧ f + 2 ≤ t ∧ t ≤ N) : sg9_ WW rd kc f t key (mk9_ N o) (mk9_ N p) q = (mk9_ N (sg9_ WW rd kc f t key o p q).1, mk9_ N (sg9_ WW rd kc f t key o p q).2.1, (sg9_ WW rd kc f t key o p q).2.2) := by
  have eb : bt9_ (mk9_ N o) f (t - f).toNat = bt9_ o f (t - f).toNat := bt_c _ (fun k a b => mk_v (by omega))
  have es : som9_ (WW key (bt9_ o f (t - f).toNat)) f (t - f - 1).toNat (mk9_ N o) = mk9_ N (som9_ (WW key (bt9_ o f (t - f).toNat)) f (t - f - 1).toNat o) := (so_mk (by omega) _ _ (by omega)).symm
  have ev : ∀ k, f ≤ k → k < t → (fun k => WW key (bt9_ o f (t - f).toNat) (mk9_ N (som9_ (WW key (bt9_ o f (t - f).toNat)) f (t - f - 1).toNat o) k)) k = (fun k => WW key (bt9_ o f (t - f).toNat) (som9_ (WW key (bt9_ o f (t - f).toNat)) f (t - f - 1).toNat o k)) k := fun k a b => by
    show WW key (bt9_ o f (t - f).toNat) (mk9_ N (som9_ (WW key (bt9_ o f (t - f).toNat)) f (t - f - 1).toNat o) k) = _
    rw [mk_v (by omega)]
  have en : nx9_ (fun k => WW key (bt9_ o f (t - f).toNat) (mk9_ N (som9_ (WW key (bt9_ o f (t - f).toNat)) f (t - f - 1).toNat o) k)) rd f t key = nx9_ (fun k => WW key (bt9_ o f (t - f).toNat) (som9_ (WW key (bt9_ o f (t - f).toNat)) f (t - f - 1).toNat o k)) rd f t key := by
    unfold nx9_
    rw [ev f (by omega) (by omega), ev (t - 1) (by omega) (by omega)]
  unfold sg9_
  rw [eb, es, en, gl_c (t - f).toNat (by omega) ev, gl_mk (N := N) (by omega) (by omega) (t - f).toNat (by omega)]
-- the classes, by places
theorem gl_st {V p p1 : Int → Int} {f t key nx kc i b : Int} {q q1 : Pl_} (hi : f < i) (h : gl9_ V f t key nx kc p q (i - f - 1).toNat = (b, p1, q1)) (c : i = t ∨ V i ≠ V (i - 1)) : gl9_ V f t key nx kc p q (i + 1 - f - 1).toNat = (i, (if i < t then ud9_ p1 (i - 1) key else p1), pu9_ kc b i nx q1) := by
  have e1 : (i + 1 - f - 1).toNat = (i - f - 1).toNat + 1 := by omega
  have e2 : f + (((i - f - 1).toNat : Nat) : Int) + 1 = i := by omega
  have e3 : f + (((i - f - 1).toNat : Nat) : Int) = i - 1 := by omega
  rw [e1, gl_t (by rw [e2, e3]; exact c), h, e2, e3]
theorem gl_sf {V p p1 : Int → Int} {f t key nx kc i b : Int} {q q1 : Pl_} (hi : f < i) (h : gl9_ V f t key nx kc p q (i - f - 1).toNat = (b, p1, q1)) (c : ¬ (i = t ∨ V i ≠ V (i - 1))) : gl9_ V f t key nx kc p q (i + 1 - f - 1).toNat = (b, p1, q1) := by
  have e1 : (i + 1 - f - 1).toNat = (i - f - 1).toNat + 1 := by omega
  have e2 : f + (((i - f - 1).toNat : Nat) : Int) + 1 = i := by omega
  have e3 : f + (((i - f - 1).toNat : Nat) : Int) = i - 1 := by omega
  rw [e1, gl_f (by rw [e2, e3]; exact c), h]
-- the reference's pile
def pr9_ (T : Zt) (kc : Int) : Nat → Pl_
  | 0 => []
  | n + 1 => pu9_ kc (T 286 0 (3 * (n : Int))) (T 286 0 (3 * (n : Int) + 1)) (T 286 0 (3 * (n : Int) + 2)) (pr9_ T kc n)
theorem pr_e {T T1 : Zt} {kc : Int} : ∀ n : Nat, (∀ j, j < 3 * (n : Int) → T1 286 0 j = T 286 0 j) → pr9_ T1 kc n = pr9_ T kc n
  | 0, _ => rfl
  | n + 1, h => by
    show pu9_ kc (T1 286 0 (3 * (n : Int))) (T1 286 0 (3 * (n : Int) + 1)) (T1 286 0 (3 * (n : Int) + 2)) (pr9_ T1 kc n) = pu9_ kc (T 286 0 (3 * (n : Int))) (T 286 0 (3 * (n : Int) + 1)) (T 286 0 (3 * (n : Int) + 2)) (pr9_ T kc n)
    rw [pr_e n (fun j a => h j (by omega)), h _ (by omega), h _ (by omega), h _ (by omega)]
theorem pr_l {T T3 U : Zt} {kc a b q : Int} {p : Nat} (h87 : T 111 0 87 = 3 * (p : Int)) (g : ∀ j, T3 286 0 j = T 286 0 j) (g87 : T3 111 0 87 = T 111 0 87)
    (po : U 111 0 87 = T3 111 0 87 + 3 ∧ U 286 0 (T3 111 0 87) = a ∧ U 286 0 (T3 111 0 87 + 1) = b ∧ U 286 0 (T3 111 0 87 + 2) = q ∧ ∀ j, j < T3 111 0 87 → U 286 0 j = T3 286 0 j) : pr9_ U kc (p + 1) = pu9_ kc a b q (pr9_ T kc p) := by
  rw [g87, h87] at po
  show pu9_ kc (U 286 0 (3 * (p : Int))) (U 286 0 (3 * (p : Int) + 1)) (U 286 0 (3 * (p : Int) + 2)) (pr9_ U kc p) = _
  rw [po.2.1, po.2.2.1, po.2.2.2.1, pr_e p (fun j a => (po.2.2.2.2 j a).trans (g j))]
/-- the worth that the reference goes by -/
noncomputable def wwR_ (T : Zt) (c d : Int) : Int → Int → Int → Int := ww9_ (fun w => T 205 0 (23 * c + w)) (lm_ (fun x w => T 276 0 (9 * x + w))) (fun g x i => gn9_ (fun w => T 205 0 (23 * c + w)) (fun k => vR_ T d (T 210 0 c + k)) g x i (T 211 0 c).toNat)
theorem ww_f {ws : List (Nat × List Int)} {T T1 : Zt} {c d : Int} (f : fr_ ws T T1) (w5 : ∀ j, fw_ ws 205 j = false) (w6 : ∀ j, fw_ ws 276 j = false) (w10 : ∀ j, fw_ ws 210 j = false) (w11 : ∀ j, fw_ ws 211 j = false) (w : ∀ (k : Nat) (j : Int), k = 232 ∨ k = 233 ∨ k = 234 ∨ k = 235 ∨ k = 236 ∨ k = 237 ∨ k = 239 ∨ k = 242 ∨ k = 243 ∨ k = 281 → fw_ ws k j = false) (w8 : fw_ ws 111 80 = false) : wwR_ T1 c d = wwR_ T c d := by
  have e1 : (fun w => T1 205 0 (23 * c + w)) = (fun w => T 205 0 (23 * c + w)) := funext (fun w => f 205 0 _ (w5 _))
  have e2 : (fun k => vR_ T1 d (T1 210 0 c + k)) = (fun k => vR_ T d (T 210 0 c + k)) := funext (fun k => by rw [f 210 0 c (w10 c), vr_g f w w8])
  have e3 : (fun x w => T1 276 0 (9 * x + w)) = (fun x w => T 276 0 (9 * x + w)) := funext (fun x => funext (fun w => f 276 0 _ (w6 _)))
  unfold wwR_
  rw [e1, e2, e3, f 211 0 c (w11 c)]
/-- the heads are small -/
def GB_ (T : Zt) (c d : Int) : Prop := ∀ g x : Int, (-499000 ≤ gn9_ (fun w => T 205 0 (23 * c + w)) (fun k => vR_ T d (T 210 0 c + k)) g x 1 (T 211 0 c).toNat ∧ gn9_ (fun w => T 205 0 (23 * c + w)) (fun k => vR_ T d (T 210 0 c + k)) g x 1 (T 211 0 c).toNat ≤ 499000) ∧ (0 ≤ gn9_ (fun w => T 205 0 (23 * c + w)) (fun k => vR_ T d (T 210 0 c + k)) g x 2 (T 211 0 c).toNat ∧ gn9_ (fun w => T 205 0 (23 * c + w)) (fun k => vR_ T d (T 210 0 c + k)) g x 2 (T 211 0 c).toNat ≤ 999000)
theorem gb_f {ws : List (Nat × List Int)} {T T1 : Zt} {c d : Int} (h : GB_ T c d) (f : fr_ ws T T1) (w5 : ∀ j, fw_ ws 205 j = false) (w10 : ∀ j, fw_ ws 210 j = false) (w11 : ∀ j, fw_ ws 211 j = false) (w : ∀ (k : Nat) (j : Int), k = 232 ∨ k = 233 ∨ k = 234 ∨ k = 235 ∨ k = 236 ∨ k = 237 ∨ k = 239 ∨ k = 242 ∨ k = 243 ∨ k = 281 → fw_ ws k j = false) (w8 : fw_ ws 111 80 = false) : GB_ T1 c d := by
  have e1 : (fun w => T1 205 0 (23 * c + w)) = (fun w => T 205 0 (23 * c + w)) := funext (fun w => f 205 0 _ (w5 _))
  have e2 : (fun k => vR_ T1 d (T1 210 0 c + k)) = (fun k => vR_ T d (T 210 0 c + k)) := funext (fun k => by rw [f 210 0 c (w10 c), vr_g f w w8])
  unfold GB_
  rw [e1, e2, f 211 0 c (w11 c)]
  exact h
theorem sd_w {T U : Zt} {c d k : Int} (h : SD_ T U c d k) (h12 : T 111 0 12 ≤ 12) (gb : GB_ T c d) (m : ∀ x : Int, 0 ≤ x → x < 12 → mb9_ (T 111 0 85) x → x < T 111 0 12) : WX_ U (wwR_ T c d k (T 111 0 85)) (T 111 0 85) := by
  by_cases z : kv9_ (fun w => T 205 0 (23 * c + w)) k = 4
  · exact wx_4 z (h.2 z) (fun x _ _ => gb (T 111 0 85) x)
  · exact wx_n z (fun x a b => by
      have y := h.1 z x a b
      by_cases q : x < 12
      · rw [sv_m ⟨a, q⟩]
        exact y
      · exact absurd (show x < 12 by omega) q) m
theorem bt_s {T T0 T1 : Zt} {f i : Int} (hi : f ≤ i) (e : T0 111 0 85 = bt9_ (fun x => T 277 0 x) f (i - f).toNat) (g : T1 111 0 85 = or_ (T0 111 0 85) (sl_ 1 (T 277 0 i))) : T1 111 0 85 = bt9_ (fun x => T 277 0 x) f (i + 1 - f).toNat := by
  rw [g, e, show (i + 1 - f).toNat = (i - f).toNat + 1 by omega]
  show _ = or_ (bt9_ (fun x => T 277 0 x) f (i - f).toNat) (sl_ 1 (T 277 0 (f + (((i - f).toNat : Nat) : Int))))
  rw [show f + (((i - f).toNat : Nat) : Int) = i by omega]
theorem nx_t {V : Int → Int} {rd f t key : Int} (h : V f ≠ V (t - 1)) (r : rd = 1) : nx9_ V rd f t key = 0 := if_pos ⟨h, r⟩
theorem nxm_1 {V : Int → Int} {rd f t key : Int} (h : V f = V (t - 1)) : nx9_ V rd f t key = key + 1 := if_neg (fun q => q.1 h)
theorem nx_2 {V : Int → Int} {rd f t key : Int} (r : rd ≠ 1) : nx9_ V rd f t key = key + 1 := if_neg (fun q => r q.2)
/-- a group is ordered -/
def OP_ (T T' : Zt) (c d f t k : Int) : Prop := ∀ p0 : Nat, T 111 0 87 = 3 * (p0 : Int) → ∃ p2 : Nat, T' 111 0 87 = 3 * (p2 : Int) ∧ sg9_ (wwR_ T c d) (T 205 0 (23 * c + 5)) (T 205 0 (23 * c + 4)) f t k (fun x => T 277 0 x) (fun x => T 278 0 x) (pr9_ T (T 205 0 (23 * c + 4)) p0) = ((fun x => T' 277 0 x), (fun x => T' 278 0 x), pr9_ T' (T 205 0 (23 * c + 4)) p2)
/-- all that the machine still does -/
def RQm_ (WW : Int → Int → Int → Int) (rd kc e : Int) (R : (Int → Int) × (Int → Int)) (o p : Int → Int) (q : Pl_) : Prop := PWm_ e kc q ∧ ∀ N : Nat, ph9_ q ≤ (N : Int) → rk9_ WW rd kc N (mk9_ e o) (mk9_ e p) q = R
def RT_ (T : Zt) (c d e : Int) (R : (Int → Int) × (Int → Int)) : Prop := ∀ p : Nat, T 111 0 87 = 3 * (p : Int) → RQm_ (wwR_ T c d) (T 205 0 (23 * c + 5)) (T 205 0 (23 * c + 4)) e R (fun x => T 277 0 x) (fun x => T 278 0 x) (pr9_ T (T 205 0 (23 * c + 4)) p)
/-- the order of all -/
noncomputable def RKm_ (T : Zt) (c d e : Int) : (Int → Int) × (Int → Int) := rk9_ (wwR_ T c d) (T 205 0 (23 * c + 5)) (T 205 0 (23 * c + 4)) 1000 (mk9_ e (fun x => T 207 0 (12 * c + x))) (mk9_ e (fun _ => -1)) (pu9_ (T 205 0 (23 * c + 4)) 0 e 0 [])
theorem rq_0 {WW : Int → Int → Int → Int} {rd kc e : Int} {o p : Int → Int} (he : 0 ≤ e ∧ e ≤ 12) (hk : 0 ≤ kc ∧ kc ≤ 7) : RQm_ WW rd kc e (rk9_ WW rd kc 1000 (mk9_ e o) (mk9_ e p) (pu9_ kc 0 e 0 [])) o p (pu9_ kc 0 e 0 []) := by
  have w : PWm_ e kc (pu9_ kc 0 e 0 []) := pw_p (q := []) trivial (by omega)
  refine ⟨w, fun N h => rk_m (e := e) hk.2 N 1000 _ _ _ w h ?_⟩
  by_cases z : e - 0 < 2 ∨ kc < 0
  · rw [pu_t z]
    show (0 : Int) ≤ _
    omega
  · rw [pu_f z]
    show 16 * (e - 0) - 16 - 0 + 0 ≤ _
    omega
theorem rqm_s {WW : Int → Int → Int → Int} {rd kc e f t key : Int} {R : (Int → Int) × (Int → Int)} {o p o' p' : Int → Int} {q q' : Pl_} (hk : kc ≤ 7) (h : RQm_ WW rd kc e R o p ((f, t, key) :: q)) (s : sg9_ WW rd kc f t key o p q = (o', p', q')) : RQm_ WW rd kc e R o' p' q' := by
  have w := sg_w (WW := WW) (rd := rd) (o := o) (p := p) h.1 hk
  rw [s] at w
  have a := h.1.1
  have m := sg_mk (WW := WW) (rd := rd) (kc := kc) (key := key) (N := e) (o := o) (p := p) (q := q) (f := f) (t := t) (by omega)
  rw [s] at m
  refine ⟨w.1, fun N g => ?_⟩
  have w2 : ph9_ q' + 1 ≤ ph9_ ((f, t, key) :: q) := w.2.1
  have i : 0 ≤ ph9_ q' ∧ 2 * (q'.length : Int) ≤ sz9_ q' := ph_0 hk w.1
  have y := h.2 (ph9_ ((f, t, key) :: q)).toNat (by omega)
  rw [show (ph9_ ((f, t, key) :: q)).toNat = ((ph9_ ((f, t, key) :: q)).toNat - 1) + 1 by omega, rk_s, m] at y
  rw [← y]
  exact rk_m (e := e) hk _ _ _ _ _ w.1 g (by omega)
theorem rq_z {WW : Int → Int → Int → Int} {rd kc e : Int} {R : (Int → Int) × (Int → Int)} {o p : Int → Int} (h : RQm_ WW rd kc e R o p []) : (mk9_ e o, mk9_ e p) = R := by
  have y := h.2 0 (by show (0 : Int) ≤ _; omega)
  rw [rk_0] at y
  exact y
/-- what the worth, the rules and the entrants hang on is as it was -/
def RU_ (T U : Zt) (c d : Int) : Prop := wwR_ U c d = wwR_ T c d ∧ U 205 0 (23 * c + 4) = T 205 0 (23 * c + 4) ∧ U 205 0 (23 * c + 5) = T 205 0 (23 * c + 5) ∧ ∀ x, U 207 0 x = T 207 0 x
theorem ru_f {ws : List (Nat × List Int)} {T U : Zt} {c d : Int} (f : fr_ ws T U) (w5 : ∀ j, fw_ ws 205 j = false) (w6 : ∀ j, fw_ ws 276 j = false) (w7 : ∀ j, fw_ ws 207 j = false) (w10 : ∀ j, fw_ ws 210 j = false) (w11 : ∀ j, fw_ ws 211 j = false) (w : ∀ (k : Nat) (j : Int), k = 232 ∨ k = 233 ∨ k = 234 ∨ k = 235 ∨ k = 236 ∨ k = 237 ∨ k = 239 ∨ k = 242 ∨ k = 243 ∨ k = 281 → fw_ ws k j = false) (w8 : fw_ ws 111 80 = false) : RU_ T U c d := ⟨ww_f f w5 w6 w10 w11 w w8, f 205 0 _ (w5 _), f 205 0 _ (w5 _), fun x => f 207 0 x (w7 x)⟩
theorem rk_f {T U : Zt} {c d e : Int} (h : RU_ T U c d) : RKm_ U c d e = RKm_ T c d e := by
  obtain ⟨h1, h2, h3, h4⟩ := h
  unfold RKm_
  rw [h1, h2, h3, show (fun x => U 207 0 (12 * c + x)) = (fun x => T 207 0 (12 * c + x)) from funext (fun x => h4 _)]
/-- one is taken from the pile -/
theorem rt_t {T U : Zt} {c d e f t k : Int} {R : (Int → Int) × (Int → Int)} (h : RT_ T c d e R) (r : RU_ T U c d) (o : (fun x => U 277 0 x) = (fun x => T 277 0 x)) (p : (fun x => U 278 0 x) = (fun x => T 278 0 x)) (i : ∀ j, U 286 0 j = T 286 0 j) (pp : U 111 0 87 = T 111 0 87 - 3) (hf : T 286 0 (T 111 0 87 - 3) = f) (ht : T 286 0 (T 111 0 87 - 3 + 1) = t) (hk : T 286 0 (T 111 0 87 - 3 + 2) = k) : ∀ p9 : Nat, U 111 0 87 = 3 * (p9 : Int) → RQm_ (wwR_ U c d) (U 205 0 (23 * c + 5)) (U 205 0 (23 * c + 4)) e R (fun x => U 277 0 x) (fun x => U 278 0 x) (pu9_ (U 205 0 (23 * c + 4)) f t k (pr9_ U (U 205 0 (23 * c + 4)) p9)) := fun p9 h9 => by
  obtain ⟨r1, r2, r3, r4⟩ := r
  have y := h (p9 + 1) (by omega)
  have e1 : pr9_ T (T 205 0 (23 * c + 4)) (p9 + 1) = pu9_ (T 205 0 (23 * c + 4)) f t k (pr9_ T (T 205 0 (23 * c + 4)) p9) := by
    show pu9_ (T 205 0 (23 * c + 4)) (T 286 0 (3 * (p9 : Int))) (T 286 0 (3 * (p9 : Int) + 1)) (T 286 0 (3 * (p9 : Int) + 2)) (pr9_ T (T 205 0 (23 * c + 4)) p9) = _
    rw [← hf, ← ht, ← hk, show T 111 0 87 - 3 = 3 * (p9 : Int) by omega]
  rw [e1] at y
  rw [r1, r2, r3, o, p, pr_e (T := T) (T1 := U) p9 (fun j _ => i j)]
  exact y
theorem op_q {T U : Zt} {c d f t k : Int} {Q : Int → Prop} (h : OP_ T U c d f t k) {p0 : Nat} (hp : T 111 0 87 = 3 * (p0 : Int)) (hf : f + 2 ≤ t) {n : Int} (q : ∀ j, 0 ≤ j → j < n → Q (T 277 0 j)) (hn : 0 ≤ f ∧ t ≤ n) : ∀ j, 0 ≤ j → j < n → Q (U 277 0 j) := fun j a b => by
  obtain ⟨p2, -, s⟩ := h p0 hp
  have e : som9_ (wwR_ T c d k (bt9_ (fun x => T 277 0 x) f (t - f).toNat)) f (t - f - 1).toNat (fun x => T 277 0 x) = (fun x => U 277 0 x) := congrArg Prod.fst s
  have y := so_q (W := wwR_ T c d k (bt9_ (fun x => T 277 0 x) f (t - f).toNat)) (f := f) (Q := Q) (t - f - 1).toNat (fun x => T 277 0 x) (fun k9 a9 b9 => q k9 (by omega) (by omega))
  rw [e] at y
  by_cases z : f ≤ j ∧ j < t
  · exact y.1 j z.1 (by omega)
  · have w := y.2 j (by omega)
    have w' : U 277 0 j = T 277 0 j := w
    rw [w']
    exact q j a b
theorem rt_s {U V : Zt} {c d e f t k : Int} {R : (Int → Int) × (Int → Int)} (hk : U 205 0 (23 * c + 4) ≤ 7) (y : ∀ p9 : Nat, U 111 0 87 = 3 * (p9 : Int) → RQm_ (wwR_ U c d) (U 205 0 (23 * c + 5)) (U 205 0 (23 * c + 4)) e R (fun x => U 277 0 x) (fun x => U 278 0 x) (pu9_ (U 205 0 (23 * c + 4)) f t k (pr9_ U (U 205 0 (23 * c + 4)) p9))) (n : ¬ (t - f < 2 ∨ U 205 0 (23 * c + 4) < k)) (h : OP_ U V c d f t k) {p0 : Nat} (hp : U 111 0 87 = 3 * (p0 : Int)) (r : RU_ U V c d) : RT_ V c d e R := fun p9 h9 => by
  obtain ⟨p2, q2, s⟩ := h p0 hp
  have e9 : p9 = p2 := by omega
  have w := y p0 hp
  rw [pu_f n] at w
  have g := rqm_s hk w s
  obtain ⟨r1, r2, r3, r4⟩ := r
  rw [e9, r1, r2, r3]
  exact g
theorem pq_x {T : Zt} {n s w : Int} (h : PQ_ T n s w) : ∃ p : Nat, T 111 0 87 = 3 * (p : Int) := by
  obtain ⟨p, w1, a, b, c⟩ := h
  exact ⟨p, a⟩
/-- a cell of the table -/
def TR_ (T T' : Zt) (c d cl w x : Int) : Prop := (w = 7 → ∃ k, 0 ≤ k ∧ k < T 208 0 c ∧ (RKm_ T' c d (T 208 0 c)).1 k = cl ∧ (∀ j, 0 ≤ j → j < k → (RKm_ T' c d (T 208 0 c)).1 j ≠ cl) ∧ x = pc9_ (RKm_ T' c d (T 208 0 c)).2 k.toNat) ∧ (w ≠ 7 → x = T' 276 0 (9 * cl + w)) ∧ (∀ v, HE_ T c v → ∃ j, 0 ≤ j ∧ j < T 208 0 c ∧ (RKm_ T' c d (T 208 0 c)).1 j = v) ∧ TD_ T T' (fun w => T 205 0 (23 * c + w)) (fun k => vR_ T d (T 210 0 c + k)) (T 211 0 c).toNat c d (T 111 0 24).toNat
theorem pc_c {p p' : Int → Int} : ∀ n : Nat, (∀ j, 0 ≤ j → j < (n : Int) → p j = p' j) → pc9_ p n = pc9_ p' n
  | 0, _ => rfl
  | n + 1, h => by
    show (if p (n : Int) = -1 then pc9_ p n else (n : Int) + 2) = (if p' (n : Int) = -1 then pc9_ p' n else (n : Int) + 2)
    rw [h (n : Int) (by omega) (by omega), pc_c n (fun j a b => h j a (by omega))]
theorem tr_7 {T T' : Zt} {c d cl x n : Int} (hn : n = T 208 0 c) (r : (mk9_ n (fun x => T' 277 0 x), mk9_ n (fun x => T' 278 0 x)) = RKm_ T' c d n) (oca : ∀ v, HE_ T c v → OC_ T' n v) (hcl : HE_ T c cl) (td : TD_ T T' (fun w => T 205 0 (23 * c + w)) (fun k => vR_ T d (T 210 0 c + k)) (T 211 0 c).toNat c d (T 111 0 24).toNat) (h : PXm_ T' cl x) : TR_ T T' c d cl 7 x := by
  subst hn
  obtain ⟨k, k0, k1, k2, k3, k4⟩ := h
  have kn : k < T 208 0 c := oc_lt (oca cl hcl) k3
  have r1 : (RKm_ T' c d (T 208 0 c)).1 = mk9_ (T 208 0 c) (fun x => T' 277 0 x) := (congrArg Prod.fst r).symm
  have r2 : (RKm_ T' c d (T 208 0 c)).2 = mk9_ (T 208 0 c) (fun x => T' 278 0 x) := (congrArg Prod.snd r).symm
  refine ⟨fun _ => ⟨k, k0, kn, ?_, fun j a b => ?_, ?_⟩, fun z => absurd rfl z, fun v hv => ?_, td⟩
  · rw [r1, mk_v ⟨k0, kn⟩]
    exact k2
  · rw [r1, mk_v ⟨a, by omega⟩]
    exact k3 j a b
  · rw [k4, r2]
    exact pc_c _ (fun j a b => (mk_v (n := T 208 0 c) (o := fun x => T' 278 0 x) (x := j) ⟨a, by omega⟩).symm)
  · obtain ⟨j, j0, j1, j2⟩ := oca v hv
    exact ⟨j, j0, j1, by rw [r1, mk_v ⟨j0, j1⟩]; exact j2⟩
theorem tr_n {T T' : Zt} {c d cl w x n : Int} (hn : n = T 208 0 c) (r : (mk9_ n (fun x => T' 277 0 x), mk9_ n (fun x => T' 278 0 x)) = RKm_ T' c d n) (oca : ∀ v, HE_ T c v → OC_ T' n v) (td : TD_ T T' (fun w => T 205 0 (23 * c + w)) (fun k => vR_ T d (T 210 0 c + k)) (T 211 0 c).toNat c d (T 111 0 24).toNat) (hw : w ≠ 7) (hx : x = T' 276 0 (9 * cl + w)) : TR_ T T' c d cl w x := by
  subst hn
  have r1 : (RKm_ T' c d (T 208 0 c)).1 = mk9_ (T 208 0 c) (fun x => T' 277 0 x) := (congrArg Prod.fst r).symm
  refine ⟨fun z => absurd z hw, fun _ => hx, fun v hv => ?_, td⟩
  obtain ⟨j, j0, j1, j2⟩ := oca v hv
  exact ⟨j, j0, j1, by rw [r1, mk_v ⟨j0, j1⟩]; exact j2⟩
theorem bk_X11_orderPart_e_193 : ck_ fX11 none cX11_orderPart 193 [.iload 8, .istore 6, .iinc 8 1, .goto 91] 203 = true := qck_r (nn_ _) (by decide +kernel)
theorem bs_X11_orderPart_e_193 {P : Zt → Option Zv → Prop} (K : Int → Zl → List Zv → Zt → Prop) : sx_ K P [.iload 8, .istore 6, .iinc 8 1, .goto 91] 203 = x_iload 8 (x_istore 6 (x_iinc 8 1 (x_goto 91 K))) := ((xe_iload 8).trans (congrArg (x_iload 8) ((xe_istore 6).trans (congrArg (x_istore 6) ((xe_iinc 8 1).trans (congrArg (x_iinc 8 1) (xe_goto 91)))))))
theorem bk_X11_orderPart_e_158 : ck_ fX11 none cX11_orderPart 158 [.iload 9, .ifCond .eq 197, .aload 0, .iload 6, .iload 8, .iload 7, .ifCond .ne 182, .aload 0, .iload 1, .iconst 5] 176 = true := qck_r (nn_ _) (by decide +kernel)
theorem bs_X11_orderPart_e_158 {P : Zt → Option Zv → Prop} (K : Int → Zl → List Zv → Zt → Prop) : sx_ K P [.iload 9, .ifCond .eq 197, .aload 0, .iload 6, .iload 8, .iload 7, .ifCond .ne 182, .aload 0, .iload 1, .iconst 5] 176 = x_iload 9 (x_ifCond .eq 197 K (x_aload 0 (x_iload 6 (x_iload 8 (x_iload 7 (x_ifCond .ne 182 K (x_aload 0 (x_iload 1 (x_iconst 5 (K 176)))))))))) := ((xe_iload 9).trans (congrArg (x_iload 9) ((xe_ifCond .eq 197).trans (congrArg (x_ifCond .eq 197 K) ((xe_aload 0).trans (congrArg (x_aload 0) ((xe_iload 6).trans (congrArg (x_iload 6) ((xe_iload 8).trans (congrArg (x_iload 8) ((xe_iload 7).trans (congrArg (x_iload 7) ((xe_ifCond .ne 182).trans (congrArg (x_ifCond .ne 182 K) ((xe_aload 0).trans (congrArg (x_aload 0) ((xe_iload 1).trans (congrArg (x_iload 1) ((xe_iconst 5).trans (congrArg (x_iconst 5) xe_nil))))))))))))))))))))
theorem bk_X11_orderPart_e_197 : ck_ fX11 none cX11_orderPart 197 [.iinc 8 1, .goto 91] 203 = true := qck_r (nn_ _) (by decide +kernel)
theorem bs_X11_orderPart_e_197 {P : Zt → Option Zv → Prop} (K : Int → Zl → List Zv → Zt → Prop) : sx_ K P [.iinc 8 1, .goto 91] 203 = x_iinc 8 1 (x_goto 91 K) := ((xe_iinc 8 1).trans (congrArg (x_iinc 8 1) (xe_goto 91)))
theorem bk_X11_orderPart_e_182 : ck_ fX11 none cX11_orderPart 182 [.iload 5, .iconst 1, .iadd, .goto 190] 189 = true := qck_r (nn_ _) (by decide +kernel)
theorem bs_X11_orderPart_e_182 {P : Zt → Option Zv → Prop} (K : Int → Zl → List Zv → Zt → Prop) : sx_ K P [.iload 5, .iconst 1, .iadd, .goto 190] 189 = x_iload 5 (x_iconst 1 (x_iadd (x_goto 190 K))) := ((xe_iload 5).trans (congrArg (x_iload 5) ((xe_iconst 1).trans (congrArg (x_iconst 1) ((xe_iadd).trans (congrArg (x_iadd) (xe_goto 190)))))))
theorem bk_X11_orderPart_e_179 : ck_ fX11 none cX11_orderPart 179 [.ifCond .ne 189, .iload 5, .iconst 1, .iadd, .goto 190] 189 = true := qck_r (nn_ _) (by decide +kernel)
theorem bs_X11_orderPart_e_179 {P : Zt → Option Zv → Prop} (K : Int → Zl → List Zv → Zt → Prop) : sx_ K P [.ifCond .ne 189, .iload 5, .iconst 1, .iadd, .goto 190] 189 = x_ifCond .ne 189 K (x_iload 5 (x_iconst 1 (x_iadd (x_goto 190 K)))) := ((xe_ifCond .ne 189).trans (congrArg (x_ifCond .ne 189 K) ((xe_iload 5).trans (congrArg (x_iload 5) ((xe_iconst 1).trans (congrArg (x_iconst 1) ((xe_iadd).trans (congrArg (x_iadd) (xe_goto 190)))))))))
theorem bk_X11_orderPart_e_189 : ck_ fX11 none cX11_orderPart 189 [.iconst 0] 190 = true := qck_r (nn_ _) (by decide +kernel)
theorem bs_X11_orderPart_e_189 {P : Zt → Option Zv → Prop} (K : Int → Zl → List Zv → Zt → Prop) : sx_ K P [.iconst 0] 190 = x_iconst 0 (K 190) := ((xe_iconst 0).trans (congrArg (x_iconst 0) xe_nil))
theorem bk_X11_orderPart_e_91 : ck_ fX11 none cX11_orderPart 91 [.iload 8, .iload 4, .if_icmp .gt 203, .iload 8, .iload 4, .if_icmp .eq 128, .aload 0, .aload 0, .tableswitch 0 11 77 #[], .iload 8, .iconst 1, .isub, .iaload, .aload 0, .tableswitch 0 11 77 #[], .iload 8, .iaload] 122 = true := qck_r (nn_ _) (by decide +kernel)
theorem bs_X11_orderPart_e_91 {P : Zt → Option Zv → Prop} (K : Int → Zl → List Zv → Zt → Prop) : sx_ K P [.iload 8, .iload 4, .if_icmp .gt 203, .iload 8, .iload 4, .if_icmp .eq 128, .aload 0, .aload 0, .tableswitch 0 11 77 #[], .iload 8, .iconst 1, .isub, .iaload, .aload 0, .tableswitch 0 11 77 #[], .iload 8, .iaload] 122 = x_iload 8 (x_iload 4 (x_if_icmp .gt 203 K (x_iload 8 (x_iload 4 (x_if_icmp .eq 128 K (x_aload 0 (x_aload 0 (x_g1 111 277 (x_iload 8 (x_iconst 1 (x_isub (x_iaload (x_aload 0 (x_g1 111 277 (x_iload 8 (x_iaload (K 122))))))))))))))))) := ((xe_iload 8).trans (congrArg (x_iload 8) ((xe_iload 4).trans (congrArg (x_iload 4) ((xe_if_icmp .gt 203).trans (congrArg (x_if_icmp .gt 203 K) ((xe_iload 8).trans (congrArg (x_iload 8) ((xe_iload 4).trans (congrArg (x_iload 4) ((xe_if_icmp .eq 128).trans (congrArg (x_if_icmp .eq 128 K) ((xe_aload 0).trans (congrArg (x_aload 0) ((xe_aload 0).trans (congrArg (x_aload 0) ((xe_g1 (kk := 111) rfl tl_11_77).trans (congrArg (x_g1 111 277) ((xe_iload 8).trans (congrArg (x_iload 8) ((xe_iconst 1).trans (congrArg (x_iconst 1) ((xe_isub).trans (congrArg (x_isub) ((xe_iaload).trans (congrArg (x_iaload) ((xe_aload 0).trans (congrArg (x_aload 0) ((xe_g1 (kk := 111) rfl tl_11_77).trans (congrArg (x_g1 111 277) ((xe_iload 8).trans (congrArg (x_iload 8) ((xe_iaload).trans (congrArg (x_iaload) xe_nil))))))))))))))))))))))))))))))))))
theorem bk_X11_orderPart_e_203 : ck_ fX11 none cX11_orderPart 203 [.return_] 204 = true := qck_r (nn_ _) (by decide +kernel)
theorem bs_X11_orderPart_e_203 {P : Zt → Option Zv → Prop} (K : Int → Zl → List Zv → Zt → Prop) : sx_ K P [.return_] 204 = x_return_ P := (xe_return_)
theorem bk_X11_orderPart_e_128 : ck_ fX11 none cX11_orderPart 128 [.iconst 1, .goto 133] 132 = true := qck_r (nn_ _) (by decide +kernel)
theorem bs_X11_orderPart_e_128 {P : Zt → Option Zv → Prop} (K : Int → Zl → List Zv → Zt → Prop) : sx_ K P [.iconst 1, .goto 133] 132 = x_iconst 1 (x_goto 133 K) := ((xe_iconst 1).trans (congrArg (x_iconst 1) (xe_goto 133)))
theorem bk_X11_orderPart_e_133 : ck_ fX11 none cX11_orderPart 133 [.istore 9, .iload 9, .ifCond .eq 158, .iload 8, .iload 4, .if_icmp .ge 158, .aload 0, .tableswitch 0 11 78 #[], .iload 8, .iconst 1, .isub, .iload 5, .iastore] 158 = true := qck_r (nn_ _) (by decide +kernel)
theorem bs_X11_orderPart_e_133 {P : Zt → Option Zv → Prop} (K : Int → Zl → List Zv → Zt → Prop) : sx_ K P [.istore 9, .iload 9, .ifCond .eq 158, .iload 8, .iload 4, .if_icmp .ge 158, .aload 0, .tableswitch 0 11 78 #[], .iload 8, .iconst 1, .isub, .iload 5, .iastore] 158 = x_istore 9 (x_iload 9 (x_ifCond .eq 158 K (x_iload 8 (x_iload 4 (x_if_icmp .ge 158 K (x_aload 0 (x_g1 111 278 (x_iload 8 (x_iconst 1 (x_isub (x_iload 5 (x_iastore (K 158))))))))))))) := ((xe_istore 9).trans (congrArg (x_istore 9) ((xe_iload 9).trans (congrArg (x_iload 9) ((xe_ifCond .eq 158).trans (congrArg (x_ifCond .eq 158 K) ((xe_iload 8).trans (congrArg (x_iload 8) ((xe_iload 4).trans (congrArg (x_iload 4) ((xe_if_icmp .ge 158).trans (congrArg (x_if_icmp .ge 158 K) ((xe_aload 0).trans (congrArg (x_aload 0) ((xe_g1 (kk := 111) rfl tl_11_78).trans (congrArg (x_g1 111 278) ((xe_iload 8).trans (congrArg (x_iload 8) ((xe_iconst 1).trans (congrArg (x_iconst 1) ((xe_isub).trans (congrArg (x_isub) ((xe_iload 5).trans (congrArg (x_iload 5) ((xe_iastore).trans (congrArg (x_iastore) xe_nil))))))))))))))))))))))))))
theorem bk_X11_orderPart_e_125 : ck_ fX11 none cX11_orderPart 125 [.ifCond .eq 132, .iconst 1, .goto 133] 132 = true := qck_r (nn_ _) (by decide +kernel)
theorem bs_X11_orderPart_e_125 {P : Zt → Option Zv → Prop} (K : Int → Zl → List Zv → Zt → Prop) : sx_ K P [.ifCond .eq 132, .iconst 1, .goto 133] 132 = x_ifCond .eq 132 K (x_iconst 1 (x_goto 133 K)) := ((xe_ifCond .eq 132).trans (congrArg (x_ifCond .eq 132 K) ((xe_iconst 1).trans (congrArg (x_iconst 1) (xe_goto 133)))))
theorem bk_X11_orderPart_e_132 : ck_ fX11 none cX11_orderPart 132 [.iconst 0, .istore 9, .iload 9, .ifCond .eq 158, .iload 8, .iload 4, .if_icmp .ge 158, .aload 0, .tableswitch 0 11 78 #[], .iload 8, .iconst 1, .isub, .iload 5, .iastore] 158 = true := qck_r (nn_ _) (by decide +kernel)
theorem bs_X11_orderPart_e_132 {P : Zt → Option Zv → Prop} (K : Int → Zl → List Zv → Zt → Prop) : sx_ K P [.iconst 0, .istore 9, .iload 9, .ifCond .eq 158, .iload 8, .iload 4, .if_icmp .ge 158, .aload 0, .tableswitch 0 11 78 #[], .iload 8, .iconst 1, .isub, .iload 5, .iastore] 158 = x_iconst 0 (x_istore 9 (x_iload 9 (x_ifCond .eq 158 K (x_iload 8 (x_iload 4 (x_if_icmp .ge 158 K (x_aload 0 (x_g1 111 278 (x_iload 8 (x_iconst 1 (x_isub (x_iload 5 (x_iastore (K 158)))))))))))))) := ((xe_iconst 0).trans (congrArg (x_iconst 0) ((xe_istore 9).trans (congrArg (x_istore 9) ((xe_iload 9).trans (congrArg (x_iload 9) ((xe_ifCond .eq 158).trans (congrArg (x_ifCond .eq 158 K) ((xe_iload 8).trans (congrArg (x_iload 8) ((xe_iload 4).trans (congrArg (x_iload 4) ((xe_if_icmp .ge 158).trans (congrArg (x_if_icmp .ge 158 K) ((xe_aload 0).trans (congrArg (x_aload 0) ((xe_g1 (kk := 111) rfl tl_11_78).trans (congrArg (x_g1 111 278) ((xe_iload 8).trans (congrArg (x_iload 8) ((xe_iconst 1).trans (congrArg (x_iconst 1) ((xe_isub).trans (congrArg (x_isub) ((xe_iload 5).trans (congrArg (x_iload 5) ((xe_iastore).trans (congrArg (x_iastore) xe_nil))))))))))))))))))))))))))))
theorem bk_X11_orderPart_e_84 : ck_ fX11 none cX11_orderPart 84 [.istore 7, .iload 3, .iconst 1, .iadd, .istore 8] 91 = true := qck_r (nn_ _) (by decide +kernel)
theorem bs_X11_orderPart_e_84 {P : Zt → Option Zv → Prop} (K : Int → Zl → List Zv → Zt → Prop) : sx_ K P [.istore 7, .iload 3, .iconst 1, .iadd, .istore 8] 91 = x_istore 7 (x_iload 3 (x_iconst 1 (x_iadd (x_istore 8 (K 91))))) := ((xe_istore 7).trans (congrArg (x_istore 7) ((xe_iload 3).trans (congrArg (x_iload 3) ((xe_iconst 1).trans (congrArg (x_iconst 1) ((xe_iadd).trans (congrArg (x_iadd) ((xe_istore 8).trans (congrArg (x_istore 8) xe_nil))))))))))
theorem bk_X11_orderPart_e_8 : ck_ fX11 none cX11_orderPart 8 [.iload 6, .iload 4, .if_icmp .ge 39, .aload 0, .aload 0, .tableswitch 0 11 85 #[], .iconst 1, .aload 0, .tableswitch 0 11 77 #[], .iload 6, .iaload, .ishl, .ior, .tableswitch 1 11 85 #[], .iinc 6 1, .goto 8] 39 = true := qck_r (nn_ _) (by decide +kernel)
theorem bs_X11_orderPart_e_8 {P : Zt → Option Zv → Prop} (K : Int → Zl → List Zv → Zt → Prop) : sx_ K P [.iload 6, .iload 4, .if_icmp .ge 39, .aload 0, .aload 0, .tableswitch 0 11 85 #[], .iconst 1, .aload 0, .tableswitch 0 11 77 #[], .iload 6, .iaload, .ishl, .ior, .tableswitch 1 11 85 #[], .iinc 6 1, .goto 8] 39 = x_iload 6 (x_iload 4 (x_if_icmp .ge 39 K (x_aload 0 (x_aload 0 (x_g0 111 85 0 4095 (x_iconst 1 (x_aload 0 (x_g1 111 277 (x_iload 6 (x_iaload (x_ishl (x_ior (x_p 111 85 0 4095 (x_iinc 6 1 (x_goto 8 K))))))))))))))) := ((xe_iload 6).trans (congrArg (x_iload 6) ((xe_iload 4).trans (congrArg (x_iload 4) ((xe_if_icmp .ge 39).trans (congrArg (x_if_icmp .ge 39 K) ((xe_aload 0).trans (congrArg (x_aload 0) ((xe_aload 0).trans (congrArg (x_aload 0) ((xe_g0 (kk := 111) rfl tl_11_85).trans (congrArg (x_g0 111 85 0 4095) ((xe_iconst 1).trans (congrArg (x_iconst 1) ((xe_aload 0).trans (congrArg (x_aload 0) ((xe_g1 (kk := 111) rfl tl_11_77).trans (congrArg (x_g1 111 277) ((xe_iload 6).trans (congrArg (x_iload 6) ((xe_iaload).trans (congrArg (x_iaload) ((xe_ishl).trans (congrArg (x_ishl) ((xe_ior).trans (congrArg (x_ior) ((xe_p (kk := 111) rfl tl_11_85).trans (congrArg (x_p 111 85 0 4095) ((xe_iinc 6 1).trans (congrArg (x_iinc 6 1) (xe_goto 8)))))))))))))))))))))))))))))))
theorem bk_X11_orderPart_e_39 : ck_ fX11 none cX11_orderPart 39 [.aload 0, .iload 1, .iload 2, .iload 5] 44 = true := qck_r (nn_ _) (by decide +kernel)
theorem bs_X11_orderPart_e_39 {P : Zt → Option Zv → Prop} (K : Int → Zl → List Zv → Zt → Prop) : sx_ K P [.aload 0, .iload 1, .iload 2, .iload 5] 44 = x_aload 0 (x_iload 1 (x_iload 2 (x_iload 5 (K 44)))) := ((xe_aload 0).trans (congrArg (x_aload 0) ((xe_iload 1).trans (congrArg (x_iload 1) ((xe_iload 2).trans (congrArg (x_iload 2) ((xe_iload 5).trans (congrArg (x_iload 5) xe_nil))))))))
theorem bk_X11_orderPart_e_47 : ck_ fX11 none cX11_orderPart 47 [.aload 0, .iload 3, .iload 4] 51 = true := qck_r (nn_ _) (by decide +kernel)
theorem bs_X11_orderPart_e_47 {P : Zt → Option Zv → Prop} (K : Int → Zl → List Zv → Zt → Prop) : sx_ K P [.aload 0, .iload 3, .iload 4] 51 = x_aload 0 (x_iload 3 (x_iload 4 (K 51))) := ((xe_aload 0).trans (congrArg (x_aload 0) ((xe_iload 3).trans (congrArg (x_iload 3) ((xe_iload 4).trans (congrArg (x_iload 4) xe_nil))))))
theorem bk_X11_orderPart_e_54 : ck_ fX11 none cX11_orderPart 54 [.iload 3, .istore 6, .aload 0, .aload 0, .tableswitch 0 11 77 #[], .iload 3, .iaload, .aload 0, .tableswitch 0 11 77 #[], .iload 4, .iconst 1, .isub, .iaload] 73 = true := qck_r (nn_ _) (by decide +kernel)
theorem bs_X11_orderPart_e_54 {P : Zt → Option Zv → Prop} (K : Int → Zl → List Zv → Zt → Prop) : sx_ K P [.iload 3, .istore 6, .aload 0, .aload 0, .tableswitch 0 11 77 #[], .iload 3, .iaload, .aload 0, .tableswitch 0 11 77 #[], .iload 4, .iconst 1, .isub, .iaload] 73 = x_iload 3 (x_istore 6 (x_aload 0 (x_aload 0 (x_g1 111 277 (x_iload 3 (x_iaload (x_aload 0 (x_g1 111 277 (x_iload 4 (x_iconst 1 (x_isub (x_iaload (K 73))))))))))))) := ((xe_iload 3).trans (congrArg (x_iload 3) ((xe_istore 6).trans (congrArg (x_istore 6) ((xe_aload 0).trans (congrArg (x_aload 0) ((xe_aload 0).trans (congrArg (x_aload 0) ((xe_g1 (kk := 111) rfl tl_11_77).trans (congrArg (x_g1 111 277) ((xe_iload 3).trans (congrArg (x_iload 3) ((xe_iaload).trans (congrArg (x_iaload) ((xe_aload 0).trans (congrArg (x_aload 0) ((xe_g1 (kk := 111) rfl tl_11_77).trans (congrArg (x_g1 111 277) ((xe_iload 4).trans (congrArg (x_iload 4) ((xe_iconst 1).trans (congrArg (x_iconst 1) ((xe_isub).trans (congrArg (x_isub) ((xe_iaload).trans (congrArg (x_iaload) xe_nil))))))))))))))))))))))))))
theorem bk_X11_orderPart_e_76 : ck_ fX11 none cX11_orderPart 76 [.ifCond .ne 83, .iconst 1, .goto 84] 83 = true := qck_r (nn_ _) (by decide +kernel)
theorem bs_X11_orderPart_e_76 {P : Zt → Option Zv → Prop} (K : Int → Zl → List Zv → Zt → Prop) : sx_ K P [.ifCond .ne 83, .iconst 1, .goto 84] 83 = x_ifCond .ne 83 K (x_iconst 1 (x_goto 84 K)) := ((xe_ifCond .ne 83).trans (congrArg (x_ifCond .ne 83 K) ((xe_iconst 1).trans (congrArg (x_iconst 1) (xe_goto 84)))))
theorem bk_X11_orderPart_e_83 : ck_ fX11 none cX11_orderPart 83 [.iconst 0] 84 = true := qck_r (nn_ _) (by decide +kernel)
theorem bs_X11_orderPart_e_83 {P : Zt → Option Zv → Prop} (K : Int → Zl → List Zv → Zt → Prop) : sx_ K P [.iconst 0] 84 = x_iconst 0 (K 84) := ((xe_iconst 0).trans (congrArg (x_iconst 0) xe_nil))
theorem bk_X11_orderPart_e_0 : ck_ fX11 none cX11_orderPart 0 [.aload 0, .iconst 0, .tableswitch 1 11 85 #[], .iload 3, .istore 6] 8 = true := qck_r (nn_ _) (by decide +kernel)
theorem bs_X11_orderPart_e_0 {P : Zt → Option Zv → Prop} (K : Int → Zl → List Zv → Zt → Prop) : sx_ K P [.aload 0, .iconst 0, .tableswitch 1 11 85 #[], .iload 3, .istore 6] 8 = x_aload 0 (x_iconst 0 (x_p 111 85 0 4095 (x_iload 3 (x_istore 6 (K 8))))) := ((xe_aload 0).trans (congrArg (x_aload 0) ((xe_iconst 0).trans (congrArg (x_iconst 0) ((xe_p (kk := 111) rfl tl_11_85).trans (congrArg (x_p 111 85 0 4095) ((xe_iload 3).trans (congrArg (x_iload 3) ((xe_istore 6).trans (congrArg (x_istore 6) xe_nil))))))))))
abbrev po_X11_orderPart_e (T : Zt) (n : Int) (s : Int) (w : Int) (c d f t k : Int) : Zt → Option Zv → Prop := fun T' r => r = none ∧ fr_ [(284, []), (277, []), (286, []), (278, []), (111, [82, 83, 85, 87])] T T' ∧ (PQ_ T' n (s + (t - f)) (w + wt_ (t - f) k - 1) ∧ (∀ v, OC_ T n v → OC_ T' n v) ∧ OP_ T T' c d f t k)
set_option maxHeartbeats 4000000 in
theorem ct_X11_orderPart_e {T : Zt} {n : Int} {s : Int} {w : Int} {c d f t k : Int} (h1 : 0 ≤ c ∧ c < 4) (hml : ML_ T) (hsc : SC_ T) (hk : 0 ≤ k ∧ k ≤ 7) (htb : TB_ T 150000000) (hft : 0 ≤ f ∧ f + 2 ≤ t ∧ t ≤ n ∧ n ≤ 12 ∧ s + (t - f) ≤ n) (hpq : PQ_ T n s w) (hgb : GB_ T c d) (hcl : ∀ j, f ≤ j → j < t → T 277 0 j < T 111 0 12) (hrd : 0 ≤ T 205 0 (23 * c + 5) ∧ T 205 0 (23 * c + 5) ≤ 1) : Ct_ yX11_orderPart zX11_orderPart T [vR 111 0, vI c, vI d, vI f, vI t, vI k] (po_X11_orderPart_e T n s w c d f t k) := by
  refine ct_of pn_11 rfl rfl (Nat.le_of_ble_eq_true rfl) (fun hT hav => ?_)
  have hr_c : -2147483648 ≤ c ∧ c ≤ 2147483647 := hav (vI c) (List.mem_cons_of_mem _ List.mem_cons_self)
  have hr_d : -2147483648 ≤ d ∧ d ≤ 2147483647 := hav (vI d) (List.mem_cons_of_mem _ (List.mem_cons_of_mem _ List.mem_cons_self))
  have hr_f : -2147483648 ≤ f ∧ f ≤ 2147483647 := hav (vI f) (List.mem_cons_of_mem _ (List.mem_cons_of_mem _ (List.mem_cons_of_mem _ List.mem_cons_self)))
  have hr_t : -2147483648 ≤ t ∧ t ≤ 2147483647 := hav (vI t) (List.mem_cons_of_mem _ (List.mem_cons_of_mem _ (List.mem_cons_of_mem _ (List.mem_cons_of_mem _ List.mem_cons_self))))
  have hr_k : -2147483648 ≤ k ∧ k ≤ 2147483647 := hav (vI k) (List.mem_cons_of_mem _ (List.mem_cons_of_mem _ (List.mem_cons_of_mem _ (List.mem_cons_of_mem _ (List.mem_cons_of_mem _ List.mem_cons_self)))))
  have hz : zX11_orderPart.2.2.2.1 = some .boolean → ∀ (T' : Zt) (x : Int), po_X11_orderPart_e T n s w c d f t k T' (some (vI x)) → 0 ≤ x ∧ x ≤ 1 := fun h => by cases h
  obtain ⟨p0, w0, hp0, hpp0, hw0⟩ := hpq
  have h12 : 0 ≤ T 111 0 12 ∧ T 111 0 12 ≤ 12 := bd_f hT 111 12 tl_11_12 0
  have hr9 : ∀ j : Int, 0 ≤ j → j < 12 → 0 ≤ T 277 0 j ∧ T 277 0 j ≤ 11 := fun j a b => bd_a hT 277 (by decide +kernel : ta_ 277 = some (1, some 12, 0, 11)) 0 (by omega)
  show J_ zX11_orderPart T (po_X11_orderPart_e T n s w c d f t k) 0 0 0 [some (vR 111 0), some (vI c), some (vI d), some (vI f), some (vI t), some (vI k), none, none, none, none] [] T
  have c_84 : ∀ (g : Int) (T1 : Zt), (fr_ [(284, []), (277, []), (111, [82, 83, 85])] T T1) → ((g = 1 ∧ EQ_ T1 (T1 277 0 f) (T1 277 0 (t - 1)) 3) ∨ (g = 0 ∧ ¬ EQ_ T1 (T1 277 0 f) (T1 277 0 (t - 1)) 3)) → (SB_ T1) → (∀ v, OC_ T n v → OC_ T1 n v) → ((fun x => T1 277 0 x) = som9_ (wwR_ T c d k (bt9_ (fun x => T 277 0 x) f (t - f).toNat)) f (t - f - 1).toNat (fun x => T 277 0 x)) → (∀ x, f ≤ x → x < t → mb9_ (bt9_ (fun x => T 277 0 x) f (t - f).toNat) (T1 277 0 x)) → (WX_ T1 (wwR_ T c d k (bt9_ (fun x => T 277 0 x) f (t - f).toNat)) (bt9_ (fun x => T 277 0 x) f (t - f).toNat)) → ((g = 1 ∧ (fun x => (wwR_ T c d k (bt9_ (fun x => T 277 0 x) f (t - f).toNat)) (T1 277 0 x)) f = (fun x => (wwR_ T c d k (bt9_ (fun x => T 277 0 x) f (t - f).toNat)) (T1 277 0 x)) (t - 1)) ∨ (g = 0 ∧ (fun x => (wwR_ T c d k (bt9_ (fun x => T 277 0 x) f (t - f).toNat)) (T1 277 0 x)) f ≠ (fun x => (wwR_ T c d k (bt9_ (fun x => T 277 0 x) f (t - f).toNat)) (T1 277 0 x)) (t - 1))) → J_ zX11_orderPart T (po_X11_orderPart_e T n s w c d f t k) 0 0 84 [some (vR 111 0), some (vI c), some (vI d), some (vI f), some (vI t), some (vI k), some (vI f), none, none, none] [vI g] T1 := by
    intro g T1 hf_84 hg hsb1 oc1 k5 mm1 hwx1 hgw
    have g01 : 0 ≤ g ∧ g ≤ 1 := hg.elim (fun z => by rw [z.1]; decide) (fun z => by rw [z.1]; decide)
    replace hg := fun (_ : Unit) => hg
    replace hgw := fun (_ : Unit) => hgw
    have c_91 : ∀ (nn : Nat) (st : Int) (i : Int) (p2 : Nat) (w2 : Int) (T2 : Zt), ((t + 1 - i).toNat) ≤ nn → (fr_ [(286, []), (278, []), (111, [87])] T1 T2) → (f ≤ st ∧ st < i ∧ i ≤ t + 1 ∧ (i = t + 1 → st = t)) → (T2 111 0 87 = 3 * (p2 : Int)) → (pp_ T2 n p2 (s + (st - f)) w2) → (ST_ (EQ_ T1 (T1 277 0 f) (T1 277 0 (i - 1)) 3) f t k w st w2) → (gl9_ (fun x => (wwR_ T c d k (bt9_ (fun x => T 277 0 x) f (t - f).toNat)) (T1 277 0 x)) f t k (nx9_ (fun x => (wwR_ T c d k (bt9_ (fun x => T 277 0 x) f (t - f).toNat)) (T1 277 0 x)) (T 205 0 (23 * c + 5)) f t k) (T 205 0 (23 * c + 4)) (fun x => T 278 0 x) (pr9_ T (T 205 0 (23 * c + 4)) p0) (i - f - 1).toNat = (st, (fun x => T2 278 0 x), pr9_ T2 (T 205 0 (23 * c + 4)) p2)) → J_ zX11_orderPart T (po_X11_orderPart_e T n s w c d f t k) 0 0 91 [some (vR 111 0), some (vI c), some (vI d), some (vI f), some (vI t), some (vI k), some (vI st), some (vI g), some (vI i), none] [] T2 := by
      intro nn
      induction nn using Nat.strongRecOn with
      | _ nn ih_91 =>
        intro st i p2 w2 T2 hm_91 hf_91 i2 hp2 hpp2 hst hgl
        have i2b := fun (_ : Unit) => i2.2.2.2
        replace i2 : f ≤ st ∧ st < i ∧ i ≤ t + 1 := ⟨i2.1, i2.2.1, i2.2.2.1⟩
        replace hm_91 := fun (_ : Unit) => hm_91
        have hpn := pp_n hpp2
        have c_158 : ∀ (e : Int) (T3 : Zt), (fr_ [(278, [])] T2 T3) → (0 ≤ e ∧ e ≤ 1 ∧ i ≤ t ∧ (e = 0 → i < t)) → (e = 0 → EQ_ T1 (T1 277 0 (i - 1)) (T1 277 0 i) 3) → ((e ≠ 0 → i = t ∨ (fun x => (wwR_ T c d k (bt9_ (fun x => T 277 0 x) f (t - f).toNat)) (T1 277 0 x)) i ≠ (fun x => (wwR_ T c d k (bt9_ (fun x => T 277 0 x) f (t - f).toNat)) (T1 277 0 x)) (i - 1)) ∧ (e = 0 → ¬ (i = t ∨ (fun x => (wwR_ T c d k (bt9_ (fun x => T 277 0 x) f (t - f).toNat)) (T1 277 0 x)) i ≠ (fun x => (wwR_ T c d k (bt9_ (fun x => T 277 0 x) f (t - f).toNat)) (T1 277 0 x)) (i - 1)))) → (((e ≠ 0 ∧ i < t) → (fun x => T3 278 0 x) = ud9_ (fun x => T2 278 0 x) (i - 1) k) ∧ (¬ (e ≠ 0 ∧ i < t) → (fun x => T3 278 0 x) = (fun x => T2 278 0 x))) → J_ zX11_orderPart T (po_X11_orderPart_e T n s w c d f t k) 0 0 158 [some (vR 111 0), some (vI c), some (vI d), some (vI f), some (vI t), some (vI k), some (vI st), some (vI g), some (vI i), some (vI e)] [] T3 := by
          intro e T3 hf_158 ee1 ee2 ee3 pb3
          replace ee2 := fun (_ : Unit) => ee2
          replace ee3 := fun (_ : Unit) => ee3
          replace pb3 := fun (_ : Unit) => pb3
          have c_190 : ∀ (q : Int), (0 ≤ q ∧ q ≤ 8 ∧ e ≠ 0) → (g = 1 → q = k + 1) → (q = (nx9_ (fun x => (wwR_ T c d k (bt9_ (fun x => T 277 0 x) f (t - f).toNat)) (T1 277 0 x)) (T 205 0 (23 * c + 5)) f t k)) → J_ zX11_orderPart T (po_X11_orderPart_e T n s w c d f t k) 0 0 190 [some (vR 111 0), some (vI c), some (vI d), some (vI f), some (vI t), some (vI k), some (vI st), some (vI g), some (vI i), some (vI e)] [vI q, vI i, vI st, vR 111 0] T3 := by
            intro q hq1 hq2 hq3
            have e1 : T3 111 0 87 = T2 111 0 87 := hf_158 111 0 87 rfl
            refine j_callV (y := yX11_lay) (Yc := zX11_lay) (rest := []) [vI st, vI i, vI q] (ct_X11_lay (T := T3) (by omega) (by omega) (by omega) (by omega)) cl_X11_520 (qd_c (by decide +kernel)) (nn_ _) rfl (rf_of rfl) (Nat.le_of_ble_eq_true rfl) (Nat.le_of_ble_eq_true rfl) (Nat.le_of_ble_eq_true rfl) rfl ?_
            rintro U2 _ ⟨rfl, fU2, qU2⟩
            show J_ zX11_orderPart T (po_X11_orderPart_e T n s w c d f t k) 0 0 193 _ [] U2
            refine j_blx (F := fX11) tb_X11 (nn_ _) bk_X11_orderPart_e_193 bs_X11_orderPart_e_193 hz (fun K hK => ?_)
            refine rg_i (by omega) ?_
            refine hK 91 [some (vR 111 0), some (vI c), some (vI d), some (vI f), some (vI t), some (vI k), some (vI i), some (vI g), some (vI (i + 1)), some (vI e)] [] U2 ?_
            refine j_drop [some (vR 111 0), some (vI c), some (vI d), some (vI f), some (vI t), some (vI k), some (vI i), some (vI g), some (vI (i + 1)), none] (fun k v hk => ?_) rfl ?_
            · match k, hk with
              | 0, hk => exact hk
              | 1, hk => exact hk
              | 2, hk => exact hk
              | 3, hk => exact hk
              | 4, hk => exact hk
              | 5, hk => exact hk
              | 6, hk => exact hk
              | 7, hk => exact hk
              | 8, hk => exact hk
              | 9, hk => cases hk
              | k + 10, hk => cases hk
            refine ih_91 _ ?_ i (i + 1) (p2 + 1) (w2 + wt_ (i - st) q) U2 (Nat.le_refl _) ?_ ?_ ?_ ?_ ?_ ?_
            · have hm_91 := hm_91 (); omega
            · exact fr_t (fr_t (fr_t (fr_0 _ _) (fr_s hf_91 rfl)) (fr_s hf_158 rfl)) (fr_s fU2 rfl)
            · omega
            · omega
            · rw [show s + (i - f) = s + (st - f) + (i - st) by omega]
              exact pp_l hpp2 hp2 (fun j => hf_158 286 0 j rfl) (hf_158 111 0 87 rfl) qU2 (by omega)
            · exact st_l hst hk (by omega) (by omega) (fun a b => hq2 ((hg ()).elim (fun z => z.1) (fun z => absurd (b ▸ a) z.2)))
            · refine (gl_st (by omega) hgl ((ee3 ()).1 (by omega))).trans ?_
              rw [pr_l (T := T2) (kc := (T 205 0 (23 * c + 4))) hp2 (fun j => hf_158 286 0 j rfl) (hf_158 111 0 87 rfl) qU2, ← hq3, show (fun x => U2 278 0 x) = (fun x => T3 278 0 x) from funext (fun x => fU2 278 0 x rfl)]
              by_cases z : i < t
              · rw [if_pos z, (pb3 ()).1 ⟨by omega, z⟩]
              · rw [if_neg z, (pb3 ()).2 (fun y => z y.2)]
          refine j_blx (F := fX11) tb_X11 (nn_ _) bk_X11_orderPart_e_158 bs_X11_orderPart_e_158 hz (fun K hK => ?_)
          refine And.intro (fun c3 => ?_) (fun c3 => ?_)
          · refine hK 197 _ [] T3 ?_
            refine j_blx (F := fX11) tb_X11 (nn_ _) bk_X11_orderPart_e_197 bs_X11_orderPart_e_197 hz (fun K hK => ?_)
            refine rg_i (by omega) ?_
            refine hK 91 [some (vR 111 0), some (vI c), some (vI d), some (vI f), some (vI t), some (vI k), some (vI st), some (vI g), some (vI (i + 1)), some (vI e)] [] T3 ?_
            refine j_drop [some (vR 111 0), some (vI c), some (vI d), some (vI f), some (vI t), some (vI k), some (vI st), some (vI g), some (vI (i + 1)), none] (fun k v hk => ?_) rfl ?_
            · match k, hk with
              | 0, hk => exact hk
              | 1, hk => exact hk
              | 2, hk => exact hk
              | 3, hk => exact hk
              | 4, hk => exact hk
              | 5, hk => exact hk
              | 6, hk => exact hk
              | 7, hk => exact hk
              | 8, hk => exact hk
              | 9, hk => cases hk
              | k + 10, hk => cases hk
            have e4 : T3 111 0 87 = T2 111 0 87 := hf_158 111 0 87 rfl
            refine ih_91 _ ?_ st (i + 1) p2 w2 T3 (Nat.le_refl _) ?_ ?_ ?_ ?_ ?_ ?_
            · have hm_91 := hm_91 (); omega
            · exact fr_t (fr_t (fr_0 _ _) (fr_s hf_91 rfl)) (fr_s hf_158 rfl)
            · omega
            · omega
            · exact pp_e hpp2 (fun j _ => hf_158 286 0 j rfl)
            · exact st_a hst (fun a => by rw [show i + 1 - 1 = i by omega]; exact EQ_t a (ee2 () (by omega)))
            · refine (gl_sf (by omega) hgl ((ee3 ()).2 (by omega))).trans ?_
              rw [pr_e (T := T2) (T1 := T3) p2 (fun j _ => hf_158 286 0 j rfl), show (fun x => T3 278 0 x) = (fun x => T2 278 0 x) from (funext (fun x => rfl)).trans ((pb3 ()).2 (fun y => y.1 (by omega)))]
          · refine And.intro (fun c5 => ?_) (fun c5 => ?_)
            · refine hK 182 [some (vR 111 0), some (vI c), some (vI d), some (vI f), some (vI t), some (vI k), some (vI st), some (vI g), some (vI i), some (vI e)] [vI i, vI st, vR 111 0] T3 ?_
              refine j_blx (F := fX11) tb_X11 (nn_ _) bk_X11_orderPart_e_182 bs_X11_orderPart_e_182 hz (fun K hK => ?_)
              refine rg_i (by omega) ?_
              refine hK 190 _ [vI (k + 1), vI i, vI st, vR 111 0] T3 ?_
              refine c_190 (k + 1) ?_ ?_ ?_
              · omega
              · omega
              · first
                | (refine Eq.symm (nxm_1 ?_); exact ((hgw ()).resolve_right (fun z => absurd z.1 (by omega))).2)
                | exact Eq.symm (nx_2 (by omega))
            · refine hK 176 _ [vI 5, vI c, vR 111 0, vI i, vI st, vR 111 0] T3 ?_
              refine j_callV (y := yX11_rule0) (Yc := zX11_rule0) (rest := [vI i, vI st, vR 111 0]) [vI c, vI 5] (ct_X11_rule0 (T := T3) (by omega) (by omega)) cl_X11_321 (qd_c (by decide +kernel)) (nn_ _) rfl (rf_of rfl) (Nat.le_of_ble_eq_true rfl) (Nat.le_of_ble_eq_true rfl) (Nat.le_of_ble_eq_true rfl) rfl ?_
              rintro _ _ ⟨rfl, rfl⟩
              have e6 : T3 205 0 (23 * c + 5) = T 205 0 (23 * c + 5) := (hf_158 205 0 (23 * c + 5) rfl).trans ((hf_91 205 0 (23 * c + 5) rfl).trans (hf_84 205 0 (23 * c + 5) rfl))
              show J_ zX11_orderPart T (po_X11_orderPart_e T n s w c d f t k) 0 0 179 _ [vI (T3 205 0 (23 * c + 5)), vI i, vI st, vR 111 0] T3
              refine j_blx (F := fX11) tb_X11 (nn_ _) bk_X11_orderPart_e_179 bs_X11_orderPart_e_179 hz (fun K hK => ?_)
              refine And.intro (fun c7 => ?_) (fun c7 => ?_)
              · refine hK 189 _ [vI i, vI st, vR 111 0] T3 ?_
                refine j_blx (F := fX11) tb_X11 (nn_ _) bk_X11_orderPart_e_189 bs_X11_orderPart_e_189 hz (fun K hK => ?_)
                refine hK 190 _ [vI 0, vI i, vI st, vR 111 0] T3 ?_
                refine c_190 0 ?_ ?_ ?_
                · omega
                · omega
                · (refine Eq.symm (nx_t ?_ (by omega)); exact ((hgw ()).resolve_left (fun z => absurd z.1 (by omega))).2)
              · refine rg_i (by omega) ?_
                refine hK 190 _ [vI (k + 1), vI i, vI st, vR 111 0] T3 ?_
                refine c_190 (k + 1) ?_ ?_ ?_
                · omega
                · omega
                · first
                  | (refine Eq.symm (nxm_1 ?_); exact ((hgw ()).resolve_right (fun z => absurd z.1 (by omega))).2)
                  | exact Eq.symm (nx_2 (by omega))
        refine j_blx (F := fX11) tb_X11 (nn_ _) bk_X11_orderPart_e_91 bs_X11_orderPart_e_91 hz (fun K hK => ?_)
        refine And.intro (fun c8 => ?_) (fun c8 => ?_)
        · refine hK 203 _ [] T2 ?_
          refine j_blx (F := fX11) tb_X11 (nn_ _) bk_X11_orderPart_e_203 bs_X11_orderPart_e_203 hz (fun K hK => ?_)
          refine (show po_X11_orderPart_e T n s w c d f t k T2 (none) from ?_)
          have ht : i = t + 1 := by omega
          have ht2 : st = t := i2b () ht
          have hgl9 : gl9_ (fun x => (wwR_ T c d k (bt9_ (fun x => T 277 0 x) f (t - f).toNat)) (T1 277 0 x)) f t k (nx9_ (fun x => (wwR_ T c d k (bt9_ (fun x => T 277 0 x) f (t - f).toNat)) (T1 277 0 x)) (T 205 0 (23 * c + 5)) f t k) (T 205 0 (23 * c + 4)) (fun x => T 278 0 x) (pr9_ T (T 205 0 (23 * c + 4)) p0) (t - f).toNat = (st, (fun x => T2 278 0 x), pr9_ T2 (T 205 0 (23 * c + 4)) p2) := by
            have hg8 := hgl
            rw [show i - f - 1 = t - f by omega] at hg8
            exact hg8
          refine ⟨rfl, fr_t (fr_t (fr_0 _ _) (fr_s hf_84 rfl)) (fr_s hf_91 rfl), ⟨p2, w2, hp2, by rw [show s + (t - f) = s + (st - f) by omega]; exact hpp2, st_z (by rw [show t = st by omega] at hst ⊢; exact hst) (by omega)⟩, fun v h => oc_f (oc1 v h) (fun j => hf_91 277 0 j rfl), fun p9 h9 => ?_⟩
          have e9 : p9 = p0 := by omega
          rw [e9]
          refine ⟨p2, hp2, ?_⟩
          unfold sg9_
          rw [show (fun x => T2 277 0 x) = (fun x => T1 277 0 x) from funext (fun x => hf_91 277 0 x rfl), ← k5]
          exact congrArg (fun y : Int × (Int → Int) × Pl_ => ((fun x => T1 277 0 x), y.2)) hgl9
        · refine And.intro (fun c9 => ?_) (fun c9 => ?_)
          · refine hK 128 _ [] T2 ?_
            refine j_blx (F := fX11) tb_X11 (nn_ _) bk_X11_orderPart_e_128 bs_X11_orderPart_e_128 hz (fun K hK => ?_)
            refine hK 133 _ [vI 1] T2 ?_
            refine j_blx (F := fX11) tb_X11 (nn_ _) bk_X11_orderPart_e_133 bs_X11_orderPart_e_133 hz (fun K hK => ?_)
            refine And.intro (fun c10 => ?_) (fun c10 => ?_)
            · refine hK 158 [some (vR 111 0), some (vI c), some (vI d), some (vI f), some (vI t), some (vI k), some (vI st), some (vI g), some (vI i), some (vI 1)] [] T2 ?_
              refine c_158 1 T2 ?_ ?_ ?_ ?_ ?_
              · exact fr_0 _ _
              · omega
              · intro h9; exact absurd h9 (by decide)
              · exact ⟨fun _ => Or.inl (by omega), fun z => absurd z (by decide)⟩
              · exact ⟨fun z => absurd z (by omega), fun _ => funext (fun x => rfl)⟩
            · refine And.intro (fun c11 => ?_) (fun c11 => ?_)
              · refine hK 158 _ [] T2 ?_
                refine c_158 1 T2 ?_ ?_ ?_ ?_ ?_
                · exact fr_0 _ _
                · omega
                · intro h9; exact absurd h9 (by decide)
                · exact ⟨fun _ => Or.inl (by omega), fun z => absurd z (by decide)⟩
                · exact ⟨fun z => absurd z (by omega), fun _ => funext (fun x => rfl)⟩
              · refine rg_i (by omega) ?_
                refine iy_i (by omega) (by omega) ?_
                refine x_nm (fun U12 hU12 => ?_)
                have e13 := up_f hU12
                refine hK 158 _ [] U12 ?_
                refine c_158 1 U12 ?_ ?_ ?_ ?_ ?_
                · exact fr_u (fr_0 _ _) hU12 rfl
                · omega
                · intro h9; exact absurd h9 (by decide)
                · exact ⟨fun _ => Or.inl (by omega), fun z => absurd z (by decide)⟩
                · exact ⟨fun _ => ud_r hU12, fun z => absurd ⟨by omega, by omega⟩ z⟩
          · refine rg_i (by omega) ?_
            refine ix_i (by omega) ?_
            intro b14 b14b
            have e15 : T2 277 0 (i - 1) = T1 277 0 (i - 1) := hf_91 277 0 (i - 1) rfl
            rw [e15] at b14 b14b ⊢
            refine ix_i (by omega) ?_
            intro b16 b16b
            have e17 : T2 277 0 i = T1 277 0 i := hf_91 277 0 i rfl
            rw [e17] at b16 b16b ⊢
            refine hK 122 _ [vI (T1 277 0 i), vI (T1 277 0 (i - 1)), vR 111 0] T2 ?_
            refine j_callV (y := yX11_compareClubs) (Yc := zX11_compareClubs) (rest := []) [vI (T1 277 0 (i - 1)), vI (T1 277 0 i)] (ct_X11_compareClubs_e (T := T2) (by omega) (by omega) (by exact SB__f (ws := [(286, []), (278, []), (111, [87])]) hsb1 (fr_t (fr_0 _ _) (fr_s hf_91 rfl)) ⟨fun _ => rfl, trivial⟩)) cl_X11_511 (qd_c (by decide +kernel)) (nn_ _) rfl (rf_of rfl) (Nat.le_of_ble_eq_true rfl) (Nat.le_of_ble_eq_true rfl) (Nat.le_of_ble_eq_true rfl) rfl ?_
            rintro _ _ ⟨rfl, x18, rfl, hx18⟩
            have hx18b := hx18.1
            replace hx18 := fun (_ : Unit) => hx18
            show J_ zX11_orderPart T (po_X11_orderPart_e T n s w c d f t k) 0 0 125 _ [vI x18] T2
            refine j_blx (F := fX11) tb_X11 (nn_ _) bk_X11_orderPart_e_125 bs_X11_orderPart_e_125 hz (fun K hK => ?_)
            refine And.intro (fun c19 => ?_) (fun c19 => ?_)
            · refine hK 132 _ [] T2 ?_
              refine j_blx (F := fX11) tb_X11 (nn_ _) bk_X11_orderPart_e_132 bs_X11_orderPart_e_132 hz (fun K hK => ?_)
              refine And.intro (fun c20 => ?_) (fun c20 => ?_)
              · refine hK 158 [some (vR 111 0), some (vI c), some (vI d), some (vI f), some (vI t), some (vI k), some (vI st), some (vI g), some (vI i), some (vI 0)] [] T2 ?_
                refine c_158 0 T2 ?_ ?_ ?_ ?_ ?_
                · exact fr_0 _ _
                · omega
                · intro _; exact EQ_e (fun j => hf_91 284 0 j rfl) ((hx18 ()).2.1.resolve_right (fun z => z.1 (by omega))).2
                · have wa := fun (_ : Unit) => hwx1 (T1 277 0 (i - 1)) (T1 277 0 i) (by omega) (by omega) (by omega) (by omega) (mm1 (i - 1) (by omega) (by omega)) (mm1 i (by omega) (by omega))
                  have wb := fun (_ : Unit) => hwx1 (T1 277 0 i) (T1 277 0 (i - 1)) (by omega) (by omega) (by omega) (by omega) (mm1 i (by omega) (by omega)) (mm1 (i - 1) (by omega) (by omega))
                  refine ⟨fun z => absurd rfl z, fun _ => ?_⟩
                  have y := (wa ()).2 (eq_k (fun j => hf_91 284 0 j rfl) ((hx18 ()).2.1.resolve_right (fun z => z.1 (by omega))).2)
                  rintro (z | z)
                  · omega
                  · exact z y.symm
                · exact ⟨fun z => absurd z (by omega), fun _ => funext (fun x => rfl)⟩
              · refine And.intro (fun c21 => ?_) (fun c21 => ?_)
                · refine hK 158 _ [] T2 ?_
                  refine c_158 0 T2 ?_ ?_ ?_ ?_ ?_
                  · exact fr_0 _ _
                  · omega
                  · intro _; exact EQ_e (fun j => hf_91 284 0 j rfl) ((hx18 ()).2.1.resolve_right (fun z => z.1 (by omega))).2
                  · have wa := fun (_ : Unit) => hwx1 (T1 277 0 (i - 1)) (T1 277 0 i) (by omega) (by omega) (by omega) (by omega) (mm1 (i - 1) (by omega) (by omega)) (mm1 i (by omega) (by omega))
                    have wb := fun (_ : Unit) => hwx1 (T1 277 0 i) (T1 277 0 (i - 1)) (by omega) (by omega) (by omega) (by omega) (mm1 i (by omega) (by omega)) (mm1 (i - 1) (by omega) (by omega))
                    refine ⟨fun z => absurd rfl z, fun _ => ?_⟩
                    have y := (wa ()).2 (eq_k (fun j => hf_91 284 0 j rfl) ((hx18 ()).2.1.resolve_right (fun z => z.1 (by omega))).2)
                    rintro (z | z)
                    · omega
                    · exact z y.symm
                  · exact ⟨fun z => absurd z (by omega), fun _ => funext (fun x => rfl)⟩
                · refine rg_i (by omega) ?_
                  refine iy_i (by omega) (by omega) ?_
                  refine x_nm (fun U22 hU22 => ?_)
                  have e23 := up_f hU22
                  refine hK 158 _ [] U22 ?_
                  refine c_158 0 U22 ?_ ?_ ?_ ?_ ?_
                  · exact fr_u (fr_0 _ _) hU22 rfl
                  · omega
                  · intro _; exact EQ_e (fun j => hf_91 284 0 j rfl) ((hx18 ()).2.1.resolve_right (fun z => z.1 (by omega))).2
                  · have wa := fun (_ : Unit) => hwx1 (T1 277 0 (i - 1)) (T1 277 0 i) (by omega) (by omega) (by omega) (by omega) (mm1 (i - 1) (by omega) (by omega)) (mm1 i (by omega) (by omega))
                    have wb := fun (_ : Unit) => hwx1 (T1 277 0 i) (T1 277 0 (i - 1)) (by omega) (by omega) (by omega) (by omega) (mm1 i (by omega) (by omega)) (mm1 (i - 1) (by omega) (by omega))
                    refine ⟨fun z => absurd rfl z, fun _ => ?_⟩
                    have y := (wa ()).2 (eq_k (fun j => hf_91 284 0 j rfl) ((hx18 ()).2.1.resolve_right (fun z => z.1 (by omega))).2)
                    rintro (z | z)
                    · omega
                    · exact z y.symm
                  · exact ⟨fun _ => ud_r hU22, fun z => absurd ⟨by omega, by omega⟩ z⟩
            · refine hK 133 _ [vI 1] T2 ?_
              refine j_blx (F := fX11) tb_X11 (nn_ _) bk_X11_orderPart_e_133 bs_X11_orderPart_e_133 hz (fun K hK => ?_)
              refine And.intro (fun c24 => ?_) (fun c24 => ?_)
              · refine hK 158 [some (vR 111 0), some (vI c), some (vI d), some (vI f), some (vI t), some (vI k), some (vI st), some (vI g), some (vI i), some (vI 1)] [] T2 ?_
                refine c_158 1 T2 ?_ ?_ ?_ ?_ ?_
                · exact fr_0 _ _
                · omega
                · intro h9; exact absurd h9 (by decide)
                · first
                  | exact ⟨fun _ => Or.inl (by omega), fun z => absurd z (by decide)⟩
                  | (refine ⟨fun _ => Or.inr ?_, fun z => absurd z (by decide)⟩
                     have wa := fun (_ : Unit) => hwx1 (T1 277 0 (i - 1)) (T1 277 0 i) (by omega) (by omega) (by omega) (by omega) (mm1 (i - 1) (by omega) (by omega)) (mm1 i (by omega) (by omega))
                     have wb := fun (_ : Unit) => hwx1 (T1 277 0 i) (T1 277 0 (i - 1)) (by omega) (by omega) (by omega) (by omega) (mm1 i (by omega) (by omega)) (mm1 (i - 1) (by omega) (by omega))
                     show ¬ (wwR_ T c d k (bt9_ (fun x => T 277 0 x) f (t - f).toNat)) (T1 277 0 i) = (wwR_ T c d k (bt9_ (fun x => T 277 0 x) f (t - f).toNat)) (T1 277 0 (i - 1))
                     by_cases z : x18 = 1
                     · have := (wb ()).1 (li_k (fun j => hf_91 284 0 j rfl) ((hx18 ()).2.2.1 z))
                       omega
                     · have := (wa ()).1 (li_k (fun j => hf_91 284 0 j rfl) ((hx18 ()).2.2.2 (by omega)))
                       omega)
                · exact ⟨fun z => absurd z (by omega), fun _ => funext (fun x => rfl)⟩
              · refine And.intro (fun c25 => ?_) (fun c25 => ?_)
                · refine hK 158 _ [] T2 ?_
                  refine c_158 1 T2 ?_ ?_ ?_ ?_ ?_
                  · exact fr_0 _ _
                  · omega
                  · intro h9; exact absurd h9 (by decide)
                  · first
                    | exact ⟨fun _ => Or.inl (by omega), fun z => absurd z (by decide)⟩
                    | (refine ⟨fun _ => Or.inr ?_, fun z => absurd z (by decide)⟩
                       have wa := fun (_ : Unit) => hwx1 (T1 277 0 (i - 1)) (T1 277 0 i) (by omega) (by omega) (by omega) (by omega) (mm1 (i - 1) (by omega) (by omega)) (mm1 i (by omega) (by omega))
                       have wb := fun (_ : Unit) => hwx1 (T1 277 0 i) (T1 277 0 (i - 1)) (by omega) (by omega) (by omega) (by omega) (mm1 i (by omega) (by omega)) (mm1 (i - 1) (by omega) (by omega))
                       show ¬ (wwR_ T c d k (bt9_ (fun x => T 277 0 x) f (t - f).toNat)) (T1 277 0 i) = (wwR_ T c d k (bt9_ (fun x => T 277 0 x) f (t - f).toNat)) (T1 277 0 (i - 1))
                       by_cases z : x18 = 1
                       · have := (wb ()).1 (li_k (fun j => hf_91 284 0 j rfl) ((hx18 ()).2.2.1 z))
                         omega
                       · have := (wa ()).1 (li_k (fun j => hf_91 284 0 j rfl) ((hx18 ()).2.2.2 (by omega)))
                         omega)
                  · exact ⟨fun z => absurd z (by omega), fun _ => funext (fun x => rfl)⟩
                · refine rg_i (by omega) ?_
                  refine iy_i (by omega) (by omega) ?_
                  refine x_nm (fun U26 hU26 => ?_)
                  have e27 := up_f hU26
                  refine hK 158 _ [] U26 ?_
                  refine c_158 1 U26 ?_ ?_ ?_ ?_ ?_
                  · exact fr_u (fr_0 _ _) hU26 rfl
                  · omega
                  · intro h9; exact absurd h9 (by decide)
                  · first
                    | exact ⟨fun _ => Or.inl (by omega), fun z => absurd z (by decide)⟩
                    | (refine ⟨fun _ => Or.inr ?_, fun z => absurd z (by decide)⟩
                       have wa := fun (_ : Unit) => hwx1 (T1 277 0 (i - 1)) (T1 277 0 i) (by omega) (by omega) (by omega) (by omega) (mm1 (i - 1) (by omega) (by omega)) (mm1 i (by omega) (by omega))
                       have wb := fun (_ : Unit) => hwx1 (T1 277 0 i) (T1 277 0 (i - 1)) (by omega) (by omega) (by omega) (by omega) (mm1 i (by omega) (by omega)) (mm1 (i - 1) (by omega) (by omega))
                       show ¬ (wwR_ T c d k (bt9_ (fun x => T 277 0 x) f (t - f).toNat)) (T1 277 0 i) = (wwR_ T c d k (bt9_ (fun x => T 277 0 x) f (t - f).toNat)) (T1 277 0 (i - 1))
                       by_cases z : x18 = 1
                       · have := (wb ()).1 (li_k (fun j => hf_91 284 0 j rfl) ((hx18 ()).2.2.1 z))
                         omega
                       · have := (wa ()).1 (li_k (fun j => hf_91 284 0 j rfl) ((hx18 ()).2.2.2 (by omega)))
                         omega)
                  · exact ⟨fun _ => ud_r hU26, fun z => absurd ⟨by omega, by omega⟩ z⟩
    refine j_blx (F := fX11) tb_X11 (nn_ _) bk_X11_orderPart_e_84 bs_X11_orderPart_e_84 hz (fun K hK => ?_)
    refine rg_i (by omega) ?_
    refine hK 91 [some (vR 111 0), some (vI c), some (vI d), some (vI f), some (vI t), some (vI k), some (vI f), some (vI g), some (vI (f + 1)), none] [] T1 ?_
    have e28 : T1 111 0 87 = T 111 0 87 := hf_84 111 0 87 rfl
    refine c_91 _ f (f + 1) p0 w0 T1 (Nat.le_refl _) ?_ ?_ ?_ ?_ ?_ ?_
    · exact fr_0 _ _
    · omega
    · omega
    · rw [show s + (f - f) = s by omega]
      exact pp_e hpp0 (fun j _ => hf_84 286 0 j rfl)
    · exact Or.inl ⟨rfl, hw0, by rw [show f + 1 - 1 = f by omega]; exact fun _ _ _ => rfl⟩
    · rw [show (f + 1 - f - 1).toNat = 0 by omega, pr_e (T := T) (T1 := T1) p0 (fun j _ => hf_84 286 0 j rfl), show (fun x => T1 278 0 x) = (fun x => T 278 0 x) from funext (fun x => hf_84 278 0 x rfl)]
      rfl
  have c_8 : ∀ (nn : Nat) (i : Int) (T0 : Zt), ((12 - i).toNat) ≤ nn → (fr_ [(111, [85])] T T0) → (f ≤ i ∧ i ≤ t) → (T0 111 0 85 = bt9_ (fun x => T 277 0 x) f (i - f).toNat) → J_ zX11_orderPart T (po_X11_orderPart_e T n s w c d f t k) 0 0 8 [some (vR 111 0), some (vI c), some (vI d), some (vI f), some (vI t), some (vI k), some (vI i), none, none, none] [] T0 := by
    intro nn
    induction nn using Nat.strongRecOn with
    | _ nn ih_8 =>
      intro i T0 hm_8 hf_8 i0 hb0
      replace hm_8 := fun (_ : Unit) => hm_8
      refine j_blx (F := fX11) tb_X11 (nn_ _) bk_X11_orderPart_e_8 bs_X11_orderPart_e_8 hz (fun K hK => ?_)
      refine And.intro (fun c29 => ?_) (fun c29 => ?_)
      · refine hK 39 _ [] T0 ?_
        refine j_blx (F := fX11) tb_X11 (nn_ _) bk_X11_orderPart_e_39 bs_X11_orderPart_e_39 hz (fun K hK => ?_)
        refine hK 44 _ [vI k, vI d, vI c, vR 111 0] T0 ?_
        refine j_callV (y := yX11_say) (Yc := zX11_say) (rest := []) [vI c, vI d, vI k] (ct_X11_say_e (T := T0) (by omega) (by exact ML__f (ws := [(111, [85])]) hml (fr_t (fr_0 _ _) (fr_s hf_8 rfl)) ⟨fun _ => rfl, fun _ => rfl, rfl, trivial⟩) (by exact SC__f (ws := [(111, [85])]) hsc (fr_t (fr_0 _ _) (fr_s hf_8 rfl)) ⟨fun _ => rfl, fun _ => rfl, trivial⟩) (by omega) (by exact tb_f htb (fun j => hf_8 276 0 j rfl))) cl_X11_526 (qd_c (by decide +kernel)) (nn_ _) rfl (rf_of rfl) (Nat.le_of_ble_eq_true rfl) (Nat.le_of_ble_eq_true rfl) (Nat.le_of_ble_eq_true rfl) rfl ?_
        rintro U30 _ ⟨rfl, fU30, ⟨qU30, qU30d⟩⟩
        show J_ zX11_orderPart T (po_X11_orderPart_e T n s w c d f t k) 0 0 47 _ [] U30
        have hbits : T0 111 0 85 = (bt9_ (fun x => T 277 0 x) f (t - f).toNat) := hb0.trans (by rw [show i = t by omega])
        have hwx : WX_ U30 (wwR_ T c d k (bt9_ (fun x => T 277 0 x) f (t - f).toNat)) (bt9_ (fun x => T 277 0 x) f (t - f).toNat) := by
          have y := sd_w qU30d (by rw [hf_8 111 0 12 rfl]; exact h12.2) (gb_f (ws := [(111, [85])]) hgb (fr_t (fr_0 _ _) (fr_s hf_8 rfl)) (fun _ => rfl) (fun _ => rfl) (fun _ => rfl) (fun k j q9 => by rcases q9 with rfl | rfl | rfl | rfl | rfl | rfl | rfl | rfl | rfl | rfl <;> rfl) rfl) (fun x a b h9 => by
            rw [hbits] at h9
            obtain ⟨j, j0, j1, j2⟩ := bt_i (o := (fun x => T 277 0 x)) (f := f) (x := x) ⟨a, by omega⟩ (t - f).toNat (fun k9 a9 b9 => hr9 k9 (by omega) (by omega)) h9
            have y9 := hcl j j0 (by omega)
            have j3 : T 277 0 j = x := j2
            rw [hf_8 111 0 12 rfl]
            omega)
          rw [hbits, ww_f (ws := [(111, [85])]) (fr_t (fr_0 _ _) (fr_s hf_8 rfl)) (fun _ => rfl) (fun _ => rfl) (fun _ => rfl) (fun _ => rfl) (fun k j q9 => by rcases q9 with rfl | rfl | rfl | rfl | rfl | rfl | rfl | rfl | rfl | rfl <;> rfl) rfl] at y
          exact y
        refine j_blx (F := fX11) tb_X11 (nn_ _) bk_X11_orderPart_e_47 bs_X11_orderPart_e_47 hz (fun K hK => ?_)
        refine hK 51 _ [vI t, vI f, vR 111 0] U30 ?_
        refine j_callV (y := yX11_sortPart) (Yc := zX11_sortPart) (rest := []) [vI f, vI t] (ct_X11_sortPart_e (T := U30) (n := n) (W := (wwR_ T c d k (bt9_ (fun x => T 277 0 x) f (t - f).toNat))) (g := (bt9_ (fun x => T 277 0 x) f (t - f).toNat)) (by omega) qU30 (fun x a b => by rw [(fU30 277 0 x rfl).trans (hf_8 277 0 x rfl)]; exact bt_m (o := (fun x => T 277 0 x)) (f := f) (t - f).toNat (fun k9 a9 b9 => hr9 k9 (by omega) (by omega)) x a (by omega)) hwx) cl_X11_529 (qd_c (by decide +kernel)) (nn_ _) rfl (rf_of rfl) (Nat.le_of_ble_eq_true rfl) (Nat.le_of_ble_eq_true rfl) (Nat.le_of_ble_eq_true rfl) rfl ?_
        rintro U31 _ ⟨rfl, fU31, qU31, qU31r⟩
        have k5s : (fun x => U31 277 0 x) = som9_ (wwR_ T c d k (bt9_ (fun x => T 277 0 x) f (t - f).toNat)) f (t - f - 1).toNat (fun x => T 277 0 x) := qU31r.trans (congrArg (som9_ (wwR_ T c d k (bt9_ (fun x => T 277 0 x) f (t - f).toNat)) f (t - f - 1).toNat) (funext (fun x => (fU30 277 0 x rfl).trans (hf_8 277 0 x rfl))))
        have mms : ∀ x, f ≤ x → x < t → mb9_ (bt9_ (fun x => T 277 0 x) f (t - f).toNat) (U31 277 0 x) := fun x a b => by
          have y := (so_q (W := (wwR_ T c d k (bt9_ (fun x => T 277 0 x) f (t - f).toNat))) (f := f) (Q := fun v => mb9_ (bt9_ (fun x => T 277 0 x) f (t - f).toNat) v) (t - f - 1).toNat (fun x => T 277 0 x) (fun k9 a9 b9 => bt_m (o := (fun x => T 277 0 x)) (f := f) (t - f).toNat (fun k9 a9 b9 => hr9 k9 (by omega) (by omega)) k9 a9 (by omega))).1 x a (by omega)
          rw [show U31 277 0 x = som9_ (wwR_ T c d k (bt9_ (fun x => T 277 0 x) f (t - f).toNat)) f (t - f - 1).toNat (fun x => T 277 0 x) x from congrFun k5s x]
          exact y
        have wxs : WX_ U31 (wwR_ T c d k (bt9_ (fun x => T 277 0 x) f (t - f).toNat)) (bt9_ (fun x => T 277 0 x) f (t - f).toNat) := wx_k hwx (fun j => fU31 284 0 j rfl)
        show J_ zX11_orderPart T (po_X11_orderPart_e T n s w c d f t k) 0 0 54 _ [] U31
        refine j_blx (F := fX11) tb_X11 (nn_ _) bk_X11_orderPart_e_54 bs_X11_orderPart_e_54 hz (fun K hK => ?_)
        refine ix_i (by omega) ?_
        intro b32 b32b
        refine rg_i (by omega) ?_
        refine ix_i (by omega) ?_
        intro b33 b33b
        refine hK 73 [some (vR 111 0), some (vI c), some (vI d), some (vI f), some (vI t), some (vI k), some (vI f), none, none, none] [vI (U31 277 0 (t - 1)), vI (U31 277 0 f), vR 111 0] U31 ?_
        refine j_callV (y := yX11_compareClubs) (Yc := zX11_compareClubs) (rest := []) [vI (U31 277 0 f), vI (U31 277 0 (t - 1))] (ct_X11_compareClubs_e (T := U31) (by omega) (by omega) (by exact SB__f (ws := [(277, [])]) qU30 fU31 ⟨fun _ => rfl, trivial⟩)) cl_X11_511 (qd_c (by decide +kernel)) (nn_ _) rfl (rf_of rfl) (Nat.le_of_ble_eq_true rfl) (Nat.le_of_ble_eq_true rfl) (Nat.le_of_ble_eq_true rfl) rfl ?_
        rintro _ _ ⟨rfl, x34, rfl, hx34⟩
        have hx34b := hx34.1
        replace hx34 := fun (_ : Unit) => hx34
        show J_ zX11_orderPart T (po_X11_orderPart_e T n s w c d f t k) 0 0 76 _ [vI x34] U31
        refine j_blx (F := fX11) tb_X11 (nn_ _) bk_X11_orderPart_e_76 bs_X11_orderPart_e_76 hz (fun K hK => ?_)
        refine And.intro (fun c35 => ?_) (fun c35 => ?_)
        · refine hK 83 _ [] U31 ?_
          refine j_blx (F := fX11) tb_X11 (nn_ _) bk_X11_orderPart_e_83 bs_X11_orderPart_e_83 hz (fun K hK => ?_)
          refine hK 84 _ [vI 0] U31 ?_
          refine c_84 0 U31 ?_ ?_ ?_ ?_ ?_ ?_ ?_ ?_
          · exact fr_t (fr_t (fr_t (fr_0 _ _) (fr_s hf_8 rfl)) (fr_s fU30 rfl)) (fr_s fU31 rfl)
          · exact Or.inr ⟨rfl, ((hx34 ()).2.1.resolve_left (fun z => absurd z.1 (by omega))).2⟩
          · exact SB__f (ws := [(277, [])]) qU30 fU31 ⟨fun _ => rfl, trivial⟩
          · exact fun v h => qU31 v (oc_f h (fun j => (fU30 277 0 j rfl).trans (hf_8 277 0 j rfl)))
          · exact k5s
          · exact mms
          · exact wxs
          · have wa := fun (_ : Unit) => wxs (U31 277 0 f) (U31 277 0 (t - 1)) (by omega) (by omega) (by omega) (by omega) (mms f (by omega) (by omega)) (mms (t - 1) (by omega) (by omega))
            have wb := fun (_ : Unit) => wxs (U31 277 0 (t - 1)) (U31 277 0 f) (by omega) (by omega) (by omega) (by omega) (mms (t - 1) (by omega) (by omega)) (mms f (by omega) (by omega))
            refine Or.inr ⟨rfl, ?_⟩
            show ¬ (wwR_ T c d k (bt9_ (fun x => T 277 0 x) f (t - f).toNat)) (U31 277 0 f) = (wwR_ T c d k (bt9_ (fun x => T 277 0 x) f (t - f).toNat)) (U31 277 0 (t - 1))
            by_cases z : x34 = 1
            · have := (wb ()).1 ((hx34 ()).2.2.1 z)
              omega
            · have := (wa ()).1 ((hx34 ()).2.2.2 (by omega))
              omega
        · refine hK 84 _ [vI 1] U31 ?_
          refine c_84 1 U31 ?_ ?_ ?_ ?_ ?_ ?_ ?_ ?_
          · exact fr_t (fr_t (fr_t (fr_0 _ _) (fr_s hf_8 rfl)) (fr_s fU30 rfl)) (fr_s fU31 rfl)
          · exact Or.inl ⟨rfl, ((hx34 ()).2.1.resolve_right (fun z => z.1 (by omega))).2⟩
          · exact SB__f (ws := [(277, [])]) qU30 fU31 ⟨fun _ => rfl, trivial⟩
          · exact fun v h => qU31 v (oc_f h (fun j => (fU30 277 0 j rfl).trans (hf_8 277 0 j rfl)))
          · exact k5s
          · exact mms
          · exact wxs
          · have wa := fun (_ : Unit) => wxs (U31 277 0 f) (U31 277 0 (t - 1)) (by omega) (by omega) (by omega) (by omega) (mms f (by omega) (by omega)) (mms (t - 1) (by omega) (by omega))
            have wb := fun (_ : Unit) => wxs (U31 277 0 (t - 1)) (U31 277 0 f) (by omega) (by omega) (by omega) (by omega) (mms (t - 1) (by omega) (by omega)) (mms f (by omega) (by omega))
            exact Or.inl ⟨rfl, (wa ()).2 ((hx34 ()).2.1.resolve_right (fun z => z.1 (by omega))).2⟩
      · intro b36 b36b
        refine ix_i (by omega) ?_
        intro b37 b37b
        have e38 : T0 277 0 i = T 277 0 i := hf_8 277 0 i rfl
        rw [e38] at b37 b37b ⊢
        intro w39 w39b
        intro w40 w40b
        have ob : 0 ≤ or_ (T0 111 0 85) (sl_ 1 (T 277 0 i)) ∧ or_ (T0 111 0 85) (sl_ 1 (T 277 0 i)) ≤ 4095 := or_b (by omega) (sl_b (by omega))
        refine bd_i (by omega) ?_
        refine x_nm (fun U41 hU41 => ?_)
        have e42 := up_f hU41
        refine rg_i (by omega) ?_
        refine hK 8 [some (vR 111 0), some (vI c), some (vI d), some (vI f), some (vI t), some (vI k), some (vI (i + 1)), none, none, none] [] U41 ?_
        have e43 : U41 111 0 85 = or_ (T0 111 0 85) (sl_ 1 (T 277 0 i)) := up_f hU41
        refine ih_8 _ ?_ (i + 1) U41 (Nat.le_refl _) ?_ ?_ ?_
        · have hm_8 := hm_8 (); omega
        · exact fr_u (fr_t (fr_0 _ _) (fr_s hf_8 rfl)) hU41 rfl
        · omega
        · exact bt_s (by omega) hb0 (up_f hU41)
  refine j_blx (F := fX11) tb_X11 (nn_ _) bk_X11_orderPart_e_0 bs_X11_orderPart_e_0 hz (fun K hK => ?_)
  refine bd_i (by omega) ?_
  refine x_nm (fun U44 hU44 => ?_)
  have e45 := up_f hU44
  refine hK 8 [some (vR 111 0), some (vI c), some (vI d), some (vI f), some (vI t), some (vI k), some (vI f), none, none, none] [] U44 ?_
  have e46 : U44 111 0 85 = 0 := up_f hU44
  refine c_8 _ f U44 (Nat.le_refl _) ?_ ?_ ?_
  · exact fr_u (fr_0 _ _) hU44 rfl
  · omega
  · rw [show (f - f).toNat = 0 by omega]
    exact up_f hU44
theorem bk_X11_orderAll_e_71 : ck_ fX11 none cX11_orderAll 71 [.aload 0, .tableswitch 0 11 87 #[], .ifCond .le 157, .aload 0, .dup, .tableswitch 0 11 87 #[], .iconst 3, .isub, .tableswitch 1 11 87 #[], .aload 0, .tableswitch 0 11 86 #[], .aload 0, .tableswitch 0 11 87 #[], .iaload, .istore 3, .aload 0, .tableswitch 0 11 86 #[], .aload 0, .tableswitch 0 11 87 #[], .iconst 1, .iadd, .iaload, .istore 4, .aload 0, .tableswitch 0 11 86 #[], .aload 0, .tableswitch 0 11 87 #[], .iconst 2, .iadd, .iaload, .istore 5, .iload 4, .iload 3, .isub, .iconst 1, .if_icmp .le 154, .iload 5, .aload 0, .iload 1, .iconst 4] 137 = true := qck_r (nn_ _) (by decide +kernel)
theorem bs_X11_orderAll_e_71 {P : Zt → Option Zv → Prop} (K : Int → Zl → List Zv → Zt → Prop) : sx_ K P [.aload 0, .tableswitch 0 11 87 #[], .ifCond .le 157, .aload 0, .dup, .tableswitch 0 11 87 #[], .iconst 3, .isub, .tableswitch 1 11 87 #[], .aload 0, .tableswitch 0 11 86 #[], .aload 0, .tableswitch 0 11 87 #[], .iaload, .istore 3, .aload 0, .tableswitch 0 11 86 #[], .aload 0, .tableswitch 0 11 87 #[], .iconst 1, .iadd, .iaload, .istore 4, .aload 0, .tableswitch 0 11 86 #[], .aload 0, .tableswitch 0 11 87 #[], .iconst 2, .iadd, .iaload, .istore 5, .iload 4, .iload 3, .isub, .iconst 1, .if_icmp .le 154, .iload 5, .aload 0, .iload 1, .iconst 4] 137 = x_aload 0 (x_g0 111 87 0 120 (x_ifCond .le 157 K (x_aload 0 (x_dup (x_g0 111 87 0 120 (x_iconst 3 (x_isub (x_p 111 87 0 120 (x_aload 0 (x_g1 111 286 (x_aload 0 (x_g0 111 87 0 120 (x_iaload (x_istore 3 (x_aload 0 (x_g1 111 286 (x_aload 0 (x_g0 111 87 0 120 (x_iconst 1 (x_iadd (x_iaload (x_istore 4 (x_aload 0 (x_g1 111 286 (x_aload 0 (x_g0 111 87 0 120 (x_iconst 2 (x_iadd (x_iaload (x_istore 5 (x_iload 4 (x_iload 3 (x_isub (x_iconst 1 (x_if_icmp .le 154 K (x_iload 5 (x_aload 0 (x_iload 1 (x_iconst 4 (K 137)))))))))))))))))))))))))))))))))))))))) := ((xe_aload 0).trans (congrArg (x_aload 0) ((xe_g0 (kk := 111) rfl tl_11_87).trans (congrArg (x_g0 111 87 0 120) ((xe_ifCond .le 157).trans (congrArg (x_ifCond .le 157 K) ((xe_aload 0).trans (congrArg (x_aload 0) ((xe_dup).trans (congrArg (x_dup) ((xe_g0 (kk := 111) rfl tl_11_87).trans (congrArg (x_g0 111 87 0 120) ((xe_iconst 3).trans (congrArg (x_iconst 3) ((xe_isub).trans (congrArg (x_isub) ((xe_p (kk := 111) rfl tl_11_87).trans (congrArg (x_p 111 87 0 120) ((xe_aload 0).trans (congrArg (x_aload 0) ((xe_g1 (kk := 111) rfl tl_11_86).trans (congrArg (x_g1 111 286) ((xe_aload 0).trans (congrArg (x_aload 0) ((xe_g0 (kk := 111) rfl tl_11_87).trans (congrArg (x_g0 111 87 0 120) ((xe_iaload).trans (congrArg (x_iaload) ((xe_istore 3).trans (congrArg (x_istore 3) ((xe_aload 0).trans (congrArg (x_aload 0) ((xe_g1 (kk := 111) rfl tl_11_86).trans (congrArg (x_g1 111 286) ((xe_aload 0).trans (congrArg (x_aload 0) ((xe_g0 (kk := 111) rfl tl_11_87).trans (congrArg (x_g0 111 87 0 120) ((xe_iconst 1).trans (congrArg (x_iconst 1) ((xe_iadd).trans (congrArg (x_iadd) ((xe_iaload).trans (congrArg (x_iaload) ((xe_istore 4).trans (congrArg (x_istore 4) ((xe_aload 0).trans (congrArg (x_aload 0) ((xe_g1 (kk := 111) rfl tl_11_86).trans (congrArg (x_g1 111 286) ((xe_aload 0).trans (congrArg (x_aload 0) ((xe_g0 (kk := 111) rfl tl_11_87).trans (congrArg (x_g0 111 87 0 120) ((xe_iconst 2).trans (congrArg (x_iconst 2) ((xe_iadd).trans (congrArg (x_iadd) ((xe_iaload).trans (congrArg (x_iaload) ((xe_istore 5).trans (congrArg (x_istore 5) ((xe_iload 4).trans (congrArg (x_iload 4) ((xe_iload 3).trans (congrArg (x_iload 3) ((xe_isub).trans (congrArg (x_isub) ((xe_iconst 1).trans (congrArg (x_iconst 1) ((xe_if_icmp .le 154).trans (congrArg (x_if_icmp .le 154 K) ((xe_iload 5).trans (congrArg (x_iload 5) ((xe_aload 0).trans (congrArg (x_aload 0) ((xe_iload 1).trans (congrArg (x_iload 1) ((xe_iconst 4).trans (congrArg (x_iconst 4) xe_nil))))))))))))))))))))))))))))))))))))))))))))))))))))))))))))))))))))))))))))))))
theorem bk_X11_orderAll_e_157 : ck_ fX11 none cX11_orderAll 157 [.return_] 158 = true := qck_r (nn_ _) (by decide +kernel)
theorem bs_X11_orderAll_e_157 {P : Zt → Option Zv → Prop} (K : Int → Zl → List Zv → Zt → Prop) : sx_ K P [.return_] 158 = x_return_ P := (xe_return_)
theorem bk_X11_orderAll_e_154 : ck_ fX11 none cX11_orderAll 154 [.goto 71] 157 = true := qck_r (nn_ _) (by decide +kernel)
theorem bs_X11_orderAll_e_154 {P : Zt → Option Zv → Prop} (K : Int → Zl → List Zv → Zt → Prop) : sx_ K P [.goto 71] 157 = x_goto 71 K := (xe_goto 71)
theorem bk_X11_orderAll_e_140 : ck_ fX11 none cX11_orderAll 140 [.if_icmp .gt 154, .aload 0, .iload 1, .iload 2, .iload 3, .iload 4, .iload 5] 151 = true := qck_r (nn_ _) (by decide +kernel)
theorem bs_X11_orderAll_e_140 {P : Zt → Option Zv → Prop} (K : Int → Zl → List Zv → Zt → Prop) : sx_ K P [.if_icmp .gt 154, .aload 0, .iload 1, .iload 2, .iload 3, .iload 4, .iload 5] 151 = x_if_icmp .gt 154 K (x_aload 0 (x_iload 1 (x_iload 2 (x_iload 3 (x_iload 4 (x_iload 5 (K 151))))))) := ((xe_if_icmp .gt 154).trans (congrArg (x_if_icmp .gt 154 K) ((xe_aload 0).trans (congrArg (x_aload 0) ((xe_iload 1).trans (congrArg (x_iload 1) ((xe_iload 2).trans (congrArg (x_iload 2) ((xe_iload 3).trans (congrArg (x_iload 3) ((xe_iload 4).trans (congrArg (x_iload 4) ((xe_iload 5).trans (congrArg (x_iload 5) xe_nil))))))))))))))
theorem bk_X11_orderAll_e_18 : ck_ fX11 none cX11_orderAll 18 [.iload 3, .aload 0, .tableswitch 0 11 79 #[], .if_icmp .ge 56, .aload 0, .tableswitch 0 11 77 #[], .iload 3, .aload 0, .tableswitch 0 11 7 #[], .iconst 12, .iload 1, .imul, .iload 3, .iadd, .iaload, .iastore, .aload 0, .tableswitch 0 11 78 #[], .iload 3, .iconst (-1), .iastore, .iinc 3 1, .goto 18] 56 = true := qck_r (nn_ _) (by decide +kernel)
theorem bs_X11_orderAll_e_18 {P : Zt → Option Zv → Prop} (K : Int → Zl → List Zv → Zt → Prop) : sx_ K P [.iload 3, .aload 0, .tableswitch 0 11 79 #[], .if_icmp .ge 56, .aload 0, .tableswitch 0 11 77 #[], .iload 3, .aload 0, .tableswitch 0 11 7 #[], .iconst 12, .iload 1, .imul, .iload 3, .iadd, .iaload, .iastore, .aload 0, .tableswitch 0 11 78 #[], .iload 3, .iconst (-1), .iastore, .iinc 3 1, .goto 18] 56 = x_iload 3 (x_aload 0 (x_g0 111 79 0 12 (x_if_icmp .ge 56 K (x_aload 0 (x_g1 111 277 (x_iload 3 (x_aload 0 (x_g1 111 207 (x_iconst 12 (x_iload 1 (x_imul (x_iload 3 (x_iadd (x_iaload (x_iastore (x_aload 0 (x_g1 111 278 (x_iload 3 (x_iconst (-1) (x_iastore (x_iinc 3 1 (x_goto 18 K)))))))))))))))))))))) := ((xe_iload 3).trans (congrArg (x_iload 3) ((xe_aload 0).trans (congrArg (x_aload 0) ((xe_g0 (kk := 111) rfl tl_11_79).trans (congrArg (x_g0 111 79 0 12) ((xe_if_icmp .ge 56).trans (congrArg (x_if_icmp .ge 56 K) ((xe_aload 0).trans (congrArg (x_aload 0) ((xe_g1 (kk := 111) rfl tl_11_77).trans (congrArg (x_g1 111 277) ((xe_iload 3).trans (congrArg (x_iload 3) ((xe_aload 0).trans (congrArg (x_aload 0) ((xe_g1 (kk := 111) rfl tl_11_7).trans (congrArg (x_g1 111 207) ((xe_iconst 12).trans (congrArg (x_iconst 12) ((xe_iload 1).trans (congrArg (x_iload 1) ((xe_imul).trans (congrArg (x_imul) ((xe_iload 3).trans (congrArg (x_iload 3) ((xe_iadd).trans (congrArg (x_iadd) ((xe_iaload).trans (congrArg (x_iaload) ((xe_iastore).trans (congrArg (x_iastore) ((xe_aload 0).trans (congrArg (x_aload 0) ((xe_g1 (kk := 111) rfl tl_11_78).trans (congrArg (x_g1 111 278) ((xe_iload 3).trans (congrArg (x_iload 3) ((xe_iconst (-1)).trans (congrArg (x_iconst (-1)) ((xe_iastore).trans (congrArg (x_iastore) ((xe_iinc 3 1).trans (congrArg (x_iinc 3 1) (xe_goto 18)))))))))))))))))))))))))))))))))))))))))))))
theorem bk_X11_orderAll_e_56 : ck_ fX11 none cX11_orderAll 56 [.aload 0, .iconst 0, .tableswitch 1 11 87 #[], .aload 0, .iconst 0, .aload 0, .tableswitch 0 11 79 #[], .iconst 0] 68 = true := qck_r (nn_ _) (by decide +kernel)
theorem bs_X11_orderAll_e_56 {P : Zt → Option Zv → Prop} (K : Int → Zl → List Zv → Zt → Prop) : sx_ K P [.aload 0, .iconst 0, .tableswitch 1 11 87 #[], .aload 0, .iconst 0, .aload 0, .tableswitch 0 11 79 #[], .iconst 0] 68 = x_aload 0 (x_iconst 0 (x_p 111 87 0 120 (x_aload 0 (x_iconst 0 (x_aload 0 (x_g0 111 79 0 12 (x_iconst 0 (K 68)))))))) := ((xe_aload 0).trans (congrArg (x_aload 0) ((xe_iconst 0).trans (congrArg (x_iconst 0) ((xe_p (kk := 111) rfl tl_11_87).trans (congrArg (x_p 111 87 0 120) ((xe_aload 0).trans (congrArg (x_aload 0) ((xe_iconst 0).trans (congrArg (x_iconst 0) ((xe_aload 0).trans (congrArg (x_aload 0) ((xe_g0 (kk := 111) rfl tl_11_79).trans (congrArg (x_g0 111 79 0 12) ((xe_iconst 0).trans (congrArg (x_iconst 0) xe_nil))))))))))))))))
theorem bk_X11_orderAll_e_0 : ck_ fX11 none cX11_orderAll 0 [.aload 0, .iload 1, .iload 2] 3 = true := qck_r (nn_ _) (by decide +kernel)
theorem bs_X11_orderAll_e_0 {P : Zt → Option Zv → Prop} (K : Int → Zl → List Zv → Zt → Prop) : sx_ K P [.aload 0, .iload 1, .iload 2] 3 = x_aload 0 (x_iload 1 (x_iload 2 (K 3))) := ((xe_aload 0).trans (congrArg (x_aload 0) ((xe_iload 1).trans (congrArg (x_iload 1) ((xe_iload 2).trans (congrArg (x_iload 2) xe_nil))))))
theorem bk_X11_orderAll_e_6 : ck_ fX11 none cX11_orderAll 6 [.aload 0, .aload 0, .tableswitch 0 11 8 #[], .iload 1, .iaload, .tableswitch 1 11 79 #[], .iconst 0, .istore 3] 18 = true := qck_r (nn_ _) (by decide +kernel)
theorem bs_X11_orderAll_e_6 {P : Zt → Option Zv → Prop} (K : Int → Zl → List Zv → Zt → Prop) : sx_ K P [.aload 0, .aload 0, .tableswitch 0 11 8 #[], .iload 1, .iaload, .tableswitch 1 11 79 #[], .iconst 0, .istore 3] 18 = x_aload 0 (x_aload 0 (x_g1 111 208 (x_iload 1 (x_iaload (x_p 111 79 0 12 (x_iconst 0 (x_istore 3 (K 18)))))))) := ((xe_aload 0).trans (congrArg (x_aload 0) ((xe_aload 0).trans (congrArg (x_aload 0) ((xe_g1 (kk := 111) rfl tl_11_8).trans (congrArg (x_g1 111 208) ((xe_iload 1).trans (congrArg (x_iload 1) ((xe_iaload).trans (congrArg (x_iaload) ((xe_p (kk := 111) rfl tl_11_79).trans (congrArg (x_p 111 79 0 12) ((xe_iconst 0).trans (congrArg (x_iconst 0) ((xe_istore 3).trans (congrArg (x_istore 3) xe_nil))))))))))))))))
abbrev po_X11_orderAll_e (T : Zt) (c d : Int) : Zt → Option Zv → Prop := fun T' r => r = none ∧ fr_ [(276, []), (284, []), (277, []), (286, []), (278, []), (111, [82, 83, 85, 87, 79])] T T' ∧ (TB_ T' 150000000 ∧ (∀ v, HE_ T c v → OC_ T' 12 v) ∧ (∀ v, HE_ T c v → OC_ T' (T 208 0 c) v) ∧ TD_ T T' (fun w => T 205 0 (23 * c + w)) (fun k => vR_ T d (T 210 0 c + k)) (T 211 0 c).toNat c d (T 111 0 24).toNat ∧ T' 111 0 79 = T 208 0 c ∧ (mk9_ (T 208 0 c) (fun x => T' 277 0 x), mk9_ (T 208 0 c) (fun x => T' 278 0 x)) = RKm_ T' c d (T 208 0 c))
set_option maxHeartbeats 4000000 in
theorem ct_X11_orderAll_e {T : Zt} {c d : Int} (h1 : 0 ≤ c ∧ c < T 111 0 6) (hri : RI_ T) (hml : ML_ T) (hsc : SC_ T) (hyb : YB_ T) (hen : EN_ T) (hgb : GB_ T c d) : Ct_ yX11_orderAll zX11_orderAll T [vR 111 0, vI c, vI d] (po_X11_orderAll_e T c d) := by
  refine ct_of pn_11 rfl rfl (Nat.le_of_ble_eq_true rfl) (fun hT hav => ?_)
  have hr_c : -2147483648 ≤ c ∧ c ≤ 2147483647 := hav (vI c) (List.mem_cons_of_mem _ List.mem_cons_self)
  have hr_d : -2147483648 ≤ d ∧ d ≤ 2147483647 := hav (vI d) (List.mem_cons_of_mem _ (List.mem_cons_of_mem _ List.mem_cons_self))
  have hz : zX11_orderAll.2.2.2.1 = some .boolean → ∀ (T' : Zt) (x : Int), po_X11_orderAll_e T c d T' (some (vI x)) → 0 ≤ x ∧ x ≤ 1 := fun h => by cases h
  have hb_6 : 0 ≤ T 111 0 6 ∧ T 111 0 6 ≤ 4 := bd_f hT 111 6 tl_11_6 0
  have hed : 0 ≤ T 208 0 c ∧ T 208 0 c ≤ 12 := bd_a hT 208 (by decide +kernel : ta_ 208 = some (1, some 4, 0, 12)) 0 (by omega)
  have hr4 : (0 : Int) ≤ T 205 0 (23 * c + 4) ∧ T 205 0 (23 * c + 4) ≤ (7 : Int) := hri c 4 (by omega) (by omega) (by omega) (by omega)
  have hr5 : (0 : Int) ≤ T 205 0 (23 * c + 5) ∧ T 205 0 (23 * c + 5) ≤ (1 : Int) := hri c 5 (by omega) (by omega) (by omega) (by omega)
  show J_ zX11_orderAll T (po_X11_orderAll_e T c d) 0 0 0 [some (vR 111 0), some (vI c), some (vI d), none, none, none] [] T
  have c_71 : ∀ (nn : Nat) (s : Int) (w : Int) (T2 : Zt), ((w + 1).toNat) ≤ nn → (fr_ [(276, []), (284, []), (277, []), (286, []), (278, []), (111, [82, 83, 85, 87, 79])] T T2) → (PQ_ T2 (T 208 0 c) s w) → (s ≤ T 208 0 c ∧ 0 ≤ w) → (TB_ T2 150000000) → (∀ v, HE_ T c v → OC_ T2 (T 208 0 c) v) → (TD_ T T2 (fun w => T 205 0 (23 * c + w)) (fun k => vR_ T d (T 210 0 c + k)) (T 211 0 c).toNat c d (T 111 0 24).toNat) → (T2 111 0 79 = T 208 0 c) → (∀ j, 0 ≤ j → j < T 208 0 c → T2 277 0 j < T 111 0 12) → (RT_ T2 c d (T 208 0 c) (RKm_ T2 c d (T 208 0 c))) → J_ zX11_orderAll T (po_X11_orderAll_e T c d) 0 0 71 [some (vR 111 0), some (vI c), some (vI d), none, none, none] [] T2 := by
    intro nn
    induction nn using Nat.strongRecOn with
    | _ nn ih_71 =>
      intro s w T2 hm_71 hf_71 hpq hs2 tb2 oc2 td2 sm2 cl2 rt2
      replace hm_71 := fun (_ : Unit) => hm_71
      refine j_blx (F := fX11) tb_X11 (nn_ _) bk_X11_orderAll_e_71 bs_X11_orderAll_e_71 hz (fun K hK => ?_)
      intro b1 b1b
      refine And.intro (fun c2 => ?_) (fun c2 => ?_)
      · refine hK 157 _ [] T2 ?_
        refine j_blx (F := fX11) tb_X11 (nn_ _) bk_X11_orderAll_e_157 bs_X11_orderAll_e_157 hz (fun K hK => ?_)
        refine (show po_X11_orderAll_e T c d T2 (none) from ?_)
        have hz9 := rt2 0 (by obtain ⟨p9, hp9⟩ := pq_x hpq; omega)
        exact ⟨rfl, fr_t (fr_0 _ _) (fr_s hf_71 rfl), tb2, fun v hv => oc_m (oc2 v hv) (by omega), oc2, td2, sm2, rq_z hz9⟩
      · have hq0 := pq_3 hpq (by omega)
        intro b3 b3b
        refine rg_i (by omega) ?_
        refine bd_i (by omega) ?_
        refine x_nm (fun U4 hU4 => ?_)
        have e5 := up_f hU4
        obtain ⟨hq1, hq2, hq3, hq4, hq5, hq6⟩ := pq_p hpq (by omega) (fun j => up_k hU4 (by exact Nat.ne_of_beq_eq_false rfl) 0 j) (up_f hU4)
        intro b6 b6b
        have e7 : U4 111 0 87 = (T2 111 0 87) - 3 := up_f hU4
        rw [e7] at b6 b6b ⊢
        refine ix_i (by omega) ?_
        intro b8 b8b
        have e9 : U4 286 0 ((T2 111 0 87) - 3) = T2 286 0 ((T2 111 0 87) - 3) := up_k hU4 (by exact Nat.ne_of_beq_eq_false rfl) 0 ((T2 111 0 87) - 3)
        rw [e9] at b8 b8b ⊢
        intro b10 b10b
        have e11 : U4 111 0 87 = (T2 111 0 87) - 3 := up_f hU4
        rw [e11] at b10 b10b ⊢
        refine rg_i (by omega) ?_
        refine ix_i (by omega) ?_
        intro b12 b12b
        have e13 : U4 286 0 (((T2 111 0 87) - 3) + 1) = T2 286 0 (((T2 111 0 87) - 3) + 1) := up_k hU4 (by exact Nat.ne_of_beq_eq_false rfl) 0 (((T2 111 0 87) - 3) + 1)
        rw [e13] at b12 b12b ⊢
        intro b14 b14b
        have e15 : U4 111 0 87 = (T2 111 0 87) - 3 := up_f hU4
        rw [e15] at b14 b14b ⊢
        refine rg_i (by omega) ?_
        refine ix_i (by omega) ?_
        intro b16 b16b
        have e17 : U4 286 0 (((T2 111 0 87) - 3) + 2) = T2 286 0 (((T2 111 0 87) - 3) + 2) := up_k hU4 (by exact Nat.ne_of_beq_eq_false rfl) 0 (((T2 111 0 87) - 3) + 2)
        rw [e17] at b16 b16b ⊢
        refine rg_i (by omega) ?_
        refine And.intro (fun c18 => ?_) (fun c18 => ?_)
        · refine hK 154 [some (vR 111 0), some (vI c), some (vI d), some (vI (T2 286 0 ((T2 111 0 87) - 3))), some (vI (T2 286 0 (((T2 111 0 87) - 3) + 1))), some (vI (T2 286 0 (((T2 111 0 87) - 3) + 2)))] [] U4 ?_
          refine j_blx (F := fX11) tb_X11 (nn_ _) bk_X11_orderAll_e_154 bs_X11_orderAll_e_154 hz (fun K hK => ?_)
          refine hK 71 _ [] U4 ?_
          refine j_drop [some (vR 111 0), some (vI c), some (vI d), none, none, none] (fun k v hk => ?_) rfl ?_
          · match k, hk with
            | 0, hk => exact hk
            | 1, hk => exact hk
            | 2, hk => exact hk
            | 3, hk => cases hk
            | 4, hk => cases hk
            | 5, hk => cases hk
            | k + 6, hk => cases hk
          have e19 : U4 111 0 79 = T2 111 0 79 := up_j hU4 (by decide) 111 0
          refine ih_71 _ ?_ (s - (T2 286 0 (T2 111 0 87 - 3 + 1) - T2 286 0 (T2 111 0 87 - 3))) (w - wt_ (T2 286 0 (T2 111 0 87 - 3 + 1) - T2 286 0 (T2 111 0 87 - 3)) (T2 286 0 (T2 111 0 87 - 3 + 2))) U4 (Nat.le_refl _) ?_ ?_ ?_ ?_ ?_ ?_ ?_ ?_ ?_
          · have hm_71 := hm_71 (); omega
          · exact fr_u (fr_t (fr_0 _ _) (fr_s hf_71 rfl)) hU4 rfl
          · exact hq1
          · omega
          · exact tb_f tb2 (fun j => up_k hU4 (by exact Nat.ne_of_beq_eq_false rfl) 0 j)
          · exact fun v hv => oc_f (oc2 v hv) (fun j => up_k hU4 (by exact Nat.ne_of_beq_eq_false rfl) 0 j)
          · exact tdd_k td2 (fun j => up_k hU4 (by exact Nat.ne_of_beq_eq_false rfl) 0 j)
          · omega
          · intro j a b
            rw [up_k hU4 (by exact Nat.ne_of_beq_eq_false rfl) 0 j]
            exact cl2 j a b
          · have y9 := rt_t (f := T2 286 0 (T2 111 0 87 - 3)) (t := T2 286 0 (T2 111 0 87 - 3 + 1)) (k := T2 286 0 (T2 111 0 87 - 3 + 2)) rt2 (ru_f (ws := [(111, [87])]) (fr_u (fr_0 _ _) hU4 rfl) (fun _ => rfl) (fun _ => rfl) (fun _ => rfl) (fun _ => rfl) (fun _ => rfl) (fun k j q9 => by rcases q9 with rfl | rfl | rfl | rfl | rfl | rfl | rfl | rfl | rfl | rfl <;> rfl) rfl) (funext (fun x => up_k hU4 (by exact Nat.ne_of_beq_eq_false rfl) 0 x)) (funext (fun x => up_k hU4 (by exact Nat.ne_of_beq_eq_false rfl) 0 x)) (fun j => up_k hU4 (by exact Nat.ne_of_beq_eq_false rfl) 0 j) (up_f hU4) rfl rfl rfl
            rw [rk_f (ru_f (ws := [(111, [87])]) (fr_u (fr_0 _ _) hU4 rfl) (fun _ => rfl) (fun _ => rfl) (fun _ => rfl) (fun _ => rfl) (fun _ => rfl) (fun k j q9 => by rcases q9 with rfl | rfl | rfl | rfl | rfl | rfl | rfl | rfl | rfl | rfl <;> rfl) rfl)]
            intro p9 h9
            have w9 := y9 p9 h9
            rw [pu_t (by rw [(up_k hU4 (by exact Nat.ne_of_beq_eq_false rfl) 0 (23 * c + 4)).trans (hf_71 205 0 (23 * c + 4) rfl)]; omega)] at w9
            exact w9
        · refine hK 137 [some (vR 111 0), some (vI c), some (vI d), some (vI (T2 286 0 ((T2 111 0 87) - 3))), some (vI (T2 286 0 (((T2 111 0 87) - 3) + 1))), some (vI (T2 286 0 (((T2 111 0 87) - 3) + 2)))] [vI 4, vI c, vR 111 0, vI (T2 286 0 (((T2 111 0 87) - 3) + 2))] U4 ?_
          refine j_callV (y := yX11_rule0) (Yc := zX11_rule0) (rest := [vI (T2 286 0 (((T2 111 0 87) - 3) + 2))]) [vI c, vI 4] (ct_X11_rule0 (T := U4) (by omega) (by omega)) cl_X11_321 (qd_c (by decide +kernel)) (nn_ _) rfl (rf_of rfl) (Nat.le_of_ble_eq_true rfl) (Nat.le_of_ble_eq_true rfl) (Nat.le_of_ble_eq_true rfl) rfl ?_
          rintro _ _ ⟨rfl, rfl⟩
          have e20 : U4 205 0 (23 * c + 4) = T 205 0 (23 * c + 4) := (up_k hU4 (by exact Nat.ne_of_beq_eq_false rfl) 0 (23 * c + 4)).trans (hf_71 205 0 (23 * c + 4) rfl)
          show J_ zX11_orderAll T (po_X11_orderAll_e T c d) 0 0 140 _ [vI (U4 205 0 (23 * c + 4)), vI (T2 286 0 (((T2 111 0 87) - 3) + 2))] U4
          refine j_blx (F := fX11) tb_X11 (nn_ _) bk_X11_orderAll_e_140 bs_X11_orderAll_e_140 hz (fun K hK => ?_)
          refine And.intro (fun c21 => ?_) (fun c21 => ?_)
          · refine hK 154 _ [] U4 ?_
            refine j_blx (F := fX11) tb_X11 (nn_ _) bk_X11_orderAll_e_154 bs_X11_orderAll_e_154 hz (fun K hK => ?_)
            refine hK 71 _ [] U4 ?_
            refine j_drop [some (vR 111 0), some (vI c), some (vI d), none, none, none] (fun k v hk => ?_) rfl ?_
            · match k, hk with
              | 0, hk => exact hk
              | 1, hk => exact hk
              | 2, hk => exact hk
              | 3, hk => cases hk
              | 4, hk => cases hk
              | 5, hk => cases hk
              | k + 6, hk => cases hk
            have e22 : U4 111 0 79 = T2 111 0 79 := up_j hU4 (by decide) 111 0
            refine ih_71 _ ?_ (s - (T2 286 0 (T2 111 0 87 - 3 + 1) - T2 286 0 (T2 111 0 87 - 3))) (w - wt_ (T2 286 0 (T2 111 0 87 - 3 + 1) - T2 286 0 (T2 111 0 87 - 3)) (T2 286 0 (T2 111 0 87 - 3 + 2))) U4 (Nat.le_refl _) ?_ ?_ ?_ ?_ ?_ ?_ ?_ ?_ ?_
            · have hm_71 := hm_71 (); omega
            · exact fr_u (fr_t (fr_0 _ _) (fr_s hf_71 rfl)) hU4 rfl
            · exact hq1
            · omega
            · exact tb_f tb2 (fun j => up_k hU4 (by exact Nat.ne_of_beq_eq_false rfl) 0 j)
            · exact fun v hv => oc_f (oc2 v hv) (fun j => up_k hU4 (by exact Nat.ne_of_beq_eq_false rfl) 0 j)
            · exact tdd_k td2 (fun j => up_k hU4 (by exact Nat.ne_of_beq_eq_false rfl) 0 j)
            · omega
            · intro j a b
              rw [up_k hU4 (by exact Nat.ne_of_beq_eq_false rfl) 0 j]
              exact cl2 j a b
            · have y9 := rt_t (f := T2 286 0 (T2 111 0 87 - 3)) (t := T2 286 0 (T2 111 0 87 - 3 + 1)) (k := T2 286 0 (T2 111 0 87 - 3 + 2)) rt2 (ru_f (ws := [(111, [87])]) (fr_u (fr_0 _ _) hU4 rfl) (fun _ => rfl) (fun _ => rfl) (fun _ => rfl) (fun _ => rfl) (fun _ => rfl) (fun k j q9 => by rcases q9 with rfl | rfl | rfl | rfl | rfl | rfl | rfl | rfl | rfl | rfl <;> rfl) rfl) (funext (fun x => up_k hU4 (by exact Nat.ne_of_beq_eq_false rfl) 0 x)) (funext (fun x => up_k hU4 (by exact Nat.ne_of_beq_eq_false rfl) 0 x)) (fun j => up_k hU4 (by exact Nat.ne_of_beq_eq_false rfl) 0 j) (up_f hU4) rfl rfl rfl
              rw [rk_f (ru_f (ws := [(111, [87])]) (fr_u (fr_0 _ _) hU4 rfl) (fun _ => rfl) (fun _ => rfl) (fun _ => rfl) (fun _ => rfl) (fun _ => rfl) (fun k j q9 => by rcases q9 with rfl | rfl | rfl | rfl | rfl | rfl | rfl | rfl | rfl | rfl <;> rfl) rfl)]
              intro p9 h9
              have w9 := y9 p9 h9
              rw [pu_t (by rw [(up_k hU4 (by exact Nat.ne_of_beq_eq_false rfl) 0 (23 * c + 4)).trans (hf_71 205 0 (23 * c + 4) rfl)]; omega)] at w9
              exact w9
          · refine hK 151 [some (vR 111 0), some (vI c), some (vI d), some (vI (T2 286 0 ((T2 111 0 87) - 3))), some (vI (T2 286 0 (((T2 111 0 87) - 3) + 1))), some (vI (T2 286 0 (((T2 111 0 87) - 3) + 2)))] [vI (T2 286 0 (((T2 111 0 87) - 3) + 2)), vI (T2 286 0 (((T2 111 0 87) - 3) + 1)), vI (T2 286 0 ((T2 111 0 87) - 3)), vI d, vI c, vR 111 0] U4 ?_
            refine j_callV (y := yX11_orderPart) (Yc := zX11_orderPart) (rest := []) [vI c, vI d, vI (T2 286 0 ((T2 111 0 87) - 3)), vI (T2 286 0 (((T2 111 0 87) - 3) + 1)), vI (T2 286 0 (((T2 111 0 87) - 3) + 2))] (ct_X11_orderPart_e (T := U4) (n := T 208 0 c) (s := s - (T2 286 0 (T2 111 0 87 - 3 + 1) - T2 286 0 (T2 111 0 87 - 3))) (w := w - wt_ (T2 286 0 (T2 111 0 87 - 3 + 1) - T2 286 0 (T2 111 0 87 - 3)) (T2 286 0 (T2 111 0 87 - 3 + 2))) (by omega) (ML__f (ws := [(111, [87, 82, 83, 85, 87, 79]), (276, []), (284, []), (277, []), (286, []), (278, [])]) hml (fr_u (fr_t (fr_0 _ _) (fr_s hf_71 rfl)) hU4 rfl) ⟨fun _ => rfl, fun _ => rfl, rfl, trivial⟩) (SC__f (ws := [(111, [87, 82, 83, 85, 87, 79]), (276, []), (284, []), (277, []), (286, []), (278, [])]) hsc (fr_u (fr_t (fr_0 _ _) (fr_s hf_71 rfl)) hU4 rfl) ⟨fun _ => rfl, fun _ => rfl, trivial⟩) (by omega) (tb_f tb2 (fun j => up_k hU4 (by exact Nat.ne_of_beq_eq_false rfl) 0 j)) (by omega) hq1 (gb_f (ws := [(111, [87, 82, 83, 85, 87, 79]), (276, []), (284, []), (277, []), (286, []), (278, [])]) hgb (fr_u (fr_t (fr_0 _ _) (fr_s hf_71 rfl)) hU4 rfl) (fun _ => rfl) (fun _ => rfl) (fun _ => rfl) (fun k j q9 => by rcases q9 with rfl | rfl | rfl | rfl | rfl | rfl | rfl | rfl | rfl | rfl <;> rfl) rfl) (fun j a b => by rw [up_k hU4 (by exact Nat.ne_of_beq_eq_false rfl) 0 j, (up_g hU4 (by omega)).trans (hf_71 111 0 12 rfl)]; exact cl2 j (by omega) (by omega)) (by rw [(up_k hU4 (by exact Nat.ne_of_beq_eq_false rfl) 0 (23 * c + 5)).trans (hf_71 205 0 (23 * c + 5) rfl)]; omega)) cl_X11_523 (qd_c (by decide +kernel)) (nn_ _) rfl (rf_of rfl) (Nat.le_of_ble_eq_true rfl) (Nat.le_of_ble_eq_true rfl) (Nat.le_of_ble_eq_true rfl) rfl ?_
            rintro U23 _ ⟨rfl, fU23, qU23, qU23o, qU23p⟩
            show J_ zX11_orderAll T (po_X11_orderAll_e T c d) 0 0 154 _ [] U23
            refine j_blx (F := fX11) tb_X11 (nn_ _) bk_X11_orderAll_e_154 bs_X11_orderAll_e_154 hz (fun K hK => ?_)
            refine hK 71 _ [] U23 ?_
            refine j_drop [some (vR 111 0), some (vI c), some (vI d), none, none, none] (fun k v hk => ?_) rfl ?_
            · match k, hk with
              | 0, hk => exact hk
              | 1, hk => exact hk
              | 2, hk => exact hk
              | 3, hk => cases hk
              | 4, hk => cases hk
              | 5, hk => cases hk
              | k + 6, hk => cases hk
            have e24 : U23 111 0 79 = T2 111 0 79 := (fU23 111 0 79 rfl).trans (up_j hU4 (by decide) 111 0)
            refine ih_71 _ ?_ (s - (T2 286 0 (T2 111 0 87 - 3 + 1) - T2 286 0 (T2 111 0 87 - 3)) + (T2 286 0 (T2 111 0 87 - 3 + 1) - T2 286 0 (T2 111 0 87 - 3))) (w - wt_ (T2 286 0 (T2 111 0 87 - 3 + 1) - T2 286 0 (T2 111 0 87 - 3)) (T2 286 0 (T2 111 0 87 - 3 + 2)) + wt_ (T2 286 0 (T2 111 0 87 - 3 + 1) - T2 286 0 (T2 111 0 87 - 3)) (T2 286 0 (T2 111 0 87 - 3 + 2)) - 1) U23 (Nat.le_refl _) ?_ ?_ ?_ ?_ ?_ ?_ ?_ ?_ ?_
            · have hm_71 := hm_71 (); omega
            · exact fr_t (fr_u (fr_t (fr_0 _ _) (fr_s hf_71 rfl)) hU4 rfl) (fr_s fU23 rfl)
            · exact qU23
            · omega
            · exact tb_f tb2 (fun j => (fU23 276 0 j rfl).trans (up_k hU4 (by exact Nat.ne_of_beq_eq_false rfl) 0 j))
            · exact fun v hv => qU23o v (oc_f (oc2 v hv) (fun j => up_k hU4 (by exact Nat.ne_of_beq_eq_false rfl) 0 j))
            · exact tdd_k td2 (fun j => (fU23 276 0 j rfl).trans (up_k hU4 (by exact Nat.ne_of_beq_eq_false rfl) 0 j))
            · omega
            · obtain ⟨p9, hp9⟩ := pq_x hq1
              exact op_q (Q := fun v => v < T 111 0 12) (n := T 208 0 c) qU23p hp9 (by omega) (fun j a b => by rw [up_k hU4 (by exact Nat.ne_of_beq_eq_false rfl) 0 j]; exact cl2 j a b) (by omega)
            · have y9 := rt_t (f := T2 286 0 (T2 111 0 87 - 3)) (t := T2 286 0 (T2 111 0 87 - 3 + 1)) (k := T2 286 0 (T2 111 0 87 - 3 + 2)) rt2 (ru_f (ws := [(111, [87])]) (fr_u (fr_0 _ _) hU4 rfl) (fun _ => rfl) (fun _ => rfl) (fun _ => rfl) (fun _ => rfl) (fun _ => rfl) (fun k j q9 => by rcases q9 with rfl | rfl | rfl | rfl | rfl | rfl | rfl | rfl | rfl | rfl <;> rfl) rfl) (funext (fun x => up_k hU4 (by exact Nat.ne_of_beq_eq_false rfl) 0 x)) (funext (fun x => up_k hU4 (by exact Nat.ne_of_beq_eq_false rfl) 0 x)) (fun j => up_k hU4 (by exact Nat.ne_of_beq_eq_false rfl) 0 j) (up_f hU4) rfl rfl rfl
              obtain ⟨p9, hp9⟩ := pq_x hq1
              rw [rk_f (e := T 208 0 c) (ru_f (ws := [(284, []), (277, []), (286, []), (278, []), (111, [82, 83, 85, 87, 87])]) (fr_t (fr_u (fr_0 _ _) hU4 rfl) (fr_s fU23 rfl)) (fun _ => rfl) (fun _ => rfl) (fun _ => rfl) (fun _ => rfl) (fun _ => rfl) (fun k j q9 => by rcases q9 with rfl | rfl | rfl | rfl | rfl | rfl | rfl | rfl | rfl | rfl <;> rfl) rfl)]
              exact rt_s (by rw [(up_k hU4 (by exact Nat.ne_of_beq_eq_false rfl) 0 (23 * c + 4)).trans (hf_71 205 0 (23 * c + 4) rfl)]; omega) y9 (by rw [(up_k hU4 (by exact Nat.ne_of_beq_eq_false rfl) 0 (23 * c + 4)).trans (hf_71 205 0 (23 * c + 4) rfl)]; omega) qU23p hp9 (ru_f (ws := [(284, []), (277, []), (286, []), (278, []), (111, [82, 83, 85, 87])]) (fr_t (fr_0 _ _) (fr_s fU23 rfl)) (fun _ => rfl) (fun _ => rfl) (fun _ => rfl) (fun _ => rfl) (fun _ => rfl) (fun k j q9 => by rcases q9 with rfl | rfl | rfl | rfl | rfl | rfl | rfl | rfl | rfl | rfl <;> rfl) rfl)
  have c_18 : ∀ (nn : Nat) (i : Int) (T1 : Zt), ((12 - i).toNat) ≤ nn → (fr_ [(276, []), (277, []), (278, []), (111, [82, 83, 79])] T T1) → (0 ≤ i ∧ T1 111 0 79 = T 208 0 c ∧ i ≤ T 208 0 c) → (TB_ T1 150000000) → (∀ j, 0 ≤ j → j < i → T1 277 0 j = T 207 0 (12 * c + j)) → (∀ j, 0 ≤ j → j < i → T1 278 0 j = -1) → (TD_ T T1 (fun w => T 205 0 (23 * c + w)) (fun k => vR_ T d (T 210 0 c + k)) (T 211 0 c).toNat c d (T 111 0 24).toNat) → J_ zX11_orderAll T (po_X11_orderAll_e T c d) 0 0 18 [some (vR 111 0), some (vI c), some (vI d), some (vI i), none, none] [] T1 := by
    intro nn
    induction nn using Nat.strongRecOn with
    | _ nn ih_18 =>
      intro i T1 hm_18 hf_18 i1 tb1 sc1 pb1 td1
      replace hm_18 := fun (_ : Unit) => hm_18
      refine j_blx (F := fX11) tb_X11 (nn_ _) bk_X11_orderAll_e_18 bs_X11_orderAll_e_18 hz (fun K hK => ?_)
      intro b25 b25b
      refine And.intro (fun c26 => ?_) (fun c26 => ?_)
      · refine hK 56 _ [] T1 ?_
        refine j_blx (F := fX11) tb_X11 (nn_ _) bk_X11_orderAll_e_56 bs_X11_orderAll_e_56 hz (fun K hK => ?_)
        refine bd_i (by omega) ?_
        refine x_nm (fun U27 hU27 => ?_)
        have e28 := up_f hU27
        intro b29 b29b
        have e30 : U27 111 0 79 = T1 111 0 79 := up_j hU27 (by decide) 111 0
        rw [e30] at b29 b29b ⊢
        refine hK 68 _ [vI 0, vI (T1 111 0 79), vI 0, vR 111 0] U27 ?_
        have e31 : U27 111 0 87 = 0 := up_f hU27
        refine j_callV (y := yX11_lay) (Yc := zX11_lay) (rest := []) [vI 0, vI (T1 111 0 79), vI 0] (ct_X11_lay (T := U27) (by omega) (by omega) (by omega) (by omega)) cl_X11_520 (qd_c (by decide +kernel)) (nn_ _) rfl (rf_of rfl) (Nat.le_of_ble_eq_true rfl) (Nat.le_of_ble_eq_true rfl) (Nat.le_of_ble_eq_true rfl) rfl ?_
        rintro U32 _ ⟨rfl, fU32, qU32⟩
        show J_ zX11_orderAll T (po_X11_orderAll_e T c d) 0 0 71 _ [] U32
        refine j_drop [some (vR 111 0), some (vI c), some (vI d), none, none, none] (fun k v hk => ?_) rfl ?_
        · match k, hk with
          | 0, hk => exact hk
          | 1, hk => exact hk
          | 2, hk => exact hk
          | 3, hk => cases hk
          | 4, hk => cases hk
          | 5, hk => cases hk
          | k + 6, hk => cases hk
        have e33 : U32 111 0 79 = T1 111 0 79 := (fU32 111 0 79 rfl).trans (up_j hU27 (by decide) 111 0)
        refine c_71 _ (0 + (T1 111 0 79 - 0)) (0 + wt_ (T1 111 0 79 - 0) 0) U32 (Nat.le_refl _) ?_ ?_ ?_ ?_ ?_ ?_ ?_ ?_ ?_
        · exact fr_t (fr_u (fr_t (fr_0 _ _) (fr_s hf_18 rfl)) hU27 rfl) (fr_s fU32 rfl)
        · exact ⟨1, _, by omega, pp_l (p := 0) (T := U27) ⟨rfl, rfl⟩ (by omega) (fun _ => rfl) rfl qU32 (by omega), Int.le_refl _⟩
        · have := wt_1 (s := T1 111 0 79 - 0) (k := 0) (by decide); omega
        · exact tb_f tb1 (fun j => (fU32 276 0 j rfl).trans (up_k hU27 (by exact Nat.ne_of_beq_eq_false rfl) 0 j))
        · intro v hv
          obtain ⟨j, a, b, e9⟩ := hv
          exact oc_f ⟨j, a, b, (sc1 j a (by omega)).trans e9⟩ (fun j => (fU32 277 0 j rfl).trans (up_k hU27 (by exact Nat.ne_of_beq_eq_false rfl) 0 j))
        · exact tdd_k td1 (fun j => (fU32 276 0 j rfl).trans (up_k hU27 (by exact Nat.ne_of_beq_eq_false rfl) 0 j))
        · omega
        · intro j a b
          rw [(fU32 277 0 j rfl).trans (up_k hU27 (by exact Nat.ne_of_beq_eq_false rfl) 0 j), sc1 j a (by omega)]
          exact (hen c (by omega) (by omega)).1 j a (by omega) |>.2
        · intro p9 h9
          have e9 : p9 = 1 := by omega
          rw [e9, pr_l (T := U27) (T3 := U27) (kc := U32 205 0 (23 * c + 4)) (p := 0) (by omega) (fun _ => rfl) rfl qU32]
          show RQm_ _ _ _ _ _ _ _ (pu9_ (U32 205 0 (23 * c + 4)) 0 (T1 111 0 79) 0 [])
          rw [show T1 111 0 79 = T 208 0 c by omega]
          unfold RKm_
          rw [← mk_e (n := T 208 0 c) (o := (fun x => U32 277 0 x)) (o' := fun x => U32 207 0 (12 * c + x)) (fun x a b => by show U32 277 0 x = U32 207 0 (12 * c + x); rw [(fU32 277 0 x rfl).trans (up_k hU27 (by exact Nat.ne_of_beq_eq_false rfl) 0 x), sc1 x a (by omega), (fU32 207 0 (12 * c + x) rfl).trans ((up_k hU27 (by exact Nat.ne_of_beq_eq_false rfl) 0 (12 * c + x)).trans (hf_18 207 0 (12 * c + x) rfl))]), ← mk_e (n := T 208 0 c) (o := (fun x => U32 278 0 x)) (o' := fun _ => -1) (fun x a b => by show U32 278 0 x = -1; rw [(fU32 278 0 x rfl).trans (up_k hU27 (by exact Nat.ne_of_beq_eq_false rfl) 0 x)]; exact pb1 x a (by omega))]
          exact rq_0 (by omega) (by rw [(fU32 205 0 (23 * c + 4) rfl).trans ((up_k hU27 (by exact Nat.ne_of_beq_eq_false rfl) 0 (23 * c + 4)).trans (hf_18 205 0 (23 * c + 4) rfl))]; omega)
      · refine rg_i (by omega) ?_
        refine rg_i (by omega) ?_
        refine ix_i (by omega) ?_
        intro b34 b34b
        have e35 : T1 207 0 ((12 * c) + i) = T 207 0 ((12 * c) + i) := hf_18 207 0 ((12 * c) + i) rfl
        rw [e35] at b34 b34b ⊢
        refine iy_i (by omega) (by omega) ?_
        refine x_nm (fun U36 hU36 => ?_)
        have e37 := up_f hU36
        refine iy_i (by omega) (by omega) ?_
        refine x_nm (fun U38 hU38 => ?_)
        have e39 := up_f hU38
        refine rg_i (by omega) ?_
        refine hK 18 [some (vR 111 0), some (vI c), some (vI d), some (vI (i + 1)), none, none] [] U38 ?_
        have e40 : U38 111 0 79 = T1 111 0 79 := (up_k hU38 (by exact Nat.ne_of_beq_eq_false rfl) 0 79).trans (up_k hU36 (by exact Nat.ne_of_beq_eq_false rfl) 0 79)
        refine ih_18 _ ?_ (i + 1) U38 (Nat.le_refl _) ?_ ?_ ?_ ?_ ?_ ?_
        · have hm_18 := hm_18 (); omega
        · exact fr_u (fr_u (fr_t (fr_0 _ _) (fr_s hf_18 rfl)) hU36 rfl) hU38 rfl
        · omega
        · exact tb_f tb1 (fun j => (up_k hU38 (by exact Nat.ne_of_beq_eq_false rfl) 0 j).trans (up_k hU36 (by exact Nat.ne_of_beq_eq_false rfl) 0 j))
        · intro j a b
          by_cases z : j = i
          · rw [z]; exact (up_k hU38 (by exact Nat.ne_of_beq_eq_false rfl) 0 i).trans (up_f hU36)
          · exact ((up_k hU38 (by exact Nat.ne_of_beq_eq_false rfl) 0 j).trans (up_g hU36 (by omega))).trans (sc1 j a (by omega))
        · intro j a b
          by_cases z : j = i
          · rw [z]; exact (rfl).trans (up_f hU38)
          · exact ((up_g hU38 (by omega)).trans (up_k hU36 (by exact Nat.ne_of_beq_eq_false rfl) 0 j)).trans (pb1 j a (by omega))
        · exact tdd_k td1 (fun j => (up_k hU38 (by exact Nat.ne_of_beq_eq_false rfl) 0 j).trans (up_k hU36 (by exact Nat.ne_of_beq_eq_false rfl) 0 j))
  refine j_blx (F := fX11) tb_X11 (nn_ _) bk_X11_orderAll_e_0 bs_X11_orderAll_e_0 hz (fun K hK => ?_)
  refine hK 3 _ [vI d, vI c, vR 111 0] T ?_
  refine j_callV (y := yX11_tellAll) (Yc := zX11_tellAll) (rest := []) [vI c, vI d] (ct_X11_tellAll_e (T := T) (by omega) (hml) (hsc) (hyb)) cl_X11_514 (qd_c (by decide +kernel)) (nn_ _) rfl (rf_of rfl) (Nat.le_of_ble_eq_true rfl) (Nat.le_of_ble_eq_true rfl) (Nat.le_of_ble_eq_true rfl) rfl ?_
  rintro U41 _ ⟨rfl, fU41, ⟨qU41, qU41d⟩⟩
  show J_ zX11_orderAll T (po_X11_orderAll_e T c d) 0 0 6 _ [] U41
  refine j_blx (F := fX11) tb_X11 (nn_ _) bk_X11_orderAll_e_6 bs_X11_orderAll_e_6 hz (fun K hK => ?_)
  refine ix_i (by omega) ?_
  intro b42 b42b
  have e43 : U41 208 0 c = T 208 0 c := fU41 208 0 c rfl
  rw [e43] at b42 b42b ⊢
  refine bd_i (by omega) ?_
  refine x_nm (fun U44 hU44 => ?_)
  have e45 := up_f hU44
  refine hK 18 [some (vR 111 0), some (vI c), some (vI d), some (vI 0), none, none] [] U44 ?_
  have e46 : U44 111 0 79 = T 208 0 c := up_f hU44
  refine c_18 _ 0 U44 (Nat.le_refl _) ?_ ?_ ?_ ?_ ?_ ?_
  · exact fr_u (fr_t (fr_0 _ _) (fr_s fU41 rfl)) hU44 rfl
  · omega
  · exact tb_f qU41 (fun j => up_k hU44 (by exact Nat.ne_of_beq_eq_false rfl) 0 j)
  · intro j a b; omega
  · intro j a b; omega
  · exact tdd_k qU41d (fun j => up_k hU44 (by exact Nat.ne_of_beq_eq_false rfl) 0 j)
theorem bk_X11_table_e_95 : ck_ fX11 (some .int) cX11_table 95 [.ireturn] 96 = true := qck_r (nn_ _) (by decide +kernel)
theorem bs_X11_table_e_95 {P : Zt → Option Zv → Prop} (K : Int → Zl → List Zv → Zt → Prop) : sx_ K P [.ireturn] 96 = x_ireturn P := (xe_ireturn)
theorem bk_X11_table_e_0 : ck_ fX11 (some .int) cX11_table 0 [.iload 1, .aload 0, .tableswitch 0 11 6 #[]] 5 = true := qck_r (nn_ _) (by decide +kernel)
theorem bs_X11_table_e_0 {P : Zt → Option Zv → Prop} (K : Int → Zl → List Zv → Zt → Prop) : sx_ K P [.iload 1, .aload 0, .tableswitch 0 11 6 #[]] 5 = x_iload 1 (x_aload 0 (x_g0 111 6 0 4 (K 5))) := ((xe_iload 1).trans (congrArg (x_iload 1) ((xe_aload 0).trans (congrArg (x_aload 0) ((xe_g0 (kk := 111) rfl tl_11_6).trans (congrArg (x_g0 111 6 0 4) xe_nil))))))
theorem bk_X11_table_e_8 : ck_ fX11 (some .int) cX11_table 8 [.ifCond .eq 22, .iload 3, .aload 0, .tableswitch 0 11 12 #[]] 16 = true := qck_r (nn_ _) (by decide +kernel)
theorem bs_X11_table_e_8 {P : Zt → Option Zv → Prop} (K : Int → Zl → List Zv → Zt → Prop) : sx_ K P [.ifCond .eq 22, .iload 3, .aload 0, .tableswitch 0 11 12 #[]] 16 = x_ifCond .eq 22 K (x_iload 3 (x_aload 0 (x_g0 111 12 0 12 (K 16)))) := ((xe_ifCond .eq 22).trans (congrArg (x_ifCond .eq 22 K) ((xe_iload 3).trans (congrArg (x_iload 3) ((xe_aload 0).trans (congrArg (x_aload 0) ((xe_g0 (kk := 111) rfl tl_11_12).trans (congrArg (x_g0 111 12 0 12) xe_nil))))))))
theorem bk_X11_table_e_22 : ck_ fX11 (some .int) cX11_table 22 [.iconst (-2), .ireturn] 25 = true := qck_r (nn_ _) (by decide +kernel)
theorem bs_X11_table_e_22 {P : Zt → Option Zv → Prop} (K : Int → Zl → List Zv → Zt → Prop) : sx_ K P [.iconst (-2), .ireturn] 25 = x_iconst (-2) (x_ireturn P) := ((xe_iconst (-2)).trans (congrArg (x_iconst (-2)) (xe_ireturn)))
theorem bk_X11_table_e_19 : ck_ fX11 (some .int) cX11_table 19 [.ifCond .ne 25, .iconst (-2), .ireturn] 25 = true := qck_r (nn_ _) (by decide +kernel)
theorem bs_X11_table_e_19 {P : Zt → Option Zv → Prop} (K : Int → Zl → List Zv → Zt → Prop) : sx_ K P [.ifCond .ne 25, .iconst (-2), .ireturn] 25 = x_ifCond .ne 25 K (x_iconst (-2) (x_ireturn P)) := ((xe_ifCond .ne 25).trans (congrArg (x_ifCond .ne 25 K) ((xe_iconst (-2)).trans (congrArg (x_iconst (-2)) (xe_ireturn)))))
theorem bk_X11_table_e_25 : ck_ fX11 (some .int) cX11_table 25 [.iload 2, .iconst 0, .iconst 999] 30 = true := qck_r (nn_ _) (by decide +kernel)
theorem bs_X11_table_e_25 {P : Zt → Option Zv → Prop} (K : Int → Zl → List Zv → Zt → Prop) : sx_ K P [.iload 2, .iconst 0, .iconst 999] 30 = x_iload 2 (x_iconst 0 (x_iconst 999 (K 30))) := ((xe_iload 2).trans (congrArg (x_iload 2) ((xe_iconst 0).trans (congrArg (x_iconst 0) ((xe_iconst 999).trans (congrArg (x_iconst 999) xe_nil))))))
theorem bk_X11_table_e_33 : ck_ fX11 (some .int) cX11_table 33 [.ifCond .eq 47, .iload 4, .iconst 0, .iconst 7] 41 = true := qck_r (nn_ _) (by decide +kernel)
theorem bs_X11_table_e_33 {P : Zt → Option Zv → Prop} (K : Int → Zl → List Zv → Zt → Prop) : sx_ K P [.ifCond .eq 47, .iload 4, .iconst 0, .iconst 7] 41 = x_ifCond .eq 47 K (x_iload 4 (x_iconst 0 (x_iconst 7 (K 41)))) := ((xe_ifCond .eq 47).trans (congrArg (x_ifCond .eq 47 K) ((xe_iload 4).trans (congrArg (x_iload 4) ((xe_iconst 0).trans (congrArg (x_iconst 0) ((xe_iconst 7).trans (congrArg (x_iconst 7) xe_nil))))))))
theorem bk_X11_table_e_47 : ck_ fX11 (some .int) cX11_table 47 [.iconst (-3), .ireturn] 50 = true := qck_r (nn_ _) (by decide +kernel)
theorem bs_X11_table_e_47 {P : Zt → Option Zv → Prop} (K : Int → Zl → List Zv → Zt → Prop) : sx_ K P [.iconst (-3), .ireturn] 50 = x_iconst (-3) (x_ireturn P) := ((xe_iconst (-3)).trans (congrArg (x_iconst (-3)) (xe_ireturn)))
theorem bk_X11_table_e_44 : ck_ fX11 (some .int) cX11_table 44 [.ifCond .ne 50, .iconst (-3), .ireturn] 50 = true := qck_r (nn_ _) (by decide +kernel)
theorem bs_X11_table_e_44 {P : Zt → Option Zv → Prop} (K : Int → Zl → List Zv → Zt → Prop) : sx_ K P [.ifCond .ne 50, .iconst (-3), .ireturn] 50 = x_ifCond .ne 50 K (x_iconst (-3) (x_ireturn P)) := ((xe_ifCond .ne 50).trans (congrArg (x_ifCond .ne 50 K) ((xe_iconst (-3)).trans (congrArg (x_iconst (-3)) (xe_ireturn)))))
theorem bk_X11_table_e_50 : ck_ fX11 (some .int) cX11_table 50 [.aload 0, .iload 1, .iload 3] 53 = true := qck_r (nn_ _) (by decide +kernel)
theorem bs_X11_table_e_50 {P : Zt → Option Zv → Prop} (K : Int → Zl → List Zv → Zt → Prop) : sx_ K P [.aload 0, .iload 1, .iload 3] 53 = x_aload 0 (x_iload 1 (x_iload 3 (K 53))) := ((xe_aload 0).trans (congrArg (x_aload 0) ((xe_iload 1).trans (congrArg (x_iload 1) ((xe_iload 3).trans (congrArg (x_iload 3) xe_nil))))))
theorem bk_X11_table_e_56 : ck_ fX11 (some .int) cX11_table 56 [.ifCond .ne 62, .iconst (-4), .ireturn] 62 = true := qck_r (nn_ _) (by decide +kernel)
theorem bs_X11_table_e_56 {P : Zt → Option Zv → Prop} (K : Int → Zl → List Zv → Zt → Prop) : sx_ K P [.ifCond .ne 62, .iconst (-4), .ireturn] 62 = x_ifCond .ne 62 K (x_iconst (-4) (x_ireturn P)) := ((xe_ifCond .ne 62).trans (congrArg (x_ifCond .ne 62 K) ((xe_iconst (-4)).trans (congrArg (x_iconst (-4)) (xe_ireturn)))))
theorem bk_X11_table_e_62 : ck_ fX11 (some .int) cX11_table 62 [.aload 0, .iload 1, .iload 2] 65 = true := qck_r (nn_ _) (by decide +kernel)
theorem bs_X11_table_e_62 {P : Zt → Option Zv → Prop} (K : Int → Zl → List Zv → Zt → Prop) : sx_ K P [.aload 0, .iload 1, .iload 2] 65 = x_aload 0 (x_iload 1 (x_iload 2 (K 65))) := ((xe_aload 0).trans (congrArg (x_aload 0) ((xe_iload 1).trans (congrArg (x_iload 1) ((xe_iload 2).trans (congrArg (x_iload 2) xe_nil))))))
theorem bk_X11_table_e_68 : ck_ fX11 (some .int) cX11_table 68 [.iload 4, .iconst 7, .if_icmp .ne 83, .aload 0, .iload 3] 77 = true := qck_r (nn_ _) (by decide +kernel)
theorem bs_X11_table_e_68 {P : Zt → Option Zv → Prop} (K : Int → Zl → List Zv → Zt → Prop) : sx_ K P [.iload 4, .iconst 7, .if_icmp .ne 83, .aload 0, .iload 3] 77 = x_iload 4 (x_iconst 7 (x_if_icmp .ne 83 K (x_aload 0 (x_iload 3 (K 77))))) := ((xe_iload 4).trans (congrArg (x_iload 4) ((xe_iconst 7).trans (congrArg (x_iconst 7) ((xe_if_icmp .ne 83).trans (congrArg (x_if_icmp .ne 83 K) ((xe_aload 0).trans (congrArg (x_aload 0) ((xe_iload 3).trans (congrArg (x_iload 3) xe_nil))))))))))
theorem bk_X11_table_e_83 : ck_ fX11 (some .int) cX11_table 83 [.aload 0, .tableswitch 0 11 76 #[], .iconst 9, .iload 3, .imul, .iload 4, .iadd, .iaload] 95 = true := qck_r (nn_ _) (by decide +kernel)
theorem bs_X11_table_e_83 {P : Zt → Option Zv → Prop} (K : Int → Zl → List Zv → Zt → Prop) : sx_ K P [.aload 0, .tableswitch 0 11 76 #[], .iconst 9, .iload 3, .imul, .iload 4, .iadd, .iaload] 95 = x_aload 0 (x_g1 111 276 (x_iconst 9 (x_iload 3 (x_imul (x_iload 4 (x_iadd (x_iaload (K 95)))))))) := ((xe_aload 0).trans (congrArg (x_aload 0) ((xe_g1 (kk := 111) rfl tl_11_76).trans (congrArg (x_g1 111 276) ((xe_iconst 9).trans (congrArg (x_iconst 9) ((xe_iload 3).trans (congrArg (x_iload 3) ((xe_imul).trans (congrArg (x_imul) ((xe_iload 4).trans (congrArg (x_iload 4) ((xe_iadd).trans (congrArg (x_iadd) ((xe_iaload).trans (congrArg (x_iaload) xe_nil))))))))))))))))
theorem bk_X11_table_e_80 : ck_ fX11 (some .int) cX11_table 80 [.goto 95] 83 = true := qck_r (nn_ _) (by decide +kernel)
theorem bs_X11_table_e_80 {P : Zt → Option Zv → Prop} (K : Int → Zl → List Zv → Zt → Prop) : sx_ K P [.goto 95] 83 = x_goto 95 K := (xe_goto 95)
abbrev po_X11_table_e (T : Zt) (c d cl w : Int) : Zt → Option Zv → Prop := fun T' r => ∃ x : Int, r = some (vI x) ∧ fr_ [(276, []), (284, []), (277, []), (286, []), (278, []), (111, [82, 83, 85, 87, 79])] T T' ∧ ((x = -2 ∧ ¬ ((0 ≤ c ∧ c < T 111 0 6) ∧ (0 ≤ cl ∧ cl < T 111 0 12))) ∨ (x = -3 ∧ ((0 ≤ c ∧ c < T 111 0 6) ∧ (0 ≤ cl ∧ cl < T 111 0 12)) ∧ ¬ ((0 ≤ d ∧ d ≤ 999) ∧ (0 ≤ w ∧ w ≤ 7))) ∨ (x = -4 ∧ ((0 ≤ c ∧ c < T 111 0 6) ∧ (0 ≤ cl ∧ cl < T 111 0 12)) ∧ ((0 ≤ d ∧ d ≤ 999) ∧ (0 ≤ w ∧ w ≤ 7)) ∧ ¬ HE_ T c cl) ∨ (((0 ≤ c ∧ c < T 111 0 6) ∧ (0 ≤ cl ∧ cl < T 111 0 12)) ∧ ((0 ≤ d ∧ d ≤ 999) ∧ (0 ≤ w ∧ w ≤ 7)) ∧ HE_ T c cl ∧ TR_ T T' c d cl w x))
set_option maxHeartbeats 4000000 in
theorem ct_X11_table_e {T : Zt} {c d cl w : Int} (hri : RI_ T) (hml : ML_ T) (hsc : SC_ T) (hyb : YB_ T) (hen : EN_ T) (hgb : 0 ≤ c → c < T 111 0 6 → GB_ T c d) : Ct_ yX11_table zX11_table T [vR 111 0, vI c, vI d, vI cl, vI w] (po_X11_table_e T c d cl w) := by
  refine ct_of pn_11 rfl rfl (Nat.le_of_ble_eq_true rfl) (fun hT hav => ?_)
  have hr_c : -2147483648 ≤ c ∧ c ≤ 2147483647 := hav (vI c) (List.mem_cons_of_mem _ List.mem_cons_self)
  have hr_d : -2147483648 ≤ d ∧ d ≤ 2147483647 := hav (vI d) (List.mem_cons_of_mem _ (List.mem_cons_of_mem _ List.mem_cons_self))
  have hr_cl : -2147483648 ≤ cl ∧ cl ≤ 2147483647 := hav (vI cl) (List.mem_cons_of_mem _ (List.mem_cons_of_mem _ (List.mem_cons_of_mem _ List.mem_cons_self)))
  have hr_w : -2147483648 ≤ w ∧ w ≤ 2147483647 := hav (vI w) (List.mem_cons_of_mem _ (List.mem_cons_of_mem _ (List.mem_cons_of_mem _ (List.mem_cons_of_mem _ List.mem_cons_self))))
  have hz : zX11_table.2.2.2.1 = some .boolean → ∀ (T' : Zt) (x : Int), po_X11_table_e T c d cl w T' (some (vI x)) → 0 ≤ x ∧ x ≤ 1 := fun h => by cases h
  have hb_6 : 0 ≤ T 111 0 6 ∧ T 111 0 6 ≤ 4 := bd_f hT 111 6 tl_11_6 0
  have hb_12 : 0 ≤ T 111 0 12 ∧ T 111 0 12 ≤ 12 := bd_f hT 111 12 tl_11_12 0
  show J_ zX11_table T (po_X11_table_e T c d cl w) 0 0 0 [some (vR 111 0), some (vI c), some (vI d), some (vI cl), some (vI w)] [] T
  have c_95 : ∀ (v : Int) (T9 : Zt), (fr_ [(276, []), (284, []), (277, []), (286, []), (278, []), (111, [82, 83, 85, 87, 79])] T T9) → (((0 ≤ c ∧ c < T 111 0 6) ∧ (0 ≤ cl ∧ cl < T 111 0 12)) ∧ ((0 ≤ d ∧ d ≤ 999) ∧ (0 ≤ w ∧ w ≤ 7))) → (HE_ T c cl) → (TR_ T T9 c d cl w v) → J_ zX11_table T (po_X11_table_e T c d cl w) 0 0 95 [some (vR 111 0), some (vI c), some (vI d), some (vI cl), some (vI w)] [vI v] T9 := by
    intro v T9 hf_95 v1 hhe v9
    refine j_blx (F := fX11) tb_X11 (nn_ _) bk_X11_table_e_95 bs_X11_table_e_95 hz (fun K hK => ?_)
    refine (show po_X11_table_e T c d cl w T9 (some (vI v)) from ?_)
    exact ⟨_, rfl, fr_t (fr_0 _ _) (fr_s hf_95 rfl), Or.inr (Or.inr (Or.inr ⟨by omega, by omega, hhe, v9⟩))⟩
  refine j_blx (F := fX11) tb_X11 (nn_ _) bk_X11_table_e_0 bs_X11_table_e_0 hz (fun K hK => ?_)
  intro b1 b1b
  refine hK 5 _ [vI (T 111 0 6), vI c] T ?_
  refine j_callS (y := yX11_isOf) (Yc := zX11_isOf) (rest := []) [vI c, vI (T 111 0 6)] (ct_X11_isOf (T := T) (by omega)) cl_X11_317 (qd_c (by decide +kernel)) (nn_ _) rfl (rf_of rfl) (Nat.le_of_ble_eq_true rfl) (Nat.le_of_ble_eq_true rfl) (Nat.le_of_ble_eq_true rfl) rfl ?_
  rintro _ _ ⟨rfl, x2, rfl, hx2⟩
  show J_ zX11_table T (po_X11_table_e T c d cl w) 0 0 8 _ [vI x2] T
  refine j_blx (F := fX11) tb_X11 (nn_ _) bk_X11_table_e_8 bs_X11_table_e_8 hz (fun K hK => ?_)
  refine And.intro (fun c3 => ?_) (fun c3 => ?_)
  · replace hx2 := hx2.resolve_left (fun z => absurd (c3.symm.trans z.1) (by decide))
    clear c3
    refine hK 22 _ [] T ?_
    refine j_blx (F := fX11) tb_X11 (nn_ _) bk_X11_table_e_22 bs_X11_table_e_22 hz (fun K hK => ?_)
    refine (show po_X11_table_e T c d cl w T (some (vI (-2))) from ?_)
    exact ⟨_, rfl, fr_0 _ _, Or.inl ⟨rfl, by omega⟩⟩
  · replace hx2 := hx2.resolve_right (fun z => c3 z.1)
    clear c3
    intro b4 b4b
    refine hK 16 _ [vI (T 111 0 12), vI cl] T ?_
    refine j_callS (y := yX11_isOf) (Yc := zX11_isOf) (rest := []) [vI cl, vI (T 111 0 12)] (ct_X11_isOf (T := T) (by omega)) cl_X11_317 (qd_c (by decide +kernel)) (nn_ _) rfl (rf_of rfl) (Nat.le_of_ble_eq_true rfl) (Nat.le_of_ble_eq_true rfl) (Nat.le_of_ble_eq_true rfl) rfl ?_
    rintro _ _ ⟨rfl, x5, rfl, hx5⟩
    show J_ zX11_table T (po_X11_table_e T c d cl w) 0 0 19 _ [vI x5] T
    refine j_blx (F := fX11) tb_X11 (nn_ _) bk_X11_table_e_19 bs_X11_table_e_19 hz (fun K hK => ?_)
    refine And.intro (fun c6 => ?_) (fun c6 => ?_)
    · replace hx5 := hx5.resolve_right (fun z => c6 z.1)
      clear c6
      refine hK 25 _ [] T ?_
      refine j_blx (F := fX11) tb_X11 (nn_ _) bk_X11_table_e_25 bs_X11_table_e_25 hz (fun K hK => ?_)
      refine hK 30 _ [vI 999, vI 0, vI d] T ?_
      refine j_callS (y := yX11_in) (Yc := zX11_in) (rest := []) [vI d, vI 0, vI 999] (ct_X11_in (T := T)) cl_X11_255 (qd_c (by decide +kernel)) (nn_ _) rfl (rf_of rfl) (Nat.le_of_ble_eq_true rfl) (Nat.le_of_ble_eq_true rfl) (Nat.le_of_ble_eq_true rfl) rfl ?_
      rintro _ _ ⟨rfl, x7, rfl, hx7⟩
      show J_ zX11_table T (po_X11_table_e T c d cl w) 0 0 33 _ [vI x7] T
      refine j_blx (F := fX11) tb_X11 (nn_ _) bk_X11_table_e_33 bs_X11_table_e_33 hz (fun K hK => ?_)
      refine And.intro (fun c8 => ?_) (fun c8 => ?_)
      · replace hx7 := hx7.resolve_left (fun z => absurd (c8.symm.trans z.1) (by decide))
        clear c8
        refine hK 47 _ [] T ?_
        refine j_blx (F := fX11) tb_X11 (nn_ _) bk_X11_table_e_47 bs_X11_table_e_47 hz (fun K hK => ?_)
        refine (show po_X11_table_e T c d cl w T (some (vI (-3))) from ?_)
        exact ⟨_, rfl, fr_0 _ _, Or.inr (Or.inl ⟨rfl, by omega, by omega⟩)⟩
      · replace hx7 := hx7.resolve_right (fun z => c8 z.1)
        clear c8
        refine hK 41 _ [vI 7, vI 0, vI w] T ?_
        refine j_callS (y := yX11_in) (Yc := zX11_in) (rest := []) [vI w, vI 0, vI 7] (ct_X11_in (T := T)) cl_X11_255 (qd_c (by decide +kernel)) (nn_ _) rfl (rf_of rfl) (Nat.le_of_ble_eq_true rfl) (Nat.le_of_ble_eq_true rfl) (Nat.le_of_ble_eq_true rfl) rfl ?_
        rintro _ _ ⟨rfl, x9, rfl, hx9⟩
        show J_ zX11_table T (po_X11_table_e T c d cl w) 0 0 44 _ [vI x9] T
        refine j_blx (F := fX11) tb_X11 (nn_ _) bk_X11_table_e_44 bs_X11_table_e_44 hz (fun K hK => ?_)
        refine And.intro (fun c10 => ?_) (fun c10 => ?_)
        · replace hx9 := hx9.resolve_right (fun z => c10 z.1)
          clear c10
          refine hK 50 _ [] T ?_
          refine j_blx (F := fX11) tb_X11 (nn_ _) bk_X11_table_e_50 bs_X11_table_e_50 hz (fun K hK => ?_)
          refine hK 53 _ [vI cl, vI c, vR 111 0] T ?_
          refine j_callV (y := yX11_hasEntered) (Yc := zX11_hasEntered) (rest := []) [vI c, vI cl] (ct_X11_hasEntered (T := T) (by omega)) cl_X11_340 (qd_c (by decide +kernel)) (nn_ _) rfl (rf_of rfl) (Nat.le_of_ble_eq_true rfl) (Nat.le_of_ble_eq_true rfl) (Nat.le_of_ble_eq_true rfl) rfl ?_
          rintro _ _ ⟨rfl, x11, rfl, hx11⟩
          show J_ zX11_table T (po_X11_table_e T c d cl w) 0 0 56 _ [vI x11] T
          refine j_blx (F := fX11) tb_X11 (nn_ _) bk_X11_table_e_56 bs_X11_table_e_56 hz (fun K hK => ?_)
          refine And.intro (fun c12 => ?_) (fun c12 => ?_)
          · have hhe9 : HE_ T c cl := (hx11.resolve_right (fun z => absurd z.1 (by omega))).2
            refine hK 62 _ [] T ?_
            refine j_blx (F := fX11) tb_X11 (nn_ _) bk_X11_table_e_62 bs_X11_table_e_62 hz (fun K hK => ?_)
            refine hK 65 _ [vI d, vI c, vR 111 0] T ?_
            refine j_callV (y := yX11_orderAll) (Yc := zX11_orderAll) (rest := []) [vI c, vI d] (ct_X11_orderAll_e (T := T) (by omega) (by exact hri) (by exact hml) (by exact hsc) (by exact hyb) (by exact hen) (by exact hgb (by omega) (by omega))) cl_X11_532 (qd_c (by decide +kernel)) (nn_ _) rfl (rf_of rfl) (Nat.le_of_ble_eq_true rfl) (Nat.le_of_ble_eq_true rfl) (Nat.le_of_ble_eq_true rfl) rfl ?_
            rintro U13 _ ⟨rfl, fU13, ⟨qU13a, qU13b, qU13c, qU13d, qU13m, qU13r⟩⟩
            show J_ zX11_table T (po_X11_table_e T c d cl w) 0 0 68 _ [] U13
            refine j_blx (F := fX11) tb_X11 (nn_ _) bk_X11_table_e_68 bs_X11_table_e_68 hz (fun K hK => ?_)
            refine And.intro (fun c14 => ?_) (fun c14 => ?_)
            · refine hK 83 _ [] U13 ?_
              refine j_blx (F := fX11) tb_X11 (nn_ _) bk_X11_table_e_83 bs_X11_table_e_83 hz (fun K hK => ?_)
              refine rg_i (by omega) ?_
              refine rg_i (by omega) ?_
              refine ix_i (by omega) ?_
              intro b15 b15b
              refine hK 95 _ [vI (U13 276 0 ((9 * cl) + w))] U13 ?_
              refine c_95 (U13 276 0 ((9 * cl) + w)) U13 ?_ ?_ ?_ ?_
              · exact fr_t (fr_0 _ _) (fr_s fU13 rfl)
              · omega
              · exact hhe9
              · exact tr_n rfl qU13r qU13c qU13d (by omega) rfl
            · refine hK 77 _ [vI cl, vR 111 0] U13 ?_
              refine j_callV (y := yX11_placeOf) (Yc := zX11_placeOf) (rest := []) [vI cl] (ct_X11_placeOf_e (T := U13) (by exact qU13b cl ((hx11.resolve_right (fun z => absurd z.1 (by omega))).2))) cl_X11_535 (qd_c (by decide +kernel)) (nn_ _) rfl (rf_of rfl) (Nat.le_of_ble_eq_true rfl) (Nat.le_of_ble_eq_true rfl) (Nat.le_of_ble_eq_true rfl) rfl ?_
              rintro _ _ ⟨rfl, x16, rfl, hx16⟩
              show J_ zX11_table T (po_X11_table_e T c d cl w) 0 0 80 _ [vI x16] U13
              refine j_blx (F := fX11) tb_X11 (nn_ _) bk_X11_table_e_80 bs_X11_table_e_80 hz (fun K hK => ?_)
              refine hK 95 _ [vI x16] U13 ?_
              refine c_95 x16 U13 ?_ ?_ ?_ ?_
              · exact fr_t (fr_0 _ _) (fr_s fU13 rfl)
              · omega
              · exact hhe9
              · have z7 : w = 7 := by omega
                rw [z7]
                exact tr_7 rfl qU13r qU13c hhe9 qU13d hx16
          · refine (show po_X11_table_e T c d cl w T (some (vI (-4))) from ?_)
            exact ⟨_, rfl, fr_0 _ _, Or.inr (Or.inr (Or.inl ⟨rfl, by omega, by omega, (hx11.resolve_left (fun z => absurd z.1 (by omega))).2⟩))⟩
        · replace hx9 := hx9.resolve_left (fun z => absurd (c10.symm.trans z.1) (by decide))
          clear c10
          refine (show po_X11_table_e T c d cl w T (some (vI (-3))) from ?_)
          exact ⟨_, rfl, fr_0 _ _, Or.inr (Or.inl ⟨rfl, by omega, by omega⟩)⟩
    · replace hx5 := hx5.resolve_left (fun z => absurd (c6.symm.trans z.1) (by decide))
      clear c6
      refine (show po_X11_table_e T c d cl w T (some (vI (-2))) from ?_)
      exact ⟨_, rfl, fr_0 _ _, Or.inl ⟨rfl, by omega⟩⟩
theorem bk_X11_standing_e_55 : ck_ fX11 (some .int) cX11_standing 55 [.ireturn] 56 = true := qck_r (nn_ _) (by decide +kernel)
theorem bs_X11_standing_e_55 {P : Zt → Option Zv → Prop} (K : Int → Zl → List Zv → Zt → Prop) : sx_ K P [.ireturn] 56 = x_ireturn P := (xe_ireturn)
theorem bk_X11_standing_e_0 : ck_ fX11 (some .int) cX11_standing 0 [.iload 1, .aload 0, .tableswitch 0 11 6 #[]] 5 = true := qck_r (nn_ _) (by decide +kernel)
theorem bs_X11_standing_e_0 {P : Zt → Option Zv → Prop} (K : Int → Zl → List Zv → Zt → Prop) : sx_ K P [.iload 1, .aload 0, .tableswitch 0 11 6 #[]] 5 = x_iload 1 (x_aload 0 (x_g0 111 6 0 4 (K 5))) := ((xe_iload 1).trans (congrArg (x_iload 1) ((xe_aload 0).trans (congrArg (x_aload 0) ((xe_g0 (kk := 111) rfl tl_11_6).trans (congrArg (x_g0 111 6 0 4) xe_nil))))))
theorem bk_X11_standing_e_8 : ck_ fX11 (some .int) cX11_standing 8 [.ifCond .ne 14, .iconst (-2), .ireturn] 14 = true := qck_r (nn_ _) (by decide +kernel)
theorem bs_X11_standing_e_8 {P : Zt → Option Zv → Prop} (K : Int → Zl → List Zv → Zt → Prop) : sx_ K P [.ifCond .ne 14, .iconst (-2), .ireturn] 14 = x_ifCond .ne 14 K (x_iconst (-2) (x_ireturn P)) := ((xe_ifCond .ne 14).trans (congrArg (x_ifCond .ne 14 K) ((xe_iconst (-2)).trans (congrArg (x_iconst (-2)) (xe_ireturn)))))
theorem bk_X11_standing_e_14 : ck_ fX11 (some .int) cX11_standing 14 [.iload 2, .iconst 0, .iconst 999] 19 = true := qck_r (nn_ _) (by decide +kernel)
theorem bs_X11_standing_e_14 {P : Zt → Option Zv → Prop} (K : Int → Zl → List Zv → Zt → Prop) : sx_ K P [.iload 2, .iconst 0, .iconst 999] 19 = x_iload 2 (x_iconst 0 (x_iconst 999 (K 19))) := ((xe_iload 2).trans (congrArg (x_iload 2) ((xe_iconst 0).trans (congrArg (x_iconst 0) ((xe_iconst 999).trans (congrArg (x_iconst 999) xe_nil))))))
theorem bk_X11_standing_e_22 : ck_ fX11 (some .int) cX11_standing 22 [.ifCond .ne 28, .iconst (-3), .ireturn] 28 = true := qck_r (nn_ _) (by decide +kernel)
theorem bs_X11_standing_e_22 {P : Zt → Option Zv → Prop} (K : Int → Zl → List Zv → Zt → Prop) : sx_ K P [.ifCond .ne 28, .iconst (-3), .ireturn] 28 = x_ifCond .ne 28 K (x_iconst (-3) (x_ireturn P)) := ((xe_ifCond .ne 28).trans (congrArg (x_ifCond .ne 28 K) ((xe_iconst (-3)).trans (congrArg (x_iconst (-3)) (xe_ireturn)))))
theorem bk_X11_standing_e_28 : ck_ fX11 (some .int) cX11_standing 28 [.aload 0, .iload 1, .iload 2] 31 = true := qck_r (nn_ _) (by decide +kernel)
theorem bs_X11_standing_e_28 {P : Zt → Option Zv → Prop} (K : Int → Zl → List Zv → Zt → Prop) : sx_ K P [.aload 0, .iload 1, .iload 2] 31 = x_aload 0 (x_iload 1 (x_iload 2 (K 31))) := ((xe_aload 0).trans (congrArg (x_aload 0) ((xe_iload 1).trans (congrArg (x_iload 1) ((xe_iload 2).trans (congrArg (x_iload 2) xe_nil))))))
theorem bk_X11_standing_e_34 : ck_ fX11 (some .int) cX11_standing 34 [.iload 3, .aload 0, .tableswitch 0 11 79 #[]] 39 = true := qck_r (nn_ _) (by decide +kernel)
theorem bs_X11_standing_e_34 {P : Zt → Option Zv → Prop} (K : Int → Zl → List Zv → Zt → Prop) : sx_ K P [.iload 3, .aload 0, .tableswitch 0 11 79 #[]] 39 = x_iload 3 (x_aload 0 (x_g0 111 79 0 12 (K 39))) := ((xe_iload 3).trans (congrArg (x_iload 3) ((xe_aload 0).trans (congrArg (x_aload 0) ((xe_g0 (kk := 111) rfl tl_11_79).trans (congrArg (x_g0 111 79 0 12) xe_nil))))))
theorem bk_X11_standing_e_42 : ck_ fX11 (some .int) cX11_standing 42 [.ifCond .eq 54, .aload 0, .tableswitch 0 11 77 #[], .iload 3, .iaload, .goto 55] 54 = true := qck_r (nn_ _) (by decide +kernel)
theorem bs_X11_standing_e_42 {P : Zt → Option Zv → Prop} (K : Int → Zl → List Zv → Zt → Prop) : sx_ K P [.ifCond .eq 54, .aload 0, .tableswitch 0 11 77 #[], .iload 3, .iaload, .goto 55] 54 = x_ifCond .eq 54 K (x_aload 0 (x_g1 111 277 (x_iload 3 (x_iaload (x_goto 55 K))))) := ((xe_ifCond .eq 54).trans (congrArg (x_ifCond .eq 54 K) ((xe_aload 0).trans (congrArg (x_aload 0) ((xe_g1 (kk := 111) rfl tl_11_77).trans (congrArg (x_g1 111 277) ((xe_iload 3).trans (congrArg (x_iload 3) ((xe_iaload).trans (congrArg (x_iaload) (xe_goto 55)))))))))))
theorem bk_X11_standing_e_54 : ck_ fX11 (some .int) cX11_standing 54 [.iconst (-1)] 55 = true := qck_r (nn_ _) (by decide +kernel)
theorem bs_X11_standing_e_54 {P : Zt → Option Zv → Prop} (K : Int → Zl → List Zv → Zt → Prop) : sx_ K P [.iconst (-1)] 55 = x_iconst (-1) (K 55) := ((xe_iconst (-1)).trans (congrArg (x_iconst (-1)) xe_nil))
abbrev po_X11_standing_e (T : Zt) (c d k : Int) : Zt → Option Zv → Prop := fun T' r => ∃ x : Int, r = some (vI x) ∧ fr_ [(276, []), (284, []), (277, []), (286, []), (278, []), (111, [82, 83, 85, 87, 79])] T T' ∧ ((x = -2 ∧ ¬ (0 ≤ c ∧ c < T 111 0 6)) ∨ (x = -3 ∧ (0 ≤ c ∧ c < T 111 0 6) ∧ ¬ (0 ≤ d ∧ d ≤ 999)) ∨ ((0 ≤ c ∧ c < T 111 0 6) ∧ (0 ≤ d ∧ d ≤ 999) ∧ ((0 ≤ k ∧ k < T 208 0 c) → x = (RKm_ T' c d (T 208 0 c)).1 k) ∧ (¬ (0 ≤ k ∧ k < T 208 0 c) → x = -1) ∧ TD_ T T' (fun w => T 205 0 (23 * c + w)) (fun k => vR_ T d (T 210 0 c + k)) (T 211 0 c).toNat c d (T 111 0 24).toNat))
set_option maxHeartbeats 4000000 in
theorem ct_X11_standing_e {T : Zt} {c d k : Int} (hri : RI_ T) (hml : ML_ T) (hsc : SC_ T) (hyb : YB_ T) (hen : EN_ T) (hgb : 0 ≤ c → c < T 111 0 6 → GB_ T c d) : Ct_ yX11_standing zX11_standing T [vR 111 0, vI c, vI d, vI k] (po_X11_standing_e T c d k) := by
  refine ct_of pn_11 rfl rfl (Nat.le_of_ble_eq_true rfl) (fun hT hav => ?_)
  have hr_c : -2147483648 ≤ c ∧ c ≤ 2147483647 := hav (vI c) (List.mem_cons_of_mem _ List.mem_cons_self)
  have hr_d : -2147483648 ≤ d ∧ d ≤ 2147483647 := hav (vI d) (List.mem_cons_of_mem _ (List.mem_cons_of_mem _ List.mem_cons_self))
  have hr_k : -2147483648 ≤ k ∧ k ≤ 2147483647 := hav (vI k) (List.mem_cons_of_mem _ (List.mem_cons_of_mem _ (List.mem_cons_of_mem _ List.mem_cons_self)))
  have hz : zX11_standing.2.2.2.1 = some .boolean → ∀ (T' : Zt) (x : Int), po_X11_standing_e T c d k T' (some (vI x)) → 0 ≤ x ∧ x ≤ 1 := fun h => by cases h
  have hb_6 : 0 ≤ T 111 0 6 ∧ T 111 0 6 ≤ 4 := bd_f hT 111 6 tl_11_6 0
  have hb_12 : 0 ≤ T 111 0 12 ∧ T 111 0 12 ≤ 12 := bd_f hT 111 12 tl_11_12 0
  show J_ zX11_standing T (po_X11_standing_e T c d k) 0 0 0 [some (vR 111 0), some (vI c), some (vI d), some (vI k)] [] T
  have c_55 : ∀ (v : Int) (T9 : Zt), (fr_ [(276, []), (284, []), (277, []), (286, []), (278, []), (111, [82, 83, 85, 87, 79])] T T9) → ((0 ≤ c ∧ c < T 111 0 6) ∧ (0 ≤ d ∧ d ≤ 999)) → (((0 ≤ k ∧ k < T 208 0 c) → v = (RKm_ T9 c d (T 208 0 c)).1 k) ∧ (¬ (0 ≤ k ∧ k < T 208 0 c) → v = -1) ∧ TD_ T T9 (fun w => T 205 0 (23 * c + w)) (fun k => vR_ T d (T 210 0 c + k)) (T 211 0 c).toNat c d (T 111 0 24).toNat) → J_ zX11_standing T (po_X11_standing_e T c d k) 0 0 55 [some (vR 111 0), some (vI c), some (vI d), some (vI k)] [vI v] T9 := by
    intro v T9 hf_55 v1 v9
    refine j_blx (F := fX11) tb_X11 (nn_ _) bk_X11_standing_e_55 bs_X11_standing_e_55 hz (fun K hK => ?_)
    refine (show po_X11_standing_e T c d k T9 (some (vI v)) from ?_)
    exact ⟨_, rfl, fr_t (fr_0 _ _) (fr_s hf_55 rfl), Or.inr (Or.inr ⟨by omega, by omega, v9⟩)⟩
  refine j_blx (F := fX11) tb_X11 (nn_ _) bk_X11_standing_e_0 bs_X11_standing_e_0 hz (fun K hK => ?_)
  intro b1 b1b
  refine hK 5 _ [vI (T 111 0 6), vI c] T ?_
  refine j_callS (y := yX11_isOf) (Yc := zX11_isOf) (rest := []) [vI c, vI (T 111 0 6)] (ct_X11_isOf (T := T) (by omega)) cl_X11_317 (qd_c (by decide +kernel)) (nn_ _) rfl (rf_of rfl) (Nat.le_of_ble_eq_true rfl) (Nat.le_of_ble_eq_true rfl) (Nat.le_of_ble_eq_true rfl) rfl ?_
  rintro _ _ ⟨rfl, x2, rfl, hx2⟩
  show J_ zX11_standing T (po_X11_standing_e T c d k) 0 0 8 _ [vI x2] T
  refine j_blx (F := fX11) tb_X11 (nn_ _) bk_X11_standing_e_8 bs_X11_standing_e_8 hz (fun K hK => ?_)
  refine And.intro (fun c3 => ?_) (fun c3 => ?_)
  · replace hx2 := hx2.resolve_right (fun z => c3 z.1)
    clear c3
    refine hK 14 _ [] T ?_
    refine j_blx (F := fX11) tb_X11 (nn_ _) bk_X11_standing_e_14 bs_X11_standing_e_14 hz (fun K hK => ?_)
    refine hK 19 _ [vI 999, vI 0, vI d] T ?_
    refine j_callS (y := yX11_in) (Yc := zX11_in) (rest := []) [vI d, vI 0, vI 999] (ct_X11_in (T := T)) cl_X11_255 (qd_c (by decide +kernel)) (nn_ _) rfl (rf_of rfl) (Nat.le_of_ble_eq_true rfl) (Nat.le_of_ble_eq_true rfl) (Nat.le_of_ble_eq_true rfl) rfl ?_
    rintro _ _ ⟨rfl, x4, rfl, hx4⟩
    show J_ zX11_standing T (po_X11_standing_e T c d k) 0 0 22 _ [vI x4] T
    refine j_blx (F := fX11) tb_X11 (nn_ _) bk_X11_standing_e_22 bs_X11_standing_e_22 hz (fun K hK => ?_)
    refine And.intro (fun c5 => ?_) (fun c5 => ?_)
    · replace hx4 := hx4.resolve_right (fun z => c5 z.1)
      clear c5
      refine hK 28 _ [] T ?_
      refine j_blx (F := fX11) tb_X11 (nn_ _) bk_X11_standing_e_28 bs_X11_standing_e_28 hz (fun K hK => ?_)
      refine hK 31 _ [vI d, vI c, vR 111 0] T ?_
      refine j_callV (y := yX11_orderAll) (Yc := zX11_orderAll) (rest := []) [vI c, vI d] (ct_X11_orderAll_e (T := T) (by omega) (by exact hri) (by exact hml) (by exact hsc) (by exact hyb) (by exact hen) (by exact hgb (by omega) (by omega))) cl_X11_532 (qd_c (by decide +kernel)) (nn_ _) rfl (rf_of rfl) (Nat.le_of_ble_eq_true rfl) (Nat.le_of_ble_eq_true rfl) (Nat.le_of_ble_eq_true rfl) rfl ?_
      rintro U6 _ ⟨rfl, fU6, ⟨qU6a, qU6b, qU6c, qU6d, qU6m, qU6r⟩⟩
      show J_ zX11_standing T (po_X11_standing_e T c d k) 0 0 34 _ [] U6
      refine j_blx (F := fX11) tb_X11 (nn_ _) bk_X11_standing_e_34 bs_X11_standing_e_34 hz (fun K hK => ?_)
      intro b7 b7b
      refine hK 39 _ [vI (U6 111 0 79), vI k] U6 ?_
      refine j_callS (y := yX11_isOf) (Yc := zX11_isOf) (rest := []) [vI k, vI (U6 111 0 79)] (ct_X11_isOf (T := U6) (by omega)) cl_X11_317 (qd_c (by decide +kernel)) (nn_ _) rfl (rf_of rfl) (Nat.le_of_ble_eq_true rfl) (Nat.le_of_ble_eq_true rfl) (Nat.le_of_ble_eq_true rfl) rfl ?_
      rintro _ _ ⟨rfl, x8, rfl, hx8⟩
      show J_ zX11_standing T (po_X11_standing_e T c d k) 0 0 42 _ [vI x8] U6
      refine j_blx (F := fX11) tb_X11 (nn_ _) bk_X11_standing_e_42 bs_X11_standing_e_42 hz (fun K hK => ?_)
      refine And.intro (fun c9 => ?_) (fun c9 => ?_)
      · replace hx8 := hx8.resolve_left (fun z => absurd (c9.symm.trans z.1) (by decide))
        clear c9
        refine hK 54 _ [] U6 ?_
        refine j_blx (F := fX11) tb_X11 (nn_ _) bk_X11_standing_e_54 bs_X11_standing_e_54 hz (fun K hK => ?_)
        refine hK 55 _ [vI (-1)] U6 ?_
        refine c_55 (-1) U6 ?_ ?_ ?_
        · exact fr_t (fr_0 _ _) (fr_s fU6 rfl)
        · omega
        · exact ⟨fun z => absurd z (by omega), fun _ => rfl, qU6d⟩
      · replace hx8 := hx8.resolve_right (fun z => c9 z.1)
        clear c9
        refine ix_i (by omega) ?_
        intro b10 b10b
        refine hK 55 _ [vI (U6 277 0 k)] U6 ?_
        refine c_55 (U6 277 0 k) U6 ?_ ?_ ?_
        · exact fr_t (fr_0 _ _) (fr_s fU6 rfl)
        · omega
        · exact ⟨fun _ => by rw [← qU6r]; exact (mk_v (n := T 208 0 c) (o := fun x => U6 277 0 x) (x := k) (by omega)).symm, fun z => absurd z (by omega), qU6d⟩
    · replace hx4 := hx4.resolve_left (fun z => absurd (c5.symm.trans z.1) (by decide))
      clear c5
      refine (show po_X11_standing_e T c d k T (some (vI (-3))) from ?_)
      exact ⟨_, rfl, fr_0 _ _, Or.inr (Or.inl ⟨rfl, by omega, by omega⟩)⟩
  · replace hx2 := hx2.resolve_left (fun z => absurd (c3.symm.trans z.1) (by decide))
    clear c3
    refine (show po_X11_standing_e T c d k T (some (vI (-2))) from ?_)
    exact ⟨_, rfl, fr_0 _ _, Or.inl ⟨rfl, by omega⟩⟩
theorem bk_X11_parted_e_57 : ck_ fX11 (some .int) cX11_parted 57 [.ireturn] 58 = true := qck_r (nn_ _) (by decide +kernel)
theorem bs_X11_parted_e_57 {P : Zt → Option Zv → Prop} (K : Int → Zl → List Zv → Zt → Prop) : sx_ K P [.ireturn] 58 = x_ireturn P := (xe_ireturn)
theorem bk_X11_parted_e_0 : ck_ fX11 (some .int) cX11_parted 0 [.iload 1, .aload 0, .tableswitch 0 11 6 #[]] 5 = true := qck_r (nn_ _) (by decide +kernel)
theorem bs_X11_parted_e_0 {P : Zt → Option Zv → Prop} (K : Int → Zl → List Zv → Zt → Prop) : sx_ K P [.iload 1, .aload 0, .tableswitch 0 11 6 #[]] 5 = x_iload 1 (x_aload 0 (x_g0 111 6 0 4 (K 5))) := ((xe_iload 1).trans (congrArg (x_iload 1) ((xe_aload 0).trans (congrArg (x_aload 0) ((xe_g0 (kk := 111) rfl tl_11_6).trans (congrArg (x_g0 111 6 0 4) xe_nil))))))
theorem bk_X11_parted_e_8 : ck_ fX11 (some .int) cX11_parted 8 [.ifCond .ne 14, .iconst (-2), .ireturn] 14 = true := qck_r (nn_ _) (by decide +kernel)
theorem bs_X11_parted_e_8 {P : Zt → Option Zv → Prop} (K : Int → Zl → List Zv → Zt → Prop) : sx_ K P [.ifCond .ne 14, .iconst (-2), .ireturn] 14 = x_ifCond .ne 14 K (x_iconst (-2) (x_ireturn P)) := ((xe_ifCond .ne 14).trans (congrArg (x_ifCond .ne 14 K) ((xe_iconst (-2)).trans (congrArg (x_iconst (-2)) (xe_ireturn)))))
theorem bk_X11_parted_e_14 : ck_ fX11 (some .int) cX11_parted 14 [.iload 2, .iconst 0, .iconst 999] 19 = true := qck_r (nn_ _) (by decide +kernel)
theorem bs_X11_parted_e_14 {P : Zt → Option Zv → Prop} (K : Int → Zl → List Zv → Zt → Prop) : sx_ K P [.iload 2, .iconst 0, .iconst 999] 19 = x_iload 2 (x_iconst 0 (x_iconst 999 (K 19))) := ((xe_iload 2).trans (congrArg (x_iload 2) ((xe_iconst 0).trans (congrArg (x_iconst 0) ((xe_iconst 999).trans (congrArg (x_iconst 999) xe_nil))))))
theorem bk_X11_parted_e_22 : ck_ fX11 (some .int) cX11_parted 22 [.ifCond .ne 28, .iconst (-3), .ireturn] 28 = true := qck_r (nn_ _) (by decide +kernel)
theorem bs_X11_parted_e_22 {P : Zt → Option Zv → Prop} (K : Int → Zl → List Zv → Zt → Prop) : sx_ K P [.ifCond .ne 28, .iconst (-3), .ireturn] 28 = x_ifCond .ne 28 K (x_iconst (-3) (x_ireturn P)) := ((xe_ifCond .ne 28).trans (congrArg (x_ifCond .ne 28 K) ((xe_iconst (-3)).trans (congrArg (x_iconst (-3)) (xe_ireturn)))))
theorem bk_X11_parted_e_28 : ck_ fX11 (some .int) cX11_parted 28 [.aload 0, .iload 1, .iload 2] 31 = true := qck_r (nn_ _) (by decide +kernel)
theorem bs_X11_parted_e_28 {P : Zt → Option Zv → Prop} (K : Int → Zl → List Zv → Zt → Prop) : sx_ K P [.aload 0, .iload 1, .iload 2] 31 = x_aload 0 (x_iload 1 (x_iload 2 (K 31))) := ((xe_aload 0).trans (congrArg (x_aload 0) ((xe_iload 1).trans (congrArg (x_iload 1) ((xe_iload 2).trans (congrArg (x_iload 2) xe_nil))))))
theorem bk_X11_parted_e_34 : ck_ fX11 (some .int) cX11_parted 34 [.iload 3, .aload 0, .tableswitch 0 11 79 #[], .iconst 1, .isub] 41 = true := qck_r (nn_ _) (by decide +kernel)
theorem bs_X11_parted_e_34 {P : Zt → Option Zv → Prop} (K : Int → Zl → List Zv → Zt → Prop) : sx_ K P [.iload 3, .aload 0, .tableswitch 0 11 79 #[], .iconst 1, .isub] 41 = x_iload 3 (x_aload 0 (x_g0 111 79 0 12 (x_iconst 1 (x_isub (K 41))))) := ((xe_iload 3).trans (congrArg (x_iload 3) ((xe_aload 0).trans (congrArg (x_aload 0) ((xe_g0 (kk := 111) rfl tl_11_79).trans (congrArg (x_g0 111 79 0 12) ((xe_iconst 1).trans (congrArg (x_iconst 1) ((xe_isub).trans (congrArg (x_isub) xe_nil))))))))))
theorem bk_X11_parted_e_44 : ck_ fX11 (some .int) cX11_parted 44 [.ifCond .eq 56, .aload 0, .tableswitch 0 11 78 #[], .iload 3, .iaload, .goto 57] 56 = true := qck_r (nn_ _) (by decide +kernel)
theorem bs_X11_parted_e_44 {P : Zt → Option Zv → Prop} (K : Int → Zl → List Zv → Zt → Prop) : sx_ K P [.ifCond .eq 56, .aload 0, .tableswitch 0 11 78 #[], .iload 3, .iaload, .goto 57] 56 = x_ifCond .eq 56 K (x_aload 0 (x_g1 111 278 (x_iload 3 (x_iaload (x_goto 57 K))))) := ((xe_ifCond .eq 56).trans (congrArg (x_ifCond .eq 56 K) ((xe_aload 0).trans (congrArg (x_aload 0) ((xe_g1 (kk := 111) rfl tl_11_78).trans (congrArg (x_g1 111 278) ((xe_iload 3).trans (congrArg (x_iload 3) ((xe_iaload).trans (congrArg (x_iaload) (xe_goto 57)))))))))))
theorem bk_X11_parted_e_56 : ck_ fX11 (some .int) cX11_parted 56 [.iconst (-1)] 57 = true := qck_r (nn_ _) (by decide +kernel)
theorem bs_X11_parted_e_56 {P : Zt → Option Zv → Prop} (K : Int → Zl → List Zv → Zt → Prop) : sx_ K P [.iconst (-1)] 57 = x_iconst (-1) (K 57) := ((xe_iconst (-1)).trans (congrArg (x_iconst (-1)) xe_nil))
abbrev po_X11_parted_e (T : Zt) (c d k : Int) : Zt → Option Zv → Prop := fun T' r => ∃ x : Int, r = some (vI x) ∧ fr_ [(276, []), (284, []), (277, []), (286, []), (278, []), (111, [82, 83, 85, 87, 79])] T T' ∧ ((x = -2 ∧ ¬ (0 ≤ c ∧ c < T 111 0 6)) ∨ (x = -3 ∧ (0 ≤ c ∧ c < T 111 0 6) ∧ ¬ (0 ≤ d ∧ d ≤ 999)) ∨ ((0 ≤ c ∧ c < T 111 0 6) ∧ (0 ≤ d ∧ d ≤ 999) ∧ ((0 ≤ k ∧ k < T 208 0 c - 1) → x = (RKm_ T' c d (T 208 0 c)).2 k) ∧ (¬ (0 ≤ k ∧ k < T 208 0 c - 1) → x = -1) ∧ TD_ T T' (fun w => T 205 0 (23 * c + w)) (fun k => vR_ T d (T 210 0 c + k)) (T 211 0 c).toNat c d (T 111 0 24).toNat))
set_option maxHeartbeats 4000000 in
theorem ct_X11_parted_e {T : Zt} {c d k : Int} (hri : RI_ T) (hml : ML_ T) (hsc : SC_ T) (hyb : YB_ T) (hen : EN_ T) (hgb : 0 ≤ c → c < T 111 0 6 → GB_ T c d) : Ct_ yX11_parted zX11_parted T [vR 111 0, vI c, vI d, vI k] (po_X11_parted_e T c d k) := by
  refine ct_of pn_11 rfl rfl (Nat.le_of_ble_eq_true rfl) (fun hT hav => ?_)
  have hr_c : -2147483648 ≤ c ∧ c ≤ 2147483647 := hav (vI c) (List.mem_cons_of_mem _ List.mem_cons_self)
  have hr_d : -2147483648 ≤ d ∧ d ≤ 2147483647 := hav (vI d) (List.mem_cons_of_mem _ (List.mem_cons_of_mem _ List.mem_cons_self))
  have hr_k : -2147483648 ≤ k ∧ k ≤ 2147483647 := hav (vI k) (List.mem_cons_of_mem _ (List.mem_cons_of_mem _ (List.mem_cons_of_mem _ List.mem_cons_self)))
  have hz : zX11_parted.2.2.2.1 = some .boolean → ∀ (T' : Zt) (x : Int), po_X11_parted_e T c d k T' (some (vI x)) → 0 ≤ x ∧ x ≤ 1 := fun h => by cases h
  have hb_6 : 0 ≤ T 111 0 6 ∧ T 111 0 6 ≤ 4 := bd_f hT 111 6 tl_11_6 0
  have hb_12 : 0 ≤ T 111 0 12 ∧ T 111 0 12 ≤ 12 := bd_f hT 111 12 tl_11_12 0
  show J_ zX11_parted T (po_X11_parted_e T c d k) 0 0 0 [some (vR 111 0), some (vI c), some (vI d), some (vI k)] [] T
  have c_57 : ∀ (v : Int) (T9 : Zt), (fr_ [(276, []), (284, []), (277, []), (286, []), (278, []), (111, [82, 83, 85, 87, 79])] T T9) → ((0 ≤ c ∧ c < T 111 0 6) ∧ (0 ≤ d ∧ d ≤ 999)) → (((0 ≤ k ∧ k < T 208 0 c - 1) → v = (RKm_ T9 c d (T 208 0 c)).2 k) ∧ (¬ (0 ≤ k ∧ k < T 208 0 c - 1) → v = -1) ∧ TD_ T T9 (fun w => T 205 0 (23 * c + w)) (fun k => vR_ T d (T 210 0 c + k)) (T 211 0 c).toNat c d (T 111 0 24).toNat) → J_ zX11_parted T (po_X11_parted_e T c d k) 0 0 57 [some (vR 111 0), some (vI c), some (vI d), some (vI k)] [vI v] T9 := by
    intro v T9 hf_57 v1 v9
    refine j_blx (F := fX11) tb_X11 (nn_ _) bk_X11_parted_e_57 bs_X11_parted_e_57 hz (fun K hK => ?_)
    refine (show po_X11_parted_e T c d k T9 (some (vI v)) from ?_)
    exact ⟨_, rfl, fr_t (fr_0 _ _) (fr_s hf_57 rfl), Or.inr (Or.inr ⟨by omega, by omega, v9⟩)⟩
  refine j_blx (F := fX11) tb_X11 (nn_ _) bk_X11_parted_e_0 bs_X11_parted_e_0 hz (fun K hK => ?_)
  intro b1 b1b
  refine hK 5 _ [vI (T 111 0 6), vI c] T ?_
  refine j_callS (y := yX11_isOf) (Yc := zX11_isOf) (rest := []) [vI c, vI (T 111 0 6)] (ct_X11_isOf (T := T) (by omega)) cl_X11_317 (qd_c (by decide +kernel)) (nn_ _) rfl (rf_of rfl) (Nat.le_of_ble_eq_true rfl) (Nat.le_of_ble_eq_true rfl) (Nat.le_of_ble_eq_true rfl) rfl ?_
  rintro _ _ ⟨rfl, x2, rfl, hx2⟩
  show J_ zX11_parted T (po_X11_parted_e T c d k) 0 0 8 _ [vI x2] T
  refine j_blx (F := fX11) tb_X11 (nn_ _) bk_X11_parted_e_8 bs_X11_parted_e_8 hz (fun K hK => ?_)
  refine And.intro (fun c3 => ?_) (fun c3 => ?_)
  · replace hx2 := hx2.resolve_right (fun z => c3 z.1)
    clear c3
    refine hK 14 _ [] T ?_
    refine j_blx (F := fX11) tb_X11 (nn_ _) bk_X11_parted_e_14 bs_X11_parted_e_14 hz (fun K hK => ?_)
    refine hK 19 _ [vI 999, vI 0, vI d] T ?_
    refine j_callS (y := yX11_in) (Yc := zX11_in) (rest := []) [vI d, vI 0, vI 999] (ct_X11_in (T := T)) cl_X11_255 (qd_c (by decide +kernel)) (nn_ _) rfl (rf_of rfl) (Nat.le_of_ble_eq_true rfl) (Nat.le_of_ble_eq_true rfl) (Nat.le_of_ble_eq_true rfl) rfl ?_
    rintro _ _ ⟨rfl, x4, rfl, hx4⟩
    show J_ zX11_parted T (po_X11_parted_e T c d k) 0 0 22 _ [vI x4] T
    refine j_blx (F := fX11) tb_X11 (nn_ _) bk_X11_parted_e_22 bs_X11_parted_e_22 hz (fun K hK => ?_)
    refine And.intro (fun c5 => ?_) (fun c5 => ?_)
    · replace hx4 := hx4.resolve_right (fun z => c5 z.1)
      clear c5
      refine hK 28 _ [] T ?_
      refine j_blx (F := fX11) tb_X11 (nn_ _) bk_X11_parted_e_28 bs_X11_parted_e_28 hz (fun K hK => ?_)
      refine hK 31 _ [vI d, vI c, vR 111 0] T ?_
      refine j_callV (y := yX11_orderAll) (Yc := zX11_orderAll) (rest := []) [vI c, vI d] (ct_X11_orderAll_e (T := T) (by omega) (by exact hri) (by exact hml) (by exact hsc) (by exact hyb) (by exact hen) (by exact hgb (by omega) (by omega))) cl_X11_532 (qd_c (by decide +kernel)) (nn_ _) rfl (rf_of rfl) (Nat.le_of_ble_eq_true rfl) (Nat.le_of_ble_eq_true rfl) (Nat.le_of_ble_eq_true rfl) rfl ?_
      rintro U6 _ ⟨rfl, fU6, ⟨qU6a, qU6b, qU6c, qU6d, qU6m, qU6r⟩⟩
      show J_ zX11_parted T (po_X11_parted_e T c d k) 0 0 34 _ [] U6
      refine j_blx (F := fX11) tb_X11 (nn_ _) bk_X11_parted_e_34 bs_X11_parted_e_34 hz (fun K hK => ?_)
      intro b7 b7b
      refine rg_i (by omega) ?_
      refine hK 41 _ [vI ((U6 111 0 79) - 1), vI k] U6 ?_
      refine j_callS (y := yX11_isOf) (Yc := zX11_isOf) (rest := []) [vI k, vI ((U6 111 0 79) - 1)] (ct_X11_isOf (T := U6) (by omega)) cl_X11_317 (qd_c (by decide +kernel)) (nn_ _) rfl (rf_of rfl) (Nat.le_of_ble_eq_true rfl) (Nat.le_of_ble_eq_true rfl) (Nat.le_of_ble_eq_true rfl) rfl ?_
      rintro _ _ ⟨rfl, x8, rfl, hx8⟩
      show J_ zX11_parted T (po_X11_parted_e T c d k) 0 0 44 _ [vI x8] U6
      refine j_blx (F := fX11) tb_X11 (nn_ _) bk_X11_parted_e_44 bs_X11_parted_e_44 hz (fun K hK => ?_)
      refine And.intro (fun c9 => ?_) (fun c9 => ?_)
      · replace hx8 := hx8.resolve_left (fun z => absurd (c9.symm.trans z.1) (by decide))
        clear c9
        refine hK 56 _ [] U6 ?_
        refine j_blx (F := fX11) tb_X11 (nn_ _) bk_X11_parted_e_56 bs_X11_parted_e_56 hz (fun K hK => ?_)
        refine hK 57 _ [vI (-1)] U6 ?_
        refine c_57 (-1) U6 ?_ ?_ ?_
        · exact fr_t (fr_0 _ _) (fr_s fU6 rfl)
        · omega
        · exact ⟨fun z => absurd z (by omega), fun _ => rfl, qU6d⟩
      · replace hx8 := hx8.resolve_right (fun z => c9 z.1)
        clear c9
        refine ix_i (by omega) ?_
        intro b10 b10b
        refine hK 57 _ [vI (U6 278 0 k)] U6 ?_
        refine c_57 (U6 278 0 k) U6 ?_ ?_ ?_
        · exact fr_t (fr_0 _ _) (fr_s fU6 rfl)
        · omega
        · exact ⟨fun _ => by rw [← qU6r]; exact (mk_v (n := T 208 0 c) (o := fun x => U6 278 0 x) (x := k) (by omega)).symm, fun z => absurd z (by omega), qU6d⟩
    · replace hx4 := hx4.resolve_left (fun z => absurd (c5.symm.trans z.1) (by decide))
      clear c5
      refine (show po_X11_parted_e T c d k T (some (vI (-3))) from ?_)
      exact ⟨_, rfl, fr_0 _ _, Or.inr (Or.inl ⟨rfl, by omega, by omega⟩)⟩
  · replace hx2 := hx2.resolve_left (fun z => absurd (c3.symm.trans z.1) (by decide))
    clear c3
    refine (show po_X11_parted_e T c d k T (some (vI (-2))) from ?_)
    exact ⟨_, rfl, fr_0 _ _, Or.inl ⟨rfl, by omega⟩⟩
-- the house's tally, exactly: words
theorem wr_c {a b d : Int} (h : wr_ a = wr_ b) : wr_ (a + d) = wr_ (b + d) := by
  unfold wr_ at h ⊢
  omega
theorem wr_d {a : Int} : wr_ (wr_ a) = wr_ a := by
  unfold wr_
  omega
/-- lines by seats that are added to -/
def LV_ (T U : Zt) (D : Int → Int → Int) : Prop := ∀ x w : Int, 0 ≤ x → x < 12 → 0 ≤ w → w ≤ 6 → wr_ (U 542 0 (x * 8 + w)) = wr_ (T 542 0 (x * 8 + w) + D x w)
theorem lv_0 {T : Zt} : LV_ T T (fun _ _ => 0) := fun x w _ _ _ _ => by
  show wr_ (T 542 0 (x * 8 + w)) = wr_ (T 542 0 (x * 8 + w) + 0)
  rw [Int.add_zero]
theorem lv_k {T U U2 : Zt} {D : Int → Int → Int} (h : LV_ T U D) (e : ∀ j, U2 542 0 j = U 542 0 j) : LV_ T U2 D := fun x w a b c d => by
  rw [e]
  exact h x w a b c d
theorem lv_u {T U U2 : Zt} {D : Int → Int → Int} {j v y c q : Int} (h : LV_ T U D) (e : U2 = up_ U 542 0 j v) (hj : j = c * 8 + q) (hq : 0 ≤ q ∧ q ≤ 6) (hv : v = wr_ (U 542 0 j + y)) : LV_ T U2 (fun x w => D x w + cz_ (x = c ∧ w = q) y 0) := fun x w x0 x1 w0 w1 => by
  show wr_ (U2 542 0 (x * 8 + w)) = wr_ (T 542 0 (x * 8 + w) + (D x w + cz_ (x = c ∧ w = q) y 0))
  have g := h x w x0 x1 w0 w1
  by_cases z : x = c ∧ w = q
  · have e9 : x * 8 + w = j := by omega
    rw [cz_t z, e9, up_f e, hv, wr_d]
    rw [e9] at g
    rw [wr_c g, show T 542 0 j + D x w + y = T 542 0 j + (D x w + y) by omega]
  · rw [cz_f z, up_g e (fun p => z (by omega)), g, Int.add_zero]
theorem lv_t {T U U2 : Zt} {D D' : Int → Int → Int} (h : LV_ T U D) (g : LV_ U U2 D') : LV_ T U2 (fun x w => D x w + D' x w) := fun x w x0 x1 w0 w1 => by
  show wr_ (U2 542 0 (x * 8 + w)) = wr_ (T 542 0 (x * 8 + w) + (D x w + D' x w))
  rw [g x w x0 x1 w0 w1, wr_c (h x w x0 x1 w0 w1), Int.add_assoc]
theorem lv_e {T U : Zt} {D D' : Int → Int → Int} (h : LV_ T U D) (e : ∀ x w, 0 ≤ x → x < 12 → 0 ≤ w → w ≤ 6 → D x w = D' x w) : LV_ T U D' := fun x w x0 x1 w0 w1 => by
  rw [← e x w x0 x1 w0 w1]
  exact h x w x0 x1 w0 w1
/-- a row of places that are added to -/
def RV_ (k : Nat) (T U : Zt) (D : Int → Int) : Prop := ∀ j : Int, wr_ (U k 0 j) = wr_ (T k 0 j + D j)
theorem rv_0 {k : Nat} {T U : Zt} (e : ∀ j, U k 0 j = T k 0 j) : RV_ k T U (fun _ => 0) := fun j => by
  show wr_ (U k 0 j) = wr_ (T k 0 j + 0)
  rw [e, Int.add_zero]
theorem rv_k {k : Nat} {T U U2 : Zt} {D : Int → Int} (h : RV_ k T U D) (e : ∀ j, U2 k 0 j = U k 0 j) : RV_ k T U2 D := fun j => by
  rw [e]
  exact h j
theorem rv_b {k : Nat} {T0 T U : Zt} {D : Int → Int} (h : RV_ k T U D) (e : ∀ j, T k 0 j = T0 k 0 j) : RV_ k T0 U D := fun j => by
  rw [← e]
  exact h j
theorem rv_u {k : Nat} {T U U2 : Zt} {D : Int → Int} {j v y : Int} (h : RV_ k T U D) (e : U2 = up_ U k 0 j v) (hv : v = wr_ (U k 0 j + y)) : RV_ k T U2 (fun i => D i + cz_ (i = j) y 0) := fun i => by
  show wr_ (U2 k 0 i) = wr_ (T k 0 i + (D i + cz_ (i = j) y 0))
  have g := h i
  by_cases z : i = j
  · rw [cz_t z, z, up_f e, hv, wr_d]
    rw [z] at g
    rw [wr_c g, Int.add_assoc]
  · rw [cz_f z, up_g e (fun p => z p.2.2), g, Int.add_zero]
theorem rv_t {k : Nat} {T U U2 : Zt} {D D' : Int → Int} (h : RV_ k T U D) (g : RV_ k U U2 D') : RV_ k T U2 (fun i => D i + D' i) := fun i => by
  show wr_ (U2 k 0 i) = wr_ (T k 0 i + (D i + D' i))
  rw [g i, wr_c (h i), Int.add_assoc]
theorem rv_e {k : Nat} {T U : Zt} {D D' : Int → Int} (h : RV_ k T U D) (e : ∀ i, D i = D' i) : RV_ k T U D' := fun i => by
  rw [← e i]
  exact h i
/-- the columns of one side -/
theorem sd_d {ru : Int → Int} {x s w v a b p : Int} (hv : (v = 1 ∧ b < a ∧ p = ru 1) ∨ (v = 2 ∧ a = b ∧ p = ru 2) ∨ (v = 3 ∧ a < b ∧ p = ru 3)) (w0 : 0 ≤ w) (w1 : w ≤ 6) : 0 + cz_ (x = s ∧ w = 0) 1 0 + cz_ (x = s ∧ w = v) 1 0 + cz_ (x = s ∧ w = 4) a 0 + cz_ (x = s ∧ w = 5) b 0 + cz_ (x = s ∧ w = 6) p 0 = cz_ (x = s) (cv9_ ru w a b) 0 := by
  by_cases z : x = s
  · have N : ∀ q y : Int, ¬ w = q → cz_ (x = s ∧ w = q) y 0 = 0 := fun q y n => cz_f (fun t => n t.2)
    have P : ∀ q y : Int, w = q → cz_ (x = s ∧ w = q) y 0 = y := fun q y e => cz_t ⟨z, e⟩
    rw [cz_t z]
    rcases (by omega : w = 0 ∨ w = 1 ∨ w = 2 ∨ w = 3 ∨ w = 4 ∨ w = 5 ∨ w = 6) with e | e | e | e | e | e | e
    · rw [P 0 1 e, N v 1 (by omega), N 4 a (by omega), N 5 b (by omega), N 6 p (by omega), e, cv_0]; omega
    · rw [N 0 1 (by omega), N 4 a (by omega), N 5 b (by omega), N 6 p (by omega)]
      by_cases h : b < a
      · rw [P v 1 (by omega), e, cv_1t h]; omega
      · rw [N v 1 (by omega), e, cv_1f h]; omega
    · rw [N 0 1 (by omega), N 4 a (by omega), N 5 b (by omega), N 6 p (by omega)]
      by_cases h : a = b
      · rw [P v 1 (by omega), e, cv_2t h]; omega
      · rw [N v 1 (by omega), e, cv_2f h]; omega
    · rw [N 0 1 (by omega), N 4 a (by omega), N 5 b (by omega), N 6 p (by omega)]
      by_cases h : a < b
      · rw [P v 1 (by omega), e, cv_3t h]; omega
      · rw [N v 1 (by omega), e, cv_3f h]; omega
    · rw [N 0 1 (by omega), N v 1 (by omega), P 4 a e, N 5 b (by omega), N 6 p (by omega), e, cv_4]; omega
    · rw [N 0 1 (by omega), N v 1 (by omega), N 4 a (by omega), P 5 b e, N 6 p (by omega), e, cv_5]; omega
    · rw [N 0 1 (by omega), N v 1 (by omega), N 4 a (by omega), N 5 b (by omega), P 6 p e, e, cv_6]
      rcases hv with h | h | h
      · rw [pt_1 h.2.1]; omega
      · rw [pt_2 h.2.1]; omega
      · rw [pt_3 h.2.1]; omega
  · have N : ∀ q y : Int, cz_ (x = s ∧ w = q) y 0 = 0 := fun q y => cz_f (fun t => z t.1)
    rw [N, N, N, N, N, cz_f z]
    rfl
/-- what the house tells of match m up to day d -/
noncomputable def fr9h_ (T : Zt) (m b : Int) : Nat → Int
  | 0 => 0
  | n + 1 => fr9h_ T m b n + (T 473 m (b + (n : Int)) + cz_ (T 472 m (b + (n : Int)) = 3) 3 0)
noncomputable def vH_ (T : Zt) (d m : Int) : Int → Int := fun i =>
  if i = 0 then cz_ ((T 102 m 6 ≠ -1 ∨ (T 102 m 10 ≠ 0 ∧ T 103 m 3 ≠ 0)) ∧ T 102 m 5 ≤ d) 1 0
  else if i = 1 then T 102 m 3 else if i = 2 then T 102 m 4
  else if i = 3 then cz_ (T 102 m 6 ≠ -1) (cz_ (T 102 m 6 = 0) 0 (T 401 (T 102 m 0) 12)) (cz_ (T 102 m 10 = 0) 0 (T 468 m 0))
  else if i = 4 then cz_ (T 102 m 6 ≠ -1) (cz_ (T 102 m 6 = 1) 0 (T 401 (T 102 m 0) 12)) (cz_ (T 102 m 10 = 0) 0 (T 468 m 1))
  else if i = 5 then cz_ (T 102 m 10 = 0) 0 (fr9h_ T m 0 (T 449 m 0).toNat)
  else cz_ (T 102 m 10 = 0) 0 (fr9h_ T m 10 (T 449 m 1).toNat)
theorem vh_0 {T : Zt} {d m : Int} : vH_ T d m 0 = cz_ ((T 102 m 6 ≠ -1 ∨ (T 102 m 10 ≠ 0 ∧ T 103 m 3 ≠ 0)) ∧ T 102 m 5 ≤ d) 1 0 := by
  unfold vH_
  rw [if_pos rfl]
theorem vh_1 {T : Zt} {d m : Int} : vH_ T d m 1 = T 102 m 3 := by
  unfold vH_
  rw [if_neg (by decide), if_pos rfl]
theorem vh_2 {T : Zt} {d m : Int} : vH_ T d m 2 = T 102 m 4 := by
  unfold vH_
  rw [if_neg (by decide), if_neg (by decide), if_pos rfl]
theorem vh_3 {T : Zt} {d m : Int} : vH_ T d m 3 = cz_ (T 102 m 6 ≠ -1) (cz_ (T 102 m 6 = 0) 0 (T 401 (T 102 m 0) 12)) (cz_ (T 102 m 10 = 0) 0 (T 468 m 0)) := by
  unfold vH_
  rw [if_neg (by decide), if_neg (by decide), if_neg (by decide), if_pos rfl]
theorem vh_4 {T : Zt} {d m : Int} : vH_ T d m 4 = cz_ (T 102 m 6 ≠ -1) (cz_ (T 102 m 6 = 1) 0 (T 401 (T 102 m 0) 12)) (cz_ (T 102 m 10 = 0) 0 (T 468 m 1)) := by
  unfold vH_
  rw [if_neg (by decide), if_neg (by decide), if_neg (by decide), if_neg (by decide), if_pos rfl]
theorem vh_5 {T : Zt} {d m : Int} : vH_ T d m 5 = cz_ (T 102 m 10 = 0) 0 (fr9h_ T m 0 (T 449 m 0).toNat) := by
  unfold vH_
  rw [if_neg (by decide), if_neg (by decide), if_neg (by decide), if_neg (by decide), if_neg (by decide), if_pos rfl]
theorem vh_6 {T : Zt} {d m : Int} : vH_ T d m 6 = cz_ (T 102 m 10 = 0) 0 (fr9h_ T m 10 (T 449 m 1).toNat) := by
  unfold vH_
  rw [if_neg (by decide), if_neg (by decide), if_neg (by decide), if_neg (by decide), if_neg (by decide), if_neg (by decide)]
theorem rv_w {k : Nat} {T U U2 : Zt} {D : Int → Int} {j v y : Int} (h : RV_ k T U D) (e : U2 = up_ U k 0 j v) (hv : v = wr_ (U k 0 j + wr_ y)) : RV_ k T U2 (fun i => D i + cz_ (i = j) y 0) := rv_u h e (by rw [hv]; unfold wr_; omega)
theorem cz_q {P : Prop} {a b y : Int} (h : P ↔ a = b) : cz_ P y 0 = (if a = b then y else 0) := by
  by_cases z : a = b
  · rw [if_pos z, cz_t (h.2 z)]
  · rw [if_neg z, cz_f (fun q => z (h.1 q))]
/-- seats and clubs fit -/
def SK_ (T : Zt) (c : Int) : Prop := (∀ j : Int, 0 ≤ j → j < T 100 c 5 → T 404 c (T 403 c j) = j) ∧ ∀ b : Int, 0 ≤ b → b < 12 → T 404 c b = -1 ∨ (0 ≤ T 404 c b ∧ T 404 c b < T 100 c 5 ∧ T 403 c (T 404 c b) = b)
theorem sk_i {T : Zt} {c x b : Int} (h : SK_ T c) (hx : 0 ≤ x ∧ x < T 100 c 5) (hb : 0 ≤ b ∧ b < 12) (hs : 0 ≤ T 404 c b) : x = T 404 c b ↔ b = T 403 c x := by
  have k := h.1 x hx.1 hx.2
  have g := h.2 b hb.1 hb.2
  refine ⟨fun e => ?_, fun e => ?_⟩
  · rcases g with g | g
    · omega
    · rw [e]; exact g.2.2.symm
  · rw [e, k]
/-- what the house has added up after n matches -/
def HT_ (T U : Zt) (ru : Int → Int) (v : Mv_) (c : Int) (n : Nat) : Prop :=
  (∀ x w : Int, 0 ≤ x → x < T 100 c 5 → 0 ≤ w → w ≤ 6 → wr_ (U 542 0 (x * 8 + w)) = wr_ (tn9_ ru v (T 403 c x) w n)) ∧
  (∀ x : Int, 0 ≤ x → x < T 100 c 5 → wr_ (U 543 0 x) = wr_ (tn9_ ru v (T 403 c x) 7 n)) ∧
  (∀ x : Int, 0 ≤ x → x < T 100 c 5 → wr_ (U 544 0 x) = wr_ (tn9_ ru v (T 403 c x) 8 n)) ∧
  (∀ x y : Int, 0 ≤ x → x < T 100 c 5 → 0 ≤ y → y < T 100 c 5 → wr_ (U 545 0 (x * 12 + y)) = wr_ (hp9_ ru v (T 403 c x) (T 403 c y) n)) ∧
  (∀ x y : Int, 0 ≤ x → x < T 100 c 5 → 0 ≤ y → y < T 100 c 5 → wr_ (U 546 0 (x * 12 + y)) = wr_ (hs9_ v (T 403 c x) (T 403 c y) n))
theorem ht_0 {T U : Zt} {ru : Int → Int} {v : Mv_} {c : Int} (he : T 100 c 5 ≤ 12) (h2 : ∀ j, 0 ≤ j → j < 96 → U 542 0 j = 0) (h3 : ∀ j, 0 ≤ j → j < 12 → U 543 0 j = 0) (h4 : ∀ j, 0 ≤ j → j < 12 → U 544 0 j = 0) (h5 : ∀ j, 0 ≤ j → j < 144 → U 545 0 j = 0) (h6 : ∀ j, 0 ≤ j → j < 144 → U 546 0 j = 0) : HT_ T U ru v c 0 :=
  ⟨fun x w a b c d => congrArg wr_ (h2 _ (by omega) (by omega)), fun x a b => congrArg wr_ (h3 _ (by omega) (by omega)), fun x a b => congrArg wr_ (h4 _ (by omega) (by omega)), fun x y a b c d => congrArg wr_ (h5 _ (by omega) (by omega)), fun x y a b c d => congrArg wr_ (h6 _ (by omega) (by omega))⟩
theorem ht_k {T U U2 : Zt} {ru : Int → Int} {v : Mv_} {c : Int} {n : Nat} (h : HT_ T U ru v c n) (e : ∀ (k : Nat) (j : Int), k = 542 ∨ k = 543 ∨ k = 544 ∨ k = 545 ∨ k = 546 → U2 k 0 j = U k 0 j) : HT_ T U2 ru v c n := by
  obtain ⟨h1, h2, h3, h4, h5⟩ := h
  refine ⟨fun x w a b c d => ?_, fun x a b => ?_, fun x a b => ?_, fun x y a b c d => ?_, fun x y a b c d => ?_⟩
  · rw [e 542 _ (by decide)]; exact h1 x w a b c d
  · rw [e 543 _ (by decide)]; exact h2 x a b
  · rw [e 544 _ (by decide)]; exact h3 x a b
  · rw [e 545 _ (by decide)]; exact h4 x y a b c d
  · rw [e 546 _ (by decide)]; exact h5 x y a b c d
theorem ht_z {T U U2 : Zt} {ru : Int → Int} {v : Mv_} {c : Int} {n : Nat} (h : HT_ T U ru v c n) (z : v (n : Int) 0 ≠ 1) (e : ∀ (k : Nat) (j : Int), k = 542 ∨ k = 543 ∨ k = 544 ∨ k = 545 ∨ k = 546 → U2 k 0 j = U k 0 j) : HT_ T U2 ru v c (n + 1) := by
  obtain ⟨h1, h2, h3, h4, h5⟩ := ht_k h e
  have t : ∀ x w, tn9_ ru v x w (n + 1) = tn9_ ru v x w n := fun x w => by
    show tn9_ ru v x w n + td9_ ru v x w (n : Int) = _
    rw [td_0 z, Int.add_zero]
  have p : ∀ x y, hp9_ ru v x y (n + 1) = hp9_ ru v x y n := fun x y => by
    show hp9_ ru v x y n + hq9_ ru v x y (n : Int) = _
    rw [show hq9_ ru v x y (n : Int) = 0 from cz_f z, Int.add_zero]
  have s : ∀ x y, hs9_ v x y (n + 1) = hs9_ v x y n := fun x y => by
    show hs9_ v x y n + hg9_ v x y (n : Int) = _
    rw [show hg9_ v x y (n : Int) = 0 from cz_f z, Int.add_zero]
  refine ⟨fun x w a b c d => ?_, fun x a b => ?_, fun x a b => ?_, fun x y a b c d => ?_, fun x y a b c d => ?_⟩
  · rw [t]; exact h1 x w a b c d
  · rw [t]; exact h2 x a b
  · rw [t]; exact h3 x a b
  · rw [p]; exact h4 x y a b c d
  · rw [s]; exact h5 x y a b c d
/-- a match that counts is added -/
theorem ht_s {T U U2 : Zt} {ru : Int → Int} {v : Mv_} {c hm aw a b f g : Int} {n : Nat} (h : HT_ T U ru v c n) (sk : SK_ T c) (he : T 100 c 5 ≤ 12) (h1 : 0 ≤ hm ∧ hm < 12) (h2 : 0 ≤ aw ∧ aw < 12) (s1 : 0 ≤ T 404 c hm ∧ T 404 c hm < 12) (s2 : 0 ≤ T 404 c aw ∧ T 404 c aw < 12)
    (g0 : v (n : Int) 0 = 1) (g1 : v (n : Int) 1 = hm) (g2 : v (n : Int) 2 = aw) (g3 : v (n : Int) 3 = a) (g4 : v (n : Int) 4 = b) (g5 : v (n : Int) 5 = f) (g6 : v (n : Int) 6 = g)
    (l : LV_ U U2 (fun x w => cz_ (x = T 404 c hm) (cv9_ ru w a b) 0 + cz_ (x = T 404 c aw) (cv9_ ru w b a) 0)) (r3 : RV_ 543 U U2 (fun j => cz_ (j = T 404 c aw) b 0)) (r4 : RV_ 544 U U2 (fun j => cz_ (j = T 404 c hm) f 0 + cz_ (j = T 404 c aw) g 0))
    (r5 : RV_ 545 U U2 (fun j => cz_ (j = T 404 c hm * 12 + T 404 c aw) (ptm9_ ru a b) 0 + cz_ (j = T 404 c aw * 12 + T 404 c hm) (ptm9_ ru b a) 0)) (r6 : RV_ 546 U U2 (fun j => cz_ (j = T 404 c hm * 12 + T 404 c aw) a 0 + cz_ (j = T 404 c aw * 12 + T 404 c hm) b 0)) : HT_ T U2 ru v c (n + 1) := by
  obtain ⟨k1, k2, k3, k4, k5⟩ := h
  have i1 : ∀ x, 0 ≤ x → x < T 100 c 5 → (x = T 404 c hm ↔ v (n : Int) 1 = T 403 c x) := fun x p q => by
    rw [g1]
    exact sk_i sk ⟨p, q⟩ h1 s1.1
  have i2 : ∀ x, 0 ≤ x → x < T 100 c 5 → (x = T 404 c aw ↔ v (n : Int) 2 = T 403 c x) := fun x p q => by
    rw [g2]
    exact sk_i sk ⟨p, q⟩ h2 s2.1
  refine ⟨fun x w p q w0 w1 => ?_, fun x p q => ?_, fun x p q => ?_, fun x y p q p' q' => ?_, fun x y p q p' q' => ?_⟩
  · rw [l x w p (by omega) w0 w1, wr_c (k1 x w p q w0 w1)]
    show wr_ (tn9_ ru v (T 403 c x) w n + (cz_ (x = T 404 c hm) (cv9_ ru w a b) 0 + cz_ (x = T 404 c aw) (cv9_ ru w b a) 0)) = wr_ (tn9_ ru v (T 403 c x) w n + td9_ ru v (T 403 c x) w (n : Int))
    rw [td_1 g0, if_neg (by omega), if_neg (by omega), g3, g4, cz_q (i1 x p q), cz_q (i2 x p q)]
  · rw [r3 x, wr_c (k2 x p q)]
    show wr_ (tn9_ ru v (T 403 c x) 7 n + cz_ (x = T 404 c aw) b 0) = wr_ (tn9_ ru v (T 403 c x) 7 n + td9_ ru v (T 403 c x) 7 (n : Int))
    rw [td_1 g0, if_pos rfl, g4, cz_q (i2 x p q)]
  · rw [r4 x, wr_c (k3 x p q)]
    show wr_ (tn9_ ru v (T 403 c x) 8 n + (cz_ (x = T 404 c hm) f 0 + cz_ (x = T 404 c aw) g 0)) = wr_ (tn9_ ru v (T 403 c x) 8 n + td9_ ru v (T 403 c x) 8 (n : Int))
    rw [td_1 g0, if_neg (by decide), if_pos rfl, g5, g6, cz_q (i1 x p q), cz_q (i2 x p q)]
  · have e1 : x * 12 + y = T 404 c hm * 12 + T 404 c aw ↔ v (n : Int) 1 = T 403 c x ∧ v (n : Int) 2 = T 403 c y := by
      rw [← i1 x p q, ← i2 y p' q']
      omega
    have e2 : x * 12 + y = T 404 c aw * 12 + T 404 c hm ↔ v (n : Int) 2 = T 403 c x ∧ v (n : Int) 1 = T 403 c y := by
      rw [← i2 x p q, ← i1 y p' q']
      omega
    rw [r5 (x * 12 + y), wr_c (k4 x y p q p' q')]
    show wr_ (hp9_ ru v (T 403 c x) (T 403 c y) n + (cz_ (x * 12 + y = T 404 c hm * 12 + T 404 c aw) (ptm9_ ru a b) 0 + cz_ (x * 12 + y = T 404 c aw * 12 + T 404 c hm) (ptm9_ ru b a) 0)) = wr_ (hp9_ ru v (T 403 c x) (T 403 c y) n + hq9_ ru v (T 403 c x) (T 403 c y) (n : Int))
    rw [show hq9_ ru v (T 403 c x) (T 403 c y) (n : Int) = cz_ (v (n : Int) 1 = T 403 c x ∧ v (n : Int) 2 = T 403 c y) (ptm9_ ru (v (n : Int) 3) (v (n : Int) 4)) 0 + cz_ (v (n : Int) 2 = T 403 c x ∧ v (n : Int) 1 = T 403 c y) (ptm9_ ru (v (n : Int) 4) (v (n : Int) 3)) 0 from cz_t g0, g3, g4, cz_g e1, cz_g e2]
  · have e1 : x * 12 + y = T 404 c hm * 12 + T 404 c aw ↔ v (n : Int) 1 = T 403 c x ∧ v (n : Int) 2 = T 403 c y := by
      rw [← i1 x p q, ← i2 y p' q']
      omega
    have e2 : x * 12 + y = T 404 c aw * 12 + T 404 c hm ↔ v (n : Int) 2 = T 403 c x ∧ v (n : Int) 1 = T 403 c y := by
      rw [← i2 x p q, ← i1 y p' q']
      omega
    rw [r6 (x * 12 + y), wr_c (k5 x y p q p' q')]
    show wr_ (hs9_ v (T 403 c x) (T 403 c y) n + (cz_ (x * 12 + y = T 404 c hm * 12 + T 404 c aw) a 0 + cz_ (x * 12 + y = T 404 c aw * 12 + T 404 c hm) b 0)) = wr_ (hs9_ v (T 403 c x) (T 403 c y) n + hg9_ v (T 403 c x) (T 403 c y) (n : Int))
    rw [show hg9_ v (T 403 c x) (T 403 c y) (n : Int) = cz_ (v (n : Int) 1 = T 403 c x ∧ v (n : Int) 2 = T 403 c y) (v (n : Int) 3) 0 + cz_ (v (n : Int) 2 = T 403 c x ∧ v (n : Int) 1 = T 403 c y) (v (n : Int) 4) 0 from cz_t g0, g3, g4, cz_g e1, cz_g e2]
/-- what is taken from a club, up to the n-th deduction of the house -/
noncomputable def dh9_ (T : Zt) (c d x : Int) : Nat → Int
  | 0 => 0
  | n + 1 => dh9_ T c d x n + cz_ (T 527 0 (n : Int) = c ∧ T 528 0 (n : Int) = x ∧ T 530 0 (n : Int) ≤ d) (T 529 0 (n : Int)) 0
theorem dh_t {T : Zt} {c d x : Int} {i : Int} (hi : 0 ≤ i) (h : T 527 0 i = c ∧ T 528 0 i = x ∧ T 530 0 i ≤ d) : dh9_ T c d x (i + 1).toNat = dh9_ T c d x i.toNat + T 529 0 i := by
  rw [show (i + 1).toNat = i.toNat + 1 by omega]
  show dh9_ T c d x i.toNat + cz_ (T 527 0 ((i.toNat : Nat) : Int) = c ∧ T 528 0 ((i.toNat : Nat) : Int) = x ∧ T 530 0 ((i.toNat : Nat) : Int) ≤ d) (T 529 0 ((i.toNat : Nat) : Int)) 0 = _
  rw [show ((i.toNat : Nat) : Int) = i by omega, cz_t h]
theorem dh_f {T : Zt} {c d x : Int} {i : Int} (hi : 0 ≤ i) (h : ¬ (T 527 0 i = c ∧ T 528 0 i = x ∧ T 530 0 i ≤ d)) : dh9_ T c d x (i + 1).toNat = dh9_ T c d x i.toNat := by
  rw [show (i + 1).toNat = i.toNat + 1 by omega]
  show dh9_ T c d x i.toNat + cz_ (T 527 0 ((i.toNat : Nat) : Int) = c ∧ T 528 0 ((i.toNat : Nat) : Int) = x ∧ T 530 0 ((i.toNat : Nat) : Int) ≤ d) (T 529 0 ((i.toNat : Nat) : Int)) 0 = _
  rw [show ((i.toNat : Nat) : Int) = i by omega, cz_f h, Int.add_zero]
theorem dh_k {T U : Zt} (h : ∀ (k : Nat) (j : Int), k = 527 ∨ k = 528 ∨ k = 529 ∨ k = 530 → U k 0 j = T k 0 j) {c d x : Int} : ∀ n : Nat, dh9_ U c d x n = dh9_ T c d x n
  | 0 => rfl
  | n + 1 => by
    show dh9_ U c d x n + cz_ (U 527 0 (n : Int) = c ∧ U 528 0 (n : Int) = x ∧ U 530 0 (n : Int) ≤ d) (U 529 0 (n : Int)) 0 = dh9_ T c d x n + cz_ (T 527 0 (n : Int) = c ∧ T 528 0 (n : Int) = x ∧ T 530 0 (n : Int) ≤ d) (T 529 0 (n : Int)) 0
    rw [dh_k h n, h 527 _ (by decide), h 528 _ (by decide), h 529 _ (by decide), h 530 _ (by decide)]
/-- the deductions are taken, up to seat i -/
def HD_ (T U U2 : Zt) (c d i : Int) : Prop := ∀ x w : Int, 0 ≤ x → x < T 100 c 5 → 0 ≤ w → w ≤ 6 → wr_ (U2 542 0 (x * 8 + w)) = wr_ (U 542 0 (x * 8 + w) - cz_ (w = 6 ∧ x < i) (dh9_ T c d (T 403 c x) (T 106 0 6).toNat) 0)
theorem hd_0 {T U U2 : Zt} {c d : Int} (e : ∀ j, U2 542 0 j = U 542 0 j) : HD_ T U U2 c d 0 := fun x w a b c d => by
  rw [e, cz_f (fun q => by omega), Int.sub_zero]
theorem hd_s {T U U2 U3 : Zt} {c d i j v y : Int} (h : HD_ T U U2 c d i) (e : U3 = up_ U2 542 0 j v) (hj : j = i * 8 + 6) (hv : v = wr_ (U2 542 0 j - y)) (hy : y = dh9_ T c d (T 403 c i) (T 106 0 6).toNat) : HD_ T U U3 c d (i + 1) := fun x w a b w0 w1 => by
  have g := h x w a b w0 w1
  by_cases z : w = 6 ∧ x = i
  · have e9 : x * 8 + w = j := by omega
    rw [cz_f (fun q => by omega), Int.sub_zero] at g
    rw [cz_t ⟨z.1, by omega⟩, e9, up_f e, hv, wr_d, z.2, ← hy]
    rw [e9] at g
    unfold wr_ at g ⊢
    omega
  · rw [up_g e (fun p => z (by omega)), g, cz_g (P := w = 6 ∧ x < i) (Q := w = 6 ∧ x < i + 1) ⟨fun q => ⟨q.1, by omega⟩, fun q => ⟨q.1, by omega⟩⟩]
theorem bk_X7_addSide_e_27 : ck_ fX7 none cX7_addSide 27 [.istore 6, .aload 0, .tableswitch 0 7 1 #[], .tableswitch 0 0 1 #[], .iconst 1, .iload 6, .iadd, .iconst 1, .isub, .iaload, .istore 7, .aload 0, .tableswitch 0 7 2 #[], .iload 5, .iconst 0, .iadd, .dup2, .iaload, .iconst 1, .fadd, .iastore, .aload 0, .tableswitch 0 7 2 #[], .iload 5, .iload 6, .iadd, .dup2, .iaload, .iconst 1, .fadd, .iastore, .aload 0, .tableswitch 0 7 2 #[], .iload 5, .iconst 4, .iadd, .dup2, .iaload, .iload 3, .fadd, .iastore, .aload 0, .tableswitch 0 7 2 #[], .iload 5, .iconst 5, .iadd, .dup2, .iaload, .iload 4, .fadd, .iastore, .aload 0, .tableswitch 0 7 2 #[], .iload 5, .iconst 6, .iadd, .dup2, .iaload, .iload 7, .fadd, .iastore, .aload 0, .tableswitch 0 7 5 #[], .iload 1, .iconst 12, .imul, .iload 2, .iadd, .dup2, .iaload, .iload 7, .fadd, .iastore, .aload 0, .tableswitch 0 7 6 #[], .iload 1, .iconst 12, .imul, .iload 2, .iadd, .dup2, .iaload, .iload 3, .fadd, .iastore, .return_] 146 = true := qck_r (nn_ _) (by decide +kernel)
theorem bs_X7_addSide_e_27 {P : Zt → Option Zv → Prop} (K : Int → Zl → List Zv → Zt → Prop) : sx_ K P [.istore 6, .aload 0, .tableswitch 0 7 1 #[], .tableswitch 0 0 1 #[], .iconst 1, .iload 6, .iadd, .iconst 1, .isub, .iaload, .istore 7, .aload 0, .tableswitch 0 7 2 #[], .iload 5, .iconst 0, .iadd, .dup2, .iaload, .iconst 1, .fadd, .iastore, .aload 0, .tableswitch 0 7 2 #[], .iload 5, .iload 6, .iadd, .dup2, .iaload, .iconst 1, .fadd, .iastore, .aload 0, .tableswitch 0 7 2 #[], .iload 5, .iconst 4, .iadd, .dup2, .iaload, .iload 3, .fadd, .iastore, .aload 0, .tableswitch 0 7 2 #[], .iload 5, .iconst 5, .iadd, .dup2, .iaload, .iload 4, .fadd, .iastore, .aload 0, .tableswitch 0 7 2 #[], .iload 5, .iconst 6, .iadd, .dup2, .iaload, .iload 7, .fadd, .iastore, .aload 0, .tableswitch 0 7 5 #[], .iload 1, .iconst 12, .imul, .iload 2, .iadd, .dup2, .iaload, .iload 7, .fadd, .iastore, .aload 0, .tableswitch 0 7 6 #[], .iload 1, .iconst 12, .imul, .iload 2, .iadd, .dup2, .iaload, .iload 3, .fadd, .iastore, .return_] 146 = x_istore 6 (x_aload 0 (x_g5 107 100 1 (x_g2 100 401 (x_iconst 1 (x_iload 6 (x_iadd (x_iconst 1 (x_isub (x_iaload (x_istore 7 (x_aload 0 (x_g1 107 542 (x_iload 5 (x_iconst 0 (x_iadd (x_dup2 (x_iaload (x_iconst 1 (x_fadd (x_iastore (x_aload 0 (x_g1 107 542 (x_iload 5 (x_iload 6 (x_iadd (x_dup2 (x_iaload (x_iconst 1 (x_fadd (x_iastore (x_aload 0 (x_g1 107 542 (x_iload 5 (x_iconst 4 (x_iadd (x_dup2 (x_iaload (x_iload 3 (x_fadd (x_iastore (x_aload 0 (x_g1 107 542 (x_iload 5 (x_iconst 5 (x_iadd (x_dup2 (x_iaload (x_iload 4 (x_fadd (x_iastore (x_aload 0 (x_g1 107 542 (x_iload 5 (x_iconst 6 (x_iadd (x_dup2 (x_iaload (x_iload 7 (x_fadd (x_iastore (x_aload 0 (x_g1 107 545 (x_iload 1 (x_iconst 12 (x_imul (x_iload 2 (x_iadd (x_dup2 (x_iaload (x_iload 7 (x_fadd (x_iastore (x_aload 0 (x_g1 107 546 (x_iload 1 (x_iconst 12 (x_imul (x_iload 2 (x_iadd (x_dup2 (x_iaload (x_iload 3 (x_fadd (x_iastore (x_return_ P))))))))))))))))))))))))))))))))))))))))))))))))))))))))))))))))))))))))))))))))))))) := ((xe_istore 6).trans (congrArg (x_istore 6) ((xe_aload 0).trans (congrArg (x_aload 0) ((xe_g5 (kk := 107) rfl tl_7_1).trans (congrArg (x_g5 107 100 1) ((xe_g2 (kk := 100) rfl tl_0_1).trans (congrArg (x_g2 100 401) ((xe_iconst 1).trans (congrArg (x_iconst 1) ((xe_iload 6).trans (congrArg (x_iload 6) ((xe_iadd).trans (congrArg (x_iadd) ((xe_iconst 1).trans (congrArg (x_iconst 1) ((xe_isub).trans (congrArg (x_isub) ((xe_iaload).trans (congrArg (x_iaload) ((xe_istore 7).trans (congrArg (x_istore 7) ((xe_aload 0).trans (congrArg (x_aload 0) ((xe_g1 (kk := 107) rfl tl_7_2).trans (congrArg (x_g1 107 542) ((xe_iload 5).trans (congrArg (x_iload 5) ((xe_iconst 0).trans (congrArg (x_iconst 0) ((xe_iadd).trans (congrArg (x_iadd) ((xe_dup2).trans (congrArg (x_dup2) ((xe_iaload).trans (congrArg (x_iaload) ((xe_iconst 1).trans (congrArg (x_iconst 1) ((xe_fadd).trans (congrArg (x_fadd) ((xe_iastore).trans (congrArg (x_iastore) ((xe_aload 0).trans (congrArg (x_aload 0) ((xe_g1 (kk := 107) rfl tl_7_2).trans (congrArg (x_g1 107 542) ((xe_iload 5).trans (congrArg (x_iload 5) ((xe_iload 6).trans (congrArg (x_iload 6) ((xe_iadd).trans (congrArg (x_iadd) ((xe_dup2).trans (congrArg (x_dup2) ((xe_iaload).trans (congrArg (x_iaload) ((xe_iconst 1).trans (congrArg (x_iconst 1) ((xe_fadd).trans (congrArg (x_fadd) ((xe_iastore).trans (congrArg (x_iastore) ((xe_aload 0).trans (congrArg (x_aload 0) ((xe_g1 (kk := 107) rfl tl_7_2).trans (congrArg (x_g1 107 542) ((xe_iload 5).trans (congrArg (x_iload 5) ((xe_iconst 4).trans (congrArg (x_iconst 4) ((xe_iadd).trans (congrArg (x_iadd) ((xe_dup2).trans (congrArg (x_dup2) ((xe_iaload).trans (congrArg (x_iaload) ((xe_iload 3).trans (congrArg (x_iload 3) ((xe_fadd).trans (congrArg (x_fadd) ((xe_iastore).trans (congrArg (x_iastore) ((xe_aload 0).trans (congrArg (x_aload 0) ((xe_g1 (kk := 107) rfl tl_7_2).trans (congrArg (x_g1 107 542) ((xe_iload 5).trans (congrArg (x_iload 5) ((xe_iconst 5).trans (congrArg (x_iconst 5) ((xe_iadd).trans (congrArg (x_iadd) ((xe_dup2).trans (congrArg (x_dup2) ((xe_iaload).trans (congrArg (x_iaload) ((xe_iload 4).trans (congrArg (x_iload 4) ((xe_fadd).trans (congrArg (x_fadd) ((xe_iastore).trans (congrArg (x_iastore) ((xe_aload 0).trans (congrArg (x_aload 0) ((xe_g1 (kk := 107) rfl tl_7_2).trans (congrArg (x_g1 107 542) ((xe_iload 5).trans (congrArg (x_iload 5) ((xe_iconst 6).trans (congrArg (x_iconst 6) ((xe_iadd).trans (congrArg (x_iadd) ((xe_dup2).trans (congrArg (x_dup2) ((xe_iaload).trans (congrArg (x_iaload) ((xe_iload 7).trans (congrArg (x_iload 7) ((xe_fadd).trans (congrArg (x_fadd) ((xe_iastore).trans (congrArg (x_iastore) ((xe_aload 0).trans (congrArg (x_aload 0) ((xe_g1 (kk := 107) rfl tl_7_5).trans (congrArg (x_g1 107 545) ((xe_iload 1).trans (congrArg (x_iload 1) ((xe_iconst 12).trans (congrArg (x_iconst 12) ((xe_imul).trans (congrArg (x_imul) ((xe_iload 2).trans (congrArg (x_iload 2) ((xe_iadd).trans (congrArg (x_iadd) ((xe_dup2).trans (congrArg (x_dup2) ((xe_iaload).trans (congrArg (x_iaload) ((xe_iload 7).trans (congrArg (x_iload 7) ((xe_fadd).trans (congrArg (x_fadd) ((xe_iastore).trans (congrArg (x_iastore) ((xe_aload 0).trans (congrArg (x_aload 0) ((xe_g1 (kk := 107) rfl tl_7_6).trans (congrArg (x_g1 107 546) ((xe_iload 1).trans (congrArg (x_iload 1) ((xe_iconst 12).trans (congrArg (x_iconst 12) ((xe_imul).trans (congrArg (x_imul) ((xe_iload 2).trans (congrArg (x_iload 2) ((xe_iadd).trans (congrArg (x_iadd) ((xe_dup2).trans (congrArg (x_dup2) ((xe_iaload).trans (congrArg (x_iaload) ((xe_iload 3).trans (congrArg (x_iload 3) ((xe_fadd).trans (congrArg (x_fadd) ((xe_iastore).trans (congrArg (x_iastore) (xe_return_)))))))))))))))))))))))))))))))))))))))))))))))))))))))))))))))))))))))))))))))))))))))))))))))))))))))))))))))))))))))))))))))))))))))))))))))))))))))))))))))))))))))))))
theorem bk_X7_addSide_e_0 : ck_ fX7 none cX7_addSide 0 [.iload 1, .iconst 8, .imul, .istore 5, .iload 3, .iload 4, .if_icmp .le 16, .iconst 1, .goto 27] 16 = true := qck_r (nn_ _) (by decide +kernel)
theorem bs_X7_addSide_e_0 {P : Zt → Option Zv → Prop} (K : Int → Zl → List Zv → Zt → Prop) : sx_ K P [.iload 1, .iconst 8, .imul, .istore 5, .iload 3, .iload 4, .if_icmp .le 16, .iconst 1, .goto 27] 16 = x_iload 1 (x_iconst 8 (x_imul (x_istore 5 (x_iload 3 (x_iload 4 (x_if_icmp .le 16 K (x_iconst 1 (x_goto 27 K)))))))) := ((xe_iload 1).trans (congrArg (x_iload 1) ((xe_iconst 8).trans (congrArg (x_iconst 8) ((xe_imul).trans (congrArg (x_imul) ((xe_istore 5).trans (congrArg (x_istore 5) ((xe_iload 3).trans (congrArg (x_iload 3) ((xe_iload 4).trans (congrArg (x_iload 4) ((xe_if_icmp .le 16).trans (congrArg (x_if_icmp .le 16 K) ((xe_iconst 1).trans (congrArg (x_iconst 1) (xe_goto 27)))))))))))))))))
theorem bk_X7_addSide_e_16 : ck_ fX7 none cX7_addSide 16 [.iload 3, .iload 4, .if_icmp .ne 26, .iconst 2, .goto 27] 26 = true := qck_r (nn_ _) (by decide +kernel)
theorem bs_X7_addSide_e_16 {P : Zt → Option Zv → Prop} (K : Int → Zl → List Zv → Zt → Prop) : sx_ K P [.iload 3, .iload 4, .if_icmp .ne 26, .iconst 2, .goto 27] 26 = x_iload 3 (x_iload 4 (x_if_icmp .ne 26 K (x_iconst 2 (x_goto 27 K)))) := ((xe_iload 3).trans (congrArg (x_iload 3) ((xe_iload 4).trans (congrArg (x_iload 4) ((xe_if_icmp .ne 26).trans (congrArg (x_if_icmp .ne 26 K) ((xe_iconst 2).trans (congrArg (x_iconst 2) (xe_goto 27)))))))))
theorem bk_X7_addSide_e_26 : ck_ fX7 none cX7_addSide 26 [.iconst 3] 27 = true := qck_r (nn_ _) (by decide +kernel)
theorem bs_X7_addSide_e_26 {P : Zt → Option Zv → Prop} (K : Int → Zl → List Zv → Zt → Prop) : sx_ K P [.iconst 3] 27 = x_iconst 3 (K 27) := ((xe_iconst 3).trans (congrArg (x_iconst 3) xe_nil))
abbrev po_X7_addSide_e (T : Zt) (s q a b : Int) : Zt → Option Zv → Prop := fun T' r => r = none ∧ fr_ [(542, []), (545, []), (546, [])] T T' ∧ (LV_ T T' (fun x w => cz_ (x = s) (cv9_ (fun w => T 401 (T 107 0 1 - 1) w) w a b) 0) ∧ RV_ 545 T T' (fun j => cz_ (j = s * 12 + q) (ptm9_ (fun w => T 401 (T 107 0 1 - 1) w) a b) 0) ∧ RV_ 546 T T' (fun j => cz_ (j = s * 12 + q) a 0))
set_option maxHeartbeats 4000000 in
theorem ct_X7_addSide_e {T : Zt} {s q a b : Int} (hct : T 107 0 1 ≠ 0) (hs : 0 ≤ s ∧ s < 12) (ho : 0 ≤ q ∧ q < 12) : Ct_ yX7_addSide zX7_addSide T [vR 107 0, vI s, vI q, vI a, vI b] (po_X7_addSide_e T s q a b) := by
  refine ct_of pn_7 rfl rfl (Nat.le_of_ble_eq_true rfl) (fun hT hav => ?_)
  have hr_s : -2147483648 ≤ s ∧ s ≤ 2147483647 := hav (vI s) (List.mem_cons_of_mem _ List.mem_cons_self)
  have hr_q : -2147483648 ≤ q ∧ q ≤ 2147483647 := hav (vI q) (List.mem_cons_of_mem _ (List.mem_cons_of_mem _ List.mem_cons_self))
  have hr_a : -2147483648 ≤ a ∧ a ≤ 2147483647 := hav (vI a) (List.mem_cons_of_mem _ (List.mem_cons_of_mem _ (List.mem_cons_of_mem _ List.mem_cons_self)))
  have hr_b : -2147483648 ≤ b ∧ b ≤ 2147483647 := hav (vI b) (List.mem_cons_of_mem _ (List.mem_cons_of_mem _ (List.mem_cons_of_mem _ (List.mem_cons_of_mem _ List.mem_cons_self))))
  have hz : zX7_addSide.2.2.2.1 = some .boolean → ∀ (T' : Zt) (x : Int), po_X7_addSide_e T s q a b T' (some (vI x)) → 0 ≤ x ∧ x ≤ 1 := fun h => by cases h
  show J_ zX7_addSide T (po_X7_addSide_e T s q a b) 0 0 0 [some (vR 107 0), some (vI s), some (vI q), some (vI a), some (vI b), none, none, none] [] T
  have c_27 : ∀ (v : Int), (1 ≤ v ∧ v ≤ 3) → ((v = 1 ∧ b < a) ∨ (v = 2 ∧ a = b) ∨ (v = 3 ∧ a < b)) → J_ zX7_addSide T (po_X7_addSide_e T s q a b) 0 0 27 [some (vR 107 0), some (vI s), some (vI q), some (vI a), some (vI b), some (vI (s * 8)), none, none] [vI v] T := by
    intro v v0 v1
    refine j_blx (F := fX7) tb_X7 (nn_ _) bk_X7_addSide_e_27 bs_X7_addSide_e_27 hz (fun K hK => ?_)
    refine And.intro (fun c1 => ?_) (fun c1 => ?_)
    · exact absurd c1 (by omega)
    · refine rg_i (by omega) ?_
      refine rg_i (by omega) ?_
      refine ix_i (by omega) ?_
      intro b2 b2b
      refine rg_i (by omega) ?_
      refine ix_i (by omega) ?_
      intro b3 b3b
      intro w4 w4b
      refine iy_i (by omega) (by omega) ?_
      refine x_nm (fun U5 hU5 => ?_)
      have e6 := up_f hU5
      refine rg_i (by omega) ?_
      refine ix_i (by omega) ?_
      intro b7 b7b
      intro w8 w8b
      refine iy_i (by omega) (by omega) ?_
      refine x_nm (fun U9 hU9 => ?_)
      have e10 := up_f hU9
      refine rg_i (by omega) ?_
      refine ix_i (by omega) ?_
      intro b11 b11b
      intro w12 w12b
      refine iy_i (by omega) (by omega) ?_
      refine x_nm (fun U13 hU13 => ?_)
      have e14 := up_f hU13
      refine rg_i (by omega) ?_
      refine ix_i (by omega) ?_
      intro b15 b15b
      intro w16 w16b
      refine iy_i (by omega) (by omega) ?_
      refine x_nm (fun U17 hU17 => ?_)
      have e18 := up_f hU17
      refine rg_i (by omega) ?_
      refine ix_i (by omega) ?_
      intro b19 b19b
      intro w20 w20b
      refine iy_i (by omega) (by omega) ?_
      refine x_nm (fun U21 hU21 => ?_)
      have e22 := up_f hU21
      refine rg_i (by omega) ?_
      refine rg_i (by omega) ?_
      refine ix_i (by omega) ?_
      intro b23 b23b
      have e24 : U21 545 0 ((s * 12) + q) = T 545 0 ((s * 12) + q) := (up_k hU21 (by exact Nat.ne_of_beq_eq_false rfl) 0 ((s * 12) + q)).trans ((up_k hU17 (by exact Nat.ne_of_beq_eq_false rfl) 0 ((s * 12) + q)).trans ((up_k hU13 (by exact Nat.ne_of_beq_eq_false rfl) 0 ((s * 12) + q)).trans ((up_k hU9 (by exact Nat.ne_of_beq_eq_false rfl) 0 ((s * 12) + q)).trans (up_k hU5 (by exact Nat.ne_of_beq_eq_false rfl) 0 ((s * 12) + q)))))
      rw [e24] at b23 b23b ⊢
      intro w25 w25b
      refine iy_i (by omega) (by omega) ?_
      refine x_nm (fun U26 hU26 => ?_)
      have e27 := up_f hU26
      refine rg_i (by omega) ?_
      refine rg_i (by omega) ?_
      refine ix_i (by omega) ?_
      intro b28 b28b
      have e29 : U26 546 0 ((s * 12) + q) = T 546 0 ((s * 12) + q) := (up_k hU26 (by exact Nat.ne_of_beq_eq_false rfl) 0 ((s * 12) + q)).trans ((up_k hU21 (by exact Nat.ne_of_beq_eq_false rfl) 0 ((s * 12) + q)).trans ((up_k hU17 (by exact Nat.ne_of_beq_eq_false rfl) 0 ((s * 12) + q)).trans ((up_k hU13 (by exact Nat.ne_of_beq_eq_false rfl) 0 ((s * 12) + q)).trans ((up_k hU9 (by exact Nat.ne_of_beq_eq_false rfl) 0 ((s * 12) + q)).trans (up_k hU5 (by exact Nat.ne_of_beq_eq_false rfl) 0 ((s * 12) + q))))))
      rw [e29] at b28 b28b ⊢
      intro w30 w30b
      refine iy_i (by omega) (by omega) ?_
      refine x_nm (fun U31 hU31 => ?_)
      have e32 := up_f hU31
      refine (show po_X7_addSide_e T s q a b U31 (none) from ?_)
      have hv9 : (v = 1 ∧ b < a ∧ T 401 (T 107 0 1 - 1) ((1 + v) - 1) = (fun w => T 401 (T 107 0 1 - 1) w) 1) ∨ (v = 2 ∧ a = b ∧ T 401 (T 107 0 1 - 1) ((1 + v) - 1) = (fun w => T 401 (T 107 0 1 - 1) w) 2) ∨ (v = 3 ∧ a < b ∧ T 401 (T 107 0 1 - 1) ((1 + v) - 1) = (fun w => T 401 (T 107 0 1 - 1) w) 3) := by
        rcases v1 with z | z | z
        · exact Or.inl ⟨z.1, z.2, by rw [show (1 + v) - 1 = 1 by omega]⟩
        · exact Or.inr (Or.inl ⟨z.1, z.2, by rw [show (1 + v) - 1 = 2 by omega]⟩)
        · exact Or.inr (Or.inr ⟨z.1, z.2, by rw [show (1 + v) - 1 = 3 by omega]⟩)
      have pt9 : T 401 (T 107 0 1 - 1) ((1 + v) - 1) = ptm9_ (fun w => T 401 (T 107 0 1 - 1) w) a b := by
        rcases hv9 with z | z | z
        · rw [z.2.2]; exact (pt_1 z.2.1).symm
        · rw [z.2.2]; exact (pt_2 z.2.1).symm
        · rw [z.2.2]; exact (pt_3 z.2.1).symm
      refine ⟨rfl, fr_u (fr_u (fr_u (fr_u (fr_u (fr_u (fr_u (fr_0 _ _) hU5 rfl) hU9 rfl) hU13 rfl) hU17 rfl) hU21 rfl) hU26 rfl) hU31 rfl, lv_k (lv_e (lv_u (c := s) (q := 6) (lv_u (c := s) (q := 5) (lv_u (c := s) (q := 4) (lv_u (c := s) (q := v) (lv_u (c := s) (q := 0) (lv_0) hU5 (by omega) (by omega) rfl) hU9 (by omega) (by omega) rfl) hU13 (by omega) (by omega) rfl) hU17 (by omega) (by omega) rfl) hU21 (by omega) (by omega) rfl) (fun x w _ _ w0 w1 => sd_d (ru := (fun w => T 401 (T 107 0 1 - 1) w)) hv9 w0 w1)) (fun j => (up_k hU31 (by exact Nat.ne_of_beq_eq_false rfl) 0 j).trans (up_k hU26 (by exact Nat.ne_of_beq_eq_false rfl) 0 j)), rv_k (rv_e (rv_u (y := T 401 (T 107 0 1 - 1) ((1 + v) - 1)) (rv_0 (fun j => (up_k hU21 (by exact Nat.ne_of_beq_eq_false rfl) 0 j).trans ((up_k hU17 (by exact Nat.ne_of_beq_eq_false rfl) 0 j).trans ((up_k hU13 (by exact Nat.ne_of_beq_eq_false rfl) 0 j).trans ((up_k hU9 (by exact Nat.ne_of_beq_eq_false rfl) 0 j).trans (up_k hU5 (by exact Nat.ne_of_beq_eq_false rfl) 0 j)))))) hU26 (by rw [(up_k hU21 (by exact Nat.ne_of_beq_eq_false rfl) 0 ((s * 12) + q)).trans ((up_k hU17 (by exact Nat.ne_of_beq_eq_false rfl) 0 ((s * 12) + q)).trans ((up_k hU13 (by exact Nat.ne_of_beq_eq_false rfl) 0 ((s * 12) + q)).trans ((up_k hU9 (by exact Nat.ne_of_beq_eq_false rfl) 0 ((s * 12) + q)).trans (up_k hU5 (by exact Nat.ne_of_beq_eq_false rfl) 0 ((s * 12) + q)))))])) (fun i => ?_)) (fun j => up_k hU31 (by exact Nat.ne_of_beq_eq_false rfl) 0 j), rv_k (rv_e (rv_u (y := a) (rv_0 (fun j => (up_k hU26 (by exact Nat.ne_of_beq_eq_false rfl) 0 j).trans ((up_k hU21 (by exact Nat.ne_of_beq_eq_false rfl) 0 j).trans ((up_k hU17 (by exact Nat.ne_of_beq_eq_false rfl) 0 j).trans ((up_k hU13 (by exact Nat.ne_of_beq_eq_false rfl) 0 j).trans ((up_k hU9 (by exact Nat.ne_of_beq_eq_false rfl) 0 j).trans (up_k hU5 (by exact Nat.ne_of_beq_eq_false rfl) 0 j))))))) hU31 (by rw [(up_k hU26 (by exact Nat.ne_of_beq_eq_false rfl) 0 ((s * 12) + q)).trans ((up_k hU21 (by exact Nat.ne_of_beq_eq_false rfl) 0 ((s * 12) + q)).trans ((up_k hU17 (by exact Nat.ne_of_beq_eq_false rfl) 0 ((s * 12) + q)).trans ((up_k hU13 (by exact Nat.ne_of_beq_eq_false rfl) 0 ((s * 12) + q)).trans ((up_k hU9 (by exact Nat.ne_of_beq_eq_false rfl) 0 ((s * 12) + q)).trans (up_k hU5 (by exact Nat.ne_of_beq_eq_false rfl) 0 ((s * 12) + q))))))])) (fun i => ?_)) (fun j => rfl)⟩
      · show 0 + cz_ (i = s * 12 + q) (T 401 (T 107 0 1 - 1) ((1 + v) - 1)) 0 = cz_ (i = s * 12 + q) (ptm9_ (fun w => T 401 (T 107 0 1 - 1) w) a b) 0
        rw [pt9, Int.zero_add]
      · show 0 + cz_ (i = s * 12 + q) a 0 = cz_ (i = s * 12 + q) a 0
        rw [Int.zero_add]
  refine j_blx (F := fX7) tb_X7 (nn_ _) bk_X7_addSide_e_0 bs_X7_addSide_e_0 hz (fun K hK => ?_)
  refine rg_i (by omega) ?_
  refine And.intro (fun c33 => ?_) (fun c33 => ?_)
  · refine hK 16 [some (vR 107 0), some (vI s), some (vI q), some (vI a), some (vI b), some (vI (s * 8)), none, none] [] T ?_
    refine j_blx (F := fX7) tb_X7 (nn_ _) bk_X7_addSide_e_16 bs_X7_addSide_e_16 hz (fun K hK => ?_)
    refine And.intro (fun c34 => ?_) (fun c34 => ?_)
    · refine hK 26 _ [] T ?_
      refine j_blx (F := fX7) tb_X7 (nn_ _) bk_X7_addSide_e_26 bs_X7_addSide_e_26 hz (fun K hK => ?_)
      refine hK 27 _ [vI 3] T ?_
      refine c_27 3 ?_ ?_
      · omega
      · omega
    · refine hK 27 _ [vI 2] T ?_
      refine c_27 2 ?_ ?_
      · omega
      · omega
  · refine hK 27 _ [vI 1] T ?_
    refine c_27 1 ?_ ?_
    · omega
    · omega
theorem bk_X7_addResult_e_0 : ck_ fX7 none cX7_addResult 0 [.aload 0, .tableswitch 0 7 1 #[], .tableswitch 0 0 4 #[], .aload 1, .tableswitch 0 2 3 #[], .iaload, .istore 4, .aload 0, .tableswitch 0 7 1 #[], .tableswitch 0 0 4 #[], .aload 1, .tableswitch 0 2 4 #[], .iaload, .istore 5, .iload 4, .iconst (-1), .if_icmp .eq 40, .iload 5, .iconst (-1), .if_icmp .ne 41, .return_] 41 = true := qck_r (nn_ _) (by decide +kernel)
theorem bs_X7_addResult_e_0 {P : Zt → Option Zv → Prop} (K : Int → Zl → List Zv → Zt → Prop) : sx_ K P [.aload 0, .tableswitch 0 7 1 #[], .tableswitch 0 0 4 #[], .aload 1, .tableswitch 0 2 3 #[], .iaload, .istore 4, .aload 0, .tableswitch 0 7 1 #[], .tableswitch 0 0 4 #[], .aload 1, .tableswitch 0 2 4 #[], .iaload, .istore 5, .iload 4, .iconst (-1), .if_icmp .eq 40, .iload 5, .iconst (-1), .if_icmp .ne 41, .return_] 41 = x_aload 0 (x_g5 107 100 1 (x_g2 100 404 (x_aload 1 (x_g0 102 3 0 11 (x_iaload (x_istore 4 (x_aload 0 (x_g5 107 100 1 (x_g2 100 404 (x_aload 1 (x_g0 102 4 0 11 (x_iaload (x_istore 5 (x_iload 4 (x_iconst (-1) (x_if_icmp .eq 40 K (x_iload 5 (x_iconst (-1) (x_if_icmp .ne 41 K (x_return_ P)))))))))))))))))))) := ((xe_aload 0).trans (congrArg (x_aload 0) ((xe_g5 (kk := 107) rfl tl_7_1).trans (congrArg (x_g5 107 100 1) ((xe_g2 (kk := 100) rfl tl_0_4).trans (congrArg (x_g2 100 404) ((xe_aload 1).trans (congrArg (x_aload 1) ((xe_g0 (kk := 102) rfl tl_2_3).trans (congrArg (x_g0 102 3 0 11) ((xe_iaload).trans (congrArg (x_iaload) ((xe_istore 4).trans (congrArg (x_istore 4) ((xe_aload 0).trans (congrArg (x_aload 0) ((xe_g5 (kk := 107) rfl tl_7_1).trans (congrArg (x_g5 107 100 1) ((xe_g2 (kk := 100) rfl tl_0_4).trans (congrArg (x_g2 100 404) ((xe_aload 1).trans (congrArg (x_aload 1) ((xe_g0 (kk := 102) rfl tl_2_4).trans (congrArg (x_g0 102 4 0 11) ((xe_iaload).trans (congrArg (x_iaload) ((xe_istore 5).trans (congrArg (x_istore 5) ((xe_iload 4).trans (congrArg (x_iload 4) ((xe_iconst (-1)).trans (congrArg (x_iconst (-1)) ((xe_if_icmp .eq 40).trans (congrArg (x_if_icmp .eq 40 K) ((xe_iload 5).trans (congrArg (x_iload 5) ((xe_iconst (-1)).trans (congrArg (x_iconst (-1)) ((xe_if_icmp .ne 41).trans (congrArg (x_if_icmp .ne 41 K) (xe_return_)))))))))))))))))))))))))))))))))))))))))
theorem bk_X7_addResult_e_40 : ck_ fX7 none cX7_addResult 40 [.return_] 41 = true := qck_r (nn_ _) (by decide +kernel)
theorem bs_X7_addResult_e_40 {P : Zt → Option Zv → Prop} (K : Int → Zl → List Zv → Zt → Prop) : sx_ K P [.return_] 41 = x_return_ P := (xe_return_)
theorem bk_X7_addResult_e_41 : ck_ fX7 none cX7_addResult 41 [.aload 0, .iload 4, .iload 5, .iload 2, .iload 3] 48 = true := qck_r (nn_ _) (by decide +kernel)
theorem bs_X7_addResult_e_41 {P : Zt → Option Zv → Prop} (K : Int → Zl → List Zv → Zt → Prop) : sx_ K P [.aload 0, .iload 4, .iload 5, .iload 2, .iload 3] 48 = x_aload 0 (x_iload 4 (x_iload 5 (x_iload 2 (x_iload 3 (K 48))))) := ((xe_aload 0).trans (congrArg (x_aload 0) ((xe_iload 4).trans (congrArg (x_iload 4) ((xe_iload 5).trans (congrArg (x_iload 5) ((xe_iload 2).trans (congrArg (x_iload 2) ((xe_iload 3).trans (congrArg (x_iload 3) xe_nil))))))))))
theorem bk_X7_addResult_e_51 : ck_ fX7 none cX7_addResult 51 [.aload 0, .iload 5, .iload 4, .iload 3, .iload 2] 58 = true := qck_r (nn_ _) (by decide +kernel)
theorem bs_X7_addResult_e_51 {P : Zt → Option Zv → Prop} (K : Int → Zl → List Zv → Zt → Prop) : sx_ K P [.aload 0, .iload 5, .iload 4, .iload 3, .iload 2] 58 = x_aload 0 (x_iload 5 (x_iload 4 (x_iload 3 (x_iload 2 (K 58))))) := ((xe_aload 0).trans (congrArg (x_aload 0) ((xe_iload 5).trans (congrArg (x_iload 5) ((xe_iload 4).trans (congrArg (x_iload 4) ((xe_iload 3).trans (congrArg (x_iload 3) ((xe_iload 2).trans (congrArg (x_iload 2) xe_nil))))))))))
theorem bk_X7_addResult_e_61 : ck_ fX7 none cX7_addResult 61 [.aload 0, .tableswitch 0 7 3 #[], .iload 5, .dup2, .iaload, .iload 3, .fadd, .iastore, .return_] 73 = true := qck_r (nn_ _) (by decide +kernel)
theorem bs_X7_addResult_e_61 {P : Zt → Option Zv → Prop} (K : Int → Zl → List Zv → Zt → Prop) : sx_ K P [.aload 0, .tableswitch 0 7 3 #[], .iload 5, .dup2, .iaload, .iload 3, .fadd, .iastore, .return_] 73 = x_aload 0 (x_g1 107 543 (x_iload 5 (x_dup2 (x_iaload (x_iload 3 (x_fadd (x_iastore (x_return_ P)))))))) := ((xe_aload 0).trans (congrArg (x_aload 0) ((xe_g1 (kk := 107) rfl tl_7_3).trans (congrArg (x_g1 107 543) ((xe_iload 5).trans (congrArg (x_iload 5) ((xe_dup2).trans (congrArg (x_dup2) ((xe_iaload).trans (congrArg (x_iaload) ((xe_iload 3).trans (congrArg (x_iload 3) ((xe_fadd).trans (congrArg (x_fadd) ((xe_iastore).trans (congrArg (x_iastore) (xe_return_)))))))))))))))))
abbrev po_X7_addResult_e (T : Zt) (p : Int) (a b : Int) : Zt → Option Zv → Prop := fun T' r => r = none ∧ fr_ [(542, []), (545, []), (546, []), (543, [])] T T' ∧ (LV_ T T' (fun x w => cz_ (x = T 404 (T 107 0 1 - 1) (T 102 p 3)) (cv9_ (fun w => T 401 (T 107 0 1 - 1) w) w a b) 0 + cz_ (x = T 404 (T 107 0 1 - 1) (T 102 p 4)) (cv9_ (fun w => T 401 (T 107 0 1 - 1) w) w b a) 0) ∧ RV_ 543 T T' (fun j => cz_ (j = T 404 (T 107 0 1 - 1) (T 102 p 4)) b 0) ∧ RV_ 545 T T' (fun j => cz_ (j = T 404 (T 107 0 1 - 1) (T 102 p 3) * 12 + T 404 (T 107 0 1 - 1) (T 102 p 4)) (ptm9_ (fun w => T 401 (T 107 0 1 - 1) w) a b) 0 + cz_ (j = T 404 (T 107 0 1 - 1) (T 102 p 4) * 12 + T 404 (T 107 0 1 - 1) (T 102 p 3)) (ptm9_ (fun w => T 401 (T 107 0 1 - 1) w) b a) 0) ∧ RV_ 546 T T' (fun j => cz_ (j = T 404 (T 107 0 1 - 1) (T 102 p 3) * 12 + T 404 (T 107 0 1 - 1) (T 102 p 4)) a 0 + cz_ (j = T 404 (T 107 0 1 - 1) (T 102 p 4) * 12 + T 404 (T 107 0 1 - 1) (T 102 p 3)) b 0))
set_option maxHeartbeats 4000000 in
theorem ct_X7_addResult_e {T : Zt} {p : Int} {a b : Int} (hct : T 107 0 1 ≠ 0) (hse : 0 ≤ T 404 (T 107 0 1 - 1) (T 102 p 3) ∧ 0 ≤ T 404 (T 107 0 1 - 1) (T 102 p 4)) : Ct_ yX7_addResult zX7_addResult T [vR 107 0, vR 102 p, vI a, vI b] (po_X7_addResult_e T p a b) := by
  refine ct_of pn_7 rfl rfl (Nat.le_of_ble_eq_true rfl) (fun hT hav => ?_)
  have hr_a : -2147483648 ≤ a ∧ a ≤ 2147483647 := hav (vI a) (List.mem_cons_of_mem _ (List.mem_cons_of_mem _ List.mem_cons_self))
  have hr_b : -2147483648 ≤ b ∧ b ≤ 2147483647 := hav (vI b) (List.mem_cons_of_mem _ (List.mem_cons_of_mem _ (List.mem_cons_of_mem _ List.mem_cons_self)))
  have hz : zX7_addResult.2.2.2.1 = some .boolean → ∀ (T' : Zt) (x : Int), po_X7_addResult_e T p a b T' (some (vI x)) → 0 ≤ x ∧ x ≤ 1 := fun h => by cases h
  show J_ zX7_addResult T (po_X7_addResult_e T p a b) 0 0 0 [some (vR 107 0), some (vR 102 p), some (vI a), some (vI b), none, none] [] T
  refine j_blx (F := fX7) tb_X7 (nn_ _) bk_X7_addResult_e_0 bs_X7_addResult_e_0 hz (fun K hK => ?_)
  refine And.intro (fun c1 => ?_) (fun c1 => ?_)
  · exact absurd c1 (by omega)
  · intro b2 b2b
    refine ix_i (by omega) ?_
    intro b3 b3b
    refine And.intro (fun c4 => ?_) (fun c4 => ?_)
    · exact absurd c4 (by omega)
    · intro b5 b5b
      refine ix_i (by omega) ?_
      intro b6 b6b
      refine And.intro (fun c7 => ?_) (fun c7 => ?_)
      · refine hK 40 [some (vR 107 0), some (vR 102 p), some (vI a), some (vI b), some (vI (T 404 (T 107 0 1 - 1) (T 102 p 3))), some (vI (T 404 (T 107 0 1 - 1) (T 102 p 4)))] [] T ?_
        refine j_blx (F := fX7) tb_X7 (nn_ _) bk_X7_addResult_e_40 bs_X7_addResult_e_40 hz (fun K hK => ?_)
        refine (show po_X7_addResult_e T p a b T (none) from ?_)
        exfalso; omega
      · refine And.intro (fun c8 => ?_) (fun c8 => ?_)
        · refine hK 41 _ [] T ?_
          refine j_blx (F := fX7) tb_X7 (nn_ _) bk_X7_addResult_e_41 bs_X7_addResult_e_41 hz (fun K hK => ?_)
          refine hK 48 _ [vI b, vI a, vI (T 404 (T 107 0 1 - 1) (T 102 p 4)), vI (T 404 (T 107 0 1 - 1) (T 102 p 3)), vR 107 0] T ?_
          refine j_callV (y := yX7_addSide) (Yc := zX7_addSide) (rest := []) [vI (T 404 (T 107 0 1 - 1) (T 102 p 3)), vI (T 404 (T 107 0 1 - 1) (T 102 p 4)), vI a, vI b] (ct_X7_addSide_e (T := T) (by omega) (by omega) (by omega)) cl_X7_117 (qd_c (by decide +kernel)) (nn_ _) rfl (rf_of rfl) (Nat.le_of_ble_eq_true rfl) (Nat.le_of_ble_eq_true rfl) (Nat.le_of_ble_eq_true rfl) rfl ?_
          rintro U9 _ ⟨rfl, fU9, ⟨qU9l, qU9p, qU9s⟩⟩
          show J_ zX7_addResult T (po_X7_addResult_e T p a b) 0 0 51 _ [] U9
          refine j_blx (F := fX7) tb_X7 (nn_ _) bk_X7_addResult_e_51 bs_X7_addResult_e_51 hz (fun K hK => ?_)
          refine hK 58 _ [vI a, vI b, vI (T 404 (T 107 0 1 - 1) (T 102 p 3)), vI (T 404 (T 107 0 1 - 1) (T 102 p 4)), vR 107 0] U9 ?_
          have e10 : U9 107 0 1 = T 107 0 1 := fU9 107 0 1 rfl
          refine j_callV (y := yX7_addSide) (Yc := zX7_addSide) (rest := []) [vI (T 404 (T 107 0 1 - 1) (T 102 p 4)), vI (T 404 (T 107 0 1 - 1) (T 102 p 3)), vI b, vI a] (ct_X7_addSide_e (T := U9) (by omega) (by omega) (by omega)) cl_X7_117 (qd_c (by decide +kernel)) (nn_ _) rfl (rf_of rfl) (Nat.le_of_ble_eq_true rfl) (Nat.le_of_ble_eq_true rfl) (Nat.le_of_ble_eq_true rfl) rfl ?_
          rintro U11 _ ⟨rfl, fU11, ⟨qU11l, qU11p, qU11s⟩⟩
          rw [show (fun w => U9 401 (U9 107 0 1 - 1) w) = (fun w => T 401 (T 107 0 1 - 1) w) from by rw [fU9 107 0 1 rfl]; exact funext (fun w => fU9 401 (T 107 0 1 - 1) w rfl)] at qU11l
          rw [show (fun w => U9 401 (U9 107 0 1 - 1) w) = (fun w => T 401 (T 107 0 1 - 1) w) from by rw [fU9 107 0 1 rfl]; exact funext (fun w => fU9 401 (T 107 0 1 - 1) w rfl)] at qU11p
          show J_ zX7_addResult T (po_X7_addResult_e T p a b) 0 0 61 _ [] U11
          refine j_blx (F := fX7) tb_X7 (nn_ _) bk_X7_addResult_e_61 bs_X7_addResult_e_61 hz (fun K hK => ?_)
          refine ix_i (by omega) ?_
          intro b12 b12b
          have e13 : U11 543 0 (T 404 (T 107 0 1 - 1) (T 102 p 4)) = T 543 0 (T 404 (T 107 0 1 - 1) (T 102 p 4)) := (fU11 543 0 (T 404 (T 107 0 1 - 1) (T 102 p 4)) rfl).trans (fU9 543 0 (T 404 (T 107 0 1 - 1) (T 102 p 4)) rfl)
          rw [e13] at b12 b12b ⊢
          intro w14 w14b
          refine iy_i (by omega) (by omega) ?_
          refine x_nm (fun U15 hU15 => ?_)
          have e16 := up_f hU15
          refine (show po_X7_addResult_e T p a b U15 (none) from ?_)
          exact ⟨rfl, fr_u (fr_t (fr_t (fr_0 _ _) (fr_s fU9 rfl)) (fr_s fU11 rfl)) hU15 rfl, lv_k (lv_t qU9l qU11l) (fun j => up_k hU15 (by exact Nat.ne_of_beq_eq_false rfl) 0 j), rv_k (rv_e (rv_u (y := b) (rv_0 (fun j => (fU11 543 0 j rfl).trans (fU9 543 0 j rfl))) hU15 (by rw [(fU11 543 0 (T 404 (T 107 0 1 - 1) (T 102 p 4)) rfl).trans (fU9 543 0 (T 404 (T 107 0 1 - 1) (T 102 p 4)) rfl)])) (fun i => Int.zero_add _)) (fun j => rfl), rv_k (rv_t qU9p qU11p) (fun j => up_k hU15 (by exact Nat.ne_of_beq_eq_false rfl) 0 j), rv_k (rv_t qU9s qU11s) (fun j => up_k hU15 (by exact Nat.ne_of_beq_eq_false rfl) 0 j)⟩
        · refine (show po_X7_addResult_e T p a b T (none) from ?_)
          exfalso; omega
theorem frh_s {T : Zt} {m b k y : Int} (hk : 0 ≤ k) (h : y = T 473 m (b + k) + cz_ (T 472 m (b + k) = 3) 3 0) : fr9h_ T m b (k + 1).toNat = fr9h_ T m b k.toNat + y := by
  rw [show (k + 1).toNat = k.toNat + 1 by omega, h]
  show fr9h_ T m b k.toNat + (T 473 m (b + ((k.toNat : Nat) : Int)) + cz_ (T 472 m (b + ((k.toNat : Nat) : Int)) = 3) 3 0) = _
  rw [show ((k.toNat : Nat) : Int) = k by omega]
theorem cz_s {P : Prop} {x y : Int} : cz_ P x 0 + cz_ P y 0 = cz_ P (x + y) 0 := by
  by_cases z : P
  · rw [cz_t z, cz_t z, cz_t z]
  · rw [cz_f z, cz_f z, cz_f z]
    rfl
theorem bk_X7_addCards_e_42 : ck_ fX7 none cX7_addCards 42 [.iload 3, .iconst (-1), .if_icmp .eq 110, .iload 4, .aload 1, .tableswitch 0 2 9 #[], .iload 2, .iaload, .if_icmp .ge 110, .iload 2, .iconst 10, .imul, .iload 4, .iadd, .istore 5, .aload 0, .tableswitch 0 7 4 #[], .iload 3, .dup2, .iaload, .aload 1, .tableswitch 0 2 10 #[], .tableswitch 0 3 13 #[], .iload 5, .iaload, .aload 1, .tableswitch 0 2 10 #[], .iload 5] 90 = true := qck_r (nn_ _) (by decide +kernel)
theorem bs_X7_addCards_e_42 {P : Zt → Option Zv → Prop} (K : Int → Zl → List Zv → Zt → Prop) : sx_ K P [.iload 3, .iconst (-1), .if_icmp .eq 110, .iload 4, .aload 1, .tableswitch 0 2 9 #[], .iload 2, .iaload, .if_icmp .ge 110, .iload 2, .iconst 10, .imul, .iload 4, .iadd, .istore 5, .aload 0, .tableswitch 0 7 4 #[], .iload 3, .dup2, .iaload, .aload 1, .tableswitch 0 2 10 #[], .tableswitch 0 3 13 #[], .iload 5, .iaload, .aload 1, .tableswitch 0 2 10 #[], .iload 5] 90 = x_iload 3 (x_iconst (-1) (x_if_icmp .eq 110 K (x_iload 4 (x_aload 1 (x_g2 102 449 (x_iload 2 (x_iaload (x_if_icmp .ge 110 K (x_iload 2 (x_iconst 10 (x_imul (x_iload 4 (x_iadd (x_istore 5 (x_aload 0 (x_g1 107 544 (x_iload 3 (x_dup2 (x_iaload (x_aload 1 (x_g4 102 103 10 (x_g2 103 473 (x_iload 5 (x_iaload (x_aload 1 (x_g4 102 103 10 (x_iload 5 (K 90)))))))))))))))))))))))))))) := ((xe_iload 3).trans (congrArg (x_iload 3) ((xe_iconst (-1)).trans (congrArg (x_iconst (-1)) ((xe_if_icmp .eq 110).trans (congrArg (x_if_icmp .eq 110 K) ((xe_iload 4).trans (congrArg (x_iload 4) ((xe_aload 1).trans (congrArg (x_aload 1) ((xe_g2 (kk := 102) rfl tl_2_9).trans (congrArg (x_g2 102 449) ((xe_iload 2).trans (congrArg (x_iload 2) ((xe_iaload).trans (congrArg (x_iaload) ((xe_if_icmp .ge 110).trans (congrArg (x_if_icmp .ge 110 K) ((xe_iload 2).trans (congrArg (x_iload 2) ((xe_iconst 10).trans (congrArg (x_iconst 10) ((xe_imul).trans (congrArg (x_imul) ((xe_iload 4).trans (congrArg (x_iload 4) ((xe_iadd).trans (congrArg (x_iadd) ((xe_istore 5).trans (congrArg (x_istore 5) ((xe_aload 0).trans (congrArg (x_aload 0) ((xe_g1 (kk := 107) rfl tl_7_4).trans (congrArg (x_g1 107 544) ((xe_iload 3).trans (congrArg (x_iload 3) ((xe_dup2).trans (congrArg (x_dup2) ((xe_iaload).trans (congrArg (x_iaload) ((xe_aload 1).trans (congrArg (x_aload 1) ((xe_g4 (kk := 102) rfl tl_2_10).trans (congrArg (x_g4 102 103 10) ((xe_g2 (kk := 103) rfl tl_3_13).trans (congrArg (x_g2 103 473) ((xe_iload 5).trans (congrArg (x_iload 5) ((xe_iaload).trans (congrArg (x_iaload) ((xe_aload 1).trans (congrArg (x_aload 1) ((xe_g4 (kk := 102) rfl tl_2_10).trans (congrArg (x_g4 102 103 10) ((xe_iload 5).trans (congrArg (x_iload 5) xe_nil))))))))))))))))))))))))))))))))))))))))))))))))))))))))
theorem bk_X7_addCards_e_110 : ck_ fX7 none cX7_addCards 110 [.iinc 2 1, .goto 10] 116 = true := qck_r (nn_ _) (by decide +kernel)
theorem bs_X7_addCards_e_110 {P : Zt → Option Zv → Prop} (K : Int → Zl → List Zv → Zt → Prop) : sx_ K P [.iinc 2 1, .goto 10] 116 = x_iinc 2 1 (x_goto 10 K) := ((xe_iinc 2 1).trans (congrArg (x_iinc 2 1) (xe_goto 10)))
theorem bk_X7_addCards_e_93 : ck_ fX7 none cX7_addCards 93 [.ifCond .eq 100, .iconst 3, .goto 101] 100 = true := qck_r (nn_ _) (by decide +kernel)
theorem bs_X7_addCards_e_93 {P : Zt → Option Zv → Prop} (K : Int → Zl → List Zv → Zt → Prop) : sx_ K P [.ifCond .eq 100, .iconst 3, .goto 101] 100 = x_ifCond .eq 100 K (x_iconst 3 (x_goto 101 K)) := ((xe_ifCond .eq 100).trans (congrArg (x_ifCond .eq 100 K) ((xe_iconst 3).trans (congrArg (x_iconst 3) (xe_goto 101)))))
theorem bk_X7_addCards_e_100 : ck_ fX7 none cX7_addCards 100 [.iconst 0, .fadd, .fadd, .iastore, .iinc 4 1, .goto 42] 110 = true := qck_r (nn_ _) (by decide +kernel)
theorem bs_X7_addCards_e_100 {P : Zt → Option Zv → Prop} (K : Int → Zl → List Zv → Zt → Prop) : sx_ K P [.iconst 0, .fadd, .fadd, .iastore, .iinc 4 1, .goto 42] 110 = x_iconst 0 (x_fadd (x_fadd (x_iastore (x_iinc 4 1 (x_goto 42 K))))) := ((xe_iconst 0).trans (congrArg (x_iconst 0) ((xe_fadd).trans (congrArg (x_fadd) ((xe_fadd).trans (congrArg (x_fadd) ((xe_iastore).trans (congrArg (x_iastore) ((xe_iinc 4 1).trans (congrArg (x_iinc 4 1) (xe_goto 42)))))))))))
theorem bk_X7_addCards_e_101 : ck_ fX7 none cX7_addCards 101 [.fadd, .fadd, .iastore, .iinc 4 1, .goto 42] 110 = true := qck_r (nn_ _) (by decide +kernel)
theorem bs_X7_addCards_e_101 {P : Zt → Option Zv → Prop} (K : Int → Zl → List Zv → Zt → Prop) : sx_ K P [.fadd, .fadd, .iastore, .iinc 4 1, .goto 42] 110 = x_fadd (x_fadd (x_iastore (x_iinc 4 1 (x_goto 42 K)))) := ((xe_fadd).trans (congrArg (x_fadd) ((xe_fadd).trans (congrArg (x_fadd) ((xe_iastore).trans (congrArg (x_iastore) ((xe_iinc 4 1).trans (congrArg (x_iinc 4 1) (xe_goto 42)))))))))
theorem bk_X7_addCards_e_10 : ck_ fX7 none cX7_addCards 10 [.iload 2, .iconst 2, .if_icmp .ge 116, .aload 0, .tableswitch 0 7 1 #[], .tableswitch 0 0 4 #[], .iload 2, .ifCond .ne 33, .aload 1, .tableswitch 0 2 3 #[], .goto 37] 33 = true := qck_r (nn_ _) (by decide +kernel)
theorem bs_X7_addCards_e_10 {P : Zt → Option Zv → Prop} (K : Int → Zl → List Zv → Zt → Prop) : sx_ K P [.iload 2, .iconst 2, .if_icmp .ge 116, .aload 0, .tableswitch 0 7 1 #[], .tableswitch 0 0 4 #[], .iload 2, .ifCond .ne 33, .aload 1, .tableswitch 0 2 3 #[], .goto 37] 33 = x_iload 2 (x_iconst 2 (x_if_icmp .ge 116 K (x_aload 0 (x_g5 107 100 1 (x_g2 100 404 (x_iload 2 (x_ifCond .ne 33 K (x_aload 1 (x_g0 102 3 0 11 (x_goto 37 K)))))))))) := ((xe_iload 2).trans (congrArg (x_iload 2) ((xe_iconst 2).trans (congrArg (x_iconst 2) ((xe_if_icmp .ge 116).trans (congrArg (x_if_icmp .ge 116 K) ((xe_aload 0).trans (congrArg (x_aload 0) ((xe_g5 (kk := 107) rfl tl_7_1).trans (congrArg (x_g5 107 100 1) ((xe_g2 (kk := 100) rfl tl_0_4).trans (congrArg (x_g2 100 404) ((xe_iload 2).trans (congrArg (x_iload 2) ((xe_ifCond .ne 33).trans (congrArg (x_ifCond .ne 33 K) ((xe_aload 1).trans (congrArg (x_aload 1) ((xe_g0 (kk := 102) rfl tl_2_3).trans (congrArg (x_g0 102 3 0 11) (xe_goto 37)))))))))))))))))))))
theorem bk_X7_addCards_e_116 : ck_ fX7 none cX7_addCards 116 [.return_] 117 = true := qck_r (nn_ _) (by decide +kernel)
theorem bs_X7_addCards_e_116 {P : Zt → Option Zv → Prop} (K : Int → Zl → List Zv → Zt → Prop) : sx_ K P [.return_] 117 = x_return_ P := (xe_return_)
theorem bk_X7_addCards_e_33 : ck_ fX7 none cX7_addCards 33 [.aload 1, .tableswitch 0 2 4 #[], .iaload, .istore 3, .iconst 0, .istore 4] 42 = true := qck_r (nn_ _) (by decide +kernel)
theorem bs_X7_addCards_e_33 {P : Zt → Option Zv → Prop} (K : Int → Zl → List Zv → Zt → Prop) : sx_ K P [.aload 1, .tableswitch 0 2 4 #[], .iaload, .istore 3, .iconst 0, .istore 4] 42 = x_aload 1 (x_g0 102 4 0 11 (x_iaload (x_istore 3 (x_iconst 0 (x_istore 4 (K 42)))))) := ((xe_aload 1).trans (congrArg (x_aload 1) ((xe_g0 (kk := 102) rfl tl_2_4).trans (congrArg (x_g0 102 4 0 11) ((xe_iaload).trans (congrArg (x_iaload) ((xe_istore 3).trans (congrArg (x_istore 3) ((xe_iconst 0).trans (congrArg (x_iconst 0) ((xe_istore 4).trans (congrArg (x_istore 4) xe_nil))))))))))))
theorem bk_X7_addCards_e_37 : ck_ fX7 none cX7_addCards 37 [.iaload, .istore 3, .iconst 0, .istore 4] 42 = true := qck_r (nn_ _) (by decide +kernel)
theorem bs_X7_addCards_e_37 {P : Zt → Option Zv → Prop} (K : Int → Zl → List Zv → Zt → Prop) : sx_ K P [.iaload, .istore 3, .iconst 0, .istore 4] 42 = x_iaload (x_istore 3 (x_iconst 0 (x_istore 4 (K 42)))) := ((xe_iaload).trans (congrArg (x_iaload) ((xe_istore 3).trans (congrArg (x_istore 3) ((xe_iconst 0).trans (congrArg (x_iconst 0) ((xe_istore 4).trans (congrArg (x_istore 4) xe_nil))))))))
theorem bk_X7_addCards_e_0 : ck_ fX7 none cX7_addCards 0 [.aload 1, .tableswitch 0 2 10 #[], .ifnonnull 8, .return_] 8 = true := qck_r (nn_ _) (by decide +kernel)
theorem bs_X7_addCards_e_0 {P : Zt → Option Zv → Prop} (K : Int → Zl → List Zv → Zt → Prop) : sx_ K P [.aload 1, .tableswitch 0 2 10 #[], .ifnonnull 8, .return_] 8 = x_aload 1 (x_g4 102 103 10 (x_ifnonnull 8 K (x_return_ P))) := ((xe_aload 1).trans (congrArg (x_aload 1) ((xe_g4 (kk := 102) rfl tl_2_10).trans (congrArg (x_g4 102 103 10) ((xe_ifnonnull 8).trans (congrArg (x_ifnonnull 8 K) (xe_return_)))))))
theorem bk_X7_addCards_e_8 : ck_ fX7 none cX7_addCards 8 [.iconst 0, .istore 2] 10 = true := qck_r (nn_ _) (by decide +kernel)
theorem bs_X7_addCards_e_8 {P : Zt → Option Zv → Prop} (K : Int → Zl → List Zv → Zt → Prop) : sx_ K P [.iconst 0, .istore 2] 10 = x_iconst 0 (x_istore 2 (K 10)) := ((xe_iconst 0).trans (congrArg (x_iconst 0) ((xe_istore 2).trans (congrArg (x_istore 2) xe_nil))))
abbrev po_X7_addCards_e (T : Zt) (p : Int) : Zt → Option Zv → Prop := fun T' r => r = none ∧ fr_ [(544, [])] T T' ∧ (RV_ 544 T T' (fun j => cz_ (j = T 404 (T 107 0 1 - 1) (T 102 p 3)) (cz_ (T 102 p 10 = 0) 0 (fr9h_ T p 0 (T 449 p 0).toNat)) 0 + cz_ (j = T 404 (T 107 0 1 - 1) (T 102 p 4)) (cz_ (T 102 p 10 = 0) 0 (fr9h_ T p 10 (T 449 p 1).toNat)) 0))
set_option maxHeartbeats 4000000 in
theorem ct_X7_addCards_e {T : Zt} {p : Int} (hct : T 107 0 1 ≠ 0) (hse : 0 ≤ T 404 (T 107 0 1 - 1) (T 102 p 3) ∧ 0 ≤ T 404 (T 107 0 1 - 1) (T 102 p 4)) : Ct_ yX7_addCards zX7_addCards T [vR 107 0, vR 102 p] (po_X7_addCards_e T p) := by
  refine ct_of pn_7 rfl rfl (Nat.le_of_ble_eq_true rfl) (fun hT hav => ?_)
  have hz : zX7_addCards.2.2.2.1 = some .boolean → ∀ (T' : Zt) (x : Int), po_X7_addCards_e T p T' (some (vI x)) → 0 ≤ x ∧ x ≤ 1 := fun h => by cases h
  have hl0 : 0 ≤ T 449 p 0 ∧ T 449 p 0 ≤ 10 := bd_a hT 449 (by decide +kernel : ta_ 449 = some (1, some 2, 0, 10)) p (by omega)
  have hl1 : 0 ≤ T 449 p 1 ∧ T 449 p 1 ≤ 10 := bd_a hT 449 (by decide +kernel : ta_ 449 = some (1, some 2, 0, 10)) p (by omega)
  show J_ zX7_addCards T (po_X7_addCards_e T p) 0 0 0 [some (vR 107 0), some (vR 102 p), none, none, none, none] [] T
  have c_10 : ∀ (nn : Nat) (d : Int) (T1 : Zt), ((2 - d).toNat) ≤ nn → (fr_ [(544, [])] T T1) → (0 ≤ d ∧ d ≤ 2 ∧ T 102 p 10 ≠ 0) → (RV_ 544 T T1 (fun j => cz_ (0 < d ∧ j = T 404 (T 107 0 1 - 1) (T 102 p 3)) (fr9h_ T p 0 (T 449 p 0).toNat) 0 + cz_ (1 < d ∧ j = T 404 (T 107 0 1 - 1) (T 102 p 4)) (fr9h_ T p 10 (T 449 p 1).toNat) 0)) → J_ zX7_addCards T (po_X7_addCards_e T p) 0 0 10 [some (vR 107 0), some (vR 102 p), some (vI d), none, none, none] [] T1 := by
    intro nn
    induction nn using Nat.strongRecOn with
    | _ nn ih_10 =>
      intro d T1 hm_10 hf_10 i1 d1
      replace hm_10 := fun (_ : Unit) => hm_10
      have c_42 : ∀ (nn : Nat) (e : Int) (k : Int) (T2 : Zt), ((10 - k).toNat) ≤ nn → (fr_ [(544, [])] T T2) → (-1 ≤ e ∧ e < 12 ∧ 0 ≤ k ∧ d < 2 ∧ (d = 0 → e = T 404 (T 107 0 1 - 1) (T 102 p 3)) ∧ (d = 1 → e = T 404 (T 107 0 1 - 1) (T 102 p 4)) ∧ k ≤ T 449 p d) → (RV_ 544 T T2 (fun j => cz_ (0 < d ∧ j = T 404 (T 107 0 1 - 1) (T 102 p 3)) (fr9h_ T p 0 (T 449 p 0).toNat) 0 + cz_ (j = e) (fr9h_ T p (d * 10) k.toNat) 0)) → J_ zX7_addCards T (po_X7_addCards_e T p) 0 0 42 [some (vR 107 0), some (vR 102 p), some (vI d), some (vI e), some (vI k), none] [] T2 := by
        intro nn
        induction nn using Nat.strongRecOn with
        | _ nn ih_42 =>
          intro e k T2 hm_42 hf_42 i2 d2
          replace hm_42 := fun (_ : Unit) => hm_42
          refine j_blx (F := fX7) tb_X7 (nn_ _) bk_X7_addCards_e_42 bs_X7_addCards_e_42 hz (fun K hK => ?_)
          refine And.intro (fun c1 => ?_) (fun c1 => ?_)
          · refine hK 110 _ [] T2 ?_
            refine j_blx (F := fX7) tb_X7 (nn_ _) bk_X7_addCards_e_110 bs_X7_addCards_e_110 hz (fun K hK => ?_)
            refine rg_i (by omega) ?_
            refine hK 10 [some (vR 107 0), some (vR 102 p), some (vI (d + 1)), some (vI e), some (vI k), none] [] T2 ?_
            refine j_drop [some (vR 107 0), some (vR 102 p), some (vI (d + 1)), none, none, none] (fun k v hk => ?_) rfl ?_
            · match k, hk with
              | 0, hk => exact hk
              | 1, hk => exact hk
              | 2, hk => exact hk
              | 3, hk => cases hk
              | 4, hk => cases hk
              | 5, hk => cases hk
              | k + 6, hk => cases hk
            refine ih_10 _ ?_ (d + 1) T2 (Nat.le_refl _) ?_ ?_ ?_
            · have hm_10 := hm_10 (); omega
            · exact fr_t (fr_0 _ _) (fr_s hf_42 rfl)
            · omega
            · refine rv_e (rv_k d2 (fun j => rfl)) (fun i => ?_)
              show cz_ (0 < d ∧ i = T 404 (T 107 0 1 - 1) (T 102 p 3)) (fr9h_ T p 0 (T 449 p 0).toNat) 0 + cz_ (i = e) (fr9h_ T p (d * 10) k.toNat) 0 = cz_ (0 < d + 1 ∧ i = T 404 (T 107 0 1 - 1) (T 102 p 3)) (fr9h_ T p 0 (T 449 p 0).toNat) 0 + cz_ (1 < d + 1 ∧ i = T 404 (T 107 0 1 - 1) (T 102 p 4)) (fr9h_ T p 10 (T 449 p 1).toNat) 0
              rcases (by omega : d = 0 ∨ d = 1) with z | z
              · have hd : T 449 p d = T 449 p 0 := congrArg (fun y => T 449 p y) z
                rw [cz_f (P := 0 < d ∧ i = T 404 (T 107 0 1 - 1) (T 102 p 3)) (fun q => by omega), cz_f (P := 1 < d + 1 ∧ i = T 404 (T 107 0 1 - 1) (T 102 p 4)) (fun q => by omega), cz_g (P := i = e) (Q := 0 < d + 1 ∧ i = T 404 (T 107 0 1 - 1) (T 102 p 3)) (by omega), show k = T 449 p 0 by omega, show d * 10 = 0 by omega]
                omega
              · have hd : T 449 p d = T 449 p 1 := congrArg (fun y => T 449 p y) z
                rw [cz_g (P := 0 < d ∧ i = T 404 (T 107 0 1 - 1) (T 102 p 3)) (Q := 0 < d + 1 ∧ i = T 404 (T 107 0 1 - 1) (T 102 p 3)) (by omega), cz_g (P := i = e) (Q := 1 < d + 1 ∧ i = T 404 (T 107 0 1 - 1) (T 102 p 4)) (by omega), show k = T 449 p 1 by omega, show d * 10 = 10 by omega]
          · refine ix_i (by omega) ?_
            intro b2 b2b
            have e3 : T2 449 p d = T 449 p d := hf_42 449 p d rfl
            rw [e3] at b2 b2b ⊢
            refine And.intro (fun c4 => ?_) (fun c4 => ?_)
            · refine hK 110 [some (vR 107 0), some (vR 102 p), some (vI d), some (vI e), some (vI k), none] [] T2 ?_
              refine j_blx (F := fX7) tb_X7 (nn_ _) bk_X7_addCards_e_110 bs_X7_addCards_e_110 hz (fun K hK => ?_)
              refine rg_i (by omega) ?_
              refine hK 10 [some (vR 107 0), some (vR 102 p), some (vI (d + 1)), some (vI e), some (vI k), none] [] T2 ?_
              refine j_drop [some (vR 107 0), some (vR 102 p), some (vI (d + 1)), none, none, none] (fun k v hk => ?_) rfl ?_
              · match k, hk with
                | 0, hk => exact hk
                | 1, hk => exact hk
                | 2, hk => exact hk
                | 3, hk => cases hk
                | 4, hk => cases hk
                | 5, hk => cases hk
                | k + 6, hk => cases hk
              refine ih_10 _ ?_ (d + 1) T2 (Nat.le_refl _) ?_ ?_ ?_
              · have hm_10 := hm_10 (); omega
              · exact fr_t (fr_0 _ _) (fr_s hf_42 rfl)
              · omega
              · refine rv_e (rv_k d2 (fun j => rfl)) (fun i => ?_)
                show cz_ (0 < d ∧ i = T 404 (T 107 0 1 - 1) (T 102 p 3)) (fr9h_ T p 0 (T 449 p 0).toNat) 0 + cz_ (i = e) (fr9h_ T p (d * 10) k.toNat) 0 = cz_ (0 < d + 1 ∧ i = T 404 (T 107 0 1 - 1) (T 102 p 3)) (fr9h_ T p 0 (T 449 p 0).toNat) 0 + cz_ (1 < d + 1 ∧ i = T 404 (T 107 0 1 - 1) (T 102 p 4)) (fr9h_ T p 10 (T 449 p 1).toNat) 0
                rcases (by omega : d = 0 ∨ d = 1) with z | z
                · have hd : T 449 p d = T 449 p 0 := congrArg (fun y => T 449 p y) z
                  rw [cz_f (P := 0 < d ∧ i = T 404 (T 107 0 1 - 1) (T 102 p 3)) (fun q => by omega), cz_f (P := 1 < d + 1 ∧ i = T 404 (T 107 0 1 - 1) (T 102 p 4)) (fun q => by omega), cz_g (P := i = e) (Q := 0 < d + 1 ∧ i = T 404 (T 107 0 1 - 1) (T 102 p 3)) (by omega), show k = T 449 p 0 by omega, show d * 10 = 0 by omega]
                  omega
                · have hd : T 449 p d = T 449 p 1 := congrArg (fun y => T 449 p y) z
                  rw [cz_g (P := 0 < d ∧ i = T 404 (T 107 0 1 - 1) (T 102 p 3)) (Q := 0 < d + 1 ∧ i = T 404 (T 107 0 1 - 1) (T 102 p 3)) (by omega), cz_g (P := i = e) (Q := 1 < d + 1 ∧ i = T 404 (T 107 0 1 - 1) (T 102 p 4)) (by omega), show k = T 449 p 1 by omega, show d * 10 = 10 by omega]
            · refine rg_i (by omega) ?_
              refine rg_i (by omega) ?_
              refine ix_i (by omega) ?_
              intro b5 b5b
              have e7 : T2 102 p 10 = T 102 p 10 := hf_42 102 p 10 rfl
              refine And.intro (fun c6 => ?_) (fun c6 => ?_)
              · exact absurd c6 (by omega)
              · refine ix_i (by omega) ?_
                intro b8 b8b
                have e9 : T2 473 p ((d * 10) + k) = T 473 p ((d * 10) + k) := hf_42 473 p ((d * 10) + k) rfl
                rw [e9] at b8 b8b ⊢
                have e11 : T2 102 p 10 = T 102 p 10 := hf_42 102 p 10 rfl
                refine And.intro (fun c10 => ?_) (fun c10 => ?_)
                · exact absurd c10 (by omega)
                · refine hK 90 [some (vR 107 0), some (vR 102 p), some (vI d), some (vI e), some (vI k), some (vI ((d * 10) + k))] [vI ((d * 10) + k), vR 103 p, vI (T 473 p ((d * 10) + k)), vI (T2 544 0 e), vI e, vR 544 0] T2 ?_
                  refine j_callV (y := yX3_isSentOff) (Yc := zX3_isSentOff) (rest := [vI (T 473 p ((d * 10) + k)), vI (T2 544 0 e), vI e, vR 544 0]) [vI ((d * 10) + k)] (ct_X3_isSentOff_f (T := T2) (by omega)) cl_X7_136 (qd_c (by decide +kernel)) (nn_ _) rfl (rf_of rfl) (Nat.le_of_ble_eq_true rfl) (Nat.le_of_ble_eq_true rfl) (Nat.le_of_ble_eq_true rfl) rfl ?_
                  rintro _ _ ⟨rfl, x12, rfl, hx12⟩
                  have e13 : T2 472 p ((d * 10) + k) = T 472 p ((d * 10) + k) := hf_42 472 p ((d * 10) + k) rfl
                  show J_ zX7_addCards T (po_X7_addCards_e T p) 0 0 93 _ [vI x12, vI (T 473 p ((d * 10) + k)), vI (T2 544 0 e), vI e, vR 544 0] T2
                  refine j_blx (F := fX7) tb_X7 (nn_ _) bk_X7_addCards_e_93 bs_X7_addCards_e_93 hz (fun K hK => ?_)
                  refine And.intro (fun c14 => ?_) (fun c14 => ?_)
                  · replace hx12 := hx12.resolve_left (fun z => absurd (c14.symm.trans z.1) (by decide))
                    clear c14
                    refine hK 100 _ [vI (T 473 p ((d * 10) + k)), vI (T2 544 0 e), vI e, vR 544 0] T2 ?_
                    refine j_blx (F := fX7) tb_X7 (nn_ _) bk_X7_addCards_e_100 bs_X7_addCards_e_100 hz (fun K hK => ?_)
                    intro w15 w15b
                    intro w16 w16b
                    refine iy_i (by omega) (by omega) ?_
                    refine x_nm (fun U17 hU17 => ?_)
                    have e18 := up_f hU17
                    refine rg_i (by omega) ?_
                    refine hK 42 [some (vR 107 0), some (vR 102 p), some (vI d), some (vI e), some (vI (k + 1)), some (vI ((d * 10) + k))] [] U17 ?_
                    refine j_drop [some (vR 107 0), some (vR 102 p), some (vI d), some (vI e), some (vI (k + 1)), none] (fun k v hk => ?_) rfl ?_
                    · match k, hk with
                      | 0, hk => exact hk
                      | 1, hk => exact hk
                      | 2, hk => exact hk
                      | 3, hk => exact hk
                      | 4, hk => exact hk
                      | 5, hk => cases hk
                      | k + 6, hk => cases hk
                    refine ih_42 _ ?_ e (k + 1) U17 (Nat.le_refl _) ?_ ?_ ?_
                    · have hm_42 := hm_42 (); omega
                    · exact fr_u (fr_t (fr_0 _ _) (fr_s hf_42 rfl)) hU17 rfl
                    · omega
                    · have y9 : (T 473 p ((d * 10) + k)) + 0 = T 473 p (d * 10 + k) + cz_ (T 472 p (d * 10 + k) = 3) 3 0 := by
                        first
                        | (rw [cz_t (by omega)])
                        | (rw [cz_f (by omega)])
                      refine rv_e (rv_w (y := (T 473 p ((d * 10) + k)) + 0) d2 hU17 rfl) (fun i => ?_)
                      show cz_ (0 < d ∧ i = T 404 (T 107 0 1 - 1) (T 102 p 3)) (fr9h_ T p 0 (T 449 p 0).toNat) 0 + cz_ (i = e) (fr9h_ T p (d * 10) k.toNat) 0 + cz_ (i = e) ((T 473 p ((d * 10) + k)) + 0) 0 = cz_ (0 < d ∧ i = T 404 (T 107 0 1 - 1) (T 102 p 3)) (fr9h_ T p 0 (T 449 p 0).toNat) 0 + cz_ (i = e) (fr9h_ T p (d * 10) (k + 1).toNat) 0
                      rw [frh_s (y := (T 473 p ((d * 10) + k)) + 0) (by omega) y9, ← cz_s (P := i = e) (x := fr9h_ T p (d * 10) k.toNat) (y := (T 473 p ((d * 10) + k)) + 0)]
                      omega
                  · replace hx12 := hx12.resolve_right (fun z => c14 z.1)
                    clear c14
                    refine hK 101 [some (vR 107 0), some (vR 102 p), some (vI d), some (vI e), some (vI k), some (vI ((d * 10) + k))] [vI 3, vI (T 473 p ((d * 10) + k)), vI (T2 544 0 e), vI e, vR 544 0] T2 ?_
                    refine j_blx (F := fX7) tb_X7 (nn_ _) bk_X7_addCards_e_101 bs_X7_addCards_e_101 hz (fun K hK => ?_)
                    intro w19 w19b
                    intro w20 w20b
                    refine iy_i (by omega) (by omega) ?_
                    refine x_nm (fun U21 hU21 => ?_)
                    have e22 := up_f hU21
                    refine rg_i (by omega) ?_
                    refine hK 42 [some (vR 107 0), some (vR 102 p), some (vI d), some (vI e), some (vI (k + 1)), some (vI ((d * 10) + k))] [] U21 ?_
                    refine j_drop [some (vR 107 0), some (vR 102 p), some (vI d), some (vI e), some (vI (k + 1)), none] (fun k v hk => ?_) rfl ?_
                    · match k, hk with
                      | 0, hk => exact hk
                      | 1, hk => exact hk
                      | 2, hk => exact hk
                      | 3, hk => exact hk
                      | 4, hk => exact hk
                      | 5, hk => cases hk
                      | k + 6, hk => cases hk
                    refine ih_42 _ ?_ e (k + 1) U21 (Nat.le_refl _) ?_ ?_ ?_
                    · have hm_42 := hm_42 (); omega
                    · exact fr_u (fr_t (fr_0 _ _) (fr_s hf_42 rfl)) hU21 rfl
                    · omega
                    · have y9 : (T 473 p ((d * 10) + k)) + 3 = T 473 p (d * 10 + k) + cz_ (T 472 p (d * 10 + k) = 3) 3 0 := by
                        first
                        | (rw [cz_t (by omega)])
                        | (rw [cz_f (by omega)])
                      refine rv_e (rv_w (y := (T 473 p ((d * 10) + k)) + 3) d2 hU21 rfl) (fun i => ?_)
                      show cz_ (0 < d ∧ i = T 404 (T 107 0 1 - 1) (T 102 p 3)) (fr9h_ T p 0 (T 449 p 0).toNat) 0 + cz_ (i = e) (fr9h_ T p (d * 10) k.toNat) 0 + cz_ (i = e) ((T 473 p ((d * 10) + k)) + 3) 0 = cz_ (0 < d ∧ i = T 404 (T 107 0 1 - 1) (T 102 p 3)) (fr9h_ T p 0 (T 449 p 0).toNat) 0 + cz_ (i = e) (fr9h_ T p (d * 10) (k + 1).toNat) 0
                      rw [frh_s (y := (T 473 p ((d * 10) + k)) + 3) (by omega) y9, ← cz_s (P := i = e) (x := fr9h_ T p (d * 10) k.toNat) (y := (T 473 p ((d * 10) + k)) + 3)]
                      omega
      refine j_blx (F := fX7) tb_X7 (nn_ _) bk_X7_addCards_e_10 bs_X7_addCards_e_10 hz (fun K hK => ?_)
      refine And.intro (fun c23 => ?_) (fun c23 => ?_)
      · refine hK 116 _ [] T1 ?_
        refine j_blx (F := fX7) tb_X7 (nn_ _) bk_X7_addCards_e_116 bs_X7_addCards_e_116 hz (fun K hK => ?_)
        refine (show po_X7_addCards_e T p T1 (none) from ?_)
        refine ⟨rfl, fr_t (fr_0 _ _) (fr_s hf_10 rfl), rv_e d1 (fun i => ?_)⟩
        show cz_ (0 < d ∧ i = T 404 (T 107 0 1 - 1) (T 102 p 3)) (fr9h_ T p 0 (T 449 p 0).toNat) 0 + cz_ (1 < d ∧ i = T 404 (T 107 0 1 - 1) (T 102 p 4)) (fr9h_ T p 10 (T 449 p 1).toNat) 0 = cz_ (i = T 404 (T 107 0 1 - 1) (T 102 p 3)) (cz_ (T 102 p 10 = 0) 0 (fr9h_ T p 0 (T 449 p 0).toNat)) 0 + cz_ (i = T 404 (T 107 0 1 - 1) (T 102 p 4)) (cz_ (T 102 p 10 = 0) 0 (fr9h_ T p 10 (T 449 p 1).toNat)) 0
        rw [cz_f (P := T 102 p 10 = 0) (by omega), cz_f (P := T 102 p 10 = 0) (by omega), cz_g (P := 0 < d ∧ i = T 404 (T 107 0 1 - 1) (T 102 p 3)) (Q := i = T 404 (T 107 0 1 - 1) (T 102 p 3)) (by omega), cz_g (P := 1 < d ∧ i = T 404 (T 107 0 1 - 1) (T 102 p 4)) (Q := i = T 404 (T 107 0 1 - 1) (T 102 p 4)) (by omega)]
      · have e25 : T1 107 0 1 = T 107 0 1 := hf_10 107 0 1 rfl
        refine And.intro (fun c24 => ?_) (fun c24 => ?_)
        · exact absurd c24 (by omega)
        · refine And.intro (fun c26 => ?_) (fun c26 => ?_)
          · refine hK 33 _ [vR 404 (T1 107 0 1 - 1)] T1 ?_
            refine j_blx (F := fX7) tb_X7 (nn_ _) bk_X7_addCards_e_33 bs_X7_addCards_e_33 hz (fun K hK => ?_)
            intro b27 b27b
            have e28 : T1 102 p 4 = T 102 p 4 := hf_10 102 p 4 rfl
            rw [e28] at b27 b27b ⊢
            refine ix_i (by omega) ?_
            intro b29 b29b
            have e30 : T1 404 (T 107 0 1 - 1) (T 102 p 4) = T 404 (T 107 0 1 - 1) (T 102 p 4) := hf_10 404 (T 107 0 1 - 1) (T 102 p 4) rfl
            have e31 : T1 404 (T1 107 0 1 - 1) (T 102 p 4) = T 404 (T 107 0 1 - 1) (T 102 p 4) := by rw [e25]; exact e30
            rw [e31] at b29 b29b ⊢
            refine hK 42 [some (vR 107 0), some (vR 102 p), some (vI d), some (vI (T 404 (T 107 0 1 - 1) (T 102 p 4))), some (vI 0), none] [] T1 ?_
            refine c_42 _ (T 404 (T 107 0 1 - 1) (T 102 p 4)) 0 T1 (Nat.le_refl _) ?_ ?_ ?_
            · exact fr_t (fr_0 _ _) (fr_s hf_10 rfl)
            · have hld : 0 ≤ T 449 p d ∧ T 449 p d ≤ 10 := bd_a hT 449 (by decide +kernel : ta_ 449 = some (1, some 2, 0, 10)) p (by omega)
              omega
            · refine rv_e (rv_k d1 (fun j => rfl)) (fun i => ?_)
              show cz_ (0 < d ∧ i = T 404 (T 107 0 1 - 1) (T 102 p 3)) (fr9h_ T p 0 (T 449 p 0).toNat) 0 + cz_ (1 < d ∧ i = T 404 (T 107 0 1 - 1) (T 102 p 4)) (fr9h_ T p 10 (T 449 p 1).toNat) 0 = cz_ (0 < d ∧ i = T 404 (T 107 0 1 - 1) (T 102 p 3)) (fr9h_ T p 0 (T 449 p 0).toNat) 0 + cz_ (i = T 404 (T 107 0 1 - 1) (T 102 p 4)) (fr9h_ T p (d * 10) (0 : Int).toNat) 0
              rw [cz_f (P := 1 < d ∧ i = T 404 (T 107 0 1 - 1) (T 102 p 4)) (fun q => by omega), cz_0 (P := i = T 404 (T 107 0 1 - 1) (T 102 p 4)) (show fr9h_ T p (d * 10) (0 : Int).toNat = 0 from rfl)]
          · intro b32 b32b
            have e33 : T1 102 p 3 = T 102 p 3 := hf_10 102 p 3 rfl
            rw [e33] at b32 b32b ⊢
            refine hK 37 [some (vR 107 0), some (vR 102 p), some (vI d), none, none, none] [vI (T 102 p 3), vR 404 (T1 107 0 1 - 1)] T1 ?_
            refine j_blx (F := fX7) tb_X7 (nn_ _) bk_X7_addCards_e_37 bs_X7_addCards_e_37 hz (fun K hK => ?_)
            refine ix_i (by omega) ?_
            intro b34 b34b
            have e35 : T1 404 (T 107 0 1 - 1) (T 102 p 3) = T 404 (T 107 0 1 - 1) (T 102 p 3) := hf_10 404 (T 107 0 1 - 1) (T 102 p 3) rfl
            have e36 : T1 404 (T1 107 0 1 - 1) (T 102 p 3) = T 404 (T 107 0 1 - 1) (T 102 p 3) := by rw [e25]; exact e35
            rw [e36] at b34 b34b ⊢
            refine hK 42 [some (vR 107 0), some (vR 102 p), some (vI d), some (vI (T 404 (T 107 0 1 - 1) (T 102 p 3))), some (vI 0), none] [] T1 ?_
            refine c_42 _ (T 404 (T 107 0 1 - 1) (T 102 p 3)) 0 T1 (Nat.le_refl _) ?_ ?_ ?_
            · exact fr_t (fr_0 _ _) (fr_s hf_10 rfl)
            · have hld : 0 ≤ T 449 p d ∧ T 449 p d ≤ 10 := bd_a hT 449 (by decide +kernel : ta_ 449 = some (1, some 2, 0, 10)) p (by omega)
              omega
            · refine rv_e (rv_k d1 (fun j => rfl)) (fun i => ?_)
              show cz_ (0 < d ∧ i = T 404 (T 107 0 1 - 1) (T 102 p 3)) (fr9h_ T p 0 (T 449 p 0).toNat) 0 + cz_ (1 < d ∧ i = T 404 (T 107 0 1 - 1) (T 102 p 4)) (fr9h_ T p 10 (T 449 p 1).toNat) 0 = cz_ (0 < d ∧ i = T 404 (T 107 0 1 - 1) (T 102 p 3)) (fr9h_ T p 0 (T 449 p 0).toNat) 0 + cz_ (i = T 404 (T 107 0 1 - 1) (T 102 p 3)) (fr9h_ T p (d * 10) (0 : Int).toNat) 0
              rw [cz_f (P := 1 < d ∧ i = T 404 (T 107 0 1 - 1) (T 102 p 4)) (fun q => by omega), cz_0 (P := i = T 404 (T 107 0 1 - 1) (T 102 p 3)) (show fr9h_ T p (d * 10) (0 : Int).toNat = 0 from rfl)]
  refine j_blx (F := fX7) tb_X7 (nn_ _) bk_X7_addCards_e_0 bs_X7_addCards_e_0 hz (fun K hK => ?_)
  refine And.intro (fun c37 => ?_) (fun c37 => ?_)
  · refine (show po_X7_addCards_e T p T (none) from ?_)
    refine ⟨rfl, fr_0 _ _, rv_e (rv_0 (fun _ => rfl)) (fun i => ?_)⟩
    show (0 : Int) = cz_ (i = T 404 (T 107 0 1 - 1) (T 102 p 3)) (cz_ (T 102 p 10 = 0) 0 (fr9h_ T p 0 (T 449 p 0).toNat)) 0 + cz_ (i = T 404 (T 107 0 1 - 1) (T 102 p 4)) (cz_ (T 102 p 10 = 0) 0 (fr9h_ T p 10 (T 449 p 1).toNat)) 0
    rw [cz_t (P := T 102 p 10 = 0) (by omega), cz_t (P := T 102 p 10 = 0) (by omega), cz_0 rfl, cz_0 rfl]
    rfl
  · refine hK 8 _ [] T ?_
    refine j_blx (F := fX7) tb_X7 (nn_ _) bk_X7_addCards_e_8 bs_X7_addCards_e_8 hz (fun K hK => ?_)
    refine hK 10 [some (vR 107 0), some (vR 102 p), some (vI 0), none, none, none] [] T ?_
    refine c_10 _ 0 T (Nat.le_refl _) ?_ ?_ ?_
    · exact fr_0 _ _
    · omega
    · refine rv_e (rv_0 (fun _ => rfl)) (fun i => ?_)
      show (0 : Int) = cz_ ((0 : Int) < 0 ∧ i = T 404 (T 107 0 1 - 1) (T 102 p 3)) (fr9h_ T p 0 (T 449 p 0).toNat) 0 + cz_ ((1 : Int) < 0 ∧ i = T 404 (T 107 0 1 - 1) (T 102 p 4)) (fr9h_ T p 10 (T 449 p 1).toNat) 0
      rw [cz_f (fun q => by omega), cz_f (fun q => by omega)]
      rfl
theorem bk_X6_deductedUpTo_e_6 : ck_ fX6 (some .int) cX6_deductedUpTo 6 [.iload 5, .aload 0, .tableswitch 0 6 6 #[], .if_icmp .ge 66, .aload 0, .tableswitch 0 6 7 #[], .iload 5, .iaload, .iload 2, .if_icmp .ne 60, .aload 0, .tableswitch 0 6 8 #[], .iload 5, .iaload, .iload 3, .if_icmp .ne 60, .aload 0, .tableswitch 0 6 10 #[], .iload 5, .iaload, .iload 1, .if_icmp .gt 60, .iload 4, .aload 0, .tableswitch 0 6 9 #[], .iload 5, .iaload, .iadd, .istore 4, .iinc 5 1, .goto 6] 66 = true := qck_r (nn_ _) (by decide +kernel)
theorem bs_X6_deductedUpTo_e_6 {P : Zt → Option Zv → Prop} (K : Int → Zl → List Zv → Zt → Prop) : sx_ K P [.iload 5, .aload 0, .tableswitch 0 6 6 #[], .if_icmp .ge 66, .aload 0, .tableswitch 0 6 7 #[], .iload 5, .iaload, .iload 2, .if_icmp .ne 60, .aload 0, .tableswitch 0 6 8 #[], .iload 5, .iaload, .iload 3, .if_icmp .ne 60, .aload 0, .tableswitch 0 6 10 #[], .iload 5, .iaload, .iload 1, .if_icmp .gt 60, .iload 4, .aload 0, .tableswitch 0 6 9 #[], .iload 5, .iaload, .iadd, .istore 4, .iinc 5 1, .goto 6] 66 = x_iload 5 (x_aload 0 (x_g0 106 6 0 50 (x_if_icmp .ge 66 K (x_aload 0 (x_g1 106 527 (x_iload 5 (x_iaload (x_iload 2 (x_if_icmp .ne 60 K (x_aload 0 (x_g1 106 528 (x_iload 5 (x_iaload (x_iload 3 (x_if_icmp .ne 60 K (x_aload 0 (x_g1 106 530 (x_iload 5 (x_iaload (x_iload 1 (x_if_icmp .gt 60 K (x_iload 4 (x_aload 0 (x_g1 106 529 (x_iload 5 (x_iaload (x_iadd (x_istore 4 (x_iinc 5 1 (x_goto 6 K)))))))))))))))))))))))))))))) := ((xe_iload 5).trans (congrArg (x_iload 5) ((xe_aload 0).trans (congrArg (x_aload 0) ((xe_g0 (kk := 106) rfl tl_6_6).trans (congrArg (x_g0 106 6 0 50) ((xe_if_icmp .ge 66).trans (congrArg (x_if_icmp .ge 66 K) ((xe_aload 0).trans (congrArg (x_aload 0) ((xe_g1 (kk := 106) rfl tl_6_7).trans (congrArg (x_g1 106 527) ((xe_iload 5).trans (congrArg (x_iload 5) ((xe_iaload).trans (congrArg (x_iaload) ((xe_iload 2).trans (congrArg (x_iload 2) ((xe_if_icmp .ne 60).trans (congrArg (x_if_icmp .ne 60 K) ((xe_aload 0).trans (congrArg (x_aload 0) ((xe_g1 (kk := 106) rfl tl_6_8).trans (congrArg (x_g1 106 528) ((xe_iload 5).trans (congrArg (x_iload 5) ((xe_iaload).trans (congrArg (x_iaload) ((xe_iload 3).trans (congrArg (x_iload 3) ((xe_if_icmp .ne 60).trans (congrArg (x_if_icmp .ne 60 K) ((xe_aload 0).trans (congrArg (x_aload 0) ((xe_g1 (kk := 106) rfl tl_6_10).trans (congrArg (x_g1 106 530) ((xe_iload 5).trans (congrArg (x_iload 5) ((xe_iaload).trans (congrArg (x_iaload) ((xe_iload 1).trans (congrArg (x_iload 1) ((xe_if_icmp .gt 60).trans (congrArg (x_if_icmp .gt 60 K) ((xe_iload 4).trans (congrArg (x_iload 4) ((xe_aload 0).trans (congrArg (x_aload 0) ((xe_g1 (kk := 106) rfl tl_6_9).trans (congrArg (x_g1 106 529) ((xe_iload 5).trans (congrArg (x_iload 5) ((xe_iaload).trans (congrArg (x_iaload) ((xe_iadd).trans (congrArg (x_iadd) ((xe_istore 4).trans (congrArg (x_istore 4) ((xe_iinc 5 1).trans (congrArg (x_iinc 5 1) (xe_goto 6)))))))))))))))))))))))))))))))))))))))))))))))))))))))))))))
theorem bk_X6_deductedUpTo_e_66 : ck_ fX6 (some .int) cX6_deductedUpTo 66 [.iload 4, .ireturn] 69 = true := qck_r (nn_ _) (by decide +kernel)
theorem bs_X6_deductedUpTo_e_66 {P : Zt → Option Zv → Prop} (K : Int → Zl → List Zv → Zt → Prop) : sx_ K P [.iload 4, .ireturn] 69 = x_iload 4 (x_ireturn P) := ((xe_iload 4).trans (congrArg (x_iload 4) (xe_ireturn)))
theorem bk_X6_deductedUpTo_e_60 : ck_ fX6 (some .int) cX6_deductedUpTo 60 [.iinc 5 1, .goto 6] 66 = true := qck_r (nn_ _) (by decide +kernel)
theorem bs_X6_deductedUpTo_e_60 {P : Zt → Option Zv → Prop} (K : Int → Zl → List Zv → Zt → Prop) : sx_ K P [.iinc 5 1, .goto 6] 66 = x_iinc 5 1 (x_goto 6 K) := ((xe_iinc 5 1).trans (congrArg (x_iinc 5 1) (xe_goto 6)))
theorem bk_X6_deductedUpTo_e_0 : ck_ fX6 (some .int) cX6_deductedUpTo 0 [.iconst 0, .istore 4, .iconst 0, .istore 5] 6 = true := qck_r (nn_ _) (by decide +kernel)
theorem bs_X6_deductedUpTo_e_0 {P : Zt → Option Zv → Prop} (K : Int → Zl → List Zv → Zt → Prop) : sx_ K P [.iconst 0, .istore 4, .iconst 0, .istore 5] 6 = x_iconst 0 (x_istore 4 (x_iconst 0 (x_istore 5 (K 6)))) := ((xe_iconst 0).trans (congrArg (x_iconst 0) ((xe_istore 4).trans (congrArg (x_istore 4) ((xe_iconst 0).trans (congrArg (x_iconst 0) ((xe_istore 5).trans (congrArg (x_istore 5) xe_nil))))))))
abbrev po_X6_deductedUpTo_e (T : Zt) (d c cl : Int) : Zt → Option Zv → Prop := fun T' r => T = T' ∧ ∃ x : Int, r = some (vI x) ∧ ((0 ≤ x ∧ x ≤ 4950) ∧ x = dh9_ T c d cl (T 106 0 6).toNat)
set_option maxHeartbeats 4000000 in
theorem ct_X6_deductedUpTo_e {T : Zt} {d c cl : Int} : Ct_ yX6_deductedUpTo zX6_deductedUpTo T [vR 106 0, vI d, vI c, vI cl] (po_X6_deductedUpTo_e T d c cl) := by
  refine ct_of pn_6 rfl rfl (Nat.le_of_ble_eq_true rfl) (fun hT hav => ?_)
  have hr_d : -2147483648 ≤ d ∧ d ≤ 2147483647 := hav (vI d) (List.mem_cons_of_mem _ List.mem_cons_self)
  have hr_c : -2147483648 ≤ c ∧ c ≤ 2147483647 := hav (vI c) (List.mem_cons_of_mem _ (List.mem_cons_of_mem _ List.mem_cons_self))
  have hr_cl : -2147483648 ≤ cl ∧ cl ≤ 2147483647 := hav (vI cl) (List.mem_cons_of_mem _ (List.mem_cons_of_mem _ (List.mem_cons_of_mem _ List.mem_cons_self)))
  have hz : zX6_deductedUpTo.2.2.2.1 = some .boolean → ∀ (T' : Zt) (x : Int), po_X6_deductedUpTo_e T d c cl T' (some (vI x)) → 0 ≤ x ∧ x ≤ 1 := fun h => by cases h
  have hb_deductions : 0 ≤ T 106 0 6 ∧ T 106 0 6 ≤ 50 := bd_f hT 106 6 tl_6_6 0
  show J_ zX6_deductedUpTo T (po_X6_deductedUpTo_e T d c cl) 0 0 0 [some (vR 106 0), some (vI d), some (vI c), some (vI cl), none, none] [] T
  have c_6 : ∀ (nn : Nat) (u : Int) (i : Int), ((50 - i).toNat) ≤ nn → (0 ≤ i ∧ i ≤ 50 ∧ 0 ≤ u ∧ u ≤ 99 * i ∧ i ≤ T 106 0 6) → (u = dh9_ T c d cl i.toNat) → J_ zX6_deductedUpTo T (po_X6_deductedUpTo_e T d c cl) 0 0 6 [some (vR 106 0), some (vI d), some (vI c), some (vI cl), some (vI u), some (vI i)] [] T := by
    intro nn
    induction nn using Nat.strongRecOn with
    | _ nn ih_6 =>
      intro u i hm_6 i1 i2
      replace hm_6 := fun (_ : Unit) => hm_6
      refine j_blx (F := fX6) tb_X6 (nn_ _) bk_X6_deductedUpTo_e_6 bs_X6_deductedUpTo_e_6 hz (fun K hK => ?_)
      intro b1 b1b
      refine And.intro (fun c2 => ?_) (fun c2 => ?_)
      · refine hK 66 _ [] T ?_
        refine j_blx (F := fX6) tb_X6 (nn_ _) bk_X6_deductedUpTo_e_66 bs_X6_deductedUpTo_e_66 hz (fun K hK => ?_)
        refine (show po_X6_deductedUpTo_e T d c cl T (some (vI u)) from ?_)
        exact ⟨rfl, _, rfl, by omega, by rw [show T 106 0 6 = i by omega]; exact i2⟩
      · refine ix_i (by omega) ?_
        intro b3 b3b
        refine And.intro (fun c4 => ?_) (fun c4 => ?_)
        · refine hK 60 _ [] T ?_
          refine j_blx (F := fX6) tb_X6 (nn_ _) bk_X6_deductedUpTo_e_60 bs_X6_deductedUpTo_e_60 hz (fun K hK => ?_)
          refine rg_i (by omega) ?_
          refine hK 6 [some (vR 106 0), some (vI d), some (vI c), some (vI cl), some (vI u), some (vI (i + 1))] [] T ?_
          refine ih_6 _ ?_ u (i + 1) (Nat.le_refl _) ?_ ?_
          · have hm_6 := hm_6 (); omega
          · omega
          · first
            | (rw [dh_t (by omega) (by omega)]; omega)
            | (rw [dh_f (by omega) (by omega)]; omega)
        · refine ix_i (by omega) ?_
          intro b5 b5b
          refine And.intro (fun c6 => ?_) (fun c6 => ?_)
          · refine hK 60 [some (vR 106 0), some (vI d), some (vI c), some (vI cl), some (vI u), some (vI i)] [] T ?_
            refine j_blx (F := fX6) tb_X6 (nn_ _) bk_X6_deductedUpTo_e_60 bs_X6_deductedUpTo_e_60 hz (fun K hK => ?_)
            refine rg_i (by omega) ?_
            refine hK 6 [some (vR 106 0), some (vI d), some (vI c), some (vI cl), some (vI u), some (vI (i + 1))] [] T ?_
            refine ih_6 _ ?_ u (i + 1) (Nat.le_refl _) ?_ ?_
            · have hm_6 := hm_6 (); omega
            · omega
            · first
              | (rw [dh_t (by omega) (by omega)]; omega)
              | (rw [dh_f (by omega) (by omega)]; omega)
          · refine ix_i (by omega) ?_
            intro b7 b7b
            refine And.intro (fun c8 => ?_) (fun c8 => ?_)
            · refine hK 60 [some (vR 106 0), some (vI d), some (vI c), some (vI cl), some (vI u), some (vI i)] [] T ?_
              refine j_blx (F := fX6) tb_X6 (nn_ _) bk_X6_deductedUpTo_e_60 bs_X6_deductedUpTo_e_60 hz (fun K hK => ?_)
              refine rg_i (by omega) ?_
              refine hK 6 [some (vR 106 0), some (vI d), some (vI c), some (vI cl), some (vI u), some (vI (i + 1))] [] T ?_
              refine ih_6 _ ?_ u (i + 1) (Nat.le_refl _) ?_ ?_
              · have hm_6 := hm_6 (); omega
              · omega
              · first
                | (rw [dh_t (by omega) (by omega)]; omega)
                | (rw [dh_f (by omega) (by omega)]; omega)
            · refine ix_i (by omega) ?_
              intro b9 b9b
              refine rg_i (by omega) ?_
              refine rg_i (by omega) ?_
              refine hK 6 [some (vR 106 0), some (vI d), some (vI c), some (vI cl), some (vI (u + (T 529 0 i))), some (vI (i + 1))] [] T ?_
              refine ih_6 _ ?_ (u + (T 529 0 i)) (i + 1) (Nat.le_refl _) ?_ ?_
              · have hm_6 := hm_6 (); omega
              · omega
              · first
                | (rw [dh_t (by omega) (by omega)]; omega)
                | (rw [dh_f (by omega) (by omega)]; omega)
  refine j_blx (F := fX6) tb_X6 (nn_ _) bk_X6_deductedUpTo_e_0 bs_X6_deductedUpTo_e_0 hz (fun K hK => ?_)
  refine hK 6 [some (vR 106 0), some (vI d), some (vI c), some (vI cl), some (vI 0), some (vI 0)] [] T ?_
  refine c_6 _ 0 0 (Nat.le_refl _) ?_ ?_
  · omega
  · rfl
